set_option maxHeartbeats 4000000 in
set_option maxRecDepth 100000 in
/-- Circuit(): empty -/
theorem c_X0_init (l : Launch) (dC : Nat → ClassId) (dI : Nat → Nat → Nat) (h0 : Nat) (sz : Nat) : Met l yX0_init wsX0_init ({ frames := 1, cells := 11, slots := 1320, locals := 12 }) (va_Pc [.ref h0] (fun U => U.heap.size = sz ∧ va_P (dC, dI) vwCl [(h0, .inr (0, [.int 0, .int 0, .null, .null, .null, .null, .null, .null, .null, .null, .null, .null, .null]))] U.heap ∧ va_K (dC, dI) vwCl [] U ∧ va_D (fun _ => True) [(h0, .inr (0, [.int 0, .int 0, .null, .null, .null, .null, .null, .null, .null, .null, .null, .null, .null]))])) (va_Qv (fun (_ : Unit) => True) (fun (_ : Unit) (t : State) => ∃ (w2 : Nat), ∃ (w3 : Nat), ∃ (w4 : Nat), ∃ (w5 : Nat), ∃ (w6 : Nat), ∃ (w7 : Nat), ∃ (w8 : Nat), ∃ (w9 : Nat), ∃ (w10 : Nat), ∃ (w11 : Nat), ∃ (w12 : Nat), ∃ (yj : ClassId), va_P (dC, dI) vwCl [(h0, .inr (0, [.int 0, .int 0, .ref w2, .ref w3, .ref w4, .ref w5, .ref w6, .ref w7, .ref w8, .ref w9, .ref w10, .ref w11, .ref w12])), (w10, .inl (yj, 60, .inr (.inl (fun _ => 0))))] t.heap ∧ va_K (dC, dI) vwCl [(yj, .long)] t ∧ va_D (va_A [(h0, .inr (0, [.int 0, .int 0, .null, .null, .null, .null, .null, .null, .null, .null, .null, .null, .null]))] sz) [(h0, .inr (0, [.int 0, .int 0, .ref w2, .ref w3, .ref w4, .ref w5, .ref w6, .ref w7, .ref w8, .ref w9, .ref w10, .ref w11, .ref w12])), (w10, .inl (yj, 60, .inr (.inl (fun _ => 0))))]) (va_A [(h0, .inr (0, [.int 0, .int 0, .null, .null, .null, .null, .null, .null, .null, .null, .null, .null, .null]))] sz)) 11 1320 (va_A [(h0, .inr (0, [.int 0, .int 0, .null, .null, .null, .null, .null, .null, .null, .null, .null, .null, .null]))] sz) := by
  refine Met.ofW (cc := cX0_init) (maxL := 1) (ret := none) (by decide) rfl ?_
  intro p e s m args below meth c s₁ B hml hv
  obtain ⟨rfl, hsz, hP, hK, hD0⟩ := hv
  have hx := B.exec
  have hb := B.bytes
  have hr := B.returns
  have hts := atoms_spec (ws := wsX0_init) B.pre
  have hown : s.vm.findClass RX0 = some m.cls := findClass_of_methodNamed B.named
  have hlocks := B.notSynchronized
  have hin : meth.name = "<init>" := (name_of_methodNamed B.named B.method).1
  have inX0_ : ∀ w ∈ wsX00, w ∈ wsX0_init := fun _ h => List.mem_cons_of_mem _ (List.mem_append_right _ h)
  subst hsz
  have hD := hD0.self (sz := s.heap.size)
  generalize hAe : va_A [(h0, .inr (0, [.int 0, .int 0, .null, .null, .null, .null, .null, .null, .null, .null, .null, .null, .null]))] s.heap.size = A at hD ⊢
  have hA : ∀ q : Nat, s.heap.size ≤ q → A q := fun q h => by rw [← hAe]; exact Or.inr h
  have hS : va_S A s.heap s.heap [] := va_S.rf
  have hP : va_P (dC, dI) vwCl [(h0, .inr (0, [.int 0, .int 0, .null, .null, .null, .null, .null, .null, .null, .null, .null, .null, .null]))] s.heap := hP
  have hl := lv_entry ([.ref h0]) (n := 1) (Nat.le_of_ble_eq_true rfl)
  rw [lg_entry_eq]
  generalize (lg_sl ([.ref h0]) ++ List.replicate (1 - (lg_sl ([.ref h0])).length) Slot.unset).toArray = ls at hl ⊢
  have hl : lv_has ls 1 [(0, .ref h0)] := hl
  refine lv_aload_n hx hb dX0_init_0 rfl (lv_at hl 0 rfl) ?_
  refine W.objInit hx hb hown (hts (.methodLink RX0 3 objectInit) (List.mem_of_getElem? (i := 1) rfl)) (hts (.instanceMethod objectInit) (List.mem_of_getElem? (i := 2) rfl)) (hts _ (List.mem_of_getElem? (i := 3) rfl)) rfl (by rw [hml]; exact hl.1) rfl dX0_init_1 (Nat.le_of_ble_eq_true rfl) (Nat.le_of_ble_eq_true rfl) ?_
  refine W.eq (g2 := F0 m 4 ls []) rfl ?_
  refine lv_aload_n hx hb dX0_init_4 rfl (lv_at hl 0 rfl) ?_
  refine lv_bipush (v := 60) hx hb dX0_init_5 (by decide) ?_
  refine va_newa (atype := .long) (ty := .long) (N' := 60) (n := 60) (a0 := (60, .inr (.inl (fun _ => 0)))) hx hb (hts (.arrayClass .long) (List.mem_of_getElem? (i := 4) rfl)) rfl hK hP hD hS hA (fun _ => rfl) (by decide) (by decide) (by decide) (Nat.le_of_ble_eq_true rfl) (Nat.le_of_ble_eq_true rfl) dX0_init_7 (fun qx1 yx2 Hx3 hK hP hD hS => ?_)
  have hP : va_P (dC, dI) vwCl [(h0, .inr (0, [.int 0, .int 0, .null, .null, .null, .null, .null, .null, .null, .null, .null, .null, .null])), (qx1, .inl (yx2, 60, .inr (.inl (fun _ => 0))))] Hx3 := hP
  have hD : va_D A [(h0, .inr (0, [.int 0, .int 0, .null, .null, .null, .null, .null, .null, .null, .null, .null, .null, .null])), (qx1, .inl (yx2, 60, .inr (.inl (fun _ => 0))))] := hD
  have hK : va_K (dC, dI) vwCl [(yx2, .long)] s := hK
  refine W.widen (k := 1) (n := 60) (by omega) (by omega) ?_
  refine va_putF (D := (dC, dI)) (ci := 0) (v := .ref qx1) (ty := (.array .long)) (C := RX0) (T := TX0) (N := 13) hx hb hts inX0_ tyX0 tyX0_ok nmX0 hown hK hP hD hS 0 rfl rfl 2 (by decide) (hts (.fieldLink RX0 9 "GateWheel$Circuit" "names" "[J") (List.mem_of_getElem? (i := 5) rfl)) (fun _ h9 => h9) rfl hin rfl (by decide +kernel) rfl rfl (Nat.le_of_ble_eq_true rfl) dX0_init_9 (fun Hx4 locs hP hD hS => ?_)
  have hP : va_P (dC, dI) vwCl [(h0, .inr (0, [.int 0, .int 0, .ref qx1, .null, .null, .null, .null, .null, .null, .null, .null, .null, .null])), (qx1, .inl (yx2, 60, .inr (.inl (fun _ => 0))))] Hx4 := hP
  have hP := hP.sub (ws' := [(h0, .inr (0, [.int 0, .int 0, .ref qx1, .null, .null, .null, .null, .null, .null, .null, .null, .null, .null]))]) [0] rfl
  have hD := hD.sub (ws' := [(h0, .inr (0, [.int 0, .int 0, .ref qx1, .null, .null, .null, .null, .null, .null, .null, .null, .null, .null]))]) [0] (by decide) rfl
  have hK := hK.sub (tys' := []) [] rfl
  have hP : va_P (dC, dI) vwCl [(h0, .inr (0, [.int 0, .int 0, .ref qx1, .null, .null, .null, .null, .null, .null, .null, .null, .null, .null]))] Hx4 := hP
  have hD : va_D A [(h0, .inr (0, [.int 0, .int 0, .ref qx1, .null, .null, .null, .null, .null, .null, .null, .null, .null, .null]))] := hD
  refine lv_aload_n hx hb dX0_init_12 rfl (lv_at hl 0 rfl) ?_
  refine lv_bipush (v := 60) hx hb dX0_init_13 (by decide) ?_
  refine va_newa (atype := .int) (ty := .int) (N' := 60) (n := 60) (a0 := (60, .inl (fun _ => 0))) hx hb (hts (.arrayClass .int) (List.mem_of_getElem? (i := 6) rfl)) rfl hK hP hD hS hA (fun _ => rfl) (by decide) (by decide) (by decide) (Nat.le_of_ble_eq_true rfl) (Nat.le_of_ble_eq_true rfl) dX0_init_15 (fun qx5 yx6 Hx7 hK hP hD hS => ?_)
  have hP : va_P (dC, dI) vwCl [(h0, .inr (0, [.int 0, .int 0, .ref qx1, .null, .null, .null, .null, .null, .null, .null, .null, .null, .null])), (qx5, .inl (yx6, 60, .inl (fun _ => 0)))] Hx7 := hP
  have hD : va_D A [(h0, .inr (0, [.int 0, .int 0, .ref qx1, .null, .null, .null, .null, .null, .null, .null, .null, .null, .null])), (qx5, .inl (yx6, 60, .inl (fun _ => 0)))] := hD
  have hK : va_K (dC, dI) vwCl [(yx6, .int)] s := hK
  refine W.widen (k := 2) (n := 120) (by omega) (by omega) ?_
  refine va_putF (D := (dC, dI)) (ci := 0) (v := .ref qx5) (ty := (.array .int)) (C := RX0) (T := TX0) (N := 13) hx hb hts inX0_ tyX0 tyX0_ok nmX0 hown hK hP hD hS 0 rfl rfl 3 (by decide) (hts (.fieldLink RX0 15 "GateWheel$Circuit" "places" "[I") (List.mem_of_getElem? (i := 7) rfl)) (fun _ h9 => h9) rfl hin rfl (by decide +kernel) rfl rfl (Nat.le_of_ble_eq_true rfl) dX0_init_17 (fun Hx8 locs hP hD hS => ?_)
  have hP : va_P (dC, dI) vwCl [(h0, .inr (0, [.int 0, .int 0, .ref qx1, .ref qx5, .null, .null, .null, .null, .null, .null, .null, .null, .null])), (qx5, .inl (yx6, 60, .inl (fun _ => 0)))] Hx8 := hP
  have hP := hP.sub (ws' := [(h0, .inr (0, [.int 0, .int 0, .ref qx1, .ref qx5, .null, .null, .null, .null, .null, .null, .null, .null, .null]))]) [0] rfl
  have hD := hD.sub (ws' := [(h0, .inr (0, [.int 0, .int 0, .ref qx1, .ref qx5, .null, .null, .null, .null, .null, .null, .null, .null, .null]))]) [0] (by decide) rfl
  have hK := hK.sub (tys' := []) [] rfl
  have hP : va_P (dC, dI) vwCl [(h0, .inr (0, [.int 0, .int 0, .ref qx1, .ref qx5, .null, .null, .null, .null, .null, .null, .null, .null, .null]))] Hx8 := hP
  have hD : va_D A [(h0, .inr (0, [.int 0, .int 0, .ref qx1, .ref qx5, .null, .null, .null, .null, .null, .null, .null, .null, .null]))] := hD
  refine lv_aload_n hx hb dX0_init_20 rfl (lv_at hl 0 rfl) ?_
  refine lv_bipush (v := 60) hx hb dX0_init_21 (by decide) ?_
  refine va_newa (atype := .int) (ty := .int) (N' := 60) (n := 60) (a0 := (60, .inl (fun _ => 0))) hx hb (hts (.arrayClass .int) (List.mem_of_getElem? (i := 6) rfl)) rfl hK hP hD hS hA (fun _ => rfl) (by decide) (by decide) (by decide) (Nat.le_of_ble_eq_true rfl) (Nat.le_of_ble_eq_true rfl) dX0_init_23 (fun qx9 yx10 Hx11 hK hP hD hS => ?_)
  have hP : va_P (dC, dI) vwCl [(h0, .inr (0, [.int 0, .int 0, .ref qx1, .ref qx5, .null, .null, .null, .null, .null, .null, .null, .null, .null])), (qx9, .inl (yx10, 60, .inl (fun _ => 0)))] Hx11 := hP
  have hD : va_D A [(h0, .inr (0, [.int 0, .int 0, .ref qx1, .ref qx5, .null, .null, .null, .null, .null, .null, .null, .null, .null])), (qx9, .inl (yx10, 60, .inl (fun _ => 0)))] := hD
  have hK : va_K (dC, dI) vwCl [(yx10, .int)] s := hK
  refine W.widen (k := 3) (n := 180) (by omega) (by omega) ?_
  refine va_putF (D := (dC, dI)) (ci := 0) (v := .ref qx9) (ty := (.array .int)) (C := RX0) (T := TX0) (N := 13) hx hb hts inX0_ tyX0 tyX0_ok nmX0 hown hK hP hD hS 0 rfl rfl 4 (by decide) (hts (.fieldLink RX0 19 "GateWheel$Circuit" "kinds" "[I") (List.mem_of_getElem? (i := 8) rfl)) (fun _ h9 => h9) rfl hin rfl (by decide +kernel) rfl rfl (Nat.le_of_ble_eq_true rfl) dX0_init_25 (fun Hx12 locs hP hD hS => ?_)
  have hP : va_P (dC, dI) vwCl [(h0, .inr (0, [.int 0, .int 0, .ref qx1, .ref qx5, .ref qx9, .null, .null, .null, .null, .null, .null, .null, .null])), (qx9, .inl (yx10, 60, .inl (fun _ => 0)))] Hx12 := hP
  have hP := hP.sub (ws' := [(h0, .inr (0, [.int 0, .int 0, .ref qx1, .ref qx5, .ref qx9, .null, .null, .null, .null, .null, .null, .null, .null]))]) [0] rfl
  have hD := hD.sub (ws' := [(h0, .inr (0, [.int 0, .int 0, .ref qx1, .ref qx5, .ref qx9, .null, .null, .null, .null, .null, .null, .null, .null]))]) [0] (by decide) rfl
  have hK := hK.sub (tys' := []) [] rfl
  have hP : va_P (dC, dI) vwCl [(h0, .inr (0, [.int 0, .int 0, .ref qx1, .ref qx5, .ref qx9, .null, .null, .null, .null, .null, .null, .null, .null]))] Hx12 := hP
  have hD : va_D A [(h0, .inr (0, [.int 0, .int 0, .ref qx1, .ref qx5, .ref qx9, .null, .null, .null, .null, .null, .null, .null, .null]))] := hD
  refine lv_aload_n hx hb dX0_init_28 rfl (lv_at hl 0 rfl) ?_
  refine lv_bipush (v := 60) hx hb dX0_init_29 (by decide) ?_
  refine va_newa (atype := .int) (ty := .int) (N' := 60) (n := 60) (a0 := (60, .inl (fun _ => 0))) hx hb (hts (.arrayClass .int) (List.mem_of_getElem? (i := 6) rfl)) rfl hK hP hD hS hA (fun _ => rfl) (by decide) (by decide) (by decide) (Nat.le_of_ble_eq_true rfl) (Nat.le_of_ble_eq_true rfl) dX0_init_31 (fun qx13 yx14 Hx15 hK hP hD hS => ?_)
  have hP : va_P (dC, dI) vwCl [(h0, .inr (0, [.int 0, .int 0, .ref qx1, .ref qx5, .ref qx9, .null, .null, .null, .null, .null, .null, .null, .null])), (qx13, .inl (yx14, 60, .inl (fun _ => 0)))] Hx15 := hP
  have hD : va_D A [(h0, .inr (0, [.int 0, .int 0, .ref qx1, .ref qx5, .ref qx9, .null, .null, .null, .null, .null, .null, .null, .null])), (qx13, .inl (yx14, 60, .inl (fun _ => 0)))] := hD
  have hK : va_K (dC, dI) vwCl [(yx14, .int)] s := hK
  refine W.widen (k := 4) (n := 240) (by omega) (by omega) ?_
  refine va_putF (D := (dC, dI)) (ci := 0) (v := .ref qx13) (ty := (.array .int)) (C := RX0) (T := TX0) (N := 13) hx hb hts inX0_ tyX0 tyX0_ok nmX0 hown hK hP hD hS 0 rfl rfl 5 (by decide) (hts (.fieldLink RX0 22 "GateWheel$Circuit" "gates" "[I") (List.mem_of_getElem? (i := 9) rfl)) (fun _ h9 => h9) rfl hin rfl (by decide +kernel) rfl rfl (Nat.le_of_ble_eq_true rfl) dX0_init_33 (fun Hx16 locs hP hD hS => ?_)
  have hP : va_P (dC, dI) vwCl [(h0, .inr (0, [.int 0, .int 0, .ref qx1, .ref qx5, .ref qx9, .ref qx13, .null, .null, .null, .null, .null, .null, .null])), (qx13, .inl (yx14, 60, .inl (fun _ => 0)))] Hx16 := hP
  have hP := hP.sub (ws' := [(h0, .inr (0, [.int 0, .int 0, .ref qx1, .ref qx5, .ref qx9, .ref qx13, .null, .null, .null, .null, .null, .null, .null]))]) [0] rfl
  have hD := hD.sub (ws' := [(h0, .inr (0, [.int 0, .int 0, .ref qx1, .ref qx5, .ref qx9, .ref qx13, .null, .null, .null, .null, .null, .null, .null]))]) [0] (by decide) rfl
  have hK := hK.sub (tys' := []) [] rfl
  have hP : va_P (dC, dI) vwCl [(h0, .inr (0, [.int 0, .int 0, .ref qx1, .ref qx5, .ref qx9, .ref qx13, .null, .null, .null, .null, .null, .null, .null]))] Hx16 := hP
  have hD : va_D A [(h0, .inr (0, [.int 0, .int 0, .ref qx1, .ref qx5, .ref qx9, .ref qx13, .null, .null, .null, .null, .null, .null, .null]))] := hD
  refine lv_aload_n hx hb dX0_init_36 rfl (lv_at hl 0 rfl) ?_
  refine lv_bipush (v := 60) hx hb dX0_init_37 (by decide) ?_
  refine va_newa (atype := .int) (ty := .int) (N' := 60) (n := 60) (a0 := (60, .inl (fun _ => 0))) hx hb (hts (.arrayClass .int) (List.mem_of_getElem? (i := 6) rfl)) rfl hK hP hD hS hA (fun _ => rfl) (by decide) (by decide) (by decide) (Nat.le_of_ble_eq_true rfl) (Nat.le_of_ble_eq_true rfl) dX0_init_39 (fun qx17 yx18 Hx19 hK hP hD hS => ?_)
  have hP : va_P (dC, dI) vwCl [(h0, .inr (0, [.int 0, .int 0, .ref qx1, .ref qx5, .ref qx9, .ref qx13, .null, .null, .null, .null, .null, .null, .null])), (qx17, .inl (yx18, 60, .inl (fun _ => 0)))] Hx19 := hP
  have hD : va_D A [(h0, .inr (0, [.int 0, .int 0, .ref qx1, .ref qx5, .ref qx9, .ref qx13, .null, .null, .null, .null, .null, .null, .null])), (qx17, .inl (yx18, 60, .inl (fun _ => 0)))] := hD
  have hK : va_K (dC, dI) vwCl [(yx18, .int)] s := hK
  refine W.widen (k := 5) (n := 300) (by omega) (by omega) ?_
  refine va_putF (D := (dC, dI)) (ci := 0) (v := .ref qx17) (ty := (.array .int)) (C := RX0) (T := TX0) (N := 13) hx hb hts inX0_ tyX0 tyX0_ok nmX0 hown hK hP hD hS 0 rfl rfl 6 (by decide) (hts (.fieldLink RX0 25 "GateWheel$Circuit" "delays" "[I") (List.mem_of_getElem? (i := 10) rfl)) (fun _ h9 => h9) rfl hin rfl (by decide +kernel) rfl rfl (Nat.le_of_ble_eq_true rfl) dX0_init_41 (fun Hx20 locs hP hD hS => ?_)
  have hP : va_P (dC, dI) vwCl [(h0, .inr (0, [.int 0, .int 0, .ref qx1, .ref qx5, .ref qx9, .ref qx13, .ref qx17, .null, .null, .null, .null, .null, .null])), (qx17, .inl (yx18, 60, .inl (fun _ => 0)))] Hx20 := hP
  have hP := hP.sub (ws' := [(h0, .inr (0, [.int 0, .int 0, .ref qx1, .ref qx5, .ref qx9, .ref qx13, .ref qx17, .null, .null, .null, .null, .null, .null]))]) [0] rfl
  have hD := hD.sub (ws' := [(h0, .inr (0, [.int 0, .int 0, .ref qx1, .ref qx5, .ref qx9, .ref qx13, .ref qx17, .null, .null, .null, .null, .null, .null]))]) [0] (by decide) rfl
  have hK := hK.sub (tys' := []) [] rfl
  have hP : va_P (dC, dI) vwCl [(h0, .inr (0, [.int 0, .int 0, .ref qx1, .ref qx5, .ref qx9, .ref qx13, .ref qx17, .null, .null, .null, .null, .null, .null]))] Hx20 := hP
  have hD : va_D A [(h0, .inr (0, [.int 0, .int 0, .ref qx1, .ref qx5, .ref qx9, .ref qx13, .ref qx17, .null, .null, .null, .null, .null, .null]))] := hD
  refine lv_aload_n hx hb dX0_init_44 rfl (lv_at hl 0 rfl) ?_
  refine lv_sipush (v := 720) hx hb dX0_init_45 (by decide) ?_
  refine va_newa (atype := .int) (ty := .int) (N' := 720) (n := 720) (a0 := (720, .inl (fun _ => 0))) hx hb (hts (.arrayClass .int) (List.mem_of_getElem? (i := 6) rfl)) rfl hK hP hD hS hA (fun _ => rfl) (by decide) (by decide) (by decide) (Nat.le_of_ble_eq_true rfl) (Nat.le_of_ble_eq_true rfl) dX0_init_48 (fun qx21 yx22 Hx23 hK hP hD hS => ?_)
  have hP : va_P (dC, dI) vwCl [(h0, .inr (0, [.int 0, .int 0, .ref qx1, .ref qx5, .ref qx9, .ref qx13, .ref qx17, .null, .null, .null, .null, .null, .null])), (qx21, .inl (yx22, 720, .inl (fun _ => 0)))] Hx23 := hP
  have hD : va_D A [(h0, .inr (0, [.int 0, .int 0, .ref qx1, .ref qx5, .ref qx9, .ref qx13, .ref qx17, .null, .null, .null, .null, .null, .null])), (qx21, .inl (yx22, 720, .inl (fun _ => 0)))] := hD
  have hK : va_K (dC, dI) vwCl [(yx22, .int)] s := hK
  refine W.widen (k := 6) (n := 1020) (by omega) (by omega) ?_
  refine va_putF (D := (dC, dI)) (ci := 0) (v := .ref qx21) (ty := (.array .int)) (C := RX0) (T := TX0) (N := 13) hx hb hts inX0_ tyX0 tyX0_ok nmX0 hown hK hP hD hS 0 rfl rfl 7 (by decide) (hts (.fieldLink RX0 28 "GateWheel$Circuit" "parts" "[I") (List.mem_of_getElem? (i := 11) rfl)) (fun _ h9 => h9) rfl hin rfl (by decide +kernel) rfl rfl (Nat.le_of_ble_eq_true rfl) dX0_init_50 (fun Hx24 locs hP hD hS => ?_)
  have hP : va_P (dC, dI) vwCl [(h0, .inr (0, [.int 0, .int 0, .ref qx1, .ref qx5, .ref qx9, .ref qx13, .ref qx17, .ref qx21, .null, .null, .null, .null, .null])), (qx21, .inl (yx22, 720, .inl (fun _ => 0)))] Hx24 := hP
  have hP := hP.sub (ws' := [(h0, .inr (0, [.int 0, .int 0, .ref qx1, .ref qx5, .ref qx9, .ref qx13, .ref qx17, .ref qx21, .null, .null, .null, .null, .null]))]) [0] rfl
  have hD := hD.sub (ws' := [(h0, .inr (0, [.int 0, .int 0, .ref qx1, .ref qx5, .ref qx9, .ref qx13, .ref qx17, .ref qx21, .null, .null, .null, .null, .null]))]) [0] (by decide) rfl
  have hK := hK.sub (tys' := []) [] rfl
  have hP : va_P (dC, dI) vwCl [(h0, .inr (0, [.int 0, .int 0, .ref qx1, .ref qx5, .ref qx9, .ref qx13, .ref qx17, .ref qx21, .null, .null, .null, .null, .null]))] Hx24 := hP
  have hD : va_D A [(h0, .inr (0, [.int 0, .int 0, .ref qx1, .ref qx5, .ref qx9, .ref qx13, .ref qx17, .ref qx21, .null, .null, .null, .null, .null]))] := hD
  refine lv_aload_n hx hb dX0_init_53 rfl (lv_at hl 0 rfl) ?_
  refine lv_bipush (v := 60) hx hb dX0_init_54 (by decide) ?_
  refine va_newa (atype := .int) (ty := .int) (N' := 60) (n := 60) (a0 := (60, .inl (fun _ => 0))) hx hb (hts (.arrayClass .int) (List.mem_of_getElem? (i := 6) rfl)) rfl hK hP hD hS hA (fun _ => rfl) (by decide) (by decide) (by decide) (Nat.le_of_ble_eq_true rfl) (Nat.le_of_ble_eq_true rfl) dX0_init_56 (fun qx25 yx26 Hx27 hK hP hD hS => ?_)
  have hP : va_P (dC, dI) vwCl [(h0, .inr (0, [.int 0, .int 0, .ref qx1, .ref qx5, .ref qx9, .ref qx13, .ref qx17, .ref qx21, .null, .null, .null, .null, .null])), (qx25, .inl (yx26, 60, .inl (fun _ => 0)))] Hx27 := hP
  have hD : va_D A [(h0, .inr (0, [.int 0, .int 0, .ref qx1, .ref qx5, .ref qx9, .ref qx13, .ref qx17, .ref qx21, .null, .null, .null, .null, .null])), (qx25, .inl (yx26, 60, .inl (fun _ => 0)))] := hD
  have hK : va_K (dC, dI) vwCl [(yx26, .int)] s := hK
  refine W.widen (k := 7) (n := 1080) (by omega) (by omega) ?_
  refine va_putF (D := (dC, dI)) (ci := 0) (v := .ref qx25) (ty := (.array .int)) (C := RX0) (T := TX0) (N := 13) hx hb hts inX0_ tyX0 tyX0_ok nmX0 hown hK hP hD hS 0 rfl rfl 8 (by decide) (hts (.fieldLink RX0 31 "GateWheel$Circuit" "partCounts" "[I") (List.mem_of_getElem? (i := 12) rfl)) (fun _ h9 => h9) rfl hin rfl (by decide +kernel) rfl rfl (Nat.le_of_ble_eq_true rfl) dX0_init_58 (fun Hx28 locs hP hD hS => ?_)
  have hP : va_P (dC, dI) vwCl [(h0, .inr (0, [.int 0, .int 0, .ref qx1, .ref qx5, .ref qx9, .ref qx13, .ref qx17, .ref qx21, .ref qx25, .null, .null, .null, .null])), (qx25, .inl (yx26, 60, .inl (fun _ => 0)))] Hx28 := hP
  have hP := hP.sub (ws' := [(h0, .inr (0, [.int 0, .int 0, .ref qx1, .ref qx5, .ref qx9, .ref qx13, .ref qx17, .ref qx21, .ref qx25, .null, .null, .null, .null]))]) [0] rfl
  have hD := hD.sub (ws' := [(h0, .inr (0, [.int 0, .int 0, .ref qx1, .ref qx5, .ref qx9, .ref qx13, .ref qx17, .ref qx21, .ref qx25, .null, .null, .null, .null]))]) [0] (by decide) rfl
  have hK := hK.sub (tys' := []) [] rfl
  have hP : va_P (dC, dI) vwCl [(h0, .inr (0, [.int 0, .int 0, .ref qx1, .ref qx5, .ref qx9, .ref qx13, .ref qx17, .ref qx21, .ref qx25, .null, .null, .null, .null]))] Hx28 := hP
  have hD : va_D A [(h0, .inr (0, [.int 0, .int 0, .ref qx1, .ref qx5, .ref qx9, .ref qx13, .ref qx17, .ref qx21, .ref qx25, .null, .null, .null, .null]))] := hD
  refine lv_aload_n hx hb dX0_init_61 rfl (lv_at hl 0 rfl) ?_
  refine lv_bipush (v := 60) hx hb dX0_init_62 (by decide) ?_
  refine va_newa (atype := .int) (ty := .int) (N' := 60) (n := 60) (a0 := (60, .inl (fun _ => 0))) hx hb (hts (.arrayClass .int) (List.mem_of_getElem? (i := 6) rfl)) rfl hK hP hD hS hA (fun _ => rfl) (by decide) (by decide) (by decide) (Nat.le_of_ble_eq_true rfl) (Nat.le_of_ble_eq_true rfl) dX0_init_64 (fun qx29 yx30 Hx31 hK hP hD hS => ?_)
  have hP : va_P (dC, dI) vwCl [(h0, .inr (0, [.int 0, .int 0, .ref qx1, .ref qx5, .ref qx9, .ref qx13, .ref qx17, .ref qx21, .ref qx25, .null, .null, .null, .null])), (qx29, .inl (yx30, 60, .inl (fun _ => 0)))] Hx31 := hP
  have hD : va_D A [(h0, .inr (0, [.int 0, .int 0, .ref qx1, .ref qx5, .ref qx9, .ref qx13, .ref qx17, .ref qx21, .ref qx25, .null, .null, .null, .null])), (qx29, .inl (yx30, 60, .inl (fun _ => 0)))] := hD
  have hK : va_K (dC, dI) vwCl [(yx30, .int)] s := hK
  refine W.widen (k := 8) (n := 1140) (by omega) (by omega) ?_
  refine va_putF (D := (dC, dI)) (ci := 0) (v := .ref qx29) (ty := (.array .int)) (C := RX0) (T := TX0) (N := 13) hx hb hts inX0_ tyX0 tyX0_ok nmX0 hown hK hP hD hS 0 rfl rfl 9 (by decide) (hts (.fieldLink RX0 34 "GateWheel$Circuit" "lows" "[I") (List.mem_of_getElem? (i := 13) rfl)) (fun _ h9 => h9) rfl hin rfl (by decide +kernel) rfl rfl (Nat.le_of_ble_eq_true rfl) dX0_init_66 (fun Hx32 locs hP hD hS => ?_)
  have hP : va_P (dC, dI) vwCl [(h0, .inr (0, [.int 0, .int 0, .ref qx1, .ref qx5, .ref qx9, .ref qx13, .ref qx17, .ref qx21, .ref qx25, .ref qx29, .null, .null, .null])), (qx29, .inl (yx30, 60, .inl (fun _ => 0)))] Hx32 := hP
  have hP := hP.sub (ws' := [(h0, .inr (0, [.int 0, .int 0, .ref qx1, .ref qx5, .ref qx9, .ref qx13, .ref qx17, .ref qx21, .ref qx25, .ref qx29, .null, .null, .null]))]) [0] rfl
  have hD := hD.sub (ws' := [(h0, .inr (0, [.int 0, .int 0, .ref qx1, .ref qx5, .ref qx9, .ref qx13, .ref qx17, .ref qx21, .ref qx25, .ref qx29, .null, .null, .null]))]) [0] (by decide) rfl
  have hK := hK.sub (tys' := []) [] rfl
  have hP : va_P (dC, dI) vwCl [(h0, .inr (0, [.int 0, .int 0, .ref qx1, .ref qx5, .ref qx9, .ref qx13, .ref qx17, .ref qx21, .ref qx25, .ref qx29, .null, .null, .null]))] Hx32 := hP
  have hD : va_D A [(h0, .inr (0, [.int 0, .int 0, .ref qx1, .ref qx5, .ref qx9, .ref qx13, .ref qx17, .ref qx21, .ref qx25, .ref qx29, .null, .null, .null]))] := hD
  refine lv_aload_n hx hb dX0_init_69 rfl (lv_at hl 0 rfl) ?_
  refine lv_bipush (v := 60) hx hb dX0_init_70 (by decide) ?_
  refine va_newa (atype := .long) (ty := .long) (N' := 60) (n := 60) (a0 := (60, .inr (.inl (fun _ => 0)))) hx hb (hts (.arrayClass .long) (List.mem_of_getElem? (i := 4) rfl)) rfl hK hP hD hS hA (fun _ => rfl) (by decide) (by decide) (by decide) (Nat.le_of_ble_eq_true rfl) (Nat.le_of_ble_eq_true rfl) dX0_init_72 (fun qx33 yx34 Hx35 hK hP hD hS => ?_)
  have hP : va_P (dC, dI) vwCl [(h0, .inr (0, [.int 0, .int 0, .ref qx1, .ref qx5, .ref qx9, .ref qx13, .ref qx17, .ref qx21, .ref qx25, .ref qx29, .null, .null, .null])), (qx33, .inl (yx34, 60, .inr (.inl (fun _ => 0))))] Hx35 := hP
  have hD : va_D A [(h0, .inr (0, [.int 0, .int 0, .ref qx1, .ref qx5, .ref qx9, .ref qx13, .ref qx17, .ref qx21, .ref qx25, .ref qx29, .null, .null, .null])), (qx33, .inl (yx34, 60, .inr (.inl (fun _ => 0))))] := hD
  have hK : va_K (dC, dI) vwCl [(yx34, .long)] s := hK
  refine W.widen (k := 9) (n := 1200) (by omega) (by omega) ?_
  refine va_putF (D := (dC, dI)) (ci := 0) (v := .ref qx33) (ty := (.array .long)) (C := RX0) (T := TX0) (N := 13) hx hb hts inX0_ tyX0 tyX0_ok nmX0 hown hK hP hD hS 0 rfl rfl 10 (by decide) (hts (.fieldLink RX0 37 "GateWheel$Circuit" "hangs" "[J") (List.mem_of_getElem? (i := 14) rfl)) (fun _ h9 => h9) rfl hin rfl (by decide +kernel) rfl rfl (Nat.le_of_ble_eq_true rfl) dX0_init_74 (fun Hx36 locs hP hD hS => ?_)
  have hP : va_P (dC, dI) vwCl [(h0, .inr (0, [.int 0, .int 0, .ref qx1, .ref qx5, .ref qx9, .ref qx13, .ref qx17, .ref qx21, .ref qx25, .ref qx29, .ref qx33, .null, .null])), (qx33, .inl (yx34, 60, .inr (.inl (fun _ => 0))))] Hx36 := hP
  have hD : va_D A [(h0, .inr (0, [.int 0, .int 0, .ref qx1, .ref qx5, .ref qx9, .ref qx13, .ref qx17, .ref qx21, .ref qx25, .ref qx29, .ref qx33, .null, .null])), (qx33, .inl (yx34, 60, .inr (.inl (fun _ => 0))))] := hD
  refine lv_aload_n hx hb dX0_init_77 rfl (lv_at hl 0 rfl) ?_
  refine lv_bipush (v := 60) hx hb dX0_init_78 (by decide) ?_
  refine va_newa (atype := .int) (ty := .int) (N' := 60) (n := 60) (a0 := (60, .inl (fun _ => 0))) hx hb (hts (.arrayClass .int) (List.mem_of_getElem? (i := 6) rfl)) rfl hK hP hD hS hA (fun _ => rfl) (by decide) (by decide) (by decide) (Nat.le_of_ble_eq_true rfl) (Nat.le_of_ble_eq_true rfl) dX0_init_80 (fun qx37 yx38 Hx39 hK hP hD hS => ?_)
  have hP : va_P (dC, dI) vwCl [(h0, .inr (0, [.int 0, .int 0, .ref qx1, .ref qx5, .ref qx9, .ref qx13, .ref qx17, .ref qx21, .ref qx25, .ref qx29, .ref qx33, .null, .null])), (qx33, .inl (yx34, 60, .inr (.inl (fun _ => 0)))), (qx37, .inl (yx38, 60, .inl (fun _ => 0)))] Hx39 := hP
  have hD : va_D A [(h0, .inr (0, [.int 0, .int 0, .ref qx1, .ref qx5, .ref qx9, .ref qx13, .ref qx17, .ref qx21, .ref qx25, .ref qx29, .ref qx33, .null, .null])), (qx33, .inl (yx34, 60, .inr (.inl (fun _ => 0)))), (qx37, .inl (yx38, 60, .inl (fun _ => 0)))] := hD
  have hK : va_K (dC, dI) vwCl [(yx34, .long), (yx38, .int)] s := hK
  refine W.widen (k := 10) (n := 1260) (by omega) (by omega) ?_
  refine va_putF (D := (dC, dI)) (ci := 0) (v := .ref qx37) (ty := (.array .int)) (C := RX0) (T := TX0) (N := 13) hx hb hts inX0_ tyX0 tyX0_ok nmX0 hown hK hP hD hS 0 rfl rfl 11 (by decide) (hts (.fieldLink RX0 40 "GateWheel$Circuit" "levels" "[I") (List.mem_of_getElem? (i := 15) rfl)) (fun _ h9 => h9) rfl hin rfl (by decide +kernel) rfl rfl (Nat.le_of_ble_eq_true rfl) dX0_init_82 (fun Hx40 locs hP hD hS => ?_)
  have hP : va_P (dC, dI) vwCl [(h0, .inr (0, [.int 0, .int 0, .ref qx1, .ref qx5, .ref qx9, .ref qx13, .ref qx17, .ref qx21, .ref qx25, .ref qx29, .ref qx33, .ref qx37, .null])), (qx33, .inl (yx34, 60, .inr (.inl (fun _ => 0)))), (qx37, .inl (yx38, 60, .inl (fun _ => 0)))] Hx40 := hP
  have hP := hP.sub (ws' := [(h0, .inr (0, [.int 0, .int 0, .ref qx1, .ref qx5, .ref qx9, .ref qx13, .ref qx17, .ref qx21, .ref qx25, .ref qx29, .ref qx33, .ref qx37, .null])), (qx33, .inl (yx34, 60, .inr (.inl (fun _ => 0))))]) [0, 1] rfl
  have hD := hD.sub (ws' := [(h0, .inr (0, [.int 0, .int 0, .ref qx1, .ref qx5, .ref qx9, .ref qx13, .ref qx17, .ref qx21, .ref qx25, .ref qx29, .ref qx33, .ref qx37, .null])), (qx33, .inl (yx34, 60, .inr (.inl (fun _ => 0))))]) [0, 1] (by decide) rfl
  have hK := hK.sub (tys' := [(yx34, .long)]) [0] rfl
  have hP : va_P (dC, dI) vwCl [(h0, .inr (0, [.int 0, .int 0, .ref qx1, .ref qx5, .ref qx9, .ref qx13, .ref qx17, .ref qx21, .ref qx25, .ref qx29, .ref qx33, .ref qx37, .null])), (qx33, .inl (yx34, 60, .inr (.inl (fun _ => 0))))] Hx40 := hP
  have hD : va_D A [(h0, .inr (0, [.int 0, .int 0, .ref qx1, .ref qx5, .ref qx9, .ref qx13, .ref qx17, .ref qx21, .ref qx25, .ref qx29, .ref qx33, .ref qx37, .null])), (qx33, .inl (yx34, 60, .inr (.inl (fun _ => 0))))] := hD
  refine lv_aload_n hx hb dX0_init_85 rfl (lv_at hl 0 rfl) ?_
  refine lv_bipush (v := 60) hx hb dX0_init_86 (by decide) ?_
  refine va_newa (atype := .int) (ty := .int) (N' := 60) (n := 60) (a0 := (60, .inl (fun _ => 0))) hx hb (hts (.arrayClass .int) (List.mem_of_getElem? (i := 6) rfl)) rfl hK hP hD hS hA (fun _ => rfl) (by decide) (by decide) (by decide) (Nat.le_of_ble_eq_true rfl) (Nat.le_of_ble_eq_true rfl) dX0_init_88 (fun qx41 yx42 Hx43 hK hP hD hS => ?_)
  have hP : va_P (dC, dI) vwCl [(h0, .inr (0, [.int 0, .int 0, .ref qx1, .ref qx5, .ref qx9, .ref qx13, .ref qx17, .ref qx21, .ref qx25, .ref qx29, .ref qx33, .ref qx37, .null])), (qx33, .inl (yx34, 60, .inr (.inl (fun _ => 0)))), (qx41, .inl (yx42, 60, .inl (fun _ => 0)))] Hx43 := hP
  have hD : va_D A [(h0, .inr (0, [.int 0, .int 0, .ref qx1, .ref qx5, .ref qx9, .ref qx13, .ref qx17, .ref qx21, .ref qx25, .ref qx29, .ref qx33, .ref qx37, .null])), (qx33, .inl (yx34, 60, .inr (.inl (fun _ => 0)))), (qx41, .inl (yx42, 60, .inl (fun _ => 0)))] := hD
  have hK : va_K (dC, dI) vwCl [(yx34, .long), (yx42, .int)] s := hK
  refine W.widen (k := 11) (n := 1320) (by omega) (by omega) ?_
  refine va_putF (D := (dC, dI)) (ci := 0) (v := .ref qx41) (ty := (.array .int)) (C := RX0) (T := TX0) (N := 13) hx hb hts inX0_ tyX0 tyX0_ok nmX0 hown hK hP hD hS 0 rfl rfl 12 (by decide) (hts (.fieldLink RX0 43 "GateWheel$Circuit" "order" "[I") (List.mem_of_getElem? (i := 16) rfl)) (fun _ h9 => h9) rfl hin rfl (by decide +kernel) rfl rfl (Nat.le_of_ble_eq_true rfl) dX0_init_90 (fun Hx44 locs hP hD hS => ?_)
  have hP : va_P (dC, dI) vwCl [(h0, .inr (0, [.int 0, .int 0, .ref qx1, .ref qx5, .ref qx9, .ref qx13, .ref qx17, .ref qx21, .ref qx25, .ref qx29, .ref qx33, .ref qx37, .ref qx41])), (qx33, .inl (yx34, 60, .inr (.inl (fun _ => 0)))), (qx41, .inl (yx42, 60, .inl (fun _ => 0)))] Hx44 := hP
  have hP := hP.sub (ws' := [(h0, .inr (0, [.int 0, .int 0, .ref qx1, .ref qx5, .ref qx9, .ref qx13, .ref qx17, .ref qx21, .ref qx25, .ref qx29, .ref qx33, .ref qx37, .ref qx41])), (qx33, .inl (yx34, 60, .inr (.inl (fun _ => 0))))]) [0, 1] rfl
  have hD := hD.sub (ws' := [(h0, .inr (0, [.int 0, .int 0, .ref qx1, .ref qx5, .ref qx9, .ref qx13, .ref qx17, .ref qx21, .ref qx25, .ref qx29, .ref qx33, .ref qx37, .ref qx41])), (qx33, .inl (yx34, 60, .inr (.inl (fun _ => 0))))]) [0, 1] (by decide) rfl
  have hK := hK.sub (tys' := [(yx34, .long)]) [0] rfl
  have hP : va_P (dC, dI) vwCl [(h0, .inr (0, [.int 0, .int 0, .ref qx1, .ref qx5, .ref qx9, .ref qx13, .ref qx17, .ref qx21, .ref qx25, .ref qx29, .ref qx33, .ref qx37, .ref qx41])), (qx33, .inl (yx34, 60, .inr (.inl (fun _ => 0))))] Hx44 := hP
  have hD : va_D A [(h0, .inr (0, [.int 0, .int 0, .ref qx1, .ref qx5, .ref qx9, .ref qx13, .ref qx17, .ref qx21, .ref qx25, .ref qx29, .ref qx33, .ref qx37, .ref qx41])), (qx33, .inl (yx34, 60, .inr (.inl (fun _ => 0))))] := hD
  have hP9 := hP.sub (ws' := [(h0, .inr (0, [.int 0, .int 0, .ref qx1, .ref qx5, .ref qx9, .ref qx13, .ref qx17, .ref qx21, .ref qx25, .ref qx29, .ref qx33, .ref qx37, .ref qx41])), (qx33, .inl (yx34, 60, .inr (.inl (fun _ => 0))))]) [0, 1] rfl
  have hD9 := hD.sub (ws' := [(h0, .inr (0, [.int 0, .int 0, .ref qx1, .ref qx5, .ref qx9, .ref qx13, .ref qx17, .ref qx21, .ref qx25, .ref qx29, .ref qx33, .ref qx37, .ref qx41])), (qx33, .inl (yx34, 60, .inr (.inl (fun _ => 0))))]) [0, 1] (by decide) rfl
  have hK9 := hK.sub (tys' := [(yx34, .long)]) [0] rfl
  exact W.vret hx hb hr (fun t ht hW => ⟨⟨(), rfl, trivial, qx1, qx5, qx9, qx13, qx17, qx21, qx25, qx29, qx33, qx37, qx41, yx34, by rw [ht]; exact hP9, va_K.moved hW.alike hK9, hD9⟩, hS.F ht⟩) hS.2.2 dX0_init_93

set_option maxHeartbeats 4000000 in
set_option maxRecDepth 100000 in
theorem c_X1_init (l : Launch) (dC : Nat → ClassId) (dI : Nat → Nat → Nat) (h0 : Nat) (sz : Nat) : Met l yX1_init wsX1_init ({ frames := 1, cells := 0, slots := 0, locals := 12 }) (va_Pc [.ref h0] (fun U => U.heap.size = sz ∧ va_P (dC, dI) vwCl [(h0, .inr (1, [.null, .int 0, .int 0, .int 0, .int 0, .long 0, .int 0]))] U.heap ∧ va_K (dC, dI) vwCl [] U ∧ va_D (fun _ => True) [(h0, .inr (1, [.null, .int 0, .int 0, .int 0, .int 0, .long 0, .int 0]))])) (va_Qv (fun (_ : Unit) => True) (fun (_ : Unit) (t : State) => va_P (dC, dI) vwCl [(h0, .inr (1, [.null, .int 0, .int 0, .int 0, .int 0, .long 0, .int 0]))] t.heap ∧ va_K (dC, dI) vwCl [] t ∧ va_D (va_A [(h0, .inr (1, [.null, .int 0, .int 0, .int 0, .int 0, .long 0, .int 0]))] sz) [(h0, .inr (1, [.null, .int 0, .int 0, .int 0, .int 0, .long 0, .int 0]))]) (va_A [(h0, .inr (1, [.null, .int 0, .int 0, .int 0, .int 0, .long 0, .int 0]))] sz)) 0 0 (va_A [(h0, .inr (1, [.null, .int 0, .int 0, .int 0, .int 0, .long 0, .int 0]))] sz) := by
  refine Met.ofW (cc := cX1_init) (maxL := 1) (ret := none) (by decide) rfl ?_
  intro p e s m args below meth c s₁ B hml hv
  obtain ⟨rfl, hsz, hP, hK, hD0⟩ := hv
  have hx := B.exec
  have hb := B.bytes
  have hr := B.returns
  have hts := atoms_spec (ws := wsX1_init) B.pre
  have hown : s.vm.findClass RX1 = some m.cls := findClass_of_methodNamed B.named
  have hlocks := B.notSynchronized
  have hin : meth.name = "<init>" := (name_of_methodNamed B.named B.method).1
  subst hsz
  have hD := hD0.self (sz := s.heap.size)
  generalize hAe : va_A [(h0, .inr (1, [.null, .int 0, .int 0, .int 0, .int 0, .long 0, .int 0]))] s.heap.size = A at hD ⊢
  have hA : ∀ q : Nat, s.heap.size ≤ q → A q := fun q h => by rw [← hAe]; exact Or.inr h
  have hS : va_S A s.heap s.heap [] := va_S.rf
  have hP : va_P (dC, dI) vwCl [(h0, .inr (1, [.null, .int 0, .int 0, .int 0, .int 0, .long 0, .int 0]))] s.heap := hP
  have hl := lv_entry ([.ref h0]) (n := 1) (Nat.le_of_ble_eq_true rfl)
  rw [lg_entry_eq]
  generalize (lg_sl ([.ref h0]) ++ List.replicate (1 - (lg_sl ([.ref h0])).length) Slot.unset).toArray = ls at hl ⊢
  have hl : lv_has ls 1 [(0, .ref h0)] := hl
  refine lv_aload_n hx hb dX1_init_0 rfl (lv_at hl 0 rfl) ?_
  refine W.objInit hx hb hown (hts (.methodLink RX1 1 objectInit) (List.mem_of_getElem? (i := 1) rfl)) (hts (.instanceMethod objectInit) (List.mem_of_getElem? (i := 2) rfl)) (hts _ (List.mem_of_getElem? (i := 3) rfl)) rfl (by rw [hml]; exact hl.1) rfl dX1_init_1 (Nat.le_of_ble_eq_true rfl) (Nat.le_of_ble_eq_true rfl) ?_
  refine W.eq (g2 := F0 m 4 ls []) rfl ?_
  have hP9 := hP.sub (ws' := [(h0, .inr (1, [.null, .int 0, .int 0, .int 0, .int 0, .long 0, .int 0]))]) [0] rfl
  have hD9 := hD.sub (ws' := [(h0, .inr (1, [.null, .int 0, .int 0, .int 0, .int 0, .long 0, .int 0]))]) [0] (by decide) rfl
  have hK9 := hK.sub (tys' := []) [] rfl
  exact W.vret hx hb hr (fun t ht hW => ⟨⟨(), rfl, trivial, by rw [ht]; exact hP9, va_K.moved hW.alike hK9, hD9⟩, hS.F ht⟩) hS.2.2 dX1_init_4

set_option maxHeartbeats 4000000 in
set_option maxRecDepth 100000 in
theorem c_X3_init (l : Launch) (dC : Nat → ClassId) (dI : Nat → Nat → Nat) (h0 : Nat) (sz : Nat) : Met l yX3_init wsX3_init ({ frames := 2, cells := 5, slots := 2068, locals := 32 }) (va_Pc [.ref h0] (fun U => U.heap.size = sz ∧ va_P (dC, dI) vwCl [(h0, .inr (2, [.int 0, .int 0, .null, .null, .int 0, .int 0, .long 0, .int 0, .int 0, .int 0, .int 0, .int 0, .null, .null, .null, .int 0, .null]))] U.heap ∧ va_K (dC, dI) vwCl [] U ∧ va_D (fun _ => True) [(h0, .inr (2, [.int 0, .int 0, .null, .null, .int 0, .int 0, .long 0, .int 0, .int 0, .int 0, .int 0, .int 0, .null, .null, .null, .int 0, .null]))] ∧ va_Nw (.methodLinkNest RX3 17 yX1_init "GateWheel") U)) (va_Qv (fun (_ : Unit) => True) (fun (_ : Unit) (t : State) => ∃ (w2 : Nat), ∃ (w12 : Nat), ∃ (w13 : Nat), ∃ (w14 : Nat), ∃ (w16 : Nat), ∃ (yj : ClassId), va_P (dC, dI) vwCl [(h0, .inr (2, [.int 0, .int (-1), .ref w2, .null, .int 0, .int 0, .long 0, .int 0, .int 0, .int 0, .int 0, .int 0, .ref w12, .ref w13, .ref w14, .int 0, .ref w16])), (w2, .inr (1, [.null, .int 0, .int 0, .int 0, .int 0, .long 0, .int 0])), (w16, .inl (yj, 60, .inr (.inl (fun _ => 0))))] t.heap ∧ va_K (dC, dI) vwCl [(yj, .long)] t ∧ va_D (va_A [(h0, .inr (2, [.int 0, .int 0, .null, .null, .int 0, .int 0, .long 0, .int 0, .int 0, .int 0, .int 0, .int 0, .null, .null, .null, .int 0, .null]))] sz) [(h0, .inr (2, [.int 0, .int (-1), .ref w2, .null, .int 0, .int 0, .long 0, .int 0, .int 0, .int 0, .int 0, .int 0, .ref w12, .ref w13, .ref w14, .int 0, .ref w16])), (w2, .inr (1, [.null, .int 0, .int 0, .int 0, .int 0, .long 0, .int 0])), (w16, .inl (yj, 60, .inr (.inl (fun _ => 0))))]) (va_A [(h0, .inr (2, [.int 0, .int 0, .null, .null, .int 0, .int 0, .long 0, .int 0, .int 0, .int 0, .int 0, .int 0, .null, .null, .null, .int 0, .null]))] sz)) 5 2068 (va_A [(h0, .inr (2, [.int 0, .int 0, .null, .null, .int 0, .int 0, .long 0, .int 0, .int 0, .int 0, .int 0, .int 0, .null, .null, .null, .int 0, .null]))] sz) := by
  refine Met.ofW (cc := cX3_init) (maxL := 1) (ret := none) (by decide) rfl ?_
  intro p e s m args below meth c s₁ B hml hv
  obtain ⟨rfl, hsz, hP, hK, hD0, nw_X3_17⟩ := hv
  have hx := B.exec
  have hb := B.bytes
  have hr := B.returns
  have hts := atoms_spec (ws := wsX3_init) B.pre
  have hown : s.vm.findClass RX3 = some m.cls := findClass_of_methodNamed B.named
  have hlocks := B.notSynchronized
  have hin : meth.name = "<init>" := (name_of_methodNamed B.named B.method).1
  have inX1_ : ∀ w ∈ wsX10, w ∈ wsX3_init := fun _ h => List.mem_cons_of_mem _ (List.mem_append_right _ h)
  have inX3_ : ∀ w ∈ wsX30, w ∈ wsX3_init := fun _ h => List.mem_cons_of_mem _ (List.mem_append_left _ (List.mem_append_right _ h))
  subst hsz
  have hD := hD0.self (sz := s.heap.size)
  generalize hAe : va_A [(h0, .inr (2, [.int 0, .int 0, .null, .null, .int 0, .int 0, .long 0, .int 0, .int 0, .int 0, .int 0, .int 0, .null, .null, .null, .int 0, .null]))] s.heap.size = A at hD ⊢
  have hA : ∀ q : Nat, s.heap.size ≤ q → A q := fun q h => by rw [← hAe]; exact Or.inr h
  have hS : va_S A s.heap s.heap [] := va_S.rf
  have hP : va_P (dC, dI) vwCl [(h0, .inr (2, [.int 0, .int 0, .null, .null, .int 0, .int 0, .long 0, .int 0, .int 0, .int 0, .int 0, .int 0, .null, .null, .null, .int 0, .null]))] s.heap := hP
  have hl := lv_entry ([.ref h0]) (n := 1) (Nat.le_of_ble_eq_true rfl)
  rw [lg_entry_eq]
  generalize (lg_sl ([.ref h0]) ++ List.replicate (1 - (lg_sl ([.ref h0])).length) Slot.unset).toArray = ls at hl ⊢
  have hl : lv_has ls 1 [(0, .ref h0)] := hl
  refine lv_aload_n hx hb dX3_init_0 rfl (lv_at hl 0 rfl) ?_
  refine W.objInit hx hb hown (hts (.methodLink RX3 3 objectInit) (List.mem_of_getElem? (i := 1) rfl)) (hts (.instanceMethod objectInit) (List.mem_of_getElem? (i := 2) rfl)) (hts _ (List.mem_of_getElem? (i := 3) rfl)) rfl (by rw [hml]; exact hl.1) rfl dX3_init_1 (Nat.le_of_ble_eq_true rfl) (Nat.le_of_ble_eq_true rfl) ?_
  refine W.eq (g2 := F0 m 4 ls []) rfl ?_
  refine lv_aload_n hx hb dX3_init_4 rfl (lv_at hl 0 rfl) ?_
  refine lv_iconst (v := (-1)) hx hb dX3_init_5 (by decide) ?_
  refine va_put (D := (dC, dI)) (ci := 2) (v := .int (-1)) (ty := .int) (C := RX3) (T := TX3) (N := 17) hx hb hts inX3_ tyX3 tyX3_ok nmX3 hown hK hP hD hS 0 rfl rfl 1 (by decide) (hts (.fieldLink RX3 9 "GateWheel$Reader" "faultPlace" "I") (List.mem_of_getElem? (i := 4) rfl)) (fun _ h9 => h9) rfl (by decide +kernel) rfl rfl (Nat.le_of_ble_eq_true rfl) dX3_init_6 (fun Hx1 locs hP hD hS => ?_)
  have hP : va_P (dC, dI) vwCl [(h0, .inr (2, [.int 0, .int (-1), .null, .null, .int 0, .int 0, .long 0, .int 0, .int 0, .int 0, .int 0, .int 0, .null, .null, .null, .int 0, .null]))] Hx1 := hP
  have hD : va_D A [(h0, .inr (2, [.int 0, .int (-1), .null, .null, .int 0, .int 0, .long 0, .int 0, .int 0, .int 0, .int 0, .int 0, .null, .null, .null, .int 0, .null]))] := hD
  refine lv_aload_n hx hb dX3_init_9 rfl (lv_at hl 0 rfl) ?_
  refine va_new (ci := 1) (fs := [.null, .int 0, .int 0, .int 0, .int 0, .long 0, .int 0]) (C := RX1) (T := TX1) (N := 7) hx hb hts inX1_ tyX1 tyX1_ok hown (hts (.classLink RX3 15 RX1) (List.mem_of_getElem? (i := 5) rfl)) (hts (.instantiable RX1 7) (List.mem_of_getElem? (i := 6) rfl)) (hts (.initialized RX1) (List.mem_of_getElem? (i := 7) rfl)) hK hP hD hS hA rfl (fun j hj => by rcases (show j = 0 ∨ j = 1 ∨ j = 2 ∨ j = 3 ∨ j = 4 ∨ j = 5 ∨ j = 6 by omega) with rfl | rfl | rfl | rfl | rfl | rfl | rfl <;> rfl) (Nat.le_of_ble_eq_true rfl) (Nat.le_of_ble_eq_true rfl) dX3_init_10 (fun qx2 Hx3 hP hD hS => ?_)
  have hP : va_P (dC, dI) vwCl [(h0, .inr (2, [.int 0, .int (-1), .null, .null, .int 0, .int 0, .long 0, .int 0, .int 0, .int 0, .int 0, .int 0, .null, .null, .null, .int 0, .null])), (qx2, .inr (1, [.null, .int 0, .int 0, .int 0, .int 0, .long 0, .int 0]))] Hx3 := hP
  have hD : va_D A [(h0, .inr (2, [.int 0, .int (-1), .null, .null, .int 0, .int 0, .long 0, .int 0, .int 0, .int 0, .int 0, .int 0, .null, .null, .null, .int 0, .null])), (qx2, .inr (1, [.null, .int 0, .int 0, .int 0, .int 0, .long 0, .int 0]))] := hD
  refine W.widen (k := 1) (n := 7) (by omega) (by omega) ?_
  refine lv_dup hx hb dX3_init_13 rfl ?_
  have hPc := hP.sub (ws' := [(qx2, .inr (1, [.null, .int 0, .int 0, .int 0, .int 0, .long 0, .int 0]))]) [1] rfl
  have hDc := hD.sub (ws' := [(qx2, .inr (1, [.null, .int 0, .int 0, .int 0, .int 0, .long 0, .int 0]))]) [1] (by decide) rfl
  have hKc := hK.sub (tys' := []) [] rfl
  have hFc := va_free (wc := [(qx2, .inr (1, [.null, .int 0, .int 0, .int 0, .int 0, .long 0, .int 0]))]) hD hS hA [1] rfl
  refine va_callv (va_runIN (As := []) (rest := [.ref qx2, .ref h0]) ⟨hx, hb, hml, hown, hts⟩ (c_X1_init l dC dI qx2 Hx3.size) ⟨va_cnB 0 hts gX3_init_X1_init_n17 rfl rfl rfl nw_X3_17 (hts (.initialized RX1) (List.mem_of_getElem? (i := 7) rfl)) (by decide +kernel) ⟨Nat.le_of_ble_eq_true rfl, Nat.le_of_ble_eq_true rfl⟩, rfl, (hts (.instanceMethod yX1_init) (List.mem_of_getElem? (i := 15) rfl))⟩ ⟨fun a U g mk q => by obtain ⟨q0, q1, qP, qK, qD⟩ := q; exact ⟨q0, q1, qP, va_K.moved (u := U) (U := U.calling g mk a) (Vm.Alike.refl U.vm) qK, qD⟩, fun U hU hW => ⟨rfl, by rw [hU], by rw [hU]; exact hPc, va_K.moved hW.alike hKc, hDc.weaken (fun _ _ _ _ => trivial)⟩⟩ rfl rfl hl.1 rfl (lv_room (Nat.le_of_ble_eq_true rfl)) dX3_init_14 ⟨Nat.le_of_ble_eq_true rfl, Nat.le_of_ble_eq_true rfl⟩) hS (fun q _ h => hFc q h) hFc (fun u t Hx4 locs ht hvm hw hB hz1 hk1 hS => ?_)
  obtain ⟨hP1, hK1, hD1⟩ := hB
  rw [ht] at hP1
  have hK1 := va_K.moved hvm.symm hK1
  obtain ⟨hP, hD⟩ := va_join (wr := [(h0, .inr (2, [.int 0, .int (-1), .null, .null, .int 0, .int 0, .long 0, .int 0, .int 0, .int 0, .int 0, .int 0, .null, .null, .null, .int 0, .null]))]) (w1 := [(qx2, .inr (1, [.null, .int 0, .int 0, .int 0, .int 0, .long 0, .int 0]))]) hP hD [1] [0] rfl rfl (by decide) (by decide) hk1 hFc hP1 hD1
  have hK := (hK.sub (tys' := []) [] rfl).app hK1
  have hP : va_P (dC, dI) vwCl [(h0, .inr (2, [.int 0, .int (-1), .null, .null, .int 0, .int 0, .long 0, .int 0, .int 0, .int 0, .int 0, .int 0, .null, .null, .null, .int 0, .null])), (qx2, .inr (1, [.null, .int 0, .int 0, .int 0, .int 0, .long 0, .int 0]))] Hx4 := hP
  have hD : va_D A [(h0, .inr (2, [.int 0, .int (-1), .null, .null, .int 0, .int 0, .long 0, .int 0, .int 0, .int 0, .int 0, .int 0, .null, .null, .null, .int 0, .null])), (qx2, .inr (1, [.null, .int 0, .int 0, .int 0, .int 0, .long 0, .int 0]))] := hD
  have hK : va_K (dC, dI) vwCl [] s := hK
  refine va_putF (D := (dC, dI)) (ci := 2) (v := .ref qx2) (ty := (.object "GateWheel$Lexer")) (C := RX3) (T := TX3) (N := 17) hx hb hts inX3_ tyX3 tyX3_ok nmX3 hown hK hP hD hS 0 rfl rfl 2 (by decide) (hts (.fieldLink RX3 18 "GateWheel$Reader" "lexer" "LGateWheel$Lexer;") (List.mem_of_getElem? (i := 8) rfl)) (fun _ h9 => h9) rfl hin rfl (by decide +kernel) rfl rfl (Nat.le_of_ble_eq_true rfl) dX3_init_17 (fun Hx6 locs hP hD hS => ?_)
  have hP : va_P (dC, dI) vwCl [(h0, .inr (2, [.int 0, .int (-1), .ref qx2, .null, .int 0, .int 0, .long 0, .int 0, .int 0, .int 0, .int 0, .int 0, .null, .null, .null, .int 0, .null])), (qx2, .inr (1, [.null, .int 0, .int 0, .int 0, .int 0, .long 0, .int 0]))] Hx6 := hP
  have hD : va_D A [(h0, .inr (2, [.int 0, .int (-1), .ref qx2, .null, .int 0, .int 0, .long 0, .int 0, .int 0, .int 0, .int 0, .int 0, .null, .null, .null, .int 0, .null])), (qx2, .inr (1, [.null, .int 0, .int 0, .int 0, .int 0, .long 0, .int 0]))] := hD
  refine lv_aload_n hx hb dX3_init_20 rfl (lv_at hl 0 rfl) ?_
  refine lv_sipush (v := 667) hx hb dX3_init_21 (by decide) ?_
  refine va_newa (atype := .long) (ty := .long) (N' := 667) (n := 667) (a0 := (667, .inr (.inl (fun _ => 0)))) hx hb (hts (.arrayClass .long) (List.mem_of_getElem? (i := 9) rfl)) rfl hK hP hD hS hA (fun _ => rfl) (by decide) (by decide) (by decide) (Nat.le_of_ble_eq_true rfl) (Nat.le_of_ble_eq_true rfl) dX3_init_24 (fun qx7 yx8 Hx9 hK hP hD hS => ?_)
  have hP : va_P (dC, dI) vwCl [(h0, .inr (2, [.int 0, .int (-1), .ref qx2, .null, .int 0, .int 0, .long 0, .int 0, .int 0, .int 0, .int 0, .int 0, .null, .null, .null, .int 0, .null])), (qx2, .inr (1, [.null, .int 0, .int 0, .int 0, .int 0, .long 0, .int 0])), (qx7, .inl (yx8, 667, .inr (.inl (fun _ => 0))))] Hx9 := hP
  have hD : va_D A [(h0, .inr (2, [.int 0, .int (-1), .ref qx2, .null, .int 0, .int 0, .long 0, .int 0, .int 0, .int 0, .int 0, .int 0, .null, .null, .null, .int 0, .null])), (qx2, .inr (1, [.null, .int 0, .int 0, .int 0, .int 0, .long 0, .int 0])), (qx7, .inl (yx8, 667, .inr (.inl (fun _ => 0))))] := hD
  have hK : va_K (dC, dI) vwCl [(yx8, .long)] s := hK
  refine W.widen (k := 2) (n := 674) (by omega) (by omega) ?_
  refine va_putF (D := (dC, dI)) (ci := 2) (v := .ref qx7) (ty := (.array .long)) (C := RX3) (T := TX3) (N := 17) hx hb hts inX3_ tyX3 tyX3_ok nmX3 hown hK hP hD hS 0 rfl rfl 12 (by decide) (hts (.fieldLink RX3 22 "GateWheel$Reader" "useNames" "[J") (List.mem_of_getElem? (i := 10) rfl)) (fun _ h9 => h9) rfl hin rfl (by decide +kernel) rfl rfl (Nat.le_of_ble_eq_true rfl) dX3_init_26 (fun Hx10 locs hP hD hS => ?_)
  have hP : va_P (dC, dI) vwCl [(h0, .inr (2, [.int 0, .int (-1), .ref qx2, .null, .int 0, .int 0, .long 0, .int 0, .int 0, .int 0, .int 0, .int 0, .ref qx7, .null, .null, .int 0, .null])), (qx2, .inr (1, [.null, .int 0, .int 0, .int 0, .int 0, .long 0, .int 0])), (qx7, .inl (yx8, 667, .inr (.inl (fun _ => 0))))] Hx10 := hP
  have hP := hP.sub (ws' := [(h0, .inr (2, [.int 0, .int (-1), .ref qx2, .null, .int 0, .int 0, .long 0, .int 0, .int 0, .int 0, .int 0, .int 0, .ref qx7, .null, .null, .int 0, .null])), (qx2, .inr (1, [.null, .int 0, .int 0, .int 0, .int 0, .long 0, .int 0]))]) [0, 1] rfl
  have hD := hD.sub (ws' := [(h0, .inr (2, [.int 0, .int (-1), .ref qx2, .null, .int 0, .int 0, .long 0, .int 0, .int 0, .int 0, .int 0, .int 0, .ref qx7, .null, .null, .int 0, .null])), (qx2, .inr (1, [.null, .int 0, .int 0, .int 0, .int 0, .long 0, .int 0]))]) [0, 1] (by decide) rfl
  have hK := hK.sub (tys' := []) [] rfl
  have hP : va_P (dC, dI) vwCl [(h0, .inr (2, [.int 0, .int (-1), .ref qx2, .null, .int 0, .int 0, .long 0, .int 0, .int 0, .int 0, .int 0, .int 0, .ref qx7, .null, .null, .int 0, .null])), (qx2, .inr (1, [.null, .int 0, .int 0, .int 0, .int 0, .long 0, .int 0]))] Hx10 := hP
  have hD : va_D A [(h0, .inr (2, [.int 0, .int (-1), .ref qx2, .null, .int 0, .int 0, .long 0, .int 0, .int 0, .int 0, .int 0, .int 0, .ref qx7, .null, .null, .int 0, .null])), (qx2, .inr (1, [.null, .int 0, .int 0, .int 0, .int 0, .long 0, .int 0]))] := hD
  refine lv_aload_n hx hb dX3_init_29 rfl (lv_at hl 0 rfl) ?_
  refine lv_sipush (v := 667) hx hb dX3_init_30 (by decide) ?_
  refine va_newa (atype := .int) (ty := .int) (N' := 667) (n := 667) (a0 := (667, .inl (fun _ => 0))) hx hb (hts (.arrayClass .int) (List.mem_of_getElem? (i := 11) rfl)) rfl hK hP hD hS hA (fun _ => rfl) (by decide) (by decide) (by decide) (Nat.le_of_ble_eq_true rfl) (Nat.le_of_ble_eq_true rfl) dX3_init_33 (fun qx11 yx12 Hx13 hK hP hD hS => ?_)
  have hP : va_P (dC, dI) vwCl [(h0, .inr (2, [.int 0, .int (-1), .ref qx2, .null, .int 0, .int 0, .long 0, .int 0, .int 0, .int 0, .int 0, .int 0, .ref qx7, .null, .null, .int 0, .null])), (qx2, .inr (1, [.null, .int 0, .int 0, .int 0, .int 0, .long 0, .int 0])), (qx11, .inl (yx12, 667, .inl (fun _ => 0)))] Hx13 := hP
  have hD : va_D A [(h0, .inr (2, [.int 0, .int (-1), .ref qx2, .null, .int 0, .int 0, .long 0, .int 0, .int 0, .int 0, .int 0, .int 0, .ref qx7, .null, .null, .int 0, .null])), (qx2, .inr (1, [.null, .int 0, .int 0, .int 0, .int 0, .long 0, .int 0])), (qx11, .inl (yx12, 667, .inl (fun _ => 0)))] := hD
  have hK : va_K (dC, dI) vwCl [(yx12, .int)] s := hK
  refine W.widen (k := 3) (n := 1341) (by omega) (by omega) ?_
  refine va_putF (D := (dC, dI)) (ci := 2) (v := .ref qx11) (ty := (.array .int)) (C := RX3) (T := TX3) (N := 17) hx hb hts inX3_ tyX3 tyX3_ok nmX3 hown hK hP hD hS 0 rfl rfl 13 (by decide) (hts (.fieldLink RX3 26 "GateWheel$Reader" "usePlaces" "[I") (List.mem_of_getElem? (i := 12) rfl)) (fun _ h9 => h9) rfl hin rfl (by decide +kernel) rfl rfl (Nat.le_of_ble_eq_true rfl) dX3_init_35 (fun Hx14 locs hP hD hS => ?_)
  have hP : va_P (dC, dI) vwCl [(h0, .inr (2, [.int 0, .int (-1), .ref qx2, .null, .int 0, .int 0, .long 0, .int 0, .int 0, .int 0, .int 0, .int 0, .ref qx7, .ref qx11, .null, .int 0, .null])), (qx2, .inr (1, [.null, .int 0, .int 0, .int 0, .int 0, .long 0, .int 0])), (qx11, .inl (yx12, 667, .inl (fun _ => 0)))] Hx14 := hP
  have hP := hP.sub (ws' := [(h0, .inr (2, [.int 0, .int (-1), .ref qx2, .null, .int 0, .int 0, .long 0, .int 0, .int 0, .int 0, .int 0, .int 0, .ref qx7, .ref qx11, .null, .int 0, .null])), (qx2, .inr (1, [.null, .int 0, .int 0, .int 0, .int 0, .long 0, .int 0]))]) [0, 1] rfl
  have hD := hD.sub (ws' := [(h0, .inr (2, [.int 0, .int (-1), .ref qx2, .null, .int 0, .int 0, .long 0, .int 0, .int 0, .int 0, .int 0, .int 0, .ref qx7, .ref qx11, .null, .int 0, .null])), (qx2, .inr (1, [.null, .int 0, .int 0, .int 0, .int 0, .long 0, .int 0]))]) [0, 1] (by decide) rfl
  have hK := hK.sub (tys' := []) [] rfl
  have hP : va_P (dC, dI) vwCl [(h0, .inr (2, [.int 0, .int (-1), .ref qx2, .null, .int 0, .int 0, .long 0, .int 0, .int 0, .int 0, .int 0, .int 0, .ref qx7, .ref qx11, .null, .int 0, .null])), (qx2, .inr (1, [.null, .int 0, .int 0, .int 0, .int 0, .long 0, .int 0]))] Hx14 := hP
  have hD : va_D A [(h0, .inr (2, [.int 0, .int (-1), .ref qx2, .null, .int 0, .int 0, .long 0, .int 0, .int 0, .int 0, .int 0, .int 0, .ref qx7, .ref qx11, .null, .int 0, .null])), (qx2, .inr (1, [.null, .int 0, .int 0, .int 0, .int 0, .long 0, .int 0]))] := hD
  refine lv_aload_n hx hb dX3_init_38 rfl (lv_at hl 0 rfl) ?_
  refine lv_sipush (v := 667) hx hb dX3_init_39 (by decide) ?_
  refine va_newa (atype := .int) (ty := .int) (N' := 667) (n := 667) (a0 := (667, .inl (fun _ => 0))) hx hb (hts (.arrayClass .int) (List.mem_of_getElem? (i := 11) rfl)) rfl hK hP hD hS hA (fun _ => rfl) (by decide) (by decide) (by decide) (Nat.le_of_ble_eq_true rfl) (Nat.le_of_ble_eq_true rfl) dX3_init_42 (fun qx15 yx16 Hx17 hK hP hD hS => ?_)
  have hP : va_P (dC, dI) vwCl [(h0, .inr (2, [.int 0, .int (-1), .ref qx2, .null, .int 0, .int 0, .long 0, .int 0, .int 0, .int 0, .int 0, .int 0, .ref qx7, .ref qx11, .null, .int 0, .null])), (qx2, .inr (1, [.null, .int 0, .int 0, .int 0, .int 0, .long 0, .int 0])), (qx15, .inl (yx16, 667, .inl (fun _ => 0)))] Hx17 := hP
  have hD : va_D A [(h0, .inr (2, [.int 0, .int (-1), .ref qx2, .null, .int 0, .int 0, .long 0, .int 0, .int 0, .int 0, .int 0, .int 0, .ref qx7, .ref qx11, .null, .int 0, .null])), (qx2, .inr (1, [.null, .int 0, .int 0, .int 0, .int 0, .long 0, .int 0])), (qx15, .inl (yx16, 667, .inl (fun _ => 0)))] := hD
  have hK : va_K (dC, dI) vwCl [(yx16, .int)] s := hK
  refine W.widen (k := 4) (n := 2008) (by omega) (by omega) ?_
  refine va_putF (D := (dC, dI)) (ci := 2) (v := .ref qx15) (ty := (.array .int)) (C := RX3) (T := TX3) (N := 17) hx hb hts inX3_ tyX3 tyX3_ok nmX3 hown hK hP hD hS 0 rfl rfl 14 (by decide) (hts (.fieldLink RX3 30 "GateWheel$Reader" "useRoles" "[I") (List.mem_of_getElem? (i := 13) rfl)) (fun _ h9 => h9) rfl hin rfl (by decide +kernel) rfl rfl (Nat.le_of_ble_eq_true rfl) dX3_init_44 (fun Hx18 locs hP hD hS => ?_)
  have hP : va_P (dC, dI) vwCl [(h0, .inr (2, [.int 0, .int (-1), .ref qx2, .null, .int 0, .int 0, .long 0, .int 0, .int 0, .int 0, .int 0, .int 0, .ref qx7, .ref qx11, .ref qx15, .int 0, .null])), (qx2, .inr (1, [.null, .int 0, .int 0, .int 0, .int 0, .long 0, .int 0])), (qx15, .inl (yx16, 667, .inl (fun _ => 0)))] Hx18 := hP
  have hP := hP.sub (ws' := [(h0, .inr (2, [.int 0, .int (-1), .ref qx2, .null, .int 0, .int 0, .long 0, .int 0, .int 0, .int 0, .int 0, .int 0, .ref qx7, .ref qx11, .ref qx15, .int 0, .null])), (qx2, .inr (1, [.null, .int 0, .int 0, .int 0, .int 0, .long 0, .int 0]))]) [0, 1] rfl
  have hD := hD.sub (ws' := [(h0, .inr (2, [.int 0, .int (-1), .ref qx2, .null, .int 0, .int 0, .long 0, .int 0, .int 0, .int 0, .int 0, .int 0, .ref qx7, .ref qx11, .ref qx15, .int 0, .null])), (qx2, .inr (1, [.null, .int 0, .int 0, .int 0, .int 0, .long 0, .int 0]))]) [0, 1] (by decide) rfl
  have hK := hK.sub (tys' := []) [] rfl
  have hP : va_P (dC, dI) vwCl [(h0, .inr (2, [.int 0, .int (-1), .ref qx2, .null, .int 0, .int 0, .long 0, .int 0, .int 0, .int 0, .int 0, .int 0, .ref qx7, .ref qx11, .ref qx15, .int 0, .null])), (qx2, .inr (1, [.null, .int 0, .int 0, .int 0, .int 0, .long 0, .int 0]))] Hx18 := hP
  have hD : va_D A [(h0, .inr (2, [.int 0, .int (-1), .ref qx2, .null, .int 0, .int 0, .long 0, .int 0, .int 0, .int 0, .int 0, .int 0, .ref qx7, .ref qx11, .ref qx15, .int 0, .null])), (qx2, .inr (1, [.null, .int 0, .int 0, .int 0, .int 0, .long 0, .int 0]))] := hD
  refine lv_aload_n hx hb dX3_init_47 rfl (lv_at hl 0 rfl) ?_
  refine lv_bipush (v := 60) hx hb dX3_init_48 (by decide) ?_
  refine va_newa (atype := .long) (ty := .long) (N' := 60) (n := 60) (a0 := (60, .inr (.inl (fun _ => 0)))) hx hb (hts (.arrayClass .long) (List.mem_of_getElem? (i := 9) rfl)) rfl hK hP hD hS hA (fun _ => rfl) (by decide) (by decide) (by decide) (Nat.le_of_ble_eq_true rfl) (Nat.le_of_ble_eq_true rfl) dX3_init_50 (fun qx19 yx20 Hx21 hK hP hD hS => ?_)
  have hP : va_P (dC, dI) vwCl [(h0, .inr (2, [.int 0, .int (-1), .ref qx2, .null, .int 0, .int 0, .long 0, .int 0, .int 0, .int 0, .int 0, .int 0, .ref qx7, .ref qx11, .ref qx15, .int 0, .null])), (qx2, .inr (1, [.null, .int 0, .int 0, .int 0, .int 0, .long 0, .int 0])), (qx19, .inl (yx20, 60, .inr (.inl (fun _ => 0))))] Hx21 := hP
  have hD : va_D A [(h0, .inr (2, [.int 0, .int (-1), .ref qx2, .null, .int 0, .int 0, .long 0, .int 0, .int 0, .int 0, .int 0, .int 0, .ref qx7, .ref qx11, .ref qx15, .int 0, .null])), (qx2, .inr (1, [.null, .int 0, .int 0, .int 0, .int 0, .long 0, .int 0])), (qx19, .inl (yx20, 60, .inr (.inl (fun _ => 0))))] := hD
  have hK : va_K (dC, dI) vwCl [(yx20, .long)] s := hK
  refine W.widen (k := 5) (n := 2068) (by omega) (by omega) ?_
  refine va_putF (D := (dC, dI)) (ci := 2) (v := .ref qx19) (ty := (.array .long)) (C := RX3) (T := TX3) (N := 17) hx hb hts inX3_ tyX3 tyX3_ok nmX3 hown hK hP hD hS 0 rfl rfl 16 (by decide) (hts (.fieldLink RX3 33 "GateWheel$Reader" "reach" "[J") (List.mem_of_getElem? (i := 14) rfl)) (fun _ h9 => h9) rfl hin rfl (by decide +kernel) rfl rfl (Nat.le_of_ble_eq_true rfl) dX3_init_52 (fun Hx22 locs hP hD hS => ?_)
  have hP : va_P (dC, dI) vwCl [(h0, .inr (2, [.int 0, .int (-1), .ref qx2, .null, .int 0, .int 0, .long 0, .int 0, .int 0, .int 0, .int 0, .int 0, .ref qx7, .ref qx11, .ref qx15, .int 0, .ref qx19])), (qx2, .inr (1, [.null, .int 0, .int 0, .int 0, .int 0, .long 0, .int 0])), (qx19, .inl (yx20, 60, .inr (.inl (fun _ => 0))))] Hx22 := hP
  have hD : va_D A [(h0, .inr (2, [.int 0, .int (-1), .ref qx2, .null, .int 0, .int 0, .long 0, .int 0, .int 0, .int 0, .int 0, .int 0, .ref qx7, .ref qx11, .ref qx15, .int 0, .ref qx19])), (qx2, .inr (1, [.null, .int 0, .int 0, .int 0, .int 0, .long 0, .int 0])), (qx19, .inl (yx20, 60, .inr (.inl (fun _ => 0))))] := hD
  have hP9 := hP.sub (ws' := [(h0, .inr (2, [.int 0, .int (-1), .ref qx2, .null, .int 0, .int 0, .long 0, .int 0, .int 0, .int 0, .int 0, .int 0, .ref qx7, .ref qx11, .ref qx15, .int 0, .ref qx19])), (qx2, .inr (1, [.null, .int 0, .int 0, .int 0, .int 0, .long 0, .int 0])), (qx19, .inl (yx20, 60, .inr (.inl (fun _ => 0))))]) [0, 1, 2] rfl
  have hD9 := hD.sub (ws' := [(h0, .inr (2, [.int 0, .int (-1), .ref qx2, .null, .int 0, .int 0, .long 0, .int 0, .int 0, .int 0, .int 0, .int 0, .ref qx7, .ref qx11, .ref qx15, .int 0, .ref qx19])), (qx2, .inr (1, [.null, .int 0, .int 0, .int 0, .int 0, .long 0, .int 0])), (qx19, .inl (yx20, 60, .inr (.inl (fun _ => 0))))]) [0, 1, 2] (by decide) rfl
  have hK9 := hK.sub (tys' := [(yx20, .long)]) [0] rfl
  exact W.vret hx hb hr (fun t ht hW => ⟨⟨(), rfl, trivial, qx2, qx7, qx11, qx15, qx19, yx20, by rw [ht]; exact hP9, va_K.moved hW.alike hK9, hD9⟩, hS.F ht⟩) hS.2.2 dX3_init_55

set_option maxHeartbeats 4000000 in
set_option maxRecDepth 100000 in
theorem c_X5_init (l : Launch) (dC : Nat → ClassId) (dI : Nat → Nat → Nat) (h0 : Nat) (sz : Nat) : Met l yX5_init wsX5_init ({ frames := 1, cells := 1, slots := 60, locals := 12 }) (va_Pc [.ref h0] (fun U => U.heap.size = sz ∧ va_P (dC, dI) vwCl [(h0, .inr (4, [.int 0, .long 0, .long 0, .null, .long 0]))] U.heap ∧ va_K (dC, dI) vwCl [] U ∧ va_D (fun _ => True) [(h0, .inr (4, [.int 0, .long 0, .long 0, .null, .long 0]))])) (va_Qv (fun (_ : Unit) => True) (fun (_ : Unit) (t : State) => ∃ (w3 : Nat), va_P (dC, dI) vwCl [(h0, .inr (4, [.int 0, .long 0, .long 0, .ref w3, .long 0]))] t.heap ∧ va_K (dC, dI) vwCl [] t ∧ va_D (va_A [(h0, .inr (4, [.int 0, .long 0, .long 0, .null, .long 0]))] sz) [(h0, .inr (4, [.int 0, .long 0, .long 0, .ref w3, .long 0]))]) (va_A [(h0, .inr (4, [.int 0, .long 0, .long 0, .null, .long 0]))] sz)) 1 60 (va_A [(h0, .inr (4, [.int 0, .long 0, .long 0, .null, .long 0]))] sz) := by
  refine Met.ofW (cc := cX5_init) (maxL := 1) (ret := none) (by decide) rfl ?_
  intro p e s m args below meth c s₁ B hml hv
  obtain ⟨rfl, hsz, hP, hK, hD0⟩ := hv
  have hx := B.exec
  have hb := B.bytes
  have hr := B.returns
  have hts := atoms_spec (ws := wsX5_init) B.pre
  have hown : s.vm.findClass RX5 = some m.cls := findClass_of_methodNamed B.named
  have hlocks := B.notSynchronized
  have hin : meth.name = "<init>" := (name_of_methodNamed B.named B.method).1
  have inX5_ : ∀ w ∈ wsX50, w ∈ wsX5_init := fun _ h => List.mem_cons_of_mem _ (List.mem_append_right _ h)
  subst hsz
  have hD := hD0.self (sz := s.heap.size)
  generalize hAe : va_A [(h0, .inr (4, [.int 0, .long 0, .long 0, .null, .long 0]))] s.heap.size = A at hD ⊢
  have hA : ∀ q : Nat, s.heap.size ≤ q → A q := fun q h => by rw [← hAe]; exact Or.inr h
  have hS : va_S A s.heap s.heap [] := va_S.rf
  have hP : va_P (dC, dI) vwCl [(h0, .inr (4, [.int 0, .long 0, .long 0, .null, .long 0]))] s.heap := hP
  have hl := lv_entry ([.ref h0]) (n := 1) (Nat.le_of_ble_eq_true rfl)
  rw [lg_entry_eq]
  generalize (lg_sl ([.ref h0]) ++ List.replicate (1 - (lg_sl ([.ref h0])).length) Slot.unset).toArray = ls at hl ⊢
  have hl : lv_has ls 1 [(0, .ref h0)] := hl
  refine lv_aload_n hx hb dX5_init_0 rfl (lv_at hl 0 rfl) ?_
  refine W.objInit hx hb hown (hts (.methodLink RX5 3 objectInit) (List.mem_of_getElem? (i := 1) rfl)) (hts (.instanceMethod objectInit) (List.mem_of_getElem? (i := 2) rfl)) (hts _ (List.mem_of_getElem? (i := 3) rfl)) rfl (by rw [hml]; exact hl.1) rfl dX5_init_1 (Nat.le_of_ble_eq_true rfl) (Nat.le_of_ble_eq_true rfl) ?_
  refine W.eq (g2 := F0 m 4 ls []) rfl ?_
  refine lv_aload_n hx hb dX5_init_4 rfl (lv_at hl 0 rfl) ?_
  refine lv_bipush (v := 60) hx hb dX5_init_5 (by decide) ?_
  refine va_newa (atype := .long) (ty := .long) (N' := 60) (n := 60) (a0 := (60, .inr (.inl (fun _ => 0)))) hx hb (hts (.arrayClass .long) (List.mem_of_getElem? (i := 4) rfl)) rfl hK hP hD hS hA (fun _ => rfl) (by decide) (by decide) (by decide) (Nat.le_of_ble_eq_true rfl) (Nat.le_of_ble_eq_true rfl) dX5_init_7 (fun qx1 yx2 Hx3 hK hP hD hS => ?_)
  have hP : va_P (dC, dI) vwCl [(h0, .inr (4, [.int 0, .long 0, .long 0, .null, .long 0])), (qx1, .inl (yx2, 60, .inr (.inl (fun _ => 0))))] Hx3 := hP
  have hD : va_D A [(h0, .inr (4, [.int 0, .long 0, .long 0, .null, .long 0])), (qx1, .inl (yx2, 60, .inr (.inl (fun _ => 0))))] := hD
  have hK : va_K (dC, dI) vwCl [(yx2, .long)] s := hK
  refine W.widen (k := 1) (n := 60) (by omega) (by omega) ?_
  refine va_putF (D := (dC, dI)) (ci := 4) (v := .ref qx1) (ty := (.array .long)) (C := RX5) (T := TX5) (N := 5) hx hb hts inX5_ tyX5 tyX5_ok nmX5 hown hK hP hD hS 0 rfl rfl 3 (by decide) (hts (.fieldLink RX5 9 "GateWheel$Worlds" "rows" "[J") (List.mem_of_getElem? (i := 5) rfl)) (fun _ h9 => h9) rfl hin rfl (by decide +kernel) rfl rfl (Nat.le_of_ble_eq_true rfl) dX5_init_9 (fun Hx4 locs hP hD hS => ?_)
  have hP : va_P (dC, dI) vwCl [(h0, .inr (4, [.int 0, .long 0, .long 0, .ref qx1, .long 0])), (qx1, .inl (yx2, 60, .inr (.inl (fun _ => 0))))] Hx4 := hP
  have hP := hP.sub (ws' := [(h0, .inr (4, [.int 0, .long 0, .long 0, .ref qx1, .long 0]))]) [0] rfl
  have hD := hD.sub (ws' := [(h0, .inr (4, [.int 0, .long 0, .long 0, .ref qx1, .long 0]))]) [0] (by decide) rfl
  have hK := hK.sub (tys' := []) [] rfl
  have hP : va_P (dC, dI) vwCl [(h0, .inr (4, [.int 0, .long 0, .long 0, .ref qx1, .long 0]))] Hx4 := hP
  have hD : va_D A [(h0, .inr (4, [.int 0, .long 0, .long 0, .ref qx1, .long 0]))] := hD
  have hP9 := hP.sub (ws' := [(h0, .inr (4, [.int 0, .long 0, .long 0, .ref qx1, .long 0]))]) [0] rfl
  have hD9 := hD.sub (ws' := [(h0, .inr (4, [.int 0, .long 0, .long 0, .ref qx1, .long 0]))]) [0] (by decide) rfl
  have hK9 := hK.sub (tys' := []) [] rfl
  exact W.vret hx hb hr (fun t ht hW => ⟨⟨(), rfl, trivial, qx1, by rw [ht]; exact hP9, va_K.moved hW.alike hK9, hD9⟩, hS.F ht⟩) hS.2.2 dX5_init_12

set_option maxHeartbeats 4000000 in
set_option maxRecDepth 100000 in
theorem c_X4_init (l : Launch) (dC : Nat → ClassId) (dI : Nat → Nat → Nat) (h0 : Nat) (sz : Nat) : Met l yX4_init wsX4_init ({ frames := 1, cells := 5, slots := 1980, locals := 12 }) (va_Pc [.ref h0] (fun U => U.heap.size = sz ∧ va_P (dC, dI) vwCl [(h0, .inr (3, [.int 0, .int 0, .null, .null, .null, .null, .null, .long 0]))] U.heap ∧ va_K (dC, dI) vwCl [] U ∧ va_D (fun _ => True) [(h0, .inr (3, [.int 0, .int 0, .null, .null, .null, .null, .null, .long 0]))])) (va_Qv (fun (_ : Unit) => True) (fun (_ : Unit) (t : State) => ∃ (w2 : Nat), ∃ (w3 : Nat), ∃ (w4 : Nat), ∃ (w5 : Nat), ∃ (w6 : Nat), va_P (dC, dI) vwCl [(h0, .inr (3, [.int 0, .int 0, .ref w2, .ref w3, .ref w4, .ref w5, .ref w6, .long 0]))] t.heap ∧ va_K (dC, dI) vwCl [] t ∧ va_D (va_A [(h0, .inr (3, [.int 0, .int 0, .null, .null, .null, .null, .null, .long 0]))] sz) [(h0, .inr (3, [.int 0, .int 0, .ref w2, .ref w3, .ref w4, .ref w5, .ref w6, .long 0]))]) (va_A [(h0, .inr (3, [.int 0, .int 0, .null, .null, .null, .null, .null, .long 0]))] sz)) 5 1980 (va_A [(h0, .inr (3, [.int 0, .int 0, .null, .null, .null, .null, .null, .long 0]))] sz) := by
  refine Met.ofW (cc := cX4_init) (maxL := 1) (ret := none) (by decide) rfl ?_
  intro p e s m args below meth c s₁ B hml hv
  obtain ⟨rfl, hsz, hP, hK, hD0⟩ := hv
  have hx := B.exec
  have hb := B.bytes
  have hr := B.returns
  have hts := atoms_spec (ws := wsX4_init) B.pre
  have hown : s.vm.findClass RX4 = some m.cls := findClass_of_methodNamed B.named
  have hlocks := B.notSynchronized
  have hin : meth.name = "<init>" := (name_of_methodNamed B.named B.method).1
  have inX4_ : ∀ w ∈ wsX40, w ∈ wsX4_init := fun _ h => List.mem_cons_of_mem _ (List.mem_append_right _ h)
  subst hsz
  have hD := hD0.self (sz := s.heap.size)
  generalize hAe : va_A [(h0, .inr (3, [.int 0, .int 0, .null, .null, .null, .null, .null, .long 0]))] s.heap.size = A at hD ⊢
  have hA : ∀ q : Nat, s.heap.size ≤ q → A q := fun q h => by rw [← hAe]; exact Or.inr h
  have hS : va_S A s.heap s.heap [] := va_S.rf
  have hP : va_P (dC, dI) vwCl [(h0, .inr (3, [.int 0, .int 0, .null, .null, .null, .null, .null, .long 0]))] s.heap := hP
  have hl := lv_entry ([.ref h0]) (n := 1) (Nat.le_of_ble_eq_true rfl)
  rw [lg_entry_eq]
  generalize (lg_sl ([.ref h0]) ++ List.replicate (1 - (lg_sl ([.ref h0])).length) Slot.unset).toArray = ls at hl ⊢
  have hl : lv_has ls 1 [(0, .ref h0)] := hl
  refine lv_aload_n hx hb dX4_init_0 rfl (lv_at hl 0 rfl) ?_
  refine W.objInit hx hb hown (hts (.methodLink RX4 3 objectInit) (List.mem_of_getElem? (i := 1) rfl)) (hts (.instanceMethod objectInit) (List.mem_of_getElem? (i := 2) rfl)) (hts _ (List.mem_of_getElem? (i := 3) rfl)) rfl (by rw [hml]; exact hl.1) rfl dX4_init_1 (Nat.le_of_ble_eq_true rfl) (Nat.le_of_ble_eq_true rfl) ?_
  refine W.eq (g2 := F0 m 4 ls []) rfl ?_
  refine lv_aload_n hx hb dX4_init_4 rfl (lv_at hl 0 rfl) ?_
  refine lv_bipush (v := 60) hx hb dX4_init_5 (by decide) ?_
  refine va_newa (atype := .int) (ty := .int) (N' := 60) (n := 60) (a0 := (60, .inl (fun _ => 0))) hx hb (hts (.arrayClass .int) (List.mem_of_getElem? (i := 4) rfl)) rfl hK hP hD hS hA (fun _ => rfl) (by decide) (by decide) (by decide) (Nat.le_of_ble_eq_true rfl) (Nat.le_of_ble_eq_true rfl) dX4_init_7 (fun qx1 yx2 Hx3 hK hP hD hS => ?_)
  have hP : va_P (dC, dI) vwCl [(h0, .inr (3, [.int 0, .int 0, .null, .null, .null, .null, .null, .long 0])), (qx1, .inl (yx2, 60, .inl (fun _ => 0)))] Hx3 := hP
  have hD : va_D A [(h0, .inr (3, [.int 0, .int 0, .null, .null, .null, .null, .null, .long 0])), (qx1, .inl (yx2, 60, .inl (fun _ => 0)))] := hD
  have hK : va_K (dC, dI) vwCl [(yx2, .int)] s := hK
  refine W.widen (k := 1) (n := 60) (by omega) (by omega) ?_
  refine va_putF (D := (dC, dI)) (ci := 3) (v := .ref qx1) (ty := (.array .int)) (C := RX4) (T := TX4) (N := 8) hx hb hts inX4_ tyX4 tyX4_ok nmX4 hown hK hP hD hS 0 rfl rfl 2 (by decide) (hts (.fieldLink RX4 9 "GateWheel$Wheel" "values" "[I") (List.mem_of_getElem? (i := 5) rfl)) (fun _ h9 => h9) rfl hin rfl (by decide +kernel) rfl rfl (Nat.le_of_ble_eq_true rfl) dX4_init_9 (fun Hx4 locs hP hD hS => ?_)
  have hP : va_P (dC, dI) vwCl [(h0, .inr (3, [.int 0, .int 0, .ref qx1, .null, .null, .null, .null, .long 0])), (qx1, .inl (yx2, 60, .inl (fun _ => 0)))] Hx4 := hP
  have hP := hP.sub (ws' := [(h0, .inr (3, [.int 0, .int 0, .ref qx1, .null, .null, .null, .null, .long 0]))]) [0] rfl
  have hD := hD.sub (ws' := [(h0, .inr (3, [.int 0, .int 0, .ref qx1, .null, .null, .null, .null, .long 0]))]) [0] (by decide) rfl
  have hK := hK.sub (tys' := []) [] rfl
  have hP : va_P (dC, dI) vwCl [(h0, .inr (3, [.int 0, .int 0, .ref qx1, .null, .null, .null, .null, .long 0]))] Hx4 := hP
  have hD : va_D A [(h0, .inr (3, [.int 0, .int 0, .ref qx1, .null, .null, .null, .null, .long 0]))] := hD
  refine lv_aload_n hx hb dX4_init_12 rfl (lv_at hl 0 rfl) ?_
  refine lv_bipush (v := 60) hx hb dX4_init_13 (by decide) ?_
  refine va_newa (atype := .int) (ty := .int) (N' := 60) (n := 60) (a0 := (60, .inl (fun _ => 0))) hx hb (hts (.arrayClass .int) (List.mem_of_getElem? (i := 4) rfl)) rfl hK hP hD hS hA (fun _ => rfl) (by decide) (by decide) (by decide) (Nat.le_of_ble_eq_true rfl) (Nat.le_of_ble_eq_true rfl) dX4_init_15 (fun qx5 yx6 Hx7 hK hP hD hS => ?_)
  have hP : va_P (dC, dI) vwCl [(h0, .inr (3, [.int 0, .int 0, .ref qx1, .null, .null, .null, .null, .long 0])), (qx5, .inl (yx6, 60, .inl (fun _ => 0)))] Hx7 := hP
  have hD : va_D A [(h0, .inr (3, [.int 0, .int 0, .ref qx1, .null, .null, .null, .null, .long 0])), (qx5, .inl (yx6, 60, .inl (fun _ => 0)))] := hD
  have hK : va_K (dC, dI) vwCl [(yx6, .int)] s := hK
  refine W.widen (k := 2) (n := 120) (by omega) (by omega) ?_
  refine va_putF (D := (dC, dI)) (ci := 3) (v := .ref qx5) (ty := (.array .int)) (C := RX4) (T := TX4) (N := 8) hx hb hts inX4_ tyX4 tyX4_ok nmX4 hown hK hP hD hS 0 rfl rfl 3 (by decide) (hts (.fieldLink RX4 15 "GateWheel$Wheel" "lastTold" "[I") (List.mem_of_getElem? (i := 6) rfl)) (fun _ h9 => h9) rfl hin rfl (by decide +kernel) rfl rfl (Nat.le_of_ble_eq_true rfl) dX4_init_17 (fun Hx8 locs hP hD hS => ?_)
  have hP : va_P (dC, dI) vwCl [(h0, .inr (3, [.int 0, .int 0, .ref qx1, .ref qx5, .null, .null, .null, .long 0])), (qx5, .inl (yx6, 60, .inl (fun _ => 0)))] Hx8 := hP
  have hP := hP.sub (ws' := [(h0, .inr (3, [.int 0, .int 0, .ref qx1, .ref qx5, .null, .null, .null, .long 0]))]) [0] rfl
  have hD := hD.sub (ws' := [(h0, .inr (3, [.int 0, .int 0, .ref qx1, .ref qx5, .null, .null, .null, .long 0]))]) [0] (by decide) rfl
  have hK := hK.sub (tys' := []) [] rfl
  have hP : va_P (dC, dI) vwCl [(h0, .inr (3, [.int 0, .int 0, .ref qx1, .ref qx5, .null, .null, .null, .long 0]))] Hx8 := hP
  have hD : va_D A [(h0, .inr (3, [.int 0, .int 0, .ref qx1, .ref qx5, .null, .null, .null, .long 0]))] := hD
  refine lv_aload_n hx hb dX4_init_20 rfl (lv_at hl 0 rfl) ?_
  refine lv_sipush (v := 600) hx hb dX4_init_21 (by decide) ?_
  refine va_newa (atype := .int) (ty := .int) (N' := 600) (n := 600) (a0 := (600, .inl (fun _ => 0))) hx hb (hts (.arrayClass .int) (List.mem_of_getElem? (i := 4) rfl)) rfl hK hP hD hS hA (fun _ => rfl) (by decide) (by decide) (by decide) (Nat.le_of_ble_eq_true rfl) (Nat.le_of_ble_eq_true rfl) dX4_init_24 (fun qx9 yx10 Hx11 hK hP hD hS => ?_)
  have hP : va_P (dC, dI) vwCl [(h0, .inr (3, [.int 0, .int 0, .ref qx1, .ref qx5, .null, .null, .null, .long 0])), (qx9, .inl (yx10, 600, .inl (fun _ => 0)))] Hx11 := hP
  have hD : va_D A [(h0, .inr (3, [.int 0, .int 0, .ref qx1, .ref qx5, .null, .null, .null, .long 0])), (qx9, .inl (yx10, 600, .inl (fun _ => 0)))] := hD
  have hK : va_K (dC, dI) vwCl [(yx10, .int)] s := hK
  refine W.widen (k := 3) (n := 720) (by omega) (by omega) ?_
  refine va_putF (D := (dC, dI)) (ci := 3) (v := .ref qx9) (ty := (.array .int)) (C := RX4) (T := TX4) (N := 8) hx hb hts inX4_ tyX4 tyX4_ok nmX4 hown hK hP hD hS 0 rfl rfl 4 (by decide) (hts (.fieldLink RX4 18 "GateWheel$Wheel" "slots" "[I") (List.mem_of_getElem? (i := 7) rfl)) (fun _ h9 => h9) rfl hin rfl (by decide +kernel) rfl rfl (Nat.le_of_ble_eq_true rfl) dX4_init_26 (fun Hx12 locs hP hD hS => ?_)
  have hP : va_P (dC, dI) vwCl [(h0, .inr (3, [.int 0, .int 0, .ref qx1, .ref qx5, .ref qx9, .null, .null, .long 0])), (qx9, .inl (yx10, 600, .inl (fun _ => 0)))] Hx12 := hP
  have hP := hP.sub (ws' := [(h0, .inr (3, [.int 0, .int 0, .ref qx1, .ref qx5, .ref qx9, .null, .null, .long 0]))]) [0] rfl
  have hD := hD.sub (ws' := [(h0, .inr (3, [.int 0, .int 0, .ref qx1, .ref qx5, .ref qx9, .null, .null, .long 0]))]) [0] (by decide) rfl
  have hK := hK.sub (tys' := []) [] rfl
  have hP : va_P (dC, dI) vwCl [(h0, .inr (3, [.int 0, .int 0, .ref qx1, .ref qx5, .ref qx9, .null, .null, .long 0]))] Hx12 := hP
  have hD : va_D A [(h0, .inr (3, [.int 0, .int 0, .ref qx1, .ref qx5, .ref qx9, .null, .null, .long 0]))] := hD
  refine lv_aload_n hx hb dX4_init_29 rfl (lv_at hl 0 rfl) ?_
  refine lv_sipush (v := 1200) hx hb dX4_init_30 (by decide) ?_
  refine va_newa (atype := .int) (ty := .int) (N' := 1200) (n := 1200) (a0 := (1200, .inl (fun _ => 0))) hx hb (hts (.arrayClass .int) (List.mem_of_getElem? (i := 4) rfl)) rfl hK hP hD hS hA (fun _ => rfl) (by decide) (by decide) (by decide) (Nat.le_of_ble_eq_true rfl) (Nat.le_of_ble_eq_true rfl) dX4_init_33 (fun qx13 yx14 Hx15 hK hP hD hS => ?_)
  have hP : va_P (dC, dI) vwCl [(h0, .inr (3, [.int 0, .int 0, .ref qx1, .ref qx5, .ref qx9, .null, .null, .long 0])), (qx13, .inl (yx14, 1200, .inl (fun _ => 0)))] Hx15 := hP
  have hD : va_D A [(h0, .inr (3, [.int 0, .int 0, .ref qx1, .ref qx5, .ref qx9, .null, .null, .long 0])), (qx13, .inl (yx14, 1200, .inl (fun _ => 0)))] := hD
  have hK : va_K (dC, dI) vwCl [(yx14, .int)] s := hK
  refine W.widen (k := 4) (n := 1920) (by omega) (by omega) ?_
  refine va_putF (D := (dC, dI)) (ci := 3) (v := .ref qx13) (ty := (.array .int)) (C := RX4) (T := TX4) (N := 8) hx hb hts inX4_ tyX4 tyX4_ok nmX4 hown hK hP hD hS 0 rfl rfl 5 (by decide) (hts (.fieldLink RX4 21 "GateWheel$Wheel" "waves" "[I") (List.mem_of_getElem? (i := 8) rfl)) (fun _ h9 => h9) rfl hin rfl (by decide +kernel) rfl rfl (Nat.le_of_ble_eq_true rfl) dX4_init_35 (fun Hx16 locs hP hD hS => ?_)
  have hP : va_P (dC, dI) vwCl [(h0, .inr (3, [.int 0, .int 0, .ref qx1, .ref qx5, .ref qx9, .ref qx13, .null, .long 0])), (qx13, .inl (yx14, 1200, .inl (fun _ => 0)))] Hx16 := hP
  have hP := hP.sub (ws' := [(h0, .inr (3, [.int 0, .int 0, .ref qx1, .ref qx5, .ref qx9, .ref qx13, .null, .long 0]))]) [0] rfl
  have hD := hD.sub (ws' := [(h0, .inr (3, [.int 0, .int 0, .ref qx1, .ref qx5, .ref qx9, .ref qx13, .null, .long 0]))]) [0] (by decide) rfl
  have hK := hK.sub (tys' := []) [] rfl
  have hP : va_P (dC, dI) vwCl [(h0, .inr (3, [.int 0, .int 0, .ref qx1, .ref qx5, .ref qx9, .ref qx13, .null, .long 0]))] Hx16 := hP
  have hD : va_D A [(h0, .inr (3, [.int 0, .int 0, .ref qx1, .ref qx5, .ref qx9, .ref qx13, .null, .long 0]))] := hD
  refine lv_aload_n hx hb dX4_init_38 rfl (lv_at hl 0 rfl) ?_
  refine lv_bipush (v := 60) hx hb dX4_init_39 (by decide) ?_
  refine va_newa (atype := .int) (ty := .int) (N' := 60) (n := 60) (a0 := (60, .inl (fun _ => 0))) hx hb (hts (.arrayClass .int) (List.mem_of_getElem? (i := 4) rfl)) rfl hK hP hD hS hA (fun _ => rfl) (by decide) (by decide) (by decide) (Nat.le_of_ble_eq_true rfl) (Nat.le_of_ble_eq_true rfl) dX4_init_41 (fun qx17 yx18 Hx19 hK hP hD hS => ?_)
  have hP : va_P (dC, dI) vwCl [(h0, .inr (3, [.int 0, .int 0, .ref qx1, .ref qx5, .ref qx9, .ref qx13, .null, .long 0])), (qx17, .inl (yx18, 60, .inl (fun _ => 0)))] Hx19 := hP
  have hD : va_D A [(h0, .inr (3, [.int 0, .int 0, .ref qx1, .ref qx5, .ref qx9, .ref qx13, .null, .long 0])), (qx17, .inl (yx18, 60, .inl (fun _ => 0)))] := hD
  have hK : va_K (dC, dI) vwCl [(yx18, .int)] s := hK
  refine W.widen (k := 5) (n := 1980) (by omega) (by omega) ?_
  refine va_putF (D := (dC, dI)) (ci := 3) (v := .ref qx17) (ty := (.array .int)) (C := RX4) (T := TX4) (N := 8) hx hb hts inX4_ tyX4 tyX4_ok nmX4 hown hK hP hD hS 0 rfl rfl 6 (by decide) (hts (.fieldLink RX4 24 "GateWheel$Wheel" "waveCounts" "[I") (List.mem_of_getElem? (i := 9) rfl)) (fun _ h9 => h9) rfl hin rfl (by decide +kernel) rfl rfl (Nat.le_of_ble_eq_true rfl) dX4_init_43 (fun Hx20 locs hP hD hS => ?_)
  have hP : va_P (dC, dI) vwCl [(h0, .inr (3, [.int 0, .int 0, .ref qx1, .ref qx5, .ref qx9, .ref qx13, .ref qx17, .long 0])), (qx17, .inl (yx18, 60, .inl (fun _ => 0)))] Hx20 := hP
  have hP := hP.sub (ws' := [(h0, .inr (3, [.int 0, .int 0, .ref qx1, .ref qx5, .ref qx9, .ref qx13, .ref qx17, .long 0]))]) [0] rfl
  have hD := hD.sub (ws' := [(h0, .inr (3, [.int 0, .int 0, .ref qx1, .ref qx5, .ref qx9, .ref qx13, .ref qx17, .long 0]))]) [0] (by decide) rfl
  have hK := hK.sub (tys' := []) [] rfl
  have hP : va_P (dC, dI) vwCl [(h0, .inr (3, [.int 0, .int 0, .ref qx1, .ref qx5, .ref qx9, .ref qx13, .ref qx17, .long 0]))] Hx20 := hP
  have hD : va_D A [(h0, .inr (3, [.int 0, .int 0, .ref qx1, .ref qx5, .ref qx9, .ref qx13, .ref qx17, .long 0]))] := hD
  have hP9 := hP.sub (ws' := [(h0, .inr (3, [.int 0, .int 0, .ref qx1, .ref qx5, .ref qx9, .ref qx13, .ref qx17, .long 0]))]) [0] rfl
  have hD9 := hD.sub (ws' := [(h0, .inr (3, [.int 0, .int 0, .ref qx1, .ref qx5, .ref qx9, .ref qx13, .ref qx17, .long 0]))]) [0] (by decide) rfl
  have hK9 := hK.sub (tys' := []) [] rfl
  exact W.vret hx hb hr (fun t ht hW => ⟨⟨(), rfl, trivial, qx1, qx5, qx9, qx13, qx17, by rw [ht]; exact hP9, va_K.moved hW.alike hK9, hD9⟩, hS.F ht⟩) hS.2.2 dX4_init_46
