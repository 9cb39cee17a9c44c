set_option maxHeartbeats 4000000 in
set_option maxRecDepth 100000 in
theorem c_X6_settleValues (l : Launch) (dC : Nat → ClassId) (dI : Nat → Nat → Nat) (h0 : Nat) (h1 : Nat) (h0_0 : Nat) (h0_1 : Int32) (h0_2 : Nat) (h0_4 : Nat) (h0_5 : Nat) (h0_6 : Nat) (h0_7 : Nat) (h0_8 : Nat) (h0_9 : Int32) (h0_10 : Nat) (h0_11 : Int32) (h1_1 : Int32) (h1_2 : Nat) (h1_3 : Nat) (h1_4 : Nat) (h1_5 : Nat) (h1_6 : Nat) (h1_7 : Nat) (h1_8 : Nat) (h1_9 : Nat) (h1_10 : Nat) (h1_11 : Nat) (h1_12 : Nat) (sz : Nat) : Met l yX6_settleValues wsX6_settleValues ({ frames := 1, cells := 0, slots := 0, locals := 23 }) (va_Pc [.ref h0] (fun U => U.heap.size = sz ∧ va_P (dC, dI) vwCl [(h0, .inr (5, [.ref h0_0, .int h0_1, .ref h0_2, .ref h1, .ref h0_4, .ref h0_5, .ref h0_6, .ref h0_7, .ref h0_8, .int h0_9, .ref h0_10, .int h0_11])), (h1, .inr (0, [.int 0, .int h1_1, .ref h1_2, .ref h1_3, .ref h1_4, .ref h1_5, .ref h1_6, .ref h1_7, .ref h1_8, .ref h1_9, .ref h1_10, .ref h1_11, .ref h1_12]))] U.heap ∧ va_K (dC, dI) vwCl [] U ∧ va_D (fun _ => True) [(h0, .inr (5, [.ref h0_0, .int h0_1, .ref h0_2, .ref h1, .ref h0_4, .ref h0_5, .ref h0_6, .ref h0_7, .ref h0_8, .int h0_9, .ref h0_10, .int h0_11])), (h1, .inr (0, [.int 0, .int h1_1, .ref h1_2, .ref h1_3, .ref h1_4, .ref h1_5, .ref h1_6, .ref h1_7, .ref h1_8, .ref h1_9, .ref h1_10, .ref h1_11, .ref h1_12]))])) (va_Qv (fun (_ : Unit) => True) (fun (_ : Unit) (t : State) => va_P (dC, dI) vwCl [(h0, .inr (5, [.ref h0_0, .int h0_1, .ref h0_2, .ref h1, .ref h0_4, .ref h0_5, .ref h0_6, .ref h0_7, .ref h0_8, .int 0, .ref h0_10, .int h0_11])), (h1, .inr (0, [.int 0, .int h1_1, .ref h1_2, .ref h1_3, .ref h1_4, .ref h1_5, .ref h1_6, .ref h1_7, .ref h1_8, .ref h1_9, .ref h1_10, .ref h1_11, .ref h1_12]))] t.heap ∧ va_K (dC, dI) vwCl [] t ∧ va_D (va_A [(h0, .inr (5, [.ref h0_0, .int h0_1, .ref h0_2, .ref h1, .ref h0_4, .ref h0_5, .ref h0_6, .ref h0_7, .ref h0_8, .int h0_9, .ref h0_10, .int h0_11])), (h1, .inr (0, [.int 0, .int h1_1, .ref h1_2, .ref h1_3, .ref h1_4, .ref h1_5, .ref h1_6, .ref h1_7, .ref h1_8, .ref h1_9, .ref h1_10, .ref h1_11, .ref h1_12]))] sz) [(h0, .inr (5, [.ref h0_0, .int h0_1, .ref h0_2, .ref h1, .ref h0_4, .ref h0_5, .ref h0_6, .ref h0_7, .ref h0_8, .int 0, .ref h0_10, .int h0_11])), (h1, .inr (0, [.int 0, .int h1_1, .ref h1_2, .ref h1_3, .ref h1_4, .ref h1_5, .ref h1_6, .ref h1_7, .ref h1_8, .ref h1_9, .ref h1_10, .ref h1_11, .ref h1_12]))]) (va_A [(h0, .inr (5, [.ref h0_0, .int h0_1, .ref h0_2, .ref h1, .ref h0_4, .ref h0_5, .ref h0_6, .ref h0_7, .ref h0_8, .int h0_9, .ref h0_10, .int h0_11])), (h1, .inr (0, [.int 0, .int h1_1, .ref h1_2, .ref h1_3, .ref h1_4, .ref h1_5, .ref h1_6, .ref h1_7, .ref h1_8, .ref h1_9, .ref h1_10, .ref h1_11, .ref h1_12]))] sz)) 0 0 (va_A [(h0, .inr (5, [.ref h0_0, .int h0_1, .ref h0_2, .ref h1, .ref h0_4, .ref h0_5, .ref h0_6, .ref h0_7, .ref h0_8, .int h0_9, .ref h0_10, .int h0_11])), (h1, .inr (0, [.int 0, .int h1_1, .ref h1_2, .ref h1_3, .ref h1_4, .ref h1_5, .ref h1_6, .ref h1_7, .ref h1_8, .ref h1_9, .ref h1_10, .ref h1_11, .ref h1_12]))] sz) := by
  refine Met.ofW (cc := cX6_settleValues) (maxL := 1) (ret := none) (by decide) rfl ?_
  intro p e s m args below meth c s₁ B hml hv
  obtain ⟨rfl, hsz, hP, hK, hD0⟩ := hv
  have hx := B.exec
  have hb := B.bytes
  have hr := B.returns
  have hts := atoms_spec (ws := wsX6_settleValues) B.pre
  have hown : s.vm.findClass RX6 = some m.cls := findClass_of_methodNamed B.named
  have hlocks := B.notSynchronized
  have inX6_ : ∀ w ∈ wsX60, w ∈ wsX6_settleValues := fun _ h => List.mem_cons_of_mem _ (List.mem_append_left _ (List.mem_append_right _ h))
  subst hsz
  have hD := hD0.self (sz := s.heap.size)
  generalize hAe : va_A [(h0, .inr (5, [.ref h0_0, .int h0_1, .ref h0_2, .ref h1, .ref h0_4, .ref h0_5, .ref h0_6, .ref h0_7, .ref h0_8, .int h0_9, .ref h0_10, .int h0_11])), (h1, .inr (0, [.int 0, .int h1_1, .ref h1_2, .ref h1_3, .ref h1_4, .ref h1_5, .ref h1_6, .ref h1_7, .ref h1_8, .ref h1_9, .ref h1_10, .ref h1_11, .ref h1_12]))] s.heap.size = A at hD ⊢
  have hA : ∀ q : Nat, s.heap.size ≤ q → A q := fun q h => by rw [← hAe]; exact Or.inr h
  have hS : va_S A s.heap s.heap [] := va_S.rf
  have hP : va_P (dC, dI) vwCl [(h0, .inr (5, [.ref h0_0, .int h0_1, .ref h0_2, .ref h1, .ref h0_4, .ref h0_5, .ref h0_6, .ref h0_7, .ref h0_8, .int h0_9, .ref h0_10, .int h0_11])), (h1, .inr (0, [.int 0, .int h1_1, .ref h1_2, .ref h1_3, .ref h1_4, .ref h1_5, .ref h1_6, .ref h1_7, .ref h1_8, .ref h1_9, .ref h1_10, .ref h1_11, .ref h1_12]))] s.heap := hP
  have hl := lv_entry ([.ref h0]) (n := 1) (Nat.le_of_ble_eq_true rfl)
  rw [lg_entry_eq]
  generalize (lg_sl ([.ref h0]) ++ List.replicate (1 - (lg_sl ([.ref h0])).length) Slot.unset).toArray = ls at hl ⊢
  have hl : lv_has ls 1 [(0, .ref h0)] := hl
  refine lv_aload_n hx hb dX6_settleValues_0 rfl (lv_at hl 0 rfl) ?_
  refine va_get (D := (dC, dI)) (ci := 5) (v := .ref h1) (C := RX6) (T := TX6) (N := 12) hx hb hts inX6_ hown hK hP 0 rfl rfl 3 (by decide) (hts (.fieldLink RX6 23 "GateWheel" "circuit" "LGateWheel$Circuit;") (List.mem_of_getElem? (i := 1) rfl)) (fun _ h9 => h9) rfl dX6_settleValues_1 ?_
  refine lv_aload_n hx hb dX6_settleValues_4 rfl (lv_at hl 0 rfl) ?_
  refine va_get (D := (dC, dI)) (ci := 5) (v := .ref h0_5) (C := RX6) (T := TX6) (N := 12) hx hb hts inX6_ hown hK hP 0 rfl rfl 5 (by decide) (hts (.fieldLink RX6 30 "GateWheel" "values" "[I") (List.mem_of_getElem? (i := 2) rfl)) (fun _ h9 => h9) rfl dX6_settleValues_5 ?_
  have hPc := hP.sub (ws' := [(h1, .inr (0, [.int 0, .int h1_1, .ref h1_2, .ref h1_3, .ref h1_4, .ref h1_5, .ref h1_6, .ref h1_7, .ref h1_8, .ref h1_9, .ref h1_10, .ref h1_11, .ref h1_12]))]) [1] rfl
  have hDc := hD.sub (ws' := [(h1, .inr (0, [.int 0, .int h1_1, .ref h1_2, .ref h1_3, .ref h1_4, .ref h1_5, .ref h1_6, .ref h1_7, .ref h1_8, .ref h1_9, .ref h1_10, .ref h1_11, .ref h1_12]))]) [1] (by decide) rfl
  have hKc := hK.sub (tys' := []) [] rfl
  have hFc := va_free (wc := [(h1, .inr (0, [.int 0, .int h1_1, .ref h1_2, .ref h1_3, .ref h1_4, .ref h1_5, .ref h1_6, .ref h1_7, .ref h1_8, .ref h1_9, .ref h1_10, .ref h1_11, .ref h1_12]))]) hD hS hA [1] rfl
  refine va_callv (va_runS (As := [.ref h1, .ref h0_5]) (rest := []) ⟨hx, hb, hml, hown, hts⟩ (c_X2_settle l dC dI h1 h1_1 h1_2 h1_3 h1_4 h1_5 h1_6 h1_7 h1_8 h1_9 h1_10 h1_11 h1_12 h0_5 s.heap.size) (va_cwS 2 hts gX6_settleValues_X2_settle rfl rfl rfl (by decide +kernel) ⟨Nat.le_of_ble_eq_true rfl, Nat.le_of_ble_eq_true rfl⟩) ⟨fun a U g mk q => by obtain ⟨q0, q1, qP, qK, qD⟩ := q; exact ⟨q0, q1, qP, va_K.moved (u := U) (U := U.calling g mk a) (Vm.Alike.refl U.vm) qK, qD⟩, fun U hU hW => ⟨rfl, by rw [hU], by rw [hU]; exact hPc, va_K.moved hW.alike hKc, hDc.weaken (fun _ _ _ _ => trivial)⟩⟩ rfl rfl hl.1 rfl (lv_room (Nat.le_of_ble_eq_true rfl)) dX6_settleValues_8 ⟨Nat.le_of_ble_eq_true rfl, Nat.le_of_ble_eq_true rfl⟩) hS (fun q _ h => hFc q h) hFc (fun u t Hx1 locs ht hvm hw hB hz1 hk1 hS => ?_)
  obtain ⟨hP1, hK1, hD1⟩ := hB
  rw [ht] at hP1
  have hK1 := va_K.moved hvm.symm hK1
  obtain ⟨hP, hD⟩ := va_join (wr := [(h0, .inr (5, [.ref h0_0, .int h0_1, .ref h0_2, .ref h1, .ref h0_4, .ref h0_5, .ref h0_6, .ref h0_7, .ref h0_8, .int h0_9, .ref h0_10, .int h0_11]))]) (w1 := [(h1, .inr (0, [.int 0, .int h1_1, .ref h1_2, .ref h1_3, .ref h1_4, .ref h1_5, .ref h1_6, .ref h1_7, .ref h1_8, .ref h1_9, .ref h1_10, .ref h1_11, .ref h1_12]))]) hP hD [1] [0] rfl rfl (by decide) (by decide) hk1 hFc hP1 hD1
  have hK := (hK.sub (tys' := []) [] rfl).app hK1
  have hP : va_P (dC, dI) vwCl [(h0, .inr (5, [.ref h0_0, .int h0_1, .ref h0_2, .ref h1, .ref h0_4, .ref h0_5, .ref h0_6, .ref h0_7, .ref h0_8, .int h0_9, .ref h0_10, .int h0_11])), (h1, .inr (0, [.int 0, .int h1_1, .ref h1_2, .ref h1_3, .ref h1_4, .ref h1_5, .ref h1_6, .ref h1_7, .ref h1_8, .ref h1_9, .ref h1_10, .ref h1_11, .ref h1_12]))] Hx1 := hP
  have hD : va_D A [(h0, .inr (5, [.ref h0_0, .int h0_1, .ref h0_2, .ref h1, .ref h0_4, .ref h0_5, .ref h0_6, .ref h0_7, .ref h0_8, .int h0_9, .ref h0_10, .int h0_11])), (h1, .inr (0, [.int 0, .int h1_1, .ref h1_2, .ref h1_3, .ref h1_4, .ref h1_5, .ref h1_6, .ref h1_7, .ref h1_8, .ref h1_9, .ref h1_10, .ref h1_11, .ref h1_12]))] := hD
  have hK : va_K (dC, dI) vwCl [] s := hK
  refine lv_aload_n hx hb dX6_settleValues_11 rfl (lv_at hl 0 rfl) ?_
  refine lv_iconst (v := 0) hx hb dX6_settleValues_12 (by decide) ?_
  refine va_put (D := (dC, dI)) (ci := 5) (v := .int 0) (ty := .boolean) (C := RX6) (T := TX6) (N := 12) hx hb hts inX6_ tyX6 tyX6_ok nmX6 hown hK hP hD hS 0 rfl rfl 9 (by decide) (hts (.fieldLink RX6 167 "GateWheel" "worldsAreFresh" "Z") (List.mem_of_getElem? (i := 3) rfl)) (fun _ h9 => h9) rfl (by decide +kernel) (by decide) rfl (Nat.le_of_ble_eq_true rfl) dX6_settleValues_13 (fun Hx3 locs hP hD hS => ?_)
  have hP : va_P (dC, dI) vwCl [(h0, .inr (5, [.ref h0_0, .int h0_1, .ref h0_2, .ref h1, .ref h0_4, .ref h0_5, .ref h0_6, .ref h0_7, .ref h0_8, .int 0, .ref h0_10, .int h0_11])), (h1, .inr (0, [.int 0, .int h1_1, .ref h1_2, .ref h1_3, .ref h1_4, .ref h1_5, .ref h1_6, .ref h1_7, .ref h1_8, .ref h1_9, .ref h1_10, .ref h1_11, .ref h1_12]))] Hx3 := hP
  have hD : va_D A [(h0, .inr (5, [.ref h0_0, .int h0_1, .ref h0_2, .ref h1, .ref h0_4, .ref h0_5, .ref h0_6, .ref h0_7, .ref h0_8, .int 0, .ref h0_10, .int h0_11])), (h1, .inr (0, [.int 0, .int h1_1, .ref h1_2, .ref h1_3, .ref h1_4, .ref h1_5, .ref h1_6, .ref h1_7, .ref h1_8, .ref h1_9, .ref h1_10, .ref h1_11, .ref h1_12]))] := hD
  have hP9 := hP.sub (ws' := [(h0, .inr (5, [.ref h0_0, .int h0_1, .ref h0_2, .ref h1, .ref h0_4, .ref h0_5, .ref h0_6, .ref h0_7, .ref h0_8, .int 0, .ref h0_10, .int h0_11])), (h1, .inr (0, [.int 0, .int h1_1, .ref h1_2, .ref h1_3, .ref h1_4, .ref h1_5, .ref h1_6, .ref h1_7, .ref h1_8, .ref h1_9, .ref h1_10, .ref h1_11, .ref h1_12]))]) [0, 1] rfl
  have hD9 := hD.sub (ws' := [(h0, .inr (5, [.ref h0_0, .int h0_1, .ref h0_2, .ref h1, .ref h0_4, .ref h0_5, .ref h0_6, .ref h0_7, .ref h0_8, .int 0, .ref h0_10, .int h0_11])), (h1, .inr (0, [.int 0, .int h1_1, .ref h1_2, .ref h1_3, .ref h1_4, .ref h1_5, .ref h1_6, .ref h1_7, .ref h1_8, .ref h1_9, .ref h1_10, .ref h1_11, .ref h1_12]))]) [0, 1] (by decide) rfl
  have hK9 := hK.sub (tys' := []) [] rfl
  exact W.vret hx hb hr (fun t ht hW => ⟨⟨(), rfl, trivial, by rw [ht]; exact hP9, va_K.moved hW.alike hK9, hD9⟩, hS.F ht⟩) hS.2.2 dX6_settleValues_16

set_option maxHeartbeats 4000000 in
set_option maxRecDepth 100000 in
theorem c_X6_countFree (l : Launch) (dC : Nat → ClassId) (dI : Nat → Nat → Nat) (h0 : Nat) (h1 : Nat) (h0_0 : Nat) (h0_1 : Int32) (h0_2 : Nat) (h0_4 : Nat) (h0_5 : Nat) (h0_6 : Nat) (h0_7 : Nat) (h0_8 : Nat) (h0_9 : Int32) (h0_10 : Nat) (h0_11 : Int32) (h1_1 : Int32) (h1_2 : Nat) (h1_3 : Nat) (h1_4 : Nat) (h1_5 : Nat) (h1_6 : Nat) (h1_7 : Nat) (h1_8 : Nat) (h1_9 : Nat) (h1_10 : Nat) (h1_11 : Nat) (h1_12 : Nat) (sz : Nat) : Met l yX6_countFree wsX6_countFree ({ frames := 0, cells := 0, slots := 0, locals := 0 }) (va_Pc [.ref h0] (fun U => U.heap.size = sz ∧ va_P (dC, dI) vwCl [(h0, .inr (5, [.ref h0_0, .int h0_1, .ref h0_2, .ref h1, .ref h0_4, .ref h0_5, .ref h0_6, .ref h0_7, .ref h0_8, .int h0_9, .ref h0_10, .int h0_11])), (h1, .inr (0, [.int 0, .int h1_1, .ref h1_2, .ref h1_3, .ref h1_4, .ref h1_5, .ref h1_6, .ref h1_7, .ref h1_8, .ref h1_9, .ref h1_10, .ref h1_11, .ref h1_12]))] U.heap ∧ va_K (dC, dI) vwCl [] U ∧ va_D (fun _ => True) [(h0, .inr (5, [.ref h0_0, .int h0_1, .ref h0_2, .ref h1, .ref h0_4, .ref h0_5, .ref h0_6, .ref h0_7, .ref h0_8, .int h0_9, .ref h0_10, .int h0_11])), (h1, .inr (0, [.int 0, .int h1_1, .ref h1_2, .ref h1_3, .ref h1_4, .ref h1_5, .ref h1_6, .ref h1_7, .ref h1_8, .ref h1_9, .ref h1_10, .ref h1_11, .ref h1_12]))])) (va_Qi (fun (r : Int32) (_ : Unit) => r = 0) (fun (_ : Unit) (t : State) => va_P (dC, dI) vwCl [(h0, .inr (5, [.ref h0_0, .int h0_1, .ref h0_2, .ref h1, .ref h0_4, .ref h0_5, .ref h0_6, .ref h0_7, .ref h0_8, .int h0_9, .ref h0_10, .int h0_11])), (h1, .inr (0, [.int 0, .int h1_1, .ref h1_2, .ref h1_3, .ref h1_4, .ref h1_5, .ref h1_6, .ref h1_7, .ref h1_8, .ref h1_9, .ref h1_10, .ref h1_11, .ref h1_12]))] t.heap ∧ va_K (dC, dI) vwCl [] t ∧ va_D (va_A [(h0, .inr (5, [.ref h0_0, .int h0_1, .ref h0_2, .ref h1, .ref h0_4, .ref h0_5, .ref h0_6, .ref h0_7, .ref h0_8, .int h0_9, .ref h0_10, .int h0_11])), (h1, .inr (0, [.int 0, .int h1_1, .ref h1_2, .ref h1_3, .ref h1_4, .ref h1_5, .ref h1_6, .ref h1_7, .ref h1_8, .ref h1_9, .ref h1_10, .ref h1_11, .ref h1_12]))] sz) [(h0, .inr (5, [.ref h0_0, .int h0_1, .ref h0_2, .ref h1, .ref h0_4, .ref h0_5, .ref h0_6, .ref h0_7, .ref h0_8, .int h0_9, .ref h0_10, .int h0_11])), (h1, .inr (0, [.int 0, .int h1_1, .ref h1_2, .ref h1_3, .ref h1_4, .ref h1_5, .ref h1_6, .ref h1_7, .ref h1_8, .ref h1_9, .ref h1_10, .ref h1_11, .ref h1_12]))]) (va_A [(h0, .inr (5, [.ref h0_0, .int h0_1, .ref h0_2, .ref h1, .ref h0_4, .ref h0_5, .ref h0_6, .ref h0_7, .ref h0_8, .int h0_9, .ref h0_10, .int h0_11])), (h1, .inr (0, [.int 0, .int h1_1, .ref h1_2, .ref h1_3, .ref h1_4, .ref h1_5, .ref h1_6, .ref h1_7, .ref h1_8, .ref h1_9, .ref h1_10, .ref h1_11, .ref h1_12]))] sz)) 0 0 (va_A [(h0, .inr (5, [.ref h0_0, .int h0_1, .ref h0_2, .ref h1, .ref h0_4, .ref h0_5, .ref h0_6, .ref h0_7, .ref h0_8, .int h0_9, .ref h0_10, .int h0_11])), (h1, .inr (0, [.int 0, .int h1_1, .ref h1_2, .ref h1_3, .ref h1_4, .ref h1_5, .ref h1_6, .ref h1_7, .ref h1_8, .ref h1_9, .ref h1_10, .ref h1_11, .ref h1_12]))] sz) := by
  refine Met.ofW (cc := cX6_countFree) (maxL := 3) (ret := (some .int)) (by decide) rfl ?_
  intro p e s m args below meth c s₁ B hml hv
  obtain ⟨rfl, hsz, hP, hK, hD0⟩ := hv
  have hx := B.exec
  have hb := B.bytes
  have hr := B.returns
  have hts := atoms_spec (ws := wsX6_countFree) B.pre
  have hown : s.vm.findClass RX6 = some m.cls := findClass_of_methodNamed B.named
  have hlocks := B.notSynchronized
  have inX0_ : ∀ w ∈ wsX00, w ∈ wsX6_countFree := fun _ h => List.mem_cons_of_mem _ (List.mem_append_right _ h)
  have inX6_ : ∀ w ∈ wsX60, w ∈ wsX6_countFree := fun _ h => List.mem_cons_of_mem _ (List.mem_append_left _ (List.mem_append_right _ h))
  subst hsz
  have hD := hD0.self (sz := s.heap.size)
  generalize hAe : va_A [(h0, .inr (5, [.ref h0_0, .int h0_1, .ref h0_2, .ref h1, .ref h0_4, .ref h0_5, .ref h0_6, .ref h0_7, .ref h0_8, .int h0_9, .ref h0_10, .int h0_11])), (h1, .inr (0, [.int 0, .int h1_1, .ref h1_2, .ref h1_3, .ref h1_4, .ref h1_5, .ref h1_6, .ref h1_7, .ref h1_8, .ref h1_9, .ref h1_10, .ref h1_11, .ref h1_12]))] s.heap.size = A at hD ⊢
  have hA : ∀ q : Nat, s.heap.size ≤ q → A q := fun q h => by rw [← hAe]; exact Or.inr h
  have hS : va_S A s.heap s.heap [] := va_S.rf
  have hP : va_P (dC, dI) vwCl [(h0, .inr (5, [.ref h0_0, .int h0_1, .ref h0_2, .ref h1, .ref h0_4, .ref h0_5, .ref h0_6, .ref h0_7, .ref h0_8, .int h0_9, .ref h0_10, .int h0_11])), (h1, .inr (0, [.int 0, .int h1_1, .ref h1_2, .ref h1_3, .ref h1_4, .ref h1_5, .ref h1_6, .ref h1_7, .ref h1_8, .ref h1_9, .ref h1_10, .ref h1_11, .ref h1_12]))] s.heap := hP
  have hl := lv_entry ([.ref h0]) (n := 3) (Nat.le_of_ble_eq_true rfl)
  rw [lg_entry_eq]
  generalize (lg_sl ([.ref h0]) ++ List.replicate (3 - (lg_sl ([.ref h0])).length) Slot.unset).toArray = ls at hl ⊢
  have hl : lv_has ls 3 [(0, .ref h0)] := hl
  refine lv_iconst (v := 0) hx hb dX6_countFree_0 (by decide) ?_
  refine lv_istore_n (lv' := [(1, .int 0), (0, .ref h0)]) hx hb dX6_countFree_1 rfl hl (by decide) rfl (fun ls hl => ?_)
  refine lv_iconst (v := 0) hx hb dX6_countFree_2 (by decide) ?_
  refine lv_istore_n (lv' := [(2, .int 0), (1, .int 0), (0, .ref h0)]) hx hb dX6_countFree_3 rfl hl (by decide) rfl (fun ls hl => ?_)
  refine lv_iload_n hx hb dX6_countFree_4 rfl (lv_at hl 0 rfl) ?_
  refine lv_aload_n hx hb dX6_countFree_5 rfl (lv_at hl 2 rfl) ?_
  refine va_get (D := (dC, dI)) (ci := 5) (v := .ref h1) (C := RX6) (T := TX6) (N := 12) hx hb hts inX6_ hown hK hP 0 rfl rfl 3 (by decide) (hts (.fieldLink RX6 23 "GateWheel" "circuit" "LGateWheel$Circuit;") (List.mem_of_getElem? (i := 1) rfl)) (fun _ h9 => h9) rfl dX6_countFree_6 ?_
  refine va_get (D := (dC, dI)) (ci := 0) (v := .int 0) (C := RX0) (T := TX0) (N := 13) hx hb hts inX0_ hown hK hP 1 rfl rfl 0 (by decide) (hts (.fieldLink RX6 66 "GateWheel$Circuit" "count" "I") (List.mem_of_getElem? (i := 2) rfl)) (fun _ h9 => h9) rfl dX6_countFree_9 ?_
  refine lv_icmp_ge (tgt := 45) hx hb dX6_countFree_12 (by decide) (fun _ => ?_) (fun hc => absurd (by decide) hc)
  refine lv_iload_n hx hb dX6_countFree_45 rfl (lv_at hl 1 rfl) ?_
  have hP9 := hP.sub (ws' := [(h0, .inr (5, [.ref h0_0, .int h0_1, .ref h0_2, .ref h1, .ref h0_4, .ref h0_5, .ref h0_6, .ref h0_7, .ref h0_8, .int h0_9, .ref h0_10, .int h0_11])), (h1, .inr (0, [.int 0, .int h1_1, .ref h1_2, .ref h1_3, .ref h1_4, .ref h1_5, .ref h1_6, .ref h1_7, .ref h1_8, .ref h1_9, .ref h1_10, .ref h1_11, .ref h1_12]))]) [0, 1] rfl
  have hD9 := hD.sub (ws' := [(h0, .inr (5, [.ref h0_0, .int h0_1, .ref h0_2, .ref h1, .ref h0_4, .ref h0_5, .ref h0_6, .ref h0_7, .ref h0_8, .int h0_9, .ref h0_10, .int h0_11])), (h1, .inr (0, [.int 0, .int h1_1, .ref h1_2, .ref h1_3, .ref h1_4, .ref h1_5, .ref h1_6, .ref h1_7, .ref h1_8, .ref h1_9, .ref h1_10, .ref h1_11, .ref h1_12]))]) [0, 1] (by decide) rfl
  have hK9 := hK.sub (tys' := []) [] rfl
  exact W.iret (v := 0) hx hb hr (fun t ht hW => ⟨⟨0, (), rfl, rfl, by rw [ht]; exact hP9, va_K.moved hW.alike hK9, hD9⟩, hS.F ht⟩) hS.2.2 dX6_countFree_46

set_option maxHeartbeats 4000000 in
set_option maxRecDepth 100000 in
theorem c_X6_goThroughWorlds (l : Launch) (dC : Nat → ClassId) (dI : Nat → Nat → Nat) (h0 : Nat) (h1 : Nat) (h2 : Nat) (h0_0 : Nat) (h0_1 : Int32) (h0_2 : Nat) (h0_4 : Nat) (h0_5 : Nat) (h0_6 : Nat) (h0_7 : Nat) (h0_10 : Nat) (h0_11 : Int32) (h1_1 : Int32) (h1_2 : Nat) (h1_3 : Nat) (h1_4 : Nat) (h1_5 : Nat) (h1_6 : Nat) (h1_7 : Nat) (h1_8 : Nat) (h1_9 : Nat) (h1_10 : Nat) (h1_11 : Nat) (h1_12 : Nat) (h2_0 : Int32) (h2_1 : Int64) (h2_2 : Int64) (h2_3 : Nat) (h2_4 : Int64) (sz : Nat) : Met l yX6_goThroughWorlds wsX6_goThroughWorlds ({ frames := 3, cells := 0, slots := 0, locals := 70 }) (va_Pc [.ref h0] (fun U => U.heap.size = sz ∧ va_P (dC, dI) vwCl [(h0, .inr (5, [.ref h0_0, .int h0_1, .ref h0_2, .ref h1, .ref h0_4, .ref h0_5, .ref h0_6, .ref h0_7, .ref h2, .int 0, .ref h0_10, .int h0_11])), (h1, .inr (0, [.int 0, .int h1_1, .ref h1_2, .ref h1_3, .ref h1_4, .ref h1_5, .ref h1_6, .ref h1_7, .ref h1_8, .ref h1_9, .ref h1_10, .ref h1_11, .ref h1_12])), (h2, .inr (4, [.int h2_0, .long h2_1, .long h2_2, .ref h2_3, .long h2_4]))] U.heap ∧ va_K (dC, dI) vwCl [] U ∧ va_D (fun _ => True) [(h0, .inr (5, [.ref h0_0, .int h0_1, .ref h0_2, .ref h1, .ref h0_4, .ref h0_5, .ref h0_6, .ref h0_7, .ref h2, .int 0, .ref h0_10, .int h0_11])), (h1, .inr (0, [.int 0, .int h1_1, .ref h1_2, .ref h1_3, .ref h1_4, .ref h1_5, .ref h1_6, .ref h1_7, .ref h1_8, .ref h1_9, .ref h1_10, .ref h1_11, .ref h1_12])), (h2, .inr (4, [.int h2_0, .long h2_1, .long h2_2, .ref h2_3, .long h2_4]))])) (va_Qi (fun (r : Int32) (_ : Unit) => r = 1) (fun (_ : Unit) (t : State) => va_P (dC, dI) vwCl [(h0, .inr (5, [.ref h0_0, .int h0_1, .ref h0_2, .ref h1, .ref h0_4, .ref h0_5, .ref h0_6, .ref h0_7, .ref h2, .int 1, .ref h0_10, .int h0_11])), (h1, .inr (0, [.int 0, .int h1_1, .ref h1_2, .ref h1_3, .ref h1_4, .ref h1_5, .ref h1_6, .ref h1_7, .ref h1_8, .ref h1_9, .ref h1_10, .ref h1_11, .ref h1_12])), (h2, .inr (4, [.int 1, .long 0, .long 0, .ref h2_3, .long 1]))] t.heap ∧ va_K (dC, dI) vwCl [] t ∧ va_D (va_A [(h0, .inr (5, [.ref h0_0, .int h0_1, .ref h0_2, .ref h1, .ref h0_4, .ref h0_5, .ref h0_6, .ref h0_7, .ref h2, .int 0, .ref h0_10, .int h0_11])), (h1, .inr (0, [.int 0, .int h1_1, .ref h1_2, .ref h1_3, .ref h1_4, .ref h1_5, .ref h1_6, .ref h1_7, .ref h1_8, .ref h1_9, .ref h1_10, .ref h1_11, .ref h1_12])), (h2, .inr (4, [.int h2_0, .long h2_1, .long h2_2, .ref h2_3, .long h2_4]))] sz) [(h0, .inr (5, [.ref h0_0, .int h0_1, .ref h0_2, .ref h1, .ref h0_4, .ref h0_5, .ref h0_6, .ref h0_7, .ref h2, .int 1, .ref h0_10, .int h0_11])), (h1, .inr (0, [.int 0, .int h1_1, .ref h1_2, .ref h1_3, .ref h1_4, .ref h1_5, .ref h1_6, .ref h1_7, .ref h1_8, .ref h1_9, .ref h1_10, .ref h1_11, .ref h1_12])), (h2, .inr (4, [.int 1, .long 0, .long 0, .ref h2_3, .long 1]))]) (va_A [(h0, .inr (5, [.ref h0_0, .int h0_1, .ref h0_2, .ref h1, .ref h0_4, .ref h0_5, .ref h0_6, .ref h0_7, .ref h2, .int 0, .ref h0_10, .int h0_11])), (h1, .inr (0, [.int 0, .int h1_1, .ref h1_2, .ref h1_3, .ref h1_4, .ref h1_5, .ref h1_6, .ref h1_7, .ref h1_8, .ref h1_9, .ref h1_10, .ref h1_11, .ref h1_12])), (h2, .inr (4, [.int h2_0, .long h2_1, .long h2_2, .ref h2_3, .long h2_4]))] sz)) 0 0 (va_A [(h0, .inr (5, [.ref h0_0, .int h0_1, .ref h0_2, .ref h1, .ref h0_4, .ref h0_5, .ref h0_6, .ref h0_7, .ref h2, .int 0, .ref h0_10, .int h0_11])), (h1, .inr (0, [.int 0, .int h1_1, .ref h1_2, .ref h1_3, .ref h1_4, .ref h1_5, .ref h1_6, .ref h1_7, .ref h1_8, .ref h1_9, .ref h1_10, .ref h1_11, .ref h1_12])), (h2, .inr (4, [.int h2_0, .long h2_1, .long h2_2, .ref h2_3, .long h2_4]))] sz) := by
  refine Met.ofW (cc := cX6_goThroughWorlds) (maxL := 2) (ret := (some .boolean)) (by decide) rfl ?_
  intro p e s m args below meth c s₁ B hml hv
  obtain ⟨rfl, hsz, hP, hK, hD0⟩ := hv
  have hx := B.exec
  have hb := B.bytes
  have hr := B.returns
  have hts := atoms_spec (ws := wsX6_goThroughWorlds) B.pre
  have hown : s.vm.findClass RX6 = some m.cls := findClass_of_methodNamed B.named
  have hlocks := B.notSynchronized
  have inX6_ : ∀ w ∈ wsX60, w ∈ wsX6_goThroughWorlds := fun _ h => List.mem_cons_of_mem _ (List.mem_append_left _ (List.mem_append_left _ (List.mem_append_right _ h)))
  subst hsz
  have hD := hD0.self (sz := s.heap.size)
  generalize hAe : va_A [(h0, .inr (5, [.ref h0_0, .int h0_1, .ref h0_2, .ref h1, .ref h0_4, .ref h0_5, .ref h0_6, .ref h0_7, .ref h2, .int 0, .ref h0_10, .int h0_11])), (h1, .inr (0, [.int 0, .int h1_1, .ref h1_2, .ref h1_3, .ref h1_4, .ref h1_5, .ref h1_6, .ref h1_7, .ref h1_8, .ref h1_9, .ref h1_10, .ref h1_11, .ref h1_12])), (h2, .inr (4, [.int h2_0, .long h2_1, .long h2_2, .ref h2_3, .long h2_4]))] s.heap.size = A at hD ⊢
  have hA : ∀ q : Nat, s.heap.size ≤ q → A q := fun q h => by rw [← hAe]; exact Or.inr h
  have hS : va_S A s.heap s.heap [] := va_S.rf
  have hP : va_P (dC, dI) vwCl [(h0, .inr (5, [.ref h0_0, .int h0_1, .ref h0_2, .ref h1, .ref h0_4, .ref h0_5, .ref h0_6, .ref h0_7, .ref h2, .int 0, .ref h0_10, .int h0_11])), (h1, .inr (0, [.int 0, .int h1_1, .ref h1_2, .ref h1_3, .ref h1_4, .ref h1_5, .ref h1_6, .ref h1_7, .ref h1_8, .ref h1_9, .ref h1_10, .ref h1_11, .ref h1_12])), (h2, .inr (4, [.int h2_0, .long h2_1, .long h2_2, .ref h2_3, .long h2_4]))] s.heap := hP
  have hl := lv_entry ([.ref h0]) (n := 2) (Nat.le_of_ble_eq_true rfl)
  rw [lg_entry_eq]
  generalize (lg_sl ([.ref h0]) ++ List.replicate (2 - (lg_sl ([.ref h0])).length) Slot.unset).toArray = ls at hl ⊢
  have hl : lv_has ls 2 [(0, .ref h0)] := hl
  refine lv_aload_n hx hb dX6_goThroughWorlds_0 rfl (lv_at hl 0 rfl) ?_
  have hPc := hP.sub (ws' := [(h0, .inr (5, [.ref h0_0, .int h0_1, .ref h0_2, .ref h1, .ref h0_4, .ref h0_5, .ref h0_6, .ref h0_7, .ref h2, .int 0, .ref h0_10, .int h0_11])), (h1, .inr (0, [.int 0, .int h1_1, .ref h1_2, .ref h1_3, .ref h1_4, .ref h1_5, .ref h1_6, .ref h1_7, .ref h1_8, .ref h1_9, .ref h1_10, .ref h1_11, .ref h1_12]))]) [0, 1] rfl
  have hDc := hD.sub (ws' := [(h0, .inr (5, [.ref h0_0, .int h0_1, .ref h0_2, .ref h1, .ref h0_4, .ref h0_5, .ref h0_6, .ref h0_7, .ref h2, .int 0, .ref h0_10, .int h0_11])), (h1, .inr (0, [.int 0, .int h1_1, .ref h1_2, .ref h1_3, .ref h1_4, .ref h1_5, .ref h1_6, .ref h1_7, .ref h1_8, .ref h1_9, .ref h1_10, .ref h1_11, .ref h1_12]))]) [0, 1] (by decide) rfl
  have hKc := hK.sub (tys' := []) [] rfl
  have hFc := va_free (wc := [(h0, .inr (5, [.ref h0_0, .int h0_1, .ref h0_2, .ref h1, .ref h0_4, .ref h0_5, .ref h0_6, .ref h0_7, .ref h2, .int 0, .ref h0_10, .int h0_11])), (h1, .inr (0, [.int 0, .int h1_1, .ref h1_2, .ref h1_3, .ref h1_4, .ref h1_5, .ref h1_6, .ref h1_7, .ref h1_8, .ref h1_9, .ref h1_10, .ref h1_11, .ref h1_12]))]) hD hS hA [0, 1] rfl
  refine va_calli (va_runV (As := []) (rest := []) ⟨hx, hb, hml, hown, hts⟩ (c_X6_countFree l dC dI h0 h1 h0_0 h0_1 h0_2 h0_4 h0_5 h0_6 h0_7 h2 0 h0_10 h0_11 h1_1 h1_2 h1_3 h1_4 h1_5 h1_6 h1_7 h1_8 h1_9 h1_10 h1_11 h1_12 s.heap.size) (cwV 0 hts gX6_goThroughWorlds_X6_countFree rfl rfl rfl (by decide +kernel) ⟨Nat.le_of_ble_eq_true rfl, Nat.le_of_ble_eq_true rfl⟩) ⟨fun a U g mk q => by obtain ⟨q0, q1, qP, qK, qD⟩ := q; exact ⟨q0, q1, qP, va_K.moved (u := U) (U := U.calling g mk a) (Vm.Alike.refl U.vm) qK, qD⟩, va_recv hKc hPc (ci := 5) (q0 := 0) rfl rfl, fun U hU hW => ⟨rfl, by rw [hU], by rw [hU]; exact hPc, va_K.moved hW.alike hKc, hDc.weaken (fun _ _ _ _ => trivial)⟩⟩ rfl rfl hl.1 rfl (lv_room (Nat.le_of_ble_eq_true rfl)) dX6_goThroughWorlds_1 ⟨Nat.le_of_ble_eq_true rfl, Nat.le_of_ble_eq_true rfl⟩) hS (fun q _ h => hFc q h) hFc (fun rx2 u t Hx1 locs ht hvm hw hB hz1 hk1 hS => ?_)
  obtain ⟨hP1, hK1, hD1⟩ := hB
  rw [ht] at hP1
  have hK1 := va_K.moved hvm.symm hK1
  obtain ⟨hP, hD⟩ := va_join (wr := [(h2, .inr (4, [.int h2_0, .long h2_1, .long h2_2, .ref h2_3, .long h2_4]))]) (w1 := [(h0, .inr (5, [.ref h0_0, .int h0_1, .ref h0_2, .ref h1, .ref h0_4, .ref h0_5, .ref h0_6, .ref h0_7, .ref h2, .int 0, .ref h0_10, .int h0_11])), (h1, .inr (0, [.int 0, .int h1_1, .ref h1_2, .ref h1_3, .ref h1_4, .ref h1_5, .ref h1_6, .ref h1_7, .ref h1_8, .ref h1_9, .ref h1_10, .ref h1_11, .ref h1_12]))]) hP hD [0, 1] [2] rfl rfl (by decide) (by decide) hk1 hFc hP1 hD1
  have hK := (hK.sub (tys' := []) [] rfl).app hK1
  have hP : va_P (dC, dI) vwCl [(h2, .inr (4, [.int h2_0, .long h2_1, .long h2_2, .ref h2_3, .long h2_4])), (h0, .inr (5, [.ref h0_0, .int h0_1, .ref h0_2, .ref h1, .ref h0_4, .ref h0_5, .ref h0_6, .ref h0_7, .ref h2, .int 0, .ref h0_10, .int h0_11])), (h1, .inr (0, [.int 0, .int h1_1, .ref h1_2, .ref h1_3, .ref h1_4, .ref h1_5, .ref h1_6, .ref h1_7, .ref h1_8, .ref h1_9, .ref h1_10, .ref h1_11, .ref h1_12]))] Hx1 := hP
  have hD : va_D A [(h2, .inr (4, [.int h2_0, .long h2_1, .long h2_2, .ref h2_3, .long h2_4])), (h0, .inr (5, [.ref h0_0, .int h0_1, .ref h0_2, .ref h1, .ref h0_4, .ref h0_5, .ref h0_6, .ref h0_7, .ref h2, .int 0, .ref h0_10, .int h0_11])), (h1, .inr (0, [.int 0, .int h1_1, .ref h1_2, .ref h1_3, .ref h1_4, .ref h1_5, .ref h1_6, .ref h1_7, .ref h1_8, .ref h1_9, .ref h1_10, .ref h1_11, .ref h1_12]))] := hD
  have hK : va_K (dC, dI) vwCl [] s := hK
  obtain rfl : rx2 = 0 := hw
  refine lv_istore_n (lv' := [(1, .int 0), (0, .ref h0)]) hx hb dX6_goThroughWorlds_4 rfl hl (by decide) rfl (fun ls hl => ?_)
  refine lv_iload_n hx hb dX6_goThroughWorlds_5 rfl (lv_at hl 0 rfl) ?_
  refine lv_bipush (v := 12) hx hb dX6_goThroughWorlds_6 (by decide) ?_
  refine lv_icmp_le (tgt := 13) hx hb dX6_goThroughWorlds_8 (by decide) (fun _ => ?_) (fun hc => absurd (by decide) hc)
  refine lv_aload_n hx hb dX6_goThroughWorlds_13 rfl (lv_at hl 1 rfl) ?_
  refine va_get (D := (dC, dI)) (ci := 5) (v := .int 0) (C := RX6) (T := TX6) (N := 12) hx hb hts inX6_ hown hK hP 1 rfl rfl 9 (by decide) (hts (.fieldLink RX6 167 "GateWheel" "worldsAreFresh" "Z") (List.mem_of_getElem? (i := 1) rfl)) (fun _ h9 => h9) rfl dX6_goThroughWorlds_14 ?_
  refine lv_if_ne (tgt := 41) hx hb dX6_goThroughWorlds_17 (by decide) (fun hc => absurd rfl hc) (fun _ => ?_)
  refine lv_aload_n hx hb dX6_goThroughWorlds_20 rfl (lv_at hl 1 rfl) ?_
  refine va_get (D := (dC, dI)) (ci := 5) (v := .ref h2) (C := RX6) (T := TX6) (N := 12) hx hb hts inX6_ hown hK hP 1 rfl rfl 8 (by decide) (hts (.fieldLink RX6 43 "GateWheel" "allWorlds" "LGateWheel$Worlds;") (List.mem_of_getElem? (i := 2) rfl)) (fun _ h9 => h9) rfl dX6_goThroughWorlds_21 ?_
  refine lv_aload_n hx hb dX6_goThroughWorlds_24 rfl (lv_at hl 1 rfl) ?_
  refine va_get (D := (dC, dI)) (ci := 5) (v := .ref h1) (C := RX6) (T := TX6) (N := 12) hx hb hts inX6_ hown hK hP 1 rfl rfl 3 (by decide) (hts (.fieldLink RX6 23 "GateWheel" "circuit" "LGateWheel$Circuit;") (List.mem_of_getElem? (i := 3) rfl)) (fun _ h9 => h9) rfl dX6_goThroughWorlds_25 ?_
  refine lv_aload_n hx hb dX6_goThroughWorlds_28 rfl (lv_at hl 1 rfl) ?_
  refine va_get (D := (dC, dI)) (ci := 5) (v := .ref h0_5) (C := RX6) (T := TX6) (N := 12) hx hb hts inX6_ hown hK hP 1 rfl rfl 5 (by decide) (hts (.fieldLink RX6 30 "GateWheel" "values" "[I") (List.mem_of_getElem? (i := 4) rfl)) (fun _ h9 => h9) rfl dX6_goThroughWorlds_29 ?_
  refine lv_iload_n hx hb dX6_goThroughWorlds_32 rfl (lv_at hl 0 rfl) ?_
  have hPc := hP.sub (ws' := [(h2, .inr (4, [.int h2_0, .long h2_1, .long h2_2, .ref h2_3, .long h2_4])), (h1, .inr (0, [.int 0, .int h1_1, .ref h1_2, .ref h1_3, .ref h1_4, .ref h1_5, .ref h1_6, .ref h1_7, .ref h1_8, .ref h1_9, .ref h1_10, .ref h1_11, .ref h1_12]))]) [0, 2] rfl
  have hDc := hD.sub (ws' := [(h2, .inr (4, [.int h2_0, .long h2_1, .long h2_2, .ref h2_3, .long h2_4])), (h1, .inr (0, [.int 0, .int h1_1, .ref h1_2, .ref h1_3, .ref h1_4, .ref h1_5, .ref h1_6, .ref h1_7, .ref h1_8, .ref h1_9, .ref h1_10, .ref h1_11, .ref h1_12]))]) [0, 2] (by decide) rfl
  have hKc := hK.sub (tys' := []) [] rfl
  have hFc := va_free (wc := [(h2, .inr (4, [.int h2_0, .long h2_1, .long h2_2, .ref h2_3, .long h2_4])), (h1, .inr (0, [.int 0, .int h1_1, .ref h1_2, .ref h1_3, .ref h1_4, .ref h1_5, .ref h1_6, .ref h1_7, .ref h1_8, .ref h1_9, .ref h1_10, .ref h1_11, .ref h1_12]))]) hD hS hA [0, 2] rfl
  refine va_callv (va_runV (As := [.ref h1, .ref h0_5, .int 0]) (rest := []) ⟨hx, hb, hml, hown, hts⟩ (c_X5_goThrough l dC dI h2 h1 h2_0 h2_1 h2_2 h2_3 h2_4 h1_1 h1_2 h1_3 h1_4 h1_5 h1_6 h1_7 h1_8 h1_9 h1_10 h1_11 h1_12 h0_5 Hx1.size) (cwV 3 hts gX6_goThroughWorlds_X5_goThrough rfl rfl rfl (by decide +kernel) ⟨Nat.le_of_ble_eq_true rfl, Nat.le_of_ble_eq_true rfl⟩) ⟨fun a U g mk q => by obtain ⟨q0, q1, qP, qK, qD⟩ := q; exact ⟨q0, q1, qP, va_K.moved (u := U) (U := U.calling g mk a) (Vm.Alike.refl U.vm) qK, qD⟩, va_recv hKc hPc (ci := 4) (q0 := 0) rfl rfl, fun U hU hW => ⟨rfl, by rw [hU], by rw [hU]; exact hPc, va_K.moved hW.alike hKc, hDc.weaken (fun _ _ _ _ => trivial)⟩⟩ rfl rfl hl.1 rfl (lv_room (Nat.le_of_ble_eq_true rfl)) dX6_goThroughWorlds_33 ⟨Nat.le_of_ble_eq_true rfl, Nat.le_of_ble_eq_true rfl⟩) hS (fun q _ h => hFc q h) hFc (fun u t Hx3 locs ht hvm hw hB hz1 hk1 hS => ?_)
  obtain ⟨hP1, hK1, hD1⟩ := hB
  rw [ht] at hP1
  have hK1 := va_K.moved hvm.symm hK1
  obtain ⟨hP, hD⟩ := va_join (wr := [(h0, .inr (5, [.ref h0_0, .int h0_1, .ref h0_2, .ref h1, .ref h0_4, .ref h0_5, .ref h0_6, .ref h0_7, .ref h2, .int 0, .ref h0_10, .int h0_11]))]) (w1 := [(h2, .inr (4, [.int 1, .long 0, .long 0, .ref h2_3, .long 1])), (h1, .inr (0, [.int 0, .int h1_1, .ref h1_2, .ref h1_3, .ref h1_4, .ref h1_5, .ref h1_6, .ref h1_7, .ref h1_8, .ref h1_9, .ref h1_10, .ref h1_11, .ref h1_12]))]) hP hD [0, 2] [1] rfl rfl (by decide) (by decide) hk1 hFc hP1 hD1
  have hK := (hK.sub (tys' := []) [] rfl).app hK1
  have hP : va_P (dC, dI) vwCl [(h0, .inr (5, [.ref h0_0, .int h0_1, .ref h0_2, .ref h1, .ref h0_4, .ref h0_5, .ref h0_6, .ref h0_7, .ref h2, .int 0, .ref h0_10, .int h0_11])), (h2, .inr (4, [.int 1, .long 0, .long 0, .ref h2_3, .long 1])), (h1, .inr (0, [.int 0, .int h1_1, .ref h1_2, .ref h1_3, .ref h1_4, .ref h1_5, .ref h1_6, .ref h1_7, .ref h1_8, .ref h1_9, .ref h1_10, .ref h1_11, .ref h1_12]))] Hx3 := hP
  have hD : va_D A [(h0, .inr (5, [.ref h0_0, .int h0_1, .ref h0_2, .ref h1, .ref h0_4, .ref h0_5, .ref h0_6, .ref h0_7, .ref h2, .int 0, .ref h0_10, .int h0_11])), (h2, .inr (4, [.int 1, .long 0, .long 0, .ref h2_3, .long 1])), (h1, .inr (0, [.int 0, .int h1_1, .ref h1_2, .ref h1_3, .ref h1_4, .ref h1_5, .ref h1_6, .ref h1_7, .ref h1_8, .ref h1_9, .ref h1_10, .ref h1_11, .ref h1_12]))] := hD
  have hK : va_K (dC, dI) vwCl [] s := hK
  refine lv_aload_n hx hb dX6_goThroughWorlds_36 rfl (lv_at hl 1 rfl) ?_
  refine lv_iconst (v := 1) hx hb dX6_goThroughWorlds_37 (by decide) ?_
  refine va_put (D := (dC, dI)) (ci := 5) (v := .int 1) (ty := .boolean) (C := RX6) (T := TX6) (N := 12) hx hb hts inX6_ tyX6 tyX6_ok nmX6 hown hK hP hD hS 0 rfl rfl 9 (by decide) (hts (.fieldLink RX6 167 "GateWheel" "worldsAreFresh" "Z") (List.mem_of_getElem? (i := 1) rfl)) (fun _ h9 => h9) rfl (by decide +kernel) (by decide) rfl (Nat.le_of_ble_eq_true rfl) dX6_goThroughWorlds_38 (fun Hx5 locs hP hD hS => ?_)
  have hP : va_P (dC, dI) vwCl [(h0, .inr (5, [.ref h0_0, .int h0_1, .ref h0_2, .ref h1, .ref h0_4, .ref h0_5, .ref h0_6, .ref h0_7, .ref h2, .int 1, .ref h0_10, .int h0_11])), (h2, .inr (4, [.int 1, .long 0, .long 0, .ref h2_3, .long 1])), (h1, .inr (0, [.int 0, .int h1_1, .ref h1_2, .ref h1_3, .ref h1_4, .ref h1_5, .ref h1_6, .ref h1_7, .ref h1_8, .ref h1_9, .ref h1_10, .ref h1_11, .ref h1_12]))] Hx5 := hP
  have hD : va_D A [(h0, .inr (5, [.ref h0_0, .int h0_1, .ref h0_2, .ref h1, .ref h0_4, .ref h0_5, .ref h0_6, .ref h0_7, .ref h2, .int 1, .ref h0_10, .int h0_11])), (h2, .inr (4, [.int 1, .long 0, .long 0, .ref h2_3, .long 1])), (h1, .inr (0, [.int 0, .int h1_1, .ref h1_2, .ref h1_3, .ref h1_4, .ref h1_5, .ref h1_6, .ref h1_7, .ref h1_8, .ref h1_9, .ref h1_10, .ref h1_11, .ref h1_12]))] := hD
  refine lv_iconst (v := 1) hx hb dX6_goThroughWorlds_41 (by decide) ?_
  have hP9 := hP.sub (ws' := [(h0, .inr (5, [.ref h0_0, .int h0_1, .ref h0_2, .ref h1, .ref h0_4, .ref h0_5, .ref h0_6, .ref h0_7, .ref h2, .int 1, .ref h0_10, .int h0_11])), (h1, .inr (0, [.int 0, .int h1_1, .ref h1_2, .ref h1_3, .ref h1_4, .ref h1_5, .ref h1_6, .ref h1_7, .ref h1_8, .ref h1_9, .ref h1_10, .ref h1_11, .ref h1_12])), (h2, .inr (4, [.int 1, .long 0, .long 0, .ref h2_3, .long 1]))]) [0, 2, 1] rfl
  have hD9 := hD.sub (ws' := [(h0, .inr (5, [.ref h0_0, .int h0_1, .ref h0_2, .ref h1, .ref h0_4, .ref h0_5, .ref h0_6, .ref h0_7, .ref h2, .int 1, .ref h0_10, .int h0_11])), (h1, .inr (0, [.int 0, .int h1_1, .ref h1_2, .ref h1_3, .ref h1_4, .ref h1_5, .ref h1_6, .ref h1_7, .ref h1_8, .ref h1_9, .ref h1_10, .ref h1_11, .ref h1_12])), (h2, .inr (4, [.int 1, .long 0, .long 0, .ref h2_3, .long 1]))]) [0, 2, 1] (by decide) rfl
  have hK9 := hK.sub (tys' := []) [] rfl
  exact W.zret (v := 1) hx hb hr (by decide) (fun t ht hW => ⟨⟨1, (), rfl, rfl, by rw [ht]; exact hP9, va_K.moved hW.alike hK9, hD9⟩, hS.F ht⟩) hS.2.2 dX6_goThroughWorlds_42

set_option maxHeartbeats 4000000 in
set_option maxRecDepth 100000 in
theorem c_X6_legal (l : Launch) (dC : Nat → ClassId) (dI : Nat → Nat → Nat) (h0 : Nat) (h1 : Nat) (h2 : Nat) (h0_0 : Nat) (h0_1 : Int32) (h0_2 : Nat) (h0_4 : Nat) (h0_5 : Nat) (h0_6 : Nat) (h0_7 : Nat) (h0_10 : Nat) (h0_11 : Int32) (h1_1 : Int32) (h1_2 : Nat) (h1_3 : Nat) (h1_4 : Nat) (h1_5 : Nat) (h1_6 : Nat) (h1_7 : Nat) (h1_8 : Nat) (h1_9 : Nat) (h1_10 : Nat) (h1_11 : Nat) (h1_12 : Nat) (h2_0 : Int32) (h2_1 : Int64) (h2_2 : Int64) (h2_3 : Nat) (h2_4 : Int64) (sz : Nat) : Met l yX6_legal wsX6_legal ({ frames := 4, cells := 0, slots := 0, locals := 91 }) (va_Pc [.ref h0] (fun U => U.heap.size = sz ∧ va_P (dC, dI) vwCl [(h0, .inr (5, [.ref h0_0, .int h0_1, .ref h0_2, .ref h1, .ref h0_4, .ref h0_5, .ref h0_6, .ref h0_7, .ref h2, .int 0, .ref h0_10, .int h0_11])), (h1, .inr (0, [.int 0, .int h1_1, .ref h1_2, .ref h1_3, .ref h1_4, .ref h1_5, .ref h1_6, .ref h1_7, .ref h1_8, .ref h1_9, .ref h1_10, .ref h1_11, .ref h1_12])), (h2, .inr (4, [.int h2_0, .long h2_1, .long h2_2, .ref h2_3, .long h2_4]))] U.heap ∧ va_K (dC, dI) vwCl [] U ∧ va_D (fun _ => True) [(h0, .inr (5, [.ref h0_0, .int h0_1, .ref h0_2, .ref h1, .ref h0_4, .ref h0_5, .ref h0_6, .ref h0_7, .ref h2, .int 0, .ref h0_10, .int h0_11])), (h1, .inr (0, [.int 0, .int h1_1, .ref h1_2, .ref h1_3, .ref h1_4, .ref h1_5, .ref h1_6, .ref h1_7, .ref h1_8, .ref h1_9, .ref h1_10, .ref h1_11, .ref h1_12])), (h2, .inr (4, [.int h2_0, .long h2_1, .long h2_2, .ref h2_3, .long h2_4]))])) (va_Qi (fun (r : Int32) (_ : Unit) => r = 1) (fun (_ : Unit) (_ : State) => True) (va_A [(h0, .inr (5, [.ref h0_0, .int h0_1, .ref h0_2, .ref h1, .ref h0_4, .ref h0_5, .ref h0_6, .ref h0_7, .ref h2, .int 0, .ref h0_10, .int h0_11])), (h1, .inr (0, [.int 0, .int h1_1, .ref h1_2, .ref h1_3, .ref h1_4, .ref h1_5, .ref h1_6, .ref h1_7, .ref h1_8, .ref h1_9, .ref h1_10, .ref h1_11, .ref h1_12])), (h2, .inr (4, [.int h2_0, .long h2_1, .long h2_2, .ref h2_3, .long h2_4]))] sz)) 0 0 (va_A [(h0, .inr (5, [.ref h0_0, .int h0_1, .ref h0_2, .ref h1, .ref h0_4, .ref h0_5, .ref h0_6, .ref h0_7, .ref h2, .int 0, .ref h0_10, .int h0_11])), (h1, .inr (0, [.int 0, .int h1_1, .ref h1_2, .ref h1_3, .ref h1_4, .ref h1_5, .ref h1_6, .ref h1_7, .ref h1_8, .ref h1_9, .ref h1_10, .ref h1_11, .ref h1_12])), (h2, .inr (4, [.int h2_0, .long h2_1, .long h2_2, .ref h2_3, .long h2_4]))] sz) := by
  refine Met.ofW (cc := cX6_legal) (maxL := 1) (ret := (some .int)) (by decide) rfl ?_
  intro p e s m args below meth c s₁ B hml hv
  obtain ⟨rfl, hsz, hP, hK, hD0⟩ := hv
  have hx := B.exec
  have hb := B.bytes
  have hr := B.returns
  have hts := atoms_spec (ws := wsX6_legal) B.pre
  have hown : s.vm.findClass RX6 = some m.cls := findClass_of_methodNamed B.named
  have hlocks := B.notSynchronized
  have inX5_ : ∀ w ∈ wsX50, w ∈ wsX6_legal := fun _ h => List.mem_cons_of_mem _ (List.mem_append_left _ (List.mem_append_right _ h))
  have inX6_ : ∀ w ∈ wsX60, w ∈ wsX6_legal := fun _ h => List.mem_cons_of_mem _ (List.mem_append_left _ (List.mem_append_left _ (List.mem_append_right _ h)))
  subst hsz
  have hD := hD0.self (sz := s.heap.size)
  generalize hAe : va_A [(h0, .inr (5, [.ref h0_0, .int h0_1, .ref h0_2, .ref h1, .ref h0_4, .ref h0_5, .ref h0_6, .ref h0_7, .ref h2, .int 0, .ref h0_10, .int h0_11])), (h1, .inr (0, [.int 0, .int h1_1, .ref h1_2, .ref h1_3, .ref h1_4, .ref h1_5, .ref h1_6, .ref h1_7, .ref h1_8, .ref h1_9, .ref h1_10, .ref h1_11, .ref h1_12])), (h2, .inr (4, [.int h2_0, .long h2_1, .long h2_2, .ref h2_3, .long h2_4]))] s.heap.size = A at hD ⊢
  have hA : ∀ q : Nat, s.heap.size ≤ q → A q := fun q h => by rw [← hAe]; exact Or.inr h
  have hS : va_S A s.heap s.heap [] := va_S.rf
  have hP : va_P (dC, dI) vwCl [(h0, .inr (5, [.ref h0_0, .int h0_1, .ref h0_2, .ref h1, .ref h0_4, .ref h0_5, .ref h0_6, .ref h0_7, .ref h2, .int 0, .ref h0_10, .int h0_11])), (h1, .inr (0, [.int 0, .int h1_1, .ref h1_2, .ref h1_3, .ref h1_4, .ref h1_5, .ref h1_6, .ref h1_7, .ref h1_8, .ref h1_9, .ref h1_10, .ref h1_11, .ref h1_12])), (h2, .inr (4, [.int h2_0, .long h2_1, .long h2_2, .ref h2_3, .long h2_4]))] s.heap := hP
  have hl := lv_entry ([.ref h0]) (n := 1) (Nat.le_of_ble_eq_true rfl)
  rw [lg_entry_eq]
  generalize (lg_sl ([.ref h0]) ++ List.replicate (1 - (lg_sl ([.ref h0])).length) Slot.unset).toArray = ls at hl ⊢
  have hl : lv_has ls 1 [(0, .ref h0)] := hl
  refine lv_aload_n hx hb dX6_legal_0 rfl (lv_at hl 0 rfl) ?_
  have hPc := hP.sub (ws' := [(h0, .inr (5, [.ref h0_0, .int h0_1, .ref h0_2, .ref h1, .ref h0_4, .ref h0_5, .ref h0_6, .ref h0_7, .ref h2, .int 0, .ref h0_10, .int h0_11])), (h1, .inr (0, [.int 0, .int h1_1, .ref h1_2, .ref h1_3, .ref h1_4, .ref h1_5, .ref h1_6, .ref h1_7, .ref h1_8, .ref h1_9, .ref h1_10, .ref h1_11, .ref h1_12])), (h2, .inr (4, [.int h2_0, .long h2_1, .long h2_2, .ref h2_3, .long h2_4]))]) [0, 1, 2] rfl
  have hDc := hD.sub (ws' := [(h0, .inr (5, [.ref h0_0, .int h0_1, .ref h0_2, .ref h1, .ref h0_4, .ref h0_5, .ref h0_6, .ref h0_7, .ref h2, .int 0, .ref h0_10, .int h0_11])), (h1, .inr (0, [.int 0, .int h1_1, .ref h1_2, .ref h1_3, .ref h1_4, .ref h1_5, .ref h1_6, .ref h1_7, .ref h1_8, .ref h1_9, .ref h1_10, .ref h1_11, .ref h1_12])), (h2, .inr (4, [.int h2_0, .long h2_1, .long h2_2, .ref h2_3, .long h2_4]))]) [0, 1, 2] (by decide) rfl
  have hKc := hK.sub (tys' := []) [] rfl
  have hFc := va_free (wc := [(h0, .inr (5, [.ref h0_0, .int h0_1, .ref h0_2, .ref h1, .ref h0_4, .ref h0_5, .ref h0_6, .ref h0_7, .ref h2, .int 0, .ref h0_10, .int h0_11])), (h1, .inr (0, [.int 0, .int h1_1, .ref h1_2, .ref h1_3, .ref h1_4, .ref h1_5, .ref h1_6, .ref h1_7, .ref h1_8, .ref h1_9, .ref h1_10, .ref h1_11, .ref h1_12])), (h2, .inr (4, [.int h2_0, .long h2_1, .long h2_2, .ref h2_3, .long h2_4]))]) hD hS hA [0, 1, 2] rfl
  refine va_calli (va_runV (As := []) (rest := []) ⟨hx, hb, hml, hown, hts⟩ (c_X6_goThroughWorlds l dC dI h0 h1 h2 h0_0 h0_1 h0_2 h0_4 h0_5 h0_6 h0_7 h0_10 h0_11 h1_1 h1_2 h1_3 h1_4 h1_5 h1_6 h1_7 h1_8 h1_9 h1_10 h1_11 h1_12 h2_0 h2_1 h2_2 h2_3 h2_4 s.heap.size) (cwV 0 hts gX6_legal_X6_goThroughWorlds rfl rfl rfl (by decide +kernel) ⟨Nat.le_of_ble_eq_true rfl, Nat.le_of_ble_eq_true rfl⟩) ⟨fun a U g mk q => by obtain ⟨q0, q1, qP, qK, qD⟩ := q; exact ⟨q0, q1, qP, va_K.moved (u := U) (U := U.calling g mk a) (Vm.Alike.refl U.vm) qK, qD⟩, va_recv hKc hPc (ci := 5) (q0 := 0) rfl rfl, fun U hU hW => ⟨rfl, by rw [hU], by rw [hU]; exact hPc, va_K.moved hW.alike hKc, hDc.weaken (fun _ _ _ _ => trivial)⟩⟩ rfl rfl hl.1 rfl (lv_room (Nat.le_of_ble_eq_true rfl)) dX6_legal_1 ⟨Nat.le_of_ble_eq_true rfl, Nat.le_of_ble_eq_true rfl⟩) hS (fun q _ h => hFc q h) hFc (fun rx2 u t Hx1 locs ht hvm hw hB hz1 hk1 hS => ?_)
  obtain ⟨hP1, hK1, hD1⟩ := hB
  rw [ht] at hP1
  have hK1 := va_K.moved hvm.symm hK1
  obtain ⟨hP, hD⟩ := va_join (wr := []) (w1 := [(h0, .inr (5, [.ref h0_0, .int h0_1, .ref h0_2, .ref h1, .ref h0_4, .ref h0_5, .ref h0_6, .ref h0_7, .ref h2, .int 1, .ref h0_10, .int h0_11])), (h1, .inr (0, [.int 0, .int h1_1, .ref h1_2, .ref h1_3, .ref h1_4, .ref h1_5, .ref h1_6, .ref h1_7, .ref h1_8, .ref h1_9, .ref h1_10, .ref h1_11, .ref h1_12])), (h2, .inr (4, [.int 1, .long 0, .long 0, .ref h2_3, .long 1]))]) hP hD [0, 1, 2] [] rfl rfl (by decide) (by decide) hk1 hFc hP1 hD1
  have hK := (hK.sub (tys' := []) [] rfl).app hK1
  have hP : va_P (dC, dI) vwCl [(h0, .inr (5, [.ref h0_0, .int h0_1, .ref h0_2, .ref h1, .ref h0_4, .ref h0_5, .ref h0_6, .ref h0_7, .ref h2, .int 1, .ref h0_10, .int h0_11])), (h1, .inr (0, [.int 0, .int h1_1, .ref h1_2, .ref h1_3, .ref h1_4, .ref h1_5, .ref h1_6, .ref h1_7, .ref h1_8, .ref h1_9, .ref h1_10, .ref h1_11, .ref h1_12])), (h2, .inr (4, [.int 1, .long 0, .long 0, .ref h2_3, .long 1]))] Hx1 := hP
  have hD : va_D A [(h0, .inr (5, [.ref h0_0, .int h0_1, .ref h0_2, .ref h1, .ref h0_4, .ref h0_5, .ref h0_6, .ref h0_7, .ref h2, .int 1, .ref h0_10, .int h0_11])), (h1, .inr (0, [.int 0, .int h1_1, .ref h1_2, .ref h1_3, .ref h1_4, .ref h1_5, .ref h1_6, .ref h1_7, .ref h1_8, .ref h1_9, .ref h1_10, .ref h1_11, .ref h1_12])), (h2, .inr (4, [.int 1, .long 0, .long 0, .ref h2_3, .long 1]))] := hD
  have hK : va_K (dC, dI) vwCl [] s := hK
  obtain rfl : rx2 = 1 := hw
  refine lv_if_eq (tgt := 17) hx hb dX6_legal_4 (by decide) (fun hc => absurd hc (by decide)) (fun _ => ?_)
  refine lv_aload_n hx hb dX6_legal_7 rfl (lv_at hl 0 rfl) ?_
  refine va_get (D := (dC, dI)) (ci := 5) (v := .ref h2) (C := RX6) (T := TX6) (N := 12) hx hb hts inX6_ hown hK hP 0 rfl rfl 8 (by decide) (hts (.fieldLink RX6 43 "GateWheel" "allWorlds" "LGateWheel$Worlds;") (List.mem_of_getElem? (i := 1) rfl)) (fun _ h9 => h9) rfl dX6_legal_8 ?_
  refine va_get (D := (dC, dI)) (ci := 4) (v := .int 1) (C := RX5) (T := TX5) (N := 5) hx hb hts inX5_ hown hK hP 2 rfl rfl 0 (by decide) (hts (.fieldLink RX6 123 "GateWheel$Worlds" "legalCount" "I") (List.mem_of_getElem? (i := 2) rfl)) (fun _ h9 => h9) rfl dX6_legal_11 ?_
  refine lv_goto (tgt := 19) hx hb dX6_legal_14 (by decide) ?_
  exact W.iret (v := 1) hx hb hr (fun t ht hW => ⟨⟨1, (), rfl, rfl, trivial⟩, hS.F ht⟩) hS.2.2 dX6_legal_19

set_option maxHeartbeats 4000000 in
set_option maxRecDepth 100000 in
theorem c_X6_sharp (l : Launch) (dC : Nat → ClassId) (dI : Nat → Nat → Nat) (h0 : Nat) (h1 : Nat) (h2 : Nat) (h0_0 : Nat) (h0_1 : Int32) (h0_2 : Nat) (h0_4 : Nat) (h0_5 : Nat) (h0_6 : Nat) (h0_7 : Nat) (h0_10 : Nat) (h0_11 : Int32) (h1_1 : Int32) (h1_2 : Nat) (h1_3 : Nat) (h1_4 : Nat) (h1_5 : Nat) (h1_6 : Nat) (h1_7 : Nat) (h1_8 : Nat) (h1_9 : Nat) (h1_10 : Nat) (h1_11 : Nat) (h1_12 : Nat) (h2_0 : Int32) (h2_1 : Int64) (h2_2 : Int64) (h2_3 : Nat) (h2_4 : Int64) (p1 : Int32) (sz : Nat) : Met l yX6_sharp wsX6_sharp ({ frames := 4, cells := 0, slots := 0, locals := 91 }) (va_Pc [.ref h0, .int p1] (fun U => U.heap.size = sz ∧ va_P (dC, dI) vwCl [(h0, .inr (5, [.ref h0_0, .int h0_1, .ref h0_2, .ref h1, .ref h0_4, .ref h0_5, .ref h0_6, .ref h0_7, .ref h2, .int 0, .ref h0_10, .int h0_11])), (h1, .inr (0, [.int 0, .int h1_1, .ref h1_2, .ref h1_3, .ref h1_4, .ref h1_5, .ref h1_6, .ref h1_7, .ref h1_8, .ref h1_9, .ref h1_10, .ref h1_11, .ref h1_12])), (h2, .inr (4, [.int h2_0, .long h2_1, .long h2_2, .ref h2_3, .long h2_4]))] U.heap ∧ va_K (dC, dI) vwCl [] U ∧ va_D (fun _ => True) [(h0, .inr (5, [.ref h0_0, .int h0_1, .ref h0_2, .ref h1, .ref h0_4, .ref h0_5, .ref h0_6, .ref h0_7, .ref h2, .int 0, .ref h0_10, .int h0_11])), (h1, .inr (0, [.int 0, .int h1_1, .ref h1_2, .ref h1_3, .ref h1_4, .ref h1_5, .ref h1_6, .ref h1_7, .ref h1_8, .ref h1_9, .ref h1_10, .ref h1_11, .ref h1_12])), (h2, .inr (4, [.int h2_0, .long h2_1, .long h2_2, .ref h2_3, .long h2_4]))])) (va_Qi (fun (r : Int32) (_ : Unit) => r = (-1)) (fun (_ : Unit) (_ : State) => True) (va_A [(h0, .inr (5, [.ref h0_0, .int h0_1, .ref h0_2, .ref h1, .ref h0_4, .ref h0_5, .ref h0_6, .ref h0_7, .ref h2, .int 0, .ref h0_10, .int h0_11])), (h1, .inr (0, [.int 0, .int h1_1, .ref h1_2, .ref h1_3, .ref h1_4, .ref h1_5, .ref h1_6, .ref h1_7, .ref h1_8, .ref h1_9, .ref h1_10, .ref h1_11, .ref h1_12])), (h2, .inr (4, [.int h2_0, .long h2_1, .long h2_2, .ref h2_3, .long h2_4]))] sz)) 0 0 (va_A [(h0, .inr (5, [.ref h0_0, .int h0_1, .ref h0_2, .ref h1, .ref h0_4, .ref h0_5, .ref h0_6, .ref h0_7, .ref h2, .int 0, .ref h0_10, .int h0_11])), (h1, .inr (0, [.int 0, .int h1_1, .ref h1_2, .ref h1_3, .ref h1_4, .ref h1_5, .ref h1_6, .ref h1_7, .ref h1_8, .ref h1_9, .ref h1_10, .ref h1_11, .ref h1_12])), (h2, .inr (4, [.int h2_0, .long h2_1, .long h2_2, .ref h2_3, .long h2_4]))] sz) := by
  refine Met.ofW (cc := cX6_sharp) (maxL := 2) (ret := (some .int)) (by decide) rfl ?_
  intro p e s m args below meth c s₁ B hml hv
  obtain ⟨rfl, hsz, hP, hK, hD0⟩ := hv
  have hx := B.exec
  have hb := B.bytes
  have hr := B.returns
  have hts := atoms_spec (ws := wsX6_sharp) B.pre
  have hown : s.vm.findClass RX6 = some m.cls := findClass_of_methodNamed B.named
  have hlocks := B.notSynchronized
  have inX6_ : ∀ w ∈ wsX60, w ∈ wsX6_sharp := fun _ h => List.mem_cons_of_mem _ (List.mem_append_left _ (List.mem_append_left _ (List.mem_append_right _ h)))
  subst hsz
  have hD := hD0.self (sz := s.heap.size)
  generalize hAe : va_A [(h0, .inr (5, [.ref h0_0, .int h0_1, .ref h0_2, .ref h1, .ref h0_4, .ref h0_5, .ref h0_6, .ref h0_7, .ref h2, .int 0, .ref h0_10, .int h0_11])), (h1, .inr (0, [.int 0, .int h1_1, .ref h1_2, .ref h1_3, .ref h1_4, .ref h1_5, .ref h1_6, .ref h1_7, .ref h1_8, .ref h1_9, .ref h1_10, .ref h1_11, .ref h1_12])), (h2, .inr (4, [.int h2_0, .long h2_1, .long h2_2, .ref h2_3, .long h2_4]))] s.heap.size = A at hD ⊢
  have hA : ∀ q : Nat, s.heap.size ≤ q → A q := fun q h => by rw [← hAe]; exact Or.inr h
  have hS : va_S A s.heap s.heap [] := va_S.rf
  have hP : va_P (dC, dI) vwCl [(h0, .inr (5, [.ref h0_0, .int h0_1, .ref h0_2, .ref h1, .ref h0_4, .ref h0_5, .ref h0_6, .ref h0_7, .ref h2, .int 0, .ref h0_10, .int h0_11])), (h1, .inr (0, [.int 0, .int h1_1, .ref h1_2, .ref h1_3, .ref h1_4, .ref h1_5, .ref h1_6, .ref h1_7, .ref h1_8, .ref h1_9, .ref h1_10, .ref h1_11, .ref h1_12])), (h2, .inr (4, [.int h2_0, .long h2_1, .long h2_2, .ref h2_3, .long h2_4]))] s.heap := hP
  have hl := lv_entry ([.ref h0, .int p1]) (n := 2) (Nat.le_of_ble_eq_true rfl)
  rw [lg_entry_eq]
  generalize (lg_sl ([.ref h0, .int p1]) ++ List.replicate (2 - (lg_sl ([.ref h0, .int p1])).length) Slot.unset).toArray = ls at hl ⊢
  have hl : lv_has ls 2 [(0, .ref h0), (1, .int p1)] := hl
  refine lv_aload_n hx hb dX6_sharp_0 rfl (lv_at hl 0 rfl) ?_
  have hPc := hP.sub (ws' := [(h0, .inr (5, [.ref h0_0, .int h0_1, .ref h0_2, .ref h1, .ref h0_4, .ref h0_5, .ref h0_6, .ref h0_7, .ref h2, .int 0, .ref h0_10, .int h0_11])), (h1, .inr (0, [.int 0, .int h1_1, .ref h1_2, .ref h1_3, .ref h1_4, .ref h1_5, .ref h1_6, .ref h1_7, .ref h1_8, .ref h1_9, .ref h1_10, .ref h1_11, .ref h1_12])), (h2, .inr (4, [.int h2_0, .long h2_1, .long h2_2, .ref h2_3, .long h2_4]))]) [0, 1, 2] rfl
  have hDc := hD.sub (ws' := [(h0, .inr (5, [.ref h0_0, .int h0_1, .ref h0_2, .ref h1, .ref h0_4, .ref h0_5, .ref h0_6, .ref h0_7, .ref h2, .int 0, .ref h0_10, .int h0_11])), (h1, .inr (0, [.int 0, .int h1_1, .ref h1_2, .ref h1_3, .ref h1_4, .ref h1_5, .ref h1_6, .ref h1_7, .ref h1_8, .ref h1_9, .ref h1_10, .ref h1_11, .ref h1_12])), (h2, .inr (4, [.int h2_0, .long h2_1, .long h2_2, .ref h2_3, .long h2_4]))]) [0, 1, 2] (by decide) rfl
  have hKc := hK.sub (tys' := []) [] rfl
  have hFc := va_free (wc := [(h0, .inr (5, [.ref h0_0, .int h0_1, .ref h0_2, .ref h1, .ref h0_4, .ref h0_5, .ref h0_6, .ref h0_7, .ref h2, .int 0, .ref h0_10, .int h0_11])), (h1, .inr (0, [.int 0, .int h1_1, .ref h1_2, .ref h1_3, .ref h1_4, .ref h1_5, .ref h1_6, .ref h1_7, .ref h1_8, .ref h1_9, .ref h1_10, .ref h1_11, .ref h1_12])), (h2, .inr (4, [.int h2_0, .long h2_1, .long h2_2, .ref h2_3, .long h2_4]))]) hD hS hA [0, 1, 2] rfl
  refine va_calli (va_runV (As := []) (rest := []) ⟨hx, hb, hml, hown, hts⟩ (c_X6_goThroughWorlds l dC dI h0 h1 h2 h0_0 h0_1 h0_2 h0_4 h0_5 h0_6 h0_7 h0_10 h0_11 h1_1 h1_2 h1_3 h1_4 h1_5 h1_6 h1_7 h1_8 h1_9 h1_10 h1_11 h1_12 h2_0 h2_1 h2_2 h2_3 h2_4 s.heap.size) (cwV 0 hts gX6_sharp_X6_goThroughWorlds rfl rfl rfl (by decide +kernel) ⟨Nat.le_of_ble_eq_true rfl, Nat.le_of_ble_eq_true rfl⟩) ⟨fun a U g mk q => by obtain ⟨q0, q1, qP, qK, qD⟩ := q; exact ⟨q0, q1, qP, va_K.moved (u := U) (U := U.calling g mk a) (Vm.Alike.refl U.vm) qK, qD⟩, va_recv hKc hPc (ci := 5) (q0 := 0) rfl rfl, fun U hU hW => ⟨rfl, by rw [hU], by rw [hU]; exact hPc, va_K.moved hW.alike hKc, hDc.weaken (fun _ _ _ _ => trivial)⟩⟩ rfl rfl hl.1 rfl (lv_room (Nat.le_of_ble_eq_true rfl)) dX6_sharp_1 ⟨Nat.le_of_ble_eq_true rfl, Nat.le_of_ble_eq_true rfl⟩) hS (fun q _ h => hFc q h) hFc (fun rx2 u t Hx1 locs ht hvm hw hB hz1 hk1 hS => ?_)
  obtain ⟨hP1, hK1, hD1⟩ := hB
  rw [ht] at hP1
  have hK1 := va_K.moved hvm.symm hK1
  obtain ⟨hP, hD⟩ := va_join (wr := []) (w1 := [(h0, .inr (5, [.ref h0_0, .int h0_1, .ref h0_2, .ref h1, .ref h0_4, .ref h0_5, .ref h0_6, .ref h0_7, .ref h2, .int 1, .ref h0_10, .int h0_11])), (h1, .inr (0, [.int 0, .int h1_1, .ref h1_2, .ref h1_3, .ref h1_4, .ref h1_5, .ref h1_6, .ref h1_7, .ref h1_8, .ref h1_9, .ref h1_10, .ref h1_11, .ref h1_12])), (h2, .inr (4, [.int 1, .long 0, .long 0, .ref h2_3, .long 1]))]) hP hD [0, 1, 2] [] rfl rfl (by decide) (by decide) hk1 hFc hP1 hD1
  have hK := (hK.sub (tys' := []) [] rfl).app hK1
  have hP : va_P (dC, dI) vwCl [(h0, .inr (5, [.ref h0_0, .int h0_1, .ref h0_2, .ref h1, .ref h0_4, .ref h0_5, .ref h0_6, .ref h0_7, .ref h2, .int 1, .ref h0_10, .int h0_11])), (h1, .inr (0, [.int 0, .int h1_1, .ref h1_2, .ref h1_3, .ref h1_4, .ref h1_5, .ref h1_6, .ref h1_7, .ref h1_8, .ref h1_9, .ref h1_10, .ref h1_11, .ref h1_12])), (h2, .inr (4, [.int 1, .long 0, .long 0, .ref h2_3, .long 1]))] Hx1 := hP
  have hD : va_D A [(h0, .inr (5, [.ref h0_0, .int h0_1, .ref h0_2, .ref h1, .ref h0_4, .ref h0_5, .ref h0_6, .ref h0_7, .ref h2, .int 1, .ref h0_10, .int h0_11])), (h1, .inr (0, [.int 0, .int h1_1, .ref h1_2, .ref h1_3, .ref h1_4, .ref h1_5, .ref h1_6, .ref h1_7, .ref h1_8, .ref h1_9, .ref h1_10, .ref h1_11, .ref h1_12])), (h2, .inr (4, [.int 1, .long 0, .long 0, .ref h2_3, .long 1]))] := hD
  have hK : va_K (dC, dI) vwCl [] s := hK
  obtain rfl : rx2 = 1 := hw
  refine lv_if_ne (tgt := 10) hx hb dX6_sharp_4 (by decide) (fun _ => ?_) (fun hc => absurd hc (by decide))
  refine lv_aload_n hx hb dX6_sharp_10 rfl (lv_at hl 0 rfl) ?_
  refine va_get (D := (dC, dI)) (ci := 5) (v := .ref h1) (C := RX6) (T := TX6) (N := 12) hx hb hts inX6_ hown hK hP 0 rfl rfl 3 (by decide) (hts (.fieldLink RX6 23 "GateWheel" "circuit" "LGateWheel$Circuit;") (List.mem_of_getElem? (i := 1) rfl)) (fun _ h9 => h9) rfl dX6_sharp_11 ?_
  refine lv_iload_n hx hb dX6_sharp_14 rfl (lv_at hl 1 rfl) ?_
  have hPc := hP.sub (ws' := [(h1, .inr (0, [.int 0, .int h1_1, .ref h1_2, .ref h1_3, .ref h1_4, .ref h1_5, .ref h1_6, .ref h1_7, .ref h1_8, .ref h1_9, .ref h1_10, .ref h1_11, .ref h1_12]))]) [1] rfl
  have hDc := hD.sub (ws' := [(h1, .inr (0, [.int 0, .int h1_1, .ref h1_2, .ref h1_3, .ref h1_4, .ref h1_5, .ref h1_6, .ref h1_7, .ref h1_8, .ref h1_9, .ref h1_10, .ref h1_11, .ref h1_12]))]) [1] (by decide) rfl
  have hKc := hK.sub (tys' := []) [] rfl
  have hFc := va_free (wc := [(h1, .inr (0, [.int 0, .int h1_1, .ref h1_2, .ref h1_3, .ref h1_4, .ref h1_5, .ref h1_6, .ref h1_7, .ref h1_8, .ref h1_9, .ref h1_10, .ref h1_11, .ref h1_12]))]) hD hS hA [1] rfl
  refine va_calli (va_runV (As := [.int p1]) (rest := []) ⟨hx, hb, hml, hown, hts⟩ (c_X0_has l dC dI h1 h1_1 h1_2 h1_3 h1_4 h1_5 h1_6 h1_7 h1_8 h1_9 h1_10 h1_11 h1_12 p1 Hx1.size) (cwV 1 hts gX6_sharp_X0_has rfl rfl rfl (by decide +kernel) ⟨Nat.le_of_ble_eq_true rfl, Nat.le_of_ble_eq_true rfl⟩) ⟨fun a U g mk q => by obtain ⟨q0, q1, qP, qK, qD⟩ := q; exact ⟨q0, q1, qP, va_K.moved (u := U) (U := U.calling g mk a) (Vm.Alike.refl U.vm) qK, qD⟩, va_recv hKc hPc (ci := 0) (q0 := 0) rfl rfl, fun U hU hW => ⟨rfl, by rw [hU], by rw [hU]; exact hPc, va_K.moved hW.alike hKc, hDc.weaken (fun _ _ _ _ => trivial)⟩⟩ rfl rfl hl.1 rfl (lv_room (Nat.le_of_ble_eq_true rfl)) dX6_sharp_15 ⟨Nat.le_of_ble_eq_true rfl, Nat.le_of_ble_eq_true rfl⟩) hS (fun q _ h => hFc q h) hFc (fun rx4 u t Hx3 locs ht hvm hw hB hz1 hk1 hS => ?_)
  obtain ⟨hP1, hK1, hD1⟩ := hB
  rw [ht] at hP1
  have hK1 := va_K.moved hvm.symm hK1
  obtain ⟨hP, hD⟩ := va_join (wr := [(h0, .inr (5, [.ref h0_0, .int h0_1, .ref h0_2, .ref h1, .ref h0_4, .ref h0_5, .ref h0_6, .ref h0_7, .ref h2, .int 1, .ref h0_10, .int h0_11])), (h2, .inr (4, [.int 1, .long 0, .long 0, .ref h2_3, .long 1]))]) (w1 := [(h1, .inr (0, [.int 0, .int h1_1, .ref h1_2, .ref h1_3, .ref h1_4, .ref h1_5, .ref h1_6, .ref h1_7, .ref h1_8, .ref h1_9, .ref h1_10, .ref h1_11, .ref h1_12]))]) hP hD [1] [0, 2] rfl rfl (by decide) (by decide) hk1 hFc hP1 hD1
  have hK := (hK.sub (tys' := []) [] rfl).app hK1
  have hP : va_P (dC, dI) vwCl [(h0, .inr (5, [.ref h0_0, .int h0_1, .ref h0_2, .ref h1, .ref h0_4, .ref h0_5, .ref h0_6, .ref h0_7, .ref h2, .int 1, .ref h0_10, .int h0_11])), (h2, .inr (4, [.int 1, .long 0, .long 0, .ref h2_3, .long 1])), (h1, .inr (0, [.int 0, .int h1_1, .ref h1_2, .ref h1_3, .ref h1_4, .ref h1_5, .ref h1_6, .ref h1_7, .ref h1_8, .ref h1_9, .ref h1_10, .ref h1_11, .ref h1_12]))] Hx3 := hP
  have hD : va_D A [(h0, .inr (5, [.ref h0_0, .int h0_1, .ref h0_2, .ref h1, .ref h0_4, .ref h0_5, .ref h0_6, .ref h0_7, .ref h2, .int 1, .ref h0_10, .int h0_11])), (h2, .inr (4, [.int 1, .long 0, .long 0, .ref h2_3, .long 1])), (h1, .inr (0, [.int 0, .int h1_1, .ref h1_2, .ref h1_3, .ref h1_4, .ref h1_5, .ref h1_6, .ref h1_7, .ref h1_8, .ref h1_9, .ref h1_10, .ref h1_11, .ref h1_12]))] := hD
  have hK : va_K (dC, dI) vwCl [] s := hK
  obtain rfl : rx4 = 0 := hw
  refine lv_if_eq (tgt := 32) hx hb dX6_sharp_18 (by decide) (fun _ => ?_) (fun hc => absurd (by decide) hc)
  refine lv_iconst (v := (-1)) hx hb dX6_sharp_32 (by decide) ?_
  exact W.iret (v := (-1)) hx hb hr (fun t ht hW => ⟨⟨(-1), (), rfl, rfl, trivial⟩, hS.F ht⟩) hS.2.2 dX6_sharp_33

set_option maxHeartbeats 4000000 in
set_option maxRecDepth 100000 in
theorem c_X6_gainsaid (l : Launch) (dC : Nat → ClassId) (dI : Nat → Nat → Nat) (h0 : Nat) (h1 : Nat) (h2 : Nat) (h0_0 : Nat) (h0_1 : Int32) (h0_2 : Nat) (h0_4 : Nat) (h0_5 : Nat) (h0_6 : Nat) (h0_7 : Nat) (h0_10 : Nat) (h0_11 : Int32) (h1_1 : Int32) (h1_2 : Nat) (h1_3 : Nat) (h1_4 : Nat) (h1_5 : Nat) (h1_6 : Nat) (h1_7 : Nat) (h1_8 : Nat) (h1_9 : Nat) (h1_10 : Nat) (h1_11 : Nat) (h1_12 : Nat) (h2_0 : Int32) (h2_1 : Int64) (h2_2 : Int64) (h2_3 : Nat) (h2_4 : Int64) (sz : Nat) : Met l yX6_gainsaid wsX6_gainsaid ({ frames := 4, cells := 0, slots := 0, locals := 91 }) (va_Pc [.ref h0] (fun U => U.heap.size = sz ∧ va_P (dC, dI) vwCl [(h0, .inr (5, [.ref h0_0, .int h0_1, .ref h0_2, .ref h1, .ref h0_4, .ref h0_5, .ref h0_6, .ref h0_7, .ref h2, .int 0, .ref h0_10, .int h0_11])), (h1, .inr (0, [.int 0, .int h1_1, .ref h1_2, .ref h1_3, .ref h1_4, .ref h1_5, .ref h1_6, .ref h1_7, .ref h1_8, .ref h1_9, .ref h1_10, .ref h1_11, .ref h1_12])), (h2, .inr (4, [.int h2_0, .long h2_1, .long h2_2, .ref h2_3, .long h2_4]))] U.heap ∧ va_K (dC, dI) vwCl [] U ∧ va_D (fun _ => True) [(h0, .inr (5, [.ref h0_0, .int h0_1, .ref h0_2, .ref h1, .ref h0_4, .ref h0_5, .ref h0_6, .ref h0_7, .ref h2, .int 0, .ref h0_10, .int h0_11])), (h1, .inr (0, [.int 0, .int h1_1, .ref h1_2, .ref h1_3, .ref h1_4, .ref h1_5, .ref h1_6, .ref h1_7, .ref h1_8, .ref h1_9, .ref h1_10, .ref h1_11, .ref h1_12])), (h2, .inr (4, [.int h2_0, .long h2_1, .long h2_2, .ref h2_3, .long h2_4]))])) (va_Qi (fun (r : Int32) (_ : Unit) => r = (-1)) (fun (_ : Unit) (_ : State) => True) (va_A [(h0, .inr (5, [.ref h0_0, .int h0_1, .ref h0_2, .ref h1, .ref h0_4, .ref h0_5, .ref h0_6, .ref h0_7, .ref h2, .int 0, .ref h0_10, .int h0_11])), (h1, .inr (0, [.int 0, .int h1_1, .ref h1_2, .ref h1_3, .ref h1_4, .ref h1_5, .ref h1_6, .ref h1_7, .ref h1_8, .ref h1_9, .ref h1_10, .ref h1_11, .ref h1_12])), (h2, .inr (4, [.int h2_0, .long h2_1, .long h2_2, .ref h2_3, .long h2_4]))] sz)) 0 0 (va_A [(h0, .inr (5, [.ref h0_0, .int h0_1, .ref h0_2, .ref h1, .ref h0_4, .ref h0_5, .ref h0_6, .ref h0_7, .ref h2, .int 0, .ref h0_10, .int h0_11])), (h1, .inr (0, [.int 0, .int h1_1, .ref h1_2, .ref h1_3, .ref h1_4, .ref h1_5, .ref h1_6, .ref h1_7, .ref h1_8, .ref h1_9, .ref h1_10, .ref h1_11, .ref h1_12])), (h2, .inr (4, [.int h2_0, .long h2_1, .long h2_2, .ref h2_3, .long h2_4]))] sz) := by
  refine Met.ofW (cc := cX6_gainsaid) (maxL := 2) (ret := (some .int)) (by decide) rfl ?_
  intro p e s m args below meth c s₁ B hml hv
  obtain ⟨rfl, hsz, hP, hK, hD0⟩ := hv
  have hx := B.exec
  have hb := B.bytes
  have hr := B.returns
  have hts := atoms_spec (ws := wsX6_gainsaid) B.pre
  have hown : s.vm.findClass RX6 = some m.cls := findClass_of_methodNamed B.named
  have hlocks := B.notSynchronized
  have inX0_ : ∀ w ∈ wsX00, w ∈ wsX6_gainsaid := fun _ h => List.mem_cons_of_mem _ (List.mem_append_left _ (List.mem_append_right _ h))
  have inX6_ : ∀ w ∈ wsX60, w ∈ wsX6_gainsaid := fun _ h => List.mem_cons_of_mem _ (List.mem_append_left _ (List.mem_append_left _ (List.mem_append_right _ h)))
  subst hsz
  have hD := hD0.self (sz := s.heap.size)
  generalize hAe : va_A [(h0, .inr (5, [.ref h0_0, .int h0_1, .ref h0_2, .ref h1, .ref h0_4, .ref h0_5, .ref h0_6, .ref h0_7, .ref h2, .int 0, .ref h0_10, .int h0_11])), (h1, .inr (0, [.int 0, .int h1_1, .ref h1_2, .ref h1_3, .ref h1_4, .ref h1_5, .ref h1_6, .ref h1_7, .ref h1_8, .ref h1_9, .ref h1_10, .ref h1_11, .ref h1_12])), (h2, .inr (4, [.int h2_0, .long h2_1, .long h2_2, .ref h2_3, .long h2_4]))] s.heap.size = A at hD ⊢
  have hA : ∀ q : Nat, s.heap.size ≤ q → A q := fun q h => by rw [← hAe]; exact Or.inr h
  have hS : va_S A s.heap s.heap [] := va_S.rf
  have hP : va_P (dC, dI) vwCl [(h0, .inr (5, [.ref h0_0, .int h0_1, .ref h0_2, .ref h1, .ref h0_4, .ref h0_5, .ref h0_6, .ref h0_7, .ref h2, .int 0, .ref h0_10, .int h0_11])), (h1, .inr (0, [.int 0, .int h1_1, .ref h1_2, .ref h1_3, .ref h1_4, .ref h1_5, .ref h1_6, .ref h1_7, .ref h1_8, .ref h1_9, .ref h1_10, .ref h1_11, .ref h1_12])), (h2, .inr (4, [.int h2_0, .long h2_1, .long h2_2, .ref h2_3, .long h2_4]))] s.heap := hP
  have hl := lv_entry ([.ref h0]) (n := 2) (Nat.le_of_ble_eq_true rfl)
  rw [lg_entry_eq]
  generalize (lg_sl ([.ref h0]) ++ List.replicate (2 - (lg_sl ([.ref h0])).length) Slot.unset).toArray = ls at hl ⊢
  have hl : lv_has ls 2 [(0, .ref h0)] := hl
  refine lv_aload_n hx hb dX6_gainsaid_0 rfl (lv_at hl 0 rfl) ?_
  have hPc := hP.sub (ws' := [(h0, .inr (5, [.ref h0_0, .int h0_1, .ref h0_2, .ref h1, .ref h0_4, .ref h0_5, .ref h0_6, .ref h0_7, .ref h2, .int 0, .ref h0_10, .int h0_11])), (h1, .inr (0, [.int 0, .int h1_1, .ref h1_2, .ref h1_3, .ref h1_4, .ref h1_5, .ref h1_6, .ref h1_7, .ref h1_8, .ref h1_9, .ref h1_10, .ref h1_11, .ref h1_12])), (h2, .inr (4, [.int h2_0, .long h2_1, .long h2_2, .ref h2_3, .long h2_4]))]) [0, 1, 2] rfl
  have hDc := hD.sub (ws' := [(h0, .inr (5, [.ref h0_0, .int h0_1, .ref h0_2, .ref h1, .ref h0_4, .ref h0_5, .ref h0_6, .ref h0_7, .ref h2, .int 0, .ref h0_10, .int h0_11])), (h1, .inr (0, [.int 0, .int h1_1, .ref h1_2, .ref h1_3, .ref h1_4, .ref h1_5, .ref h1_6, .ref h1_7, .ref h1_8, .ref h1_9, .ref h1_10, .ref h1_11, .ref h1_12])), (h2, .inr (4, [.int h2_0, .long h2_1, .long h2_2, .ref h2_3, .long h2_4]))]) [0, 1, 2] (by decide) rfl
  have hKc := hK.sub (tys' := []) [] rfl
  have hFc := va_free (wc := [(h0, .inr (5, [.ref h0_0, .int h0_1, .ref h0_2, .ref h1, .ref h0_4, .ref h0_5, .ref h0_6, .ref h0_7, .ref h2, .int 0, .ref h0_10, .int h0_11])), (h1, .inr (0, [.int 0, .int h1_1, .ref h1_2, .ref h1_3, .ref h1_4, .ref h1_5, .ref h1_6, .ref h1_7, .ref h1_8, .ref h1_9, .ref h1_10, .ref h1_11, .ref h1_12])), (h2, .inr (4, [.int h2_0, .long h2_1, .long h2_2, .ref h2_3, .long h2_4]))]) hD hS hA [0, 1, 2] rfl
  refine va_calli (va_runV (As := []) (rest := []) ⟨hx, hb, hml, hown, hts⟩ (c_X6_goThroughWorlds l dC dI h0 h1 h2 h0_0 h0_1 h0_2 h0_4 h0_5 h0_6 h0_7 h0_10 h0_11 h1_1 h1_2 h1_3 h1_4 h1_5 h1_6 h1_7 h1_8 h1_9 h1_10 h1_11 h1_12 h2_0 h2_1 h2_2 h2_3 h2_4 s.heap.size) (cwV 0 hts gX6_gainsaid_X6_goThroughWorlds rfl rfl rfl (by decide +kernel) ⟨Nat.le_of_ble_eq_true rfl, Nat.le_of_ble_eq_true rfl⟩) ⟨fun a U g mk q => by obtain ⟨q0, q1, qP, qK, qD⟩ := q; exact ⟨q0, q1, qP, va_K.moved (u := U) (U := U.calling g mk a) (Vm.Alike.refl U.vm) qK, qD⟩, va_recv hKc hPc (ci := 5) (q0 := 0) rfl rfl, fun U hU hW => ⟨rfl, by rw [hU], by rw [hU]; exact hPc, va_K.moved hW.alike hKc, hDc.weaken (fun _ _ _ _ => trivial)⟩⟩ rfl rfl hl.1 rfl (lv_room (Nat.le_of_ble_eq_true rfl)) dX6_gainsaid_1 ⟨Nat.le_of_ble_eq_true rfl, Nat.le_of_ble_eq_true rfl⟩) hS (fun q _ h => hFc q h) hFc (fun rx2 u t Hx1 locs ht hvm hw hB hz1 hk1 hS => ?_)
  obtain ⟨hP1, hK1, hD1⟩ := hB
  rw [ht] at hP1
  have hK1 := va_K.moved hvm.symm hK1
  obtain ⟨hP, hD⟩ := va_join (wr := []) (w1 := [(h0, .inr (5, [.ref h0_0, .int h0_1, .ref h0_2, .ref h1, .ref h0_4, .ref h0_5, .ref h0_6, .ref h0_7, .ref h2, .int 1, .ref h0_10, .int h0_11])), (h1, .inr (0, [.int 0, .int h1_1, .ref h1_2, .ref h1_3, .ref h1_4, .ref h1_5, .ref h1_6, .ref h1_7, .ref h1_8, .ref h1_9, .ref h1_10, .ref h1_11, .ref h1_12])), (h2, .inr (4, [.int 1, .long 0, .long 0, .ref h2_3, .long 1]))]) hP hD [0, 1, 2] [] rfl rfl (by decide) (by decide) hk1 hFc hP1 hD1
  have hK := (hK.sub (tys' := []) [] rfl).app hK1
  have hP : va_P (dC, dI) vwCl [(h0, .inr (5, [.ref h0_0, .int h0_1, .ref h0_2, .ref h1, .ref h0_4, .ref h0_5, .ref h0_6, .ref h0_7, .ref h2, .int 1, .ref h0_10, .int h0_11])), (h1, .inr (0, [.int 0, .int h1_1, .ref h1_2, .ref h1_3, .ref h1_4, .ref h1_5, .ref h1_6, .ref h1_7, .ref h1_8, .ref h1_9, .ref h1_10, .ref h1_11, .ref h1_12])), (h2, .inr (4, [.int 1, .long 0, .long 0, .ref h2_3, .long 1]))] Hx1 := hP
  have hD : va_D A [(h0, .inr (5, [.ref h0_0, .int h0_1, .ref h0_2, .ref h1, .ref h0_4, .ref h0_5, .ref h0_6, .ref h0_7, .ref h2, .int 1, .ref h0_10, .int h0_11])), (h1, .inr (0, [.int 0, .int h1_1, .ref h1_2, .ref h1_3, .ref h1_4, .ref h1_5, .ref h1_6, .ref h1_7, .ref h1_8, .ref h1_9, .ref h1_10, .ref h1_11, .ref h1_12])), (h2, .inr (4, [.int 1, .long 0, .long 0, .ref h2_3, .long 1]))] := hD
  have hK : va_K (dC, dI) vwCl [] s := hK
  obtain rfl : rx2 = 1 := hw
  refine lv_if_ne (tgt := 10) hx hb dX6_gainsaid_4 (by decide) (fun _ => ?_) (fun hc => absurd hc (by decide))
  refine lv_iconst (v := 0) hx hb dX6_gainsaid_10 (by decide) ?_
  refine lv_istore_n (lv' := [(1, .int 0), (0, .ref h0)]) hx hb dX6_gainsaid_11 rfl hl (by decide) rfl (fun ls hl => ?_)
  refine lv_iload_n hx hb dX6_gainsaid_12 rfl (lv_at hl 0 rfl) ?_
  refine lv_aload_n hx hb dX6_gainsaid_13 rfl (lv_at hl 1 rfl) ?_
  refine va_get (D := (dC, dI)) (ci := 5) (v := .ref h1) (C := RX6) (T := TX6) (N := 12) hx hb hts inX6_ hown hK hP 0 rfl rfl 3 (by decide) (hts (.fieldLink RX6 23 "GateWheel" "circuit" "LGateWheel$Circuit;") (List.mem_of_getElem? (i := 1) rfl)) (fun _ h9 => h9) rfl dX6_gainsaid_14 ?_
  refine va_get (D := (dC, dI)) (ci := 0) (v := .int 0) (C := RX0) (T := TX0) (N := 13) hx hb hts inX0_ hown hK hP 1 rfl rfl 0 (by decide) (hts (.fieldLink RX6 66 "GateWheel$Circuit" "count" "I") (List.mem_of_getElem? (i := 2) rfl)) (fun _ h9 => h9) rfl dX6_gainsaid_17 ?_
  refine lv_icmp_ge (tgt := 60) hx hb dX6_gainsaid_20 (by decide) (fun _ => ?_) (fun hc => absurd (by decide) hc)
  refine lv_iconst (v := (-1)) hx hb dX6_gainsaid_60 (by decide) ?_
  exact W.iret (v := (-1)) hx hb hr (fun t ht hW => ⟨⟨(-1), (), rfl, rfl, trivial⟩, hS.F ht⟩) hS.2.2 dX6_gainsaid_61

set_option maxHeartbeats 4000000 in
set_option maxRecDepth 100000 in
theorem c_X6_worlds (l : Launch) (dC : Nat → ClassId) (dI : Nat → Nat → Nat) (h0 : Nat) (h1 : Nat) (h0_0 : Nat) (h0_1 : Int32) (h0_2 : Nat) (h0_4 : Nat) (h0_5 : Nat) (h0_6 : Nat) (h0_7 : Nat) (h0_8 : Nat) (h0_9 : Int32) (h0_10 : Nat) (h0_11 : Int32) (h1_1 : Int32) (h1_2 : Nat) (h1_3 : Nat) (h1_4 : Nat) (h1_5 : Nat) (h1_6 : Nat) (h1_7 : Nat) (h1_8 : Nat) (h1_9 : Nat) (h1_10 : Nat) (h1_11 : Nat) (h1_12 : Nat) (sz : Nat) : Met l yX6_worlds wsX6_worlds ({ frames := 1, cells := 0, slots := 0, locals := 22 }) (va_Pc [.ref h0] (fun U => U.heap.size = sz ∧ va_P (dC, dI) vwCl [(h0, .inr (5, [.ref h0_0, .int h0_1, .ref h0_2, .ref h1, .ref h0_4, .ref h0_5, .ref h0_6, .ref h0_7, .ref h0_8, .int h0_9, .ref h0_10, .int h0_11])), (h1, .inr (0, [.int 0, .int h1_1, .ref h1_2, .ref h1_3, .ref h1_4, .ref h1_5, .ref h1_6, .ref h1_7, .ref h1_8, .ref h1_9, .ref h1_10, .ref h1_11, .ref h1_12]))] U.heap ∧ va_K (dC, dI) vwCl [] U ∧ va_D (fun _ => True) [(h0, .inr (5, [.ref h0_0, .int h0_1, .ref h0_2, .ref h1, .ref h0_4, .ref h0_5, .ref h0_6, .ref h0_7, .ref h0_8, .int h0_9, .ref h0_10, .int h0_11])), (h1, .inr (0, [.int 0, .int h1_1, .ref h1_2, .ref h1_3, .ref h1_4, .ref h1_5, .ref h1_6, .ref h1_7, .ref h1_8, .ref h1_9, .ref h1_10, .ref h1_11, .ref h1_12]))])) (va_Qi (fun (r : Int32) (_ : Unit) => r = 1) (fun (_ : Unit) (_ : State) => True) (va_A [(h0, .inr (5, [.ref h0_0, .int h0_1, .ref h0_2, .ref h1, .ref h0_4, .ref h0_5, .ref h0_6, .ref h0_7, .ref h0_8, .int h0_9, .ref h0_10, .int h0_11])), (h1, .inr (0, [.int 0, .int h1_1, .ref h1_2, .ref h1_3, .ref h1_4, .ref h1_5, .ref h1_6, .ref h1_7, .ref h1_8, .ref h1_9, .ref h1_10, .ref h1_11, .ref h1_12]))] sz)) 0 0 (va_A [(h0, .inr (5, [.ref h0_0, .int h0_1, .ref h0_2, .ref h1, .ref h0_4, .ref h0_5, .ref h0_6, .ref h0_7, .ref h0_8, .int h0_9, .ref h0_10, .int h0_11])), (h1, .inr (0, [.int 0, .int h1_1, .ref h1_2, .ref h1_3, .ref h1_4, .ref h1_5, .ref h1_6, .ref h1_7, .ref h1_8, .ref h1_9, .ref h1_10, .ref h1_11, .ref h1_12]))] sz) := by
  refine Met.ofW (cc := cX6_worlds) (maxL := 2) (ret := (some .int)) (by decide) rfl ?_
  intro p e s m args below meth c s₁ B hml hv
  obtain ⟨rfl, hsz, hP, hK, hD0⟩ := hv
  have hx := B.exec
  have hb := B.bytes
  have hr := B.returns
  have hts := atoms_spec (ws := wsX6_worlds) B.pre
  have hown : s.vm.findClass RX6 = some m.cls := findClass_of_methodNamed B.named
  have hlocks := B.notSynchronized
  subst hsz
  have hD := hD0.self (sz := s.heap.size)
  generalize hAe : va_A [(h0, .inr (5, [.ref h0_0, .int h0_1, .ref h0_2, .ref h1, .ref h0_4, .ref h0_5, .ref h0_6, .ref h0_7, .ref h0_8, .int h0_9, .ref h0_10, .int h0_11])), (h1, .inr (0, [.int 0, .int h1_1, .ref h1_2, .ref h1_3, .ref h1_4, .ref h1_5, .ref h1_6, .ref h1_7, .ref h1_8, .ref h1_9, .ref h1_10, .ref h1_11, .ref h1_12]))] s.heap.size = A at hD ⊢
  have hA : ∀ q : Nat, s.heap.size ≤ q → A q := fun q h => by rw [← hAe]; exact Or.inr h
  have hS : va_S A s.heap s.heap [] := va_S.rf
  have hP : va_P (dC, dI) vwCl [(h0, .inr (5, [.ref h0_0, .int h0_1, .ref h0_2, .ref h1, .ref h0_4, .ref h0_5, .ref h0_6, .ref h0_7, .ref h0_8, .int h0_9, .ref h0_10, .int h0_11])), (h1, .inr (0, [.int 0, .int h1_1, .ref h1_2, .ref h1_3, .ref h1_4, .ref h1_5, .ref h1_6, .ref h1_7, .ref h1_8, .ref h1_9, .ref h1_10, .ref h1_11, .ref h1_12]))] s.heap := hP
  have hl := lv_entry ([.ref h0]) (n := 2) (Nat.le_of_ble_eq_true rfl)
  rw [lg_entry_eq]
  generalize (lg_sl ([.ref h0]) ++ List.replicate (2 - (lg_sl ([.ref h0])).length) Slot.unset).toArray = ls at hl ⊢
  have hl : lv_has ls 2 [(0, .ref h0)] := hl
  refine lv_aload_n hx hb dX6_worlds_0 rfl (lv_at hl 0 rfl) ?_
  have hPc := hP.sub (ws' := [(h0, .inr (5, [.ref h0_0, .int h0_1, .ref h0_2, .ref h1, .ref h0_4, .ref h0_5, .ref h0_6, .ref h0_7, .ref h0_8, .int h0_9, .ref h0_10, .int h0_11])), (h1, .inr (0, [.int 0, .int h1_1, .ref h1_2, .ref h1_3, .ref h1_4, .ref h1_5, .ref h1_6, .ref h1_7, .ref h1_8, .ref h1_9, .ref h1_10, .ref h1_11, .ref h1_12]))]) [0, 1] rfl
  have hDc := hD.sub (ws' := [(h0, .inr (5, [.ref h0_0, .int h0_1, .ref h0_2, .ref h1, .ref h0_4, .ref h0_5, .ref h0_6, .ref h0_7, .ref h0_8, .int h0_9, .ref h0_10, .int h0_11])), (h1, .inr (0, [.int 0, .int h1_1, .ref h1_2, .ref h1_3, .ref h1_4, .ref h1_5, .ref h1_6, .ref h1_7, .ref h1_8, .ref h1_9, .ref h1_10, .ref h1_11, .ref h1_12]))]) [0, 1] (by decide) rfl
  have hKc := hK.sub (tys' := []) [] rfl
  have hFc := va_free (wc := [(h0, .inr (5, [.ref h0_0, .int h0_1, .ref h0_2, .ref h1, .ref h0_4, .ref h0_5, .ref h0_6, .ref h0_7, .ref h0_8, .int h0_9, .ref h0_10, .int h0_11])), (h1, .inr (0, [.int 0, .int h1_1, .ref h1_2, .ref h1_3, .ref h1_4, .ref h1_5, .ref h1_6, .ref h1_7, .ref h1_8, .ref h1_9, .ref h1_10, .ref h1_11, .ref h1_12]))]) hD hS hA [0, 1] rfl
  refine va_calli (va_runV (As := []) (rest := []) ⟨hx, hb, hml, hown, hts⟩ (c_X6_countFree l dC dI h0 h1 h0_0 h0_1 h0_2 h0_4 h0_5 h0_6 h0_7 h0_8 h0_9 h0_10 h0_11 h1_1 h1_2 h1_3 h1_4 h1_5 h1_6 h1_7 h1_8 h1_9 h1_10 h1_11 h1_12 s.heap.size) (cwV 0 hts gX6_worlds_X6_countFree rfl rfl rfl (by decide +kernel) ⟨Nat.le_of_ble_eq_true rfl, Nat.le_of_ble_eq_true rfl⟩) ⟨fun a U g mk q => by obtain ⟨q0, q1, qP, qK, qD⟩ := q; exact ⟨q0, q1, qP, va_K.moved (u := U) (U := U.calling g mk a) (Vm.Alike.refl U.vm) qK, qD⟩, va_recv hKc hPc (ci := 5) (q0 := 0) rfl rfl, fun U hU hW => ⟨rfl, by rw [hU], by rw [hU]; exact hPc, va_K.moved hW.alike hKc, hDc.weaken (fun _ _ _ _ => trivial)⟩⟩ rfl rfl hl.1 rfl (lv_room (Nat.le_of_ble_eq_true rfl)) dX6_worlds_1 ⟨Nat.le_of_ble_eq_true rfl, Nat.le_of_ble_eq_true rfl⟩) hS (fun q _ h => hFc q h) hFc (fun rx2 u t Hx1 locs ht hvm hw hB hz1 hk1 hS => ?_)
  obtain ⟨hP1, hK1, hD1⟩ := hB
  rw [ht] at hP1
  have hK1 := va_K.moved hvm.symm hK1
  obtain ⟨hP, hD⟩ := va_join (wr := []) (w1 := [(h0, .inr (5, [.ref h0_0, .int h0_1, .ref h0_2, .ref h1, .ref h0_4, .ref h0_5, .ref h0_6, .ref h0_7, .ref h0_8, .int h0_9, .ref h0_10, .int h0_11])), (h1, .inr (0, [.int 0, .int h1_1, .ref h1_2, .ref h1_3, .ref h1_4, .ref h1_5, .ref h1_6, .ref h1_7, .ref h1_8, .ref h1_9, .ref h1_10, .ref h1_11, .ref h1_12]))]) hP hD [0, 1] [] rfl rfl (by decide) (by decide) hk1 hFc hP1 hD1
  have hK := (hK.sub (tys' := []) [] rfl).app hK1
  have hP : va_P (dC, dI) vwCl [(h0, .inr (5, [.ref h0_0, .int h0_1, .ref h0_2, .ref h1, .ref h0_4, .ref h0_5, .ref h0_6, .ref h0_7, .ref h0_8, .int h0_9, .ref h0_10, .int h0_11])), (h1, .inr (0, [.int 0, .int h1_1, .ref h1_2, .ref h1_3, .ref h1_4, .ref h1_5, .ref h1_6, .ref h1_7, .ref h1_8, .ref h1_9, .ref h1_10, .ref h1_11, .ref h1_12]))] Hx1 := hP
  have hD : va_D A [(h0, .inr (5, [.ref h0_0, .int h0_1, .ref h0_2, .ref h1, .ref h0_4, .ref h0_5, .ref h0_6, .ref h0_7, .ref h0_8, .int h0_9, .ref h0_10, .int h0_11])), (h1, .inr (0, [.int 0, .int h1_1, .ref h1_2, .ref h1_3, .ref h1_4, .ref h1_5, .ref h1_6, .ref h1_7, .ref h1_8, .ref h1_9, .ref h1_10, .ref h1_11, .ref h1_12]))] := hD
  have hK : va_K (dC, dI) vwCl [] s := hK
  obtain rfl : rx2 = 0 := hw
  refine lv_istore_n (lv' := [(1, .int 0), (0, .ref h0)]) hx hb dX6_worlds_4 rfl hl (by decide) rfl (fun ls hl => ?_)
  refine lv_iload_n hx hb dX6_worlds_5 rfl (lv_at hl 0 rfl) ?_
  refine lv_bipush (v := 12) hx hb dX6_worlds_6 (by decide) ?_
  refine lv_icmp_le (tgt := 16) hx hb dX6_worlds_8 (by decide) (fun _ => ?_) (fun hc => absurd (by decide) hc)
  refine lv_iconst (v := 1) hx hb dX6_worlds_16 (by decide) ?_
  refine lv_iload_n hx hb dX6_worlds_17 rfl (lv_at hl 0 rfl) ?_
  refine lv_ishl hx hb dX6_worlds_18 ?_
  refine lv_topi (fun zx3 ezx3 => ?_)
  obtain rfl : zx3 = 1 := by rw [ezx3]; decide
  exact W.iret (v := 1) hx hb hr (fun t ht hW => ⟨⟨1, (), rfl, rfl, trivial⟩, hS.F ht⟩) hS.2.2 dX6_worlds_19

set_option maxHeartbeats 4000000 in
set_option maxRecDepth 100000 in
theorem c_X6_node (l : Launch) (dC : Nat → ClassId) (dI : Nat → Nat → Nat) (h0 : Nat) (h1 : Nat) (h0_0 : Nat) (h0_1 : Int32) (h0_2 : Nat) (h0_4 : Nat) (h0_5 : Nat) (h0_6 : Nat) (h0_7 : Nat) (h0_8 : Nat) (h0_9 : Int32) (h0_10 : Nat) (h0_11 : Int32) (h1_1 : Int32) (h1_2 : Nat) (h1_3 : Nat) (h1_4 : Nat) (h1_5 : Nat) (h1_6 : Nat) (h1_7 : Nat) (h1_8 : Nat) (h1_9 : Nat) (h1_10 : Nat) (h1_11 : Nat) (h1_12 : Nat) (p1 : Int32) (p2 : Int32) (sz : Nat) : Met l yX6_node wsX6_node ({ frames := 1, cells := 0, slots := 0, locals := 21 }) (va_Pc [.ref h0, .int p1, .int p2] (fun U => U.heap.size = sz ∧ va_P (dC, dI) vwCl [(h0, .inr (5, [.ref h0_0, .int h0_1, .ref h0_2, .ref h1, .ref h0_4, .ref h0_5, .ref h0_6, .ref h0_7, .ref h0_8, .int h0_9, .ref h0_10, .int h0_11])), (h1, .inr (0, [.int 0, .int h1_1, .ref h1_2, .ref h1_3, .ref h1_4, .ref h1_5, .ref h1_6, .ref h1_7, .ref h1_8, .ref h1_9, .ref h1_10, .ref h1_11, .ref h1_12]))] U.heap ∧ va_K (dC, dI) vwCl [] U ∧ va_D (fun _ => True) [(h0, .inr (5, [.ref h0_0, .int h0_1, .ref h0_2, .ref h1, .ref h0_4, .ref h0_5, .ref h0_6, .ref h0_7, .ref h0_8, .int h0_9, .ref h0_10, .int h0_11])), (h1, .inr (0, [.int 0, .int h1_1, .ref h1_2, .ref h1_3, .ref h1_4, .ref h1_5, .ref h1_6, .ref h1_7, .ref h1_8, .ref h1_9, .ref h1_10, .ref h1_11, .ref h1_12]))])) (va_Qi (fun (r : Int32) (_ : Unit) => r = (-1)) (fun (_ : Unit) (_ : State) => True) (va_A [(h0, .inr (5, [.ref h0_0, .int h0_1, .ref h0_2, .ref h1, .ref h0_4, .ref h0_5, .ref h0_6, .ref h0_7, .ref h0_8, .int h0_9, .ref h0_10, .int h0_11])), (h1, .inr (0, [.int 0, .int h1_1, .ref h1_2, .ref h1_3, .ref h1_4, .ref h1_5, .ref h1_6, .ref h1_7, .ref h1_8, .ref h1_9, .ref h1_10, .ref h1_11, .ref h1_12]))] sz)) 0 0 (va_A [(h0, .inr (5, [.ref h0_0, .int h0_1, .ref h0_2, .ref h1, .ref h0_4, .ref h0_5, .ref h0_6, .ref h0_7, .ref h0_8, .int h0_9, .ref h0_10, .int h0_11])), (h1, .inr (0, [.int 0, .int h1_1, .ref h1_2, .ref h1_3, .ref h1_4, .ref h1_5, .ref h1_6, .ref h1_7, .ref h1_8, .ref h1_9, .ref h1_10, .ref h1_11, .ref h1_12]))] sz) := by
  refine Met.ofW (cc := cX6_node) (maxL := 3) (ret := (some .int)) (by decide) rfl ?_
  intro p e s m args below meth c s₁ B hml hv
  obtain ⟨rfl, hsz, hP, hK, hD0⟩ := hv
  have hx := B.exec
  have hb := B.bytes
  have hr := B.returns
  have hts := atoms_spec (ws := wsX6_node) B.pre
  have hown : s.vm.findClass RX6 = some m.cls := findClass_of_methodNamed B.named
  have hlocks := B.notSynchronized
  have inX6_ : ∀ w ∈ wsX60, w ∈ wsX6_node := fun _ h => List.mem_cons_of_mem _ (List.mem_append_left _ (List.mem_append_right _ h))
  subst hsz
  have hD := hD0.self (sz := s.heap.size)
  generalize hAe : va_A [(h0, .inr (5, [.ref h0_0, .int h0_1, .ref h0_2, .ref h1, .ref h0_4, .ref h0_5, .ref h0_6, .ref h0_7, .ref h0_8, .int h0_9, .ref h0_10, .int h0_11])), (h1, .inr (0, [.int 0, .int h1_1, .ref h1_2, .ref h1_3, .ref h1_4, .ref h1_5, .ref h1_6, .ref h1_7, .ref h1_8, .ref h1_9, .ref h1_10, .ref h1_11, .ref h1_12]))] s.heap.size = A at hD ⊢
  have hA : ∀ q : Nat, s.heap.size ≤ q → A q := fun q h => by rw [← hAe]; exact Or.inr h
  have hS : va_S A s.heap s.heap [] := va_S.rf
  have hP : va_P (dC, dI) vwCl [(h0, .inr (5, [.ref h0_0, .int h0_1, .ref h0_2, .ref h1, .ref h0_4, .ref h0_5, .ref h0_6, .ref h0_7, .ref h0_8, .int h0_9, .ref h0_10, .int h0_11])), (h1, .inr (0, [.int 0, .int h1_1, .ref h1_2, .ref h1_3, .ref h1_4, .ref h1_5, .ref h1_6, .ref h1_7, .ref h1_8, .ref h1_9, .ref h1_10, .ref h1_11, .ref h1_12]))] s.heap := hP
  have hl := lv_entry ([.ref h0, .int p1, .int p2]) (n := 3) (Nat.le_of_ble_eq_true rfl)
  rw [lg_entry_eq]
  generalize (lg_sl ([.ref h0, .int p1, .int p2]) ++ List.replicate (3 - (lg_sl ([.ref h0, .int p1, .int p2])).length) Slot.unset).toArray = ls at hl ⊢
  have hl : lv_has ls 3 [(0, .ref h0), (1, .int p1), (2, .int p2)] := hl
  refine lv_aload_n hx hb dX6_node_0 rfl (lv_at hl 0 rfl) ?_
  refine va_get (D := (dC, dI)) (ci := 5) (v := .ref h1) (C := RX6) (T := TX6) (N := 12) hx hb hts inX6_ hown hK hP 0 rfl rfl 3 (by decide) (hts (.fieldLink RX6 23 "GateWheel" "circuit" "LGateWheel$Circuit;") (List.mem_of_getElem? (i := 1) rfl)) (fun _ h9 => h9) rfl dX6_node_1 ?_
  refine lv_iload_n hx hb dX6_node_4 rfl (lv_at hl 1 rfl) ?_
  have hPc := hP.sub (ws' := [(h1, .inr (0, [.int 0, .int h1_1, .ref h1_2, .ref h1_3, .ref h1_4, .ref h1_5, .ref h1_6, .ref h1_7, .ref h1_8, .ref h1_9, .ref h1_10, .ref h1_11, .ref h1_12]))]) [1] rfl
  have hDc := hD.sub (ws' := [(h1, .inr (0, [.int 0, .int h1_1, .ref h1_2, .ref h1_3, .ref h1_4, .ref h1_5, .ref h1_6, .ref h1_7, .ref h1_8, .ref h1_9, .ref h1_10, .ref h1_11, .ref h1_12]))]) [1] (by decide) rfl
  have hKc := hK.sub (tys' := []) [] rfl
  have hFc := va_free (wc := [(h1, .inr (0, [.int 0, .int h1_1, .ref h1_2, .ref h1_3, .ref h1_4, .ref h1_5, .ref h1_6, .ref h1_7, .ref h1_8, .ref h1_9, .ref h1_10, .ref h1_11, .ref h1_12]))]) hD hS hA [1] rfl
  refine va_calli (va_runV (As := [.int p1]) (rest := []) ⟨hx, hb, hml, hown, hts⟩ (c_X0_has l dC dI h1 h1_1 h1_2 h1_3 h1_4 h1_5 h1_6 h1_7 h1_8 h1_9 h1_10 h1_11 h1_12 p1 s.heap.size) (cwV 1 hts gX6_node_X0_has rfl rfl rfl (by decide +kernel) ⟨Nat.le_of_ble_eq_true rfl, Nat.le_of_ble_eq_true rfl⟩) ⟨fun a U g mk q => by obtain ⟨q0, q1, qP, qK, qD⟩ := q; exact ⟨q0, q1, qP, va_K.moved (u := U) (U := U.calling g mk a) (Vm.Alike.refl U.vm) qK, qD⟩, va_recv hKc hPc (ci := 0) (q0 := 0) rfl rfl, fun U hU hW => ⟨rfl, by rw [hU], by rw [hU]; exact hPc, va_K.moved hW.alike hKc, hDc.weaken (fun _ _ _ _ => trivial)⟩⟩ rfl rfl hl.1 rfl (lv_room (Nat.le_of_ble_eq_true rfl)) dX6_node_5 ⟨Nat.le_of_ble_eq_true rfl, Nat.le_of_ble_eq_true rfl⟩) hS (fun q _ h => hFc q h) hFc (fun rx2 u t Hx1 locs ht hvm hw hB hz1 hk1 hS => ?_)
  obtain ⟨hP1, hK1, hD1⟩ := hB
  rw [ht] at hP1
  have hK1 := va_K.moved hvm.symm hK1
  obtain ⟨hP, hD⟩ := va_join (wr := [(h0, .inr (5, [.ref h0_0, .int h0_1, .ref h0_2, .ref h1, .ref h0_4, .ref h0_5, .ref h0_6, .ref h0_7, .ref h0_8, .int h0_9, .ref h0_10, .int h0_11]))]) (w1 := [(h1, .inr (0, [.int 0, .int h1_1, .ref h1_2, .ref h1_3, .ref h1_4, .ref h1_5, .ref h1_6, .ref h1_7, .ref h1_8, .ref h1_9, .ref h1_10, .ref h1_11, .ref h1_12]))]) hP hD [1] [0] rfl rfl (by decide) (by decide) hk1 hFc hP1 hD1
  have hK := (hK.sub (tys' := []) [] rfl).app hK1
  have hP : va_P (dC, dI) vwCl [(h0, .inr (5, [.ref h0_0, .int h0_1, .ref h0_2, .ref h1, .ref h0_4, .ref h0_5, .ref h0_6, .ref h0_7, .ref h0_8, .int h0_9, .ref h0_10, .int h0_11])), (h1, .inr (0, [.int 0, .int h1_1, .ref h1_2, .ref h1_3, .ref h1_4, .ref h1_5, .ref h1_6, .ref h1_7, .ref h1_8, .ref h1_9, .ref h1_10, .ref h1_11, .ref h1_12]))] Hx1 := hP
  have hD : va_D A [(h0, .inr (5, [.ref h0_0, .int h0_1, .ref h0_2, .ref h1, .ref h0_4, .ref h0_5, .ref h0_6, .ref h0_7, .ref h0_8, .int h0_9, .ref h0_10, .int h0_11])), (h1, .inr (0, [.int 0, .int h1_1, .ref h1_2, .ref h1_3, .ref h1_4, .ref h1_5, .ref h1_6, .ref h1_7, .ref h1_8, .ref h1_9, .ref h1_10, .ref h1_11, .ref h1_12]))] := hD
  have hK : va_K (dC, dI) vwCl [] s := hK
  obtain rfl : rx2 = 0 := hw
  refine lv_if_ne (tgt := 13) hx hb dX6_node_8 (by decide) (fun hc => absurd rfl hc) (fun _ => ?_)
  refine lv_iconst (v := (-1)) hx hb dX6_node_11 (by decide) ?_
  exact W.iret (v := (-1)) hx hb hr (fun t ht hW => ⟨⟨(-1), (), rfl, rfl, trivial⟩, hS.F ht⟩) hS.2.2 dX6_node_12

set_option maxHeartbeats 4000000 in
set_option maxRecDepth 100000 in
theorem c_X6_set (l : Launch) (dC : Nat → ClassId) (dI : Nat → Nat → Nat) (h0 : Nat) (h1 : Nat) (h0_0 : Nat) (h0_1 : Int32) (h0_2 : Nat) (h0_4 : Nat) (h0_5 : Nat) (h0_6 : Nat) (h0_7 : Nat) (h0_8 : Nat) (h0_9 : Int32) (h0_10 : Nat) (h0_11 : Int32) (h1_1 : Int32) (h1_2 : Nat) (h1_3 : Nat) (h1_4 : Nat) (h1_5 : Nat) (h1_6 : Nat) (h1_7 : Nat) (h1_8 : Nat) (h1_9 : Nat) (h1_10 : Nat) (h1_11 : Nat) (h1_12 : Nat) (p1 : Int32) (p2 : Int32) (sz : Nat) : Met l yX6_set wsX6_set ({ frames := 2, cells := 0, slots := 0, locals := 43 }) (va_Pc [.ref h0, .int p1, .int p2] (fun U => U.heap.size = sz ∧ va_P (dC, dI) vwCl [(h0, .inr (5, [.ref h0_0, .int h0_1, .ref h0_2, .ref h1, .ref h0_4, .ref h0_5, .ref h0_6, .ref h0_7, .ref h0_8, .int h0_9, .ref h0_10, .int h0_11])), (h1, .inr (0, [.int 0, .int h1_1, .ref h1_2, .ref h1_3, .ref h1_4, .ref h1_5, .ref h1_6, .ref h1_7, .ref h1_8, .ref h1_9, .ref h1_10, .ref h1_11, .ref h1_12]))] U.heap ∧ va_K (dC, dI) vwCl [] U ∧ va_D (fun _ => True) [(h0, .inr (5, [.ref h0_0, .int h0_1, .ref h0_2, .ref h1, .ref h0_4, .ref h0_5, .ref h0_6, .ref h0_7, .ref h0_8, .int h0_9, .ref h0_10, .int h0_11])), (h1, .inr (0, [.int 0, .int h1_1, .ref h1_2, .ref h1_3, .ref h1_4, .ref h1_5, .ref h1_6, .ref h1_7, .ref h1_8, .ref h1_9, .ref h1_10, .ref h1_11, .ref h1_12]))])) (va_Qi (fun (r : Int32) (_ : Unit) => r = 0) (fun (_ : Unit) (_ : State) => True) (va_A [(h0, .inr (5, [.ref h0_0, .int h0_1, .ref h0_2, .ref h1, .ref h0_4, .ref h0_5, .ref h0_6, .ref h0_7, .ref h0_8, .int h0_9, .ref h0_10, .int h0_11])), (h1, .inr (0, [.int 0, .int h1_1, .ref h1_2, .ref h1_3, .ref h1_4, .ref h1_5, .ref h1_6, .ref h1_7, .ref h1_8, .ref h1_9, .ref h1_10, .ref h1_11, .ref h1_12]))] sz)) 0 0 (va_A [(h0, .inr (5, [.ref h0_0, .int h0_1, .ref h0_2, .ref h1, .ref h0_4, .ref h0_5, .ref h0_6, .ref h0_7, .ref h0_8, .int h0_9, .ref h0_10, .int h0_11])), (h1, .inr (0, [.int 0, .int h1_1, .ref h1_2, .ref h1_3, .ref h1_4, .ref h1_5, .ref h1_6, .ref h1_7, .ref h1_8, .ref h1_9, .ref h1_10, .ref h1_11, .ref h1_12]))] sz) := by
  refine Met.ofW (cc := cX6_set) (maxL := 3) (ret := (some .boolean)) (by decide) rfl ?_
  intro p e s m args below meth c s₁ B hml hv
  obtain ⟨rfl, hsz, hP, hK, hD0⟩ := hv
  have hx := B.exec
  have hb := B.bytes
  have hr := B.returns
  have hts := atoms_spec (ws := wsX6_set) B.pre
  have hown : s.vm.findClass RX6 = some m.cls := findClass_of_methodNamed B.named
  have hlocks := B.notSynchronized
  have inX6_ : ∀ w ∈ wsX60, w ∈ wsX6_set := fun _ h => List.mem_cons_of_mem _ (List.mem_append_left _ (List.mem_append_right _ h))
  subst hsz
  have hD := hD0.self (sz := s.heap.size)
  generalize hAe : va_A [(h0, .inr (5, [.ref h0_0, .int h0_1, .ref h0_2, .ref h1, .ref h0_4, .ref h0_5, .ref h0_6, .ref h0_7, .ref h0_8, .int h0_9, .ref h0_10, .int h0_11])), (h1, .inr (0, [.int 0, .int h1_1, .ref h1_2, .ref h1_3, .ref h1_4, .ref h1_5, .ref h1_6, .ref h1_7, .ref h1_8, .ref h1_9, .ref h1_10, .ref h1_11, .ref h1_12]))] s.heap.size = A at hD ⊢
  have hA : ∀ q : Nat, s.heap.size ≤ q → A q := fun q h => by rw [← hAe]; exact Or.inr h
  have hS : va_S A s.heap s.heap [] := va_S.rf
  have hP : va_P (dC, dI) vwCl [(h0, .inr (5, [.ref h0_0, .int h0_1, .ref h0_2, .ref h1, .ref h0_4, .ref h0_5, .ref h0_6, .ref h0_7, .ref h0_8, .int h0_9, .ref h0_10, .int h0_11])), (h1, .inr (0, [.int 0, .int h1_1, .ref h1_2, .ref h1_3, .ref h1_4, .ref h1_5, .ref h1_6, .ref h1_7, .ref h1_8, .ref h1_9, .ref h1_10, .ref h1_11, .ref h1_12]))] s.heap := hP
  have hl := lv_entry ([.ref h0, .int p1, .int p2]) (n := 3) (Nat.le_of_ble_eq_true rfl)
  rw [lg_entry_eq]
  generalize (lg_sl ([.ref h0, .int p1, .int p2]) ++ List.replicate (3 - (lg_sl ([.ref h0, .int p1, .int p2])).length) Slot.unset).toArray = ls at hl ⊢
  have hl : lv_has ls 3 [(0, .ref h0), (1, .int p1), (2, .int p2)] := hl
  refine lv_aload_n hx hb dX6_set_0 rfl (lv_at hl 0 rfl) ?_
  refine va_get (D := (dC, dI)) (ci := 5) (v := .ref h1) (C := RX6) (T := TX6) (N := 12) hx hb hts inX6_ hown hK hP 0 rfl rfl 3 (by decide) (hts (.fieldLink RX6 23 "GateWheel" "circuit" "LGateWheel$Circuit;") (List.mem_of_getElem? (i := 1) rfl)) (fun _ h9 => h9) rfl dX6_set_1 ?_
  refine lv_iload_n hx hb dX6_set_4 rfl (lv_at hl 1 rfl) ?_
  refine lv_iconst (v := 0) hx hb dX6_set_5 (by decide) ?_
  have hPc := hP.sub (ws' := [(h1, .inr (0, [.int 0, .int h1_1, .ref h1_2, .ref h1_3, .ref h1_4, .ref h1_5, .ref h1_6, .ref h1_7, .ref h1_8, .ref h1_9, .ref h1_10, .ref h1_11, .ref h1_12]))]) [1] rfl
  have hDc := hD.sub (ws' := [(h1, .inr (0, [.int 0, .int h1_1, .ref h1_2, .ref h1_3, .ref h1_4, .ref h1_5, .ref h1_6, .ref h1_7, .ref h1_8, .ref h1_9, .ref h1_10, .ref h1_11, .ref h1_12]))]) [1] (by decide) rfl
  have hKc := hK.sub (tys' := []) [] rfl
  have hFc := va_free (wc := [(h1, .inr (0, [.int 0, .int h1_1, .ref h1_2, .ref h1_3, .ref h1_4, .ref h1_5, .ref h1_6, .ref h1_7, .ref h1_8, .ref h1_9, .ref h1_10, .ref h1_11, .ref h1_12]))]) hD hS hA [1] rfl
  refine va_calli (va_runV (As := [.int p1, .int 0]) (rest := []) ⟨hx, hb, hml, hown, hts⟩ (c_X0_isKind l dC dI h1 h1_1 h1_2 h1_3 h1_4 h1_5 h1_6 h1_7 h1_8 h1_9 h1_10 h1_11 h1_12 p1 0 s.heap.size) (cwV 2 hts gX6_set_X0_isKind rfl rfl rfl (by decide +kernel) ⟨Nat.le_of_ble_eq_true rfl, Nat.le_of_ble_eq_true rfl⟩) ⟨fun a U g mk q => by obtain ⟨q0, q1, qP, qK, qD⟩ := q; exact ⟨q0, q1, qP, va_K.moved (u := U) (U := U.calling g mk a) (Vm.Alike.refl U.vm) qK, qD⟩, va_recv hKc hPc (ci := 0) (q0 := 0) rfl rfl, fun U hU hW => ⟨rfl, by rw [hU], by rw [hU]; exact hPc, va_K.moved hW.alike hKc, hDc.weaken (fun _ _ _ _ => trivial)⟩⟩ rfl rfl hl.1 rfl (lv_room (Nat.le_of_ble_eq_true rfl)) dX6_set_6 ⟨Nat.le_of_ble_eq_true rfl, Nat.le_of_ble_eq_true rfl⟩) hS (fun q _ h => hFc q h) hFc (fun rx2 u t Hx1 locs ht hvm hw hB hz1 hk1 hS => ?_)
  obtain ⟨hP1, hK1, hD1⟩ := hB
  rw [ht] at hP1
  have hK1 := va_K.moved hvm.symm hK1
  obtain ⟨hP, hD⟩ := va_join (wr := [(h0, .inr (5, [.ref h0_0, .int h0_1, .ref h0_2, .ref h1, .ref h0_4, .ref h0_5, .ref h0_6, .ref h0_7, .ref h0_8, .int h0_9, .ref h0_10, .int h0_11]))]) (w1 := [(h1, .inr (0, [.int 0, .int h1_1, .ref h1_2, .ref h1_3, .ref h1_4, .ref h1_5, .ref h1_6, .ref h1_7, .ref h1_8, .ref h1_9, .ref h1_10, .ref h1_11, .ref h1_12]))]) hP hD [1] [0] rfl rfl (by decide) (by decide) hk1 hFc hP1 hD1
  have hK := (hK.sub (tys' := []) [] rfl).app hK1
  have hP : va_P (dC, dI) vwCl [(h0, .inr (5, [.ref h0_0, .int h0_1, .ref h0_2, .ref h1, .ref h0_4, .ref h0_5, .ref h0_6, .ref h0_7, .ref h0_8, .int h0_9, .ref h0_10, .int h0_11])), (h1, .inr (0, [.int 0, .int h1_1, .ref h1_2, .ref h1_3, .ref h1_4, .ref h1_5, .ref h1_6, .ref h1_7, .ref h1_8, .ref h1_9, .ref h1_10, .ref h1_11, .ref h1_12]))] Hx1 := hP
  have hD : va_D A [(h0, .inr (5, [.ref h0_0, .int h0_1, .ref h0_2, .ref h1, .ref h0_4, .ref h0_5, .ref h0_6, .ref h0_7, .ref h0_8, .int h0_9, .ref h0_10, .int h0_11])), (h1, .inr (0, [.int 0, .int h1_1, .ref h1_2, .ref h1_3, .ref h1_4, .ref h1_5, .ref h1_6, .ref h1_7, .ref h1_8, .ref h1_9, .ref h1_10, .ref h1_11, .ref h1_12]))] := hD
  have hK : va_K (dC, dI) vwCl [] s := hK
  obtain rfl : rx2 = 0 := hw
  refine lv_if_eq (tgt := 21) hx hb dX6_set_9 (by decide) (fun _ => ?_) (fun hc => absurd (by decide) hc)
  refine lv_iconst (v := 0) hx hb dX6_set_21 (by decide) ?_
  exact W.zret (v := 0) hx hb hr (by decide) (fun t ht hW => ⟨⟨0, (), rfl, rfl, trivial⟩, hS.F ht⟩) hS.2.2 dX6_set_22

set_option maxHeartbeats 4000000 in
set_option maxRecDepth 100000 in
theorem c_X6_load (l : Launch) (dC : Nat → ClassId) (dI : Nat → Nat → Nat) (h0 : Nat) (h1 : Nat) (h0_0 : Nat) (h0_1 : Int32) (h0_2 : Nat) (h0_4 : Nat) (h0_5 : Nat) (h0_6 : Nat) (h0_7 : Nat) (h0_8 : Nat) (h0_9 : Int32) (h0_10 : Nat) (h0_11 : Int32) (h1_1 : Int32) (h1_2 : Nat) (h1_3 : Nat) (h1_4 : Nat) (h1_5 : Nat) (h1_6 : Nat) (h1_7 : Nat) (h1_8 : Nat) (h1_9 : Nat) (h1_10 : Nat) (h1_11 : Nat) (h1_12 : Nat) (p1 : Int32) (p2 : Int32) (sz : Nat) : Met l yX6_load wsX6_load ({ frames := 2, cells := 0, slots := 0, locals := 43 }) (va_Pc [.ref h0, .int p1, .int p2] (fun U => U.heap.size = sz ∧ va_P (dC, dI) vwCl [(h0, .inr (5, [.ref h0_0, .int h0_1, .ref h0_2, .ref h1, .ref h0_4, .ref h0_5, .ref h0_6, .ref h0_7, .ref h0_8, .int h0_9, .ref h0_10, .int h0_11])), (h1, .inr (0, [.int 0, .int h1_1, .ref h1_2, .ref h1_3, .ref h1_4, .ref h1_5, .ref h1_6, .ref h1_7, .ref h1_8, .ref h1_9, .ref h1_10, .ref h1_11, .ref h1_12]))] U.heap ∧ va_K (dC, dI) vwCl [] U ∧ va_D (fun _ => True) [(h0, .inr (5, [.ref h0_0, .int h0_1, .ref h0_2, .ref h1, .ref h0_4, .ref h0_5, .ref h0_6, .ref h0_7, .ref h0_8, .int h0_9, .ref h0_10, .int h0_11])), (h1, .inr (0, [.int 0, .int h1_1, .ref h1_2, .ref h1_3, .ref h1_4, .ref h1_5, .ref h1_6, .ref h1_7, .ref h1_8, .ref h1_9, .ref h1_10, .ref h1_11, .ref h1_12]))])) (va_Qi (fun (r : Int32) (_ : Unit) => r = 0) (fun (_ : Unit) (_ : State) => True) (va_A [(h0, .inr (5, [.ref h0_0, .int h0_1, .ref h0_2, .ref h1, .ref h0_4, .ref h0_5, .ref h0_6, .ref h0_7, .ref h0_8, .int h0_9, .ref h0_10, .int h0_11])), (h1, .inr (0, [.int 0, .int h1_1, .ref h1_2, .ref h1_3, .ref h1_4, .ref h1_5, .ref h1_6, .ref h1_7, .ref h1_8, .ref h1_9, .ref h1_10, .ref h1_11, .ref h1_12]))] sz)) 0 0 (va_A [(h0, .inr (5, [.ref h0_0, .int h0_1, .ref h0_2, .ref h1, .ref h0_4, .ref h0_5, .ref h0_6, .ref h0_7, .ref h0_8, .int h0_9, .ref h0_10, .int h0_11])), (h1, .inr (0, [.int 0, .int h1_1, .ref h1_2, .ref h1_3, .ref h1_4, .ref h1_5, .ref h1_6, .ref h1_7, .ref h1_8, .ref h1_9, .ref h1_10, .ref h1_11, .ref h1_12]))] sz) := by
  refine Met.ofW (cc := cX6_load) (maxL := 3) (ret := (some .boolean)) (by decide) rfl ?_
  intro p e s m args below meth c s₁ B hml hv
  obtain ⟨rfl, hsz, hP, hK, hD0⟩ := hv
  have hx := B.exec
  have hb := B.bytes
  have hr := B.returns
  have hts := atoms_spec (ws := wsX6_load) B.pre
  have hown : s.vm.findClass RX6 = some m.cls := findClass_of_methodNamed B.named
  have hlocks := B.notSynchronized
  have inX6_ : ∀ w ∈ wsX60, w ∈ wsX6_load := fun _ h => List.mem_cons_of_mem _ (List.mem_append_left _ (List.mem_append_right _ h))
  subst hsz
  have hD := hD0.self (sz := s.heap.size)
  generalize hAe : va_A [(h0, .inr (5, [.ref h0_0, .int h0_1, .ref h0_2, .ref h1, .ref h0_4, .ref h0_5, .ref h0_6, .ref h0_7, .ref h0_8, .int h0_9, .ref h0_10, .int h0_11])), (h1, .inr (0, [.int 0, .int h1_1, .ref h1_2, .ref h1_3, .ref h1_4, .ref h1_5, .ref h1_6, .ref h1_7, .ref h1_8, .ref h1_9, .ref h1_10, .ref h1_11, .ref h1_12]))] s.heap.size = A at hD ⊢
  have hA : ∀ q : Nat, s.heap.size ≤ q → A q := fun q h => by rw [← hAe]; exact Or.inr h
  have hS : va_S A s.heap s.heap [] := va_S.rf
  have hP : va_P (dC, dI) vwCl [(h0, .inr (5, [.ref h0_0, .int h0_1, .ref h0_2, .ref h1, .ref h0_4, .ref h0_5, .ref h0_6, .ref h0_7, .ref h0_8, .int h0_9, .ref h0_10, .int h0_11])), (h1, .inr (0, [.int 0, .int h1_1, .ref h1_2, .ref h1_3, .ref h1_4, .ref h1_5, .ref h1_6, .ref h1_7, .ref h1_8, .ref h1_9, .ref h1_10, .ref h1_11, .ref h1_12]))] s.heap := hP
  have hl := lv_entry ([.ref h0, .int p1, .int p2]) (n := 3) (Nat.le_of_ble_eq_true rfl)
  rw [lg_entry_eq]
  generalize (lg_sl ([.ref h0, .int p1, .int p2]) ++ List.replicate (3 - (lg_sl ([.ref h0, .int p1, .int p2])).length) Slot.unset).toArray = ls at hl ⊢
  have hl : lv_has ls 3 [(0, .ref h0), (1, .int p1), (2, .int p2)] := hl
  refine lv_aload_n hx hb dX6_load_0 rfl (lv_at hl 0 rfl) ?_
  refine va_get (D := (dC, dI)) (ci := 5) (v := .ref h1) (C := RX6) (T := TX6) (N := 12) hx hb hts inX6_ hown hK hP 0 rfl rfl 3 (by decide) (hts (.fieldLink RX6 23 "GateWheel" "circuit" "LGateWheel$Circuit;") (List.mem_of_getElem? (i := 1) rfl)) (fun _ h9 => h9) rfl dX6_load_1 ?_
  refine lv_iload_n hx hb dX6_load_4 rfl (lv_at hl 1 rfl) ?_
  refine lv_iconst (v := 3) hx hb dX6_load_5 (by decide) ?_
  have hPc := hP.sub (ws' := [(h1, .inr (0, [.int 0, .int h1_1, .ref h1_2, .ref h1_3, .ref h1_4, .ref h1_5, .ref h1_6, .ref h1_7, .ref h1_8, .ref h1_9, .ref h1_10, .ref h1_11, .ref h1_12]))]) [1] rfl
  have hDc := hD.sub (ws' := [(h1, .inr (0, [.int 0, .int h1_1, .ref h1_2, .ref h1_3, .ref h1_4, .ref h1_5, .ref h1_6, .ref h1_7, .ref h1_8, .ref h1_9, .ref h1_10, .ref h1_11, .ref h1_12]))]) [1] (by decide) rfl
  have hKc := hK.sub (tys' := []) [] rfl
  have hFc := va_free (wc := [(h1, .inr (0, [.int 0, .int h1_1, .ref h1_2, .ref h1_3, .ref h1_4, .ref h1_5, .ref h1_6, .ref h1_7, .ref h1_8, .ref h1_9, .ref h1_10, .ref h1_11, .ref h1_12]))]) hD hS hA [1] rfl
  refine va_calli (va_runV (As := [.int p1, .int 3]) (rest := []) ⟨hx, hb, hml, hown, hts⟩ (c_X0_isKind l dC dI h1 h1_1 h1_2 h1_3 h1_4 h1_5 h1_6 h1_7 h1_8 h1_9 h1_10 h1_11 h1_12 p1 3 s.heap.size) (cwV 2 hts gX6_load_X0_isKind rfl rfl rfl (by decide +kernel) ⟨Nat.le_of_ble_eq_true rfl, Nat.le_of_ble_eq_true rfl⟩) ⟨fun a U g mk q => by obtain ⟨q0, q1, qP, qK, qD⟩ := q; exact ⟨q0, q1, qP, va_K.moved (u := U) (U := U.calling g mk a) (Vm.Alike.refl U.vm) qK, qD⟩, va_recv hKc hPc (ci := 0) (q0 := 0) rfl rfl, fun U hU hW => ⟨rfl, by rw [hU], by rw [hU]; exact hPc, va_K.moved hW.alike hKc, hDc.weaken (fun _ _ _ _ => trivial)⟩⟩ rfl rfl hl.1 rfl (lv_room (Nat.le_of_ble_eq_true rfl)) dX6_load_6 ⟨Nat.le_of_ble_eq_true rfl, Nat.le_of_ble_eq_true rfl⟩) hS (fun q _ h => hFc q h) hFc (fun rx2 u t Hx1 locs ht hvm hw hB hz1 hk1 hS => ?_)
  obtain ⟨hP1, hK1, hD1⟩ := hB
  rw [ht] at hP1
  have hK1 := va_K.moved hvm.symm hK1
  obtain ⟨hP, hD⟩ := va_join (wr := [(h0, .inr (5, [.ref h0_0, .int h0_1, .ref h0_2, .ref h1, .ref h0_4, .ref h0_5, .ref h0_6, .ref h0_7, .ref h0_8, .int h0_9, .ref h0_10, .int h0_11]))]) (w1 := [(h1, .inr (0, [.int 0, .int h1_1, .ref h1_2, .ref h1_3, .ref h1_4, .ref h1_5, .ref h1_6, .ref h1_7, .ref h1_8, .ref h1_9, .ref h1_10, .ref h1_11, .ref h1_12]))]) hP hD [1] [0] rfl rfl (by decide) (by decide) hk1 hFc hP1 hD1
  have hK := (hK.sub (tys' := []) [] rfl).app hK1
  have hP : va_P (dC, dI) vwCl [(h0, .inr (5, [.ref h0_0, .int h0_1, .ref h0_2, .ref h1, .ref h0_4, .ref h0_5, .ref h0_6, .ref h0_7, .ref h0_8, .int h0_9, .ref h0_10, .int h0_11])), (h1, .inr (0, [.int 0, .int h1_1, .ref h1_2, .ref h1_3, .ref h1_4, .ref h1_5, .ref h1_6, .ref h1_7, .ref h1_8, .ref h1_9, .ref h1_10, .ref h1_11, .ref h1_12]))] Hx1 := hP
  have hD : va_D A [(h0, .inr (5, [.ref h0_0, .int h0_1, .ref h0_2, .ref h1, .ref h0_4, .ref h0_5, .ref h0_6, .ref h0_7, .ref h0_8, .int h0_9, .ref h0_10, .int h0_11])), (h1, .inr (0, [.int 0, .int h1_1, .ref h1_2, .ref h1_3, .ref h1_4, .ref h1_5, .ref h1_6, .ref h1_7, .ref h1_8, .ref h1_9, .ref h1_10, .ref h1_11, .ref h1_12]))] := hD
  have hK : va_K (dC, dI) vwCl [] s := hK
  obtain rfl : rx2 = 0 := hw
  refine lv_if_eq (tgt := 21) hx hb dX6_load_9 (by decide) (fun _ => ?_) (fun hc => absurd (by decide) hc)
  refine lv_iconst (v := 0) hx hb dX6_load_21 (by decide) ?_
  exact W.zret (v := 0) hx hb hr (by decide) (fun t ht hW => ⟨⟨0, (), rfl, rfl, trivial⟩, hS.F ht⟩) hS.2.2 dX6_load_22

set_option maxHeartbeats 4000000 in
set_option maxRecDepth 100000 in
theorem c_X6_value (l : Launch) (dC : Nat → ClassId) (dI : Nat → Nat → Nat) (h0 : Nat) (h1 : Nat) (h0_0 : Nat) (h0_1 : Int32) (h0_2 : Nat) (h0_4 : Nat) (h0_5 : Nat) (h0_6 : Nat) (h0_7 : Nat) (h0_8 : Nat) (h0_9 : Int32) (h0_10 : Nat) (h0_11 : Int32) (h1_1 : Int32) (h1_2 : Nat) (h1_3 : Nat) (h1_4 : Nat) (h1_5 : Nat) (h1_6 : Nat) (h1_7 : Nat) (h1_8 : Nat) (h1_9 : Nat) (h1_10 : Nat) (h1_11 : Nat) (h1_12 : Nat) (p1 : Int32) (sz : Nat) : Met l yX6_value wsX6_value ({ frames := 1, cells := 0, slots := 0, locals := 21 }) (va_Pc [.ref h0, .int p1] (fun U => U.heap.size = sz ∧ va_P (dC, dI) vwCl [(h0, .inr (5, [.ref h0_0, .int h0_1, .ref h0_2, .ref h1, .ref h0_4, .ref h0_5, .ref h0_6, .ref h0_7, .ref h0_8, .int h0_9, .ref h0_10, .int h0_11])), (h1, .inr (0, [.int 0, .int h1_1, .ref h1_2, .ref h1_3, .ref h1_4, .ref h1_5, .ref h1_6, .ref h1_7, .ref h1_8, .ref h1_9, .ref h1_10, .ref h1_11, .ref h1_12]))] U.heap ∧ va_K (dC, dI) vwCl [] U ∧ va_D (fun _ => True) [(h0, .inr (5, [.ref h0_0, .int h0_1, .ref h0_2, .ref h1, .ref h0_4, .ref h0_5, .ref h0_6, .ref h0_7, .ref h0_8, .int h0_9, .ref h0_10, .int h0_11])), (h1, .inr (0, [.int 0, .int h1_1, .ref h1_2, .ref h1_3, .ref h1_4, .ref h1_5, .ref h1_6, .ref h1_7, .ref h1_8, .ref h1_9, .ref h1_10, .ref h1_11, .ref h1_12]))])) (va_Qi (fun (r : Int32) (_ : Unit) => r = (-1)) (fun (_ : Unit) (_ : State) => True) (va_A [(h0, .inr (5, [.ref h0_0, .int h0_1, .ref h0_2, .ref h1, .ref h0_4, .ref h0_5, .ref h0_6, .ref h0_7, .ref h0_8, .int h0_9, .ref h0_10, .int h0_11])), (h1, .inr (0, [.int 0, .int h1_1, .ref h1_2, .ref h1_3, .ref h1_4, .ref h1_5, .ref h1_6, .ref h1_7, .ref h1_8, .ref h1_9, .ref h1_10, .ref h1_11, .ref h1_12]))] sz)) 0 0 (va_A [(h0, .inr (5, [.ref h0_0, .int h0_1, .ref h0_2, .ref h1, .ref h0_4, .ref h0_5, .ref h0_6, .ref h0_7, .ref h0_8, .int h0_9, .ref h0_10, .int h0_11])), (h1, .inr (0, [.int 0, .int h1_1, .ref h1_2, .ref h1_3, .ref h1_4, .ref h1_5, .ref h1_6, .ref h1_7, .ref h1_8, .ref h1_9, .ref h1_10, .ref h1_11, .ref h1_12]))] sz) := by
  refine Met.ofW (cc := cX6_value) (maxL := 2) (ret := (some .int)) (by decide) rfl ?_
  intro p e s m args below meth c s₁ B hml hv
  obtain ⟨rfl, hsz, hP, hK, hD0⟩ := hv
  have hx := B.exec
  have hb := B.bytes
  have hr := B.returns
  have hts := atoms_spec (ws := wsX6_value) B.pre
  have hown : s.vm.findClass RX6 = some m.cls := findClass_of_methodNamed B.named
  have hlocks := B.notSynchronized
  have inX6_ : ∀ w ∈ wsX60, w ∈ wsX6_value := fun _ h => List.mem_cons_of_mem _ (List.mem_append_left _ (List.mem_append_right _ h))
  subst hsz
  have hD := hD0.self (sz := s.heap.size)
  generalize hAe : va_A [(h0, .inr (5, [.ref h0_0, .int h0_1, .ref h0_2, .ref h1, .ref h0_4, .ref h0_5, .ref h0_6, .ref h0_7, .ref h0_8, .int h0_9, .ref h0_10, .int h0_11])), (h1, .inr (0, [.int 0, .int h1_1, .ref h1_2, .ref h1_3, .ref h1_4, .ref h1_5, .ref h1_6, .ref h1_7, .ref h1_8, .ref h1_9, .ref h1_10, .ref h1_11, .ref h1_12]))] s.heap.size = A at hD ⊢
  have hA : ∀ q : Nat, s.heap.size ≤ q → A q := fun q h => by rw [← hAe]; exact Or.inr h
  have hS : va_S A s.heap s.heap [] := va_S.rf
  have hP : va_P (dC, dI) vwCl [(h0, .inr (5, [.ref h0_0, .int h0_1, .ref h0_2, .ref h1, .ref h0_4, .ref h0_5, .ref h0_6, .ref h0_7, .ref h0_8, .int h0_9, .ref h0_10, .int h0_11])), (h1, .inr (0, [.int 0, .int h1_1, .ref h1_2, .ref h1_3, .ref h1_4, .ref h1_5, .ref h1_6, .ref h1_7, .ref h1_8, .ref h1_9, .ref h1_10, .ref h1_11, .ref h1_12]))] s.heap := hP
  have hl := lv_entry ([.ref h0, .int p1]) (n := 2) (Nat.le_of_ble_eq_true rfl)
  rw [lg_entry_eq]
  generalize (lg_sl ([.ref h0, .int p1]) ++ List.replicate (2 - (lg_sl ([.ref h0, .int p1])).length) Slot.unset).toArray = ls at hl ⊢
  have hl : lv_has ls 2 [(0, .ref h0), (1, .int p1)] := hl
  refine lv_aload_n hx hb dX6_value_0 rfl (lv_at hl 0 rfl) ?_
  refine va_get (D := (dC, dI)) (ci := 5) (v := .ref h1) (C := RX6) (T := TX6) (N := 12) hx hb hts inX6_ hown hK hP 0 rfl rfl 3 (by decide) (hts (.fieldLink RX6 23 "GateWheel" "circuit" "LGateWheel$Circuit;") (List.mem_of_getElem? (i := 1) rfl)) (fun _ h9 => h9) rfl dX6_value_1 ?_
  refine lv_iload_n hx hb dX6_value_4 rfl (lv_at hl 1 rfl) ?_
  have hPc := hP.sub (ws' := [(h1, .inr (0, [.int 0, .int h1_1, .ref h1_2, .ref h1_3, .ref h1_4, .ref h1_5, .ref h1_6, .ref h1_7, .ref h1_8, .ref h1_9, .ref h1_10, .ref h1_11, .ref h1_12]))]) [1] rfl
  have hDc := hD.sub (ws' := [(h1, .inr (0, [.int 0, .int h1_1, .ref h1_2, .ref h1_3, .ref h1_4, .ref h1_5, .ref h1_6, .ref h1_7, .ref h1_8, .ref h1_9, .ref h1_10, .ref h1_11, .ref h1_12]))]) [1] (by decide) rfl
  have hKc := hK.sub (tys' := []) [] rfl
  have hFc := va_free (wc := [(h1, .inr (0, [.int 0, .int h1_1, .ref h1_2, .ref h1_3, .ref h1_4, .ref h1_5, .ref h1_6, .ref h1_7, .ref h1_8, .ref h1_9, .ref h1_10, .ref h1_11, .ref h1_12]))]) hD hS hA [1] rfl
  refine va_calli (va_runV (As := [.int p1]) (rest := []) ⟨hx, hb, hml, hown, hts⟩ (c_X0_has l dC dI h1 h1_1 h1_2 h1_3 h1_4 h1_5 h1_6 h1_7 h1_8 h1_9 h1_10 h1_11 h1_12 p1 s.heap.size) (cwV 1 hts gX6_value_X0_has rfl rfl rfl (by decide +kernel) ⟨Nat.le_of_ble_eq_true rfl, Nat.le_of_ble_eq_true rfl⟩) ⟨fun a U g mk q => by obtain ⟨q0, q1, qP, qK, qD⟩ := q; exact ⟨q0, q1, qP, va_K.moved (u := U) (U := U.calling g mk a) (Vm.Alike.refl U.vm) qK, qD⟩, va_recv hKc hPc (ci := 0) (q0 := 0) rfl rfl, fun U hU hW => ⟨rfl, by rw [hU], by rw [hU]; exact hPc, va_K.moved hW.alike hKc, hDc.weaken (fun _ _ _ _ => trivial)⟩⟩ rfl rfl hl.1 rfl (lv_room (Nat.le_of_ble_eq_true rfl)) dX6_value_5 ⟨Nat.le_of_ble_eq_true rfl, Nat.le_of_ble_eq_true rfl⟩) hS (fun q _ h => hFc q h) hFc (fun rx2 u t Hx1 locs ht hvm hw hB hz1 hk1 hS => ?_)
  obtain ⟨hP1, hK1, hD1⟩ := hB
  rw [ht] at hP1
  have hK1 := va_K.moved hvm.symm hK1
  obtain ⟨hP, hD⟩ := va_join (wr := [(h0, .inr (5, [.ref h0_0, .int h0_1, .ref h0_2, .ref h1, .ref h0_4, .ref h0_5, .ref h0_6, .ref h0_7, .ref h0_8, .int h0_9, .ref h0_10, .int h0_11]))]) (w1 := [(h1, .inr (0, [.int 0, .int h1_1, .ref h1_2, .ref h1_3, .ref h1_4, .ref h1_5, .ref h1_6, .ref h1_7, .ref h1_8, .ref h1_9, .ref h1_10, .ref h1_11, .ref h1_12]))]) hP hD [1] [0] rfl rfl (by decide) (by decide) hk1 hFc hP1 hD1
  have hK := (hK.sub (tys' := []) [] rfl).app hK1
  have hP : va_P (dC, dI) vwCl [(h0, .inr (5, [.ref h0_0, .int h0_1, .ref h0_2, .ref h1, .ref h0_4, .ref h0_5, .ref h0_6, .ref h0_7, .ref h0_8, .int h0_9, .ref h0_10, .int h0_11])), (h1, .inr (0, [.int 0, .int h1_1, .ref h1_2, .ref h1_3, .ref h1_4, .ref h1_5, .ref h1_6, .ref h1_7, .ref h1_8, .ref h1_9, .ref h1_10, .ref h1_11, .ref h1_12]))] Hx1 := hP
  have hD : va_D A [(h0, .inr (5, [.ref h0_0, .int h0_1, .ref h0_2, .ref h1, .ref h0_4, .ref h0_5, .ref h0_6, .ref h0_7, .ref h0_8, .int h0_9, .ref h0_10, .int h0_11])), (h1, .inr (0, [.int 0, .int h1_1, .ref h1_2, .ref h1_3, .ref h1_4, .ref h1_5, .ref h1_6, .ref h1_7, .ref h1_8, .ref h1_9, .ref h1_10, .ref h1_11, .ref h1_12]))] := hD
  have hK : va_K (dC, dI) vwCl [] s := hK
  obtain rfl : rx2 = 0 := hw
  refine lv_if_eq (tgt := 20) hx hb dX6_value_8 (by decide) (fun _ => ?_) (fun hc => absurd (by decide) hc)
  refine lv_iconst (v := (-1)) hx hb dX6_value_20 (by decide) ?_
  exact W.iret (v := (-1)) hx hb hr (fun t ht hW => ⟨⟨(-1), (), rfl, rfl, trivial⟩, hS.F ht⟩) hS.2.2 dX6_value_21

set_option maxHeartbeats 4000000 in
set_option maxRecDepth 100000 in
theorem c_X6_tick (l : Launch) (dC : Nat → ClassId) (dI : Nat → Nat → Nat) (h0 : Nat) (h1 : Nat) (h0_0 : Nat) (h0_1 : Int32) (h0_2 : Nat) (h0_4 : Nat) (h0_5 : Nat) (h0_6 : Nat) (h0_7 : Nat) (h0_8 : Nat) (h0_9 : Int32) (h0_10 : Nat) (h0_11 : Int32) (h1_1 : Int32) (h1_2 : Nat) (h1_3 : Nat) (h1_4 : Nat) (h1_5 : Nat) (h1_6 : Nat) (h1_7 : Nat) (h1_8 : Nat) (h1_9 : Nat) (h1_10 : Nat) (h1_11 : Nat) (h1_12 : Nat) (sz : Nat) : Met l yX6_tick wsX6_tick ({ frames := 2, cells := 0, slots := 0, locals := 43 }) (va_Pc [.ref h0] (fun U => U.heap.size = sz ∧ va_P (dC, dI) vwCl [(h0, .inr (5, [.ref h0_0, .int h0_1, .ref h0_2, .ref h1, .ref h0_4, .ref h0_5, .ref h0_6, .ref h0_7, .ref h0_8, .int h0_9, .ref h0_10, .int h0_11])), (h1, .inr (0, [.int 0, .int h1_1, .ref h1_2, .ref h1_3, .ref h1_4, .ref h1_5, .ref h1_6, .ref h1_7, .ref h1_8, .ref h1_9, .ref h1_10, .ref h1_11, .ref h1_12]))] U.heap ∧ va_K (dC, dI) vwCl [] U ∧ va_D (fun _ => True) [(h0, .inr (5, [.ref h0_0, .int h0_1, .ref h0_2, .ref h1, .ref h0_4, .ref h0_5, .ref h0_6, .ref h0_7, .ref h0_8, .int h0_9, .ref h0_10, .int h0_11])), (h1, .inr (0, [.int 0, .int h1_1, .ref h1_2, .ref h1_3, .ref h1_4, .ref h1_5, .ref h1_6, .ref h1_7, .ref h1_8, .ref h1_9, .ref h1_10, .ref h1_11, .ref h1_12]))])) (va_Qi (fun (r : Int32) (_ : Unit) => r = 0) (fun (_ : Unit) (_ : State) => True) (va_A [(h0, .inr (5, [.ref h0_0, .int h0_1, .ref h0_2, .ref h1, .ref h0_4, .ref h0_5, .ref h0_6, .ref h0_7, .ref h0_8, .int h0_9, .ref h0_10, .int h0_11])), (h1, .inr (0, [.int 0, .int h1_1, .ref h1_2, .ref h1_3, .ref h1_4, .ref h1_5, .ref h1_6, .ref h1_7, .ref h1_8, .ref h1_9, .ref h1_10, .ref h1_11, .ref h1_12]))] sz)) 0 0 (va_A [(h0, .inr (5, [.ref h0_0, .int h0_1, .ref h0_2, .ref h1, .ref h0_4, .ref h0_5, .ref h0_6, .ref h0_7, .ref h0_8, .int h0_9, .ref h0_10, .int h0_11])), (h1, .inr (0, [.int 0, .int h1_1, .ref h1_2, .ref h1_3, .ref h1_4, .ref h1_5, .ref h1_6, .ref h1_7, .ref h1_8, .ref h1_9, .ref h1_10, .ref h1_11, .ref h1_12]))] sz) := by
  refine Met.ofW (cc := cX6_tick) (maxL := 3) (ret := (some .int)) (by decide) rfl ?_
  intro p e s m args below meth c s₁ B hml hv
  obtain ⟨rfl, hsz, hP, hK, hD0⟩ := hv
  have hx := B.exec
  have hb := B.bytes
  have hr := B.returns
  have hts := atoms_spec (ws := wsX6_tick) B.pre
  have hown : s.vm.findClass RX6 = some m.cls := findClass_of_methodNamed B.named
  have hlocks := B.notSynchronized
  have inX0_ : ∀ w ∈ wsX00, w ∈ wsX6_tick := fun _ h => List.mem_cons_of_mem _ (List.mem_append_right _ h)
  have inX6_ : ∀ w ∈ wsX60, w ∈ wsX6_tick := fun _ h => List.mem_cons_of_mem _ (List.mem_append_left _ (List.mem_append_right _ h))
  subst hsz
  have hD := hD0.self (sz := s.heap.size)
  generalize hAe : va_A [(h0, .inr (5, [.ref h0_0, .int h0_1, .ref h0_2, .ref h1, .ref h0_4, .ref h0_5, .ref h0_6, .ref h0_7, .ref h0_8, .int h0_9, .ref h0_10, .int h0_11])), (h1, .inr (0, [.int 0, .int h1_1, .ref h1_2, .ref h1_3, .ref h1_4, .ref h1_5, .ref h1_6, .ref h1_7, .ref h1_8, .ref h1_9, .ref h1_10, .ref h1_11, .ref h1_12]))] s.heap.size = A at hD ⊢
  have hA : ∀ q : Nat, s.heap.size ≤ q → A q := fun q h => by rw [← hAe]; exact Or.inr h
  have hS : va_S A s.heap s.heap [] := va_S.rf
  have hP : va_P (dC, dI) vwCl [(h0, .inr (5, [.ref h0_0, .int h0_1, .ref h0_2, .ref h1, .ref h0_4, .ref h0_5, .ref h0_6, .ref h0_7, .ref h0_8, .int h0_9, .ref h0_10, .int h0_11])), (h1, .inr (0, [.int 0, .int h1_1, .ref h1_2, .ref h1_3, .ref h1_4, .ref h1_5, .ref h1_6, .ref h1_7, .ref h1_8, .ref h1_9, .ref h1_10, .ref h1_11, .ref h1_12]))] s.heap := hP
  have hl := lv_entry ([.ref h0]) (n := 3) (Nat.le_of_ble_eq_true rfl)
  rw [lg_entry_eq]
  generalize (lg_sl ([.ref h0]) ++ List.replicate (3 - (lg_sl ([.ref h0])).length) Slot.unset).toArray = ls at hl ⊢
  have hl : lv_has ls 3 [(0, .ref h0)] := hl
  refine lv_iconst (v := 0) hx hb dX6_tick_0 (by decide) ?_
  refine lv_istore_n (lv' := [(1, .int 0), (0, .ref h0)]) hx hb dX6_tick_1 rfl hl (by decide) rfl (fun ls hl => ?_)
  refine lv_iload_n hx hb dX6_tick_2 rfl (lv_at hl 0 rfl) ?_
  refine lv_aload_n hx hb dX6_tick_3 rfl (lv_at hl 1 rfl) ?_
  refine va_get (D := (dC, dI)) (ci := 5) (v := .ref h1) (C := RX6) (T := TX6) (N := 12) hx hb hts inX6_ hown hK hP 0 rfl rfl 3 (by decide) (hts (.fieldLink RX6 23 "GateWheel" "circuit" "LGateWheel$Circuit;") (List.mem_of_getElem? (i := 1) rfl)) (fun _ h9 => h9) rfl dX6_tick_4 ?_
  refine va_get (D := (dC, dI)) (ci := 0) (v := .int 0) (C := RX0) (T := TX0) (N := 13) hx hb hts inX0_ hown hK hP 1 rfl rfl 0 (by decide) (hts (.fieldLink RX6 66 "GateWheel$Circuit" "count" "I") (List.mem_of_getElem? (i := 2) rfl)) (fun _ h9 => h9) rfl dX6_tick_7 ?_
  refine lv_icmp_ge (tgt := 59) hx hb dX6_tick_10 (by decide) (fun _ => ?_) (fun hc => absurd (by decide) hc)
  refine lv_iconst (v := 0) hx hb dX6_tick_59 (by decide) ?_
  refine lv_istore_n (lv' := [(1, .int 0), (0, .ref h0)]) hx hb dX6_tick_60 rfl hl (by decide) rfl (fun ls hl => ?_)
  refine lv_iconst (v := 0) hx hb dX6_tick_61 (by decide) ?_
  refine lv_istore_n (lv' := [(2, .int 0), (1, .int 0), (0, .ref h0)]) hx hb dX6_tick_62 rfl hl (by decide) rfl (fun ls hl => ?_)
  refine lv_iload_n hx hb dX6_tick_63 rfl (lv_at hl 0 rfl) ?_
  refine lv_aload_n hx hb dX6_tick_64 rfl (lv_at hl 2 rfl) ?_
  refine va_get (D := (dC, dI)) (ci := 5) (v := .ref h1) (C := RX6) (T := TX6) (N := 12) hx hb hts inX6_ hown hK hP 0 rfl rfl 3 (by decide) (hts (.fieldLink RX6 23 "GateWheel" "circuit" "LGateWheel$Circuit;") (List.mem_of_getElem? (i := 1) rfl)) (fun _ h9 => h9) rfl dX6_tick_65 ?_
  refine va_get (D := (dC, dI)) (ci := 0) (v := .int 0) (C := RX0) (T := TX0) (N := 13) hx hb hts inX0_ hown hK hP 1 rfl rfl 0 (by decide) (hts (.fieldLink RX6 66 "GateWheel$Circuit" "count" "I") (List.mem_of_getElem? (i := 2) rfl)) (fun _ h9 => h9) rfl dX6_tick_68 ?_
  refine lv_icmp_ge (tgt := 110) hx hb dX6_tick_71 (by decide) (fun _ => ?_) (fun hc => absurd (by decide) hc)
  refine lv_aload_n hx hb dX6_tick_110 rfl (lv_at hl 2 rfl) ?_
  have hPc := hP.sub (ws' := [(h0, .inr (5, [.ref h0_0, .int h0_1, .ref h0_2, .ref h1, .ref h0_4, .ref h0_5, .ref h0_6, .ref h0_7, .ref h0_8, .int h0_9, .ref h0_10, .int h0_11])), (h1, .inr (0, [.int 0, .int h1_1, .ref h1_2, .ref h1_3, .ref h1_4, .ref h1_5, .ref h1_6, .ref h1_7, .ref h1_8, .ref h1_9, .ref h1_10, .ref h1_11, .ref h1_12]))]) [0, 1] rfl
  have hDc := hD.sub (ws' := [(h0, .inr (5, [.ref h0_0, .int h0_1, .ref h0_2, .ref h1, .ref h0_4, .ref h0_5, .ref h0_6, .ref h0_7, .ref h0_8, .int h0_9, .ref h0_10, .int h0_11])), (h1, .inr (0, [.int 0, .int h1_1, .ref h1_2, .ref h1_3, .ref h1_4, .ref h1_5, .ref h1_6, .ref h1_7, .ref h1_8, .ref h1_9, .ref h1_10, .ref h1_11, .ref h1_12]))]) [0, 1] (by decide) rfl
  have hKc := hK.sub (tys' := []) [] rfl
  have hFc := va_free (wc := [(h0, .inr (5, [.ref h0_0, .int h0_1, .ref h0_2, .ref h1, .ref h0_4, .ref h0_5, .ref h0_6, .ref h0_7, .ref h0_8, .int h0_9, .ref h0_10, .int h0_11])), (h1, .inr (0, [.int 0, .int h1_1, .ref h1_2, .ref h1_3, .ref h1_4, .ref h1_5, .ref h1_6, .ref h1_7, .ref h1_8, .ref h1_9, .ref h1_10, .ref h1_11, .ref h1_12]))]) hD hS hA [0, 1] rfl
  refine va_callv (va_runV (As := []) (rest := []) ⟨hx, hb, hml, hown, hts⟩ (c_X6_settleValues l dC dI h0 h1 h0_0 h0_1 h0_2 h0_4 h0_5 h0_6 h0_7 h0_8 h0_9 h0_10 h0_11 h1_1 h1_2 h1_3 h1_4 h1_5 h1_6 h1_7 h1_8 h1_9 h1_10 h1_11 h1_12 s.heap.size) (cwV 0 hts gX6_tick_X6_settleValues rfl rfl rfl (by decide +kernel) ⟨Nat.le_of_ble_eq_true rfl, Nat.le_of_ble_eq_true rfl⟩) ⟨fun a U g mk q => by obtain ⟨q0, q1, qP, qK, qD⟩ := q; exact ⟨q0, q1, qP, va_K.moved (u := U) (U := U.calling g mk a) (Vm.Alike.refl U.vm) qK, qD⟩, va_recv hKc hPc (ci := 5) (q0 := 0) rfl rfl, fun U hU hW => ⟨rfl, by rw [hU], by rw [hU]; exact hPc, va_K.moved hW.alike hKc, hDc.weaken (fun _ _ _ _ => trivial)⟩⟩ rfl rfl hl.1 rfl (lv_room (Nat.le_of_ble_eq_true rfl)) dX6_tick_111 ⟨Nat.le_of_ble_eq_true rfl, Nat.le_of_ble_eq_true rfl⟩) hS (fun q _ h => hFc q h) hFc (fun u t Hx1 locs ht hvm hw hB hz1 hk1 hS => ?_)
  obtain ⟨hP1, hK1, hD1⟩ := hB
  rw [ht] at hP1
  have hK1 := va_K.moved hvm.symm hK1
  obtain ⟨hP, hD⟩ := va_join (wr := []) (w1 := [(h0, .inr (5, [.ref h0_0, .int h0_1, .ref h0_2, .ref h1, .ref h0_4, .ref h0_5, .ref h0_6, .ref h0_7, .ref h0_8, .int 0, .ref h0_10, .int h0_11])), (h1, .inr (0, [.int 0, .int h1_1, .ref h1_2, .ref h1_3, .ref h1_4, .ref h1_5, .ref h1_6, .ref h1_7, .ref h1_8, .ref h1_9, .ref h1_10, .ref h1_11, .ref h1_12]))]) hP hD [0, 1] [] rfl rfl (by decide) (by decide) hk1 hFc hP1 hD1
  have hK := (hK.sub (tys' := []) [] rfl).app hK1
  have hP : va_P (dC, dI) vwCl [(h0, .inr (5, [.ref h0_0, .int h0_1, .ref h0_2, .ref h1, .ref h0_4, .ref h0_5, .ref h0_6, .ref h0_7, .ref h0_8, .int 0, .ref h0_10, .int h0_11])), (h1, .inr (0, [.int 0, .int h1_1, .ref h1_2, .ref h1_3, .ref h1_4, .ref h1_5, .ref h1_6, .ref h1_7, .ref h1_8, .ref h1_9, .ref h1_10, .ref h1_11, .ref h1_12]))] Hx1 := hP
  have hD : va_D A [(h0, .inr (5, [.ref h0_0, .int h0_1, .ref h0_2, .ref h1, .ref h0_4, .ref h0_5, .ref h0_6, .ref h0_7, .ref h0_8, .int 0, .ref h0_10, .int h0_11])), (h1, .inr (0, [.int 0, .int h1_1, .ref h1_2, .ref h1_3, .ref h1_4, .ref h1_5, .ref h1_6, .ref h1_7, .ref h1_8, .ref h1_9, .ref h1_10, .ref h1_11, .ref h1_12]))] := hD
  have hK : va_K (dC, dI) vwCl [] s := hK
  refine lv_iload_n hx hb dX6_tick_114 rfl (lv_at hl 1 rfl) ?_
  exact W.iret (v := 0) hx hb hr (fun t ht hW => ⟨⟨0, (), rfl, rfl, trivial⟩, hS.F ht⟩) hS.2.2 dX6_tick_115

set_option maxHeartbeats 4000000 in
set_option maxRecDepth 100000 in
theorem c_X6_flicker (l : Launch) (dC : Nat → ClassId) (dI : Nat → Nat → Nat) (h0 : Nat) (h1 : Nat) (h0_0 : Nat) (h0_1 : Int32) (h0_2 : Nat) (h0_4 : Nat) (h0_5 : Nat) (h0_6 : Nat) (h0_7 : Nat) (h0_8 : Nat) (h0_9 : Int32) (h0_10 : Nat) (h0_11 : Int32) (h1_1 : Int32) (h1_2 : Nat) (h1_3 : Nat) (h1_4 : Nat) (h1_5 : Nat) (h1_6 : Nat) (h1_7 : Nat) (h1_8 : Nat) (h1_9 : Nat) (h1_10 : Nat) (h1_11 : Nat) (h1_12 : Nat) (p1 : Int32) (p2 : Int32) (sz : Nat) : Met l yX6_flicker wsX6_flicker ({ frames := 2, cells := 0, slots := 0, locals := 43 }) (va_Pc [.ref h0, .int p1, .int p2] (fun U => U.heap.size = sz ∧ va_P (dC, dI) vwCl [(h0, .inr (5, [.ref h0_0, .int h0_1, .ref h0_2, .ref h1, .ref h0_4, .ref h0_5, .ref h0_6, .ref h0_7, .ref h0_8, .int h0_9, .ref h0_10, .int h0_11])), (h1, .inr (0, [.int 0, .int h1_1, .ref h1_2, .ref h1_3, .ref h1_4, .ref h1_5, .ref h1_6, .ref h1_7, .ref h1_8, .ref h1_9, .ref h1_10, .ref h1_11, .ref h1_12]))] U.heap ∧ va_K (dC, dI) vwCl [] U ∧ va_D (fun _ => True) [(h0, .inr (5, [.ref h0_0, .int h0_1, .ref h0_2, .ref h1, .ref h0_4, .ref h0_5, .ref h0_6, .ref h0_7, .ref h0_8, .int h0_9, .ref h0_10, .int h0_11])), (h1, .inr (0, [.int 0, .int h1_1, .ref h1_2, .ref h1_3, .ref h1_4, .ref h1_5, .ref h1_6, .ref h1_7, .ref h1_8, .ref h1_9, .ref h1_10, .ref h1_11, .ref h1_12]))])) (va_Qi (fun (r : Int32) (_ : Unit) => r = (-1)) (fun (_ : Unit) (_ : State) => True) (va_A [(h0, .inr (5, [.ref h0_0, .int h0_1, .ref h0_2, .ref h1, .ref h0_4, .ref h0_5, .ref h0_6, .ref h0_7, .ref h0_8, .int h0_9, .ref h0_10, .int h0_11])), (h1, .inr (0, [.int 0, .int h1_1, .ref h1_2, .ref h1_3, .ref h1_4, .ref h1_5, .ref h1_6, .ref h1_7, .ref h1_8, .ref h1_9, .ref h1_10, .ref h1_11, .ref h1_12]))] sz)) 0 0 (va_A [(h0, .inr (5, [.ref h0_0, .int h0_1, .ref h0_2, .ref h1, .ref h0_4, .ref h0_5, .ref h0_6, .ref h0_7, .ref h0_8, .int h0_9, .ref h0_10, .int h0_11])), (h1, .inr (0, [.int 0, .int h1_1, .ref h1_2, .ref h1_3, .ref h1_4, .ref h1_5, .ref h1_6, .ref h1_7, .ref h1_8, .ref h1_9, .ref h1_10, .ref h1_11, .ref h1_12]))] sz) := by
  refine Met.ofW (cc := cX6_flicker) (maxL := 5) (ret := (some .int)) (by decide) rfl ?_
  intro p e s m args below meth c s₁ B hml hv
  obtain ⟨rfl, hsz, hP, hK, hD0⟩ := hv
  have hx := B.exec
  have hb := B.bytes
  have hr := B.returns
  have hts := atoms_spec (ws := wsX6_flicker) B.pre
  have hown : s.vm.findClass RX6 = some m.cls := findClass_of_methodNamed B.named
  have hlocks := B.notSynchronized
  have inX6_ : ∀ w ∈ wsX60, w ∈ wsX6_flicker := fun _ h => List.mem_cons_of_mem _ (List.mem_append_left _ (List.mem_append_right _ h))
  subst hsz
  have hD := hD0.self (sz := s.heap.size)
  generalize hAe : va_A [(h0, .inr (5, [.ref h0_0, .int h0_1, .ref h0_2, .ref h1, .ref h0_4, .ref h0_5, .ref h0_6, .ref h0_7, .ref h0_8, .int h0_9, .ref h0_10, .int h0_11])), (h1, .inr (0, [.int 0, .int h1_1, .ref h1_2, .ref h1_3, .ref h1_4, .ref h1_5, .ref h1_6, .ref h1_7, .ref h1_8, .ref h1_9, .ref h1_10, .ref h1_11, .ref h1_12]))] s.heap.size = A at hD ⊢
  have hA : ∀ q : Nat, s.heap.size ≤ q → A q := fun q h => by rw [← hAe]; exact Or.inr h
  have hS : va_S A s.heap s.heap [] := va_S.rf
  have hP : va_P (dC, dI) vwCl [(h0, .inr (5, [.ref h0_0, .int h0_1, .ref h0_2, .ref h1, .ref h0_4, .ref h0_5, .ref h0_6, .ref h0_7, .ref h0_8, .int h0_9, .ref h0_10, .int h0_11])), (h1, .inr (0, [.int 0, .int h1_1, .ref h1_2, .ref h1_3, .ref h1_4, .ref h1_5, .ref h1_6, .ref h1_7, .ref h1_8, .ref h1_9, .ref h1_10, .ref h1_11, .ref h1_12]))] s.heap := hP
  have hl := lv_entry ([.ref h0, .int p1, .int p2]) (n := 5) (Nat.le_of_ble_eq_true rfl)
  rw [lg_entry_eq]
  generalize (lg_sl ([.ref h0, .int p1, .int p2]) ++ List.replicate (5 - (lg_sl ([.ref h0, .int p1, .int p2])).length) Slot.unset).toArray = ls at hl ⊢
  have hl : lv_has ls 5 [(0, .ref h0), (1, .int p1), (2, .int p2)] := hl
  refine lv_aload_n hx hb dX6_flicker_0 rfl (lv_at hl 0 rfl) ?_
  refine va_get (D := (dC, dI)) (ci := 5) (v := .ref h1) (C := RX6) (T := TX6) (N := 12) hx hb hts inX6_ hown hK hP 0 rfl rfl 3 (by decide) (hts (.fieldLink RX6 23 "GateWheel" "circuit" "LGateWheel$Circuit;") (List.mem_of_getElem? (i := 1) rfl)) (fun _ h9 => h9) rfl dX6_flicker_1 ?_
  refine lv_iload_n hx hb dX6_flicker_4 rfl (lv_at hl 1 rfl) ?_
  refine lv_iconst (v := 0) hx hb dX6_flicker_5 (by decide) ?_
  have hPc := hP.sub (ws' := [(h1, .inr (0, [.int 0, .int h1_1, .ref h1_2, .ref h1_3, .ref h1_4, .ref h1_5, .ref h1_6, .ref h1_7, .ref h1_8, .ref h1_9, .ref h1_10, .ref h1_11, .ref h1_12]))]) [1] rfl
  have hDc := hD.sub (ws' := [(h1, .inr (0, [.int 0, .int h1_1, .ref h1_2, .ref h1_3, .ref h1_4, .ref h1_5, .ref h1_6, .ref h1_7, .ref h1_8, .ref h1_9, .ref h1_10, .ref h1_11, .ref h1_12]))]) [1] (by decide) rfl
  have hKc := hK.sub (tys' := []) [] rfl
  have hFc := va_free (wc := [(h1, .inr (0, [.int 0, .int h1_1, .ref h1_2, .ref h1_3, .ref h1_4, .ref h1_5, .ref h1_6, .ref h1_7, .ref h1_8, .ref h1_9, .ref h1_10, .ref h1_11, .ref h1_12]))]) hD hS hA [1] rfl
  refine va_calli (va_runV (As := [.int p1, .int 0]) (rest := []) ⟨hx, hb, hml, hown, hts⟩ (c_X0_isKind l dC dI h1 h1_1 h1_2 h1_3 h1_4 h1_5 h1_6 h1_7 h1_8 h1_9 h1_10 h1_11 h1_12 p1 0 s.heap.size) (cwV 2 hts gX6_flicker_X0_isKind rfl rfl rfl (by decide +kernel) ⟨Nat.le_of_ble_eq_true rfl, Nat.le_of_ble_eq_true rfl⟩) ⟨fun a U g mk q => by obtain ⟨q0, q1, qP, qK, qD⟩ := q; exact ⟨q0, q1, qP, va_K.moved (u := U) (U := U.calling g mk a) (Vm.Alike.refl U.vm) qK, qD⟩, va_recv hKc hPc (ci := 0) (q0 := 0) rfl rfl, fun U hU hW => ⟨rfl, by rw [hU], by rw [hU]; exact hPc, va_K.moved hW.alike hKc, hDc.weaken (fun _ _ _ _ => trivial)⟩⟩ rfl rfl hl.1 rfl (lv_room (Nat.le_of_ble_eq_true rfl)) dX6_flicker_6 ⟨Nat.le_of_ble_eq_true rfl, Nat.le_of_ble_eq_true rfl⟩) hS (fun q _ h => hFc q h) hFc (fun rx2 u t Hx1 locs ht hvm hw hB hz1 hk1 hS => ?_)
  obtain ⟨hP1, hK1, hD1⟩ := hB
  rw [ht] at hP1
  have hK1 := va_K.moved hvm.symm hK1
  obtain ⟨hP, hD⟩ := va_join (wr := [(h0, .inr (5, [.ref h0_0, .int h0_1, .ref h0_2, .ref h1, .ref h0_4, .ref h0_5, .ref h0_6, .ref h0_7, .ref h0_8, .int h0_9, .ref h0_10, .int h0_11]))]) (w1 := [(h1, .inr (0, [.int 0, .int h1_1, .ref h1_2, .ref h1_3, .ref h1_4, .ref h1_5, .ref h1_6, .ref h1_7, .ref h1_8, .ref h1_9, .ref h1_10, .ref h1_11, .ref h1_12]))]) hP hD [1] [0] rfl rfl (by decide) (by decide) hk1 hFc hP1 hD1
  have hK := (hK.sub (tys' := []) [] rfl).app hK1
  have hP : va_P (dC, dI) vwCl [(h0, .inr (5, [.ref h0_0, .int h0_1, .ref h0_2, .ref h1, .ref h0_4, .ref h0_5, .ref h0_6, .ref h0_7, .ref h0_8, .int h0_9, .ref h0_10, .int h0_11])), (h1, .inr (0, [.int 0, .int h1_1, .ref h1_2, .ref h1_3, .ref h1_4, .ref h1_5, .ref h1_6, .ref h1_7, .ref h1_8, .ref h1_9, .ref h1_10, .ref h1_11, .ref h1_12]))] Hx1 := hP
  have hD : va_D A [(h0, .inr (5, [.ref h0_0, .int h0_1, .ref h0_2, .ref h1, .ref h0_4, .ref h0_5, .ref h0_6, .ref h0_7, .ref h0_8, .int h0_9, .ref h0_10, .int h0_11])), (h1, .inr (0, [.int 0, .int h1_1, .ref h1_2, .ref h1_3, .ref h1_4, .ref h1_5, .ref h1_6, .ref h1_7, .ref h1_8, .ref h1_9, .ref h1_10, .ref h1_11, .ref h1_12]))] := hD
  have hK : va_K (dC, dI) vwCl [] s := hK
  obtain rfl : rx2 = 0 := hw
  refine lv_if_eq (tgt := 26) hx hb dX6_flicker_9 (by decide) (fun _ => ?_) (fun hc => absurd (by decide) hc)
  refine lv_iconst (v := (-1)) hx hb dX6_flicker_26 (by decide) ?_
  exact W.iret (v := (-1)) hx hb hr (fun t ht hW => ⟨⟨(-1), (), rfl, rfl, trivial⟩, hS.F ht⟩) hS.2.2 dX6_flicker_27

set_option maxHeartbeats 4000000 in
set_option maxRecDepth 100000 in
theorem c_X6_wheel (l : Launch) (dC : Nat → ClassId) (dI : Nat → Nat → Nat) (h0 : Nat) (h1 : Nat) (h2 : Nat) (h0_0 : Nat) (h0_1 : Int32) (h0_2 : Nat) (h0_4 : Nat) (h0_5 : Nat) (h0_6 : Nat) (h0_7 : Nat) (h0_8 : Nat) (h0_9 : Int32) (h0_11 : Int32) (h1_1 : Int32) (h1_2 : Nat) (h1_3 : Nat) (h1_4 : Nat) (h1_5 : Nat) (h1_6 : Nat) (h1_7 : Nat) (h1_8 : Nat) (h1_9 : Nat) (h1_10 : Nat) (h1_11 : Nat) (h1_12 : Nat) (h2_0 : Int32) (h2_1 : Int32) (h2_2 : Nat) (h2_3 : Nat) (h2_4 : Nat) (h2_5 : Nat) (h2_6 : Nat) (h2_7 : Int64) (sz : Nat) : Met l yX6_wheel wsX6_wheel ({ frames := 1, cells := 0, slots := 0, locals := 23 }) (va_Pc [.ref h0] (fun U => U.heap.size = sz ∧ va_P (dC, dI) vwCl [(h0, .inr (5, [.ref h0_0, .int h0_1, .ref h0_2, .ref h1, .ref h0_4, .ref h0_5, .ref h0_6, .ref h0_7, .ref h0_8, .int h0_9, .ref h2, .int h0_11])), (h1, .inr (0, [.int 0, .int h1_1, .ref h1_2, .ref h1_3, .ref h1_4, .ref h1_5, .ref h1_6, .ref h1_7, .ref h1_8, .ref h1_9, .ref h1_10, .ref h1_11, .ref h1_12])), (h2, .inr (3, [.int h2_0, .int h2_1, .ref h2_2, .ref h2_3, .ref h2_4, .ref h2_5, .ref h2_6, .long h2_7]))] U.heap ∧ va_K (dC, dI) vwCl [] U ∧ va_D (fun _ => True) [(h0, .inr (5, [.ref h0_0, .int h0_1, .ref h0_2, .ref h1, .ref h0_4, .ref h0_5, .ref h0_6, .ref h0_7, .ref h0_8, .int h0_9, .ref h2, .int h0_11])), (h1, .inr (0, [.int 0, .int h1_1, .ref h1_2, .ref h1_3, .ref h1_4, .ref h1_5, .ref h1_6, .ref h1_7, .ref h1_8, .ref h1_9, .ref h1_10, .ref h1_11, .ref h1_12])), (h2, .inr (3, [.int h2_0, .int h2_1, .ref h2_2, .ref h2_3, .ref h2_4, .ref h2_5, .ref h2_6, .long h2_7]))])) (va_Qi (fun (r : Int32) (_ : Unit) => r = 1) (fun (_ : Unit) (_ : State) => True) (va_A [(h0, .inr (5, [.ref h0_0, .int h0_1, .ref h0_2, .ref h1, .ref h0_4, .ref h0_5, .ref h0_6, .ref h0_7, .ref h0_8, .int h0_9, .ref h2, .int h0_11])), (h1, .inr (0, [.int 0, .int h1_1, .ref h1_2, .ref h1_3, .ref h1_4, .ref h1_5, .ref h1_6, .ref h1_7, .ref h1_8, .ref h1_9, .ref h1_10, .ref h1_11, .ref h1_12])), (h2, .inr (3, [.int h2_0, .int h2_1, .ref h2_2, .ref h2_3, .ref h2_4, .ref h2_5, .ref h2_6, .long h2_7]))] sz)) 0 0 (va_A [(h0, .inr (5, [.ref h0_0, .int h0_1, .ref h0_2, .ref h1, .ref h0_4, .ref h0_5, .ref h0_6, .ref h0_7, .ref h0_8, .int h0_9, .ref h2, .int h0_11])), (h1, .inr (0, [.int 0, .int h1_1, .ref h1_2, .ref h1_3, .ref h1_4, .ref h1_5, .ref h1_6, .ref h1_7, .ref h1_8, .ref h1_9, .ref h1_10, .ref h1_11, .ref h1_12])), (h2, .inr (3, [.int h2_0, .int h2_1, .ref h2_2, .ref h2_3, .ref h2_4, .ref h2_5, .ref h2_6, .long h2_7]))] sz) := by
  refine Met.ofW (cc := cX6_wheel) (maxL := 1) (ret := (some .boolean)) (by decide) rfl ?_
  intro p e s m args below meth c s₁ B hml hv
  obtain ⟨rfl, hsz, hP, hK, hD0⟩ := hv
  have hx := B.exec
  have hb := B.bytes
  have hr := B.returns
  have hts := atoms_spec (ws := wsX6_wheel) B.pre
  have hown : s.vm.findClass RX6 = some m.cls := findClass_of_methodNamed B.named
  have hlocks := B.notSynchronized
  have inX6_ : ∀ w ∈ wsX60, w ∈ wsX6_wheel := fun _ h => List.mem_cons_of_mem _ (List.mem_append_left _ (List.mem_append_left _ (List.mem_append_right _ h)))
  subst hsz
  have hD := hD0.self (sz := s.heap.size)
  generalize hAe : va_A [(h0, .inr (5, [.ref h0_0, .int h0_1, .ref h0_2, .ref h1, .ref h0_4, .ref h0_5, .ref h0_6, .ref h0_7, .ref h0_8, .int h0_9, .ref h2, .int h0_11])), (h1, .inr (0, [.int 0, .int h1_1, .ref h1_2, .ref h1_3, .ref h1_4, .ref h1_5, .ref h1_6, .ref h1_7, .ref h1_8, .ref h1_9, .ref h1_10, .ref h1_11, .ref h1_12])), (h2, .inr (3, [.int h2_0, .int h2_1, .ref h2_2, .ref h2_3, .ref h2_4, .ref h2_5, .ref h2_6, .long h2_7]))] s.heap.size = A at hD ⊢
  have hA : ∀ q : Nat, s.heap.size ≤ q → A q := fun q h => by rw [← hAe]; exact Or.inr h
  have hS : va_S A s.heap s.heap [] := va_S.rf
  have hP : va_P (dC, dI) vwCl [(h0, .inr (5, [.ref h0_0, .int h0_1, .ref h0_2, .ref h1, .ref h0_4, .ref h0_5, .ref h0_6, .ref h0_7, .ref h0_8, .int h0_9, .ref h2, .int h0_11])), (h1, .inr (0, [.int 0, .int h1_1, .ref h1_2, .ref h1_3, .ref h1_4, .ref h1_5, .ref h1_6, .ref h1_7, .ref h1_8, .ref h1_9, .ref h1_10, .ref h1_11, .ref h1_12])), (h2, .inr (3, [.int h2_0, .int h2_1, .ref h2_2, .ref h2_3, .ref h2_4, .ref h2_5, .ref h2_6, .long h2_7]))] s.heap := hP
  have hl := lv_entry ([.ref h0]) (n := 1) (Nat.le_of_ble_eq_true rfl)
  rw [lg_entry_eq]
  generalize (lg_sl ([.ref h0]) ++ List.replicate (1 - (lg_sl ([.ref h0])).length) Slot.unset).toArray = ls at hl ⊢
  have hl : lv_has ls 1 [(0, .ref h0)] := hl
  refine lv_aload_n hx hb dX6_wheel_0 rfl (lv_at hl 0 rfl) ?_
  refine va_get (D := (dC, dI)) (ci := 5) (v := .ref h2) (C := RX6) (T := TX6) (N := 12) hx hb hts inX6_ hown hK hP 0 rfl rfl 10 (by decide) (hts (.fieldLink RX6 50 "GateWheel" "spinning" "LGateWheel$Wheel;") (List.mem_of_getElem? (i := 1) rfl)) (fun _ h9 => h9) rfl dX6_wheel_1 ?_
  refine lv_aload_n hx hb dX6_wheel_4 rfl (lv_at hl 0 rfl) ?_
  refine va_get (D := (dC, dI)) (ci := 5) (v := .ref h1) (C := RX6) (T := TX6) (N := 12) hx hb hts inX6_ hown hK hP 0 rfl rfl 3 (by decide) (hts (.fieldLink RX6 23 "GateWheel" "circuit" "LGateWheel$Circuit;") (List.mem_of_getElem? (i := 2) rfl)) (fun _ h9 => h9) rfl dX6_wheel_5 ?_
  refine lv_aload_n hx hb dX6_wheel_8 rfl (lv_at hl 0 rfl) ?_
  refine va_get (D := (dC, dI)) (ci := 5) (v := .ref h0_5) (C := RX6) (T := TX6) (N := 12) hx hb hts inX6_ hown hK hP 0 rfl rfl 5 (by decide) (hts (.fieldLink RX6 30 "GateWheel" "values" "[I") (List.mem_of_getElem? (i := 3) rfl)) (fun _ h9 => h9) rfl dX6_wheel_9 ?_
  have hPc := hP.sub (ws' := [(h2, .inr (3, [.int h2_0, .int h2_1, .ref h2_2, .ref h2_3, .ref h2_4, .ref h2_5, .ref h2_6, .long h2_7])), (h1, .inr (0, [.int 0, .int h1_1, .ref h1_2, .ref h1_3, .ref h1_4, .ref h1_5, .ref h1_6, .ref h1_7, .ref h1_8, .ref h1_9, .ref h1_10, .ref h1_11, .ref h1_12]))]) [2, 1] rfl
  have hDc := hD.sub (ws' := [(h2, .inr (3, [.int h2_0, .int h2_1, .ref h2_2, .ref h2_3, .ref h2_4, .ref h2_5, .ref h2_6, .long h2_7])), (h1, .inr (0, [.int 0, .int h1_1, .ref h1_2, .ref h1_3, .ref h1_4, .ref h1_5, .ref h1_6, .ref h1_7, .ref h1_8, .ref h1_9, .ref h1_10, .ref h1_11, .ref h1_12]))]) [2, 1] (by decide) rfl
  have hKc := hK.sub (tys' := []) [] rfl
  have hFc := va_free (wc := [(h2, .inr (3, [.int h2_0, .int h2_1, .ref h2_2, .ref h2_3, .ref h2_4, .ref h2_5, .ref h2_6, .long h2_7])), (h1, .inr (0, [.int 0, .int h1_1, .ref h1_2, .ref h1_3, .ref h1_4, .ref h1_5, .ref h1_6, .ref h1_7, .ref h1_8, .ref h1_9, .ref h1_10, .ref h1_11, .ref h1_12]))]) hD hS hA [2, 1] rfl
  refine va_callv (va_runV (As := [.ref h1, .ref h0_5]) (rest := []) ⟨hx, hb, hml, hown, hts⟩ (c_X4_begin l dC dI h2 h1 h2_0 h2_1 h2_2 h2_3 h2_4 h2_5 h2_6 h2_7 h1_1 h1_2 h1_3 h1_4 h1_5 h1_6 h1_7 h1_8 h1_9 h1_10 h1_11 h1_12 h0_5 s.heap.size) (cwV 2 hts gX6_wheel_X4_begin rfl rfl rfl (by decide +kernel) ⟨Nat.le_of_ble_eq_true rfl, Nat.le_of_ble_eq_true rfl⟩) ⟨fun a U g mk q => by obtain ⟨q0, q1, qP, qK, qD⟩ := q; exact ⟨q0, q1, qP, va_K.moved (u := U) (U := U.calling g mk a) (Vm.Alike.refl U.vm) qK, qD⟩, va_recv hKc hPc (ci := 3) (q0 := 0) rfl rfl, fun U hU hW => ⟨rfl, by rw [hU], by rw [hU]; exact hPc, va_K.moved hW.alike hKc, hDc.weaken (fun _ _ _ _ => trivial)⟩⟩ rfl rfl hl.1 rfl (lv_room (Nat.le_of_ble_eq_true rfl)) dX6_wheel_12 ⟨Nat.le_of_ble_eq_true rfl, Nat.le_of_ble_eq_true rfl⟩) hS (fun q _ h => hFc q h) hFc (fun u t Hx1 locs ht hvm hw hB hz1 hk1 hS => ?_)
  obtain ⟨hP1, hK1, hD1⟩ := hB
  rw [ht] at hP1
  have hK1 := va_K.moved hvm.symm hK1
  obtain ⟨hP, hD⟩ := va_join (wr := [(h0, .inr (5, [.ref h0_0, .int h0_1, .ref h0_2, .ref h1, .ref h0_4, .ref h0_5, .ref h0_6, .ref h0_7, .ref h0_8, .int h0_9, .ref h2, .int h0_11]))]) (w1 := [(h2, .inr (3, [.int 0, .int 0, .ref h2_2, .ref h2_3, .ref h2_4, .ref h2_5, .ref h2_6, .long 0])), (h1, .inr (0, [.int 0, .int h1_1, .ref h1_2, .ref h1_3, .ref h1_4, .ref h1_5, .ref h1_6, .ref h1_7, .ref h1_8, .ref h1_9, .ref h1_10, .ref h1_11, .ref h1_12]))]) hP hD [2, 1] [0] rfl rfl (by decide) (by decide) hk1 hFc hP1 hD1
  have hK := (hK.sub (tys' := []) [] rfl).app hK1
  have hP : va_P (dC, dI) vwCl [(h0, .inr (5, [.ref h0_0, .int h0_1, .ref h0_2, .ref h1, .ref h0_4, .ref h0_5, .ref h0_6, .ref h0_7, .ref h0_8, .int h0_9, .ref h2, .int h0_11])), (h2, .inr (3, [.int 0, .int 0, .ref h2_2, .ref h2_3, .ref h2_4, .ref h2_5, .ref h2_6, .long 0])), (h1, .inr (0, [.int 0, .int h1_1, .ref h1_2, .ref h1_3, .ref h1_4, .ref h1_5, .ref h1_6, .ref h1_7, .ref h1_8, .ref h1_9, .ref h1_10, .ref h1_11, .ref h1_12]))] Hx1 := hP
  have hD : va_D A [(h0, .inr (5, [.ref h0_0, .int h0_1, .ref h0_2, .ref h1, .ref h0_4, .ref h0_5, .ref h0_6, .ref h0_7, .ref h0_8, .int h0_9, .ref h2, .int h0_11])), (h2, .inr (3, [.int 0, .int 0, .ref h2_2, .ref h2_3, .ref h2_4, .ref h2_5, .ref h2_6, .long 0])), (h1, .inr (0, [.int 0, .int h1_1, .ref h1_2, .ref h1_3, .ref h1_4, .ref h1_5, .ref h1_6, .ref h1_7, .ref h1_8, .ref h1_9, .ref h1_10, .ref h1_11, .ref h1_12]))] := hD
  have hK : va_K (dC, dI) vwCl [] s := hK
  refine lv_aload_n hx hb dX6_wheel_15 rfl (lv_at hl 0 rfl) ?_
  refine lv_iconst (v := 1) hx hb dX6_wheel_16 (by decide) ?_
  refine va_put (D := (dC, dI)) (ci := 5) (v := .int 1) (ty := .boolean) (C := RX6) (T := TX6) (N := 12) hx hb hts inX6_ tyX6 tyX6_ok nmX6 hown hK hP hD hS 0 rfl rfl 11 (by decide) (hts (.fieldLink RX6 69 "GateWheel" "hasWheel" "Z") (List.mem_of_getElem? (i := 4) rfl)) (fun _ h9 => h9) rfl (by decide +kernel) (by decide) rfl (Nat.le_of_ble_eq_true rfl) dX6_wheel_17 (fun Hx3 locs hP hD hS => ?_)
  have hP : va_P (dC, dI) vwCl [(h0, .inr (5, [.ref h0_0, .int h0_1, .ref h0_2, .ref h1, .ref h0_4, .ref h0_5, .ref h0_6, .ref h0_7, .ref h0_8, .int h0_9, .ref h2, .int 1])), (h2, .inr (3, [.int 0, .int 0, .ref h2_2, .ref h2_3, .ref h2_4, .ref h2_5, .ref h2_6, .long 0])), (h1, .inr (0, [.int 0, .int h1_1, .ref h1_2, .ref h1_3, .ref h1_4, .ref h1_5, .ref h1_6, .ref h1_7, .ref h1_8, .ref h1_9, .ref h1_10, .ref h1_11, .ref h1_12]))] Hx3 := hP
  have hD : va_D A [(h0, .inr (5, [.ref h0_0, .int h0_1, .ref h0_2, .ref h1, .ref h0_4, .ref h0_5, .ref h0_6, .ref h0_7, .ref h0_8, .int h0_9, .ref h2, .int 1])), (h2, .inr (3, [.int 0, .int 0, .ref h2_2, .ref h2_3, .ref h2_4, .ref h2_5, .ref h2_6, .long 0])), (h1, .inr (0, [.int 0, .int h1_1, .ref h1_2, .ref h1_3, .ref h1_4, .ref h1_5, .ref h1_6, .ref h1_7, .ref h1_8, .ref h1_9, .ref h1_10, .ref h1_11, .ref h1_12]))] := hD
  refine lv_iconst (v := 1) hx hb dX6_wheel_20 (by decide) ?_
  exact W.zret (v := 1) hx hb hr (by decide) (fun t ht hW => ⟨⟨1, (), rfl, rfl, trivial⟩, hS.F ht⟩) hS.2.2 dX6_wheel_21

set_option maxHeartbeats 4000000 in
set_option maxRecDepth 100000 in
theorem c_X6_put (l : Launch) (dC : Nat → ClassId) (dI : Nat → Nat → Nat) (h0 : Nat) (h0_0 : Nat) (h0_1 : Int32) (h0_2 : Nat) (h0_3 : Nat) (h0_4 : Nat) (h0_5 : Nat) (h0_6 : Nat) (h0_7 : Nat) (h0_8 : Nat) (h0_9 : Int32) (h0_10 : Nat) (p1 : Int32) (p2 : Int32) (sz : Nat) : Met l yX6_put wsX6_put ({ frames := 0, cells := 0, slots := 0, locals := 0 }) (va_Pc [.ref h0, .int p1, .int p2] (fun U => U.heap.size = sz ∧ va_P (dC, dI) vwCl [(h0, .inr (5, [.ref h0_0, .int h0_1, .ref h0_2, .ref h0_3, .ref h0_4, .ref h0_5, .ref h0_6, .ref h0_7, .ref h0_8, .int h0_9, .ref h0_10, .int 0]))] U.heap ∧ va_K (dC, dI) vwCl [] U ∧ va_D (fun _ => True) [(h0, .inr (5, [.ref h0_0, .int h0_1, .ref h0_2, .ref h0_3, .ref h0_4, .ref h0_5, .ref h0_6, .ref h0_7, .ref h0_8, .int h0_9, .ref h0_10, .int 0]))])) (va_Qi (fun (r : Int32) (_ : Unit) => r = 0) (fun (_ : Unit) (_ : State) => True) (va_A [(h0, .inr (5, [.ref h0_0, .int h0_1, .ref h0_2, .ref h0_3, .ref h0_4, .ref h0_5, .ref h0_6, .ref h0_7, .ref h0_8, .int h0_9, .ref h0_10, .int 0]))] sz)) 0 0 (va_A [(h0, .inr (5, [.ref h0_0, .int h0_1, .ref h0_2, .ref h0_3, .ref h0_4, .ref h0_5, .ref h0_6, .ref h0_7, .ref h0_8, .int h0_9, .ref h0_10, .int 0]))] sz) := by
  refine Met.ofW (cc := cX6_put) (maxL := 3) (ret := (some .boolean)) (by decide) rfl ?_
  intro p e s m args below meth c s₁ B hml hv
  obtain ⟨rfl, hsz, hP, hK, hD0⟩ := hv
  have hx := B.exec
  have hb := B.bytes
  have hr := B.returns
  have hts := atoms_spec (ws := wsX6_put) B.pre
  have hown : s.vm.findClass RX6 = some m.cls := findClass_of_methodNamed B.named
  have hlocks := B.notSynchronized
  have inX6_ : ∀ w ∈ wsX60, w ∈ wsX6_put := fun _ h => List.mem_cons_of_mem _ (List.mem_append_left _ (List.mem_append_left _ (List.mem_append_right _ h)))
  subst hsz
  have hD := hD0.self (sz := s.heap.size)
  generalize hAe : va_A [(h0, .inr (5, [.ref h0_0, .int h0_1, .ref h0_2, .ref h0_3, .ref h0_4, .ref h0_5, .ref h0_6, .ref h0_7, .ref h0_8, .int h0_9, .ref h0_10, .int 0]))] s.heap.size = A at hD ⊢
  have hA : ∀ q : Nat, s.heap.size ≤ q → A q := fun q h => by rw [← hAe]; exact Or.inr h
  have hS : va_S A s.heap s.heap [] := va_S.rf
  have hP : va_P (dC, dI) vwCl [(h0, .inr (5, [.ref h0_0, .int h0_1, .ref h0_2, .ref h0_3, .ref h0_4, .ref h0_5, .ref h0_6, .ref h0_7, .ref h0_8, .int h0_9, .ref h0_10, .int 0]))] s.heap := hP
  have hl := lv_entry ([.ref h0, .int p1, .int p2]) (n := 3) (Nat.le_of_ble_eq_true rfl)
  rw [lg_entry_eq]
  generalize (lg_sl ([.ref h0, .int p1, .int p2]) ++ List.replicate (3 - (lg_sl ([.ref h0, .int p1, .int p2])).length) Slot.unset).toArray = ls at hl ⊢
  have hl : lv_has ls 3 [(0, .ref h0), (1, .int p1), (2, .int p2)] := hl
  refine lv_aload_n hx hb dX6_put_0 rfl (lv_at hl 0 rfl) ?_
  refine va_get (D := (dC, dI)) (ci := 5) (v := .int 0) (C := RX6) (T := TX6) (N := 12) hx hb hts inX6_ hown hK hP 0 rfl rfl 11 (by decide) (hts (.fieldLink RX6 69 "GateWheel" "hasWheel" "Z") (List.mem_of_getElem? (i := 1) rfl)) (fun _ h9 => h9) rfl dX6_put_1 ?_
  refine lv_if_eq (tgt := 28) hx hb dX6_put_4 (by decide) (fun _ => ?_) (fun hc => absurd (by decide) hc)
  refine lv_iconst (v := 0) hx hb dX6_put_28 (by decide) ?_
  exact W.zret (v := 0) hx hb hr (by decide) (fun t ht hW => ⟨⟨0, (), rfl, rfl, trivial⟩, hS.F ht⟩) hS.2.2 dX6_put_29

set_option maxHeartbeats 4000000 in
set_option maxRecDepth 100000 in
theorem c_X6_run (l : Launch) (dC : Nat → ClassId) (dI : Nat → Nat → Nat) (h0 : Nat) (h0_0 : Nat) (h0_1 : Int32) (h0_2 : Nat) (h0_3 : Nat) (h0_4 : Nat) (h0_5 : Nat) (h0_6 : Nat) (h0_7 : Nat) (h0_8 : Nat) (h0_9 : Int32) (h0_10 : Nat) (p1 : Int32) (sz : Nat) : Met l yX6_run wsX6_run ({ frames := 0, cells := 0, slots := 0, locals := 0 }) (va_Pc [.ref h0, .int p1] (fun U => U.heap.size = sz ∧ va_P (dC, dI) vwCl [(h0, .inr (5, [.ref h0_0, .int h0_1, .ref h0_2, .ref h0_3, .ref h0_4, .ref h0_5, .ref h0_6, .ref h0_7, .ref h0_8, .int h0_9, .ref h0_10, .int 0]))] U.heap ∧ va_K (dC, dI) vwCl [] U ∧ va_D (fun _ => True) [(h0, .inr (5, [.ref h0_0, .int h0_1, .ref h0_2, .ref h0_3, .ref h0_4, .ref h0_5, .ref h0_6, .ref h0_7, .ref h0_8, .int h0_9, .ref h0_10, .int 0]))])) (va_Qi (fun (r : Int32) (_ : Unit) => r = (-1)) (fun (_ : Unit) (_ : State) => True) (va_A [(h0, .inr (5, [.ref h0_0, .int h0_1, .ref h0_2, .ref h0_3, .ref h0_4, .ref h0_5, .ref h0_6, .ref h0_7, .ref h0_8, .int h0_9, .ref h0_10, .int 0]))] sz)) 0 0 (va_A [(h0, .inr (5, [.ref h0_0, .int h0_1, .ref h0_2, .ref h0_3, .ref h0_4, .ref h0_5, .ref h0_6, .ref h0_7, .ref h0_8, .int h0_9, .ref h0_10, .int 0]))] sz) := by
  refine Met.ofW (cc := cX6_run) (maxL := 2) (ret := (some .int)) (by decide) rfl ?_
  intro p e s m args below meth c s₁ B hml hv
  obtain ⟨rfl, hsz, hP, hK, hD0⟩ := hv
  have hx := B.exec
  have hb := B.bytes
  have hr := B.returns
  have hts := atoms_spec (ws := wsX6_run) B.pre
  have hown : s.vm.findClass RX6 = some m.cls := findClass_of_methodNamed B.named
  have hlocks := B.notSynchronized
  have inX6_ : ∀ w ∈ wsX60, w ∈ wsX6_run := fun _ h => List.mem_cons_of_mem _ (List.mem_append_left _ (List.mem_append_left _ (List.mem_append_right _ h)))
  subst hsz
  have hD := hD0.self (sz := s.heap.size)
  generalize hAe : va_A [(h0, .inr (5, [.ref h0_0, .int h0_1, .ref h0_2, .ref h0_3, .ref h0_4, .ref h0_5, .ref h0_6, .ref h0_7, .ref h0_8, .int h0_9, .ref h0_10, .int 0]))] s.heap.size = A at hD ⊢
  have hA : ∀ q : Nat, s.heap.size ≤ q → A q := fun q h => by rw [← hAe]; exact Or.inr h
  have hS : va_S A s.heap s.heap [] := va_S.rf
  have hP : va_P (dC, dI) vwCl [(h0, .inr (5, [.ref h0_0, .int h0_1, .ref h0_2, .ref h0_3, .ref h0_4, .ref h0_5, .ref h0_6, .ref h0_7, .ref h0_8, .int h0_9, .ref h0_10, .int 0]))] s.heap := hP
  have hl := lv_entry ([.ref h0, .int p1]) (n := 2) (Nat.le_of_ble_eq_true rfl)
  rw [lg_entry_eq]
  generalize (lg_sl ([.ref h0, .int p1]) ++ List.replicate (2 - (lg_sl ([.ref h0, .int p1])).length) Slot.unset).toArray = ls at hl ⊢
  have hl : lv_has ls 2 [(0, .ref h0), (1, .int p1)] := hl
  refine lv_aload_n hx hb dX6_run_0 rfl (lv_at hl 0 rfl) ?_
  refine va_get (D := (dC, dI)) (ci := 5) (v := .int 0) (C := RX6) (T := TX6) (N := 12) hx hb hts inX6_ hown hK hP 0 rfl rfl 11 (by decide) (hts (.fieldLink RX6 69 "GateWheel" "hasWheel" "Z") (List.mem_of_getElem? (i := 1) rfl)) (fun _ h9 => h9) rfl dX6_run_1 ?_
  refine lv_if_eq (tgt := 18) hx hb dX6_run_4 (by decide) (fun _ => ?_) (fun hc => absurd (by decide) hc)
  refine lv_iconst (v := (-1)) hx hb dX6_run_18 (by decide) ?_
  exact W.iret (v := (-1)) hx hb hr (fun t ht hW => ⟨⟨(-1), (), rfl, rfl, trivial⟩, hS.F ht⟩) hS.2.2 dX6_run_19

set_option maxHeartbeats 4000000 in
set_option maxRecDepth 100000 in
theorem c_X6_on (l : Launch) (dC : Nat → ClassId) (dI : Nat → Nat → Nat) (h0 : Nat) (h0_0 : Nat) (h0_1 : Int32) (h0_2 : Nat) (h0_3 : Nat) (h0_4 : Nat) (h0_5 : Nat) (h0_6 : Nat) (h0_7 : Nat) (h0_8 : Nat) (h0_9 : Int32) (h0_10 : Nat) (p1 : Int32) (sz : Nat) : Met l yX6_on wsX6_on ({ frames := 0, cells := 0, slots := 0, locals := 0 }) (va_Pc [.ref h0, .int p1] (fun U => U.heap.size = sz ∧ va_P (dC, dI) vwCl [(h0, .inr (5, [.ref h0_0, .int h0_1, .ref h0_2, .ref h0_3, .ref h0_4, .ref h0_5, .ref h0_6, .ref h0_7, .ref h0_8, .int h0_9, .ref h0_10, .int 0]))] U.heap ∧ va_K (dC, dI) vwCl [] U ∧ va_D (fun _ => True) [(h0, .inr (5, [.ref h0_0, .int h0_1, .ref h0_2, .ref h0_3, .ref h0_4, .ref h0_5, .ref h0_6, .ref h0_7, .ref h0_8, .int h0_9, .ref h0_10, .int 0]))])) (va_Qi (fun (r : Int32) (_ : Unit) => r = (-1)) (fun (_ : Unit) (_ : State) => True) (va_A [(h0, .inr (5, [.ref h0_0, .int h0_1, .ref h0_2, .ref h0_3, .ref h0_4, .ref h0_5, .ref h0_6, .ref h0_7, .ref h0_8, .int h0_9, .ref h0_10, .int 0]))] sz)) 0 0 (va_A [(h0, .inr (5, [.ref h0_0, .int h0_1, .ref h0_2, .ref h0_3, .ref h0_4, .ref h0_5, .ref h0_6, .ref h0_7, .ref h0_8, .int h0_9, .ref h0_10, .int 0]))] sz) := by
  refine Met.ofW (cc := cX6_on) (maxL := 2) (ret := (some .int)) (by decide) rfl ?_
  intro p e s m args below meth c s₁ B hml hv
  obtain ⟨rfl, hsz, hP, hK, hD0⟩ := hv
  have hx := B.exec
  have hb := B.bytes
  have hr := B.returns
  have hts := atoms_spec (ws := wsX6_on) B.pre
  have hown : s.vm.findClass RX6 = some m.cls := findClass_of_methodNamed B.named
  have hlocks := B.notSynchronized
  have inX6_ : ∀ w ∈ wsX60, w ∈ wsX6_on := fun _ h => List.mem_cons_of_mem _ (List.mem_append_left _ (List.mem_append_left _ (List.mem_append_right _ h)))
  subst hsz
  have hD := hD0.self (sz := s.heap.size)
  generalize hAe : va_A [(h0, .inr (5, [.ref h0_0, .int h0_1, .ref h0_2, .ref h0_3, .ref h0_4, .ref h0_5, .ref h0_6, .ref h0_7, .ref h0_8, .int h0_9, .ref h0_10, .int 0]))] s.heap.size = A at hD ⊢
  have hA : ∀ q : Nat, s.heap.size ≤ q → A q := fun q h => by rw [← hAe]; exact Or.inr h
  have hS : va_S A s.heap s.heap [] := va_S.rf
  have hP : va_P (dC, dI) vwCl [(h0, .inr (5, [.ref h0_0, .int h0_1, .ref h0_2, .ref h0_3, .ref h0_4, .ref h0_5, .ref h0_6, .ref h0_7, .ref h0_8, .int h0_9, .ref h0_10, .int 0]))] s.heap := hP
  have hl := lv_entry ([.ref h0, .int p1]) (n := 2) (Nat.le_of_ble_eq_true rfl)
  rw [lg_entry_eq]
  generalize (lg_sl ([.ref h0, .int p1]) ++ List.replicate (2 - (lg_sl ([.ref h0, .int p1])).length) Slot.unset).toArray = ls at hl ⊢
  have hl : lv_has ls 2 [(0, .ref h0), (1, .int p1)] := hl
  refine lv_aload_n hx hb dX6_on_0 rfl (lv_at hl 0 rfl) ?_
  refine va_get (D := (dC, dI)) (ci := 5) (v := .int 0) (C := RX6) (T := TX6) (N := 12) hx hb hts inX6_ hown hK hP 0 rfl rfl 11 (by decide) (hts (.fieldLink RX6 69 "GateWheel" "hasWheel" "Z") (List.mem_of_getElem? (i := 1) rfl)) (fun _ h9 => h9) rfl dX6_on_1 ?_
  refine lv_if_eq (tgt := 30) hx hb dX6_on_4 (by decide) (fun _ => ?_) (fun hc => absurd (by decide) hc)
  refine lv_iconst (v := (-1)) hx hb dX6_on_30 (by decide) ?_
  exact W.iret (v := (-1)) hx hb hr (fun t ht hW => ⟨⟨(-1), (), rfl, rfl, trivial⟩, hS.F ht⟩) hS.2.2 dX6_on_31

set_option maxHeartbeats 4000000 in
set_option maxRecDepth 100000 in
theorem c_X6_wave (l : Launch) (dC : Nat → ClassId) (dI : Nat → Nat → Nat) (h0 : Nat) (h0_0 : Nat) (h0_1 : Int32) (h0_2 : Nat) (h0_3 : Nat) (h0_4 : Nat) (h0_5 : Nat) (h0_6 : Nat) (h0_7 : Nat) (h0_8 : Nat) (h0_9 : Int32) (h0_10 : Nat) (p1 : Int32) (p2 : Int32) (sz : Nat) : Met l yX6_wave wsX6_wave ({ frames := 0, cells := 0, slots := 0, locals := 0 }) (va_Pc [.ref h0, .int p1, .int p2] (fun U => U.heap.size = sz ∧ va_P (dC, dI) vwCl [(h0, .inr (5, [.ref h0_0, .int h0_1, .ref h0_2, .ref h0_3, .ref h0_4, .ref h0_5, .ref h0_6, .ref h0_7, .ref h0_8, .int h0_9, .ref h0_10, .int 0]))] U.heap ∧ va_K (dC, dI) vwCl [] U ∧ va_D (fun _ => True) [(h0, .inr (5, [.ref h0_0, .int h0_1, .ref h0_2, .ref h0_3, .ref h0_4, .ref h0_5, .ref h0_6, .ref h0_7, .ref h0_8, .int h0_9, .ref h0_10, .int 0]))])) (va_Qi (fun (r : Int32) (_ : Unit) => r = (-1)) (fun (_ : Unit) (_ : State) => True) (va_A [(h0, .inr (5, [.ref h0_0, .int h0_1, .ref h0_2, .ref h0_3, .ref h0_4, .ref h0_5, .ref h0_6, .ref h0_7, .ref h0_8, .int h0_9, .ref h0_10, .int 0]))] sz)) 0 0 (va_A [(h0, .inr (5, [.ref h0_0, .int h0_1, .ref h0_2, .ref h0_3, .ref h0_4, .ref h0_5, .ref h0_6, .ref h0_7, .ref h0_8, .int h0_9, .ref h0_10, .int 0]))] sz) := by
  refine Met.ofW (cc := cX6_wave) (maxL := 3) (ret := (some .int)) (by decide) rfl ?_
  intro p e s m args below meth c s₁ B hml hv
  obtain ⟨rfl, hsz, hP, hK, hD0⟩ := hv
  have hx := B.exec
  have hb := B.bytes
  have hr := B.returns
  have hts := atoms_spec (ws := wsX6_wave) B.pre
  have hown : s.vm.findClass RX6 = some m.cls := findClass_of_methodNamed B.named
  have hlocks := B.notSynchronized
  have inX6_ : ∀ w ∈ wsX60, w ∈ wsX6_wave := fun _ h => List.mem_cons_of_mem _ (List.mem_append_left _ (List.mem_append_left _ (List.mem_append_right _ h)))
  subst hsz
  have hD := hD0.self (sz := s.heap.size)
  generalize hAe : va_A [(h0, .inr (5, [.ref h0_0, .int h0_1, .ref h0_2, .ref h0_3, .ref h0_4, .ref h0_5, .ref h0_6, .ref h0_7, .ref h0_8, .int h0_9, .ref h0_10, .int 0]))] s.heap.size = A at hD ⊢
  have hA : ∀ q : Nat, s.heap.size ≤ q → A q := fun q h => by rw [← hAe]; exact Or.inr h
  have hS : va_S A s.heap s.heap [] := va_S.rf
  have hP : va_P (dC, dI) vwCl [(h0, .inr (5, [.ref h0_0, .int h0_1, .ref h0_2, .ref h0_3, .ref h0_4, .ref h0_5, .ref h0_6, .ref h0_7, .ref h0_8, .int h0_9, .ref h0_10, .int 0]))] s.heap := hP
  have hl := lv_entry ([.ref h0, .int p1, .int p2]) (n := 3) (Nat.le_of_ble_eq_true rfl)
  rw [lg_entry_eq]
  generalize (lg_sl ([.ref h0, .int p1, .int p2]) ++ List.replicate (3 - (lg_sl ([.ref h0, .int p1, .int p2])).length) Slot.unset).toArray = ls at hl ⊢
  have hl : lv_has ls 3 [(0, .ref h0), (1, .int p1), (2, .int p2)] := hl
  refine lv_aload_n hx hb dX6_wave_0 rfl (lv_at hl 0 rfl) ?_
  refine va_get (D := (dC, dI)) (ci := 5) (v := .int 0) (C := RX6) (T := TX6) (N := 12) hx hb hts inX6_ hown hK hP 0 rfl rfl 11 (by decide) (hts (.fieldLink RX6 69 "GateWheel" "hasWheel" "Z") (List.mem_of_getElem? (i := 1) rfl)) (fun _ h9 => h9) rfl dX6_wave_1 ?_
  refine lv_if_eq (tgt := 30) hx hb dX6_wave_4 (by decide) (fun _ => ?_) (fun hc => absurd (by decide) hc)
  refine lv_iconst (v := (-1)) hx hb dX6_wave_30 (by decide) ?_
  exact W.iret (v := (-1)) hx hb hr (fun t ht hW => ⟨⟨(-1), (), rfl, rfl, trivial⟩, hS.F ht⟩) hS.2.2 dX6_wave_31
