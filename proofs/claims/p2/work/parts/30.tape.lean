set_option maxHeartbeats 4000000 in
set_option maxRecDepth 100000 in
theorem s_X6_addToTape (l : Launch) (dC : Nat → ClassId) (dI : Nat → Nat → Nat) (h0 : Nat) (h0_0 : Nat) (h0_1 : Int32) (h0_2 : Nat) (h0_3 : Nat) (h0_4 : Nat) (h0_5 : Nat) (h0_6 : Nat) (h0_7 : Nat) (h0_8 : Nat) (h0_9 : Int32) (h0_10 : Nat) (h0_11 : Int32) (yh0_0 : ClassId) (fh0_0 : Nat → Int32) (p1 : Int32) (sz : Nat) (hy_h0_1 : IV 0 2000 h0_1) (hy_h0_9 : IV 0 1 h0_9) (hy_h0_11 : IV 0 1 h0_11) (hl_0 : 1 * h0_1.toInt + (-1996) ≤ 0) : Met l yX6_addToTape wsX6_addToTape ({ frames := 0, cells := 0, slots := 0, locals := 0 }) (va_Pc [.ref h0, .int p1] (fun U => U.heap.size = sz ∧ va_P (dC, dI) vwCl [(h0, .inr (5, [.ref h0_0, .int h0_1, .ref h0_2, .ref h0_3, .ref h0_4, .ref h0_5, .ref h0_6, .ref h0_7, .ref h0_8, .int h0_9, .ref h0_10, .int h0_11])), (h0_0, .inl (yh0_0, 2000, .inl fh0_0))] U.heap ∧ va_K (dC, dI) vwCl [(yh0_0, .byte)] U ∧ va_D (fun _ => True) [(h0, .inr (5, [.ref h0_0, .int h0_1, .ref h0_2, .ref h0_3, .ref h0_4, .ref h0_5, .ref h0_6, .ref h0_7, .ref h0_8, .int h0_9, .ref h0_10, .int h0_11])), (h0_0, .inl (yh0_0, 2000, .inl fh0_0))])) (va_Qv (fun (_ : Unit) => True) (fun (_ : Unit) (t : State) => ∃ (my38 : Int32), ∃ (fy39 : Nat → Int32), IV 0 2000 my38 ∧ (-1) * h0_1.toInt + 1 * my38.toInt + (-4) ≤ 0 ∧ 1 * h0_1.toInt + (-1) * my38.toInt + 4 ≤ 0 ∧ va_P (dC, dI) vwCl [(h0, .inr (5, [.ref h0_0, .int my38, .ref h0_2, .ref h0_3, .ref h0_4, .ref h0_5, .ref h0_6, .ref h0_7, .ref h0_8, .int h0_9, .ref h0_10, .int h0_11])), (h0_0, .inl (yh0_0, 2000, .inl fy39))] t.heap ∧ va_K (dC, dI) vwCl [(yh0_0, .byte)] t ∧ va_D (va_A [(h0, .inr (5, [.ref h0_0, .int h0_1, .ref h0_2, .ref h0_3, .ref h0_4, .ref h0_5, .ref h0_6, .ref h0_7, .ref h0_8, .int h0_9, .ref h0_10, .int h0_11])), (h0_0, .inl (yh0_0, 2000, .inl fh0_0))] sz) [(h0, .inr (5, [.ref h0_0, .int my38, .ref h0_2, .ref h0_3, .ref h0_4, .ref h0_5, .ref h0_6, .ref h0_7, .ref h0_8, .int h0_9, .ref h0_10, .int h0_11])), (h0_0, .inl (yh0_0, 2000, .inl fy39))]) (va_A [(h0, .inr (5, [.ref h0_0, .int h0_1, .ref h0_2, .ref h0_3, .ref h0_4, .ref h0_5, .ref h0_6, .ref h0_7, .ref h0_8, .int h0_9, .ref h0_10, .int h0_11])), (h0_0, .inl (yh0_0, 2000, .inl fh0_0))] sz)) 0 0 (va_A [(h0, .inr (5, [.ref h0_0, .int h0_1, .ref h0_2, .ref h0_3, .ref h0_4, .ref h0_5, .ref h0_6, .ref h0_7, .ref h0_8, .int h0_9, .ref h0_10, .int h0_11])), (h0_0, .inl (yh0_0, 2000, .inl fh0_0))] sz) := by
  refine Met.ofW (cc := cX6_addToTape) (maxL := 3) (ret := none) (by decide +kernel) rfl ?_
  intro p e s m args below meth c s₁ B hml hv
  obtain ⟨rfl, hsz, hP, hK, hD0⟩ := hv
  have hx := B.exec
  have hb := B.bytes
  have hr := B.returns
  have hts := atoms_spec (ws := wsX6_addToTape) B.pre
  have hown : s.vm.findClass RX6 = some m.cls := findClass_of_methodNamed B.named
  have hlocks := B.notSynchronized
  have inX6_ : ∀ w ∈ wsX60, w ∈ wsX6_addToTape := fun _ h => List.mem_cons_of_mem _ (List.mem_append_right _ h)
  subst hsz
  have hD := hD0.self (sz := s.heap.size)
  generalize hAe : va_A [(h0, .inr (5, [.ref h0_0, .int h0_1, .ref h0_2, .ref h0_3, .ref h0_4, .ref h0_5, .ref h0_6, .ref h0_7, .ref h0_8, .int h0_9, .ref h0_10, .int h0_11])), (h0_0, .inl (yh0_0, 2000, .inl fh0_0))] s.heap.size = A at hD ⊢
  have hA : ∀ q : Nat, s.heap.size ≤ q → A q := fun q h => by rw [← hAe]; exact Or.inr h
  have hS : va_S A s.heap s.heap [] := va_S.rf
  have hP : va_P (dC, dI) vwCl [(h0, .inr (5, [.ref h0_0, .int h0_1, .ref h0_2, .ref h0_3, .ref h0_4, .ref h0_5, .ref h0_6, .ref h0_7, .ref h0_8, .int h0_9, .ref h0_10, .int h0_11])), (h0_0, .inl (yh0_0, 2000, .inl fh0_0))] s.heap := hP
  have hl := lv_entry ([.ref h0, .int p1]) (n := 3) (Nat.le_of_ble_eq_true rfl)
  rw [lg_entry_eq]
  generalize (lg_sl ([.ref h0, .int p1]) ++ List.replicate (3 - (lg_sl ([.ref h0, .int p1])).length) Slot.unset).toArray = ls at hl ⊢
  have hl : lv_has ls 3 [(0, .ref h0), (1, .int p1)] := hl
  refine lv_bipush (v := 24) hx hb dX6_addToTape_0 (by decide) ?_
  refine lv_istore_n (lv' := [(2, .int 24), (0, .ref h0), (1, .int p1)]) hx hb dX6_addToTape_2 rfl hl (by decide) rfl (fun ls hl => ?_)
  refine W_abs (fun GWy19 eGy20 => ?_)
  have lpy21 : ∀ (n : Nat) (my16 : Int32) (my17 : Int32) (fy18 : Nat → Int32) (HGWy19 : Heap) (locs : List Loc) (ls : Array Slot), my16.toInt - (-9) ≤ (n : Int) → IV (-8) 24 my16 → IV 0 2000 my17 → (-8) * h0_1.toInt + 1 * my16.toInt + 8 * my17.toInt + (-24) ≤ 0 → 8 * h0_1.toInt + (-1) * my16.toInt + (-8) * my17.toInt + 24 ≤ 0 → va_P (dC, dI) vwCl [(h0, .inr (5, [.ref h0_0, .int my17, .ref h0_2, .ref h0_3, .ref h0_4, .ref h0_5, .ref h0_6, .ref h0_7, .ref h0_8, .int h0_9, .ref h0_10, .int h0_11])), (h0_0, .inl (yh0_0, 2000, .inl fy18))] HGWy19 → va_D A [(h0, .inr (5, [.ref h0_0, .int my17, .ref h0_2, .ref h0_3, .ref h0_4, .ref h0_5, .ref h0_6, .ref h0_7, .ref h0_8, .int h0_9, .ref h0_10, .int h0_11])), (h0_0, .inl (yh0_0, 2000, .inl fy18))] → va_S A s.heap HGWy19 locs → lv_has ls 3 [(2, .int my16), (0, .ref h0), (1, .int p1)] → GWy19 HGWy19 locs 0 0 (F0 m 3 ls []) := by
    intro n
    induction n with
    | zero =>
      intro my16 my17 fy18 HGWy19 locs ls hmGWy19 hmy16 hmy17 hlw0 hlw1 hP hD hS hl
      exact (IV_d0 hmy16 hmGWy19 (by decide)).elim
    | succ n ihGWy19 =>
      intro my16 my17 fy18 HGWy19 locs ls hmGWy19 hmy16 hmy17 hlw0 hlw1 hP hD hS hl
      refine (eGy20 _ _ _ _ _).mpr ?_
      refine lv_iload_n hx hb dX6_addToTape_3 rfl (lv_at hl 0 rfl) ?_
      refine lv_if_lt (tgt := 46) hx hb dX6_addToTape_4 (by decide) (fun cy22 => ?_) (fun cy22 => ?_)
      · have h_cy22 := cy22
        have by23 : IV (-8) (-1) my16 := IV_lt_l cy22 hmy16 (IV_mk (a := 0) (b := 0) (by decide) (by decide)) (by decide) (by decide)
        exact W.vret hx hb hr (fun t ht hW => ⟨⟨(), rfl, trivial, my17, fy18, hmy17, (by have := (hy_h0_1).1; have := (hy_h0_1).2; have := (by23).1; have := (by23).2; have := (hmy17).1; have := (hmy17).2; omega), (by have := (hy_h0_1).1; have := (hy_h0_1).2; have := (by23).1; have := (by23).2; have := (hmy17).1; have := (hmy17).2; omega), by rw [ht]; exact hP, va_K.moved hW.alike hK, hD⟩, hS.F ht⟩) hS.2.2 dX6_addToTape_46
      · have h_cy22 := cy22
        have by24 : IV 0 24 my16 := IV_nlt_l cy22 hmy16 (IV_mk (a := 0) (b := 0) (by decide) (by decide)) (by decide) (by decide)
        refine lv_aload_n hx hb dX6_addToTape_7 rfl (lv_at hl 1 rfl) ?_
        refine va_get (D := (dC, dI)) (ci := 5) (v := .int my17) (C := RX6) (T := TX6) (N := 12) hx hb hts inX6_ hown hK hP 0 rfl rfl 1 (by decide) (hts (.fieldLink RX6 54 "GateWheel" "tapeLength" "I") (List.mem_of_getElem? (i := 1) rfl)) (fun _ h9 => h9) rfl dX6_addToTape_8 ?_
        refine lv_sipush (v := 2000) hx hb dX6_addToTape_11 (by decide) ?_
        refine lv_icmp_ge (tgt := 46) hx hb dX6_addToTape_14 (by decide) (fun cy25 => ?_) (fun cy25 => ?_)
        · have h_cy25 := cy25
          have by26 : IV 2000 2000 my17 := IV_le_r cy25 (IV_mk (a := 2000) (b := 2000) (by decide) (by decide)) hmy17 (by decide) (by decide)
          exact W.vret hx hb hr (fun t ht hW => ⟨⟨(), rfl, trivial, my17, fy18, (IV_wk by26 (by decide) (by decide)), (by have := (hy_h0_1).1; have := (hy_h0_1).2; have := (by24).1; have := (by24).2; have := (by26).1; have := (by26).2; omega), (by have := (hy_h0_1).1; have := (hy_h0_1).2; have := (by24).1; have := (by24).2; have := (by26).1; have := (by26).2; omega), by rw [ht]; exact hP, va_K.moved hW.alike hK, hD⟩, hS.F ht⟩) hS.2.2 dX6_addToTape_46
        · have h_cy25 := cy25
          have by27 : IV 0 1999 my17 := IV_nle_r cy25 (IV_mk (a := 2000) (b := 2000) (by decide) (by decide)) hmy17 (by decide) (by decide)
          refine lv_aload_n hx hb dX6_addToTape_17 rfl (lv_at hl 1 rfl) ?_
          refine va_get (D := (dC, dI)) (ci := 5) (v := .ref h0_0) (C := RX6) (T := TX6) (N := 12) hx hb hts inX6_ hown hK hP 0 rfl rfl 0 (by decide) (hts (.fieldLink RX6 9 "GateWheel" "tape" "[B") (List.mem_of_getElem? (i := 2) rfl)) (fun _ h9 => h9) rfl dX6_addToTape_18 ?_
          refine lv_aload_n hx hb dX6_addToTape_21 rfl (lv_at hl 1 rfl) ?_
          refine va_get (D := (dC, dI)) (ci := 5) (v := .int my17) (C := RX6) (T := TX6) (N := 12) hx hb hts inX6_ hown hK hP 0 rfl rfl 1 (by decide) (hts (.fieldLink RX6 54 "GateWheel" "tapeLength" "I") (List.mem_of_getElem? (i := 1) rfl)) (fun _ h9 => h9) rfl dX6_addToTape_22 ?_
          refine lv_iload_n hx hb dX6_addToTape_25 rfl (lv_at hl 2 rfl) ?_
          refine lv_iload_n hx hb dX6_addToTape_26 rfl (lv_at hl 0 rfl) ?_
          refine lv_iushr hx hb dX6_addToTape_27 rfl ?_
          refine lv_topi (fun zy28 ezy28 => ?_)
          refine lv_i2b hx hb dX6_addToTape_28 rfl ?_
          refine lv_topi (fun zy29 ezy29 => ?_)
          have by30 : IV (-128) 127 zy29 := IV_b ezy29.symm
          refine va_bast hx hb hK hP hD hS 1 0 rfl rfl (IV_in by27 (by decide) (by decide)) dX6_addToTape_29 (fun Hy31 locs hP hD hS => ?_)
          have hP : va_P (dC, dI) vwCl [(h0, .inr (5, [.ref h0_0, .int my17, .ref h0_2, .ref h0_3, .ref h0_4, .ref h0_5, .ref h0_6, .ref h0_7, .ref h0_8, .int h0_9, .ref h0_10, .int h0_11])), (h0_0, .inl (yh0_0, 2000, .inl (upd fy18 (my17 : Int32).toNatClampNeg (vp_nar .byte zy29))))] Hy31 := hP
          have hD : va_D A [(h0, .inr (5, [.ref h0_0, .int my17, .ref h0_2, .ref h0_3, .ref h0_4, .ref h0_5, .ref h0_6, .ref h0_7, .ref h0_8, .int h0_9, .ref h0_10, .int h0_11])), (h0_0, .inl (yh0_0, 2000, .inl (upd fy18 (my17 : Int32).toNatClampNeg (vp_nar .byte zy29))))] := hD
          generalize (upd fy18 (my17 : Int32).toNatClampNeg (vp_nar .byte zy29)) = fy32 at hP hD
          refine lv_aload_n hx hb dX6_addToTape_30 rfl (lv_at hl 1 rfl) ?_
          refine lv_dup hx hb dX6_addToTape_31 rfl ?_
          refine va_get (D := (dC, dI)) (ci := 5) (v := .int my17) (C := RX6) (T := TX6) (N := 12) hx hb hts inX6_ hown hK hP 0 rfl rfl 1 (by decide) (hts (.fieldLink RX6 54 "GateWheel" "tapeLength" "I") (List.mem_of_getElem? (i := 1) rfl)) (fun _ h9 => h9) rfl dX6_addToTape_32 ?_
          refine lv_iconst (v := 1) hx hb dX6_addToTape_35 (by decide) ?_
          refine lv_iadd hx hb dX6_addToTape_36 ?_
          refine lv_topi (fun zy33 ezy33 => ?_)
          have by34 : IV 1 2000 zy33 := IV_add ezy33 by27 (IV_mk (a := 1) (b := 1) (by decide) (by decide)) (by decide) (by decide) (by decide) (by decide)
          have qzy33 : zy33.toInt = my17.toInt + 1 := (IV_step (c := 1) ezy33 by27 (by decide) (by decide) (by decide))
          refine va_put (D := (dC, dI)) (ci := 5) (v := .int zy33) (ty := .int) (C := RX6) (T := TX6) (N := 12) hx hb hts inX6_ tyX6 tyX6_ok nmX6 hown hK hP hD hS 0 rfl rfl 1 (by decide) (hts (.fieldLink RX6 54 "GateWheel" "tapeLength" "I") (List.mem_of_getElem? (i := 1) rfl)) (fun _ h9 => h9) rfl (by decide +kernel) rfl rfl (Nat.le_of_ble_eq_true rfl) dX6_addToTape_37 (fun Hy35 locs hP hD hS => ?_)
          have hP : va_P (dC, dI) vwCl [(h0, .inr (5, [.ref h0_0, .int zy33, .ref h0_2, .ref h0_3, .ref h0_4, .ref h0_5, .ref h0_6, .ref h0_7, .ref h0_8, .int h0_9, .ref h0_10, .int h0_11])), (h0_0, .inl (yh0_0, 2000, .inl fy32))] Hy35 := hP
          have hD : va_D A [(h0, .inr (5, [.ref h0_0, .int zy33, .ref h0_2, .ref h0_3, .ref h0_4, .ref h0_5, .ref h0_6, .ref h0_7, .ref h0_8, .int h0_9, .ref h0_10, .int h0_11])), (h0_0, .inl (yh0_0, 2000, .inl fy32))] := hD
          obtain ⟨zy36, ezy36⟩ : ∃ y : Int32, y = my16 + Int32.ofInt (-8) := ⟨_, rfl⟩
          have by37 : IV (-8) 16 zy36 := IV_add (c := (-8)) (d := (-8)) ezy36 by24 (IV_mk (by decide) (by decide)) (by decide) (by decide) (by decide) (by decide)
          have qzy36 : zy36.toInt = my16.toInt + (-8) := (IV_step (c := (-8)) ezy36 by24 (by decide) (by decide) (by decide))
          refine lv_iinc (v := zy36) (lv' := [(2, .int zy36), (0, .ref h0), (1, .int p1)]) hx hb dX6_addToTape_40 hl (k := 0) rfl ezy36.symm (by decide) rfl (fun ls hl => ?_)
          refine lv_goto (tgt := 3) hx hb dX6_addToTape_43 (by decide) ?_
          exact (eGy20 _ _ _ _ _).mp (ihGWy19 zy36 zy33 fy32 _ _ _ (IV_d1 hmGWy19 (IV_step (c := (-8)) ezy36 by24 (by decide) (by decide) (by decide)) (by decide)) (IV_wk by37 (by decide) (by decide)) (IV_wk by34 (by decide) (by decide)) (by have := (hy_h0_1).1; have := (hy_h0_1).2; have := (by24).1; have := (by24).2; have := (by27).1; have := (by27).2; have := (by34).1; have := (by34).2; have := (by37).1; have := (by37).2; omega) (by have := (hy_h0_1).1; have := (hy_h0_1).2; have := (by24).1; have := (by24).2; have := (by27).1; have := (by27).2; have := (by34).1; have := (by34).2; have := (by37).1; have := (by37).2; omega) hP hD hS (lv_sub hl [0, 1, 2] rfl))
  exact lpy21 33 24 h0_1 fh0_0 _ _ _ (IV_di (IV_mk (a := 24) (b := 24) (by decide) (by decide)) (by decide)) (IV_mk (by decide) (by decide)) hy_h0_1 (by have : (24 : Int32).toInt = 24 := (by decide); omega) (by have : (24 : Int32).toInt = 24 := (by decide); omega) hP hD hS (lv_sub hl [0, 1, 2] rfl)

set_option maxHeartbeats 4000000 in
set_option maxRecDepth 100000 in
theorem s_X6_feed (l : Launch) (dC : Nat → ClassId) (dI : Nat → Nat → Nat) (h0 : Nat) (h0_0 : Nat) (h0_1 : Int32) (h0_2 : Nat) (h0_3 : Nat) (h0_4 : Nat) (h0_5 : Nat) (h0_6 : Nat) (h0_7 : Nat) (h0_8 : Nat) (h0_9 : Int32) (h0_10 : Nat) (h0_11 : Int32) (yh0_0 : ClassId) (fh0_0 : Nat → Int32) (p1 : Int32) (p2 : Int32) (p3 : Int32) (p4 : Int32) (p5 : Int32) (sz : Nat) (hy_h0_1 : IV 0 2000 h0_1) (hy_h0_9 : IV 0 1 h0_9) (hy_h0_11 : IV 0 1 h0_11) : Met l yX6_feed wsX6_feed ({ frames := 1, cells := 0, slots := 0, locals := 22 }) (va_Pc [.ref h0, .int p1, .int p2, .int p3, .int p4, .int p5] (fun U => U.heap.size = sz ∧ va_P (dC, dI) vwCl [(h0, .inr (5, [.ref h0_0, .int h0_1, .ref h0_2, .ref h0_3, .ref h0_4, .ref h0_5, .ref h0_6, .ref h0_7, .ref h0_8, .int h0_9, .ref h0_10, .int h0_11])), (h0_0, .inl (yh0_0, 2000, .inl fh0_0))] U.heap ∧ va_K (dC, dI) vwCl [(yh0_0, .byte)] U ∧ va_D (fun _ => True) [(h0, .inr (5, [.ref h0_0, .int h0_1, .ref h0_2, .ref h0_3, .ref h0_4, .ref h0_5, .ref h0_6, .ref h0_7, .ref h0_8, .int h0_9, .ref h0_10, .int h0_11])), (h0_0, .inl (yh0_0, 2000, .inl fh0_0))])) (va_Qi (fun (r : Int32) (u : Nat) => (u = 0 ∧ r = (-1)) ∨ (u = 1 ∧ IV 0 2000 r ∧ (-1) * h0_1.toInt + 1 * r.toInt + (-20) ≤ 0 ∧ 1 * h0_1.toInt + (-1) * r.toInt + 20 ≤ 0)) (fun (u : Nat) (t : State) => (u = 0 → ((-20) : Int) ≤ 0 ∧ (-1) * h0_1.toInt + 1981 ≤ 0 ∧ va_P (dC, dI) vwCl [(h0, .inr (5, [.ref h0_0, .int h0_1, .ref h0_2, .ref h0_3, .ref h0_4, .ref h0_5, .ref h0_6, .ref h0_7, .ref h0_8, .int h0_9, .ref h0_10, .int h0_11])), (h0_0, .inl (yh0_0, 2000, .inl fh0_0))] t.heap ∧ va_K (dC, dI) vwCl [(yh0_0, .byte)] t ∧ va_D (va_A [(h0, .inr (5, [.ref h0_0, .int h0_1, .ref h0_2, .ref h0_3, .ref h0_4, .ref h0_5, .ref h0_6, .ref h0_7, .ref h0_8, .int h0_9, .ref h0_10, .int h0_11])), (h0_0, .inl (yh0_0, 2000, .inl fh0_0))] sz) [(h0, .inr (5, [.ref h0_0, .int h0_1, .ref h0_2, .ref h0_3, .ref h0_4, .ref h0_5, .ref h0_6, .ref h0_7, .ref h0_8, .int h0_9, .ref h0_10, .int h0_11])), (h0_0, .inl (yh0_0, 2000, .inl fh0_0))]) ∧ (u = 1 → ∃ (my42 : Int32), ∃ (fy43 : Nat → Int32), IV 0 2000 my42 ∧ (-1) * h0_1.toInt + 1 * my42.toInt + (-20) ≤ 0 ∧ 1 * h0_1.toInt + (-1) * my42.toInt + 20 ≤ 0 ∧ 1 * h0_1.toInt + (-1980) ≤ 0 ∧ va_P (dC, dI) vwCl [(h0, .inr (5, [.ref h0_0, .int my42, .ref h0_2, .ref h0_3, .ref h0_4, .ref h0_5, .ref h0_6, .ref h0_7, .ref h0_8, .int h0_9, .ref h0_10, .int h0_11])), (h0_0, .inl (yh0_0, 2000, .inl fy43))] t.heap ∧ va_K (dC, dI) vwCl [(yh0_0, .byte)] t ∧ va_D (va_A [(h0, .inr (5, [.ref h0_0, .int h0_1, .ref h0_2, .ref h0_3, .ref h0_4, .ref h0_5, .ref h0_6, .ref h0_7, .ref h0_8, .int h0_9, .ref h0_10, .int h0_11])), (h0_0, .inl (yh0_0, 2000, .inl fh0_0))] sz) [(h0, .inr (5, [.ref h0_0, .int my42, .ref h0_2, .ref h0_3, .ref h0_4, .ref h0_5, .ref h0_6, .ref h0_7, .ref h0_8, .int h0_9, .ref h0_10, .int h0_11])), (h0_0, .inl (yh0_0, 2000, .inl fy43))])) (va_A [(h0, .inr (5, [.ref h0_0, .int h0_1, .ref h0_2, .ref h0_3, .ref h0_4, .ref h0_5, .ref h0_6, .ref h0_7, .ref h0_8, .int h0_9, .ref h0_10, .int h0_11])), (h0_0, .inl (yh0_0, 2000, .inl fh0_0))] sz)) 0 0 (va_A [(h0, .inr (5, [.ref h0_0, .int h0_1, .ref h0_2, .ref h0_3, .ref h0_4, .ref h0_5, .ref h0_6, .ref h0_7, .ref h0_8, .int h0_9, .ref h0_10, .int h0_11])), (h0_0, .inl (yh0_0, 2000, .inl fh0_0))] sz) := by
  refine Met.ofW (cc := cX6_feed) (maxL := 6) (ret := (some .int)) (by decide +kernel) rfl ?_
  intro p e s m args below meth c s₁ B hml hv
  obtain ⟨rfl, hsz, hP, hK, hD0⟩ := hv
  have hx := B.exec
  have hb := B.bytes
  have hr := B.returns
  have hts := atoms_spec (ws := wsX6_feed) B.pre
  have hown : s.vm.findClass RX6 = some m.cls := findClass_of_methodNamed B.named
  have hlocks := B.notSynchronized
  have inX6_ : ∀ w ∈ wsX60, w ∈ wsX6_feed := fun _ h => List.mem_cons_of_mem _ (List.mem_append_right _ h)
  subst hsz
  have hD := hD0.self (sz := s.heap.size)
  generalize hAe : va_A [(h0, .inr (5, [.ref h0_0, .int h0_1, .ref h0_2, .ref h0_3, .ref h0_4, .ref h0_5, .ref h0_6, .ref h0_7, .ref h0_8, .int h0_9, .ref h0_10, .int h0_11])), (h0_0, .inl (yh0_0, 2000, .inl fh0_0))] s.heap.size = A at hD ⊢
  have hA : ∀ q : Nat, s.heap.size ≤ q → A q := fun q h => by rw [← hAe]; exact Or.inr h
  have hS : va_S A s.heap s.heap [] := va_S.rf
  have hP : va_P (dC, dI) vwCl [(h0, .inr (5, [.ref h0_0, .int h0_1, .ref h0_2, .ref h0_3, .ref h0_4, .ref h0_5, .ref h0_6, .ref h0_7, .ref h0_8, .int h0_9, .ref h0_10, .int h0_11])), (h0_0, .inl (yh0_0, 2000, .inl fh0_0))] s.heap := hP
  have hl := lv_entry ([.ref h0, .int p1, .int p2, .int p3, .int p4, .int p5]) (n := 6) (Nat.le_of_ble_eq_true rfl)
  rw [lg_entry_eq]
  generalize (lg_sl ([.ref h0, .int p1, .int p2, .int p3, .int p4, .int p5]) ++ List.replicate (6 - (lg_sl ([.ref h0, .int p1, .int p2, .int p3, .int p4, .int p5])).length) Slot.unset).toArray = ls at hl ⊢
  have hl : lv_has ls 6 [(0, .ref h0), (1, .int p1), (2, .int p2), (3, .int p3), (4, .int p4), (5, .int p5)] := hl
  refine lv_aload_n hx hb dX6_feed_0 rfl (lv_at hl 0 rfl) ?_
  refine va_get (D := (dC, dI)) (ci := 5) (v := .int h0_1) (C := RX6) (T := TX6) (N := 12) hx hb hts inX6_ hown hK hP 0 rfl rfl 1 (by decide) (hts (.fieldLink RX6 54 "GateWheel" "tapeLength" "I") (List.mem_of_getElem? (i := 1) rfl)) (fun _ h9 => h9) rfl dX6_feed_1 ?_
  refine lv_bipush (v := 20) hx hb dX6_feed_4 (by decide) ?_
  refine lv_iadd hx hb dX6_feed_6 ?_
  refine lv_topi (fun zy1 ezy1 => ?_)
  have by2 : IV 20 2020 zy1 := IV_add ezy1 hy_h0_1 (IV_mk (a := 20) (b := 20) (by decide) (by decide)) (by decide) (by decide) (by decide) (by decide)
  have qzy1 : zy1.toInt = h0_1.toInt + 20 := (IV_step (c := 20) ezy1 hy_h0_1 (by decide) (by decide) (by decide))
  refine lv_sipush (v := 2000) hx hb dX6_feed_7 (by decide) ?_
  refine lv_icmp_le (tgt := 15) hx hb dX6_feed_10 (by decide) (fun cy3 => ?_) (fun cy3 => ?_)
  · have h_cy3 := cy3
    have by4 : IV 20 2000 zy1 := IV_le_l cy3 by2 (IV_mk (a := 2000) (b := 2000) (by decide) (by decide)) (by decide) (by decide)
    refine lv_aload_n hx hb dX6_feed_15 rfl (lv_at hl 0 rfl) ?_
    refine lv_iload_n hx hb dX6_feed_16 rfl (lv_at hl 1 rfl) ?_
    have hPc := hP.sub (ws' := [(h0, .inr (5, [.ref h0_0, .int h0_1, .ref h0_2, .ref h0_3, .ref h0_4, .ref h0_5, .ref h0_6, .ref h0_7, .ref h0_8, .int h0_9, .ref h0_10, .int h0_11])), (h0_0, .inl (yh0_0, 2000, .inl fh0_0))]) [0, 1] rfl
    have hDc := hD.sub (ws' := [(h0, .inr (5, [.ref h0_0, .int h0_1, .ref h0_2, .ref h0_3, .ref h0_4, .ref h0_5, .ref h0_6, .ref h0_7, .ref h0_8, .int h0_9, .ref h0_10, .int h0_11])), (h0_0, .inl (yh0_0, 2000, .inl fh0_0))]) [0, 1] (by decide) rfl
    have hKc := hK.sub (tys' := [(yh0_0, .byte)]) [0] rfl
    have hFc := va_free (wc := [(h0, .inr (5, [.ref h0_0, .int h0_1, .ref h0_2, .ref h0_3, .ref h0_4, .ref h0_5, .ref h0_6, .ref h0_7, .ref h0_8, .int h0_9, .ref h0_10, .int h0_11])), (h0_0, .inl (yh0_0, 2000, .inl fh0_0))]) hD hS hA [0, 1] rfl
    refine va_callv (va_runV (As := [.int p1]) (rest := []) ⟨hx, hb, hml, hown, hts⟩ (s_X6_addToTape l dC dI h0 h0_0 h0_1 h0_2 h0_3 h0_4 h0_5 h0_6 h0_7 h0_8 h0_9 h0_10 h0_11 yh0_0 fh0_0 p1 s.heap.size hy_h0_1 hy_h0_9 hy_h0_11 (by have := (hy_h0_1).1; have := (hy_h0_1).2; have := (by4).1; have := (by4).2; omega)) (cwV 1 hts gX6_feed_X6_addToTape rfl rfl rfl (by decide +kernel) ⟨Nat.le_of_ble_eq_true rfl, Nat.le_of_ble_eq_true rfl⟩) ⟨fun a U g mk q => by obtain ⟨q0, q1, qP, qK, qD⟩ := q; exact ⟨q0, q1, qP, va_K.moved (u := U) (U := U.calling g mk a) (Vm.Alike.refl U.vm) qK, qD⟩, va_recv hKc hPc (ci := 5) (q0 := 0) rfl rfl, fun U hU hW => ⟨rfl, by rw [hU], by rw [hU]; exact hPc, va_K.moved hW.alike hKc, hDc.weaken (fun _ _ _ _ => trivial)⟩⟩ rfl rfl hl.1 rfl (lv_room (Nat.le_of_ble_eq_true rfl)) dX6_feed_17 ⟨Nat.le_of_ble_eq_true rfl, Nat.le_of_ble_eq_true rfl⟩) hS (fun q _ h => hFc q h) hFc (fun u t Hy5 locs ht hvm hw hB hz1 hk1 hS => ?_)
    obtain ⟨my7, fy9, by8, ly10, ly11, hP1, hK1, hD1⟩ := hB
    rw [ht] at hP1
    obtain ⟨hP, hD⟩ := va_join (wr := []) (w1 := [(h0, .inr (5, [.ref h0_0, .int my7, .ref h0_2, .ref h0_3, .ref h0_4, .ref h0_5, .ref h0_6, .ref h0_7, .ref h0_8, .int h0_9, .ref h0_10, .int h0_11])), (h0_0, .inl (yh0_0, 2000, .inl fy9))]) hP hD [0, 1] [] rfl rfl (by decide) (by decide) hk1 hFc hP1 hD1
    have hP : va_P (dC, dI) vwCl [(h0, .inr (5, [.ref h0_0, .int my7, .ref h0_2, .ref h0_3, .ref h0_4, .ref h0_5, .ref h0_6, .ref h0_7, .ref h0_8, .int h0_9, .ref h0_10, .int h0_11])), (h0_0, .inl (yh0_0, 2000, .inl fy9))] Hy5 := hP
    have hD : va_D A [(h0, .inr (5, [.ref h0_0, .int my7, .ref h0_2, .ref h0_3, .ref h0_4, .ref h0_5, .ref h0_6, .ref h0_7, .ref h0_8, .int h0_9, .ref h0_10, .int h0_11])), (h0_0, .inl (yh0_0, 2000, .inl fy9))] := hD
    refine lv_aload_n hx hb dX6_feed_20 rfl (lv_at hl 0 rfl) ?_
    refine lv_iload_n hx hb dX6_feed_21 rfl (lv_at hl 2 rfl) ?_
    have hPc := hP.sub (ws' := [(h0, .inr (5, [.ref h0_0, .int my7, .ref h0_2, .ref h0_3, .ref h0_4, .ref h0_5, .ref h0_6, .ref h0_7, .ref h0_8, .int h0_9, .ref h0_10, .int h0_11])), (h0_0, .inl (yh0_0, 2000, .inl fy9))]) [0, 1] rfl
    have hDc := hD.sub (ws' := [(h0, .inr (5, [.ref h0_0, .int my7, .ref h0_2, .ref h0_3, .ref h0_4, .ref h0_5, .ref h0_6, .ref h0_7, .ref h0_8, .int h0_9, .ref h0_10, .int h0_11])), (h0_0, .inl (yh0_0, 2000, .inl fy9))]) [0, 1] (by decide) rfl
    have hKc := hK.sub (tys' := [(yh0_0, .byte)]) [0] rfl
    have hFc := va_free (wc := [(h0, .inr (5, [.ref h0_0, .int my7, .ref h0_2, .ref h0_3, .ref h0_4, .ref h0_5, .ref h0_6, .ref h0_7, .ref h0_8, .int h0_9, .ref h0_10, .int h0_11])), (h0_0, .inl (yh0_0, 2000, .inl fy9))]) hD hS hA [0, 1] rfl
    refine va_callv (va_runV (As := [.int p2]) (rest := []) ⟨hx, hb, hml, hown, hts⟩ (s_X6_addToTape l dC dI h0 h0_0 my7 h0_2 h0_3 h0_4 h0_5 h0_6 h0_7 h0_8 h0_9 h0_10 h0_11 yh0_0 fy9 p2 Hy5.size by8 hy_h0_9 hy_h0_11 (by have := (hy_h0_1).1; have := (hy_h0_1).2; have := (by8).1; have := (by8).2; have := (by4).1; have := (by4).2; omega)) (cwV 1 hts gX6_feed_X6_addToTape rfl rfl rfl (by decide +kernel) ⟨Nat.le_of_ble_eq_true rfl, Nat.le_of_ble_eq_true rfl⟩) ⟨fun a U g mk q => by obtain ⟨q0, q1, qP, qK, qD⟩ := q; exact ⟨q0, q1, qP, va_K.moved (u := U) (U := U.calling g mk a) (Vm.Alike.refl U.vm) qK, qD⟩, va_recv hKc hPc (ci := 5) (q0 := 0) rfl rfl, fun U hU hW => ⟨rfl, by rw [hU], by rw [hU]; exact hPc, va_K.moved hW.alike hKc, hDc.weaken (fun _ _ _ _ => trivial)⟩⟩ rfl rfl hl.1 rfl (lv_room (Nat.le_of_ble_eq_true rfl)) dX6_feed_22 ⟨Nat.le_of_ble_eq_true rfl, Nat.le_of_ble_eq_true rfl⟩) hS (fun q _ h => hFc q h) hFc (fun u t Hy12 locs ht hvm hw hB hz1 hk1 hS => ?_)
    obtain ⟨my14, fy16, by15, ly17, ly18, hP1, hK1, hD1⟩ := hB
    rw [ht] at hP1
    obtain ⟨hP, hD⟩ := va_join (wr := []) (w1 := [(h0, .inr (5, [.ref h0_0, .int my14, .ref h0_2, .ref h0_3, .ref h0_4, .ref h0_5, .ref h0_6, .ref h0_7, .ref h0_8, .int h0_9, .ref h0_10, .int h0_11])), (h0_0, .inl (yh0_0, 2000, .inl fy16))]) hP hD [0, 1] [] rfl rfl (by decide) (by decide) hk1 hFc hP1 hD1
    have hP : va_P (dC, dI) vwCl [(h0, .inr (5, [.ref h0_0, .int my14, .ref h0_2, .ref h0_3, .ref h0_4, .ref h0_5, .ref h0_6, .ref h0_7, .ref h0_8, .int h0_9, .ref h0_10, .int h0_11])), (h0_0, .inl (yh0_0, 2000, .inl fy16))] Hy12 := hP
    have hD : va_D A [(h0, .inr (5, [.ref h0_0, .int my14, .ref h0_2, .ref h0_3, .ref h0_4, .ref h0_5, .ref h0_6, .ref h0_7, .ref h0_8, .int h0_9, .ref h0_10, .int h0_11])), (h0_0, .inl (yh0_0, 2000, .inl fy16))] := hD
    refine lv_aload_n hx hb dX6_feed_25 rfl (lv_at hl 0 rfl) ?_
    refine lv_iload_n hx hb dX6_feed_26 rfl (lv_at hl 3 rfl) ?_
    have hPc := hP.sub (ws' := [(h0, .inr (5, [.ref h0_0, .int my14, .ref h0_2, .ref h0_3, .ref h0_4, .ref h0_5, .ref h0_6, .ref h0_7, .ref h0_8, .int h0_9, .ref h0_10, .int h0_11])), (h0_0, .inl (yh0_0, 2000, .inl fy16))]) [0, 1] rfl
    have hDc := hD.sub (ws' := [(h0, .inr (5, [.ref h0_0, .int my14, .ref h0_2, .ref h0_3, .ref h0_4, .ref h0_5, .ref h0_6, .ref h0_7, .ref h0_8, .int h0_9, .ref h0_10, .int h0_11])), (h0_0, .inl (yh0_0, 2000, .inl fy16))]) [0, 1] (by decide) rfl
    have hKc := hK.sub (tys' := [(yh0_0, .byte)]) [0] rfl
    have hFc := va_free (wc := [(h0, .inr (5, [.ref h0_0, .int my14, .ref h0_2, .ref h0_3, .ref h0_4, .ref h0_5, .ref h0_6, .ref h0_7, .ref h0_8, .int h0_9, .ref h0_10, .int h0_11])), (h0_0, .inl (yh0_0, 2000, .inl fy16))]) hD hS hA [0, 1] rfl
    refine va_callv (va_runV (As := [.int p3]) (rest := []) ⟨hx, hb, hml, hown, hts⟩ (s_X6_addToTape l dC dI h0 h0_0 my14 h0_2 h0_3 h0_4 h0_5 h0_6 h0_7 h0_8 h0_9 h0_10 h0_11 yh0_0 fy16 p3 Hy12.size by15 hy_h0_9 hy_h0_11 (by have := (hy_h0_1).1; have := (hy_h0_1).2; have := (by15).1; have := (by15).2; have := (by8).1; have := (by8).2; have := (by4).1; have := (by4).2; omega)) (cwV 1 hts gX6_feed_X6_addToTape rfl rfl rfl (by decide +kernel) ⟨Nat.le_of_ble_eq_true rfl, Nat.le_of_ble_eq_true rfl⟩) ⟨fun a U g mk q => by obtain ⟨q0, q1, qP, qK, qD⟩ := q; exact ⟨q0, q1, qP, va_K.moved (u := U) (U := U.calling g mk a) (Vm.Alike.refl U.vm) qK, qD⟩, va_recv hKc hPc (ci := 5) (q0 := 0) rfl rfl, fun U hU hW => ⟨rfl, by rw [hU], by rw [hU]; exact hPc, va_K.moved hW.alike hKc, hDc.weaken (fun _ _ _ _ => trivial)⟩⟩ rfl rfl hl.1 rfl (lv_room (Nat.le_of_ble_eq_true rfl)) dX6_feed_27 ⟨Nat.le_of_ble_eq_true rfl, Nat.le_of_ble_eq_true rfl⟩) hS (fun q _ h => hFc q h) hFc (fun u t Hy19 locs ht hvm hw hB hz1 hk1 hS => ?_)
    obtain ⟨my21, fy23, by22, ly24, ly25, hP1, hK1, hD1⟩ := hB
    rw [ht] at hP1
    obtain ⟨hP, hD⟩ := va_join (wr := []) (w1 := [(h0, .inr (5, [.ref h0_0, .int my21, .ref h0_2, .ref h0_3, .ref h0_4, .ref h0_5, .ref h0_6, .ref h0_7, .ref h0_8, .int h0_9, .ref h0_10, .int h0_11])), (h0_0, .inl (yh0_0, 2000, .inl fy23))]) hP hD [0, 1] [] rfl rfl (by decide) (by decide) hk1 hFc hP1 hD1
    have hP : va_P (dC, dI) vwCl [(h0, .inr (5, [.ref h0_0, .int my21, .ref h0_2, .ref h0_3, .ref h0_4, .ref h0_5, .ref h0_6, .ref h0_7, .ref h0_8, .int h0_9, .ref h0_10, .int h0_11])), (h0_0, .inl (yh0_0, 2000, .inl fy23))] Hy19 := hP
    have hD : va_D A [(h0, .inr (5, [.ref h0_0, .int my21, .ref h0_2, .ref h0_3, .ref h0_4, .ref h0_5, .ref h0_6, .ref h0_7, .ref h0_8, .int h0_9, .ref h0_10, .int h0_11])), (h0_0, .inl (yh0_0, 2000, .inl fy23))] := hD
    refine lv_aload_n hx hb dX6_feed_30 rfl (lv_at hl 0 rfl) ?_
    refine lv_iload hx hb dX6_feed_31 (lv_at hl 4 rfl) ?_
    have hPc := hP.sub (ws' := [(h0, .inr (5, [.ref h0_0, .int my21, .ref h0_2, .ref h0_3, .ref h0_4, .ref h0_5, .ref h0_6, .ref h0_7, .ref h0_8, .int h0_9, .ref h0_10, .int h0_11])), (h0_0, .inl (yh0_0, 2000, .inl fy23))]) [0, 1] rfl
    have hDc := hD.sub (ws' := [(h0, .inr (5, [.ref h0_0, .int my21, .ref h0_2, .ref h0_3, .ref h0_4, .ref h0_5, .ref h0_6, .ref h0_7, .ref h0_8, .int h0_9, .ref h0_10, .int h0_11])), (h0_0, .inl (yh0_0, 2000, .inl fy23))]) [0, 1] (by decide) rfl
    have hKc := hK.sub (tys' := [(yh0_0, .byte)]) [0] rfl
    have hFc := va_free (wc := [(h0, .inr (5, [.ref h0_0, .int my21, .ref h0_2, .ref h0_3, .ref h0_4, .ref h0_5, .ref h0_6, .ref h0_7, .ref h0_8, .int h0_9, .ref h0_10, .int h0_11])), (h0_0, .inl (yh0_0, 2000, .inl fy23))]) hD hS hA [0, 1] rfl
    refine va_callv (va_runV (As := [.int p4]) (rest := []) ⟨hx, hb, hml, hown, hts⟩ (s_X6_addToTape l dC dI h0 h0_0 my21 h0_2 h0_3 h0_4 h0_5 h0_6 h0_7 h0_8 h0_9 h0_10 h0_11 yh0_0 fy23 p4 Hy19.size by22 hy_h0_9 hy_h0_11 (by have := (hy_h0_1).1; have := (hy_h0_1).2; have := (by15).1; have := (by15).2; have := (by22).1; have := (by22).2; have := (by8).1; have := (by8).2; have := (by4).1; have := (by4).2; omega)) (cwV 1 hts gX6_feed_X6_addToTape rfl rfl rfl (by decide +kernel) ⟨Nat.le_of_ble_eq_true rfl, Nat.le_of_ble_eq_true rfl⟩) ⟨fun a U g mk q => by obtain ⟨q0, q1, qP, qK, qD⟩ := q; exact ⟨q0, q1, qP, va_K.moved (u := U) (U := U.calling g mk a) (Vm.Alike.refl U.vm) qK, qD⟩, va_recv hKc hPc (ci := 5) (q0 := 0) rfl rfl, fun U hU hW => ⟨rfl, by rw [hU], by rw [hU]; exact hPc, va_K.moved hW.alike hKc, hDc.weaken (fun _ _ _ _ => trivial)⟩⟩ rfl rfl hl.1 rfl (lv_room (Nat.le_of_ble_eq_true rfl)) dX6_feed_33 ⟨Nat.le_of_ble_eq_true rfl, Nat.le_of_ble_eq_true rfl⟩) hS (fun q _ h => hFc q h) hFc (fun u t Hy26 locs ht hvm hw hB hz1 hk1 hS => ?_)
    obtain ⟨my28, fy30, by29, ly31, ly32, hP1, hK1, hD1⟩ := hB
    rw [ht] at hP1
    obtain ⟨hP, hD⟩ := va_join (wr := []) (w1 := [(h0, .inr (5, [.ref h0_0, .int my28, .ref h0_2, .ref h0_3, .ref h0_4, .ref h0_5, .ref h0_6, .ref h0_7, .ref h0_8, .int h0_9, .ref h0_10, .int h0_11])), (h0_0, .inl (yh0_0, 2000, .inl fy30))]) hP hD [0, 1] [] rfl rfl (by decide) (by decide) hk1 hFc hP1 hD1
    have hP : va_P (dC, dI) vwCl [(h0, .inr (5, [.ref h0_0, .int my28, .ref h0_2, .ref h0_3, .ref h0_4, .ref h0_5, .ref h0_6, .ref h0_7, .ref h0_8, .int h0_9, .ref h0_10, .int h0_11])), (h0_0, .inl (yh0_0, 2000, .inl fy30))] Hy26 := hP
    have hD : va_D A [(h0, .inr (5, [.ref h0_0, .int my28, .ref h0_2, .ref h0_3, .ref h0_4, .ref h0_5, .ref h0_6, .ref h0_7, .ref h0_8, .int h0_9, .ref h0_10, .int h0_11])), (h0_0, .inl (yh0_0, 2000, .inl fy30))] := hD
    refine lv_aload_n hx hb dX6_feed_36 rfl (lv_at hl 0 rfl) ?_
    refine lv_iload hx hb dX6_feed_37 (lv_at hl 5 rfl) ?_
    have hPc := hP.sub (ws' := [(h0, .inr (5, [.ref h0_0, .int my28, .ref h0_2, .ref h0_3, .ref h0_4, .ref h0_5, .ref h0_6, .ref h0_7, .ref h0_8, .int h0_9, .ref h0_10, .int h0_11])), (h0_0, .inl (yh0_0, 2000, .inl fy30))]) [0, 1] rfl
    have hDc := hD.sub (ws' := [(h0, .inr (5, [.ref h0_0, .int my28, .ref h0_2, .ref h0_3, .ref h0_4, .ref h0_5, .ref h0_6, .ref h0_7, .ref h0_8, .int h0_9, .ref h0_10, .int h0_11])), (h0_0, .inl (yh0_0, 2000, .inl fy30))]) [0, 1] (by decide) rfl
    have hKc := hK.sub (tys' := [(yh0_0, .byte)]) [0] rfl
    have hFc := va_free (wc := [(h0, .inr (5, [.ref h0_0, .int my28, .ref h0_2, .ref h0_3, .ref h0_4, .ref h0_5, .ref h0_6, .ref h0_7, .ref h0_8, .int h0_9, .ref h0_10, .int h0_11])), (h0_0, .inl (yh0_0, 2000, .inl fy30))]) hD hS hA [0, 1] rfl
    refine va_callv (va_runV (As := [.int p5]) (rest := []) ⟨hx, hb, hml, hown, hts⟩ (s_X6_addToTape l dC dI h0 h0_0 my28 h0_2 h0_3 h0_4 h0_5 h0_6 h0_7 h0_8 h0_9 h0_10 h0_11 yh0_0 fy30 p5 Hy26.size by29 hy_h0_9 hy_h0_11 (by have := (hy_h0_1).1; have := (hy_h0_1).2; have := (by15).1; have := (by15).2; have := (by22).1; have := (by22).2; have := (by29).1; have := (by29).2; have := (by8).1; have := (by8).2; have := (by4).1; have := (by4).2; omega)) (cwV 1 hts gX6_feed_X6_addToTape rfl rfl rfl (by decide +kernel) ⟨Nat.le_of_ble_eq_true rfl, Nat.le_of_ble_eq_true rfl⟩) ⟨fun a U g mk q => by obtain ⟨q0, q1, qP, qK, qD⟩ := q; exact ⟨q0, q1, qP, va_K.moved (u := U) (U := U.calling g mk a) (Vm.Alike.refl U.vm) qK, qD⟩, va_recv hKc hPc (ci := 5) (q0 := 0) rfl rfl, fun U hU hW => ⟨rfl, by rw [hU], by rw [hU]; exact hPc, va_K.moved hW.alike hKc, hDc.weaken (fun _ _ _ _ => trivial)⟩⟩ rfl rfl hl.1 rfl (lv_room (Nat.le_of_ble_eq_true rfl)) dX6_feed_39 ⟨Nat.le_of_ble_eq_true rfl, Nat.le_of_ble_eq_true rfl⟩) hS (fun q _ h => hFc q h) hFc (fun u t Hy33 locs ht hvm hw hB hz1 hk1 hS => ?_)
    obtain ⟨my35, fy37, by36, ly38, ly39, hP1, hK1, hD1⟩ := hB
    rw [ht] at hP1
    obtain ⟨hP, hD⟩ := va_join (wr := []) (w1 := [(h0, .inr (5, [.ref h0_0, .int my35, .ref h0_2, .ref h0_3, .ref h0_4, .ref h0_5, .ref h0_6, .ref h0_7, .ref h0_8, .int h0_9, .ref h0_10, .int h0_11])), (h0_0, .inl (yh0_0, 2000, .inl fy37))]) hP hD [0, 1] [] rfl rfl (by decide) (by decide) hk1 hFc hP1 hD1
    have hP : va_P (dC, dI) vwCl [(h0, .inr (5, [.ref h0_0, .int my35, .ref h0_2, .ref h0_3, .ref h0_4, .ref h0_5, .ref h0_6, .ref h0_7, .ref h0_8, .int h0_9, .ref h0_10, .int h0_11])), (h0_0, .inl (yh0_0, 2000, .inl fy37))] Hy33 := hP
    have hD : va_D A [(h0, .inr (5, [.ref h0_0, .int my35, .ref h0_2, .ref h0_3, .ref h0_4, .ref h0_5, .ref h0_6, .ref h0_7, .ref h0_8, .int h0_9, .ref h0_10, .int h0_11])), (h0_0, .inl (yh0_0, 2000, .inl fy37))] := hD
    refine lv_aload_n hx hb dX6_feed_42 rfl (lv_at hl 0 rfl) ?_
    refine va_get (D := (dC, dI)) (ci := 5) (v := .int my35) (C := RX6) (T := TX6) (N := 12) hx hb hts inX6_ hown hK hP 0 rfl rfl 1 (by decide) (hts (.fieldLink RX6 54 "GateWheel" "tapeLength" "I") (List.mem_of_getElem? (i := 1) rfl)) (fun _ h9 => h9) rfl dX6_feed_43 ?_
    exact W.iret (v := my35) hx hb hr (fun t ht hW => ⟨⟨my35, 1, rfl, (Or.inr ⟨rfl, ⟨by36, (by have := (hy_h0_1).1; have := (hy_h0_1).2; have := (by15).1; have := (by15).2; have := (by22).1; have := (by22).2; have := (by29).1; have := (by29).2; have := (by36).1; have := (by36).2; have := (by8).1; have := (by8).2; have := (by4).1; have := (by4).2; omega), (by have := (hy_h0_1).1; have := (hy_h0_1).2; have := (by15).1; have := (by15).2; have := (by22).1; have := (by22).2; have := (by29).1; have := (by29).2; have := (by36).1; have := (by36).2; have := (by8).1; have := (by8).2; have := (by4).1; have := (by4).2; omega)⟩⟩), ⟨fun h => absurd h (by decide), fun _ => ⟨my35, fy37, by36, (by have := (hy_h0_1).1; have := (hy_h0_1).2; have := (by15).1; have := (by15).2; have := (by22).1; have := (by22).2; have := (by29).1; have := (by29).2; have := (by36).1; have := (by36).2; have := (by8).1; have := (by8).2; have := (by4).1; have := (by4).2; omega), (by have := (hy_h0_1).1; have := (hy_h0_1).2; have := (by15).1; have := (by15).2; have := (by22).1; have := (by22).2; have := (by29).1; have := (by29).2; have := (by36).1; have := (by36).2; have := (by8).1; have := (by8).2; have := (by4).1; have := (by4).2; omega), (by have := (hy_h0_1).1; have := (hy_h0_1).2; have := (by15).1; have := (by15).2; have := (by22).1; have := (by22).2; have := (by29).1; have := (by29).2; have := (by36).1; have := (by36).2; have := (by8).1; have := (by8).2; have := (by4).1; have := (by4).2; omega), by rw [ht]; exact hP, va_K.moved hW.alike hK, hD⟩⟩⟩, hS.F ht⟩) hS.2.2 dX6_feed_46
  · have h_cy3 := cy3
    have by40 : IV 2001 2020 zy1 := IV_nle_l cy3 by2 (IV_mk (a := 2000) (b := 2000) (by decide) (by decide)) (by decide) (by decide)
    refine lv_iconst (v := (-1)) hx hb dX6_feed_13 (by decide) ?_
    exact W.iret (v := (-1)) hx hb hr (fun t ht hW => ⟨⟨(-1), 0, rfl, (Or.inl ⟨rfl, rfl⟩), ⟨fun _ => ⟨(by omega), (by have := (hy_h0_1).1; have := (hy_h0_1).2; have := (by40).1; have := (by40).2; omega), by rw [ht]; exact hP, va_K.moved hW.alike hK, hD⟩, fun h => absurd h (by decide)⟩⟩, hS.F ht⟩) hS.2.2 dX6_feed_14

set_option maxHeartbeats 4000000 in
set_option maxRecDepth 100000 in
theorem s_X6_end (l : Launch) (dC : Nat → ClassId) (dI : Nat → Nat → Nat) (h0 : Nat) (h0_0 : Nat) (h0_1 : Int32) (h0_2 : Nat) (h0_3 : Nat) (h0_4 : Nat) (h0_5 : Nat) (h0_6 : Nat) (h0_7 : Nat) (h0_8 : Nat) (h0_9 : Int32) (h0_10 : Nat) (h0_11 : Int32) (p1 : Int32) (sz : Nat) (hy_h0_1 : IV 0 2000 h0_1) (hy_h0_9 : IV 0 1 h0_9) (hy_h0_11 : IV 0 1 h0_11) : Met l yX6_end wsX6_end ({ frames := 0, cells := 0, slots := 0, locals := 0 }) (va_Pc [.ref h0, .int p1] (fun U => U.heap.size = sz ∧ va_P (dC, dI) vwCl [(h0, .inr (5, [.ref h0_0, .int h0_1, .ref h0_2, .ref h0_3, .ref h0_4, .ref h0_5, .ref h0_6, .ref h0_7, .ref h0_8, .int h0_9, .ref h0_10, .int h0_11]))] U.heap ∧ va_K (dC, dI) vwCl [] U ∧ va_D (fun _ => True) [(h0, .inr (5, [.ref h0_0, .int h0_1, .ref h0_2, .ref h0_3, .ref h0_4, .ref h0_5, .ref h0_6, .ref h0_7, .ref h0_8, .int h0_9, .ref h0_10, .int h0_11]))])) (va_Qi (fun (r : Int32) (u : Nat) => (u = 0 ∧ r = (-1)) ∨ (u = 1 ∧ r = (-1)) ∨ (u = 2 ∧ r = p1)) (fun (u : Nat) (t : State) => (u = 0 → IV (-2147483648) (-1) p1 ∧ (-1) * h0_1.toInt + 1 * p1.toInt + 0 ≤ 0 ∧ 1 * p1.toInt + 1 ≤ 0 ∧ (-1) * h0_1.toInt + 1 * p1.toInt + 0 ≤ 0 ∧ va_P (dC, dI) vwCl [(h0, .inr (5, [.ref h0_0, .int h0_1, .ref h0_2, .ref h0_3, .ref h0_4, .ref h0_5, .ref h0_6, .ref h0_7, .ref h0_8, .int h0_9, .ref h0_10, .int h0_11]))] t.heap ∧ va_K (dC, dI) vwCl [] t ∧ va_D (va_A [(h0, .inr (5, [.ref h0_0, .int h0_1, .ref h0_2, .ref h0_3, .ref h0_4, .ref h0_5, .ref h0_6, .ref h0_7, .ref h0_8, .int h0_9, .ref h0_10, .int h0_11]))] sz) [(h0, .inr (5, [.ref h0_0, .int h0_1, .ref h0_2, .ref h0_3, .ref h0_4, .ref h0_5, .ref h0_6, .ref h0_7, .ref h0_8, .int h0_9, .ref h0_10, .int h0_11]))]) ∧ (u = 1 → IV 1 2147483647 p1 ∧ 1 * h0_1.toInt + (-1) * p1.toInt + 1 ≤ 0 ∧ (-1) * p1.toInt + 0 ≤ 0 ∧ 1 * h0_1.toInt + (-1) * p1.toInt + 0 ≤ 0 ∧ va_P (dC, dI) vwCl [(h0, .inr (5, [.ref h0_0, .int h0_1, .ref h0_2, .ref h0_3, .ref h0_4, .ref h0_5, .ref h0_6, .ref h0_7, .ref h0_8, .int h0_9, .ref h0_10, .int h0_11]))] t.heap ∧ va_K (dC, dI) vwCl [] t ∧ va_D (va_A [(h0, .inr (5, [.ref h0_0, .int h0_1, .ref h0_2, .ref h0_3, .ref h0_4, .ref h0_5, .ref h0_6, .ref h0_7, .ref h0_8, .int h0_9, .ref h0_10, .int h0_11]))] sz) [(h0, .inr (5, [.ref h0_0, .int h0_1, .ref h0_2, .ref h0_3, .ref h0_4, .ref h0_5, .ref h0_6, .ref h0_7, .ref h0_8, .int h0_9, .ref h0_10, .int h0_11]))]) ∧ (u = 2 → IV 0 2000 p1 ∧ (-1) * h0_1.toInt + 1 * p1.toInt + 0 ≤ 0 ∧ (-1) * p1.toInt + 0 ≤ 0 ∧ (0 : Int) ≤ 0 ∧ (0 : Int) ≤ 0 ∧ va_P (dC, dI) vwCl [(h0, .inr (5, [.ref h0_0, .int p1, .ref h0_2, .ref h0_3, .ref h0_4, .ref h0_5, .ref h0_6, .ref h0_7, .ref h0_8, .int h0_9, .ref h0_10, .int h0_11]))] t.heap ∧ va_K (dC, dI) vwCl [] t ∧ va_D (va_A [(h0, .inr (5, [.ref h0_0, .int h0_1, .ref h0_2, .ref h0_3, .ref h0_4, .ref h0_5, .ref h0_6, .ref h0_7, .ref h0_8, .int h0_9, .ref h0_10, .int h0_11]))] sz) [(h0, .inr (5, [.ref h0_0, .int p1, .ref h0_2, .ref h0_3, .ref h0_4, .ref h0_5, .ref h0_6, .ref h0_7, .ref h0_8, .int h0_9, .ref h0_10, .int h0_11]))])) (va_A [(h0, .inr (5, [.ref h0_0, .int h0_1, .ref h0_2, .ref h0_3, .ref h0_4, .ref h0_5, .ref h0_6, .ref h0_7, .ref h0_8, .int h0_9, .ref h0_10, .int h0_11]))] sz)) 0 0 (va_A [(h0, .inr (5, [.ref h0_0, .int h0_1, .ref h0_2, .ref h0_3, .ref h0_4, .ref h0_5, .ref h0_6, .ref h0_7, .ref h0_8, .int h0_9, .ref h0_10, .int h0_11]))] sz) := by
  refine Met.ofW (cc := cX6_end) (maxL := 2) (ret := (some .int)) (by decide +kernel) rfl ?_
  intro p e s m args below meth c s₁ B hml hv
  obtain ⟨rfl, hsz, hP, hK, hD0⟩ := hv
  have hx := B.exec
  have hb := B.bytes
  have hr := B.returns
  have hts := atoms_spec (ws := wsX6_end) B.pre
  have hown : s.vm.findClass RX6 = some m.cls := findClass_of_methodNamed B.named
  have hlocks := B.notSynchronized
  have inX6_ : ∀ w ∈ wsX60, w ∈ wsX6_end := fun _ h => List.mem_cons_of_mem _ (List.mem_append_right _ h)
  subst hsz
  have hD := hD0.self (sz := s.heap.size)
  generalize hAe : va_A [(h0, .inr (5, [.ref h0_0, .int h0_1, .ref h0_2, .ref h0_3, .ref h0_4, .ref h0_5, .ref h0_6, .ref h0_7, .ref h0_8, .int h0_9, .ref h0_10, .int h0_11]))] s.heap.size = A at hD ⊢
  have hA : ∀ q : Nat, s.heap.size ≤ q → A q := fun q h => by rw [← hAe]; exact Or.inr h
  have hS : va_S A s.heap s.heap [] := va_S.rf
  have hP : va_P (dC, dI) vwCl [(h0, .inr (5, [.ref h0_0, .int h0_1, .ref h0_2, .ref h0_3, .ref h0_4, .ref h0_5, .ref h0_6, .ref h0_7, .ref h0_8, .int h0_9, .ref h0_10, .int h0_11]))] s.heap := hP
  have hl := lv_entry ([.ref h0, .int p1]) (n := 2) (Nat.le_of_ble_eq_true rfl)
  rw [lg_entry_eq]
  generalize (lg_sl ([.ref h0, .int p1]) ++ List.replicate (2 - (lg_sl ([.ref h0, .int p1])).length) Slot.unset).toArray = ls at hl ⊢
  have hl : lv_has ls 2 [(0, .ref h0), (1, .int p1)] := hl
  refine lv_iload_n hx hb dX6_end_0 rfl (lv_at hl 1 rfl) ?_
  refine lv_if_lt (tgt := 12) hx hb dX6_end_1 (by decide) (fun cy1 => ?_) (fun cy1 => ?_)
  · have h_cy1 := cy1
    have by2 : IV (-2147483648) (-1) p1 := IV_lt_l cy1 (IV_top p1) (IV_mk (a := 0) (b := 0) (by decide) (by decide)) (by decide) (by decide)
    refine lv_iconst (v := (-1)) hx hb dX6_end_12 (by decide) ?_
    exact W.iret (v := (-1)) hx hb hr (fun t ht hW => ⟨⟨(-1), 0, rfl, (Or.inl ⟨rfl, rfl⟩), ⟨fun _ => ⟨by2, (by have := (hy_h0_1).1; have := (hy_h0_1).2; have := (by2).1; have := (by2).2; omega), (by have := (by2).1; have := (by2).2; omega), (by have := (hy_h0_1).1; have := (hy_h0_1).2; have := (by2).1; have := (by2).2; omega), by rw [ht]; exact hP, va_K.moved hW.alike hK, hD⟩, fun h => absurd h (by decide), fun h => absurd h (by decide)⟩⟩, hS.F ht⟩) hS.2.2 dX6_end_13
  · have h_cy1 := cy1
    have by3 : IV 0 2147483647 p1 := IV_nlt_l cy1 (IV_top p1) (IV_mk (a := 0) (b := 0) (by decide) (by decide)) (by decide) (by decide)
    refine lv_iload_n hx hb dX6_end_4 rfl (lv_at hl 1 rfl) ?_
    refine lv_aload_n hx hb dX6_end_5 rfl (lv_at hl 0 rfl) ?_
    refine va_get (D := (dC, dI)) (ci := 5) (v := .int h0_1) (C := RX6) (T := TX6) (N := 12) hx hb hts inX6_ hown hK hP 0 rfl rfl 1 (by decide) (hts (.fieldLink RX6 54 "GateWheel" "tapeLength" "I") (List.mem_of_getElem? (i := 1) rfl)) (fun _ h9 => h9) rfl dX6_end_6 ?_
    refine lv_icmp_le (tgt := 14) hx hb dX6_end_9 (by decide) (fun cy4 => ?_) (fun cy4 => ?_)
    · have h_cy4 := cy4
      have ly5 := LF_le cy4
      have by6 : IV 0 2000 p1 := IV_le_l cy4 by3 hy_h0_1 (by decide) (by decide)
      refine lv_aload_n hx hb dX6_end_14 rfl (lv_at hl 0 rfl) ?_
      refine lv_iload_n hx hb dX6_end_15 rfl (lv_at hl 1 rfl) ?_
      refine va_put (D := (dC, dI)) (ci := 5) (v := .int p1) (ty := .int) (C := RX6) (T := TX6) (N := 12) hx hb hts inX6_ tyX6 tyX6_ok nmX6 hown hK hP hD hS 0 rfl rfl 1 (by decide) (hts (.fieldLink RX6 54 "GateWheel" "tapeLength" "I") (List.mem_of_getElem? (i := 1) rfl)) (fun _ h9 => h9) rfl (by decide +kernel) rfl rfl (Nat.le_of_ble_eq_true rfl) dX6_end_16 (fun Hy7 locs hP hD hS => ?_)
      have hP : va_P (dC, dI) vwCl [(h0, .inr (5, [.ref h0_0, .int p1, .ref h0_2, .ref h0_3, .ref h0_4, .ref h0_5, .ref h0_6, .ref h0_7, .ref h0_8, .int h0_9, .ref h0_10, .int h0_11]))] Hy7 := hP
      have hD : va_D A [(h0, .inr (5, [.ref h0_0, .int p1, .ref h0_2, .ref h0_3, .ref h0_4, .ref h0_5, .ref h0_6, .ref h0_7, .ref h0_8, .int h0_9, .ref h0_10, .int h0_11]))] := hD
      refine lv_iload_n hx hb dX6_end_19 rfl (lv_at hl 1 rfl) ?_
      exact W.iret (v := p1) hx hb hr (fun t ht hW => ⟨⟨p1, 2, rfl, (Or.inr (Or.inr ⟨rfl, rfl⟩)), ⟨fun h => absurd h (by decide), fun h => absurd h (by decide), fun _ => ⟨by6, (by have := (hy_h0_1).1; have := (hy_h0_1).2; have := (by6).1; have := (by6).2; omega), (by have := (hy_h0_1).1; have := (hy_h0_1).2; have := (by6).1; have := (by6).2; omega), (by omega), (by omega), by rw [ht]; exact hP, va_K.moved hW.alike hK, hD⟩⟩⟩, hS.F ht⟩) hS.2.2 dX6_end_20
    · have h_cy4 := cy4
      have ly8 := LF_nle cy4
      have by9 : IV 1 2147483647 p1 := IV_nle_l cy4 by3 hy_h0_1 (by decide) (by decide)
      refine lv_iconst (v := (-1)) hx hb dX6_end_12 (by decide) ?_
      exact W.iret (v := (-1)) hx hb hr (fun t ht hW => ⟨⟨(-1), 1, rfl, (Or.inr (Or.inl ⟨rfl, rfl⟩)), ⟨fun h => absurd h (by decide), fun _ => ⟨by9, (by have := (hy_h0_1).1; have := (hy_h0_1).2; have := (by9).1; have := (by9).2; omega), (by have := (hy_h0_1).1; have := (hy_h0_1).2; have := (by9).1; have := (by9).2; omega), (by have := (hy_h0_1).1; have := (hy_h0_1).2; have := (by9).1; have := (by9).2; omega), by rw [ht]; exact hP, va_K.moved hW.alike hK, hD⟩, fun h => absurd h (by decide)⟩⟩, hS.F ht⟩) hS.2.2 dX6_end_13
