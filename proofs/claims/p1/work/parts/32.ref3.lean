set_option maxHeartbeats 4000000 in
set_option maxRecDepth 100000 in
theorem c_X7_feed (l : Launch) (dC : Nat → ClassId) (dI : Nat → Nat → Nat) (h0 : Nat) (a1 : Nat) (h0_1 : Nat) (h0_3 : Int32) (h0_4 : Int32) (h0_5 : Int32) (h0_6 : Int32) (h0_7 : Int32) (h0_8 : Int32) (h0_9 : Int32) (h0_10 : Int64) (h0_11 : Nat) (h0_12 : Nat) (h0_13 : Nat) (h0_14 : Nat) (h0_15 : Nat) (h0_16 : Nat) (h0_17 : Nat) (h0_18 : Nat) (h0_19 : Nat) (h0_20 : Nat) (h0_21 : Nat) (h0_22 : Nat) (h0_23 : Nat) (h0_24 : Nat) (h0_25 : Nat) (h0_26 : Int32) (h0_27 : Int32) (h0_28 : Int32) (h0_29 : Int32) (h0_30 : Int32) (h0_31 : Int32) (h0_32 : Nat) (h0_33 : Nat) (h0_34 : Nat) (h0_35 : Nat) (h0_36 : Nat) (h0_37 : Nat) (h0_38 : Nat) (h0_39 : Int32) (h0_40 : Nat) (h0_41 : Nat) (h0_42 : Nat) (h0_43 : Nat) (h0_44 : Nat) (h0_45 : Nat) (h0_46 : Int32) (h0_47 : Int32) (h0_48 : Int32) (p1 : Int32) (p2 : Int32) (p3 : Int32) (p4 : Int32) (p5 : Int32) (yb : ClassId) (f1 : Nat → Int32) (sz : Nat) : Met l yX7_feed wsX7_feed ({ frames := 0, cells := 0, slots := 0, locals := 0 }) (va_Pc [.ref h0, .int p1, .int p2, .int p3, .int p4, .int p5] (fun U => U.heap.size = sz ∧ va_P (dC, dI) vwCl [(h0, .inr (6, [.ref a1, .ref h0_1, .int 0, .int h0_3, .int h0_4, .int h0_5, .int h0_6, .int h0_7, .int h0_8, .int h0_9, .long h0_10, .ref h0_11, .ref h0_12, .ref h0_13, .ref h0_14, .ref h0_15, .ref h0_16, .ref h0_17, .ref h0_18, .ref h0_19, .ref h0_20, .ref h0_21, .ref h0_22, .ref h0_23, .ref h0_24, .ref h0_25, .int h0_26, .int h0_27, .int h0_28, .int h0_29, .int h0_30, .int h0_31, .ref h0_32, .ref h0_33, .ref h0_34, .ref h0_35, .ref h0_36, .ref h0_37, .ref h0_38, .int h0_39, .ref h0_40, .ref h0_41, .ref h0_42, .ref h0_43, .ref h0_44, .ref h0_45, .int h0_46, .int h0_47, .int h0_48])), (a1, .inl (yb, 2020, .inl f1))] U.heap ∧ va_K (dC, dI) vwCl [(yb, .byte)] U ∧ va_D (fun _ => True) [(h0, .inr (6, [.ref a1, .ref h0_1, .int 0, .int h0_3, .int h0_4, .int h0_5, .int h0_6, .int h0_7, .int h0_8, .int h0_9, .long h0_10, .ref h0_11, .ref h0_12, .ref h0_13, .ref h0_14, .ref h0_15, .ref h0_16, .ref h0_17, .ref h0_18, .ref h0_19, .ref h0_20, .ref h0_21, .ref h0_22, .ref h0_23, .ref h0_24, .ref h0_25, .int h0_26, .int h0_27, .int h0_28, .int h0_29, .int h0_30, .int h0_31, .ref h0_32, .ref h0_33, .ref h0_34, .ref h0_35, .ref h0_36, .ref h0_37, .ref h0_38, .int h0_39, .ref h0_40, .ref h0_41, .ref h0_42, .ref h0_43, .ref h0_44, .ref h0_45, .int h0_46, .int h0_47, .int h0_48])), (a1, .inl (yb, 2020, .inl f1))])) (va_Qi (fun (r : Int32) (_ : Unit) => r = 20) (fun (_ : Unit) (_ : State) => True) (va_A [(h0, .inr (6, [.ref a1, .ref h0_1, .int 0, .int h0_3, .int h0_4, .int h0_5, .int h0_6, .int h0_7, .int h0_8, .int h0_9, .long h0_10, .ref h0_11, .ref h0_12, .ref h0_13, .ref h0_14, .ref h0_15, .ref h0_16, .ref h0_17, .ref h0_18, .ref h0_19, .ref h0_20, .ref h0_21, .ref h0_22, .ref h0_23, .ref h0_24, .ref h0_25, .int h0_26, .int h0_27, .int h0_28, .int h0_29, .int h0_30, .int h0_31, .ref h0_32, .ref h0_33, .ref h0_34, .ref h0_35, .ref h0_36, .ref h0_37, .ref h0_38, .int h0_39, .ref h0_40, .ref h0_41, .ref h0_42, .ref h0_43, .ref h0_44, .ref h0_45, .int h0_46, .int h0_47, .int h0_48])), (a1, .inl (yb, 2020, .inl f1))] sz)) 0 0 (va_A [(h0, .inr (6, [.ref a1, .ref h0_1, .int 0, .int h0_3, .int h0_4, .int h0_5, .int h0_6, .int h0_7, .int h0_8, .int h0_9, .long h0_10, .ref h0_11, .ref h0_12, .ref h0_13, .ref h0_14, .ref h0_15, .ref h0_16, .ref h0_17, .ref h0_18, .ref h0_19, .ref h0_20, .ref h0_21, .ref h0_22, .ref h0_23, .ref h0_24, .ref h0_25, .int h0_26, .int h0_27, .int h0_28, .int h0_29, .int h0_30, .int h0_31, .ref h0_32, .ref h0_33, .ref h0_34, .ref h0_35, .ref h0_36, .ref h0_37, .ref h0_38, .int h0_39, .ref h0_40, .ref h0_41, .ref h0_42, .ref h0_43, .ref h0_44, .ref h0_45, .int h0_46, .int h0_47, .int h0_48])), (a1, .inl (yb, 2020, .inl f1))] sz) := by
  refine Met.ofW (cc := cX7_feed) (maxL := 8) (ret := (some .int)) (by decide) rfl ?_
  intro p e s m args below meth c s₁ B hml hv
  obtain ⟨rfl, hsz, hP, hK, hD0⟩ := hv
  have hx := B.exec
  have hb := B.bytes
  have hr := B.returns
  have hts := atoms_spec (ws := wsX7_feed) B.pre
  have hown : s.vm.findClass RX7 = some m.cls := findClass_of_methodNamed B.named
  have hlocks := B.notSynchronized
  have inX7_ : ∀ w ∈ wsX70, w ∈ wsX7_feed := fun _ h => List.mem_cons_of_mem _ (List.mem_append_right _ h)
  subst hsz
  have hD := hD0.self (sz := s.heap.size)
  generalize hAe : va_A [(h0, .inr (6, [.ref a1, .ref h0_1, .int 0, .int h0_3, .int h0_4, .int h0_5, .int h0_6, .int h0_7, .int h0_8, .int h0_9, .long h0_10, .ref h0_11, .ref h0_12, .ref h0_13, .ref h0_14, .ref h0_15, .ref h0_16, .ref h0_17, .ref h0_18, .ref h0_19, .ref h0_20, .ref h0_21, .ref h0_22, .ref h0_23, .ref h0_24, .ref h0_25, .int h0_26, .int h0_27, .int h0_28, .int h0_29, .int h0_30, .int h0_31, .ref h0_32, .ref h0_33, .ref h0_34, .ref h0_35, .ref h0_36, .ref h0_37, .ref h0_38, .int h0_39, .ref h0_40, .ref h0_41, .ref h0_42, .ref h0_43, .ref h0_44, .ref h0_45, .int h0_46, .int h0_47, .int h0_48])), (a1, .inl (yb, 2020, .inl f1))] s.heap.size = A at hD ⊢
  have hA : ∀ q : Nat, s.heap.size ≤ q → A q := fun q h => by rw [← hAe]; exact Or.inr h
  have hS : va_S A s.heap s.heap [] := va_S.rf
  have hP : va_P (dC, dI) vwCl [(h0, .inr (6, [.ref a1, .ref h0_1, .int 0, .int h0_3, .int h0_4, .int h0_5, .int h0_6, .int h0_7, .int h0_8, .int h0_9, .long h0_10, .ref h0_11, .ref h0_12, .ref h0_13, .ref h0_14, .ref h0_15, .ref h0_16, .ref h0_17, .ref h0_18, .ref h0_19, .ref h0_20, .ref h0_21, .ref h0_22, .ref h0_23, .ref h0_24, .ref h0_25, .int h0_26, .int h0_27, .int h0_28, .int h0_29, .int h0_30, .int h0_31, .ref h0_32, .ref h0_33, .ref h0_34, .ref h0_35, .ref h0_36, .ref h0_37, .ref h0_38, .int h0_39, .ref h0_40, .ref h0_41, .ref h0_42, .ref h0_43, .ref h0_44, .ref h0_45, .int h0_46, .int h0_47, .int h0_48])), (a1, .inl (yb, 2020, .inl f1))] s.heap := hP
  have hl := lv_entry ([.ref h0, .int p1, .int p2, .int p3, .int p4, .int p5]) (n := 8) (Nat.le_of_ble_eq_true rfl)
  rw [lg_entry_eq]
  generalize (lg_sl ([.ref h0, .int p1, .int p2, .int p3, .int p4, .int p5]) ++ List.replicate (8 - (lg_sl ([.ref h0, .int p1, .int p2, .int p3, .int p4, .int p5])).length) Slot.unset).toArray = ls at hl ⊢
  have hl : lv_has ls 8 [(0, .ref h0), (1, .int p1), (2, .int p2), (3, .int p3), (4, .int p4), (5, .int p5)] := hl
  refine lv_aload_n hx hb dX7_feed_0 rfl (lv_at hl 0 rfl) ?_
  refine va_get (D := (dC, dI)) (ci := 6) (v := .int 0) (C := RX7) (T := TX7) (N := 49) hx hb hts inX7_ hown hK hP 0 rfl rfl 2 (by decide) (hts (.fieldLink RX7 249 "GateWheelModel" "taped" "I") (List.mem_of_getElem? (i := 1) rfl)) (fun _ h9 => h9) rfl dX7_feed_1 ?_
  refine lv_bipush (v := 20) hx hb dX7_feed_4 (by decide) ?_
  refine lv_iadd hx hb dX7_feed_6 ?_
  refine lv_topi (fun z1 ez1 => ?_)
  obtain rfl : z1 = 20 := by rw [ez1]; decide
  refine lv_sipush (v := 2000) hx hb dX7_feed_7 (by decide) ?_
  refine lv_icmp_le (tgt := 15) hx hb dX7_feed_10 (by decide) (fun _ => ?_) (fun hc => absurd (by decide) hc)
  refine lv_iconst (v := 0) hx hb dX7_feed_15 (by decide) ?_
  refine lv_istore (lv' := [(6, .int 0), (0, .ref h0), (1, .int p1), (2, .int p2), (3, .int p3), (4, .int p4), (5, .int p5)]) hx hb dX7_feed_16 hl (by decide) rfl (fun ls hl => ?_)
  refine lv_iload hx hb dX7_feed_18 (lv_at hl 0 rfl) ?_
  refine lv_bipush (v := 20) hx hb dX7_feed_20 (by decide) ?_
  refine lv_icmp_ge (tgt := 105) hx hb dX7_feed_22 (by decide) (fun hc => absurd hc (by decide)) (fun _ => ?_)
  refine lv_iload hx hb dX7_feed_25 (lv_at hl 0 rfl) ?_
  refine lv_iconst (v := 4) hx hb dX7_feed_27 (by decide) ?_
  refine lv_icmp_ge (tgt := 35) hx hb dX7_feed_28 (by decide) (fun hc => absurd hc (by decide)) (fun _ => ?_)
  refine lv_iload_n hx hb dX7_feed_31 rfl (lv_at hl 2 rfl) ?_
  refine lv_goto (tgt := 71) hx hb dX7_feed_32 (by decide) ?_
  refine lv_istore (lv' := [(7, .int p1), (6, .int 0), (0, .ref h0), (1, .int p1), (2, .int p2), (3, .int p3), (4, .int p4), (5, .int p5)]) hx hb dX7_feed_71 hl (by decide) rfl (fun ls hl => ?_)
  refine lv_aload_n hx hb dX7_feed_73 rfl (lv_at hl 2 rfl) ?_
  refine va_get (D := (dC, dI)) (ci := 6) (v := .ref a1) (C := RX7) (T := TX7) (N := 49) hx hb hts inX7_ hown hK hP 0 rfl rfl 0 (by decide) (hts (.fieldLink RX7 7 "GateWheelModel" "tape" "[B") (List.mem_of_getElem? (i := 2) rfl)) (fun _ h9 => h9) rfl dX7_feed_74 ?_
  refine lv_aload_n hx hb dX7_feed_77 rfl (lv_at hl 2 rfl) ?_
  refine va_get (D := (dC, dI)) (ci := 6) (v := .int 0) (C := RX7) (T := TX7) (N := 49) hx hb hts inX7_ hown hK hP 0 rfl rfl 2 (by decide) (hts (.fieldLink RX7 249 "GateWheelModel" "taped" "I") (List.mem_of_getElem? (i := 1) rfl)) (fun _ h9 => h9) rfl dX7_feed_78 ?_
  refine lv_iload hx hb dX7_feed_81 (lv_at hl 1 rfl) ?_
  refine lv_iadd hx hb dX7_feed_83 ?_
  refine lv_topi (fun z2 ez2 => ?_)
  obtain rfl : z2 = 0 := by rw [ez2]; decide
  refine lv_iload hx hb dX7_feed_84 (lv_at hl 0 rfl) ?_
  refine lv_bipush (v := 24) hx hb dX7_feed_86 (by decide) ?_
  refine lv_bipush (v := 8) hx hb dX7_feed_88 (by decide) ?_
  refine lv_iload hx hb dX7_feed_90 (lv_at hl 1 rfl) ?_
  refine lv_iconst (v := 3) hx hb dX7_feed_92 (by decide) ?_
  refine lv_iand hx hb dX7_feed_93 ?_
  refine lv_topi (fun z3 ez3 => ?_)
  obtain rfl : z3 = 0 := by rw [ez3]; decide
  refine lv_imul hx hb dX7_feed_94 ?_
  refine lv_topi (fun z4 ez4 => ?_)
  obtain rfl : z4 = 0 := by rw [ez4]; decide
  refine lv_isub hx hb dX7_feed_95 ?_
  refine lv_topi (fun z5 ez5 => ?_)
  obtain rfl : z5 = 24 := by rw [ez5]; decide
  refine lv_ishr hx hb dX7_feed_96 ?_
  refine lv_topi (fun z6 ez6 => ?_)
  refine lv_i2b hx hb dX7_feed_97 rfl ?_
  refine lv_topi (fun z7 ez7 => ?_)
  refine va_bast hx hb hK hP hD hS 1 0 rfl rfl (by unfold vp_in; decide) dX7_feed_98 (fun H8 locs hP hD hS => ?_)
  have hP : va_P (dC, dI) vwCl [(h0, .inr (6, [.ref a1, .ref h0_1, .int 0, .int h0_3, .int h0_4, .int h0_5, .int h0_6, .int h0_7, .int h0_8, .int h0_9, .long h0_10, .ref h0_11, .ref h0_12, .ref h0_13, .ref h0_14, .ref h0_15, .ref h0_16, .ref h0_17, .ref h0_18, .ref h0_19, .ref h0_20, .ref h0_21, .ref h0_22, .ref h0_23, .ref h0_24, .ref h0_25, .int h0_26, .int h0_27, .int h0_28, .int h0_29, .int h0_30, .int h0_31, .ref h0_32, .ref h0_33, .ref h0_34, .ref h0_35, .ref h0_36, .ref h0_37, .ref h0_38, .int h0_39, .ref h0_40, .ref h0_41, .ref h0_42, .ref h0_43, .ref h0_44, .ref h0_45, .int h0_46, .int h0_47, .int h0_48])), (a1, .inl (yb, 2020, .inl (upd f1 (0).toNatClampNeg (vp_nar .byte z7))))] H8 := hP
  have hD : va_D A [(h0, .inr (6, [.ref a1, .ref h0_1, .int 0, .int h0_3, .int h0_4, .int h0_5, .int h0_6, .int h0_7, .int h0_8, .int h0_9, .long h0_10, .ref h0_11, .ref h0_12, .ref h0_13, .ref h0_14, .ref h0_15, .ref h0_16, .ref h0_17, .ref h0_18, .ref h0_19, .ref h0_20, .ref h0_21, .ref h0_22, .ref h0_23, .ref h0_24, .ref h0_25, .int h0_26, .int h0_27, .int h0_28, .int h0_29, .int h0_30, .int h0_31, .ref h0_32, .ref h0_33, .ref h0_34, .ref h0_35, .ref h0_36, .ref h0_37, .ref h0_38, .int h0_39, .ref h0_40, .ref h0_41, .ref h0_42, .ref h0_43, .ref h0_44, .ref h0_45, .int h0_46, .int h0_47, .int h0_48])), (a1, .inl (yb, 2020, .inl (upd f1 (0).toNatClampNeg (vp_nar .byte z7))))] := hD
  generalize (upd f1 (0).toNatClampNeg (vp_nar .byte z7)) = f9 at hP hD
  refine lv_iinc (v := 1) (lv' := [(6, .int 1), (7, .int p1), (0, .ref h0), (1, .int p1), (2, .int p2), (3, .int p3), (4, .int p4), (5, .int p5)]) hx hb dX7_feed_99 hl (k := 1) rfl (by decide) (by decide) rfl (fun ls hl => ?_)
  refine lv_goto (tgt := 18) hx hb dX7_feed_102 (by decide) ?_
  refine lv_iload hx hb dX7_feed_18 (lv_at hl 0 rfl) ?_
  refine lv_bipush (v := 20) hx hb dX7_feed_20 (by decide) ?_
  refine lv_icmp_ge (tgt := 105) hx hb dX7_feed_22 (by decide) (fun hc => absurd hc (by decide)) (fun _ => ?_)
  refine lv_iload hx hb dX7_feed_25 (lv_at hl 0 rfl) ?_
  refine lv_iconst (v := 4) hx hb dX7_feed_27 (by decide) ?_
  refine lv_icmp_ge (tgt := 35) hx hb dX7_feed_28 (by decide) (fun hc => absurd hc (by decide)) (fun _ => ?_)
  refine lv_iload_n hx hb dX7_feed_31 rfl (lv_at hl 3 rfl) ?_
  refine lv_goto (tgt := 71) hx hb dX7_feed_32 (by decide) ?_
  refine lv_istore (lv' := [(7, .int p1), (6, .int 1), (0, .ref h0), (1, .int p1), (2, .int p2), (3, .int p3), (4, .int p4), (5, .int p5)]) hx hb dX7_feed_71 hl (by decide) rfl (fun ls hl => ?_)
  refine lv_aload_n hx hb dX7_feed_73 rfl (lv_at hl 2 rfl) ?_
  refine va_get (D := (dC, dI)) (ci := 6) (v := .ref a1) (C := RX7) (T := TX7) (N := 49) hx hb hts inX7_ hown hK hP 0 rfl rfl 0 (by decide) (hts (.fieldLink RX7 7 "GateWheelModel" "tape" "[B") (List.mem_of_getElem? (i := 2) rfl)) (fun _ h9 => h9) rfl dX7_feed_74 ?_
  refine lv_aload_n hx hb dX7_feed_77 rfl (lv_at hl 2 rfl) ?_
  refine va_get (D := (dC, dI)) (ci := 6) (v := .int 0) (C := RX7) (T := TX7) (N := 49) hx hb hts inX7_ hown hK hP 0 rfl rfl 2 (by decide) (hts (.fieldLink RX7 249 "GateWheelModel" "taped" "I") (List.mem_of_getElem? (i := 1) rfl)) (fun _ h9 => h9) rfl dX7_feed_78 ?_
  refine lv_iload hx hb dX7_feed_81 (lv_at hl 1 rfl) ?_
  refine lv_iadd hx hb dX7_feed_83 ?_
  refine lv_topi (fun z10 ez10 => ?_)
  obtain rfl : z10 = 1 := by rw [ez10]; decide
  refine lv_iload hx hb dX7_feed_84 (lv_at hl 0 rfl) ?_
  refine lv_bipush (v := 24) hx hb dX7_feed_86 (by decide) ?_
  refine lv_bipush (v := 8) hx hb dX7_feed_88 (by decide) ?_
  refine lv_iload hx hb dX7_feed_90 (lv_at hl 1 rfl) ?_
  refine lv_iconst (v := 3) hx hb dX7_feed_92 (by decide) ?_
  refine lv_iand hx hb dX7_feed_93 ?_
  refine lv_topi (fun z11 ez11 => ?_)
  obtain rfl : z11 = 1 := by rw [ez11]; decide
  refine lv_imul hx hb dX7_feed_94 ?_
  refine lv_topi (fun z12 ez12 => ?_)
  obtain rfl : z12 = 8 := by rw [ez12]; decide
  refine lv_isub hx hb dX7_feed_95 ?_
  refine lv_topi (fun z13 ez13 => ?_)
  obtain rfl : z13 = 16 := by rw [ez13]; decide
  refine lv_ishr hx hb dX7_feed_96 ?_
  refine lv_topi (fun z14 ez14 => ?_)
  refine lv_i2b hx hb dX7_feed_97 rfl ?_
  refine lv_topi (fun z15 ez15 => ?_)
  refine va_bast hx hb hK hP hD hS 1 0 rfl rfl (by unfold vp_in; decide) dX7_feed_98 (fun H16 locs hP hD hS => ?_)
  have hP : va_P (dC, dI) vwCl [(h0, .inr (6, [.ref a1, .ref h0_1, .int 0, .int h0_3, .int h0_4, .int h0_5, .int h0_6, .int h0_7, .int h0_8, .int h0_9, .long h0_10, .ref h0_11, .ref h0_12, .ref h0_13, .ref h0_14, .ref h0_15, .ref h0_16, .ref h0_17, .ref h0_18, .ref h0_19, .ref h0_20, .ref h0_21, .ref h0_22, .ref h0_23, .ref h0_24, .ref h0_25, .int h0_26, .int h0_27, .int h0_28, .int h0_29, .int h0_30, .int h0_31, .ref h0_32, .ref h0_33, .ref h0_34, .ref h0_35, .ref h0_36, .ref h0_37, .ref h0_38, .int h0_39, .ref h0_40, .ref h0_41, .ref h0_42, .ref h0_43, .ref h0_44, .ref h0_45, .int h0_46, .int h0_47, .int h0_48])), (a1, .inl (yb, 2020, .inl (upd f9 (1).toNatClampNeg (vp_nar .byte z15))))] H16 := hP
  have hD : va_D A [(h0, .inr (6, [.ref a1, .ref h0_1, .int 0, .int h0_3, .int h0_4, .int h0_5, .int h0_6, .int h0_7, .int h0_8, .int h0_9, .long h0_10, .ref h0_11, .ref h0_12, .ref h0_13, .ref h0_14, .ref h0_15, .ref h0_16, .ref h0_17, .ref h0_18, .ref h0_19, .ref h0_20, .ref h0_21, .ref h0_22, .ref h0_23, .ref h0_24, .ref h0_25, .int h0_26, .int h0_27, .int h0_28, .int h0_29, .int h0_30, .int h0_31, .ref h0_32, .ref h0_33, .ref h0_34, .ref h0_35, .ref h0_36, .ref h0_37, .ref h0_38, .int h0_39, .ref h0_40, .ref h0_41, .ref h0_42, .ref h0_43, .ref h0_44, .ref h0_45, .int h0_46, .int h0_47, .int h0_48])), (a1, .inl (yb, 2020, .inl (upd f9 (1).toNatClampNeg (vp_nar .byte z15))))] := hD
  generalize (upd f9 (1).toNatClampNeg (vp_nar .byte z15)) = f17 at hP hD
  refine lv_iinc (v := 2) (lv' := [(6, .int 2), (7, .int p1), (0, .ref h0), (1, .int p1), (2, .int p2), (3, .int p3), (4, .int p4), (5, .int p5)]) hx hb dX7_feed_99 hl (k := 1) rfl (by decide) (by decide) rfl (fun ls hl => ?_)
  refine lv_goto (tgt := 18) hx hb dX7_feed_102 (by decide) ?_
  refine lv_iload hx hb dX7_feed_18 (lv_at hl 0 rfl) ?_
  refine lv_bipush (v := 20) hx hb dX7_feed_20 (by decide) ?_
  refine lv_icmp_ge (tgt := 105) hx hb dX7_feed_22 (by decide) (fun hc => absurd hc (by decide)) (fun _ => ?_)
  refine lv_iload hx hb dX7_feed_25 (lv_at hl 0 rfl) ?_
  refine lv_iconst (v := 4) hx hb dX7_feed_27 (by decide) ?_
  refine lv_icmp_ge (tgt := 35) hx hb dX7_feed_28 (by decide) (fun hc => absurd hc (by decide)) (fun _ => ?_)
  refine lv_iload_n hx hb dX7_feed_31 rfl (lv_at hl 3 rfl) ?_
  refine lv_goto (tgt := 71) hx hb dX7_feed_32 (by decide) ?_
  refine lv_istore (lv' := [(7, .int p1), (6, .int 2), (0, .ref h0), (1, .int p1), (2, .int p2), (3, .int p3), (4, .int p4), (5, .int p5)]) hx hb dX7_feed_71 hl (by decide) rfl (fun ls hl => ?_)
  refine lv_aload_n hx hb dX7_feed_73 rfl (lv_at hl 2 rfl) ?_
  refine va_get (D := (dC, dI)) (ci := 6) (v := .ref a1) (C := RX7) (T := TX7) (N := 49) hx hb hts inX7_ hown hK hP 0 rfl rfl 0 (by decide) (hts (.fieldLink RX7 7 "GateWheelModel" "tape" "[B") (List.mem_of_getElem? (i := 2) rfl)) (fun _ h9 => h9) rfl dX7_feed_74 ?_
  refine lv_aload_n hx hb dX7_feed_77 rfl (lv_at hl 2 rfl) ?_
  refine va_get (D := (dC, dI)) (ci := 6) (v := .int 0) (C := RX7) (T := TX7) (N := 49) hx hb hts inX7_ hown hK hP 0 rfl rfl 2 (by decide) (hts (.fieldLink RX7 249 "GateWheelModel" "taped" "I") (List.mem_of_getElem? (i := 1) rfl)) (fun _ h9 => h9) rfl dX7_feed_78 ?_
  refine lv_iload hx hb dX7_feed_81 (lv_at hl 1 rfl) ?_
  refine lv_iadd hx hb dX7_feed_83 ?_
  refine lv_topi (fun z18 ez18 => ?_)
  obtain rfl : z18 = 2 := by rw [ez18]; decide
  refine lv_iload hx hb dX7_feed_84 (lv_at hl 0 rfl) ?_
  refine lv_bipush (v := 24) hx hb dX7_feed_86 (by decide) ?_
  refine lv_bipush (v := 8) hx hb dX7_feed_88 (by decide) ?_
  refine lv_iload hx hb dX7_feed_90 (lv_at hl 1 rfl) ?_
  refine lv_iconst (v := 3) hx hb dX7_feed_92 (by decide) ?_
  refine lv_iand hx hb dX7_feed_93 ?_
  refine lv_topi (fun z19 ez19 => ?_)
  obtain rfl : z19 = 2 := by rw [ez19]; decide
  refine lv_imul hx hb dX7_feed_94 ?_
  refine lv_topi (fun z20 ez20 => ?_)
  obtain rfl : z20 = 16 := by rw [ez20]; decide
  refine lv_isub hx hb dX7_feed_95 ?_
  refine lv_topi (fun z21 ez21 => ?_)
  obtain rfl : z21 = 8 := by rw [ez21]; decide
  refine lv_ishr hx hb dX7_feed_96 ?_
  refine lv_topi (fun z22 ez22 => ?_)
  refine lv_i2b hx hb dX7_feed_97 rfl ?_
  refine lv_topi (fun z23 ez23 => ?_)
  refine va_bast hx hb hK hP hD hS 1 0 rfl rfl (by unfold vp_in; decide) dX7_feed_98 (fun H24 locs hP hD hS => ?_)
  have hP : va_P (dC, dI) vwCl [(h0, .inr (6, [.ref a1, .ref h0_1, .int 0, .int h0_3, .int h0_4, .int h0_5, .int h0_6, .int h0_7, .int h0_8, .int h0_9, .long h0_10, .ref h0_11, .ref h0_12, .ref h0_13, .ref h0_14, .ref h0_15, .ref h0_16, .ref h0_17, .ref h0_18, .ref h0_19, .ref h0_20, .ref h0_21, .ref h0_22, .ref h0_23, .ref h0_24, .ref h0_25, .int h0_26, .int h0_27, .int h0_28, .int h0_29, .int h0_30, .int h0_31, .ref h0_32, .ref h0_33, .ref h0_34, .ref h0_35, .ref h0_36, .ref h0_37, .ref h0_38, .int h0_39, .ref h0_40, .ref h0_41, .ref h0_42, .ref h0_43, .ref h0_44, .ref h0_45, .int h0_46, .int h0_47, .int h0_48])), (a1, .inl (yb, 2020, .inl (upd f17 (2).toNatClampNeg (vp_nar .byte z23))))] H24 := hP
  have hD : va_D A [(h0, .inr (6, [.ref a1, .ref h0_1, .int 0, .int h0_3, .int h0_4, .int h0_5, .int h0_6, .int h0_7, .int h0_8, .int h0_9, .long h0_10, .ref h0_11, .ref h0_12, .ref h0_13, .ref h0_14, .ref h0_15, .ref h0_16, .ref h0_17, .ref h0_18, .ref h0_19, .ref h0_20, .ref h0_21, .ref h0_22, .ref h0_23, .ref h0_24, .ref h0_25, .int h0_26, .int h0_27, .int h0_28, .int h0_29, .int h0_30, .int h0_31, .ref h0_32, .ref h0_33, .ref h0_34, .ref h0_35, .ref h0_36, .ref h0_37, .ref h0_38, .int h0_39, .ref h0_40, .ref h0_41, .ref h0_42, .ref h0_43, .ref h0_44, .ref h0_45, .int h0_46, .int h0_47, .int h0_48])), (a1, .inl (yb, 2020, .inl (upd f17 (2).toNatClampNeg (vp_nar .byte z23))))] := hD
  generalize (upd f17 (2).toNatClampNeg (vp_nar .byte z23)) = f25 at hP hD
  refine lv_iinc (v := 3) (lv' := [(6, .int 3), (7, .int p1), (0, .ref h0), (1, .int p1), (2, .int p2), (3, .int p3), (4, .int p4), (5, .int p5)]) hx hb dX7_feed_99 hl (k := 1) rfl (by decide) (by decide) rfl (fun ls hl => ?_)
  refine lv_goto (tgt := 18) hx hb dX7_feed_102 (by decide) ?_
  refine lv_iload hx hb dX7_feed_18 (lv_at hl 0 rfl) ?_
  refine lv_bipush (v := 20) hx hb dX7_feed_20 (by decide) ?_
  refine lv_icmp_ge (tgt := 105) hx hb dX7_feed_22 (by decide) (fun hc => absurd hc (by decide)) (fun _ => ?_)
  refine lv_iload hx hb dX7_feed_25 (lv_at hl 0 rfl) ?_
  refine lv_iconst (v := 4) hx hb dX7_feed_27 (by decide) ?_
  refine lv_icmp_ge (tgt := 35) hx hb dX7_feed_28 (by decide) (fun hc => absurd hc (by decide)) (fun _ => ?_)
  refine lv_iload_n hx hb dX7_feed_31 rfl (lv_at hl 3 rfl) ?_
  refine lv_goto (tgt := 71) hx hb dX7_feed_32 (by decide) ?_
  refine lv_istore (lv' := [(7, .int p1), (6, .int 3), (0, .ref h0), (1, .int p1), (2, .int p2), (3, .int p3), (4, .int p4), (5, .int p5)]) hx hb dX7_feed_71 hl (by decide) rfl (fun ls hl => ?_)
  refine lv_aload_n hx hb dX7_feed_73 rfl (lv_at hl 2 rfl) ?_
  refine va_get (D := (dC, dI)) (ci := 6) (v := .ref a1) (C := RX7) (T := TX7) (N := 49) hx hb hts inX7_ hown hK hP 0 rfl rfl 0 (by decide) (hts (.fieldLink RX7 7 "GateWheelModel" "tape" "[B") (List.mem_of_getElem? (i := 2) rfl)) (fun _ h9 => h9) rfl dX7_feed_74 ?_
  refine lv_aload_n hx hb dX7_feed_77 rfl (lv_at hl 2 rfl) ?_
  refine va_get (D := (dC, dI)) (ci := 6) (v := .int 0) (C := RX7) (T := TX7) (N := 49) hx hb hts inX7_ hown hK hP 0 rfl rfl 2 (by decide) (hts (.fieldLink RX7 249 "GateWheelModel" "taped" "I") (List.mem_of_getElem? (i := 1) rfl)) (fun _ h9 => h9) rfl dX7_feed_78 ?_
  refine lv_iload hx hb dX7_feed_81 (lv_at hl 1 rfl) ?_
  refine lv_iadd hx hb dX7_feed_83 ?_
  refine lv_topi (fun z26 ez26 => ?_)
  obtain rfl : z26 = 3 := by rw [ez26]; decide
  refine lv_iload hx hb dX7_feed_84 (lv_at hl 0 rfl) ?_
  refine lv_bipush (v := 24) hx hb dX7_feed_86 (by decide) ?_
  refine lv_bipush (v := 8) hx hb dX7_feed_88 (by decide) ?_
  refine lv_iload hx hb dX7_feed_90 (lv_at hl 1 rfl) ?_
  refine lv_iconst (v := 3) hx hb dX7_feed_92 (by decide) ?_
  refine lv_iand hx hb dX7_feed_93 ?_
  refine lv_topi (fun z27 ez27 => ?_)
  obtain rfl : z27 = 3 := by rw [ez27]; decide
  refine lv_imul hx hb dX7_feed_94 ?_
  refine lv_topi (fun z28 ez28 => ?_)
  obtain rfl : z28 = 24 := by rw [ez28]; decide
  refine lv_isub hx hb dX7_feed_95 ?_
  refine lv_topi (fun z29 ez29 => ?_)
  obtain rfl : z29 = 0 := by rw [ez29]; decide
  refine lv_ishr hx hb dX7_feed_96 ?_
  refine lv_topi (fun z30 ez30 => ?_)
  refine lv_i2b hx hb dX7_feed_97 rfl ?_
  refine lv_topi (fun z31 ez31 => ?_)
  refine va_bast hx hb hK hP hD hS 1 0 rfl rfl (by unfold vp_in; decide) dX7_feed_98 (fun H32 locs hP hD hS => ?_)
  have hP : va_P (dC, dI) vwCl [(h0, .inr (6, [.ref a1, .ref h0_1, .int 0, .int h0_3, .int h0_4, .int h0_5, .int h0_6, .int h0_7, .int h0_8, .int h0_9, .long h0_10, .ref h0_11, .ref h0_12, .ref h0_13, .ref h0_14, .ref h0_15, .ref h0_16, .ref h0_17, .ref h0_18, .ref h0_19, .ref h0_20, .ref h0_21, .ref h0_22, .ref h0_23, .ref h0_24, .ref h0_25, .int h0_26, .int h0_27, .int h0_28, .int h0_29, .int h0_30, .int h0_31, .ref h0_32, .ref h0_33, .ref h0_34, .ref h0_35, .ref h0_36, .ref h0_37, .ref h0_38, .int h0_39, .ref h0_40, .ref h0_41, .ref h0_42, .ref h0_43, .ref h0_44, .ref h0_45, .int h0_46, .int h0_47, .int h0_48])), (a1, .inl (yb, 2020, .inl (upd f25 (3).toNatClampNeg (vp_nar .byte z31))))] H32 := hP
  have hD : va_D A [(h0, .inr (6, [.ref a1, .ref h0_1, .int 0, .int h0_3, .int h0_4, .int h0_5, .int h0_6, .int h0_7, .int h0_8, .int h0_9, .long h0_10, .ref h0_11, .ref h0_12, .ref h0_13, .ref h0_14, .ref h0_15, .ref h0_16, .ref h0_17, .ref h0_18, .ref h0_19, .ref h0_20, .ref h0_21, .ref h0_22, .ref h0_23, .ref h0_24, .ref h0_25, .int h0_26, .int h0_27, .int h0_28, .int h0_29, .int h0_30, .int h0_31, .ref h0_32, .ref h0_33, .ref h0_34, .ref h0_35, .ref h0_36, .ref h0_37, .ref h0_38, .int h0_39, .ref h0_40, .ref h0_41, .ref h0_42, .ref h0_43, .ref h0_44, .ref h0_45, .int h0_46, .int h0_47, .int h0_48])), (a1, .inl (yb, 2020, .inl (upd f25 (3).toNatClampNeg (vp_nar .byte z31))))] := hD
  generalize (upd f25 (3).toNatClampNeg (vp_nar .byte z31)) = f33 at hP hD
  refine lv_iinc (v := 4) (lv' := [(6, .int 4), (7, .int p1), (0, .ref h0), (1, .int p1), (2, .int p2), (3, .int p3), (4, .int p4), (5, .int p5)]) hx hb dX7_feed_99 hl (k := 1) rfl (by decide) (by decide) rfl (fun ls hl => ?_)
  refine lv_goto (tgt := 18) hx hb dX7_feed_102 (by decide) ?_
  refine lv_iload hx hb dX7_feed_18 (lv_at hl 0 rfl) ?_
  refine lv_bipush (v := 20) hx hb dX7_feed_20 (by decide) ?_
  refine lv_icmp_ge (tgt := 105) hx hb dX7_feed_22 (by decide) (fun hc => absurd hc (by decide)) (fun _ => ?_)
  refine lv_iload hx hb dX7_feed_25 (lv_at hl 0 rfl) ?_
  refine lv_iconst (v := 4) hx hb dX7_feed_27 (by decide) ?_
  refine lv_icmp_ge (tgt := 35) hx hb dX7_feed_28 (by decide) (fun _ => ?_) (fun hc => absurd (by decide) hc)
  refine lv_iload hx hb dX7_feed_35 (lv_at hl 0 rfl) ?_
  refine lv_bipush (v := 8) hx hb dX7_feed_37 (by decide) ?_
  refine lv_icmp_ge (tgt := 46) hx hb dX7_feed_39 (by decide) (fun hc => absurd hc (by decide)) (fun _ => ?_)
  refine lv_iload_n hx hb dX7_feed_42 rfl (lv_at hl 4 rfl) ?_
  refine lv_goto (tgt := 71) hx hb dX7_feed_43 (by decide) ?_
  refine lv_istore (lv' := [(7, .int p2), (6, .int 4), (0, .ref h0), (1, .int p1), (2, .int p2), (3, .int p3), (4, .int p4), (5, .int p5)]) hx hb dX7_feed_71 hl (by decide) rfl (fun ls hl => ?_)
  refine lv_aload_n hx hb dX7_feed_73 rfl (lv_at hl 2 rfl) ?_
  refine va_get (D := (dC, dI)) (ci := 6) (v := .ref a1) (C := RX7) (T := TX7) (N := 49) hx hb hts inX7_ hown hK hP 0 rfl rfl 0 (by decide) (hts (.fieldLink RX7 7 "GateWheelModel" "tape" "[B") (List.mem_of_getElem? (i := 2) rfl)) (fun _ h9 => h9) rfl dX7_feed_74 ?_
  refine lv_aload_n hx hb dX7_feed_77 rfl (lv_at hl 2 rfl) ?_
  refine va_get (D := (dC, dI)) (ci := 6) (v := .int 0) (C := RX7) (T := TX7) (N := 49) hx hb hts inX7_ hown hK hP 0 rfl rfl 2 (by decide) (hts (.fieldLink RX7 249 "GateWheelModel" "taped" "I") (List.mem_of_getElem? (i := 1) rfl)) (fun _ h9 => h9) rfl dX7_feed_78 ?_
  refine lv_iload hx hb dX7_feed_81 (lv_at hl 1 rfl) ?_
  refine lv_iadd hx hb dX7_feed_83 ?_
  refine lv_topi (fun z34 ez34 => ?_)
  obtain rfl : z34 = 4 := by rw [ez34]; decide
  refine lv_iload hx hb dX7_feed_84 (lv_at hl 0 rfl) ?_
  refine lv_bipush (v := 24) hx hb dX7_feed_86 (by decide) ?_
  refine lv_bipush (v := 8) hx hb dX7_feed_88 (by decide) ?_
  refine lv_iload hx hb dX7_feed_90 (lv_at hl 1 rfl) ?_
  refine lv_iconst (v := 3) hx hb dX7_feed_92 (by decide) ?_
  refine lv_iand hx hb dX7_feed_93 ?_
  refine lv_topi (fun z35 ez35 => ?_)
  obtain rfl : z35 = 0 := by rw [ez35]; decide
  refine lv_imul hx hb dX7_feed_94 ?_
  refine lv_topi (fun z36 ez36 => ?_)
  obtain rfl : z36 = 0 := by rw [ez36]; decide
  refine lv_isub hx hb dX7_feed_95 ?_
  refine lv_topi (fun z37 ez37 => ?_)
  obtain rfl : z37 = 24 := by rw [ez37]; decide
  refine lv_ishr hx hb dX7_feed_96 ?_
  refine lv_topi (fun z38 ez38 => ?_)
  refine lv_i2b hx hb dX7_feed_97 rfl ?_
  refine lv_topi (fun z39 ez39 => ?_)
  refine va_bast hx hb hK hP hD hS 1 0 rfl rfl (by unfold vp_in; decide) dX7_feed_98 (fun H40 locs hP hD hS => ?_)
  have hP : va_P (dC, dI) vwCl [(h0, .inr (6, [.ref a1, .ref h0_1, .int 0, .int h0_3, .int h0_4, .int h0_5, .int h0_6, .int h0_7, .int h0_8, .int h0_9, .long h0_10, .ref h0_11, .ref h0_12, .ref h0_13, .ref h0_14, .ref h0_15, .ref h0_16, .ref h0_17, .ref h0_18, .ref h0_19, .ref h0_20, .ref h0_21, .ref h0_22, .ref h0_23, .ref h0_24, .ref h0_25, .int h0_26, .int h0_27, .int h0_28, .int h0_29, .int h0_30, .int h0_31, .ref h0_32, .ref h0_33, .ref h0_34, .ref h0_35, .ref h0_36, .ref h0_37, .ref h0_38, .int h0_39, .ref h0_40, .ref h0_41, .ref h0_42, .ref h0_43, .ref h0_44, .ref h0_45, .int h0_46, .int h0_47, .int h0_48])), (a1, .inl (yb, 2020, .inl (upd f33 (4).toNatClampNeg (vp_nar .byte z39))))] H40 := hP
  have hD : va_D A [(h0, .inr (6, [.ref a1, .ref h0_1, .int 0, .int h0_3, .int h0_4, .int h0_5, .int h0_6, .int h0_7, .int h0_8, .int h0_9, .long h0_10, .ref h0_11, .ref h0_12, .ref h0_13, .ref h0_14, .ref h0_15, .ref h0_16, .ref h0_17, .ref h0_18, .ref h0_19, .ref h0_20, .ref h0_21, .ref h0_22, .ref h0_23, .ref h0_24, .ref h0_25, .int h0_26, .int h0_27, .int h0_28, .int h0_29, .int h0_30, .int h0_31, .ref h0_32, .ref h0_33, .ref h0_34, .ref h0_35, .ref h0_36, .ref h0_37, .ref h0_38, .int h0_39, .ref h0_40, .ref h0_41, .ref h0_42, .ref h0_43, .ref h0_44, .ref h0_45, .int h0_46, .int h0_47, .int h0_48])), (a1, .inl (yb, 2020, .inl (upd f33 (4).toNatClampNeg (vp_nar .byte z39))))] := hD
  generalize (upd f33 (4).toNatClampNeg (vp_nar .byte z39)) = f41 at hP hD
  refine lv_iinc (v := 5) (lv' := [(6, .int 5), (7, .int p2), (0, .ref h0), (1, .int p1), (2, .int p2), (3, .int p3), (4, .int p4), (5, .int p5)]) hx hb dX7_feed_99 hl (k := 1) rfl (by decide) (by decide) rfl (fun ls hl => ?_)
  refine lv_goto (tgt := 18) hx hb dX7_feed_102 (by decide) ?_
  refine lv_iload hx hb dX7_feed_18 (lv_at hl 0 rfl) ?_
  refine lv_bipush (v := 20) hx hb dX7_feed_20 (by decide) ?_
  refine lv_icmp_ge (tgt := 105) hx hb dX7_feed_22 (by decide) (fun hc => absurd hc (by decide)) (fun _ => ?_)
  refine lv_iload hx hb dX7_feed_25 (lv_at hl 0 rfl) ?_
  refine lv_iconst (v := 4) hx hb dX7_feed_27 (by decide) ?_
  refine lv_icmp_ge (tgt := 35) hx hb dX7_feed_28 (by decide) (fun _ => ?_) (fun hc => absurd (by decide) hc)
  refine lv_iload hx hb dX7_feed_35 (lv_at hl 0 rfl) ?_
  refine lv_bipush (v := 8) hx hb dX7_feed_37 (by decide) ?_
  refine lv_icmp_ge (tgt := 46) hx hb dX7_feed_39 (by decide) (fun hc => absurd hc (by decide)) (fun _ => ?_)
  refine lv_iload_n hx hb dX7_feed_42 rfl (lv_at hl 4 rfl) ?_
  refine lv_goto (tgt := 71) hx hb dX7_feed_43 (by decide) ?_
  refine lv_istore (lv' := [(7, .int p2), (6, .int 5), (0, .ref h0), (1, .int p1), (2, .int p2), (3, .int p3), (4, .int p4), (5, .int p5)]) hx hb dX7_feed_71 hl (by decide) rfl (fun ls hl => ?_)
  refine lv_aload_n hx hb dX7_feed_73 rfl (lv_at hl 2 rfl) ?_
  refine va_get (D := (dC, dI)) (ci := 6) (v := .ref a1) (C := RX7) (T := TX7) (N := 49) hx hb hts inX7_ hown hK hP 0 rfl rfl 0 (by decide) (hts (.fieldLink RX7 7 "GateWheelModel" "tape" "[B") (List.mem_of_getElem? (i := 2) rfl)) (fun _ h9 => h9) rfl dX7_feed_74 ?_
  refine lv_aload_n hx hb dX7_feed_77 rfl (lv_at hl 2 rfl) ?_
  refine va_get (D := (dC, dI)) (ci := 6) (v := .int 0) (C := RX7) (T := TX7) (N := 49) hx hb hts inX7_ hown hK hP 0 rfl rfl 2 (by decide) (hts (.fieldLink RX7 249 "GateWheelModel" "taped" "I") (List.mem_of_getElem? (i := 1) rfl)) (fun _ h9 => h9) rfl dX7_feed_78 ?_
  refine lv_iload hx hb dX7_feed_81 (lv_at hl 1 rfl) ?_
  refine lv_iadd hx hb dX7_feed_83 ?_
  refine lv_topi (fun z42 ez42 => ?_)
  obtain rfl : z42 = 5 := by rw [ez42]; decide
  refine lv_iload hx hb dX7_feed_84 (lv_at hl 0 rfl) ?_
  refine lv_bipush (v := 24) hx hb dX7_feed_86 (by decide) ?_
  refine lv_bipush (v := 8) hx hb dX7_feed_88 (by decide) ?_
  refine lv_iload hx hb dX7_feed_90 (lv_at hl 1 rfl) ?_
  refine lv_iconst (v := 3) hx hb dX7_feed_92 (by decide) ?_
  refine lv_iand hx hb dX7_feed_93 ?_
  refine lv_topi (fun z43 ez43 => ?_)
  obtain rfl : z43 = 1 := by rw [ez43]; decide
  refine lv_imul hx hb dX7_feed_94 ?_
  refine lv_topi (fun z44 ez44 => ?_)
  obtain rfl : z44 = 8 := by rw [ez44]; decide
  refine lv_isub hx hb dX7_feed_95 ?_
  refine lv_topi (fun z45 ez45 => ?_)
  obtain rfl : z45 = 16 := by rw [ez45]; decide
  refine lv_ishr hx hb dX7_feed_96 ?_
  refine lv_topi (fun z46 ez46 => ?_)
  refine lv_i2b hx hb dX7_feed_97 rfl ?_
  refine lv_topi (fun z47 ez47 => ?_)
  refine va_bast hx hb hK hP hD hS 1 0 rfl rfl (by unfold vp_in; decide) dX7_feed_98 (fun H48 locs hP hD hS => ?_)
  have hP : va_P (dC, dI) vwCl [(h0, .inr (6, [.ref a1, .ref h0_1, .int 0, .int h0_3, .int h0_4, .int h0_5, .int h0_6, .int h0_7, .int h0_8, .int h0_9, .long h0_10, .ref h0_11, .ref h0_12, .ref h0_13, .ref h0_14, .ref h0_15, .ref h0_16, .ref h0_17, .ref h0_18, .ref h0_19, .ref h0_20, .ref h0_21, .ref h0_22, .ref h0_23, .ref h0_24, .ref h0_25, .int h0_26, .int h0_27, .int h0_28, .int h0_29, .int h0_30, .int h0_31, .ref h0_32, .ref h0_33, .ref h0_34, .ref h0_35, .ref h0_36, .ref h0_37, .ref h0_38, .int h0_39, .ref h0_40, .ref h0_41, .ref h0_42, .ref h0_43, .ref h0_44, .ref h0_45, .int h0_46, .int h0_47, .int h0_48])), (a1, .inl (yb, 2020, .inl (upd f41 (5).toNatClampNeg (vp_nar .byte z47))))] H48 := hP
  have hD : va_D A [(h0, .inr (6, [.ref a1, .ref h0_1, .int 0, .int h0_3, .int h0_4, .int h0_5, .int h0_6, .int h0_7, .int h0_8, .int h0_9, .long h0_10, .ref h0_11, .ref h0_12, .ref h0_13, .ref h0_14, .ref h0_15, .ref h0_16, .ref h0_17, .ref h0_18, .ref h0_19, .ref h0_20, .ref h0_21, .ref h0_22, .ref h0_23, .ref h0_24, .ref h0_25, .int h0_26, .int h0_27, .int h0_28, .int h0_29, .int h0_30, .int h0_31, .ref h0_32, .ref h0_33, .ref h0_34, .ref h0_35, .ref h0_36, .ref h0_37, .ref h0_38, .int h0_39, .ref h0_40, .ref h0_41, .ref h0_42, .ref h0_43, .ref h0_44, .ref h0_45, .int h0_46, .int h0_47, .int h0_48])), (a1, .inl (yb, 2020, .inl (upd f41 (5).toNatClampNeg (vp_nar .byte z47))))] := hD
  generalize (upd f41 (5).toNatClampNeg (vp_nar .byte z47)) = f49 at hP hD
  refine lv_iinc (v := 6) (lv' := [(6, .int 6), (7, .int p2), (0, .ref h0), (1, .int p1), (2, .int p2), (3, .int p3), (4, .int p4), (5, .int p5)]) hx hb dX7_feed_99 hl (k := 1) rfl (by decide) (by decide) rfl (fun ls hl => ?_)
  refine lv_goto (tgt := 18) hx hb dX7_feed_102 (by decide) ?_
  refine lv_iload hx hb dX7_feed_18 (lv_at hl 0 rfl) ?_
  refine lv_bipush (v := 20) hx hb dX7_feed_20 (by decide) ?_
  refine lv_icmp_ge (tgt := 105) hx hb dX7_feed_22 (by decide) (fun hc => absurd hc (by decide)) (fun _ => ?_)
  refine lv_iload hx hb dX7_feed_25 (lv_at hl 0 rfl) ?_
  refine lv_iconst (v := 4) hx hb dX7_feed_27 (by decide) ?_
  refine lv_icmp_ge (tgt := 35) hx hb dX7_feed_28 (by decide) (fun _ => ?_) (fun hc => absurd (by decide) hc)
  refine lv_iload hx hb dX7_feed_35 (lv_at hl 0 rfl) ?_
  refine lv_bipush (v := 8) hx hb dX7_feed_37 (by decide) ?_
  refine lv_icmp_ge (tgt := 46) hx hb dX7_feed_39 (by decide) (fun hc => absurd hc (by decide)) (fun _ => ?_)
  refine lv_iload_n hx hb dX7_feed_42 rfl (lv_at hl 4 rfl) ?_
  refine lv_goto (tgt := 71) hx hb dX7_feed_43 (by decide) ?_
  refine lv_istore (lv' := [(7, .int p2), (6, .int 6), (0, .ref h0), (1, .int p1), (2, .int p2), (3, .int p3), (4, .int p4), (5, .int p5)]) hx hb dX7_feed_71 hl (by decide) rfl (fun ls hl => ?_)
  refine lv_aload_n hx hb dX7_feed_73 rfl (lv_at hl 2 rfl) ?_
  refine va_get (D := (dC, dI)) (ci := 6) (v := .ref a1) (C := RX7) (T := TX7) (N := 49) hx hb hts inX7_ hown hK hP 0 rfl rfl 0 (by decide) (hts (.fieldLink RX7 7 "GateWheelModel" "tape" "[B") (List.mem_of_getElem? (i := 2) rfl)) (fun _ h9 => h9) rfl dX7_feed_74 ?_
  refine lv_aload_n hx hb dX7_feed_77 rfl (lv_at hl 2 rfl) ?_
  refine va_get (D := (dC, dI)) (ci := 6) (v := .int 0) (C := RX7) (T := TX7) (N := 49) hx hb hts inX7_ hown hK hP 0 rfl rfl 2 (by decide) (hts (.fieldLink RX7 249 "GateWheelModel" "taped" "I") (List.mem_of_getElem? (i := 1) rfl)) (fun _ h9 => h9) rfl dX7_feed_78 ?_
  refine lv_iload hx hb dX7_feed_81 (lv_at hl 1 rfl) ?_
  refine lv_iadd hx hb dX7_feed_83 ?_
  refine lv_topi (fun z50 ez50 => ?_)
  obtain rfl : z50 = 6 := by rw [ez50]; decide
  refine lv_iload hx hb dX7_feed_84 (lv_at hl 0 rfl) ?_
  refine lv_bipush (v := 24) hx hb dX7_feed_86 (by decide) ?_
  refine lv_bipush (v := 8) hx hb dX7_feed_88 (by decide) ?_
  refine lv_iload hx hb dX7_feed_90 (lv_at hl 1 rfl) ?_
  refine lv_iconst (v := 3) hx hb dX7_feed_92 (by decide) ?_
  refine lv_iand hx hb dX7_feed_93 ?_
  refine lv_topi (fun z51 ez51 => ?_)
  obtain rfl : z51 = 2 := by rw [ez51]; decide
  refine lv_imul hx hb dX7_feed_94 ?_
  refine lv_topi (fun z52 ez52 => ?_)
  obtain rfl : z52 = 16 := by rw [ez52]; decide
  refine lv_isub hx hb dX7_feed_95 ?_
  refine lv_topi (fun z53 ez53 => ?_)
  obtain rfl : z53 = 8 := by rw [ez53]; decide
  refine lv_ishr hx hb dX7_feed_96 ?_
  refine lv_topi (fun z54 ez54 => ?_)
  refine lv_i2b hx hb dX7_feed_97 rfl ?_
  refine lv_topi (fun z55 ez55 => ?_)
  refine va_bast hx hb hK hP hD hS 1 0 rfl rfl (by unfold vp_in; decide) dX7_feed_98 (fun H56 locs hP hD hS => ?_)
  have hP : va_P (dC, dI) vwCl [(h0, .inr (6, [.ref a1, .ref h0_1, .int 0, .int h0_3, .int h0_4, .int h0_5, .int h0_6, .int h0_7, .int h0_8, .int h0_9, .long h0_10, .ref h0_11, .ref h0_12, .ref h0_13, .ref h0_14, .ref h0_15, .ref h0_16, .ref h0_17, .ref h0_18, .ref h0_19, .ref h0_20, .ref h0_21, .ref h0_22, .ref h0_23, .ref h0_24, .ref h0_25, .int h0_26, .int h0_27, .int h0_28, .int h0_29, .int h0_30, .int h0_31, .ref h0_32, .ref h0_33, .ref h0_34, .ref h0_35, .ref h0_36, .ref h0_37, .ref h0_38, .int h0_39, .ref h0_40, .ref h0_41, .ref h0_42, .ref h0_43, .ref h0_44, .ref h0_45, .int h0_46, .int h0_47, .int h0_48])), (a1, .inl (yb, 2020, .inl (upd f49 (6).toNatClampNeg (vp_nar .byte z55))))] H56 := hP
  have hD : va_D A [(h0, .inr (6, [.ref a1, .ref h0_1, .int 0, .int h0_3, .int h0_4, .int h0_5, .int h0_6, .int h0_7, .int h0_8, .int h0_9, .long h0_10, .ref h0_11, .ref h0_12, .ref h0_13, .ref h0_14, .ref h0_15, .ref h0_16, .ref h0_17, .ref h0_18, .ref h0_19, .ref h0_20, .ref h0_21, .ref h0_22, .ref h0_23, .ref h0_24, .ref h0_25, .int h0_26, .int h0_27, .int h0_28, .int h0_29, .int h0_30, .int h0_31, .ref h0_32, .ref h0_33, .ref h0_34, .ref h0_35, .ref h0_36, .ref h0_37, .ref h0_38, .int h0_39, .ref h0_40, .ref h0_41, .ref h0_42, .ref h0_43, .ref h0_44, .ref h0_45, .int h0_46, .int h0_47, .int h0_48])), (a1, .inl (yb, 2020, .inl (upd f49 (6).toNatClampNeg (vp_nar .byte z55))))] := hD
  generalize (upd f49 (6).toNatClampNeg (vp_nar .byte z55)) = f57 at hP hD
  refine lv_iinc (v := 7) (lv' := [(6, .int 7), (7, .int p2), (0, .ref h0), (1, .int p1), (2, .int p2), (3, .int p3), (4, .int p4), (5, .int p5)]) hx hb dX7_feed_99 hl (k := 1) rfl (by decide) (by decide) rfl (fun ls hl => ?_)
  refine lv_goto (tgt := 18) hx hb dX7_feed_102 (by decide) ?_
  refine lv_iload hx hb dX7_feed_18 (lv_at hl 0 rfl) ?_
  refine lv_bipush (v := 20) hx hb dX7_feed_20 (by decide) ?_
  refine lv_icmp_ge (tgt := 105) hx hb dX7_feed_22 (by decide) (fun hc => absurd hc (by decide)) (fun _ => ?_)
  refine lv_iload hx hb dX7_feed_25 (lv_at hl 0 rfl) ?_
  refine lv_iconst (v := 4) hx hb dX7_feed_27 (by decide) ?_
  refine lv_icmp_ge (tgt := 35) hx hb dX7_feed_28 (by decide) (fun _ => ?_) (fun hc => absurd (by decide) hc)
  refine lv_iload hx hb dX7_feed_35 (lv_at hl 0 rfl) ?_
  refine lv_bipush (v := 8) hx hb dX7_feed_37 (by decide) ?_
  refine lv_icmp_ge (tgt := 46) hx hb dX7_feed_39 (by decide) (fun hc => absurd hc (by decide)) (fun _ => ?_)
  refine lv_iload_n hx hb dX7_feed_42 rfl (lv_at hl 4 rfl) ?_
  refine lv_goto (tgt := 71) hx hb dX7_feed_43 (by decide) ?_
  refine lv_istore (lv' := [(7, .int p2), (6, .int 7), (0, .ref h0), (1, .int p1), (2, .int p2), (3, .int p3), (4, .int p4), (5, .int p5)]) hx hb dX7_feed_71 hl (by decide) rfl (fun ls hl => ?_)
  refine lv_aload_n hx hb dX7_feed_73 rfl (lv_at hl 2 rfl) ?_
  refine va_get (D := (dC, dI)) (ci := 6) (v := .ref a1) (C := RX7) (T := TX7) (N := 49) hx hb hts inX7_ hown hK hP 0 rfl rfl 0 (by decide) (hts (.fieldLink RX7 7 "GateWheelModel" "tape" "[B") (List.mem_of_getElem? (i := 2) rfl)) (fun _ h9 => h9) rfl dX7_feed_74 ?_
  refine lv_aload_n hx hb dX7_feed_77 rfl (lv_at hl 2 rfl) ?_
  refine va_get (D := (dC, dI)) (ci := 6) (v := .int 0) (C := RX7) (T := TX7) (N := 49) hx hb hts inX7_ hown hK hP 0 rfl rfl 2 (by decide) (hts (.fieldLink RX7 249 "GateWheelModel" "taped" "I") (List.mem_of_getElem? (i := 1) rfl)) (fun _ h9 => h9) rfl dX7_feed_78 ?_
  refine lv_iload hx hb dX7_feed_81 (lv_at hl 1 rfl) ?_
  refine lv_iadd hx hb dX7_feed_83 ?_
  refine lv_topi (fun z58 ez58 => ?_)
  obtain rfl : z58 = 7 := by rw [ez58]; decide
  refine lv_iload hx hb dX7_feed_84 (lv_at hl 0 rfl) ?_
  refine lv_bipush (v := 24) hx hb dX7_feed_86 (by decide) ?_
  refine lv_bipush (v := 8) hx hb dX7_feed_88 (by decide) ?_
  refine lv_iload hx hb dX7_feed_90 (lv_at hl 1 rfl) ?_
  refine lv_iconst (v := 3) hx hb dX7_feed_92 (by decide) ?_
  refine lv_iand hx hb dX7_feed_93 ?_
  refine lv_topi (fun z59 ez59 => ?_)
  obtain rfl : z59 = 3 := by rw [ez59]; decide
  refine lv_imul hx hb dX7_feed_94 ?_
  refine lv_topi (fun z60 ez60 => ?_)
  obtain rfl : z60 = 24 := by rw [ez60]; decide
  refine lv_isub hx hb dX7_feed_95 ?_
  refine lv_topi (fun z61 ez61 => ?_)
  obtain rfl : z61 = 0 := by rw [ez61]; decide
  refine lv_ishr hx hb dX7_feed_96 ?_
  refine lv_topi (fun z62 ez62 => ?_)
  refine lv_i2b hx hb dX7_feed_97 rfl ?_
  refine lv_topi (fun z63 ez63 => ?_)
  refine va_bast hx hb hK hP hD hS 1 0 rfl rfl (by unfold vp_in; decide) dX7_feed_98 (fun H64 locs hP hD hS => ?_)
  have hP : va_P (dC, dI) vwCl [(h0, .inr (6, [.ref a1, .ref h0_1, .int 0, .int h0_3, .int h0_4, .int h0_5, .int h0_6, .int h0_7, .int h0_8, .int h0_9, .long h0_10, .ref h0_11, .ref h0_12, .ref h0_13, .ref h0_14, .ref h0_15, .ref h0_16, .ref h0_17, .ref h0_18, .ref h0_19, .ref h0_20, .ref h0_21, .ref h0_22, .ref h0_23, .ref h0_24, .ref h0_25, .int h0_26, .int h0_27, .int h0_28, .int h0_29, .int h0_30, .int h0_31, .ref h0_32, .ref h0_33, .ref h0_34, .ref h0_35, .ref h0_36, .ref h0_37, .ref h0_38, .int h0_39, .ref h0_40, .ref h0_41, .ref h0_42, .ref h0_43, .ref h0_44, .ref h0_45, .int h0_46, .int h0_47, .int h0_48])), (a1, .inl (yb, 2020, .inl (upd f57 (7).toNatClampNeg (vp_nar .byte z63))))] H64 := hP
  have hD : va_D A [(h0, .inr (6, [.ref a1, .ref h0_1, .int 0, .int h0_3, .int h0_4, .int h0_5, .int h0_6, .int h0_7, .int h0_8, .int h0_9, .long h0_10, .ref h0_11, .ref h0_12, .ref h0_13, .ref h0_14, .ref h0_15, .ref h0_16, .ref h0_17, .ref h0_18, .ref h0_19, .ref h0_20, .ref h0_21, .ref h0_22, .ref h0_23, .ref h0_24, .ref h0_25, .int h0_26, .int h0_27, .int h0_28, .int h0_29, .int h0_30, .int h0_31, .ref h0_32, .ref h0_33, .ref h0_34, .ref h0_35, .ref h0_36, .ref h0_37, .ref h0_38, .int h0_39, .ref h0_40, .ref h0_41, .ref h0_42, .ref h0_43, .ref h0_44, .ref h0_45, .int h0_46, .int h0_47, .int h0_48])), (a1, .inl (yb, 2020, .inl (upd f57 (7).toNatClampNeg (vp_nar .byte z63))))] := hD
  generalize (upd f57 (7).toNatClampNeg (vp_nar .byte z63)) = f65 at hP hD
  refine lv_iinc (v := 8) (lv' := [(6, .int 8), (7, .int p2), (0, .ref h0), (1, .int p1), (2, .int p2), (3, .int p3), (4, .int p4), (5, .int p5)]) hx hb dX7_feed_99 hl (k := 1) rfl (by decide) (by decide) rfl (fun ls hl => ?_)
  refine lv_goto (tgt := 18) hx hb dX7_feed_102 (by decide) ?_
  refine lv_iload hx hb dX7_feed_18 (lv_at hl 0 rfl) ?_
  refine lv_bipush (v := 20) hx hb dX7_feed_20 (by decide) ?_
  refine lv_icmp_ge (tgt := 105) hx hb dX7_feed_22 (by decide) (fun hc => absurd hc (by decide)) (fun _ => ?_)
  refine lv_iload hx hb dX7_feed_25 (lv_at hl 0 rfl) ?_
  refine lv_iconst (v := 4) hx hb dX7_feed_27 (by decide) ?_
  refine lv_icmp_ge (tgt := 35) hx hb dX7_feed_28 (by decide) (fun _ => ?_) (fun hc => absurd (by decide) hc)
  refine lv_iload hx hb dX7_feed_35 (lv_at hl 0 rfl) ?_
  refine lv_bipush (v := 8) hx hb dX7_feed_37 (by decide) ?_
  refine lv_icmp_ge (tgt := 46) hx hb dX7_feed_39 (by decide) (fun _ => ?_) (fun hc => absurd (by decide) hc)
  refine lv_iload hx hb dX7_feed_46 (lv_at hl 0 rfl) ?_
  refine lv_bipush (v := 12) hx hb dX7_feed_48 (by decide) ?_
  refine lv_icmp_ge (tgt := 57) hx hb dX7_feed_50 (by decide) (fun hc => absurd hc (by decide)) (fun _ => ?_)
  refine lv_iload_n hx hb dX7_feed_53 rfl (lv_at hl 5 rfl) ?_
  refine lv_goto (tgt := 71) hx hb dX7_feed_54 (by decide) ?_
  refine lv_istore (lv' := [(7, .int p3), (6, .int 8), (0, .ref h0), (1, .int p1), (2, .int p2), (3, .int p3), (4, .int p4), (5, .int p5)]) hx hb dX7_feed_71 hl (by decide) rfl (fun ls hl => ?_)
  refine lv_aload_n hx hb dX7_feed_73 rfl (lv_at hl 2 rfl) ?_
  refine va_get (D := (dC, dI)) (ci := 6) (v := .ref a1) (C := RX7) (T := TX7) (N := 49) hx hb hts inX7_ hown hK hP 0 rfl rfl 0 (by decide) (hts (.fieldLink RX7 7 "GateWheelModel" "tape" "[B") (List.mem_of_getElem? (i := 2) rfl)) (fun _ h9 => h9) rfl dX7_feed_74 ?_
  refine lv_aload_n hx hb dX7_feed_77 rfl (lv_at hl 2 rfl) ?_
  refine va_get (D := (dC, dI)) (ci := 6) (v := .int 0) (C := RX7) (T := TX7) (N := 49) hx hb hts inX7_ hown hK hP 0 rfl rfl 2 (by decide) (hts (.fieldLink RX7 249 "GateWheelModel" "taped" "I") (List.mem_of_getElem? (i := 1) rfl)) (fun _ h9 => h9) rfl dX7_feed_78 ?_
  refine lv_iload hx hb dX7_feed_81 (lv_at hl 1 rfl) ?_
  refine lv_iadd hx hb dX7_feed_83 ?_
  refine lv_topi (fun z66 ez66 => ?_)
  obtain rfl : z66 = 8 := by rw [ez66]; decide
  refine lv_iload hx hb dX7_feed_84 (lv_at hl 0 rfl) ?_
  refine lv_bipush (v := 24) hx hb dX7_feed_86 (by decide) ?_
  refine lv_bipush (v := 8) hx hb dX7_feed_88 (by decide) ?_
  refine lv_iload hx hb dX7_feed_90 (lv_at hl 1 rfl) ?_
  refine lv_iconst (v := 3) hx hb dX7_feed_92 (by decide) ?_
  refine lv_iand hx hb dX7_feed_93 ?_
  refine lv_topi (fun z67 ez67 => ?_)
  obtain rfl : z67 = 0 := by rw [ez67]; decide
  refine lv_imul hx hb dX7_feed_94 ?_
  refine lv_topi (fun z68 ez68 => ?_)
  obtain rfl : z68 = 0 := by rw [ez68]; decide
  refine lv_isub hx hb dX7_feed_95 ?_
  refine lv_topi (fun z69 ez69 => ?_)
  obtain rfl : z69 = 24 := by rw [ez69]; decide
  refine lv_ishr hx hb dX7_feed_96 ?_
  refine lv_topi (fun z70 ez70 => ?_)
  refine lv_i2b hx hb dX7_feed_97 rfl ?_
  refine lv_topi (fun z71 ez71 => ?_)
  refine va_bast hx hb hK hP hD hS 1 0 rfl rfl (by unfold vp_in; decide) dX7_feed_98 (fun H72 locs hP hD hS => ?_)
  have hP : va_P (dC, dI) vwCl [(h0, .inr (6, [.ref a1, .ref h0_1, .int 0, .int h0_3, .int h0_4, .int h0_5, .int h0_6, .int h0_7, .int h0_8, .int h0_9, .long h0_10, .ref h0_11, .ref h0_12, .ref h0_13, .ref h0_14, .ref h0_15, .ref h0_16, .ref h0_17, .ref h0_18, .ref h0_19, .ref h0_20, .ref h0_21, .ref h0_22, .ref h0_23, .ref h0_24, .ref h0_25, .int h0_26, .int h0_27, .int h0_28, .int h0_29, .int h0_30, .int h0_31, .ref h0_32, .ref h0_33, .ref h0_34, .ref h0_35, .ref h0_36, .ref h0_37, .ref h0_38, .int h0_39, .ref h0_40, .ref h0_41, .ref h0_42, .ref h0_43, .ref h0_44, .ref h0_45, .int h0_46, .int h0_47, .int h0_48])), (a1, .inl (yb, 2020, .inl (upd f65 (8).toNatClampNeg (vp_nar .byte z71))))] H72 := hP
  have hD : va_D A [(h0, .inr (6, [.ref a1, .ref h0_1, .int 0, .int h0_3, .int h0_4, .int h0_5, .int h0_6, .int h0_7, .int h0_8, .int h0_9, .long h0_10, .ref h0_11, .ref h0_12, .ref h0_13, .ref h0_14, .ref h0_15, .ref h0_16, .ref h0_17, .ref h0_18, .ref h0_19, .ref h0_20, .ref h0_21, .ref h0_22, .ref h0_23, .ref h0_24, .ref h0_25, .int h0_26, .int h0_27, .int h0_28, .int h0_29, .int h0_30, .int h0_31, .ref h0_32, .ref h0_33, .ref h0_34, .ref h0_35, .ref h0_36, .ref h0_37, .ref h0_38, .int h0_39, .ref h0_40, .ref h0_41, .ref h0_42, .ref h0_43, .ref h0_44, .ref h0_45, .int h0_46, .int h0_47, .int h0_48])), (a1, .inl (yb, 2020, .inl (upd f65 (8).toNatClampNeg (vp_nar .byte z71))))] := hD
  generalize (upd f65 (8).toNatClampNeg (vp_nar .byte z71)) = f73 at hP hD
  refine lv_iinc (v := 9) (lv' := [(6, .int 9), (7, .int p3), (0, .ref h0), (1, .int p1), (2, .int p2), (3, .int p3), (4, .int p4), (5, .int p5)]) hx hb dX7_feed_99 hl (k := 1) rfl (by decide) (by decide) rfl (fun ls hl => ?_)
  refine lv_goto (tgt := 18) hx hb dX7_feed_102 (by decide) ?_
  refine lv_iload hx hb dX7_feed_18 (lv_at hl 0 rfl) ?_
  refine lv_bipush (v := 20) hx hb dX7_feed_20 (by decide) ?_
  refine lv_icmp_ge (tgt := 105) hx hb dX7_feed_22 (by decide) (fun hc => absurd hc (by decide)) (fun _ => ?_)
  refine lv_iload hx hb dX7_feed_25 (lv_at hl 0 rfl) ?_
  refine lv_iconst (v := 4) hx hb dX7_feed_27 (by decide) ?_
  refine lv_icmp_ge (tgt := 35) hx hb dX7_feed_28 (by decide) (fun _ => ?_) (fun hc => absurd (by decide) hc)
  refine lv_iload hx hb dX7_feed_35 (lv_at hl 0 rfl) ?_
  refine lv_bipush (v := 8) hx hb dX7_feed_37 (by decide) ?_
  refine lv_icmp_ge (tgt := 46) hx hb dX7_feed_39 (by decide) (fun _ => ?_) (fun hc => absurd (by decide) hc)
  refine lv_iload hx hb dX7_feed_46 (lv_at hl 0 rfl) ?_
  refine lv_bipush (v := 12) hx hb dX7_feed_48 (by decide) ?_
  refine lv_icmp_ge (tgt := 57) hx hb dX7_feed_50 (by decide) (fun hc => absurd hc (by decide)) (fun _ => ?_)
  refine lv_iload_n hx hb dX7_feed_53 rfl (lv_at hl 5 rfl) ?_
  refine lv_goto (tgt := 71) hx hb dX7_feed_54 (by decide) ?_
  refine lv_istore (lv' := [(7, .int p3), (6, .int 9), (0, .ref h0), (1, .int p1), (2, .int p2), (3, .int p3), (4, .int p4), (5, .int p5)]) hx hb dX7_feed_71 hl (by decide) rfl (fun ls hl => ?_)
  refine lv_aload_n hx hb dX7_feed_73 rfl (lv_at hl 2 rfl) ?_
  refine va_get (D := (dC, dI)) (ci := 6) (v := .ref a1) (C := RX7) (T := TX7) (N := 49) hx hb hts inX7_ hown hK hP 0 rfl rfl 0 (by decide) (hts (.fieldLink RX7 7 "GateWheelModel" "tape" "[B") (List.mem_of_getElem? (i := 2) rfl)) (fun _ h9 => h9) rfl dX7_feed_74 ?_
  refine lv_aload_n hx hb dX7_feed_77 rfl (lv_at hl 2 rfl) ?_
  refine va_get (D := (dC, dI)) (ci := 6) (v := .int 0) (C := RX7) (T := TX7) (N := 49) hx hb hts inX7_ hown hK hP 0 rfl rfl 2 (by decide) (hts (.fieldLink RX7 249 "GateWheelModel" "taped" "I") (List.mem_of_getElem? (i := 1) rfl)) (fun _ h9 => h9) rfl dX7_feed_78 ?_
  refine lv_iload hx hb dX7_feed_81 (lv_at hl 1 rfl) ?_
  refine lv_iadd hx hb dX7_feed_83 ?_
  refine lv_topi (fun z74 ez74 => ?_)
  obtain rfl : z74 = 9 := by rw [ez74]; decide
  refine lv_iload hx hb dX7_feed_84 (lv_at hl 0 rfl) ?_
  refine lv_bipush (v := 24) hx hb dX7_feed_86 (by decide) ?_
  refine lv_bipush (v := 8) hx hb dX7_feed_88 (by decide) ?_
  refine lv_iload hx hb dX7_feed_90 (lv_at hl 1 rfl) ?_
  refine lv_iconst (v := 3) hx hb dX7_feed_92 (by decide) ?_
  refine lv_iand hx hb dX7_feed_93 ?_
  refine lv_topi (fun z75 ez75 => ?_)
  obtain rfl : z75 = 1 := by rw [ez75]; decide
  refine lv_imul hx hb dX7_feed_94 ?_
  refine lv_topi (fun z76 ez76 => ?_)
  obtain rfl : z76 = 8 := by rw [ez76]; decide
  refine lv_isub hx hb dX7_feed_95 ?_
  refine lv_topi (fun z77 ez77 => ?_)
  obtain rfl : z77 = 16 := by rw [ez77]; decide
  refine lv_ishr hx hb dX7_feed_96 ?_
  refine lv_topi (fun z78 ez78 => ?_)
  refine lv_i2b hx hb dX7_feed_97 rfl ?_
  refine lv_topi (fun z79 ez79 => ?_)
  refine va_bast hx hb hK hP hD hS 1 0 rfl rfl (by unfold vp_in; decide) dX7_feed_98 (fun H80 locs hP hD hS => ?_)
  have hP : va_P (dC, dI) vwCl [(h0, .inr (6, [.ref a1, .ref h0_1, .int 0, .int h0_3, .int h0_4, .int h0_5, .int h0_6, .int h0_7, .int h0_8, .int h0_9, .long h0_10, .ref h0_11, .ref h0_12, .ref h0_13, .ref h0_14, .ref h0_15, .ref h0_16, .ref h0_17, .ref h0_18, .ref h0_19, .ref h0_20, .ref h0_21, .ref h0_22, .ref h0_23, .ref h0_24, .ref h0_25, .int h0_26, .int h0_27, .int h0_28, .int h0_29, .int h0_30, .int h0_31, .ref h0_32, .ref h0_33, .ref h0_34, .ref h0_35, .ref h0_36, .ref h0_37, .ref h0_38, .int h0_39, .ref h0_40, .ref h0_41, .ref h0_42, .ref h0_43, .ref h0_44, .ref h0_45, .int h0_46, .int h0_47, .int h0_48])), (a1, .inl (yb, 2020, .inl (upd f73 (9).toNatClampNeg (vp_nar .byte z79))))] H80 := hP
  have hD : va_D A [(h0, .inr (6, [.ref a1, .ref h0_1, .int 0, .int h0_3, .int h0_4, .int h0_5, .int h0_6, .int h0_7, .int h0_8, .int h0_9, .long h0_10, .ref h0_11, .ref h0_12, .ref h0_13, .ref h0_14, .ref h0_15, .ref h0_16, .ref h0_17, .ref h0_18, .ref h0_19, .ref h0_20, .ref h0_21, .ref h0_22, .ref h0_23, .ref h0_24, .ref h0_25, .int h0_26, .int h0_27, .int h0_28, .int h0_29, .int h0_30, .int h0_31, .ref h0_32, .ref h0_33, .ref h0_34, .ref h0_35, .ref h0_36, .ref h0_37, .ref h0_38, .int h0_39, .ref h0_40, .ref h0_41, .ref h0_42, .ref h0_43, .ref h0_44, .ref h0_45, .int h0_46, .int h0_47, .int h0_48])), (a1, .inl (yb, 2020, .inl (upd f73 (9).toNatClampNeg (vp_nar .byte z79))))] := hD
  generalize (upd f73 (9).toNatClampNeg (vp_nar .byte z79)) = f81 at hP hD
  refine lv_iinc (v := 10) (lv' := [(6, .int 10), (7, .int p3), (0, .ref h0), (1, .int p1), (2, .int p2), (3, .int p3), (4, .int p4), (5, .int p5)]) hx hb dX7_feed_99 hl (k := 1) rfl (by decide) (by decide) rfl (fun ls hl => ?_)
  refine lv_goto (tgt := 18) hx hb dX7_feed_102 (by decide) ?_
  refine lv_iload hx hb dX7_feed_18 (lv_at hl 0 rfl) ?_
  refine lv_bipush (v := 20) hx hb dX7_feed_20 (by decide) ?_
  refine lv_icmp_ge (tgt := 105) hx hb dX7_feed_22 (by decide) (fun hc => absurd hc (by decide)) (fun _ => ?_)
  refine lv_iload hx hb dX7_feed_25 (lv_at hl 0 rfl) ?_
  refine lv_iconst (v := 4) hx hb dX7_feed_27 (by decide) ?_
  refine lv_icmp_ge (tgt := 35) hx hb dX7_feed_28 (by decide) (fun _ => ?_) (fun hc => absurd (by decide) hc)
  refine lv_iload hx hb dX7_feed_35 (lv_at hl 0 rfl) ?_
  refine lv_bipush (v := 8) hx hb dX7_feed_37 (by decide) ?_
  refine lv_icmp_ge (tgt := 46) hx hb dX7_feed_39 (by decide) (fun _ => ?_) (fun hc => absurd (by decide) hc)
  refine lv_iload hx hb dX7_feed_46 (lv_at hl 0 rfl) ?_
  refine lv_bipush (v := 12) hx hb dX7_feed_48 (by decide) ?_
  refine lv_icmp_ge (tgt := 57) hx hb dX7_feed_50 (by decide) (fun hc => absurd hc (by decide)) (fun _ => ?_)
  refine lv_iload_n hx hb dX7_feed_53 rfl (lv_at hl 5 rfl) ?_
  refine lv_goto (tgt := 71) hx hb dX7_feed_54 (by decide) ?_
  refine lv_istore (lv' := [(7, .int p3), (6, .int 10), (0, .ref h0), (1, .int p1), (2, .int p2), (3, .int p3), (4, .int p4), (5, .int p5)]) hx hb dX7_feed_71 hl (by decide) rfl (fun ls hl => ?_)
  refine lv_aload_n hx hb dX7_feed_73 rfl (lv_at hl 2 rfl) ?_
  refine va_get (D := (dC, dI)) (ci := 6) (v := .ref a1) (C := RX7) (T := TX7) (N := 49) hx hb hts inX7_ hown hK hP 0 rfl rfl 0 (by decide) (hts (.fieldLink RX7 7 "GateWheelModel" "tape" "[B") (List.mem_of_getElem? (i := 2) rfl)) (fun _ h9 => h9) rfl dX7_feed_74 ?_
  refine lv_aload_n hx hb dX7_feed_77 rfl (lv_at hl 2 rfl) ?_
  refine va_get (D := (dC, dI)) (ci := 6) (v := .int 0) (C := RX7) (T := TX7) (N := 49) hx hb hts inX7_ hown hK hP 0 rfl rfl 2 (by decide) (hts (.fieldLink RX7 249 "GateWheelModel" "taped" "I") (List.mem_of_getElem? (i := 1) rfl)) (fun _ h9 => h9) rfl dX7_feed_78 ?_
  refine lv_iload hx hb dX7_feed_81 (lv_at hl 1 rfl) ?_
  refine lv_iadd hx hb dX7_feed_83 ?_
  refine lv_topi (fun z82 ez82 => ?_)
  obtain rfl : z82 = 10 := by rw [ez82]; decide
  refine lv_iload hx hb dX7_feed_84 (lv_at hl 0 rfl) ?_
  refine lv_bipush (v := 24) hx hb dX7_feed_86 (by decide) ?_
  refine lv_bipush (v := 8) hx hb dX7_feed_88 (by decide) ?_
  refine lv_iload hx hb dX7_feed_90 (lv_at hl 1 rfl) ?_
  refine lv_iconst (v := 3) hx hb dX7_feed_92 (by decide) ?_
  refine lv_iand hx hb dX7_feed_93 ?_
  refine lv_topi (fun z83 ez83 => ?_)
  obtain rfl : z83 = 2 := by rw [ez83]; decide
  refine lv_imul hx hb dX7_feed_94 ?_
  refine lv_topi (fun z84 ez84 => ?_)
  obtain rfl : z84 = 16 := by rw [ez84]; decide
  refine lv_isub hx hb dX7_feed_95 ?_
  refine lv_topi (fun z85 ez85 => ?_)
  obtain rfl : z85 = 8 := by rw [ez85]; decide
  refine lv_ishr hx hb dX7_feed_96 ?_
  refine lv_topi (fun z86 ez86 => ?_)
  refine lv_i2b hx hb dX7_feed_97 rfl ?_
  refine lv_topi (fun z87 ez87 => ?_)
  refine va_bast hx hb hK hP hD hS 1 0 rfl rfl (by unfold vp_in; decide) dX7_feed_98 (fun H88 locs hP hD hS => ?_)
  have hP : va_P (dC, dI) vwCl [(h0, .inr (6, [.ref a1, .ref h0_1, .int 0, .int h0_3, .int h0_4, .int h0_5, .int h0_6, .int h0_7, .int h0_8, .int h0_9, .long h0_10, .ref h0_11, .ref h0_12, .ref h0_13, .ref h0_14, .ref h0_15, .ref h0_16, .ref h0_17, .ref h0_18, .ref h0_19, .ref h0_20, .ref h0_21, .ref h0_22, .ref h0_23, .ref h0_24, .ref h0_25, .int h0_26, .int h0_27, .int h0_28, .int h0_29, .int h0_30, .int h0_31, .ref h0_32, .ref h0_33, .ref h0_34, .ref h0_35, .ref h0_36, .ref h0_37, .ref h0_38, .int h0_39, .ref h0_40, .ref h0_41, .ref h0_42, .ref h0_43, .ref h0_44, .ref h0_45, .int h0_46, .int h0_47, .int h0_48])), (a1, .inl (yb, 2020, .inl (upd f81 (10).toNatClampNeg (vp_nar .byte z87))))] H88 := hP
  have hD : va_D A [(h0, .inr (6, [.ref a1, .ref h0_1, .int 0, .int h0_3, .int h0_4, .int h0_5, .int h0_6, .int h0_7, .int h0_8, .int h0_9, .long h0_10, .ref h0_11, .ref h0_12, .ref h0_13, .ref h0_14, .ref h0_15, .ref h0_16, .ref h0_17, .ref h0_18, .ref h0_19, .ref h0_20, .ref h0_21, .ref h0_22, .ref h0_23, .ref h0_24, .ref h0_25, .int h0_26, .int h0_27, .int h0_28, .int h0_29, .int h0_30, .int h0_31, .ref h0_32, .ref h0_33, .ref h0_34, .ref h0_35, .ref h0_36, .ref h0_37, .ref h0_38, .int h0_39, .ref h0_40, .ref h0_41, .ref h0_42, .ref h0_43, .ref h0_44, .ref h0_45, .int h0_46, .int h0_47, .int h0_48])), (a1, .inl (yb, 2020, .inl (upd f81 (10).toNatClampNeg (vp_nar .byte z87))))] := hD
  generalize (upd f81 (10).toNatClampNeg (vp_nar .byte z87)) = f89 at hP hD
  refine lv_iinc (v := 11) (lv' := [(6, .int 11), (7, .int p3), (0, .ref h0), (1, .int p1), (2, .int p2), (3, .int p3), (4, .int p4), (5, .int p5)]) hx hb dX7_feed_99 hl (k := 1) rfl (by decide) (by decide) rfl (fun ls hl => ?_)
  refine lv_goto (tgt := 18) hx hb dX7_feed_102 (by decide) ?_
  refine lv_iload hx hb dX7_feed_18 (lv_at hl 0 rfl) ?_
  refine lv_bipush (v := 20) hx hb dX7_feed_20 (by decide) ?_
  refine lv_icmp_ge (tgt := 105) hx hb dX7_feed_22 (by decide) (fun hc => absurd hc (by decide)) (fun _ => ?_)
  refine lv_iload hx hb dX7_feed_25 (lv_at hl 0 rfl) ?_
  refine lv_iconst (v := 4) hx hb dX7_feed_27 (by decide) ?_
  refine lv_icmp_ge (tgt := 35) hx hb dX7_feed_28 (by decide) (fun _ => ?_) (fun hc => absurd (by decide) hc)
  refine lv_iload hx hb dX7_feed_35 (lv_at hl 0 rfl) ?_
  refine lv_bipush (v := 8) hx hb dX7_feed_37 (by decide) ?_
  refine lv_icmp_ge (tgt := 46) hx hb dX7_feed_39 (by decide) (fun _ => ?_) (fun hc => absurd (by decide) hc)
  refine lv_iload hx hb dX7_feed_46 (lv_at hl 0 rfl) ?_
  refine lv_bipush (v := 12) hx hb dX7_feed_48 (by decide) ?_
  refine lv_icmp_ge (tgt := 57) hx hb dX7_feed_50 (by decide) (fun hc => absurd hc (by decide)) (fun _ => ?_)
  refine lv_iload_n hx hb dX7_feed_53 rfl (lv_at hl 5 rfl) ?_
  refine lv_goto (tgt := 71) hx hb dX7_feed_54 (by decide) ?_
  refine lv_istore (lv' := [(7, .int p3), (6, .int 11), (0, .ref h0), (1, .int p1), (2, .int p2), (3, .int p3), (4, .int p4), (5, .int p5)]) hx hb dX7_feed_71 hl (by decide) rfl (fun ls hl => ?_)
  refine lv_aload_n hx hb dX7_feed_73 rfl (lv_at hl 2 rfl) ?_
  refine va_get (D := (dC, dI)) (ci := 6) (v := .ref a1) (C := RX7) (T := TX7) (N := 49) hx hb hts inX7_ hown hK hP 0 rfl rfl 0 (by decide) (hts (.fieldLink RX7 7 "GateWheelModel" "tape" "[B") (List.mem_of_getElem? (i := 2) rfl)) (fun _ h9 => h9) rfl dX7_feed_74 ?_
  refine lv_aload_n hx hb dX7_feed_77 rfl (lv_at hl 2 rfl) ?_
  refine va_get (D := (dC, dI)) (ci := 6) (v := .int 0) (C := RX7) (T := TX7) (N := 49) hx hb hts inX7_ hown hK hP 0 rfl rfl 2 (by decide) (hts (.fieldLink RX7 249 "GateWheelModel" "taped" "I") (List.mem_of_getElem? (i := 1) rfl)) (fun _ h9 => h9) rfl dX7_feed_78 ?_
  refine lv_iload hx hb dX7_feed_81 (lv_at hl 1 rfl) ?_
  refine lv_iadd hx hb dX7_feed_83 ?_
  refine lv_topi (fun z90 ez90 => ?_)
  obtain rfl : z90 = 11 := by rw [ez90]; decide
  refine lv_iload hx hb dX7_feed_84 (lv_at hl 0 rfl) ?_
  refine lv_bipush (v := 24) hx hb dX7_feed_86 (by decide) ?_
  refine lv_bipush (v := 8) hx hb dX7_feed_88 (by decide) ?_
  refine lv_iload hx hb dX7_feed_90 (lv_at hl 1 rfl) ?_
  refine lv_iconst (v := 3) hx hb dX7_feed_92 (by decide) ?_
  refine lv_iand hx hb dX7_feed_93 ?_
  refine lv_topi (fun z91 ez91 => ?_)
  obtain rfl : z91 = 3 := by rw [ez91]; decide
  refine lv_imul hx hb dX7_feed_94 ?_
  refine lv_topi (fun z92 ez92 => ?_)
  obtain rfl : z92 = 24 := by rw [ez92]; decide
  refine lv_isub hx hb dX7_feed_95 ?_
  refine lv_topi (fun z93 ez93 => ?_)
  obtain rfl : z93 = 0 := by rw [ez93]; decide
  refine lv_ishr hx hb dX7_feed_96 ?_
  refine lv_topi (fun z94 ez94 => ?_)
  refine lv_i2b hx hb dX7_feed_97 rfl ?_
  refine lv_topi (fun z95 ez95 => ?_)
  refine va_bast hx hb hK hP hD hS 1 0 rfl rfl (by unfold vp_in; decide) dX7_feed_98 (fun H96 locs hP hD hS => ?_)
  have hP : va_P (dC, dI) vwCl [(h0, .inr (6, [.ref a1, .ref h0_1, .int 0, .int h0_3, .int h0_4, .int h0_5, .int h0_6, .int h0_7, .int h0_8, .int h0_9, .long h0_10, .ref h0_11, .ref h0_12, .ref h0_13, .ref h0_14, .ref h0_15, .ref h0_16, .ref h0_17, .ref h0_18, .ref h0_19, .ref h0_20, .ref h0_21, .ref h0_22, .ref h0_23, .ref h0_24, .ref h0_25, .int h0_26, .int h0_27, .int h0_28, .int h0_29, .int h0_30, .int h0_31, .ref h0_32, .ref h0_33, .ref h0_34, .ref h0_35, .ref h0_36, .ref h0_37, .ref h0_38, .int h0_39, .ref h0_40, .ref h0_41, .ref h0_42, .ref h0_43, .ref h0_44, .ref h0_45, .int h0_46, .int h0_47, .int h0_48])), (a1, .inl (yb, 2020, .inl (upd f89 (11).toNatClampNeg (vp_nar .byte z95))))] H96 := hP
  have hD : va_D A [(h0, .inr (6, [.ref a1, .ref h0_1, .int 0, .int h0_3, .int h0_4, .int h0_5, .int h0_6, .int h0_7, .int h0_8, .int h0_9, .long h0_10, .ref h0_11, .ref h0_12, .ref h0_13, .ref h0_14, .ref h0_15, .ref h0_16, .ref h0_17, .ref h0_18, .ref h0_19, .ref h0_20, .ref h0_21, .ref h0_22, .ref h0_23, .ref h0_24, .ref h0_25, .int h0_26, .int h0_27, .int h0_28, .int h0_29, .int h0_30, .int h0_31, .ref h0_32, .ref h0_33, .ref h0_34, .ref h0_35, .ref h0_36, .ref h0_37, .ref h0_38, .int h0_39, .ref h0_40, .ref h0_41, .ref h0_42, .ref h0_43, .ref h0_44, .ref h0_45, .int h0_46, .int h0_47, .int h0_48])), (a1, .inl (yb, 2020, .inl (upd f89 (11).toNatClampNeg (vp_nar .byte z95))))] := hD
  generalize (upd f89 (11).toNatClampNeg (vp_nar .byte z95)) = f97 at hP hD
  refine lv_iinc (v := 12) (lv' := [(6, .int 12), (7, .int p3), (0, .ref h0), (1, .int p1), (2, .int p2), (3, .int p3), (4, .int p4), (5, .int p5)]) hx hb dX7_feed_99 hl (k := 1) rfl (by decide) (by decide) rfl (fun ls hl => ?_)
  refine lv_goto (tgt := 18) hx hb dX7_feed_102 (by decide) ?_
  refine lv_iload hx hb dX7_feed_18 (lv_at hl 0 rfl) ?_
  refine lv_bipush (v := 20) hx hb dX7_feed_20 (by decide) ?_
  refine lv_icmp_ge (tgt := 105) hx hb dX7_feed_22 (by decide) (fun hc => absurd hc (by decide)) (fun _ => ?_)
  refine lv_iload hx hb dX7_feed_25 (lv_at hl 0 rfl) ?_
  refine lv_iconst (v := 4) hx hb dX7_feed_27 (by decide) ?_
  refine lv_icmp_ge (tgt := 35) hx hb dX7_feed_28 (by decide) (fun _ => ?_) (fun hc => absurd (by decide) hc)
  refine lv_iload hx hb dX7_feed_35 (lv_at hl 0 rfl) ?_
  refine lv_bipush (v := 8) hx hb dX7_feed_37 (by decide) ?_
  refine lv_icmp_ge (tgt := 46) hx hb dX7_feed_39 (by decide) (fun _ => ?_) (fun hc => absurd (by decide) hc)
  refine lv_iload hx hb dX7_feed_46 (lv_at hl 0 rfl) ?_
  refine lv_bipush (v := 12) hx hb dX7_feed_48 (by decide) ?_
  refine lv_icmp_ge (tgt := 57) hx hb dX7_feed_50 (by decide) (fun _ => ?_) (fun hc => absurd (by decide) hc)
  refine lv_iload hx hb dX7_feed_57 (lv_at hl 0 rfl) ?_
  refine lv_bipush (v := 16) hx hb dX7_feed_59 (by decide) ?_
  refine lv_icmp_ge (tgt := 69) hx hb dX7_feed_61 (by decide) (fun hc => absurd hc (by decide)) (fun _ => ?_)
  refine lv_iload hx hb dX7_feed_64 (lv_at hl 6 rfl) ?_
  refine lv_goto (tgt := 71) hx hb dX7_feed_66 (by decide) ?_
  refine lv_istore (lv' := [(7, .int p4), (6, .int 12), (0, .ref h0), (1, .int p1), (2, .int p2), (3, .int p3), (4, .int p4), (5, .int p5)]) hx hb dX7_feed_71 hl (by decide) rfl (fun ls hl => ?_)
  refine lv_aload_n hx hb dX7_feed_73 rfl (lv_at hl 2 rfl) ?_
  refine va_get (D := (dC, dI)) (ci := 6) (v := .ref a1) (C := RX7) (T := TX7) (N := 49) hx hb hts inX7_ hown hK hP 0 rfl rfl 0 (by decide) (hts (.fieldLink RX7 7 "GateWheelModel" "tape" "[B") (List.mem_of_getElem? (i := 2) rfl)) (fun _ h9 => h9) rfl dX7_feed_74 ?_
  refine lv_aload_n hx hb dX7_feed_77 rfl (lv_at hl 2 rfl) ?_
  refine va_get (D := (dC, dI)) (ci := 6) (v := .int 0) (C := RX7) (T := TX7) (N := 49) hx hb hts inX7_ hown hK hP 0 rfl rfl 2 (by decide) (hts (.fieldLink RX7 249 "GateWheelModel" "taped" "I") (List.mem_of_getElem? (i := 1) rfl)) (fun _ h9 => h9) rfl dX7_feed_78 ?_
  refine lv_iload hx hb dX7_feed_81 (lv_at hl 1 rfl) ?_
  refine lv_iadd hx hb dX7_feed_83 ?_
  refine lv_topi (fun z98 ez98 => ?_)
  obtain rfl : z98 = 12 := by rw [ez98]; decide
  refine lv_iload hx hb dX7_feed_84 (lv_at hl 0 rfl) ?_
  refine lv_bipush (v := 24) hx hb dX7_feed_86 (by decide) ?_
  refine lv_bipush (v := 8) hx hb dX7_feed_88 (by decide) ?_
  refine lv_iload hx hb dX7_feed_90 (lv_at hl 1 rfl) ?_
  refine lv_iconst (v := 3) hx hb dX7_feed_92 (by decide) ?_
  refine lv_iand hx hb dX7_feed_93 ?_
  refine lv_topi (fun z99 ez99 => ?_)
  obtain rfl : z99 = 0 := by rw [ez99]; decide
  refine lv_imul hx hb dX7_feed_94 ?_
  refine lv_topi (fun z100 ez100 => ?_)
  obtain rfl : z100 = 0 := by rw [ez100]; decide
  refine lv_isub hx hb dX7_feed_95 ?_
  refine lv_topi (fun z101 ez101 => ?_)
  obtain rfl : z101 = 24 := by rw [ez101]; decide
  refine lv_ishr hx hb dX7_feed_96 ?_
  refine lv_topi (fun z102 ez102 => ?_)
  refine lv_i2b hx hb dX7_feed_97 rfl ?_
  refine lv_topi (fun z103 ez103 => ?_)
  refine va_bast hx hb hK hP hD hS 1 0 rfl rfl (by unfold vp_in; decide) dX7_feed_98 (fun H104 locs hP hD hS => ?_)
  have hP : va_P (dC, dI) vwCl [(h0, .inr (6, [.ref a1, .ref h0_1, .int 0, .int h0_3, .int h0_4, .int h0_5, .int h0_6, .int h0_7, .int h0_8, .int h0_9, .long h0_10, .ref h0_11, .ref h0_12, .ref h0_13, .ref h0_14, .ref h0_15, .ref h0_16, .ref h0_17, .ref h0_18, .ref h0_19, .ref h0_20, .ref h0_21, .ref h0_22, .ref h0_23, .ref h0_24, .ref h0_25, .int h0_26, .int h0_27, .int h0_28, .int h0_29, .int h0_30, .int h0_31, .ref h0_32, .ref h0_33, .ref h0_34, .ref h0_35, .ref h0_36, .ref h0_37, .ref h0_38, .int h0_39, .ref h0_40, .ref h0_41, .ref h0_42, .ref h0_43, .ref h0_44, .ref h0_45, .int h0_46, .int h0_47, .int h0_48])), (a1, .inl (yb, 2020, .inl (upd f97 (12).toNatClampNeg (vp_nar .byte z103))))] H104 := hP
  have hD : va_D A [(h0, .inr (6, [.ref a1, .ref h0_1, .int 0, .int h0_3, .int h0_4, .int h0_5, .int h0_6, .int h0_7, .int h0_8, .int h0_9, .long h0_10, .ref h0_11, .ref h0_12, .ref h0_13, .ref h0_14, .ref h0_15, .ref h0_16, .ref h0_17, .ref h0_18, .ref h0_19, .ref h0_20, .ref h0_21, .ref h0_22, .ref h0_23, .ref h0_24, .ref h0_25, .int h0_26, .int h0_27, .int h0_28, .int h0_29, .int h0_30, .int h0_31, .ref h0_32, .ref h0_33, .ref h0_34, .ref h0_35, .ref h0_36, .ref h0_37, .ref h0_38, .int h0_39, .ref h0_40, .ref h0_41, .ref h0_42, .ref h0_43, .ref h0_44, .ref h0_45, .int h0_46, .int h0_47, .int h0_48])), (a1, .inl (yb, 2020, .inl (upd f97 (12).toNatClampNeg (vp_nar .byte z103))))] := hD
  generalize (upd f97 (12).toNatClampNeg (vp_nar .byte z103)) = f105 at hP hD
  refine lv_iinc (v := 13) (lv' := [(6, .int 13), (7, .int p4), (0, .ref h0), (1, .int p1), (2, .int p2), (3, .int p3), (4, .int p4), (5, .int p5)]) hx hb dX7_feed_99 hl (k := 1) rfl (by decide) (by decide) rfl (fun ls hl => ?_)
  refine lv_goto (tgt := 18) hx hb dX7_feed_102 (by decide) ?_
  refine lv_iload hx hb dX7_feed_18 (lv_at hl 0 rfl) ?_
  refine lv_bipush (v := 20) hx hb dX7_feed_20 (by decide) ?_
  refine lv_icmp_ge (tgt := 105) hx hb dX7_feed_22 (by decide) (fun hc => absurd hc (by decide)) (fun _ => ?_)
  refine lv_iload hx hb dX7_feed_25 (lv_at hl 0 rfl) ?_
  refine lv_iconst (v := 4) hx hb dX7_feed_27 (by decide) ?_
  refine lv_icmp_ge (tgt := 35) hx hb dX7_feed_28 (by decide) (fun _ => ?_) (fun hc => absurd (by decide) hc)
  refine lv_iload hx hb dX7_feed_35 (lv_at hl 0 rfl) ?_
  refine lv_bipush (v := 8) hx hb dX7_feed_37 (by decide) ?_
  refine lv_icmp_ge (tgt := 46) hx hb dX7_feed_39 (by decide) (fun _ => ?_) (fun hc => absurd (by decide) hc)
  refine lv_iload hx hb dX7_feed_46 (lv_at hl 0 rfl) ?_
  refine lv_bipush (v := 12) hx hb dX7_feed_48 (by decide) ?_
  refine lv_icmp_ge (tgt := 57) hx hb dX7_feed_50 (by decide) (fun _ => ?_) (fun hc => absurd (by decide) hc)
  refine lv_iload hx hb dX7_feed_57 (lv_at hl 0 rfl) ?_
  refine lv_bipush (v := 16) hx hb dX7_feed_59 (by decide) ?_
  refine lv_icmp_ge (tgt := 69) hx hb dX7_feed_61 (by decide) (fun hc => absurd hc (by decide)) (fun _ => ?_)
  refine lv_iload hx hb dX7_feed_64 (lv_at hl 6 rfl) ?_
  refine lv_goto (tgt := 71) hx hb dX7_feed_66 (by decide) ?_
  refine lv_istore (lv' := [(7, .int p4), (6, .int 13), (0, .ref h0), (1, .int p1), (2, .int p2), (3, .int p3), (4, .int p4), (5, .int p5)]) hx hb dX7_feed_71 hl (by decide) rfl (fun ls hl => ?_)
  refine lv_aload_n hx hb dX7_feed_73 rfl (lv_at hl 2 rfl) ?_
  refine va_get (D := (dC, dI)) (ci := 6) (v := .ref a1) (C := RX7) (T := TX7) (N := 49) hx hb hts inX7_ hown hK hP 0 rfl rfl 0 (by decide) (hts (.fieldLink RX7 7 "GateWheelModel" "tape" "[B") (List.mem_of_getElem? (i := 2) rfl)) (fun _ h9 => h9) rfl dX7_feed_74 ?_
  refine lv_aload_n hx hb dX7_feed_77 rfl (lv_at hl 2 rfl) ?_
  refine va_get (D := (dC, dI)) (ci := 6) (v := .int 0) (C := RX7) (T := TX7) (N := 49) hx hb hts inX7_ hown hK hP 0 rfl rfl 2 (by decide) (hts (.fieldLink RX7 249 "GateWheelModel" "taped" "I") (List.mem_of_getElem? (i := 1) rfl)) (fun _ h9 => h9) rfl dX7_feed_78 ?_
  refine lv_iload hx hb dX7_feed_81 (lv_at hl 1 rfl) ?_
  refine lv_iadd hx hb dX7_feed_83 ?_
  refine lv_topi (fun z106 ez106 => ?_)
  obtain rfl : z106 = 13 := by rw [ez106]; decide
  refine lv_iload hx hb dX7_feed_84 (lv_at hl 0 rfl) ?_
  refine lv_bipush (v := 24) hx hb dX7_feed_86 (by decide) ?_
  refine lv_bipush (v := 8) hx hb dX7_feed_88 (by decide) ?_
  refine lv_iload hx hb dX7_feed_90 (lv_at hl 1 rfl) ?_
  refine lv_iconst (v := 3) hx hb dX7_feed_92 (by decide) ?_
  refine lv_iand hx hb dX7_feed_93 ?_
  refine lv_topi (fun z107 ez107 => ?_)
  obtain rfl : z107 = 1 := by rw [ez107]; decide
  refine lv_imul hx hb dX7_feed_94 ?_
  refine lv_topi (fun z108 ez108 => ?_)
  obtain rfl : z108 = 8 := by rw [ez108]; decide
  refine lv_isub hx hb dX7_feed_95 ?_
  refine lv_topi (fun z109 ez109 => ?_)
  obtain rfl : z109 = 16 := by rw [ez109]; decide
  refine lv_ishr hx hb dX7_feed_96 ?_
  refine lv_topi (fun z110 ez110 => ?_)
  refine lv_i2b hx hb dX7_feed_97 rfl ?_
  refine lv_topi (fun z111 ez111 => ?_)
  refine va_bast hx hb hK hP hD hS 1 0 rfl rfl (by unfold vp_in; decide) dX7_feed_98 (fun H112 locs hP hD hS => ?_)
  have hP : va_P (dC, dI) vwCl [(h0, .inr (6, [.ref a1, .ref h0_1, .int 0, .int h0_3, .int h0_4, .int h0_5, .int h0_6, .int h0_7, .int h0_8, .int h0_9, .long h0_10, .ref h0_11, .ref h0_12, .ref h0_13, .ref h0_14, .ref h0_15, .ref h0_16, .ref h0_17, .ref h0_18, .ref h0_19, .ref h0_20, .ref h0_21, .ref h0_22, .ref h0_23, .ref h0_24, .ref h0_25, .int h0_26, .int h0_27, .int h0_28, .int h0_29, .int h0_30, .int h0_31, .ref h0_32, .ref h0_33, .ref h0_34, .ref h0_35, .ref h0_36, .ref h0_37, .ref h0_38, .int h0_39, .ref h0_40, .ref h0_41, .ref h0_42, .ref h0_43, .ref h0_44, .ref h0_45, .int h0_46, .int h0_47, .int h0_48])), (a1, .inl (yb, 2020, .inl (upd f105 (13).toNatClampNeg (vp_nar .byte z111))))] H112 := hP
  have hD : va_D A [(h0, .inr (6, [.ref a1, .ref h0_1, .int 0, .int h0_3, .int h0_4, .int h0_5, .int h0_6, .int h0_7, .int h0_8, .int h0_9, .long h0_10, .ref h0_11, .ref h0_12, .ref h0_13, .ref h0_14, .ref h0_15, .ref h0_16, .ref h0_17, .ref h0_18, .ref h0_19, .ref h0_20, .ref h0_21, .ref h0_22, .ref h0_23, .ref h0_24, .ref h0_25, .int h0_26, .int h0_27, .int h0_28, .int h0_29, .int h0_30, .int h0_31, .ref h0_32, .ref h0_33, .ref h0_34, .ref h0_35, .ref h0_36, .ref h0_37, .ref h0_38, .int h0_39, .ref h0_40, .ref h0_41, .ref h0_42, .ref h0_43, .ref h0_44, .ref h0_45, .int h0_46, .int h0_47, .int h0_48])), (a1, .inl (yb, 2020, .inl (upd f105 (13).toNatClampNeg (vp_nar .byte z111))))] := hD
  generalize (upd f105 (13).toNatClampNeg (vp_nar .byte z111)) = f113 at hP hD
  refine lv_iinc (v := 14) (lv' := [(6, .int 14), (7, .int p4), (0, .ref h0), (1, .int p1), (2, .int p2), (3, .int p3), (4, .int p4), (5, .int p5)]) hx hb dX7_feed_99 hl (k := 1) rfl (by decide) (by decide) rfl (fun ls hl => ?_)
  refine lv_goto (tgt := 18) hx hb dX7_feed_102 (by decide) ?_
  refine lv_iload hx hb dX7_feed_18 (lv_at hl 0 rfl) ?_
  refine lv_bipush (v := 20) hx hb dX7_feed_20 (by decide) ?_
  refine lv_icmp_ge (tgt := 105) hx hb dX7_feed_22 (by decide) (fun hc => absurd hc (by decide)) (fun _ => ?_)
  refine lv_iload hx hb dX7_feed_25 (lv_at hl 0 rfl) ?_
  refine lv_iconst (v := 4) hx hb dX7_feed_27 (by decide) ?_
  refine lv_icmp_ge (tgt := 35) hx hb dX7_feed_28 (by decide) (fun _ => ?_) (fun hc => absurd (by decide) hc)
  refine lv_iload hx hb dX7_feed_35 (lv_at hl 0 rfl) ?_
  refine lv_bipush (v := 8) hx hb dX7_feed_37 (by decide) ?_
  refine lv_icmp_ge (tgt := 46) hx hb dX7_feed_39 (by decide) (fun _ => ?_) (fun hc => absurd (by decide) hc)
  refine lv_iload hx hb dX7_feed_46 (lv_at hl 0 rfl) ?_
  refine lv_bipush (v := 12) hx hb dX7_feed_48 (by decide) ?_
  refine lv_icmp_ge (tgt := 57) hx hb dX7_feed_50 (by decide) (fun _ => ?_) (fun hc => absurd (by decide) hc)
  refine lv_iload hx hb dX7_feed_57 (lv_at hl 0 rfl) ?_
  refine lv_bipush (v := 16) hx hb dX7_feed_59 (by decide) ?_
  refine lv_icmp_ge (tgt := 69) hx hb dX7_feed_61 (by decide) (fun hc => absurd hc (by decide)) (fun _ => ?_)
  refine lv_iload hx hb dX7_feed_64 (lv_at hl 6 rfl) ?_
  refine lv_goto (tgt := 71) hx hb dX7_feed_66 (by decide) ?_
  refine lv_istore (lv' := [(7, .int p4), (6, .int 14), (0, .ref h0), (1, .int p1), (2, .int p2), (3, .int p3), (4, .int p4), (5, .int p5)]) hx hb dX7_feed_71 hl (by decide) rfl (fun ls hl => ?_)
  refine lv_aload_n hx hb dX7_feed_73 rfl (lv_at hl 2 rfl) ?_
  refine va_get (D := (dC, dI)) (ci := 6) (v := .ref a1) (C := RX7) (T := TX7) (N := 49) hx hb hts inX7_ hown hK hP 0 rfl rfl 0 (by decide) (hts (.fieldLink RX7 7 "GateWheelModel" "tape" "[B") (List.mem_of_getElem? (i := 2) rfl)) (fun _ h9 => h9) rfl dX7_feed_74 ?_
  refine lv_aload_n hx hb dX7_feed_77 rfl (lv_at hl 2 rfl) ?_
  refine va_get (D := (dC, dI)) (ci := 6) (v := .int 0) (C := RX7) (T := TX7) (N := 49) hx hb hts inX7_ hown hK hP 0 rfl rfl 2 (by decide) (hts (.fieldLink RX7 249 "GateWheelModel" "taped" "I") (List.mem_of_getElem? (i := 1) rfl)) (fun _ h9 => h9) rfl dX7_feed_78 ?_
  refine lv_iload hx hb dX7_feed_81 (lv_at hl 1 rfl) ?_
  refine lv_iadd hx hb dX7_feed_83 ?_
  refine lv_topi (fun z114 ez114 => ?_)
  obtain rfl : z114 = 14 := by rw [ez114]; decide
  refine lv_iload hx hb dX7_feed_84 (lv_at hl 0 rfl) ?_
  refine lv_bipush (v := 24) hx hb dX7_feed_86 (by decide) ?_
  refine lv_bipush (v := 8) hx hb dX7_feed_88 (by decide) ?_
  refine lv_iload hx hb dX7_feed_90 (lv_at hl 1 rfl) ?_
  refine lv_iconst (v := 3) hx hb dX7_feed_92 (by decide) ?_
  refine lv_iand hx hb dX7_feed_93 ?_
  refine lv_topi (fun z115 ez115 => ?_)
  obtain rfl : z115 = 2 := by rw [ez115]; decide
  refine lv_imul hx hb dX7_feed_94 ?_
  refine lv_topi (fun z116 ez116 => ?_)
  obtain rfl : z116 = 16 := by rw [ez116]; decide
  refine lv_isub hx hb dX7_feed_95 ?_
  refine lv_topi (fun z117 ez117 => ?_)
  obtain rfl : z117 = 8 := by rw [ez117]; decide
  refine lv_ishr hx hb dX7_feed_96 ?_
  refine lv_topi (fun z118 ez118 => ?_)
  refine lv_i2b hx hb dX7_feed_97 rfl ?_
  refine lv_topi (fun z119 ez119 => ?_)
  refine va_bast hx hb hK hP hD hS 1 0 rfl rfl (by unfold vp_in; decide) dX7_feed_98 (fun H120 locs hP hD hS => ?_)
  have hP : va_P (dC, dI) vwCl [(h0, .inr (6, [.ref a1, .ref h0_1, .int 0, .int h0_3, .int h0_4, .int h0_5, .int h0_6, .int h0_7, .int h0_8, .int h0_9, .long h0_10, .ref h0_11, .ref h0_12, .ref h0_13, .ref h0_14, .ref h0_15, .ref h0_16, .ref h0_17, .ref h0_18, .ref h0_19, .ref h0_20, .ref h0_21, .ref h0_22, .ref h0_23, .ref h0_24, .ref h0_25, .int h0_26, .int h0_27, .int h0_28, .int h0_29, .int h0_30, .int h0_31, .ref h0_32, .ref h0_33, .ref h0_34, .ref h0_35, .ref h0_36, .ref h0_37, .ref h0_38, .int h0_39, .ref h0_40, .ref h0_41, .ref h0_42, .ref h0_43, .ref h0_44, .ref h0_45, .int h0_46, .int h0_47, .int h0_48])), (a1, .inl (yb, 2020, .inl (upd f113 (14).toNatClampNeg (vp_nar .byte z119))))] H120 := hP
  have hD : va_D A [(h0, .inr (6, [.ref a1, .ref h0_1, .int 0, .int h0_3, .int h0_4, .int h0_5, .int h0_6, .int h0_7, .int h0_8, .int h0_9, .long h0_10, .ref h0_11, .ref h0_12, .ref h0_13, .ref h0_14, .ref h0_15, .ref h0_16, .ref h0_17, .ref h0_18, .ref h0_19, .ref h0_20, .ref h0_21, .ref h0_22, .ref h0_23, .ref h0_24, .ref h0_25, .int h0_26, .int h0_27, .int h0_28, .int h0_29, .int h0_30, .int h0_31, .ref h0_32, .ref h0_33, .ref h0_34, .ref h0_35, .ref h0_36, .ref h0_37, .ref h0_38, .int h0_39, .ref h0_40, .ref h0_41, .ref h0_42, .ref h0_43, .ref h0_44, .ref h0_45, .int h0_46, .int h0_47, .int h0_48])), (a1, .inl (yb, 2020, .inl (upd f113 (14).toNatClampNeg (vp_nar .byte z119))))] := hD
  generalize (upd f113 (14).toNatClampNeg (vp_nar .byte z119)) = f121 at hP hD
  refine lv_iinc (v := 15) (lv' := [(6, .int 15), (7, .int p4), (0, .ref h0), (1, .int p1), (2, .int p2), (3, .int p3), (4, .int p4), (5, .int p5)]) hx hb dX7_feed_99 hl (k := 1) rfl (by decide) (by decide) rfl (fun ls hl => ?_)
  refine lv_goto (tgt := 18) hx hb dX7_feed_102 (by decide) ?_
  refine lv_iload hx hb dX7_feed_18 (lv_at hl 0 rfl) ?_
  refine lv_bipush (v := 20) hx hb dX7_feed_20 (by decide) ?_
  refine lv_icmp_ge (tgt := 105) hx hb dX7_feed_22 (by decide) (fun hc => absurd hc (by decide)) (fun _ => ?_)
  refine lv_iload hx hb dX7_feed_25 (lv_at hl 0 rfl) ?_
  refine lv_iconst (v := 4) hx hb dX7_feed_27 (by decide) ?_
  refine lv_icmp_ge (tgt := 35) hx hb dX7_feed_28 (by decide) (fun _ => ?_) (fun hc => absurd (by decide) hc)
  refine lv_iload hx hb dX7_feed_35 (lv_at hl 0 rfl) ?_
  refine lv_bipush (v := 8) hx hb dX7_feed_37 (by decide) ?_
  refine lv_icmp_ge (tgt := 46) hx hb dX7_feed_39 (by decide) (fun _ => ?_) (fun hc => absurd (by decide) hc)
  refine lv_iload hx hb dX7_feed_46 (lv_at hl 0 rfl) ?_
  refine lv_bipush (v := 12) hx hb dX7_feed_48 (by decide) ?_
  refine lv_icmp_ge (tgt := 57) hx hb dX7_feed_50 (by decide) (fun _ => ?_) (fun hc => absurd (by decide) hc)
  refine lv_iload hx hb dX7_feed_57 (lv_at hl 0 rfl) ?_
  refine lv_bipush (v := 16) hx hb dX7_feed_59 (by decide) ?_
  refine lv_icmp_ge (tgt := 69) hx hb dX7_feed_61 (by decide) (fun hc => absurd hc (by decide)) (fun _ => ?_)
  refine lv_iload hx hb dX7_feed_64 (lv_at hl 6 rfl) ?_
  refine lv_goto (tgt := 71) hx hb dX7_feed_66 (by decide) ?_
  refine lv_istore (lv' := [(7, .int p4), (6, .int 15), (0, .ref h0), (1, .int p1), (2, .int p2), (3, .int p3), (4, .int p4), (5, .int p5)]) hx hb dX7_feed_71 hl (by decide) rfl (fun ls hl => ?_)
  refine lv_aload_n hx hb dX7_feed_73 rfl (lv_at hl 2 rfl) ?_
  refine va_get (D := (dC, dI)) (ci := 6) (v := .ref a1) (C := RX7) (T := TX7) (N := 49) hx hb hts inX7_ hown hK hP 0 rfl rfl 0 (by decide) (hts (.fieldLink RX7 7 "GateWheelModel" "tape" "[B") (List.mem_of_getElem? (i := 2) rfl)) (fun _ h9 => h9) rfl dX7_feed_74 ?_
  refine lv_aload_n hx hb dX7_feed_77 rfl (lv_at hl 2 rfl) ?_
  refine va_get (D := (dC, dI)) (ci := 6) (v := .int 0) (C := RX7) (T := TX7) (N := 49) hx hb hts inX7_ hown hK hP 0 rfl rfl 2 (by decide) (hts (.fieldLink RX7 249 "GateWheelModel" "taped" "I") (List.mem_of_getElem? (i := 1) rfl)) (fun _ h9 => h9) rfl dX7_feed_78 ?_
  refine lv_iload hx hb dX7_feed_81 (lv_at hl 1 rfl) ?_
  refine lv_iadd hx hb dX7_feed_83 ?_
  refine lv_topi (fun z122 ez122 => ?_)
  obtain rfl : z122 = 15 := by rw [ez122]; decide
  refine lv_iload hx hb dX7_feed_84 (lv_at hl 0 rfl) ?_
  refine lv_bipush (v := 24) hx hb dX7_feed_86 (by decide) ?_
  refine lv_bipush (v := 8) hx hb dX7_feed_88 (by decide) ?_
  refine lv_iload hx hb dX7_feed_90 (lv_at hl 1 rfl) ?_
  refine lv_iconst (v := 3) hx hb dX7_feed_92 (by decide) ?_
  refine lv_iand hx hb dX7_feed_93 ?_
  refine lv_topi (fun z123 ez123 => ?_)
  obtain rfl : z123 = 3 := by rw [ez123]; decide
  refine lv_imul hx hb dX7_feed_94 ?_
  refine lv_topi (fun z124 ez124 => ?_)
  obtain rfl : z124 = 24 := by rw [ez124]; decide
  refine lv_isub hx hb dX7_feed_95 ?_
  refine lv_topi (fun z125 ez125 => ?_)
  obtain rfl : z125 = 0 := by rw [ez125]; decide
  refine lv_ishr hx hb dX7_feed_96 ?_
  refine lv_topi (fun z126 ez126 => ?_)
  refine lv_i2b hx hb dX7_feed_97 rfl ?_
  refine lv_topi (fun z127 ez127 => ?_)
  refine va_bast hx hb hK hP hD hS 1 0 rfl rfl (by unfold vp_in; decide) dX7_feed_98 (fun H128 locs hP hD hS => ?_)
  have hP : va_P (dC, dI) vwCl [(h0, .inr (6, [.ref a1, .ref h0_1, .int 0, .int h0_3, .int h0_4, .int h0_5, .int h0_6, .int h0_7, .int h0_8, .int h0_9, .long h0_10, .ref h0_11, .ref h0_12, .ref h0_13, .ref h0_14, .ref h0_15, .ref h0_16, .ref h0_17, .ref h0_18, .ref h0_19, .ref h0_20, .ref h0_21, .ref h0_22, .ref h0_23, .ref h0_24, .ref h0_25, .int h0_26, .int h0_27, .int h0_28, .int h0_29, .int h0_30, .int h0_31, .ref h0_32, .ref h0_33, .ref h0_34, .ref h0_35, .ref h0_36, .ref h0_37, .ref h0_38, .int h0_39, .ref h0_40, .ref h0_41, .ref h0_42, .ref h0_43, .ref h0_44, .ref h0_45, .int h0_46, .int h0_47, .int h0_48])), (a1, .inl (yb, 2020, .inl (upd f121 (15).toNatClampNeg (vp_nar .byte z127))))] H128 := hP
  have hD : va_D A [(h0, .inr (6, [.ref a1, .ref h0_1, .int 0, .int h0_3, .int h0_4, .int h0_5, .int h0_6, .int h0_7, .int h0_8, .int h0_9, .long h0_10, .ref h0_11, .ref h0_12, .ref h0_13, .ref h0_14, .ref h0_15, .ref h0_16, .ref h0_17, .ref h0_18, .ref h0_19, .ref h0_20, .ref h0_21, .ref h0_22, .ref h0_23, .ref h0_24, .ref h0_25, .int h0_26, .int h0_27, .int h0_28, .int h0_29, .int h0_30, .int h0_31, .ref h0_32, .ref h0_33, .ref h0_34, .ref h0_35, .ref h0_36, .ref h0_37, .ref h0_38, .int h0_39, .ref h0_40, .ref h0_41, .ref h0_42, .ref h0_43, .ref h0_44, .ref h0_45, .int h0_46, .int h0_47, .int h0_48])), (a1, .inl (yb, 2020, .inl (upd f121 (15).toNatClampNeg (vp_nar .byte z127))))] := hD
  generalize (upd f121 (15).toNatClampNeg (vp_nar .byte z127)) = f129 at hP hD
  refine lv_iinc (v := 16) (lv' := [(6, .int 16), (7, .int p4), (0, .ref h0), (1, .int p1), (2, .int p2), (3, .int p3), (4, .int p4), (5, .int p5)]) hx hb dX7_feed_99 hl (k := 1) rfl (by decide) (by decide) rfl (fun ls hl => ?_)
  refine lv_goto (tgt := 18) hx hb dX7_feed_102 (by decide) ?_
  refine lv_iload hx hb dX7_feed_18 (lv_at hl 0 rfl) ?_
  refine lv_bipush (v := 20) hx hb dX7_feed_20 (by decide) ?_
  refine lv_icmp_ge (tgt := 105) hx hb dX7_feed_22 (by decide) (fun hc => absurd hc (by decide)) (fun _ => ?_)
  refine lv_iload hx hb dX7_feed_25 (lv_at hl 0 rfl) ?_
  refine lv_iconst (v := 4) hx hb dX7_feed_27 (by decide) ?_
  refine lv_icmp_ge (tgt := 35) hx hb dX7_feed_28 (by decide) (fun _ => ?_) (fun hc => absurd (by decide) hc)
  refine lv_iload hx hb dX7_feed_35 (lv_at hl 0 rfl) ?_
  refine lv_bipush (v := 8) hx hb dX7_feed_37 (by decide) ?_
  refine lv_icmp_ge (tgt := 46) hx hb dX7_feed_39 (by decide) (fun _ => ?_) (fun hc => absurd (by decide) hc)
  refine lv_iload hx hb dX7_feed_46 (lv_at hl 0 rfl) ?_
  refine lv_bipush (v := 12) hx hb dX7_feed_48 (by decide) ?_
  refine lv_icmp_ge (tgt := 57) hx hb dX7_feed_50 (by decide) (fun _ => ?_) (fun hc => absurd (by decide) hc)
  refine lv_iload hx hb dX7_feed_57 (lv_at hl 0 rfl) ?_
  refine lv_bipush (v := 16) hx hb dX7_feed_59 (by decide) ?_
  refine lv_icmp_ge (tgt := 69) hx hb dX7_feed_61 (by decide) (fun _ => ?_) (fun hc => absurd (by decide) hc)
  refine lv_iload hx hb dX7_feed_69 (lv_at hl 7 rfl) ?_
  refine lv_istore (lv' := [(7, .int p5), (6, .int 16), (0, .ref h0), (1, .int p1), (2, .int p2), (3, .int p3), (4, .int p4), (5, .int p5)]) hx hb dX7_feed_71 hl (by decide) rfl (fun ls hl => ?_)
  refine lv_aload_n hx hb dX7_feed_73 rfl (lv_at hl 2 rfl) ?_
  refine va_get (D := (dC, dI)) (ci := 6) (v := .ref a1) (C := RX7) (T := TX7) (N := 49) hx hb hts inX7_ hown hK hP 0 rfl rfl 0 (by decide) (hts (.fieldLink RX7 7 "GateWheelModel" "tape" "[B") (List.mem_of_getElem? (i := 2) rfl)) (fun _ h9 => h9) rfl dX7_feed_74 ?_
  refine lv_aload_n hx hb dX7_feed_77 rfl (lv_at hl 2 rfl) ?_
  refine va_get (D := (dC, dI)) (ci := 6) (v := .int 0) (C := RX7) (T := TX7) (N := 49) hx hb hts inX7_ hown hK hP 0 rfl rfl 2 (by decide) (hts (.fieldLink RX7 249 "GateWheelModel" "taped" "I") (List.mem_of_getElem? (i := 1) rfl)) (fun _ h9 => h9) rfl dX7_feed_78 ?_
  refine lv_iload hx hb dX7_feed_81 (lv_at hl 1 rfl) ?_
  refine lv_iadd hx hb dX7_feed_83 ?_
  refine lv_topi (fun z130 ez130 => ?_)
  obtain rfl : z130 = 16 := by rw [ez130]; decide
  refine lv_iload hx hb dX7_feed_84 (lv_at hl 0 rfl) ?_
  refine lv_bipush (v := 24) hx hb dX7_feed_86 (by decide) ?_
  refine lv_bipush (v := 8) hx hb dX7_feed_88 (by decide) ?_
  refine lv_iload hx hb dX7_feed_90 (lv_at hl 1 rfl) ?_
  refine lv_iconst (v := 3) hx hb dX7_feed_92 (by decide) ?_
  refine lv_iand hx hb dX7_feed_93 ?_
  refine lv_topi (fun z131 ez131 => ?_)
  obtain rfl : z131 = 0 := by rw [ez131]; decide
  refine lv_imul hx hb dX7_feed_94 ?_
  refine lv_topi (fun z132 ez132 => ?_)
  obtain rfl : z132 = 0 := by rw [ez132]; decide
  refine lv_isub hx hb dX7_feed_95 ?_
  refine lv_topi (fun z133 ez133 => ?_)
  obtain rfl : z133 = 24 := by rw [ez133]; decide
  refine lv_ishr hx hb dX7_feed_96 ?_
  refine lv_topi (fun z134 ez134 => ?_)
  refine lv_i2b hx hb dX7_feed_97 rfl ?_
  refine lv_topi (fun z135 ez135 => ?_)
  refine va_bast hx hb hK hP hD hS 1 0 rfl rfl (by unfold vp_in; decide) dX7_feed_98 (fun H136 locs hP hD hS => ?_)
  have hP : va_P (dC, dI) vwCl [(h0, .inr (6, [.ref a1, .ref h0_1, .int 0, .int h0_3, .int h0_4, .int h0_5, .int h0_6, .int h0_7, .int h0_8, .int h0_9, .long h0_10, .ref h0_11, .ref h0_12, .ref h0_13, .ref h0_14, .ref h0_15, .ref h0_16, .ref h0_17, .ref h0_18, .ref h0_19, .ref h0_20, .ref h0_21, .ref h0_22, .ref h0_23, .ref h0_24, .ref h0_25, .int h0_26, .int h0_27, .int h0_28, .int h0_29, .int h0_30, .int h0_31, .ref h0_32, .ref h0_33, .ref h0_34, .ref h0_35, .ref h0_36, .ref h0_37, .ref h0_38, .int h0_39, .ref h0_40, .ref h0_41, .ref h0_42, .ref h0_43, .ref h0_44, .ref h0_45, .int h0_46, .int h0_47, .int h0_48])), (a1, .inl (yb, 2020, .inl (upd f129 (16).toNatClampNeg (vp_nar .byte z135))))] H136 := hP
  have hD : va_D A [(h0, .inr (6, [.ref a1, .ref h0_1, .int 0, .int h0_3, .int h0_4, .int h0_5, .int h0_6, .int h0_7, .int h0_8, .int h0_9, .long h0_10, .ref h0_11, .ref h0_12, .ref h0_13, .ref h0_14, .ref h0_15, .ref h0_16, .ref h0_17, .ref h0_18, .ref h0_19, .ref h0_20, .ref h0_21, .ref h0_22, .ref h0_23, .ref h0_24, .ref h0_25, .int h0_26, .int h0_27, .int h0_28, .int h0_29, .int h0_30, .int h0_31, .ref h0_32, .ref h0_33, .ref h0_34, .ref h0_35, .ref h0_36, .ref h0_37, .ref h0_38, .int h0_39, .ref h0_40, .ref h0_41, .ref h0_42, .ref h0_43, .ref h0_44, .ref h0_45, .int h0_46, .int h0_47, .int h0_48])), (a1, .inl (yb, 2020, .inl (upd f129 (16).toNatClampNeg (vp_nar .byte z135))))] := hD
  generalize (upd f129 (16).toNatClampNeg (vp_nar .byte z135)) = f137 at hP hD
  refine lv_iinc (v := 17) (lv' := [(6, .int 17), (7, .int p5), (0, .ref h0), (1, .int p1), (2, .int p2), (3, .int p3), (4, .int p4), (5, .int p5)]) hx hb dX7_feed_99 hl (k := 1) rfl (by decide) (by decide) rfl (fun ls hl => ?_)
  refine lv_goto (tgt := 18) hx hb dX7_feed_102 (by decide) ?_
  refine lv_iload hx hb dX7_feed_18 (lv_at hl 0 rfl) ?_
  refine lv_bipush (v := 20) hx hb dX7_feed_20 (by decide) ?_
  refine lv_icmp_ge (tgt := 105) hx hb dX7_feed_22 (by decide) (fun hc => absurd hc (by decide)) (fun _ => ?_)
  refine lv_iload hx hb dX7_feed_25 (lv_at hl 0 rfl) ?_
  refine lv_iconst (v := 4) hx hb dX7_feed_27 (by decide) ?_
  refine lv_icmp_ge (tgt := 35) hx hb dX7_feed_28 (by decide) (fun _ => ?_) (fun hc => absurd (by decide) hc)
  refine lv_iload hx hb dX7_feed_35 (lv_at hl 0 rfl) ?_
  refine lv_bipush (v := 8) hx hb dX7_feed_37 (by decide) ?_
  refine lv_icmp_ge (tgt := 46) hx hb dX7_feed_39 (by decide) (fun _ => ?_) (fun hc => absurd (by decide) hc)
  refine lv_iload hx hb dX7_feed_46 (lv_at hl 0 rfl) ?_
  refine lv_bipush (v := 12) hx hb dX7_feed_48 (by decide) ?_
  refine lv_icmp_ge (tgt := 57) hx hb dX7_feed_50 (by decide) (fun _ => ?_) (fun hc => absurd (by decide) hc)
  refine lv_iload hx hb dX7_feed_57 (lv_at hl 0 rfl) ?_
  refine lv_bipush (v := 16) hx hb dX7_feed_59 (by decide) ?_
  refine lv_icmp_ge (tgt := 69) hx hb dX7_feed_61 (by decide) (fun _ => ?_) (fun hc => absurd (by decide) hc)
  refine lv_iload hx hb dX7_feed_69 (lv_at hl 7 rfl) ?_
  refine lv_istore (lv' := [(7, .int p5), (6, .int 17), (0, .ref h0), (1, .int p1), (2, .int p2), (3, .int p3), (4, .int p4), (5, .int p5)]) hx hb dX7_feed_71 hl (by decide) rfl (fun ls hl => ?_)
  refine lv_aload_n hx hb dX7_feed_73 rfl (lv_at hl 2 rfl) ?_
  refine va_get (D := (dC, dI)) (ci := 6) (v := .ref a1) (C := RX7) (T := TX7) (N := 49) hx hb hts inX7_ hown hK hP 0 rfl rfl 0 (by decide) (hts (.fieldLink RX7 7 "GateWheelModel" "tape" "[B") (List.mem_of_getElem? (i := 2) rfl)) (fun _ h9 => h9) rfl dX7_feed_74 ?_
  refine lv_aload_n hx hb dX7_feed_77 rfl (lv_at hl 2 rfl) ?_
  refine va_get (D := (dC, dI)) (ci := 6) (v := .int 0) (C := RX7) (T := TX7) (N := 49) hx hb hts inX7_ hown hK hP 0 rfl rfl 2 (by decide) (hts (.fieldLink RX7 249 "GateWheelModel" "taped" "I") (List.mem_of_getElem? (i := 1) rfl)) (fun _ h9 => h9) rfl dX7_feed_78 ?_
  refine lv_iload hx hb dX7_feed_81 (lv_at hl 1 rfl) ?_
  refine lv_iadd hx hb dX7_feed_83 ?_
  refine lv_topi (fun z138 ez138 => ?_)
  obtain rfl : z138 = 17 := by rw [ez138]; decide
  refine lv_iload hx hb dX7_feed_84 (lv_at hl 0 rfl) ?_
  refine lv_bipush (v := 24) hx hb dX7_feed_86 (by decide) ?_
  refine lv_bipush (v := 8) hx hb dX7_feed_88 (by decide) ?_
  refine lv_iload hx hb dX7_feed_90 (lv_at hl 1 rfl) ?_
  refine lv_iconst (v := 3) hx hb dX7_feed_92 (by decide) ?_
  refine lv_iand hx hb dX7_feed_93 ?_
  refine lv_topi (fun z139 ez139 => ?_)
  obtain rfl : z139 = 1 := by rw [ez139]; decide
  refine lv_imul hx hb dX7_feed_94 ?_
  refine lv_topi (fun z140 ez140 => ?_)
  obtain rfl : z140 = 8 := by rw [ez140]; decide
  refine lv_isub hx hb dX7_feed_95 ?_
  refine lv_topi (fun z141 ez141 => ?_)
  obtain rfl : z141 = 16 := by rw [ez141]; decide
  refine lv_ishr hx hb dX7_feed_96 ?_
  refine lv_topi (fun z142 ez142 => ?_)
  refine lv_i2b hx hb dX7_feed_97 rfl ?_
  refine lv_topi (fun z143 ez143 => ?_)
  refine va_bast hx hb hK hP hD hS 1 0 rfl rfl (by unfold vp_in; decide) dX7_feed_98 (fun H144 locs hP hD hS => ?_)
  have hP : va_P (dC, dI) vwCl [(h0, .inr (6, [.ref a1, .ref h0_1, .int 0, .int h0_3, .int h0_4, .int h0_5, .int h0_6, .int h0_7, .int h0_8, .int h0_9, .long h0_10, .ref h0_11, .ref h0_12, .ref h0_13, .ref h0_14, .ref h0_15, .ref h0_16, .ref h0_17, .ref h0_18, .ref h0_19, .ref h0_20, .ref h0_21, .ref h0_22, .ref h0_23, .ref h0_24, .ref h0_25, .int h0_26, .int h0_27, .int h0_28, .int h0_29, .int h0_30, .int h0_31, .ref h0_32, .ref h0_33, .ref h0_34, .ref h0_35, .ref h0_36, .ref h0_37, .ref h0_38, .int h0_39, .ref h0_40, .ref h0_41, .ref h0_42, .ref h0_43, .ref h0_44, .ref h0_45, .int h0_46, .int h0_47, .int h0_48])), (a1, .inl (yb, 2020, .inl (upd f137 (17).toNatClampNeg (vp_nar .byte z143))))] H144 := hP
  have hD : va_D A [(h0, .inr (6, [.ref a1, .ref h0_1, .int 0, .int h0_3, .int h0_4, .int h0_5, .int h0_6, .int h0_7, .int h0_8, .int h0_9, .long h0_10, .ref h0_11, .ref h0_12, .ref h0_13, .ref h0_14, .ref h0_15, .ref h0_16, .ref h0_17, .ref h0_18, .ref h0_19, .ref h0_20, .ref h0_21, .ref h0_22, .ref h0_23, .ref h0_24, .ref h0_25, .int h0_26, .int h0_27, .int h0_28, .int h0_29, .int h0_30, .int h0_31, .ref h0_32, .ref h0_33, .ref h0_34, .ref h0_35, .ref h0_36, .ref h0_37, .ref h0_38, .int h0_39, .ref h0_40, .ref h0_41, .ref h0_42, .ref h0_43, .ref h0_44, .ref h0_45, .int h0_46, .int h0_47, .int h0_48])), (a1, .inl (yb, 2020, .inl (upd f137 (17).toNatClampNeg (vp_nar .byte z143))))] := hD
  generalize (upd f137 (17).toNatClampNeg (vp_nar .byte z143)) = f145 at hP hD
  refine lv_iinc (v := 18) (lv' := [(6, .int 18), (7, .int p5), (0, .ref h0), (1, .int p1), (2, .int p2), (3, .int p3), (4, .int p4), (5, .int p5)]) hx hb dX7_feed_99 hl (k := 1) rfl (by decide) (by decide) rfl (fun ls hl => ?_)
  refine lv_goto (tgt := 18) hx hb dX7_feed_102 (by decide) ?_
  refine lv_iload hx hb dX7_feed_18 (lv_at hl 0 rfl) ?_
  refine lv_bipush (v := 20) hx hb dX7_feed_20 (by decide) ?_
  refine lv_icmp_ge (tgt := 105) hx hb dX7_feed_22 (by decide) (fun hc => absurd hc (by decide)) (fun _ => ?_)
  refine lv_iload hx hb dX7_feed_25 (lv_at hl 0 rfl) ?_
  refine lv_iconst (v := 4) hx hb dX7_feed_27 (by decide) ?_
  refine lv_icmp_ge (tgt := 35) hx hb dX7_feed_28 (by decide) (fun _ => ?_) (fun hc => absurd (by decide) hc)
  refine lv_iload hx hb dX7_feed_35 (lv_at hl 0 rfl) ?_
  refine lv_bipush (v := 8) hx hb dX7_feed_37 (by decide) ?_
  refine lv_icmp_ge (tgt := 46) hx hb dX7_feed_39 (by decide) (fun _ => ?_) (fun hc => absurd (by decide) hc)
  refine lv_iload hx hb dX7_feed_46 (lv_at hl 0 rfl) ?_
  refine lv_bipush (v := 12) hx hb dX7_feed_48 (by decide) ?_
  refine lv_icmp_ge (tgt := 57) hx hb dX7_feed_50 (by decide) (fun _ => ?_) (fun hc => absurd (by decide) hc)
  refine lv_iload hx hb dX7_feed_57 (lv_at hl 0 rfl) ?_
  refine lv_bipush (v := 16) hx hb dX7_feed_59 (by decide) ?_
  refine lv_icmp_ge (tgt := 69) hx hb dX7_feed_61 (by decide) (fun _ => ?_) (fun hc => absurd (by decide) hc)
  refine lv_iload hx hb dX7_feed_69 (lv_at hl 7 rfl) ?_
  refine lv_istore (lv' := [(7, .int p5), (6, .int 18), (0, .ref h0), (1, .int p1), (2, .int p2), (3, .int p3), (4, .int p4), (5, .int p5)]) hx hb dX7_feed_71 hl (by decide) rfl (fun ls hl => ?_)
  refine lv_aload_n hx hb dX7_feed_73 rfl (lv_at hl 2 rfl) ?_
  refine va_get (D := (dC, dI)) (ci := 6) (v := .ref a1) (C := RX7) (T := TX7) (N := 49) hx hb hts inX7_ hown hK hP 0 rfl rfl 0 (by decide) (hts (.fieldLink RX7 7 "GateWheelModel" "tape" "[B") (List.mem_of_getElem? (i := 2) rfl)) (fun _ h9 => h9) rfl dX7_feed_74 ?_
  refine lv_aload_n hx hb dX7_feed_77 rfl (lv_at hl 2 rfl) ?_
  refine va_get (D := (dC, dI)) (ci := 6) (v := .int 0) (C := RX7) (T := TX7) (N := 49) hx hb hts inX7_ hown hK hP 0 rfl rfl 2 (by decide) (hts (.fieldLink RX7 249 "GateWheelModel" "taped" "I") (List.mem_of_getElem? (i := 1) rfl)) (fun _ h9 => h9) rfl dX7_feed_78 ?_
  refine lv_iload hx hb dX7_feed_81 (lv_at hl 1 rfl) ?_
  refine lv_iadd hx hb dX7_feed_83 ?_
  refine lv_topi (fun z146 ez146 => ?_)
  obtain rfl : z146 = 18 := by rw [ez146]; decide
  refine lv_iload hx hb dX7_feed_84 (lv_at hl 0 rfl) ?_
  refine lv_bipush (v := 24) hx hb dX7_feed_86 (by decide) ?_
  refine lv_bipush (v := 8) hx hb dX7_feed_88 (by decide) ?_
  refine lv_iload hx hb dX7_feed_90 (lv_at hl 1 rfl) ?_
  refine lv_iconst (v := 3) hx hb dX7_feed_92 (by decide) ?_
  refine lv_iand hx hb dX7_feed_93 ?_
  refine lv_topi (fun z147 ez147 => ?_)
  obtain rfl : z147 = 2 := by rw [ez147]; decide
  refine lv_imul hx hb dX7_feed_94 ?_
  refine lv_topi (fun z148 ez148 => ?_)
  obtain rfl : z148 = 16 := by rw [ez148]; decide
  refine lv_isub hx hb dX7_feed_95 ?_
  refine lv_topi (fun z149 ez149 => ?_)
  obtain rfl : z149 = 8 := by rw [ez149]; decide
  refine lv_ishr hx hb dX7_feed_96 ?_
  refine lv_topi (fun z150 ez150 => ?_)
  refine lv_i2b hx hb dX7_feed_97 rfl ?_
  refine lv_topi (fun z151 ez151 => ?_)
  refine va_bast hx hb hK hP hD hS 1 0 rfl rfl (by unfold vp_in; decide) dX7_feed_98 (fun H152 locs hP hD hS => ?_)
  have hP : va_P (dC, dI) vwCl [(h0, .inr (6, [.ref a1, .ref h0_1, .int 0, .int h0_3, .int h0_4, .int h0_5, .int h0_6, .int h0_7, .int h0_8, .int h0_9, .long h0_10, .ref h0_11, .ref h0_12, .ref h0_13, .ref h0_14, .ref h0_15, .ref h0_16, .ref h0_17, .ref h0_18, .ref h0_19, .ref h0_20, .ref h0_21, .ref h0_22, .ref h0_23, .ref h0_24, .ref h0_25, .int h0_26, .int h0_27, .int h0_28, .int h0_29, .int h0_30, .int h0_31, .ref h0_32, .ref h0_33, .ref h0_34, .ref h0_35, .ref h0_36, .ref h0_37, .ref h0_38, .int h0_39, .ref h0_40, .ref h0_41, .ref h0_42, .ref h0_43, .ref h0_44, .ref h0_45, .int h0_46, .int h0_47, .int h0_48])), (a1, .inl (yb, 2020, .inl (upd f145 (18).toNatClampNeg (vp_nar .byte z151))))] H152 := hP
  have hD : va_D A [(h0, .inr (6, [.ref a1, .ref h0_1, .int 0, .int h0_3, .int h0_4, .int h0_5, .int h0_6, .int h0_7, .int h0_8, .int h0_9, .long h0_10, .ref h0_11, .ref h0_12, .ref h0_13, .ref h0_14, .ref h0_15, .ref h0_16, .ref h0_17, .ref h0_18, .ref h0_19, .ref h0_20, .ref h0_21, .ref h0_22, .ref h0_23, .ref h0_24, .ref h0_25, .int h0_26, .int h0_27, .int h0_28, .int h0_29, .int h0_30, .int h0_31, .ref h0_32, .ref h0_33, .ref h0_34, .ref h0_35, .ref h0_36, .ref h0_37, .ref h0_38, .int h0_39, .ref h0_40, .ref h0_41, .ref h0_42, .ref h0_43, .ref h0_44, .ref h0_45, .int h0_46, .int h0_47, .int h0_48])), (a1, .inl (yb, 2020, .inl (upd f145 (18).toNatClampNeg (vp_nar .byte z151))))] := hD
  generalize (upd f145 (18).toNatClampNeg (vp_nar .byte z151)) = f153 at hP hD
  refine lv_iinc (v := 19) (lv' := [(6, .int 19), (7, .int p5), (0, .ref h0), (1, .int p1), (2, .int p2), (3, .int p3), (4, .int p4), (5, .int p5)]) hx hb dX7_feed_99 hl (k := 1) rfl (by decide) (by decide) rfl (fun ls hl => ?_)
  refine lv_goto (tgt := 18) hx hb dX7_feed_102 (by decide) ?_
  refine lv_iload hx hb dX7_feed_18 (lv_at hl 0 rfl) ?_
  refine lv_bipush (v := 20) hx hb dX7_feed_20 (by decide) ?_
  refine lv_icmp_ge (tgt := 105) hx hb dX7_feed_22 (by decide) (fun hc => absurd hc (by decide)) (fun _ => ?_)
  refine lv_iload hx hb dX7_feed_25 (lv_at hl 0 rfl) ?_
  refine lv_iconst (v := 4) hx hb dX7_feed_27 (by decide) ?_
  refine lv_icmp_ge (tgt := 35) hx hb dX7_feed_28 (by decide) (fun _ => ?_) (fun hc => absurd (by decide) hc)
  refine lv_iload hx hb dX7_feed_35 (lv_at hl 0 rfl) ?_
  refine lv_bipush (v := 8) hx hb dX7_feed_37 (by decide) ?_
  refine lv_icmp_ge (tgt := 46) hx hb dX7_feed_39 (by decide) (fun _ => ?_) (fun hc => absurd (by decide) hc)
  refine lv_iload hx hb dX7_feed_46 (lv_at hl 0 rfl) ?_
  refine lv_bipush (v := 12) hx hb dX7_feed_48 (by decide) ?_
  refine lv_icmp_ge (tgt := 57) hx hb dX7_feed_50 (by decide) (fun _ => ?_) (fun hc => absurd (by decide) hc)
  refine lv_iload hx hb dX7_feed_57 (lv_at hl 0 rfl) ?_
  refine lv_bipush (v := 16) hx hb dX7_feed_59 (by decide) ?_
  refine lv_icmp_ge (tgt := 69) hx hb dX7_feed_61 (by decide) (fun _ => ?_) (fun hc => absurd (by decide) hc)
  refine lv_iload hx hb dX7_feed_69 (lv_at hl 7 rfl) ?_
  refine lv_istore (lv' := [(7, .int p5), (6, .int 19), (0, .ref h0), (1, .int p1), (2, .int p2), (3, .int p3), (4, .int p4), (5, .int p5)]) hx hb dX7_feed_71 hl (by decide) rfl (fun ls hl => ?_)
  refine lv_aload_n hx hb dX7_feed_73 rfl (lv_at hl 2 rfl) ?_
  refine va_get (D := (dC, dI)) (ci := 6) (v := .ref a1) (C := RX7) (T := TX7) (N := 49) hx hb hts inX7_ hown hK hP 0 rfl rfl 0 (by decide) (hts (.fieldLink RX7 7 "GateWheelModel" "tape" "[B") (List.mem_of_getElem? (i := 2) rfl)) (fun _ h9 => h9) rfl dX7_feed_74 ?_
  refine lv_aload_n hx hb dX7_feed_77 rfl (lv_at hl 2 rfl) ?_
  refine va_get (D := (dC, dI)) (ci := 6) (v := .int 0) (C := RX7) (T := TX7) (N := 49) hx hb hts inX7_ hown hK hP 0 rfl rfl 2 (by decide) (hts (.fieldLink RX7 249 "GateWheelModel" "taped" "I") (List.mem_of_getElem? (i := 1) rfl)) (fun _ h9 => h9) rfl dX7_feed_78 ?_
  refine lv_iload hx hb dX7_feed_81 (lv_at hl 1 rfl) ?_
  refine lv_iadd hx hb dX7_feed_83 ?_
  refine lv_topi (fun z154 ez154 => ?_)
  obtain rfl : z154 = 19 := by rw [ez154]; decide
  refine lv_iload hx hb dX7_feed_84 (lv_at hl 0 rfl) ?_
  refine lv_bipush (v := 24) hx hb dX7_feed_86 (by decide) ?_
  refine lv_bipush (v := 8) hx hb dX7_feed_88 (by decide) ?_
  refine lv_iload hx hb dX7_feed_90 (lv_at hl 1 rfl) ?_
  refine lv_iconst (v := 3) hx hb dX7_feed_92 (by decide) ?_
  refine lv_iand hx hb dX7_feed_93 ?_
  refine lv_topi (fun z155 ez155 => ?_)
  obtain rfl : z155 = 3 := by rw [ez155]; decide
  refine lv_imul hx hb dX7_feed_94 ?_
  refine lv_topi (fun z156 ez156 => ?_)
  obtain rfl : z156 = 24 := by rw [ez156]; decide
  refine lv_isub hx hb dX7_feed_95 ?_
  refine lv_topi (fun z157 ez157 => ?_)
  obtain rfl : z157 = 0 := by rw [ez157]; decide
  refine lv_ishr hx hb dX7_feed_96 ?_
  refine lv_topi (fun z158 ez158 => ?_)
  refine lv_i2b hx hb dX7_feed_97 rfl ?_
  refine lv_topi (fun z159 ez159 => ?_)
  refine va_bast hx hb hK hP hD hS 1 0 rfl rfl (by unfold vp_in; decide) dX7_feed_98 (fun H160 locs hP hD hS => ?_)
  have hP : va_P (dC, dI) vwCl [(h0, .inr (6, [.ref a1, .ref h0_1, .int 0, .int h0_3, .int h0_4, .int h0_5, .int h0_6, .int h0_7, .int h0_8, .int h0_9, .long h0_10, .ref h0_11, .ref h0_12, .ref h0_13, .ref h0_14, .ref h0_15, .ref h0_16, .ref h0_17, .ref h0_18, .ref h0_19, .ref h0_20, .ref h0_21, .ref h0_22, .ref h0_23, .ref h0_24, .ref h0_25, .int h0_26, .int h0_27, .int h0_28, .int h0_29, .int h0_30, .int h0_31, .ref h0_32, .ref h0_33, .ref h0_34, .ref h0_35, .ref h0_36, .ref h0_37, .ref h0_38, .int h0_39, .ref h0_40, .ref h0_41, .ref h0_42, .ref h0_43, .ref h0_44, .ref h0_45, .int h0_46, .int h0_47, .int h0_48])), (a1, .inl (yb, 2020, .inl (upd f153 (19).toNatClampNeg (vp_nar .byte z159))))] H160 := hP
  have hD : va_D A [(h0, .inr (6, [.ref a1, .ref h0_1, .int 0, .int h0_3, .int h0_4, .int h0_5, .int h0_6, .int h0_7, .int h0_8, .int h0_9, .long h0_10, .ref h0_11, .ref h0_12, .ref h0_13, .ref h0_14, .ref h0_15, .ref h0_16, .ref h0_17, .ref h0_18, .ref h0_19, .ref h0_20, .ref h0_21, .ref h0_22, .ref h0_23, .ref h0_24, .ref h0_25, .int h0_26, .int h0_27, .int h0_28, .int h0_29, .int h0_30, .int h0_31, .ref h0_32, .ref h0_33, .ref h0_34, .ref h0_35, .ref h0_36, .ref h0_37, .ref h0_38, .int h0_39, .ref h0_40, .ref h0_41, .ref h0_42, .ref h0_43, .ref h0_44, .ref h0_45, .int h0_46, .int h0_47, .int h0_48])), (a1, .inl (yb, 2020, .inl (upd f153 (19).toNatClampNeg (vp_nar .byte z159))))] := hD
  generalize (upd f153 (19).toNatClampNeg (vp_nar .byte z159)) = f161 at hP hD
  refine lv_iinc (v := 20) (lv' := [(6, .int 20), (7, .int p5), (0, .ref h0), (1, .int p1), (2, .int p2), (3, .int p3), (4, .int p4), (5, .int p5)]) hx hb dX7_feed_99 hl (k := 1) rfl (by decide) (by decide) rfl (fun ls hl => ?_)
  refine lv_goto (tgt := 18) hx hb dX7_feed_102 (by decide) ?_
  refine lv_iload hx hb dX7_feed_18 (lv_at hl 0 rfl) ?_
  refine lv_bipush (v := 20) hx hb dX7_feed_20 (by decide) ?_
  refine lv_icmp_ge (tgt := 105) hx hb dX7_feed_22 (by decide) (fun _ => ?_) (fun hc => absurd (by decide) hc)
  refine lv_aload_n hx hb dX7_feed_105 rfl (lv_at hl 2 rfl) ?_
  refine lv_dup hx hb dX7_feed_106 rfl ?_
  refine va_get (D := (dC, dI)) (ci := 6) (v := .int 0) (C := RX7) (T := TX7) (N := 49) hx hb hts inX7_ hown hK hP 0 rfl rfl 2 (by decide) (hts (.fieldLink RX7 249 "GateWheelModel" "taped" "I") (List.mem_of_getElem? (i := 1) rfl)) (fun _ h9 => h9) rfl dX7_feed_107 ?_
  refine lv_bipush (v := 20) hx hb dX7_feed_110 (by decide) ?_
  refine lv_iadd hx hb dX7_feed_112 ?_
  refine lv_topi (fun z162 ez162 => ?_)
  obtain rfl : z162 = 20 := by rw [ez162]; decide
  refine va_put (D := (dC, dI)) (ci := 6) (v := .int 20) (ty := .int) (C := RX7) (T := TX7) (N := 49) hx hb hts inX7_ tyX7 tyX7_ok nmX7 hown hK hP hD hS 0 rfl rfl 2 (by decide) (hts (.fieldLink RX7 249 "GateWheelModel" "taped" "I") (List.mem_of_getElem? (i := 1) rfl)) (fun _ h9 => h9) rfl (by decide +kernel) rfl rfl (Nat.le_of_ble_eq_true rfl) dX7_feed_113 (fun H163 locs hP hD hS => ?_)
  have hP : va_P (dC, dI) vwCl [(h0, .inr (6, [.ref a1, .ref h0_1, .int 20, .int h0_3, .int h0_4, .int h0_5, .int h0_6, .int h0_7, .int h0_8, .int h0_9, .long h0_10, .ref h0_11, .ref h0_12, .ref h0_13, .ref h0_14, .ref h0_15, .ref h0_16, .ref h0_17, .ref h0_18, .ref h0_19, .ref h0_20, .ref h0_21, .ref h0_22, .ref h0_23, .ref h0_24, .ref h0_25, .int h0_26, .int h0_27, .int h0_28, .int h0_29, .int h0_30, .int h0_31, .ref h0_32, .ref h0_33, .ref h0_34, .ref h0_35, .ref h0_36, .ref h0_37, .ref h0_38, .int h0_39, .ref h0_40, .ref h0_41, .ref h0_42, .ref h0_43, .ref h0_44, .ref h0_45, .int h0_46, .int h0_47, .int h0_48])), (a1, .inl (yb, 2020, .inl f161))] H163 := hP
  have hD : va_D A [(h0, .inr (6, [.ref a1, .ref h0_1, .int 20, .int h0_3, .int h0_4, .int h0_5, .int h0_6, .int h0_7, .int h0_8, .int h0_9, .long h0_10, .ref h0_11, .ref h0_12, .ref h0_13, .ref h0_14, .ref h0_15, .ref h0_16, .ref h0_17, .ref h0_18, .ref h0_19, .ref h0_20, .ref h0_21, .ref h0_22, .ref h0_23, .ref h0_24, .ref h0_25, .int h0_26, .int h0_27, .int h0_28, .int h0_29, .int h0_30, .int h0_31, .ref h0_32, .ref h0_33, .ref h0_34, .ref h0_35, .ref h0_36, .ref h0_37, .ref h0_38, .int h0_39, .ref h0_40, .ref h0_41, .ref h0_42, .ref h0_43, .ref h0_44, .ref h0_45, .int h0_46, .int h0_47, .int h0_48])), (a1, .inl (yb, 2020, .inl f161))] := hD
  refine lv_aload_n hx hb dX7_feed_116 rfl (lv_at hl 2 rfl) ?_
  refine va_get (D := (dC, dI)) (ci := 6) (v := .int 20) (C := RX7) (T := TX7) (N := 49) hx hb hts inX7_ hown hK hP 0 rfl rfl 2 (by decide) (hts (.fieldLink RX7 249 "GateWheelModel" "taped" "I") (List.mem_of_getElem? (i := 1) rfl)) (fun _ h9 => h9) rfl dX7_feed_117 ?_
  exact W.iret (v := 20) hx hb hr (fun t ht hW => ⟨⟨20, (), rfl, rfl, trivial⟩, hS.F ht⟩) hS.2.2 dX7_feed_120
