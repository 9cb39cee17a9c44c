set_option maxHeartbeats 4000000 in
set_option maxRecDepth 100000 in
theorem c_X7_feed (l : Launch) (dC : Nat → ClassId) (dI : Nat → Nat → Nat) (h0 : Nat) (a1 : Nat) (h0_1 : Nat) (h0_3 : Int32) (h0_4 : Int32) (h0_5 : Int32) (h0_6 : Int32) (h0_7 : Int32) (h0_8 : Int32) (h0_9 : Int32) (h0_10 : Int64) (h0_11 : Nat) (h0_12 : Nat) (h0_13 : Nat) (h0_14 : Nat) (h0_15 : Nat) (h0_16 : Nat) (h0_17 : Nat) (h0_18 : Nat) (h0_19 : Nat) (h0_20 : Nat) (h0_21 : Nat) (h0_22 : Nat) (h0_23 : Nat) (h0_24 : Nat) (h0_25 : Nat) (h0_26 : Int32) (h0_27 : Int32) (h0_28 : Int32) (h0_29 : Int32) (h0_30 : Int32) (h0_31 : Int32) (h0_32 : Nat) (h0_33 : Nat) (h0_34 : Nat) (h0_35 : Nat) (h0_36 : Nat) (h0_37 : Nat) (h0_38 : Nat) (h0_39 : Int32) (h0_40 : Nat) (h0_41 : Nat) (h0_42 : Nat) (h0_43 : Nat) (h0_44 : Nat) (h0_45 : Nat) (h0_46 : Int32) (h0_47 : Int32) (h0_48 : Int32) (p1 : Int32) (p2 : Int32) (p3 : Int32) (p4 : Int32) (p5 : Int32) (yb : ClassId) (f1 : Nat → Int32) (sz : Nat) : Met l yX7_feed wsX7_feed ({ frames := 0, cells := 0, slots := 0, locals := 0 }) (va_Pc [.ref h0, .int p1, .int p2, .int p3, .int p4, .int p5] (fun U => U.heap.size = sz ∧ va_P (dC, dI) vwCl [(h0, .inr (6, [.ref a1, .ref h0_1, .int 0, .int h0_3, .int h0_4, .int h0_5, .int h0_6, .int h0_7, .int h0_8, .int h0_9, .long h0_10, .ref h0_11, .ref h0_12, .ref h0_13, .ref h0_14, .ref h0_15, .ref h0_16, .ref h0_17, .ref h0_18, .ref h0_19, .ref h0_20, .ref h0_21, .ref h0_22, .ref h0_23, .ref h0_24, .ref h0_25, .int h0_26, .int h0_27, .int h0_28, .int h0_29, .int h0_30, .int h0_31, .ref h0_32, .ref h0_33, .ref h0_34, .ref h0_35, .ref h0_36, .ref h0_37, .ref h0_38, .int h0_39, .ref h0_40, .ref h0_41, .ref h0_42, .ref h0_43, .ref h0_44, .ref h0_45, .int h0_46, .int h0_47, .int h0_48])), (a1, .inl (yb, 2020, .inl f1))] U.heap ∧ va_K (dC, dI) vwCl [(yb, .byte)] U ∧ va_D (fun _ => True) [(h0, .inr (6, [.ref a1, .ref h0_1, .int 0, .int h0_3, .int h0_4, .int h0_5, .int h0_6, .int h0_7, .int h0_8, .int h0_9, .long h0_10, .ref h0_11, .ref h0_12, .ref h0_13, .ref h0_14, .ref h0_15, .ref h0_16, .ref h0_17, .ref h0_18, .ref h0_19, .ref h0_20, .ref h0_21, .ref h0_22, .ref h0_23, .ref h0_24, .ref h0_25, .int h0_26, .int h0_27, .int h0_28, .int h0_29, .int h0_30, .int h0_31, .ref h0_32, .ref h0_33, .ref h0_34, .ref h0_35, .ref h0_36, .ref h0_37, .ref h0_38, .int h0_39, .ref h0_40, .ref h0_41, .ref h0_42, .ref h0_43, .ref h0_44, .ref h0_45, .int h0_46, .int h0_47, .int h0_48])), (a1, .inl (yb, 2020, .inl f1))])) (va_Qi (fun (r : Int32) (_ : Unit) => r = 20) (fun (_ : Unit) (_ : State) => True) (va_A [(h0, .inr (6, [.ref a1, .ref h0_1, .int 0, .int h0_3, .int h0_4, .int h0_5, .int h0_6, .int h0_7, .int h0_8, .int h0_9, .long h0_10, .ref h0_11, .ref h0_12, .ref h0_13, .ref h0_14, .ref h0_15, .ref h0_16, .ref h0_17, .ref h0_18, .ref h0_19, .ref h0_20, .ref h0_21, .ref h0_22, .ref h0_23, .ref h0_24, .ref h0_25, .int h0_26, .int h0_27, .int h0_28, .int h0_29, .int h0_30, .int h0_31, .ref h0_32, .ref h0_33, .ref h0_34, .ref h0_35, .ref h0_36, .ref h0_37, .ref h0_38, .int h0_39, .ref h0_40, .ref h0_41, .ref h0_42, .ref h0_43, .ref h0_44, .ref h0_45, .int h0_46, .int h0_47, .int h0_48])), (a1, .inl (yb, 2020, .inl f1))] sz)) 0 0 (va_A [(h0, .inr (6, [.ref a1, .ref h0_1, .int 0, .int h0_3, .int h0_4, .int h0_5, .int h0_6, .int h0_7, .int h0_8, .int h0_9, .long h0_10, .ref h0_11, .ref h0_12, .ref h0_13, .ref h0_14, .ref h0_15, .ref h0_16, .ref h0_17, .ref h0_18, .ref h0_19, .ref h0_20, .ref h0_21, .ref h0_22, .ref h0_23, .ref h0_24, .ref h0_25, .int h0_26, .int h0_27, .int h0_28, .int h0_29, .int h0_30, .int h0_31, .ref h0_32, .ref h0_33, .ref h0_34, .ref h0_35, .ref h0_36, .ref h0_37, .ref h0_38, .int h0_39, .ref h0_40, .ref h0_41, .ref h0_42, .ref h0_43, .ref h0_44, .ref h0_45, .int h0_46, .int h0_47, .int h0_48])), (a1, .inl (yb, 2020, .inl f1))] sz) := by
  refine Met.ofW (cc := cX7_feed) (maxL := 8) (ret := (some .int)) (by decide) rfl ?_
  intro p e s m args below meth c s₁ B hml hv
  obtain ⟨rfl, hsz, hP, hK, hD0⟩ := hv
  have hx := B.exec
  have hb := B.bytes
  have hr := B.returns
  have hts := atoms_spec (ws := wsX7_feed) B.pre
  have hown : s.vm.findClass RX7 = some m.cls := findClass_of_methodNamed B.named
  have hlocks := B.notSynchronized
  have inX7_ : ∀ w ∈ wsX70, w ∈ wsX7_feed := fun _ h => List.mem_cons_of_mem _ (List.mem_append_right _ h)
  subst hsz
  have hD := hD0.self (sz := s.heap.size)
  generalize hAe : va_A [(h0, .inr (6, [.ref a1, .ref h0_1, .int 0, .int h0_3, .int h0_4, .int h0_5, .int h0_6, .int h0_7, .int h0_8, .int h0_9, .long h0_10, .ref h0_11, .ref h0_12, .ref h0_13, .ref h0_14, .ref h0_15, .ref h0_16, .ref h0_17, .ref h0_18, .ref h0_19, .ref h0_20, .ref h0_21, .ref h0_22, .ref h0_23, .ref h0_24, .ref h0_25, .int h0_26, .int h0_27, .int h0_28, .int h0_29, .int h0_30, .int h0_31, .ref h0_32, .ref h0_33, .ref h0_34, .ref h0_35, .ref h0_36, .ref h0_37, .ref h0_38, .int h0_39, .ref h0_40, .ref h0_41, .ref h0_42, .ref h0_43, .ref h0_44, .ref h0_45, .int h0_46, .int h0_47, .int h0_48])), (a1, .inl (yb, 2020, .inl f1))] s.heap.size = A at hD ⊢
  have hA : ∀ q : Nat, s.heap.size ≤ q → A q := fun q h => by rw [← hAe]; exact Or.inr h
  have hS : va_S A s.heap s.heap [] := va_S.rf
  have hP : va_P (dC, dI) vwCl [(h0, .inr (6, [.ref a1, .ref h0_1, .int 0, .int h0_3, .int h0_4, .int h0_5, .int h0_6, .int h0_7, .int h0_8, .int h0_9, .long h0_10, .ref h0_11, .ref h0_12, .ref h0_13, .ref h0_14, .ref h0_15, .ref h0_16, .ref h0_17, .ref h0_18, .ref h0_19, .ref h0_20, .ref h0_21, .ref h0_22, .ref h0_23, .ref h0_24, .ref h0_25, .int h0_26, .int h0_27, .int h0_28, .int h0_29, .int h0_30, .int h0_31, .ref h0_32, .ref h0_33, .ref h0_34, .ref h0_35, .ref h0_36, .ref h0_37, .ref h0_38, .int h0_39, .ref h0_40, .ref h0_41, .ref h0_42, .ref h0_43, .ref h0_44, .ref h0_45, .int h0_46, .int h0_47, .int h0_48])), (a1, .inl (yb, 2020, .inl f1))] s.heap := hP
  have hl := lv_entry ([.ref h0, .int p1, .int p2, .int p3, .int p4, .int p5]) (n := 8) (Nat.le_of_ble_eq_true rfl)
  rw [lg_entry_eq]
  generalize (lg_sl ([.ref h0, .int p1, .int p2, .int p3, .int p4, .int p5]) ++ List.replicate (8 - (lg_sl ([.ref h0, .int p1, .int p2, .int p3, .int p4, .int p5])).length) Slot.unset).toArray = ls at hl ⊢
  have hl : lv_has ls 8 [(0, .ref h0), (1, .int p1), (2, .int p2), (3, .int p3), (4, .int p4), (5, .int p5)] := hl
  refine lv_aload_n hx hb dX7_feed_0 rfl (lv_at hl 0 rfl) ?_
  refine va_get (D := (dC, dI)) (ci := 6) (v := .int 0) (C := RX7) (T := TX7) (N := 49) hx hb hts inX7_ hown hK hP 0 rfl rfl 2 (by decide) (hts (.fieldLink RX7 249 "GateWheelModel" "taped" "I") (List.mem_of_getElem? (i := 1) rfl)) (fun _ h9 => h9) rfl dX7_feed_1 ?_
  refine lv_bipush (v := 20) hx hb dX7_feed_4 (by decide) ?_
  refine lv_iadd hx hb dX7_feed_6 ?_
  refine lv_topi (fun zx1 ezx1 => ?_)
  obtain rfl : zx1 = 20 := by rw [ezx1]; decide
  refine lv_sipush (v := 2000) hx hb dX7_feed_7 (by decide) ?_
  refine lv_icmp_le (tgt := 15) hx hb dX7_feed_10 (by decide) (fun _ => ?_) (fun hc => absurd (by decide) hc)
  refine lv_iconst (v := 0) hx hb dX7_feed_15 (by decide) ?_
  refine lv_istore (lv' := [(6, .int 0), (0, .ref h0), (1, .int p1), (2, .int p2), (3, .int p3), (4, .int p4), (5, .int p5)]) hx hb dX7_feed_16 hl (by decide) rfl (fun ls hl => ?_)
  refine lv_iload hx hb dX7_feed_18 (lv_at hl 0 rfl) ?_
  refine lv_bipush (v := 20) hx hb dX7_feed_20 (by decide) ?_
  refine lv_icmp_ge (tgt := 105) hx hb dX7_feed_22 (by decide) (fun hc => absurd hc (by decide)) (fun _ => ?_)
  refine lv_iload hx hb dX7_feed_25 (lv_at hl 0 rfl) ?_
  refine lv_iconst (v := 4) hx hb dX7_feed_27 (by decide) ?_
  refine lv_icmp_ge (tgt := 35) hx hb dX7_feed_28 (by decide) (fun hc => absurd hc (by decide)) (fun _ => ?_)
  refine lv_iload_n hx hb dX7_feed_31 rfl (lv_at hl 2 rfl) ?_
  refine lv_goto (tgt := 71) hx hb dX7_feed_32 (by decide) ?_
  refine lv_istore (lv' := [(7, .int p1), (6, .int 0), (0, .ref h0), (1, .int p1), (2, .int p2), (3, .int p3), (4, .int p4), (5, .int p5)]) hx hb dX7_feed_71 hl (by decide) rfl (fun ls hl => ?_)
  refine lv_aload_n hx hb dX7_feed_73 rfl (lv_at hl 2 rfl) ?_
  refine va_get (D := (dC, dI)) (ci := 6) (v := .ref a1) (C := RX7) (T := TX7) (N := 49) hx hb hts inX7_ hown hK hP 0 rfl rfl 0 (by decide) (hts (.fieldLink RX7 7 "GateWheelModel" "tape" "[B") (List.mem_of_getElem? (i := 2) rfl)) (fun _ h9 => h9) rfl dX7_feed_74 ?_
  refine lv_aload_n hx hb dX7_feed_77 rfl (lv_at hl 2 rfl) ?_
  refine va_get (D := (dC, dI)) (ci := 6) (v := .int 0) (C := RX7) (T := TX7) (N := 49) hx hb hts inX7_ hown hK hP 0 rfl rfl 2 (by decide) (hts (.fieldLink RX7 249 "GateWheelModel" "taped" "I") (List.mem_of_getElem? (i := 1) rfl)) (fun _ h9 => h9) rfl dX7_feed_78 ?_
  refine lv_iload hx hb dX7_feed_81 (lv_at hl 1 rfl) ?_
  refine lv_iadd hx hb dX7_feed_83 ?_
  refine lv_topi (fun zx2 ezx2 => ?_)
  obtain rfl : zx2 = 0 := by rw [ezx2]; decide
  refine lv_iload hx hb dX7_feed_84 (lv_at hl 0 rfl) ?_
  refine lv_bipush (v := 24) hx hb dX7_feed_86 (by decide) ?_
  refine lv_bipush (v := 8) hx hb dX7_feed_88 (by decide) ?_
  refine lv_iload hx hb dX7_feed_90 (lv_at hl 1 rfl) ?_
  refine lv_iconst (v := 3) hx hb dX7_feed_92 (by decide) ?_
  refine lv_iand hx hb dX7_feed_93 ?_
  refine lv_topi (fun zx3 ezx3 => ?_)
  obtain rfl : zx3 = 0 := by rw [ezx3]; decide
  refine lv_imul hx hb dX7_feed_94 ?_
  refine lv_topi (fun zx4 ezx4 => ?_)
  obtain rfl : zx4 = 0 := by rw [ezx4]; decide
  refine lv_isub hx hb dX7_feed_95 ?_
  refine lv_topi (fun zx5 ezx5 => ?_)
  obtain rfl : zx5 = 24 := by rw [ezx5]; decide
  refine lv_ishr hx hb dX7_feed_96 ?_
  refine lv_topi (fun zx6 ezx6 => ?_)
  refine lv_i2b hx hb dX7_feed_97 rfl ?_
  refine lv_topi (fun zx7 ezx7 => ?_)
  refine va_bast hx hb hK hP hD hS 1 0 rfl rfl (by unfold vp_in; decide) dX7_feed_98 (fun Hx8 locs hP hD hS => ?_)
  have hP : va_P (dC, dI) vwCl [(h0, .inr (6, [.ref a1, .ref h0_1, .int 0, .int h0_3, .int h0_4, .int h0_5, .int h0_6, .int h0_7, .int h0_8, .int h0_9, .long h0_10, .ref h0_11, .ref h0_12, .ref h0_13, .ref h0_14, .ref h0_15, .ref h0_16, .ref h0_17, .ref h0_18, .ref h0_19, .ref h0_20, .ref h0_21, .ref h0_22, .ref h0_23, .ref h0_24, .ref h0_25, .int h0_26, .int h0_27, .int h0_28, .int h0_29, .int h0_30, .int h0_31, .ref h0_32, .ref h0_33, .ref h0_34, .ref h0_35, .ref h0_36, .ref h0_37, .ref h0_38, .int h0_39, .ref h0_40, .ref h0_41, .ref h0_42, .ref h0_43, .ref h0_44, .ref h0_45, .int h0_46, .int h0_47, .int h0_48])), (a1, .inl (yb, 2020, .inl (upd f1 (0 : Int32).toNatClampNeg (vp_nar .byte zx7))))] Hx8 := hP
  have hD : va_D A [(h0, .inr (6, [.ref a1, .ref h0_1, .int 0, .int h0_3, .int h0_4, .int h0_5, .int h0_6, .int h0_7, .int h0_8, .int h0_9, .long h0_10, .ref h0_11, .ref h0_12, .ref h0_13, .ref h0_14, .ref h0_15, .ref h0_16, .ref h0_17, .ref h0_18, .ref h0_19, .ref h0_20, .ref h0_21, .ref h0_22, .ref h0_23, .ref h0_24, .ref h0_25, .int h0_26, .int h0_27, .int h0_28, .int h0_29, .int h0_30, .int h0_31, .ref h0_32, .ref h0_33, .ref h0_34, .ref h0_35, .ref h0_36, .ref h0_37, .ref h0_38, .int h0_39, .ref h0_40, .ref h0_41, .ref h0_42, .ref h0_43, .ref h0_44, .ref h0_45, .int h0_46, .int h0_47, .int h0_48])), (a1, .inl (yb, 2020, .inl (upd f1 (0 : Int32).toNatClampNeg (vp_nar .byte zx7))))] := hD
  generalize (upd f1 (0 : Int32).toNatClampNeg (vp_nar .byte zx7)) = fx9 at hP hD
  refine lv_iinc (v := 1) (lv' := [(6, .int 1), (7, .int p1), (0, .ref h0), (1, .int p1), (2, .int p2), (3, .int p3), (4, .int p4), (5, .int p5)]) hx hb dX7_feed_99 hl (k := 1) rfl (by decide) (by decide) rfl (fun ls hl => ?_)
  refine lv_goto (tgt := 18) hx hb dX7_feed_102 (by decide) ?_
  refine lv_iload hx hb dX7_feed_18 (lv_at hl 0 rfl) ?_
  refine lv_bipush (v := 20) hx hb dX7_feed_20 (by decide) ?_
  refine lv_icmp_ge (tgt := 105) hx hb dX7_feed_22 (by decide) (fun hc => absurd hc (by decide)) (fun _ => ?_)
  refine lv_iload hx hb dX7_feed_25 (lv_at hl 0 rfl) ?_
  refine lv_iconst (v := 4) hx hb dX7_feed_27 (by decide) ?_
  refine lv_icmp_ge (tgt := 35) hx hb dX7_feed_28 (by decide) (fun hc => absurd hc (by decide)) (fun _ => ?_)
  refine lv_iload_n hx hb dX7_feed_31 rfl (lv_at hl 3 rfl) ?_
  refine lv_goto (tgt := 71) hx hb dX7_feed_32 (by decide) ?_
  refine lv_istore (lv' := [(7, .int p1), (6, .int 1), (0, .ref h0), (1, .int p1), (2, .int p2), (3, .int p3), (4, .int p4), (5, .int p5)]) hx hb dX7_feed_71 hl (by decide) rfl (fun ls hl => ?_)
  refine lv_aload_n hx hb dX7_feed_73 rfl (lv_at hl 2 rfl) ?_
  refine va_get (D := (dC, dI)) (ci := 6) (v := .ref a1) (C := RX7) (T := TX7) (N := 49) hx hb hts inX7_ hown hK hP 0 rfl rfl 0 (by decide) (hts (.fieldLink RX7 7 "GateWheelModel" "tape" "[B") (List.mem_of_getElem? (i := 2) rfl)) (fun _ h9 => h9) rfl dX7_feed_74 ?_
  refine lv_aload_n hx hb dX7_feed_77 rfl (lv_at hl 2 rfl) ?_
  refine va_get (D := (dC, dI)) (ci := 6) (v := .int 0) (C := RX7) (T := TX7) (N := 49) hx hb hts inX7_ hown hK hP 0 rfl rfl 2 (by decide) (hts (.fieldLink RX7 249 "GateWheelModel" "taped" "I") (List.mem_of_getElem? (i := 1) rfl)) (fun _ h9 => h9) rfl dX7_feed_78 ?_
  refine lv_iload hx hb dX7_feed_81 (lv_at hl 1 rfl) ?_
  refine lv_iadd hx hb dX7_feed_83 ?_
  refine lv_topi (fun zx10 ezx10 => ?_)
  obtain rfl : zx10 = 1 := by rw [ezx10]; decide
  refine lv_iload hx hb dX7_feed_84 (lv_at hl 0 rfl) ?_
  refine lv_bipush (v := 24) hx hb dX7_feed_86 (by decide) ?_
  refine lv_bipush (v := 8) hx hb dX7_feed_88 (by decide) ?_
  refine lv_iload hx hb dX7_feed_90 (lv_at hl 1 rfl) ?_
  refine lv_iconst (v := 3) hx hb dX7_feed_92 (by decide) ?_
  refine lv_iand hx hb dX7_feed_93 ?_
  refine lv_topi (fun zx11 ezx11 => ?_)
  obtain rfl : zx11 = 1 := by rw [ezx11]; decide
  refine lv_imul hx hb dX7_feed_94 ?_
  refine lv_topi (fun zx12 ezx12 => ?_)
  obtain rfl : zx12 = 8 := by rw [ezx12]; decide
  refine lv_isub hx hb dX7_feed_95 ?_
  refine lv_topi (fun zx13 ezx13 => ?_)
  obtain rfl : zx13 = 16 := by rw [ezx13]; decide
  refine lv_ishr hx hb dX7_feed_96 ?_
  refine lv_topi (fun zx14 ezx14 => ?_)
  refine lv_i2b hx hb dX7_feed_97 rfl ?_
  refine lv_topi (fun zx15 ezx15 => ?_)
  refine va_bast hx hb hK hP hD hS 1 0 rfl rfl (by unfold vp_in; decide) dX7_feed_98 (fun Hx16 locs hP hD hS => ?_)
  have hP : va_P (dC, dI) vwCl [(h0, .inr (6, [.ref a1, .ref h0_1, .int 0, .int h0_3, .int h0_4, .int h0_5, .int h0_6, .int h0_7, .int h0_8, .int h0_9, .long h0_10, .ref h0_11, .ref h0_12, .ref h0_13, .ref h0_14, .ref h0_15, .ref h0_16, .ref h0_17, .ref h0_18, .ref h0_19, .ref h0_20, .ref h0_21, .ref h0_22, .ref h0_23, .ref h0_24, .ref h0_25, .int h0_26, .int h0_27, .int h0_28, .int h0_29, .int h0_30, .int h0_31, .ref h0_32, .ref h0_33, .ref h0_34, .ref h0_35, .ref h0_36, .ref h0_37, .ref h0_38, .int h0_39, .ref h0_40, .ref h0_41, .ref h0_42, .ref h0_43, .ref h0_44, .ref h0_45, .int h0_46, .int h0_47, .int h0_48])), (a1, .inl (yb, 2020, .inl (upd fx9 (1 : Int32).toNatClampNeg (vp_nar .byte zx15))))] Hx16 := hP
  have hD : va_D A [(h0, .inr (6, [.ref a1, .ref h0_1, .int 0, .int h0_3, .int h0_4, .int h0_5, .int h0_6, .int h0_7, .int h0_8, .int h0_9, .long h0_10, .ref h0_11, .ref h0_12, .ref h0_13, .ref h0_14, .ref h0_15, .ref h0_16, .ref h0_17, .ref h0_18, .ref h0_19, .ref h0_20, .ref h0_21, .ref h0_22, .ref h0_23, .ref h0_24, .ref h0_25, .int h0_26, .int h0_27, .int h0_28, .int h0_29, .int h0_30, .int h0_31, .ref h0_32, .ref h0_33, .ref h0_34, .ref h0_35, .ref h0_36, .ref h0_37, .ref h0_38, .int h0_39, .ref h0_40, .ref h0_41, .ref h0_42, .ref h0_43, .ref h0_44, .ref h0_45, .int h0_46, .int h0_47, .int h0_48])), (a1, .inl (yb, 2020, .inl (upd fx9 (1 : Int32).toNatClampNeg (vp_nar .byte zx15))))] := hD
  generalize (upd fx9 (1 : Int32).toNatClampNeg (vp_nar .byte zx15)) = fx17 at hP hD
  refine lv_iinc (v := 2) (lv' := [(6, .int 2), (7, .int p1), (0, .ref h0), (1, .int p1), (2, .int p2), (3, .int p3), (4, .int p4), (5, .int p5)]) hx hb dX7_feed_99 hl (k := 1) rfl (by decide) (by decide) rfl (fun ls hl => ?_)
  refine lv_goto (tgt := 18) hx hb dX7_feed_102 (by decide) ?_
  refine lv_iload hx hb dX7_feed_18 (lv_at hl 0 rfl) ?_
  refine lv_bipush (v := 20) hx hb dX7_feed_20 (by decide) ?_
  refine lv_icmp_ge (tgt := 105) hx hb dX7_feed_22 (by decide) (fun hc => absurd hc (by decide)) (fun _ => ?_)
  refine lv_iload hx hb dX7_feed_25 (lv_at hl 0 rfl) ?_
  refine lv_iconst (v := 4) hx hb dX7_feed_27 (by decide) ?_
  refine lv_icmp_ge (tgt := 35) hx hb dX7_feed_28 (by decide) (fun hc => absurd hc (by decide)) (fun _ => ?_)
  refine lv_iload_n hx hb dX7_feed_31 rfl (lv_at hl 3 rfl) ?_
  refine lv_goto (tgt := 71) hx hb dX7_feed_32 (by decide) ?_
  refine lv_istore (lv' := [(7, .int p1), (6, .int 2), (0, .ref h0), (1, .int p1), (2, .int p2), (3, .int p3), (4, .int p4), (5, .int p5)]) hx hb dX7_feed_71 hl (by decide) rfl (fun ls hl => ?_)
  refine lv_aload_n hx hb dX7_feed_73 rfl (lv_at hl 2 rfl) ?_
  refine va_get (D := (dC, dI)) (ci := 6) (v := .ref a1) (C := RX7) (T := TX7) (N := 49) hx hb hts inX7_ hown hK hP 0 rfl rfl 0 (by decide) (hts (.fieldLink RX7 7 "GateWheelModel" "tape" "[B") (List.mem_of_getElem? (i := 2) rfl)) (fun _ h9 => h9) rfl dX7_feed_74 ?_
  refine lv_aload_n hx hb dX7_feed_77 rfl (lv_at hl 2 rfl) ?_
  refine va_get (D := (dC, dI)) (ci := 6) (v := .int 0) (C := RX7) (T := TX7) (N := 49) hx hb hts inX7_ hown hK hP 0 rfl rfl 2 (by decide) (hts (.fieldLink RX7 249 "GateWheelModel" "taped" "I") (List.mem_of_getElem? (i := 1) rfl)) (fun _ h9 => h9) rfl dX7_feed_78 ?_
  refine lv_iload hx hb dX7_feed_81 (lv_at hl 1 rfl) ?_
  refine lv_iadd hx hb dX7_feed_83 ?_
  refine lv_topi (fun zx18 ezx18 => ?_)
  obtain rfl : zx18 = 2 := by rw [ezx18]; decide
  refine lv_iload hx hb dX7_feed_84 (lv_at hl 0 rfl) ?_
  refine lv_bipush (v := 24) hx hb dX7_feed_86 (by decide) ?_
  refine lv_bipush (v := 8) hx hb dX7_feed_88 (by decide) ?_
  refine lv_iload hx hb dX7_feed_90 (lv_at hl 1 rfl) ?_
  refine lv_iconst (v := 3) hx hb dX7_feed_92 (by decide) ?_
  refine lv_iand hx hb dX7_feed_93 ?_
  refine lv_topi (fun zx19 ezx19 => ?_)
  obtain rfl : zx19 = 2 := by rw [ezx19]; decide
  refine lv_imul hx hb dX7_feed_94 ?_
  refine lv_topi (fun zx20 ezx20 => ?_)
  obtain rfl : zx20 = 16 := by rw [ezx20]; decide
  refine lv_isub hx hb dX7_feed_95 ?_
  refine lv_topi (fun zx21 ezx21 => ?_)
  obtain rfl : zx21 = 8 := by rw [ezx21]; decide
  refine lv_ishr hx hb dX7_feed_96 ?_
  refine lv_topi (fun zx22 ezx22 => ?_)
  refine lv_i2b hx hb dX7_feed_97 rfl ?_
  refine lv_topi (fun zx23 ezx23 => ?_)
  refine va_bast hx hb hK hP hD hS 1 0 rfl rfl (by unfold vp_in; decide) dX7_feed_98 (fun Hx24 locs hP hD hS => ?_)
  have hP : va_P (dC, dI) vwCl [(h0, .inr (6, [.ref a1, .ref h0_1, .int 0, .int h0_3, .int h0_4, .int h0_5, .int h0_6, .int h0_7, .int h0_8, .int h0_9, .long h0_10, .ref h0_11, .ref h0_12, .ref h0_13, .ref h0_14, .ref h0_15, .ref h0_16, .ref h0_17, .ref h0_18, .ref h0_19, .ref h0_20, .ref h0_21, .ref h0_22, .ref h0_23, .ref h0_24, .ref h0_25, .int h0_26, .int h0_27, .int h0_28, .int h0_29, .int h0_30, .int h0_31, .ref h0_32, .ref h0_33, .ref h0_34, .ref h0_35, .ref h0_36, .ref h0_37, .ref h0_38, .int h0_39, .ref h0_40, .ref h0_41, .ref h0_42, .ref h0_43, .ref h0_44, .ref h0_45, .int h0_46, .int h0_47, .int h0_48])), (a1, .inl (yb, 2020, .inl (upd fx17 (2 : Int32).toNatClampNeg (vp_nar .byte zx23))))] Hx24 := hP
  have hD : va_D A [(h0, .inr (6, [.ref a1, .ref h0_1, .int 0, .int h0_3, .int h0_4, .int h0_5, .int h0_6, .int h0_7, .int h0_8, .int h0_9, .long h0_10, .ref h0_11, .ref h0_12, .ref h0_13, .ref h0_14, .ref h0_15, .ref h0_16, .ref h0_17, .ref h0_18, .ref h0_19, .ref h0_20, .ref h0_21, .ref h0_22, .ref h0_23, .ref h0_24, .ref h0_25, .int h0_26, .int h0_27, .int h0_28, .int h0_29, .int h0_30, .int h0_31, .ref h0_32, .ref h0_33, .ref h0_34, .ref h0_35, .ref h0_36, .ref h0_37, .ref h0_38, .int h0_39, .ref h0_40, .ref h0_41, .ref h0_42, .ref h0_43, .ref h0_44, .ref h0_45, .int h0_46, .int h0_47, .int h0_48])), (a1, .inl (yb, 2020, .inl (upd fx17 (2 : Int32).toNatClampNeg (vp_nar .byte zx23))))] := hD
  generalize (upd fx17 (2 : Int32).toNatClampNeg (vp_nar .byte zx23)) = fx25 at hP hD
  refine lv_iinc (v := 3) (lv' := [(6, .int 3), (7, .int p1), (0, .ref h0), (1, .int p1), (2, .int p2), (3, .int p3), (4, .int p4), (5, .int p5)]) hx hb dX7_feed_99 hl (k := 1) rfl (by decide) (by decide) rfl (fun ls hl => ?_)
  refine lv_goto (tgt := 18) hx hb dX7_feed_102 (by decide) ?_
  refine lv_iload hx hb dX7_feed_18 (lv_at hl 0 rfl) ?_
  refine lv_bipush (v := 20) hx hb dX7_feed_20 (by decide) ?_
  refine lv_icmp_ge (tgt := 105) hx hb dX7_feed_22 (by decide) (fun hc => absurd hc (by decide)) (fun _ => ?_)
  refine lv_iload hx hb dX7_feed_25 (lv_at hl 0 rfl) ?_
  refine lv_iconst (v := 4) hx hb dX7_feed_27 (by decide) ?_
  refine lv_icmp_ge (tgt := 35) hx hb dX7_feed_28 (by decide) (fun hc => absurd hc (by decide)) (fun _ => ?_)
  refine lv_iload_n hx hb dX7_feed_31 rfl (lv_at hl 3 rfl) ?_
  refine lv_goto (tgt := 71) hx hb dX7_feed_32 (by decide) ?_
  refine lv_istore (lv' := [(7, .int p1), (6, .int 3), (0, .ref h0), (1, .int p1), (2, .int p2), (3, .int p3), (4, .int p4), (5, .int p5)]) hx hb dX7_feed_71 hl (by decide) rfl (fun ls hl => ?_)
  refine lv_aload_n hx hb dX7_feed_73 rfl (lv_at hl 2 rfl) ?_
  refine va_get (D := (dC, dI)) (ci := 6) (v := .ref a1) (C := RX7) (T := TX7) (N := 49) hx hb hts inX7_ hown hK hP 0 rfl rfl 0 (by decide) (hts (.fieldLink RX7 7 "GateWheelModel" "tape" "[B") (List.mem_of_getElem? (i := 2) rfl)) (fun _ h9 => h9) rfl dX7_feed_74 ?_
  refine lv_aload_n hx hb dX7_feed_77 rfl (lv_at hl 2 rfl) ?_
  refine va_get (D := (dC, dI)) (ci := 6) (v := .int 0) (C := RX7) (T := TX7) (N := 49) hx hb hts inX7_ hown hK hP 0 rfl rfl 2 (by decide) (hts (.fieldLink RX7 249 "GateWheelModel" "taped" "I") (List.mem_of_getElem? (i := 1) rfl)) (fun _ h9 => h9) rfl dX7_feed_78 ?_
  refine lv_iload hx hb dX7_feed_81 (lv_at hl 1 rfl) ?_
  refine lv_iadd hx hb dX7_feed_83 ?_
  refine lv_topi (fun zx26 ezx26 => ?_)
  obtain rfl : zx26 = 3 := by rw [ezx26]; decide
  refine lv_iload hx hb dX7_feed_84 (lv_at hl 0 rfl) ?_
  refine lv_bipush (v := 24) hx hb dX7_feed_86 (by decide) ?_
  refine lv_bipush (v := 8) hx hb dX7_feed_88 (by decide) ?_
  refine lv_iload hx hb dX7_feed_90 (lv_at hl 1 rfl) ?_
  refine lv_iconst (v := 3) hx hb dX7_feed_92 (by decide) ?_
  refine lv_iand hx hb dX7_feed_93 ?_
  refine lv_topi (fun zx27 ezx27 => ?_)
  obtain rfl : zx27 = 3 := by rw [ezx27]; decide
  refine lv_imul hx hb dX7_feed_94 ?_
  refine lv_topi (fun zx28 ezx28 => ?_)
  obtain rfl : zx28 = 24 := by rw [ezx28]; decide
  refine lv_isub hx hb dX7_feed_95 ?_
  refine lv_topi (fun zx29 ezx29 => ?_)
  obtain rfl : zx29 = 0 := by rw [ezx29]; decide
  refine lv_ishr hx hb dX7_feed_96 ?_
  refine lv_topi (fun zx30 ezx30 => ?_)
  refine lv_i2b hx hb dX7_feed_97 rfl ?_
  refine lv_topi (fun zx31 ezx31 => ?_)
  refine va_bast hx hb hK hP hD hS 1 0 rfl rfl (by unfold vp_in; decide) dX7_feed_98 (fun Hx32 locs hP hD hS => ?_)
  have hP : va_P (dC, dI) vwCl [(h0, .inr (6, [.ref a1, .ref h0_1, .int 0, .int h0_3, .int h0_4, .int h0_5, .int h0_6, .int h0_7, .int h0_8, .int h0_9, .long h0_10, .ref h0_11, .ref h0_12, .ref h0_13, .ref h0_14, .ref h0_15, .ref h0_16, .ref h0_17, .ref h0_18, .ref h0_19, .ref h0_20, .ref h0_21, .ref h0_22, .ref h0_23, .ref h0_24, .ref h0_25, .int h0_26, .int h0_27, .int h0_28, .int h0_29, .int h0_30, .int h0_31, .ref h0_32, .ref h0_33, .ref h0_34, .ref h0_35, .ref h0_36, .ref h0_37, .ref h0_38, .int h0_39, .ref h0_40, .ref h0_41, .ref h0_42, .ref h0_43, .ref h0_44, .ref h0_45, .int h0_46, .int h0_47, .int h0_48])), (a1, .inl (yb, 2020, .inl (upd fx25 (3 : Int32).toNatClampNeg (vp_nar .byte zx31))))] Hx32 := hP
  have hD : va_D A [(h0, .inr (6, [.ref a1, .ref h0_1, .int 0, .int h0_3, .int h0_4, .int h0_5, .int h0_6, .int h0_7, .int h0_8, .int h0_9, .long h0_10, .ref h0_11, .ref h0_12, .ref h0_13, .ref h0_14, .ref h0_15, .ref h0_16, .ref h0_17, .ref h0_18, .ref h0_19, .ref h0_20, .ref h0_21, .ref h0_22, .ref h0_23, .ref h0_24, .ref h0_25, .int h0_26, .int h0_27, .int h0_28, .int h0_29, .int h0_30, .int h0_31, .ref h0_32, .ref h0_33, .ref h0_34, .ref h0_35, .ref h0_36, .ref h0_37, .ref h0_38, .int h0_39, .ref h0_40, .ref h0_41, .ref h0_42, .ref h0_43, .ref h0_44, .ref h0_45, .int h0_46, .int h0_47, .int h0_48])), (a1, .inl (yb, 2020, .inl (upd fx25 (3 : Int32).toNatClampNeg (vp_nar .byte zx31))))] := hD
  generalize (upd fx25 (3 : Int32).toNatClampNeg (vp_nar .byte zx31)) = fx33 at hP hD
  refine lv_iinc (v := 4) (lv' := [(6, .int 4), (7, .int p1), (0, .ref h0), (1, .int p1), (2, .int p2), (3, .int p3), (4, .int p4), (5, .int p5)]) hx hb dX7_feed_99 hl (k := 1) rfl (by decide) (by decide) rfl (fun ls hl => ?_)
  refine lv_goto (tgt := 18) hx hb dX7_feed_102 (by decide) ?_
  refine lv_iload hx hb dX7_feed_18 (lv_at hl 0 rfl) ?_
  refine lv_bipush (v := 20) hx hb dX7_feed_20 (by decide) ?_
  refine lv_icmp_ge (tgt := 105) hx hb dX7_feed_22 (by decide) (fun hc => absurd hc (by decide)) (fun _ => ?_)
  refine lv_iload hx hb dX7_feed_25 (lv_at hl 0 rfl) ?_
  refine lv_iconst (v := 4) hx hb dX7_feed_27 (by decide) ?_
  refine lv_icmp_ge (tgt := 35) hx hb dX7_feed_28 (by decide) (fun _ => ?_) (fun hc => absurd (by decide) hc)
  refine lv_iload hx hb dX7_feed_35 (lv_at hl 0 rfl) ?_
  refine lv_bipush (v := 8) hx hb dX7_feed_37 (by decide) ?_
  refine lv_icmp_ge (tgt := 46) hx hb dX7_feed_39 (by decide) (fun hc => absurd hc (by decide)) (fun _ => ?_)
  refine lv_iload_n hx hb dX7_feed_42 rfl (lv_at hl 4 rfl) ?_
  refine lv_goto (tgt := 71) hx hb dX7_feed_43 (by decide) ?_
  refine lv_istore (lv' := [(7, .int p2), (6, .int 4), (0, .ref h0), (1, .int p1), (2, .int p2), (3, .int p3), (4, .int p4), (5, .int p5)]) hx hb dX7_feed_71 hl (by decide) rfl (fun ls hl => ?_)
  refine lv_aload_n hx hb dX7_feed_73 rfl (lv_at hl 2 rfl) ?_
  refine va_get (D := (dC, dI)) (ci := 6) (v := .ref a1) (C := RX7) (T := TX7) (N := 49) hx hb hts inX7_ hown hK hP 0 rfl rfl 0 (by decide) (hts (.fieldLink RX7 7 "GateWheelModel" "tape" "[B") (List.mem_of_getElem? (i := 2) rfl)) (fun _ h9 => h9) rfl dX7_feed_74 ?_
  refine lv_aload_n hx hb dX7_feed_77 rfl (lv_at hl 2 rfl) ?_
  refine va_get (D := (dC, dI)) (ci := 6) (v := .int 0) (C := RX7) (T := TX7) (N := 49) hx hb hts inX7_ hown hK hP 0 rfl rfl 2 (by decide) (hts (.fieldLink RX7 249 "GateWheelModel" "taped" "I") (List.mem_of_getElem? (i := 1) rfl)) (fun _ h9 => h9) rfl dX7_feed_78 ?_
  refine lv_iload hx hb dX7_feed_81 (lv_at hl 1 rfl) ?_
  refine lv_iadd hx hb dX7_feed_83 ?_
  refine lv_topi (fun zx34 ezx34 => ?_)
  obtain rfl : zx34 = 4 := by rw [ezx34]; decide
  refine lv_iload hx hb dX7_feed_84 (lv_at hl 0 rfl) ?_
  refine lv_bipush (v := 24) hx hb dX7_feed_86 (by decide) ?_
  refine lv_bipush (v := 8) hx hb dX7_feed_88 (by decide) ?_
  refine lv_iload hx hb dX7_feed_90 (lv_at hl 1 rfl) ?_
  refine lv_iconst (v := 3) hx hb dX7_feed_92 (by decide) ?_
  refine lv_iand hx hb dX7_feed_93 ?_
  refine lv_topi (fun zx35 ezx35 => ?_)
  obtain rfl : zx35 = 0 := by rw [ezx35]; decide
  refine lv_imul hx hb dX7_feed_94 ?_
  refine lv_topi (fun zx36 ezx36 => ?_)
  obtain rfl : zx36 = 0 := by rw [ezx36]; decide
  refine lv_isub hx hb dX7_feed_95 ?_
  refine lv_topi (fun zx37 ezx37 => ?_)
  obtain rfl : zx37 = 24 := by rw [ezx37]; decide
  refine lv_ishr hx hb dX7_feed_96 ?_
  refine lv_topi (fun zx38 ezx38 => ?_)
  refine lv_i2b hx hb dX7_feed_97 rfl ?_
  refine lv_topi (fun zx39 ezx39 => ?_)
  refine va_bast hx hb hK hP hD hS 1 0 rfl rfl (by unfold vp_in; decide) dX7_feed_98 (fun Hx40 locs hP hD hS => ?_)
  have hP : va_P (dC, dI) vwCl [(h0, .inr (6, [.ref a1, .ref h0_1, .int 0, .int h0_3, .int h0_4, .int h0_5, .int h0_6, .int h0_7, .int h0_8, .int h0_9, .long h0_10, .ref h0_11, .ref h0_12, .ref h0_13, .ref h0_14, .ref h0_15, .ref h0_16, .ref h0_17, .ref h0_18, .ref h0_19, .ref h0_20, .ref h0_21, .ref h0_22, .ref h0_23, .ref h0_24, .ref h0_25, .int h0_26, .int h0_27, .int h0_28, .int h0_29, .int h0_30, .int h0_31, .ref h0_32, .ref h0_33, .ref h0_34, .ref h0_35, .ref h0_36, .ref h0_37, .ref h0_38, .int h0_39, .ref h0_40, .ref h0_41, .ref h0_42, .ref h0_43, .ref h0_44, .ref h0_45, .int h0_46, .int h0_47, .int h0_48])), (a1, .inl (yb, 2020, .inl (upd fx33 (4 : Int32).toNatClampNeg (vp_nar .byte zx39))))] Hx40 := hP
  have hD : va_D A [(h0, .inr (6, [.ref a1, .ref h0_1, .int 0, .int h0_3, .int h0_4, .int h0_5, .int h0_6, .int h0_7, .int h0_8, .int h0_9, .long h0_10, .ref h0_11, .ref h0_12, .ref h0_13, .ref h0_14, .ref h0_15, .ref h0_16, .ref h0_17, .ref h0_18, .ref h0_19, .ref h0_20, .ref h0_21, .ref h0_22, .ref h0_23, .ref h0_24, .ref h0_25, .int h0_26, .int h0_27, .int h0_28, .int h0_29, .int h0_30, .int h0_31, .ref h0_32, .ref h0_33, .ref h0_34, .ref h0_35, .ref h0_36, .ref h0_37, .ref h0_38, .int h0_39, .ref h0_40, .ref h0_41, .ref h0_42, .ref h0_43, .ref h0_44, .ref h0_45, .int h0_46, .int h0_47, .int h0_48])), (a1, .inl (yb, 2020, .inl (upd fx33 (4 : Int32).toNatClampNeg (vp_nar .byte zx39))))] := hD
  generalize (upd fx33 (4 : Int32).toNatClampNeg (vp_nar .byte zx39)) = fx41 at hP hD
  refine lv_iinc (v := 5) (lv' := [(6, .int 5), (7, .int p2), (0, .ref h0), (1, .int p1), (2, .int p2), (3, .int p3), (4, .int p4), (5, .int p5)]) hx hb dX7_feed_99 hl (k := 1) rfl (by decide) (by decide) rfl (fun ls hl => ?_)
  refine lv_goto (tgt := 18) hx hb dX7_feed_102 (by decide) ?_
  refine lv_iload hx hb dX7_feed_18 (lv_at hl 0 rfl) ?_
  refine lv_bipush (v := 20) hx hb dX7_feed_20 (by decide) ?_
  refine lv_icmp_ge (tgt := 105) hx hb dX7_feed_22 (by decide) (fun hc => absurd hc (by decide)) (fun _ => ?_)
  refine lv_iload hx hb dX7_feed_25 (lv_at hl 0 rfl) ?_
  refine lv_iconst (v := 4) hx hb dX7_feed_27 (by decide) ?_
  refine lv_icmp_ge (tgt := 35) hx hb dX7_feed_28 (by decide) (fun _ => ?_) (fun hc => absurd (by decide) hc)
  refine lv_iload hx hb dX7_feed_35 (lv_at hl 0 rfl) ?_
  refine lv_bipush (v := 8) hx hb dX7_feed_37 (by decide) ?_
  refine lv_icmp_ge (tgt := 46) hx hb dX7_feed_39 (by decide) (fun hc => absurd hc (by decide)) (fun _ => ?_)
  refine lv_iload_n hx hb dX7_feed_42 rfl (lv_at hl 4 rfl) ?_
  refine lv_goto (tgt := 71) hx hb dX7_feed_43 (by decide) ?_
  refine lv_istore (lv' := [(7, .int p2), (6, .int 5), (0, .ref h0), (1, .int p1), (2, .int p2), (3, .int p3), (4, .int p4), (5, .int p5)]) hx hb dX7_feed_71 hl (by decide) rfl (fun ls hl => ?_)
  refine lv_aload_n hx hb dX7_feed_73 rfl (lv_at hl 2 rfl) ?_
  refine va_get (D := (dC, dI)) (ci := 6) (v := .ref a1) (C := RX7) (T := TX7) (N := 49) hx hb hts inX7_ hown hK hP 0 rfl rfl 0 (by decide) (hts (.fieldLink RX7 7 "GateWheelModel" "tape" "[B") (List.mem_of_getElem? (i := 2) rfl)) (fun _ h9 => h9) rfl dX7_feed_74 ?_
  refine lv_aload_n hx hb dX7_feed_77 rfl (lv_at hl 2 rfl) ?_
  refine va_get (D := (dC, dI)) (ci := 6) (v := .int 0) (C := RX7) (T := TX7) (N := 49) hx hb hts inX7_ hown hK hP 0 rfl rfl 2 (by decide) (hts (.fieldLink RX7 249 "GateWheelModel" "taped" "I") (List.mem_of_getElem? (i := 1) rfl)) (fun _ h9 => h9) rfl dX7_feed_78 ?_
  refine lv_iload hx hb dX7_feed_81 (lv_at hl 1 rfl) ?_
  refine lv_iadd hx hb dX7_feed_83 ?_
  refine lv_topi (fun zx42 ezx42 => ?_)
  obtain rfl : zx42 = 5 := by rw [ezx42]; decide
  refine lv_iload hx hb dX7_feed_84 (lv_at hl 0 rfl) ?_
  refine lv_bipush (v := 24) hx hb dX7_feed_86 (by decide) ?_
  refine lv_bipush (v := 8) hx hb dX7_feed_88 (by decide) ?_
  refine lv_iload hx hb dX7_feed_90 (lv_at hl 1 rfl) ?_
  refine lv_iconst (v := 3) hx hb dX7_feed_92 (by decide) ?_
  refine lv_iand hx hb dX7_feed_93 ?_
  refine lv_topi (fun zx43 ezx43 => ?_)
  obtain rfl : zx43 = 1 := by rw [ezx43]; decide
  refine lv_imul hx hb dX7_feed_94 ?_
  refine lv_topi (fun zx44 ezx44 => ?_)
  obtain rfl : zx44 = 8 := by rw [ezx44]; decide
  refine lv_isub hx hb dX7_feed_95 ?_
  refine lv_topi (fun zx45 ezx45 => ?_)
  obtain rfl : zx45 = 16 := by rw [ezx45]; decide
  refine lv_ishr hx hb dX7_feed_96 ?_
  refine lv_topi (fun zx46 ezx46 => ?_)
  refine lv_i2b hx hb dX7_feed_97 rfl ?_
  refine lv_topi (fun zx47 ezx47 => ?_)
  refine va_bast hx hb hK hP hD hS 1 0 rfl rfl (by unfold vp_in; decide) dX7_feed_98 (fun Hx48 locs hP hD hS => ?_)
  have hP : va_P (dC, dI) vwCl [(h0, .inr (6, [.ref a1, .ref h0_1, .int 0, .int h0_3, .int h0_4, .int h0_5, .int h0_6, .int h0_7, .int h0_8, .int h0_9, .long h0_10, .ref h0_11, .ref h0_12, .ref h0_13, .ref h0_14, .ref h0_15, .ref h0_16, .ref h0_17, .ref h0_18, .ref h0_19, .ref h0_20, .ref h0_21, .ref h0_22, .ref h0_23, .ref h0_24, .ref h0_25, .int h0_26, .int h0_27, .int h0_28, .int h0_29, .int h0_30, .int h0_31, .ref h0_32, .ref h0_33, .ref h0_34, .ref h0_35, .ref h0_36, .ref h0_37, .ref h0_38, .int h0_39, .ref h0_40, .ref h0_41, .ref h0_42, .ref h0_43, .ref h0_44, .ref h0_45, .int h0_46, .int h0_47, .int h0_48])), (a1, .inl (yb, 2020, .inl (upd fx41 (5 : Int32).toNatClampNeg (vp_nar .byte zx47))))] Hx48 := hP
  have hD : va_D A [(h0, .inr (6, [.ref a1, .ref h0_1, .int 0, .int h0_3, .int h0_4, .int h0_5, .int h0_6, .int h0_7, .int h0_8, .int h0_9, .long h0_10, .ref h0_11, .ref h0_12, .ref h0_13, .ref h0_14, .ref h0_15, .ref h0_16, .ref h0_17, .ref h0_18, .ref h0_19, .ref h0_20, .ref h0_21, .ref h0_22, .ref h0_23, .ref h0_24, .ref h0_25, .int h0_26, .int h0_27, .int h0_28, .int h0_29, .int h0_30, .int h0_31, .ref h0_32, .ref h0_33, .ref h0_34, .ref h0_35, .ref h0_36, .ref h0_37, .ref h0_38, .int h0_39, .ref h0_40, .ref h0_41, .ref h0_42, .ref h0_43, .ref h0_44, .ref h0_45, .int h0_46, .int h0_47, .int h0_48])), (a1, .inl (yb, 2020, .inl (upd fx41 (5 : Int32).toNatClampNeg (vp_nar .byte zx47))))] := hD
  generalize (upd fx41 (5 : Int32).toNatClampNeg (vp_nar .byte zx47)) = fx49 at hP hD
  refine lv_iinc (v := 6) (lv' := [(6, .int 6), (7, .int p2), (0, .ref h0), (1, .int p1), (2, .int p2), (3, .int p3), (4, .int p4), (5, .int p5)]) hx hb dX7_feed_99 hl (k := 1) rfl (by decide) (by decide) rfl (fun ls hl => ?_)
  refine lv_goto (tgt := 18) hx hb dX7_feed_102 (by decide) ?_
  refine lv_iload hx hb dX7_feed_18 (lv_at hl 0 rfl) ?_
  refine lv_bipush (v := 20) hx hb dX7_feed_20 (by decide) ?_
  refine lv_icmp_ge (tgt := 105) hx hb dX7_feed_22 (by decide) (fun hc => absurd hc (by decide)) (fun _ => ?_)
  refine lv_iload hx hb dX7_feed_25 (lv_at hl 0 rfl) ?_
  refine lv_iconst (v := 4) hx hb dX7_feed_27 (by decide) ?_
  refine lv_icmp_ge (tgt := 35) hx hb dX7_feed_28 (by decide) (fun _ => ?_) (fun hc => absurd (by decide) hc)
  refine lv_iload hx hb dX7_feed_35 (lv_at hl 0 rfl) ?_
  refine lv_bipush (v := 8) hx hb dX7_feed_37 (by decide) ?_
  refine lv_icmp_ge (tgt := 46) hx hb dX7_feed_39 (by decide) (fun hc => absurd hc (by decide)) (fun _ => ?_)
  refine lv_iload_n hx hb dX7_feed_42 rfl (lv_at hl 4 rfl) ?_
  refine lv_goto (tgt := 71) hx hb dX7_feed_43 (by decide) ?_
  refine lv_istore (lv' := [(7, .int p2), (6, .int 6), (0, .ref h0), (1, .int p1), (2, .int p2), (3, .int p3), (4, .int p4), (5, .int p5)]) hx hb dX7_feed_71 hl (by decide) rfl (fun ls hl => ?_)
  refine lv_aload_n hx hb dX7_feed_73 rfl (lv_at hl 2 rfl) ?_
  refine va_get (D := (dC, dI)) (ci := 6) (v := .ref a1) (C := RX7) (T := TX7) (N := 49) hx hb hts inX7_ hown hK hP 0 rfl rfl 0 (by decide) (hts (.fieldLink RX7 7 "GateWheelModel" "tape" "[B") (List.mem_of_getElem? (i := 2) rfl)) (fun _ h9 => h9) rfl dX7_feed_74 ?_
  refine lv_aload_n hx hb dX7_feed_77 rfl (lv_at hl 2 rfl) ?_
  refine va_get (D := (dC, dI)) (ci := 6) (v := .int 0) (C := RX7) (T := TX7) (N := 49) hx hb hts inX7_ hown hK hP 0 rfl rfl 2 (by decide) (hts (.fieldLink RX7 249 "GateWheelModel" "taped" "I") (List.mem_of_getElem? (i := 1) rfl)) (fun _ h9 => h9) rfl dX7_feed_78 ?_
  refine lv_iload hx hb dX7_feed_81 (lv_at hl 1 rfl) ?_
  refine lv_iadd hx hb dX7_feed_83 ?_
  refine lv_topi (fun zx50 ezx50 => ?_)
  obtain rfl : zx50 = 6 := by rw [ezx50]; decide
  refine lv_iload hx hb dX7_feed_84 (lv_at hl 0 rfl) ?_
  refine lv_bipush (v := 24) hx hb dX7_feed_86 (by decide) ?_
  refine lv_bipush (v := 8) hx hb dX7_feed_88 (by decide) ?_
  refine lv_iload hx hb dX7_feed_90 (lv_at hl 1 rfl) ?_
  refine lv_iconst (v := 3) hx hb dX7_feed_92 (by decide) ?_
  refine lv_iand hx hb dX7_feed_93 ?_
  refine lv_topi (fun zx51 ezx51 => ?_)
  obtain rfl : zx51 = 2 := by rw [ezx51]; decide
  refine lv_imul hx hb dX7_feed_94 ?_
  refine lv_topi (fun zx52 ezx52 => ?_)
  obtain rfl : zx52 = 16 := by rw [ezx52]; decide
  refine lv_isub hx hb dX7_feed_95 ?_
  refine lv_topi (fun zx53 ezx53 => ?_)
  obtain rfl : zx53 = 8 := by rw [ezx53]; decide
  refine lv_ishr hx hb dX7_feed_96 ?_
  refine lv_topi (fun zx54 ezx54 => ?_)
  refine lv_i2b hx hb dX7_feed_97 rfl ?_
  refine lv_topi (fun zx55 ezx55 => ?_)
  refine va_bast hx hb hK hP hD hS 1 0 rfl rfl (by unfold vp_in; decide) dX7_feed_98 (fun Hx56 locs hP hD hS => ?_)
  have hP : va_P (dC, dI) vwCl [(h0, .inr (6, [.ref a1, .ref h0_1, .int 0, .int h0_3, .int h0_4, .int h0_5, .int h0_6, .int h0_7, .int h0_8, .int h0_9, .long h0_10, .ref h0_11, .ref h0_12, .ref h0_13, .ref h0_14, .ref h0_15, .ref h0_16, .ref h0_17, .ref h0_18, .ref h0_19, .ref h0_20, .ref h0_21, .ref h0_22, .ref h0_23, .ref h0_24, .ref h0_25, .int h0_26, .int h0_27, .int h0_28, .int h0_29, .int h0_30, .int h0_31, .ref h0_32, .ref h0_33, .ref h0_34, .ref h0_35, .ref h0_36, .ref h0_37, .ref h0_38, .int h0_39, .ref h0_40, .ref h0_41, .ref h0_42, .ref h0_43, .ref h0_44, .ref h0_45, .int h0_46, .int h0_47, .int h0_48])), (a1, .inl (yb, 2020, .inl (upd fx49 (6 : Int32).toNatClampNeg (vp_nar .byte zx55))))] Hx56 := hP
  have hD : va_D A [(h0, .inr (6, [.ref a1, .ref h0_1, .int 0, .int h0_3, .int h0_4, .int h0_5, .int h0_6, .int h0_7, .int h0_8, .int h0_9, .long h0_10, .ref h0_11, .ref h0_12, .ref h0_13, .ref h0_14, .ref h0_15, .ref h0_16, .ref h0_17, .ref h0_18, .ref h0_19, .ref h0_20, .ref h0_21, .ref h0_22, .ref h0_23, .ref h0_24, .ref h0_25, .int h0_26, .int h0_27, .int h0_28, .int h0_29, .int h0_30, .int h0_31, .ref h0_32, .ref h0_33, .ref h0_34, .ref h0_35, .ref h0_36, .ref h0_37, .ref h0_38, .int h0_39, .ref h0_40, .ref h0_41, .ref h0_42, .ref h0_43, .ref h0_44, .ref h0_45, .int h0_46, .int h0_47, .int h0_48])), (a1, .inl (yb, 2020, .inl (upd fx49 (6 : Int32).toNatClampNeg (vp_nar .byte zx55))))] := hD
  generalize (upd fx49 (6 : Int32).toNatClampNeg (vp_nar .byte zx55)) = fx57 at hP hD
  refine lv_iinc (v := 7) (lv' := [(6, .int 7), (7, .int p2), (0, .ref h0), (1, .int p1), (2, .int p2), (3, .int p3), (4, .int p4), (5, .int p5)]) hx hb dX7_feed_99 hl (k := 1) rfl (by decide) (by decide) rfl (fun ls hl => ?_)
  refine lv_goto (tgt := 18) hx hb dX7_feed_102 (by decide) ?_
  refine lv_iload hx hb dX7_feed_18 (lv_at hl 0 rfl) ?_
  refine lv_bipush (v := 20) hx hb dX7_feed_20 (by decide) ?_
  refine lv_icmp_ge (tgt := 105) hx hb dX7_feed_22 (by decide) (fun hc => absurd hc (by decide)) (fun _ => ?_)
  refine lv_iload hx hb dX7_feed_25 (lv_at hl 0 rfl) ?_
  refine lv_iconst (v := 4) hx hb dX7_feed_27 (by decide) ?_
  refine lv_icmp_ge (tgt := 35) hx hb dX7_feed_28 (by decide) (fun _ => ?_) (fun hc => absurd (by decide) hc)
  refine lv_iload hx hb dX7_feed_35 (lv_at hl 0 rfl) ?_
  refine lv_bipush (v := 8) hx hb dX7_feed_37 (by decide) ?_
  refine lv_icmp_ge (tgt := 46) hx hb dX7_feed_39 (by decide) (fun hc => absurd hc (by decide)) (fun _ => ?_)
  refine lv_iload_n hx hb dX7_feed_42 rfl (lv_at hl 4 rfl) ?_
  refine lv_goto (tgt := 71) hx hb dX7_feed_43 (by decide) ?_
  refine lv_istore (lv' := [(7, .int p2), (6, .int 7), (0, .ref h0), (1, .int p1), (2, .int p2), (3, .int p3), (4, .int p4), (5, .int p5)]) hx hb dX7_feed_71 hl (by decide) rfl (fun ls hl => ?_)
  refine lv_aload_n hx hb dX7_feed_73 rfl (lv_at hl 2 rfl) ?_
  refine va_get (D := (dC, dI)) (ci := 6) (v := .ref a1) (C := RX7) (T := TX7) (N := 49) hx hb hts inX7_ hown hK hP 0 rfl rfl 0 (by decide) (hts (.fieldLink RX7 7 "GateWheelModel" "tape" "[B") (List.mem_of_getElem? (i := 2) rfl)) (fun _ h9 => h9) rfl dX7_feed_74 ?_
  refine lv_aload_n hx hb dX7_feed_77 rfl (lv_at hl 2 rfl) ?_
  refine va_get (D := (dC, dI)) (ci := 6) (v := .int 0) (C := RX7) (T := TX7) (N := 49) hx hb hts inX7_ hown hK hP 0 rfl rfl 2 (by decide) (hts (.fieldLink RX7 249 "GateWheelModel" "taped" "I") (List.mem_of_getElem? (i := 1) rfl)) (fun _ h9 => h9) rfl dX7_feed_78 ?_
  refine lv_iload hx hb dX7_feed_81 (lv_at hl 1 rfl) ?_
  refine lv_iadd hx hb dX7_feed_83 ?_
  refine lv_topi (fun zx58 ezx58 => ?_)
  obtain rfl : zx58 = 7 := by rw [ezx58]; decide
  refine lv_iload hx hb dX7_feed_84 (lv_at hl 0 rfl) ?_
  refine lv_bipush (v := 24) hx hb dX7_feed_86 (by decide) ?_
  refine lv_bipush (v := 8) hx hb dX7_feed_88 (by decide) ?_
  refine lv_iload hx hb dX7_feed_90 (lv_at hl 1 rfl) ?_
  refine lv_iconst (v := 3) hx hb dX7_feed_92 (by decide) ?_
  refine lv_iand hx hb dX7_feed_93 ?_
  refine lv_topi (fun zx59 ezx59 => ?_)
  obtain rfl : zx59 = 3 := by rw [ezx59]; decide
  refine lv_imul hx hb dX7_feed_94 ?_
  refine lv_topi (fun zx60 ezx60 => ?_)
  obtain rfl : zx60 = 24 := by rw [ezx60]; decide
  refine lv_isub hx hb dX7_feed_95 ?_
  refine lv_topi (fun zx61 ezx61 => ?_)
  obtain rfl : zx61 = 0 := by rw [ezx61]; decide
  refine lv_ishr hx hb dX7_feed_96 ?_
  refine lv_topi (fun zx62 ezx62 => ?_)
  refine lv_i2b hx hb dX7_feed_97 rfl ?_
  refine lv_topi (fun zx63 ezx63 => ?_)
  refine va_bast hx hb hK hP hD hS 1 0 rfl rfl (by unfold vp_in; decide) dX7_feed_98 (fun Hx64 locs hP hD hS => ?_)
  have hP : va_P (dC, dI) vwCl [(h0, .inr (6, [.ref a1, .ref h0_1, .int 0, .int h0_3, .int h0_4, .int h0_5, .int h0_6, .int h0_7, .int h0_8, .int h0_9, .long h0_10, .ref h0_11, .ref h0_12, .ref h0_13, .ref h0_14, .ref h0_15, .ref h0_16, .ref h0_17, .ref h0_18, .ref h0_19, .ref h0_20, .ref h0_21, .ref h0_22, .ref h0_23, .ref h0_24, .ref h0_25, .int h0_26, .int h0_27, .int h0_28, .int h0_29, .int h0_30, .int h0_31, .ref h0_32, .ref h0_33, .ref h0_34, .ref h0_35, .ref h0_36, .ref h0_37, .ref h0_38, .int h0_39, .ref h0_40, .ref h0_41, .ref h0_42, .ref h0_43, .ref h0_44, .ref h0_45, .int h0_46, .int h0_47, .int h0_48])), (a1, .inl (yb, 2020, .inl (upd fx57 (7 : Int32).toNatClampNeg (vp_nar .byte zx63))))] Hx64 := hP
  have hD : va_D A [(h0, .inr (6, [.ref a1, .ref h0_1, .int 0, .int h0_3, .int h0_4, .int h0_5, .int h0_6, .int h0_7, .int h0_8, .int h0_9, .long h0_10, .ref h0_11, .ref h0_12, .ref h0_13, .ref h0_14, .ref h0_15, .ref h0_16, .ref h0_17, .ref h0_18, .ref h0_19, .ref h0_20, .ref h0_21, .ref h0_22, .ref h0_23, .ref h0_24, .ref h0_25, .int h0_26, .int h0_27, .int h0_28, .int h0_29, .int h0_30, .int h0_31, .ref h0_32, .ref h0_33, .ref h0_34, .ref h0_35, .ref h0_36, .ref h0_37, .ref h0_38, .int h0_39, .ref h0_40, .ref h0_41, .ref h0_42, .ref h0_43, .ref h0_44, .ref h0_45, .int h0_46, .int h0_47, .int h0_48])), (a1, .inl (yb, 2020, .inl (upd fx57 (7 : Int32).toNatClampNeg (vp_nar .byte zx63))))] := hD
  generalize (upd fx57 (7 : Int32).toNatClampNeg (vp_nar .byte zx63)) = fx65 at hP hD
  refine lv_iinc (v := 8) (lv' := [(6, .int 8), (7, .int p2), (0, .ref h0), (1, .int p1), (2, .int p2), (3, .int p3), (4, .int p4), (5, .int p5)]) hx hb dX7_feed_99 hl (k := 1) rfl (by decide) (by decide) rfl (fun ls hl => ?_)
  refine lv_goto (tgt := 18) hx hb dX7_feed_102 (by decide) ?_
  refine lv_iload hx hb dX7_feed_18 (lv_at hl 0 rfl) ?_
  refine lv_bipush (v := 20) hx hb dX7_feed_20 (by decide) ?_
  refine lv_icmp_ge (tgt := 105) hx hb dX7_feed_22 (by decide) (fun hc => absurd hc (by decide)) (fun _ => ?_)
  refine lv_iload hx hb dX7_feed_25 (lv_at hl 0 rfl) ?_
  refine lv_iconst (v := 4) hx hb dX7_feed_27 (by decide) ?_
  refine lv_icmp_ge (tgt := 35) hx hb dX7_feed_28 (by decide) (fun _ => ?_) (fun hc => absurd (by decide) hc)
  refine lv_iload hx hb dX7_feed_35 (lv_at hl 0 rfl) ?_
  refine lv_bipush (v := 8) hx hb dX7_feed_37 (by decide) ?_
  refine lv_icmp_ge (tgt := 46) hx hb dX7_feed_39 (by decide) (fun _ => ?_) (fun hc => absurd (by decide) hc)
  refine lv_iload hx hb dX7_feed_46 (lv_at hl 0 rfl) ?_
  refine lv_bipush (v := 12) hx hb dX7_feed_48 (by decide) ?_
  refine lv_icmp_ge (tgt := 57) hx hb dX7_feed_50 (by decide) (fun hc => absurd hc (by decide)) (fun _ => ?_)
  refine lv_iload_n hx hb dX7_feed_53 rfl (lv_at hl 5 rfl) ?_
  refine lv_goto (tgt := 71) hx hb dX7_feed_54 (by decide) ?_
  refine lv_istore (lv' := [(7, .int p3), (6, .int 8), (0, .ref h0), (1, .int p1), (2, .int p2), (3, .int p3), (4, .int p4), (5, .int p5)]) hx hb dX7_feed_71 hl (by decide) rfl (fun ls hl => ?_)
  refine lv_aload_n hx hb dX7_feed_73 rfl (lv_at hl 2 rfl) ?_
  refine va_get (D := (dC, dI)) (ci := 6) (v := .ref a1) (C := RX7) (T := TX7) (N := 49) hx hb hts inX7_ hown hK hP 0 rfl rfl 0 (by decide) (hts (.fieldLink RX7 7 "GateWheelModel" "tape" "[B") (List.mem_of_getElem? (i := 2) rfl)) (fun _ h9 => h9) rfl dX7_feed_74 ?_
  refine lv_aload_n hx hb dX7_feed_77 rfl (lv_at hl 2 rfl) ?_
  refine va_get (D := (dC, dI)) (ci := 6) (v := .int 0) (C := RX7) (T := TX7) (N := 49) hx hb hts inX7_ hown hK hP 0 rfl rfl 2 (by decide) (hts (.fieldLink RX7 249 "GateWheelModel" "taped" "I") (List.mem_of_getElem? (i := 1) rfl)) (fun _ h9 => h9) rfl dX7_feed_78 ?_
  refine lv_iload hx hb dX7_feed_81 (lv_at hl 1 rfl) ?_
  refine lv_iadd hx hb dX7_feed_83 ?_
  refine lv_topi (fun zx66 ezx66 => ?_)
  obtain rfl : zx66 = 8 := by rw [ezx66]; decide
  refine lv_iload hx hb dX7_feed_84 (lv_at hl 0 rfl) ?_
  refine lv_bipush (v := 24) hx hb dX7_feed_86 (by decide) ?_
  refine lv_bipush (v := 8) hx hb dX7_feed_88 (by decide) ?_
  refine lv_iload hx hb dX7_feed_90 (lv_at hl 1 rfl) ?_
  refine lv_iconst (v := 3) hx hb dX7_feed_92 (by decide) ?_
  refine lv_iand hx hb dX7_feed_93 ?_
  refine lv_topi (fun zx67 ezx67 => ?_)
  obtain rfl : zx67 = 0 := by rw [ezx67]; decide
  refine lv_imul hx hb dX7_feed_94 ?_
  refine lv_topi (fun zx68 ezx68 => ?_)
  obtain rfl : zx68 = 0 := by rw [ezx68]; decide
  refine lv_isub hx hb dX7_feed_95 ?_
  refine lv_topi (fun zx69 ezx69 => ?_)
  obtain rfl : zx69 = 24 := by rw [ezx69]; decide
  refine lv_ishr hx hb dX7_feed_96 ?_
  refine lv_topi (fun zx70 ezx70 => ?_)
  refine lv_i2b hx hb dX7_feed_97 rfl ?_
  refine lv_topi (fun zx71 ezx71 => ?_)
  refine va_bast hx hb hK hP hD hS 1 0 rfl rfl (by unfold vp_in; decide) dX7_feed_98 (fun Hx72 locs hP hD hS => ?_)
  have hP : va_P (dC, dI) vwCl [(h0, .inr (6, [.ref a1, .ref h0_1, .int 0, .int h0_3, .int h0_4, .int h0_5, .int h0_6, .int h0_7, .int h0_8, .int h0_9, .long h0_10, .ref h0_11, .ref h0_12, .ref h0_13, .ref h0_14, .ref h0_15, .ref h0_16, .ref h0_17, .ref h0_18, .ref h0_19, .ref h0_20, .ref h0_21, .ref h0_22, .ref h0_23, .ref h0_24, .ref h0_25, .int h0_26, .int h0_27, .int h0_28, .int h0_29, .int h0_30, .int h0_31, .ref h0_32, .ref h0_33, .ref h0_34, .ref h0_35, .ref h0_36, .ref h0_37, .ref h0_38, .int h0_39, .ref h0_40, .ref h0_41, .ref h0_42, .ref h0_43, .ref h0_44, .ref h0_45, .int h0_46, .int h0_47, .int h0_48])), (a1, .inl (yb, 2020, .inl (upd fx65 (8 : Int32).toNatClampNeg (vp_nar .byte zx71))))] Hx72 := hP
  have hD : va_D A [(h0, .inr (6, [.ref a1, .ref h0_1, .int 0, .int h0_3, .int h0_4, .int h0_5, .int h0_6, .int h0_7, .int h0_8, .int h0_9, .long h0_10, .ref h0_11, .ref h0_12, .ref h0_13, .ref h0_14, .ref h0_15, .ref h0_16, .ref h0_17, .ref h0_18, .ref h0_19, .ref h0_20, .ref h0_21, .ref h0_22, .ref h0_23, .ref h0_24, .ref h0_25, .int h0_26, .int h0_27, .int h0_28, .int h0_29, .int h0_30, .int h0_31, .ref h0_32, .ref h0_33, .ref h0_34, .ref h0_35, .ref h0_36, .ref h0_37, .ref h0_38, .int h0_39, .ref h0_40, .ref h0_41, .ref h0_42, .ref h0_43, .ref h0_44, .ref h0_45, .int h0_46, .int h0_47, .int h0_48])), (a1, .inl (yb, 2020, .inl (upd fx65 (8 : Int32).toNatClampNeg (vp_nar .byte zx71))))] := hD
  generalize (upd fx65 (8 : Int32).toNatClampNeg (vp_nar .byte zx71)) = fx73 at hP hD
  refine lv_iinc (v := 9) (lv' := [(6, .int 9), (7, .int p3), (0, .ref h0), (1, .int p1), (2, .int p2), (3, .int p3), (4, .int p4), (5, .int p5)]) hx hb dX7_feed_99 hl (k := 1) rfl (by decide) (by decide) rfl (fun ls hl => ?_)
  refine lv_goto (tgt := 18) hx hb dX7_feed_102 (by decide) ?_
  refine lv_iload hx hb dX7_feed_18 (lv_at hl 0 rfl) ?_
  refine lv_bipush (v := 20) hx hb dX7_feed_20 (by decide) ?_
  refine lv_icmp_ge (tgt := 105) hx hb dX7_feed_22 (by decide) (fun hc => absurd hc (by decide)) (fun _ => ?_)
  refine lv_iload hx hb dX7_feed_25 (lv_at hl 0 rfl) ?_
  refine lv_iconst (v := 4) hx hb dX7_feed_27 (by decide) ?_
  refine lv_icmp_ge (tgt := 35) hx hb dX7_feed_28 (by decide) (fun _ => ?_) (fun hc => absurd (by decide) hc)
  refine lv_iload hx hb dX7_feed_35 (lv_at hl 0 rfl) ?_
  refine lv_bipush (v := 8) hx hb dX7_feed_37 (by decide) ?_
  refine lv_icmp_ge (tgt := 46) hx hb dX7_feed_39 (by decide) (fun _ => ?_) (fun hc => absurd (by decide) hc)
  refine lv_iload hx hb dX7_feed_46 (lv_at hl 0 rfl) ?_
  refine lv_bipush (v := 12) hx hb dX7_feed_48 (by decide) ?_
  refine lv_icmp_ge (tgt := 57) hx hb dX7_feed_50 (by decide) (fun hc => absurd hc (by decide)) (fun _ => ?_)
  refine lv_iload_n hx hb dX7_feed_53 rfl (lv_at hl 5 rfl) ?_
  refine lv_goto (tgt := 71) hx hb dX7_feed_54 (by decide) ?_
  refine lv_istore (lv' := [(7, .int p3), (6, .int 9), (0, .ref h0), (1, .int p1), (2, .int p2), (3, .int p3), (4, .int p4), (5, .int p5)]) hx hb dX7_feed_71 hl (by decide) rfl (fun ls hl => ?_)
  refine lv_aload_n hx hb dX7_feed_73 rfl (lv_at hl 2 rfl) ?_
  refine va_get (D := (dC, dI)) (ci := 6) (v := .ref a1) (C := RX7) (T := TX7) (N := 49) hx hb hts inX7_ hown hK hP 0 rfl rfl 0 (by decide) (hts (.fieldLink RX7 7 "GateWheelModel" "tape" "[B") (List.mem_of_getElem? (i := 2) rfl)) (fun _ h9 => h9) rfl dX7_feed_74 ?_
  refine lv_aload_n hx hb dX7_feed_77 rfl (lv_at hl 2 rfl) ?_
  refine va_get (D := (dC, dI)) (ci := 6) (v := .int 0) (C := RX7) (T := TX7) (N := 49) hx hb hts inX7_ hown hK hP 0 rfl rfl 2 (by decide) (hts (.fieldLink RX7 249 "GateWheelModel" "taped" "I") (List.mem_of_getElem? (i := 1) rfl)) (fun _ h9 => h9) rfl dX7_feed_78 ?_
  refine lv_iload hx hb dX7_feed_81 (lv_at hl 1 rfl) ?_
  refine lv_iadd hx hb dX7_feed_83 ?_
  refine lv_topi (fun zx74 ezx74 => ?_)
  obtain rfl : zx74 = 9 := by rw [ezx74]; decide
  refine lv_iload hx hb dX7_feed_84 (lv_at hl 0 rfl) ?_
  refine lv_bipush (v := 24) hx hb dX7_feed_86 (by decide) ?_
  refine lv_bipush (v := 8) hx hb dX7_feed_88 (by decide) ?_
  refine lv_iload hx hb dX7_feed_90 (lv_at hl 1 rfl) ?_
  refine lv_iconst (v := 3) hx hb dX7_feed_92 (by decide) ?_
  refine lv_iand hx hb dX7_feed_93 ?_
  refine lv_topi (fun zx75 ezx75 => ?_)
  obtain rfl : zx75 = 1 := by rw [ezx75]; decide
  refine lv_imul hx hb dX7_feed_94 ?_
  refine lv_topi (fun zx76 ezx76 => ?_)
  obtain rfl : zx76 = 8 := by rw [ezx76]; decide
  refine lv_isub hx hb dX7_feed_95 ?_
  refine lv_topi (fun zx77 ezx77 => ?_)
  obtain rfl : zx77 = 16 := by rw [ezx77]; decide
  refine lv_ishr hx hb dX7_feed_96 ?_
  refine lv_topi (fun zx78 ezx78 => ?_)
  refine lv_i2b hx hb dX7_feed_97 rfl ?_
  refine lv_topi (fun zx79 ezx79 => ?_)
  refine va_bast hx hb hK hP hD hS 1 0 rfl rfl (by unfold vp_in; decide) dX7_feed_98 (fun Hx80 locs hP hD hS => ?_)
  have hP : va_P (dC, dI) vwCl [(h0, .inr (6, [.ref a1, .ref h0_1, .int 0, .int h0_3, .int h0_4, .int h0_5, .int h0_6, .int h0_7, .int h0_8, .int h0_9, .long h0_10, .ref h0_11, .ref h0_12, .ref h0_13, .ref h0_14, .ref h0_15, .ref h0_16, .ref h0_17, .ref h0_18, .ref h0_19, .ref h0_20, .ref h0_21, .ref h0_22, .ref h0_23, .ref h0_24, .ref h0_25, .int h0_26, .int h0_27, .int h0_28, .int h0_29, .int h0_30, .int h0_31, .ref h0_32, .ref h0_33, .ref h0_34, .ref h0_35, .ref h0_36, .ref h0_37, .ref h0_38, .int h0_39, .ref h0_40, .ref h0_41, .ref h0_42, .ref h0_43, .ref h0_44, .ref h0_45, .int h0_46, .int h0_47, .int h0_48])), (a1, .inl (yb, 2020, .inl (upd fx73 (9 : Int32).toNatClampNeg (vp_nar .byte zx79))))] Hx80 := hP
  have hD : va_D A [(h0, .inr (6, [.ref a1, .ref h0_1, .int 0, .int h0_3, .int h0_4, .int h0_5, .int h0_6, .int h0_7, .int h0_8, .int h0_9, .long h0_10, .ref h0_11, .ref h0_12, .ref h0_13, .ref h0_14, .ref h0_15, .ref h0_16, .ref h0_17, .ref h0_18, .ref h0_19, .ref h0_20, .ref h0_21, .ref h0_22, .ref h0_23, .ref h0_24, .ref h0_25, .int h0_26, .int h0_27, .int h0_28, .int h0_29, .int h0_30, .int h0_31, .ref h0_32, .ref h0_33, .ref h0_34, .ref h0_35, .ref h0_36, .ref h0_37, .ref h0_38, .int h0_39, .ref h0_40, .ref h0_41, .ref h0_42, .ref h0_43, .ref h0_44, .ref h0_45, .int h0_46, .int h0_47, .int h0_48])), (a1, .inl (yb, 2020, .inl (upd fx73 (9 : Int32).toNatClampNeg (vp_nar .byte zx79))))] := hD
  generalize (upd fx73 (9 : Int32).toNatClampNeg (vp_nar .byte zx79)) = fx81 at hP hD
  refine lv_iinc (v := 10) (lv' := [(6, .int 10), (7, .int p3), (0, .ref h0), (1, .int p1), (2, .int p2), (3, .int p3), (4, .int p4), (5, .int p5)]) hx hb dX7_feed_99 hl (k := 1) rfl (by decide) (by decide) rfl (fun ls hl => ?_)
  refine lv_goto (tgt := 18) hx hb dX7_feed_102 (by decide) ?_
  refine lv_iload hx hb dX7_feed_18 (lv_at hl 0 rfl) ?_
  refine lv_bipush (v := 20) hx hb dX7_feed_20 (by decide) ?_
  refine lv_icmp_ge (tgt := 105) hx hb dX7_feed_22 (by decide) (fun hc => absurd hc (by decide)) (fun _ => ?_)
  refine lv_iload hx hb dX7_feed_25 (lv_at hl 0 rfl) ?_
  refine lv_iconst (v := 4) hx hb dX7_feed_27 (by decide) ?_
  refine lv_icmp_ge (tgt := 35) hx hb dX7_feed_28 (by decide) (fun _ => ?_) (fun hc => absurd (by decide) hc)
  refine lv_iload hx hb dX7_feed_35 (lv_at hl 0 rfl) ?_
  refine lv_bipush (v := 8) hx hb dX7_feed_37 (by decide) ?_
  refine lv_icmp_ge (tgt := 46) hx hb dX7_feed_39 (by decide) (fun _ => ?_) (fun hc => absurd (by decide) hc)
  refine lv_iload hx hb dX7_feed_46 (lv_at hl 0 rfl) ?_
  refine lv_bipush (v := 12) hx hb dX7_feed_48 (by decide) ?_
  refine lv_icmp_ge (tgt := 57) hx hb dX7_feed_50 (by decide) (fun hc => absurd hc (by decide)) (fun _ => ?_)
  refine lv_iload_n hx hb dX7_feed_53 rfl (lv_at hl 5 rfl) ?_
  refine lv_goto (tgt := 71) hx hb dX7_feed_54 (by decide) ?_
  refine lv_istore (lv' := [(7, .int p3), (6, .int 10), (0, .ref h0), (1, .int p1), (2, .int p2), (3, .int p3), (4, .int p4), (5, .int p5)]) hx hb dX7_feed_71 hl (by decide) rfl (fun ls hl => ?_)
  refine lv_aload_n hx hb dX7_feed_73 rfl (lv_at hl 2 rfl) ?_
  refine va_get (D := (dC, dI)) (ci := 6) (v := .ref a1) (C := RX7) (T := TX7) (N := 49) hx hb hts inX7_ hown hK hP 0 rfl rfl 0 (by decide) (hts (.fieldLink RX7 7 "GateWheelModel" "tape" "[B") (List.mem_of_getElem? (i := 2) rfl)) (fun _ h9 => h9) rfl dX7_feed_74 ?_
  refine lv_aload_n hx hb dX7_feed_77 rfl (lv_at hl 2 rfl) ?_
  refine va_get (D := (dC, dI)) (ci := 6) (v := .int 0) (C := RX7) (T := TX7) (N := 49) hx hb hts inX7_ hown hK hP 0 rfl rfl 2 (by decide) (hts (.fieldLink RX7 249 "GateWheelModel" "taped" "I") (List.mem_of_getElem? (i := 1) rfl)) (fun _ h9 => h9) rfl dX7_feed_78 ?_
  refine lv_iload hx hb dX7_feed_81 (lv_at hl 1 rfl) ?_
  refine lv_iadd hx hb dX7_feed_83 ?_
  refine lv_topi (fun zx82 ezx82 => ?_)
  obtain rfl : zx82 = 10 := by rw [ezx82]; decide
  refine lv_iload hx hb dX7_feed_84 (lv_at hl 0 rfl) ?_
  refine lv_bipush (v := 24) hx hb dX7_feed_86 (by decide) ?_
  refine lv_bipush (v := 8) hx hb dX7_feed_88 (by decide) ?_
  refine lv_iload hx hb dX7_feed_90 (lv_at hl 1 rfl) ?_
  refine lv_iconst (v := 3) hx hb dX7_feed_92 (by decide) ?_
  refine lv_iand hx hb dX7_feed_93 ?_
  refine lv_topi (fun zx83 ezx83 => ?_)
  obtain rfl : zx83 = 2 := by rw [ezx83]; decide
  refine lv_imul hx hb dX7_feed_94 ?_
  refine lv_topi (fun zx84 ezx84 => ?_)
  obtain rfl : zx84 = 16 := by rw [ezx84]; decide
  refine lv_isub hx hb dX7_feed_95 ?_
  refine lv_topi (fun zx85 ezx85 => ?_)
  obtain rfl : zx85 = 8 := by rw [ezx85]; decide
  refine lv_ishr hx hb dX7_feed_96 ?_
  refine lv_topi (fun zx86 ezx86 => ?_)
  refine lv_i2b hx hb dX7_feed_97 rfl ?_
  refine lv_topi (fun zx87 ezx87 => ?_)
  refine va_bast hx hb hK hP hD hS 1 0 rfl rfl (by unfold vp_in; decide) dX7_feed_98 (fun Hx88 locs hP hD hS => ?_)
  have hP : va_P (dC, dI) vwCl [(h0, .inr (6, [.ref a1, .ref h0_1, .int 0, .int h0_3, .int h0_4, .int h0_5, .int h0_6, .int h0_7, .int h0_8, .int h0_9, .long h0_10, .ref h0_11, .ref h0_12, .ref h0_13, .ref h0_14, .ref h0_15, .ref h0_16, .ref h0_17, .ref h0_18, .ref h0_19, .ref h0_20, .ref h0_21, .ref h0_22, .ref h0_23, .ref h0_24, .ref h0_25, .int h0_26, .int h0_27, .int h0_28, .int h0_29, .int h0_30, .int h0_31, .ref h0_32, .ref h0_33, .ref h0_34, .ref h0_35, .ref h0_36, .ref h0_37, .ref h0_38, .int h0_39, .ref h0_40, .ref h0_41, .ref h0_42, .ref h0_43, .ref h0_44, .ref h0_45, .int h0_46, .int h0_47, .int h0_48])), (a1, .inl (yb, 2020, .inl (upd fx81 (10 : Int32).toNatClampNeg (vp_nar .byte zx87))))] Hx88 := hP
  have hD : va_D A [(h0, .inr (6, [.ref a1, .ref h0_1, .int 0, .int h0_3, .int h0_4, .int h0_5, .int h0_6, .int h0_7, .int h0_8, .int h0_9, .long h0_10, .ref h0_11, .ref h0_12, .ref h0_13, .ref h0_14, .ref h0_15, .ref h0_16, .ref h0_17, .ref h0_18, .ref h0_19, .ref h0_20, .ref h0_21, .ref h0_22, .ref h0_23, .ref h0_24, .ref h0_25, .int h0_26, .int h0_27, .int h0_28, .int h0_29, .int h0_30, .int h0_31, .ref h0_32, .ref h0_33, .ref h0_34, .ref h0_35, .ref h0_36, .ref h0_37, .ref h0_38, .int h0_39, .ref h0_40, .ref h0_41, .ref h0_42, .ref h0_43, .ref h0_44, .ref h0_45, .int h0_46, .int h0_47, .int h0_48])), (a1, .inl (yb, 2020, .inl (upd fx81 (10 : Int32).toNatClampNeg (vp_nar .byte zx87))))] := hD
  generalize (upd fx81 (10 : Int32).toNatClampNeg (vp_nar .byte zx87)) = fx89 at hP hD
  refine lv_iinc (v := 11) (lv' := [(6, .int 11), (7, .int p3), (0, .ref h0), (1, .int p1), (2, .int p2), (3, .int p3), (4, .int p4), (5, .int p5)]) hx hb dX7_feed_99 hl (k := 1) rfl (by decide) (by decide) rfl (fun ls hl => ?_)
  refine lv_goto (tgt := 18) hx hb dX7_feed_102 (by decide) ?_
  refine lv_iload hx hb dX7_feed_18 (lv_at hl 0 rfl) ?_
  refine lv_bipush (v := 20) hx hb dX7_feed_20 (by decide) ?_
  refine lv_icmp_ge (tgt := 105) hx hb dX7_feed_22 (by decide) (fun hc => absurd hc (by decide)) (fun _ => ?_)
  refine lv_iload hx hb dX7_feed_25 (lv_at hl 0 rfl) ?_
  refine lv_iconst (v := 4) hx hb dX7_feed_27 (by decide) ?_
  refine lv_icmp_ge (tgt := 35) hx hb dX7_feed_28 (by decide) (fun _ => ?_) (fun hc => absurd (by decide) hc)
  refine lv_iload hx hb dX7_feed_35 (lv_at hl 0 rfl) ?_
  refine lv_bipush (v := 8) hx hb dX7_feed_37 (by decide) ?_
  refine lv_icmp_ge (tgt := 46) hx hb dX7_feed_39 (by decide) (fun _ => ?_) (fun hc => absurd (by decide) hc)
  refine lv_iload hx hb dX7_feed_46 (lv_at hl 0 rfl) ?_
  refine lv_bipush (v := 12) hx hb dX7_feed_48 (by decide) ?_
  refine lv_icmp_ge (tgt := 57) hx hb dX7_feed_50 (by decide) (fun hc => absurd hc (by decide)) (fun _ => ?_)
  refine lv_iload_n hx hb dX7_feed_53 rfl (lv_at hl 5 rfl) ?_
  refine lv_goto (tgt := 71) hx hb dX7_feed_54 (by decide) ?_
  refine lv_istore (lv' := [(7, .int p3), (6, .int 11), (0, .ref h0), (1, .int p1), (2, .int p2), (3, .int p3), (4, .int p4), (5, .int p5)]) hx hb dX7_feed_71 hl (by decide) rfl (fun ls hl => ?_)
  refine lv_aload_n hx hb dX7_feed_73 rfl (lv_at hl 2 rfl) ?_
  refine va_get (D := (dC, dI)) (ci := 6) (v := .ref a1) (C := RX7) (T := TX7) (N := 49) hx hb hts inX7_ hown hK hP 0 rfl rfl 0 (by decide) (hts (.fieldLink RX7 7 "GateWheelModel" "tape" "[B") (List.mem_of_getElem? (i := 2) rfl)) (fun _ h9 => h9) rfl dX7_feed_74 ?_
  refine lv_aload_n hx hb dX7_feed_77 rfl (lv_at hl 2 rfl) ?_
  refine va_get (D := (dC, dI)) (ci := 6) (v := .int 0) (C := RX7) (T := TX7) (N := 49) hx hb hts inX7_ hown hK hP 0 rfl rfl 2 (by decide) (hts (.fieldLink RX7 249 "GateWheelModel" "taped" "I") (List.mem_of_getElem? (i := 1) rfl)) (fun _ h9 => h9) rfl dX7_feed_78 ?_
  refine lv_iload hx hb dX7_feed_81 (lv_at hl 1 rfl) ?_
  refine lv_iadd hx hb dX7_feed_83 ?_
  refine lv_topi (fun zx90 ezx90 => ?_)
  obtain rfl : zx90 = 11 := by rw [ezx90]; decide
  refine lv_iload hx hb dX7_feed_84 (lv_at hl 0 rfl) ?_
  refine lv_bipush (v := 24) hx hb dX7_feed_86 (by decide) ?_
  refine lv_bipush (v := 8) hx hb dX7_feed_88 (by decide) ?_
  refine lv_iload hx hb dX7_feed_90 (lv_at hl 1 rfl) ?_
  refine lv_iconst (v := 3) hx hb dX7_feed_92 (by decide) ?_
  refine lv_iand hx hb dX7_feed_93 ?_
  refine lv_topi (fun zx91 ezx91 => ?_)
  obtain rfl : zx91 = 3 := by rw [ezx91]; decide
  refine lv_imul hx hb dX7_feed_94 ?_
  refine lv_topi (fun zx92 ezx92 => ?_)
  obtain rfl : zx92 = 24 := by rw [ezx92]; decide
  refine lv_isub hx hb dX7_feed_95 ?_
  refine lv_topi (fun zx93 ezx93 => ?_)
  obtain rfl : zx93 = 0 := by rw [ezx93]; decide
  refine lv_ishr hx hb dX7_feed_96 ?_
  refine lv_topi (fun zx94 ezx94 => ?_)
  refine lv_i2b hx hb dX7_feed_97 rfl ?_
  refine lv_topi (fun zx95 ezx95 => ?_)
  refine va_bast hx hb hK hP hD hS 1 0 rfl rfl (by unfold vp_in; decide) dX7_feed_98 (fun Hx96 locs hP hD hS => ?_)
  have hP : va_P (dC, dI) vwCl [(h0, .inr (6, [.ref a1, .ref h0_1, .int 0, .int h0_3, .int h0_4, .int h0_5, .int h0_6, .int h0_7, .int h0_8, .int h0_9, .long h0_10, .ref h0_11, .ref h0_12, .ref h0_13, .ref h0_14, .ref h0_15, .ref h0_16, .ref h0_17, .ref h0_18, .ref h0_19, .ref h0_20, .ref h0_21, .ref h0_22, .ref h0_23, .ref h0_24, .ref h0_25, .int h0_26, .int h0_27, .int h0_28, .int h0_29, .int h0_30, .int h0_31, .ref h0_32, .ref h0_33, .ref h0_34, .ref h0_35, .ref h0_36, .ref h0_37, .ref h0_38, .int h0_39, .ref h0_40, .ref h0_41, .ref h0_42, .ref h0_43, .ref h0_44, .ref h0_45, .int h0_46, .int h0_47, .int h0_48])), (a1, .inl (yb, 2020, .inl (upd fx89 (11 : Int32).toNatClampNeg (vp_nar .byte zx95))))] Hx96 := hP
  have hD : va_D A [(h0, .inr (6, [.ref a1, .ref h0_1, .int 0, .int h0_3, .int h0_4, .int h0_5, .int h0_6, .int h0_7, .int h0_8, .int h0_9, .long h0_10, .ref h0_11, .ref h0_12, .ref h0_13, .ref h0_14, .ref h0_15, .ref h0_16, .ref h0_17, .ref h0_18, .ref h0_19, .ref h0_20, .ref h0_21, .ref h0_22, .ref h0_23, .ref h0_24, .ref h0_25, .int h0_26, .int h0_27, .int h0_28, .int h0_29, .int h0_30, .int h0_31, .ref h0_32, .ref h0_33, .ref h0_34, .ref h0_35, .ref h0_36, .ref h0_37, .ref h0_38, .int h0_39, .ref h0_40, .ref h0_41, .ref h0_42, .ref h0_43, .ref h0_44, .ref h0_45, .int h0_46, .int h0_47, .int h0_48])), (a1, .inl (yb, 2020, .inl (upd fx89 (11 : Int32).toNatClampNeg (vp_nar .byte zx95))))] := hD
  generalize (upd fx89 (11 : Int32).toNatClampNeg (vp_nar .byte zx95)) = fx97 at hP hD
  refine lv_iinc (v := 12) (lv' := [(6, .int 12), (7, .int p3), (0, .ref h0), (1, .int p1), (2, .int p2), (3, .int p3), (4, .int p4), (5, .int p5)]) hx hb dX7_feed_99 hl (k := 1) rfl (by decide) (by decide) rfl (fun ls hl => ?_)
  refine lv_goto (tgt := 18) hx hb dX7_feed_102 (by decide) ?_
  refine lv_iload hx hb dX7_feed_18 (lv_at hl 0 rfl) ?_
  refine lv_bipush (v := 20) hx hb dX7_feed_20 (by decide) ?_
  refine lv_icmp_ge (tgt := 105) hx hb dX7_feed_22 (by decide) (fun hc => absurd hc (by decide)) (fun _ => ?_)
  refine lv_iload hx hb dX7_feed_25 (lv_at hl 0 rfl) ?_
  refine lv_iconst (v := 4) hx hb dX7_feed_27 (by decide) ?_
  refine lv_icmp_ge (tgt := 35) hx hb dX7_feed_28 (by decide) (fun _ => ?_) (fun hc => absurd (by decide) hc)
  refine lv_iload hx hb dX7_feed_35 (lv_at hl 0 rfl) ?_
  refine lv_bipush (v := 8) hx hb dX7_feed_37 (by decide) ?_
  refine lv_icmp_ge (tgt := 46) hx hb dX7_feed_39 (by decide) (fun _ => ?_) (fun hc => absurd (by decide) hc)
  refine lv_iload hx hb dX7_feed_46 (lv_at hl 0 rfl) ?_
  refine lv_bipush (v := 12) hx hb dX7_feed_48 (by decide) ?_
  refine lv_icmp_ge (tgt := 57) hx hb dX7_feed_50 (by decide) (fun _ => ?_) (fun hc => absurd (by decide) hc)
  refine lv_iload hx hb dX7_feed_57 (lv_at hl 0 rfl) ?_
  refine lv_bipush (v := 16) hx hb dX7_feed_59 (by decide) ?_
  refine lv_icmp_ge (tgt := 69) hx hb dX7_feed_61 (by decide) (fun hc => absurd hc (by decide)) (fun _ => ?_)
  refine lv_iload hx hb dX7_feed_64 (lv_at hl 6 rfl) ?_
  refine lv_goto (tgt := 71) hx hb dX7_feed_66 (by decide) ?_
  refine lv_istore (lv' := [(7, .int p4), (6, .int 12), (0, .ref h0), (1, .int p1), (2, .int p2), (3, .int p3), (4, .int p4), (5, .int p5)]) hx hb dX7_feed_71 hl (by decide) rfl (fun ls hl => ?_)
  refine lv_aload_n hx hb dX7_feed_73 rfl (lv_at hl 2 rfl) ?_
  refine va_get (D := (dC, dI)) (ci := 6) (v := .ref a1) (C := RX7) (T := TX7) (N := 49) hx hb hts inX7_ hown hK hP 0 rfl rfl 0 (by decide) (hts (.fieldLink RX7 7 "GateWheelModel" "tape" "[B") (List.mem_of_getElem? (i := 2) rfl)) (fun _ h9 => h9) rfl dX7_feed_74 ?_
  refine lv_aload_n hx hb dX7_feed_77 rfl (lv_at hl 2 rfl) ?_
  refine va_get (D := (dC, dI)) (ci := 6) (v := .int 0) (C := RX7) (T := TX7) (N := 49) hx hb hts inX7_ hown hK hP 0 rfl rfl 2 (by decide) (hts (.fieldLink RX7 249 "GateWheelModel" "taped" "I") (List.mem_of_getElem? (i := 1) rfl)) (fun _ h9 => h9) rfl dX7_feed_78 ?_
  refine lv_iload hx hb dX7_feed_81 (lv_at hl 1 rfl) ?_
  refine lv_iadd hx hb dX7_feed_83 ?_
  refine lv_topi (fun zx98 ezx98 => ?_)
  obtain rfl : zx98 = 12 := by rw [ezx98]; decide
  refine lv_iload hx hb dX7_feed_84 (lv_at hl 0 rfl) ?_
  refine lv_bipush (v := 24) hx hb dX7_feed_86 (by decide) ?_
  refine lv_bipush (v := 8) hx hb dX7_feed_88 (by decide) ?_
  refine lv_iload hx hb dX7_feed_90 (lv_at hl 1 rfl) ?_
  refine lv_iconst (v := 3) hx hb dX7_feed_92 (by decide) ?_
  refine lv_iand hx hb dX7_feed_93 ?_
  refine lv_topi (fun zx99 ezx99 => ?_)
  obtain rfl : zx99 = 0 := by rw [ezx99]; decide
  refine lv_imul hx hb dX7_feed_94 ?_
  refine lv_topi (fun zx100 ezx100 => ?_)
  obtain rfl : zx100 = 0 := by rw [ezx100]; decide
  refine lv_isub hx hb dX7_feed_95 ?_
  refine lv_topi (fun zx101 ezx101 => ?_)
  obtain rfl : zx101 = 24 := by rw [ezx101]; decide
  refine lv_ishr hx hb dX7_feed_96 ?_
  refine lv_topi (fun zx102 ezx102 => ?_)
  refine lv_i2b hx hb dX7_feed_97 rfl ?_
  refine lv_topi (fun zx103 ezx103 => ?_)
  refine va_bast hx hb hK hP hD hS 1 0 rfl rfl (by unfold vp_in; decide) dX7_feed_98 (fun Hx104 locs hP hD hS => ?_)
  have hP : va_P (dC, dI) vwCl [(h0, .inr (6, [.ref a1, .ref h0_1, .int 0, .int h0_3, .int h0_4, .int h0_5, .int h0_6, .int h0_7, .int h0_8, .int h0_9, .long h0_10, .ref h0_11, .ref h0_12, .ref h0_13, .ref h0_14, .ref h0_15, .ref h0_16, .ref h0_17, .ref h0_18, .ref h0_19, .ref h0_20, .ref h0_21, .ref h0_22, .ref h0_23, .ref h0_24, .ref h0_25, .int h0_26, .int h0_27, .int h0_28, .int h0_29, .int h0_30, .int h0_31, .ref h0_32, .ref h0_33, .ref h0_34, .ref h0_35, .ref h0_36, .ref h0_37, .ref h0_38, .int h0_39, .ref h0_40, .ref h0_41, .ref h0_42, .ref h0_43, .ref h0_44, .ref h0_45, .int h0_46, .int h0_47, .int h0_48])), (a1, .inl (yb, 2020, .inl (upd fx97 (12 : Int32).toNatClampNeg (vp_nar .byte zx103))))] Hx104 := hP
  have hD : va_D A [(h0, .inr (6, [.ref a1, .ref h0_1, .int 0, .int h0_3, .int h0_4, .int h0_5, .int h0_6, .int h0_7, .int h0_8, .int h0_9, .long h0_10, .ref h0_11, .ref h0_12, .ref h0_13, .ref h0_14, .ref h0_15, .ref h0_16, .ref h0_17, .ref h0_18, .ref h0_19, .ref h0_20, .ref h0_21, .ref h0_22, .ref h0_23, .ref h0_24, .ref h0_25, .int h0_26, .int h0_27, .int h0_28, .int h0_29, .int h0_30, .int h0_31, .ref h0_32, .ref h0_33, .ref h0_34, .ref h0_35, .ref h0_36, .ref h0_37, .ref h0_38, .int h0_39, .ref h0_40, .ref h0_41, .ref h0_42, .ref h0_43, .ref h0_44, .ref h0_45, .int h0_46, .int h0_47, .int h0_48])), (a1, .inl (yb, 2020, .inl (upd fx97 (12 : Int32).toNatClampNeg (vp_nar .byte zx103))))] := hD
  generalize (upd fx97 (12 : Int32).toNatClampNeg (vp_nar .byte zx103)) = fx105 at hP hD
  refine lv_iinc (v := 13) (lv' := [(6, .int 13), (7, .int p4), (0, .ref h0), (1, .int p1), (2, .int p2), (3, .int p3), (4, .int p4), (5, .int p5)]) hx hb dX7_feed_99 hl (k := 1) rfl (by decide) (by decide) rfl (fun ls hl => ?_)
  refine lv_goto (tgt := 18) hx hb dX7_feed_102 (by decide) ?_
  refine lv_iload hx hb dX7_feed_18 (lv_at hl 0 rfl) ?_
  refine lv_bipush (v := 20) hx hb dX7_feed_20 (by decide) ?_
  refine lv_icmp_ge (tgt := 105) hx hb dX7_feed_22 (by decide) (fun hc => absurd hc (by decide)) (fun _ => ?_)
  refine lv_iload hx hb dX7_feed_25 (lv_at hl 0 rfl) ?_
  refine lv_iconst (v := 4) hx hb dX7_feed_27 (by decide) ?_
  refine lv_icmp_ge (tgt := 35) hx hb dX7_feed_28 (by decide) (fun _ => ?_) (fun hc => absurd (by decide) hc)
  refine lv_iload hx hb dX7_feed_35 (lv_at hl 0 rfl) ?_
  refine lv_bipush (v := 8) hx hb dX7_feed_37 (by decide) ?_
  refine lv_icmp_ge (tgt := 46) hx hb dX7_feed_39 (by decide) (fun _ => ?_) (fun hc => absurd (by decide) hc)
  refine lv_iload hx hb dX7_feed_46 (lv_at hl 0 rfl) ?_
  refine lv_bipush (v := 12) hx hb dX7_feed_48 (by decide) ?_
  refine lv_icmp_ge (tgt := 57) hx hb dX7_feed_50 (by decide) (fun _ => ?_) (fun hc => absurd (by decide) hc)
  refine lv_iload hx hb dX7_feed_57 (lv_at hl 0 rfl) ?_
  refine lv_bipush (v := 16) hx hb dX7_feed_59 (by decide) ?_
  refine lv_icmp_ge (tgt := 69) hx hb dX7_feed_61 (by decide) (fun hc => absurd hc (by decide)) (fun _ => ?_)
  refine lv_iload hx hb dX7_feed_64 (lv_at hl 6 rfl) ?_
  refine lv_goto (tgt := 71) hx hb dX7_feed_66 (by decide) ?_
  refine lv_istore (lv' := [(7, .int p4), (6, .int 13), (0, .ref h0), (1, .int p1), (2, .int p2), (3, .int p3), (4, .int p4), (5, .int p5)]) hx hb dX7_feed_71 hl (by decide) rfl (fun ls hl => ?_)
  refine lv_aload_n hx hb dX7_feed_73 rfl (lv_at hl 2 rfl) ?_
  refine va_get (D := (dC, dI)) (ci := 6) (v := .ref a1) (C := RX7) (T := TX7) (N := 49) hx hb hts inX7_ hown hK hP 0 rfl rfl 0 (by decide) (hts (.fieldLink RX7 7 "GateWheelModel" "tape" "[B") (List.mem_of_getElem? (i := 2) rfl)) (fun _ h9 => h9) rfl dX7_feed_74 ?_
  refine lv_aload_n hx hb dX7_feed_77 rfl (lv_at hl 2 rfl) ?_
  refine va_get (D := (dC, dI)) (ci := 6) (v := .int 0) (C := RX7) (T := TX7) (N := 49) hx hb hts inX7_ hown hK hP 0 rfl rfl 2 (by decide) (hts (.fieldLink RX7 249 "GateWheelModel" "taped" "I") (List.mem_of_getElem? (i := 1) rfl)) (fun _ h9 => h9) rfl dX7_feed_78 ?_
  refine lv_iload hx hb dX7_feed_81 (lv_at hl 1 rfl) ?_
  refine lv_iadd hx hb dX7_feed_83 ?_
  refine lv_topi (fun zx106 ezx106 => ?_)
  obtain rfl : zx106 = 13 := by rw [ezx106]; decide
  refine lv_iload hx hb dX7_feed_84 (lv_at hl 0 rfl) ?_
  refine lv_bipush (v := 24) hx hb dX7_feed_86 (by decide) ?_
  refine lv_bipush (v := 8) hx hb dX7_feed_88 (by decide) ?_
  refine lv_iload hx hb dX7_feed_90 (lv_at hl 1 rfl) ?_
  refine lv_iconst (v := 3) hx hb dX7_feed_92 (by decide) ?_
  refine lv_iand hx hb dX7_feed_93 ?_
  refine lv_topi (fun zx107 ezx107 => ?_)
  obtain rfl : zx107 = 1 := by rw [ezx107]; decide
  refine lv_imul hx hb dX7_feed_94 ?_
  refine lv_topi (fun zx108 ezx108 => ?_)
  obtain rfl : zx108 = 8 := by rw [ezx108]; decide
  refine lv_isub hx hb dX7_feed_95 ?_
  refine lv_topi (fun zx109 ezx109 => ?_)
  obtain rfl : zx109 = 16 := by rw [ezx109]; decide
  refine lv_ishr hx hb dX7_feed_96 ?_
  refine lv_topi (fun zx110 ezx110 => ?_)
  refine lv_i2b hx hb dX7_feed_97 rfl ?_
  refine lv_topi (fun zx111 ezx111 => ?_)
  refine va_bast hx hb hK hP hD hS 1 0 rfl rfl (by unfold vp_in; decide) dX7_feed_98 (fun Hx112 locs hP hD hS => ?_)
  have hP : va_P (dC, dI) vwCl [(h0, .inr (6, [.ref a1, .ref h0_1, .int 0, .int h0_3, .int h0_4, .int h0_5, .int h0_6, .int h0_7, .int h0_8, .int h0_9, .long h0_10, .ref h0_11, .ref h0_12, .ref h0_13, .ref h0_14, .ref h0_15, .ref h0_16, .ref h0_17, .ref h0_18, .ref h0_19, .ref h0_20, .ref h0_21, .ref h0_22, .ref h0_23, .ref h0_24, .ref h0_25, .int h0_26, .int h0_27, .int h0_28, .int h0_29, .int h0_30, .int h0_31, .ref h0_32, .ref h0_33, .ref h0_34, .ref h0_35, .ref h0_36, .ref h0_37, .ref h0_38, .int h0_39, .ref h0_40, .ref h0_41, .ref h0_42, .ref h0_43, .ref h0_44, .ref h0_45, .int h0_46, .int h0_47, .int h0_48])), (a1, .inl (yb, 2020, .inl (upd fx105 (13 : Int32).toNatClampNeg (vp_nar .byte zx111))))] Hx112 := hP
  have hD : va_D A [(h0, .inr (6, [.ref a1, .ref h0_1, .int 0, .int h0_3, .int h0_4, .int h0_5, .int h0_6, .int h0_7, .int h0_8, .int h0_9, .long h0_10, .ref h0_11, .ref h0_12, .ref h0_13, .ref h0_14, .ref h0_15, .ref h0_16, .ref h0_17, .ref h0_18, .ref h0_19, .ref h0_20, .ref h0_21, .ref h0_22, .ref h0_23, .ref h0_24, .ref h0_25, .int h0_26, .int h0_27, .int h0_28, .int h0_29, .int h0_30, .int h0_31, .ref h0_32, .ref h0_33, .ref h0_34, .ref h0_35, .ref h0_36, .ref h0_37, .ref h0_38, .int h0_39, .ref h0_40, .ref h0_41, .ref h0_42, .ref h0_43, .ref h0_44, .ref h0_45, .int h0_46, .int h0_47, .int h0_48])), (a1, .inl (yb, 2020, .inl (upd fx105 (13 : Int32).toNatClampNeg (vp_nar .byte zx111))))] := hD
  generalize (upd fx105 (13 : Int32).toNatClampNeg (vp_nar .byte zx111)) = fx113 at hP hD
  refine lv_iinc (v := 14) (lv' := [(6, .int 14), (7, .int p4), (0, .ref h0), (1, .int p1), (2, .int p2), (3, .int p3), (4, .int p4), (5, .int p5)]) hx hb dX7_feed_99 hl (k := 1) rfl (by decide) (by decide) rfl (fun ls hl => ?_)
  refine lv_goto (tgt := 18) hx hb dX7_feed_102 (by decide) ?_
  refine lv_iload hx hb dX7_feed_18 (lv_at hl 0 rfl) ?_
  refine lv_bipush (v := 20) hx hb dX7_feed_20 (by decide) ?_
  refine lv_icmp_ge (tgt := 105) hx hb dX7_feed_22 (by decide) (fun hc => absurd hc (by decide)) (fun _ => ?_)
  refine lv_iload hx hb dX7_feed_25 (lv_at hl 0 rfl) ?_
  refine lv_iconst (v := 4) hx hb dX7_feed_27 (by decide) ?_
  refine lv_icmp_ge (tgt := 35) hx hb dX7_feed_28 (by decide) (fun _ => ?_) (fun hc => absurd (by decide) hc)
  refine lv_iload hx hb dX7_feed_35 (lv_at hl 0 rfl) ?_
  refine lv_bipush (v := 8) hx hb dX7_feed_37 (by decide) ?_
  refine lv_icmp_ge (tgt := 46) hx hb dX7_feed_39 (by decide) (fun _ => ?_) (fun hc => absurd (by decide) hc)
  refine lv_iload hx hb dX7_feed_46 (lv_at hl 0 rfl) ?_
  refine lv_bipush (v := 12) hx hb dX7_feed_48 (by decide) ?_
  refine lv_icmp_ge (tgt := 57) hx hb dX7_feed_50 (by decide) (fun _ => ?_) (fun hc => absurd (by decide) hc)
  refine lv_iload hx hb dX7_feed_57 (lv_at hl 0 rfl) ?_
  refine lv_bipush (v := 16) hx hb dX7_feed_59 (by decide) ?_
  refine lv_icmp_ge (tgt := 69) hx hb dX7_feed_61 (by decide) (fun hc => absurd hc (by decide)) (fun _ => ?_)
  refine lv_iload hx hb dX7_feed_64 (lv_at hl 6 rfl) ?_
  refine lv_goto (tgt := 71) hx hb dX7_feed_66 (by decide) ?_
  refine lv_istore (lv' := [(7, .int p4), (6, .int 14), (0, .ref h0), (1, .int p1), (2, .int p2), (3, .int p3), (4, .int p4), (5, .int p5)]) hx hb dX7_feed_71 hl (by decide) rfl (fun ls hl => ?_)
  refine lv_aload_n hx hb dX7_feed_73 rfl (lv_at hl 2 rfl) ?_
  refine va_get (D := (dC, dI)) (ci := 6) (v := .ref a1) (C := RX7) (T := TX7) (N := 49) hx hb hts inX7_ hown hK hP 0 rfl rfl 0 (by decide) (hts (.fieldLink RX7 7 "GateWheelModel" "tape" "[B") (List.mem_of_getElem? (i := 2) rfl)) (fun _ h9 => h9) rfl dX7_feed_74 ?_
  refine lv_aload_n hx hb dX7_feed_77 rfl (lv_at hl 2 rfl) ?_
  refine va_get (D := (dC, dI)) (ci := 6) (v := .int 0) (C := RX7) (T := TX7) (N := 49) hx hb hts inX7_ hown hK hP 0 rfl rfl 2 (by decide) (hts (.fieldLink RX7 249 "GateWheelModel" "taped" "I") (List.mem_of_getElem? (i := 1) rfl)) (fun _ h9 => h9) rfl dX7_feed_78 ?_
  refine lv_iload hx hb dX7_feed_81 (lv_at hl 1 rfl) ?_
  refine lv_iadd hx hb dX7_feed_83 ?_
  refine lv_topi (fun zx114 ezx114 => ?_)
  obtain rfl : zx114 = 14 := by rw [ezx114]; decide
  refine lv_iload hx hb dX7_feed_84 (lv_at hl 0 rfl) ?_
  refine lv_bipush (v := 24) hx hb dX7_feed_86 (by decide) ?_
  refine lv_bipush (v := 8) hx hb dX7_feed_88 (by decide) ?_
  refine lv_iload hx hb dX7_feed_90 (lv_at hl 1 rfl) ?_
  refine lv_iconst (v := 3) hx hb dX7_feed_92 (by decide) ?_
  refine lv_iand hx hb dX7_feed_93 ?_
  refine lv_topi (fun zx115 ezx115 => ?_)
  obtain rfl : zx115 = 2 := by rw [ezx115]; decide
  refine lv_imul hx hb dX7_feed_94 ?_
  refine lv_topi (fun zx116 ezx116 => ?_)
  obtain rfl : zx116 = 16 := by rw [ezx116]; decide
  refine lv_isub hx hb dX7_feed_95 ?_
  refine lv_topi (fun zx117 ezx117 => ?_)
  obtain rfl : zx117 = 8 := by rw [ezx117]; decide
  refine lv_ishr hx hb dX7_feed_96 ?_
  refine lv_topi (fun zx118 ezx118 => ?_)
  refine lv_i2b hx hb dX7_feed_97 rfl ?_
  refine lv_topi (fun zx119 ezx119 => ?_)
  refine va_bast hx hb hK hP hD hS 1 0 rfl rfl (by unfold vp_in; decide) dX7_feed_98 (fun Hx120 locs hP hD hS => ?_)
  have hP : va_P (dC, dI) vwCl [(h0, .inr (6, [.ref a1, .ref h0_1, .int 0, .int h0_3, .int h0_4, .int h0_5, .int h0_6, .int h0_7, .int h0_8, .int h0_9, .long h0_10, .ref h0_11, .ref h0_12, .ref h0_13, .ref h0_14, .ref h0_15, .ref h0_16, .ref h0_17, .ref h0_18, .ref h0_19, .ref h0_20, .ref h0_21, .ref h0_22, .ref h0_23, .ref h0_24, .ref h0_25, .int h0_26, .int h0_27, .int h0_28, .int h0_29, .int h0_30, .int h0_31, .ref h0_32, .ref h0_33, .ref h0_34, .ref h0_35, .ref h0_36, .ref h0_37, .ref h0_38, .int h0_39, .ref h0_40, .ref h0_41, .ref h0_42, .ref h0_43, .ref h0_44, .ref h0_45, .int h0_46, .int h0_47, .int h0_48])), (a1, .inl (yb, 2020, .inl (upd fx113 (14 : Int32).toNatClampNeg (vp_nar .byte zx119))))] Hx120 := hP
  have hD : va_D A [(h0, .inr (6, [.ref a1, .ref h0_1, .int 0, .int h0_3, .int h0_4, .int h0_5, .int h0_6, .int h0_7, .int h0_8, .int h0_9, .long h0_10, .ref h0_11, .ref h0_12, .ref h0_13, .ref h0_14, .ref h0_15, .ref h0_16, .ref h0_17, .ref h0_18, .ref h0_19, .ref h0_20, .ref h0_21, .ref h0_22, .ref h0_23, .ref h0_24, .ref h0_25, .int h0_26, .int h0_27, .int h0_28, .int h0_29, .int h0_30, .int h0_31, .ref h0_32, .ref h0_33, .ref h0_34, .ref h0_35, .ref h0_36, .ref h0_37, .ref h0_38, .int h0_39, .ref h0_40, .ref h0_41, .ref h0_42, .ref h0_43, .ref h0_44, .ref h0_45, .int h0_46, .int h0_47, .int h0_48])), (a1, .inl (yb, 2020, .inl (upd fx113 (14 : Int32).toNatClampNeg (vp_nar .byte zx119))))] := hD
  generalize (upd fx113 (14 : Int32).toNatClampNeg (vp_nar .byte zx119)) = fx121 at hP hD
  refine lv_iinc (v := 15) (lv' := [(6, .int 15), (7, .int p4), (0, .ref h0), (1, .int p1), (2, .int p2), (3, .int p3), (4, .int p4), (5, .int p5)]) hx hb dX7_feed_99 hl (k := 1) rfl (by decide) (by decide) rfl (fun ls hl => ?_)
  refine lv_goto (tgt := 18) hx hb dX7_feed_102 (by decide) ?_
  refine lv_iload hx hb dX7_feed_18 (lv_at hl 0 rfl) ?_
  refine lv_bipush (v := 20) hx hb dX7_feed_20 (by decide) ?_
  refine lv_icmp_ge (tgt := 105) hx hb dX7_feed_22 (by decide) (fun hc => absurd hc (by decide)) (fun _ => ?_)
  refine lv_iload hx hb dX7_feed_25 (lv_at hl 0 rfl) ?_
  refine lv_iconst (v := 4) hx hb dX7_feed_27 (by decide) ?_
  refine lv_icmp_ge (tgt := 35) hx hb dX7_feed_28 (by decide) (fun _ => ?_) (fun hc => absurd (by decide) hc)
  refine lv_iload hx hb dX7_feed_35 (lv_at hl 0 rfl) ?_
  refine lv_bipush (v := 8) hx hb dX7_feed_37 (by decide) ?_
  refine lv_icmp_ge (tgt := 46) hx hb dX7_feed_39 (by decide) (fun _ => ?_) (fun hc => absurd (by decide) hc)
  refine lv_iload hx hb dX7_feed_46 (lv_at hl 0 rfl) ?_
  refine lv_bipush (v := 12) hx hb dX7_feed_48 (by decide) ?_
  refine lv_icmp_ge (tgt := 57) hx hb dX7_feed_50 (by decide) (fun _ => ?_) (fun hc => absurd (by decide) hc)
  refine lv_iload hx hb dX7_feed_57 (lv_at hl 0 rfl) ?_
  refine lv_bipush (v := 16) hx hb dX7_feed_59 (by decide) ?_
  refine lv_icmp_ge (tgt := 69) hx hb dX7_feed_61 (by decide) (fun hc => absurd hc (by decide)) (fun _ => ?_)
  refine lv_iload hx hb dX7_feed_64 (lv_at hl 6 rfl) ?_
  refine lv_goto (tgt := 71) hx hb dX7_feed_66 (by decide) ?_
  refine lv_istore (lv' := [(7, .int p4), (6, .int 15), (0, .ref h0), (1, .int p1), (2, .int p2), (3, .int p3), (4, .int p4), (5, .int p5)]) hx hb dX7_feed_71 hl (by decide) rfl (fun ls hl => ?_)
  refine lv_aload_n hx hb dX7_feed_73 rfl (lv_at hl 2 rfl) ?_
  refine va_get (D := (dC, dI)) (ci := 6) (v := .ref a1) (C := RX7) (T := TX7) (N := 49) hx hb hts inX7_ hown hK hP 0 rfl rfl 0 (by decide) (hts (.fieldLink RX7 7 "GateWheelModel" "tape" "[B") (List.mem_of_getElem? (i := 2) rfl)) (fun _ h9 => h9) rfl dX7_feed_74 ?_
  refine lv_aload_n hx hb dX7_feed_77 rfl (lv_at hl 2 rfl) ?_
  refine va_get (D := (dC, dI)) (ci := 6) (v := .int 0) (C := RX7) (T := TX7) (N := 49) hx hb hts inX7_ hown hK hP 0 rfl rfl 2 (by decide) (hts (.fieldLink RX7 249 "GateWheelModel" "taped" "I") (List.mem_of_getElem? (i := 1) rfl)) (fun _ h9 => h9) rfl dX7_feed_78 ?_
  refine lv_iload hx hb dX7_feed_81 (lv_at hl 1 rfl) ?_
  refine lv_iadd hx hb dX7_feed_83 ?_
  refine lv_topi (fun zx122 ezx122 => ?_)
  obtain rfl : zx122 = 15 := by rw [ezx122]; decide
  refine lv_iload hx hb dX7_feed_84 (lv_at hl 0 rfl) ?_
  refine lv_bipush (v := 24) hx hb dX7_feed_86 (by decide) ?_
  refine lv_bipush (v := 8) hx hb dX7_feed_88 (by decide) ?_
  refine lv_iload hx hb dX7_feed_90 (lv_at hl 1 rfl) ?_
  refine lv_iconst (v := 3) hx hb dX7_feed_92 (by decide) ?_
  refine lv_iand hx hb dX7_feed_93 ?_
  refine lv_topi (fun zx123 ezx123 => ?_)
  obtain rfl : zx123 = 3 := by rw [ezx123]; decide
  refine lv_imul hx hb dX7_feed_94 ?_
  refine lv_topi (fun zx124 ezx124 => ?_)
  obtain rfl : zx124 = 24 := by rw [ezx124]; decide
  refine lv_isub hx hb dX7_feed_95 ?_
  refine lv_topi (fun zx125 ezx125 => ?_)
  obtain rfl : zx125 = 0 := by rw [ezx125]; decide
  refine lv_ishr hx hb dX7_feed_96 ?_
  refine lv_topi (fun zx126 ezx126 => ?_)
  refine lv_i2b hx hb dX7_feed_97 rfl ?_
  refine lv_topi (fun zx127 ezx127 => ?_)
  refine va_bast hx hb hK hP hD hS 1 0 rfl rfl (by unfold vp_in; decide) dX7_feed_98 (fun Hx128 locs hP hD hS => ?_)
  have hP : va_P (dC, dI) vwCl [(h0, .inr (6, [.ref a1, .ref h0_1, .int 0, .int h0_3, .int h0_4, .int h0_5, .int h0_6, .int h0_7, .int h0_8, .int h0_9, .long h0_10, .ref h0_11, .ref h0_12, .ref h0_13, .ref h0_14, .ref h0_15, .ref h0_16, .ref h0_17, .ref h0_18, .ref h0_19, .ref h0_20, .ref h0_21, .ref h0_22, .ref h0_23, .ref h0_24, .ref h0_25, .int h0_26, .int h0_27, .int h0_28, .int h0_29, .int h0_30, .int h0_31, .ref h0_32, .ref h0_33, .ref h0_34, .ref h0_35, .ref h0_36, .ref h0_37, .ref h0_38, .int h0_39, .ref h0_40, .ref h0_41, .ref h0_42, .ref h0_43, .ref h0_44, .ref h0_45, .int h0_46, .int h0_47, .int h0_48])), (a1, .inl (yb, 2020, .inl (upd fx121 (15 : Int32).toNatClampNeg (vp_nar .byte zx127))))] Hx128 := hP
  have hD : va_D A [(h0, .inr (6, [.ref a1, .ref h0_1, .int 0, .int h0_3, .int h0_4, .int h0_5, .int h0_6, .int h0_7, .int h0_8, .int h0_9, .long h0_10, .ref h0_11, .ref h0_12, .ref h0_13, .ref h0_14, .ref h0_15, .ref h0_16, .ref h0_17, .ref h0_18, .ref h0_19, .ref h0_20, .ref h0_21, .ref h0_22, .ref h0_23, .ref h0_24, .ref h0_25, .int h0_26, .int h0_27, .int h0_28, .int h0_29, .int h0_30, .int h0_31, .ref h0_32, .ref h0_33, .ref h0_34, .ref h0_35, .ref h0_36, .ref h0_37, .ref h0_38, .int h0_39, .ref h0_40, .ref h0_41, .ref h0_42, .ref h0_43, .ref h0_44, .ref h0_45, .int h0_46, .int h0_47, .int h0_48])), (a1, .inl (yb, 2020, .inl (upd fx121 (15 : Int32).toNatClampNeg (vp_nar .byte zx127))))] := hD
  generalize (upd fx121 (15 : Int32).toNatClampNeg (vp_nar .byte zx127)) = fx129 at hP hD
  refine lv_iinc (v := 16) (lv' := [(6, .int 16), (7, .int p4), (0, .ref h0), (1, .int p1), (2, .int p2), (3, .int p3), (4, .int p4), (5, .int p5)]) hx hb dX7_feed_99 hl (k := 1) rfl (by decide) (by decide) rfl (fun ls hl => ?_)
  refine lv_goto (tgt := 18) hx hb dX7_feed_102 (by decide) ?_
  refine lv_iload hx hb dX7_feed_18 (lv_at hl 0 rfl) ?_
  refine lv_bipush (v := 20) hx hb dX7_feed_20 (by decide) ?_
  refine lv_icmp_ge (tgt := 105) hx hb dX7_feed_22 (by decide) (fun hc => absurd hc (by decide)) (fun _ => ?_)
  refine lv_iload hx hb dX7_feed_25 (lv_at hl 0 rfl) ?_
  refine lv_iconst (v := 4) hx hb dX7_feed_27 (by decide) ?_
  refine lv_icmp_ge (tgt := 35) hx hb dX7_feed_28 (by decide) (fun _ => ?_) (fun hc => absurd (by decide) hc)
  refine lv_iload hx hb dX7_feed_35 (lv_at hl 0 rfl) ?_
  refine lv_bipush (v := 8) hx hb dX7_feed_37 (by decide) ?_
  refine lv_icmp_ge (tgt := 46) hx hb dX7_feed_39 (by decide) (fun _ => ?_) (fun hc => absurd (by decide) hc)
  refine lv_iload hx hb dX7_feed_46 (lv_at hl 0 rfl) ?_
  refine lv_bipush (v := 12) hx hb dX7_feed_48 (by decide) ?_
  refine lv_icmp_ge (tgt := 57) hx hb dX7_feed_50 (by decide) (fun _ => ?_) (fun hc => absurd (by decide) hc)
  refine lv_iload hx hb dX7_feed_57 (lv_at hl 0 rfl) ?_
  refine lv_bipush (v := 16) hx hb dX7_feed_59 (by decide) ?_
  refine lv_icmp_ge (tgt := 69) hx hb dX7_feed_61 (by decide) (fun _ => ?_) (fun hc => absurd (by decide) hc)
  refine lv_iload hx hb dX7_feed_69 (lv_at hl 7 rfl) ?_
  refine lv_istore (lv' := [(7, .int p5), (6, .int 16), (0, .ref h0), (1, .int p1), (2, .int p2), (3, .int p3), (4, .int p4), (5, .int p5)]) hx hb dX7_feed_71 hl (by decide) rfl (fun ls hl => ?_)
  refine lv_aload_n hx hb dX7_feed_73 rfl (lv_at hl 2 rfl) ?_
  refine va_get (D := (dC, dI)) (ci := 6) (v := .ref a1) (C := RX7) (T := TX7) (N := 49) hx hb hts inX7_ hown hK hP 0 rfl rfl 0 (by decide) (hts (.fieldLink RX7 7 "GateWheelModel" "tape" "[B") (List.mem_of_getElem? (i := 2) rfl)) (fun _ h9 => h9) rfl dX7_feed_74 ?_
  refine lv_aload_n hx hb dX7_feed_77 rfl (lv_at hl 2 rfl) ?_
  refine va_get (D := (dC, dI)) (ci := 6) (v := .int 0) (C := RX7) (T := TX7) (N := 49) hx hb hts inX7_ hown hK hP 0 rfl rfl 2 (by decide) (hts (.fieldLink RX7 249 "GateWheelModel" "taped" "I") (List.mem_of_getElem? (i := 1) rfl)) (fun _ h9 => h9) rfl dX7_feed_78 ?_
  refine lv_iload hx hb dX7_feed_81 (lv_at hl 1 rfl) ?_
  refine lv_iadd hx hb dX7_feed_83 ?_
  refine lv_topi (fun zx130 ezx130 => ?_)
  obtain rfl : zx130 = 16 := by rw [ezx130]; decide
  refine lv_iload hx hb dX7_feed_84 (lv_at hl 0 rfl) ?_
  refine lv_bipush (v := 24) hx hb dX7_feed_86 (by decide) ?_
  refine lv_bipush (v := 8) hx hb dX7_feed_88 (by decide) ?_
  refine lv_iload hx hb dX7_feed_90 (lv_at hl 1 rfl) ?_
  refine lv_iconst (v := 3) hx hb dX7_feed_92 (by decide) ?_
  refine lv_iand hx hb dX7_feed_93 ?_
  refine lv_topi (fun zx131 ezx131 => ?_)
  obtain rfl : zx131 = 0 := by rw [ezx131]; decide
  refine lv_imul hx hb dX7_feed_94 ?_
  refine lv_topi (fun zx132 ezx132 => ?_)
  obtain rfl : zx132 = 0 := by rw [ezx132]; decide
  refine lv_isub hx hb dX7_feed_95 ?_
  refine lv_topi (fun zx133 ezx133 => ?_)
  obtain rfl : zx133 = 24 := by rw [ezx133]; decide
  refine lv_ishr hx hb dX7_feed_96 ?_
  refine lv_topi (fun zx134 ezx134 => ?_)
  refine lv_i2b hx hb dX7_feed_97 rfl ?_
  refine lv_topi (fun zx135 ezx135 => ?_)
  refine va_bast hx hb hK hP hD hS 1 0 rfl rfl (by unfold vp_in; decide) dX7_feed_98 (fun Hx136 locs hP hD hS => ?_)
  have hP : va_P (dC, dI) vwCl [(h0, .inr (6, [.ref a1, .ref h0_1, .int 0, .int h0_3, .int h0_4, .int h0_5, .int h0_6, .int h0_7, .int h0_8, .int h0_9, .long h0_10, .ref h0_11, .ref h0_12, .ref h0_13, .ref h0_14, .ref h0_15, .ref h0_16, .ref h0_17, .ref h0_18, .ref h0_19, .ref h0_20, .ref h0_21, .ref h0_22, .ref h0_23, .ref h0_24, .ref h0_25, .int h0_26, .int h0_27, .int h0_28, .int h0_29, .int h0_30, .int h0_31, .ref h0_32, .ref h0_33, .ref h0_34, .ref h0_35, .ref h0_36, .ref h0_37, .ref h0_38, .int h0_39, .ref h0_40, .ref h0_41, .ref h0_42, .ref h0_43, .ref h0_44, .ref h0_45, .int h0_46, .int h0_47, .int h0_48])), (a1, .inl (yb, 2020, .inl (upd fx129 (16 : Int32).toNatClampNeg (vp_nar .byte zx135))))] Hx136 := hP
  have hD : va_D A [(h0, .inr (6, [.ref a1, .ref h0_1, .int 0, .int h0_3, .int h0_4, .int h0_5, .int h0_6, .int h0_7, .int h0_8, .int h0_9, .long h0_10, .ref h0_11, .ref h0_12, .ref h0_13, .ref h0_14, .ref h0_15, .ref h0_16, .ref h0_17, .ref h0_18, .ref h0_19, .ref h0_20, .ref h0_21, .ref h0_22, .ref h0_23, .ref h0_24, .ref h0_25, .int h0_26, .int h0_27, .int h0_28, .int h0_29, .int h0_30, .int h0_31, .ref h0_32, .ref h0_33, .ref h0_34, .ref h0_35, .ref h0_36, .ref h0_37, .ref h0_38, .int h0_39, .ref h0_40, .ref h0_41, .ref h0_42, .ref h0_43, .ref h0_44, .ref h0_45, .int h0_46, .int h0_47, .int h0_48])), (a1, .inl (yb, 2020, .inl (upd fx129 (16 : Int32).toNatClampNeg (vp_nar .byte zx135))))] := hD
  generalize (upd fx129 (16 : Int32).toNatClampNeg (vp_nar .byte zx135)) = fx137 at hP hD
  refine lv_iinc (v := 17) (lv' := [(6, .int 17), (7, .int p5), (0, .ref h0), (1, .int p1), (2, .int p2), (3, .int p3), (4, .int p4), (5, .int p5)]) hx hb dX7_feed_99 hl (k := 1) rfl (by decide) (by decide) rfl (fun ls hl => ?_)
  refine lv_goto (tgt := 18) hx hb dX7_feed_102 (by decide) ?_
  refine lv_iload hx hb dX7_feed_18 (lv_at hl 0 rfl) ?_
  refine lv_bipush (v := 20) hx hb dX7_feed_20 (by decide) ?_
  refine lv_icmp_ge (tgt := 105) hx hb dX7_feed_22 (by decide) (fun hc => absurd hc (by decide)) (fun _ => ?_)
  refine lv_iload hx hb dX7_feed_25 (lv_at hl 0 rfl) ?_
  refine lv_iconst (v := 4) hx hb dX7_feed_27 (by decide) ?_
  refine lv_icmp_ge (tgt := 35) hx hb dX7_feed_28 (by decide) (fun _ => ?_) (fun hc => absurd (by decide) hc)
  refine lv_iload hx hb dX7_feed_35 (lv_at hl 0 rfl) ?_
  refine lv_bipush (v := 8) hx hb dX7_feed_37 (by decide) ?_
  refine lv_icmp_ge (tgt := 46) hx hb dX7_feed_39 (by decide) (fun _ => ?_) (fun hc => absurd (by decide) hc)
  refine lv_iload hx hb dX7_feed_46 (lv_at hl 0 rfl) ?_
  refine lv_bipush (v := 12) hx hb dX7_feed_48 (by decide) ?_
  refine lv_icmp_ge (tgt := 57) hx hb dX7_feed_50 (by decide) (fun _ => ?_) (fun hc => absurd (by decide) hc)
  refine lv_iload hx hb dX7_feed_57 (lv_at hl 0 rfl) ?_
  refine lv_bipush (v := 16) hx hb dX7_feed_59 (by decide) ?_
  refine lv_icmp_ge (tgt := 69) hx hb dX7_feed_61 (by decide) (fun _ => ?_) (fun hc => absurd (by decide) hc)
  refine lv_iload hx hb dX7_feed_69 (lv_at hl 7 rfl) ?_
  refine lv_istore (lv' := [(7, .int p5), (6, .int 17), (0, .ref h0), (1, .int p1), (2, .int p2), (3, .int p3), (4, .int p4), (5, .int p5)]) hx hb dX7_feed_71 hl (by decide) rfl (fun ls hl => ?_)
  refine lv_aload_n hx hb dX7_feed_73 rfl (lv_at hl 2 rfl) ?_
  refine va_get (D := (dC, dI)) (ci := 6) (v := .ref a1) (C := RX7) (T := TX7) (N := 49) hx hb hts inX7_ hown hK hP 0 rfl rfl 0 (by decide) (hts (.fieldLink RX7 7 "GateWheelModel" "tape" "[B") (List.mem_of_getElem? (i := 2) rfl)) (fun _ h9 => h9) rfl dX7_feed_74 ?_
  refine lv_aload_n hx hb dX7_feed_77 rfl (lv_at hl 2 rfl) ?_
  refine va_get (D := (dC, dI)) (ci := 6) (v := .int 0) (C := RX7) (T := TX7) (N := 49) hx hb hts inX7_ hown hK hP 0 rfl rfl 2 (by decide) (hts (.fieldLink RX7 249 "GateWheelModel" "taped" "I") (List.mem_of_getElem? (i := 1) rfl)) (fun _ h9 => h9) rfl dX7_feed_78 ?_
  refine lv_iload hx hb dX7_feed_81 (lv_at hl 1 rfl) ?_
  refine lv_iadd hx hb dX7_feed_83 ?_
  refine lv_topi (fun zx138 ezx138 => ?_)
  obtain rfl : zx138 = 17 := by rw [ezx138]; decide
  refine lv_iload hx hb dX7_feed_84 (lv_at hl 0 rfl) ?_
  refine lv_bipush (v := 24) hx hb dX7_feed_86 (by decide) ?_
  refine lv_bipush (v := 8) hx hb dX7_feed_88 (by decide) ?_
  refine lv_iload hx hb dX7_feed_90 (lv_at hl 1 rfl) ?_
  refine lv_iconst (v := 3) hx hb dX7_feed_92 (by decide) ?_
  refine lv_iand hx hb dX7_feed_93 ?_
  refine lv_topi (fun zx139 ezx139 => ?_)
  obtain rfl : zx139 = 1 := by rw [ezx139]; decide
  refine lv_imul hx hb dX7_feed_94 ?_
  refine lv_topi (fun zx140 ezx140 => ?_)
  obtain rfl : zx140 = 8 := by rw [ezx140]; decide
  refine lv_isub hx hb dX7_feed_95 ?_
  refine lv_topi (fun zx141 ezx141 => ?_)
  obtain rfl : zx141 = 16 := by rw [ezx141]; decide
  refine lv_ishr hx hb dX7_feed_96 ?_
  refine lv_topi (fun zx142 ezx142 => ?_)
  refine lv_i2b hx hb dX7_feed_97 rfl ?_
  refine lv_topi (fun zx143 ezx143 => ?_)
  refine va_bast hx hb hK hP hD hS 1 0 rfl rfl (by unfold vp_in; decide) dX7_feed_98 (fun Hx144 locs hP hD hS => ?_)
  have hP : va_P (dC, dI) vwCl [(h0, .inr (6, [.ref a1, .ref h0_1, .int 0, .int h0_3, .int h0_4, .int h0_5, .int h0_6, .int h0_7, .int h0_8, .int h0_9, .long h0_10, .ref h0_11, .ref h0_12, .ref h0_13, .ref h0_14, .ref h0_15, .ref h0_16, .ref h0_17, .ref h0_18, .ref h0_19, .ref h0_20, .ref h0_21, .ref h0_22, .ref h0_23, .ref h0_24, .ref h0_25, .int h0_26, .int h0_27, .int h0_28, .int h0_29, .int h0_30, .int h0_31, .ref h0_32, .ref h0_33, .ref h0_34, .ref h0_35, .ref h0_36, .ref h0_37, .ref h0_38, .int h0_39, .ref h0_40, .ref h0_41, .ref h0_42, .ref h0_43, .ref h0_44, .ref h0_45, .int h0_46, .int h0_47, .int h0_48])), (a1, .inl (yb, 2020, .inl (upd fx137 (17 : Int32).toNatClampNeg (vp_nar .byte zx143))))] Hx144 := hP
  have hD : va_D A [(h0, .inr (6, [.ref a1, .ref h0_1, .int 0, .int h0_3, .int h0_4, .int h0_5, .int h0_6, .int h0_7, .int h0_8, .int h0_9, .long h0_10, .ref h0_11, .ref h0_12, .ref h0_13, .ref h0_14, .ref h0_15, .ref h0_16, .ref h0_17, .ref h0_18, .ref h0_19, .ref h0_20, .ref h0_21, .ref h0_22, .ref h0_23, .ref h0_24, .ref h0_25, .int h0_26, .int h0_27, .int h0_28, .int h0_29, .int h0_30, .int h0_31, .ref h0_32, .ref h0_33, .ref h0_34, .ref h0_35, .ref h0_36, .ref h0_37, .ref h0_38, .int h0_39, .ref h0_40, .ref h0_41, .ref h0_42, .ref h0_43, .ref h0_44, .ref h0_45, .int h0_46, .int h0_47, .int h0_48])), (a1, .inl (yb, 2020, .inl (upd fx137 (17 : Int32).toNatClampNeg (vp_nar .byte zx143))))] := hD
  generalize (upd fx137 (17 : Int32).toNatClampNeg (vp_nar .byte zx143)) = fx145 at hP hD
  refine lv_iinc (v := 18) (lv' := [(6, .int 18), (7, .int p5), (0, .ref h0), (1, .int p1), (2, .int p2), (3, .int p3), (4, .int p4), (5, .int p5)]) hx hb dX7_feed_99 hl (k := 1) rfl (by decide) (by decide) rfl (fun ls hl => ?_)
  refine lv_goto (tgt := 18) hx hb dX7_feed_102 (by decide) ?_
  refine lv_iload hx hb dX7_feed_18 (lv_at hl 0 rfl) ?_
  refine lv_bipush (v := 20) hx hb dX7_feed_20 (by decide) ?_
  refine lv_icmp_ge (tgt := 105) hx hb dX7_feed_22 (by decide) (fun hc => absurd hc (by decide)) (fun _ => ?_)
  refine lv_iload hx hb dX7_feed_25 (lv_at hl 0 rfl) ?_
  refine lv_iconst (v := 4) hx hb dX7_feed_27 (by decide) ?_
  refine lv_icmp_ge (tgt := 35) hx hb dX7_feed_28 (by decide) (fun _ => ?_) (fun hc => absurd (by decide) hc)
  refine lv_iload hx hb dX7_feed_35 (lv_at hl 0 rfl) ?_
  refine lv_bipush (v := 8) hx hb dX7_feed_37 (by decide) ?_
  refine lv_icmp_ge (tgt := 46) hx hb dX7_feed_39 (by decide) (fun _ => ?_) (fun hc => absurd (by decide) hc)
  refine lv_iload hx hb dX7_feed_46 (lv_at hl 0 rfl) ?_
  refine lv_bipush (v := 12) hx hb dX7_feed_48 (by decide) ?_
  refine lv_icmp_ge (tgt := 57) hx hb dX7_feed_50 (by decide) (fun _ => ?_) (fun hc => absurd (by decide) hc)
  refine lv_iload hx hb dX7_feed_57 (lv_at hl 0 rfl) ?_
  refine lv_bipush (v := 16) hx hb dX7_feed_59 (by decide) ?_
  refine lv_icmp_ge (tgt := 69) hx hb dX7_feed_61 (by decide) (fun _ => ?_) (fun hc => absurd (by decide) hc)
  refine lv_iload hx hb dX7_feed_69 (lv_at hl 7 rfl) ?_
  refine lv_istore (lv' := [(7, .int p5), (6, .int 18), (0, .ref h0), (1, .int p1), (2, .int p2), (3, .int p3), (4, .int p4), (5, .int p5)]) hx hb dX7_feed_71 hl (by decide) rfl (fun ls hl => ?_)
  refine lv_aload_n hx hb dX7_feed_73 rfl (lv_at hl 2 rfl) ?_
  refine va_get (D := (dC, dI)) (ci := 6) (v := .ref a1) (C := RX7) (T := TX7) (N := 49) hx hb hts inX7_ hown hK hP 0 rfl rfl 0 (by decide) (hts (.fieldLink RX7 7 "GateWheelModel" "tape" "[B") (List.mem_of_getElem? (i := 2) rfl)) (fun _ h9 => h9) rfl dX7_feed_74 ?_
  refine lv_aload_n hx hb dX7_feed_77 rfl (lv_at hl 2 rfl) ?_
  refine va_get (D := (dC, dI)) (ci := 6) (v := .int 0) (C := RX7) (T := TX7) (N := 49) hx hb hts inX7_ hown hK hP 0 rfl rfl 2 (by decide) (hts (.fieldLink RX7 249 "GateWheelModel" "taped" "I") (List.mem_of_getElem? (i := 1) rfl)) (fun _ h9 => h9) rfl dX7_feed_78 ?_
  refine lv_iload hx hb dX7_feed_81 (lv_at hl 1 rfl) ?_
  refine lv_iadd hx hb dX7_feed_83 ?_
  refine lv_topi (fun zx146 ezx146 => ?_)
  obtain rfl : zx146 = 18 := by rw [ezx146]; decide
  refine lv_iload hx hb dX7_feed_84 (lv_at hl 0 rfl) ?_
  refine lv_bipush (v := 24) hx hb dX7_feed_86 (by decide) ?_
  refine lv_bipush (v := 8) hx hb dX7_feed_88 (by decide) ?_
  refine lv_iload hx hb dX7_feed_90 (lv_at hl 1 rfl) ?_
  refine lv_iconst (v := 3) hx hb dX7_feed_92 (by decide) ?_
  refine lv_iand hx hb dX7_feed_93 ?_
  refine lv_topi (fun zx147 ezx147 => ?_)
  obtain rfl : zx147 = 2 := by rw [ezx147]; decide
  refine lv_imul hx hb dX7_feed_94 ?_
  refine lv_topi (fun zx148 ezx148 => ?_)
  obtain rfl : zx148 = 16 := by rw [ezx148]; decide
  refine lv_isub hx hb dX7_feed_95 ?_
  refine lv_topi (fun zx149 ezx149 => ?_)
  obtain rfl : zx149 = 8 := by rw [ezx149]; decide
  refine lv_ishr hx hb dX7_feed_96 ?_
  refine lv_topi (fun zx150 ezx150 => ?_)
  refine lv_i2b hx hb dX7_feed_97 rfl ?_
  refine lv_topi (fun zx151 ezx151 => ?_)
  refine va_bast hx hb hK hP hD hS 1 0 rfl rfl (by unfold vp_in; decide) dX7_feed_98 (fun Hx152 locs hP hD hS => ?_)
  have hP : va_P (dC, dI) vwCl [(h0, .inr (6, [.ref a1, .ref h0_1, .int 0, .int h0_3, .int h0_4, .int h0_5, .int h0_6, .int h0_7, .int h0_8, .int h0_9, .long h0_10, .ref h0_11, .ref h0_12, .ref h0_13, .ref h0_14, .ref h0_15, .ref h0_16, .ref h0_17, .ref h0_18, .ref h0_19, .ref h0_20, .ref h0_21, .ref h0_22, .ref h0_23, .ref h0_24, .ref h0_25, .int h0_26, .int h0_27, .int h0_28, .int h0_29, .int h0_30, .int h0_31, .ref h0_32, .ref h0_33, .ref h0_34, .ref h0_35, .ref h0_36, .ref h0_37, .ref h0_38, .int h0_39, .ref h0_40, .ref h0_41, .ref h0_42, .ref h0_43, .ref h0_44, .ref h0_45, .int h0_46, .int h0_47, .int h0_48])), (a1, .inl (yb, 2020, .inl (upd fx145 (18 : Int32).toNatClampNeg (vp_nar .byte zx151))))] Hx152 := hP
  have hD : va_D A [(h0, .inr (6, [.ref a1, .ref h0_1, .int 0, .int h0_3, .int h0_4, .int h0_5, .int h0_6, .int h0_7, .int h0_8, .int h0_9, .long h0_10, .ref h0_11, .ref h0_12, .ref h0_13, .ref h0_14, .ref h0_15, .ref h0_16, .ref h0_17, .ref h0_18, .ref h0_19, .ref h0_20, .ref h0_21, .ref h0_22, .ref h0_23, .ref h0_24, .ref h0_25, .int h0_26, .int h0_27, .int h0_28, .int h0_29, .int h0_30, .int h0_31, .ref h0_32, .ref h0_33, .ref h0_34, .ref h0_35, .ref h0_36, .ref h0_37, .ref h0_38, .int h0_39, .ref h0_40, .ref h0_41, .ref h0_42, .ref h0_43, .ref h0_44, .ref h0_45, .int h0_46, .int h0_47, .int h0_48])), (a1, .inl (yb, 2020, .inl (upd fx145 (18 : Int32).toNatClampNeg (vp_nar .byte zx151))))] := hD
  generalize (upd fx145 (18 : Int32).toNatClampNeg (vp_nar .byte zx151)) = fx153 at hP hD
  refine lv_iinc (v := 19) (lv' := [(6, .int 19), (7, .int p5), (0, .ref h0), (1, .int p1), (2, .int p2), (3, .int p3), (4, .int p4), (5, .int p5)]) hx hb dX7_feed_99 hl (k := 1) rfl (by decide) (by decide) rfl (fun ls hl => ?_)
  refine lv_goto (tgt := 18) hx hb dX7_feed_102 (by decide) ?_
  refine lv_iload hx hb dX7_feed_18 (lv_at hl 0 rfl) ?_
  refine lv_bipush (v := 20) hx hb dX7_feed_20 (by decide) ?_
  refine lv_icmp_ge (tgt := 105) hx hb dX7_feed_22 (by decide) (fun hc => absurd hc (by decide)) (fun _ => ?_)
  refine lv_iload hx hb dX7_feed_25 (lv_at hl 0 rfl) ?_
  refine lv_iconst (v := 4) hx hb dX7_feed_27 (by decide) ?_
  refine lv_icmp_ge (tgt := 35) hx hb dX7_feed_28 (by decide) (fun _ => ?_) (fun hc => absurd (by decide) hc)
  refine lv_iload hx hb dX7_feed_35 (lv_at hl 0 rfl) ?_
  refine lv_bipush (v := 8) hx hb dX7_feed_37 (by decide) ?_
  refine lv_icmp_ge (tgt := 46) hx hb dX7_feed_39 (by decide) (fun _ => ?_) (fun hc => absurd (by decide) hc)
  refine lv_iload hx hb dX7_feed_46 (lv_at hl 0 rfl) ?_
  refine lv_bipush (v := 12) hx hb dX7_feed_48 (by decide) ?_
  refine lv_icmp_ge (tgt := 57) hx hb dX7_feed_50 (by decide) (fun _ => ?_) (fun hc => absurd (by decide) hc)
  refine lv_iload hx hb dX7_feed_57 (lv_at hl 0 rfl) ?_
  refine lv_bipush (v := 16) hx hb dX7_feed_59 (by decide) ?_
  refine lv_icmp_ge (tgt := 69) hx hb dX7_feed_61 (by decide) (fun _ => ?_) (fun hc => absurd (by decide) hc)
  refine lv_iload hx hb dX7_feed_69 (lv_at hl 7 rfl) ?_
  refine lv_istore (lv' := [(7, .int p5), (6, .int 19), (0, .ref h0), (1, .int p1), (2, .int p2), (3, .int p3), (4, .int p4), (5, .int p5)]) hx hb dX7_feed_71 hl (by decide) rfl (fun ls hl => ?_)
  refine lv_aload_n hx hb dX7_feed_73 rfl (lv_at hl 2 rfl) ?_
  refine va_get (D := (dC, dI)) (ci := 6) (v := .ref a1) (C := RX7) (T := TX7) (N := 49) hx hb hts inX7_ hown hK hP 0 rfl rfl 0 (by decide) (hts (.fieldLink RX7 7 "GateWheelModel" "tape" "[B") (List.mem_of_getElem? (i := 2) rfl)) (fun _ h9 => h9) rfl dX7_feed_74 ?_
  refine lv_aload_n hx hb dX7_feed_77 rfl (lv_at hl 2 rfl) ?_
  refine va_get (D := (dC, dI)) (ci := 6) (v := .int 0) (C := RX7) (T := TX7) (N := 49) hx hb hts inX7_ hown hK hP 0 rfl rfl 2 (by decide) (hts (.fieldLink RX7 249 "GateWheelModel" "taped" "I") (List.mem_of_getElem? (i := 1) rfl)) (fun _ h9 => h9) rfl dX7_feed_78 ?_
  refine lv_iload hx hb dX7_feed_81 (lv_at hl 1 rfl) ?_
  refine lv_iadd hx hb dX7_feed_83 ?_
  refine lv_topi (fun zx154 ezx154 => ?_)
  obtain rfl : zx154 = 19 := by rw [ezx154]; decide
  refine lv_iload hx hb dX7_feed_84 (lv_at hl 0 rfl) ?_
  refine lv_bipush (v := 24) hx hb dX7_feed_86 (by decide) ?_
  refine lv_bipush (v := 8) hx hb dX7_feed_88 (by decide) ?_
  refine lv_iload hx hb dX7_feed_90 (lv_at hl 1 rfl) ?_
  refine lv_iconst (v := 3) hx hb dX7_feed_92 (by decide) ?_
  refine lv_iand hx hb dX7_feed_93 ?_
  refine lv_topi (fun zx155 ezx155 => ?_)
  obtain rfl : zx155 = 3 := by rw [ezx155]; decide
  refine lv_imul hx hb dX7_feed_94 ?_
  refine lv_topi (fun zx156 ezx156 => ?_)
  obtain rfl : zx156 = 24 := by rw [ezx156]; decide
  refine lv_isub hx hb dX7_feed_95 ?_
  refine lv_topi (fun zx157 ezx157 => ?_)
  obtain rfl : zx157 = 0 := by rw [ezx157]; decide
  refine lv_ishr hx hb dX7_feed_96 ?_
  refine lv_topi (fun zx158 ezx158 => ?_)
  refine lv_i2b hx hb dX7_feed_97 rfl ?_
  refine lv_topi (fun zx159 ezx159 => ?_)
  refine va_bast hx hb hK hP hD hS 1 0 rfl rfl (by unfold vp_in; decide) dX7_feed_98 (fun Hx160 locs hP hD hS => ?_)
  have hP : va_P (dC, dI) vwCl [(h0, .inr (6, [.ref a1, .ref h0_1, .int 0, .int h0_3, .int h0_4, .int h0_5, .int h0_6, .int h0_7, .int h0_8, .int h0_9, .long h0_10, .ref h0_11, .ref h0_12, .ref h0_13, .ref h0_14, .ref h0_15, .ref h0_16, .ref h0_17, .ref h0_18, .ref h0_19, .ref h0_20, .ref h0_21, .ref h0_22, .ref h0_23, .ref h0_24, .ref h0_25, .int h0_26, .int h0_27, .int h0_28, .int h0_29, .int h0_30, .int h0_31, .ref h0_32, .ref h0_33, .ref h0_34, .ref h0_35, .ref h0_36, .ref h0_37, .ref h0_38, .int h0_39, .ref h0_40, .ref h0_41, .ref h0_42, .ref h0_43, .ref h0_44, .ref h0_45, .int h0_46, .int h0_47, .int h0_48])), (a1, .inl (yb, 2020, .inl (upd fx153 (19 : Int32).toNatClampNeg (vp_nar .byte zx159))))] Hx160 := hP
  have hD : va_D A [(h0, .inr (6, [.ref a1, .ref h0_1, .int 0, .int h0_3, .int h0_4, .int h0_5, .int h0_6, .int h0_7, .int h0_8, .int h0_9, .long h0_10, .ref h0_11, .ref h0_12, .ref h0_13, .ref h0_14, .ref h0_15, .ref h0_16, .ref h0_17, .ref h0_18, .ref h0_19, .ref h0_20, .ref h0_21, .ref h0_22, .ref h0_23, .ref h0_24, .ref h0_25, .int h0_26, .int h0_27, .int h0_28, .int h0_29, .int h0_30, .int h0_31, .ref h0_32, .ref h0_33, .ref h0_34, .ref h0_35, .ref h0_36, .ref h0_37, .ref h0_38, .int h0_39, .ref h0_40, .ref h0_41, .ref h0_42, .ref h0_43, .ref h0_44, .ref h0_45, .int h0_46, .int h0_47, .int h0_48])), (a1, .inl (yb, 2020, .inl (upd fx153 (19 : Int32).toNatClampNeg (vp_nar .byte zx159))))] := hD
  generalize (upd fx153 (19 : Int32).toNatClampNeg (vp_nar .byte zx159)) = fx161 at hP hD
  refine lv_iinc (v := 20) (lv' := [(6, .int 20), (7, .int p5), (0, .ref h0), (1, .int p1), (2, .int p2), (3, .int p3), (4, .int p4), (5, .int p5)]) hx hb dX7_feed_99 hl (k := 1) rfl (by decide) (by decide) rfl (fun ls hl => ?_)
  refine lv_goto (tgt := 18) hx hb dX7_feed_102 (by decide) ?_
  refine lv_iload hx hb dX7_feed_18 (lv_at hl 0 rfl) ?_
  refine lv_bipush (v := 20) hx hb dX7_feed_20 (by decide) ?_
  refine lv_icmp_ge (tgt := 105) hx hb dX7_feed_22 (by decide) (fun _ => ?_) (fun hc => absurd (by decide) hc)
  refine lv_aload_n hx hb dX7_feed_105 rfl (lv_at hl 2 rfl) ?_
  refine lv_dup hx hb dX7_feed_106 rfl ?_
  refine va_get (D := (dC, dI)) (ci := 6) (v := .int 0) (C := RX7) (T := TX7) (N := 49) hx hb hts inX7_ hown hK hP 0 rfl rfl 2 (by decide) (hts (.fieldLink RX7 249 "GateWheelModel" "taped" "I") (List.mem_of_getElem? (i := 1) rfl)) (fun _ h9 => h9) rfl dX7_feed_107 ?_
  refine lv_bipush (v := 20) hx hb dX7_feed_110 (by decide) ?_
  refine lv_iadd hx hb dX7_feed_112 ?_
  refine lv_topi (fun zx162 ezx162 => ?_)
  obtain rfl : zx162 = 20 := by rw [ezx162]; decide
  refine va_put (D := (dC, dI)) (ci := 6) (v := .int 20) (ty := .int) (C := RX7) (T := TX7) (N := 49) hx hb hts inX7_ tyX7 tyX7_ok nmX7 hown hK hP hD hS 0 rfl rfl 2 (by decide) (hts (.fieldLink RX7 249 "GateWheelModel" "taped" "I") (List.mem_of_getElem? (i := 1) rfl)) (fun _ h9 => h9) rfl (by decide +kernel) rfl rfl (Nat.le_of_ble_eq_true rfl) dX7_feed_113 (fun Hx163 locs hP hD hS => ?_)
  have hP : va_P (dC, dI) vwCl [(h0, .inr (6, [.ref a1, .ref h0_1, .int 20, .int h0_3, .int h0_4, .int h0_5, .int h0_6, .int h0_7, .int h0_8, .int h0_9, .long h0_10, .ref h0_11, .ref h0_12, .ref h0_13, .ref h0_14, .ref h0_15, .ref h0_16, .ref h0_17, .ref h0_18, .ref h0_19, .ref h0_20, .ref h0_21, .ref h0_22, .ref h0_23, .ref h0_24, .ref h0_25, .int h0_26, .int h0_27, .int h0_28, .int h0_29, .int h0_30, .int h0_31, .ref h0_32, .ref h0_33, .ref h0_34, .ref h0_35, .ref h0_36, .ref h0_37, .ref h0_38, .int h0_39, .ref h0_40, .ref h0_41, .ref h0_42, .ref h0_43, .ref h0_44, .ref h0_45, .int h0_46, .int h0_47, .int h0_48])), (a1, .inl (yb, 2020, .inl fx161))] Hx163 := hP
  have hD : va_D A [(h0, .inr (6, [.ref a1, .ref h0_1, .int 20, .int h0_3, .int h0_4, .int h0_5, .int h0_6, .int h0_7, .int h0_8, .int h0_9, .long h0_10, .ref h0_11, .ref h0_12, .ref h0_13, .ref h0_14, .ref h0_15, .ref h0_16, .ref h0_17, .ref h0_18, .ref h0_19, .ref h0_20, .ref h0_21, .ref h0_22, .ref h0_23, .ref h0_24, .ref h0_25, .int h0_26, .int h0_27, .int h0_28, .int h0_29, .int h0_30, .int h0_31, .ref h0_32, .ref h0_33, .ref h0_34, .ref h0_35, .ref h0_36, .ref h0_37, .ref h0_38, .int h0_39, .ref h0_40, .ref h0_41, .ref h0_42, .ref h0_43, .ref h0_44, .ref h0_45, .int h0_46, .int h0_47, .int h0_48])), (a1, .inl (yb, 2020, .inl fx161))] := hD
  refine lv_aload_n hx hb dX7_feed_116 rfl (lv_at hl 2 rfl) ?_
  refine va_get (D := (dC, dI)) (ci := 6) (v := .int 20) (C := RX7) (T := TX7) (N := 49) hx hb hts inX7_ hown hK hP 0 rfl rfl 2 (by decide) (hts (.fieldLink RX7 249 "GateWheelModel" "taped" "I") (List.mem_of_getElem? (i := 1) rfl)) (fun _ h9 => h9) rfl dX7_feed_117 ?_
  exact W.iret (v := 20) hx hb hr (fun t ht hW => ⟨⟨20, (), rfl, rfl, trivial⟩, hS.F ht⟩) hS.2.2 dX7_feed_120
