noncomputable def b_X6_addToTape_3 (p1 : Int32) : (Int32 × SS) → Option ((Int32 × SS) ⊕ (SS)) := fun (v10, s6_11) =>
  if v10 < (0 : Int32) then some (Sum.inr s6_11)
  else if (2000 : Int32) ≤ (gI s6_11 1) then some (Sum.inr s6_11)
  else zG (vp_in (gI s6_11 1) 2000) (
  zL (sA s6_11 0 (upd (gA s6_11 0) (gI s6_11 1).toNatClampNeg (vp_nar .byte (jB (jIu p1 v10))))) (fun s6_16 =>
  zL (sI s6_16 1 ((gI s6_16 1) + (1 : Int32))) (fun s6_18 =>
  zL (v10 + Int32.ofInt (-8)) (fun v19 =>
  some (Sum.inl (v19, s6_18))))))
noncomputable def f_X6_addToTape (S6 : SS) (p1 : Int32) : Option (SS) :=
  zI (b_X6_addToTape_3 p1) zF ((24 : Int32), S6)

noncomputable def f_X6_feed (S6 : SS) (p1 : Int32) (p2 : Int32) (p3 : Int32) (p4 : Int32) (p5 : Int32) : Option (Int32 × SS) :=
  if ((gI S6 1) + (20 : Int32)) ≤ (2000 : Int32) then zB (f_X6_addToTape S6 p1) (fun (s6_2 : SS) =>
  zB (f_X6_addToTape s6_2 p2) (fun (s6_6 : SS) =>
  zB (f_X6_addToTape s6_6 p3) (fun (s6_10 : SS) =>
  zB (f_X6_addToTape s6_10 p4) (fun (s6_14 : SS) =>
  zB (f_X6_addToTape s6_14 p5) (fun (s6_18 : SS) =>
  some ((gI s6_18 1), s6_18))))))
  else some ((-1 : Int32), S6)

noncomputable def f_X6_end (S6 : SS) (p1 : Int32) : Option (Int32 × SS) :=
  if p1 < (0 : Int32) then some ((-1 : Int32), S6)
  else if p1 ≤ (gI S6 1) then zL (sI S6 1 p1) (fun s6_4 =>
  some (p1, s6_4))
  else some ((-1 : Int32), S6)

noncomputable def f_X6_fault (S6 : SS) (S3 : SS) (p1 : Int32) : Option (Int32) :=
  if p1 = (0 : Int32) then some (gI S3 0)
  else if p1 = (1 : Int32) then some (gI S3 1)
  else some (-1 : Int32)

noncomputable def f_X6_settleValues (S6 : SS) (S0 : SS) : Option (SS) :=
  zB (f_X2_settle S0 (gA S6 5)) (fun (sa_1 : (Nat → Int32)) =>
  zL (sA S6 5 sa_1) (fun s6_5 =>
  zL (sI s6_5 9 (0 : Int32)) (fun s6_7 =>
  some s6_7)))

noncomputable def b_X6_named_6 (p1 : Int64) : (Int64 × Int32) → Option ((Int64 × Int32) ⊕ (Int64)) := fun (v15, v16) =>
  if v16 < (0 : Int32) then some (Sum.inr v15)
  else zL ((jLu p1 v16) &&& (255 : Int64)) (fun v18 =>
  if (lg_cmp v18 (0 : Int64)) = (0 : Int32) then zL (v16 + Int32.ofInt (-8)) (fun v20 =>
  some (Sum.inl (v15, v20)))
  else zL ((jLs v15 (8 : Int32)) ||| v18) (fun v21 =>
  zL (v16 + Int32.ofInt (-8)) (fun v22 =>
  some (Sum.inl (v21, v22)))))
noncomputable def f_X6_named (S6 : SS) (S0 : SS) (p1 : Int64) : Option (Int32) :=
  zB (zI (b_X6_named_6 p1) zF ((0 : Int64), (56 : Int32))) (fun (v10 : Int64) =>
  zB (f_X0_find S0 v10) (fun (r11 : Int32) =>
  some r11))

noncomputable def f_X6_node (S6 : SS) (S0 : SS) (p1 : Int32) (p2 : Int32) : Option (Int32) :=
  zB (f_X0_has S0 p1) (fun (r1 : Int32) =>
  if r1 = (0 : Int32) then some (-1 : Int32)
  else if p2 = (0 : Int32) then zG (vp_in p1 60) (
  some (gA S0 4 p1.toNatClampNeg))
  else if p2 = (1 : Int32) then zB (f_X0_size S0 p1) (fun (r9 : Int32) =>
  some r9)
  else if p2 = (2 : Int32) then zG (vp_in p1 60) (
  some (gA S0 6 p1.toNatClampNeg))
  else if p2 = (3 : Int32) then zG (vp_in p1 60) (
  some (gA S0 11 p1.toNatClampNeg))
  else some (-1 : Int32))

noncomputable def f_X6_set (S6 : SS) (S0 : SS) (p1 : Int32) (p2 : Int32) : Option (Int32 × SS) :=
  zB (f_X0_isKind S0 p1 (0 : Int32)) (fun (r1 : Int32) =>
  if r1 = (0 : Int32) then some ((0 : Int32), S6)
  else if p2 < (0 : Int32) then some ((0 : Int32), S6)
  else if p2 ≤ (3 : Int32) then zG (vp_in p1 60) (
  zL (sA S6 5 (upd (gA S6 5) p1.toNatClampNeg p2)) (fun s6_10 =>
  zB (f_X6_settleValues s6_10 S0) (fun (s6_11 : SS) =>
  some ((1 : Int32), s6_11))))
  else some ((0 : Int32), S6))

noncomputable def f_X6_load (S6 : SS) (S0 : SS) (p1 : Int32) (p2 : Int32) : Option (Int32 × SS) :=
  zB (f_X0_isKind S0 p1 (3 : Int32)) (fun (r1 : Int32) =>
  if r1 = (0 : Int32) then some ((0 : Int32), S6)
  else if p2 < (0 : Int32) then some ((0 : Int32), S6)
  else if p2 ≤ (2 : Int32) then zG (vp_in p1 60) (
  zL (sA S6 5 (upd (gA S6 5) p1.toNatClampNeg p2)) (fun s6_10 =>
  zB (f_X6_settleValues s6_10 S0) (fun (s6_11 : SS) =>
  some ((1 : Int32), s6_11))))
  else some ((0 : Int32), S6))

noncomputable def f_X6_value (S6 : SS) (S0 : SS) (p1 : Int32) : Option (Int32) :=
  zB (f_X0_has S0 p1) (fun (r1 : Int32) =>
  if r1 = (0 : Int32) then some (-1 : Int32)
  else zG (vp_in p1 60) (
  some (gA S6 5 p1.toNatClampNeg)))

noncomputable def b_X6_tick_63 (S0 : SS) : (Int32 × Int32 × SS) → Option ((Int32 × Int32 × SS) ⊕ (Int32 × SS)) := fun (v26, v27, s6_28) =>
  if (gI S0 0) ≤ v27 then some (Sum.inr (v26, s6_28))
  else zG (vp_in v27 60) (
  if (gA s6_28 6 v27.toNatClampNeg) = (gA s6_28 5 v27.toNatClampNeg) then zL (v27 + 1) (fun v32 =>
  some (Sum.inl (v26, v32, s6_28)))
  else zL (v26 + 1) (fun v33 =>
  zL (sA s6_28 5 (upd (gA s6_28 5) v27.toNatClampNeg (gA s6_28 6 v27.toNatClampNeg))) (fun s6_35 =>
  zL (v27 + 1) (fun v36 =>
  some (Sum.inl (v33, v36, s6_35))))))
noncomputable def b_X6_tick_2 (S0 : SS) : (Int32 × SS) → Option ((Int32 × SS) ⊕ (SS)) := fun (v37, s6_38) =>
  if (gI S0 0) ≤ v37 then some (Sum.inr s6_38)
  else zG (vp_in v37 60) (
  zB (if (gA S0 4 v37.toNatClampNeg) = (3 : Int32) then zB (f_X2_afterTick S0 (gA s6_38 5) v37) (fun (r52 : Int32) =>
  some r52)
  else some (gA s6_38 5 v37.toNatClampNeg)) (fun (v47 : Int32) =>
  zL (sA s6_38 6 (upd (gA s6_38 6) v37.toNatClampNeg v47)) (fun s6_49 =>
  zL (v37 + 1) (fun v50 =>
  some (Sum.inl (v50, s6_49))))))
noncomputable def f_X6_tick (S6 : SS) (S0 : SS) : Option (Int32 × SS) :=
  zB (zI (b_X6_tick_2 S0) zF ((0 : Int32), S6)) (fun (s6_10 : SS) =>
  zB (zI (b_X6_tick_63 S0) zF ((0 : Int32), (0 : Int32), s6_10)) (fun ((v20, s6_21) : Int32 × SS) =>
  zB (f_X6_settleValues s6_21 S0) (fun (s6_22 : SS) =>
  some (v20, s6_22))))

noncomputable def b_X6_countFree_4 (S6 : SS) (S0 : SS) : (Int32 × Int32) → Option ((Int32 × Int32) ⊕ (Int32)) := fun (v10, v11) =>
  if (gI S0 0) ≤ v11 then some (Sum.inr v10)
  else zB (f_X0_isSource S0 v11) (fun (r13 : Int32) =>
  if r13 = (0 : Int32) then zL (v11 + 1) (fun v18 =>
  some (Sum.inl (v10, v18)))
  else zG (vp_in v11 60) (
  if (gA S6 5 v11.toNatClampNeg) < (2 : Int32) then zL (v11 + 1) (fun v21 =>
  some (Sum.inl (v10, v21)))
  else zL (v10 + 1) (fun v22 =>
  zL (v11 + 1) (fun v23 =>
  some (Sum.inl (v22, v23))))))
noncomputable def f_X6_countFree (S6 : SS) (S0 : SS) : Option (Int32) :=
  zI (b_X6_countFree_4 S6 S0) zF ((0 : Int32), (0 : Int32))

noncomputable def f_X6_worlds (S6 : SS) (S0 : SS) : Option (Int32) :=
  zB (f_X6_countFree S6 S0) (fun (r1 : Int32) =>
  if r1 ≤ (12 : Int32) then some ((1 : Int32) <<< (r1 &&& 31))
  else some (-2 : Int32))

noncomputable def f_X6_settleWith6 (S6 : SS) (S0 : SS) (p2 : Int32) (p3 : Int32) : Option (SS) :=
  zL (sA S6 6 (va_cpy (gA S6 5) (gA S6 6) (0 : Int32).toNatClampNeg (0 : Int32).toNatClampNeg (60 : Int32).toNatClampNeg)) (fun s6_2 =>
  zG (vp_in p2 60) (
  zL (sA s6_2 6 (upd (gA s6_2 6) p2.toNatClampNeg p3)) (fun s6_5 =>
  zB (f_X2_settle S0 (gA s6_5 6)) (fun (sa_6 : (Nat → Int32)) =>
  zL (sA s6_5 6 sa_6) (fun s6_10 =>
  some s6_10)))))

noncomputable def f_X6_settleWith7 (S6 : SS) (S0 : SS) (p2 : Int32) (p3 : Int32) : Option (SS) :=
  zL (sA S6 7 (va_cpy (gA S6 5) (gA S6 7) (0 : Int32).toNatClampNeg (0 : Int32).toNatClampNeg (60 : Int32).toNatClampNeg)) (fun s6_2 =>
  zG (vp_in p2 60) (
  zL (sA s6_2 7 (upd (gA s6_2 7) p2.toNatClampNeg p3)) (fun s6_5 =>
  zB (f_X2_settle S0 (gA s6_5 7)) (fun (sa_6 : (Nat → Int32)) =>
  zL (sA s6_5 7 sa_6) (fun s6_10 =>
  some s6_10)))))

noncomputable def b_X6_flicker_60 (S0 : SS) (s6_13 : SS) : (Int32 × Int32) → Option ((Int32 × Int32) ⊕ (Int32 × SS)) := fun (v26, v27) =>
  if (gI S0 0) ≤ v27 then some (Sum.inr ((-1 : Int32), s6_13))
  else zG (vp_in v27 60) (
  if (2 : Int32) ≤ (gA s6_13 5 v27.toNatClampNeg) then zL (v27 + 1) (fun v31 =>
  some (Sum.inl (v26, v31)))
  else if (gA s6_13 6 v27.toNatClampNeg) = (gA s6_13 5 v27.toNatClampNeg) then if (gA s6_13 7 v27.toNatClampNeg) = (2 : Int32) then if v26 = (0 : Int32) then some (Sum.inr (v27, s6_13))
  else zL (v26 + Int32.ofInt (-1)) (fun v37 =>
  zL (v27 + 1) (fun v38 =>
  some (Sum.inl (v37, v38))))
  else zL (v27 + 1) (fun v35 =>
  some (Sum.inl (v26, v35)))
  else zL (v27 + 1) (fun v33 =>
  some (Sum.inl (v26, v33))))
noncomputable def f_X6_flicker (S6 : SS) (S0 : SS) (p1 : Int32) (p2 : Int32) : Option (Int32 × SS) :=
  zB (f_X0_isKind S0 p1 (0 : Int32)) (fun (r1 : Int32) =>
  if r1 = (0 : Int32) then some ((-1 : Int32), S6)
  else zG (vp_in p1 60) (
  if (2 : Int32) ≤ (gA S6 5 p1.toNatClampNeg) then some ((-1 : Int32), S6)
  else if (0 : Int32) ≤ p2 then zB (f_X6_settleWith6 S6 S0 p1 ((1 : Int32) - (gA S6 5 p1.toNatClampNeg))) (fun (s6_9 : SS) =>
  zB (f_X6_settleWith7 s6_9 S0 p1 (2 : Int32)) (fun (s6_13 : SS) =>
  zI (b_X6_flicker_60 S0 s6_13) zF (p2, (0 : Int32))))
  else some ((-1 : Int32), S6)))

set_option maxHeartbeats 4000000 in
set_option maxRecDepth 100000 in
theorem m_X6_addToTape (l : Launch) (dC : Nat → ClassId) (dI : Nat → Nat → Nat) (y : Nat → ClassId) (a6 : Nat) (h6 : Nat → Nat) (S6 : SS) (q3 : Nat) (q0 : Nat) (q8 : Nat) (q5 : Nat) (q4 : Nat) (p1 : Int32) (sz : Nat) (o_6 : SS) (h : f_X6_addToTape S6 p1 = some o_6) : Met l yX6_addToTape wsX6_addToTape ({ frames := 0, cells := 0, slots := 0, locals := 0 }) (va_Pc [.ref a6, .int p1] (fun U => U.heap.size = sz ∧ va_P (dC, dI) vwCl (cX6 a6 h6 q3 q0 q8 q5 q4 y S6) U.heap ∧ va_K (dC, dI) vwCl [(y 0, .int), (y 1, .long), (y 2, .byte), (y 3, .boolean)] U ∧ va_D (fun _ => True) (cX6 a6 h6 q3 q0 q8 q5 q4 y S6))) (va_Qv (fun (_ : Unit) => True) (fun (_ : Unit) (t : State) => va_P (dC, dI) vwCl (cX6 a6 h6 q3 q0 q8 q5 q4 y o_6) t.heap ∧ va_K (dC, dI) vwCl [(y 0, .int), (y 1, .long), (y 2, .byte), (y 3, .boolean)] t ∧ va_D (va_A (cX6 a6 h6 q3 q0 q8 q5 q4 y S6) sz) (cX6 a6 h6 q3 q0 q8 q5 q4 y o_6)) (va_A (cX6 a6 h6 q3 q0 q8 q5 q4 y S6) sz)) 0 0 (va_A (cX6 a6 h6 q3 q0 q8 q5 q4 y S6) sz) := by
  refine Met.ofW (cc := cX6_addToTape) (maxL := 3) (ret := none) (by decide +kernel) rfl ?_
  intro p e s m args below meth c s₁ B hml hv
  obtain ⟨rfl, hsz, hP, hK, hD0⟩ := hv
  have hx := B.exec
  have hb := B.bytes
  have hr := B.returns
  have hts := atoms_spec (ws := wsX6_addToTape) B.pre
  have hown : s.vm.findClass RX6 = some m.cls := findClass_of_methodNamed B.named
  have hlocks := B.notSynchronized
  have inX6_ : ∀ w ∈ wsX60, w ∈ wsX6_addToTape := fun _ h => List.mem_cons_of_mem _ (List.mem_append_right _ h)
  subst hsz
  have hD := hD0.self (sz := s.heap.size)
  generalize hAe : va_A (cX6 a6 h6 q3 q0 q8 q5 q4 y S6) s.heap.size = A at hD ⊢
  have hA : ∀ q : Nat, s.heap.size ≤ q → A q := fun q h => by rw [← hAe]; exact Or.inr h
  have hS : va_S A s.heap s.heap [] := va_S.rf
  have hP : va_P (dC, dI) vwCl (cX6 a6 h6 q3 q0 q8 q5 q4 y S6) s.heap := hP
  have hl := lv_entry ([.ref a6, .int p1]) (n := 3) (Nat.le_of_ble_eq_true rfl)
  rw [lg_entry_eq]
  generalize (lg_sl ([.ref a6, .int p1]) ++ List.replicate (3 - (lg_sl ([.ref a6, .int p1])).length) Slot.unset).toArray = ls at hl ⊢
  have hl : lv_has ls 3 [(0, .ref a6), (1, .int p1)] := hl
  refine lv_bipush (v := 24) hx hb dX6_addToTape_0 (by decide) ?_
  refine lv_istore_n (lv' := [(2, .int 24), (0, .ref a6), (1, .int p1)]) hx hb dX6_addToTape_2 rfl hl (by decide) rfl (fun ls hl => ?_)
  refine W_abs (fun GW1 eG2 => ?_)
  have hi6 := h
  have lp4 : ∀ (n : Nat) (v10 : Int32) (s6_11 : SS) (HGW1 : Heap) (locs : List Loc) (ls : Array Slot), zI (b_X6_addToTape_3 p1) n (v10, s6_11) = some o_6 → va_P (dC, dI) vwCl (cX6 a6 h6 q3 q0 q8 q5 q4 y s6_11) HGW1 → va_D A (cX6 a6 h6 q3 q0 q8 q5 q4 y s6_11) → va_S A s.heap HGW1 locs → lv_has ls 3 [(0, .ref a6), (1, .int p1), (2, .int v10)] → GW1 HGW1 locs 0 0 (F0 m 3 ls []) := by
    intro n
    induction n with
    | zero =>
      intro v10 s6_11 HGW1 locs ls hi6 hP hD hS hl
      exact (zI_0 hi6).elim
    | succ n ihlp4 =>
      intro v10 s6_11 HGW1 locs ls hi6 hP hD hS hl
      refine (eG2 _ _ _ _ _).mpr ?_
      obtain ⟨xx9, h, hx8⟩ := zI_spec hi6
      refine lv_iload_n hx hb dX6_addToTape_3 rfl (lv_at hl 2 rfl) ?_
      refine lv_if_lt (tgt := 46) hx hb dX6_addToTape_4 (by decide) (fun c12 => ?_) (fun c12 => ?_)
      · have h := zY c12 h
        have h := congrArg some (zI_r h hx8)
        have ho0 : s6_11 = o_6 := congrArg (fun z : SS => z) (Option.some.inj h)
        exact W.vret hx hb hr (fun t ht hW => ⟨⟨(), rfl, trivial, by rw [ht]; rw [← ho0]; exact hP, va_K.moved hW.alike hK, by rw [← ho0]; exact hD⟩, hS.F ht⟩) hS.2.2 dX6_addToTape_46
      · have h := zN c12 h
        refine lv_aload_n hx hb dX6_addToTape_7 rfl (lv_at hl 0 rfl) ?_
        refine va_get (D := (dC, dI)) (ci := 5) (v := .int (gI s6_11 1)) (C := RX6) (T := TX6) (N := 12) hx hb hts inX6_ hown hK hP 0 rfl rfl 1 (by decide) (hts (.fieldLink RX6 54 "GateWheel" "tapeLength" "I") (List.mem_of_getElem? (i := 1) rfl)) (fun _ h9 => h9) rfl dX6_addToTape_8 ?_
        refine lv_sipush (v := 2000) hx hb dX6_addToTape_11 (by decide) ?_
        refine lv_icmp_ge (tgt := 46) hx hb dX6_addToTape_14 (by decide) (fun c13 => ?_) (fun c13 => ?_)
        · have h := zY c13 h
          have h := congrArg some (zI_r h hx8)
          have ho0 : s6_11 = o_6 := congrArg (fun z : SS => z) (Option.some.inj h)
          exact W.vret hx hb hr (fun t ht hW => ⟨⟨(), rfl, trivial, by rw [ht]; rw [← ho0]; exact hP, va_K.moved hW.alike hK, by rw [← ho0]; exact hD⟩, hS.F ht⟩) hS.2.2 dX6_addToTape_46
        · have h := zN c13 h
          refine lv_aload_n hx hb dX6_addToTape_17 rfl (lv_at hl 0 rfl) ?_
          refine va_get (D := (dC, dI)) (ci := 5) (v := .ref (h6 0)) (C := RX6) (T := TX6) (N := 12) hx hb hts inX6_ hown hK hP 0 rfl rfl 0 (by decide) (hts (.fieldLink RX6 9 "GateWheel" "tape" "[B") (List.mem_of_getElem? (i := 2) rfl)) (fun _ h9 => h9) rfl dX6_addToTape_18 ?_
          refine lv_aload_n hx hb dX6_addToTape_21 rfl (lv_at hl 0 rfl) ?_
          refine va_get (D := (dC, dI)) (ci := 5) (v := .int (gI s6_11 1)) (C := RX6) (T := TX6) (N := 12) hx hb hts inX6_ hown hK hP 0 rfl rfl 1 (by decide) (hts (.fieldLink RX6 54 "GateWheel" "tapeLength" "I") (List.mem_of_getElem? (i := 1) rfl)) (fun _ h9 => h9) rfl dX6_addToTape_22 ?_
          refine lv_iload_n hx hb dX6_addToTape_25 rfl (lv_at hl 1 rfl) ?_
          refine lv_iload_n hx hb dX6_addToTape_26 rfl (lv_at hl 2 rfl) ?_
          refine lv_iushr (v := (jIu p1 v10)) hx hb dX6_addToTape_27 rfl ?_
          refine lv_i2b (v := (jB (jIu p1 v10))) hx hb dX6_addToTape_28 rfl ?_
          obtain ⟨hi14, h⟩ := zG_spec h
          refine va_bast hx hb hK hP hD hS 1 2 rfl rfl hi14 dX6_addToTape_29 (fun H15 locs hP hD hS => ?_)
          obtain ⟨s6_16, es6_16, h⟩ := zL_spec h
          have hP : va_P (dC, dI) vwCl (cX6 a6 h6 q3 q0 q8 q5 q4 y s6_16) H15 := by rw [es6_16]; exact hP
          have hD : va_D A (cX6 a6 h6 q3 q0 q8 q5 q4 y s6_16) := by rw [es6_16]; exact hD
          refine lv_aload_n hx hb dX6_addToTape_30 rfl (lv_at hl 0 rfl) ?_
          refine lv_dup hx hb dX6_addToTape_31 rfl ?_
          refine va_get (D := (dC, dI)) (ci := 5) (v := .int (gI s6_16 1)) (C := RX6) (T := TX6) (N := 12) hx hb hts inX6_ hown hK hP 0 rfl rfl 1 (by decide) (hts (.fieldLink RX6 54 "GateWheel" "tapeLength" "I") (List.mem_of_getElem? (i := 1) rfl)) (fun _ h9 => h9) rfl dX6_addToTape_32 ?_
          refine lv_iconst (v := 1) hx hb dX6_addToTape_35 (by decide) ?_
          refine lv_iadd hx hb dX6_addToTape_36 ?_
          refine va_put (D := (dC, dI)) (ci := 5) (v := .int ((gI s6_16 1) + (1 : Int32))) (ty := .int) (C := RX6) (T := TX6) (N := 12) hx hb hts inX6_ tyX6 tyX6_ok nmX6 hown hK hP hD hS 0 rfl rfl 1 (by decide) (hts (.fieldLink RX6 54 "GateWheel" "tapeLength" "I") (List.mem_of_getElem? (i := 1) rfl)) (fun _ h9 => h9) rfl (by decide +kernel) rfl rfl (Nat.le_of_ble_eq_true rfl) dX6_addToTape_37 (fun H17 locs hP hD hS => ?_)
          obtain ⟨s6_18, es6_18, h⟩ := zL_spec h
          have hP : va_P (dC, dI) vwCl (cX6 a6 h6 q3 q0 q8 q5 q4 y s6_18) H17 := by rw [es6_18]; exact hP
          have hD : va_D A (cX6 a6 h6 q3 q0 q8 q5 q4 y s6_18) := by rw [es6_18]; exact hD
          obtain ⟨v19, ev19, h⟩ := zL_spec h
          refine lv_iinc (v := v19) (lv' := [(2, .int v19), (0, .ref a6), (1, .int p1)]) hx hb dX6_addToTape_40 hl (k := 2) rfl ev19.symm (by decide) rfl (fun ls hl => ?_)
          refine lv_goto (tgt := 3) hx hb dX6_addToTape_43 (by decide) ?_
          have h := zI_l h hx8
          exact (eG2 _ _ _ _ _).mp (ihlp4 v19 s6_18 _ _ _ h hP hD hS (lv_sub hl [1, 2, 0] rfl))
  exact lp4 zF (24 : Int32) S6 _ _ _ hi6 hP hD hS (lv_sub hl [1, 2, 0] rfl)

set_option maxHeartbeats 4000000 in
set_option maxRecDepth 100000 in
theorem m_X6_feed (l : Launch) (dC : Nat → ClassId) (dI : Nat → Nat → Nat) (y : Nat → ClassId) (a6 : Nat) (h6 : Nat → Nat) (S6 : SS) (q3 : Nat) (q0 : Nat) (q8 : Nat) (q5 : Nat) (q4 : Nat) (p1 : Int32) (p2 : Int32) (p3 : Int32) (p4 : Int32) (p5 : Int32) (sz : Nat) (or_ : Int32) (o_6 : SS) (h : f_X6_feed S6 p1 p2 p3 p4 p5 = some (or_, o_6)) : Met l yX6_feed wsX6_feed ({ frames := 1, cells := 0, slots := 0, locals := 22 }) (va_Pc [.ref a6, .int p1, .int p2, .int p3, .int p4, .int p5] (fun U => U.heap.size = sz ∧ va_P (dC, dI) vwCl (cX6 a6 h6 q3 q0 q8 q5 q4 y S6) U.heap ∧ va_K (dC, dI) vwCl [(y 0, .int), (y 1, .long), (y 2, .byte), (y 3, .boolean)] U ∧ va_D (fun _ => True) (cX6 a6 h6 q3 q0 q8 q5 q4 y S6))) (va_Qi (fun (r : Int32) (_ : Unit) => r = or_) (fun (_ : Unit) (t : State) => va_P (dC, dI) vwCl (cX6 a6 h6 q3 q0 q8 q5 q4 y o_6) t.heap ∧ va_K (dC, dI) vwCl [(y 0, .int), (y 1, .long), (y 2, .byte), (y 3, .boolean)] t ∧ va_D (va_A (cX6 a6 h6 q3 q0 q8 q5 q4 y S6) sz) (cX6 a6 h6 q3 q0 q8 q5 q4 y o_6)) (va_A (cX6 a6 h6 q3 q0 q8 q5 q4 y S6) sz)) 0 0 (va_A (cX6 a6 h6 q3 q0 q8 q5 q4 y S6) sz) := by
  refine Met.ofW (cc := cX6_feed) (maxL := 6) (ret := (some .int)) (by decide +kernel) rfl ?_
  intro p e s m args below meth c s₁ B hml hv
  obtain ⟨rfl, hsz, hP, hK, hD0⟩ := hv
  have hx := B.exec
  have hb := B.bytes
  have hr := B.returns
  have hts := atoms_spec (ws := wsX6_feed) B.pre
  have hown : s.vm.findClass RX6 = some m.cls := findClass_of_methodNamed B.named
  have hlocks := B.notSynchronized
  have inX6_ : ∀ w ∈ wsX60, w ∈ wsX6_feed := fun _ h => List.mem_cons_of_mem _ (List.mem_append_right _ h)
  subst hsz
  have hD := hD0.self (sz := s.heap.size)
  generalize hAe : va_A (cX6 a6 h6 q3 q0 q8 q5 q4 y S6) s.heap.size = A at hD ⊢
  have hA : ∀ q : Nat, s.heap.size ≤ q → A q := fun q h => by rw [← hAe]; exact Or.inr h
  have hS : va_S A s.heap s.heap [] := va_S.rf
  have hP : va_P (dC, dI) vwCl (cX6 a6 h6 q3 q0 q8 q5 q4 y S6) s.heap := hP
  have hl := lv_entry ([.ref a6, .int p1, .int p2, .int p3, .int p4, .int p5]) (n := 6) (Nat.le_of_ble_eq_true rfl)
  rw [lg_entry_eq]
  generalize (lg_sl ([.ref a6, .int p1, .int p2, .int p3, .int p4, .int p5]) ++ List.replicate (6 - (lg_sl ([.ref a6, .int p1, .int p2, .int p3, .int p4, .int p5])).length) Slot.unset).toArray = ls at hl ⊢
  have hl : lv_has ls 6 [(0, .ref a6), (1, .int p1), (2, .int p2), (3, .int p3), (4, .int p4), (5, .int p5)] := hl
  refine lv_aload_n hx hb dX6_feed_0 rfl (lv_at hl 0 rfl) ?_
  refine va_get (D := (dC, dI)) (ci := 5) (v := .int (gI S6 1)) (C := RX6) (T := TX6) (N := 12) hx hb hts inX6_ hown hK hP 0 rfl rfl 1 (by decide) (hts (.fieldLink RX6 54 "GateWheel" "tapeLength" "I") (List.mem_of_getElem? (i := 1) rfl)) (fun _ h9 => h9) rfl dX6_feed_1 ?_
  refine lv_bipush (v := 20) hx hb dX6_feed_4 (by decide) ?_
  refine lv_iadd hx hb dX6_feed_6 ?_
  refine lv_sipush (v := 2000) hx hb dX6_feed_7 (by decide) ?_
  refine lv_icmp_le (tgt := 15) hx hb dX6_feed_10 (by decide) (fun c1 => ?_) (fun c1 => ?_)
  · have h := zY c1 h
    refine lv_aload_n hx hb dX6_feed_15 rfl (lv_at hl 0 rfl) ?_
    refine lv_iload_n hx hb dX6_feed_16 rfl (lv_at hl 1 rfl) ?_
    obtain ⟨s6_2, hc3, h⟩ := zB_spec h
    have hFc := zFree hD hS hA
    refine va_callv (va_runV (As := [.int p1]) (rest := []) ⟨hx, hb, hml, hown, hts⟩ (m_X6_addToTape l dC dI y a6 h6 S6 q3 q0 q8 q5 q4 p1 s.heap.size s6_2 hc3) (cwV 1 hts gX6_feed_X6_addToTape rfl rfl rfl (by decide +kernel) ⟨Nat.le_of_ble_eq_true rfl, Nat.le_of_ble_eq_true rfl⟩) ⟨fun a U g mk q => by obtain ⟨q0, q1, qP, qK, qD⟩ := q; exact ⟨q0, q1, qP, va_K.moved (u := U) (U := U.calling g mk a) (Vm.Alike.refl U.vm) qK, qD⟩, va_recv hK hP (ci := 5) (q0 := 0) rfl rfl, fun U hU hW => ⟨rfl, by rw [hU], by rw [hU]; exact hP, va_K.moved hW.alike hK, hD.weaken (fun _ _ _ _ => trivial)⟩⟩ rfl rfl hl.1 rfl (lv_room (Nat.le_of_ble_eq_true rfl)) dX6_feed_17 ⟨Nat.le_of_ble_eq_true rfl, Nat.le_of_ble_eq_true rfl⟩) hS (fun q _ h => hFc q h) hFc (fun u t H4 locs ht hvm hw hB hz1 hk1 hS => ?_)
    obtain ⟨hP1, hK1, hD1⟩ := hB
    rw [ht] at hP1
    have hP := hP1
    have hD := hD1.weaken (fun _ q _ h => hFc q.1 h)
    have hP : va_P (dC, dI) vwCl (cX6 a6 h6 q3 q0 q8 q5 q4 y s6_2) H4 := hP
    have hD : va_D A (cX6 a6 h6 q3 q0 q8 q5 q4 y s6_2) := hD
    refine lv_aload_n hx hb dX6_feed_20 rfl (lv_at hl 0 rfl) ?_
    refine lv_iload_n hx hb dX6_feed_21 rfl (lv_at hl 2 rfl) ?_
    obtain ⟨s6_6, hc7, h⟩ := zB_spec h
    have hFc := zFree hD hS hA
    refine va_callv (va_runV (As := [.int p2]) (rest := []) ⟨hx, hb, hml, hown, hts⟩ (m_X6_addToTape l dC dI y a6 h6 s6_2 q3 q0 q8 q5 q4 p2 H4.size s6_6 hc7) (cwV 1 hts gX6_feed_X6_addToTape rfl rfl rfl (by decide +kernel) ⟨Nat.le_of_ble_eq_true rfl, Nat.le_of_ble_eq_true rfl⟩) ⟨fun a U g mk q => by obtain ⟨q0, q1, qP, qK, qD⟩ := q; exact ⟨q0, q1, qP, va_K.moved (u := U) (U := U.calling g mk a) (Vm.Alike.refl U.vm) qK, qD⟩, va_recv hK hP (ci := 5) (q0 := 0) rfl rfl, fun U hU hW => ⟨rfl, by rw [hU], by rw [hU]; exact hP, va_K.moved hW.alike hK, hD.weaken (fun _ _ _ _ => trivial)⟩⟩ rfl rfl hl.1 rfl (lv_room (Nat.le_of_ble_eq_true rfl)) dX6_feed_22 ⟨Nat.le_of_ble_eq_true rfl, Nat.le_of_ble_eq_true rfl⟩) hS (fun q _ h => hFc q h) hFc (fun u t H8 locs ht hvm hw hB hz1 hk1 hS => ?_)
    obtain ⟨hP1, hK1, hD1⟩ := hB
    rw [ht] at hP1
    have hP := hP1
    have hD := hD1.weaken (fun _ q _ h => hFc q.1 h)
    have hP : va_P (dC, dI) vwCl (cX6 a6 h6 q3 q0 q8 q5 q4 y s6_6) H8 := hP
    have hD : va_D A (cX6 a6 h6 q3 q0 q8 q5 q4 y s6_6) := hD
    refine lv_aload_n hx hb dX6_feed_25 rfl (lv_at hl 0 rfl) ?_
    refine lv_iload_n hx hb dX6_feed_26 rfl (lv_at hl 3 rfl) ?_
    obtain ⟨s6_10, hc11, h⟩ := zB_spec h
    have hFc := zFree hD hS hA
    refine va_callv (va_runV (As := [.int p3]) (rest := []) ⟨hx, hb, hml, hown, hts⟩ (m_X6_addToTape l dC dI y a6 h6 s6_6 q3 q0 q8 q5 q4 p3 H8.size s6_10 hc11) (cwV 1 hts gX6_feed_X6_addToTape rfl rfl rfl (by decide +kernel) ⟨Nat.le_of_ble_eq_true rfl, Nat.le_of_ble_eq_true rfl⟩) ⟨fun a U g mk q => by obtain ⟨q0, q1, qP, qK, qD⟩ := q; exact ⟨q0, q1, qP, va_K.moved (u := U) (U := U.calling g mk a) (Vm.Alike.refl U.vm) qK, qD⟩, va_recv hK hP (ci := 5) (q0 := 0) rfl rfl, fun U hU hW => ⟨rfl, by rw [hU], by rw [hU]; exact hP, va_K.moved hW.alike hK, hD.weaken (fun _ _ _ _ => trivial)⟩⟩ rfl rfl hl.1 rfl (lv_room (Nat.le_of_ble_eq_true rfl)) dX6_feed_27 ⟨Nat.le_of_ble_eq_true rfl, Nat.le_of_ble_eq_true rfl⟩) hS (fun q _ h => hFc q h) hFc (fun u t H12 locs ht hvm hw hB hz1 hk1 hS => ?_)
    obtain ⟨hP1, hK1, hD1⟩ := hB
    rw [ht] at hP1
    have hP := hP1
    have hD := hD1.weaken (fun _ q _ h => hFc q.1 h)
    have hP : va_P (dC, dI) vwCl (cX6 a6 h6 q3 q0 q8 q5 q4 y s6_10) H12 := hP
    have hD : va_D A (cX6 a6 h6 q3 q0 q8 q5 q4 y s6_10) := hD
    refine lv_aload_n hx hb dX6_feed_30 rfl (lv_at hl 0 rfl) ?_
    refine lv_iload hx hb dX6_feed_31 (lv_at hl 4 rfl) ?_
    obtain ⟨s6_14, hc15, h⟩ := zB_spec h
    have hFc := zFree hD hS hA
    refine va_callv (va_runV (As := [.int p4]) (rest := []) ⟨hx, hb, hml, hown, hts⟩ (m_X6_addToTape l dC dI y a6 h6 s6_10 q3 q0 q8 q5 q4 p4 H12.size s6_14 hc15) (cwV 1 hts gX6_feed_X6_addToTape rfl rfl rfl (by decide +kernel) ⟨Nat.le_of_ble_eq_true rfl, Nat.le_of_ble_eq_true rfl⟩) ⟨fun a U g mk q => by obtain ⟨q0, q1, qP, qK, qD⟩ := q; exact ⟨q0, q1, qP, va_K.moved (u := U) (U := U.calling g mk a) (Vm.Alike.refl U.vm) qK, qD⟩, va_recv hK hP (ci := 5) (q0 := 0) rfl rfl, fun U hU hW => ⟨rfl, by rw [hU], by rw [hU]; exact hP, va_K.moved hW.alike hK, hD.weaken (fun _ _ _ _ => trivial)⟩⟩ rfl rfl hl.1 rfl (lv_room (Nat.le_of_ble_eq_true rfl)) dX6_feed_33 ⟨Nat.le_of_ble_eq_true rfl, Nat.le_of_ble_eq_true rfl⟩) hS (fun q _ h => hFc q h) hFc (fun u t H16 locs ht hvm hw hB hz1 hk1 hS => ?_)
    obtain ⟨hP1, hK1, hD1⟩ := hB
    rw [ht] at hP1
    have hP := hP1
    have hD := hD1.weaken (fun _ q _ h => hFc q.1 h)
    have hP : va_P (dC, dI) vwCl (cX6 a6 h6 q3 q0 q8 q5 q4 y s6_14) H16 := hP
    have hD : va_D A (cX6 a6 h6 q3 q0 q8 q5 q4 y s6_14) := hD
    refine lv_aload_n hx hb dX6_feed_36 rfl (lv_at hl 0 rfl) ?_
    refine lv_iload hx hb dX6_feed_37 (lv_at hl 5 rfl) ?_
    obtain ⟨s6_18, hc19, h⟩ := zB_spec h
    have hFc := zFree hD hS hA
    refine va_callv (va_runV (As := [.int p5]) (rest := []) ⟨hx, hb, hml, hown, hts⟩ (m_X6_addToTape l dC dI y a6 h6 s6_14 q3 q0 q8 q5 q4 p5 H16.size s6_18 hc19) (cwV 1 hts gX6_feed_X6_addToTape rfl rfl rfl (by decide +kernel) ⟨Nat.le_of_ble_eq_true rfl, Nat.le_of_ble_eq_true rfl⟩) ⟨fun a U g mk q => by obtain ⟨q0, q1, qP, qK, qD⟩ := q; exact ⟨q0, q1, qP, va_K.moved (u := U) (U := U.calling g mk a) (Vm.Alike.refl U.vm) qK, qD⟩, va_recv hK hP (ci := 5) (q0 := 0) rfl rfl, fun U hU hW => ⟨rfl, by rw [hU], by rw [hU]; exact hP, va_K.moved hW.alike hK, hD.weaken (fun _ _ _ _ => trivial)⟩⟩ rfl rfl hl.1 rfl (lv_room (Nat.le_of_ble_eq_true rfl)) dX6_feed_39 ⟨Nat.le_of_ble_eq_true rfl, Nat.le_of_ble_eq_true rfl⟩) hS (fun q _ h => hFc q h) hFc (fun u t H20 locs ht hvm hw hB hz1 hk1 hS => ?_)
    obtain ⟨hP1, hK1, hD1⟩ := hB
    rw [ht] at hP1
    have hP := hP1
    have hD := hD1.weaken (fun _ q _ h => hFc q.1 h)
    have hP : va_P (dC, dI) vwCl (cX6 a6 h6 q3 q0 q8 q5 q4 y s6_18) H20 := hP
    have hD : va_D A (cX6 a6 h6 q3 q0 q8 q5 q4 y s6_18) := hD
    refine lv_aload_n hx hb dX6_feed_42 rfl (lv_at hl 0 rfl) ?_
    refine va_get (D := (dC, dI)) (ci := 5) (v := .int (gI s6_18 1)) (C := RX6) (T := TX6) (N := 12) hx hb hts inX6_ hown hK hP 0 rfl rfl 1 (by decide) (hts (.fieldLink RX6 54 "GateWheel" "tapeLength" "I") (List.mem_of_getElem? (i := 1) rfl)) (fun _ h9 => h9) rfl dX6_feed_43 ?_
    have ho0 : (gI s6_18 1) = or_ := congrArg (fun z : Int32 × SS => z.1) (Option.some.inj h)
    have ho1 : s6_18 = o_6 := congrArg (fun z : Int32 × SS => z.2) (Option.some.inj h)
    exact W.iret (v := (gI s6_18 1)) hx hb hr (fun t ht hW => ⟨⟨(gI s6_18 1), (), rfl, ho0, by rw [ht]; rw [← ho1]; exact hP, va_K.moved hW.alike hK, by rw [← ho1]; exact hD⟩, hS.F ht⟩) hS.2.2 dX6_feed_46
  · have h := zN c1 h
    refine lv_iconst (v := (-1)) hx hb dX6_feed_13 (by decide) ?_
    have ho0 : (-1 : Int32) = or_ := congrArg (fun z : Int32 × SS => z.1) (Option.some.inj h)
    have ho1 : S6 = o_6 := congrArg (fun z : Int32 × SS => z.2) (Option.some.inj h)
    exact W.iret (v := (-1)) hx hb hr (fun t ht hW => ⟨⟨(-1), (), rfl, ho0, by rw [ht]; rw [← ho1]; exact hP, va_K.moved hW.alike hK, by rw [← ho1]; exact hD⟩, hS.F ht⟩) hS.2.2 dX6_feed_14

set_option maxHeartbeats 4000000 in
set_option maxRecDepth 100000 in
theorem m_X6_end (l : Launch) (dC : Nat → ClassId) (dI : Nat → Nat → Nat) (y : Nat → ClassId) (a6 : Nat) (h6 : Nat → Nat) (S6 : SS) (q3 : Nat) (q0 : Nat) (q8 : Nat) (q5 : Nat) (q4 : Nat) (p1 : Int32) (sz : Nat) (or_ : Int32) (o_6 : SS) (h : f_X6_end S6 p1 = some (or_, o_6)) : Met l yX6_end wsX6_end ({ frames := 0, cells := 0, slots := 0, locals := 0 }) (va_Pc [.ref a6, .int p1] (fun U => U.heap.size = sz ∧ va_P (dC, dI) vwCl (cX6 a6 h6 q3 q0 q8 q5 q4 y S6) U.heap ∧ va_K (dC, dI) vwCl [(y 0, .int), (y 1, .long), (y 2, .byte), (y 3, .boolean)] U ∧ va_D (fun _ => True) (cX6 a6 h6 q3 q0 q8 q5 q4 y S6))) (va_Qi (fun (r : Int32) (_ : Unit) => r = or_) (fun (_ : Unit) (t : State) => va_P (dC, dI) vwCl (cX6 a6 h6 q3 q0 q8 q5 q4 y o_6) t.heap ∧ va_K (dC, dI) vwCl [(y 0, .int), (y 1, .long), (y 2, .byte), (y 3, .boolean)] t ∧ va_D (va_A (cX6 a6 h6 q3 q0 q8 q5 q4 y S6) sz) (cX6 a6 h6 q3 q0 q8 q5 q4 y o_6)) (va_A (cX6 a6 h6 q3 q0 q8 q5 q4 y S6) sz)) 0 0 (va_A (cX6 a6 h6 q3 q0 q8 q5 q4 y S6) sz) := by
  refine Met.ofW (cc := cX6_end) (maxL := 2) (ret := (some .int)) (by decide +kernel) rfl ?_
  intro p e s m args below meth c s₁ B hml hv
  obtain ⟨rfl, hsz, hP, hK, hD0⟩ := hv
  have hx := B.exec
  have hb := B.bytes
  have hr := B.returns
  have hts := atoms_spec (ws := wsX6_end) B.pre
  have hown : s.vm.findClass RX6 = some m.cls := findClass_of_methodNamed B.named
  have hlocks := B.notSynchronized
  have inX6_ : ∀ w ∈ wsX60, w ∈ wsX6_end := fun _ h => List.mem_cons_of_mem _ (List.mem_append_right _ h)
  subst hsz
  have hD := hD0.self (sz := s.heap.size)
  generalize hAe : va_A (cX6 a6 h6 q3 q0 q8 q5 q4 y S6) s.heap.size = A at hD ⊢
  have hA : ∀ q : Nat, s.heap.size ≤ q → A q := fun q h => by rw [← hAe]; exact Or.inr h
  have hS : va_S A s.heap s.heap [] := va_S.rf
  have hP : va_P (dC, dI) vwCl (cX6 a6 h6 q3 q0 q8 q5 q4 y S6) s.heap := hP
  have hl := lv_entry ([.ref a6, .int p1]) (n := 2) (Nat.le_of_ble_eq_true rfl)
  rw [lg_entry_eq]
  generalize (lg_sl ([.ref a6, .int p1]) ++ List.replicate (2 - (lg_sl ([.ref a6, .int p1])).length) Slot.unset).toArray = ls at hl ⊢
  have hl : lv_has ls 2 [(0, .ref a6), (1, .int p1)] := hl
  refine lv_iload_n hx hb dX6_end_0 rfl (lv_at hl 1 rfl) ?_
  refine lv_if_lt (tgt := 12) hx hb dX6_end_1 (by decide) (fun c1 => ?_) (fun c1 => ?_)
  · have h := zY c1 h
    refine lv_iconst (v := (-1)) hx hb dX6_end_12 (by decide) ?_
    have ho0 : (-1 : Int32) = or_ := congrArg (fun z : Int32 × SS => z.1) (Option.some.inj h)
    have ho1 : S6 = o_6 := congrArg (fun z : Int32 × SS => z.2) (Option.some.inj h)
    exact W.iret (v := (-1)) hx hb hr (fun t ht hW => ⟨⟨(-1), (), rfl, ho0, by rw [ht]; rw [← ho1]; exact hP, va_K.moved hW.alike hK, by rw [← ho1]; exact hD⟩, hS.F ht⟩) hS.2.2 dX6_end_13
  · have h := zN c1 h
    refine lv_iload_n hx hb dX6_end_4 rfl (lv_at hl 1 rfl) ?_
    refine lv_aload_n hx hb dX6_end_5 rfl (lv_at hl 0 rfl) ?_
    refine va_get (D := (dC, dI)) (ci := 5) (v := .int (gI S6 1)) (C := RX6) (T := TX6) (N := 12) hx hb hts inX6_ hown hK hP 0 rfl rfl 1 (by decide) (hts (.fieldLink RX6 54 "GateWheel" "tapeLength" "I") (List.mem_of_getElem? (i := 1) rfl)) (fun _ h9 => h9) rfl dX6_end_6 ?_
    refine lv_icmp_le (tgt := 14) hx hb dX6_end_9 (by decide) (fun c2 => ?_) (fun c2 => ?_)
    · have h := zY c2 h
      refine lv_aload_n hx hb dX6_end_14 rfl (lv_at hl 0 rfl) ?_
      refine lv_iload_n hx hb dX6_end_15 rfl (lv_at hl 1 rfl) ?_
      refine va_put (D := (dC, dI)) (ci := 5) (v := .int p1) (ty := .int) (C := RX6) (T := TX6) (N := 12) hx hb hts inX6_ tyX6 tyX6_ok nmX6 hown hK hP hD hS 0 rfl rfl 1 (by decide) (hts (.fieldLink RX6 54 "GateWheel" "tapeLength" "I") (List.mem_of_getElem? (i := 1) rfl)) (fun _ h9 => h9) rfl (by decide +kernel) rfl rfl (Nat.le_of_ble_eq_true rfl) dX6_end_16 (fun H3 locs hP hD hS => ?_)
      obtain ⟨s6_4, es6_4, h⟩ := zL_spec h
      have hP : va_P (dC, dI) vwCl (cX6 a6 h6 q3 q0 q8 q5 q4 y s6_4) H3 := by rw [es6_4]; exact hP
      have hD : va_D A (cX6 a6 h6 q3 q0 q8 q5 q4 y s6_4) := by rw [es6_4]; exact hD
      refine lv_iload_n hx hb dX6_end_19 rfl (lv_at hl 1 rfl) ?_
      have ho0 : p1 = or_ := congrArg (fun z : Int32 × SS => z.1) (Option.some.inj h)
      have ho1 : s6_4 = o_6 := congrArg (fun z : Int32 × SS => z.2) (Option.some.inj h)
      exact W.iret (v := p1) hx hb hr (fun t ht hW => ⟨⟨p1, (), rfl, ho0, by rw [ht]; rw [← ho1]; exact hP, va_K.moved hW.alike hK, by rw [← ho1]; exact hD⟩, hS.F ht⟩) hS.2.2 dX6_end_20
    · have h := zN c2 h
      refine lv_iconst (v := (-1)) hx hb dX6_end_12 (by decide) ?_
      have ho0 : (-1 : Int32) = or_ := congrArg (fun z : Int32 × SS => z.1) (Option.some.inj h)
      have ho1 : S6 = o_6 := congrArg (fun z : Int32 × SS => z.2) (Option.some.inj h)
      exact W.iret (v := (-1)) hx hb hr (fun t ht hW => ⟨⟨(-1), (), rfl, ho0, by rw [ht]; rw [← ho1]; exact hP, va_K.moved hW.alike hK, by rw [← ho1]; exact hD⟩, hS.F ht⟩) hS.2.2 dX6_end_13

set_option maxHeartbeats 4000000 in
set_option maxRecDepth 100000 in
theorem m_X6_fault (l : Launch) (dC : Nat → ClassId) (dI : Nat → Nat → Nat) (y : Nat → ClassId) (a6 : Nat) (h6 : Nat → Nat) (S6 : SS) (a3 : Nat) (h3 : Nat → Nat) (S3 : SS) (q0 : Nat) (q8 : Nat) (q5 : Nat) (q4 : Nat) (lxa : Nat) (cv : Value) (p1 : Int32) (sz : Nat) (or_ : Int32) (h : f_X6_fault S6 S3 p1 = some or_) : Met l yX6_fault wsX6_fault ({ frames := 0, cells := 0, slots := 0, locals := 0 }) (va_Pc [.ref a6, .int p1] (fun U => U.heap.size = sz ∧ va_P (dC, dI) vwCl ((cX6 a6 h6 a3 q0 q8 q5 q4 y S6) ++ (cX3 a3 h3 lxa cv y S3)) U.heap ∧ va_K (dC, dI) vwCl [(y 0, .int), (y 1, .long), (y 2, .byte), (y 3, .boolean)] U ∧ va_D (fun _ => True) ((cX6 a6 h6 a3 q0 q8 q5 q4 y S6) ++ (cX3 a3 h3 lxa cv y S3)))) (va_Qi (fun (r : Int32) (_ : Unit) => r = or_) (fun (_ : Unit) (t : State) => va_P (dC, dI) vwCl ((cX6 a6 h6 a3 q0 q8 q5 q4 y S6) ++ (cX3 a3 h3 lxa cv y S3)) t.heap ∧ va_K (dC, dI) vwCl [(y 0, .int), (y 1, .long), (y 2, .byte), (y 3, .boolean)] t ∧ va_D (va_A ((cX6 a6 h6 a3 q0 q8 q5 q4 y S6) ++ (cX3 a3 h3 lxa cv y S3)) sz) ((cX6 a6 h6 a3 q0 q8 q5 q4 y S6) ++ (cX3 a3 h3 lxa cv y S3))) (va_A ((cX6 a6 h6 a3 q0 q8 q5 q4 y S6) ++ (cX3 a3 h3 lxa cv y S3)) sz)) 0 0 (va_A ((cX6 a6 h6 a3 q0 q8 q5 q4 y S6) ++ (cX3 a3 h3 lxa cv y S3)) sz) := by
  refine Met.ofW (cc := cX6_fault) (maxL := 2) (ret := (some .int)) (by decide +kernel) rfl ?_
  intro p e s m args below meth c s₁ B hml hv
  obtain ⟨rfl, hsz, hP, hK, hD0⟩ := hv
  have hx := B.exec
  have hb := B.bytes
  have hr := B.returns
  have hts := atoms_spec (ws := wsX6_fault) B.pre
  have hown : s.vm.findClass RX6 = some m.cls := findClass_of_methodNamed B.named
  have hlocks := B.notSynchronized
  have inX3_ : ∀ w ∈ wsX30, w ∈ wsX6_fault := fun _ h => List.mem_cons_of_mem _ (List.mem_append_right _ h)
  have inX6_ : ∀ w ∈ wsX60, w ∈ wsX6_fault := fun _ h => List.mem_cons_of_mem _ (List.mem_append_left _ (List.mem_append_right _ h))
  subst hsz
  have hD := hD0.self (sz := s.heap.size)
  generalize hAe : va_A ((cX6 a6 h6 a3 q0 q8 q5 q4 y S6) ++ (cX3 a3 h3 lxa cv y S3)) s.heap.size = A at hD ⊢
  have hA : ∀ q : Nat, s.heap.size ≤ q → A q := fun q h => by rw [← hAe]; exact Or.inr h
  have hS : va_S A s.heap s.heap [] := va_S.rf
  have hP : va_P (dC, dI) vwCl ((cX6 a6 h6 a3 q0 q8 q5 q4 y S6) ++ (cX3 a3 h3 lxa cv y S3)) s.heap := hP
  have hl := lv_entry ([.ref a6, .int p1]) (n := 2) (Nat.le_of_ble_eq_true rfl)
  rw [lg_entry_eq]
  generalize (lg_sl ([.ref a6, .int p1]) ++ List.replicate (2 - (lg_sl ([.ref a6, .int p1])).length) Slot.unset).toArray = ls at hl ⊢
  have hl : lv_has ls 2 [(0, .ref a6), (1, .int p1)] := hl
  refine lv_iload_n hx hb dX6_fault_0 rfl (lv_at hl 1 rfl) ?_
  by_cases k1 : p1 = 0
  · have h := zY k1 h
    refine lv_lookup (off := 27) (tgt := 28) hx hb dX6_fault_1 (by decide) (by rw [k1]; rfl) (by decide) ?_
    refine lv_aload_n hx hb dX6_fault_28 rfl (lv_at hl 0 rfl) ?_
    refine va_get (D := (dC, dI)) (ci := 5) (v := .ref a3) (C := RX6) (T := TX6) (N := 12) hx hb hts inX6_ hown hK hP 0 rfl rfl 2 (by decide) (hts (.fieldLink RX6 16 "GateWheel" "reader" "LGateWheel$Reader;") (List.mem_of_getElem? (i := 1) rfl)) (fun _ h9 => h9) rfl dX6_fault_29 ?_
    refine va_get (D := (dC, dI)) (ci := 2) (v := .int (gI S3 0)) (C := RX3) (T := TX3) (N := 17) hx hb hts inX3_ hown hK hP 5 rfl rfl 0 (by decide) (hts (.fieldLink RX6 76 "GateWheel$Reader" "fault" "I") (List.mem_of_getElem? (i := 2) rfl)) (fun _ h9 => h9) rfl dX6_fault_32 ?_
    have ho0 : (gI S3 0) = or_ := congrArg (fun z : Int32 => z) (Option.some.inj h)
    exact W.iret (v := (gI S3 0)) hx hb hr (fun t ht hW => ⟨⟨(gI S3 0), (), rfl, ho0, by rw [ht]; exact hP, va_K.moved hW.alike hK, hD⟩, hS.F ht⟩) hS.2.2 dX6_fault_35
  replace h := zN k1 h
  by_cases k2 : p1 = 1
  · have h := zY k2 h
    refine lv_lookup (off := 35) (tgt := 36) hx hb dX6_fault_1 (by decide) (by rw [k2]; rfl) (by decide) ?_
    refine lv_aload_n hx hb dX6_fault_36 rfl (lv_at hl 0 rfl) ?_
    refine va_get (D := (dC, dI)) (ci := 5) (v := .ref a3) (C := RX6) (T := TX6) (N := 12) hx hb hts inX6_ hown hK hP 0 rfl rfl 2 (by decide) (hts (.fieldLink RX6 16 "GateWheel" "reader" "LGateWheel$Reader;") (List.mem_of_getElem? (i := 1) rfl)) (fun _ h9 => h9) rfl dX6_fault_37 ?_
    refine va_get (D := (dC, dI)) (ci := 2) (v := .int (gI S3 1)) (C := RX3) (T := TX3) (N := 17) hx hb hts inX3_ hown hK hP 5 rfl rfl 1 (by decide) (hts (.fieldLink RX6 79 "GateWheel$Reader" "faultPlace" "I") (List.mem_of_getElem? (i := 3) rfl)) (fun _ h9 => h9) rfl dX6_fault_40 ?_
    have ho0 : (gI S3 1) = or_ := congrArg (fun z : Int32 => z) (Option.some.inj h)
    exact W.iret (v := (gI S3 1)) hx hb hr (fun t ht hW => ⟨⟨(gI S3 1), (), rfl, ho0, by rw [ht]; exact hP, va_K.moved hW.alike hK, hD⟩, hS.F ht⟩) hS.2.2 dX6_fault_43
  replace h := zN k2 h
  refine lv_lookup (off := 43) (tgt := 44) hx hb dX6_fault_1 (by decide) ((lv_osw k1 (by decide)).trans ((lv_osw k2 (by decide)).trans rfl)) (by decide) ?_
  refine lv_iconst (v := (-1)) hx hb dX6_fault_44 (by decide) ?_
  have ho0 : (-1 : Int32) = or_ := congrArg (fun z : Int32 => z) (Option.some.inj h)
  exact W.iret (v := (-1)) hx hb hr (fun t ht hW => ⟨⟨(-1), (), rfl, ho0, by rw [ht]; exact hP, va_K.moved hW.alike hK, hD⟩, hS.F ht⟩) hS.2.2 dX6_fault_45

set_option maxHeartbeats 4000000 in
set_option maxRecDepth 100000 in
theorem m_X6_settleValues (l : Launch) (dC : Nat → ClassId) (dI : Nat → Nat → Nat) (y : Nat → ClassId) (a6 : Nat) (h6 : Nat → Nat) (S6 : SS) (a0 : Nat) (h0 : Nat → Nat) (S0 : SS) (q3 : Nat) (q8 : Nat) (q5 : Nat) (q4 : Nat) (sz : Nat) (o_6 : SS) (h : f_X6_settleValues S6 S0 = some o_6) : Met l yX6_settleValues wsX6_settleValues ({ frames := 4, cells := 0, slots := 0, locals := 98 }) (va_Pc [.ref a6] (fun U => U.heap.size = sz ∧ va_P (dC, dI) vwCl ((cX6 a6 h6 q3 a0 q8 q5 q4 y S6) ++ (cX0 a0 h0 y S0)) U.heap ∧ va_K (dC, dI) vwCl [(y 0, .int), (y 1, .long), (y 2, .byte), (y 3, .boolean)] U ∧ va_D (fun _ => True) ((cX6 a6 h6 q3 a0 q8 q5 q4 y S6) ++ (cX0 a0 h0 y S0)))) (va_Qv (fun (_ : Unit) => True) (fun (_ : Unit) (t : State) => va_P (dC, dI) vwCl ((cX6 a6 h6 q3 a0 q8 q5 q4 y o_6) ++ (cX0 a0 h0 y S0)) t.heap ∧ va_K (dC, dI) vwCl [(y 0, .int), (y 1, .long), (y 2, .byte), (y 3, .boolean)] t ∧ va_D (va_A ((cX6 a6 h6 q3 a0 q8 q5 q4 y S6) ++ (cX0 a0 h0 y S0)) sz) ((cX6 a6 h6 q3 a0 q8 q5 q4 y o_6) ++ (cX0 a0 h0 y S0))) (va_A ((cX6 a6 h6 q3 a0 q8 q5 q4 y S6) ++ (cX0 a0 h0 y S0)) sz)) 0 0 (va_A ((cX6 a6 h6 q3 a0 q8 q5 q4 y S6) ++ (cX0 a0 h0 y S0)) sz) := by
  refine Met.ofW (cc := cX6_settleValues) (maxL := 1) (ret := none) (by decide +kernel) rfl ?_
  intro p e s m args below meth c s₁ B hml hv
  obtain ⟨rfl, hsz, hP, hK, hD0⟩ := hv
  have hx := B.exec
  have hb := B.bytes
  have hr := B.returns
  have hts := atoms_spec (ws := wsX6_settleValues) B.pre
  have hown : s.vm.findClass RX6 = some m.cls := findClass_of_methodNamed B.named
  have hlocks := B.notSynchronized
  have inX6_ : ∀ w ∈ wsX60, w ∈ wsX6_settleValues := fun _ h => List.mem_cons_of_mem _ (List.mem_append_left _ (List.mem_append_right _ h))
  subst hsz
  have hD := hD0.self (sz := s.heap.size)
  generalize hAe : va_A ((cX6 a6 h6 q3 a0 q8 q5 q4 y S6) ++ (cX0 a0 h0 y S0)) s.heap.size = A at hD ⊢
  have hA : ∀ q : Nat, s.heap.size ≤ q → A q := fun q h => by rw [← hAe]; exact Or.inr h
  have hS : va_S A s.heap s.heap [] := va_S.rf
  have hP : va_P (dC, dI) vwCl ((cX6 a6 h6 q3 a0 q8 q5 q4 y S6) ++ (cX0 a0 h0 y S0)) s.heap := hP
  have hl := lv_entry ([.ref a6]) (n := 1) (Nat.le_of_ble_eq_true rfl)
  rw [lg_entry_eq]
  generalize (lg_sl ([.ref a6]) ++ List.replicate (1 - (lg_sl ([.ref a6])).length) Slot.unset).toArray = ls at hl ⊢
  have hl : lv_has ls 1 [(0, .ref a6)] := hl
  refine lv_aload_n hx hb dX6_settleValues_0 rfl (lv_at hl 0 rfl) ?_
  refine va_get (D := (dC, dI)) (ci := 5) (v := .ref a0) (C := RX6) (T := TX6) (N := 12) hx hb hts inX6_ hown hK hP 0 rfl rfl 3 (by decide) (hts (.fieldLink RX6 23 "GateWheel" "circuit" "LGateWheel$Circuit;") (List.mem_of_getElem? (i := 1) rfl)) (fun _ h9 => h9) rfl dX6_settleValues_1 ?_
  refine lv_aload_n hx hb dX6_settleValues_4 rfl (lv_at hl 0 rfl) ?_
  refine va_get (D := (dC, dI)) (ci := 5) (v := .ref (h6 5)) (C := RX6) (T := TX6) (N := 12) hx hb hts inX6_ hown hK hP 0 rfl rfl 5 (by decide) (hts (.fieldLink RX6 30 "GateWheel" "values" "[I") (List.mem_of_getElem? (i := 2) rfl)) (fun _ h9 => h9) rfl dX6_settleValues_5 ?_
  obtain ⟨sa_1, hc2, h⟩ := zB_spec h
  have hPc := hP.sub (ws' := ((cX0 a0 h0 y S0) ++ ([((h6 5), .inl (y 0, 60, .inl (gA S6 5)))]))) [5, 6, 7, 8, 9, 10, 11, 12, 13, 14, 15, 16, 2] rfl
  have hDc := hD.sub (ws' := ((cX0 a0 h0 y S0) ++ ([((h6 5), .inl (y 0, 60, .inl (gA S6 5)))]))) [5, 6, 7, 8, 9, 10, 11, 12, 13, 14, 15, 16, 2] (by decide) rfl
  have hFc := va_free (wc := ((cX0 a0 h0 y S0) ++ ([((h6 5), .inl (y 0, 60, .inl (gA S6 5)))]))) hD hS hA [5, 6, 7, 8, 9, 10, 11, 12, 13, 14, 15, 16, 2] rfl
  refine va_callv (va_runS (As := [.ref a0, .ref (h6 5)]) (rest := []) ⟨hx, hb, hml, hown, hts⟩ (m_X2_settle l dC dI y a0 h0 S0 (h6 5) (gA S6 5) s.heap.size sa_1 hc2) (va_cwS 2 hts gX6_settleValues_X2_settle rfl rfl rfl (by decide +kernel) ⟨Nat.le_of_ble_eq_true rfl, Nat.le_of_ble_eq_true rfl⟩) ⟨fun a U g mk q => by obtain ⟨q0, q1, qP, qK, qD⟩ := q; exact ⟨q0, q1, qP, va_K.moved (u := U) (U := U.calling g mk a) (Vm.Alike.refl U.vm) qK, qD⟩, fun U hU hW => ⟨rfl, by rw [hU], by rw [hU]; exact hPc, va_K.moved hW.alike hK, hDc.weaken (fun _ _ _ _ => trivial)⟩⟩ rfl rfl hl.1 rfl (lv_room (Nat.le_of_ble_eq_true rfl)) dX6_settleValues_8 ⟨Nat.le_of_ble_eq_true rfl, Nat.le_of_ble_eq_true rfl⟩) hS (fun q _ h => hFc q h) hFc (fun u t H3 locs ht hvm hw hB hz1 hk1 hS => ?_)
  obtain ⟨hP1, hK1, hD1⟩ := hB
  rw [ht] at hP1
  obtain ⟨hP, hD⟩ := va_join (wr := [(oX6 a6 h6 q3 a0 q8 q5 q4 S6), (h6 0, .inl (y 2, 2000, .inl (gA S6 0))), (h6 6, .inl (y 0, 60, .inl (gA S6 6))), (h6 7, .inl (y 0, 60, .inl (gA S6 7)))]) (w1 := ((cX0 a0 h0 y S0) ++ ([((h6 5), .inl (y 0, 60, .inl sa_1))]))) hP hD [5, 6, 7, 8, 9, 10, 11, 12, 13, 14, 15, 16, 2] [0, 1, 3, 4] rfl rfl (by decide) (by decide) hk1 hFc hP1 hD1
  obtain ⟨s6_5, es6_5, h⟩ := zL_spec h
  have hP : va_P (dC, dI) vwCl ((cX6 a6 h6 q3 a0 q8 q5 q4 y s6_5) ++ (cX0 a0 h0 y S0)) H3 := by rw [es6_5]; exact hP.sub [0, 1, 16, 2, 3, 4, 5, 6, 7, 8, 9, 10, 11, 12, 13, 14, 15] rfl
  have hD : va_D A ((cX6 a6 h6 q3 a0 q8 q5 q4 y s6_5) ++ (cX0 a0 h0 y S0)) := by rw [es6_5]; exact hD.sub [0, 1, 16, 2, 3, 4, 5, 6, 7, 8, 9, 10, 11, 12, 13, 14, 15] (by decide) rfl
  refine lv_aload_n hx hb dX6_settleValues_11 rfl (lv_at hl 0 rfl) ?_
  refine lv_iconst (v := 0) hx hb dX6_settleValues_12 (by decide) ?_
  refine va_put (D := (dC, dI)) (ci := 5) (v := .int 0) (ty := .boolean) (C := RX6) (T := TX6) (N := 12) hx hb hts inX6_ tyX6 tyX6_ok nmX6 hown hK hP hD hS 0 rfl rfl 9 (by decide) (hts (.fieldLink RX6 167 "GateWheel" "worldsAreFresh" "Z") (List.mem_of_getElem? (i := 3) rfl)) (fun _ h9 => h9) rfl (by decide +kernel) (by decide) rfl (Nat.le_of_ble_eq_true rfl) dX6_settleValues_13 (fun H6 locs hP hD hS => ?_)
  obtain ⟨s6_7, es6_7, h⟩ := zL_spec h
  have hP : va_P (dC, dI) vwCl ((cX6 a6 h6 q3 a0 q8 q5 q4 y s6_7) ++ (cX0 a0 h0 y S0)) H6 := by rw [es6_7]; exact hP
  have hD : va_D A ((cX6 a6 h6 q3 a0 q8 q5 q4 y s6_7) ++ (cX0 a0 h0 y S0)) := by rw [es6_7]; exact hD
  have ho0 : s6_7 = o_6 := congrArg (fun z : SS => z) (Option.some.inj h)
  exact W.vret hx hb hr (fun t ht hW => ⟨⟨(), rfl, trivial, by rw [ht]; rw [← ho0]; exact hP, va_K.moved hW.alike hK, by rw [← ho0]; exact hD⟩, hS.F ht⟩) hS.2.2 dX6_settleValues_16

set_option maxHeartbeats 4000000 in
set_option maxRecDepth 100000 in
theorem m_X6_named (l : Launch) (dC : Nat → ClassId) (dI : Nat → Nat → Nat) (y : Nat → ClassId) (a6 : Nat) (h6 : Nat → Nat) (S6 : SS) (a0 : Nat) (h0 : Nat → Nat) (S0 : SS) (q3 : Nat) (q8 : Nat) (q5 : Nat) (q4 : Nat) (p1 : Int64) (sz : Nat) (or_ : Int32) (h : f_X6_named S6 S0 p1 = some or_) : Met l yX6_named wsX6_named ({ frames := 1, cells := 0, slots := 0, locals := 23 }) (va_Pc [.ref a6, .long p1] (fun U => U.heap.size = sz ∧ va_P (dC, dI) vwCl ((cX6 a6 h6 q3 a0 q8 q5 q4 y S6) ++ (cX0 a0 h0 y S0)) U.heap ∧ va_K (dC, dI) vwCl [(y 0, .int), (y 1, .long), (y 2, .byte), (y 3, .boolean)] U ∧ va_D (fun _ => True) ((cX6 a6 h6 q3 a0 q8 q5 q4 y S6) ++ (cX0 a0 h0 y S0)))) (va_Qi (fun (r : Int32) (_ : Unit) => r = or_) (fun (_ : Unit) (t : State) => va_P (dC, dI) vwCl ((cX6 a6 h6 q3 a0 q8 q5 q4 y S6) ++ (cX0 a0 h0 y S0)) t.heap ∧ va_K (dC, dI) vwCl [(y 0, .int), (y 1, .long), (y 2, .byte), (y 3, .boolean)] t ∧ va_D (va_A ((cX6 a6 h6 q3 a0 q8 q5 q4 y S6) ++ (cX0 a0 h0 y S0)) sz) ((cX6 a6 h6 q3 a0 q8 q5 q4 y S6) ++ (cX0 a0 h0 y S0))) (va_A ((cX6 a6 h6 q3 a0 q8 q5 q4 y S6) ++ (cX0 a0 h0 y S0)) sz)) 0 0 (va_A ((cX6 a6 h6 q3 a0 q8 q5 q4 y S6) ++ (cX0 a0 h0 y S0)) sz) := by
  refine Met.ofW (cc := cX6_named) (maxL := 8) (ret := (some .int)) (by decide +kernel) rfl ?_
  intro p e s m args below meth c s₁ B hml hv
  obtain ⟨rfl, hsz, hP, hK, hD0⟩ := hv
  have hx := B.exec
  have hb := B.bytes
  have hr := B.returns
  have hts := atoms_spec (ws := wsX6_named) B.pre
  have hown : s.vm.findClass RX6 = some m.cls := findClass_of_methodNamed B.named
  have hlocks := B.notSynchronized
  have inX6_ : ∀ w ∈ wsX60, w ∈ wsX6_named := fun _ h => List.mem_cons_of_mem _ (List.mem_append_left _ (List.mem_append_right _ h))
  subst hsz
  have hD := hD0.self (sz := s.heap.size)
  generalize hAe : va_A ((cX6 a6 h6 q3 a0 q8 q5 q4 y S6) ++ (cX0 a0 h0 y S0)) s.heap.size = A at hD ⊢
  have hA : ∀ q : Nat, s.heap.size ≤ q → A q := fun q h => by rw [← hAe]; exact Or.inr h
  have hS : va_S A s.heap s.heap [] := va_S.rf
  have hP : va_P (dC, dI) vwCl ((cX6 a6 h6 q3 a0 q8 q5 q4 y S6) ++ (cX0 a0 h0 y S0)) s.heap := hP
  have hl := lv_entry ([.ref a6, .long p1]) (n := 8) (Nat.le_of_ble_eq_true rfl)
  rw [lg_entry_eq]
  generalize (lg_sl ([.ref a6, .long p1]) ++ List.replicate (8 - (lg_sl ([.ref a6, .long p1])).length) Slot.unset).toArray = ls at hl ⊢
  have hl : lv_has ls 8 [(0, .ref a6), (1, .long p1)] := hl
  refine lv_lconst (v := 0) hx hb dX6_named_0 (by decide) ?_
  refine lv_lstore_n (lv' := [(3, .long 0), (0, .ref a6), (1, .long p1)]) hx hb dX6_named_1 rfl hl (by decide) rfl (fun ls hl => ?_)
  refine lv_bipush (v := 56) hx hb dX6_named_2 (by decide) ?_
  refine lv_istore (lv' := [(5, .int 56), (3, .long 0), (0, .ref a6), (1, .long p1)]) hx hb dX6_named_4 hl (by decide) rfl (fun ls hl => ?_)
  refine W_abs (fun GW1 eG2 => ?_)
  obtain ⟨ov5, hi6, h⟩ := zB_spec h
  have je3 : ∀ (v10 : Int64) (HGW1e : Heap) (locs : List Loc) (ls : Array Slot), v10 = ov5 → va_P (dC, dI) vwCl ((cX6 a6 h6 q3 a0 q8 q5 q4 y S6) ++ (cX0 a0 h0 y S0)) HGW1e → va_D A ((cX6 a6 h6 q3 a0 q8 q5 q4 y S6) ++ (cX0 a0 h0 y S0)) → va_S A s.heap HGW1e locs → lv_has ls 8 [(0, .ref a6), (3, .long v10)] → GW1 HGW1e locs 0 0 (F0 m 42 ls []) := by
    intro v10 HGW1e locs ls hv hP hD hS hl
    subst hv
    refine (eG2 _ _ _ _ _).mpr ?_
    refine lv_aload_n hx hb dX6_named_42 rfl (lv_at hl 0 rfl) ?_
    refine va_get (D := (dC, dI)) (ci := 5) (v := .ref a0) (C := RX6) (T := TX6) (N := 12) hx hb hts inX6_ hown hK hP 0 rfl rfl 3 (by decide) (hts (.fieldLink RX6 23 "GateWheel" "circuit" "LGateWheel$Circuit;") (List.mem_of_getElem? (i := 2) rfl)) (fun _ h9 => h9) rfl dX6_named_43 ?_
    refine lv_lload_n hx hb dX6_named_46 rfl (lv_at hl 1 rfl) ?_
    obtain ⟨r11, hc12, h⟩ := zB_spec h
    have hPc := hP.sub (ws' := (cX0 a0 h0 y S0)) [5, 6, 7, 8, 9, 10, 11, 12, 13, 14, 15, 16] rfl
    have hDc := hD.sub (ws' := (cX0 a0 h0 y S0)) [5, 6, 7, 8, 9, 10, 11, 12, 13, 14, 15, 16] (by decide) rfl
    have hFc := va_free (wc := (cX0 a0 h0 y S0)) hD hS hA [5, 6, 7, 8, 9, 10, 11, 12, 13, 14, 15, 16] rfl
    refine va_calli (va_runV (As := [.long v10]) (rest := []) ⟨hx, hb, hml, hown, hts⟩ (m_X0_find l dC dI y a0 h0 S0 v10 HGW1e.size r11 hc12) (cwV 1 hts gX6_named_X0_find rfl rfl rfl (by decide +kernel) ⟨Nat.le_of_ble_eq_true rfl, Nat.le_of_ble_eq_true rfl⟩) ⟨fun a U g mk q => by obtain ⟨q0, q1, qP, qK, qD⟩ := q; exact ⟨q0, q1, qP, va_K.moved (u := U) (U := U.calling g mk a) (Vm.Alike.refl U.vm) qK, qD⟩, va_recv hK hPc (ci := 0) (q0 := 0) rfl rfl, fun U hU hW => ⟨rfl, by rw [hU], by rw [hU]; exact hPc, va_K.moved hW.alike hK, hDc.weaken (fun _ _ _ _ => trivial)⟩⟩ rfl rfl hl.1 rfl (lv_room (Nat.le_of_ble_eq_true rfl)) dX6_named_47 ⟨Nat.le_of_ble_eq_true rfl, Nat.le_of_ble_eq_true rfl⟩) hS (fun q _ h => hFc q h) hFc (fun rr14 u t H13 locs ht hvm hw hB hz1 hk1 hS => ?_)
    obtain ⟨hP1, hK1, hD1⟩ := hB
    rw [ht] at hP1
    refine zTopi hw.symm ?_
    obtain ⟨hP, hD⟩ := va_join (wr := [(oX6 a6 h6 q3 a0 q8 q5 q4 S6), (h6 0, .inl (y 2, 2000, .inl (gA S6 0))), (h6 5, .inl (y 0, 60, .inl (gA S6 5))), (h6 6, .inl (y 0, 60, .inl (gA S6 6))), (h6 7, .inl (y 0, 60, .inl (gA S6 7)))]) (w1 := (cX0 a0 h0 y S0)) hP hD [5, 6, 7, 8, 9, 10, 11, 12, 13, 14, 15, 16] [0, 1, 2, 3, 4] rfl rfl (by decide) (by decide) hk1 hFc hP1 hD1
    have hP : va_P (dC, dI) vwCl ((cX6 a6 h6 q3 a0 q8 q5 q4 y S6) ++ (cX0 a0 h0 y S0)) H13 := hP.sub [0, 1, 2, 3, 4, 5, 6, 7, 8, 9, 10, 11, 12, 13, 14, 15, 16] rfl
    have hD : va_D A ((cX6 a6 h6 q3 a0 q8 q5 q4 y S6) ++ (cX0 a0 h0 y S0)) := hD.sub [0, 1, 2, 3, 4, 5, 6, 7, 8, 9, 10, 11, 12, 13, 14, 15, 16] (by decide) rfl
    have ho0 : r11 = or_ := congrArg (fun z : Int32 => z) (Option.some.inj h)
    exact W.iret (v := r11) hx hb hr (fun t ht hW => ⟨⟨r11, (), rfl, ho0, by rw [ht]; exact hP, va_K.moved hW.alike hK, hD⟩, hS.F ht⟩) hS.2.2 dX6_named_50
  have lp4 : ∀ (n : Nat) (v15 : Int64) (v16 : Int32) (HGW1 : Heap) (locs : List Loc) (ls : Array Slot), zI (b_X6_named_6 p1) n (v15, v16) = some ov5 → va_P (dC, dI) vwCl ((cX6 a6 h6 q3 a0 q8 q5 q4 y S6) ++ (cX0 a0 h0 y S0)) HGW1 → va_D A ((cX6 a6 h6 q3 a0 q8 q5 q4 y S6) ++ (cX0 a0 h0 y S0)) → va_S A s.heap HGW1 locs → lv_has ls 8 [(0, .ref a6), (1, .long p1), (3, .long v15), (5, .int v16)] → GW1 HGW1 locs 0 0 (F0 m 6 ls []) := by
    intro n
    induction n with
    | zero =>
      intro v15 v16 HGW1 locs ls hi6 hP hD hS hl
      exact (zI_0 hi6).elim
    | succ n ihlp4 =>
      intro v15 v16 HGW1 locs ls hi6 hP hD hS hl
      refine (eG2 _ _ _ _ _).mpr ?_
      obtain ⟨xx9, h, hx8⟩ := zI_spec hi6
      refine lv_iload hx hb dX6_named_6 (lv_at hl 3 rfl) ?_
      refine lv_if_lt (tgt := 42) hx hb dX6_named_8 (by decide) (fun c17 => ?_) (fun c17 => ?_)
      · have h := zY c17 h
        exact (eG2 _ _ _ _ _).mp (je3 v15 _ _ _ (zI_r h hx8) hP hD hS (lv_sub hl [0, 2] rfl))
      · have h := zN c17 h
        refine lv_lload_n hx hb dX6_named_11 rfl (lv_at hl 1 rfl) ?_
        refine lv_iload hx hb dX6_named_12 (lv_at hl 3 rfl) ?_
        refine lv_lushr (v := (jLu p1 v16)) hx hb dX6_named_14 rfl ?_
        refine lv_ldc2 hx hb hown (hts (.constantLong RX6 82 (255)) (List.mem_of_getElem? (i := 1) rfl)) dX6_named_15 ?_
        refine lv_land hx hb dX6_named_18 ?_
        obtain ⟨v18, ev18, h⟩ := zL_spec h
        refine zTopl ev18 ?_
        refine lv_lstore (lv' := [(6, .long v18), (0, .ref a6), (1, .long p1), (3, .long v15), (5, .int v16)]) hx hb dX6_named_19 hl (by decide) rfl (fun ls hl => ?_)
        refine lv_lload hx hb dX6_named_21 (lv_at hl 0 rfl) ?_
        refine lv_lconst (v := 0) hx hb dX6_named_23 (by decide) ?_
        refine W.lcmp hx hb dX6_named_24 ?_
        refine lv_if_eq (tgt := 36) hx hb dX6_named_25 (by decide) (fun c19 => ?_) (fun c19 => ?_)
        · have h := zY c19 h
          obtain ⟨v20, ev20, h⟩ := zL_spec h
          refine lv_iinc (v := v20) (lv' := [(5, .int v20), (6, .long v18), (0, .ref a6), (1, .long p1), (3, .long v15)]) hx hb dX6_named_36 hl (k := 4) rfl ev20.symm (by decide) rfl (fun ls hl => ?_)
          refine lv_goto (tgt := 6) hx hb dX6_named_39 (by decide) ?_
          have h := zI_l h hx8
          exact (eG2 _ _ _ _ _).mp (ihlp4 v15 v20 _ _ _ h hP hD hS (lv_sub hl [2, 3, 4, 0] rfl))
        · have h := zN c19 h
          refine lv_lload_n hx hb dX6_named_28 rfl (lv_at hl 3 rfl) ?_
          refine lv_bipush (v := 8) hx hb dX6_named_29 (by decide) ?_
          refine lv_lshl (v := (jLs v15 (8 : Int32))) hx hb dX6_named_31 rfl ?_
          refine lv_lload hx hb dX6_named_32 (lv_at hl 0 rfl) ?_
          refine lv_lor hx hb dX6_named_34 ?_
          obtain ⟨v21, ev21, h⟩ := zL_spec h
          refine zTopl ev21 ?_
          refine lv_lstore_n (lv' := [(3, .long v21), (6, .long v18), (0, .ref a6), (1, .long p1), (5, .int v16)]) hx hb dX6_named_35 rfl hl (by decide) rfl (fun ls hl => ?_)
          obtain ⟨v22, ev22, h⟩ := zL_spec h
          refine lv_iinc (v := v22) (lv' := [(5, .int v22), (3, .long v21), (6, .long v18), (0, .ref a6), (1, .long p1)]) hx hb dX6_named_36 hl (k := 4) rfl ev22.symm (by decide) rfl (fun ls hl => ?_)
          refine lv_goto (tgt := 6) hx hb dX6_named_39 (by decide) ?_
          have h := zI_l h hx8
          exact (eG2 _ _ _ _ _).mp (ihlp4 v21 v22 _ _ _ h hP hD hS (lv_sub hl [3, 4, 1, 0] rfl))
  exact lp4 zF (0 : Int64) (56 : Int32) _ _ _ hi6 hP hD hS (lv_sub hl [2, 3, 1, 0] rfl)

set_option maxHeartbeats 4000000 in
set_option maxRecDepth 100000 in
theorem m_X6_node (l : Launch) (dC : Nat → ClassId) (dI : Nat → Nat → Nat) (y : Nat → ClassId) (a6 : Nat) (h6 : Nat → Nat) (S6 : SS) (a0 : Nat) (h0 : Nat → Nat) (S0 : SS) (q3 : Nat) (q8 : Nat) (q5 : Nat) (q4 : Nat) (p1 : Int32) (p2 : Int32) (sz : Nat) (or_ : Int32) (h : f_X6_node S6 S0 p1 p2 = some or_) : Met l yX6_node wsX6_node ({ frames := 1, cells := 0, slots := 0, locals := 21 }) (va_Pc [.ref a6, .int p1, .int p2] (fun U => U.heap.size = sz ∧ va_P (dC, dI) vwCl ((cX6 a6 h6 q3 a0 q8 q5 q4 y S6) ++ (cX0 a0 h0 y S0)) U.heap ∧ va_K (dC, dI) vwCl [(y 0, .int), (y 1, .long), (y 2, .byte), (y 3, .boolean)] U ∧ va_D (fun _ => True) ((cX6 a6 h6 q3 a0 q8 q5 q4 y S6) ++ (cX0 a0 h0 y S0)))) (va_Qi (fun (r : Int32) (_ : Unit) => r = or_) (fun (_ : Unit) (t : State) => va_P (dC, dI) vwCl ((cX6 a6 h6 q3 a0 q8 q5 q4 y S6) ++ (cX0 a0 h0 y S0)) t.heap ∧ va_K (dC, dI) vwCl [(y 0, .int), (y 1, .long), (y 2, .byte), (y 3, .boolean)] t ∧ va_D (va_A ((cX6 a6 h6 q3 a0 q8 q5 q4 y S6) ++ (cX0 a0 h0 y S0)) sz) ((cX6 a6 h6 q3 a0 q8 q5 q4 y S6) ++ (cX0 a0 h0 y S0))) (va_A ((cX6 a6 h6 q3 a0 q8 q5 q4 y S6) ++ (cX0 a0 h0 y S0)) sz)) 0 0 (va_A ((cX6 a6 h6 q3 a0 q8 q5 q4 y S6) ++ (cX0 a0 h0 y S0)) sz) := by
  refine Met.ofW (cc := cX6_node) (maxL := 3) (ret := (some .int)) (by decide +kernel) rfl ?_
  intro p e s m args below meth c s₁ B hml hv
  obtain ⟨rfl, hsz, hP, hK, hD0⟩ := hv
  have hx := B.exec
  have hb := B.bytes
  have hr := B.returns
  have hts := atoms_spec (ws := wsX6_node) B.pre
  have hown : s.vm.findClass RX6 = some m.cls := findClass_of_methodNamed B.named
  have hlocks := B.notSynchronized
  have inX0_ : ∀ w ∈ wsX00, w ∈ wsX6_node := fun _ h => List.mem_cons_of_mem _ (List.mem_append_right _ h)
  have inX6_ : ∀ w ∈ wsX60, w ∈ wsX6_node := fun _ h => List.mem_cons_of_mem _ (List.mem_append_left _ (List.mem_append_right _ h))
  subst hsz
  have hD := hD0.self (sz := s.heap.size)
  generalize hAe : va_A ((cX6 a6 h6 q3 a0 q8 q5 q4 y S6) ++ (cX0 a0 h0 y S0)) s.heap.size = A at hD ⊢
  have hA : ∀ q : Nat, s.heap.size ≤ q → A q := fun q h => by rw [← hAe]; exact Or.inr h
  have hS : va_S A s.heap s.heap [] := va_S.rf
  have hP : va_P (dC, dI) vwCl ((cX6 a6 h6 q3 a0 q8 q5 q4 y S6) ++ (cX0 a0 h0 y S0)) s.heap := hP
  have hl := lv_entry ([.ref a6, .int p1, .int p2]) (n := 3) (Nat.le_of_ble_eq_true rfl)
  rw [lg_entry_eq]
  generalize (lg_sl ([.ref a6, .int p1, .int p2]) ++ List.replicate (3 - (lg_sl ([.ref a6, .int p1, .int p2])).length) Slot.unset).toArray = ls at hl ⊢
  have hl : lv_has ls 3 [(0, .ref a6), (1, .int p1), (2, .int p2)] := hl
  refine lv_aload_n hx hb dX6_node_0 rfl (lv_at hl 0 rfl) ?_
  refine va_get (D := (dC, dI)) (ci := 5) (v := .ref a0) (C := RX6) (T := TX6) (N := 12) hx hb hts inX6_ hown hK hP 0 rfl rfl 3 (by decide) (hts (.fieldLink RX6 23 "GateWheel" "circuit" "LGateWheel$Circuit;") (List.mem_of_getElem? (i := 1) rfl)) (fun _ h9 => h9) rfl dX6_node_1 ?_
  refine lv_iload_n hx hb dX6_node_4 rfl (lv_at hl 1 rfl) ?_
  obtain ⟨r1, hc2, h⟩ := zB_spec h
  have hPc := hP.sub (ws' := (cX0 a0 h0 y S0)) [5, 6, 7, 8, 9, 10, 11, 12, 13, 14, 15, 16] rfl
  have hDc := hD.sub (ws' := (cX0 a0 h0 y S0)) [5, 6, 7, 8, 9, 10, 11, 12, 13, 14, 15, 16] (by decide) rfl
  have hFc := va_free (wc := (cX0 a0 h0 y S0)) hD hS hA [5, 6, 7, 8, 9, 10, 11, 12, 13, 14, 15, 16] rfl
  refine va_calli (va_runV (As := [.int p1]) (rest := []) ⟨hx, hb, hml, hown, hts⟩ (m_X0_has l dC dI y a0 h0 S0 p1 s.heap.size r1 hc2) (cwV 1 hts gX6_node_X0_has rfl rfl rfl (by decide +kernel) ⟨Nat.le_of_ble_eq_true rfl, Nat.le_of_ble_eq_true rfl⟩) ⟨fun a U g mk q => by obtain ⟨q0, q1, qP, qK, qD⟩ := q; exact ⟨q0, q1, qP, va_K.moved (u := U) (U := U.calling g mk a) (Vm.Alike.refl U.vm) qK, qD⟩, va_recv hK hPc (ci := 0) (q0 := 0) rfl rfl, fun U hU hW => ⟨rfl, by rw [hU], by rw [hU]; exact hPc, va_K.moved hW.alike hK, hDc.weaken (fun _ _ _ _ => trivial)⟩⟩ rfl rfl hl.1 rfl (lv_room (Nat.le_of_ble_eq_true rfl)) dX6_node_5 ⟨Nat.le_of_ble_eq_true rfl, Nat.le_of_ble_eq_true rfl⟩) hS (fun q _ h => hFc q h) hFc (fun rr4 u t H3 locs ht hvm hw hB hz1 hk1 hS => ?_)
  obtain ⟨hP1, hK1, hD1⟩ := hB
  rw [ht] at hP1
  refine zTopi hw.symm ?_
  obtain ⟨hP, hD⟩ := va_join (wr := [(oX6 a6 h6 q3 a0 q8 q5 q4 S6), (h6 0, .inl (y 2, 2000, .inl (gA S6 0))), (h6 5, .inl (y 0, 60, .inl (gA S6 5))), (h6 6, .inl (y 0, 60, .inl (gA S6 6))), (h6 7, .inl (y 0, 60, .inl (gA S6 7)))]) (w1 := (cX0 a0 h0 y S0)) hP hD [5, 6, 7, 8, 9, 10, 11, 12, 13, 14, 15, 16] [0, 1, 2, 3, 4] rfl rfl (by decide) (by decide) hk1 hFc hP1 hD1
  have hP : va_P (dC, dI) vwCl ((cX6 a6 h6 q3 a0 q8 q5 q4 y S6) ++ (cX0 a0 h0 y S0)) H3 := hP.sub [0, 1, 2, 3, 4, 5, 6, 7, 8, 9, 10, 11, 12, 13, 14, 15, 16] rfl
  have hD : va_D A ((cX6 a6 h6 q3 a0 q8 q5 q4 y S6) ++ (cX0 a0 h0 y S0)) := hD.sub [0, 1, 2, 3, 4, 5, 6, 7, 8, 9, 10, 11, 12, 13, 14, 15, 16] (by decide) rfl
  refine lv_if_ne (tgt := 13) hx hb dX6_node_8 (by decide) (fun c5 => ?_) (fun c5 => ?_)
  · have h := zN c5 h
    refine lv_iload_n hx hb dX6_node_13 rfl (lv_at hl 2 rfl) ?_
    by_cases k6 : p2 = 0
    · have h := zY k6 h
      refine lv_tableIn (off := 30) (tgt := 44) hx hb dX6_node_14 (by rw [k6]; decide) (by rw [k6]; decide) (by rw [k6]; rfl) (by decide) ?_
      refine lv_aload_n hx hb dX6_node_44 rfl (lv_at hl 0 rfl) ?_
      refine va_get (D := (dC, dI)) (ci := 5) (v := .ref a0) (C := RX6) (T := TX6) (N := 12) hx hb hts inX6_ hown hK hP 0 rfl rfl 3 (by decide) (hts (.fieldLink RX6 23 "GateWheel" "circuit" "LGateWheel$Circuit;") (List.mem_of_getElem? (i := 1) rfl)) (fun _ h9 => h9) rfl dX6_node_45 ?_
      refine va_get (D := (dC, dI)) (ci := 0) (v := .ref (h0 4)) (C := RX0) (T := TX0) (N := 13) hx hb hts inX0_ hown hK hP 5 rfl rfl 4 (by decide) (hts (.fieldLink RX6 92 "GateWheel$Circuit" "kinds" "[I") (List.mem_of_getElem? (i := 2) rfl)) (fun _ h9 => h9) rfl dX6_node_48 ?_
      refine lv_iload_n hx hb dX6_node_51 rfl (lv_at hl 1 rfl) ?_
      obtain ⟨hi7, h⟩ := zG_spec h
      refine va_iald hx hb hK hP 8 0 rfl rfl hi7 dX6_node_52 ?_
      have ho0 : (gA S0 4 p1.toNatClampNeg) = or_ := congrArg (fun z : Int32 => z) (Option.some.inj h)
      exact W.iret (v := (gA S0 4 p1.toNatClampNeg)) hx hb hr (fun t ht hW => ⟨⟨(gA S0 4 p1.toNatClampNeg), (), rfl, ho0, by rw [ht]; exact hP, va_K.moved hW.alike hK, hD⟩, hS.F ht⟩) hS.2.2 dX6_node_53
    replace h := zN k6 h
    by_cases k8 : p2 = 1
    · have h := zY k8 h
      refine lv_tableIn (off := 40) (tgt := 54) hx hb dX6_node_14 (by rw [k8]; decide) (by rw [k8]; decide) (by rw [k8]; rfl) (by decide) ?_
      refine lv_aload_n hx hb dX6_node_54 rfl (lv_at hl 0 rfl) ?_
      refine va_get (D := (dC, dI)) (ci := 5) (v := .ref a0) (C := RX6) (T := TX6) (N := 12) hx hb hts inX6_ hown hK hP 0 rfl rfl 3 (by decide) (hts (.fieldLink RX6 23 "GateWheel" "circuit" "LGateWheel$Circuit;") (List.mem_of_getElem? (i := 1) rfl)) (fun _ h9 => h9) rfl dX6_node_55 ?_
      refine lv_iload_n hx hb dX6_node_58 rfl (lv_at hl 1 rfl) ?_
      obtain ⟨r9, hc10, h⟩ := zB_spec h
      have hPc := hP.sub (ws' := (cX0 a0 h0 y S0)) [5, 6, 7, 8, 9, 10, 11, 12, 13, 14, 15, 16] rfl
      have hDc := hD.sub (ws' := (cX0 a0 h0 y S0)) [5, 6, 7, 8, 9, 10, 11, 12, 13, 14, 15, 16] (by decide) rfl
      have hFc := va_free (wc := (cX0 a0 h0 y S0)) hD hS hA [5, 6, 7, 8, 9, 10, 11, 12, 13, 14, 15, 16] rfl
      refine va_calli (va_runV (As := [.int p1]) (rest := []) ⟨hx, hb, hml, hown, hts⟩ (m_X0_size l dC dI y a0 h0 S0 p1 H3.size r9 hc10) (cwV 1 hts gX6_node_X0_size rfl rfl rfl (by decide +kernel) ⟨Nat.le_of_ble_eq_true rfl, Nat.le_of_ble_eq_true rfl⟩) ⟨fun a U g mk q => by obtain ⟨q0, q1, qP, qK, qD⟩ := q; exact ⟨q0, q1, qP, va_K.moved (u := U) (U := U.calling g mk a) (Vm.Alike.refl U.vm) qK, qD⟩, va_recv hK hPc (ci := 0) (q0 := 0) rfl rfl, fun U hU hW => ⟨rfl, by rw [hU], by rw [hU]; exact hPc, va_K.moved hW.alike hK, hDc.weaken (fun _ _ _ _ => trivial)⟩⟩ rfl rfl hl.1 rfl (lv_room (Nat.le_of_ble_eq_true rfl)) dX6_node_59 ⟨Nat.le_of_ble_eq_true rfl, Nat.le_of_ble_eq_true rfl⟩) hS (fun q _ h => hFc q h) hFc (fun rr12 u t H11 locs ht hvm hw hB hz1 hk1 hS => ?_)
      obtain ⟨hP1, hK1, hD1⟩ := hB
      rw [ht] at hP1
      refine zTopi hw.symm ?_
      obtain ⟨hP, hD⟩ := va_join (wr := [(oX6 a6 h6 q3 a0 q8 q5 q4 S6), (h6 0, .inl (y 2, 2000, .inl (gA S6 0))), (h6 5, .inl (y 0, 60, .inl (gA S6 5))), (h6 6, .inl (y 0, 60, .inl (gA S6 6))), (h6 7, .inl (y 0, 60, .inl (gA S6 7)))]) (w1 := (cX0 a0 h0 y S0)) hP hD [5, 6, 7, 8, 9, 10, 11, 12, 13, 14, 15, 16] [0, 1, 2, 3, 4] rfl rfl (by decide) (by decide) hk1 hFc hP1 hD1
      have hP : va_P (dC, dI) vwCl ((cX6 a6 h6 q3 a0 q8 q5 q4 y S6) ++ (cX0 a0 h0 y S0)) H11 := hP.sub [0, 1, 2, 3, 4, 5, 6, 7, 8, 9, 10, 11, 12, 13, 14, 15, 16] rfl
      have hD : va_D A ((cX6 a6 h6 q3 a0 q8 q5 q4 y S6) ++ (cX0 a0 h0 y S0)) := hD.sub [0, 1, 2, 3, 4, 5, 6, 7, 8, 9, 10, 11, 12, 13, 14, 15, 16] (by decide) rfl
      have ho0 : r9 = or_ := congrArg (fun z : Int32 => z) (Option.some.inj h)
      exact W.iret (v := r9) hx hb hr (fun t ht hW => ⟨⟨r9, (), rfl, ho0, by rw [ht]; exact hP, va_K.moved hW.alike hK, hD⟩, hS.F ht⟩) hS.2.2 dX6_node_62
    replace h := zN k8 h
    by_cases k13 : p2 = 2
    · have h := zY k13 h
      refine lv_tableIn (off := 49) (tgt := 63) hx hb dX6_node_14 (by rw [k13]; decide) (by rw [k13]; decide) (by rw [k13]; rfl) (by decide) ?_
      refine lv_aload_n hx hb dX6_node_63 rfl (lv_at hl 0 rfl) ?_
      refine va_get (D := (dC, dI)) (ci := 5) (v := .ref a0) (C := RX6) (T := TX6) (N := 12) hx hb hts inX6_ hown hK hP 0 rfl rfl 3 (by decide) (hts (.fieldLink RX6 23 "GateWheel" "circuit" "LGateWheel$Circuit;") (List.mem_of_getElem? (i := 1) rfl)) (fun _ h9 => h9) rfl dX6_node_64 ?_
      refine va_get (D := (dC, dI)) (ci := 0) (v := .ref (h0 6)) (C := RX0) (T := TX0) (N := 13) hx hb hts inX0_ hown hK hP 5 rfl rfl 6 (by decide) (hts (.fieldLink RX6 99 "GateWheel$Circuit" "delays" "[I") (List.mem_of_getElem? (i := 3) rfl)) (fun _ h9 => h9) rfl dX6_node_67 ?_
      refine lv_iload_n hx hb dX6_node_70 rfl (lv_at hl 1 rfl) ?_
      obtain ⟨hi14, h⟩ := zG_spec h
      refine va_iald hx hb hK hP 10 0 rfl rfl hi14 dX6_node_71 ?_
      have ho0 : (gA S0 6 p1.toNatClampNeg) = or_ := congrArg (fun z : Int32 => z) (Option.some.inj h)
      exact W.iret (v := (gA S0 6 p1.toNatClampNeg)) hx hb hr (fun t ht hW => ⟨⟨(gA S0 6 p1.toNatClampNeg), (), rfl, ho0, by rw [ht]; exact hP, va_K.moved hW.alike hK, hD⟩, hS.F ht⟩) hS.2.2 dX6_node_72
    replace h := zN k13 h
    by_cases k15 : p2 = 3
    · have h := zY k15 h
      refine lv_tableIn (off := 59) (tgt := 73) hx hb dX6_node_14 (by rw [k15]; decide) (by rw [k15]; decide) (by rw [k15]; rfl) (by decide) ?_
      refine lv_aload_n hx hb dX6_node_73 rfl (lv_at hl 0 rfl) ?_
      refine va_get (D := (dC, dI)) (ci := 5) (v := .ref a0) (C := RX6) (T := TX6) (N := 12) hx hb hts inX6_ hown hK hP 0 rfl rfl 3 (by decide) (hts (.fieldLink RX6 23 "GateWheel" "circuit" "LGateWheel$Circuit;") (List.mem_of_getElem? (i := 1) rfl)) (fun _ h9 => h9) rfl dX6_node_74 ?_
      refine va_get (D := (dC, dI)) (ci := 0) (v := .ref (h0 11)) (C := RX0) (T := TX0) (N := 13) hx hb hts inX0_ hown hK hP 5 rfl rfl 11 (by decide) (hts (.fieldLink RX6 102 "GateWheel$Circuit" "levels" "[I") (List.mem_of_getElem? (i := 4) rfl)) (fun _ h9 => h9) rfl dX6_node_77 ?_
      refine lv_iload_n hx hb dX6_node_80 rfl (lv_at hl 1 rfl) ?_
      obtain ⟨hi16, h⟩ := zG_spec h
      refine va_iald hx hb hK hP 15 0 rfl rfl hi16 dX6_node_81 ?_
      have ho0 : (gA S0 11 p1.toNatClampNeg) = or_ := congrArg (fun z : Int32 => z) (Option.some.inj h)
      exact W.iret (v := (gA S0 11 p1.toNatClampNeg)) hx hb hr (fun t ht hW => ⟨⟨(gA S0 11 p1.toNatClampNeg), (), rfl, ho0, by rw [ht]; exact hP, va_K.moved hW.alike hK, hD⟩, hS.F ht⟩) hS.2.2 dX6_node_82
    replace h := zN k15 h
    have kd : p2.toInt < 0 ∨ 3 < p2.toInt := by
      have nk6 : ¬ p2.toInt = 0 := lv_neT k6 (by decide)
      have nk8 : ¬ p2.toInt = 1 := lv_neT k8 (by decide)
      have nk13 : ¬ p2.toInt = 2 := lv_neT k13 (by decide)
      have nk15 : ¬ p2.toInt = 3 := lv_neT k15 (by decide)
      omega
    refine lv_tableOut (tgt := 83) hx hb dX6_node_14 kd (by decide) ?_
    refine lv_iconst (v := (-1)) hx hb dX6_node_83 (by decide) ?_
    have ho0 : (-1 : Int32) = or_ := congrArg (fun z : Int32 => z) (Option.some.inj h)
    exact W.iret (v := (-1)) hx hb hr (fun t ht hW => ⟨⟨(-1), (), rfl, ho0, by rw [ht]; exact hP, va_K.moved hW.alike hK, hD⟩, hS.F ht⟩) hS.2.2 dX6_node_84
  · have h := zY c5 h
    refine lv_iconst (v := (-1)) hx hb dX6_node_11 (by decide) ?_
    have ho0 : (-1 : Int32) = or_ := congrArg (fun z : Int32 => z) (Option.some.inj h)
    exact W.iret (v := (-1)) hx hb hr (fun t ht hW => ⟨⟨(-1), (), rfl, ho0, by rw [ht]; exact hP, va_K.moved hW.alike hK, hD⟩, hS.F ht⟩) hS.2.2 dX6_node_12

set_option maxHeartbeats 4000000 in
set_option maxRecDepth 100000 in
theorem m_X6_set (l : Launch) (dC : Nat → ClassId) (dI : Nat → Nat → Nat) (y : Nat → ClassId) (a6 : Nat) (h6 : Nat → Nat) (S6 : SS) (a0 : Nat) (h0 : Nat → Nat) (S0 : SS) (q3 : Nat) (q8 : Nat) (q5 : Nat) (q4 : Nat) (p1 : Int32) (p2 : Int32) (sz : Nat) (or_ : Int32) (o_6 : SS) (h : f_X6_set S6 S0 p1 p2 = some (or_, o_6)) : Met l yX6_set wsX6_set ({ frames := 5, cells := 0, slots := 0, locals := 118 }) (va_Pc [.ref a6, .int p1, .int p2] (fun U => U.heap.size = sz ∧ va_P (dC, dI) vwCl ((cX6 a6 h6 q3 a0 q8 q5 q4 y S6) ++ (cX0 a0 h0 y S0)) U.heap ∧ va_K (dC, dI) vwCl [(y 0, .int), (y 1, .long), (y 2, .byte), (y 3, .boolean)] U ∧ va_D (fun _ => True) ((cX6 a6 h6 q3 a0 q8 q5 q4 y S6) ++ (cX0 a0 h0 y S0)))) (va_Qi (fun (r : Int32) (_ : Unit) => r = or_) (fun (_ : Unit) (t : State) => va_P (dC, dI) vwCl ((cX6 a6 h6 q3 a0 q8 q5 q4 y o_6) ++ (cX0 a0 h0 y S0)) t.heap ∧ va_K (dC, dI) vwCl [(y 0, .int), (y 1, .long), (y 2, .byte), (y 3, .boolean)] t ∧ va_D (va_A ((cX6 a6 h6 q3 a0 q8 q5 q4 y S6) ++ (cX0 a0 h0 y S0)) sz) ((cX6 a6 h6 q3 a0 q8 q5 q4 y o_6) ++ (cX0 a0 h0 y S0))) (va_A ((cX6 a6 h6 q3 a0 q8 q5 q4 y S6) ++ (cX0 a0 h0 y S0)) sz)) 0 0 (va_A ((cX6 a6 h6 q3 a0 q8 q5 q4 y S6) ++ (cX0 a0 h0 y S0)) sz) := by
  refine Met.ofW (cc := cX6_set) (maxL := 3) (ret := (some .boolean)) (by decide +kernel) rfl ?_
  intro p e s m args below meth c s₁ B hml hv
  obtain ⟨rfl, hsz, hP, hK, hD0⟩ := hv
  have hx := B.exec
  have hb := B.bytes
  have hr := B.returns
  have hts := atoms_spec (ws := wsX6_set) B.pre
  have hown : s.vm.findClass RX6 = some m.cls := findClass_of_methodNamed B.named
  have hlocks := B.notSynchronized
  have inX6_ : ∀ w ∈ wsX60, w ∈ wsX6_set := fun _ h => List.mem_cons_of_mem _ (List.mem_append_left _ (List.mem_append_right _ h))
  subst hsz
  have hD := hD0.self (sz := s.heap.size)
  generalize hAe : va_A ((cX6 a6 h6 q3 a0 q8 q5 q4 y S6) ++ (cX0 a0 h0 y S0)) s.heap.size = A at hD ⊢
  have hA : ∀ q : Nat, s.heap.size ≤ q → A q := fun q h => by rw [← hAe]; exact Or.inr h
  have hS : va_S A s.heap s.heap [] := va_S.rf
  have hP : va_P (dC, dI) vwCl ((cX6 a6 h6 q3 a0 q8 q5 q4 y S6) ++ (cX0 a0 h0 y S0)) s.heap := hP
  have hl := lv_entry ([.ref a6, .int p1, .int p2]) (n := 3) (Nat.le_of_ble_eq_true rfl)
  rw [lg_entry_eq]
  generalize (lg_sl ([.ref a6, .int p1, .int p2]) ++ List.replicate (3 - (lg_sl ([.ref a6, .int p1, .int p2])).length) Slot.unset).toArray = ls at hl ⊢
  have hl : lv_has ls 3 [(0, .ref a6), (1, .int p1), (2, .int p2)] := hl
  refine lv_aload_n hx hb dX6_set_0 rfl (lv_at hl 0 rfl) ?_
  refine va_get (D := (dC, dI)) (ci := 5) (v := .ref a0) (C := RX6) (T := TX6) (N := 12) hx hb hts inX6_ hown hK hP 0 rfl rfl 3 (by decide) (hts (.fieldLink RX6 23 "GateWheel" "circuit" "LGateWheel$Circuit;") (List.mem_of_getElem? (i := 1) rfl)) (fun _ h9 => h9) rfl dX6_set_1 ?_
  refine lv_iload_n hx hb dX6_set_4 rfl (lv_at hl 1 rfl) ?_
  refine lv_iconst (v := 0) hx hb dX6_set_5 (by decide) ?_
  obtain ⟨r1, hc2, h⟩ := zB_spec h
  have hPc := hP.sub (ws' := (cX0 a0 h0 y S0)) [5, 6, 7, 8, 9, 10, 11, 12, 13, 14, 15, 16] rfl
  have hDc := hD.sub (ws' := (cX0 a0 h0 y S0)) [5, 6, 7, 8, 9, 10, 11, 12, 13, 14, 15, 16] (by decide) rfl
  have hFc := va_free (wc := (cX0 a0 h0 y S0)) hD hS hA [5, 6, 7, 8, 9, 10, 11, 12, 13, 14, 15, 16] rfl
  refine va_calli (va_runV (As := [.int p1, .int 0]) (rest := []) ⟨hx, hb, hml, hown, hts⟩ (m_X0_isKind l dC dI y a0 h0 S0 p1 (0 : Int32) s.heap.size r1 hc2) (cwV 2 hts gX6_set_X0_isKind rfl rfl rfl (by decide +kernel) ⟨Nat.le_of_ble_eq_true rfl, Nat.le_of_ble_eq_true rfl⟩) ⟨fun a U g mk q => by obtain ⟨q0, q1, qP, qK, qD⟩ := q; exact ⟨q0, q1, qP, va_K.moved (u := U) (U := U.calling g mk a) (Vm.Alike.refl U.vm) qK, qD⟩, va_recv hK hPc (ci := 0) (q0 := 0) rfl rfl, fun U hU hW => ⟨rfl, by rw [hU], by rw [hU]; exact hPc, va_K.moved hW.alike hK, hDc.weaken (fun _ _ _ _ => trivial)⟩⟩ rfl rfl hl.1 rfl (lv_room (Nat.le_of_ble_eq_true rfl)) dX6_set_6 ⟨Nat.le_of_ble_eq_true rfl, Nat.le_of_ble_eq_true rfl⟩) hS (fun q _ h => hFc q h) hFc (fun rr4 u t H3 locs ht hvm hw hB hz1 hk1 hS => ?_)
  obtain ⟨hP1, hK1, hD1⟩ := hB
  rw [ht] at hP1
  refine zTopi hw.symm ?_
  obtain ⟨hP, hD⟩ := va_join (wr := [(oX6 a6 h6 q3 a0 q8 q5 q4 S6), (h6 0, .inl (y 2, 2000, .inl (gA S6 0))), (h6 5, .inl (y 0, 60, .inl (gA S6 5))), (h6 6, .inl (y 0, 60, .inl (gA S6 6))), (h6 7, .inl (y 0, 60, .inl (gA S6 7)))]) (w1 := (cX0 a0 h0 y S0)) hP hD [5, 6, 7, 8, 9, 10, 11, 12, 13, 14, 15, 16] [0, 1, 2, 3, 4] rfl rfl (by decide) (by decide) hk1 hFc hP1 hD1
  have hP : va_P (dC, dI) vwCl ((cX6 a6 h6 q3 a0 q8 q5 q4 y S6) ++ (cX0 a0 h0 y S0)) H3 := hP.sub [0, 1, 2, 3, 4, 5, 6, 7, 8, 9, 10, 11, 12, 13, 14, 15, 16] rfl
  have hD : va_D A ((cX6 a6 h6 q3 a0 q8 q5 q4 y S6) ++ (cX0 a0 h0 y S0)) := hD.sub [0, 1, 2, 3, 4, 5, 6, 7, 8, 9, 10, 11, 12, 13, 14, 15, 16] (by decide) rfl
  refine lv_if_eq (tgt := 21) hx hb dX6_set_9 (by decide) (fun c5 => ?_) (fun c5 => ?_)
  · have h := zY c5 h
    refine lv_iconst (v := 0) hx hb dX6_set_21 (by decide) ?_
    have ho0 : (0 : Int32) = or_ := congrArg (fun z : Int32 × SS => z.1) (Option.some.inj h)
    have ho1 : S6 = o_6 := congrArg (fun z : Int32 × SS => z.2) (Option.some.inj h)
    exact W.zret (v := 0) hx hb hr (by decide) (fun t ht hW => ⟨⟨0, (), rfl, ho0, by rw [ht]; rw [← ho1]; exact hP, va_K.moved hW.alike hK, by rw [← ho1]; exact hD⟩, hS.F ht⟩) hS.2.2 dX6_set_22
  · have h := zN c5 h
    refine lv_iload_n hx hb dX6_set_12 rfl (lv_at hl 2 rfl) ?_
    refine lv_if_lt (tgt := 21) hx hb dX6_set_13 (by decide) (fun c6 => ?_) (fun c6 => ?_)
    · have h := zY c6 h
      refine lv_iconst (v := 0) hx hb dX6_set_21 (by decide) ?_
      have ho0 : (0 : Int32) = or_ := congrArg (fun z : Int32 × SS => z.1) (Option.some.inj h)
      have ho1 : S6 = o_6 := congrArg (fun z : Int32 × SS => z.2) (Option.some.inj h)
      exact W.zret (v := 0) hx hb hr (by decide) (fun t ht hW => ⟨⟨0, (), rfl, ho0, by rw [ht]; rw [← ho1]; exact hP, va_K.moved hW.alike hK, by rw [← ho1]; exact hD⟩, hS.F ht⟩) hS.2.2 dX6_set_22
    · have h := zN c6 h
      refine lv_iload_n hx hb dX6_set_16 rfl (lv_at hl 2 rfl) ?_
      refine lv_iconst (v := 3) hx hb dX6_set_17 (by decide) ?_
      refine lv_icmp_le (tgt := 23) hx hb dX6_set_18 (by decide) (fun c7 => ?_) (fun c7 => ?_)
      · have h := zY c7 h
        refine lv_aload_n hx hb dX6_set_23 rfl (lv_at hl 0 rfl) ?_
        refine va_get (D := (dC, dI)) (ci := 5) (v := .ref (h6 5)) (C := RX6) (T := TX6) (N := 12) hx hb hts inX6_ hown hK hP 0 rfl rfl 5 (by decide) (hts (.fieldLink RX6 30 "GateWheel" "values" "[I") (List.mem_of_getElem? (i := 2) rfl)) (fun _ h9 => h9) rfl dX6_set_24 ?_
        refine lv_iload_n hx hb dX6_set_27 rfl (lv_at hl 1 rfl) ?_
        refine lv_iload_n hx hb dX6_set_28 rfl (lv_at hl 2 rfl) ?_
        obtain ⟨hi8, h⟩ := zG_spec h
        refine va_iast hx hb hK hP hD hS 2 0 rfl rfl hi8 dX6_set_29 (fun H9 locs hP hD hS => ?_)
        obtain ⟨s6_10, es6_10, h⟩ := zL_spec h
        have hP : va_P (dC, dI) vwCl ((cX6 a6 h6 q3 a0 q8 q5 q4 y s6_10) ++ (cX0 a0 h0 y S0)) H9 := by rw [es6_10]; exact hP
        have hD : va_D A ((cX6 a6 h6 q3 a0 q8 q5 q4 y s6_10) ++ (cX0 a0 h0 y S0)) := by rw [es6_10]; exact hD
        refine lv_aload_n hx hb dX6_set_30 rfl (lv_at hl 0 rfl) ?_
        obtain ⟨s6_11, hc12, h⟩ := zB_spec h
        have hFc := zFree hD hS hA
        refine va_callv (va_runV (As := []) (rest := []) ⟨hx, hb, hml, hown, hts⟩ (m_X6_settleValues l dC dI y a6 h6 s6_10 a0 h0 S0 q3 q8 q5 q4 H9.size s6_11 hc12) (cwV 0 hts gX6_set_X6_settleValues rfl rfl rfl (by decide +kernel) ⟨Nat.le_of_ble_eq_true rfl, Nat.le_of_ble_eq_true rfl⟩) ⟨fun a U g mk q => by obtain ⟨q0, q1, qP, qK, qD⟩ := q; exact ⟨q0, q1, qP, va_K.moved (u := U) (U := U.calling g mk a) (Vm.Alike.refl U.vm) qK, qD⟩, va_recv hK hP (ci := 5) (q0 := 0) rfl rfl, fun U hU hW => ⟨rfl, by rw [hU], by rw [hU]; exact hP, va_K.moved hW.alike hK, hD.weaken (fun _ _ _ _ => trivial)⟩⟩ rfl rfl hl.1 rfl (lv_room (Nat.le_of_ble_eq_true rfl)) dX6_set_31 ⟨Nat.le_of_ble_eq_true rfl, Nat.le_of_ble_eq_true rfl⟩) hS (fun q _ h => hFc q h) hFc (fun u t H13 locs ht hvm hw hB hz1 hk1 hS => ?_)
        obtain ⟨hP1, hK1, hD1⟩ := hB
        rw [ht] at hP1
        have hP := hP1
        have hD := hD1.weaken (fun _ q _ h => hFc q.1 h)
        have hP : va_P (dC, dI) vwCl ((cX6 a6 h6 q3 a0 q8 q5 q4 y s6_11) ++ (cX0 a0 h0 y S0)) H13 := hP
        have hD : va_D A ((cX6 a6 h6 q3 a0 q8 q5 q4 y s6_11) ++ (cX0 a0 h0 y S0)) := hD
        refine lv_iconst (v := 1) hx hb dX6_set_34 (by decide) ?_
        have ho0 : (1 : Int32) = or_ := congrArg (fun z : Int32 × SS => z.1) (Option.some.inj h)
        have ho1 : s6_11 = o_6 := congrArg (fun z : Int32 × SS => z.2) (Option.some.inj h)
        exact W.zret (v := 1) hx hb hr (by decide) (fun t ht hW => ⟨⟨1, (), rfl, ho0, by rw [ht]; rw [← ho1]; exact hP, va_K.moved hW.alike hK, by rw [← ho1]; exact hD⟩, hS.F ht⟩) hS.2.2 dX6_set_35
      · have h := zN c7 h
        refine lv_iconst (v := 0) hx hb dX6_set_21 (by decide) ?_
        have ho0 : (0 : Int32) = or_ := congrArg (fun z : Int32 × SS => z.1) (Option.some.inj h)
        have ho1 : S6 = o_6 := congrArg (fun z : Int32 × SS => z.2) (Option.some.inj h)
        exact W.zret (v := 0) hx hb hr (by decide) (fun t ht hW => ⟨⟨0, (), rfl, ho0, by rw [ht]; rw [← ho1]; exact hP, va_K.moved hW.alike hK, by rw [← ho1]; exact hD⟩, hS.F ht⟩) hS.2.2 dX6_set_22

set_option maxHeartbeats 4000000 in
set_option maxRecDepth 100000 in
theorem m_X6_load (l : Launch) (dC : Nat → ClassId) (dI : Nat → Nat → Nat) (y : Nat → ClassId) (a6 : Nat) (h6 : Nat → Nat) (S6 : SS) (a0 : Nat) (h0 : Nat → Nat) (S0 : SS) (q3 : Nat) (q8 : Nat) (q5 : Nat) (q4 : Nat) (p1 : Int32) (p2 : Int32) (sz : Nat) (or_ : Int32) (o_6 : SS) (h : f_X6_load S6 S0 p1 p2 = some (or_, o_6)) : Met l yX6_load wsX6_load ({ frames := 5, cells := 0, slots := 0, locals := 118 }) (va_Pc [.ref a6, .int p1, .int p2] (fun U => U.heap.size = sz ∧ va_P (dC, dI) vwCl ((cX6 a6 h6 q3 a0 q8 q5 q4 y S6) ++ (cX0 a0 h0 y S0)) U.heap ∧ va_K (dC, dI) vwCl [(y 0, .int), (y 1, .long), (y 2, .byte), (y 3, .boolean)] U ∧ va_D (fun _ => True) ((cX6 a6 h6 q3 a0 q8 q5 q4 y S6) ++ (cX0 a0 h0 y S0)))) (va_Qi (fun (r : Int32) (_ : Unit) => r = or_) (fun (_ : Unit) (t : State) => va_P (dC, dI) vwCl ((cX6 a6 h6 q3 a0 q8 q5 q4 y o_6) ++ (cX0 a0 h0 y S0)) t.heap ∧ va_K (dC, dI) vwCl [(y 0, .int), (y 1, .long), (y 2, .byte), (y 3, .boolean)] t ∧ va_D (va_A ((cX6 a6 h6 q3 a0 q8 q5 q4 y S6) ++ (cX0 a0 h0 y S0)) sz) ((cX6 a6 h6 q3 a0 q8 q5 q4 y o_6) ++ (cX0 a0 h0 y S0))) (va_A ((cX6 a6 h6 q3 a0 q8 q5 q4 y S6) ++ (cX0 a0 h0 y S0)) sz)) 0 0 (va_A ((cX6 a6 h6 q3 a0 q8 q5 q4 y S6) ++ (cX0 a0 h0 y S0)) sz) := by
  refine Met.ofW (cc := cX6_load) (maxL := 3) (ret := (some .boolean)) (by decide +kernel) rfl ?_
  intro p e s m args below meth c s₁ B hml hv
  obtain ⟨rfl, hsz, hP, hK, hD0⟩ := hv
  have hx := B.exec
  have hb := B.bytes
  have hr := B.returns
  have hts := atoms_spec (ws := wsX6_load) B.pre
  have hown : s.vm.findClass RX6 = some m.cls := findClass_of_methodNamed B.named
  have hlocks := B.notSynchronized
  have inX6_ : ∀ w ∈ wsX60, w ∈ wsX6_load := fun _ h => List.mem_cons_of_mem _ (List.mem_append_left _ (List.mem_append_right _ h))
  subst hsz
  have hD := hD0.self (sz := s.heap.size)
  generalize hAe : va_A ((cX6 a6 h6 q3 a0 q8 q5 q4 y S6) ++ (cX0 a0 h0 y S0)) s.heap.size = A at hD ⊢
  have hA : ∀ q : Nat, s.heap.size ≤ q → A q := fun q h => by rw [← hAe]; exact Or.inr h
  have hS : va_S A s.heap s.heap [] := va_S.rf
  have hP : va_P (dC, dI) vwCl ((cX6 a6 h6 q3 a0 q8 q5 q4 y S6) ++ (cX0 a0 h0 y S0)) s.heap := hP
  have hl := lv_entry ([.ref a6, .int p1, .int p2]) (n := 3) (Nat.le_of_ble_eq_true rfl)
  rw [lg_entry_eq]
  generalize (lg_sl ([.ref a6, .int p1, .int p2]) ++ List.replicate (3 - (lg_sl ([.ref a6, .int p1, .int p2])).length) Slot.unset).toArray = ls at hl ⊢
  have hl : lv_has ls 3 [(0, .ref a6), (1, .int p1), (2, .int p2)] := hl
  refine lv_aload_n hx hb dX6_load_0 rfl (lv_at hl 0 rfl) ?_
  refine va_get (D := (dC, dI)) (ci := 5) (v := .ref a0) (C := RX6) (T := TX6) (N := 12) hx hb hts inX6_ hown hK hP 0 rfl rfl 3 (by decide) (hts (.fieldLink RX6 23 "GateWheel" "circuit" "LGateWheel$Circuit;") (List.mem_of_getElem? (i := 1) rfl)) (fun _ h9 => h9) rfl dX6_load_1 ?_
  refine lv_iload_n hx hb dX6_load_4 rfl (lv_at hl 1 rfl) ?_
  refine lv_iconst (v := 3) hx hb dX6_load_5 (by decide) ?_
  obtain ⟨r1, hc2, h⟩ := zB_spec h
  have hPc := hP.sub (ws' := (cX0 a0 h0 y S0)) [5, 6, 7, 8, 9, 10, 11, 12, 13, 14, 15, 16] rfl
  have hDc := hD.sub (ws' := (cX0 a0 h0 y S0)) [5, 6, 7, 8, 9, 10, 11, 12, 13, 14, 15, 16] (by decide) rfl
  have hFc := va_free (wc := (cX0 a0 h0 y S0)) hD hS hA [5, 6, 7, 8, 9, 10, 11, 12, 13, 14, 15, 16] rfl
  refine va_calli (va_runV (As := [.int p1, .int 3]) (rest := []) ⟨hx, hb, hml, hown, hts⟩ (m_X0_isKind l dC dI y a0 h0 S0 p1 (3 : Int32) s.heap.size r1 hc2) (cwV 2 hts gX6_load_X0_isKind rfl rfl rfl (by decide +kernel) ⟨Nat.le_of_ble_eq_true rfl, Nat.le_of_ble_eq_true rfl⟩) ⟨fun a U g mk q => by obtain ⟨q0, q1, qP, qK, qD⟩ := q; exact ⟨q0, q1, qP, va_K.moved (u := U) (U := U.calling g mk a) (Vm.Alike.refl U.vm) qK, qD⟩, va_recv hK hPc (ci := 0) (q0 := 0) rfl rfl, fun U hU hW => ⟨rfl, by rw [hU], by rw [hU]; exact hPc, va_K.moved hW.alike hK, hDc.weaken (fun _ _ _ _ => trivial)⟩⟩ rfl rfl hl.1 rfl (lv_room (Nat.le_of_ble_eq_true rfl)) dX6_load_6 ⟨Nat.le_of_ble_eq_true rfl, Nat.le_of_ble_eq_true rfl⟩) hS (fun q _ h => hFc q h) hFc (fun rr4 u t H3 locs ht hvm hw hB hz1 hk1 hS => ?_)
  obtain ⟨hP1, hK1, hD1⟩ := hB
  rw [ht] at hP1
  refine zTopi hw.symm ?_
  obtain ⟨hP, hD⟩ := va_join (wr := [(oX6 a6 h6 q3 a0 q8 q5 q4 S6), (h6 0, .inl (y 2, 2000, .inl (gA S6 0))), (h6 5, .inl (y 0, 60, .inl (gA S6 5))), (h6 6, .inl (y 0, 60, .inl (gA S6 6))), (h6 7, .inl (y 0, 60, .inl (gA S6 7)))]) (w1 := (cX0 a0 h0 y S0)) hP hD [5, 6, 7, 8, 9, 10, 11, 12, 13, 14, 15, 16] [0, 1, 2, 3, 4] rfl rfl (by decide) (by decide) hk1 hFc hP1 hD1
  have hP : va_P (dC, dI) vwCl ((cX6 a6 h6 q3 a0 q8 q5 q4 y S6) ++ (cX0 a0 h0 y S0)) H3 := hP.sub [0, 1, 2, 3, 4, 5, 6, 7, 8, 9, 10, 11, 12, 13, 14, 15, 16] rfl
  have hD : va_D A ((cX6 a6 h6 q3 a0 q8 q5 q4 y S6) ++ (cX0 a0 h0 y S0)) := hD.sub [0, 1, 2, 3, 4, 5, 6, 7, 8, 9, 10, 11, 12, 13, 14, 15, 16] (by decide) rfl
  refine lv_if_eq (tgt := 21) hx hb dX6_load_9 (by decide) (fun c5 => ?_) (fun c5 => ?_)
  · have h := zY c5 h
    refine lv_iconst (v := 0) hx hb dX6_load_21 (by decide) ?_
    have ho0 : (0 : Int32) = or_ := congrArg (fun z : Int32 × SS => z.1) (Option.some.inj h)
    have ho1 : S6 = o_6 := congrArg (fun z : Int32 × SS => z.2) (Option.some.inj h)
    exact W.zret (v := 0) hx hb hr (by decide) (fun t ht hW => ⟨⟨0, (), rfl, ho0, by rw [ht]; rw [← ho1]; exact hP, va_K.moved hW.alike hK, by rw [← ho1]; exact hD⟩, hS.F ht⟩) hS.2.2 dX6_load_22
  · have h := zN c5 h
    refine lv_iload_n hx hb dX6_load_12 rfl (lv_at hl 2 rfl) ?_
    refine lv_if_lt (tgt := 21) hx hb dX6_load_13 (by decide) (fun c6 => ?_) (fun c6 => ?_)
    · have h := zY c6 h
      refine lv_iconst (v := 0) hx hb dX6_load_21 (by decide) ?_
      have ho0 : (0 : Int32) = or_ := congrArg (fun z : Int32 × SS => z.1) (Option.some.inj h)
      have ho1 : S6 = o_6 := congrArg (fun z : Int32 × SS => z.2) (Option.some.inj h)
      exact W.zret (v := 0) hx hb hr (by decide) (fun t ht hW => ⟨⟨0, (), rfl, ho0, by rw [ht]; rw [← ho1]; exact hP, va_K.moved hW.alike hK, by rw [← ho1]; exact hD⟩, hS.F ht⟩) hS.2.2 dX6_load_22
    · have h := zN c6 h
      refine lv_iload_n hx hb dX6_load_16 rfl (lv_at hl 2 rfl) ?_
      refine lv_iconst (v := 2) hx hb dX6_load_17 (by decide) ?_
      refine lv_icmp_le (tgt := 23) hx hb dX6_load_18 (by decide) (fun c7 => ?_) (fun c7 => ?_)
      · have h := zY c7 h
        refine lv_aload_n hx hb dX6_load_23 rfl (lv_at hl 0 rfl) ?_
        refine va_get (D := (dC, dI)) (ci := 5) (v := .ref (h6 5)) (C := RX6) (T := TX6) (N := 12) hx hb hts inX6_ hown hK hP 0 rfl rfl 5 (by decide) (hts (.fieldLink RX6 30 "GateWheel" "values" "[I") (List.mem_of_getElem? (i := 2) rfl)) (fun _ h9 => h9) rfl dX6_load_24 ?_
        refine lv_iload_n hx hb dX6_load_27 rfl (lv_at hl 1 rfl) ?_
        refine lv_iload_n hx hb dX6_load_28 rfl (lv_at hl 2 rfl) ?_
        obtain ⟨hi8, h⟩ := zG_spec h
        refine va_iast hx hb hK hP hD hS 2 0 rfl rfl hi8 dX6_load_29 (fun H9 locs hP hD hS => ?_)
        obtain ⟨s6_10, es6_10, h⟩ := zL_spec h
        have hP : va_P (dC, dI) vwCl ((cX6 a6 h6 q3 a0 q8 q5 q4 y s6_10) ++ (cX0 a0 h0 y S0)) H9 := by rw [es6_10]; exact hP
        have hD : va_D A ((cX6 a6 h6 q3 a0 q8 q5 q4 y s6_10) ++ (cX0 a0 h0 y S0)) := by rw [es6_10]; exact hD
        refine lv_aload_n hx hb dX6_load_30 rfl (lv_at hl 0 rfl) ?_
        obtain ⟨s6_11, hc12, h⟩ := zB_spec h
        have hFc := zFree hD hS hA
        refine va_callv (va_runV (As := []) (rest := []) ⟨hx, hb, hml, hown, hts⟩ (m_X6_settleValues l dC dI y a6 h6 s6_10 a0 h0 S0 q3 q8 q5 q4 H9.size s6_11 hc12) (cwV 0 hts gX6_load_X6_settleValues rfl rfl rfl (by decide +kernel) ⟨Nat.le_of_ble_eq_true rfl, Nat.le_of_ble_eq_true rfl⟩) ⟨fun a U g mk q => by obtain ⟨q0, q1, qP, qK, qD⟩ := q; exact ⟨q0, q1, qP, va_K.moved (u := U) (U := U.calling g mk a) (Vm.Alike.refl U.vm) qK, qD⟩, va_recv hK hP (ci := 5) (q0 := 0) rfl rfl, fun U hU hW => ⟨rfl, by rw [hU], by rw [hU]; exact hP, va_K.moved hW.alike hK, hD.weaken (fun _ _ _ _ => trivial)⟩⟩ rfl rfl hl.1 rfl (lv_room (Nat.le_of_ble_eq_true rfl)) dX6_load_31 ⟨Nat.le_of_ble_eq_true rfl, Nat.le_of_ble_eq_true rfl⟩) hS (fun q _ h => hFc q h) hFc (fun u t H13 locs ht hvm hw hB hz1 hk1 hS => ?_)
        obtain ⟨hP1, hK1, hD1⟩ := hB
        rw [ht] at hP1
        have hP := hP1
        have hD := hD1.weaken (fun _ q _ h => hFc q.1 h)
        have hP : va_P (dC, dI) vwCl ((cX6 a6 h6 q3 a0 q8 q5 q4 y s6_11) ++ (cX0 a0 h0 y S0)) H13 := hP
        have hD : va_D A ((cX6 a6 h6 q3 a0 q8 q5 q4 y s6_11) ++ (cX0 a0 h0 y S0)) := hD
        refine lv_iconst (v := 1) hx hb dX6_load_34 (by decide) ?_
        have ho0 : (1 : Int32) = or_ := congrArg (fun z : Int32 × SS => z.1) (Option.some.inj h)
        have ho1 : s6_11 = o_6 := congrArg (fun z : Int32 × SS => z.2) (Option.some.inj h)
        exact W.zret (v := 1) hx hb hr (by decide) (fun t ht hW => ⟨⟨1, (), rfl, ho0, by rw [ht]; rw [← ho1]; exact hP, va_K.moved hW.alike hK, by rw [← ho1]; exact hD⟩, hS.F ht⟩) hS.2.2 dX6_load_35
      · have h := zN c7 h
        refine lv_iconst (v := 0) hx hb dX6_load_21 (by decide) ?_
        have ho0 : (0 : Int32) = or_ := congrArg (fun z : Int32 × SS => z.1) (Option.some.inj h)
        have ho1 : S6 = o_6 := congrArg (fun z : Int32 × SS => z.2) (Option.some.inj h)
        exact W.zret (v := 0) hx hb hr (by decide) (fun t ht hW => ⟨⟨0, (), rfl, ho0, by rw [ht]; rw [← ho1]; exact hP, va_K.moved hW.alike hK, by rw [← ho1]; exact hD⟩, hS.F ht⟩) hS.2.2 dX6_load_22

set_option maxHeartbeats 4000000 in
set_option maxRecDepth 100000 in
theorem m_X6_value (l : Launch) (dC : Nat → ClassId) (dI : Nat → Nat → Nat) (y : Nat → ClassId) (a6 : Nat) (h6 : Nat → Nat) (S6 : SS) (a0 : Nat) (h0 : Nat → Nat) (S0 : SS) (q3 : Nat) (q8 : Nat) (q5 : Nat) (q4 : Nat) (p1 : Int32) (sz : Nat) (or_ : Int32) (h : f_X6_value S6 S0 p1 = some or_) : Met l yX6_value wsX6_value ({ frames := 1, cells := 0, slots := 0, locals := 21 }) (va_Pc [.ref a6, .int p1] (fun U => U.heap.size = sz ∧ va_P (dC, dI) vwCl ((cX6 a6 h6 q3 a0 q8 q5 q4 y S6) ++ (cX0 a0 h0 y S0)) U.heap ∧ va_K (dC, dI) vwCl [(y 0, .int), (y 1, .long), (y 2, .byte), (y 3, .boolean)] U ∧ va_D (fun _ => True) ((cX6 a6 h6 q3 a0 q8 q5 q4 y S6) ++ (cX0 a0 h0 y S0)))) (va_Qi (fun (r : Int32) (_ : Unit) => r = or_) (fun (_ : Unit) (t : State) => va_P (dC, dI) vwCl ((cX6 a6 h6 q3 a0 q8 q5 q4 y S6) ++ (cX0 a0 h0 y S0)) t.heap ∧ va_K (dC, dI) vwCl [(y 0, .int), (y 1, .long), (y 2, .byte), (y 3, .boolean)] t ∧ va_D (va_A ((cX6 a6 h6 q3 a0 q8 q5 q4 y S6) ++ (cX0 a0 h0 y S0)) sz) ((cX6 a6 h6 q3 a0 q8 q5 q4 y S6) ++ (cX0 a0 h0 y S0))) (va_A ((cX6 a6 h6 q3 a0 q8 q5 q4 y S6) ++ (cX0 a0 h0 y S0)) sz)) 0 0 (va_A ((cX6 a6 h6 q3 a0 q8 q5 q4 y S6) ++ (cX0 a0 h0 y S0)) sz) := by
  refine Met.ofW (cc := cX6_value) (maxL := 2) (ret := (some .int)) (by decide +kernel) rfl ?_
  intro p e s m args below meth c s₁ B hml hv
  obtain ⟨rfl, hsz, hP, hK, hD0⟩ := hv
  have hx := B.exec
  have hb := B.bytes
  have hr := B.returns
  have hts := atoms_spec (ws := wsX6_value) B.pre
  have hown : s.vm.findClass RX6 = some m.cls := findClass_of_methodNamed B.named
  have hlocks := B.notSynchronized
  have inX6_ : ∀ w ∈ wsX60, w ∈ wsX6_value := fun _ h => List.mem_cons_of_mem _ (List.mem_append_left _ (List.mem_append_right _ h))
  subst hsz
  have hD := hD0.self (sz := s.heap.size)
  generalize hAe : va_A ((cX6 a6 h6 q3 a0 q8 q5 q4 y S6) ++ (cX0 a0 h0 y S0)) s.heap.size = A at hD ⊢
  have hA : ∀ q : Nat, s.heap.size ≤ q → A q := fun q h => by rw [← hAe]; exact Or.inr h
  have hS : va_S A s.heap s.heap [] := va_S.rf
  have hP : va_P (dC, dI) vwCl ((cX6 a6 h6 q3 a0 q8 q5 q4 y S6) ++ (cX0 a0 h0 y S0)) s.heap := hP
  have hl := lv_entry ([.ref a6, .int p1]) (n := 2) (Nat.le_of_ble_eq_true rfl)
  rw [lg_entry_eq]
  generalize (lg_sl ([.ref a6, .int p1]) ++ List.replicate (2 - (lg_sl ([.ref a6, .int p1])).length) Slot.unset).toArray = ls at hl ⊢
  have hl : lv_has ls 2 [(0, .ref a6), (1, .int p1)] := hl
  refine lv_aload_n hx hb dX6_value_0 rfl (lv_at hl 0 rfl) ?_
  refine va_get (D := (dC, dI)) (ci := 5) (v := .ref a0) (C := RX6) (T := TX6) (N := 12) hx hb hts inX6_ hown hK hP 0 rfl rfl 3 (by decide) (hts (.fieldLink RX6 23 "GateWheel" "circuit" "LGateWheel$Circuit;") (List.mem_of_getElem? (i := 1) rfl)) (fun _ h9 => h9) rfl dX6_value_1 ?_
  refine lv_iload_n hx hb dX6_value_4 rfl (lv_at hl 1 rfl) ?_
  obtain ⟨r1, hc2, h⟩ := zB_spec h
  have hPc := hP.sub (ws' := (cX0 a0 h0 y S0)) [5, 6, 7, 8, 9, 10, 11, 12, 13, 14, 15, 16] rfl
  have hDc := hD.sub (ws' := (cX0 a0 h0 y S0)) [5, 6, 7, 8, 9, 10, 11, 12, 13, 14, 15, 16] (by decide) rfl
  have hFc := va_free (wc := (cX0 a0 h0 y S0)) hD hS hA [5, 6, 7, 8, 9, 10, 11, 12, 13, 14, 15, 16] rfl
  refine va_calli (va_runV (As := [.int p1]) (rest := []) ⟨hx, hb, hml, hown, hts⟩ (m_X0_has l dC dI y a0 h0 S0 p1 s.heap.size r1 hc2) (cwV 1 hts gX6_value_X0_has rfl rfl rfl (by decide +kernel) ⟨Nat.le_of_ble_eq_true rfl, Nat.le_of_ble_eq_true rfl⟩) ⟨fun a U g mk q => by obtain ⟨q0, q1, qP, qK, qD⟩ := q; exact ⟨q0, q1, qP, va_K.moved (u := U) (U := U.calling g mk a) (Vm.Alike.refl U.vm) qK, qD⟩, va_recv hK hPc (ci := 0) (q0 := 0) rfl rfl, fun U hU hW => ⟨rfl, by rw [hU], by rw [hU]; exact hPc, va_K.moved hW.alike hK, hDc.weaken (fun _ _ _ _ => trivial)⟩⟩ rfl rfl hl.1 rfl (lv_room (Nat.le_of_ble_eq_true rfl)) dX6_value_5 ⟨Nat.le_of_ble_eq_true rfl, Nat.le_of_ble_eq_true rfl⟩) hS (fun q _ h => hFc q h) hFc (fun rr4 u t H3 locs ht hvm hw hB hz1 hk1 hS => ?_)
  obtain ⟨hP1, hK1, hD1⟩ := hB
  rw [ht] at hP1
  refine zTopi hw.symm ?_
  obtain ⟨hP, hD⟩ := va_join (wr := [(oX6 a6 h6 q3 a0 q8 q5 q4 S6), (h6 0, .inl (y 2, 2000, .inl (gA S6 0))), (h6 5, .inl (y 0, 60, .inl (gA S6 5))), (h6 6, .inl (y 0, 60, .inl (gA S6 6))), (h6 7, .inl (y 0, 60, .inl (gA S6 7)))]) (w1 := (cX0 a0 h0 y S0)) hP hD [5, 6, 7, 8, 9, 10, 11, 12, 13, 14, 15, 16] [0, 1, 2, 3, 4] rfl rfl (by decide) (by decide) hk1 hFc hP1 hD1
  have hP : va_P (dC, dI) vwCl ((cX6 a6 h6 q3 a0 q8 q5 q4 y S6) ++ (cX0 a0 h0 y S0)) H3 := hP.sub [0, 1, 2, 3, 4, 5, 6, 7, 8, 9, 10, 11, 12, 13, 14, 15, 16] rfl
  have hD : va_D A ((cX6 a6 h6 q3 a0 q8 q5 q4 y S6) ++ (cX0 a0 h0 y S0)) := hD.sub [0, 1, 2, 3, 4, 5, 6, 7, 8, 9, 10, 11, 12, 13, 14, 15, 16] (by decide) rfl
  refine lv_if_eq (tgt := 20) hx hb dX6_value_8 (by decide) (fun c5 => ?_) (fun c5 => ?_)
  · have h := zY c5 h
    refine lv_iconst (v := (-1)) hx hb dX6_value_20 (by decide) ?_
    have ho0 : (-1 : Int32) = or_ := congrArg (fun z : Int32 => z) (Option.some.inj h)
    exact W.iret (v := (-1)) hx hb hr (fun t ht hW => ⟨⟨(-1), (), rfl, ho0, by rw [ht]; exact hP, va_K.moved hW.alike hK, hD⟩, hS.F ht⟩) hS.2.2 dX6_value_21
  · have h := zN c5 h
    refine lv_aload_n hx hb dX6_value_11 rfl (lv_at hl 0 rfl) ?_
    refine va_get (D := (dC, dI)) (ci := 5) (v := .ref (h6 5)) (C := RX6) (T := TX6) (N := 12) hx hb hts inX6_ hown hK hP 0 rfl rfl 5 (by decide) (hts (.fieldLink RX6 30 "GateWheel" "values" "[I") (List.mem_of_getElem? (i := 2) rfl)) (fun _ h9 => h9) rfl dX6_value_12 ?_
    refine lv_iload_n hx hb dX6_value_15 rfl (lv_at hl 1 rfl) ?_
    obtain ⟨hi6, h⟩ := zG_spec h
    refine va_iald hx hb hK hP 2 0 rfl rfl hi6 dX6_value_16 ?_
    refine lv_goto (tgt := 21) hx hb dX6_value_17 (by decide) ?_
    have ho0 : (gA S6 5 p1.toNatClampNeg) = or_ := congrArg (fun z : Int32 => z) (Option.some.inj h)
    exact W.iret (v := (gA S6 5 p1.toNatClampNeg)) hx hb hr (fun t ht hW => ⟨⟨(gA S6 5 p1.toNatClampNeg), (), rfl, ho0, by rw [ht]; exact hP, va_K.moved hW.alike hK, hD⟩, hS.F ht⟩) hS.2.2 dX6_value_21

set_option maxHeartbeats 4000000 in
set_option maxRecDepth 100000 in
theorem m_X6_tick (l : Launch) (dC : Nat → ClassId) (dI : Nat → Nat → Nat) (y : Nat → ClassId) (a6 : Nat) (h6 : Nat → Nat) (S6 : SS) (a0 : Nat) (h0 : Nat → Nat) (S0 : SS) (q3 : Nat) (q8 : Nat) (q5 : Nat) (q4 : Nat) (sz : Nat) (or_ : Int32) (o_6 : SS) (h : f_X6_tick S6 S0 = some (or_, o_6)) : Met l yX6_tick wsX6_tick ({ frames := 5, cells := 0, slots := 0, locals := 118 }) (va_Pc [.ref a6] (fun U => U.heap.size = sz ∧ va_P (dC, dI) vwCl ((cX6 a6 h6 q3 a0 q8 q5 q4 y S6) ++ (cX0 a0 h0 y S0)) U.heap ∧ va_K (dC, dI) vwCl [(y 0, .int), (y 1, .long), (y 2, .byte), (y 3, .boolean)] U ∧ va_D (fun _ => True) ((cX6 a6 h6 q3 a0 q8 q5 q4 y S6) ++ (cX0 a0 h0 y S0)))) (va_Qi (fun (r : Int32) (_ : Unit) => r = or_) (fun (_ : Unit) (t : State) => va_P (dC, dI) vwCl ((cX6 a6 h6 q3 a0 q8 q5 q4 y o_6) ++ (cX0 a0 h0 y S0)) t.heap ∧ va_K (dC, dI) vwCl [(y 0, .int), (y 1, .long), (y 2, .byte), (y 3, .boolean)] t ∧ va_D (va_A ((cX6 a6 h6 q3 a0 q8 q5 q4 y S6) ++ (cX0 a0 h0 y S0)) sz) ((cX6 a6 h6 q3 a0 q8 q5 q4 y o_6) ++ (cX0 a0 h0 y S0))) (va_A ((cX6 a6 h6 q3 a0 q8 q5 q4 y S6) ++ (cX0 a0 h0 y S0)) sz)) 0 0 (va_A ((cX6 a6 h6 q3 a0 q8 q5 q4 y S6) ++ (cX0 a0 h0 y S0)) sz) := by
  refine Met.ofW (cc := cX6_tick) (maxL := 3) (ret := (some .int)) (by decide +kernel) rfl ?_
  intro p e s m args below meth c s₁ B hml hv
  obtain ⟨rfl, hsz, hP, hK, hD0⟩ := hv
  have hx := B.exec
  have hb := B.bytes
  have hr := B.returns
  have hts := atoms_spec (ws := wsX6_tick) B.pre
  have hown : s.vm.findClass RX6 = some m.cls := findClass_of_methodNamed B.named
  have hlocks := B.notSynchronized
  have inX0_ : ∀ w ∈ wsX00, w ∈ wsX6_tick := fun _ h => List.mem_cons_of_mem _ (List.mem_append_right _ h)
  have inX6_ : ∀ w ∈ wsX60, w ∈ wsX6_tick := fun _ h => List.mem_cons_of_mem _ (List.mem_append_left _ (List.mem_append_right _ h))
  subst hsz
  have hD := hD0.self (sz := s.heap.size)
  generalize hAe : va_A ((cX6 a6 h6 q3 a0 q8 q5 q4 y S6) ++ (cX0 a0 h0 y S0)) s.heap.size = A at hD ⊢
  have hA : ∀ q : Nat, s.heap.size ≤ q → A q := fun q h => by rw [← hAe]; exact Or.inr h
  have hS : va_S A s.heap s.heap [] := va_S.rf
  have hP : va_P (dC, dI) vwCl ((cX6 a6 h6 q3 a0 q8 q5 q4 y S6) ++ (cX0 a0 h0 y S0)) s.heap := hP
  have hl := lv_entry ([.ref a6]) (n := 3) (Nat.le_of_ble_eq_true rfl)
  rw [lg_entry_eq]
  generalize (lg_sl ([.ref a6]) ++ List.replicate (3 - (lg_sl ([.ref a6])).length) Slot.unset).toArray = ls at hl ⊢
  have hl : lv_has ls 3 [(0, .ref a6)] := hl
  refine lv_iconst (v := 0) hx hb dX6_tick_0 (by decide) ?_
  refine lv_istore_n (lv' := [(1, .int 0), (0, .ref a6)]) hx hb dX6_tick_1 rfl hl (by decide) rfl (fun ls hl => ?_)
  refine W_abs (fun GW1 eG2 => ?_)
  obtain ⟨ov5, hi6, h⟩ := zB_spec h
  have je3 : ∀ (s6_10 : SS) (HGW1e : Heap) (locs : List Loc) (ls : Array Slot), s6_10 = ov5 → va_P (dC, dI) vwCl ((cX6 a6 h6 q3 a0 q8 q5 q4 y s6_10) ++ (cX0 a0 h0 y S0)) HGW1e → va_D A ((cX6 a6 h6 q3 a0 q8 q5 q4 y s6_10) ++ (cX0 a0 h0 y S0)) → va_S A s.heap HGW1e locs → lv_has ls 3 [(0, .ref a6)] → GW1 HGW1e locs 0 0 (F0 m 59 ls []) := by
    intro s6_10 HGW1e locs ls hv hP hD hS hl
    subst hv
    refine (eG2 _ _ _ _ _).mpr ?_
    refine lv_iconst (v := 0) hx hb dX6_tick_59 (by decide) ?_
    refine lv_istore_n (lv' := [(1, .int 0), (0, .ref a6)]) hx hb dX6_tick_60 rfl hl (by decide) rfl (fun ls hl => ?_)
    refine lv_iconst (v := 0) hx hb dX6_tick_61 (by decide) ?_
    refine lv_istore_n (lv' := [(2, .int 0), (1, .int 0), (0, .ref a6)]) hx hb dX6_tick_62 rfl hl (by decide) rfl (fun ls hl => ?_)
    refine W_abs (fun GW11 eG12 => ?_)
    obtain ⟨ov15, hi16, h⟩ := zB_spec h
    have je13 : ∀ (v20 : Int32) (s6_21 : SS) (HGW11e : Heap) (locs : List Loc) (ls : Array Slot), (v20, s6_21) = ov15 → va_P (dC, dI) vwCl ((cX6 a6 h6 q3 a0 q8 q5 q4 y s6_21) ++ (cX0 a0 h0 y S0)) HGW11e → va_D A ((cX6 a6 h6 q3 a0 q8 q5 q4 y s6_21) ++ (cX0 a0 h0 y S0)) → va_S A s.heap HGW11e locs → lv_has ls 3 [(0, .ref a6), (1, .int v20)] → GW11 HGW11e locs 0 0 (F0 m 110 ls []) := by
      intro v20 s6_21 HGW11e locs ls hv hP hD hS hl
      subst hv
      refine (eG12 _ _ _ _ _).mpr ?_
      refine lv_aload_n hx hb dX6_tick_110 rfl (lv_at hl 0 rfl) ?_
      obtain ⟨s6_22, hc23, h⟩ := zB_spec h
      have hFc := zFree hD hS hA
      refine va_callv (va_runV (As := []) (rest := []) ⟨hx, hb, hml, hown, hts⟩ (m_X6_settleValues l dC dI y a6 h6 s6_21 a0 h0 S0 q3 q8 q5 q4 HGW11e.size s6_22 hc23) (cwV 0 hts gX6_tick_X6_settleValues rfl rfl rfl (by decide +kernel) ⟨Nat.le_of_ble_eq_true rfl, Nat.le_of_ble_eq_true rfl⟩) ⟨fun a U g mk q => by obtain ⟨q0, q1, qP, qK, qD⟩ := q; exact ⟨q0, q1, qP, va_K.moved (u := U) (U := U.calling g mk a) (Vm.Alike.refl U.vm) qK, qD⟩, va_recv hK hP (ci := 5) (q0 := 0) rfl rfl, fun U hU hW => ⟨rfl, by rw [hU], by rw [hU]; exact hP, va_K.moved hW.alike hK, hD.weaken (fun _ _ _ _ => trivial)⟩⟩ rfl rfl hl.1 rfl (lv_room (Nat.le_of_ble_eq_true rfl)) dX6_tick_111 ⟨Nat.le_of_ble_eq_true rfl, Nat.le_of_ble_eq_true rfl⟩) hS (fun q _ h => hFc q h) hFc (fun u t H24 locs ht hvm hw hB hz1 hk1 hS => ?_)
      obtain ⟨hP1, hK1, hD1⟩ := hB
      rw [ht] at hP1
      have hP := hP1
      have hD := hD1.weaken (fun _ q _ h => hFc q.1 h)
      have hP : va_P (dC, dI) vwCl ((cX6 a6 h6 q3 a0 q8 q5 q4 y s6_22) ++ (cX0 a0 h0 y S0)) H24 := hP
      have hD : va_D A ((cX6 a6 h6 q3 a0 q8 q5 q4 y s6_22) ++ (cX0 a0 h0 y S0)) := hD
      refine lv_iload_n hx hb dX6_tick_114 rfl (lv_at hl 1 rfl) ?_
      have ho0 : v20 = or_ := congrArg (fun z : Int32 × SS => z.1) (Option.some.inj h)
      have ho1 : s6_22 = o_6 := congrArg (fun z : Int32 × SS => z.2) (Option.some.inj h)
      exact W.iret (v := v20) hx hb hr (fun t ht hW => ⟨⟨v20, (), rfl, ho0, by rw [ht]; rw [← ho1]; exact hP, va_K.moved hW.alike hK, by rw [← ho1]; exact hD⟩, hS.F ht⟩) hS.2.2 dX6_tick_115
    have lp14 : ∀ (n : Nat) (v26 : Int32) (v27 : Int32) (s6_28 : SS) (HGW11 : Heap) (locs : List Loc) (ls : Array Slot), zI (b_X6_tick_63 S0) n (v26, v27, s6_28) = some ov15 → va_P (dC, dI) vwCl ((cX6 a6 h6 q3 a0 q8 q5 q4 y s6_28) ++ (cX0 a0 h0 y S0)) HGW11 → va_D A ((cX6 a6 h6 q3 a0 q8 q5 q4 y s6_28) ++ (cX0 a0 h0 y S0)) → va_S A s.heap HGW11 locs → lv_has ls 3 [(0, .ref a6), (1, .int v26), (2, .int v27)] → GW11 HGW11 locs 0 0 (F0 m 63 ls []) := by
      intro n
      induction n with
      | zero =>
        intro v26 v27 s6_28 HGW11 locs ls hi16 hP hD hS hl
        exact (zI_0 hi16).elim
      | succ n ihlp14 =>
        intro v26 v27 s6_28 HGW11 locs ls hi16 hP hD hS hl
        refine (eG12 _ _ _ _ _).mpr ?_
        obtain ⟨xx19, h, hx18⟩ := zI_spec hi16
        refine lv_iload_n hx hb dX6_tick_63 rfl (lv_at hl 2 rfl) ?_
        refine lv_aload_n hx hb dX6_tick_64 rfl (lv_at hl 0 rfl) ?_
        refine va_get (D := (dC, dI)) (ci := 5) (v := .ref a0) (C := RX6) (T := TX6) (N := 12) hx hb hts inX6_ hown hK hP 0 rfl rfl 3 (by decide) (hts (.fieldLink RX6 23 "GateWheel" "circuit" "LGateWheel$Circuit;") (List.mem_of_getElem? (i := 1) rfl)) (fun _ h9 => h9) rfl dX6_tick_65 ?_
        refine va_get (D := (dC, dI)) (ci := 0) (v := .int (gI S0 0)) (C := RX0) (T := TX0) (N := 13) hx hb hts inX0_ hown hK hP 5 rfl rfl 0 (by decide) (hts (.fieldLink RX6 66 "GateWheel$Circuit" "count" "I") (List.mem_of_getElem? (i := 2) rfl)) (fun _ h9 => h9) rfl dX6_tick_68 ?_
        refine lv_icmp_ge (tgt := 110) hx hb dX6_tick_71 (by decide) (fun c29 => ?_) (fun c29 => ?_)
        · have h := zY c29 h
          exact (eG12 _ _ _ _ _).mp (je13 v26 s6_28 _ _ _ (zI_r h hx18) hP hD hS (lv_sub hl [0, 1] rfl))
        · have h := zN c29 h
          refine lv_aload_n hx hb dX6_tick_74 rfl (lv_at hl 0 rfl) ?_
          refine va_get (D := (dC, dI)) (ci := 5) (v := .ref (h6 6)) (C := RX6) (T := TX6) (N := 12) hx hb hts inX6_ hown hK hP 0 rfl rfl 6 (by decide) (hts (.fieldLink RX6 34 "GateWheel" "rowOne" "[I") (List.mem_of_getElem? (i := 3) rfl)) (fun _ h9 => h9) rfl dX6_tick_75 ?_
          refine lv_iload_n hx hb dX6_tick_78 rfl (lv_at hl 2 rfl) ?_
          obtain ⟨hi30, h⟩ := zG_spec h
          refine va_iald hx hb hK hP 3 0 rfl rfl hi30 dX6_tick_79 ?_
          refine lv_aload_n hx hb dX6_tick_80 rfl (lv_at hl 0 rfl) ?_
          refine va_get (D := (dC, dI)) (ci := 5) (v := .ref (h6 5)) (C := RX6) (T := TX6) (N := 12) hx hb hts inX6_ hown hK hP 0 rfl rfl 5 (by decide) (hts (.fieldLink RX6 30 "GateWheel" "values" "[I") (List.mem_of_getElem? (i := 5) rfl)) (fun _ h9 => h9) rfl dX6_tick_81 ?_
          refine lv_iload_n hx hb dX6_tick_84 rfl (lv_at hl 2 rfl) ?_
          refine va_iald hx hb hK hP 2 0 rfl rfl hi30 dX6_tick_85 ?_
          refine lv_icmp_eq (tgt := 104) hx hb dX6_tick_86 (by decide) (fun c31 => ?_) (fun c31 => ?_)
          · have h := zY c31 h
            obtain ⟨v32, ev32, h⟩ := zL_spec h
            refine lv_iinc (v := v32) (lv' := [(2, .int v32), (0, .ref a6), (1, .int v26)]) hx hb dX6_tick_104 hl (k := 2) rfl (by rw [ev32]; rfl) (by decide) rfl (fun ls hl => ?_)
            refine lv_goto (tgt := 63) hx hb dX6_tick_107 (by decide) ?_
            have h := zI_l h hx18
            exact (eG12 _ _ _ _ _).mp (ihlp14 v26 v32 s6_28 _ _ _ h hP hD hS (lv_sub hl [1, 2, 0] rfl))
          · have h := zN c31 h
            obtain ⟨v33, ev33, h⟩ := zL_spec h
            refine lv_iinc (v := v33) (lv' := [(1, .int v33), (0, .ref a6), (2, .int v27)]) hx hb dX6_tick_89 hl (k := 1) rfl (by rw [ev33]; rfl) (by decide) rfl (fun ls hl => ?_)
            refine lv_aload_n hx hb dX6_tick_92 rfl (lv_at hl 1 rfl) ?_
            refine va_get (D := (dC, dI)) (ci := 5) (v := .ref (h6 5)) (C := RX6) (T := TX6) (N := 12) hx hb hts inX6_ hown hK hP 0 rfl rfl 5 (by decide) (hts (.fieldLink RX6 30 "GateWheel" "values" "[I") (List.mem_of_getElem? (i := 5) rfl)) (fun _ h9 => h9) rfl dX6_tick_93 ?_
            refine lv_iload_n hx hb dX6_tick_96 rfl (lv_at hl 2 rfl) ?_
            refine lv_aload_n hx hb dX6_tick_97 rfl (lv_at hl 1 rfl) ?_
            refine va_get (D := (dC, dI)) (ci := 5) (v := .ref (h6 6)) (C := RX6) (T := TX6) (N := 12) hx hb hts inX6_ hown hK hP 0 rfl rfl 6 (by decide) (hts (.fieldLink RX6 34 "GateWheel" "rowOne" "[I") (List.mem_of_getElem? (i := 3) rfl)) (fun _ h9 => h9) rfl dX6_tick_98 ?_
            refine lv_iload_n hx hb dX6_tick_101 rfl (lv_at hl 2 rfl) ?_
            refine va_iald hx hb hK hP 3 0 rfl rfl hi30 dX6_tick_102 ?_
            refine va_iast hx hb hK hP hD hS 2 0 rfl rfl hi30 dX6_tick_103 (fun H34 locs hP hD hS => ?_)
            obtain ⟨s6_35, es6_35, h⟩ := zL_spec h
            have hP : va_P (dC, dI) vwCl ((cX6 a6 h6 q3 a0 q8 q5 q4 y s6_35) ++ (cX0 a0 h0 y S0)) H34 := by rw [es6_35]; exact hP
            have hD : va_D A ((cX6 a6 h6 q3 a0 q8 q5 q4 y s6_35) ++ (cX0 a0 h0 y S0)) := by rw [es6_35]; exact hD
            obtain ⟨v36, ev36, h⟩ := zL_spec h
            refine lv_iinc (v := v36) (lv' := [(2, .int v36), (1, .int v33), (0, .ref a6)]) hx hb dX6_tick_104 hl (k := 2) rfl (by rw [ev36]; rfl) (by decide) rfl (fun ls hl => ?_)
            refine lv_goto (tgt := 63) hx hb dX6_tick_107 (by decide) ?_
            have h := zI_l h hx18
            exact (eG12 _ _ _ _ _).mp (ihlp14 v33 v36 s6_35 _ _ _ h hP hD hS (lv_sub hl [2, 1, 0] rfl))
    exact lp14 zF (0 : Int32) (0 : Int32) s6_10 _ _ _ hi16 hP hD hS (lv_sub hl [2, 1, 0] rfl)
  have lp4 : ∀ (n : Nat) (v37 : Int32) (s6_38 : SS) (HGW1 : Heap) (locs : List Loc) (ls : Array Slot), zI (b_X6_tick_2 S0) n (v37, s6_38) = some ov5 → va_P (dC, dI) vwCl ((cX6 a6 h6 q3 a0 q8 q5 q4 y s6_38) ++ (cX0 a0 h0 y S0)) HGW1 → va_D A ((cX6 a6 h6 q3 a0 q8 q5 q4 y s6_38) ++ (cX0 a0 h0 y S0)) → va_S A s.heap HGW1 locs → lv_has ls 3 [(0, .ref a6), (1, .int v37)] → GW1 HGW1 locs 0 0 (F0 m 2 ls []) := by
    intro n
    induction n with
    | zero =>
      intro v37 s6_38 HGW1 locs ls hi6 hP hD hS hl
      exact (zI_0 hi6).elim
    | succ n ihlp4 =>
      intro v37 s6_38 HGW1 locs ls hi6 hP hD hS hl
      refine (eG2 _ _ _ _ _).mpr ?_
      obtain ⟨xx9, h, hx8⟩ := zI_spec hi6
      refine lv_iload_n hx hb dX6_tick_2 rfl (lv_at hl 1 rfl) ?_
      refine lv_aload_n hx hb dX6_tick_3 rfl (lv_at hl 0 rfl) ?_
      refine va_get (D := (dC, dI)) (ci := 5) (v := .ref a0) (C := RX6) (T := TX6) (N := 12) hx hb hts inX6_ hown hK hP 0 rfl rfl 3 (by decide) (hts (.fieldLink RX6 23 "GateWheel" "circuit" "LGateWheel$Circuit;") (List.mem_of_getElem? (i := 1) rfl)) (fun _ h9 => h9) rfl dX6_tick_4 ?_
      refine va_get (D := (dC, dI)) (ci := 0) (v := .int (gI S0 0)) (C := RX0) (T := TX0) (N := 13) hx hb hts inX0_ hown hK hP 5 rfl rfl 0 (by decide) (hts (.fieldLink RX6 66 "GateWheel$Circuit" "count" "I") (List.mem_of_getElem? (i := 2) rfl)) (fun _ h9 => h9) rfl dX6_tick_7 ?_
      refine lv_icmp_ge (tgt := 59) hx hb dX6_tick_10 (by decide) (fun c39 => ?_) (fun c39 => ?_)
      · have h := zY c39 h
        exact (eG2 _ _ _ _ _).mp (je3 s6_38 _ _ _ (zI_r h hx8) hP hD hS (lv_sub hl [0] rfl))
      · have h := zN c39 h
        refine lv_aload_n hx hb dX6_tick_13 rfl (lv_at hl 0 rfl) ?_
        refine va_get (D := (dC, dI)) (ci := 5) (v := .ref (h6 6)) (C := RX6) (T := TX6) (N := 12) hx hb hts inX6_ hown hK hP 0 rfl rfl 6 (by decide) (hts (.fieldLink RX6 34 "GateWheel" "rowOne" "[I") (List.mem_of_getElem? (i := 3) rfl)) (fun _ h9 => h9) rfl dX6_tick_14 ?_
        refine lv_iload_n hx hb dX6_tick_17 rfl (lv_at hl 1 rfl) ?_
        refine lv_aload_n hx hb dX6_tick_18 rfl (lv_at hl 0 rfl) ?_
        refine va_get (D := (dC, dI)) (ci := 5) (v := .ref a0) (C := RX6) (T := TX6) (N := 12) hx hb hts inX6_ hown hK hP 0 rfl rfl 3 (by decide) (hts (.fieldLink RX6 23 "GateWheel" "circuit" "LGateWheel$Circuit;") (List.mem_of_getElem? (i := 1) rfl)) (fun _ h9 => h9) rfl dX6_tick_19 ?_
        refine va_get (D := (dC, dI)) (ci := 0) (v := .ref (h0 4)) (C := RX0) (T := TX0) (N := 13) hx hb hts inX0_ hown hK hP 5 rfl rfl 4 (by decide) (hts (.fieldLink RX6 92 "GateWheel$Circuit" "kinds" "[I") (List.mem_of_getElem? (i := 4) rfl)) (fun _ h9 => h9) rfl dX6_tick_22 ?_
        refine lv_iload_n hx hb dX6_tick_25 rfl (lv_at hl 1 rfl) ?_
        obtain ⟨hi40, h⟩ := zG_spec h
        refine va_iald hx hb hK hP 8 0 rfl rfl hi40 dX6_tick_26 ?_
        refine lv_iconst (v := 3) hx hb dX6_tick_27 (by decide) ?_
        refine W_abs (fun GW41 eG42 => ?_)
        obtain ⟨ov44, hr45, h⟩ := zB_spec h
        have jn43 : ∀ (v47 : Int32) (HGW41 : Heap) (locs : List Loc) (ls : Array Slot), v47 = ov44 → va_P (dC, dI) vwCl ((cX6 a6 h6 q3 a0 q8 q5 q4 y s6_38) ++ (cX0 a0 h0 y S0)) HGW41 → va_D A ((cX6 a6 h6 q3 a0 q8 q5 q4 y s6_38) ++ (cX0 a0 h0 y S0)) → va_S A s.heap HGW41 locs → lv_has ls 3 [(0, .ref a6), (1, .int v37)] → GW41 HGW41 locs 0 0 (F0 m 52 ls [.int v47, .int v37, .ref (h6 6)]) := by
          intro v47 HGW41 locs ls hv hP hD hS hl
          subst hv
          refine (eG42 _ _ _ _ _).mpr ?_
          refine va_iast hx hb hK hP hD hS 3 0 rfl rfl hi40 dX6_tick_52 (fun H48 locs hP hD hS => ?_)
          obtain ⟨s6_49, es6_49, h⟩ := zL_spec h
          have hP : va_P (dC, dI) vwCl ((cX6 a6 h6 q3 a0 q8 q5 q4 y s6_49) ++ (cX0 a0 h0 y S0)) H48 := by rw [es6_49]; exact hP
          have hD : va_D A ((cX6 a6 h6 q3 a0 q8 q5 q4 y s6_49) ++ (cX0 a0 h0 y S0)) := by rw [es6_49]; exact hD
          obtain ⟨v50, ev50, h⟩ := zL_spec h
          refine lv_iinc (v := v50) (lv' := [(1, .int v50), (0, .ref a6)]) hx hb dX6_tick_53 hl (k := 1) rfl (by rw [ev50]; rfl) (by decide) rfl (fun ls hl => ?_)
          refine lv_goto (tgt := 2) hx hb dX6_tick_56 (by decide) ?_
          have h := zI_l h hx8
          exact (eG2 _ _ _ _ _).mp (ihlp4 v50 s6_49 _ _ _ h hP hD hS (lv_sub hl [1, 0] rfl))
        refine (eG42 _ _ _ _ _).mpr ?_
        have h := hr45
        refine lv_icmp_ne (tgt := 46) hx hb dX6_tick_28 (by decide) (fun c51 => ?_) (fun c51 => ?_)
        · have h := zN c51 h
          refine lv_aload_n hx hb dX6_tick_46 rfl (lv_at hl 0 rfl) ?_
          refine va_get (D := (dC, dI)) (ci := 5) (v := .ref (h6 5)) (C := RX6) (T := TX6) (N := 12) hx hb hts inX6_ hown hK hP 0 rfl rfl 5 (by decide) (hts (.fieldLink RX6 30 "GateWheel" "values" "[I") (List.mem_of_getElem? (i := 5) rfl)) (fun _ h9 => h9) rfl dX6_tick_47 ?_
          refine lv_iload_n hx hb dX6_tick_50 rfl (lv_at hl 1 rfl) ?_
          refine va_iald hx hb hK hP 2 0 rfl rfl hi40 dX6_tick_51 ?_
          exact (eG42 _ _ _ _ _).mp (jn43 (gA s6_38 5 v37.toNatClampNeg) _ _ _ (Option.some.inj h) hP hD hS (lv_sub hl [0, 1] rfl))
        · have h := zY c51 h
          refine lv_aload_n hx hb dX6_tick_31 rfl (lv_at hl 0 rfl) ?_
          refine va_get (D := (dC, dI)) (ci := 5) (v := .ref a0) (C := RX6) (T := TX6) (N := 12) hx hb hts inX6_ hown hK hP 0 rfl rfl 3 (by decide) (hts (.fieldLink RX6 23 "GateWheel" "circuit" "LGateWheel$Circuit;") (List.mem_of_getElem? (i := 1) rfl)) (fun _ h9 => h9) rfl dX6_tick_32 ?_
          refine lv_iload_n hx hb dX6_tick_35 rfl (lv_at hl 1 rfl) ?_
          refine lv_aload_n hx hb dX6_tick_36 rfl (lv_at hl 0 rfl) ?_
          refine va_get (D := (dC, dI)) (ci := 5) (v := .ref (h6 5)) (C := RX6) (T := TX6) (N := 12) hx hb hts inX6_ hown hK hP 0 rfl rfl 5 (by decide) (hts (.fieldLink RX6 30 "GateWheel" "values" "[I") (List.mem_of_getElem? (i := 5) rfl)) (fun _ h9 => h9) rfl dX6_tick_37 ?_
          obtain ⟨r52, hc53, h⟩ := zB_spec h
          have hPc := hP.sub (ws' := ((cX0 a0 h0 y S0) ++ ([((h6 5), .inl (y 0, 60, .inl (gA s6_38 5)))]))) [5, 6, 7, 8, 9, 10, 11, 12, 13, 14, 15, 16, 2] rfl
          have hDc := hD.sub (ws' := ((cX0 a0 h0 y S0) ++ ([((h6 5), .inl (y 0, 60, .inl (gA s6_38 5)))]))) [5, 6, 7, 8, 9, 10, 11, 12, 13, 14, 15, 16, 2] (by decide) rfl
          have hFc := va_free (wc := ((cX0 a0 h0 y S0) ++ ([((h6 5), .inl (y 0, 60, .inl (gA s6_38 5)))]))) hD hS hA [5, 6, 7, 8, 9, 10, 11, 12, 13, 14, 15, 16, 2] rfl
          refine va_calli (va_runS (As := [.ref a0, .int v37, .ref (h6 5)]) (rest := [.int v37, .ref (h6 6)]) ⟨hx, hb, hml, hown, hts⟩ (m_X2_afterTick l dC dI y a0 h0 S0 (h6 5) (gA s6_38 5) v37 HGW1.size r52 hc53) (va_cwS 3 hts gX6_tick_X2_afterTick rfl rfl rfl (by decide +kernel) ⟨Nat.le_of_ble_eq_true rfl, Nat.le_of_ble_eq_true rfl⟩) ⟨fun a U g mk q => by obtain ⟨q0, q1, qP, qK, qD⟩ := q; exact ⟨q0, q1, qP, va_K.moved (u := U) (U := U.calling g mk a) (Vm.Alike.refl U.vm) qK, qD⟩, fun U hU hW => ⟨rfl, by rw [hU], by rw [hU]; exact hPc, va_K.moved hW.alike hK, hDc.weaken (fun _ _ _ _ => trivial)⟩⟩ rfl rfl hl.1 rfl (lv_room (Nat.le_of_ble_eq_true rfl)) dX6_tick_40 ⟨Nat.le_of_ble_eq_true rfl, Nat.le_of_ble_eq_true rfl⟩) hS (fun q _ h => hFc q h) hFc (fun rr55 u t H54 locs ht hvm hw hB hz1 hk1 hS => ?_)
          obtain ⟨hP1, hK1, hD1⟩ := hB
          rw [ht] at hP1
          refine zTopi hw.symm ?_
          obtain ⟨hP, hD⟩ := va_join (wr := [(oX6 a6 h6 q3 a0 q8 q5 q4 s6_38), (h6 0, .inl (y 2, 2000, .inl (gA s6_38 0))), (h6 6, .inl (y 0, 60, .inl (gA s6_38 6))), (h6 7, .inl (y 0, 60, .inl (gA s6_38 7)))]) (w1 := ((cX0 a0 h0 y S0) ++ ([((h6 5), .inl (y 0, 60, .inl (gA s6_38 5)))]))) hP hD [5, 6, 7, 8, 9, 10, 11, 12, 13, 14, 15, 16, 2] [0, 1, 3, 4] rfl rfl (by decide) (by decide) hk1 hFc hP1 hD1
          have hP : va_P (dC, dI) vwCl ((cX6 a6 h6 q3 a0 q8 q5 q4 y s6_38) ++ (cX0 a0 h0 y S0)) H54 := hP.sub [0, 1, 16, 2, 3, 4, 5, 6, 7, 8, 9, 10, 11, 12, 13, 14, 15] rfl
          have hD : va_D A ((cX6 a6 h6 q3 a0 q8 q5 q4 y s6_38) ++ (cX0 a0 h0 y S0)) := hD.sub [0, 1, 16, 2, 3, 4, 5, 6, 7, 8, 9, 10, 11, 12, 13, 14, 15] (by decide) rfl
          refine lv_goto (tgt := 52) hx hb dX6_tick_43 (by decide) ?_
          exact (eG42 _ _ _ _ _).mp (jn43 r52 _ _ _ (Option.some.inj h) hP hD hS (lv_sub hl [0, 1] rfl))
  exact lp4 zF (0 : Int32) S6 _ _ _ hi6 hP hD hS (lv_sub hl [1, 0] rfl)

set_option maxHeartbeats 4000000 in
set_option maxRecDepth 100000 in
theorem m_X6_countFree (l : Launch) (dC : Nat → ClassId) (dI : Nat → Nat → Nat) (y : Nat → ClassId) (a6 : Nat) (h6 : Nat → Nat) (S6 : SS) (a0 : Nat) (h0 : Nat → Nat) (S0 : SS) (q3 : Nat) (q8 : Nat) (q5 : Nat) (q4 : Nat) (sz : Nat) (or_ : Int32) (h : f_X6_countFree S6 S0 = some or_) : Met l yX6_countFree wsX6_countFree ({ frames := 3, cells := 0, slots := 0, locals := 64 }) (va_Pc [.ref a6] (fun U => U.heap.size = sz ∧ va_P (dC, dI) vwCl ((cX6 a6 h6 q3 a0 q8 q5 q4 y S6) ++ (cX0 a0 h0 y S0)) U.heap ∧ va_K (dC, dI) vwCl [(y 0, .int), (y 1, .long), (y 2, .byte), (y 3, .boolean)] U ∧ va_D (fun _ => True) ((cX6 a6 h6 q3 a0 q8 q5 q4 y S6) ++ (cX0 a0 h0 y S0)))) (va_Qi (fun (r : Int32) (_ : Unit) => r = or_) (fun (_ : Unit) (t : State) => va_P (dC, dI) vwCl ((cX6 a6 h6 q3 a0 q8 q5 q4 y S6) ++ (cX0 a0 h0 y S0)) t.heap ∧ va_K (dC, dI) vwCl [(y 0, .int), (y 1, .long), (y 2, .byte), (y 3, .boolean)] t ∧ va_D (va_A ((cX6 a6 h6 q3 a0 q8 q5 q4 y S6) ++ (cX0 a0 h0 y S0)) sz) ((cX6 a6 h6 q3 a0 q8 q5 q4 y S6) ++ (cX0 a0 h0 y S0))) (va_A ((cX6 a6 h6 q3 a0 q8 q5 q4 y S6) ++ (cX0 a0 h0 y S0)) sz)) 0 0 (va_A ((cX6 a6 h6 q3 a0 q8 q5 q4 y S6) ++ (cX0 a0 h0 y S0)) sz) := by
  refine Met.ofW (cc := cX6_countFree) (maxL := 3) (ret := (some .int)) (by decide +kernel) rfl ?_
  intro p e s m args below meth c s₁ B hml hv
  obtain ⟨rfl, hsz, hP, hK, hD0⟩ := hv
  have hx := B.exec
  have hb := B.bytes
  have hr := B.returns
  have hts := atoms_spec (ws := wsX6_countFree) B.pre
  have hown : s.vm.findClass RX6 = some m.cls := findClass_of_methodNamed B.named
  have hlocks := B.notSynchronized
  have inX0_ : ∀ w ∈ wsX00, w ∈ wsX6_countFree := fun _ h => List.mem_cons_of_mem _ (List.mem_append_right _ h)
  have inX6_ : ∀ w ∈ wsX60, w ∈ wsX6_countFree := fun _ h => List.mem_cons_of_mem _ (List.mem_append_left _ (List.mem_append_right _ h))
  subst hsz
  have hD := hD0.self (sz := s.heap.size)
  generalize hAe : va_A ((cX6 a6 h6 q3 a0 q8 q5 q4 y S6) ++ (cX0 a0 h0 y S0)) s.heap.size = A at hD ⊢
  have hA : ∀ q : Nat, s.heap.size ≤ q → A q := fun q h => by rw [← hAe]; exact Or.inr h
  have hS : va_S A s.heap s.heap [] := va_S.rf
  have hP : va_P (dC, dI) vwCl ((cX6 a6 h6 q3 a0 q8 q5 q4 y S6) ++ (cX0 a0 h0 y S0)) s.heap := hP
  have hl := lv_entry ([.ref a6]) (n := 3) (Nat.le_of_ble_eq_true rfl)
  rw [lg_entry_eq]
  generalize (lg_sl ([.ref a6]) ++ List.replicate (3 - (lg_sl ([.ref a6])).length) Slot.unset).toArray = ls at hl ⊢
  have hl : lv_has ls 3 [(0, .ref a6)] := hl
  refine lv_iconst (v := 0) hx hb dX6_countFree_0 (by decide) ?_
  refine lv_istore_n (lv' := [(1, .int 0), (0, .ref a6)]) hx hb dX6_countFree_1 rfl hl (by decide) rfl (fun ls hl => ?_)
  refine lv_iconst (v := 0) hx hb dX6_countFree_2 (by decide) ?_
  refine lv_istore_n (lv' := [(2, .int 0), (1, .int 0), (0, .ref a6)]) hx hb dX6_countFree_3 rfl hl (by decide) rfl (fun ls hl => ?_)
  refine W_abs (fun GW1 eG2 => ?_)
  have hi6 := h
  have lp4 : ∀ (n : Nat) (v10 : Int32) (v11 : Int32) (HGW1 : Heap) (locs : List Loc) (ls : Array Slot), zI (b_X6_countFree_4 S6 S0) n (v10, v11) = some or_ → va_P (dC, dI) vwCl ((cX6 a6 h6 q3 a0 q8 q5 q4 y S6) ++ (cX0 a0 h0 y S0)) HGW1 → va_D A ((cX6 a6 h6 q3 a0 q8 q5 q4 y S6) ++ (cX0 a0 h0 y S0)) → va_S A s.heap HGW1 locs → lv_has ls 3 [(0, .ref a6), (1, .int v10), (2, .int v11)] → GW1 HGW1 locs 0 0 (F0 m 4 ls []) := by
    intro n
    induction n with
    | zero =>
      intro v10 v11 HGW1 locs ls hi6 hP hD hS hl
      exact (zI_0 hi6).elim
    | succ n ihlp4 =>
      intro v10 v11 HGW1 locs ls hi6 hP hD hS hl
      refine (eG2 _ _ _ _ _).mpr ?_
      obtain ⟨xx9, h, hx8⟩ := zI_spec hi6
      refine lv_iload_n hx hb dX6_countFree_4 rfl (lv_at hl 2 rfl) ?_
      refine lv_aload_n hx hb dX6_countFree_5 rfl (lv_at hl 0 rfl) ?_
      refine va_get (D := (dC, dI)) (ci := 5) (v := .ref a0) (C := RX6) (T := TX6) (N := 12) hx hb hts inX6_ hown hK hP 0 rfl rfl 3 (by decide) (hts (.fieldLink RX6 23 "GateWheel" "circuit" "LGateWheel$Circuit;") (List.mem_of_getElem? (i := 1) rfl)) (fun _ h9 => h9) rfl dX6_countFree_6 ?_
      refine va_get (D := (dC, dI)) (ci := 0) (v := .int (gI S0 0)) (C := RX0) (T := TX0) (N := 13) hx hb hts inX0_ hown hK hP 5 rfl rfl 0 (by decide) (hts (.fieldLink RX6 66 "GateWheel$Circuit" "count" "I") (List.mem_of_getElem? (i := 2) rfl)) (fun _ h9 => h9) rfl dX6_countFree_9 ?_
      refine lv_icmp_ge (tgt := 45) hx hb dX6_countFree_12 (by decide) (fun c12 => ?_) (fun c12 => ?_)
      · have h := zY c12 h
        refine lv_iload_n hx hb dX6_countFree_45 rfl (lv_at hl 1 rfl) ?_
        have h := congrArg some (zI_r h hx8)
        have ho0 : v10 = or_ := congrArg (fun z : Int32 => z) (Option.some.inj h)
        exact W.iret (v := v10) hx hb hr (fun t ht hW => ⟨⟨v10, (), rfl, ho0, by rw [ht]; exact hP, va_K.moved hW.alike hK, hD⟩, hS.F ht⟩) hS.2.2 dX6_countFree_46
      · have h := zN c12 h
        refine lv_aload_n hx hb dX6_countFree_15 rfl (lv_at hl 0 rfl) ?_
        refine va_get (D := (dC, dI)) (ci := 5) (v := .ref a0) (C := RX6) (T := TX6) (N := 12) hx hb hts inX6_ hown hK hP 0 rfl rfl 3 (by decide) (hts (.fieldLink RX6 23 "GateWheel" "circuit" "LGateWheel$Circuit;") (List.mem_of_getElem? (i := 1) rfl)) (fun _ h9 => h9) rfl dX6_countFree_16 ?_
        refine lv_iload_n hx hb dX6_countFree_19 rfl (lv_at hl 2 rfl) ?_
        obtain ⟨r13, hc14, h⟩ := zB_spec h
        have hPc := hP.sub (ws' := (cX0 a0 h0 y S0)) [5, 6, 7, 8, 9, 10, 11, 12, 13, 14, 15, 16] rfl
        have hDc := hD.sub (ws' := (cX0 a0 h0 y S0)) [5, 6, 7, 8, 9, 10, 11, 12, 13, 14, 15, 16] (by decide) rfl
        have hFc := va_free (wc := (cX0 a0 h0 y S0)) hD hS hA [5, 6, 7, 8, 9, 10, 11, 12, 13, 14, 15, 16] rfl
        refine va_calli (va_runV (As := [.int v11]) (rest := []) ⟨hx, hb, hml, hown, hts⟩ (m_X0_isSource l dC dI y a0 h0 S0 v11 HGW1.size r13 hc14) (cwV 1 hts gX6_countFree_X0_isSource rfl rfl rfl (by decide +kernel) ⟨Nat.le_of_ble_eq_true rfl, Nat.le_of_ble_eq_true rfl⟩) ⟨fun a U g mk q => by obtain ⟨q0, q1, qP, qK, qD⟩ := q; exact ⟨q0, q1, qP, va_K.moved (u := U) (U := U.calling g mk a) (Vm.Alike.refl U.vm) qK, qD⟩, va_recv hK hPc (ci := 0) (q0 := 0) rfl rfl, fun U hU hW => ⟨rfl, by rw [hU], by rw [hU]; exact hPc, va_K.moved hW.alike hK, hDc.weaken (fun _ _ _ _ => trivial)⟩⟩ rfl rfl hl.1 rfl (lv_room (Nat.le_of_ble_eq_true rfl)) dX6_countFree_20 ⟨Nat.le_of_ble_eq_true rfl, Nat.le_of_ble_eq_true rfl⟩) hS (fun q _ h => hFc q h) hFc (fun rr16 u t H15 locs ht hvm hw hB hz1 hk1 hS => ?_)
        obtain ⟨hP1, hK1, hD1⟩ := hB
        rw [ht] at hP1
        refine zTopi hw.symm ?_
        obtain ⟨hP, hD⟩ := va_join (wr := [(oX6 a6 h6 q3 a0 q8 q5 q4 S6), (h6 0, .inl (y 2, 2000, .inl (gA S6 0))), (h6 5, .inl (y 0, 60, .inl (gA S6 5))), (h6 6, .inl (y 0, 60, .inl (gA S6 6))), (h6 7, .inl (y 0, 60, .inl (gA S6 7)))]) (w1 := (cX0 a0 h0 y S0)) hP hD [5, 6, 7, 8, 9, 10, 11, 12, 13, 14, 15, 16] [0, 1, 2, 3, 4] rfl rfl (by decide) (by decide) hk1 hFc hP1 hD1
        have hP : va_P (dC, dI) vwCl ((cX6 a6 h6 q3 a0 q8 q5 q4 y S6) ++ (cX0 a0 h0 y S0)) H15 := hP.sub [0, 1, 2, 3, 4, 5, 6, 7, 8, 9, 10, 11, 12, 13, 14, 15, 16] rfl
        have hD : va_D A ((cX6 a6 h6 q3 a0 q8 q5 q4 y S6) ++ (cX0 a0 h0 y S0)) := hD.sub [0, 1, 2, 3, 4, 5, 6, 7, 8, 9, 10, 11, 12, 13, 14, 15, 16] (by decide) rfl
        refine lv_if_eq (tgt := 39) hx hb dX6_countFree_23 (by decide) (fun c17 => ?_) (fun c17 => ?_)
        · have h := zY c17 h
          obtain ⟨v18, ev18, h⟩ := zL_spec h
          refine lv_iinc (v := v18) (lv' := [(2, .int v18), (0, .ref a6), (1, .int v10)]) hx hb dX6_countFree_39 hl (k := 2) rfl (by rw [ev18]; rfl) (by decide) rfl (fun ls hl => ?_)
          refine lv_goto (tgt := 4) hx hb dX6_countFree_42 (by decide) ?_
          have h := zI_l h hx8
          exact (eG2 _ _ _ _ _).mp (ihlp4 v10 v18 _ _ _ h hP hD hS (lv_sub hl [1, 2, 0] rfl))
        · have h := zN c17 h
          refine lv_aload_n hx hb dX6_countFree_26 rfl (lv_at hl 0 rfl) ?_
          refine va_get (D := (dC, dI)) (ci := 5) (v := .ref (h6 5)) (C := RX6) (T := TX6) (N := 12) hx hb hts inX6_ hown hK hP 0 rfl rfl 5 (by decide) (hts (.fieldLink RX6 30 "GateWheel" "values" "[I") (List.mem_of_getElem? (i := 3) rfl)) (fun _ h9 => h9) rfl dX6_countFree_27 ?_
          refine lv_iload_n hx hb dX6_countFree_30 rfl (lv_at hl 2 rfl) ?_
          obtain ⟨hi19, h⟩ := zG_spec h
          refine va_iald hx hb hK hP 2 0 rfl rfl hi19 dX6_countFree_31 ?_
          refine lv_iconst (v := 2) hx hb dX6_countFree_32 (by decide) ?_
          refine lv_icmp_lt (tgt := 39) hx hb dX6_countFree_33 (by decide) (fun c20 => ?_) (fun c20 => ?_)
          · have h := zY c20 h
            obtain ⟨v21, ev21, h⟩ := zL_spec h
            refine lv_iinc (v := v21) (lv' := [(2, .int v21), (0, .ref a6), (1, .int v10)]) hx hb dX6_countFree_39 hl (k := 2) rfl (by rw [ev21]; rfl) (by decide) rfl (fun ls hl => ?_)
            refine lv_goto (tgt := 4) hx hb dX6_countFree_42 (by decide) ?_
            have h := zI_l h hx8
            exact (eG2 _ _ _ _ _).mp (ihlp4 v10 v21 _ _ _ h hP hD hS (lv_sub hl [1, 2, 0] rfl))
          · have h := zN c20 h
            obtain ⟨v22, ev22, h⟩ := zL_spec h
            refine lv_iinc (v := v22) (lv' := [(1, .int v22), (0, .ref a6), (2, .int v11)]) hx hb dX6_countFree_36 hl (k := 1) rfl (by rw [ev22]; rfl) (by decide) rfl (fun ls hl => ?_)
            obtain ⟨v23, ev23, h⟩ := zL_spec h
            refine lv_iinc (v := v23) (lv' := [(2, .int v23), (1, .int v22), (0, .ref a6)]) hx hb dX6_countFree_39 hl (k := 2) rfl (by rw [ev23]; rfl) (by decide) rfl (fun ls hl => ?_)
            refine lv_goto (tgt := 4) hx hb dX6_countFree_42 (by decide) ?_
            have h := zI_l h hx8
            exact (eG2 _ _ _ _ _).mp (ihlp4 v22 v23 _ _ _ h hP hD hS (lv_sub hl [2, 1, 0] rfl))
  exact lp4 zF (0 : Int32) (0 : Int32) _ _ _ hi6 hP hD hS (lv_sub hl [2, 1, 0] rfl)

set_option maxHeartbeats 4000000 in
set_option maxRecDepth 100000 in
theorem m_X6_worlds (l : Launch) (dC : Nat → ClassId) (dI : Nat → Nat → Nat) (y : Nat → ClassId) (a6 : Nat) (h6 : Nat → Nat) (S6 : SS) (a0 : Nat) (h0 : Nat → Nat) (S0 : SS) (q3 : Nat) (q8 : Nat) (q5 : Nat) (q4 : Nat) (sz : Nat) (or_ : Int32) (h : f_X6_worlds S6 S0 = some or_) : Met l yX6_worlds wsX6_worlds ({ frames := 4, cells := 0, slots := 0, locals := 86 }) (va_Pc [.ref a6] (fun U => U.heap.size = sz ∧ va_P (dC, dI) vwCl ((cX6 a6 h6 q3 a0 q8 q5 q4 y S6) ++ (cX0 a0 h0 y S0)) U.heap ∧ va_K (dC, dI) vwCl [(y 0, .int), (y 1, .long), (y 2, .byte), (y 3, .boolean)] U ∧ va_D (fun _ => True) ((cX6 a6 h6 q3 a0 q8 q5 q4 y S6) ++ (cX0 a0 h0 y S0)))) (va_Qi (fun (r : Int32) (_ : Unit) => r = or_) (fun (_ : Unit) (t : State) => va_P (dC, dI) vwCl ((cX6 a6 h6 q3 a0 q8 q5 q4 y S6) ++ (cX0 a0 h0 y S0)) t.heap ∧ va_K (dC, dI) vwCl [(y 0, .int), (y 1, .long), (y 2, .byte), (y 3, .boolean)] t ∧ va_D (va_A ((cX6 a6 h6 q3 a0 q8 q5 q4 y S6) ++ (cX0 a0 h0 y S0)) sz) ((cX6 a6 h6 q3 a0 q8 q5 q4 y S6) ++ (cX0 a0 h0 y S0))) (va_A ((cX6 a6 h6 q3 a0 q8 q5 q4 y S6) ++ (cX0 a0 h0 y S0)) sz)) 0 0 (va_A ((cX6 a6 h6 q3 a0 q8 q5 q4 y S6) ++ (cX0 a0 h0 y S0)) sz) := by
  refine Met.ofW (cc := cX6_worlds) (maxL := 2) (ret := (some .int)) (by decide +kernel) rfl ?_
  intro p e s m args below meth c s₁ B hml hv
  obtain ⟨rfl, hsz, hP, hK, hD0⟩ := hv
  have hx := B.exec
  have hb := B.bytes
  have hr := B.returns
  have hts := atoms_spec (ws := wsX6_worlds) B.pre
  have hown : s.vm.findClass RX6 = some m.cls := findClass_of_methodNamed B.named
  have hlocks := B.notSynchronized
  subst hsz
  have hD := hD0.self (sz := s.heap.size)
  generalize hAe : va_A ((cX6 a6 h6 q3 a0 q8 q5 q4 y S6) ++ (cX0 a0 h0 y S0)) s.heap.size = A at hD ⊢
  have hA : ∀ q : Nat, s.heap.size ≤ q → A q := fun q h => by rw [← hAe]; exact Or.inr h
  have hS : va_S A s.heap s.heap [] := va_S.rf
  have hP : va_P (dC, dI) vwCl ((cX6 a6 h6 q3 a0 q8 q5 q4 y S6) ++ (cX0 a0 h0 y S0)) s.heap := hP
  have hl := lv_entry ([.ref a6]) (n := 2) (Nat.le_of_ble_eq_true rfl)
  rw [lg_entry_eq]
  generalize (lg_sl ([.ref a6]) ++ List.replicate (2 - (lg_sl ([.ref a6])).length) Slot.unset).toArray = ls at hl ⊢
  have hl : lv_has ls 2 [(0, .ref a6)] := hl
  refine lv_aload_n hx hb dX6_worlds_0 rfl (lv_at hl 0 rfl) ?_
  obtain ⟨r1, hc2, h⟩ := zB_spec h
  have hFc := zFree hD hS hA
  refine va_calli (va_runV (As := []) (rest := []) ⟨hx, hb, hml, hown, hts⟩ (m_X6_countFree l dC dI y a6 h6 S6 a0 h0 S0 q3 q8 q5 q4 s.heap.size r1 hc2) (cwV 0 hts gX6_worlds_X6_countFree rfl rfl rfl (by decide +kernel) ⟨Nat.le_of_ble_eq_true rfl, Nat.le_of_ble_eq_true rfl⟩) ⟨fun a U g mk q => by obtain ⟨q0, q1, qP, qK, qD⟩ := q; exact ⟨q0, q1, qP, va_K.moved (u := U) (U := U.calling g mk a) (Vm.Alike.refl U.vm) qK, qD⟩, va_recv hK hP (ci := 5) (q0 := 0) rfl rfl, fun U hU hW => ⟨rfl, by rw [hU], by rw [hU]; exact hP, va_K.moved hW.alike hK, hD.weaken (fun _ _ _ _ => trivial)⟩⟩ rfl rfl hl.1 rfl (lv_room (Nat.le_of_ble_eq_true rfl)) dX6_worlds_1 ⟨Nat.le_of_ble_eq_true rfl, Nat.le_of_ble_eq_true rfl⟩) hS (fun q _ h => hFc q h) hFc (fun rr4 u t H3 locs ht hvm hw hB hz1 hk1 hS => ?_)
  obtain ⟨hP1, hK1, hD1⟩ := hB
  rw [ht] at hP1
  refine zTopi hw.symm ?_
  have hP := hP1
  have hD := hD1.weaken (fun _ q _ h => hFc q.1 h)
  have hP : va_P (dC, dI) vwCl ((cX6 a6 h6 q3 a0 q8 q5 q4 y S6) ++ (cX0 a0 h0 y S0)) H3 := hP
  have hD : va_D A ((cX6 a6 h6 q3 a0 q8 q5 q4 y S6) ++ (cX0 a0 h0 y S0)) := hD
  refine lv_istore_n (lv' := [(1, .int r1), (0, .ref a6)]) hx hb dX6_worlds_4 rfl hl (by decide) rfl (fun ls hl => ?_)
  refine lv_iload_n hx hb dX6_worlds_5 rfl (lv_at hl 0 rfl) ?_
  refine lv_bipush (v := 12) hx hb dX6_worlds_6 (by decide) ?_
  refine lv_icmp_le (tgt := 16) hx hb dX6_worlds_8 (by decide) (fun c5 => ?_) (fun c5 => ?_)
  · have h := zY c5 h
    refine lv_iconst (v := 1) hx hb dX6_worlds_16 (by decide) ?_
    refine lv_iload_n hx hb dX6_worlds_17 rfl (lv_at hl 0 rfl) ?_
    refine lv_ishl hx hb dX6_worlds_18 ?_
    have ho0 : ((1 : Int32) <<< (r1 &&& 31)) = or_ := congrArg (fun z : Int32 => z) (Option.some.inj h)
    exact W.iret (v := ((1 : Int32) <<< (r1 &&& 31))) hx hb hr (fun t ht hW => ⟨⟨((1 : Int32) <<< (r1 &&& 31)), (), rfl, ho0, by rw [ht]; exact hP, va_K.moved hW.alike hK, hD⟩, hS.F ht⟩) hS.2.2 dX6_worlds_19
  · have h := zN c5 h
    refine lv_bipush (v := (-2)) hx hb dX6_worlds_11 (by decide) ?_
    refine lv_goto (tgt := 19) hx hb dX6_worlds_13 (by decide) ?_
    have ho0 : (-2 : Int32) = or_ := congrArg (fun z : Int32 => z) (Option.some.inj h)
    exact W.iret (v := (-2)) hx hb hr (fun t ht hW => ⟨⟨(-2), (), rfl, ho0, by rw [ht]; exact hP, va_K.moved hW.alike hK, hD⟩, hS.F ht⟩) hS.2.2 dX6_worlds_19

set_option maxHeartbeats 4000000 in
set_option maxRecDepth 100000 in
theorem m_X6_settleWith6 (l : Launch) (dC : Nat → ClassId) (dI : Nat → Nat → Nat) (y : Nat → ClassId) (a6 : Nat) (h6 : Nat → Nat) (S6 : SS) (a0 : Nat) (h0 : Nat → Nat) (S0 : SS) (q3 : Nat) (q8 : Nat) (q5 : Nat) (q4 : Nat) (p2 : Int32) (p3 : Int32) (sz : Nat) (o_6 : SS) (h : f_X6_settleWith6 S6 S0 p2 p3 = some o_6) : Met l yX6_settleWith wsX6_settleWith ({ frames := 4, cells := 0, slots := 0, locals := 98 }) (va_Pc [.ref a6, .ref (h6 6), .int p2, .int p3] (fun U => U.heap.size = sz ∧ va_P (dC, dI) vwCl ((cX6 a6 h6 q3 a0 q8 q5 q4 y S6) ++ (cX0 a0 h0 y S0)) U.heap ∧ va_K (dC, dI) vwCl [(y 0, .int), (y 1, .long), (y 2, .byte), (y 3, .boolean)] U ∧ va_D (fun _ => True) ((cX6 a6 h6 q3 a0 q8 q5 q4 y S6) ++ (cX0 a0 h0 y S0)))) (va_Qv (fun (_ : Unit) => True) (fun (_ : Unit) (t : State) => va_P (dC, dI) vwCl ((cX6 a6 h6 q3 a0 q8 q5 q4 y o_6) ++ (cX0 a0 h0 y S0)) t.heap ∧ va_K (dC, dI) vwCl [(y 0, .int), (y 1, .long), (y 2, .byte), (y 3, .boolean)] t ∧ va_D (va_A ((cX6 a6 h6 q3 a0 q8 q5 q4 y S6) ++ (cX0 a0 h0 y S0)) sz) ((cX6 a6 h6 q3 a0 q8 q5 q4 y o_6) ++ (cX0 a0 h0 y S0))) (va_A ((cX6 a6 h6 q3 a0 q8 q5 q4 y S6) ++ (cX0 a0 h0 y S0)) sz)) 0 0 (va_A ((cX6 a6 h6 q3 a0 q8 q5 q4 y S6) ++ (cX0 a0 h0 y S0)) sz) := by
  refine Met.ofW (cc := cX6_settleWith) (maxL := 4) (ret := none) (by decide +kernel) rfl ?_
  intro p e s m args below meth c s₁ B hml hv
  obtain ⟨rfl, hsz, hP, hK, hD0⟩ := hv
  have hx := B.exec
  have hb := B.bytes
  have hr := B.returns
  have hts := atoms_spec (ws := wsX6_settleWith) B.pre
  have hown : s.vm.findClass RX6 = some m.cls := findClass_of_methodNamed B.named
  have hlocks := B.notSynchronized
  have inX6_ : ∀ w ∈ wsX60, w ∈ wsX6_settleWith := fun _ h => List.mem_cons_of_mem _ (List.mem_append_left _ (List.mem_append_right _ h))
  subst hsz
  have hD := hD0.self (sz := s.heap.size)
  generalize hAe : va_A ((cX6 a6 h6 q3 a0 q8 q5 q4 y S6) ++ (cX0 a0 h0 y S0)) s.heap.size = A at hD ⊢
  have hA : ∀ q : Nat, s.heap.size ≤ q → A q := fun q h => by rw [← hAe]; exact Or.inr h
  have hS : va_S A s.heap s.heap [] := va_S.rf
  have hP : va_P (dC, dI) vwCl ((cX6 a6 h6 q3 a0 q8 q5 q4 y S6) ++ (cX0 a0 h0 y S0)) s.heap := hP
  have hl := lv_entry ([.ref a6, .ref (h6 6), .int p2, .int p3]) (n := 4) (Nat.le_of_ble_eq_true rfl)
  rw [lg_entry_eq]
  generalize (lg_sl ([.ref a6, .ref (h6 6), .int p2, .int p3]) ++ List.replicate (4 - (lg_sl ([.ref a6, .ref (h6 6), .int p2, .int p3])).length) Slot.unset).toArray = ls at hl ⊢
  have hl : lv_has ls 4 [(0, .ref a6), (1, .ref (h6 6)), (2, .int p2), (3, .int p3)] := hl
  refine lv_aload_n hx hb dX6_settleWith_0 rfl (lv_at hl 0 rfl) ?_
  refine va_get (D := (dC, dI)) (ci := 5) (v := .ref (h6 5)) (C := RX6) (T := TX6) (N := 12) hx hb hts inX6_ hown hK hP 0 rfl rfl 5 (by decide) (hts (.fieldLink RX6 30 "GateWheel" "values" "[I") (List.mem_of_getElem? (i := 1) rfl)) (fun _ h9 => h9) rfl dX6_settleWith_1 ?_
  refine lv_iconst (v := 0) hx hb dX6_settleWith_4 (by decide) ?_
  refine lv_aload_n hx hb dX6_settleWith_5 rfl (lv_at hl 1 rfl) ?_
  refine lv_iconst (v := 0) hx hb dX6_settleWith_6 (by decide) ?_
  refine lv_bipush (v := 60) hx hb dX6_settleWith_7 (by decide) ?_
  refine va_copyi (ty := .int) hx hb (by rw [hml]; exact hl.1.symm) hown (hts (.methodLink RX6 170 arraycopyName) (List.mem_of_getElem? (i := 2) rfl)) (hts (.native arraycopyName) (List.mem_of_getElem? (i := 3) rfl)) (hts (.static arraycopyName) (List.mem_of_getElem? (i := 4) rfl)) (hts (.initialized "java/lang/System") (List.mem_of_getElem? (i := 5) rfl)) hK hP hD hS 2 3 0 0 rfl rfl rfl rfl rfl (by decide) (by decide) (by decide) (by decide) (by decide) (fun _ _ => rfl) (Nat.le_of_ble_eq_true rfl) (Nat.le_of_ble_eq_true rfl) dX6_settleWith_9 (fun H1 locs hP hD hS => ?_)
  obtain ⟨s6_2, es6_2, h⟩ := zL_spec h
  have hP : va_P (dC, dI) vwCl ((cX6 a6 h6 q3 a0 q8 q5 q4 y s6_2) ++ (cX0 a0 h0 y S0)) H1 := by rw [es6_2]; exact hP
  have hD : va_D A ((cX6 a6 h6 q3 a0 q8 q5 q4 y s6_2) ++ (cX0 a0 h0 y S0)) := by rw [es6_2]; exact hD
  refine lv_aload_n hx hb dX6_settleWith_12 rfl (lv_at hl 1 rfl) ?_
  refine lv_iload_n hx hb dX6_settleWith_13 rfl (lv_at hl 2 rfl) ?_
  refine lv_iload_n hx hb dX6_settleWith_14 rfl (lv_at hl 3 rfl) ?_
  obtain ⟨hi3, h⟩ := zG_spec h
  refine va_iast hx hb hK hP hD hS 3 0 rfl rfl hi3 dX6_settleWith_15 (fun H4 locs hP hD hS => ?_)
  obtain ⟨s6_5, es6_5, h⟩ := zL_spec h
  have hP : va_P (dC, dI) vwCl ((cX6 a6 h6 q3 a0 q8 q5 q4 y s6_5) ++ (cX0 a0 h0 y S0)) H4 := by rw [es6_5]; exact hP
  have hD : va_D A ((cX6 a6 h6 q3 a0 q8 q5 q4 y s6_5) ++ (cX0 a0 h0 y S0)) := by rw [es6_5]; exact hD
  refine lv_aload_n hx hb dX6_settleWith_16 rfl (lv_at hl 0 rfl) ?_
  refine va_get (D := (dC, dI)) (ci := 5) (v := .ref a0) (C := RX6) (T := TX6) (N := 12) hx hb hts inX6_ hown hK hP 0 rfl rfl 3 (by decide) (hts (.fieldLink RX6 23 "GateWheel" "circuit" "LGateWheel$Circuit;") (List.mem_of_getElem? (i := 6) rfl)) (fun _ h9 => h9) rfl dX6_settleWith_17 ?_
  refine lv_aload_n hx hb dX6_settleWith_20 rfl (lv_at hl 1 rfl) ?_
  obtain ⟨sa_6, hc7, h⟩ := zB_spec h
  have hPc := hP.sub (ws' := ((cX0 a0 h0 y S0) ++ ([((h6 6), .inl (y 0, 60, .inl (gA s6_5 6)))]))) [5, 6, 7, 8, 9, 10, 11, 12, 13, 14, 15, 16, 3] rfl
  have hDc := hD.sub (ws' := ((cX0 a0 h0 y S0) ++ ([((h6 6), .inl (y 0, 60, .inl (gA s6_5 6)))]))) [5, 6, 7, 8, 9, 10, 11, 12, 13, 14, 15, 16, 3] (by decide) rfl
  have hFc := va_free (wc := ((cX0 a0 h0 y S0) ++ ([((h6 6), .inl (y 0, 60, .inl (gA s6_5 6)))]))) hD hS hA [5, 6, 7, 8, 9, 10, 11, 12, 13, 14, 15, 16, 3] rfl
  refine va_callv (va_runS (As := [.ref a0, .ref (h6 6)]) (rest := []) ⟨hx, hb, hml, hown, hts⟩ (m_X2_settle l dC dI y a0 h0 S0 (h6 6) (gA s6_5 6) H4.size sa_6 hc7) (va_cwS 2 hts gX6_settleWith_X2_settle rfl rfl rfl (by decide +kernel) ⟨Nat.le_of_ble_eq_true rfl, Nat.le_of_ble_eq_true rfl⟩) ⟨fun a U g mk q => by obtain ⟨q0, q1, qP, qK, qD⟩ := q; exact ⟨q0, q1, qP, va_K.moved (u := U) (U := U.calling g mk a) (Vm.Alike.refl U.vm) qK, qD⟩, fun U hU hW => ⟨rfl, by rw [hU], by rw [hU]; exact hPc, va_K.moved hW.alike hK, hDc.weaken (fun _ _ _ _ => trivial)⟩⟩ rfl rfl hl.1 rfl (lv_room (Nat.le_of_ble_eq_true rfl)) dX6_settleWith_21 ⟨Nat.le_of_ble_eq_true rfl, Nat.le_of_ble_eq_true rfl⟩) hS (fun q _ h => hFc q h) hFc (fun u t H8 locs ht hvm hw hB hz1 hk1 hS => ?_)
  obtain ⟨hP1, hK1, hD1⟩ := hB
  rw [ht] at hP1
  obtain ⟨hP, hD⟩ := va_join (wr := [(oX6 a6 h6 q3 a0 q8 q5 q4 s6_5), (h6 0, .inl (y 2, 2000, .inl (gA s6_5 0))), (h6 5, .inl (y 0, 60, .inl (gA s6_5 5))), (h6 7, .inl (y 0, 60, .inl (gA s6_5 7)))]) (w1 := ((cX0 a0 h0 y S0) ++ ([((h6 6), .inl (y 0, 60, .inl sa_6))]))) hP hD [5, 6, 7, 8, 9, 10, 11, 12, 13, 14, 15, 16, 3] [0, 1, 2, 4] rfl rfl (by decide) (by decide) hk1 hFc hP1 hD1
  obtain ⟨s6_10, es6_10, h⟩ := zL_spec h
  have hP : va_P (dC, dI) vwCl ((cX6 a6 h6 q3 a0 q8 q5 q4 y s6_10) ++ (cX0 a0 h0 y S0)) H8 := by rw [es6_10]; exact hP.sub [0, 1, 2, 16, 3, 4, 5, 6, 7, 8, 9, 10, 11, 12, 13, 14, 15] rfl
  have hD : va_D A ((cX6 a6 h6 q3 a0 q8 q5 q4 y s6_10) ++ (cX0 a0 h0 y S0)) := by rw [es6_10]; exact hD.sub [0, 1, 2, 16, 3, 4, 5, 6, 7, 8, 9, 10, 11, 12, 13, 14, 15] (by decide) rfl
  have ho0 : s6_10 = o_6 := congrArg (fun z : SS => z) (Option.some.inj h)
  exact W.vret hx hb hr (fun t ht hW => ⟨⟨(), rfl, trivial, by rw [ht]; rw [← ho0]; exact hP, va_K.moved hW.alike hK, by rw [← ho0]; exact hD⟩, hS.F ht⟩) hS.2.2 dX6_settleWith_24

set_option maxHeartbeats 4000000 in
set_option maxRecDepth 100000 in
theorem m_X6_settleWith7 (l : Launch) (dC : Nat → ClassId) (dI : Nat → Nat → Nat) (y : Nat → ClassId) (a6 : Nat) (h6 : Nat → Nat) (S6 : SS) (a0 : Nat) (h0 : Nat → Nat) (S0 : SS) (q3 : Nat) (q8 : Nat) (q5 : Nat) (q4 : Nat) (p2 : Int32) (p3 : Int32) (sz : Nat) (o_6 : SS) (h : f_X6_settleWith7 S6 S0 p2 p3 = some o_6) : Met l yX6_settleWith wsX6_settleWith ({ frames := 4, cells := 0, slots := 0, locals := 98 }) (va_Pc [.ref a6, .ref (h6 7), .int p2, .int p3] (fun U => U.heap.size = sz ∧ va_P (dC, dI) vwCl ((cX6 a6 h6 q3 a0 q8 q5 q4 y S6) ++ (cX0 a0 h0 y S0)) U.heap ∧ va_K (dC, dI) vwCl [(y 0, .int), (y 1, .long), (y 2, .byte), (y 3, .boolean)] U ∧ va_D (fun _ => True) ((cX6 a6 h6 q3 a0 q8 q5 q4 y S6) ++ (cX0 a0 h0 y S0)))) (va_Qv (fun (_ : Unit) => True) (fun (_ : Unit) (t : State) => va_P (dC, dI) vwCl ((cX6 a6 h6 q3 a0 q8 q5 q4 y o_6) ++ (cX0 a0 h0 y S0)) t.heap ∧ va_K (dC, dI) vwCl [(y 0, .int), (y 1, .long), (y 2, .byte), (y 3, .boolean)] t ∧ va_D (va_A ((cX6 a6 h6 q3 a0 q8 q5 q4 y S6) ++ (cX0 a0 h0 y S0)) sz) ((cX6 a6 h6 q3 a0 q8 q5 q4 y o_6) ++ (cX0 a0 h0 y S0))) (va_A ((cX6 a6 h6 q3 a0 q8 q5 q4 y S6) ++ (cX0 a0 h0 y S0)) sz)) 0 0 (va_A ((cX6 a6 h6 q3 a0 q8 q5 q4 y S6) ++ (cX0 a0 h0 y S0)) sz) := by
  refine Met.ofW (cc := cX6_settleWith) (maxL := 4) (ret := none) (by decide +kernel) rfl ?_
  intro p e s m args below meth c s₁ B hml hv
  obtain ⟨rfl, hsz, hP, hK, hD0⟩ := hv
  have hx := B.exec
  have hb := B.bytes
  have hr := B.returns
  have hts := atoms_spec (ws := wsX6_settleWith) B.pre
  have hown : s.vm.findClass RX6 = some m.cls := findClass_of_methodNamed B.named
  have hlocks := B.notSynchronized
  have inX6_ : ∀ w ∈ wsX60, w ∈ wsX6_settleWith := fun _ h => List.mem_cons_of_mem _ (List.mem_append_left _ (List.mem_append_right _ h))
  subst hsz
  have hD := hD0.self (sz := s.heap.size)
  generalize hAe : va_A ((cX6 a6 h6 q3 a0 q8 q5 q4 y S6) ++ (cX0 a0 h0 y S0)) s.heap.size = A at hD ⊢
  have hA : ∀ q : Nat, s.heap.size ≤ q → A q := fun q h => by rw [← hAe]; exact Or.inr h
  have hS : va_S A s.heap s.heap [] := va_S.rf
  have hP : va_P (dC, dI) vwCl ((cX6 a6 h6 q3 a0 q8 q5 q4 y S6) ++ (cX0 a0 h0 y S0)) s.heap := hP
  have hl := lv_entry ([.ref a6, .ref (h6 7), .int p2, .int p3]) (n := 4) (Nat.le_of_ble_eq_true rfl)
  rw [lg_entry_eq]
  generalize (lg_sl ([.ref a6, .ref (h6 7), .int p2, .int p3]) ++ List.replicate (4 - (lg_sl ([.ref a6, .ref (h6 7), .int p2, .int p3])).length) Slot.unset).toArray = ls at hl ⊢
  have hl : lv_has ls 4 [(0, .ref a6), (1, .ref (h6 7)), (2, .int p2), (3, .int p3)] := hl
  refine lv_aload_n hx hb dX6_settleWith_0 rfl (lv_at hl 0 rfl) ?_
  refine va_get (D := (dC, dI)) (ci := 5) (v := .ref (h6 5)) (C := RX6) (T := TX6) (N := 12) hx hb hts inX6_ hown hK hP 0 rfl rfl 5 (by decide) (hts (.fieldLink RX6 30 "GateWheel" "values" "[I") (List.mem_of_getElem? (i := 1) rfl)) (fun _ h9 => h9) rfl dX6_settleWith_1 ?_
  refine lv_iconst (v := 0) hx hb dX6_settleWith_4 (by decide) ?_
  refine lv_aload_n hx hb dX6_settleWith_5 rfl (lv_at hl 1 rfl) ?_
  refine lv_iconst (v := 0) hx hb dX6_settleWith_6 (by decide) ?_
  refine lv_bipush (v := 60) hx hb dX6_settleWith_7 (by decide) ?_
  refine va_copyi (ty := .int) hx hb (by rw [hml]; exact hl.1.symm) hown (hts (.methodLink RX6 170 arraycopyName) (List.mem_of_getElem? (i := 2) rfl)) (hts (.native arraycopyName) (List.mem_of_getElem? (i := 3) rfl)) (hts (.static arraycopyName) (List.mem_of_getElem? (i := 4) rfl)) (hts (.initialized "java/lang/System") (List.mem_of_getElem? (i := 5) rfl)) hK hP hD hS 2 4 0 0 rfl rfl rfl rfl rfl (by decide) (by decide) (by decide) (by decide) (by decide) (fun _ _ => rfl) (Nat.le_of_ble_eq_true rfl) (Nat.le_of_ble_eq_true rfl) dX6_settleWith_9 (fun H1 locs hP hD hS => ?_)
  obtain ⟨s6_2, es6_2, h⟩ := zL_spec h
  have hP : va_P (dC, dI) vwCl ((cX6 a6 h6 q3 a0 q8 q5 q4 y s6_2) ++ (cX0 a0 h0 y S0)) H1 := by rw [es6_2]; exact hP
  have hD : va_D A ((cX6 a6 h6 q3 a0 q8 q5 q4 y s6_2) ++ (cX0 a0 h0 y S0)) := by rw [es6_2]; exact hD
  refine lv_aload_n hx hb dX6_settleWith_12 rfl (lv_at hl 1 rfl) ?_
  refine lv_iload_n hx hb dX6_settleWith_13 rfl (lv_at hl 2 rfl) ?_
  refine lv_iload_n hx hb dX6_settleWith_14 rfl (lv_at hl 3 rfl) ?_
  obtain ⟨hi3, h⟩ := zG_spec h
  refine va_iast hx hb hK hP hD hS 4 0 rfl rfl hi3 dX6_settleWith_15 (fun H4 locs hP hD hS => ?_)
  obtain ⟨s6_5, es6_5, h⟩ := zL_spec h
  have hP : va_P (dC, dI) vwCl ((cX6 a6 h6 q3 a0 q8 q5 q4 y s6_5) ++ (cX0 a0 h0 y S0)) H4 := by rw [es6_5]; exact hP
  have hD : va_D A ((cX6 a6 h6 q3 a0 q8 q5 q4 y s6_5) ++ (cX0 a0 h0 y S0)) := by rw [es6_5]; exact hD
  refine lv_aload_n hx hb dX6_settleWith_16 rfl (lv_at hl 0 rfl) ?_
  refine va_get (D := (dC, dI)) (ci := 5) (v := .ref a0) (C := RX6) (T := TX6) (N := 12) hx hb hts inX6_ hown hK hP 0 rfl rfl 3 (by decide) (hts (.fieldLink RX6 23 "GateWheel" "circuit" "LGateWheel$Circuit;") (List.mem_of_getElem? (i := 6) rfl)) (fun _ h9 => h9) rfl dX6_settleWith_17 ?_
  refine lv_aload_n hx hb dX6_settleWith_20 rfl (lv_at hl 1 rfl) ?_
  obtain ⟨sa_6, hc7, h⟩ := zB_spec h
  have hPc := hP.sub (ws' := ((cX0 a0 h0 y S0) ++ ([((h6 7), .inl (y 0, 60, .inl (gA s6_5 7)))]))) [5, 6, 7, 8, 9, 10, 11, 12, 13, 14, 15, 16, 4] rfl
  have hDc := hD.sub (ws' := ((cX0 a0 h0 y S0) ++ ([((h6 7), .inl (y 0, 60, .inl (gA s6_5 7)))]))) [5, 6, 7, 8, 9, 10, 11, 12, 13, 14, 15, 16, 4] (by decide) rfl
  have hFc := va_free (wc := ((cX0 a0 h0 y S0) ++ ([((h6 7), .inl (y 0, 60, .inl (gA s6_5 7)))]))) hD hS hA [5, 6, 7, 8, 9, 10, 11, 12, 13, 14, 15, 16, 4] rfl
  refine va_callv (va_runS (As := [.ref a0, .ref (h6 7)]) (rest := []) ⟨hx, hb, hml, hown, hts⟩ (m_X2_settle l dC dI y a0 h0 S0 (h6 7) (gA s6_5 7) H4.size sa_6 hc7) (va_cwS 2 hts gX6_settleWith_X2_settle rfl rfl rfl (by decide +kernel) ⟨Nat.le_of_ble_eq_true rfl, Nat.le_of_ble_eq_true rfl⟩) ⟨fun a U g mk q => by obtain ⟨q0, q1, qP, qK, qD⟩ := q; exact ⟨q0, q1, qP, va_K.moved (u := U) (U := U.calling g mk a) (Vm.Alike.refl U.vm) qK, qD⟩, fun U hU hW => ⟨rfl, by rw [hU], by rw [hU]; exact hPc, va_K.moved hW.alike hK, hDc.weaken (fun _ _ _ _ => trivial)⟩⟩ rfl rfl hl.1 rfl (lv_room (Nat.le_of_ble_eq_true rfl)) dX6_settleWith_21 ⟨Nat.le_of_ble_eq_true rfl, Nat.le_of_ble_eq_true rfl⟩) hS (fun q _ h => hFc q h) hFc (fun u t H8 locs ht hvm hw hB hz1 hk1 hS => ?_)
  obtain ⟨hP1, hK1, hD1⟩ := hB
  rw [ht] at hP1
  obtain ⟨hP, hD⟩ := va_join (wr := [(oX6 a6 h6 q3 a0 q8 q5 q4 s6_5), (h6 0, .inl (y 2, 2000, .inl (gA s6_5 0))), (h6 5, .inl (y 0, 60, .inl (gA s6_5 5))), (h6 6, .inl (y 0, 60, .inl (gA s6_5 6)))]) (w1 := ((cX0 a0 h0 y S0) ++ ([((h6 7), .inl (y 0, 60, .inl sa_6))]))) hP hD [5, 6, 7, 8, 9, 10, 11, 12, 13, 14, 15, 16, 4] [0, 1, 2, 3] rfl rfl (by decide) (by decide) hk1 hFc hP1 hD1
  obtain ⟨s6_10, es6_10, h⟩ := zL_spec h
  have hP : va_P (dC, dI) vwCl ((cX6 a6 h6 q3 a0 q8 q5 q4 y s6_10) ++ (cX0 a0 h0 y S0)) H8 := by rw [es6_10]; exact hP.sub [0, 1, 2, 3, 16, 4, 5, 6, 7, 8, 9, 10, 11, 12, 13, 14, 15] rfl
  have hD : va_D A ((cX6 a6 h6 q3 a0 q8 q5 q4 y s6_10) ++ (cX0 a0 h0 y S0)) := by rw [es6_10]; exact hD.sub [0, 1, 2, 3, 16, 4, 5, 6, 7, 8, 9, 10, 11, 12, 13, 14, 15] (by decide) rfl
  have ho0 : s6_10 = o_6 := congrArg (fun z : SS => z) (Option.some.inj h)
  exact W.vret hx hb hr (fun t ht hW => ⟨⟨(), rfl, trivial, by rw [ht]; rw [← ho0]; exact hP, va_K.moved hW.alike hK, by rw [← ho0]; exact hD⟩, hS.F ht⟩) hS.2.2 dX6_settleWith_24

set_option maxHeartbeats 4000000 in
set_option maxRecDepth 100000 in
theorem m_X6_flicker (l : Launch) (dC : Nat → ClassId) (dI : Nat → Nat → Nat) (y : Nat → ClassId) (a6 : Nat) (h6 : Nat → Nat) (S6 : SS) (a0 : Nat) (h0 : Nat → Nat) (S0 : SS) (q3 : Nat) (q8 : Nat) (q5 : Nat) (q4 : Nat) (p1 : Int32) (p2 : Int32) (sz : Nat) (or_ : Int32) (o_6 : SS) (h : f_X6_flicker S6 S0 p1 p2 = some (or_, o_6)) : Met l yX6_flicker wsX6_flicker ({ frames := 5, cells := 0, slots := 0, locals := 121 }) (va_Pc [.ref a6, .int p1, .int p2] (fun U => U.heap.size = sz ∧ va_P (dC, dI) vwCl ((cX6 a6 h6 q3 a0 q8 q5 q4 y S6) ++ (cX0 a0 h0 y S0)) U.heap ∧ va_K (dC, dI) vwCl [(y 0, .int), (y 1, .long), (y 2, .byte), (y 3, .boolean)] U ∧ va_D (fun _ => True) ((cX6 a6 h6 q3 a0 q8 q5 q4 y S6) ++ (cX0 a0 h0 y S0)))) (va_Qi (fun (r : Int32) (_ : Unit) => r = or_) (fun (_ : Unit) (t : State) => va_P (dC, dI) vwCl ((cX6 a6 h6 q3 a0 q8 q5 q4 y o_6) ++ (cX0 a0 h0 y S0)) t.heap ∧ va_K (dC, dI) vwCl [(y 0, .int), (y 1, .long), (y 2, .byte), (y 3, .boolean)] t ∧ va_D (va_A ((cX6 a6 h6 q3 a0 q8 q5 q4 y S6) ++ (cX0 a0 h0 y S0)) sz) ((cX6 a6 h6 q3 a0 q8 q5 q4 y o_6) ++ (cX0 a0 h0 y S0))) (va_A ((cX6 a6 h6 q3 a0 q8 q5 q4 y S6) ++ (cX0 a0 h0 y S0)) sz)) 0 0 (va_A ((cX6 a6 h6 q3 a0 q8 q5 q4 y S6) ++ (cX0 a0 h0 y S0)) sz) := by
  refine Met.ofW (cc := cX6_flicker) (maxL := 5) (ret := (some .int)) (by decide +kernel) rfl ?_
  intro p e s m args below meth c s₁ B hml hv
  obtain ⟨rfl, hsz, hP, hK, hD0⟩ := hv
  have hx := B.exec
  have hb := B.bytes
  have hr := B.returns
  have hts := atoms_spec (ws := wsX6_flicker) B.pre
  have hown : s.vm.findClass RX6 = some m.cls := findClass_of_methodNamed B.named
  have hlocks := B.notSynchronized
  have inX0_ : ∀ w ∈ wsX00, w ∈ wsX6_flicker := fun _ h => List.mem_cons_of_mem _ (List.mem_append_right _ h)
  have inX6_ : ∀ w ∈ wsX60, w ∈ wsX6_flicker := fun _ h => List.mem_cons_of_mem _ (List.mem_append_left _ (List.mem_append_right _ h))
  subst hsz
  have hD := hD0.self (sz := s.heap.size)
  generalize hAe : va_A ((cX6 a6 h6 q3 a0 q8 q5 q4 y S6) ++ (cX0 a0 h0 y S0)) s.heap.size = A at hD ⊢
  have hA : ∀ q : Nat, s.heap.size ≤ q → A q := fun q h => by rw [← hAe]; exact Or.inr h
  have hS : va_S A s.heap s.heap [] := va_S.rf
  have hP : va_P (dC, dI) vwCl ((cX6 a6 h6 q3 a0 q8 q5 q4 y S6) ++ (cX0 a0 h0 y S0)) s.heap := hP
  have hl := lv_entry ([.ref a6, .int p1, .int p2]) (n := 5) (Nat.le_of_ble_eq_true rfl)
  rw [lg_entry_eq]
  generalize (lg_sl ([.ref a6, .int p1, .int p2]) ++ List.replicate (5 - (lg_sl ([.ref a6, .int p1, .int p2])).length) Slot.unset).toArray = ls at hl ⊢
  have hl : lv_has ls 5 [(0, .ref a6), (1, .int p1), (2, .int p2)] := hl
  refine lv_aload_n hx hb dX6_flicker_0 rfl (lv_at hl 0 rfl) ?_
  refine va_get (D := (dC, dI)) (ci := 5) (v := .ref a0) (C := RX6) (T := TX6) (N := 12) hx hb hts inX6_ hown hK hP 0 rfl rfl 3 (by decide) (hts (.fieldLink RX6 23 "GateWheel" "circuit" "LGateWheel$Circuit;") (List.mem_of_getElem? (i := 1) rfl)) (fun _ h9 => h9) rfl dX6_flicker_1 ?_
  refine lv_iload_n hx hb dX6_flicker_4 rfl (lv_at hl 1 rfl) ?_
  refine lv_iconst (v := 0) hx hb dX6_flicker_5 (by decide) ?_
  obtain ⟨r1, hc2, h⟩ := zB_spec h
  have hPc := hP.sub (ws' := (cX0 a0 h0 y S0)) [5, 6, 7, 8, 9, 10, 11, 12, 13, 14, 15, 16] rfl
  have hDc := hD.sub (ws' := (cX0 a0 h0 y S0)) [5, 6, 7, 8, 9, 10, 11, 12, 13, 14, 15, 16] (by decide) rfl
  have hFc := va_free (wc := (cX0 a0 h0 y S0)) hD hS hA [5, 6, 7, 8, 9, 10, 11, 12, 13, 14, 15, 16] rfl
  refine va_calli (va_runV (As := [.int p1, .int 0]) (rest := []) ⟨hx, hb, hml, hown, hts⟩ (m_X0_isKind l dC dI y a0 h0 S0 p1 (0 : Int32) s.heap.size r1 hc2) (cwV 2 hts gX6_flicker_X0_isKind rfl rfl rfl (by decide +kernel) ⟨Nat.le_of_ble_eq_true rfl, Nat.le_of_ble_eq_true rfl⟩) ⟨fun a U g mk q => by obtain ⟨q0, q1, qP, qK, qD⟩ := q; exact ⟨q0, q1, qP, va_K.moved (u := U) (U := U.calling g mk a) (Vm.Alike.refl U.vm) qK, qD⟩, va_recv hK hPc (ci := 0) (q0 := 0) rfl rfl, fun U hU hW => ⟨rfl, by rw [hU], by rw [hU]; exact hPc, va_K.moved hW.alike hK, hDc.weaken (fun _ _ _ _ => trivial)⟩⟩ rfl rfl hl.1 rfl (lv_room (Nat.le_of_ble_eq_true rfl)) dX6_flicker_6 ⟨Nat.le_of_ble_eq_true rfl, Nat.le_of_ble_eq_true rfl⟩) hS (fun q _ h => hFc q h) hFc (fun rr4 u t H3 locs ht hvm hw hB hz1 hk1 hS => ?_)
  obtain ⟨hP1, hK1, hD1⟩ := hB
  rw [ht] at hP1
  refine zTopi hw.symm ?_
  obtain ⟨hP, hD⟩ := va_join (wr := [(oX6 a6 h6 q3 a0 q8 q5 q4 S6), (h6 0, .inl (y 2, 2000, .inl (gA S6 0))), (h6 5, .inl (y 0, 60, .inl (gA S6 5))), (h6 6, .inl (y 0, 60, .inl (gA S6 6))), (h6 7, .inl (y 0, 60, .inl (gA S6 7)))]) (w1 := (cX0 a0 h0 y S0)) hP hD [5, 6, 7, 8, 9, 10, 11, 12, 13, 14, 15, 16] [0, 1, 2, 3, 4] rfl rfl (by decide) (by decide) hk1 hFc hP1 hD1
  have hP : va_P (dC, dI) vwCl ((cX6 a6 h6 q3 a0 q8 q5 q4 y S6) ++ (cX0 a0 h0 y S0)) H3 := hP.sub [0, 1, 2, 3, 4, 5, 6, 7, 8, 9, 10, 11, 12, 13, 14, 15, 16] rfl
  have hD : va_D A ((cX6 a6 h6 q3 a0 q8 q5 q4 y S6) ++ (cX0 a0 h0 y S0)) := hD.sub [0, 1, 2, 3, 4, 5, 6, 7, 8, 9, 10, 11, 12, 13, 14, 15, 16] (by decide) rfl
  refine lv_if_eq (tgt := 26) hx hb dX6_flicker_9 (by decide) (fun c5 => ?_) (fun c5 => ?_)
  · have h := zY c5 h
    refine lv_iconst (v := (-1)) hx hb dX6_flicker_26 (by decide) ?_
    have ho0 : (-1 : Int32) = or_ := congrArg (fun z : Int32 × SS => z.1) (Option.some.inj h)
    have ho1 : S6 = o_6 := congrArg (fun z : Int32 × SS => z.2) (Option.some.inj h)
    exact W.iret (v := (-1)) hx hb hr (fun t ht hW => ⟨⟨(-1), (), rfl, ho0, by rw [ht]; rw [← ho1]; exact hP, va_K.moved hW.alike hK, by rw [← ho1]; exact hD⟩, hS.F ht⟩) hS.2.2 dX6_flicker_27
  · have h := zN c5 h
    refine lv_aload_n hx hb dX6_flicker_12 rfl (lv_at hl 0 rfl) ?_
    refine va_get (D := (dC, dI)) (ci := 5) (v := .ref (h6 5)) (C := RX6) (T := TX6) (N := 12) hx hb hts inX6_ hown hK hP 0 rfl rfl 5 (by decide) (hts (.fieldLink RX6 30 "GateWheel" "values" "[I") (List.mem_of_getElem? (i := 2) rfl)) (fun _ h9 => h9) rfl dX6_flicker_13 ?_
    refine lv_iload_n hx hb dX6_flicker_16 rfl (lv_at hl 1 rfl) ?_
    obtain ⟨hi6, h⟩ := zG_spec h
    refine va_iald hx hb hK hP 2 0 rfl rfl hi6 dX6_flicker_17 ?_
    refine lv_iconst (v := 2) hx hb dX6_flicker_18 (by decide) ?_
    refine lv_icmp_ge (tgt := 26) hx hb dX6_flicker_19 (by decide) (fun c7 => ?_) (fun c7 => ?_)
    · have h := zY c7 h
      refine lv_iconst (v := (-1)) hx hb dX6_flicker_26 (by decide) ?_
      have ho0 : (-1 : Int32) = or_ := congrArg (fun z : Int32 × SS => z.1) (Option.some.inj h)
      have ho1 : S6 = o_6 := congrArg (fun z : Int32 × SS => z.2) (Option.some.inj h)
      exact W.iret (v := (-1)) hx hb hr (fun t ht hW => ⟨⟨(-1), (), rfl, ho0, by rw [ht]; rw [← ho1]; exact hP, va_K.moved hW.alike hK, by rw [← ho1]; exact hD⟩, hS.F ht⟩) hS.2.2 dX6_flicker_27
    · have h := zN c7 h
      refine lv_iload_n hx hb dX6_flicker_22 rfl (lv_at hl 2 rfl) ?_
      refine lv_if_ge (tgt := 28) hx hb dX6_flicker_23 (by decide) (fun c8 => ?_) (fun c8 => ?_)
      · have h := zY c8 h
        refine lv_aload_n hx hb dX6_flicker_28 rfl (lv_at hl 0 rfl) ?_
        refine lv_aload_n hx hb dX6_flicker_29 rfl (lv_at hl 0 rfl) ?_
        refine va_get (D := (dC, dI)) (ci := 5) (v := .ref (h6 6)) (C := RX6) (T := TX6) (N := 12) hx hb hts inX6_ hown hK hP 0 rfl rfl 6 (by decide) (hts (.fieldLink RX6 34 "GateWheel" "rowOne" "[I") (List.mem_of_getElem? (i := 3) rfl)) (fun _ h9 => h9) rfl dX6_flicker_30 ?_
        refine lv_iload_n hx hb dX6_flicker_33 rfl (lv_at hl 1 rfl) ?_
        refine lv_iconst (v := 1) hx hb dX6_flicker_34 (by decide) ?_
        refine lv_aload_n hx hb dX6_flicker_35 rfl (lv_at hl 0 rfl) ?_
        refine va_get (D := (dC, dI)) (ci := 5) (v := .ref (h6 5)) (C := RX6) (T := TX6) (N := 12) hx hb hts inX6_ hown hK hP 0 rfl rfl 5 (by decide) (hts (.fieldLink RX6 30 "GateWheel" "values" "[I") (List.mem_of_getElem? (i := 2) rfl)) (fun _ h9 => h9) rfl dX6_flicker_36 ?_
        refine lv_iload_n hx hb dX6_flicker_39 rfl (lv_at hl 1 rfl) ?_
        refine va_iald hx hb hK hP 2 0 rfl rfl hi6 dX6_flicker_40 ?_
        refine lv_isub hx hb dX6_flicker_41 ?_
        obtain ⟨s6_9, hc10, h⟩ := zB_spec h
        have hFc := zFree hD hS hA
        refine va_callv (va_runV (As := [.ref (h6 6), .int p1, .int ((1 : Int32) - (gA S6 5 p1.toNatClampNeg))]) (rest := []) ⟨hx, hb, hml, hown, hts⟩ (m_X6_settleWith6 l dC dI y a6 h6 S6 a0 h0 S0 q3 q8 q5 q4 p1 ((1 : Int32) - (gA S6 5 p1.toNatClampNeg)) H3.size s6_9 hc10) (cwV 3 hts gX6_flicker_X6_settleWith rfl rfl rfl (by decide +kernel) ⟨Nat.le_of_ble_eq_true rfl, Nat.le_of_ble_eq_true rfl⟩) ⟨fun a U g mk q => by obtain ⟨q0, q1, qP, qK, qD⟩ := q; exact ⟨q0, q1, qP, va_K.moved (u := U) (U := U.calling g mk a) (Vm.Alike.refl U.vm) qK, qD⟩, va_recv hK hP (ci := 5) (q0 := 0) rfl rfl, fun U hU hW => ⟨rfl, by rw [hU], by rw [hU]; exact hP, va_K.moved hW.alike hK, hD.weaken (fun _ _ _ _ => trivial)⟩⟩ rfl rfl hl.1 rfl (lv_room (Nat.le_of_ble_eq_true rfl)) dX6_flicker_42 ⟨Nat.le_of_ble_eq_true rfl, Nat.le_of_ble_eq_true rfl⟩) hS (fun q _ h => hFc q h) hFc (fun u t H11 locs ht hvm hw hB hz1 hk1 hS => ?_)
        obtain ⟨hP1, hK1, hD1⟩ := hB
        rw [ht] at hP1
        have hP := hP1
        have hD := hD1.weaken (fun _ q _ h => hFc q.1 h)
        have hP : va_P (dC, dI) vwCl ((cX6 a6 h6 q3 a0 q8 q5 q4 y s6_9) ++ (cX0 a0 h0 y S0)) H11 := hP
        have hD : va_D A ((cX6 a6 h6 q3 a0 q8 q5 q4 y s6_9) ++ (cX0 a0 h0 y S0)) := hD
        refine lv_aload_n hx hb dX6_flicker_45 rfl (lv_at hl 0 rfl) ?_
        refine lv_aload_n hx hb dX6_flicker_46 rfl (lv_at hl 0 rfl) ?_
        refine va_get (D := (dC, dI)) (ci := 5) (v := .ref (h6 7)) (C := RX6) (T := TX6) (N := 12) hx hb hts inX6_ hown hK hP 0 rfl rfl 7 (by decide) (hts (.fieldLink RX6 37 "GateWheel" "rowTwo" "[I") (List.mem_of_getElem? (i := 4) rfl)) (fun _ h9 => h9) rfl dX6_flicker_47 ?_
        refine lv_iload_n hx hb dX6_flicker_50 rfl (lv_at hl 1 rfl) ?_
        refine lv_iconst (v := 2) hx hb dX6_flicker_51 (by decide) ?_
        obtain ⟨s6_13, hc14, h⟩ := zB_spec h
        have hFc := zFree hD hS hA
        refine va_callv (va_runV (As := [.ref (h6 7), .int p1, .int 2]) (rest := []) ⟨hx, hb, hml, hown, hts⟩ (m_X6_settleWith7 l dC dI y a6 h6 s6_9 a0 h0 S0 q3 q8 q5 q4 p1 (2 : Int32) H11.size s6_13 hc14) (cwV 3 hts gX6_flicker_X6_settleWith rfl rfl rfl (by decide +kernel) ⟨Nat.le_of_ble_eq_true rfl, Nat.le_of_ble_eq_true rfl⟩) ⟨fun a U g mk q => by obtain ⟨q0, q1, qP, qK, qD⟩ := q; exact ⟨q0, q1, qP, va_K.moved (u := U) (U := U.calling g mk a) (Vm.Alike.refl U.vm) qK, qD⟩, va_recv hK hP (ci := 5) (q0 := 0) rfl rfl, fun U hU hW => ⟨rfl, by rw [hU], by rw [hU]; exact hP, va_K.moved hW.alike hK, hD.weaken (fun _ _ _ _ => trivial)⟩⟩ rfl rfl hl.1 rfl (lv_room (Nat.le_of_ble_eq_true rfl)) dX6_flicker_52 ⟨Nat.le_of_ble_eq_true rfl, Nat.le_of_ble_eq_true rfl⟩) hS (fun q _ h => hFc q h) hFc (fun u t H15 locs ht hvm hw hB hz1 hk1 hS => ?_)
        obtain ⟨hP1, hK1, hD1⟩ := hB
        rw [ht] at hP1
        have hP := hP1
        have hD := hD1.weaken (fun _ q _ h => hFc q.1 h)
        have hP : va_P (dC, dI) vwCl ((cX6 a6 h6 q3 a0 q8 q5 q4 y s6_13) ++ (cX0 a0 h0 y S0)) H15 := hP
        have hD : va_D A ((cX6 a6 h6 q3 a0 q8 q5 q4 y s6_13) ++ (cX0 a0 h0 y S0)) := hD
        refine lv_iload_n hx hb dX6_flicker_55 rfl (lv_at hl 2 rfl) ?_
        refine lv_istore_n (lv' := [(3, .int p2), (0, .ref a6), (1, .int p1), (2, .int p2)]) hx hb dX6_flicker_56 rfl hl (by decide) rfl (fun ls hl => ?_)
        refine lv_iconst (v := 0) hx hb dX6_flicker_57 (by decide) ?_
        refine lv_istore (lv' := [(4, .int 0), (3, .int p2), (0, .ref a6), (1, .int p1), (2, .int p2)]) hx hb dX6_flicker_58 hl (by decide) rfl (fun ls hl => ?_)
        refine W_abs (fun GW17 eG18 => ?_)
        have hi22 := h
        have lp20 : ∀ (n : Nat) (v26 : Int32) (v27 : Int32) (HGW17 : Heap) (locs : List Loc) (ls : Array Slot), zI (b_X6_flicker_60 S0 s6_13) n (v26, v27) = some (or_, o_6) → va_P (dC, dI) vwCl ((cX6 a6 h6 q3 a0 q8 q5 q4 y s6_13) ++ (cX0 a0 h0 y S0)) HGW17 → va_D A ((cX6 a6 h6 q3 a0 q8 q5 q4 y s6_13) ++ (cX0 a0 h0 y S0)) → va_S A s.heap HGW17 locs → lv_has ls 5 [(0, .ref a6), (3, .int v26), (4, .int v27)] → GW17 HGW17 locs 0 0 (F0 m 60 ls []) := by
          intro n
          induction n with
          | zero =>
            intro v26 v27 HGW17 locs ls hi22 hP hD hS hl
            exact (zI_0 hi22).elim
          | succ n ihlp20 =>
            intro v26 v27 HGW17 locs ls hi22 hP hD hS hl
            refine (eG18 _ _ _ _ _).mpr ?_
            obtain ⟨xx25, h, hx24⟩ := zI_spec hi22
            refine lv_iload hx hb dX6_flicker_60 (lv_at hl 2 rfl) ?_
            refine lv_aload_n hx hb dX6_flicker_62 rfl (lv_at hl 0 rfl) ?_
            refine va_get (D := (dC, dI)) (ci := 5) (v := .ref a0) (C := RX6) (T := TX6) (N := 12) hx hb hts inX6_ hown hK hP 0 rfl rfl 3 (by decide) (hts (.fieldLink RX6 23 "GateWheel" "circuit" "LGateWheel$Circuit;") (List.mem_of_getElem? (i := 1) rfl)) (fun _ h9 => h9) rfl dX6_flicker_63 ?_
            refine va_get (D := (dC, dI)) (ci := 0) (v := .int (gI S0 0)) (C := RX0) (T := TX0) (N := 13) hx hb hts inX0_ hown hK hP 5 rfl rfl 0 (by decide) (hts (.fieldLink RX6 66 "GateWheel$Circuit" "count" "I") (List.mem_of_getElem? (i := 5) rfl)) (fun _ h9 => h9) rfl dX6_flicker_66 ?_
            refine lv_icmp_ge (tgt := 127) hx hb dX6_flicker_69 (by decide) (fun c28 => ?_) (fun c28 => ?_)
            · have h := zY c28 h
              refine lv_iconst (v := (-1)) hx hb dX6_flicker_127 (by decide) ?_
              have h := congrArg some (zI_r h hx24)
              have ho0 : (-1 : Int32) = or_ := congrArg (fun z : Int32 × SS => z.1) (Option.some.inj h)
              have ho1 : s6_13 = o_6 := congrArg (fun z : Int32 × SS => z.2) (Option.some.inj h)
              exact W.iret (v := (-1)) hx hb hr (fun t ht hW => ⟨⟨(-1), (), rfl, ho0, by rw [ht]; rw [← ho1]; exact hP, va_K.moved hW.alike hK, by rw [← ho1]; exact hD⟩, hS.F ht⟩) hS.2.2 dX6_flicker_128
            · have h := zN c28 h
              refine lv_aload_n hx hb dX6_flicker_72 rfl (lv_at hl 0 rfl) ?_
              refine va_get (D := (dC, dI)) (ci := 5) (v := .ref (h6 5)) (C := RX6) (T := TX6) (N := 12) hx hb hts inX6_ hown hK hP 0 rfl rfl 5 (by decide) (hts (.fieldLink RX6 30 "GateWheel" "values" "[I") (List.mem_of_getElem? (i := 2) rfl)) (fun _ h9 => h9) rfl dX6_flicker_73 ?_
              refine lv_iload hx hb dX6_flicker_76 (lv_at hl 2 rfl) ?_
              obtain ⟨hi29, h⟩ := zG_spec h
              refine va_iald hx hb hK hP 2 0 rfl rfl hi29 dX6_flicker_78 ?_
              refine lv_iconst (v := 2) hx hb dX6_flicker_79 (by decide) ?_
              refine lv_icmp_ge (tgt := 121) hx hb dX6_flicker_80 (by decide) (fun c30 => ?_) (fun c30 => ?_)
              · have h := zY c30 h
                obtain ⟨v31, ev31, h⟩ := zL_spec h
                refine lv_iinc (v := v31) (lv' := [(4, .int v31), (0, .ref a6), (3, .int v26)]) hx hb dX6_flicker_121 hl (k := 2) rfl (by rw [ev31]; rfl) (by decide) rfl (fun ls hl => ?_)
                refine lv_goto (tgt := 60) hx hb dX6_flicker_124 (by decide) ?_
                have h := zI_l h hx24
                exact (eG18 _ _ _ _ _).mp (ihlp20 v26 v31 _ _ _ h hP hD hS (lv_sub hl [1, 2, 0] rfl))
              · have h := zN c30 h
                refine lv_aload_n hx hb dX6_flicker_83 rfl (lv_at hl 0 rfl) ?_
                refine va_get (D := (dC, dI)) (ci := 5) (v := .ref (h6 6)) (C := RX6) (T := TX6) (N := 12) hx hb hts inX6_ hown hK hP 0 rfl rfl 6 (by decide) (hts (.fieldLink RX6 34 "GateWheel" "rowOne" "[I") (List.mem_of_getElem? (i := 3) rfl)) (fun _ h9 => h9) rfl dX6_flicker_84 ?_
                refine lv_iload hx hb dX6_flicker_87 (lv_at hl 2 rfl) ?_
                refine va_iald hx hb hK hP 3 0 rfl rfl hi29 dX6_flicker_89 ?_
                refine lv_aload_n hx hb dX6_flicker_90 rfl (lv_at hl 0 rfl) ?_
                refine va_get (D := (dC, dI)) (ci := 5) (v := .ref (h6 5)) (C := RX6) (T := TX6) (N := 12) hx hb hts inX6_ hown hK hP 0 rfl rfl 5 (by decide) (hts (.fieldLink RX6 30 "GateWheel" "values" "[I") (List.mem_of_getElem? (i := 2) rfl)) (fun _ h9 => h9) rfl dX6_flicker_91 ?_
                refine lv_iload hx hb dX6_flicker_94 (lv_at hl 2 rfl) ?_
                refine va_iald hx hb hK hP 2 0 rfl rfl hi29 dX6_flicker_96 ?_
                refine lv_icmp_ne (tgt := 121) hx hb dX6_flicker_97 (by decide) (fun c32 => ?_) (fun c32 => ?_)
                · have h := zN c32 h
                  obtain ⟨v33, ev33, h⟩ := zL_spec h
                  refine lv_iinc (v := v33) (lv' := [(4, .int v33), (0, .ref a6), (3, .int v26)]) hx hb dX6_flicker_121 hl (k := 2) rfl (by rw [ev33]; rfl) (by decide) rfl (fun ls hl => ?_)
                  refine lv_goto (tgt := 60) hx hb dX6_flicker_124 (by decide) ?_
                  have h := zI_l h hx24
                  exact (eG18 _ _ _ _ _).mp (ihlp20 v26 v33 _ _ _ h hP hD hS (lv_sub hl [1, 2, 0] rfl))
                · have h := zY c32 h
                  refine lv_aload_n hx hb dX6_flicker_100 rfl (lv_at hl 0 rfl) ?_
                  refine va_get (D := (dC, dI)) (ci := 5) (v := .ref (h6 7)) (C := RX6) (T := TX6) (N := 12) hx hb hts inX6_ hown hK hP 0 rfl rfl 7 (by decide) (hts (.fieldLink RX6 37 "GateWheel" "rowTwo" "[I") (List.mem_of_getElem? (i := 4) rfl)) (fun _ h9 => h9) rfl dX6_flicker_101 ?_
                  refine lv_iload hx hb dX6_flicker_104 (lv_at hl 2 rfl) ?_
                  refine va_iald hx hb hK hP 4 0 rfl rfl hi29 dX6_flicker_106 ?_
                  refine lv_iconst (v := 2) hx hb dX6_flicker_107 (by decide) ?_
                  refine lv_icmp_ne (tgt := 121) hx hb dX6_flicker_108 (by decide) (fun c34 => ?_) (fun c34 => ?_)
                  · have h := zN c34 h
                    obtain ⟨v35, ev35, h⟩ := zL_spec h
                    refine lv_iinc (v := v35) (lv' := [(4, .int v35), (0, .ref a6), (3, .int v26)]) hx hb dX6_flicker_121 hl (k := 2) rfl (by rw [ev35]; rfl) (by decide) rfl (fun ls hl => ?_)
                    refine lv_goto (tgt := 60) hx hb dX6_flicker_124 (by decide) ?_
                    have h := zI_l h hx24
                    exact (eG18 _ _ _ _ _).mp (ihlp20 v26 v35 _ _ _ h hP hD hS (lv_sub hl [1, 2, 0] rfl))
                  · have h := zY c34 h
                    refine lv_iload_n hx hb dX6_flicker_111 rfl (lv_at hl 1 rfl) ?_
                    refine lv_if_ne (tgt := 118) hx hb dX6_flicker_112 (by decide) (fun c36 => ?_) (fun c36 => ?_)
                    · have h := zN c36 h
                      obtain ⟨v37, ev37, h⟩ := zL_spec h
                      refine lv_iinc (v := v37) (lv' := [(3, .int v37), (0, .ref a6), (4, .int v27)]) hx hb dX6_flicker_118 hl (k := 1) rfl ev37.symm (by decide) rfl (fun ls hl => ?_)
                      obtain ⟨v38, ev38, h⟩ := zL_spec h
                      refine lv_iinc (v := v38) (lv' := [(4, .int v38), (3, .int v37), (0, .ref a6)]) hx hb dX6_flicker_121 hl (k := 2) rfl (by rw [ev38]; rfl) (by decide) rfl (fun ls hl => ?_)
                      refine lv_goto (tgt := 60) hx hb dX6_flicker_124 (by decide) ?_
                      have h := zI_l h hx24
                      exact (eG18 _ _ _ _ _).mp (ihlp20 v37 v38 _ _ _ h hP hD hS (lv_sub hl [2, 1, 0] rfl))
                    · have h := zY c36 h
                      refine lv_iload hx hb dX6_flicker_115 (lv_at hl 2 rfl) ?_
                      have h := congrArg some (zI_r h hx24)
                      have ho0 : v27 = or_ := congrArg (fun z : Int32 × SS => z.1) (Option.some.inj h)
                      have ho1 : s6_13 = o_6 := congrArg (fun z : Int32 × SS => z.2) (Option.some.inj h)
                      exact W.iret (v := v27) hx hb hr (fun t ht hW => ⟨⟨v27, (), rfl, ho0, by rw [ht]; rw [← ho1]; exact hP, va_K.moved hW.alike hK, by rw [← ho1]; exact hD⟩, hS.F ht⟩) hS.2.2 dX6_flicker_117
        exact lp20 zF p2 (0 : Int32) _ _ _ hi22 hP hD hS (lv_sub hl [2, 1, 0] rfl)
      · have h := zN c8 h
        refine lv_iconst (v := (-1)) hx hb dX6_flicker_26 (by decide) ?_
        have ho0 : (-1 : Int32) = or_ := congrArg (fun z : Int32 × SS => z.1) (Option.some.inj h)
        have ho1 : S6 = o_6 := congrArg (fun z : Int32 × SS => z.2) (Option.some.inj h)
        exact W.iret (v := (-1)) hx hb hr (fun t ht hW => ⟨⟨(-1), (), rfl, ho0, by rw [ht]; rw [← ho1]; exact hP, va_K.moved hW.alike hK, by rw [← ho1]; exact hD⟩, hS.F ht⟩) hS.2.2 dX6_flicker_27
