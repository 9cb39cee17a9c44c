noncomputable def f_X5_freeRow (p1 : Int32) (p2 : Int32) : Option (Int64) :=
  if (6 : Int32) ≤ p1 then if ((p2 >>> ((p1 - (6 : Int32)) &&& 31)) &&& (1 : Int32)) = (1 : Int32) then some (-1 : Int64)
  else some (0 : Int64)
  else zG (vp_in p1 6) (
  some (sp_f p1.toNatClampNeg))

noncomputable def f_X5_join (p1 : Int32) (p2 : Int64) (p3 : Int64) : Option (Int64) :=
  if p1 = (2 : Int32) then some (p2 ||| p3)
  else if p1 = (4 : Int32) then some (p2 ^^^ p3)
  else some (p2 &&& p3)

noncomputable def f_J13_bitCount_95d88 (p1 : Int64) : Option (Int32) :=
  zL (p1 - ((jLu p1 (1 : Int32)) &&& (6148914691236517205 : Int64))) (fun v1 =>
  zL ((v1 &&& (3689348814741910323 : Int64)) + ((jLu v1 (2 : Int32)) &&& (3689348814741910323 : Int64))) (fun v2 =>
  zL ((v2 + (jLu v2 (4 : Int32))) &&& (1085102592571150095 : Int64)) (fun v3 =>
  zL (v3 + (jLu v3 (8 : Int32))) (fun v4 =>
  zL (v4 + (jLu v4 (16 : Int32))) (fun v5 =>
  zL (v5 + (jLu v5 (32 : Int32))) (fun v6 =>
  some ((jLI v6) &&& (127 : Int32))))))))

noncomputable def b_X5_fillSources_6 (S0 : SS) (fw : Nat → Int32) (p3 : Int32) : (Int32 × Int32 × SS) → Option ((Int32 × Int32 × SS) ⊕ (SS)) := fun (v10, v11, s5_12) =>
  if (gI S0 0) ≤ v11 then some (Sum.inr s5_12)
  else zB (f_X0_isSource S0 v11) (fun (r14 : Int32) =>
  if r14 = (0 : Int32) then zL (v11 + 1) (fun v40 =>
  some (Sum.inl (v10, v40, s5_12)))
  else zG (vp_in v11 60) (
  if (fw v11.toNatClampNeg) < (2 : Int32) then zB (if (fw v11.toNatClampNeg) = (1 : Int32) then some (-1 : Int64)
  else some (0 : Int64)) (fun (v27 : Int64) =>
  zL (sB s5_12 3 (vp_updL (gB s5_12 3) v11.toNatClampNeg v27)) (fun s5_29 =>
  zL (v11 + 1) (fun v30 =>
  some (Sum.inl (v10, v30, s5_29)))))
  else zB (f_X5_freeRow v10 p3) (fun (r32 : Int64) =>
  zL (sB s5_12 3 (vp_updL (gB s5_12 3) v11.toNatClampNeg r32)) (fun s5_37 =>
  zL (v10 + 1) (fun v38 =>
  zL (v11 + 1) (fun v39 =>
  some (Sum.inl (v38, v39, s5_37))))))))
noncomputable def f_X5_fillSources (S5 : SS) (S0 : SS) (fw : Nat → Int32) (p3 : Int32) : Option (SS) :=
  zI (b_X5_fillSources_6 S0 fw p3) zF ((0 : Int32), (0 : Int32), S5)

noncomputable def b_X5_gateRow_70 (S5 : SS) (S0 : SS) (p2 : Int32) (v2 : Int32) (r10 : Int32) : (Int64 × Int32) → Option ((Int64 × Int32) ⊕ (Int64)) := fun (v29, v30) =>
  if r10 ≤ v30 then some (Sum.inr v29)
  else zB (f_X0_part S0 p2 v30) (fun (r32 : Int32) =>
  zG (vp_in r32 60) (
  zB (f_X5_join (v2 &&& (-2 : Int32)) v29 (gB S5 3 r32.toNatClampNeg)) (fun (r37 : Int64) =>
  zL (v30 + 1) (fun v41 =>
  some (Sum.inl (r37, v41))))))
noncomputable def f_X5_gateRow (S5 : SS) (S0 : SS) (p2 : Int32) : Option (Int64) :=
  zG (vp_in p2 60) (
  zL (gA S0 5 p2.toNatClampNeg) (fun v2 =>
  zB (f_X0_part S0 p2 (0 : Int32)) (fun (r3 : Int32) =>
  zG (vp_in r3 60) (
  zL (gB S5 3 r3.toNatClampNeg) (fun v8 =>
  if v2 = (8 : Int32) then zB (f_X0_part S0 p2 (1 : Int32)) (fun (r42 : Int32) =>
  zG (vp_in r42 60) (
  zB (f_X0_part S0 p2 (2 : Int32)) (fun (r47 : Int32) =>
  zG (vp_in r47 60) (
  some (((v8 ^^^ (-1 : Int64)) &&& (gB S5 3 r42.toNatClampNeg)) ||| (v8 &&& (gB S5 3 r47.toNatClampNeg)))))))
  else zB (f_X0_size S0 p2) (fun (r10 : Int32) =>
  zB (zI (b_X5_gateRow_70 S5 S0 p2 v2 r10) zF (v8, (1 : Int32))) (fun (v23 : Int64) =>
  zB (f_X2_isTurned v2) (fun (r24 : Int32) =>
  if r24 = (0 : Int32) then some v23
  else some (v23 ^^^ (-1 : Int64))))))))))

noncomputable def b_X5_busRow_18 (S5 : SS) (S0 : SS) (p2 : Int32) (r1 : Int32) : (Int64 × Int64 × Int64 × Int32) → Option ((Int64 × Int64 × Int64 × Int32) ⊕ (Int64 × Int64 × Int64)) := fun (v19, v20, v21, v22) =>
  if r1 ≤ v22 then some (Sum.inr (v19, v20, v21))
  else zB (f_X0_part S0 p2 (((2 : Int32) * v22) + (1 : Int32))) (fun (r24 : Int32) =>
  zG (vp_in r24 60) (
  zL (gB S5 3 r24.toNatClampNeg) (fun v29 =>
  zB (f_X0_isLow S0 p2 v22) (fun (r30 : Int32) =>
  zB (if r30 = (0 : Int32) then some v29
  else some (v29 ^^^ (-1 : Int64))) (fun (v40 : Int64) =>
  zB (f_X0_part S0 p2 ((2 : Int32) * v22)) (fun (r41 : Int32) =>
  zG (vp_in r41 60) (
  zL (v19 ||| (v40 &&& (gB S5 3 r41.toNatClampNeg))) (fun v46 =>
  zL (v21 ||| (v20 &&& v40)) (fun v47 =>
  zL (v20 ||| v40) (fun v48 =>
  zL (v22 + 1) (fun v49 =>
  some (Sum.inl (v46, v48, v47, v49)))))))))))))
noncomputable def f_X5_busRow (S5 : SS) (S0 : SS) (p2 : Int32) : Option (Int64 × SS) :=
  zB (f_X0_size S0 p2) (fun (r1 : Int32) =>
  zB (zI (b_X5_busRow_18 S5 S0 p2 r1) zF ((0 : Int64), (0 : Int64), (0 : Int64), (0 : Int32))) (fun ((v14, v15, v16) : Int64 × Int64 × Int64) =>
  zL (sL S5 4 ((gL S5 4) &&& (v15 &&& (v16 ^^^ (-1 : Int64))))) (fun s5_18 =>
  some (v14, s5_18))))

noncomputable def b_X5_followOthers_2 (S0 : SS) : (Int32 × SS) → Option ((Int32 × SS) ⊕ (SS)) := fun (v10, s5_11) =>
  if (gI S0 0) ≤ v10 then some (Sum.inr s5_11)
  else zG (vp_in v10 60) (
  zL (gA S0 12 v10.toNatClampNeg) (fun v14 =>
  zG (vp_in v14 60) (
  if (gA S0 4 v14.toNatClampNeg) = (2 : Int32) then zB (f_X5_gateRow s5_11 S0 v14) (fun (r27 : Int64) =>
  zL (sB s5_11 3 (vp_updL (gB s5_11 3) v14.toNatClampNeg r27)) (fun s5_32 =>
  zL (v10 + 1) (fun v33 =>
  some (Sum.inl (v33, s5_32)))))
  else if (gA S0 4 v14.toNatClampNeg) = (1 : Int32) then zB (f_X5_busRow s5_11 S0 v14) (fun ((r19, s5_20) : Int64 × SS) =>
  zL (sB s5_20 3 (vp_updL (gB s5_20 3) v14.toNatClampNeg r19)) (fun s5_25 =>
  zL (v10 + 1) (fun v26 =>
  some (Sum.inl (v26, s5_25)))))
  else zL (v10 + 1) (fun v18 =>
  some (Sum.inl (v18, s5_11))))))
noncomputable def f_X5_followOthers (S5 : SS) (S0 : SS) : Option (SS) :=
  zI (b_X5_followOthers_2 S0) zF ((0 : Int32), S5)

noncomputable def b_X5_collect_18 (S0 : SS) : (Int32 × SS) → Option ((Int32 × SS) ⊕ (SS)) := fun (v16, s5_17) =>
  if (gI S0 0) ≤ v16 then some (Sum.inr s5_17)
  else zG (vp_in v16 60) (
  zB (if (lg_cmp ((gB s5_17 3 v16.toNatClampNeg) &&& (gL s5_17 4)) (0 : Int64)) = (0 : Int32) then some s5_17
  else zL (sL s5_17 2 ((gL s5_17 2) ||| (jLs (1 : Int64) v16))) (fun s5_34 =>
  some s5_34)) (fun (s5_26 : SS) =>
  if (lg_cmp (((gB s5_26 3 v16.toNatClampNeg) ^^^ (-1 : Int64)) &&& (gL s5_26 4)) (0 : Int64)) = (0 : Int32) then zL (v16 + 1) (fun v28 =>
  some (Sum.inl (v28, s5_26)))
  else zL (sL s5_26 1 ((gL s5_26 1) ||| (jLs (1 : Int64) v16))) (fun s5_30 =>
  zL (v16 + 1) (fun v31 =>
  some (Sum.inl (v31, s5_30))))))
noncomputable def f_X5_collect (S5 : SS) (S0 : SS) : Option (SS) :=
  zB (f_J13_bitCount_95d88 (gL S5 4)) (fun (r1 : Int32) =>
  zL (sI S5 0 ((gI S5 0) + r1)) (fun s5_6 =>
  zI (b_X5_collect_18 S0) zF ((0 : Int32), s5_6)))

noncomputable def b_X5_goThrough_57 (S0 : SS) (fw : Nat → Int32) (v13 : Int32) (v20 : Int64) : (Int32 × SS) → Option ((Int32 × SS) ⊕ (SS)) := fun (v30, s5_31) =>
  if v13 ≤ v30 then some (Sum.inr s5_31)
  else zL (sL s5_31 4 v20) (fun s5_34 =>
  zB (f_X5_fillSources s5_34 S0 fw v30) (fun (s5_35 : SS) =>
  zB (f_X5_followOthers s5_35 S0) (fun (s5_39 : SS) =>
  zB (f_X5_collect s5_39 S0) (fun (s5_43 : SS) =>
  zL (v30 + 1) (fun v47 =>
  some (Sum.inl (v47, s5_43)))))))
noncomputable def f_X5_goThrough (S5 : SS) (S0 : SS) (fw : Nat → Int32) (p3 : Int32) : Option (SS) :=
  zL (sI S5 0 (0 : Int32)) (fun s5_2 =>
  zL (sL s5_2 1 (0 : Int64)) (fun s5_4 =>
  zL (sL s5_4 2 (0 : Int64)) (fun s5_6 =>
  zB (if p3 ≤ (6 : Int32) then some (1 : Int32)
  else some ((1 : Int32) <<< ((p3 - (6 : Int32)) &&& 31))) (fun (v13 : Int32) =>
  zB (if p3 < (6 : Int32) then some ((jLs (1 : Int64) ((1 : Int32) <<< (p3 &&& 31))) - (1 : Int64))
  else some (-1 : Int64)) (fun (v20 : Int64) =>
  zI (b_X5_goThrough_57 S0 fw v13 v20) zF ((0 : Int32), s5_6))))))

noncomputable def f_X5_isEver (S5 : SS) (p1 : Int32) (p2 : Int32) : Option (Int32) :=
  zB (if p2 = (0 : Int32) then some (gL S5 1)
  else some (gL S5 2)) (fun (v7 : Int64) =>
  if (lg_cmp ((jLu v7 p1) &&& (1 : Int64)) (1 : Int64)) = (0 : Int32) then some (1 : Int32)
  else some (0 : Int32))

noncomputable def f_X5_sharpValue (S5 : SS) (p1 : Int32) : Option (Int32) :=
  if (gI S5 0) = (0 : Int32) then some (3 : Int32)
  else zB (f_X5_isEver S5 p1 (0 : Int32)) (fun (r2 : Int32) =>
  if r2 = (0 : Int32) then some (1 : Int32)
  else zB (f_X5_isEver S5 p1 (1 : Int32)) (fun (r7 : Int32) =>
  if r7 = (0 : Int32) then some (0 : Int32)
  else some (2 : Int32)))

set_option maxHeartbeats 4000000 in
set_option maxRecDepth 100000 in
theorem m_X5_freeRow (l : Launch) (dC : Nat → ClassId) (dI : Nat → Nat → Nat) (y : Nat → ClassId) (p1 : Int32) (p2 : Int32) (tg : Nat × Nat × Nat × Nat) (sz : Nat) (or_ : Int64) (h : f_X5_freeRow p1 p2 = some or_) : Met l yX5_freeRow wsX5_freeRow ({ frames := 0, cells := 0, slots := 0, locals := 0 }) (va_Pc [.int p1, .int p2] (fun U => U.heap.size = sz ∧ va_P (dC, dI) vwCl [] U.heap ∧ va_K (dC, dI) vwCl [(y 0, .int), (y 1, .long), (y 2, .byte), (y 3, .boolean)] U ∧ va_D (fun _ => True) [] ∧ STG tg (va_A [] sz) U U.heap)) (va_Ql (fun (r : Int64) (_ : Unit) => r = or_) (fun (_ : Unit) (t : State) => va_P (dC, dI) vwCl [] t.heap ∧ va_K (dC, dI) vwCl [(y 0, .int), (y 1, .long), (y 2, .byte), (y 3, .boolean)] t ∧ va_D (va_A [] sz) []) (va_A [] sz)) 0 0 (va_A [] sz) := by
  refine Met.ofW (cc := cX5_freeRow) (maxL := 2) (ret := (some .long)) (by decide +kernel) rfl ?_
  intro p e s m args below meth c s₁ B hml hv
  obtain ⟨rfl, hsz, hP, hK, hD0, hST⟩ := hv
  have hx := B.exec
  have hb := B.bytes
  have hr := B.returns
  have hts := atoms_spec (ws := wsX5_freeRow) B.pre
  have hown : s.vm.findClass RX5 = some m.cls := findClass_of_methodNamed B.named
  have hlocks := B.notSynchronized
  subst hsz
  have hD := hD0.self (sz := s.heap.size)
  generalize hAe : va_A [] s.heap.size = A at hD hST ⊢
  have hA : ∀ q : Nat, s.heap.size ≤ q → A q := fun q h => by rw [← hAe]; exact Or.inr h
  have hS : va_S A s.heap s.heap [] := va_S.rf
  have hP : va_P (dC, dI) vwCl [] s.heap := hP
  have hl := lv_entry ([.int p1, .int p2]) (n := 2) (Nat.le_of_ble_eq_true rfl)
  rw [lg_entry_eq]
  generalize (lg_sl ([.int p1, .int p2]) ++ List.replicate (2 - (lg_sl ([.int p1, .int p2])).length) Slot.unset).toArray = ls at hl ⊢
  have hl : lv_has ls 2 [(0, .int p1), (1, .int p2)] := hl
  refine lv_iload_n hx hb dX5_freeRow_0 rfl (lv_at hl 0 rfl) ?_
  refine va_gets hx hb (sp_Z hST) hS hown (hts (.fieldLink RX5 59 "GateWheel$Worlds" "PATTERNS" "[J") (List.mem_of_getElem? (i := 1) rfl)) (fun _ h9 => h9) dX5_freeRow_1 ?_
  refine va_tlen (v := 6) hx hb (sp_T hST) hS rfl dX5_freeRow_4 ?_
  refine lv_icmp_ge (tgt := 14) hx hb dX5_freeRow_5 (by decide) (fun c1 => ?_) (fun c1 => ?_)
  · have h := zY c1 h
    refine lv_iload_n hx hb dX5_freeRow_14 rfl (lv_at hl 1 rfl) ?_
    refine lv_iload_n hx hb dX5_freeRow_15 rfl (lv_at hl 0 rfl) ?_
    refine lv_bipush (v := 6) hx hb dX5_freeRow_16 (by decide) ?_
    refine lv_isub hx hb dX5_freeRow_18 ?_
    refine lv_ishr hx hb dX5_freeRow_19 ?_
    refine lv_iconst (v := 1) hx hb dX5_freeRow_20 (by decide) ?_
    refine lv_iand hx hb dX5_freeRow_21 ?_
    refine lv_iconst (v := 1) hx hb dX5_freeRow_22 (by decide) ?_
    refine lv_icmp_ne (tgt := 32) hx hb dX5_freeRow_23 (by decide) (fun c2 => ?_) (fun c2 => ?_)
    · have h := zN c2 h
      refine lv_lconst (v := 0) hx hb dX5_freeRow_32 (by decide) ?_
      have ho0 : (0 : Int64) = or_ := congrArg (fun z : Int64 => z) (Option.some.inj h)
      exact W.lret (v := 0) hx hb hr (fun t ht hW => ⟨⟨0, (), rfl, ho0, by rw [ht]; exact hP, va_K.moved hW.alike hK, hD⟩, hS.F ht⟩) hS.2.2 dX5_freeRow_33
    · have h := zY c2 h
      refine lv_ldc2 hx hb hown (hts (.constantLong RX5 26 (-1)) (List.mem_of_getElem? (i := 2) rfl)) dX5_freeRow_26 ?_
      refine lv_goto (tgt := 33) hx hb dX5_freeRow_29 (by decide) ?_
      have ho0 : (-1 : Int64) = or_ := congrArg (fun z : Int64 => z) (Option.some.inj h)
      exact W.lret (v := (-1)) hx hb hr (fun t ht hW => ⟨⟨(-1), (), rfl, ho0, by rw [ht]; exact hP, va_K.moved hW.alike hK, hD⟩, hS.F ht⟩) hS.2.2 dX5_freeRow_33
  · have h := zN c1 h
    refine va_gets hx hb (sp_Z hST) hS hown (hts (.fieldLink RX5 59 "GateWheel$Worlds" "PATTERNS" "[J") (List.mem_of_getElem? (i := 1) rfl)) (fun _ h9 => h9) dX5_freeRow_8 ?_
    refine lv_iload_n hx hb dX5_freeRow_11 rfl (lv_at hl 0 rfl) ?_
    obtain ⟨hi3, h⟩ := zG_spec h
    refine va_tl (v := .long (sp_f p1.toNatClampNeg)) hx hb (sp_T hST) hS hi3 rfl dX5_freeRow_12 ?_
    have ho0 : (sp_f p1.toNatClampNeg) = or_ := congrArg (fun z : Int64 => z) (Option.some.inj h)
    exact W.lret (v := (sp_f p1.toNatClampNeg)) hx hb hr (fun t ht hW => ⟨⟨(sp_f p1.toNatClampNeg), (), rfl, ho0, by rw [ht]; exact hP, va_K.moved hW.alike hK, hD⟩, hS.F ht⟩) hS.2.2 dX5_freeRow_13

set_option maxHeartbeats 4000000 in
set_option maxRecDepth 100000 in
theorem m_X5_join (l : Launch) (dC : Nat → ClassId) (dI : Nat → Nat → Nat) (y : Nat → ClassId) (p1 : Int32) (p2 : Int64) (p3 : Int64) (sz : Nat) (or_ : Int64) (h : f_X5_join p1 p2 p3 = some or_) : Met l yX5_join wsX5_join ({ frames := 0, cells := 0, slots := 0, locals := 0 }) (va_Pc [.int p1, .long p2, .long p3] (fun U => U.heap.size = sz ∧ va_P (dC, dI) vwCl [] U.heap ∧ va_K (dC, dI) vwCl [(y 0, .int), (y 1, .long), (y 2, .byte), (y 3, .boolean)] U ∧ va_D (fun _ => True) [])) (va_Ql (fun (r : Int64) (_ : Unit) => r = or_) (fun (_ : Unit) (t : State) => va_P (dC, dI) vwCl [] t.heap ∧ va_K (dC, dI) vwCl [(y 0, .int), (y 1, .long), (y 2, .byte), (y 3, .boolean)] t ∧ va_D (va_A [] sz) []) (va_A [] sz)) 0 0 (va_A [] sz) := by
  refine Met.ofW (cc := cX5_join) (maxL := 5) (ret := (some .long)) (by decide +kernel) rfl ?_
  intro p e s m args below meth c s₁ B hml hv
  obtain ⟨rfl, hsz, hP, hK, hD0⟩ := hv
  have hx := B.exec
  have hb := B.bytes
  have hr := B.returns
  have hts := atoms_spec (ws := wsX5_join) B.pre
  have hown : s.vm.findClass RX5 = some m.cls := findClass_of_methodNamed B.named
  have hlocks := B.notSynchronized
  subst hsz
  have hD := hD0.self (sz := s.heap.size)
  generalize hAe : va_A [] s.heap.size = A at hD ⊢
  have hA : ∀ q : Nat, s.heap.size ≤ q → A q := fun q h => by rw [← hAe]; exact Or.inr h
  have hS : va_S A s.heap s.heap [] := va_S.rf
  have hP : va_P (dC, dI) vwCl [] s.heap := hP
  have hl := lv_entry ([.int p1, .long p2, .long p3]) (n := 5) (Nat.le_of_ble_eq_true rfl)
  rw [lg_entry_eq]
  generalize (lg_sl ([.int p1, .long p2, .long p3]) ++ List.replicate (5 - (lg_sl ([.int p1, .long p2, .long p3])).length) Slot.unset).toArray = ls at hl ⊢
  have hl : lv_has ls 5 [(0, .int p1), (1, .long p2), (3, .long p3)] := hl
  refine lv_iload_n hx hb dX5_join_0 rfl (lv_at hl 0 rfl) ?_
  by_cases k1 : p1 = 2
  · have h := zY k1 h
    refine lv_lookup (off := 27) (tgt := 28) hx hb dX5_join_1 (by decide) (by rw [k1]; rfl) (by decide) ?_
    refine lv_lload_n hx hb dX5_join_28 rfl (lv_at hl 1 rfl) ?_
    refine lv_lload_n hx hb dX5_join_29 rfl (lv_at hl 2 rfl) ?_
    refine lv_lor hx hb dX5_join_30 ?_
    have ho0 : (p2 ||| p3) = or_ := congrArg (fun z : Int64 => z) (Option.some.inj h)
    exact W.lret (v := (p2 ||| p3)) hx hb hr (fun t ht hW => ⟨⟨(p2 ||| p3), (), rfl, ho0, by rw [ht]; exact hP, va_K.moved hW.alike hK, hD⟩, hS.F ht⟩) hS.2.2 dX5_join_31
  replace h := zN k1 h
  by_cases k2 : p1 = 4
  · have h := zY k2 h
    refine lv_lookup (off := 31) (tgt := 32) hx hb dX5_join_1 (by decide) (by rw [k2]; rfl) (by decide) ?_
    refine lv_lload_n hx hb dX5_join_32 rfl (lv_at hl 1 rfl) ?_
    refine lv_lload_n hx hb dX5_join_33 rfl (lv_at hl 2 rfl) ?_
    refine lv_lxor hx hb dX5_join_34 ?_
    have ho0 : (p2 ^^^ p3) = or_ := congrArg (fun z : Int64 => z) (Option.some.inj h)
    exact W.lret (v := (p2 ^^^ p3)) hx hb hr (fun t ht hW => ⟨⟨(p2 ^^^ p3), (), rfl, ho0, by rw [ht]; exact hP, va_K.moved hW.alike hK, hD⟩, hS.F ht⟩) hS.2.2 dX5_join_35
  replace h := zN k2 h
  refine lv_lookup (off := 35) (tgt := 36) hx hb dX5_join_1 (by decide) ((lv_osw k1 (by decide)).trans ((lv_osw k2 (by decide)).trans rfl)) (by decide) ?_
  refine lv_lload_n hx hb dX5_join_36 rfl (lv_at hl 1 rfl) ?_
  refine lv_lload_n hx hb dX5_join_37 rfl (lv_at hl 2 rfl) ?_
  refine lv_land hx hb dX5_join_38 ?_
  have ho0 : (p2 &&& p3) = or_ := congrArg (fun z : Int64 => z) (Option.some.inj h)
  exact W.lret (v := (p2 &&& p3)) hx hb hr (fun t ht hW => ⟨⟨(p2 &&& p3), (), rfl, ho0, by rw [ht]; exact hP, va_K.moved hW.alike hK, hD⟩, hS.F ht⟩) hS.2.2 dX5_join_39

set_option maxHeartbeats 4000000 in
set_option maxRecDepth 100000 in
theorem m_J13_bitCount_95d88 (l : Launch) (dC : Nat → ClassId) (dI : Nat → Nat → Nat) (y : Nat → ClassId) (p1 : Int64) (sz : Nat) (or_ : Int32) (h : f_J13_bitCount_95d88 p1 = some or_) : Met l yJ13_bitCount_95d88 wsJ13_bitCount_95d88 ({ frames := 0, cells := 0, slots := 0, locals := 0 }) (va_Pc [.long p1] (fun U => U.heap.size = sz ∧ va_P (dC, dI) vwCl [] U.heap ∧ va_K (dC, dI) vwCl [(y 0, .int), (y 1, .long), (y 2, .byte), (y 3, .boolean)] U ∧ va_D (fun _ => True) [])) (va_Qi (fun (r : Int32) (_ : Unit) => r = or_) (fun (_ : Unit) (t : State) => va_P (dC, dI) vwCl [] t.heap ∧ va_K (dC, dI) vwCl [(y 0, .int), (y 1, .long), (y 2, .byte), (y 3, .boolean)] t ∧ va_D (va_A [] sz) []) (va_A [] sz)) 0 0 (va_A [] sz) := by
  refine Met.ofW (cc := cJ13_bitCount_95d88) (maxL := 2) (ret := (some .int)) (by decide +kernel) rfl ?_
  intro p e s m args below meth c s₁ B hml hv
  obtain ⟨rfl, hsz, hP, hK, hD0⟩ := hv
  have hx := B.exec
  have hb := B.bytes
  have hr := B.returns
  have hts := atoms_spec (ws := wsJ13_bitCount_95d88) B.pre
  have hown : s.vm.findClass RJ13 = some m.cls := findClass_of_methodNamed B.named
  have hlocks := B.notSynchronized
  subst hsz
  have hD := hD0.self (sz := s.heap.size)
  generalize hAe : va_A [] s.heap.size = A at hD ⊢
  have hA : ∀ q : Nat, s.heap.size ≤ q → A q := fun q h => by rw [← hAe]; exact Or.inr h
  have hS : va_S A s.heap s.heap [] := va_S.rf
  have hP : va_P (dC, dI) vwCl [] s.heap := hP
  have hl := lv_entry ([.long p1]) (n := 2) (Nat.le_of_ble_eq_true rfl)
  rw [lg_entry_eq]
  generalize (lg_sl ([.long p1]) ++ List.replicate (2 - (lg_sl ([.long p1])).length) Slot.unset).toArray = ls at hl ⊢
  have hl : lv_has ls 2 [(0, .long p1)] := hl
  refine lv_lload_n hx hb dJ13_bitCount_95d88_0 rfl (lv_at hl 0 rfl) ?_
  refine lv_lload_n hx hb dJ13_bitCount_95d88_1 rfl (lv_at hl 0 rfl) ?_
  refine lv_iconst (v := 1) hx hb dJ13_bitCount_95d88_2 (by decide) ?_
  refine lv_lushr (v := (jLu p1 (1 : Int32))) hx hb dJ13_bitCount_95d88_3 rfl ?_
  refine lv_ldc2 hx hb hown (hts (.constantLong RJ13 314 (6148914691236517205)) (List.mem_of_getElem? (i := 1) rfl)) dJ13_bitCount_95d88_4 ?_
  refine lv_land hx hb dJ13_bitCount_95d88_7 ?_
  refine lv_lsub hx hb dJ13_bitCount_95d88_8 ?_
  obtain ⟨v1, ev1, h⟩ := zL_spec h
  refine zTopl ev1 ?_
  refine lv_lstore_n (lv' := [(0, .long v1)]) hx hb dJ13_bitCount_95d88_9 rfl hl (by decide) rfl (fun ls hl => ?_)
  refine lv_lload_n hx hb dJ13_bitCount_95d88_10 rfl (lv_at hl 0 rfl) ?_
  refine lv_ldc2 hx hb hown (hts (.constantLong RJ13 316 (3689348814741910323)) (List.mem_of_getElem? (i := 2) rfl)) dJ13_bitCount_95d88_11 ?_
  refine lv_land hx hb dJ13_bitCount_95d88_14 ?_
  refine lv_lload_n hx hb dJ13_bitCount_95d88_15 rfl (lv_at hl 0 rfl) ?_
  refine lv_iconst (v := 2) hx hb dJ13_bitCount_95d88_16 (by decide) ?_
  refine lv_lushr (v := (jLu v1 (2 : Int32))) hx hb dJ13_bitCount_95d88_17 rfl ?_
  refine lv_ldc2 hx hb hown (hts (.constantLong RJ13 316 (3689348814741910323)) (List.mem_of_getElem? (i := 2) rfl)) dJ13_bitCount_95d88_18 ?_
  refine lv_land hx hb dJ13_bitCount_95d88_21 ?_
  refine lv_ladd hx hb dJ13_bitCount_95d88_22 ?_
  obtain ⟨v2, ev2, h⟩ := zL_spec h
  refine zTopl ev2 ?_
  refine lv_lstore_n (lv' := [(0, .long v2)]) hx hb dJ13_bitCount_95d88_23 rfl hl (by decide) rfl (fun ls hl => ?_)
  refine lv_lload_n hx hb dJ13_bitCount_95d88_24 rfl (lv_at hl 0 rfl) ?_
  refine lv_lload_n hx hb dJ13_bitCount_95d88_25 rfl (lv_at hl 0 rfl) ?_
  refine lv_iconst (v := 4) hx hb dJ13_bitCount_95d88_26 (by decide) ?_
  refine lv_lushr (v := (jLu v2 (4 : Int32))) hx hb dJ13_bitCount_95d88_27 rfl ?_
  refine lv_ladd hx hb dJ13_bitCount_95d88_28 ?_
  refine lv_ldc2 hx hb hown (hts (.constantLong RJ13 318 (1085102592571150095)) (List.mem_of_getElem? (i := 3) rfl)) dJ13_bitCount_95d88_29 ?_
  refine lv_land hx hb dJ13_bitCount_95d88_32 ?_
  obtain ⟨v3, ev3, h⟩ := zL_spec h
  refine zTopl ev3 ?_
  refine lv_lstore_n (lv' := [(0, .long v3)]) hx hb dJ13_bitCount_95d88_33 rfl hl (by decide) rfl (fun ls hl => ?_)
  refine lv_lload_n hx hb dJ13_bitCount_95d88_34 rfl (lv_at hl 0 rfl) ?_
  refine lv_lload_n hx hb dJ13_bitCount_95d88_35 rfl (lv_at hl 0 rfl) ?_
  refine lv_bipush (v := 8) hx hb dJ13_bitCount_95d88_36 (by decide) ?_
  refine lv_lushr (v := (jLu v3 (8 : Int32))) hx hb dJ13_bitCount_95d88_38 rfl ?_
  refine lv_ladd hx hb dJ13_bitCount_95d88_39 ?_
  obtain ⟨v4, ev4, h⟩ := zL_spec h
  refine zTopl ev4 ?_
  refine lv_lstore_n (lv' := [(0, .long v4)]) hx hb dJ13_bitCount_95d88_40 rfl hl (by decide) rfl (fun ls hl => ?_)
  refine lv_lload_n hx hb dJ13_bitCount_95d88_41 rfl (lv_at hl 0 rfl) ?_
  refine lv_lload_n hx hb dJ13_bitCount_95d88_42 rfl (lv_at hl 0 rfl) ?_
  refine lv_bipush (v := 16) hx hb dJ13_bitCount_95d88_43 (by decide) ?_
  refine lv_lushr (v := (jLu v4 (16 : Int32))) hx hb dJ13_bitCount_95d88_45 rfl ?_
  refine lv_ladd hx hb dJ13_bitCount_95d88_46 ?_
  obtain ⟨v5, ev5, h⟩ := zL_spec h
  refine zTopl ev5 ?_
  refine lv_lstore_n (lv' := [(0, .long v5)]) hx hb dJ13_bitCount_95d88_47 rfl hl (by decide) rfl (fun ls hl => ?_)
  refine lv_lload_n hx hb dJ13_bitCount_95d88_48 rfl (lv_at hl 0 rfl) ?_
  refine lv_lload_n hx hb dJ13_bitCount_95d88_49 rfl (lv_at hl 0 rfl) ?_
  refine lv_bipush (v := 32) hx hb dJ13_bitCount_95d88_50 (by decide) ?_
  refine lv_lushr (v := (jLu v5 (32 : Int32))) hx hb dJ13_bitCount_95d88_52 rfl ?_
  refine lv_ladd hx hb dJ13_bitCount_95d88_53 ?_
  obtain ⟨v6, ev6, h⟩ := zL_spec h
  refine zTopl ev6 ?_
  refine lv_lstore_n (lv' := [(0, .long v6)]) hx hb dJ13_bitCount_95d88_54 rfl hl (by decide) rfl (fun ls hl => ?_)
  refine lv_lload_n hx hb dJ13_bitCount_95d88_55 rfl (lv_at hl 0 rfl) ?_
  refine lv_l2i (v := (jLI v6)) hx hb dJ13_bitCount_95d88_56 rfl ?_
  refine lv_bipush (v := 127) hx hb dJ13_bitCount_95d88_57 (by decide) ?_
  refine lv_iand hx hb dJ13_bitCount_95d88_59 ?_
  have ho0 : ((jLI v6) &&& (127 : Int32)) = or_ := congrArg (fun z : Int32 => z) (Option.some.inj h)
  exact W.iret (v := ((jLI v6) &&& (127 : Int32))) hx hb hr (fun t ht hW => ⟨⟨((jLI v6) &&& (127 : Int32)), (), rfl, ho0, by rw [ht]; exact hP, va_K.moved hW.alike hK, hD⟩, hS.F ht⟩) hS.2.2 dJ13_bitCount_95d88_60

set_option maxHeartbeats 4000000 in
set_option maxRecDepth 100000 in
theorem m_X5_fillSources (l : Launch) (dC : Nat → ClassId) (dI : Nat → Nat → Nat) (y : Nat → ClassId) (a5 : Nat) (h5 : Nat → Nat) (S5 : SS) (a0 : Nat) (h0 : Nat → Nat) (S0 : SS) (aw : Nat) (fw : Nat → Int32) (p3 : Int32) (tg : Nat × Nat × Nat × Nat) (sz : Nat) (o_5 : SS) (h : f_X5_fillSources S5 S0 fw p3 = some o_5) : Met l yX5_fillSources wsX5_fillSources ({ frames := 3, cells := 0, slots := 0, locals := 64 }) (va_Pc [.ref a5, .ref a0, .ref aw, .int p3] (fun U => U.heap.size = sz ∧ va_P (dC, dI) vwCl ((cX5 a5 h5 y S5) ++ ((cX0 a0 h0 y S0) ++ ([(aw, .inl (y 0, 60, .inl fw))]))) U.heap ∧ va_K (dC, dI) vwCl [(y 0, .int), (y 1, .long), (y 2, .byte), (y 3, .boolean)] U ∧ va_D (fun _ => True) ((cX5 a5 h5 y S5) ++ ((cX0 a0 h0 y S0) ++ ([(aw, .inl (y 0, 60, .inl fw))]))) ∧ STG tg (va_A ((cX5 a5 h5 y S5) ++ ((cX0 a0 h0 y S0) ++ ([(aw, .inl (y 0, 60, .inl fw))]))) sz) U U.heap)) (va_Qv (fun (_ : Unit) => True) (fun (_ : Unit) (t : State) => va_P (dC, dI) vwCl ((cX5 a5 h5 y o_5) ++ ((cX0 a0 h0 y S0) ++ ([(aw, .inl (y 0, 60, .inl fw))]))) t.heap ∧ va_K (dC, dI) vwCl [(y 0, .int), (y 1, .long), (y 2, .byte), (y 3, .boolean)] t ∧ va_D (va_A ((cX5 a5 h5 y S5) ++ ((cX0 a0 h0 y S0) ++ ([(aw, .inl (y 0, 60, .inl fw))]))) sz) ((cX5 a5 h5 y o_5) ++ ((cX0 a0 h0 y S0) ++ ([(aw, .inl (y 0, 60, .inl fw))])))) (va_A ((cX5 a5 h5 y S5) ++ ((cX0 a0 h0 y S0) ++ ([(aw, .inl (y 0, 60, .inl fw))]))) sz)) 0 0 (va_A ((cX5 a5 h5 y S5) ++ ((cX0 a0 h0 y S0) ++ ([(aw, .inl (y 0, 60, .inl fw))]))) sz) := by
  refine Met.ofW (cc := cX5_fillSources) (maxL := 6) (ret := none) (by decide +kernel) rfl ?_
  intro p e s m args below meth c s₁ B hml hv
  obtain ⟨rfl, hsz, hP, hK, hD0, hST⟩ := hv
  have hx := B.exec
  have hb := B.bytes
  have hr := B.returns
  have hts := atoms_spec (ws := wsX5_fillSources) B.pre
  have hown : s.vm.findClass RX5 = some m.cls := findClass_of_methodNamed B.named
  have hlocks := B.notSynchronized
  have inX0_ : ∀ w ∈ wsX00, w ∈ wsX5_fillSources := fun _ h => List.mem_cons_of_mem _ (List.mem_append_left _ (List.mem_append_right _ h))
  have inX5_ : ∀ w ∈ wsX50, w ∈ wsX5_fillSources := fun _ h => List.mem_cons_of_mem _ (List.mem_append_right _ h)
  subst hsz
  have hD := hD0.self (sz := s.heap.size)
  generalize hAe : va_A ((cX5 a5 h5 y S5) ++ ((cX0 a0 h0 y S0) ++ ([(aw, .inl (y 0, 60, .inl fw))]))) s.heap.size = A at hD hST ⊢
  have hA : ∀ q : Nat, s.heap.size ≤ q → A q := fun q h => by rw [← hAe]; exact Or.inr h
  have hS : va_S A s.heap s.heap [] := va_S.rf
  have hP : va_P (dC, dI) vwCl ((cX5 a5 h5 y S5) ++ ((cX0 a0 h0 y S0) ++ ([(aw, .inl (y 0, 60, .inl fw))]))) s.heap := hP
  have hl := lv_entry ([.ref a5, .ref a0, .ref aw, .int p3]) (n := 6) (Nat.le_of_ble_eq_true rfl)
  rw [lg_entry_eq]
  generalize (lg_sl ([.ref a5, .ref a0, .ref aw, .int p3]) ++ List.replicate (6 - (lg_sl ([.ref a5, .ref a0, .ref aw, .int p3])).length) Slot.unset).toArray = ls at hl ⊢
  have hl : lv_has ls 6 [(0, .ref a5), (1, .ref a0), (2, .ref aw), (3, .int p3)] := hl
  refine lv_iconst (v := 0) hx hb dX5_fillSources_0 (by decide) ?_
  refine lv_istore (lv' := [(4, .int 0), (0, .ref a5), (1, .ref a0), (2, .ref aw), (3, .int p3)]) hx hb dX5_fillSources_1 hl (by decide) rfl (fun ls hl => ?_)
  refine lv_iconst (v := 0) hx hb dX5_fillSources_3 (by decide) ?_
  refine lv_istore (lv' := [(5, .int 0), (4, .int 0), (0, .ref a5), (1, .ref a0), (2, .ref aw), (3, .int p3)]) hx hb dX5_fillSources_4 hl (by decide) rfl (fun ls hl => ?_)
  refine W_abs (fun GW1 eG2 => ?_)
  have hi6 := h
  have lp4 : ∀ (n : Nat) (v10 : Int32) (v11 : Int32) (s5_12 : SS) (HGW1 : Heap) (locs : List Loc) (ls : Array Slot), zI (b_X5_fillSources_6 S0 fw p3) n (v10, v11, s5_12) = some o_5 → va_P (dC, dI) vwCl ((cX5 a5 h5 y s5_12) ++ ((cX0 a0 h0 y S0) ++ ([(aw, .inl (y 0, 60, .inl fw))]))) HGW1 → va_D A ((cX5 a5 h5 y s5_12) ++ ((cX0 a0 h0 y S0) ++ ([(aw, .inl (y 0, 60, .inl fw))]))) → va_S A s.heap HGW1 locs → lv_has ls 6 [(0, .ref a5), (1, .ref a0), (2, .ref aw), (3, .int p3), (4, .int v10), (5, .int v11)] → GW1 HGW1 locs 0 0 (F0 m 6 ls []) := by
    intro n
    induction n with
    | zero =>
      intro v10 v11 s5_12 HGW1 locs ls hi6 hP hD hS hl
      exact (zI_0 hi6).elim
    | succ n ihlp4 =>
      intro v10 v11 s5_12 HGW1 locs ls hi6 hP hD hS hl
      refine (eG2 _ _ _ _ _).mpr ?_
      obtain ⟨xx9, h, hx8⟩ := zI_spec hi6
      refine lv_iload hx hb dX5_fillSources_6 (lv_at hl 5 rfl) ?_
      refine lv_aload_n hx hb dX5_fillSources_8 rfl (lv_at hl 1 rfl) ?_
      refine va_get (D := (dC, dI)) (ci := 0) (v := .int (gI S0 0)) (C := RX0) (T := TX0) (N := 13) hx hb hts inX0_ hown hK hP 2 rfl rfl 0 (by decide) (hts (.fieldLink RX5 46 "GateWheel$Circuit" "count" "I") (List.mem_of_getElem? (i := 1) rfl)) (fun _ h9 => h9) rfl dX5_fillSources_9 ?_
      refine lv_icmp_ge (tgt := 82) hx hb dX5_fillSources_12 (by decide) (fun c13 => ?_) (fun c13 => ?_)
      · have h := zY c13 h
        have h := congrArg some (zI_r h hx8)
        have ho0 : s5_12 = o_5 := congrArg (fun z : SS => z) (Option.some.inj h)
        exact W.vret hx hb hr (fun t ht hW => ⟨⟨(), rfl, trivial, by rw [ht]; rw [← ho0]; exact hP, va_K.moved hW.alike hK, by rw [← ho0]; exact hD⟩, hS.F ht⟩) hS.2.2 dX5_fillSources_82
      · have h := zN c13 h
        refine lv_aload_n hx hb dX5_fillSources_15 rfl (lv_at hl 1 rfl) ?_
        refine lv_iload hx hb dX5_fillSources_16 (lv_at hl 5 rfl) ?_
        obtain ⟨r14, hc15, h⟩ := zB_spec h
        have hPc := hP.sub (ws' := (cX0 a0 h0 y S0)) [2, 3, 4, 5, 6, 7, 8, 9, 10, 11, 12, 13] rfl
        have hDc := hD.sub (ws' := (cX0 a0 h0 y S0)) [2, 3, 4, 5, 6, 7, 8, 9, 10, 11, 12, 13] (by decide) rfl
        have hFc := va_free (wc := (cX0 a0 h0 y S0)) hD hS hA [2, 3, 4, 5, 6, 7, 8, 9, 10, 11, 12, 13] rfl
        refine va_calli (va_runV (As := [.int v11]) (rest := []) ⟨hx, hb, hml, hown, hts⟩ (m_X0_isSource l dC dI y a0 h0 S0 v11 HGW1.size r14 hc15) (cwV 1 hts gX5_fillSources_X0_isSource rfl rfl rfl (by decide +kernel) ⟨Nat.le_of_ble_eq_true rfl, Nat.le_of_ble_eq_true rfl⟩) ⟨fun a U g mk q => by obtain ⟨q0, q1, qP, qK, qD⟩ := q; exact ⟨q0, q1, qP, va_K.moved (u := U) (U := U.calling g mk a) (Vm.Alike.refl U.vm) qK, qD⟩, va_recv hK hPc (ci := 0) (q0 := 0) rfl rfl, fun U hU hW => ⟨rfl, by rw [hU], by rw [hU]; exact hPc, va_K.moved hW.alike hK, hDc.weaken (fun _ _ _ _ => trivial)⟩⟩ rfl rfl hl.1 rfl (lv_room (Nat.le_of_ble_eq_true rfl)) dX5_fillSources_18 ⟨Nat.le_of_ble_eq_true rfl, Nat.le_of_ble_eq_true rfl⟩) hS (fun q _ h => hFc q h) hFc (fun rr17 u t H16 locs ht hvm hw hB hz1 hk1 hS => ?_)
        obtain ⟨hP1, hK1, hD1⟩ := hB
        rw [ht] at hP1
        refine zTopi hw.symm ?_
        obtain ⟨hP, hD⟩ := va_join (wr := [(oX5 a5 h5 s5_12), (h5 3, .inl (y 1, 60, .inr (.inl (gB s5_12 3)))), (aw, .inl (y 0, 60, .inl fw))]) (w1 := (cX0 a0 h0 y S0)) hP hD [2, 3, 4, 5, 6, 7, 8, 9, 10, 11, 12, 13] [0, 1, 14] rfl rfl (by decide) (by decide) hk1 hFc hP1 hD1
        have hP : va_P (dC, dI) vwCl ((cX5 a5 h5 y s5_12) ++ ((cX0 a0 h0 y S0) ++ ([(aw, .inl (y 0, 60, .inl fw))]))) H16 := hP.sub [0, 1, 3, 4, 5, 6, 7, 8, 9, 10, 11, 12, 13, 14, 2] rfl
        have hD : va_D A ((cX5 a5 h5 y s5_12) ++ ((cX0 a0 h0 y S0) ++ ([(aw, .inl (y 0, 60, .inl fw))]))) := hD.sub [0, 1, 3, 4, 5, 6, 7, 8, 9, 10, 11, 12, 13, 14, 2] (by decide) rfl
        refine lv_if_ne (tgt := 27) hx hb dX5_fillSources_21 (by decide) (fun c18 => ?_) (fun c18 => ?_)
        · have h := zN c18 h
          refine lv_aload_n hx hb dX5_fillSources_27 rfl (lv_at hl 2 rfl) ?_
          refine lv_iload hx hb dX5_fillSources_28 (lv_at hl 5 rfl) ?_
          obtain ⟨hi19, h⟩ := zG_spec h
          refine va_iald hx hb hK hP 14 0 rfl rfl hi19 dX5_fillSources_30 ?_
          refine lv_iconst (v := 2) hx hb dX5_fillSources_31 (by decide) ?_
          refine lv_icmp_lt (tgt := 54) hx hb dX5_fillSources_32 (by decide) (fun c20 => ?_) (fun c20 => ?_)
          · have h := zY c20 h
            refine lv_aload_n hx hb dX5_fillSources_54 rfl (lv_at hl 0 rfl) ?_
            refine va_get (D := (dC, dI)) (ci := 4) (v := .ref (h5 3)) (C := RX5) (T := TX5) (N := 5) hx hb hts inX5_ hown hK hP 0 rfl rfl 3 (by decide) (hts (.fieldLink RX5 9 "GateWheel$Worlds" "rows" "[J") (List.mem_of_getElem? (i := 2) rfl)) (fun _ h9 => h9) rfl dX5_fillSources_55 ?_
            refine lv_iload hx hb dX5_fillSources_58 (lv_at hl 5 rfl) ?_
            refine lv_aload_n hx hb dX5_fillSources_60 rfl (lv_at hl 2 rfl) ?_
            refine lv_iload hx hb dX5_fillSources_61 (lv_at hl 5 rfl) ?_
            refine va_iald hx hb hK hP 14 0 rfl rfl hi19 dX5_fillSources_63 ?_
            refine lv_iconst (v := 1) hx hb dX5_fillSources_64 (by decide) ?_
            refine W_abs (fun GW21 eG22 => ?_)
            obtain ⟨ov24, hr25, h⟩ := zB_spec h
            have jn23 : ∀ (v27 : Int64) (HGW21 : Heap) (locs : List Loc) (ls : Array Slot), v27 = ov24 → va_P (dC, dI) vwCl ((cX5 a5 h5 y s5_12) ++ ((cX0 a0 h0 y S0) ++ ([(aw, .inl (y 0, 60, .inl fw))]))) HGW21 → va_D A ((cX5 a5 h5 y s5_12) ++ ((cX0 a0 h0 y S0) ++ ([(aw, .inl (y 0, 60, .inl fw))]))) → va_S A s.heap HGW21 locs → lv_has ls 6 [(0, .ref a5), (1, .ref a0), (2, .ref aw), (3, .int p3), (4, .int v10), (5, .int v11)] → GW21 HGW21 locs 0 0 (F0 m 75 ls [.long v27, .int v11, .ref (h5 3)]) := by
              intro v27 HGW21 locs ls hv hP hD hS hl
              subst hv
              refine (eG22 _ _ _ _ _).mpr ?_
              refine va_last hx hb hK hP hD hS 1 1 rfl rfl hi19 dX5_fillSources_75 (fun H28 locs hP hD hS => ?_)
              obtain ⟨s5_29, es5_29, h⟩ := zL_spec h
              have hP : va_P (dC, dI) vwCl ((cX5 a5 h5 y s5_29) ++ ((cX0 a0 h0 y S0) ++ ([(aw, .inl (y 0, 60, .inl fw))]))) H28 := by rw [es5_29]; exact hP
              have hD : va_D A ((cX5 a5 h5 y s5_29) ++ ((cX0 a0 h0 y S0) ++ ([(aw, .inl (y 0, 60, .inl fw))]))) := by rw [es5_29]; exact hD
              obtain ⟨v30, ev30, h⟩ := zL_spec h
              refine lv_iinc (v := v30) (lv' := [(5, .int v30), (0, .ref a5), (1, .ref a0), (2, .ref aw), (3, .int p3), (4, .int v10)]) hx hb dX5_fillSources_76 hl (k := 5) rfl (by rw [ev30]; rfl) (by decide) rfl (fun ls hl => ?_)
              refine lv_goto (tgt := 6) hx hb dX5_fillSources_79 (by decide) ?_
              have h := zI_l h hx8
              exact (eG2 _ _ _ _ _).mp (ihlp4 v10 v30 s5_29 _ _ _ h hP hD hS (lv_sub hl [1, 2, 3, 4, 5, 0] rfl))
            refine (eG22 _ _ _ _ _).mpr ?_
            have h := hr25
            refine lv_icmp_ne (tgt := 74) hx hb dX5_fillSources_65 (by decide) (fun c31 => ?_) (fun c31 => ?_)
            · have h := zN c31 h
              refine lv_lconst (v := 0) hx hb dX5_fillSources_74 (by decide) ?_
              exact (eG22 _ _ _ _ _).mp (jn23 (0 : Int64) _ _ _ (Option.some.inj h) hP hD hS (lv_sub hl [0, 1, 2, 3, 4, 5] rfl))
            · have h := zY c31 h
              refine lv_ldc2 hx hb hown (hts (.constantLong RX5 26 (-1)) (List.mem_of_getElem? (i := 3) rfl)) dX5_fillSources_68 ?_
              refine lv_goto (tgt := 75) hx hb dX5_fillSources_71 (by decide) ?_
              exact (eG22 _ _ _ _ _).mp (jn23 (-1 : Int64) _ _ _ (Option.some.inj h) hP hD hS (lv_sub hl [0, 1, 2, 3, 4, 5] rfl))
          · have h := zN c20 h
            refine lv_aload_n hx hb dX5_fillSources_35 rfl (lv_at hl 0 rfl) ?_
            refine va_get (D := (dC, dI)) (ci := 4) (v := .ref (h5 3)) (C := RX5) (T := TX5) (N := 5) hx hb hts inX5_ hown hK hP 0 rfl rfl 3 (by decide) (hts (.fieldLink RX5 9 "GateWheel$Worlds" "rows" "[J") (List.mem_of_getElem? (i := 2) rfl)) (fun _ h9 => h9) rfl dX5_fillSources_36 ?_
            refine lv_iload hx hb dX5_fillSources_39 (lv_at hl 5 rfl) ?_
            refine lv_iload hx hb dX5_fillSources_41 (lv_at hl 4 rfl) ?_
            refine lv_iload_n hx hb dX5_fillSources_43 rfl (lv_at hl 3 rfl) ?_
            obtain ⟨r32, hc33, h⟩ := zB_spec h
            have hPc := hP.sub (ws' := []) [] rfl
            have hDc := hD.sub (ws' := []) [] (by decide) rfl
            have hFc := va_free (wc := []) hD hS hA [] rfl
            refine va_calll (va_runS (As := [.int v10, .int p3]) (rest := [.int v11, .ref (h5 3)]) ⟨hx, hb, hml, hown, hts⟩ (m_X5_freeRow l dC dI y v10 p3 tg H16.size r32 hc33) (va_cwS 2 hts gX5_fillSources_X5_freeRow rfl rfl rfl (by decide +kernel) ⟨Nat.le_of_ble_eq_true rfl, Nat.le_of_ble_eq_true rfl⟩) ⟨fun a U g mk q => by obtain ⟨q0, q1, qP, qK, qD, qT⟩ := q; exact ⟨q0, q1, qP, va_K.moved (u := U) (U := U.calling g mk a) (Vm.Alike.refl U.vm) qK, qD, STG_moved (u := U) (U := U.calling g mk a) (Vm.Alike.refl U.vm) qT⟩, fun U hU hW => ⟨rfl, by rw [hU], by rw [hU]; exact hPc, va_K.moved hW.alike hK, hDc.weaken (fun _ _ _ _ => trivial), by rw [hU]; exact STG_moved hW.alike (STG_narrow (STG_kept hST hS.2.1) hFc)⟩⟩ rfl rfl hl.1 rfl (lv_room (Nat.le_of_ble_eq_true rfl)) dX5_fillSources_44 ⟨Nat.le_of_ble_eq_true rfl, Nat.le_of_ble_eq_true rfl⟩) hS (fun q _ h => hFc q h) hFc (fun rr35 u t H34 locs ht hvm hw hB hz1 hk1 hS => ?_)
            obtain ⟨hP1, hK1, hD1⟩ := hB
            rw [ht] at hP1
            refine zTopl hw.symm ?_
            obtain ⟨hP, hD⟩ := va_join (wr := [(oX5 a5 h5 s5_12), (h5 3, .inl (y 1, 60, .inr (.inl (gB s5_12 3)))), (oX0 a0 h0 S0), (h0 2, .inl (y 1, 60, .inr (.inl (gB S0 2)))), (h0 3, .inl (y 0, 60, .inl (gA S0 3))), (h0 4, .inl (y 0, 60, .inl (gA S0 4))), (h0 5, .inl (y 0, 60, .inl (gA S0 5))), (h0 6, .inl (y 0, 60, .inl (gA S0 6))), (h0 7, .inl (y 0, 720, .inl (gA S0 7))), (h0 8, .inl (y 0, 60, .inl (gA S0 8))), (h0 9, .inl (y 0, 60, .inl (gA S0 9))), (h0 10, .inl (y 1, 60, .inr (.inl (gB S0 10)))), (h0 11, .inl (y 0, 60, .inl (gA S0 11))), (h0 12, .inl (y 0, 60, .inl (gA S0 12))), (aw, .inl (y 0, 60, .inl fw))]) (w1 := []) hP hD [] [0, 1, 2, 3, 4, 5, 6, 7, 8, 9, 10, 11, 12, 13, 14] rfl rfl (by decide) (by decide) hk1 hFc hP1 hD1
            have hP : va_P (dC, dI) vwCl ((cX5 a5 h5 y s5_12) ++ ((cX0 a0 h0 y S0) ++ ([(aw, .inl (y 0, 60, .inl fw))]))) H34 := hP.sub [0, 1, 2, 3, 4, 5, 6, 7, 8, 9, 10, 11, 12, 13, 14] rfl
            have hD : va_D A ((cX5 a5 h5 y s5_12) ++ ((cX0 a0 h0 y S0) ++ ([(aw, .inl (y 0, 60, .inl fw))]))) := hD.sub [0, 1, 2, 3, 4, 5, 6, 7, 8, 9, 10, 11, 12, 13, 14] (by decide) rfl
            refine va_last hx hb hK hP hD hS 1 1 rfl rfl hi19 dX5_fillSources_47 (fun H36 locs hP hD hS => ?_)
            obtain ⟨s5_37, es5_37, h⟩ := zL_spec h
            have hP : va_P (dC, dI) vwCl ((cX5 a5 h5 y s5_37) ++ ((cX0 a0 h0 y S0) ++ ([(aw, .inl (y 0, 60, .inl fw))]))) H36 := by rw [es5_37]; exact hP
            have hD : va_D A ((cX5 a5 h5 y s5_37) ++ ((cX0 a0 h0 y S0) ++ ([(aw, .inl (y 0, 60, .inl fw))]))) := by rw [es5_37]; exact hD
            obtain ⟨v38, ev38, h⟩ := zL_spec h
            refine lv_iinc (v := v38) (lv' := [(4, .int v38), (0, .ref a5), (1, .ref a0), (2, .ref aw), (3, .int p3), (5, .int v11)]) hx hb dX5_fillSources_48 hl (k := 4) rfl (by rw [ev38]; rfl) (by decide) rfl (fun ls hl => ?_)
            refine lv_goto (tgt := 76) hx hb dX5_fillSources_51 (by decide) ?_
            obtain ⟨v39, ev39, h⟩ := zL_spec h
            refine lv_iinc (v := v39) (lv' := [(5, .int v39), (4, .int v38), (0, .ref a5), (1, .ref a0), (2, .ref aw), (3, .int p3)]) hx hb dX5_fillSources_76 hl (k := 5) rfl (by rw [ev39]; rfl) (by decide) rfl (fun ls hl => ?_)
            refine lv_goto (tgt := 6) hx hb dX5_fillSources_79 (by decide) ?_
            have h := zI_l h hx8
            exact (eG2 _ _ _ _ _).mp (ihlp4 v38 v39 s5_37 _ _ _ h hP hD hS (lv_sub hl [2, 3, 4, 5, 1, 0] rfl))
        · have h := zY c18 h
          refine lv_goto (tgt := 76) hx hb dX5_fillSources_24 (by decide) ?_
          obtain ⟨v40, ev40, h⟩ := zL_spec h
          refine lv_iinc (v := v40) (lv' := [(5, .int v40), (0, .ref a5), (1, .ref a0), (2, .ref aw), (3, .int p3), (4, .int v10)]) hx hb dX5_fillSources_76 hl (k := 5) rfl (by rw [ev40]; rfl) (by decide) rfl (fun ls hl => ?_)
          refine lv_goto (tgt := 6) hx hb dX5_fillSources_79 (by decide) ?_
          have h := zI_l h hx8
          exact (eG2 _ _ _ _ _).mp (ihlp4 v10 v40 s5_12 _ _ _ h hP hD hS (lv_sub hl [1, 2, 3, 4, 5, 0] rfl))
  exact lp4 zF (0 : Int32) (0 : Int32) S5 _ _ _ hi6 hP hD hS (lv_sub hl [2, 3, 4, 5, 1, 0] rfl)

set_option maxHeartbeats 4000000 in
set_option maxRecDepth 100000 in
theorem m_X5_gateRow (l : Launch) (dC : Nat → ClassId) (dI : Nat → Nat → Nat) (y : Nat → ClassId) (a5 : Nat) (h5 : Nat → Nat) (S5 : SS) (a0 : Nat) (h0 : Nat → Nat) (S0 : SS) (p2 : Int32) (sz : Nat) (or_ : Int64) (h : f_X5_gateRow S5 S0 p2 = some or_) : Met l yX5_gateRow wsX5_gateRow ({ frames := 1, cells := 0, slots := 0, locals := 24 }) (va_Pc [.ref a5, .ref a0, .int p2] (fun U => U.heap.size = sz ∧ va_P (dC, dI) vwCl ((cX5 a5 h5 y S5) ++ (cX0 a0 h0 y S0)) U.heap ∧ va_K (dC, dI) vwCl [(y 0, .int), (y 1, .long), (y 2, .byte), (y 3, .boolean)] U ∧ va_D (fun _ => True) ((cX5 a5 h5 y S5) ++ (cX0 a0 h0 y S0)))) (va_Ql (fun (r : Int64) (_ : Unit) => r = or_) (fun (_ : Unit) (t : State) => va_P (dC, dI) vwCl ((cX5 a5 h5 y S5) ++ (cX0 a0 h0 y S0)) t.heap ∧ va_K (dC, dI) vwCl [(y 0, .int), (y 1, .long), (y 2, .byte), (y 3, .boolean)] t ∧ va_D (va_A ((cX5 a5 h5 y S5) ++ (cX0 a0 h0 y S0)) sz) ((cX5 a5 h5 y S5) ++ (cX0 a0 h0 y S0))) (va_A ((cX5 a5 h5 y S5) ++ (cX0 a0 h0 y S0)) sz)) 0 0 (va_A ((cX5 a5 h5 y S5) ++ (cX0 a0 h0 y S0)) sz) := by
  refine Met.ofW (cc := cX5_gateRow) (maxL := 8) (ret := (some .long)) (by decide +kernel) rfl ?_
  intro p e s m args below meth c s₁ B hml hv
  obtain ⟨rfl, hsz, hP, hK, hD0⟩ := hv
  have hx := B.exec
  have hb := B.bytes
  have hr := B.returns
  have hts := atoms_spec (ws := wsX5_gateRow) B.pre
  have hown : s.vm.findClass RX5 = some m.cls := findClass_of_methodNamed B.named
  have hlocks := B.notSynchronized
  have inX0_ : ∀ w ∈ wsX00, w ∈ wsX5_gateRow := fun _ h => List.mem_cons_of_mem _ (List.mem_append_left _ (List.mem_append_right _ h))
  have inX5_ : ∀ w ∈ wsX50, w ∈ wsX5_gateRow := fun _ h => List.mem_cons_of_mem _ (List.mem_append_right _ h)
  subst hsz
  have hD := hD0.self (sz := s.heap.size)
  generalize hAe : va_A ((cX5 a5 h5 y S5) ++ (cX0 a0 h0 y S0)) s.heap.size = A at hD ⊢
  have hA : ∀ q : Nat, s.heap.size ≤ q → A q := fun q h => by rw [← hAe]; exact Or.inr h
  have hS : va_S A s.heap s.heap [] := va_S.rf
  have hP : va_P (dC, dI) vwCl ((cX5 a5 h5 y S5) ++ (cX0 a0 h0 y S0)) s.heap := hP
  have hl := lv_entry ([.ref a5, .ref a0, .int p2]) (n := 8) (Nat.le_of_ble_eq_true rfl)
  rw [lg_entry_eq]
  generalize (lg_sl ([.ref a5, .ref a0, .int p2]) ++ List.replicate (8 - (lg_sl ([.ref a5, .ref a0, .int p2])).length) Slot.unset).toArray = ls at hl ⊢
  have hl : lv_has ls 8 [(0, .ref a5), (1, .ref a0), (2, .int p2)] := hl
  refine lv_aload_n hx hb dX5_gateRow_0 rfl (lv_at hl 1 rfl) ?_
  refine va_get (D := (dC, dI)) (ci := 0) (v := .ref (h0 5)) (C := RX0) (T := TX0) (N := 13) hx hb hts inX0_ hown hK hP 2 rfl rfl 5 (by decide) (hts (.fieldLink RX5 76 "GateWheel$Circuit" "gates" "[I") (List.mem_of_getElem? (i := 1) rfl)) (fun _ h9 => h9) rfl dX5_gateRow_1 ?_
  refine lv_iload_n hx hb dX5_gateRow_4 rfl (lv_at hl 2 rfl) ?_
  obtain ⟨hi1, h⟩ := zG_spec h
  refine va_iald hx hb hK hP 6 0 rfl rfl hi1 dX5_gateRow_5 ?_
  obtain ⟨v2, ev2, h⟩ := zL_spec h
  refine zTopi ev2 ?_
  refine lv_istore_n (lv' := [(3, .int v2), (0, .ref a5), (1, .ref a0), (2, .int p2)]) hx hb dX5_gateRow_6 rfl hl (by decide) rfl (fun ls hl => ?_)
  refine lv_aload_n hx hb dX5_gateRow_7 rfl (lv_at hl 1 rfl) ?_
  refine va_get (D := (dC, dI)) (ci := 4) (v := .ref (h5 3)) (C := RX5) (T := TX5) (N := 5) hx hb hts inX5_ hown hK hP 0 rfl rfl 3 (by decide) (hts (.fieldLink RX5 9 "GateWheel$Worlds" "rows" "[J") (List.mem_of_getElem? (i := 2) rfl)) (fun _ h9 => h9) rfl dX5_gateRow_8 ?_
  refine lv_aload_n hx hb dX5_gateRow_11 rfl (lv_at hl 2 rfl) ?_
  refine lv_iload_n hx hb dX5_gateRow_12 rfl (lv_at hl 3 rfl) ?_
  refine lv_iconst (v := 0) hx hb dX5_gateRow_13 (by decide) ?_
  obtain ⟨r3, hc4, h⟩ := zB_spec h
  have hPc := hP.sub (ws' := (cX0 a0 h0 y S0)) [2, 3, 4, 5, 6, 7, 8, 9, 10, 11, 12, 13] rfl
  have hDc := hD.sub (ws' := (cX0 a0 h0 y S0)) [2, 3, 4, 5, 6, 7, 8, 9, 10, 11, 12, 13] (by decide) rfl
  have hFc := va_free (wc := (cX0 a0 h0 y S0)) hD hS hA [2, 3, 4, 5, 6, 7, 8, 9, 10, 11, 12, 13] rfl
  refine va_calli (va_runV (As := [.int p2, .int 0]) (rest := [.ref (h5 3)]) ⟨hx, hb, hml, hown, hts⟩ (m_X0_part l dC dI y a0 h0 S0 p2 (0 : Int32) s.heap.size r3 hc4) (cwV 2 hts gX5_gateRow_X0_part rfl rfl rfl (by decide +kernel) ⟨Nat.le_of_ble_eq_true rfl, Nat.le_of_ble_eq_true rfl⟩) ⟨fun a U g mk q => by obtain ⟨q0, q1, qP, qK, qD⟩ := q; exact ⟨q0, q1, qP, va_K.moved (u := U) (U := U.calling g mk a) (Vm.Alike.refl U.vm) qK, qD⟩, va_recv hK hPc (ci := 0) (q0 := 0) rfl rfl, fun U hU hW => ⟨rfl, by rw [hU], by rw [hU]; exact hPc, va_K.moved hW.alike hK, hDc.weaken (fun _ _ _ _ => trivial)⟩⟩ rfl rfl hl.1 rfl (lv_room (Nat.le_of_ble_eq_true rfl)) dX5_gateRow_14 ⟨Nat.le_of_ble_eq_true rfl, Nat.le_of_ble_eq_true rfl⟩) hS (fun q _ h => hFc q h) hFc (fun rr6 u t H5 locs ht hvm hw hB hz1 hk1 hS => ?_)
  obtain ⟨hP1, hK1, hD1⟩ := hB
  rw [ht] at hP1
  refine zTopi hw.symm ?_
  obtain ⟨hP, hD⟩ := va_join (wr := [(oX5 a5 h5 S5), (h5 3, .inl (y 1, 60, .inr (.inl (gB S5 3))))]) (w1 := (cX0 a0 h0 y S0)) hP hD [2, 3, 4, 5, 6, 7, 8, 9, 10, 11, 12, 13] [0, 1] rfl rfl (by decide) (by decide) hk1 hFc hP1 hD1
  have hP : va_P (dC, dI) vwCl ((cX5 a5 h5 y S5) ++ (cX0 a0 h0 y S0)) H5 := hP.sub [0, 1, 2, 3, 4, 5, 6, 7, 8, 9, 10, 11, 12, 13] rfl
  have hD : va_D A ((cX5 a5 h5 y S5) ++ (cX0 a0 h0 y S0)) := hD.sub [0, 1, 2, 3, 4, 5, 6, 7, 8, 9, 10, 11, 12, 13] (by decide) rfl
  obtain ⟨hi7, h⟩ := zG_spec h
  refine va_lald hx hb hK hP 1 1 rfl rfl hi7 dX5_gateRow_17 ?_
  obtain ⟨v8, ev8, h⟩ := zL_spec h
  refine zTopl ev8 ?_
  refine lv_lstore (lv' := [(4, .long v8), (3, .int v2), (0, .ref a5), (1, .ref a0), (2, .int p2)]) hx hb dX5_gateRow_18 hl (by decide) rfl (fun ls hl => ?_)
  refine lv_iload_n hx hb dX5_gateRow_20 rfl (lv_at hl 1 rfl) ?_
  refine lv_bipush (v := 8) hx hb dX5_gateRow_21 (by decide) ?_
  refine lv_icmp_ne (tgt := 60) hx hb dX5_gateRow_23 (by decide) (fun c9 => ?_) (fun c9 => ?_)
  · have h := zN c9 h
    refine lv_aload_n hx hb dX5_gateRow_60 rfl (lv_at hl 3 rfl) ?_
    refine lv_iload_n hx hb dX5_gateRow_61 rfl (lv_at hl 4 rfl) ?_
    obtain ⟨r10, hc11, h⟩ := zB_spec h
    have hPc := hP.sub (ws' := (cX0 a0 h0 y S0)) [2, 3, 4, 5, 6, 7, 8, 9, 10, 11, 12, 13] rfl
    have hDc := hD.sub (ws' := (cX0 a0 h0 y S0)) [2, 3, 4, 5, 6, 7, 8, 9, 10, 11, 12, 13] (by decide) rfl
    have hFc := va_free (wc := (cX0 a0 h0 y S0)) hD hS hA [2, 3, 4, 5, 6, 7, 8, 9, 10, 11, 12, 13] rfl
    refine va_calli (va_runV (As := [.int p2]) (rest := []) ⟨hx, hb, hml, hown, hts⟩ (m_X0_size l dC dI y a0 h0 S0 p2 H5.size r10 hc11) (cwV 1 hts gX5_gateRow_X0_size rfl rfl rfl (by decide +kernel) ⟨Nat.le_of_ble_eq_true rfl, Nat.le_of_ble_eq_true rfl⟩) ⟨fun a U g mk q => by obtain ⟨q0, q1, qP, qK, qD⟩ := q; exact ⟨q0, q1, qP, va_K.moved (u := U) (U := U.calling g mk a) (Vm.Alike.refl U.vm) qK, qD⟩, va_recv hK hPc (ci := 0) (q0 := 0) rfl rfl, fun U hU hW => ⟨rfl, by rw [hU], by rw [hU]; exact hPc, va_K.moved hW.alike hK, hDc.weaken (fun _ _ _ _ => trivial)⟩⟩ rfl rfl hl.1 rfl (lv_room (Nat.le_of_ble_eq_true rfl)) dX5_gateRow_62 ⟨Nat.le_of_ble_eq_true rfl, Nat.le_of_ble_eq_true rfl⟩) hS (fun q _ h => hFc q h) hFc (fun rr13 u t H12 locs ht hvm hw hB hz1 hk1 hS => ?_)
    obtain ⟨hP1, hK1, hD1⟩ := hB
    rw [ht] at hP1
    refine zTopi hw.symm ?_
    obtain ⟨hP, hD⟩ := va_join (wr := [(oX5 a5 h5 S5), (h5 3, .inl (y 1, 60, .inr (.inl (gB S5 3))))]) (w1 := (cX0 a0 h0 y S0)) hP hD [2, 3, 4, 5, 6, 7, 8, 9, 10, 11, 12, 13] [0, 1] rfl rfl (by decide) (by decide) hk1 hFc hP1 hD1
    have hP : va_P (dC, dI) vwCl ((cX5 a5 h5 y S5) ++ (cX0 a0 h0 y S0)) H12 := hP.sub [0, 1, 2, 3, 4, 5, 6, 7, 8, 9, 10, 11, 12, 13] rfl
    have hD : va_D A ((cX5 a5 h5 y S5) ++ (cX0 a0 h0 y S0)) := hD.sub [0, 1, 2, 3, 4, 5, 6, 7, 8, 9, 10, 11, 12, 13] (by decide) rfl
    refine lv_istore (lv' := [(6, .int r10), (4, .long v8), (3, .int v2), (0, .ref a5), (1, .ref a0), (2, .int p2)]) hx hb dX5_gateRow_65 hl (by decide) rfl (fun ls hl => ?_)
    refine lv_iconst (v := 1) hx hb dX5_gateRow_67 (by decide) ?_
    refine lv_istore (lv' := [(7, .int 1), (6, .int r10), (4, .long v8), (3, .int v2), (0, .ref a5), (1, .ref a0), (2, .int p2)]) hx hb dX5_gateRow_68 hl (by decide) rfl (fun ls hl => ?_)
    refine W_abs (fun GW14 eG15 => ?_)
    obtain ⟨ov18, hi19, h⟩ := zB_spec h
    have je16 : ∀ (v23 : Int64) (HGW14e : Heap) (locs : List Loc) (ls : Array Slot), v23 = ov18 → va_P (dC, dI) vwCl ((cX5 a5 h5 y S5) ++ (cX0 a0 h0 y S0)) HGW14e → va_D A ((cX5 a5 h5 y S5) ++ (cX0 a0 h0 y S0)) → va_S A s.heap HGW14e locs → lv_has ls 8 [(3, .int v2), (4, .long v23)] → GW14 HGW14e locs 0 0 (F0 m 106 ls []) := by
      intro v23 HGW14e locs ls hv hP hD hS hl
      subst hv
      refine (eG15 _ _ _ _ _).mpr ?_
      refine lv_iload_n hx hb dX5_gateRow_106 rfl (lv_at hl 0 rfl) ?_
      obtain ⟨r24, hc25, h⟩ := zB_spec h
      have hPc := hP.sub (ws' := []) [] rfl
      have hDc := hD.sub (ws' := []) [] (by decide) rfl
      have hFc := va_free (wc := []) hD hS hA [] rfl
      refine va_calli (va_runS (As := [.int v2]) (rest := []) ⟨hx, hb, hml, hown, hts⟩ (m_X2_isTurned l dC dI y v2 HGW14e.size r24 hc25) (va_cwS 1 hts gX5_gateRow_X2_isTurned rfl rfl rfl (by decide +kernel) ⟨Nat.le_of_ble_eq_true rfl, Nat.le_of_ble_eq_true rfl⟩) ⟨fun a U g mk q => by obtain ⟨q0, q1, qP, qK, qD⟩ := q; exact ⟨q0, q1, qP, va_K.moved (u := U) (U := U.calling g mk a) (Vm.Alike.refl U.vm) qK, qD⟩, fun U hU hW => ⟨rfl, by rw [hU], by rw [hU]; exact hPc, va_K.moved hW.alike hK, hDc.weaken (fun _ _ _ _ => trivial)⟩⟩ rfl rfl hl.1 rfl (lv_room (Nat.le_of_ble_eq_true rfl)) dX5_gateRow_107 ⟨Nat.le_of_ble_eq_true rfl, Nat.le_of_ble_eq_true rfl⟩) hS (fun q _ h => hFc q h) hFc (fun rr27 u t H26 locs ht hvm hw hB hz1 hk1 hS => ?_)
      obtain ⟨hP1, hK1, hD1⟩ := hB
      rw [ht] at hP1
      refine zTopi hw.symm ?_
      obtain ⟨hP, hD⟩ := va_join (wr := [(oX5 a5 h5 S5), (h5 3, .inl (y 1, 60, .inr (.inl (gB S5 3)))), (oX0 a0 h0 S0), (h0 2, .inl (y 1, 60, .inr (.inl (gB S0 2)))), (h0 3, .inl (y 0, 60, .inl (gA S0 3))), (h0 4, .inl (y 0, 60, .inl (gA S0 4))), (h0 5, .inl (y 0, 60, .inl (gA S0 5))), (h0 6, .inl (y 0, 60, .inl (gA S0 6))), (h0 7, .inl (y 0, 720, .inl (gA S0 7))), (h0 8, .inl (y 0, 60, .inl (gA S0 8))), (h0 9, .inl (y 0, 60, .inl (gA S0 9))), (h0 10, .inl (y 1, 60, .inr (.inl (gB S0 10)))), (h0 11, .inl (y 0, 60, .inl (gA S0 11))), (h0 12, .inl (y 0, 60, .inl (gA S0 12)))]) (w1 := []) hP hD [] [0, 1, 2, 3, 4, 5, 6, 7, 8, 9, 10, 11, 12, 13] rfl rfl (by decide) (by decide) hk1 hFc hP1 hD1
      have hP : va_P (dC, dI) vwCl ((cX5 a5 h5 y S5) ++ (cX0 a0 h0 y S0)) H26 := hP.sub [0, 1, 2, 3, 4, 5, 6, 7, 8, 9, 10, 11, 12, 13] rfl
      have hD : va_D A ((cX5 a5 h5 y S5) ++ (cX0 a0 h0 y S0)) := hD.sub [0, 1, 2, 3, 4, 5, 6, 7, 8, 9, 10, 11, 12, 13] (by decide) rfl
      refine lv_if_eq (tgt := 122) hx hb dX5_gateRow_110 (by decide) (fun c28 => ?_) (fun c28 => ?_)
      · have h := zY c28 h
        refine lv_lload hx hb dX5_gateRow_122 (lv_at hl 1 rfl) ?_
        have ho0 : v23 = or_ := congrArg (fun z : Int64 => z) (Option.some.inj h)
        exact W.lret (v := v23) hx hb hr (fun t ht hW => ⟨⟨v23, (), rfl, ho0, by rw [ht]; exact hP, va_K.moved hW.alike hK, hD⟩, hS.F ht⟩) hS.2.2 dX5_gateRow_124
      · have h := zN c28 h
        refine lv_lload hx hb dX5_gateRow_113 (lv_at hl 1 rfl) ?_
        refine lv_ldc2 hx hb hown (hts (.constantLong RX5 26 (-1)) (List.mem_of_getElem? (i := 3) rfl)) dX5_gateRow_115 ?_
        refine lv_lxor hx hb dX5_gateRow_118 ?_
        refine lv_goto (tgt := 124) hx hb dX5_gateRow_119 (by decide) ?_
        have ho0 : (v23 ^^^ (-1 : Int64)) = or_ := congrArg (fun z : Int64 => z) (Option.some.inj h)
        exact W.lret (v := (v23 ^^^ (-1 : Int64))) hx hb hr (fun t ht hW => ⟨⟨(v23 ^^^ (-1 : Int64)), (), rfl, ho0, by rw [ht]; exact hP, va_K.moved hW.alike hK, hD⟩, hS.F ht⟩) hS.2.2 dX5_gateRow_124
    have lp17 : ∀ (n : Nat) (v29 : Int64) (v30 : Int32) (HGW14 : Heap) (locs : List Loc) (ls : Array Slot), zI (b_X5_gateRow_70 S5 S0 p2 v2 r10) n (v29, v30) = some ov18 → va_P (dC, dI) vwCl ((cX5 a5 h5 y S5) ++ (cX0 a0 h0 y S0)) HGW14 → va_D A ((cX5 a5 h5 y S5) ++ (cX0 a0 h0 y S0)) → va_S A s.heap HGW14 locs → lv_has ls 8 [(6, .int r10), (3, .int v2), (0, .ref a5), (1, .ref a0), (2, .int p2), (4, .long v29), (7, .int v30)] → GW14 HGW14 locs 0 0 (F0 m 70 ls []) := by
      intro n
      induction n with
      | zero =>
        intro v29 v30 HGW14 locs ls hi19 hP hD hS hl
        exact (zI_0 hi19).elim
      | succ n ihlp17 =>
        intro v29 v30 HGW14 locs ls hi19 hP hD hS hl
        refine (eG15 _ _ _ _ _).mpr ?_
        obtain ⟨xx22, h, hx21⟩ := zI_spec hi19
        refine lv_iload hx hb dX5_gateRow_70 (lv_at hl 6 rfl) ?_
        refine lv_iload hx hb dX5_gateRow_72 (lv_at hl 0 rfl) ?_
        refine lv_icmp_ge (tgt := 106) hx hb dX5_gateRow_74 (by decide) (fun c31 => ?_) (fun c31 => ?_)
        · have h := zY c31 h
          exact (eG15 _ _ _ _ _).mp (je16 v29 _ _ _ (zI_r h hx21) hP hD hS (lv_sub hl [1, 5] rfl))
        · have h := zN c31 h
          refine lv_iload_n hx hb dX5_gateRow_77 rfl (lv_at hl 1 rfl) ?_
          refine lv_bipush (v := (-2)) hx hb dX5_gateRow_78 (by decide) ?_
          refine lv_iand hx hb dX5_gateRow_80 ?_
          refine lv_lload hx hb dX5_gateRow_81 (lv_at hl 5 rfl) ?_
          refine lv_aload_n hx hb dX5_gateRow_83 rfl (lv_at hl 2 rfl) ?_
          refine va_get (D := (dC, dI)) (ci := 4) (v := .ref (h5 3)) (C := RX5) (T := TX5) (N := 5) hx hb hts inX5_ hown hK hP 0 rfl rfl 3 (by decide) (hts (.fieldLink RX5 9 "GateWheel$Worlds" "rows" "[J") (List.mem_of_getElem? (i := 2) rfl)) (fun _ h9 => h9) rfl dX5_gateRow_84 ?_
          refine lv_aload_n hx hb dX5_gateRow_87 rfl (lv_at hl 3 rfl) ?_
          refine lv_iload_n hx hb dX5_gateRow_88 rfl (lv_at hl 4 rfl) ?_
          refine lv_iload hx hb dX5_gateRow_89 (lv_at hl 6 rfl) ?_
          obtain ⟨r32, hc33, h⟩ := zB_spec h
          have hPc := hP.sub (ws' := (cX0 a0 h0 y S0)) [2, 3, 4, 5, 6, 7, 8, 9, 10, 11, 12, 13] rfl
          have hDc := hD.sub (ws' := (cX0 a0 h0 y S0)) [2, 3, 4, 5, 6, 7, 8, 9, 10, 11, 12, 13] (by decide) rfl
          have hFc := va_free (wc := (cX0 a0 h0 y S0)) hD hS hA [2, 3, 4, 5, 6, 7, 8, 9, 10, 11, 12, 13] rfl
          refine va_calli (va_runV (As := [.int p2, .int v30]) (rest := [.ref (h5 3), .long v29, .int (v2 &&& (-2 : Int32))]) ⟨hx, hb, hml, hown, hts⟩ (m_X0_part l dC dI y a0 h0 S0 p2 v30 HGW14.size r32 hc33) (cwV 2 hts gX5_gateRow_X0_part rfl rfl rfl (by decide +kernel) ⟨Nat.le_of_ble_eq_true rfl, Nat.le_of_ble_eq_true rfl⟩) ⟨fun a U g mk q => by obtain ⟨q0, q1, qP, qK, qD⟩ := q; exact ⟨q0, q1, qP, va_K.moved (u := U) (U := U.calling g mk a) (Vm.Alike.refl U.vm) qK, qD⟩, va_recv hK hPc (ci := 0) (q0 := 0) rfl rfl, fun U hU hW => ⟨rfl, by rw [hU], by rw [hU]; exact hPc, va_K.moved hW.alike hK, hDc.weaken (fun _ _ _ _ => trivial)⟩⟩ rfl rfl hl.1 rfl (lv_room (Nat.le_of_ble_eq_true rfl)) dX5_gateRow_91 ⟨Nat.le_of_ble_eq_true rfl, Nat.le_of_ble_eq_true rfl⟩) hS (fun q _ h => hFc q h) hFc (fun rr35 u t H34 locs ht hvm hw hB hz1 hk1 hS => ?_)
          obtain ⟨hP1, hK1, hD1⟩ := hB
          rw [ht] at hP1
          refine zTopi hw.symm ?_
          obtain ⟨hP, hD⟩ := va_join (wr := [(oX5 a5 h5 S5), (h5 3, .inl (y 1, 60, .inr (.inl (gB S5 3))))]) (w1 := (cX0 a0 h0 y S0)) hP hD [2, 3, 4, 5, 6, 7, 8, 9, 10, 11, 12, 13] [0, 1] rfl rfl (by decide) (by decide) hk1 hFc hP1 hD1
          have hP : va_P (dC, dI) vwCl ((cX5 a5 h5 y S5) ++ (cX0 a0 h0 y S0)) H34 := hP.sub [0, 1, 2, 3, 4, 5, 6, 7, 8, 9, 10, 11, 12, 13] rfl
          have hD : va_D A ((cX5 a5 h5 y S5) ++ (cX0 a0 h0 y S0)) := hD.sub [0, 1, 2, 3, 4, 5, 6, 7, 8, 9, 10, 11, 12, 13] (by decide) rfl
          obtain ⟨hi36, h⟩ := zG_spec h
          refine va_lald hx hb hK hP 1 1 rfl rfl hi36 dX5_gateRow_94 ?_
          obtain ⟨r37, hc38, h⟩ := zB_spec h
          have hPc := hP.sub (ws' := []) [] rfl
          have hDc := hD.sub (ws' := []) [] (by decide) rfl
          have hFc := va_free (wc := []) hD hS hA [] rfl
          refine va_calll (va_runS (As := [.int (v2 &&& (-2 : Int32)), .long v29, .long (gB S5 3 r32.toNatClampNeg)]) (rest := []) ⟨hx, hb, hml, hown, hts⟩ (m_X5_join l dC dI y (v2 &&& (-2 : Int32)) v29 (gB S5 3 r32.toNatClampNeg) H34.size r37 hc38) (va_cwS 3 hts gX5_gateRow_X5_join rfl rfl rfl (by decide +kernel) ⟨Nat.le_of_ble_eq_true rfl, Nat.le_of_ble_eq_true rfl⟩) ⟨fun a U g mk q => by obtain ⟨q0, q1, qP, qK, qD⟩ := q; exact ⟨q0, q1, qP, va_K.moved (u := U) (U := U.calling g mk a) (Vm.Alike.refl U.vm) qK, qD⟩, fun U hU hW => ⟨rfl, by rw [hU], by rw [hU]; exact hPc, va_K.moved hW.alike hK, hDc.weaken (fun _ _ _ _ => trivial)⟩⟩ rfl rfl hl.1 rfl (lv_room (Nat.le_of_ble_eq_true rfl)) dX5_gateRow_95 ⟨Nat.le_of_ble_eq_true rfl, Nat.le_of_ble_eq_true rfl⟩) hS (fun q _ h => hFc q h) hFc (fun rr40 u t H39 locs ht hvm hw hB hz1 hk1 hS => ?_)
          obtain ⟨hP1, hK1, hD1⟩ := hB
          rw [ht] at hP1
          refine zTopl hw.symm ?_
          obtain ⟨hP, hD⟩ := va_join (wr := [(oX5 a5 h5 S5), (h5 3, .inl (y 1, 60, .inr (.inl (gB S5 3)))), (oX0 a0 h0 S0), (h0 2, .inl (y 1, 60, .inr (.inl (gB S0 2)))), (h0 3, .inl (y 0, 60, .inl (gA S0 3))), (h0 4, .inl (y 0, 60, .inl (gA S0 4))), (h0 5, .inl (y 0, 60, .inl (gA S0 5))), (h0 6, .inl (y 0, 60, .inl (gA S0 6))), (h0 7, .inl (y 0, 720, .inl (gA S0 7))), (h0 8, .inl (y 0, 60, .inl (gA S0 8))), (h0 9, .inl (y 0, 60, .inl (gA S0 9))), (h0 10, .inl (y 1, 60, .inr (.inl (gB S0 10)))), (h0 11, .inl (y 0, 60, .inl (gA S0 11))), (h0 12, .inl (y 0, 60, .inl (gA S0 12)))]) (w1 := []) hP hD [] [0, 1, 2, 3, 4, 5, 6, 7, 8, 9, 10, 11, 12, 13] rfl rfl (by decide) (by decide) hk1 hFc hP1 hD1
          have hP : va_P (dC, dI) vwCl ((cX5 a5 h5 y S5) ++ (cX0 a0 h0 y S0)) H39 := hP.sub [0, 1, 2, 3, 4, 5, 6, 7, 8, 9, 10, 11, 12, 13] rfl
          have hD : va_D A ((cX5 a5 h5 y S5) ++ (cX0 a0 h0 y S0)) := hD.sub [0, 1, 2, 3, 4, 5, 6, 7, 8, 9, 10, 11, 12, 13] (by decide) rfl
          refine lv_lstore (lv' := [(4, .long r37), (6, .int r10), (3, .int v2), (0, .ref a5), (1, .ref a0), (2, .int p2), (7, .int v30)]) hx hb dX5_gateRow_98 hl (by decide) rfl (fun ls hl => ?_)
          obtain ⟨v41, ev41, h⟩ := zL_spec h
          refine lv_iinc (v := v41) (lv' := [(7, .int v41), (4, .long r37), (6, .int r10), (3, .int v2), (0, .ref a5), (1, .ref a0), (2, .int p2)]) hx hb dX5_gateRow_100 hl (k := 6) rfl (by rw [ev41]; rfl) (by decide) rfl (fun ls hl => ?_)
          refine lv_goto (tgt := 70) hx hb dX5_gateRow_103 (by decide) ?_
          have h := zI_l h hx21
          exact (eG15 _ _ _ _ _).mp (ihlp17 r37 v41 _ _ _ h hP hD hS (lv_sub hl [2, 3, 4, 5, 6, 1, 0] rfl))
    exact lp17 zF v8 (1 : Int32) _ _ _ hi19 hP hD hS (lv_sub hl [1, 3, 4, 5, 6, 2, 0] rfl)
  · have h := zY c9 h
    refine lv_lload hx hb dX5_gateRow_26 (lv_at hl 0 rfl) ?_
    refine lv_ldc2 hx hb hown (hts (.constantLong RX5 26 (-1)) (List.mem_of_getElem? (i := 3) rfl)) dX5_gateRow_28 ?_
    refine lv_lxor hx hb dX5_gateRow_31 ?_
    refine lv_aload_n hx hb dX5_gateRow_32 rfl (lv_at hl 2 rfl) ?_
    refine va_get (D := (dC, dI)) (ci := 4) (v := .ref (h5 3)) (C := RX5) (T := TX5) (N := 5) hx hb hts inX5_ hown hK hP 0 rfl rfl 3 (by decide) (hts (.fieldLink RX5 9 "GateWheel$Worlds" "rows" "[J") (List.mem_of_getElem? (i := 2) rfl)) (fun _ h9 => h9) rfl dX5_gateRow_33 ?_
    refine lv_aload_n hx hb dX5_gateRow_36 rfl (lv_at hl 3 rfl) ?_
    refine lv_iload_n hx hb dX5_gateRow_37 rfl (lv_at hl 4 rfl) ?_
    refine lv_iconst (v := 1) hx hb dX5_gateRow_38 (by decide) ?_
    obtain ⟨r42, hc43, h⟩ := zB_spec h
    have hPc := hP.sub (ws' := (cX0 a0 h0 y S0)) [2, 3, 4, 5, 6, 7, 8, 9, 10, 11, 12, 13] rfl
    have hDc := hD.sub (ws' := (cX0 a0 h0 y S0)) [2, 3, 4, 5, 6, 7, 8, 9, 10, 11, 12, 13] (by decide) rfl
    have hFc := va_free (wc := (cX0 a0 h0 y S0)) hD hS hA [2, 3, 4, 5, 6, 7, 8, 9, 10, 11, 12, 13] rfl
    refine va_calli (va_runV (As := [.int p2, .int 1]) (rest := [.ref (h5 3), .long (v8 ^^^ (-1 : Int64))]) ⟨hx, hb, hml, hown, hts⟩ (m_X0_part l dC dI y a0 h0 S0 p2 (1 : Int32) H5.size r42 hc43) (cwV 2 hts gX5_gateRow_X0_part rfl rfl rfl (by decide +kernel) ⟨Nat.le_of_ble_eq_true rfl, Nat.le_of_ble_eq_true rfl⟩) ⟨fun a U g mk q => by obtain ⟨q0, q1, qP, qK, qD⟩ := q; exact ⟨q0, q1, qP, va_K.moved (u := U) (U := U.calling g mk a) (Vm.Alike.refl U.vm) qK, qD⟩, va_recv hK hPc (ci := 0) (q0 := 0) rfl rfl, fun U hU hW => ⟨rfl, by rw [hU], by rw [hU]; exact hPc, va_K.moved hW.alike hK, hDc.weaken (fun _ _ _ _ => trivial)⟩⟩ rfl rfl hl.1 rfl (lv_room (Nat.le_of_ble_eq_true rfl)) dX5_gateRow_39 ⟨Nat.le_of_ble_eq_true rfl, Nat.le_of_ble_eq_true rfl⟩) hS (fun q _ h => hFc q h) hFc (fun rr45 u t H44 locs ht hvm hw hB hz1 hk1 hS => ?_)
    obtain ⟨hP1, hK1, hD1⟩ := hB
    rw [ht] at hP1
    refine zTopi hw.symm ?_
    obtain ⟨hP, hD⟩ := va_join (wr := [(oX5 a5 h5 S5), (h5 3, .inl (y 1, 60, .inr (.inl (gB S5 3))))]) (w1 := (cX0 a0 h0 y S0)) hP hD [2, 3, 4, 5, 6, 7, 8, 9, 10, 11, 12, 13] [0, 1] rfl rfl (by decide) (by decide) hk1 hFc hP1 hD1
    have hP : va_P (dC, dI) vwCl ((cX5 a5 h5 y S5) ++ (cX0 a0 h0 y S0)) H44 := hP.sub [0, 1, 2, 3, 4, 5, 6, 7, 8, 9, 10, 11, 12, 13] rfl
    have hD : va_D A ((cX5 a5 h5 y S5) ++ (cX0 a0 h0 y S0)) := hD.sub [0, 1, 2, 3, 4, 5, 6, 7, 8, 9, 10, 11, 12, 13] (by decide) rfl
    obtain ⟨hi46, h⟩ := zG_spec h
    refine va_lald hx hb hK hP 1 1 rfl rfl hi46 dX5_gateRow_42 ?_
    refine lv_land hx hb dX5_gateRow_43 ?_
    refine lv_lload hx hb dX5_gateRow_44 (lv_at hl 0 rfl) ?_
    refine lv_aload_n hx hb dX5_gateRow_46 rfl (lv_at hl 2 rfl) ?_
    refine va_get (D := (dC, dI)) (ci := 4) (v := .ref (h5 3)) (C := RX5) (T := TX5) (N := 5) hx hb hts inX5_ hown hK hP 0 rfl rfl 3 (by decide) (hts (.fieldLink RX5 9 "GateWheel$Worlds" "rows" "[J") (List.mem_of_getElem? (i := 2) rfl)) (fun _ h9 => h9) rfl dX5_gateRow_47 ?_
    refine lv_aload_n hx hb dX5_gateRow_50 rfl (lv_at hl 3 rfl) ?_
    refine lv_iload_n hx hb dX5_gateRow_51 rfl (lv_at hl 4 rfl) ?_
    refine lv_iconst (v := 2) hx hb dX5_gateRow_52 (by decide) ?_
    obtain ⟨r47, hc48, h⟩ := zB_spec h
    have hPc := hP.sub (ws' := (cX0 a0 h0 y S0)) [2, 3, 4, 5, 6, 7, 8, 9, 10, 11, 12, 13] rfl
    have hDc := hD.sub (ws' := (cX0 a0 h0 y S0)) [2, 3, 4, 5, 6, 7, 8, 9, 10, 11, 12, 13] (by decide) rfl
    have hFc := va_free (wc := (cX0 a0 h0 y S0)) hD hS hA [2, 3, 4, 5, 6, 7, 8, 9, 10, 11, 12, 13] rfl
    refine va_calli (va_runV (As := [.int p2, .int 2]) (rest := [.ref (h5 3), .long v8, .long ((v8 ^^^ (-1 : Int64)) &&& (gB S5 3 r42.toNatClampNeg))]) ⟨hx, hb, hml, hown, hts⟩ (m_X0_part l dC dI y a0 h0 S0 p2 (2 : Int32) H44.size r47 hc48) (cwV 2 hts gX5_gateRow_X0_part rfl rfl rfl (by decide +kernel) ⟨Nat.le_of_ble_eq_true rfl, Nat.le_of_ble_eq_true rfl⟩) ⟨fun a U g mk q => by obtain ⟨q0, q1, qP, qK, qD⟩ := q; exact ⟨q0, q1, qP, va_K.moved (u := U) (U := U.calling g mk a) (Vm.Alike.refl U.vm) qK, qD⟩, va_recv hK hPc (ci := 0) (q0 := 0) rfl rfl, fun U hU hW => ⟨rfl, by rw [hU], by rw [hU]; exact hPc, va_K.moved hW.alike hK, hDc.weaken (fun _ _ _ _ => trivial)⟩⟩ rfl rfl hl.1 rfl (lv_room (Nat.le_of_ble_eq_true rfl)) dX5_gateRow_53 ⟨Nat.le_of_ble_eq_true rfl, Nat.le_of_ble_eq_true rfl⟩) hS (fun q _ h => hFc q h) hFc (fun rr50 u t H49 locs ht hvm hw hB hz1 hk1 hS => ?_)
    obtain ⟨hP1, hK1, hD1⟩ := hB
    rw [ht] at hP1
    refine zTopi hw.symm ?_
    obtain ⟨hP, hD⟩ := va_join (wr := [(oX5 a5 h5 S5), (h5 3, .inl (y 1, 60, .inr (.inl (gB S5 3))))]) (w1 := (cX0 a0 h0 y S0)) hP hD [2, 3, 4, 5, 6, 7, 8, 9, 10, 11, 12, 13] [0, 1] rfl rfl (by decide) (by decide) hk1 hFc hP1 hD1
    have hP : va_P (dC, dI) vwCl ((cX5 a5 h5 y S5) ++ (cX0 a0 h0 y S0)) H49 := hP.sub [0, 1, 2, 3, 4, 5, 6, 7, 8, 9, 10, 11, 12, 13] rfl
    have hD : va_D A ((cX5 a5 h5 y S5) ++ (cX0 a0 h0 y S0)) := hD.sub [0, 1, 2, 3, 4, 5, 6, 7, 8, 9, 10, 11, 12, 13] (by decide) rfl
    obtain ⟨hi51, h⟩ := zG_spec h
    refine va_lald hx hb hK hP 1 1 rfl rfl hi51 dX5_gateRow_56 ?_
    refine lv_land hx hb dX5_gateRow_57 ?_
    refine lv_lor hx hb dX5_gateRow_58 ?_
    have ho0 : (((v8 ^^^ (-1 : Int64)) &&& (gB S5 3 r42.toNatClampNeg)) ||| (v8 &&& (gB S5 3 r47.toNatClampNeg))) = or_ := congrArg (fun z : Int64 => z) (Option.some.inj h)
    exact W.lret (v := (((v8 ^^^ (-1 : Int64)) &&& (gB S5 3 r42.toNatClampNeg)) ||| (v8 &&& (gB S5 3 r47.toNatClampNeg)))) hx hb hr (fun t ht hW => ⟨⟨(((v8 ^^^ (-1 : Int64)) &&& (gB S5 3 r42.toNatClampNeg)) ||| (v8 &&& (gB S5 3 r47.toNatClampNeg))), (), rfl, ho0, by rw [ht]; exact hP, va_K.moved hW.alike hK, hD⟩, hS.F ht⟩) hS.2.2 dX5_gateRow_59

set_option maxHeartbeats 4000000 in
set_option maxRecDepth 100000 in
theorem m_X5_busRow (l : Launch) (dC : Nat → ClassId) (dI : Nat → Nat → Nat) (y : Nat → ClassId) (a5 : Nat) (h5 : Nat → Nat) (S5 : SS) (a0 : Nat) (h0 : Nat → Nat) (S0 : SS) (p2 : Int32) (sz : Nat) (or_ : Int64) (o_5 : SS) (h : f_X5_busRow S5 S0 p2 = some (or_, o_5)) : Met l yX5_busRow wsX5_busRow ({ frames := 1, cells := 0, slots := 0, locals := 22 }) (va_Pc [.ref a5, .ref a0, .int p2] (fun U => U.heap.size = sz ∧ va_P (dC, dI) vwCl ((cX5 a5 h5 y S5) ++ (cX0 a0 h0 y S0)) U.heap ∧ va_K (dC, dI) vwCl [(y 0, .int), (y 1, .long), (y 2, .byte), (y 3, .boolean)] U ∧ va_D (fun _ => True) ((cX5 a5 h5 y S5) ++ (cX0 a0 h0 y S0)))) (va_Ql (fun (r : Int64) (_ : Unit) => r = or_) (fun (_ : Unit) (t : State) => va_P (dC, dI) vwCl ((cX5 a5 h5 y o_5) ++ (cX0 a0 h0 y S0)) t.heap ∧ va_K (dC, dI) vwCl [(y 0, .int), (y 1, .long), (y 2, .byte), (y 3, .boolean)] t ∧ va_D (va_A ((cX5 a5 h5 y S5) ++ (cX0 a0 h0 y S0)) sz) ((cX5 a5 h5 y o_5) ++ (cX0 a0 h0 y S0))) (va_A ((cX5 a5 h5 y S5) ++ (cX0 a0 h0 y S0)) sz)) 0 0 (va_A ((cX5 a5 h5 y S5) ++ (cX0 a0 h0 y S0)) sz) := by
  refine Met.ofW (cc := cX5_busRow) (maxL := 15) (ret := (some .long)) (by decide +kernel) rfl ?_
  intro p e s m args below meth c s₁ B hml hv
  obtain ⟨rfl, hsz, hP, hK, hD0⟩ := hv
  have hx := B.exec
  have hb := B.bytes
  have hr := B.returns
  have hts := atoms_spec (ws := wsX5_busRow) B.pre
  have hown : s.vm.findClass RX5 = some m.cls := findClass_of_methodNamed B.named
  have hlocks := B.notSynchronized
  have inX5_ : ∀ w ∈ wsX50, w ∈ wsX5_busRow := fun _ h => List.mem_cons_of_mem _ (List.mem_append_left _ (List.mem_append_right _ h))
  subst hsz
  have hD := hD0.self (sz := s.heap.size)
  generalize hAe : va_A ((cX5 a5 h5 y S5) ++ (cX0 a0 h0 y S0)) s.heap.size = A at hD ⊢
  have hA : ∀ q : Nat, s.heap.size ≤ q → A q := fun q h => by rw [← hAe]; exact Or.inr h
  have hS : va_S A s.heap s.heap [] := va_S.rf
  have hP : va_P (dC, dI) vwCl ((cX5 a5 h5 y S5) ++ (cX0 a0 h0 y S0)) s.heap := hP
  have hl := lv_entry ([.ref a5, .ref a0, .int p2]) (n := 15) (Nat.le_of_ble_eq_true rfl)
  rw [lg_entry_eq]
  generalize (lg_sl ([.ref a5, .ref a0, .int p2]) ++ List.replicate (15 - (lg_sl ([.ref a5, .ref a0, .int p2])).length) Slot.unset).toArray = ls at hl ⊢
  have hl : lv_has ls 15 [(0, .ref a5), (1, .ref a0), (2, .int p2)] := hl
  refine lv_lconst (v := 0) hx hb dX5_busRow_0 (by decide) ?_
  refine lv_lstore_n (lv' := [(3, .long 0), (0, .ref a5), (1, .ref a0), (2, .int p2)]) hx hb dX5_busRow_1 rfl hl (by decide) rfl (fun ls hl => ?_)
  refine lv_lconst (v := 0) hx hb dX5_busRow_2 (by decide) ?_
  refine lv_lstore (lv' := [(5, .long 0), (3, .long 0), (0, .ref a5), (1, .ref a0), (2, .int p2)]) hx hb dX5_busRow_3 hl (by decide) rfl (fun ls hl => ?_)
  refine lv_lconst (v := 0) hx hb dX5_busRow_5 (by decide) ?_
  refine lv_lstore (lv' := [(7, .long 0), (5, .long 0), (3, .long 0), (0, .ref a5), (1, .ref a0), (2, .int p2)]) hx hb dX5_busRow_6 hl (by decide) rfl (fun ls hl => ?_)
  refine lv_aload_n hx hb dX5_busRow_8 rfl (lv_at hl 4 rfl) ?_
  refine lv_iload_n hx hb dX5_busRow_9 rfl (lv_at hl 5 rfl) ?_
  obtain ⟨r1, hc2, h⟩ := zB_spec h
  have hPc := hP.sub (ws' := (cX0 a0 h0 y S0)) [2, 3, 4, 5, 6, 7, 8, 9, 10, 11, 12, 13] rfl
  have hDc := hD.sub (ws' := (cX0 a0 h0 y S0)) [2, 3, 4, 5, 6, 7, 8, 9, 10, 11, 12, 13] (by decide) rfl
  have hFc := va_free (wc := (cX0 a0 h0 y S0)) hD hS hA [2, 3, 4, 5, 6, 7, 8, 9, 10, 11, 12, 13] rfl
  refine va_calli (va_runV (As := [.int p2]) (rest := []) ⟨hx, hb, hml, hown, hts⟩ (m_X0_size l dC dI y a0 h0 S0 p2 s.heap.size r1 hc2) (cwV 1 hts gX5_busRow_X0_size rfl rfl rfl (by decide +kernel) ⟨Nat.le_of_ble_eq_true rfl, Nat.le_of_ble_eq_true rfl⟩) ⟨fun a U g mk q => by obtain ⟨q0, q1, qP, qK, qD⟩ := q; exact ⟨q0, q1, qP, va_K.moved (u := U) (U := U.calling g mk a) (Vm.Alike.refl U.vm) qK, qD⟩, va_recv hK hPc (ci := 0) (q0 := 0) rfl rfl, fun U hU hW => ⟨rfl, by rw [hU], by rw [hU]; exact hPc, va_K.moved hW.alike hK, hDc.weaken (fun _ _ _ _ => trivial)⟩⟩ rfl rfl hl.1 rfl (lv_room (Nat.le_of_ble_eq_true rfl)) dX5_busRow_10 ⟨Nat.le_of_ble_eq_true rfl, Nat.le_of_ble_eq_true rfl⟩) hS (fun q _ h => hFc q h) hFc (fun rr4 u t H3 locs ht hvm hw hB hz1 hk1 hS => ?_)
  obtain ⟨hP1, hK1, hD1⟩ := hB
  rw [ht] at hP1
  refine zTopi hw.symm ?_
  obtain ⟨hP, hD⟩ := va_join (wr := [(oX5 a5 h5 S5), (h5 3, .inl (y 1, 60, .inr (.inl (gB S5 3))))]) (w1 := (cX0 a0 h0 y S0)) hP hD [2, 3, 4, 5, 6, 7, 8, 9, 10, 11, 12, 13] [0, 1] rfl rfl (by decide) (by decide) hk1 hFc hP1 hD1
  have hP : va_P (dC, dI) vwCl ((cX5 a5 h5 y S5) ++ (cX0 a0 h0 y S0)) H3 := hP.sub [0, 1, 2, 3, 4, 5, 6, 7, 8, 9, 10, 11, 12, 13] rfl
  have hD : va_D A ((cX5 a5 h5 y S5) ++ (cX0 a0 h0 y S0)) := hD.sub [0, 1, 2, 3, 4, 5, 6, 7, 8, 9, 10, 11, 12, 13] (by decide) rfl
  refine lv_istore (lv' := [(9, .int r1), (7, .long 0), (5, .long 0), (3, .long 0), (0, .ref a5), (1, .ref a0), (2, .int p2)]) hx hb dX5_busRow_13 hl (by decide) rfl (fun ls hl => ?_)
  refine lv_iconst (v := 0) hx hb dX5_busRow_15 (by decide) ?_
  refine lv_istore (lv' := [(10, .int 0), (9, .int r1), (7, .long 0), (5, .long 0), (3, .long 0), (0, .ref a5), (1, .ref a0), (2, .int p2)]) hx hb dX5_busRow_16 hl (by decide) rfl (fun ls hl => ?_)
  refine W_abs (fun GW5 eG6 => ?_)
  obtain ⟨ov9, hi10, h⟩ := zB_spec h
  have je7 : ∀ (v14 : Int64) (v15 : Int64) (v16 : Int64) (HGW5e : Heap) (locs : List Loc) (ls : Array Slot), (v14, v15, v16) = ov9 → va_P (dC, dI) vwCl ((cX5 a5 h5 y S5) ++ (cX0 a0 h0 y S0)) HGW5e → va_D A ((cX5 a5 h5 y S5) ++ (cX0 a0 h0 y S0)) → va_S A s.heap HGW5e locs → lv_has ls 15 [(0, .ref a5), (3, .long v14), (5, .long v15), (7, .long v16)] → GW5 HGW5e locs 0 0 (F0 m 109 ls []) := by
    intro v14 v15 v16 HGW5e locs ls hv hP hD hS hl
    subst hv
    refine (eG6 _ _ _ _ _).mpr ?_
    refine lv_aload_n hx hb dX5_busRow_109 rfl (lv_at hl 0 rfl) ?_
    refine lv_dup hx hb dX5_busRow_110 rfl ?_
    refine va_get (D := (dC, dI)) (ci := 4) (v := .long (gL S5 4)) (C := RX5) (T := TX5) (N := 5) hx hb hts inX5_ hown hK hP 0 rfl rfl 4 (by decide) (hts (.fieldLink RX5 28 "GateWheel$Worlds" "legalHere" "J") (List.mem_of_getElem? (i := 3) rfl)) (fun _ h9 => h9) rfl dX5_busRow_111 ?_
    refine lv_lload hx hb dX5_busRow_114 (lv_at hl 2 rfl) ?_
    refine lv_lload hx hb dX5_busRow_116 (lv_at hl 3 rfl) ?_
    refine lv_ldc2 hx hb hown (hts (.constantLong RX5 26 (-1)) (List.mem_of_getElem? (i := 2) rfl)) dX5_busRow_118 ?_
    refine lv_lxor hx hb dX5_busRow_121 ?_
    refine lv_land hx hb dX5_busRow_122 ?_
    refine lv_land hx hb dX5_busRow_123 ?_
    refine va_put (D := (dC, dI)) (ci := 4) (v := .long ((gL S5 4) &&& (v15 &&& (v16 ^^^ (-1 : Int64))))) (ty := .long) (C := RX5) (T := TX5) (N := 5) hx hb hts inX5_ tyX5 tyX5_ok nmX5 hown hK hP hD hS 0 rfl rfl 4 (by decide) (hts (.fieldLink RX5 28 "GateWheel$Worlds" "legalHere" "J") (List.mem_of_getElem? (i := 3) rfl)) (fun _ h9 => h9) rfl (by decide +kernel) rfl rfl (Nat.le_of_ble_eq_true rfl) dX5_busRow_124 (fun H17 locs hP hD hS => ?_)
    obtain ⟨s5_18, es5_18, h⟩ := zL_spec h
    have hP : va_P (dC, dI) vwCl ((cX5 a5 h5 y s5_18) ++ (cX0 a0 h0 y S0)) H17 := by rw [es5_18]; exact hP
    have hD : va_D A ((cX5 a5 h5 y s5_18) ++ (cX0 a0 h0 y S0)) := by rw [es5_18]; exact hD
    refine lv_lload_n hx hb dX5_busRow_127 rfl (lv_at hl 1 rfl) ?_
    have ho0 : v14 = or_ := congrArg (fun z : Int64 × SS => z.1) (Option.some.inj h)
    have ho1 : s5_18 = o_5 := congrArg (fun z : Int64 × SS => z.2) (Option.some.inj h)
    exact W.lret (v := v14) hx hb hr (fun t ht hW => ⟨⟨v14, (), rfl, ho0, by rw [ht]; rw [← ho1]; exact hP, va_K.moved hW.alike hK, by rw [← ho1]; exact hD⟩, hS.F ht⟩) hS.2.2 dX5_busRow_128
  have lp8 : ∀ (n : Nat) (v19 : Int64) (v20 : Int64) (v21 : Int64) (v22 : Int32) (HGW5 : Heap) (locs : List Loc) (ls : Array Slot), zI (b_X5_busRow_18 S5 S0 p2 r1) n (v19, v20, v21, v22) = some ov9 → va_P (dC, dI) vwCl ((cX5 a5 h5 y S5) ++ (cX0 a0 h0 y S0)) HGW5 → va_D A ((cX5 a5 h5 y S5) ++ (cX0 a0 h0 y S0)) → va_S A s.heap HGW5 locs → lv_has ls 15 [(9, .int r1), (0, .ref a5), (1, .ref a0), (2, .int p2), (3, .long v19), (5, .long v20), (7, .long v21), (10, .int v22)] → GW5 HGW5 locs 0 0 (F0 m 18 ls []) := by
    intro n
    induction n with
    | zero =>
      intro v19 v20 v21 v22 HGW5 locs ls hi10 hP hD hS hl
      exact (zI_0 hi10).elim
    | succ n ihlp8 =>
      intro v19 v20 v21 v22 HGW5 locs ls hi10 hP hD hS hl
      refine (eG6 _ _ _ _ _).mpr ?_
      obtain ⟨xx13, h, hx12⟩ := zI_spec hi10
      refine lv_iload hx hb dX5_busRow_18 (lv_at hl 7 rfl) ?_
      refine lv_iload hx hb dX5_busRow_20 (lv_at hl 0 rfl) ?_
      refine lv_icmp_ge (tgt := 109) hx hb dX5_busRow_22 (by decide) (fun c23 => ?_) (fun c23 => ?_)
      · have h := zY c23 h
        exact (eG6 _ _ _ _ _).mp (je7 v19 v20 v21 _ _ _ (zI_r h hx12) hP hD hS (lv_sub hl [1, 4, 5, 6] rfl))
      · have h := zN c23 h
        refine lv_aload_n hx hb dX5_busRow_25 rfl (lv_at hl 1 rfl) ?_
        refine va_get (D := (dC, dI)) (ci := 4) (v := .ref (h5 3)) (C := RX5) (T := TX5) (N := 5) hx hb hts inX5_ hown hK hP 0 rfl rfl 3 (by decide) (hts (.fieldLink RX5 9 "GateWheel$Worlds" "rows" "[J") (List.mem_of_getElem? (i := 1) rfl)) (fun _ h9 => h9) rfl dX5_busRow_26 ?_
        refine lv_aload_n hx hb dX5_busRow_29 rfl (lv_at hl 2 rfl) ?_
        refine lv_iload_n hx hb dX5_busRow_30 rfl (lv_at hl 3 rfl) ?_
        refine lv_iconst (v := 2) hx hb dX5_busRow_31 (by decide) ?_
        refine lv_iload hx hb dX5_busRow_32 (lv_at hl 7 rfl) ?_
        refine lv_imul hx hb dX5_busRow_34 ?_
        refine lv_iconst (v := 1) hx hb dX5_busRow_35 (by decide) ?_
        refine lv_iadd hx hb dX5_busRow_36 ?_
        obtain ⟨r24, hc25, h⟩ := zB_spec h
        have hPc := hP.sub (ws' := (cX0 a0 h0 y S0)) [2, 3, 4, 5, 6, 7, 8, 9, 10, 11, 12, 13] rfl
        have hDc := hD.sub (ws' := (cX0 a0 h0 y S0)) [2, 3, 4, 5, 6, 7, 8, 9, 10, 11, 12, 13] (by decide) rfl
        have hFc := va_free (wc := (cX0 a0 h0 y S0)) hD hS hA [2, 3, 4, 5, 6, 7, 8, 9, 10, 11, 12, 13] rfl
        refine va_calli (va_runV (As := [.int p2, .int (((2 : Int32) * v22) + (1 : Int32))]) (rest := [.ref (h5 3)]) ⟨hx, hb, hml, hown, hts⟩ (m_X0_part l dC dI y a0 h0 S0 p2 (((2 : Int32) * v22) + (1 : Int32)) HGW5.size r24 hc25) (cwV 2 hts gX5_busRow_X0_part rfl rfl rfl (by decide +kernel) ⟨Nat.le_of_ble_eq_true rfl, Nat.le_of_ble_eq_true rfl⟩) ⟨fun a U g mk q => by obtain ⟨q0, q1, qP, qK, qD⟩ := q; exact ⟨q0, q1, qP, va_K.moved (u := U) (U := U.calling g mk a) (Vm.Alike.refl U.vm) qK, qD⟩, va_recv hK hPc (ci := 0) (q0 := 0) rfl rfl, fun U hU hW => ⟨rfl, by rw [hU], by rw [hU]; exact hPc, va_K.moved hW.alike hK, hDc.weaken (fun _ _ _ _ => trivial)⟩⟩ rfl rfl hl.1 rfl (lv_room (Nat.le_of_ble_eq_true rfl)) dX5_busRow_37 ⟨Nat.le_of_ble_eq_true rfl, Nat.le_of_ble_eq_true rfl⟩) hS (fun q _ h => hFc q h) hFc (fun rr27 u t H26 locs ht hvm hw hB hz1 hk1 hS => ?_)
        obtain ⟨hP1, hK1, hD1⟩ := hB
        rw [ht] at hP1
        refine zTopi hw.symm ?_
        obtain ⟨hP, hD⟩ := va_join (wr := [(oX5 a5 h5 S5), (h5 3, .inl (y 1, 60, .inr (.inl (gB S5 3))))]) (w1 := (cX0 a0 h0 y S0)) hP hD [2, 3, 4, 5, 6, 7, 8, 9, 10, 11, 12, 13] [0, 1] rfl rfl (by decide) (by decide) hk1 hFc hP1 hD1
        have hP : va_P (dC, dI) vwCl ((cX5 a5 h5 y S5) ++ (cX0 a0 h0 y S0)) H26 := hP.sub [0, 1, 2, 3, 4, 5, 6, 7, 8, 9, 10, 11, 12, 13] rfl
        have hD : va_D A ((cX5 a5 h5 y S5) ++ (cX0 a0 h0 y S0)) := hD.sub [0, 1, 2, 3, 4, 5, 6, 7, 8, 9, 10, 11, 12, 13] (by decide) rfl
        obtain ⟨hi28, h⟩ := zG_spec h
        refine va_lald hx hb hK hP 1 1 rfl rfl hi28 dX5_busRow_40 ?_
        obtain ⟨v29, ev29, h⟩ := zL_spec h
        refine zTopl ev29 ?_
        refine lv_lstore (lv' := [(11, .long v29), (9, .int r1), (0, .ref a5), (1, .ref a0), (2, .int p2), (3, .long v19), (5, .long v20), (7, .long v21), (10, .int v22)]) hx hb dX5_busRow_41 hl (by decide) rfl (fun ls hl => ?_)
        refine lv_aload_n hx hb dX5_busRow_43 rfl (lv_at hl 3 rfl) ?_
        refine lv_iload_n hx hb dX5_busRow_44 rfl (lv_at hl 4 rfl) ?_
        refine lv_iload hx hb dX5_busRow_45 (lv_at hl 8 rfl) ?_
        obtain ⟨r30, hc31, h⟩ := zB_spec h
        have hPc := hP.sub (ws' := (cX0 a0 h0 y S0)) [2, 3, 4, 5, 6, 7, 8, 9, 10, 11, 12, 13] rfl
        have hDc := hD.sub (ws' := (cX0 a0 h0 y S0)) [2, 3, 4, 5, 6, 7, 8, 9, 10, 11, 12, 13] (by decide) rfl
        have hFc := va_free (wc := (cX0 a0 h0 y S0)) hD hS hA [2, 3, 4, 5, 6, 7, 8, 9, 10, 11, 12, 13] rfl
        refine va_calli (va_runV (As := [.int p2, .int v22]) (rest := []) ⟨hx, hb, hml, hown, hts⟩ (m_X0_isLow l dC dI y a0 h0 S0 p2 v22 H26.size r30 hc31) (cwV 2 hts gX5_busRow_X0_isLow rfl rfl rfl (by decide +kernel) ⟨Nat.le_of_ble_eq_true rfl, Nat.le_of_ble_eq_true rfl⟩) ⟨fun a U g mk q => by obtain ⟨q0, q1, qP, qK, qD⟩ := q; exact ⟨q0, q1, qP, va_K.moved (u := U) (U := U.calling g mk a) (Vm.Alike.refl U.vm) qK, qD⟩, va_recv hK hPc (ci := 0) (q0 := 0) rfl rfl, fun U hU hW => ⟨rfl, by rw [hU], by rw [hU]; exact hPc, va_K.moved hW.alike hK, hDc.weaken (fun _ _ _ _ => trivial)⟩⟩ rfl rfl hl.1 rfl (lv_room (Nat.le_of_ble_eq_true rfl)) dX5_busRow_47 ⟨Nat.le_of_ble_eq_true rfl, Nat.le_of_ble_eq_true rfl⟩) hS (fun q _ h => hFc q h) hFc (fun rr33 u t H32 locs ht hvm hw hB hz1 hk1 hS => ?_)
        obtain ⟨hP1, hK1, hD1⟩ := hB
        rw [ht] at hP1
        refine zTopi hw.symm ?_
        obtain ⟨hP, hD⟩ := va_join (wr := [(oX5 a5 h5 S5), (h5 3, .inl (y 1, 60, .inr (.inl (gB S5 3))))]) (w1 := (cX0 a0 h0 y S0)) hP hD [2, 3, 4, 5, 6, 7, 8, 9, 10, 11, 12, 13] [0, 1] rfl rfl (by decide) (by decide) hk1 hFc hP1 hD1
        have hP : va_P (dC, dI) vwCl ((cX5 a5 h5 y S5) ++ (cX0 a0 h0 y S0)) H32 := hP.sub [0, 1, 2, 3, 4, 5, 6, 7, 8, 9, 10, 11, 12, 13] rfl
        have hD : va_D A ((cX5 a5 h5 y S5) ++ (cX0 a0 h0 y S0)) := hD.sub [0, 1, 2, 3, 4, 5, 6, 7, 8, 9, 10, 11, 12, 13] (by decide) rfl
        refine W_abs (fun GW34 eG35 => ?_)
        obtain ⟨ov37, hr38, h⟩ := zB_spec h
        have jn36 : ∀ (v40 : Int64) (HGW34 : Heap) (locs : List Loc) (ls : Array Slot), v40 = ov37 → va_P (dC, dI) vwCl ((cX5 a5 h5 y S5) ++ (cX0 a0 h0 y S0)) HGW34 → va_D A ((cX5 a5 h5 y S5) ++ (cX0 a0 h0 y S0)) → va_S A s.heap HGW34 locs → lv_has ls 15 [(9, .int r1), (0, .ref a5), (1, .ref a0), (2, .int p2), (3, .long v19), (5, .long v20), (7, .long v21), (10, .int v22)] → GW34 HGW34 locs 0 0 (F0 m 64 ls [.long v40]) := by
          intro v40 HGW34 locs ls hv hP hD hS hl
          subst hv
          refine (eG35 _ _ _ _ _).mpr ?_
          refine lv_lstore (lv' := [(13, .long v40), (9, .int r1), (0, .ref a5), (1, .ref a0), (2, .int p2), (3, .long v19), (5, .long v20), (7, .long v21), (10, .int v22)]) hx hb dX5_busRow_64 hl (by decide) rfl (fun ls hl => ?_)
          refine lv_lload_n hx hb dX5_busRow_66 rfl (lv_at hl 5 rfl) ?_
          refine lv_lload hx hb dX5_busRow_67 (lv_at hl 0 rfl) ?_
          refine lv_aload_n hx hb dX5_busRow_69 rfl (lv_at hl 2 rfl) ?_
          refine va_get (D := (dC, dI)) (ci := 4) (v := .ref (h5 3)) (C := RX5) (T := TX5) (N := 5) hx hb hts inX5_ hown hK hP 0 rfl rfl 3 (by decide) (hts (.fieldLink RX5 9 "GateWheel$Worlds" "rows" "[J") (List.mem_of_getElem? (i := 1) rfl)) (fun _ h9 => h9) rfl dX5_busRow_70 ?_
          refine lv_aload_n hx hb dX5_busRow_73 rfl (lv_at hl 3 rfl) ?_
          refine lv_iload_n hx hb dX5_busRow_74 rfl (lv_at hl 4 rfl) ?_
          refine lv_iconst (v := 2) hx hb dX5_busRow_75 (by decide) ?_
          refine lv_iload hx hb dX5_busRow_76 (lv_at hl 8 rfl) ?_
          refine lv_imul hx hb dX5_busRow_78 ?_
          obtain ⟨r41, hc42, h⟩ := zB_spec h
          have hPc := hP.sub (ws' := (cX0 a0 h0 y S0)) [2, 3, 4, 5, 6, 7, 8, 9, 10, 11, 12, 13] rfl
          have hDc := hD.sub (ws' := (cX0 a0 h0 y S0)) [2, 3, 4, 5, 6, 7, 8, 9, 10, 11, 12, 13] (by decide) rfl
          have hFc := va_free (wc := (cX0 a0 h0 y S0)) hD hS hA [2, 3, 4, 5, 6, 7, 8, 9, 10, 11, 12, 13] rfl
          refine va_calli (va_runV (As := [.int p2, .int ((2 : Int32) * v22)]) (rest := [.ref (h5 3), .long v40, .long v19]) ⟨hx, hb, hml, hown, hts⟩ (m_X0_part l dC dI y a0 h0 S0 p2 ((2 : Int32) * v22) HGW34.size r41 hc42) (cwV 2 hts gX5_busRow_X0_part rfl rfl rfl (by decide +kernel) ⟨Nat.le_of_ble_eq_true rfl, Nat.le_of_ble_eq_true rfl⟩) ⟨fun a U g mk q => by obtain ⟨q0, q1, qP, qK, qD⟩ := q; exact ⟨q0, q1, qP, va_K.moved (u := U) (U := U.calling g mk a) (Vm.Alike.refl U.vm) qK, qD⟩, va_recv hK hPc (ci := 0) (q0 := 0) rfl rfl, fun U hU hW => ⟨rfl, by rw [hU], by rw [hU]; exact hPc, va_K.moved hW.alike hK, hDc.weaken (fun _ _ _ _ => trivial)⟩⟩ rfl rfl hl.1 rfl (lv_room (Nat.le_of_ble_eq_true rfl)) dX5_busRow_79 ⟨Nat.le_of_ble_eq_true rfl, Nat.le_of_ble_eq_true rfl⟩) hS (fun q _ h => hFc q h) hFc (fun rr44 u t H43 locs ht hvm hw hB hz1 hk1 hS => ?_)
          obtain ⟨hP1, hK1, hD1⟩ := hB
          rw [ht] at hP1
          refine zTopi hw.symm ?_
          obtain ⟨hP, hD⟩ := va_join (wr := [(oX5 a5 h5 S5), (h5 3, .inl (y 1, 60, .inr (.inl (gB S5 3))))]) (w1 := (cX0 a0 h0 y S0)) hP hD [2, 3, 4, 5, 6, 7, 8, 9, 10, 11, 12, 13] [0, 1] rfl rfl (by decide) (by decide) hk1 hFc hP1 hD1
          have hP : va_P (dC, dI) vwCl ((cX5 a5 h5 y S5) ++ (cX0 a0 h0 y S0)) H43 := hP.sub [0, 1, 2, 3, 4, 5, 6, 7, 8, 9, 10, 11, 12, 13] rfl
          have hD : va_D A ((cX5 a5 h5 y S5) ++ (cX0 a0 h0 y S0)) := hD.sub [0, 1, 2, 3, 4, 5, 6, 7, 8, 9, 10, 11, 12, 13] (by decide) rfl
          obtain ⟨hi45, h⟩ := zG_spec h
          refine va_lald hx hb hK hP 1 1 rfl rfl hi45 dX5_busRow_82 ?_
          refine lv_land hx hb dX5_busRow_83 ?_
          refine lv_lor hx hb dX5_busRow_84 ?_
          obtain ⟨v46, ev46, h⟩ := zL_spec h
          refine zTopl ev46 ?_
          refine lv_lstore_n (lv' := [(3, .long v46), (13, .long v40), (9, .int r1), (0, .ref a5), (1, .ref a0), (2, .int p2), (5, .long v20), (7, .long v21), (10, .int v22)]) hx hb dX5_busRow_85 rfl hl (by decide) rfl (fun ls hl => ?_)
          refine lv_lload hx hb dX5_busRow_86 (lv_at hl 7 rfl) ?_
          refine lv_lload hx hb dX5_busRow_88 (lv_at hl 6 rfl) ?_
          refine lv_lload hx hb dX5_busRow_90 (lv_at hl 1 rfl) ?_
          refine lv_land hx hb dX5_busRow_92 ?_
          refine lv_lor hx hb dX5_busRow_93 ?_
          obtain ⟨v47, ev47, h⟩ := zL_spec h
          refine zTopl ev47 ?_
          refine lv_lstore (lv' := [(7, .long v47), (3, .long v46), (13, .long v40), (9, .int r1), (0, .ref a5), (1, .ref a0), (2, .int p2), (5, .long v20), (10, .int v22)]) hx hb dX5_busRow_94 hl (by decide) rfl (fun ls hl => ?_)
          refine lv_lload hx hb dX5_busRow_96 (lv_at hl 7 rfl) ?_
          refine lv_lload hx hb dX5_busRow_98 (lv_at hl 2 rfl) ?_
          refine lv_lor hx hb dX5_busRow_100 ?_
          obtain ⟨v48, ev48, h⟩ := zL_spec h
          refine zTopl ev48 ?_
          refine lv_lstore (lv' := [(5, .long v48), (7, .long v47), (3, .long v46), (13, .long v40), (9, .int r1), (0, .ref a5), (1, .ref a0), (2, .int p2), (10, .int v22)]) hx hb dX5_busRow_101 hl (by decide) rfl (fun ls hl => ?_)
          obtain ⟨v49, ev49, h⟩ := zL_spec h
          refine lv_iinc (v := v49) (lv' := [(10, .int v49), (5, .long v48), (7, .long v47), (3, .long v46), (13, .long v40), (9, .int r1), (0, .ref a5), (1, .ref a0), (2, .int p2)]) hx hb dX5_busRow_103 hl (k := 8) rfl (by rw [ev49]; rfl) (by decide) rfl (fun ls hl => ?_)
          refine lv_goto (tgt := 18) hx hb dX5_busRow_106 (by decide) ?_
          have h := zI_l h hx12
          exact (eG6 _ _ _ _ _).mp (ihlp8 v46 v48 v47 v49 _ _ _ h hP hD hS (lv_sub hl [5, 6, 7, 8, 3, 1, 2, 0] rfl))
        refine (eG35 _ _ _ _ _).mpr ?_
        have h := hr38
        refine lv_if_eq (tgt := 62) hx hb dX5_busRow_50 (by decide) (fun c50 => ?_) (fun c50 => ?_)
        · have h := zY c50 h
          refine lv_lload hx hb dX5_busRow_62 (lv_at hl 0 rfl) ?_
          exact (eG35 _ _ _ _ _).mp (jn36 v29 _ _ _ (Option.some.inj h) hP hD hS (lv_sub hl [1, 2, 3, 4, 5, 6, 7, 8] rfl))
        · have h := zN c50 h
          refine lv_lload hx hb dX5_busRow_53 (lv_at hl 0 rfl) ?_
          refine lv_ldc2 hx hb hown (hts (.constantLong RX5 26 (-1)) (List.mem_of_getElem? (i := 2) rfl)) dX5_busRow_55 ?_
          refine lv_lxor hx hb dX5_busRow_58 ?_
          refine lv_goto (tgt := 64) hx hb dX5_busRow_59 (by decide) ?_
          exact (eG35 _ _ _ _ _).mp (jn36 (v29 ^^^ (-1 : Int64)) _ _ _ (Option.some.inj h) hP hD hS (lv_sub hl [1, 2, 3, 4, 5, 6, 7, 8] rfl))
  exact lp8 zF (0 : Int64) (0 : Int64) (0 : Int64) (0 : Int32) _ _ _ hi10 hP hD hS (lv_sub hl [1, 5, 6, 7, 4, 3, 2, 0] rfl)

set_option maxHeartbeats 4000000 in
set_option maxRecDepth 100000 in
theorem m_X5_followOthers (l : Launch) (dC : Nat → ClassId) (dI : Nat → Nat → Nat) (y : Nat → ClassId) (a5 : Nat) (h5 : Nat → Nat) (S5 : SS) (a0 : Nat) (h0 : Nat → Nat) (S0 : SS) (sz : Nat) (o_5 : SS) (h : f_X5_followOthers S5 S0 = some o_5) : Met l yX5_followOthers wsX5_followOthers ({ frames := 2, cells := 0, slots := 0, locals := 56 }) (va_Pc [.ref a5, .ref a0] (fun U => U.heap.size = sz ∧ va_P (dC, dI) vwCl ((cX5 a5 h5 y S5) ++ (cX0 a0 h0 y S0)) U.heap ∧ va_K (dC, dI) vwCl [(y 0, .int), (y 1, .long), (y 2, .byte), (y 3, .boolean)] U ∧ va_D (fun _ => True) ((cX5 a5 h5 y S5) ++ (cX0 a0 h0 y S0)))) (va_Qv (fun (_ : Unit) => True) (fun (_ : Unit) (t : State) => va_P (dC, dI) vwCl ((cX5 a5 h5 y o_5) ++ (cX0 a0 h0 y S0)) t.heap ∧ va_K (dC, dI) vwCl [(y 0, .int), (y 1, .long), (y 2, .byte), (y 3, .boolean)] t ∧ va_D (va_A ((cX5 a5 h5 y S5) ++ (cX0 a0 h0 y S0)) sz) ((cX5 a5 h5 y o_5) ++ (cX0 a0 h0 y S0))) (va_A ((cX5 a5 h5 y S5) ++ (cX0 a0 h0 y S0)) sz)) 0 0 (va_A ((cX5 a5 h5 y S5) ++ (cX0 a0 h0 y S0)) sz) := by
  refine Met.ofW (cc := cX5_followOthers) (maxL := 4) (ret := none) (by decide +kernel) rfl ?_
  intro p e s m args below meth c s₁ B hml hv
  obtain ⟨rfl, hsz, hP, hK, hD0⟩ := hv
  have hx := B.exec
  have hb := B.bytes
  have hr := B.returns
  have hts := atoms_spec (ws := wsX5_followOthers) B.pre
  have hown : s.vm.findClass RX5 = some m.cls := findClass_of_methodNamed B.named
  have hlocks := B.notSynchronized
  have inX0_ : ∀ w ∈ wsX00, w ∈ wsX5_followOthers := fun _ h => List.mem_cons_of_mem _ (List.mem_append_left _ (List.mem_append_right _ h))
  have inX5_ : ∀ w ∈ wsX50, w ∈ wsX5_followOthers := fun _ h => List.mem_cons_of_mem _ (List.mem_append_right _ h)
  subst hsz
  have hD := hD0.self (sz := s.heap.size)
  generalize hAe : va_A ((cX5 a5 h5 y S5) ++ (cX0 a0 h0 y S0)) s.heap.size = A at hD ⊢
  have hA : ∀ q : Nat, s.heap.size ≤ q → A q := fun q h => by rw [← hAe]; exact Or.inr h
  have hS : va_S A s.heap s.heap [] := va_S.rf
  have hP : va_P (dC, dI) vwCl ((cX5 a5 h5 y S5) ++ (cX0 a0 h0 y S0)) s.heap := hP
  have hl := lv_entry ([.ref a5, .ref a0]) (n := 4) (Nat.le_of_ble_eq_true rfl)
  rw [lg_entry_eq]
  generalize (lg_sl ([.ref a5, .ref a0]) ++ List.replicate (4 - (lg_sl ([.ref a5, .ref a0])).length) Slot.unset).toArray = ls at hl ⊢
  have hl : lv_has ls 4 [(0, .ref a5), (1, .ref a0)] := hl
  refine lv_iconst (v := 0) hx hb dX5_followOthers_0 (by decide) ?_
  refine lv_istore_n (lv' := [(2, .int 0), (0, .ref a5), (1, .ref a0)]) hx hb dX5_followOthers_1 rfl hl (by decide) rfl (fun ls hl => ?_)
  refine W_abs (fun GW1 eG2 => ?_)
  have hi6 := h
  have lp4 : ∀ (n : Nat) (v10 : Int32) (s5_11 : SS) (HGW1 : Heap) (locs : List Loc) (ls : Array Slot), zI (b_X5_followOthers_2 S0) n (v10, s5_11) = some o_5 → va_P (dC, dI) vwCl ((cX5 a5 h5 y s5_11) ++ (cX0 a0 h0 y S0)) HGW1 → va_D A ((cX5 a5 h5 y s5_11) ++ (cX0 a0 h0 y S0)) → va_S A s.heap HGW1 locs → lv_has ls 4 [(0, .ref a5), (1, .ref a0), (2, .int v10)] → GW1 HGW1 locs 0 0 (F0 m 2 ls []) := by
    intro n
    induction n with
    | zero =>
      intro v10 s5_11 HGW1 locs ls hi6 hP hD hS hl
      exact (zI_0 hi6).elim
    | succ n ihlp4 =>
      intro v10 s5_11 HGW1 locs ls hi6 hP hD hS hl
      refine (eG2 _ _ _ _ _).mpr ?_
      obtain ⟨xx9, h, hx8⟩ := zI_spec hi6
      refine lv_iload_n hx hb dX5_followOthers_2 rfl (lv_at hl 2 rfl) ?_
      refine lv_aload_n hx hb dX5_followOthers_3 rfl (lv_at hl 1 rfl) ?_
      refine va_get (D := (dC, dI)) (ci := 0) (v := .int (gI S0 0)) (C := RX0) (T := TX0) (N := 13) hx hb hts inX0_ hown hK hP 2 rfl rfl 0 (by decide) (hts (.fieldLink RX5 46 "GateWheel$Circuit" "count" "I") (List.mem_of_getElem? (i := 1) rfl)) (fun _ h9 => h9) rfl dX5_followOthers_4 ?_
      refine lv_icmp_ge (tgt := 70) hx hb dX5_followOthers_7 (by decide) (fun c12 => ?_) (fun c12 => ?_)
      · have h := zY c12 h
        have h := congrArg some (zI_r h hx8)
        have ho0 : s5_11 = o_5 := congrArg (fun z : SS => z) (Option.some.inj h)
        exact W.vret hx hb hr (fun t ht hW => ⟨⟨(), rfl, trivial, by rw [ht]; rw [← ho0]; exact hP, va_K.moved hW.alike hK, by rw [← ho0]; exact hD⟩, hS.F ht⟩) hS.2.2 dX5_followOthers_70
      · have h := zN c12 h
        refine lv_aload_n hx hb dX5_followOthers_10 rfl (lv_at hl 1 rfl) ?_
        refine va_get (D := (dC, dI)) (ci := 0) (v := .ref (h0 12)) (C := RX0) (T := TX0) (N := 13) hx hb hts inX0_ hown hK hP 2 rfl rfl 12 (by decide) (hts (.fieldLink RX5 62 "GateWheel$Circuit" "order" "[I") (List.mem_of_getElem? (i := 2) rfl)) (fun _ h9 => h9) rfl dX5_followOthers_11 ?_
        refine lv_iload_n hx hb dX5_followOthers_14 rfl (lv_at hl 2 rfl) ?_
        obtain ⟨hi13, h⟩ := zG_spec h
        refine va_iald hx hb hK hP 13 0 rfl rfl hi13 dX5_followOthers_15 ?_
        obtain ⟨v14, ev14, h⟩ := zL_spec h
        refine zTopi ev14 ?_
        refine lv_istore_n (lv' := [(3, .int v14), (0, .ref a5), (1, .ref a0), (2, .int v10)]) hx hb dX5_followOthers_16 rfl hl (by decide) rfl (fun ls hl => ?_)
        refine lv_aload_n hx hb dX5_followOthers_17 rfl (lv_at hl 2 rfl) ?_
        refine va_get (D := (dC, dI)) (ci := 0) (v := .ref (h0 4)) (C := RX0) (T := TX0) (N := 13) hx hb hts inX0_ hown hK hP 2 rfl rfl 4 (by decide) (hts (.fieldLink RX5 66 "GateWheel$Circuit" "kinds" "[I") (List.mem_of_getElem? (i := 3) rfl)) (fun _ h9 => h9) rfl dX5_followOthers_18 ?_
        refine lv_iload_n hx hb dX5_followOthers_21 rfl (lv_at hl 0 rfl) ?_
        obtain ⟨hi15, h⟩ := zG_spec h
        refine va_iald hx hb hK hP 5 0 rfl rfl hi15 dX5_followOthers_22 ?_
        refine lv_iconst (v := 2) hx hb dX5_followOthers_23 (by decide) ?_
        refine lv_icmp_ne (tgt := 42) hx hb dX5_followOthers_24 (by decide) (fun c16 => ?_) (fun c16 => ?_)
        · have h := zN c16 h
          refine lv_aload_n hx hb dX5_followOthers_42 rfl (lv_at hl 2 rfl) ?_
          refine va_get (D := (dC, dI)) (ci := 0) (v := .ref (h0 4)) (C := RX0) (T := TX0) (N := 13) hx hb hts inX0_ hown hK hP 2 rfl rfl 4 (by decide) (hts (.fieldLink RX5 66 "GateWheel$Circuit" "kinds" "[I") (List.mem_of_getElem? (i := 3) rfl)) (fun _ h9 => h9) rfl dX5_followOthers_43 ?_
          refine lv_iload_n hx hb dX5_followOthers_46 rfl (lv_at hl 0 rfl) ?_
          refine va_iald hx hb hK hP 5 0 rfl rfl hi15 dX5_followOthers_47 ?_
          refine lv_iconst (v := 1) hx hb dX5_followOthers_48 (by decide) ?_
          refine lv_icmp_ne (tgt := 64) hx hb dX5_followOthers_49 (by decide) (fun c17 => ?_) (fun c17 => ?_)
          · have h := zN c17 h
            obtain ⟨v18, ev18, h⟩ := zL_spec h
            refine lv_iinc (v := v18) (lv' := [(2, .int v18), (3, .int v14), (0, .ref a5), (1, .ref a0)]) hx hb dX5_followOthers_64 hl (k := 3) rfl (by rw [ev18]; rfl) (by decide) rfl (fun ls hl => ?_)
            refine lv_goto (tgt := 2) hx hb dX5_followOthers_67 (by decide) ?_
            have h := zI_l h hx8
            exact (eG2 _ _ _ _ _).mp (ihlp4 v18 s5_11 _ _ _ h hP hD hS (lv_sub hl [2, 3, 0] rfl))
          · have h := zY c17 h
            refine lv_aload_n hx hb dX5_followOthers_52 rfl (lv_at hl 1 rfl) ?_
            refine va_get (D := (dC, dI)) (ci := 4) (v := .ref (h5 3)) (C := RX5) (T := TX5) (N := 5) hx hb hts inX5_ hown hK hP 0 rfl rfl 3 (by decide) (hts (.fieldLink RX5 9 "GateWheel$Worlds" "rows" "[J") (List.mem_of_getElem? (i := 4) rfl)) (fun _ h9 => h9) rfl dX5_followOthers_53 ?_
            refine lv_iload_n hx hb dX5_followOthers_56 rfl (lv_at hl 0 rfl) ?_
            refine lv_aload_n hx hb dX5_followOthers_57 rfl (lv_at hl 1 rfl) ?_
            refine lv_aload_n hx hb dX5_followOthers_58 rfl (lv_at hl 2 rfl) ?_
            refine lv_iload_n hx hb dX5_followOthers_59 rfl (lv_at hl 0 rfl) ?_
            obtain ⟨⟨r19, s5_20⟩, hc21, h⟩ := zB_spec h
            have hFc := zFree hD hS hA
            refine va_calll (va_runV (As := [.ref a0, .int v14]) (rest := [.int v14, .ref (h5 3)]) ⟨hx, hb, hml, hown, hts⟩ (m_X5_busRow l dC dI y a5 h5 s5_11 a0 h0 S0 v14 HGW1.size r19 s5_20 hc21) (cwV 2 hts gX5_followOthers_X5_busRow rfl rfl rfl (by decide +kernel) ⟨Nat.le_of_ble_eq_true rfl, Nat.le_of_ble_eq_true rfl⟩) ⟨fun a U g mk q => by obtain ⟨q0, q1, qP, qK, qD⟩ := q; exact ⟨q0, q1, qP, va_K.moved (u := U) (U := U.calling g mk a) (Vm.Alike.refl U.vm) qK, qD⟩, va_recv hK hP (ci := 4) (q0 := 0) rfl rfl, fun U hU hW => ⟨rfl, by rw [hU], by rw [hU]; exact hP, va_K.moved hW.alike hK, hD.weaken (fun _ _ _ _ => trivial)⟩⟩ rfl rfl hl.1 rfl (lv_room (Nat.le_of_ble_eq_true rfl)) dX5_followOthers_60 ⟨Nat.le_of_ble_eq_true rfl, Nat.le_of_ble_eq_true rfl⟩) hS (fun q _ h => hFc q h) hFc (fun rr23 u t H22 locs ht hvm hw hB hz1 hk1 hS => ?_)
            obtain ⟨hP1, hK1, hD1⟩ := hB
            rw [ht] at hP1
            refine zTopl hw.symm ?_
            have hP := hP1
            have hD := hD1.weaken (fun _ q _ h => hFc q.1 h)
            have hP : va_P (dC, dI) vwCl ((cX5 a5 h5 y s5_20) ++ (cX0 a0 h0 y S0)) H22 := hP
            have hD : va_D A ((cX5 a5 h5 y s5_20) ++ (cX0 a0 h0 y S0)) := hD
            refine va_last hx hb hK hP hD hS 1 1 rfl rfl hi15 dX5_followOthers_63 (fun H24 locs hP hD hS => ?_)
            obtain ⟨s5_25, es5_25, h⟩ := zL_spec h
            have hP : va_P (dC, dI) vwCl ((cX5 a5 h5 y s5_25) ++ (cX0 a0 h0 y S0)) H24 := by rw [es5_25]; exact hP
            have hD : va_D A ((cX5 a5 h5 y s5_25) ++ (cX0 a0 h0 y S0)) := by rw [es5_25]; exact hD
            obtain ⟨v26, ev26, h⟩ := zL_spec h
            refine lv_iinc (v := v26) (lv' := [(2, .int v26), (3, .int v14), (0, .ref a5), (1, .ref a0)]) hx hb dX5_followOthers_64 hl (k := 3) rfl (by rw [ev26]; rfl) (by decide) rfl (fun ls hl => ?_)
            refine lv_goto (tgt := 2) hx hb dX5_followOthers_67 (by decide) ?_
            have h := zI_l h hx8
            exact (eG2 _ _ _ _ _).mp (ihlp4 v26 s5_25 _ _ _ h hP hD hS (lv_sub hl [2, 3, 0] rfl))
        · have h := zY c16 h
          refine lv_aload_n hx hb dX5_followOthers_27 rfl (lv_at hl 1 rfl) ?_
          refine va_get (D := (dC, dI)) (ci := 4) (v := .ref (h5 3)) (C := RX5) (T := TX5) (N := 5) hx hb hts inX5_ hown hK hP 0 rfl rfl 3 (by decide) (hts (.fieldLink RX5 9 "GateWheel$Worlds" "rows" "[J") (List.mem_of_getElem? (i := 4) rfl)) (fun _ h9 => h9) rfl dX5_followOthers_28 ?_
          refine lv_iload_n hx hb dX5_followOthers_31 rfl (lv_at hl 0 rfl) ?_
          refine lv_aload_n hx hb dX5_followOthers_32 rfl (lv_at hl 1 rfl) ?_
          refine lv_aload_n hx hb dX5_followOthers_33 rfl (lv_at hl 2 rfl) ?_
          refine lv_iload_n hx hb dX5_followOthers_34 rfl (lv_at hl 0 rfl) ?_
          obtain ⟨r27, hc28, h⟩ := zB_spec h
          have hFc := zFree hD hS hA
          refine va_calll (va_runV (As := [.ref a0, .int v14]) (rest := [.int v14, .ref (h5 3)]) ⟨hx, hb, hml, hown, hts⟩ (m_X5_gateRow l dC dI y a5 h5 s5_11 a0 h0 S0 v14 HGW1.size r27 hc28) (cwV 2 hts gX5_followOthers_X5_gateRow rfl rfl rfl (by decide +kernel) ⟨Nat.le_of_ble_eq_true rfl, Nat.le_of_ble_eq_true rfl⟩) ⟨fun a U g mk q => by obtain ⟨q0, q1, qP, qK, qD⟩ := q; exact ⟨q0, q1, qP, va_K.moved (u := U) (U := U.calling g mk a) (Vm.Alike.refl U.vm) qK, qD⟩, va_recv hK hP (ci := 4) (q0 := 0) rfl rfl, fun U hU hW => ⟨rfl, by rw [hU], by rw [hU]; exact hP, va_K.moved hW.alike hK, hD.weaken (fun _ _ _ _ => trivial)⟩⟩ rfl rfl hl.1 rfl (lv_room (Nat.le_of_ble_eq_true rfl)) dX5_followOthers_35 ⟨Nat.le_of_ble_eq_true rfl, Nat.le_of_ble_eq_true rfl⟩) hS (fun q _ h => hFc q h) hFc (fun rr30 u t H29 locs ht hvm hw hB hz1 hk1 hS => ?_)
          obtain ⟨hP1, hK1, hD1⟩ := hB
          rw [ht] at hP1
          refine zTopl hw.symm ?_
          have hP := hP1
          have hD := hD1.weaken (fun _ q _ h => hFc q.1 h)
          have hP : va_P (dC, dI) vwCl ((cX5 a5 h5 y s5_11) ++ (cX0 a0 h0 y S0)) H29 := hP
          have hD : va_D A ((cX5 a5 h5 y s5_11) ++ (cX0 a0 h0 y S0)) := hD
          refine va_last hx hb hK hP hD hS 1 1 rfl rfl hi15 dX5_followOthers_38 (fun H31 locs hP hD hS => ?_)
          obtain ⟨s5_32, es5_32, h⟩ := zL_spec h
          have hP : va_P (dC, dI) vwCl ((cX5 a5 h5 y s5_32) ++ (cX0 a0 h0 y S0)) H31 := by rw [es5_32]; exact hP
          have hD : va_D A ((cX5 a5 h5 y s5_32) ++ (cX0 a0 h0 y S0)) := by rw [es5_32]; exact hD
          refine lv_goto (tgt := 64) hx hb dX5_followOthers_39 (by decide) ?_
          obtain ⟨v33, ev33, h⟩ := zL_spec h
          refine lv_iinc (v := v33) (lv' := [(2, .int v33), (3, .int v14), (0, .ref a5), (1, .ref a0)]) hx hb dX5_followOthers_64 hl (k := 3) rfl (by rw [ev33]; rfl) (by decide) rfl (fun ls hl => ?_)
          refine lv_goto (tgt := 2) hx hb dX5_followOthers_67 (by decide) ?_
          have h := zI_l h hx8
          exact (eG2 _ _ _ _ _).mp (ihlp4 v33 s5_32 _ _ _ h hP hD hS (lv_sub hl [2, 3, 0] rfl))
  exact lp4 zF (0 : Int32) S5 _ _ _ hi6 hP hD hS (lv_sub hl [1, 2, 0] rfl)

set_option maxHeartbeats 4000000 in
set_option maxRecDepth 100000 in
theorem m_X5_collect (l : Launch) (dC : Nat → ClassId) (dI : Nat → Nat → Nat) (y : Nat → ClassId) (a5 : Nat) (h5 : Nat → Nat) (S5 : SS) (a0 : Nat) (h0 : Nat → Nat) (S0 : SS) (sz : Nat) (o_5 : SS) (h : f_X5_collect S5 S0 = some o_5) : Met l yX5_collect wsX5_collect ({ frames := 1, cells := 0, slots := 0, locals := 21 }) (va_Pc [.ref a5, .ref a0] (fun U => U.heap.size = sz ∧ va_P (dC, dI) vwCl ((cX5 a5 h5 y S5) ++ (cX0 a0 h0 y S0)) U.heap ∧ va_K (dC, dI) vwCl [(y 0, .int), (y 1, .long), (y 2, .byte), (y 3, .boolean)] U ∧ va_D (fun _ => True) ((cX5 a5 h5 y S5) ++ (cX0 a0 h0 y S0)))) (va_Qv (fun (_ : Unit) => True) (fun (_ : Unit) (t : State) => va_P (dC, dI) vwCl ((cX5 a5 h5 y o_5) ++ (cX0 a0 h0 y S0)) t.heap ∧ va_K (dC, dI) vwCl [(y 0, .int), (y 1, .long), (y 2, .byte), (y 3, .boolean)] t ∧ va_D (va_A ((cX5 a5 h5 y S5) ++ (cX0 a0 h0 y S0)) sz) ((cX5 a5 h5 y o_5) ++ (cX0 a0 h0 y S0))) (va_A ((cX5 a5 h5 y S5) ++ (cX0 a0 h0 y S0)) sz)) 0 0 (va_A ((cX5 a5 h5 y S5) ++ (cX0 a0 h0 y S0)) sz) := by
  refine Met.ofW (cc := cX5_collect) (maxL := 3) (ret := none) (by decide +kernel) rfl ?_
  intro p e s m args below meth c s₁ B hml hv
  obtain ⟨rfl, hsz, hP, hK, hD0⟩ := hv
  have hx := B.exec
  have hb := B.bytes
  have hr := B.returns
  have hts := atoms_spec (ws := wsX5_collect) B.pre
  have hown : s.vm.findClass RX5 = some m.cls := findClass_of_methodNamed B.named
  have hlocks := B.notSynchronized
  have inX0_ : ∀ w ∈ wsX00, w ∈ wsX5_collect := fun _ h => List.mem_cons_of_mem _ (List.mem_append_right _ h)
  have inX5_ : ∀ w ∈ wsX50, w ∈ wsX5_collect := fun _ h => List.mem_cons_of_mem _ (List.mem_append_left _ (List.mem_append_right _ h))
  subst hsz
  have hD := hD0.self (sz := s.heap.size)
  generalize hAe : va_A ((cX5 a5 h5 y S5) ++ (cX0 a0 h0 y S0)) s.heap.size = A at hD ⊢
  have hA : ∀ q : Nat, s.heap.size ≤ q → A q := fun q h => by rw [← hAe]; exact Or.inr h
  have hS : va_S A s.heap s.heap [] := va_S.rf
  have hP : va_P (dC, dI) vwCl ((cX5 a5 h5 y S5) ++ (cX0 a0 h0 y S0)) s.heap := hP
  have hl := lv_entry ([.ref a5, .ref a0]) (n := 3) (Nat.le_of_ble_eq_true rfl)
  rw [lg_entry_eq]
  generalize (lg_sl ([.ref a5, .ref a0]) ++ List.replicate (3 - (lg_sl ([.ref a5, .ref a0])).length) Slot.unset).toArray = ls at hl ⊢
  have hl : lv_has ls 3 [(0, .ref a5), (1, .ref a0)] := hl
  refine lv_aload_n hx hb dX5_collect_0 rfl (lv_at hl 0 rfl) ?_
  refine lv_dup hx hb dX5_collect_1 rfl ?_
  refine va_get (D := (dC, dI)) (ci := 4) (v := .int (gI S5 0)) (C := RX5) (T := TX5) (N := 5) hx hb hts inX5_ hown hK hP 0 rfl rfl 0 (by decide) (hts (.fieldLink RX5 15 "GateWheel$Worlds" "legalCount" "I") (List.mem_of_getElem? (i := 1) rfl)) (fun _ h9 => h9) rfl dX5_collect_2 ?_
  refine lv_aload_n hx hb dX5_collect_5 rfl (lv_at hl 0 rfl) ?_
  refine va_get (D := (dC, dI)) (ci := 4) (v := .long (gL S5 4)) (C := RX5) (T := TX5) (N := 5) hx hb hts inX5_ hown hK hP 0 rfl rfl 4 (by decide) (hts (.fieldLink RX5 28 "GateWheel$Worlds" "legalHere" "J") (List.mem_of_getElem? (i := 2) rfl)) (fun _ h9 => h9) rfl dX5_collect_6 ?_
  obtain ⟨r1, hc2, h⟩ := zB_spec h
  have hPc := hP.sub (ws' := []) [] rfl
  have hDc := hD.sub (ws' := []) [] (by decide) rfl
  have hFc := va_free (wc := []) hD hS hA [] rfl
  refine va_calli (va_runS (As := [.long (gL S5 4)]) (rest := [.int (gI S5 0), .ref a5]) ⟨hx, hb, hml, hown, hts⟩ (m_J13_bitCount_95d88 l dC dI y (gL S5 4) s.heap.size r1 hc2) (va_cwS 1 hts gX5_collect_J13_bitCount_95d88 rfl rfl rfl (by decide +kernel) ⟨Nat.le_of_ble_eq_true rfl, Nat.le_of_ble_eq_true rfl⟩) ⟨fun a U g mk q => by obtain ⟨q0, q1, qP, qK, qD⟩ := q; exact ⟨q0, q1, qP, va_K.moved (u := U) (U := U.calling g mk a) (Vm.Alike.refl U.vm) qK, qD⟩, fun U hU hW => ⟨rfl, by rw [hU], by rw [hU]; exact hPc, va_K.moved hW.alike hK, hDc.weaken (fun _ _ _ _ => trivial)⟩⟩ rfl rfl hl.1 rfl (lv_room (Nat.le_of_ble_eq_true rfl)) dX5_collect_9 ⟨Nat.le_of_ble_eq_true rfl, Nat.le_of_ble_eq_true rfl⟩) hS (fun q _ h => hFc q h) hFc (fun rr4 u t H3 locs ht hvm hw hB hz1 hk1 hS => ?_)
  obtain ⟨hP1, hK1, hD1⟩ := hB
  rw [ht] at hP1
  refine zTopi hw.symm ?_
  obtain ⟨hP, hD⟩ := va_join (wr := [(oX5 a5 h5 S5), (h5 3, .inl (y 1, 60, .inr (.inl (gB S5 3)))), (oX0 a0 h0 S0), (h0 2, .inl (y 1, 60, .inr (.inl (gB S0 2)))), (h0 3, .inl (y 0, 60, .inl (gA S0 3))), (h0 4, .inl (y 0, 60, .inl (gA S0 4))), (h0 5, .inl (y 0, 60, .inl (gA S0 5))), (h0 6, .inl (y 0, 60, .inl (gA S0 6))), (h0 7, .inl (y 0, 720, .inl (gA S0 7))), (h0 8, .inl (y 0, 60, .inl (gA S0 8))), (h0 9, .inl (y 0, 60, .inl (gA S0 9))), (h0 10, .inl (y 1, 60, .inr (.inl (gB S0 10)))), (h0 11, .inl (y 0, 60, .inl (gA S0 11))), (h0 12, .inl (y 0, 60, .inl (gA S0 12)))]) (w1 := []) hP hD [] [0, 1, 2, 3, 4, 5, 6, 7, 8, 9, 10, 11, 12, 13] rfl rfl (by decide) (by decide) hk1 hFc hP1 hD1
  have hP : va_P (dC, dI) vwCl ((cX5 a5 h5 y S5) ++ (cX0 a0 h0 y S0)) H3 := hP.sub [0, 1, 2, 3, 4, 5, 6, 7, 8, 9, 10, 11, 12, 13] rfl
  have hD : va_D A ((cX5 a5 h5 y S5) ++ (cX0 a0 h0 y S0)) := hD.sub [0, 1, 2, 3, 4, 5, 6, 7, 8, 9, 10, 11, 12, 13] (by decide) rfl
  refine lv_iadd hx hb dX5_collect_12 ?_
  refine va_put (D := (dC, dI)) (ci := 4) (v := .int ((gI S5 0) + r1)) (ty := .int) (C := RX5) (T := TX5) (N := 5) hx hb hts inX5_ tyX5 tyX5_ok nmX5 hown hK hP hD hS 0 rfl rfl 0 (by decide) (hts (.fieldLink RX5 15 "GateWheel$Worlds" "legalCount" "I") (List.mem_of_getElem? (i := 1) rfl)) (fun _ h9 => h9) rfl (by decide +kernel) rfl rfl (Nat.le_of_ble_eq_true rfl) dX5_collect_13 (fun H5 locs hP hD hS => ?_)
  obtain ⟨s5_6, es5_6, h⟩ := zL_spec h
  have hP : va_P (dC, dI) vwCl ((cX5 a5 h5 y s5_6) ++ (cX0 a0 h0 y S0)) H5 := by rw [es5_6]; exact hP
  have hD : va_D A ((cX5 a5 h5 y s5_6) ++ (cX0 a0 h0 y S0)) := by rw [es5_6]; exact hD
  refine lv_iconst (v := 0) hx hb dX5_collect_16 (by decide) ?_
  refine lv_istore_n (lv' := [(2, .int 0), (0, .ref a5), (1, .ref a0)]) hx hb dX5_collect_17 rfl hl (by decide) rfl (fun ls hl => ?_)
  refine W_abs (fun GW7 eG8 => ?_)
  have hi12 := h
  have lp10 : ∀ (n : Nat) (v16 : Int32) (s5_17 : SS) (HGW7 : Heap) (locs : List Loc) (ls : Array Slot), zI (b_X5_collect_18 S0) n (v16, s5_17) = some o_5 → va_P (dC, dI) vwCl ((cX5 a5 h5 y s5_17) ++ (cX0 a0 h0 y S0)) HGW7 → va_D A ((cX5 a5 h5 y s5_17) ++ (cX0 a0 h0 y S0)) → va_S A s.heap HGW7 locs → lv_has ls 3 [(0, .ref a5), (1, .ref a0), (2, .int v16)] → GW7 HGW7 locs 0 0 (F0 m 18 ls []) := by
    intro n
    induction n with
    | zero =>
      intro v16 s5_17 HGW7 locs ls hi12 hP hD hS hl
      exact (zI_0 hi12).elim
    | succ n ihlp10 =>
      intro v16 s5_17 HGW7 locs ls hi12 hP hD hS hl
      refine (eG8 _ _ _ _ _).mpr ?_
      obtain ⟨xx15, h, hx14⟩ := zI_spec hi12
      refine lv_iload_n hx hb dX5_collect_18 rfl (lv_at hl 2 rfl) ?_
      refine lv_aload_n hx hb dX5_collect_19 rfl (lv_at hl 1 rfl) ?_
      refine va_get (D := (dC, dI)) (ci := 0) (v := .int (gI S0 0)) (C := RX0) (T := TX0) (N := 13) hx hb hts inX0_ hown hK hP 2 rfl rfl 0 (by decide) (hts (.fieldLink RX5 46 "GateWheel$Circuit" "count" "I") (List.mem_of_getElem? (i := 3) rfl)) (fun _ h9 => h9) rfl dX5_collect_20 ?_
      refine lv_icmp_ge (tgt := 92) hx hb dX5_collect_23 (by decide) (fun c18 => ?_) (fun c18 => ?_)
      · have h := zY c18 h
        have h := congrArg some (zI_r h hx14)
        have ho0 : s5_17 = o_5 := congrArg (fun z : SS => z) (Option.some.inj h)
        exact W.vret hx hb hr (fun t ht hW => ⟨⟨(), rfl, trivial, by rw [ht]; rw [← ho0]; exact hP, va_K.moved hW.alike hK, by rw [← ho0]; exact hD⟩, hS.F ht⟩) hS.2.2 dX5_collect_92
      · have h := zN c18 h
        refine lv_aload_n hx hb dX5_collect_26 rfl (lv_at hl 0 rfl) ?_
        refine va_get (D := (dC, dI)) (ci := 4) (v := .ref (h5 3)) (C := RX5) (T := TX5) (N := 5) hx hb hts inX5_ hown hK hP 0 rfl rfl 3 (by decide) (hts (.fieldLink RX5 9 "GateWheel$Worlds" "rows" "[J") (List.mem_of_getElem? (i := 4) rfl)) (fun _ h9 => h9) rfl dX5_collect_27 ?_
        refine lv_iload_n hx hb dX5_collect_30 rfl (lv_at hl 2 rfl) ?_
        obtain ⟨hi19, h⟩ := zG_spec h
        refine va_lald hx hb hK hP 1 1 rfl rfl hi19 dX5_collect_31 ?_
        refine lv_aload_n hx hb dX5_collect_32 rfl (lv_at hl 0 rfl) ?_
        refine va_get (D := (dC, dI)) (ci := 4) (v := .long (gL s5_17 4)) (C := RX5) (T := TX5) (N := 5) hx hb hts inX5_ hown hK hP 0 rfl rfl 4 (by decide) (hts (.fieldLink RX5 28 "GateWheel$Worlds" "legalHere" "J") (List.mem_of_getElem? (i := 2) rfl)) (fun _ h9 => h9) rfl dX5_collect_33 ?_
        refine lv_land hx hb dX5_collect_36 ?_
        refine lv_lconst (v := 0) hx hb dX5_collect_37 (by decide) ?_
        refine W.lcmp hx hb dX5_collect_38 ?_
        refine W_abs (fun GW20 eG21 => ?_)
        obtain ⟨ov23, hr24, h⟩ := zB_spec h
        have jn22 : ∀ (s5_26 : SS) (HGW20 : Heap) (locs : List Loc) (ls : Array Slot), s5_26 = ov23 → va_P (dC, dI) vwCl ((cX5 a5 h5 y s5_26) ++ (cX0 a0 h0 y S0)) HGW20 → va_D A ((cX5 a5 h5 y s5_26) ++ (cX0 a0 h0 y S0)) → va_S A s.heap HGW20 locs → lv_has ls 3 [(0, .ref a5), (1, .ref a0), (2, .int v16)] → GW20 HGW20 locs 0 0 (F0 m 54 ls []) := by
          intro s5_26 HGW20 locs ls hv hP hD hS hl
          subst hv
          refine (eG21 _ _ _ _ _).mpr ?_
          refine lv_aload_n hx hb dX5_collect_54 rfl (lv_at hl 0 rfl) ?_
          refine va_get (D := (dC, dI)) (ci := 4) (v := .ref (h5 3)) (C := RX5) (T := TX5) (N := 5) hx hb hts inX5_ hown hK hP 0 rfl rfl 3 (by decide) (hts (.fieldLink RX5 9 "GateWheel$Worlds" "rows" "[J") (List.mem_of_getElem? (i := 4) rfl)) (fun _ h9 => h9) rfl dX5_collect_55 ?_
          refine lv_iload_n hx hb dX5_collect_58 rfl (lv_at hl 2 rfl) ?_
          refine va_lald hx hb hK hP 1 1 rfl rfl hi19 dX5_collect_59 ?_
          refine lv_ldc2 hx hb hown (hts (.constantLong RX5 26 (-1)) (List.mem_of_getElem? (i := 6) rfl)) dX5_collect_60 ?_
          refine lv_lxor hx hb dX5_collect_63 ?_
          refine lv_aload_n hx hb dX5_collect_64 rfl (lv_at hl 0 rfl) ?_
          refine va_get (D := (dC, dI)) (ci := 4) (v := .long (gL s5_26 4)) (C := RX5) (T := TX5) (N := 5) hx hb hts inX5_ hown hK hP 0 rfl rfl 4 (by decide) (hts (.fieldLink RX5 28 "GateWheel$Worlds" "legalHere" "J") (List.mem_of_getElem? (i := 2) rfl)) (fun _ h9 => h9) rfl dX5_collect_65 ?_
          refine lv_land hx hb dX5_collect_68 ?_
          refine lv_lconst (v := 0) hx hb dX5_collect_69 (by decide) ?_
          refine W.lcmp hx hb dX5_collect_70 ?_
          refine lv_if_eq (tgt := 86) hx hb dX5_collect_71 (by decide) (fun c27 => ?_) (fun c27 => ?_)
          · have h := zY c27 h
            obtain ⟨v28, ev28, h⟩ := zL_spec h
            refine lv_iinc (v := v28) (lv' := [(2, .int v28), (0, .ref a5), (1, .ref a0)]) hx hb dX5_collect_86 hl (k := 2) rfl (by rw [ev28]; rfl) (by decide) rfl (fun ls hl => ?_)
            refine lv_goto (tgt := 18) hx hb dX5_collect_89 (by decide) ?_
            have h := zI_l h hx14
            exact (eG8 _ _ _ _ _).mp (ihlp10 v28 s5_26 _ _ _ h hP hD hS (lv_sub hl [1, 2, 0] rfl))
          · have h := zN c27 h
            refine lv_aload_n hx hb dX5_collect_74 rfl (lv_at hl 0 rfl) ?_
            refine lv_dup hx hb dX5_collect_75 rfl ?_
            refine va_get (D := (dC, dI)) (ci := 4) (v := .long (gL s5_26 1)) (C := RX5) (T := TX5) (N := 5) hx hb hts inX5_ hown hK hP 0 rfl rfl 1 (by decide) (hts (.fieldLink RX5 19 "GateWheel$Worlds" "zeros" "J") (List.mem_of_getElem? (i := 7) rfl)) (fun _ h9 => h9) rfl dX5_collect_76 ?_
            refine lv_lconst (v := 1) hx hb dX5_collect_79 (by decide) ?_
            refine lv_iload_n hx hb dX5_collect_80 rfl (lv_at hl 2 rfl) ?_
            refine lv_lshl (v := (jLs (1 : Int64) v16)) hx hb dX5_collect_81 rfl ?_
            refine lv_lor hx hb dX5_collect_82 ?_
            refine va_put (D := (dC, dI)) (ci := 4) (v := .long ((gL s5_26 1) ||| (jLs (1 : Int64) v16))) (ty := .long) (C := RX5) (T := TX5) (N := 5) hx hb hts inX5_ tyX5 tyX5_ok nmX5 hown hK hP hD hS 0 rfl rfl 1 (by decide) (hts (.fieldLink RX5 19 "GateWheel$Worlds" "zeros" "J") (List.mem_of_getElem? (i := 7) rfl)) (fun _ h9 => h9) rfl (by decide +kernel) rfl rfl (Nat.le_of_ble_eq_true rfl) dX5_collect_83 (fun H29 locs hP hD hS => ?_)
            obtain ⟨s5_30, es5_30, h⟩ := zL_spec h
            have hP : va_P (dC, dI) vwCl ((cX5 a5 h5 y s5_30) ++ (cX0 a0 h0 y S0)) H29 := by rw [es5_30]; exact hP
            have hD : va_D A ((cX5 a5 h5 y s5_30) ++ (cX0 a0 h0 y S0)) := by rw [es5_30]; exact hD
            obtain ⟨v31, ev31, h⟩ := zL_spec h
            refine lv_iinc (v := v31) (lv' := [(2, .int v31), (0, .ref a5), (1, .ref a0)]) hx hb dX5_collect_86 hl (k := 2) rfl (by rw [ev31]; rfl) (by decide) rfl (fun ls hl => ?_)
            refine lv_goto (tgt := 18) hx hb dX5_collect_89 (by decide) ?_
            have h := zI_l h hx14
            exact (eG8 _ _ _ _ _).mp (ihlp10 v31 s5_30 _ _ _ h hP hD hS (lv_sub hl [1, 2, 0] rfl))
        refine (eG21 _ _ _ _ _).mpr ?_
        have h := hr24
        refine lv_if_eq (tgt := 54) hx hb dX5_collect_39 (by decide) (fun c32 => ?_) (fun c32 => ?_)
        · have h := zY c32 h
          exact (eG21 _ _ _ _ _).mp (jn22 s5_17 _ _ _ (Option.some.inj h) hP hD hS (lv_sub hl [0, 1, 2] rfl))
        · have h := zN c32 h
          refine lv_aload_n hx hb dX5_collect_42 rfl (lv_at hl 0 rfl) ?_
          refine lv_dup hx hb dX5_collect_43 rfl ?_
          refine va_get (D := (dC, dI)) (ci := 4) (v := .long (gL s5_17 2)) (C := RX5) (T := TX5) (N := 5) hx hb hts inX5_ hown hK hP 0 rfl rfl 2 (by decide) (hts (.fieldLink RX5 23 "GateWheel$Worlds" "ones" "J") (List.mem_of_getElem? (i := 5) rfl)) (fun _ h9 => h9) rfl dX5_collect_44 ?_
          refine lv_lconst (v := 1) hx hb dX5_collect_47 (by decide) ?_
          refine lv_iload_n hx hb dX5_collect_48 rfl (lv_at hl 2 rfl) ?_
          refine lv_lshl (v := (jLs (1 : Int64) v16)) hx hb dX5_collect_49 rfl ?_
          refine lv_lor hx hb dX5_collect_50 ?_
          refine va_put (D := (dC, dI)) (ci := 4) (v := .long ((gL s5_17 2) ||| (jLs (1 : Int64) v16))) (ty := .long) (C := RX5) (T := TX5) (N := 5) hx hb hts inX5_ tyX5 tyX5_ok nmX5 hown hK hP hD hS 0 rfl rfl 2 (by decide) (hts (.fieldLink RX5 23 "GateWheel$Worlds" "ones" "J") (List.mem_of_getElem? (i := 5) rfl)) (fun _ h9 => h9) rfl (by decide +kernel) rfl rfl (Nat.le_of_ble_eq_true rfl) dX5_collect_51 (fun H33 locs hP hD hS => ?_)
          obtain ⟨s5_34, es5_34, h⟩ := zL_spec h
          have hP : va_P (dC, dI) vwCl ((cX5 a5 h5 y s5_34) ++ (cX0 a0 h0 y S0)) H33 := by rw [es5_34]; exact hP
          have hD : va_D A ((cX5 a5 h5 y s5_34) ++ (cX0 a0 h0 y S0)) := by rw [es5_34]; exact hD
          exact (eG21 _ _ _ _ _).mp (jn22 s5_34 _ _ _ (Option.some.inj h) hP hD hS (lv_sub hl [0, 1, 2] rfl))
  exact lp10 zF (0 : Int32) s5_6 _ _ _ hi12 hP hD hS (lv_sub hl [1, 2, 0] rfl)

set_option maxHeartbeats 4000000 in
set_option maxRecDepth 100000 in
theorem m_X5_goThrough (l : Launch) (dC : Nat → ClassId) (dI : Nat → Nat → Nat) (y : Nat → ClassId) (a5 : Nat) (h5 : Nat → Nat) (S5 : SS) (a0 : Nat) (h0 : Nat → Nat) (S0 : SS) (aw : Nat) (fw : Nat → Int32) (p3 : Int32) (tg : Nat × Nat × Nat × Nat) (sz : Nat) (o_5 : SS) (h : f_X5_goThrough S5 S0 fw p3 = some o_5) : Met l yX5_goThrough wsX5_goThrough ({ frames := 4, cells := 0, slots := 0, locals := 89 }) (va_Pc [.ref a5, .ref a0, .ref aw, .int p3] (fun U => U.heap.size = sz ∧ va_P (dC, dI) vwCl ((cX5 a5 h5 y S5) ++ ((cX0 a0 h0 y S0) ++ ([(aw, .inl (y 0, 60, .inl fw))]))) U.heap ∧ va_K (dC, dI) vwCl [(y 0, .int), (y 1, .long), (y 2, .byte), (y 3, .boolean)] U ∧ va_D (fun _ => True) ((cX5 a5 h5 y S5) ++ ((cX0 a0 h0 y S0) ++ ([(aw, .inl (y 0, 60, .inl fw))]))) ∧ STG tg (va_A ((cX5 a5 h5 y S5) ++ ((cX0 a0 h0 y S0) ++ ([(aw, .inl (y 0, 60, .inl fw))]))) sz) U U.heap)) (va_Qv (fun (_ : Unit) => True) (fun (_ : Unit) (t : State) => va_P (dC, dI) vwCl ((cX5 a5 h5 y o_5) ++ ((cX0 a0 h0 y S0) ++ ([(aw, .inl (y 0, 60, .inl fw))]))) t.heap ∧ va_K (dC, dI) vwCl [(y 0, .int), (y 1, .long), (y 2, .byte), (y 3, .boolean)] t ∧ va_D (va_A ((cX5 a5 h5 y S5) ++ ((cX0 a0 h0 y S0) ++ ([(aw, .inl (y 0, 60, .inl fw))]))) sz) ((cX5 a5 h5 y o_5) ++ ((cX0 a0 h0 y S0) ++ ([(aw, .inl (y 0, 60, .inl fw))])))) (va_A ((cX5 a5 h5 y S5) ++ ((cX0 a0 h0 y S0) ++ ([(aw, .inl (y 0, 60, .inl fw))]))) sz)) 0 0 (va_A ((cX5 a5 h5 y S5) ++ ((cX0 a0 h0 y S0) ++ ([(aw, .inl (y 0, 60, .inl fw))]))) sz) := by
  refine Met.ofW (cc := cX5_goThrough) (maxL := 8) (ret := none) (by decide +kernel) rfl ?_
  intro p e s m args below meth c s₁ B hml hv
  obtain ⟨rfl, hsz, hP, hK, hD0, hST⟩ := hv
  have hx := B.exec
  have hb := B.bytes
  have hr := B.returns
  have hts := atoms_spec (ws := wsX5_goThrough) B.pre
  have hown : s.vm.findClass RX5 = some m.cls := findClass_of_methodNamed B.named
  have hlocks := B.notSynchronized
  have inX5_ : ∀ w ∈ wsX50, w ∈ wsX5_goThrough := fun _ h => List.mem_cons_of_mem _ (List.mem_append_left _ (List.mem_append_right _ h))
  subst hsz
  have hD := hD0.self (sz := s.heap.size)
  generalize hAe : va_A ((cX5 a5 h5 y S5) ++ ((cX0 a0 h0 y S0) ++ ([(aw, .inl (y 0, 60, .inl fw))]))) s.heap.size = A at hD hST ⊢
  have hA : ∀ q : Nat, s.heap.size ≤ q → A q := fun q h => by rw [← hAe]; exact Or.inr h
  have hS : va_S A s.heap s.heap [] := va_S.rf
  have hP : va_P (dC, dI) vwCl ((cX5 a5 h5 y S5) ++ ((cX0 a0 h0 y S0) ++ ([(aw, .inl (y 0, 60, .inl fw))]))) s.heap := hP
  have hl := lv_entry ([.ref a5, .ref a0, .ref aw, .int p3]) (n := 8) (Nat.le_of_ble_eq_true rfl)
  rw [lg_entry_eq]
  generalize (lg_sl ([.ref a5, .ref a0, .ref aw, .int p3]) ++ List.replicate (8 - (lg_sl ([.ref a5, .ref a0, .ref aw, .int p3])).length) Slot.unset).toArray = ls at hl ⊢
  have hl : lv_has ls 8 [(0, .ref a5), (1, .ref a0), (2, .ref aw), (3, .int p3)] := hl
  refine lv_aload_n hx hb dX5_goThrough_0 rfl (lv_at hl 0 rfl) ?_
  refine lv_iconst (v := 0) hx hb dX5_goThrough_1 (by decide) ?_
  refine va_put (D := (dC, dI)) (ci := 4) (v := .int 0) (ty := .int) (C := RX5) (T := TX5) (N := 5) hx hb hts inX5_ tyX5 tyX5_ok nmX5 hown hK hP hD hS 0 rfl rfl 0 (by decide) (hts (.fieldLink RX5 15 "GateWheel$Worlds" "legalCount" "I") (List.mem_of_getElem? (i := 1) rfl)) (fun _ h9 => h9) rfl (by decide +kernel) rfl rfl (Nat.le_of_ble_eq_true rfl) dX5_goThrough_2 (fun H1 locs hP hD hS => ?_)
  obtain ⟨s5_2, es5_2, h⟩ := zL_spec h
  have hP : va_P (dC, dI) vwCl ((cX5 a5 h5 y s5_2) ++ ((cX0 a0 h0 y S0) ++ ([(aw, .inl (y 0, 60, .inl fw))]))) H1 := by rw [es5_2]; exact hP
  have hD : va_D A ((cX5 a5 h5 y s5_2) ++ ((cX0 a0 h0 y S0) ++ ([(aw, .inl (y 0, 60, .inl fw))]))) := by rw [es5_2]; exact hD
  refine lv_aload_n hx hb dX5_goThrough_5 rfl (lv_at hl 0 rfl) ?_
  refine lv_lconst (v := 0) hx hb dX5_goThrough_6 (by decide) ?_
  refine va_put (D := (dC, dI)) (ci := 4) (v := .long 0) (ty := .long) (C := RX5) (T := TX5) (N := 5) hx hb hts inX5_ tyX5 tyX5_ok nmX5 hown hK hP hD hS 0 rfl rfl 1 (by decide) (hts (.fieldLink RX5 19 "GateWheel$Worlds" "zeros" "J") (List.mem_of_getElem? (i := 2) rfl)) (fun _ h9 => h9) rfl (by decide +kernel) rfl rfl (Nat.le_of_ble_eq_true rfl) dX5_goThrough_7 (fun H3 locs hP hD hS => ?_)
  obtain ⟨s5_4, es5_4, h⟩ := zL_spec h
  have hP : va_P (dC, dI) vwCl ((cX5 a5 h5 y s5_4) ++ ((cX0 a0 h0 y S0) ++ ([(aw, .inl (y 0, 60, .inl fw))]))) H3 := by rw [es5_4]; exact hP
  have hD : va_D A ((cX5 a5 h5 y s5_4) ++ ((cX0 a0 h0 y S0) ++ ([(aw, .inl (y 0, 60, .inl fw))]))) := by rw [es5_4]; exact hD
  refine lv_aload_n hx hb dX5_goThrough_10 rfl (lv_at hl 0 rfl) ?_
  refine lv_lconst (v := 0) hx hb dX5_goThrough_11 (by decide) ?_
  refine va_put (D := (dC, dI)) (ci := 4) (v := .long 0) (ty := .long) (C := RX5) (T := TX5) (N := 5) hx hb hts inX5_ tyX5 tyX5_ok nmX5 hown hK hP hD hS 0 rfl rfl 2 (by decide) (hts (.fieldLink RX5 23 "GateWheel$Worlds" "ones" "J") (List.mem_of_getElem? (i := 3) rfl)) (fun _ h9 => h9) rfl (by decide +kernel) rfl rfl (Nat.le_of_ble_eq_true rfl) dX5_goThrough_12 (fun H5 locs hP hD hS => ?_)
  obtain ⟨s5_6, es5_6, h⟩ := zL_spec h
  have hP : va_P (dC, dI) vwCl ((cX5 a5 h5 y s5_6) ++ ((cX0 a0 h0 y S0) ++ ([(aw, .inl (y 0, 60, .inl fw))]))) H5 := by rw [es5_6]; exact hP
  have hD : va_D A ((cX5 a5 h5 y s5_6) ++ ((cX0 a0 h0 y S0) ++ ([(aw, .inl (y 0, 60, .inl fw))]))) := by rw [es5_6]; exact hD
  refine lv_iload_n hx hb dX5_goThrough_15 rfl (lv_at hl 3 rfl) ?_
  refine lv_bipush (v := 6) hx hb dX5_goThrough_16 (by decide) ?_
  refine W_abs (fun GW7 eG8 => ?_)
  obtain ⟨ov10, hr11, h⟩ := zB_spec h
  have jn9 : ∀ (v13 : Int32) (HGW7 : Heap) (locs : List Loc) (ls : Array Slot), v13 = ov10 → va_P (dC, dI) vwCl ((cX5 a5 h5 y s5_6) ++ ((cX0 a0 h0 y S0) ++ ([(aw, .inl (y 0, 60, .inl fw))]))) HGW7 → va_D A ((cX5 a5 h5 y s5_6) ++ ((cX0 a0 h0 y S0) ++ ([(aw, .inl (y 0, 60, .inl fw))]))) → va_S A s.heap HGW7 locs → lv_has ls 8 [(0, .ref a5), (1, .ref a0), (2, .ref aw), (3, .int p3)] → GW7 HGW7 locs 0 0 (F0 m 31 ls [.int v13]) := by
    intro v13 HGW7 locs ls hv hP hD hS hl
    subst hv
    refine (eG8 _ _ _ _ _).mpr ?_
    refine lv_istore (lv' := [(4, .int v13), (0, .ref a5), (1, .ref a0), (2, .ref aw), (3, .int p3)]) hx hb dX5_goThrough_31 hl (by decide) rfl (fun ls hl => ?_)
    refine lv_iload_n hx hb dX5_goThrough_33 rfl (lv_at hl 4 rfl) ?_
    refine lv_bipush (v := 6) hx hb dX5_goThrough_34 (by decide) ?_
    refine W_abs (fun GW14 eG15 => ?_)
    obtain ⟨ov17, hr18, h⟩ := zB_spec h
    have jn16 : ∀ (v20 : Int64) (HGW14 : Heap) (locs : List Loc) (ls : Array Slot), v20 = ov17 → va_P (dC, dI) vwCl ((cX5 a5 h5 y s5_6) ++ ((cX0 a0 h0 y S0) ++ ([(aw, .inl (y 0, 60, .inl fw))]))) HGW14 → va_D A ((cX5 a5 h5 y s5_6) ++ ((cX0 a0 h0 y S0) ++ ([(aw, .inl (y 0, 60, .inl fw))]))) → va_S A s.heap HGW14 locs → lv_has ls 8 [(4, .int v13), (0, .ref a5), (1, .ref a0), (2, .ref aw)] → GW14 HGW14 locs 0 0 (F0 m 52 ls [.long v20]) := by
      intro v20 HGW14 locs ls hv hP hD hS hl
      subst hv
      refine (eG15 _ _ _ _ _).mpr ?_
      refine lv_lstore (lv' := [(5, .long v20), (4, .int v13), (0, .ref a5), (1, .ref a0), (2, .ref aw)]) hx hb dX5_goThrough_52 hl (by decide) rfl (fun ls hl => ?_)
      refine lv_iconst (v := 0) hx hb dX5_goThrough_54 (by decide) ?_
      refine lv_istore (lv' := [(7, .int 0), (5, .long v20), (4, .int v13), (0, .ref a5), (1, .ref a0), (2, .ref aw)]) hx hb dX5_goThrough_55 hl (by decide) rfl (fun ls hl => ?_)
      refine W_abs (fun GW21 eG22 => ?_)
      have hi26 := h
      have lp24 : ∀ (n : Nat) (v30 : Int32) (s5_31 : SS) (HGW21 : Heap) (locs : List Loc) (ls : Array Slot), zI (b_X5_goThrough_57 S0 fw v13 v20) n (v30, s5_31) = some o_5 → va_P (dC, dI) vwCl ((cX5 a5 h5 y s5_31) ++ ((cX0 a0 h0 y S0) ++ ([(aw, .inl (y 0, 60, .inl fw))]))) HGW21 → va_D A ((cX5 a5 h5 y s5_31) ++ ((cX0 a0 h0 y S0) ++ ([(aw, .inl (y 0, 60, .inl fw))]))) → va_S A s.heap HGW21 locs → lv_has ls 8 [(5, .long v20), (4, .int v13), (0, .ref a5), (1, .ref a0), (2, .ref aw), (7, .int v30)] → GW21 HGW21 locs 0 0 (F0 m 57 ls []) := by
        intro n
        induction n with
        | zero =>
          intro v30 s5_31 HGW21 locs ls hi26 hP hD hS hl
          exact (zI_0 hi26).elim
        | succ n ihlp24 =>
          intro v30 s5_31 HGW21 locs ls hi26 hP hD hS hl
          refine (eG22 _ _ _ _ _).mpr ?_
          obtain ⟨xx29, h, hx28⟩ := zI_spec hi26
          refine lv_iload hx hb dX5_goThrough_57 (lv_at hl 5 rfl) ?_
          refine lv_iload hx hb dX5_goThrough_59 (lv_at hl 1 rfl) ?_
          refine lv_icmp_ge (tgt := 94) hx hb dX5_goThrough_61 (by decide) (fun c32 => ?_) (fun c32 => ?_)
          · have h := zY c32 h
            have h := congrArg some (zI_r h hx28)
            have ho0 : s5_31 = o_5 := congrArg (fun z : SS => z) (Option.some.inj h)
            exact W.vret hx hb hr (fun t ht hW => ⟨⟨(), rfl, trivial, by rw [ht]; rw [← ho0]; exact hP, va_K.moved hW.alike hK, by rw [← ho0]; exact hD⟩, hS.F ht⟩) hS.2.2 dX5_goThrough_94
          · have h := zN c32 h
            refine lv_aload_n hx hb dX5_goThrough_64 rfl (lv_at hl 2 rfl) ?_
            refine lv_lload hx hb dX5_goThrough_65 (lv_at hl 0 rfl) ?_
            refine va_put (D := (dC, dI)) (ci := 4) (v := .long v20) (ty := .long) (C := RX5) (T := TX5) (N := 5) hx hb hts inX5_ tyX5 tyX5_ok nmX5 hown hK hP hD hS 0 rfl rfl 4 (by decide) (hts (.fieldLink RX5 28 "GateWheel$Worlds" "legalHere" "J") (List.mem_of_getElem? (i := 5) rfl)) (fun _ h9 => h9) rfl (by decide +kernel) rfl rfl (Nat.le_of_ble_eq_true rfl) dX5_goThrough_67 (fun H33 locs hP hD hS => ?_)
            obtain ⟨s5_34, es5_34, h⟩ := zL_spec h
            have hP : va_P (dC, dI) vwCl ((cX5 a5 h5 y s5_34) ++ ((cX0 a0 h0 y S0) ++ ([(aw, .inl (y 0, 60, .inl fw))]))) H33 := by rw [es5_34]; exact hP
            have hD : va_D A ((cX5 a5 h5 y s5_34) ++ ((cX0 a0 h0 y S0) ++ ([(aw, .inl (y 0, 60, .inl fw))]))) := by rw [es5_34]; exact hD
            refine lv_aload_n hx hb dX5_goThrough_70 rfl (lv_at hl 2 rfl) ?_
            refine lv_aload_n hx hb dX5_goThrough_71 rfl (lv_at hl 3 rfl) ?_
            refine lv_aload_n hx hb dX5_goThrough_72 rfl (lv_at hl 4 rfl) ?_
            refine lv_iload hx hb dX5_goThrough_73 (lv_at hl 5 rfl) ?_
            obtain ⟨s5_35, hc36, h⟩ := zB_spec h
            have hFc := zFree hD hS hA
            refine va_callv (va_runV (As := [.ref a0, .ref aw, .int v30]) (rest := []) ⟨hx, hb, hml, hown, hts⟩ (m_X5_fillSources l dC dI y a5 h5 s5_34 a0 h0 S0 aw fw v30 tg H33.size s5_35 hc36) (cwV 3 hts gX5_goThrough_X5_fillSources rfl rfl rfl (by decide +kernel) ⟨Nat.le_of_ble_eq_true rfl, Nat.le_of_ble_eq_true rfl⟩) ⟨fun a U g mk q => by obtain ⟨q0, q1, qP, qK, qD, qT⟩ := q; exact ⟨q0, q1, qP, va_K.moved (u := U) (U := U.calling g mk a) (Vm.Alike.refl U.vm) qK, qD, STG_moved (u := U) (U := U.calling g mk a) (Vm.Alike.refl U.vm) qT⟩, va_recv hK hP (ci := 4) (q0 := 0) rfl rfl, fun U hU hW => ⟨rfl, by rw [hU], by rw [hU]; exact hP, va_K.moved hW.alike hK, hD.weaken (fun _ _ _ _ => trivial), by rw [hU]; exact STG_moved hW.alike (STG_narrow (STG_kept hST hS.2.1) hFc)⟩⟩ rfl rfl hl.1 rfl (lv_room (Nat.le_of_ble_eq_true rfl)) dX5_goThrough_75 ⟨Nat.le_of_ble_eq_true rfl, Nat.le_of_ble_eq_true rfl⟩) hS (fun q _ h => hFc q h) hFc (fun u t H37 locs ht hvm hw hB hz1 hk1 hS => ?_)
            obtain ⟨hP1, hK1, hD1⟩ := hB
            rw [ht] at hP1
            have hP := hP1
            have hD := hD1.weaken (fun _ q _ h => hFc q.1 h)
            have hP : va_P (dC, dI) vwCl ((cX5 a5 h5 y s5_35) ++ ((cX0 a0 h0 y S0) ++ ([(aw, .inl (y 0, 60, .inl fw))]))) H37 := hP
            have hD : va_D A ((cX5 a5 h5 y s5_35) ++ ((cX0 a0 h0 y S0) ++ ([(aw, .inl (y 0, 60, .inl fw))]))) := hD
            refine lv_aload_n hx hb dX5_goThrough_78 rfl (lv_at hl 2 rfl) ?_
            refine lv_aload_n hx hb dX5_goThrough_79 rfl (lv_at hl 3 rfl) ?_
            obtain ⟨s5_39, hc40, h⟩ := zB_spec h
            have hPc := hP.sub (ws' := ((cX5 a5 h5 y s5_35) ++ (cX0 a0 h0 y S0))) [0, 1, 2, 3, 4, 5, 6, 7, 8, 9, 10, 11, 12, 13] rfl
            have hDc := hD.sub (ws' := ((cX5 a5 h5 y s5_35) ++ (cX0 a0 h0 y S0))) [0, 1, 2, 3, 4, 5, 6, 7, 8, 9, 10, 11, 12, 13] (by decide) rfl
            have hFc := va_free (wc := ((cX5 a5 h5 y s5_35) ++ (cX0 a0 h0 y S0))) hD hS hA [0, 1, 2, 3, 4, 5, 6, 7, 8, 9, 10, 11, 12, 13] rfl
            refine va_callv (va_runV (As := [.ref a0]) (rest := []) ⟨hx, hb, hml, hown, hts⟩ (m_X5_followOthers l dC dI y a5 h5 s5_35 a0 h0 S0 H37.size s5_39 hc40) (cwV 1 hts gX5_goThrough_X5_followOthers rfl rfl rfl (by decide +kernel) ⟨Nat.le_of_ble_eq_true rfl, Nat.le_of_ble_eq_true rfl⟩) ⟨fun a U g mk q => by obtain ⟨q0, q1, qP, qK, qD⟩ := q; exact ⟨q0, q1, qP, va_K.moved (u := U) (U := U.calling g mk a) (Vm.Alike.refl U.vm) qK, qD⟩, va_recv hK hPc (ci := 4) (q0 := 0) rfl rfl, fun U hU hW => ⟨rfl, by rw [hU], by rw [hU]; exact hPc, va_K.moved hW.alike hK, hDc.weaken (fun _ _ _ _ => trivial)⟩⟩ rfl rfl hl.1 rfl (lv_room (Nat.le_of_ble_eq_true rfl)) dX5_goThrough_80 ⟨Nat.le_of_ble_eq_true rfl, Nat.le_of_ble_eq_true rfl⟩) hS (fun q _ h => hFc q h) hFc (fun u t H41 locs ht hvm hw hB hz1 hk1 hS => ?_)
            obtain ⟨hP1, hK1, hD1⟩ := hB
            rw [ht] at hP1
            obtain ⟨hP, hD⟩ := va_join (wr := [(aw, .inl (y 0, 60, .inl fw))]) (w1 := ((cX5 a5 h5 y s5_39) ++ (cX0 a0 h0 y S0))) hP hD [0, 1, 2, 3, 4, 5, 6, 7, 8, 9, 10, 11, 12, 13] [14] rfl rfl (by decide) (by decide) hk1 hFc hP1 hD1
            have hP : va_P (dC, dI) vwCl ((cX5 a5 h5 y s5_39) ++ ((cX0 a0 h0 y S0) ++ ([(aw, .inl (y 0, 60, .inl fw))]))) H41 := hP.sub [1, 2, 3, 4, 5, 6, 7, 8, 9, 10, 11, 12, 13, 14, 0] rfl
            have hD : va_D A ((cX5 a5 h5 y s5_39) ++ ((cX0 a0 h0 y S0) ++ ([(aw, .inl (y 0, 60, .inl fw))]))) := hD.sub [1, 2, 3, 4, 5, 6, 7, 8, 9, 10, 11, 12, 13, 14, 0] (by decide) rfl
            refine lv_aload_n hx hb dX5_goThrough_83 rfl (lv_at hl 2 rfl) ?_
            refine lv_aload_n hx hb dX5_goThrough_84 rfl (lv_at hl 3 rfl) ?_
            obtain ⟨s5_43, hc44, h⟩ := zB_spec h
            have hPc := hP.sub (ws' := ((cX5 a5 h5 y s5_39) ++ (cX0 a0 h0 y S0))) [0, 1, 2, 3, 4, 5, 6, 7, 8, 9, 10, 11, 12, 13] rfl
            have hDc := hD.sub (ws' := ((cX5 a5 h5 y s5_39) ++ (cX0 a0 h0 y S0))) [0, 1, 2, 3, 4, 5, 6, 7, 8, 9, 10, 11, 12, 13] (by decide) rfl
            have hFc := va_free (wc := ((cX5 a5 h5 y s5_39) ++ (cX0 a0 h0 y S0))) hD hS hA [0, 1, 2, 3, 4, 5, 6, 7, 8, 9, 10, 11, 12, 13] rfl
            refine va_callv (va_runV (As := [.ref a0]) (rest := []) ⟨hx, hb, hml, hown, hts⟩ (m_X5_collect l dC dI y a5 h5 s5_39 a0 h0 S0 H41.size s5_43 hc44) (cwV 1 hts gX5_goThrough_X5_collect rfl rfl rfl (by decide +kernel) ⟨Nat.le_of_ble_eq_true rfl, Nat.le_of_ble_eq_true rfl⟩) ⟨fun a U g mk q => by obtain ⟨q0, q1, qP, qK, qD⟩ := q; exact ⟨q0, q1, qP, va_K.moved (u := U) (U := U.calling g mk a) (Vm.Alike.refl U.vm) qK, qD⟩, va_recv hK hPc (ci := 4) (q0 := 0) rfl rfl, fun U hU hW => ⟨rfl, by rw [hU], by rw [hU]; exact hPc, va_K.moved hW.alike hK, hDc.weaken (fun _ _ _ _ => trivial)⟩⟩ rfl rfl hl.1 rfl (lv_room (Nat.le_of_ble_eq_true rfl)) dX5_goThrough_85 ⟨Nat.le_of_ble_eq_true rfl, Nat.le_of_ble_eq_true rfl⟩) hS (fun q _ h => hFc q h) hFc (fun u t H45 locs ht hvm hw hB hz1 hk1 hS => ?_)
            obtain ⟨hP1, hK1, hD1⟩ := hB
            rw [ht] at hP1
            obtain ⟨hP, hD⟩ := va_join (wr := [(aw, .inl (y 0, 60, .inl fw))]) (w1 := ((cX5 a5 h5 y s5_43) ++ (cX0 a0 h0 y S0))) hP hD [0, 1, 2, 3, 4, 5, 6, 7, 8, 9, 10, 11, 12, 13] [14] rfl rfl (by decide) (by decide) hk1 hFc hP1 hD1
            have hP : va_P (dC, dI) vwCl ((cX5 a5 h5 y s5_43) ++ ((cX0 a0 h0 y S0) ++ ([(aw, .inl (y 0, 60, .inl fw))]))) H45 := hP.sub [1, 2, 3, 4, 5, 6, 7, 8, 9, 10, 11, 12, 13, 14, 0] rfl
            have hD : va_D A ((cX5 a5 h5 y s5_43) ++ ((cX0 a0 h0 y S0) ++ ([(aw, .inl (y 0, 60, .inl fw))]))) := hD.sub [1, 2, 3, 4, 5, 6, 7, 8, 9, 10, 11, 12, 13, 14, 0] (by decide) rfl
            obtain ⟨v47, ev47, h⟩ := zL_spec h
            refine lv_iinc (v := v47) (lv' := [(7, .int v47), (5, .long v20), (4, .int v13), (0, .ref a5), (1, .ref a0), (2, .ref aw)]) hx hb dX5_goThrough_88 hl (k := 5) rfl (by rw [ev47]; rfl) (by decide) rfl (fun ls hl => ?_)
            refine lv_goto (tgt := 57) hx hb dX5_goThrough_91 (by decide) ?_
            have h := zI_l h hx28
            exact (eG22 _ _ _ _ _).mp (ihlp24 v47 s5_43 _ _ _ h hP hD hS (lv_sub hl [1, 2, 3, 4, 5, 0] rfl))
      exact lp24 zF (0 : Int32) s5_6 _ _ _ hi26 hP hD hS (lv_sub hl [1, 2, 3, 4, 5, 0] rfl)
    refine (eG15 _ _ _ _ _).mpr ?_
    have h := hr18
    refine lv_icmp_lt (tgt := 45) hx hb dX5_goThrough_36 (by decide) (fun c48 => ?_) (fun c48 => ?_)
    · have h := zY c48 h
      refine lv_lconst (v := 1) hx hb dX5_goThrough_45 (by decide) ?_
      refine lv_iconst (v := 1) hx hb dX5_goThrough_46 (by decide) ?_
      refine lv_iload_n hx hb dX5_goThrough_47 rfl (lv_at hl 4 rfl) ?_
      refine lv_ishl hx hb dX5_goThrough_48 ?_
      refine lv_lshl (v := (jLs (1 : Int64) ((1 : Int32) <<< (p3 &&& 31)))) hx hb dX5_goThrough_49 rfl ?_
      refine lv_lconst (v := 1) hx hb dX5_goThrough_50 (by decide) ?_
      refine lv_lsub hx hb dX5_goThrough_51 ?_
      exact (eG15 _ _ _ _ _).mp (jn16 ((jLs (1 : Int64) ((1 : Int32) <<< (p3 &&& 31))) - (1 : Int64)) _ _ _ (Option.some.inj h) hP hD hS (lv_sub hl [0, 1, 2, 3] rfl))
    · have h := zN c48 h
      refine lv_ldc2 hx hb hown (hts (.constantLong RX5 26 (-1)) (List.mem_of_getElem? (i := 4) rfl)) dX5_goThrough_39 ?_
      refine lv_goto (tgt := 52) hx hb dX5_goThrough_42 (by decide) ?_
      exact (eG15 _ _ _ _ _).mp (jn16 (-1 : Int64) _ _ _ (Option.some.inj h) hP hD hS (lv_sub hl [0, 1, 2, 3] rfl))
  refine (eG8 _ _ _ _ _).mpr ?_
  have h := hr11
  refine lv_icmp_le (tgt := 30) hx hb dX5_goThrough_18 (by decide) (fun c49 => ?_) (fun c49 => ?_)
  · have h := zY c49 h
    refine lv_iconst (v := 1) hx hb dX5_goThrough_30 (by decide) ?_
    exact (eG8 _ _ _ _ _).mp (jn9 (1 : Int32) _ _ _ (Option.some.inj h) hP hD hS (lv_sub hl [0, 1, 2, 3] rfl))
  · have h := zN c49 h
    refine lv_iconst (v := 1) hx hb dX5_goThrough_21 (by decide) ?_
    refine lv_iload_n hx hb dX5_goThrough_22 rfl (lv_at hl 3 rfl) ?_
    refine lv_bipush (v := 6) hx hb dX5_goThrough_23 (by decide) ?_
    refine lv_isub hx hb dX5_goThrough_25 ?_
    refine lv_ishl hx hb dX5_goThrough_26 ?_
    refine lv_goto (tgt := 31) hx hb dX5_goThrough_27 (by decide) ?_
    exact (eG8 _ _ _ _ _).mp (jn9 ((1 : Int32) <<< ((p3 - (6 : Int32)) &&& 31)) _ _ _ (Option.some.inj h) hP hD hS (lv_sub hl [0, 1, 2, 3] rfl))

set_option maxHeartbeats 4000000 in
set_option maxRecDepth 100000 in
theorem m_X5_isEver (l : Launch) (dC : Nat → ClassId) (dI : Nat → Nat → Nat) (y : Nat → ClassId) (a5 : Nat) (h5 : Nat → Nat) (S5 : SS) (p1 : Int32) (p2 : Int32) (sz : Nat) (or_ : Int32) (h : f_X5_isEver S5 p1 p2 = some or_) : Met l yX5_isEver wsX5_isEver ({ frames := 0, cells := 0, slots := 0, locals := 0 }) (va_Pc [.ref a5, .int p1, .int p2] (fun U => U.heap.size = sz ∧ va_P (dC, dI) vwCl (cX5 a5 h5 y S5) U.heap ∧ va_K (dC, dI) vwCl [(y 0, .int), (y 1, .long), (y 2, .byte), (y 3, .boolean)] U ∧ va_D (fun _ => True) (cX5 a5 h5 y S5))) (va_Qi (fun (r : Int32) (_ : Unit) => r = or_) (fun (_ : Unit) (t : State) => va_P (dC, dI) vwCl (cX5 a5 h5 y S5) t.heap ∧ va_K (dC, dI) vwCl [(y 0, .int), (y 1, .long), (y 2, .byte), (y 3, .boolean)] t ∧ va_D (va_A (cX5 a5 h5 y S5) sz) (cX5 a5 h5 y S5)) (va_A (cX5 a5 h5 y S5) sz)) 0 0 (va_A (cX5 a5 h5 y S5) sz) := by
  refine Met.ofW (cc := cX5_isEver) (maxL := 3) (ret := (some .boolean)) (by decide +kernel) rfl ?_
  intro p e s m args below meth c s₁ B hml hv
  obtain ⟨rfl, hsz, hP, hK, hD0⟩ := hv
  have hx := B.exec
  have hb := B.bytes
  have hr := B.returns
  have hts := atoms_spec (ws := wsX5_isEver) B.pre
  have hown : s.vm.findClass RX5 = some m.cls := findClass_of_methodNamed B.named
  have hlocks := B.notSynchronized
  have inX5_ : ∀ w ∈ wsX50, w ∈ wsX5_isEver := fun _ h => List.mem_cons_of_mem _ (List.mem_append_right _ h)
  subst hsz
  have hD := hD0.self (sz := s.heap.size)
  generalize hAe : va_A (cX5 a5 h5 y S5) s.heap.size = A at hD ⊢
  have hA : ∀ q : Nat, s.heap.size ≤ q → A q := fun q h => by rw [← hAe]; exact Or.inr h
  have hS : va_S A s.heap s.heap [] := va_S.rf
  have hP : va_P (dC, dI) vwCl (cX5 a5 h5 y S5) s.heap := hP
  have hl := lv_entry ([.ref a5, .int p1, .int p2]) (n := 3) (Nat.le_of_ble_eq_true rfl)
  rw [lg_entry_eq]
  generalize (lg_sl ([.ref a5, .int p1, .int p2]) ++ List.replicate (3 - (lg_sl ([.ref a5, .int p1, .int p2])).length) Slot.unset).toArray = ls at hl ⊢
  have hl : lv_has ls 3 [(0, .ref a5), (1, .int p1), (2, .int p2)] := hl
  refine lv_iload_n hx hb dX5_isEver_0 rfl (lv_at hl 2 rfl) ?_
  refine W_abs (fun GW1 eG2 => ?_)
  obtain ⟨ov4, hr5, h⟩ := zB_spec h
  have jn3 : ∀ (v7 : Int64) (HGW1 : Heap) (locs : List Loc) (ls : Array Slot), v7 = ov4 → va_P (dC, dI) vwCl (cX5 a5 h5 y S5) HGW1 → va_D A (cX5 a5 h5 y S5) → va_S A s.heap HGW1 locs → lv_has ls 3 [(1, .int p1)] → GW1 HGW1 locs 0 0 (F0 m 15 ls [.long v7]) := by
    intro v7 HGW1 locs ls hv hP hD hS hl
    subst hv
    refine (eG2 _ _ _ _ _).mpr ?_
    refine lv_iload_n hx hb dX5_isEver_15 rfl (lv_at hl 0 rfl) ?_
    refine lv_lushr (v := (jLu v7 p1)) hx hb dX5_isEver_16 rfl ?_
    refine lv_lconst (v := 1) hx hb dX5_isEver_17 (by decide) ?_
    refine lv_land hx hb dX5_isEver_18 ?_
    refine lv_lconst (v := 1) hx hb dX5_isEver_19 (by decide) ?_
    refine W.lcmp hx hb dX5_isEver_20 ?_
    refine lv_if_ne (tgt := 28) hx hb dX5_isEver_21 (by decide) (fun c8 => ?_) (fun c8 => ?_)
    · have h := zN c8 h
      refine lv_iconst (v := 0) hx hb dX5_isEver_28 (by decide) ?_
      have ho0 : (0 : Int32) = or_ := congrArg (fun z : Int32 => z) (Option.some.inj h)
      exact W.zret (v := 0) hx hb hr (by decide) (fun t ht hW => ⟨⟨0, (), rfl, ho0, by rw [ht]; exact hP, va_K.moved hW.alike hK, hD⟩, hS.F ht⟩) hS.2.2 dX5_isEver_29
    · have h := zY c8 h
      refine lv_iconst (v := 1) hx hb dX5_isEver_24 (by decide) ?_
      refine lv_goto (tgt := 29) hx hb dX5_isEver_25 (by decide) ?_
      have ho0 : (1 : Int32) = or_ := congrArg (fun z : Int32 => z) (Option.some.inj h)
      exact W.zret (v := 1) hx hb hr (by decide) (fun t ht hW => ⟨⟨1, (), rfl, ho0, by rw [ht]; exact hP, va_K.moved hW.alike hK, hD⟩, hS.F ht⟩) hS.2.2 dX5_isEver_29
  refine (eG2 _ _ _ _ _).mpr ?_
  have h := hr5
  refine lv_if_ne (tgt := 11) hx hb dX5_isEver_1 (by decide) (fun c9 => ?_) (fun c9 => ?_)
  · have h := zN c9 h
    refine lv_aload_n hx hb dX5_isEver_11 rfl (lv_at hl 0 rfl) ?_
    refine va_get (D := (dC, dI)) (ci := 4) (v := .long (gL S5 2)) (C := RX5) (T := TX5) (N := 5) hx hb hts inX5_ hown hK hP 0 rfl rfl 2 (by decide) (hts (.fieldLink RX5 23 "GateWheel$Worlds" "ones" "J") (List.mem_of_getElem? (i := 2) rfl)) (fun _ h9 => h9) rfl dX5_isEver_12 ?_
    exact (eG2 _ _ _ _ _).mp (jn3 (gL S5 2) _ _ _ (Option.some.inj h) hP hD hS (lv_sub hl [1] rfl))
  · have h := zY c9 h
    refine lv_aload_n hx hb dX5_isEver_4 rfl (lv_at hl 0 rfl) ?_
    refine va_get (D := (dC, dI)) (ci := 4) (v := .long (gL S5 1)) (C := RX5) (T := TX5) (N := 5) hx hb hts inX5_ hown hK hP 0 rfl rfl 1 (by decide) (hts (.fieldLink RX5 19 "GateWheel$Worlds" "zeros" "J") (List.mem_of_getElem? (i := 1) rfl)) (fun _ h9 => h9) rfl dX5_isEver_5 ?_
    refine lv_goto (tgt := 15) hx hb dX5_isEver_8 (by decide) ?_
    exact (eG2 _ _ _ _ _).mp (jn3 (gL S5 1) _ _ _ (Option.some.inj h) hP hD hS (lv_sub hl [1] rfl))

set_option maxHeartbeats 4000000 in
set_option maxRecDepth 100000 in
theorem m_X5_sharpValue (l : Launch) (dC : Nat → ClassId) (dI : Nat → Nat → Nat) (y : Nat → ClassId) (a5 : Nat) (h5 : Nat → Nat) (S5 : SS) (p1 : Int32) (sz : Nat) (or_ : Int32) (h : f_X5_sharpValue S5 p1 = some or_) : Met l yX5_sharpValue wsX5_sharpValue ({ frames := 1, cells := 0, slots := 0, locals := 22 }) (va_Pc [.ref a5, .int p1] (fun U => U.heap.size = sz ∧ va_P (dC, dI) vwCl (cX5 a5 h5 y S5) U.heap ∧ va_K (dC, dI) vwCl [(y 0, .int), (y 1, .long), (y 2, .byte), (y 3, .boolean)] U ∧ va_D (fun _ => True) (cX5 a5 h5 y S5))) (va_Qi (fun (r : Int32) (_ : Unit) => r = or_) (fun (_ : Unit) (t : State) => va_P (dC, dI) vwCl (cX5 a5 h5 y S5) t.heap ∧ va_K (dC, dI) vwCl [(y 0, .int), (y 1, .long), (y 2, .byte), (y 3, .boolean)] t ∧ va_D (va_A (cX5 a5 h5 y S5) sz) (cX5 a5 h5 y S5)) (va_A (cX5 a5 h5 y S5) sz)) 0 0 (va_A (cX5 a5 h5 y S5) sz) := by
  refine Met.ofW (cc := cX5_sharpValue) (maxL := 2) (ret := (some .int)) (by decide +kernel) rfl ?_
  intro p e s m args below meth c s₁ B hml hv
  obtain ⟨rfl, hsz, hP, hK, hD0⟩ := hv
  have hx := B.exec
  have hb := B.bytes
  have hr := B.returns
  have hts := atoms_spec (ws := wsX5_sharpValue) B.pre
  have hown : s.vm.findClass RX5 = some m.cls := findClass_of_methodNamed B.named
  have hlocks := B.notSynchronized
  have inX5_ : ∀ w ∈ wsX50, w ∈ wsX5_sharpValue := fun _ h => List.mem_cons_of_mem _ (List.mem_append_right _ h)
  subst hsz
  have hD := hD0.self (sz := s.heap.size)
  generalize hAe : va_A (cX5 a5 h5 y S5) s.heap.size = A at hD ⊢
  have hA : ∀ q : Nat, s.heap.size ≤ q → A q := fun q h => by rw [← hAe]; exact Or.inr h
  have hS : va_S A s.heap s.heap [] := va_S.rf
  have hP : va_P (dC, dI) vwCl (cX5 a5 h5 y S5) s.heap := hP
  have hl := lv_entry ([.ref a5, .int p1]) (n := 2) (Nat.le_of_ble_eq_true rfl)
  rw [lg_entry_eq]
  generalize (lg_sl ([.ref a5, .int p1]) ++ List.replicate (2 - (lg_sl ([.ref a5, .int p1])).length) Slot.unset).toArray = ls at hl ⊢
  have hl : lv_has ls 2 [(0, .ref a5), (1, .int p1)] := hl
  refine lv_aload_n hx hb dX5_sharpValue_0 rfl (lv_at hl 0 rfl) ?_
  refine va_get (D := (dC, dI)) (ci := 4) (v := .int (gI S5 0)) (C := RX5) (T := TX5) (N := 5) hx hb hts inX5_ hown hK hP 0 rfl rfl 0 (by decide) (hts (.fieldLink RX5 15 "GateWheel$Worlds" "legalCount" "I") (List.mem_of_getElem? (i := 1) rfl)) (fun _ h9 => h9) rfl dX5_sharpValue_1 ?_
  refine lv_if_ne (tgt := 9) hx hb dX5_sharpValue_4 (by decide) (fun c1 => ?_) (fun c1 => ?_)
  · have h := zN c1 h
    refine lv_aload_n hx hb dX5_sharpValue_9 rfl (lv_at hl 0 rfl) ?_
    refine lv_iload_n hx hb dX5_sharpValue_10 rfl (lv_at hl 1 rfl) ?_
    refine lv_iconst (v := 0) hx hb dX5_sharpValue_11 (by decide) ?_
    obtain ⟨r2, hc3, h⟩ := zB_spec h
    have hFc := zFree hD hS hA
    refine va_calli (va_runV (As := [.int p1, .int 0]) (rest := []) ⟨hx, hb, hml, hown, hts⟩ (m_X5_isEver l dC dI y a5 h5 S5 p1 (0 : Int32) s.heap.size r2 hc3) (cwV 2 hts gX5_sharpValue_X5_isEver rfl rfl rfl (by decide +kernel) ⟨Nat.le_of_ble_eq_true rfl, Nat.le_of_ble_eq_true rfl⟩) ⟨fun a U g mk q => by obtain ⟨q0, q1, qP, qK, qD⟩ := q; exact ⟨q0, q1, qP, va_K.moved (u := U) (U := U.calling g mk a) (Vm.Alike.refl U.vm) qK, qD⟩, va_recv hK hP (ci := 4) (q0 := 0) rfl rfl, fun U hU hW => ⟨rfl, by rw [hU], by rw [hU]; exact hP, va_K.moved hW.alike hK, hD.weaken (fun _ _ _ _ => trivial)⟩⟩ rfl rfl hl.1 rfl (lv_room (Nat.le_of_ble_eq_true rfl)) dX5_sharpValue_12 ⟨Nat.le_of_ble_eq_true rfl, Nat.le_of_ble_eq_true rfl⟩) hS (fun q _ h => hFc q h) hFc (fun rr5 u t H4 locs ht hvm hw hB hz1 hk1 hS => ?_)
    obtain ⟨hP1, hK1, hD1⟩ := hB
    rw [ht] at hP1
    refine zTopi hw.symm ?_
    have hP := hP1
    have hD := hD1.weaken (fun _ q _ h => hFc q.1 h)
    have hP : va_P (dC, dI) vwCl (cX5 a5 h5 y S5) H4 := hP
    have hD : va_D A (cX5 a5 h5 y S5) := hD
    refine lv_if_eq (tgt := 33) hx hb dX5_sharpValue_15 (by decide) (fun c6 => ?_) (fun c6 => ?_)
    · have h := zY c6 h
      refine lv_iconst (v := 1) hx hb dX5_sharpValue_33 (by decide) ?_
      have ho0 : (1 : Int32) = or_ := congrArg (fun z : Int32 => z) (Option.some.inj h)
      exact W.iret (v := 1) hx hb hr (fun t ht hW => ⟨⟨1, (), rfl, ho0, by rw [ht]; exact hP, va_K.moved hW.alike hK, hD⟩, hS.F ht⟩) hS.2.2 dX5_sharpValue_34
    · have h := zN c6 h
      refine lv_aload_n hx hb dX5_sharpValue_18 rfl (lv_at hl 0 rfl) ?_
      refine lv_iload_n hx hb dX5_sharpValue_19 rfl (lv_at hl 1 rfl) ?_
      refine lv_iconst (v := 1) hx hb dX5_sharpValue_20 (by decide) ?_
      obtain ⟨r7, hc8, h⟩ := zB_spec h
      have hFc := zFree hD hS hA
      refine va_calli (va_runV (As := [.int p1, .int 1]) (rest := []) ⟨hx, hb, hml, hown, hts⟩ (m_X5_isEver l dC dI y a5 h5 S5 p1 (1 : Int32) H4.size r7 hc8) (cwV 2 hts gX5_sharpValue_X5_isEver rfl rfl rfl (by decide +kernel) ⟨Nat.le_of_ble_eq_true rfl, Nat.le_of_ble_eq_true rfl⟩) ⟨fun a U g mk q => by obtain ⟨q0, q1, qP, qK, qD⟩ := q; exact ⟨q0, q1, qP, va_K.moved (u := U) (U := U.calling g mk a) (Vm.Alike.refl U.vm) qK, qD⟩, va_recv hK hP (ci := 4) (q0 := 0) rfl rfl, fun U hU hW => ⟨rfl, by rw [hU], by rw [hU]; exact hP, va_K.moved hW.alike hK, hD.weaken (fun _ _ _ _ => trivial)⟩⟩ rfl rfl hl.1 rfl (lv_room (Nat.le_of_ble_eq_true rfl)) dX5_sharpValue_21 ⟨Nat.le_of_ble_eq_true rfl, Nat.le_of_ble_eq_true rfl⟩) hS (fun q _ h => hFc q h) hFc (fun rr10 u t H9 locs ht hvm hw hB hz1 hk1 hS => ?_)
      obtain ⟨hP1, hK1, hD1⟩ := hB
      rw [ht] at hP1
      refine zTopi hw.symm ?_
      have hP := hP1
      have hD := hD1.weaken (fun _ q _ h => hFc q.1 h)
      have hP : va_P (dC, dI) vwCl (cX5 a5 h5 y S5) H9 := hP
      have hD : va_D A (cX5 a5 h5 y S5) := hD
      refine lv_if_eq (tgt := 31) hx hb dX5_sharpValue_24 (by decide) (fun c11 => ?_) (fun c11 => ?_)
      · have h := zY c11 h
        refine lv_iconst (v := 0) hx hb dX5_sharpValue_31 (by decide) ?_
        have ho0 : (0 : Int32) = or_ := congrArg (fun z : Int32 => z) (Option.some.inj h)
        exact W.iret (v := 0) hx hb hr (fun t ht hW => ⟨⟨0, (), rfl, ho0, by rw [ht]; exact hP, va_K.moved hW.alike hK, hD⟩, hS.F ht⟩) hS.2.2 dX5_sharpValue_32
      · have h := zN c11 h
        refine lv_iconst (v := 2) hx hb dX5_sharpValue_27 (by decide) ?_
        refine lv_goto (tgt := 32) hx hb dX5_sharpValue_28 (by decide) ?_
        have ho0 : (2 : Int32) = or_ := congrArg (fun z : Int32 => z) (Option.some.inj h)
        exact W.iret (v := 2) hx hb hr (fun t ht hW => ⟨⟨2, (), rfl, ho0, by rw [ht]; exact hP, va_K.moved hW.alike hK, hD⟩, hS.F ht⟩) hS.2.2 dX5_sharpValue_32
  · have h := zY c1 h
    refine lv_iconst (v := 3) hx hb dX5_sharpValue_7 (by decide) ?_
    have ho0 : (3 : Int32) = or_ := congrArg (fun z : Int32 => z) (Option.some.inj h)
    exact W.iret (v := 3) hx hb hr (fun t ht hW => ⟨⟨3, (), rfl, ho0, by rw [ht]; exact hP, va_K.moved hW.alike hK, hD⟩, hS.F ht⟩) hS.2.2 dX5_sharpValue_8
