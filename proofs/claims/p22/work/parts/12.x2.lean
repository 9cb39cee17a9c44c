noncomputable def f_X2_takenIn (p1 : Int32) : Option (Int32) :=
  if p1 = (3 : Int32) then some (2 : Int32)
  else some p1

noncomputable def f_X2_isTurned (p1 : Int32) : Option (Int32) :=
  if (p1 &&& (1 : Int32)) = (1 : Int32) then some (1 : Int32)
  else some (0 : Int32)

noncomputable def f_X2_plainValue (p1 : Int32) (p2 : Int32) (p3 : Int32) (p4 : Int32) : Option (Int32) :=
  zB (if (p2 + p3) = p4 then some (1 : Int32)
  else some (0 : Int32)) (fun (v7 : Int32) =>
  if p1 = (2 : Int32) then if p3 ≤ (0 : Int32) then if v7 = (0 : Int32) then some (2 : Int32)
  else some (0 : Int32)
  else some (1 : Int32)
  else if p1 = (4 : Int32) then if v7 = (0 : Int32) then some (2 : Int32)
  else some (p3 &&& (1 : Int32))
  else if p2 ≤ (0 : Int32) then if v7 = (0 : Int32) then some (2 : Int32)
  else some (1 : Int32)
  else some (0 : Int32))

noncomputable def f_X2_muxValue (S0 : SS) (fw : Nat → Int32) (p1 : Int32) : Option (Int32) :=
  zB (f_X0_part S0 p1 (0 : Int32)) (fun (r1 : Int32) =>
  zG (vp_in r1 60) (
  zL (fw r1.toNatClampNeg) (fun v6 =>
  zB (f_X0_part S0 p1 (1 : Int32)) (fun (r7 : Int32) =>
  zG (vp_in r7 60) (
  zB (f_X2_takenIn (fw r7.toNatClampNeg)) (fun (r12 : Int32) =>
  zB (f_X0_part S0 p1 (2 : Int32)) (fun (r16 : Int32) =>
  zG (vp_in r16 60) (
  zB (f_X2_takenIn (fw r16.toNatClampNeg)) (fun (r21 : Int32) =>
  if v6 = (0 : Int32) then some r12
  else if v6 = (1 : Int32) then some r21
  else if r12 = r21 then some r12
  else some (2 : Int32))))))))))

noncomputable def b_X2_gateValue_36 (S0 : SS) (fw : Nat → Int32) (p1 : Int32) (r4 : Int32) : (Int32 × Int32 × Int32) → Option ((Int32 × Int32 × Int32) ⊕ (Int32 × Int32)) := fun (v29, v30, v31) =>
  if r4 ≤ v31 then some (Sum.inr (v29, v30))
  else zB (f_X0_part S0 p1 v31) (fun (r33 : Int32) =>
  zG (vp_in r33 60) (
  zL (fw r33.toNatClampNeg) (fun v38 =>
  zB (if v38 = (0 : Int32) then some (1 : Int32)
  else some (0 : Int32)) (fun (v45 : Int32) =>
  zL (v29 + v45) (fun v46 =>
  if v38 = (1 : Int32) then zL (v30 + (1 : Int32)) (fun v50 =>
  zL (v31 + 1) (fun v51 =>
  some (Sum.inl (v46, v50, v51))))
  else zL (v30 + (0 : Int32)) (fun v48 =>
  zL (v31 + 1) (fun v49 =>
  some (Sum.inl (v46, v48, v49)))))))))
noncomputable def f_X2_gateValue (S0 : SS) (fw : Nat → Int32) (p1 : Int32) : Option (Int32) :=
  zG (vp_in p1 60) (
  zL (gA S0 5 p1.toNatClampNeg) (fun v2 =>
  if v2 = (8 : Int32) then zB (f_X2_muxValue S0 fw p1) (fun (r53 : Int32) =>
  some r53)
  else zB (f_X0_size S0 p1) (fun (r4 : Int32) =>
  zB (zI (b_X2_gateValue_36 S0 fw p1 r4) zF ((0 : Int32), (0 : Int32), (0 : Int32))) (fun ((v17, v18) : Int32 × Int32) =>
  zB (f_X2_plainValue (v2 &&& (-2 : Int32)) v17 v18 r4) (fun (r19 : Int32) =>
  zB (f_X2_isTurned v2) (fun (r23 : Int32) =>
  if r23 = (0 : Int32) then some r19
  else if (2 : Int32) ≤ r19 then some r19
  else some ((1 : Int32) - r19)))))))

noncomputable def f_X2_driverValue (S0 : SS) (fw : Nat → Int32) (p1 : Int32) (p2 : Int32) : Option (Int32) :=
  zB (f_X0_part S0 p1 ((2 : Int32) * p2)) (fun (r1 : Int32) =>
  zG (vp_in r1 60) (
  zL (fw r1.toNatClampNeg) (fun v6 =>
  zB (f_X0_part S0 p1 (((2 : Int32) * p2) + (1 : Int32))) (fun (r7 : Int32) =>
  zG (vp_in r7 60) (
  zL (fw r7.toNatClampNeg) (fun v12 =>
  if v12 < (2 : Int32) then zB (f_X0_isLow S0 p1 p2) (fun (r14 : Int32) =>
  zB (if r14 = (0 : Int32) then some (1 : Int32)
  else some (0 : Int32)) (fun (v24 : Int32) =>
  if v12 = v24 then zB (f_X2_takenIn v6) (fun (r26 : Int32) =>
  some r26)
  else some (3 : Int32)))
  else some (2 : Int32)))))))

noncomputable def b_X2_busValue_12 (S0 : SS) (fw : Nat → Int32) (p1 : Int32) (r1 : Int32) : (Int32 × Int32) → Option ((Int32 × Int32) ⊕ (Int32)) := fun (v14, v15) =>
  if r1 ≤ v15 then some (Sum.inr v14)
  else zB (f_X2_driverValue S0 fw p1 v15) (fun (r17 : Int32) =>
  if v14 = (3 : Int32) then zL (v15 + 1) (fun v27 =>
  some (Sum.inl (r17, v27)))
  else if r17 = (3 : Int32) then zL (v15 + 1) (fun v23 =>
  some (Sum.inl (v14, v23)))
  else if r17 = v14 then zL (v15 + 1) (fun v25 =>
  some (Sum.inl (v14, v25)))
  else zL (v15 + 1) (fun v26 =>
  some (Sum.inl ((2 : Int32), v26))))
noncomputable def f_X2_busValue (S0 : SS) (fw : Nat → Int32) (p1 : Int32) : Option (Int32) :=
  zB (f_X0_size S0 p1) (fun (r1 : Int32) =>
  zI (b_X2_busValue_12 S0 fw p1 r1) zF ((3 : Int32), (0 : Int32)))

noncomputable def b_X2_settle_2 (S0 : SS) : (Int32 × (Nat → Int32)) → Option ((Int32 × (Nat → Int32)) ⊕ ((Nat → Int32))) := fun (v10, sw_11) =>
  if (gI S0 0) ≤ v10 then some (Sum.inr sw_11)
  else zG (vp_in v10 60) (
  zL (gA S0 12 v10.toNatClampNeg) (fun v14 =>
  zG (vp_in v14 60) (
  if (gA S0 4 v14.toNatClampNeg) = (2 : Int32) then zB (f_X2_gateValue S0 sw_11 v14) (fun (r26 : Int32) =>
  zL (upd sw_11 v14.toNatClampNeg r26) (fun sw_31 =>
  zL (v10 + 1) (fun v32 =>
  some (Sum.inl (v32, sw_31)))))
  else if (gA S0 4 v14.toNatClampNeg) = (1 : Int32) then zB (f_X2_busValue S0 sw_11 v14) (fun (r19 : Int32) =>
  zL (upd sw_11 v14.toNatClampNeg r19) (fun sw_24 =>
  zL (v10 + 1) (fun v25 =>
  some (Sum.inl (v25, sw_24)))))
  else zL (v10 + 1) (fun v18 =>
  some (Sum.inl (v18, sw_11))))))
noncomputable def f_X2_settle (S0 : SS) (fw : Nat → Int32) : Option ((Nat → Int32)) :=
  zI (b_X2_settle_2 S0) zF ((0 : Int32), fw)

noncomputable def f_X2_afterTick (S0 : SS) (fw : Nat → Int32) (p1 : Int32) : Option (Int32) :=
  zG (vp_in p1 60) (
  zL (fw p1.toNatClampNeg) (fun v2 =>
  zB (f_X0_part S0 p1 (0 : Int32)) (fun (r3 : Int32) =>
  zG (vp_in r3 60) (
  zB (f_X2_takenIn (fw r3.toNatClampNeg)) (fun (r8 : Int32) =>
  zB (f_X0_size S0 p1) (fun (r12 : Int32) =>
  zB (if r12 ≤ (1 : Int32) then some (1 : Int32)
  else zB (f_X0_part S0 p1 (1 : Int32)) (fun (r27 : Int32) =>
  zG (vp_in r27 60) (
  some (fw r27.toNatClampNeg)))) (fun (v22 : Int32) =>
  if v22 = (1 : Int32) then some r8
  else if v22 = (0 : Int32) then some v2
  else if r8 = v2 then some v2
  else some (2 : Int32))))))))

set_option maxHeartbeats 4000000 in
set_option maxRecDepth 100000 in
theorem m_X2_takenIn (l : Launch) (dC : Nat → ClassId) (dI : Nat → Nat → Nat) (y : Nat → ClassId) (p1 : Int32) (sz : Nat) (or_ : Int32) (h : f_X2_takenIn p1 = some or_) : Met l yX2_takenIn wsX2_takenIn ({ frames := 0, cells := 0, slots := 0, locals := 0 }) (va_Pc [.int p1] (fun U => U.heap.size = sz ∧ va_P (dC, dI) vwCl [] U.heap ∧ va_K (dC, dI) vwCl [(y 0, .int), (y 1, .long), (y 2, .byte), (y 3, .boolean)] U ∧ va_D (fun _ => True) [])) (va_Qi (fun (r : Int32) (_ : Unit) => r = or_) (fun (_ : Unit) (t : State) => va_P (dC, dI) vwCl [] t.heap ∧ va_K (dC, dI) vwCl [(y 0, .int), (y 1, .long), (y 2, .byte), (y 3, .boolean)] t ∧ va_D (va_A [] sz) []) (va_A [] sz)) 0 0 (va_A [] sz) := by
  refine Met.ofW (cc := cX2_takenIn) (maxL := 1) (ret := (some .int)) (by decide +kernel) rfl ?_
  intro p e s m args below meth c s₁ B hml hv
  obtain ⟨rfl, hsz, hP, hK, hD0⟩ := hv
  have hx := B.exec
  have hb := B.bytes
  have hr := B.returns
  have hts := atoms_spec (ws := wsX2_takenIn) B.pre
  have hown : s.vm.findClass RX2 = some m.cls := findClass_of_methodNamed B.named
  have hlocks := B.notSynchronized
  subst hsz
  have hD := hD0.self (sz := s.heap.size)
  generalize hAe : va_A [] s.heap.size = A at hD ⊢
  have hA : ∀ q : Nat, s.heap.size ≤ q → A q := fun q h => by rw [← hAe]; exact Or.inr h
  have hS : va_S A s.heap s.heap [] := va_S.rf
  have hP : va_P (dC, dI) vwCl [] s.heap := hP
  have hl := lv_entry ([.int p1]) (n := 1) (Nat.le_of_ble_eq_true rfl)
  rw [lg_entry_eq]
  generalize (lg_sl ([.int p1]) ++ List.replicate (1 - (lg_sl ([.int p1])).length) Slot.unset).toArray = ls at hl ⊢
  have hl : lv_has ls 1 [(0, .int p1)] := hl
  refine lv_iload_n hx hb dX2_takenIn_0 rfl (lv_at hl 0 rfl) ?_
  refine lv_iconst (v := 3) hx hb dX2_takenIn_1 (by decide) ?_
  refine lv_icmp_ne (tgt := 9) hx hb dX2_takenIn_2 (by decide) (fun c1 => ?_) (fun c1 => ?_)
  · have h := zN c1 h
    refine lv_iload_n hx hb dX2_takenIn_9 rfl (lv_at hl 0 rfl) ?_
    have ho0 : p1 = or_ := congrArg (fun z : Int32 => z) (Option.some.inj h)
    exact W.iret (v := p1) hx hb hr (fun t ht hW => ⟨⟨p1, (), rfl, ho0, by rw [ht]; exact hP, va_K.moved hW.alike hK, hD⟩, hS.F ht⟩) hS.2.2 dX2_takenIn_10
  · have h := zY c1 h
    refine lv_iconst (v := 2) hx hb dX2_takenIn_5 (by decide) ?_
    refine lv_goto (tgt := 10) hx hb dX2_takenIn_6 (by decide) ?_
    have ho0 : (2 : Int32) = or_ := congrArg (fun z : Int32 => z) (Option.some.inj h)
    exact W.iret (v := 2) hx hb hr (fun t ht hW => ⟨⟨2, (), rfl, ho0, by rw [ht]; exact hP, va_K.moved hW.alike hK, hD⟩, hS.F ht⟩) hS.2.2 dX2_takenIn_10

set_option maxHeartbeats 4000000 in
set_option maxRecDepth 100000 in
theorem m_X2_isTurned (l : Launch) (dC : Nat → ClassId) (dI : Nat → Nat → Nat) (y : Nat → ClassId) (p1 : Int32) (sz : Nat) (or_ : Int32) (h : f_X2_isTurned p1 = some or_) : Met l yX2_isTurned wsX2_isTurned ({ frames := 0, cells := 0, slots := 0, locals := 0 }) (va_Pc [.int p1] (fun U => U.heap.size = sz ∧ va_P (dC, dI) vwCl [] U.heap ∧ va_K (dC, dI) vwCl [(y 0, .int), (y 1, .long), (y 2, .byte), (y 3, .boolean)] U ∧ va_D (fun _ => True) [])) (va_Qi (fun (r : Int32) (_ : Unit) => r = or_) (fun (_ : Unit) (t : State) => va_P (dC, dI) vwCl [] t.heap ∧ va_K (dC, dI) vwCl [(y 0, .int), (y 1, .long), (y 2, .byte), (y 3, .boolean)] t ∧ va_D (va_A [] sz) []) (va_A [] sz)) 0 0 (va_A [] sz) := by
  refine Met.ofW (cc := cX2_isTurned) (maxL := 1) (ret := (some .boolean)) (by decide +kernel) rfl ?_
  intro p e s m args below meth c s₁ B hml hv
  obtain ⟨rfl, hsz, hP, hK, hD0⟩ := hv
  have hx := B.exec
  have hb := B.bytes
  have hr := B.returns
  have hts := atoms_spec (ws := wsX2_isTurned) B.pre
  have hown : s.vm.findClass RX2 = some m.cls := findClass_of_methodNamed B.named
  have hlocks := B.notSynchronized
  subst hsz
  have hD := hD0.self (sz := s.heap.size)
  generalize hAe : va_A [] s.heap.size = A at hD ⊢
  have hA : ∀ q : Nat, s.heap.size ≤ q → A q := fun q h => by rw [← hAe]; exact Or.inr h
  have hS : va_S A s.heap s.heap [] := va_S.rf
  have hP : va_P (dC, dI) vwCl [] s.heap := hP
  have hl := lv_entry ([.int p1]) (n := 1) (Nat.le_of_ble_eq_true rfl)
  rw [lg_entry_eq]
  generalize (lg_sl ([.int p1]) ++ List.replicate (1 - (lg_sl ([.int p1])).length) Slot.unset).toArray = ls at hl ⊢
  have hl : lv_has ls 1 [(0, .int p1)] := hl
  refine lv_iload_n hx hb dX2_isTurned_0 rfl (lv_at hl 0 rfl) ?_
  refine lv_iconst (v := 1) hx hb dX2_isTurned_1 (by decide) ?_
  refine lv_iand hx hb dX2_isTurned_2 ?_
  refine lv_iconst (v := 1) hx hb dX2_isTurned_3 (by decide) ?_
  refine lv_icmp_ne (tgt := 11) hx hb dX2_isTurned_4 (by decide) (fun c1 => ?_) (fun c1 => ?_)
  · have h := zN c1 h
    refine lv_iconst (v := 0) hx hb dX2_isTurned_11 (by decide) ?_
    have ho0 : (0 : Int32) = or_ := congrArg (fun z : Int32 => z) (Option.some.inj h)
    exact W.zret (v := 0) hx hb hr (by decide) (fun t ht hW => ⟨⟨0, (), rfl, ho0, by rw [ht]; exact hP, va_K.moved hW.alike hK, hD⟩, hS.F ht⟩) hS.2.2 dX2_isTurned_12
  · have h := zY c1 h
    refine lv_iconst (v := 1) hx hb dX2_isTurned_7 (by decide) ?_
    refine lv_goto (tgt := 12) hx hb dX2_isTurned_8 (by decide) ?_
    have ho0 : (1 : Int32) = or_ := congrArg (fun z : Int32 => z) (Option.some.inj h)
    exact W.zret (v := 1) hx hb hr (by decide) (fun t ht hW => ⟨⟨1, (), rfl, ho0, by rw [ht]; exact hP, va_K.moved hW.alike hK, hD⟩, hS.F ht⟩) hS.2.2 dX2_isTurned_12

set_option maxHeartbeats 4000000 in
set_option maxRecDepth 100000 in
theorem m_X2_plainValue (l : Launch) (dC : Nat → ClassId) (dI : Nat → Nat → Nat) (y : Nat → ClassId) (p1 : Int32) (p2 : Int32) (p3 : Int32) (p4 : Int32) (sz : Nat) (or_ : Int32) (h : f_X2_plainValue p1 p2 p3 p4 = some or_) : Met l yX2_plainValue wsX2_plainValue ({ frames := 0, cells := 0, slots := 0, locals := 0 }) (va_Pc [.int p1, .int p2, .int p3, .int p4] (fun U => U.heap.size = sz ∧ va_P (dC, dI) vwCl [] U.heap ∧ va_K (dC, dI) vwCl [(y 0, .int), (y 1, .long), (y 2, .byte), (y 3, .boolean)] U ∧ va_D (fun _ => True) [])) (va_Qi (fun (r : Int32) (_ : Unit) => r = or_) (fun (_ : Unit) (t : State) => va_P (dC, dI) vwCl [] t.heap ∧ va_K (dC, dI) vwCl [(y 0, .int), (y 1, .long), (y 2, .byte), (y 3, .boolean)] t ∧ va_D (va_A [] sz) []) (va_A [] sz)) 0 0 (va_A [] sz) := by
  refine Met.ofW (cc := cX2_plainValue) (maxL := 5) (ret := (some .int)) (by decide +kernel) rfl ?_
  intro p e s m args below meth c s₁ B hml hv
  obtain ⟨rfl, hsz, hP, hK, hD0⟩ := hv
  have hx := B.exec
  have hb := B.bytes
  have hr := B.returns
  have hts := atoms_spec (ws := wsX2_plainValue) B.pre
  have hown : s.vm.findClass RX2 = some m.cls := findClass_of_methodNamed B.named
  have hlocks := B.notSynchronized
  subst hsz
  have hD := hD0.self (sz := s.heap.size)
  generalize hAe : va_A [] s.heap.size = A at hD ⊢
  have hA : ∀ q : Nat, s.heap.size ≤ q → A q := fun q h => by rw [← hAe]; exact Or.inr h
  have hS : va_S A s.heap s.heap [] := va_S.rf
  have hP : va_P (dC, dI) vwCl [] s.heap := hP
  have hl := lv_entry ([.int p1, .int p2, .int p3, .int p4]) (n := 5) (Nat.le_of_ble_eq_true rfl)
  rw [lg_entry_eq]
  generalize (lg_sl ([.int p1, .int p2, .int p3, .int p4]) ++ List.replicate (5 - (lg_sl ([.int p1, .int p2, .int p3, .int p4])).length) Slot.unset).toArray = ls at hl ⊢
  have hl : lv_has ls 5 [(0, .int p1), (1, .int p2), (2, .int p3), (3, .int p4)] := hl
  refine lv_iload_n hx hb dX2_plainValue_0 rfl (lv_at hl 1 rfl) ?_
  refine lv_iload_n hx hb dX2_plainValue_1 rfl (lv_at hl 2 rfl) ?_
  refine lv_iadd hx hb dX2_plainValue_2 ?_
  refine lv_iload_n hx hb dX2_plainValue_3 rfl (lv_at hl 3 rfl) ?_
  refine W_abs (fun GW1 eG2 => ?_)
  obtain ⟨ov4, hr5, h⟩ := zB_spec h
  have jn3 : ∀ (v7 : Int32) (HGW1 : Heap) (locs : List Loc) (ls : Array Slot), v7 = ov4 → va_P (dC, dI) vwCl [] HGW1 → va_D A [] → va_S A s.heap HGW1 locs → lv_has ls 5 [(0, .int p1), (1, .int p2), (2, .int p3)] → GW1 HGW1 locs 0 0 (F0 m 12 ls [.int v7]) := by
    intro v7 HGW1 locs ls hv hP hD hS hl
    subst hv
    refine (eG2 _ _ _ _ _).mpr ?_
    refine lv_istore (lv' := [(4, .int v7), (0, .int p1), (1, .int p2), (2, .int p3)]) hx hb dX2_plainValue_12 hl (by decide) rfl (fun ls hl => ?_)
    refine lv_iload_n hx hb dX2_plainValue_14 rfl (lv_at hl 1 rfl) ?_
    by_cases k8 : p1 = 2
    · have h := zY k8 h
      refine lv_lookup (off := 25) (tgt := 40) hx hb dX2_plainValue_15 (by decide) (by rw [k8]; rfl) (by decide) ?_
      refine lv_iload_n hx hb dX2_plainValue_40 rfl (lv_at hl 3 rfl) ?_
      refine lv_if_le (tgt := 48) hx hb dX2_plainValue_41 (by decide) (fun c9 => ?_) (fun c9 => ?_)
      · have h := zY c9 h
        refine lv_iload hx hb dX2_plainValue_48 (lv_at hl 0 rfl) ?_
        refine lv_if_eq (tgt := 57) hx hb dX2_plainValue_50 (by decide) (fun c10 => ?_) (fun c10 => ?_)
        · have h := zY c10 h
          refine lv_iconst (v := 2) hx hb dX2_plainValue_57 (by decide) ?_
          have ho0 : (2 : Int32) = or_ := congrArg (fun z : Int32 => z) (Option.some.inj h)
          exact W.iret (v := 2) hx hb hr (fun t ht hW => ⟨⟨2, (), rfl, ho0, by rw [ht]; exact hP, va_K.moved hW.alike hK, hD⟩, hS.F ht⟩) hS.2.2 dX2_plainValue_58
        · have h := zN c10 h
          refine lv_iconst (v := 0) hx hb dX2_plainValue_53 (by decide) ?_
          refine lv_goto (tgt := 58) hx hb dX2_plainValue_54 (by decide) ?_
          have ho0 : (0 : Int32) = or_ := congrArg (fun z : Int32 => z) (Option.some.inj h)
          exact W.iret (v := 0) hx hb hr (fun t ht hW => ⟨⟨0, (), rfl, ho0, by rw [ht]; exact hP, va_K.moved hW.alike hK, hD⟩, hS.F ht⟩) hS.2.2 dX2_plainValue_58
      · have h := zN c9 h
        refine lv_iconst (v := 1) hx hb dX2_plainValue_44 (by decide) ?_
        refine lv_goto (tgt := 58) hx hb dX2_plainValue_45 (by decide) ?_
        have ho0 : (1 : Int32) = or_ := congrArg (fun z : Int32 => z) (Option.some.inj h)
        exact W.iret (v := 1) hx hb hr (fun t ht hW => ⟨⟨1, (), rfl, ho0, by rw [ht]; exact hP, va_K.moved hW.alike hK, hD⟩, hS.F ht⟩) hS.2.2 dX2_plainValue_58
    replace h := zN k8 h
    by_cases k11 : p1 = 4
    · have h := zY k11 h
      refine lv_lookup (off := 44) (tgt := 59) hx hb dX2_plainValue_15 (by decide) (by rw [k11]; rfl) (by decide) ?_
      refine lv_iload hx hb dX2_plainValue_59 (lv_at hl 0 rfl) ?_
      refine lv_if_eq (tgt := 70) hx hb dX2_plainValue_61 (by decide) (fun c12 => ?_) (fun c12 => ?_)
      · have h := zY c12 h
        refine lv_iconst (v := 2) hx hb dX2_plainValue_70 (by decide) ?_
        have ho0 : (2 : Int32) = or_ := congrArg (fun z : Int32 => z) (Option.some.inj h)
        exact W.iret (v := 2) hx hb hr (fun t ht hW => ⟨⟨2, (), rfl, ho0, by rw [ht]; exact hP, va_K.moved hW.alike hK, hD⟩, hS.F ht⟩) hS.2.2 dX2_plainValue_71
      · have h := zN c12 h
        refine lv_iload_n hx hb dX2_plainValue_64 rfl (lv_at hl 3 rfl) ?_
        refine lv_iconst (v := 1) hx hb dX2_plainValue_65 (by decide) ?_
        refine lv_iand hx hb dX2_plainValue_66 ?_
        refine lv_goto (tgt := 71) hx hb dX2_plainValue_67 (by decide) ?_
        have ho0 : (p3 &&& (1 : Int32)) = or_ := congrArg (fun z : Int32 => z) (Option.some.inj h)
        exact W.iret (v := (p3 &&& (1 : Int32))) hx hb hr (fun t ht hW => ⟨⟨(p3 &&& (1 : Int32)), (), rfl, ho0, by rw [ht]; exact hP, va_K.moved hW.alike hK, hD⟩, hS.F ht⟩) hS.2.2 dX2_plainValue_71
    replace h := zN k11 h
    refine lv_lookup (off := 57) (tgt := 72) hx hb dX2_plainValue_15 (by decide) ((lv_osw k8 (by decide)).trans ((lv_osw k11 (by decide)).trans rfl)) (by decide) ?_
    refine lv_iload_n hx hb dX2_plainValue_72 rfl (lv_at hl 2 rfl) ?_
    refine lv_if_le (tgt := 80) hx hb dX2_plainValue_73 (by decide) (fun c13 => ?_) (fun c13 => ?_)
    · have h := zY c13 h
      refine lv_iload hx hb dX2_plainValue_80 (lv_at hl 0 rfl) ?_
      refine lv_if_eq (tgt := 89) hx hb dX2_plainValue_82 (by decide) (fun c14 => ?_) (fun c14 => ?_)
      · have h := zY c14 h
        refine lv_iconst (v := 2) hx hb dX2_plainValue_89 (by decide) ?_
        have ho0 : (2 : Int32) = or_ := congrArg (fun z : Int32 => z) (Option.some.inj h)
        exact W.iret (v := 2) hx hb hr (fun t ht hW => ⟨⟨2, (), rfl, ho0, by rw [ht]; exact hP, va_K.moved hW.alike hK, hD⟩, hS.F ht⟩) hS.2.2 dX2_plainValue_90
      · have h := zN c14 h
        refine lv_iconst (v := 1) hx hb dX2_plainValue_85 (by decide) ?_
        refine lv_goto (tgt := 90) hx hb dX2_plainValue_86 (by decide) ?_
        have ho0 : (1 : Int32) = or_ := congrArg (fun z : Int32 => z) (Option.some.inj h)
        exact W.iret (v := 1) hx hb hr (fun t ht hW => ⟨⟨1, (), rfl, ho0, by rw [ht]; exact hP, va_K.moved hW.alike hK, hD⟩, hS.F ht⟩) hS.2.2 dX2_plainValue_90
    · have h := zN c13 h
      refine lv_iconst (v := 0) hx hb dX2_plainValue_76 (by decide) ?_
      refine lv_goto (tgt := 90) hx hb dX2_plainValue_77 (by decide) ?_
      have ho0 : (0 : Int32) = or_ := congrArg (fun z : Int32 => z) (Option.some.inj h)
      exact W.iret (v := 0) hx hb hr (fun t ht hW => ⟨⟨0, (), rfl, ho0, by rw [ht]; exact hP, va_K.moved hW.alike hK, hD⟩, hS.F ht⟩) hS.2.2 dX2_plainValue_90
  refine (eG2 _ _ _ _ _).mpr ?_
  have h := hr5
  refine lv_icmp_ne (tgt := 11) hx hb dX2_plainValue_4 (by decide) (fun c15 => ?_) (fun c15 => ?_)
  · have h := zN c15 h
    refine lv_iconst (v := 0) hx hb dX2_plainValue_11 (by decide) ?_
    exact (eG2 _ _ _ _ _).mp (jn3 (0 : Int32) _ _ _ (Option.some.inj h) hP hD hS (lv_sub hl [0, 1, 2] rfl))
  · have h := zY c15 h
    refine lv_iconst (v := 1) hx hb dX2_plainValue_7 (by decide) ?_
    refine lv_goto (tgt := 12) hx hb dX2_plainValue_8 (by decide) ?_
    exact (eG2 _ _ _ _ _).mp (jn3 (1 : Int32) _ _ _ (Option.some.inj h) hP hD hS (lv_sub hl [0, 1, 2] rfl))

set_option maxHeartbeats 4000000 in
set_option maxRecDepth 100000 in
theorem m_X2_muxValue (l : Launch) (dC : Nat → ClassId) (dI : Nat → Nat → Nat) (y : Nat → ClassId) (a0 : Nat) (h0 : Nat → Nat) (S0 : SS) (aw : Nat) (fw : Nat → Int32) (p1 : Int32) (sz : Nat) (or_ : Int32) (h : f_X2_muxValue S0 fw p1 = some or_) : Met l yX2_muxValue wsX2_muxValue ({ frames := 1, cells := 0, slots := 0, locals := 22 }) (va_Pc [.ref a0, .int p1, .ref aw] (fun U => U.heap.size = sz ∧ va_P (dC, dI) vwCl ((cX0 a0 h0 y S0) ++ ([(aw, .inl (y 0, 60, .inl fw))])) U.heap ∧ va_K (dC, dI) vwCl [(y 0, .int), (y 1, .long), (y 2, .byte), (y 3, .boolean)] U ∧ va_D (fun _ => True) ((cX0 a0 h0 y S0) ++ ([(aw, .inl (y 0, 60, .inl fw))])))) (va_Qi (fun (r : Int32) (_ : Unit) => r = or_) (fun (_ : Unit) (t : State) => va_P (dC, dI) vwCl ((cX0 a0 h0 y S0) ++ ([(aw, .inl (y 0, 60, .inl fw))])) t.heap ∧ va_K (dC, dI) vwCl [(y 0, .int), (y 1, .long), (y 2, .byte), (y 3, .boolean)] t ∧ va_D (va_A ((cX0 a0 h0 y S0) ++ ([(aw, .inl (y 0, 60, .inl fw))])) sz) ((cX0 a0 h0 y S0) ++ ([(aw, .inl (y 0, 60, .inl fw))]))) (va_A ((cX0 a0 h0 y S0) ++ ([(aw, .inl (y 0, 60, .inl fw))])) sz)) 0 0 (va_A ((cX0 a0 h0 y S0) ++ ([(aw, .inl (y 0, 60, .inl fw))])) sz) := by
  refine Met.ofW (cc := cX2_muxValue) (maxL := 6) (ret := (some .int)) (by decide +kernel) rfl ?_
  intro p e s m args below meth c s₁ B hml hv
  obtain ⟨rfl, hsz, hP, hK, hD0⟩ := hv
  have hx := B.exec
  have hb := B.bytes
  have hr := B.returns
  have hts := atoms_spec (ws := wsX2_muxValue) B.pre
  have hown : s.vm.findClass RX2 = some m.cls := findClass_of_methodNamed B.named
  have hlocks := B.notSynchronized
  subst hsz
  have hD := hD0.self (sz := s.heap.size)
  generalize hAe : va_A ((cX0 a0 h0 y S0) ++ ([(aw, .inl (y 0, 60, .inl fw))])) s.heap.size = A at hD ⊢
  have hA : ∀ q : Nat, s.heap.size ≤ q → A q := fun q h => by rw [← hAe]; exact Or.inr h
  have hS : va_S A s.heap s.heap [] := va_S.rf
  have hP : va_P (dC, dI) vwCl ((cX0 a0 h0 y S0) ++ ([(aw, .inl (y 0, 60, .inl fw))])) s.heap := hP
  have hl := lv_entry ([.ref a0, .int p1, .ref aw]) (n := 6) (Nat.le_of_ble_eq_true rfl)
  rw [lg_entry_eq]
  generalize (lg_sl ([.ref a0, .int p1, .ref aw]) ++ List.replicate (6 - (lg_sl ([.ref a0, .int p1, .ref aw])).length) Slot.unset).toArray = ls at hl ⊢
  have hl : lv_has ls 6 [(0, .ref a0), (1, .int p1), (2, .ref aw)] := hl
  refine lv_aload_n hx hb dX2_muxValue_0 rfl (lv_at hl 2 rfl) ?_
  refine lv_aload_n hx hb dX2_muxValue_1 rfl (lv_at hl 0 rfl) ?_
  refine lv_iload_n hx hb dX2_muxValue_2 rfl (lv_at hl 1 rfl) ?_
  refine lv_iconst (v := 0) hx hb dX2_muxValue_3 (by decide) ?_
  obtain ⟨r1, hc2, h⟩ := zB_spec h
  have hPc := hP.sub (ws' := (cX0 a0 h0 y S0)) [0, 1, 2, 3, 4, 5, 6, 7, 8, 9, 10, 11] rfl
  have hDc := hD.sub (ws' := (cX0 a0 h0 y S0)) [0, 1, 2, 3, 4, 5, 6, 7, 8, 9, 10, 11] (by decide) rfl
  have hFc := va_free (wc := (cX0 a0 h0 y S0)) hD hS hA [0, 1, 2, 3, 4, 5, 6, 7, 8, 9, 10, 11] rfl
  refine va_calli (va_runV (As := [.int p1, .int 0]) (rest := [.ref aw]) ⟨hx, hb, hml, hown, hts⟩ (m_X0_part l dC dI y a0 h0 S0 p1 (0 : Int32) s.heap.size r1 hc2) (cwV 2 hts gX2_muxValue_X0_part rfl rfl rfl (by decide +kernel) ⟨Nat.le_of_ble_eq_true rfl, Nat.le_of_ble_eq_true rfl⟩) ⟨fun a U g mk q => by obtain ⟨q0, q1, qP, qK, qD⟩ := q; exact ⟨q0, q1, qP, va_K.moved (u := U) (U := U.calling g mk a) (Vm.Alike.refl U.vm) qK, qD⟩, va_recv hK hPc (ci := 0) (q0 := 0) rfl rfl, fun U hU hW => ⟨rfl, by rw [hU], by rw [hU]; exact hPc, va_K.moved hW.alike hK, hDc.weaken (fun _ _ _ _ => trivial)⟩⟩ rfl rfl hl.1 rfl (lv_room (Nat.le_of_ble_eq_true rfl)) dX2_muxValue_4 ⟨Nat.le_of_ble_eq_true rfl, Nat.le_of_ble_eq_true rfl⟩) hS (fun q _ h => hFc q h) hFc (fun rr4 u t H3 locs ht hvm hw hB hz1 hk1 hS => ?_)
  obtain ⟨hP1, hK1, hD1⟩ := hB
  rw [ht] at hP1
  refine zTopi hw.symm ?_
  obtain ⟨hP, hD⟩ := va_join (wr := [(aw, .inl (y 0, 60, .inl fw))]) (w1 := (cX0 a0 h0 y S0)) hP hD [0, 1, 2, 3, 4, 5, 6, 7, 8, 9, 10, 11] [12] rfl rfl (by decide) (by decide) hk1 hFc hP1 hD1
  have hP : va_P (dC, dI) vwCl ((cX0 a0 h0 y S0) ++ ([(aw, .inl (y 0, 60, .inl fw))])) H3 := hP.sub [1, 2, 3, 4, 5, 6, 7, 8, 9, 10, 11, 12, 0] rfl
  have hD : va_D A ((cX0 a0 h0 y S0) ++ ([(aw, .inl (y 0, 60, .inl fw))])) := hD.sub [1, 2, 3, 4, 5, 6, 7, 8, 9, 10, 11, 12, 0] (by decide) rfl
  obtain ⟨hi5, h⟩ := zG_spec h
  refine va_iald hx hb hK hP 12 0 rfl rfl hi5 dX2_muxValue_7 ?_
  obtain ⟨v6, ev6, h⟩ := zL_spec h
  refine zTopi ev6 ?_
  refine lv_istore_n (lv' := [(3, .int v6), (0, .ref a0), (1, .int p1), (2, .ref aw)]) hx hb dX2_muxValue_8 rfl hl (by decide) rfl (fun ls hl => ?_)
  refine lv_aload_n hx hb dX2_muxValue_9 rfl (lv_at hl 3 rfl) ?_
  refine lv_aload_n hx hb dX2_muxValue_10 rfl (lv_at hl 1 rfl) ?_
  refine lv_iload_n hx hb dX2_muxValue_11 rfl (lv_at hl 2 rfl) ?_
  refine lv_iconst (v := 1) hx hb dX2_muxValue_12 (by decide) ?_
  obtain ⟨r7, hc8, h⟩ := zB_spec h
  have hPc := hP.sub (ws' := (cX0 a0 h0 y S0)) [0, 1, 2, 3, 4, 5, 6, 7, 8, 9, 10, 11] rfl
  have hDc := hD.sub (ws' := (cX0 a0 h0 y S0)) [0, 1, 2, 3, 4, 5, 6, 7, 8, 9, 10, 11] (by decide) rfl
  have hFc := va_free (wc := (cX0 a0 h0 y S0)) hD hS hA [0, 1, 2, 3, 4, 5, 6, 7, 8, 9, 10, 11] rfl
  refine va_calli (va_runV (As := [.int p1, .int 1]) (rest := [.ref aw]) ⟨hx, hb, hml, hown, hts⟩ (m_X0_part l dC dI y a0 h0 S0 p1 (1 : Int32) H3.size r7 hc8) (cwV 2 hts gX2_muxValue_X0_part rfl rfl rfl (by decide +kernel) ⟨Nat.le_of_ble_eq_true rfl, Nat.le_of_ble_eq_true rfl⟩) ⟨fun a U g mk q => by obtain ⟨q0, q1, qP, qK, qD⟩ := q; exact ⟨q0, q1, qP, va_K.moved (u := U) (U := U.calling g mk a) (Vm.Alike.refl U.vm) qK, qD⟩, va_recv hK hPc (ci := 0) (q0 := 0) rfl rfl, fun U hU hW => ⟨rfl, by rw [hU], by rw [hU]; exact hPc, va_K.moved hW.alike hK, hDc.weaken (fun _ _ _ _ => trivial)⟩⟩ rfl rfl hl.1 rfl (lv_room (Nat.le_of_ble_eq_true rfl)) dX2_muxValue_13 ⟨Nat.le_of_ble_eq_true rfl, Nat.le_of_ble_eq_true rfl⟩) hS (fun q _ h => hFc q h) hFc (fun rr10 u t H9 locs ht hvm hw hB hz1 hk1 hS => ?_)
  obtain ⟨hP1, hK1, hD1⟩ := hB
  rw [ht] at hP1
  refine zTopi hw.symm ?_
  obtain ⟨hP, hD⟩ := va_join (wr := [(aw, .inl (y 0, 60, .inl fw))]) (w1 := (cX0 a0 h0 y S0)) hP hD [0, 1, 2, 3, 4, 5, 6, 7, 8, 9, 10, 11] [12] rfl rfl (by decide) (by decide) hk1 hFc hP1 hD1
  have hP : va_P (dC, dI) vwCl ((cX0 a0 h0 y S0) ++ ([(aw, .inl (y 0, 60, .inl fw))])) H9 := hP.sub [1, 2, 3, 4, 5, 6, 7, 8, 9, 10, 11, 12, 0] rfl
  have hD : va_D A ((cX0 a0 h0 y S0) ++ ([(aw, .inl (y 0, 60, .inl fw))])) := hD.sub [1, 2, 3, 4, 5, 6, 7, 8, 9, 10, 11, 12, 0] (by decide) rfl
  obtain ⟨hi11, h⟩ := zG_spec h
  refine va_iald hx hb hK hP 12 0 rfl rfl hi11 dX2_muxValue_16 ?_
  obtain ⟨r12, hc13, h⟩ := zB_spec h
  have hPc := hP.sub (ws' := []) [] rfl
  have hDc := hD.sub (ws' := []) [] (by decide) rfl
  have hFc := va_free (wc := []) hD hS hA [] rfl
  refine va_calli (va_runS (As := [.int (fw r7.toNatClampNeg)]) (rest := []) ⟨hx, hb, hml, hown, hts⟩ (m_X2_takenIn l dC dI y (fw r7.toNatClampNeg) H9.size r12 hc13) (va_cwS 1 hts gX2_muxValue_X2_takenIn rfl rfl rfl (by decide +kernel) ⟨Nat.le_of_ble_eq_true rfl, Nat.le_of_ble_eq_true rfl⟩) ⟨fun a U g mk q => by obtain ⟨q0, q1, qP, qK, qD⟩ := q; exact ⟨q0, q1, qP, va_K.moved (u := U) (U := U.calling g mk a) (Vm.Alike.refl U.vm) qK, qD⟩, fun U hU hW => ⟨rfl, by rw [hU], by rw [hU]; exact hPc, va_K.moved hW.alike hK, hDc.weaken (fun _ _ _ _ => trivial)⟩⟩ rfl rfl hl.1 rfl (lv_room (Nat.le_of_ble_eq_true rfl)) dX2_muxValue_17 ⟨Nat.le_of_ble_eq_true rfl, Nat.le_of_ble_eq_true rfl⟩) hS (fun q _ h => hFc q h) hFc (fun rr15 u t H14 locs ht hvm hw hB hz1 hk1 hS => ?_)
  obtain ⟨hP1, hK1, hD1⟩ := hB
  rw [ht] at hP1
  refine zTopi hw.symm ?_
  obtain ⟨hP, hD⟩ := va_join (wr := [(oX0 a0 h0 S0), (h0 2, .inl (y 1, 60, .inr (.inl (gB S0 2)))), (h0 3, .inl (y 0, 60, .inl (gA S0 3))), (h0 4, .inl (y 0, 60, .inl (gA S0 4))), (h0 5, .inl (y 0, 60, .inl (gA S0 5))), (h0 6, .inl (y 0, 60, .inl (gA S0 6))), (h0 7, .inl (y 0, 720, .inl (gA S0 7))), (h0 8, .inl (y 0, 60, .inl (gA S0 8))), (h0 9, .inl (y 0, 60, .inl (gA S0 9))), (h0 10, .inl (y 1, 60, .inr (.inl (gB S0 10)))), (h0 11, .inl (y 0, 60, .inl (gA S0 11))), (h0 12, .inl (y 0, 60, .inl (gA S0 12))), (aw, .inl (y 0, 60, .inl fw))]) (w1 := []) hP hD [] [0, 1, 2, 3, 4, 5, 6, 7, 8, 9, 10, 11, 12] rfl rfl (by decide) (by decide) hk1 hFc hP1 hD1
  have hP : va_P (dC, dI) vwCl ((cX0 a0 h0 y S0) ++ ([(aw, .inl (y 0, 60, .inl fw))])) H14 := hP.sub [0, 1, 2, 3, 4, 5, 6, 7, 8, 9, 10, 11, 12] rfl
  have hD : va_D A ((cX0 a0 h0 y S0) ++ ([(aw, .inl (y 0, 60, .inl fw))])) := hD.sub [0, 1, 2, 3, 4, 5, 6, 7, 8, 9, 10, 11, 12] (by decide) rfl
  refine lv_istore (lv' := [(4, .int r12), (3, .int v6), (0, .ref a0), (1, .int p1), (2, .ref aw)]) hx hb dX2_muxValue_20 hl (by decide) rfl (fun ls hl => ?_)
  refine lv_aload_n hx hb dX2_muxValue_22 rfl (lv_at hl 4 rfl) ?_
  refine lv_aload_n hx hb dX2_muxValue_23 rfl (lv_at hl 2 rfl) ?_
  refine lv_iload_n hx hb dX2_muxValue_24 rfl (lv_at hl 3 rfl) ?_
  refine lv_iconst (v := 2) hx hb dX2_muxValue_25 (by decide) ?_
  obtain ⟨r16, hc17, h⟩ := zB_spec h
  have hPc := hP.sub (ws' := (cX0 a0 h0 y S0)) [0, 1, 2, 3, 4, 5, 6, 7, 8, 9, 10, 11] rfl
  have hDc := hD.sub (ws' := (cX0 a0 h0 y S0)) [0, 1, 2, 3, 4, 5, 6, 7, 8, 9, 10, 11] (by decide) rfl
  have hFc := va_free (wc := (cX0 a0 h0 y S0)) hD hS hA [0, 1, 2, 3, 4, 5, 6, 7, 8, 9, 10, 11] rfl
  refine va_calli (va_runV (As := [.int p1, .int 2]) (rest := [.ref aw]) ⟨hx, hb, hml, hown, hts⟩ (m_X0_part l dC dI y a0 h0 S0 p1 (2 : Int32) H14.size r16 hc17) (cwV 2 hts gX2_muxValue_X0_part rfl rfl rfl (by decide +kernel) ⟨Nat.le_of_ble_eq_true rfl, Nat.le_of_ble_eq_true rfl⟩) ⟨fun a U g mk q => by obtain ⟨q0, q1, qP, qK, qD⟩ := q; exact ⟨q0, q1, qP, va_K.moved (u := U) (U := U.calling g mk a) (Vm.Alike.refl U.vm) qK, qD⟩, va_recv hK hPc (ci := 0) (q0 := 0) rfl rfl, fun U hU hW => ⟨rfl, by rw [hU], by rw [hU]; exact hPc, va_K.moved hW.alike hK, hDc.weaken (fun _ _ _ _ => trivial)⟩⟩ rfl rfl hl.1 rfl (lv_room (Nat.le_of_ble_eq_true rfl)) dX2_muxValue_26 ⟨Nat.le_of_ble_eq_true rfl, Nat.le_of_ble_eq_true rfl⟩) hS (fun q _ h => hFc q h) hFc (fun rr19 u t H18 locs ht hvm hw hB hz1 hk1 hS => ?_)
  obtain ⟨hP1, hK1, hD1⟩ := hB
  rw [ht] at hP1
  refine zTopi hw.symm ?_
  obtain ⟨hP, hD⟩ := va_join (wr := [(aw, .inl (y 0, 60, .inl fw))]) (w1 := (cX0 a0 h0 y S0)) hP hD [0, 1, 2, 3, 4, 5, 6, 7, 8, 9, 10, 11] [12] rfl rfl (by decide) (by decide) hk1 hFc hP1 hD1
  have hP : va_P (dC, dI) vwCl ((cX0 a0 h0 y S0) ++ ([(aw, .inl (y 0, 60, .inl fw))])) H18 := hP.sub [1, 2, 3, 4, 5, 6, 7, 8, 9, 10, 11, 12, 0] rfl
  have hD : va_D A ((cX0 a0 h0 y S0) ++ ([(aw, .inl (y 0, 60, .inl fw))])) := hD.sub [1, 2, 3, 4, 5, 6, 7, 8, 9, 10, 11, 12, 0] (by decide) rfl
  obtain ⟨hi20, h⟩ := zG_spec h
  refine va_iald hx hb hK hP 12 0 rfl rfl hi20 dX2_muxValue_29 ?_
  obtain ⟨r21, hc22, h⟩ := zB_spec h
  have hPc := hP.sub (ws' := []) [] rfl
  have hDc := hD.sub (ws' := []) [] (by decide) rfl
  have hFc := va_free (wc := []) hD hS hA [] rfl
  refine va_calli (va_runS (As := [.int (fw r16.toNatClampNeg)]) (rest := []) ⟨hx, hb, hml, hown, hts⟩ (m_X2_takenIn l dC dI y (fw r16.toNatClampNeg) H18.size r21 hc22) (va_cwS 1 hts gX2_muxValue_X2_takenIn rfl rfl rfl (by decide +kernel) ⟨Nat.le_of_ble_eq_true rfl, Nat.le_of_ble_eq_true rfl⟩) ⟨fun a U g mk q => by obtain ⟨q0, q1, qP, qK, qD⟩ := q; exact ⟨q0, q1, qP, va_K.moved (u := U) (U := U.calling g mk a) (Vm.Alike.refl U.vm) qK, qD⟩, fun U hU hW => ⟨rfl, by rw [hU], by rw [hU]; exact hPc, va_K.moved hW.alike hK, hDc.weaken (fun _ _ _ _ => trivial)⟩⟩ rfl rfl hl.1 rfl (lv_room (Nat.le_of_ble_eq_true rfl)) dX2_muxValue_30 ⟨Nat.le_of_ble_eq_true rfl, Nat.le_of_ble_eq_true rfl⟩) hS (fun q _ h => hFc q h) hFc (fun rr24 u t H23 locs ht hvm hw hB hz1 hk1 hS => ?_)
  obtain ⟨hP1, hK1, hD1⟩ := hB
  rw [ht] at hP1
  refine zTopi hw.symm ?_
  obtain ⟨hP, hD⟩ := va_join (wr := [(oX0 a0 h0 S0), (h0 2, .inl (y 1, 60, .inr (.inl (gB S0 2)))), (h0 3, .inl (y 0, 60, .inl (gA S0 3))), (h0 4, .inl (y 0, 60, .inl (gA S0 4))), (h0 5, .inl (y 0, 60, .inl (gA S0 5))), (h0 6, .inl (y 0, 60, .inl (gA S0 6))), (h0 7, .inl (y 0, 720, .inl (gA S0 7))), (h0 8, .inl (y 0, 60, .inl (gA S0 8))), (h0 9, .inl (y 0, 60, .inl (gA S0 9))), (h0 10, .inl (y 1, 60, .inr (.inl (gB S0 10)))), (h0 11, .inl (y 0, 60, .inl (gA S0 11))), (h0 12, .inl (y 0, 60, .inl (gA S0 12))), (aw, .inl (y 0, 60, .inl fw))]) (w1 := []) hP hD [] [0, 1, 2, 3, 4, 5, 6, 7, 8, 9, 10, 11, 12] rfl rfl (by decide) (by decide) hk1 hFc hP1 hD1
  have hP : va_P (dC, dI) vwCl ((cX0 a0 h0 y S0) ++ ([(aw, .inl (y 0, 60, .inl fw))])) H23 := hP.sub [0, 1, 2, 3, 4, 5, 6, 7, 8, 9, 10, 11, 12] rfl
  have hD : va_D A ((cX0 a0 h0 y S0) ++ ([(aw, .inl (y 0, 60, .inl fw))])) := hD.sub [0, 1, 2, 3, 4, 5, 6, 7, 8, 9, 10, 11, 12] (by decide) rfl
  refine lv_istore (lv' := [(5, .int r21), (4, .int r12), (3, .int v6), (0, .ref a0), (1, .int p1), (2, .ref aw)]) hx hb dX2_muxValue_33 hl (by decide) rfl (fun ls hl => ?_)
  refine lv_iload_n hx hb dX2_muxValue_35 rfl (lv_at hl 2 rfl) ?_
  refine lv_if_ne (tgt := 42) hx hb dX2_muxValue_36 (by decide) (fun c25 => ?_) (fun c25 => ?_)
  · have h := zN c25 h
    refine lv_iload_n hx hb dX2_muxValue_42 rfl (lv_at hl 2 rfl) ?_
    refine lv_iconst (v := 1) hx hb dX2_muxValue_43 (by decide) ?_
    refine lv_icmp_ne (tgt := 50) hx hb dX2_muxValue_44 (by decide) (fun c26 => ?_) (fun c26 => ?_)
    · have h := zN c26 h
      refine lv_iload hx hb dX2_muxValue_50 (lv_at hl 1 rfl) ?_
      refine lv_iload hx hb dX2_muxValue_52 (lv_at hl 0 rfl) ?_
      refine lv_icmp_ne (tgt := 62) hx hb dX2_muxValue_54 (by decide) (fun c27 => ?_) (fun c27 => ?_)
      · have h := zN c27 h
        refine lv_iconst (v := 2) hx hb dX2_muxValue_62 (by decide) ?_
        have ho0 : (2 : Int32) = or_ := congrArg (fun z : Int32 => z) (Option.some.inj h)
        exact W.iret (v := 2) hx hb hr (fun t ht hW => ⟨⟨2, (), rfl, ho0, by rw [ht]; exact hP, va_K.moved hW.alike hK, hD⟩, hS.F ht⟩) hS.2.2 dX2_muxValue_63
      · have h := zY c27 h
        refine lv_iload hx hb dX2_muxValue_57 (lv_at hl 1 rfl) ?_
        refine lv_goto (tgt := 63) hx hb dX2_muxValue_59 (by decide) ?_
        have ho0 : r12 = or_ := congrArg (fun z : Int32 => z) (Option.some.inj h)
        exact W.iret (v := r12) hx hb hr (fun t ht hW => ⟨⟨r12, (), rfl, ho0, by rw [ht]; exact hP, va_K.moved hW.alike hK, hD⟩, hS.F ht⟩) hS.2.2 dX2_muxValue_63
    · have h := zY c26 h
      refine lv_iload hx hb dX2_muxValue_47 (lv_at hl 0 rfl) ?_
      have ho0 : r21 = or_ := congrArg (fun z : Int32 => z) (Option.some.inj h)
      exact W.iret (v := r21) hx hb hr (fun t ht hW => ⟨⟨r21, (), rfl, ho0, by rw [ht]; exact hP, va_K.moved hW.alike hK, hD⟩, hS.F ht⟩) hS.2.2 dX2_muxValue_49
  · have h := zY c25 h
    refine lv_iload hx hb dX2_muxValue_39 (lv_at hl 1 rfl) ?_
    have ho0 : r12 = or_ := congrArg (fun z : Int32 => z) (Option.some.inj h)
    exact W.iret (v := r12) hx hb hr (fun t ht hW => ⟨⟨r12, (), rfl, ho0, by rw [ht]; exact hP, va_K.moved hW.alike hK, hD⟩, hS.F ht⟩) hS.2.2 dX2_muxValue_41

set_option maxHeartbeats 4000000 in
set_option maxRecDepth 100000 in
theorem m_X2_gateValue (l : Launch) (dC : Nat → ClassId) (dI : Nat → Nat → Nat) (y : Nat → ClassId) (a0 : Nat) (h0 : Nat → Nat) (S0 : SS) (aw : Nat) (fw : Nat → Int32) (p1 : Int32) (sz : Nat) (or_ : Int32) (h : f_X2_gateValue S0 fw p1 = some or_) : Met l yX2_gateValue wsX2_gateValue ({ frames := 2, cells := 0, slots := 0, locals := 47 }) (va_Pc [.ref a0, .int p1, .ref aw] (fun U => U.heap.size = sz ∧ va_P (dC, dI) vwCl ((cX0 a0 h0 y S0) ++ ([(aw, .inl (y 0, 60, .inl fw))])) U.heap ∧ va_K (dC, dI) vwCl [(y 0, .int), (y 1, .long), (y 2, .byte), (y 3, .boolean)] U ∧ va_D (fun _ => True) ((cX0 a0 h0 y S0) ++ ([(aw, .inl (y 0, 60, .inl fw))])))) (va_Qi (fun (r : Int32) (_ : Unit) => r = or_) (fun (_ : Unit) (t : State) => va_P (dC, dI) vwCl ((cX0 a0 h0 y S0) ++ ([(aw, .inl (y 0, 60, .inl fw))])) t.heap ∧ va_K (dC, dI) vwCl [(y 0, .int), (y 1, .long), (y 2, .byte), (y 3, .boolean)] t ∧ va_D (va_A ((cX0 a0 h0 y S0) ++ ([(aw, .inl (y 0, 60, .inl fw))])) sz) ((cX0 a0 h0 y S0) ++ ([(aw, .inl (y 0, 60, .inl fw))]))) (va_A ((cX0 a0 h0 y S0) ++ ([(aw, .inl (y 0, 60, .inl fw))])) sz)) 0 0 (va_A ((cX0 a0 h0 y S0) ++ ([(aw, .inl (y 0, 60, .inl fw))])) sz) := by
  refine Met.ofW (cc := cX2_gateValue) (maxL := 9) (ret := (some .int)) (by decide +kernel) rfl ?_
  intro p e s m args below meth c s₁ B hml hv
  obtain ⟨rfl, hsz, hP, hK, hD0⟩ := hv
  have hx := B.exec
  have hb := B.bytes
  have hr := B.returns
  have hts := atoms_spec (ws := wsX2_gateValue) B.pre
  have hown : s.vm.findClass RX2 = some m.cls := findClass_of_methodNamed B.named
  have hlocks := B.notSynchronized
  have inX0_ : ∀ w ∈ wsX00, w ∈ wsX2_gateValue := fun _ h => List.mem_cons_of_mem _ (List.mem_append_right _ h)
  subst hsz
  have hD := hD0.self (sz := s.heap.size)
  generalize hAe : va_A ((cX0 a0 h0 y S0) ++ ([(aw, .inl (y 0, 60, .inl fw))])) s.heap.size = A at hD ⊢
  have hA : ∀ q : Nat, s.heap.size ≤ q → A q := fun q h => by rw [← hAe]; exact Or.inr h
  have hS : va_S A s.heap s.heap [] := va_S.rf
  have hP : va_P (dC, dI) vwCl ((cX0 a0 h0 y S0) ++ ([(aw, .inl (y 0, 60, .inl fw))])) s.heap := hP
  have hl := lv_entry ([.ref a0, .int p1, .ref aw]) (n := 9) (Nat.le_of_ble_eq_true rfl)
  rw [lg_entry_eq]
  generalize (lg_sl ([.ref a0, .int p1, .ref aw]) ++ List.replicate (9 - (lg_sl ([.ref a0, .int p1, .ref aw])).length) Slot.unset).toArray = ls at hl ⊢
  have hl : lv_has ls 9 [(0, .ref a0), (1, .int p1), (2, .ref aw)] := hl
  refine lv_aload_n hx hb dX2_gateValue_0 rfl (lv_at hl 0 rfl) ?_
  refine va_get (D := (dC, dI)) (ci := 0) (v := .ref (h0 5)) (C := RX0) (T := TX0) (N := 13) hx hb hts inX0_ hown hK hP 0 rfl rfl 5 (by decide) (hts (.fieldLink RX2 31 "GateWheel$Circuit" "gates" "[I") (List.mem_of_getElem? (i := 1) rfl)) (fun _ h9 => h9) rfl dX2_gateValue_1 ?_
  refine lv_iload_n hx hb dX2_gateValue_4 rfl (lv_at hl 1 rfl) ?_
  obtain ⟨hi1, h⟩ := zG_spec h
  refine va_iald hx hb hK hP 4 0 rfl rfl hi1 dX2_gateValue_5 ?_
  obtain ⟨v2, ev2, h⟩ := zL_spec h
  refine zTopi ev2 ?_
  refine lv_istore_n (lv' := [(3, .int v2), (0, .ref a0), (1, .int p1), (2, .ref aw)]) hx hb dX2_gateValue_6 rfl hl (by decide) rfl (fun ls hl => ?_)
  refine lv_iload_n hx hb dX2_gateValue_7 rfl (lv_at hl 0 rfl) ?_
  refine lv_bipush (v := 8) hx hb dX2_gateValue_8 (by decide) ?_
  refine lv_icmp_ne (tgt := 20) hx hb dX2_gateValue_10 (by decide) (fun c3 => ?_) (fun c3 => ?_)
  · have h := zN c3 h
    refine lv_iconst (v := 0) hx hb dX2_gateValue_20 (by decide) ?_
    refine lv_istore (lv' := [(4, .int 0), (3, .int v2), (0, .ref a0), (1, .int p1), (2, .ref aw)]) hx hb dX2_gateValue_21 hl (by decide) rfl (fun ls hl => ?_)
    refine lv_iconst (v := 0) hx hb dX2_gateValue_23 (by decide) ?_
    refine lv_istore (lv' := [(5, .int 0), (4, .int 0), (3, .int v2), (0, .ref a0), (1, .int p1), (2, .ref aw)]) hx hb dX2_gateValue_24 hl (by decide) rfl (fun ls hl => ?_)
    refine lv_aload_n hx hb dX2_gateValue_26 rfl (lv_at hl 3 rfl) ?_
    refine lv_iload_n hx hb dX2_gateValue_27 rfl (lv_at hl 4 rfl) ?_
    obtain ⟨r4, hc5, h⟩ := zB_spec h
    have hPc := hP.sub (ws' := (cX0 a0 h0 y S0)) [0, 1, 2, 3, 4, 5, 6, 7, 8, 9, 10, 11] rfl
    have hDc := hD.sub (ws' := (cX0 a0 h0 y S0)) [0, 1, 2, 3, 4, 5, 6, 7, 8, 9, 10, 11] (by decide) rfl
    have hFc := va_free (wc := (cX0 a0 h0 y S0)) hD hS hA [0, 1, 2, 3, 4, 5, 6, 7, 8, 9, 10, 11] rfl
    refine va_calli (va_runV (As := [.int p1]) (rest := []) ⟨hx, hb, hml, hown, hts⟩ (m_X0_size l dC dI y a0 h0 S0 p1 s.heap.size r4 hc5) (cwV 1 hts gX2_gateValue_X0_size rfl rfl rfl (by decide +kernel) ⟨Nat.le_of_ble_eq_true rfl, Nat.le_of_ble_eq_true rfl⟩) ⟨fun a U g mk q => by obtain ⟨q0, q1, qP, qK, qD⟩ := q; exact ⟨q0, q1, qP, va_K.moved (u := U) (U := U.calling g mk a) (Vm.Alike.refl U.vm) qK, qD⟩, va_recv hK hPc (ci := 0) (q0 := 0) rfl rfl, fun U hU hW => ⟨rfl, by rw [hU], by rw [hU]; exact hPc, va_K.moved hW.alike hK, hDc.weaken (fun _ _ _ _ => trivial)⟩⟩ rfl rfl hl.1 rfl (lv_room (Nat.le_of_ble_eq_true rfl)) dX2_gateValue_28 ⟨Nat.le_of_ble_eq_true rfl, Nat.le_of_ble_eq_true rfl⟩) hS (fun q _ h => hFc q h) hFc (fun rr7 u t H6 locs ht hvm hw hB hz1 hk1 hS => ?_)
    obtain ⟨hP1, hK1, hD1⟩ := hB
    rw [ht] at hP1
    refine zTopi hw.symm ?_
    obtain ⟨hP, hD⟩ := va_join (wr := [(aw, .inl (y 0, 60, .inl fw))]) (w1 := (cX0 a0 h0 y S0)) hP hD [0, 1, 2, 3, 4, 5, 6, 7, 8, 9, 10, 11] [12] rfl rfl (by decide) (by decide) hk1 hFc hP1 hD1
    have hP : va_P (dC, dI) vwCl ((cX0 a0 h0 y S0) ++ ([(aw, .inl (y 0, 60, .inl fw))])) H6 := hP.sub [1, 2, 3, 4, 5, 6, 7, 8, 9, 10, 11, 12, 0] rfl
    have hD : va_D A ((cX0 a0 h0 y S0) ++ ([(aw, .inl (y 0, 60, .inl fw))])) := hD.sub [1, 2, 3, 4, 5, 6, 7, 8, 9, 10, 11, 12, 0] (by decide) rfl
    refine lv_istore (lv' := [(6, .int r4), (5, .int 0), (4, .int 0), (3, .int v2), (0, .ref a0), (1, .int p1), (2, .ref aw)]) hx hb dX2_gateValue_31 hl (by decide) rfl (fun ls hl => ?_)
    refine lv_iconst (v := 0) hx hb dX2_gateValue_33 (by decide) ?_
    refine lv_istore (lv' := [(7, .int 0), (6, .int r4), (5, .int 0), (4, .int 0), (3, .int v2), (0, .ref a0), (1, .int p1), (2, .ref aw)]) hx hb dX2_gateValue_34 hl (by decide) rfl (fun ls hl => ?_)
    refine W_abs (fun GW8 eG9 => ?_)
    obtain ⟨ov12, hi13, h⟩ := zB_spec h
    have je10 : ∀ (v17 : Int32) (v18 : Int32) (HGW8e : Heap) (locs : List Loc) (ls : Array Slot), (v17, v18) = ov12 → va_P (dC, dI) vwCl ((cX0 a0 h0 y S0) ++ ([(aw, .inl (y 0, 60, .inl fw))])) HGW8e → va_D A ((cX0 a0 h0 y S0) ++ ([(aw, .inl (y 0, 60, .inl fw))])) → va_S A s.heap HGW8e locs → lv_has ls 9 [(6, .int r4), (3, .int v2), (4, .int v17), (5, .int v18)] → GW8 HGW8e locs 0 0 (F0 m 91 ls []) := by
      intro v17 v18 HGW8e locs ls hv hP hD hS hl
      subst hv
      refine (eG9 _ _ _ _ _).mpr ?_
      refine lv_iload_n hx hb dX2_gateValue_91 rfl (lv_at hl 1 rfl) ?_
      refine lv_bipush (v := (-2)) hx hb dX2_gateValue_92 (by decide) ?_
      refine lv_iand hx hb dX2_gateValue_94 ?_
      refine lv_iload hx hb dX2_gateValue_95 (lv_at hl 2 rfl) ?_
      refine lv_iload hx hb dX2_gateValue_97 (lv_at hl 3 rfl) ?_
      refine lv_iload hx hb dX2_gateValue_99 (lv_at hl 0 rfl) ?_
      obtain ⟨r19, hc20, h⟩ := zB_spec h
      have hPc := hP.sub (ws' := []) [] rfl
      have hDc := hD.sub (ws' := []) [] (by decide) rfl
      have hFc := va_free (wc := []) hD hS hA [] rfl
      refine va_calli (va_runS (As := [.int (v2 &&& (-2 : Int32)), .int v17, .int v18, .int r4]) (rest := []) ⟨hx, hb, hml, hown, hts⟩ (m_X2_plainValue l dC dI y (v2 &&& (-2 : Int32)) v17 v18 r4 HGW8e.size r19 hc20) (va_cwS 4 hts gX2_gateValue_X2_plainValue rfl rfl rfl (by decide +kernel) ⟨Nat.le_of_ble_eq_true rfl, Nat.le_of_ble_eq_true rfl⟩) ⟨fun a U g mk q => by obtain ⟨q0, q1, qP, qK, qD⟩ := q; exact ⟨q0, q1, qP, va_K.moved (u := U) (U := U.calling g mk a) (Vm.Alike.refl U.vm) qK, qD⟩, fun U hU hW => ⟨rfl, by rw [hU], by rw [hU]; exact hPc, va_K.moved hW.alike hK, hDc.weaken (fun _ _ _ _ => trivial)⟩⟩ rfl rfl hl.1 rfl (lv_room (Nat.le_of_ble_eq_true rfl)) dX2_gateValue_101 ⟨Nat.le_of_ble_eq_true rfl, Nat.le_of_ble_eq_true rfl⟩) hS (fun q _ h => hFc q h) hFc (fun rr22 u t H21 locs ht hvm hw hB hz1 hk1 hS => ?_)
      obtain ⟨hP1, hK1, hD1⟩ := hB
      rw [ht] at hP1
      refine zTopi hw.symm ?_
      obtain ⟨hP, hD⟩ := va_join (wr := [(oX0 a0 h0 S0), (h0 2, .inl (y 1, 60, .inr (.inl (gB S0 2)))), (h0 3, .inl (y 0, 60, .inl (gA S0 3))), (h0 4, .inl (y 0, 60, .inl (gA S0 4))), (h0 5, .inl (y 0, 60, .inl (gA S0 5))), (h0 6, .inl (y 0, 60, .inl (gA S0 6))), (h0 7, .inl (y 0, 720, .inl (gA S0 7))), (h0 8, .inl (y 0, 60, .inl (gA S0 8))), (h0 9, .inl (y 0, 60, .inl (gA S0 9))), (h0 10, .inl (y 1, 60, .inr (.inl (gB S0 10)))), (h0 11, .inl (y 0, 60, .inl (gA S0 11))), (h0 12, .inl (y 0, 60, .inl (gA S0 12))), (aw, .inl (y 0, 60, .inl fw))]) (w1 := []) hP hD [] [0, 1, 2, 3, 4, 5, 6, 7, 8, 9, 10, 11, 12] rfl rfl (by decide) (by decide) hk1 hFc hP1 hD1
      have hP : va_P (dC, dI) vwCl ((cX0 a0 h0 y S0) ++ ([(aw, .inl (y 0, 60, .inl fw))])) H21 := hP.sub [0, 1, 2, 3, 4, 5, 6, 7, 8, 9, 10, 11, 12] rfl
      have hD : va_D A ((cX0 a0 h0 y S0) ++ ([(aw, .inl (y 0, 60, .inl fw))])) := hD.sub [0, 1, 2, 3, 4, 5, 6, 7, 8, 9, 10, 11, 12] (by decide) rfl
      refine lv_istore (lv' := [(7, .int r19), (6, .int r4), (3, .int v2), (4, .int v17), (5, .int v18)]) hx hb dX2_gateValue_104 hl (by decide) rfl (fun ls hl => ?_)
      refine lv_iload_n hx hb dX2_gateValue_106 rfl (lv_at hl 2 rfl) ?_
      obtain ⟨r23, hc24, h⟩ := zB_spec h
      have hPc := hP.sub (ws' := []) [] rfl
      have hDc := hD.sub (ws' := []) [] (by decide) rfl
      have hFc := va_free (wc := []) hD hS hA [] rfl
      refine va_calli (va_runS (As := [.int v2]) (rest := []) ⟨hx, hb, hml, hown, hts⟩ (m_X2_isTurned l dC dI y v2 H21.size r23 hc24) (va_cwS 1 hts gX2_gateValue_X2_isTurned rfl rfl rfl (by decide +kernel) ⟨Nat.le_of_ble_eq_true rfl, Nat.le_of_ble_eq_true rfl⟩) ⟨fun a U g mk q => by obtain ⟨q0, q1, qP, qK, qD⟩ := q; exact ⟨q0, q1, qP, va_K.moved (u := U) (U := U.calling g mk a) (Vm.Alike.refl U.vm) qK, qD⟩, fun U hU hW => ⟨rfl, by rw [hU], by rw [hU]; exact hPc, va_K.moved hW.alike hK, hDc.weaken (fun _ _ _ _ => trivial)⟩⟩ rfl rfl hl.1 rfl (lv_room (Nat.le_of_ble_eq_true rfl)) dX2_gateValue_107 ⟨Nat.le_of_ble_eq_true rfl, Nat.le_of_ble_eq_true rfl⟩) hS (fun q _ h => hFc q h) hFc (fun rr26 u t H25 locs ht hvm hw hB hz1 hk1 hS => ?_)
      obtain ⟨hP1, hK1, hD1⟩ := hB
      rw [ht] at hP1
      refine zTopi hw.symm ?_
      obtain ⟨hP, hD⟩ := va_join (wr := [(oX0 a0 h0 S0), (h0 2, .inl (y 1, 60, .inr (.inl (gB S0 2)))), (h0 3, .inl (y 0, 60, .inl (gA S0 3))), (h0 4, .inl (y 0, 60, .inl (gA S0 4))), (h0 5, .inl (y 0, 60, .inl (gA S0 5))), (h0 6, .inl (y 0, 60, .inl (gA S0 6))), (h0 7, .inl (y 0, 720, .inl (gA S0 7))), (h0 8, .inl (y 0, 60, .inl (gA S0 8))), (h0 9, .inl (y 0, 60, .inl (gA S0 9))), (h0 10, .inl (y 1, 60, .inr (.inl (gB S0 10)))), (h0 11, .inl (y 0, 60, .inl (gA S0 11))), (h0 12, .inl (y 0, 60, .inl (gA S0 12))), (aw, .inl (y 0, 60, .inl fw))]) (w1 := []) hP hD [] [0, 1, 2, 3, 4, 5, 6, 7, 8, 9, 10, 11, 12] rfl rfl (by decide) (by decide) hk1 hFc hP1 hD1
      have hP : va_P (dC, dI) vwCl ((cX0 a0 h0 y S0) ++ ([(aw, .inl (y 0, 60, .inl fw))])) H25 := hP.sub [0, 1, 2, 3, 4, 5, 6, 7, 8, 9, 10, 11, 12] rfl
      have hD : va_D A ((cX0 a0 h0 y S0) ++ ([(aw, .inl (y 0, 60, .inl fw))])) := hD.sub [0, 1, 2, 3, 4, 5, 6, 7, 8, 9, 10, 11, 12] (by decide) rfl
      refine lv_if_eq (tgt := 126) hx hb dX2_gateValue_110 (by decide) (fun c27 => ?_) (fun c27 => ?_)
      · have h := zY c27 h
        refine lv_iload hx hb dX2_gateValue_126 (lv_at hl 0 rfl) ?_
        have ho0 : r19 = or_ := congrArg (fun z : Int32 => z) (Option.some.inj h)
        exact W.iret (v := r19) hx hb hr (fun t ht hW => ⟨⟨r19, (), rfl, ho0, by rw [ht]; exact hP, va_K.moved hW.alike hK, hD⟩, hS.F ht⟩) hS.2.2 dX2_gateValue_128
      · have h := zN c27 h
        refine lv_iload hx hb dX2_gateValue_113 (lv_at hl 0 rfl) ?_
        refine lv_iconst (v := 2) hx hb dX2_gateValue_115 (by decide) ?_
        refine lv_icmp_ge (tgt := 126) hx hb dX2_gateValue_116 (by decide) (fun c28 => ?_) (fun c28 => ?_)
        · have h := zY c28 h
          refine lv_iload hx hb dX2_gateValue_126 (lv_at hl 0 rfl) ?_
          have ho0 : r19 = or_ := congrArg (fun z : Int32 => z) (Option.some.inj h)
          exact W.iret (v := r19) hx hb hr (fun t ht hW => ⟨⟨r19, (), rfl, ho0, by rw [ht]; exact hP, va_K.moved hW.alike hK, hD⟩, hS.F ht⟩) hS.2.2 dX2_gateValue_128
        · have h := zN c28 h
          refine lv_iconst (v := 1) hx hb dX2_gateValue_119 (by decide) ?_
          refine lv_iload hx hb dX2_gateValue_120 (lv_at hl 0 rfl) ?_
          refine lv_isub hx hb dX2_gateValue_122 ?_
          refine lv_goto (tgt := 128) hx hb dX2_gateValue_123 (by decide) ?_
          have ho0 : ((1 : Int32) - r19) = or_ := congrArg (fun z : Int32 => z) (Option.some.inj h)
          exact W.iret (v := ((1 : Int32) - r19)) hx hb hr (fun t ht hW => ⟨⟨((1 : Int32) - r19), (), rfl, ho0, by rw [ht]; exact hP, va_K.moved hW.alike hK, hD⟩, hS.F ht⟩) hS.2.2 dX2_gateValue_128
    have lp11 : ∀ (n : Nat) (v29 : Int32) (v30 : Int32) (v31 : Int32) (HGW8 : Heap) (locs : List Loc) (ls : Array Slot), zI (b_X2_gateValue_36 S0 fw p1 r4) n (v29, v30, v31) = some ov12 → va_P (dC, dI) vwCl ((cX0 a0 h0 y S0) ++ ([(aw, .inl (y 0, 60, .inl fw))])) HGW8 → va_D A ((cX0 a0 h0 y S0) ++ ([(aw, .inl (y 0, 60, .inl fw))])) → va_S A s.heap HGW8 locs → lv_has ls 9 [(6, .int r4), (3, .int v2), (0, .ref a0), (1, .int p1), (2, .ref aw), (4, .int v29), (5, .int v30), (7, .int v31)] → GW8 HGW8 locs 0 0 (F0 m 36 ls []) := by
      intro n
      induction n with
      | zero =>
        intro v29 v30 v31 HGW8 locs ls hi13 hP hD hS hl
        exact (zI_0 hi13).elim
      | succ n ihlp11 =>
        intro v29 v30 v31 HGW8 locs ls hi13 hP hD hS hl
        refine (eG9 _ _ _ _ _).mpr ?_
        obtain ⟨xx16, h, hx15⟩ := zI_spec hi13
        refine lv_iload hx hb dX2_gateValue_36 (lv_at hl 7 rfl) ?_
        refine lv_iload hx hb dX2_gateValue_38 (lv_at hl 0 rfl) ?_
        refine lv_icmp_ge (tgt := 91) hx hb dX2_gateValue_40 (by decide) (fun c32 => ?_) (fun c32 => ?_)
        · have h := zY c32 h
          exact (eG9 _ _ _ _ _).mp (je10 v29 v30 _ _ _ (zI_r h hx15) hP hD hS (lv_sub hl [0, 1, 5, 6] rfl))
        · have h := zN c32 h
          refine lv_aload_n hx hb dX2_gateValue_43 rfl (lv_at hl 4 rfl) ?_
          refine lv_aload_n hx hb dX2_gateValue_44 rfl (lv_at hl 2 rfl) ?_
          refine lv_iload_n hx hb dX2_gateValue_45 rfl (lv_at hl 3 rfl) ?_
          refine lv_iload hx hb dX2_gateValue_46 (lv_at hl 7 rfl) ?_
          obtain ⟨r33, hc34, h⟩ := zB_spec h
          have hPc := hP.sub (ws' := (cX0 a0 h0 y S0)) [0, 1, 2, 3, 4, 5, 6, 7, 8, 9, 10, 11] rfl
          have hDc := hD.sub (ws' := (cX0 a0 h0 y S0)) [0, 1, 2, 3, 4, 5, 6, 7, 8, 9, 10, 11] (by decide) rfl
          have hFc := va_free (wc := (cX0 a0 h0 y S0)) hD hS hA [0, 1, 2, 3, 4, 5, 6, 7, 8, 9, 10, 11] rfl
          refine va_calli (va_runV (As := [.int p1, .int v31]) (rest := [.ref aw]) ⟨hx, hb, hml, hown, hts⟩ (m_X0_part l dC dI y a0 h0 S0 p1 v31 HGW8.size r33 hc34) (cwV 2 hts gX2_gateValue_X0_part rfl rfl rfl (by decide +kernel) ⟨Nat.le_of_ble_eq_true rfl, Nat.le_of_ble_eq_true rfl⟩) ⟨fun a U g mk q => by obtain ⟨q0, q1, qP, qK, qD⟩ := q; exact ⟨q0, q1, qP, va_K.moved (u := U) (U := U.calling g mk a) (Vm.Alike.refl U.vm) qK, qD⟩, va_recv hK hPc (ci := 0) (q0 := 0) rfl rfl, fun U hU hW => ⟨rfl, by rw [hU], by rw [hU]; exact hPc, va_K.moved hW.alike hK, hDc.weaken (fun _ _ _ _ => trivial)⟩⟩ rfl rfl hl.1 rfl (lv_room (Nat.le_of_ble_eq_true rfl)) dX2_gateValue_48 ⟨Nat.le_of_ble_eq_true rfl, Nat.le_of_ble_eq_true rfl⟩) hS (fun q _ h => hFc q h) hFc (fun rr36 u t H35 locs ht hvm hw hB hz1 hk1 hS => ?_)
          obtain ⟨hP1, hK1, hD1⟩ := hB
          rw [ht] at hP1
          refine zTopi hw.symm ?_
          obtain ⟨hP, hD⟩ := va_join (wr := [(aw, .inl (y 0, 60, .inl fw))]) (w1 := (cX0 a0 h0 y S0)) hP hD [0, 1, 2, 3, 4, 5, 6, 7, 8, 9, 10, 11] [12] rfl rfl (by decide) (by decide) hk1 hFc hP1 hD1
          have hP : va_P (dC, dI) vwCl ((cX0 a0 h0 y S0) ++ ([(aw, .inl (y 0, 60, .inl fw))])) H35 := hP.sub [1, 2, 3, 4, 5, 6, 7, 8, 9, 10, 11, 12, 0] rfl
          have hD : va_D A ((cX0 a0 h0 y S0) ++ ([(aw, .inl (y 0, 60, .inl fw))])) := hD.sub [1, 2, 3, 4, 5, 6, 7, 8, 9, 10, 11, 12, 0] (by decide) rfl
          obtain ⟨hi37, h⟩ := zG_spec h
          refine va_iald hx hb hK hP 12 0 rfl rfl hi37 dX2_gateValue_51 ?_
          obtain ⟨v38, ev38, h⟩ := zL_spec h
          refine zTopi ev38 ?_
          refine lv_istore (lv' := [(8, .int v38), (6, .int r4), (3, .int v2), (0, .ref a0), (1, .int p1), (2, .ref aw), (4, .int v29), (5, .int v30), (7, .int v31)]) hx hb dX2_gateValue_52 hl (by decide) rfl (fun ls hl => ?_)
          refine lv_iload hx hb dX2_gateValue_54 (lv_at hl 6 rfl) ?_
          refine lv_iload hx hb dX2_gateValue_56 (lv_at hl 0 rfl) ?_
          refine W_abs (fun GW39 eG40 => ?_)
          obtain ⟨ov42, hr43, h⟩ := zB_spec h
          have jn41 : ∀ (v45 : Int32) (HGW39 : Heap) (locs : List Loc) (ls : Array Slot), v45 = ov42 → va_P (dC, dI) vwCl ((cX0 a0 h0 y S0) ++ ([(aw, .inl (y 0, 60, .inl fw))])) HGW39 → va_D A ((cX0 a0 h0 y S0) ++ ([(aw, .inl (y 0, 60, .inl fw))])) → va_S A s.heap HGW39 locs → lv_has ls 9 [(8, .int v38), (6, .int r4), (3, .int v2), (0, .ref a0), (1, .int p1), (2, .ref aw), (5, .int v30), (7, .int v31)] → GW39 HGW39 locs 0 0 (F0 m 66 ls [.int v45, .int v29]) := by
            intro v45 HGW39 locs ls hv hP hD hS hl
            subst hv
            refine (eG40 _ _ _ _ _).mpr ?_
            refine lv_iadd hx hb dX2_gateValue_66 ?_
            obtain ⟨v46, ev46, h⟩ := zL_spec h
            refine zTopi ev46 ?_
            refine lv_istore (lv' := [(4, .int v46), (8, .int v38), (6, .int r4), (3, .int v2), (0, .ref a0), (1, .int p1), (2, .ref aw), (5, .int v30), (7, .int v31)]) hx hb dX2_gateValue_67 hl (by decide) rfl (fun ls hl => ?_)
            refine lv_iload hx hb dX2_gateValue_69 (lv_at hl 7 rfl) ?_
            refine lv_iload hx hb dX2_gateValue_71 (lv_at hl 1 rfl) ?_
            refine lv_iconst (v := 1) hx hb dX2_gateValue_73 (by decide) ?_
            refine lv_icmp_ne (tgt := 81) hx hb dX2_gateValue_74 (by decide) (fun c47 => ?_) (fun c47 => ?_)
            · have h := zN c47 h
              refine lv_iconst (v := 0) hx hb dX2_gateValue_81 (by decide) ?_
              refine lv_iadd hx hb dX2_gateValue_82 ?_
              obtain ⟨v48, ev48, h⟩ := zL_spec h
              refine zTopi ev48 ?_
              refine lv_istore (lv' := [(5, .int v48), (4, .int v46), (8, .int v38), (6, .int r4), (3, .int v2), (0, .ref a0), (1, .int p1), (2, .ref aw), (7, .int v31)]) hx hb dX2_gateValue_83 hl (by decide) rfl (fun ls hl => ?_)
              obtain ⟨v49, ev49, h⟩ := zL_spec h
              refine lv_iinc (v := v49) (lv' := [(7, .int v49), (5, .int v48), (4, .int v46), (8, .int v38), (6, .int r4), (3, .int v2), (0, .ref a0), (1, .int p1), (2, .ref aw)]) hx hb dX2_gateValue_85 hl (k := 8) rfl (by rw [ev49]; rfl) (by decide) rfl (fun ls hl => ?_)
              refine lv_goto (tgt := 36) hx hb dX2_gateValue_88 (by decide) ?_
              have h := zI_l h hx15
              exact (eG9 _ _ _ _ _).mp (ihlp11 v46 v48 v49 _ _ _ h hP hD hS (lv_sub hl [4, 5, 6, 7, 8, 2, 1, 0] rfl))
            · have h := zY c47 h
              refine lv_iconst (v := 1) hx hb dX2_gateValue_77 (by decide) ?_
              refine lv_goto (tgt := 82) hx hb dX2_gateValue_78 (by decide) ?_
              refine lv_iadd hx hb dX2_gateValue_82 ?_
              obtain ⟨v50, ev50, h⟩ := zL_spec h
              refine zTopi ev50 ?_
              refine lv_istore (lv' := [(5, .int v50), (4, .int v46), (8, .int v38), (6, .int r4), (3, .int v2), (0, .ref a0), (1, .int p1), (2, .ref aw), (7, .int v31)]) hx hb dX2_gateValue_83 hl (by decide) rfl (fun ls hl => ?_)
              obtain ⟨v51, ev51, h⟩ := zL_spec h
              refine lv_iinc (v := v51) (lv' := [(7, .int v51), (5, .int v50), (4, .int v46), (8, .int v38), (6, .int r4), (3, .int v2), (0, .ref a0), (1, .int p1), (2, .ref aw)]) hx hb dX2_gateValue_85 hl (k := 8) rfl (by rw [ev51]; rfl) (by decide) rfl (fun ls hl => ?_)
              refine lv_goto (tgt := 36) hx hb dX2_gateValue_88 (by decide) ?_
              have h := zI_l h hx15
              exact (eG9 _ _ _ _ _).mp (ihlp11 v46 v50 v51 _ _ _ h hP hD hS (lv_sub hl [4, 5, 6, 7, 8, 2, 1, 0] rfl))
          refine (eG40 _ _ _ _ _).mpr ?_
          have h := hr43
          refine lv_if_ne (tgt := 65) hx hb dX2_gateValue_58 (by decide) (fun c52 => ?_) (fun c52 => ?_)
          · have h := zN c52 h
            refine lv_iconst (v := 0) hx hb dX2_gateValue_65 (by decide) ?_
            exact (eG40 _ _ _ _ _).mp (jn41 (0 : Int32) _ _ _ (Option.some.inj h) hP hD hS (lv_sub hl [0, 1, 2, 3, 4, 5, 7, 8] rfl))
          · have h := zY c52 h
            refine lv_iconst (v := 1) hx hb dX2_gateValue_61 (by decide) ?_
            refine lv_goto (tgt := 66) hx hb dX2_gateValue_62 (by decide) ?_
            exact (eG40 _ _ _ _ _).mp (jn41 (1 : Int32) _ _ _ (Option.some.inj h) hP hD hS (lv_sub hl [0, 1, 2, 3, 4, 5, 7, 8] rfl))
    exact lp11 zF (0 : Int32) (0 : Int32) (0 : Int32) _ _ _ hi13 hP hD hS (lv_sub hl [1, 4, 5, 6, 7, 3, 2, 0] rfl)
  · have h := zY c3 h
    refine lv_aload_n hx hb dX2_gateValue_13 rfl (lv_at hl 1 rfl) ?_
    refine lv_iload_n hx hb dX2_gateValue_14 rfl (lv_at hl 2 rfl) ?_
    refine lv_aload_n hx hb dX2_gateValue_15 rfl (lv_at hl 3 rfl) ?_
    obtain ⟨r53, hc54, h⟩ := zB_spec h
    have hFc := zFree hD hS hA
    refine va_calli (va_runS (As := [.ref a0, .int p1, .ref aw]) (rest := []) ⟨hx, hb, hml, hown, hts⟩ (m_X2_muxValue l dC dI y a0 h0 S0 aw fw p1 s.heap.size r53 hc54) (va_cwS 3 hts gX2_gateValue_X2_muxValue rfl rfl rfl (by decide +kernel) ⟨Nat.le_of_ble_eq_true rfl, Nat.le_of_ble_eq_true rfl⟩) ⟨fun a U g mk q => by obtain ⟨q0, q1, qP, qK, qD⟩ := q; exact ⟨q0, q1, qP, va_K.moved (u := U) (U := U.calling g mk a) (Vm.Alike.refl U.vm) qK, qD⟩, fun U hU hW => ⟨rfl, by rw [hU], by rw [hU]; exact hP, va_K.moved hW.alike hK, hD.weaken (fun _ _ _ _ => trivial)⟩⟩ rfl rfl hl.1 rfl (lv_room (Nat.le_of_ble_eq_true rfl)) dX2_gateValue_16 ⟨Nat.le_of_ble_eq_true rfl, Nat.le_of_ble_eq_true rfl⟩) hS (fun q _ h => hFc q h) hFc (fun rr56 u t H55 locs ht hvm hw hB hz1 hk1 hS => ?_)
    obtain ⟨hP1, hK1, hD1⟩ := hB
    rw [ht] at hP1
    refine zTopi hw.symm ?_
    have hP := hP1
    have hD := hD1.weaken (fun _ q _ h => hFc q.1 h)
    have hP : va_P (dC, dI) vwCl ((cX0 a0 h0 y S0) ++ ([(aw, .inl (y 0, 60, .inl fw))])) H55 := hP
    have hD : va_D A ((cX0 a0 h0 y S0) ++ ([(aw, .inl (y 0, 60, .inl fw))])) := hD
    have ho0 : r53 = or_ := congrArg (fun z : Int32 => z) (Option.some.inj h)
    exact W.iret (v := r53) hx hb hr (fun t ht hW => ⟨⟨r53, (), rfl, ho0, by rw [ht]; exact hP, va_K.moved hW.alike hK, hD⟩, hS.F ht⟩) hS.2.2 dX2_gateValue_19

set_option maxHeartbeats 4000000 in
set_option maxRecDepth 100000 in
theorem m_X2_driverValue (l : Launch) (dC : Nat → ClassId) (dI : Nat → Nat → Nat) (y : Nat → ClassId) (a0 : Nat) (h0 : Nat → Nat) (S0 : SS) (aw : Nat) (fw : Nat → Int32) (p1 : Int32) (p2 : Int32) (sz : Nat) (or_ : Int32) (h : f_X2_driverValue S0 fw p1 p2 = some or_) : Met l yX2_driverValue wsX2_driverValue ({ frames := 1, cells := 0, slots := 0, locals := 22 }) (va_Pc [.ref a0, .int p1, .int p2, .ref aw] (fun U => U.heap.size = sz ∧ va_P (dC, dI) vwCl ((cX0 a0 h0 y S0) ++ ([(aw, .inl (y 0, 60, .inl fw))])) U.heap ∧ va_K (dC, dI) vwCl [(y 0, .int), (y 1, .long), (y 2, .byte), (y 3, .boolean)] U ∧ va_D (fun _ => True) ((cX0 a0 h0 y S0) ++ ([(aw, .inl (y 0, 60, .inl fw))])))) (va_Qi (fun (r : Int32) (_ : Unit) => r = or_) (fun (_ : Unit) (t : State) => va_P (dC, dI) vwCl ((cX0 a0 h0 y S0) ++ ([(aw, .inl (y 0, 60, .inl fw))])) t.heap ∧ va_K (dC, dI) vwCl [(y 0, .int), (y 1, .long), (y 2, .byte), (y 3, .boolean)] t ∧ va_D (va_A ((cX0 a0 h0 y S0) ++ ([(aw, .inl (y 0, 60, .inl fw))])) sz) ((cX0 a0 h0 y S0) ++ ([(aw, .inl (y 0, 60, .inl fw))]))) (va_A ((cX0 a0 h0 y S0) ++ ([(aw, .inl (y 0, 60, .inl fw))])) sz)) 0 0 (va_A ((cX0 a0 h0 y S0) ++ ([(aw, .inl (y 0, 60, .inl fw))])) sz) := by
  refine Met.ofW (cc := cX2_driverValue) (maxL := 7) (ret := (some .int)) (by decide +kernel) rfl ?_
  intro p e s m args below meth c s₁ B hml hv
  obtain ⟨rfl, hsz, hP, hK, hD0⟩ := hv
  have hx := B.exec
  have hb := B.bytes
  have hr := B.returns
  have hts := atoms_spec (ws := wsX2_driverValue) B.pre
  have hown : s.vm.findClass RX2 = some m.cls := findClass_of_methodNamed B.named
  have hlocks := B.notSynchronized
  subst hsz
  have hD := hD0.self (sz := s.heap.size)
  generalize hAe : va_A ((cX0 a0 h0 y S0) ++ ([(aw, .inl (y 0, 60, .inl fw))])) s.heap.size = A at hD ⊢
  have hA : ∀ q : Nat, s.heap.size ≤ q → A q := fun q h => by rw [← hAe]; exact Or.inr h
  have hS : va_S A s.heap s.heap [] := va_S.rf
  have hP : va_P (dC, dI) vwCl ((cX0 a0 h0 y S0) ++ ([(aw, .inl (y 0, 60, .inl fw))])) s.heap := hP
  have hl := lv_entry ([.ref a0, .int p1, .int p2, .ref aw]) (n := 7) (Nat.le_of_ble_eq_true rfl)
  rw [lg_entry_eq]
  generalize (lg_sl ([.ref a0, .int p1, .int p2, .ref aw]) ++ List.replicate (7 - (lg_sl ([.ref a0, .int p1, .int p2, .ref aw])).length) Slot.unset).toArray = ls at hl ⊢
  have hl : lv_has ls 7 [(0, .ref a0), (1, .int p1), (2, .int p2), (3, .ref aw)] := hl
  refine lv_aload_n hx hb dX2_driverValue_0 rfl (lv_at hl 3 rfl) ?_
  refine lv_aload_n hx hb dX2_driverValue_1 rfl (lv_at hl 0 rfl) ?_
  refine lv_iload_n hx hb dX2_driverValue_2 rfl (lv_at hl 1 rfl) ?_
  refine lv_iconst (v := 2) hx hb dX2_driverValue_3 (by decide) ?_
  refine lv_iload_n hx hb dX2_driverValue_4 rfl (lv_at hl 2 rfl) ?_
  refine lv_imul hx hb dX2_driverValue_5 ?_
  obtain ⟨r1, hc2, h⟩ := zB_spec h
  have hPc := hP.sub (ws' := (cX0 a0 h0 y S0)) [0, 1, 2, 3, 4, 5, 6, 7, 8, 9, 10, 11] rfl
  have hDc := hD.sub (ws' := (cX0 a0 h0 y S0)) [0, 1, 2, 3, 4, 5, 6, 7, 8, 9, 10, 11] (by decide) rfl
  have hFc := va_free (wc := (cX0 a0 h0 y S0)) hD hS hA [0, 1, 2, 3, 4, 5, 6, 7, 8, 9, 10, 11] rfl
  refine va_calli (va_runV (As := [.int p1, .int ((2 : Int32) * p2)]) (rest := [.ref aw]) ⟨hx, hb, hml, hown, hts⟩ (m_X0_part l dC dI y a0 h0 S0 p1 ((2 : Int32) * p2) s.heap.size r1 hc2) (cwV 2 hts gX2_driverValue_X0_part rfl rfl rfl (by decide +kernel) ⟨Nat.le_of_ble_eq_true rfl, Nat.le_of_ble_eq_true rfl⟩) ⟨fun a U g mk q => by obtain ⟨q0, q1, qP, qK, qD⟩ := q; exact ⟨q0, q1, qP, va_K.moved (u := U) (U := U.calling g mk a) (Vm.Alike.refl U.vm) qK, qD⟩, va_recv hK hPc (ci := 0) (q0 := 0) rfl rfl, fun U hU hW => ⟨rfl, by rw [hU], by rw [hU]; exact hPc, va_K.moved hW.alike hK, hDc.weaken (fun _ _ _ _ => trivial)⟩⟩ rfl rfl hl.1 rfl (lv_room (Nat.le_of_ble_eq_true rfl)) dX2_driverValue_6 ⟨Nat.le_of_ble_eq_true rfl, Nat.le_of_ble_eq_true rfl⟩) hS (fun q _ h => hFc q h) hFc (fun rr4 u t H3 locs ht hvm hw hB hz1 hk1 hS => ?_)
  obtain ⟨hP1, hK1, hD1⟩ := hB
  rw [ht] at hP1
  refine zTopi hw.symm ?_
  obtain ⟨hP, hD⟩ := va_join (wr := [(aw, .inl (y 0, 60, .inl fw))]) (w1 := (cX0 a0 h0 y S0)) hP hD [0, 1, 2, 3, 4, 5, 6, 7, 8, 9, 10, 11] [12] rfl rfl (by decide) (by decide) hk1 hFc hP1 hD1
  have hP : va_P (dC, dI) vwCl ((cX0 a0 h0 y S0) ++ ([(aw, .inl (y 0, 60, .inl fw))])) H3 := hP.sub [1, 2, 3, 4, 5, 6, 7, 8, 9, 10, 11, 12, 0] rfl
  have hD : va_D A ((cX0 a0 h0 y S0) ++ ([(aw, .inl (y 0, 60, .inl fw))])) := hD.sub [1, 2, 3, 4, 5, 6, 7, 8, 9, 10, 11, 12, 0] (by decide) rfl
  obtain ⟨hi5, h⟩ := zG_spec h
  refine va_iald hx hb hK hP 12 0 rfl rfl hi5 dX2_driverValue_9 ?_
  obtain ⟨v6, ev6, h⟩ := zL_spec h
  refine zTopi ev6 ?_
  refine lv_istore (lv' := [(4, .int v6), (0, .ref a0), (1, .int p1), (2, .int p2), (3, .ref aw)]) hx hb dX2_driverValue_10 hl (by decide) rfl (fun ls hl => ?_)
  refine lv_aload_n hx hb dX2_driverValue_12 rfl (lv_at hl 4 rfl) ?_
  refine lv_aload_n hx hb dX2_driverValue_13 rfl (lv_at hl 1 rfl) ?_
  refine lv_iload_n hx hb dX2_driverValue_14 rfl (lv_at hl 2 rfl) ?_
  refine lv_iconst (v := 2) hx hb dX2_driverValue_15 (by decide) ?_
  refine lv_iload_n hx hb dX2_driverValue_16 rfl (lv_at hl 3 rfl) ?_
  refine lv_imul hx hb dX2_driverValue_17 ?_
  refine lv_iconst (v := 1) hx hb dX2_driverValue_18 (by decide) ?_
  refine lv_iadd hx hb dX2_driverValue_19 ?_
  obtain ⟨r7, hc8, h⟩ := zB_spec h
  have hPc := hP.sub (ws' := (cX0 a0 h0 y S0)) [0, 1, 2, 3, 4, 5, 6, 7, 8, 9, 10, 11] rfl
  have hDc := hD.sub (ws' := (cX0 a0 h0 y S0)) [0, 1, 2, 3, 4, 5, 6, 7, 8, 9, 10, 11] (by decide) rfl
  have hFc := va_free (wc := (cX0 a0 h0 y S0)) hD hS hA [0, 1, 2, 3, 4, 5, 6, 7, 8, 9, 10, 11] rfl
  refine va_calli (va_runV (As := [.int p1, .int (((2 : Int32) * p2) + (1 : Int32))]) (rest := [.ref aw]) ⟨hx, hb, hml, hown, hts⟩ (m_X0_part l dC dI y a0 h0 S0 p1 (((2 : Int32) * p2) + (1 : Int32)) H3.size r7 hc8) (cwV 2 hts gX2_driverValue_X0_part rfl rfl rfl (by decide +kernel) ⟨Nat.le_of_ble_eq_true rfl, Nat.le_of_ble_eq_true rfl⟩) ⟨fun a U g mk q => by obtain ⟨q0, q1, qP, qK, qD⟩ := q; exact ⟨q0, q1, qP, va_K.moved (u := U) (U := U.calling g mk a) (Vm.Alike.refl U.vm) qK, qD⟩, va_recv hK hPc (ci := 0) (q0 := 0) rfl rfl, fun U hU hW => ⟨rfl, by rw [hU], by rw [hU]; exact hPc, va_K.moved hW.alike hK, hDc.weaken (fun _ _ _ _ => trivial)⟩⟩ rfl rfl hl.1 rfl (lv_room (Nat.le_of_ble_eq_true rfl)) dX2_driverValue_20 ⟨Nat.le_of_ble_eq_true rfl, Nat.le_of_ble_eq_true rfl⟩) hS (fun q _ h => hFc q h) hFc (fun rr10 u t H9 locs ht hvm hw hB hz1 hk1 hS => ?_)
  obtain ⟨hP1, hK1, hD1⟩ := hB
  rw [ht] at hP1
  refine zTopi hw.symm ?_
  obtain ⟨hP, hD⟩ := va_join (wr := [(aw, .inl (y 0, 60, .inl fw))]) (w1 := (cX0 a0 h0 y S0)) hP hD [0, 1, 2, 3, 4, 5, 6, 7, 8, 9, 10, 11] [12] rfl rfl (by decide) (by decide) hk1 hFc hP1 hD1
  have hP : va_P (dC, dI) vwCl ((cX0 a0 h0 y S0) ++ ([(aw, .inl (y 0, 60, .inl fw))])) H9 := hP.sub [1, 2, 3, 4, 5, 6, 7, 8, 9, 10, 11, 12, 0] rfl
  have hD : va_D A ((cX0 a0 h0 y S0) ++ ([(aw, .inl (y 0, 60, .inl fw))])) := hD.sub [1, 2, 3, 4, 5, 6, 7, 8, 9, 10, 11, 12, 0] (by decide) rfl
  obtain ⟨hi11, h⟩ := zG_spec h
  refine va_iald hx hb hK hP 12 0 rfl rfl hi11 dX2_driverValue_23 ?_
  obtain ⟨v12, ev12, h⟩ := zL_spec h
  refine zTopi ev12 ?_
  refine lv_istore (lv' := [(5, .int v12), (4, .int v6), (0, .ref a0), (1, .int p1), (2, .int p2), (3, .ref aw)]) hx hb dX2_driverValue_24 hl (by decide) rfl (fun ls hl => ?_)
  refine lv_iload hx hb dX2_driverValue_26 (lv_at hl 0 rfl) ?_
  refine lv_iconst (v := 2) hx hb dX2_driverValue_28 (by decide) ?_
  refine lv_icmp_lt (tgt := 34) hx hb dX2_driverValue_29 (by decide) (fun c13 => ?_) (fun c13 => ?_)
  · have h := zY c13 h
    refine lv_aload_n hx hb dX2_driverValue_34 rfl (lv_at hl 2 rfl) ?_
    refine lv_iload_n hx hb dX2_driverValue_35 rfl (lv_at hl 3 rfl) ?_
    refine lv_iload_n hx hb dX2_driverValue_36 rfl (lv_at hl 4 rfl) ?_
    obtain ⟨r14, hc15, h⟩ := zB_spec h
    have hPc := hP.sub (ws' := (cX0 a0 h0 y S0)) [0, 1, 2, 3, 4, 5, 6, 7, 8, 9, 10, 11] rfl
    have hDc := hD.sub (ws' := (cX0 a0 h0 y S0)) [0, 1, 2, 3, 4, 5, 6, 7, 8, 9, 10, 11] (by decide) rfl
    have hFc := va_free (wc := (cX0 a0 h0 y S0)) hD hS hA [0, 1, 2, 3, 4, 5, 6, 7, 8, 9, 10, 11] rfl
    refine va_calli (va_runV (As := [.int p1, .int p2]) (rest := []) ⟨hx, hb, hml, hown, hts⟩ (m_X0_isLow l dC dI y a0 h0 S0 p1 p2 H9.size r14 hc15) (cwV 2 hts gX2_driverValue_X0_isLow rfl rfl rfl (by decide +kernel) ⟨Nat.le_of_ble_eq_true rfl, Nat.le_of_ble_eq_true rfl⟩) ⟨fun a U g mk q => by obtain ⟨q0, q1, qP, qK, qD⟩ := q; exact ⟨q0, q1, qP, va_K.moved (u := U) (U := U.calling g mk a) (Vm.Alike.refl U.vm) qK, qD⟩, va_recv hK hPc (ci := 0) (q0 := 0) rfl rfl, fun U hU hW => ⟨rfl, by rw [hU], by rw [hU]; exact hPc, va_K.moved hW.alike hK, hDc.weaken (fun _ _ _ _ => trivial)⟩⟩ rfl rfl hl.1 rfl (lv_room (Nat.le_of_ble_eq_true rfl)) dX2_driverValue_37 ⟨Nat.le_of_ble_eq_true rfl, Nat.le_of_ble_eq_true rfl⟩) hS (fun q _ h => hFc q h) hFc (fun rr17 u t H16 locs ht hvm hw hB hz1 hk1 hS => ?_)
    obtain ⟨hP1, hK1, hD1⟩ := hB
    rw [ht] at hP1
    refine zTopi hw.symm ?_
    obtain ⟨hP, hD⟩ := va_join (wr := [(aw, .inl (y 0, 60, .inl fw))]) (w1 := (cX0 a0 h0 y S0)) hP hD [0, 1, 2, 3, 4, 5, 6, 7, 8, 9, 10, 11] [12] rfl rfl (by decide) (by decide) hk1 hFc hP1 hD1
    have hP : va_P (dC, dI) vwCl ((cX0 a0 h0 y S0) ++ ([(aw, .inl (y 0, 60, .inl fw))])) H16 := hP.sub [1, 2, 3, 4, 5, 6, 7, 8, 9, 10, 11, 12, 0] rfl
    have hD : va_D A ((cX0 a0 h0 y S0) ++ ([(aw, .inl (y 0, 60, .inl fw))])) := hD.sub [1, 2, 3, 4, 5, 6, 7, 8, 9, 10, 11, 12, 0] (by decide) rfl
    refine W_abs (fun GW18 eG19 => ?_)
    obtain ⟨ov21, hr22, h⟩ := zB_spec h
    have jn20 : ∀ (v24 : Int32) (HGW18 : Heap) (locs : List Loc) (ls : Array Slot), v24 = ov21 → va_P (dC, dI) vwCl ((cX0 a0 h0 y S0) ++ ([(aw, .inl (y 0, 60, .inl fw))])) HGW18 → va_D A ((cX0 a0 h0 y S0) ++ ([(aw, .inl (y 0, 60, .inl fw))])) → va_S A s.heap HGW18 locs → lv_has ls 7 [(5, .int v12), (4, .int v6)] → GW18 HGW18 locs 0 0 (F0 m 48 ls [.int v24]) := by
      intro v24 HGW18 locs ls hv hP hD hS hl
      subst hv
      refine (eG19 _ _ _ _ _).mpr ?_
      refine lv_istore (lv' := [(6, .int v24), (5, .int v12), (4, .int v6)]) hx hb dX2_driverValue_48 hl (by decide) rfl (fun ls hl => ?_)
      refine lv_iload hx hb dX2_driverValue_50 (lv_at hl 1 rfl) ?_
      refine lv_iload hx hb dX2_driverValue_52 (lv_at hl 0 rfl) ?_
      refine lv_icmp_ne (tgt := 65) hx hb dX2_driverValue_54 (by decide) (fun c25 => ?_) (fun c25 => ?_)
      · have h := zN c25 h
        refine lv_iconst (v := 3) hx hb dX2_driverValue_65 (by decide) ?_
        have ho0 : (3 : Int32) = or_ := congrArg (fun z : Int32 => z) (Option.some.inj h)
        exact W.iret (v := 3) hx hb hr (fun t ht hW => ⟨⟨3, (), rfl, ho0, by rw [ht]; exact hP, va_K.moved hW.alike hK, hD⟩, hS.F ht⟩) hS.2.2 dX2_driverValue_66
      · have h := zY c25 h
        refine lv_iload hx hb dX2_driverValue_57 (lv_at hl 2 rfl) ?_
        obtain ⟨r26, hc27, h⟩ := zB_spec h
        have hPc := hP.sub (ws' := []) [] rfl
        have hDc := hD.sub (ws' := []) [] (by decide) rfl
        have hFc := va_free (wc := []) hD hS hA [] rfl
        refine va_calli (va_runS (As := [.int v6]) (rest := []) ⟨hx, hb, hml, hown, hts⟩ (m_X2_takenIn l dC dI y v6 HGW18.size r26 hc27) (va_cwS 1 hts gX2_driverValue_X2_takenIn rfl rfl rfl (by decide +kernel) ⟨Nat.le_of_ble_eq_true rfl, Nat.le_of_ble_eq_true rfl⟩) ⟨fun a U g mk q => by obtain ⟨q0, q1, qP, qK, qD⟩ := q; exact ⟨q0, q1, qP, va_K.moved (u := U) (U := U.calling g mk a) (Vm.Alike.refl U.vm) qK, qD⟩, fun U hU hW => ⟨rfl, by rw [hU], by rw [hU]; exact hPc, va_K.moved hW.alike hK, hDc.weaken (fun _ _ _ _ => trivial)⟩⟩ rfl rfl hl.1 rfl (lv_room (Nat.le_of_ble_eq_true rfl)) dX2_driverValue_59 ⟨Nat.le_of_ble_eq_true rfl, Nat.le_of_ble_eq_true rfl⟩) hS (fun q _ h => hFc q h) hFc (fun rr29 u t H28 locs ht hvm hw hB hz1 hk1 hS => ?_)
        obtain ⟨hP1, hK1, hD1⟩ := hB
        rw [ht] at hP1
        refine zTopi hw.symm ?_
        obtain ⟨hP, hD⟩ := va_join (wr := [(oX0 a0 h0 S0), (h0 2, .inl (y 1, 60, .inr (.inl (gB S0 2)))), (h0 3, .inl (y 0, 60, .inl (gA S0 3))), (h0 4, .inl (y 0, 60, .inl (gA S0 4))), (h0 5, .inl (y 0, 60, .inl (gA S0 5))), (h0 6, .inl (y 0, 60, .inl (gA S0 6))), (h0 7, .inl (y 0, 720, .inl (gA S0 7))), (h0 8, .inl (y 0, 60, .inl (gA S0 8))), (h0 9, .inl (y 0, 60, .inl (gA S0 9))), (h0 10, .inl (y 1, 60, .inr (.inl (gB S0 10)))), (h0 11, .inl (y 0, 60, .inl (gA S0 11))), (h0 12, .inl (y 0, 60, .inl (gA S0 12))), (aw, .inl (y 0, 60, .inl fw))]) (w1 := []) hP hD [] [0, 1, 2, 3, 4, 5, 6, 7, 8, 9, 10, 11, 12] rfl rfl (by decide) (by decide) hk1 hFc hP1 hD1
        have hP : va_P (dC, dI) vwCl ((cX0 a0 h0 y S0) ++ ([(aw, .inl (y 0, 60, .inl fw))])) H28 := hP.sub [0, 1, 2, 3, 4, 5, 6, 7, 8, 9, 10, 11, 12] rfl
        have hD : va_D A ((cX0 a0 h0 y S0) ++ ([(aw, .inl (y 0, 60, .inl fw))])) := hD.sub [0, 1, 2, 3, 4, 5, 6, 7, 8, 9, 10, 11, 12] (by decide) rfl
        refine lv_goto (tgt := 66) hx hb dX2_driverValue_62 (by decide) ?_
        have ho0 : r26 = or_ := congrArg (fun z : Int32 => z) (Option.some.inj h)
        exact W.iret (v := r26) hx hb hr (fun t ht hW => ⟨⟨r26, (), rfl, ho0, by rw [ht]; exact hP, va_K.moved hW.alike hK, hD⟩, hS.F ht⟩) hS.2.2 dX2_driverValue_66
    refine (eG19 _ _ _ _ _).mpr ?_
    have h := hr22
    refine lv_if_eq (tgt := 47) hx hb dX2_driverValue_40 (by decide) (fun c30 => ?_) (fun c30 => ?_)
    · have h := zY c30 h
      refine lv_iconst (v := 1) hx hb dX2_driverValue_47 (by decide) ?_
      exact (eG19 _ _ _ _ _).mp (jn20 (1 : Int32) _ _ _ (Option.some.inj h) hP hD hS (lv_sub hl [0, 1] rfl))
    · have h := zN c30 h
      refine lv_iconst (v := 0) hx hb dX2_driverValue_43 (by decide) ?_
      refine lv_goto (tgt := 48) hx hb dX2_driverValue_44 (by decide) ?_
      exact (eG19 _ _ _ _ _).mp (jn20 (0 : Int32) _ _ _ (Option.some.inj h) hP hD hS (lv_sub hl [0, 1] rfl))
  · have h := zN c13 h
    refine lv_iconst (v := 2) hx hb dX2_driverValue_32 (by decide) ?_
    have ho0 : (2 : Int32) = or_ := congrArg (fun z : Int32 => z) (Option.some.inj h)
    exact W.iret (v := 2) hx hb hr (fun t ht hW => ⟨⟨2, (), rfl, ho0, by rw [ht]; exact hP, va_K.moved hW.alike hK, hD⟩, hS.F ht⟩) hS.2.2 dX2_driverValue_33

set_option maxHeartbeats 4000000 in
set_option maxRecDepth 100000 in
theorem m_X2_busValue (l : Launch) (dC : Nat → ClassId) (dI : Nat → Nat → Nat) (y : Nat → ClassId) (a0 : Nat) (h0 : Nat → Nat) (S0 : SS) (aw : Nat) (fw : Nat → Int32) (p1 : Int32) (sz : Nat) (or_ : Int32) (h : f_X2_busValue S0 fw p1 = some or_) : Met l yX2_busValue wsX2_busValue ({ frames := 2, cells := 0, slots := 0, locals := 48 }) (va_Pc [.ref a0, .int p1, .ref aw] (fun U => U.heap.size = sz ∧ va_P (dC, dI) vwCl ((cX0 a0 h0 y S0) ++ ([(aw, .inl (y 0, 60, .inl fw))])) U.heap ∧ va_K (dC, dI) vwCl [(y 0, .int), (y 1, .long), (y 2, .byte), (y 3, .boolean)] U ∧ va_D (fun _ => True) ((cX0 a0 h0 y S0) ++ ([(aw, .inl (y 0, 60, .inl fw))])))) (va_Qi (fun (r : Int32) (_ : Unit) => r = or_) (fun (_ : Unit) (t : State) => va_P (dC, dI) vwCl ((cX0 a0 h0 y S0) ++ ([(aw, .inl (y 0, 60, .inl fw))])) t.heap ∧ va_K (dC, dI) vwCl [(y 0, .int), (y 1, .long), (y 2, .byte), (y 3, .boolean)] t ∧ va_D (va_A ((cX0 a0 h0 y S0) ++ ([(aw, .inl (y 0, 60, .inl fw))])) sz) ((cX0 a0 h0 y S0) ++ ([(aw, .inl (y 0, 60, .inl fw))]))) (va_A ((cX0 a0 h0 y S0) ++ ([(aw, .inl (y 0, 60, .inl fw))])) sz)) 0 0 (va_A ((cX0 a0 h0 y S0) ++ ([(aw, .inl (y 0, 60, .inl fw))])) sz) := by
  refine Met.ofW (cc := cX2_busValue) (maxL := 7) (ret := (some .int)) (by decide +kernel) rfl ?_
  intro p e s m args below meth c s₁ B hml hv
  obtain ⟨rfl, hsz, hP, hK, hD0⟩ := hv
  have hx := B.exec
  have hb := B.bytes
  have hr := B.returns
  have hts := atoms_spec (ws := wsX2_busValue) B.pre
  have hown : s.vm.findClass RX2 = some m.cls := findClass_of_methodNamed B.named
  have hlocks := B.notSynchronized
  subst hsz
  have hD := hD0.self (sz := s.heap.size)
  generalize hAe : va_A ((cX0 a0 h0 y S0) ++ ([(aw, .inl (y 0, 60, .inl fw))])) s.heap.size = A at hD ⊢
  have hA : ∀ q : Nat, s.heap.size ≤ q → A q := fun q h => by rw [← hAe]; exact Or.inr h
  have hS : va_S A s.heap s.heap [] := va_S.rf
  have hP : va_P (dC, dI) vwCl ((cX0 a0 h0 y S0) ++ ([(aw, .inl (y 0, 60, .inl fw))])) s.heap := hP
  have hl := lv_entry ([.ref a0, .int p1, .ref aw]) (n := 7) (Nat.le_of_ble_eq_true rfl)
  rw [lg_entry_eq]
  generalize (lg_sl ([.ref a0, .int p1, .ref aw]) ++ List.replicate (7 - (lg_sl ([.ref a0, .int p1, .ref aw])).length) Slot.unset).toArray = ls at hl ⊢
  have hl : lv_has ls 7 [(0, .ref a0), (1, .int p1), (2, .ref aw)] := hl
  refine lv_iconst (v := 3) hx hb dX2_busValue_0 (by decide) ?_
  refine lv_istore_n (lv' := [(3, .int 3), (0, .ref a0), (1, .int p1), (2, .ref aw)]) hx hb dX2_busValue_1 rfl hl (by decide) rfl (fun ls hl => ?_)
  refine lv_aload_n hx hb dX2_busValue_2 rfl (lv_at hl 1 rfl) ?_
  refine lv_iload_n hx hb dX2_busValue_3 rfl (lv_at hl 2 rfl) ?_
  obtain ⟨r1, hc2, h⟩ := zB_spec h
  have hPc := hP.sub (ws' := (cX0 a0 h0 y S0)) [0, 1, 2, 3, 4, 5, 6, 7, 8, 9, 10, 11] rfl
  have hDc := hD.sub (ws' := (cX0 a0 h0 y S0)) [0, 1, 2, 3, 4, 5, 6, 7, 8, 9, 10, 11] (by decide) rfl
  have hFc := va_free (wc := (cX0 a0 h0 y S0)) hD hS hA [0, 1, 2, 3, 4, 5, 6, 7, 8, 9, 10, 11] rfl
  refine va_calli (va_runV (As := [.int p1]) (rest := []) ⟨hx, hb, hml, hown, hts⟩ (m_X0_size l dC dI y a0 h0 S0 p1 s.heap.size r1 hc2) (cwV 1 hts gX2_busValue_X0_size rfl rfl rfl (by decide +kernel) ⟨Nat.le_of_ble_eq_true rfl, Nat.le_of_ble_eq_true rfl⟩) ⟨fun a U g mk q => by obtain ⟨q0, q1, qP, qK, qD⟩ := q; exact ⟨q0, q1, qP, va_K.moved (u := U) (U := U.calling g mk a) (Vm.Alike.refl U.vm) qK, qD⟩, va_recv hK hPc (ci := 0) (q0 := 0) rfl rfl, fun U hU hW => ⟨rfl, by rw [hU], by rw [hU]; exact hPc, va_K.moved hW.alike hK, hDc.weaken (fun _ _ _ _ => trivial)⟩⟩ rfl rfl hl.1 rfl (lv_room (Nat.le_of_ble_eq_true rfl)) dX2_busValue_4 ⟨Nat.le_of_ble_eq_true rfl, Nat.le_of_ble_eq_true rfl⟩) hS (fun q _ h => hFc q h) hFc (fun rr4 u t H3 locs ht hvm hw hB hz1 hk1 hS => ?_)
  obtain ⟨hP1, hK1, hD1⟩ := hB
  rw [ht] at hP1
  refine zTopi hw.symm ?_
  obtain ⟨hP, hD⟩ := va_join (wr := [(aw, .inl (y 0, 60, .inl fw))]) (w1 := (cX0 a0 h0 y S0)) hP hD [0, 1, 2, 3, 4, 5, 6, 7, 8, 9, 10, 11] [12] rfl rfl (by decide) (by decide) hk1 hFc hP1 hD1
  have hP : va_P (dC, dI) vwCl ((cX0 a0 h0 y S0) ++ ([(aw, .inl (y 0, 60, .inl fw))])) H3 := hP.sub [1, 2, 3, 4, 5, 6, 7, 8, 9, 10, 11, 12, 0] rfl
  have hD : va_D A ((cX0 a0 h0 y S0) ++ ([(aw, .inl (y 0, 60, .inl fw))])) := hD.sub [1, 2, 3, 4, 5, 6, 7, 8, 9, 10, 11, 12, 0] (by decide) rfl
  refine lv_istore (lv' := [(4, .int r1), (3, .int 3), (0, .ref a0), (1, .int p1), (2, .ref aw)]) hx hb dX2_busValue_7 hl (by decide) rfl (fun ls hl => ?_)
  refine lv_iconst (v := 0) hx hb dX2_busValue_9 (by decide) ?_
  refine lv_istore (lv' := [(5, .int 0), (4, .int r1), (3, .int 3), (0, .ref a0), (1, .int p1), (2, .ref aw)]) hx hb dX2_busValue_10 hl (by decide) rfl (fun ls hl => ?_)
  refine W_abs (fun GW5 eG6 => ?_)
  have hi10 := h
  have lp8 : ∀ (n : Nat) (v14 : Int32) (v15 : Int32) (HGW5 : Heap) (locs : List Loc) (ls : Array Slot), zI (b_X2_busValue_12 S0 fw p1 r1) n (v14, v15) = some or_ → va_P (dC, dI) vwCl ((cX0 a0 h0 y S0) ++ ([(aw, .inl (y 0, 60, .inl fw))])) HGW5 → va_D A ((cX0 a0 h0 y S0) ++ ([(aw, .inl (y 0, 60, .inl fw))])) → va_S A s.heap HGW5 locs → lv_has ls 7 [(4, .int r1), (0, .ref a0), (1, .int p1), (2, .ref aw), (3, .int v14), (5, .int v15)] → GW5 HGW5 locs 0 0 (F0 m 12 ls []) := by
    intro n
    induction n with
    | zero =>
      intro v14 v15 HGW5 locs ls hi10 hP hD hS hl
      exact (zI_0 hi10).elim
    | succ n ihlp8 =>
      intro v14 v15 HGW5 locs ls hi10 hP hD hS hl
      refine (eG6 _ _ _ _ _).mpr ?_
      obtain ⟨xx13, h, hx12⟩ := zI_spec hi10
      refine lv_iload hx hb dX2_busValue_12 (lv_at hl 5 rfl) ?_
      refine lv_iload hx hb dX2_busValue_14 (lv_at hl 0 rfl) ?_
      refine lv_icmp_ge (tgt := 60) hx hb dX2_busValue_16 (by decide) (fun c16 => ?_) (fun c16 => ?_)
      · have h := zY c16 h
        refine lv_iload_n hx hb dX2_busValue_60 rfl (lv_at hl 4 rfl) ?_
        have h := congrArg some (zI_r h hx12)
        have ho0 : v14 = or_ := congrArg (fun z : Int32 => z) (Option.some.inj h)
        exact W.iret (v := v14) hx hb hr (fun t ht hW => ⟨⟨v14, (), rfl, ho0, by rw [ht]; exact hP, va_K.moved hW.alike hK, hD⟩, hS.F ht⟩) hS.2.2 dX2_busValue_61
      · have h := zN c16 h
        refine lv_aload_n hx hb dX2_busValue_19 rfl (lv_at hl 1 rfl) ?_
        refine lv_iload_n hx hb dX2_busValue_20 rfl (lv_at hl 2 rfl) ?_
        refine lv_iload hx hb dX2_busValue_21 (lv_at hl 5 rfl) ?_
        refine lv_aload_n hx hb dX2_busValue_23 rfl (lv_at hl 3 rfl) ?_
        obtain ⟨r17, hc18, h⟩ := zB_spec h
        have hFc := zFree hD hS hA
        refine va_calli (va_runS (As := [.ref a0, .int p1, .int v15, .ref aw]) (rest := []) ⟨hx, hb, hml, hown, hts⟩ (m_X2_driverValue l dC dI y a0 h0 S0 aw fw p1 v15 HGW5.size r17 hc18) (va_cwS 4 hts gX2_busValue_X2_driverValue rfl rfl rfl (by decide +kernel) ⟨Nat.le_of_ble_eq_true rfl, Nat.le_of_ble_eq_true rfl⟩) ⟨fun a U g mk q => by obtain ⟨q0, q1, qP, qK, qD⟩ := q; exact ⟨q0, q1, qP, va_K.moved (u := U) (U := U.calling g mk a) (Vm.Alike.refl U.vm) qK, qD⟩, fun U hU hW => ⟨rfl, by rw [hU], by rw [hU]; exact hP, va_K.moved hW.alike hK, hD.weaken (fun _ _ _ _ => trivial)⟩⟩ rfl rfl hl.1 rfl (lv_room (Nat.le_of_ble_eq_true rfl)) dX2_busValue_24 ⟨Nat.le_of_ble_eq_true rfl, Nat.le_of_ble_eq_true rfl⟩) hS (fun q _ h => hFc q h) hFc (fun rr20 u t H19 locs ht hvm hw hB hz1 hk1 hS => ?_)
        obtain ⟨hP1, hK1, hD1⟩ := hB
        rw [ht] at hP1
        refine zTopi hw.symm ?_
        have hP := hP1
        have hD := hD1.weaken (fun _ q _ h => hFc q.1 h)
        have hP : va_P (dC, dI) vwCl ((cX0 a0 h0 y S0) ++ ([(aw, .inl (y 0, 60, .inl fw))])) H19 := hP
        have hD : va_D A ((cX0 a0 h0 y S0) ++ ([(aw, .inl (y 0, 60, .inl fw))])) := hD
        refine lv_istore (lv' := [(6, .int r17), (4, .int r1), (0, .ref a0), (1, .int p1), (2, .ref aw), (3, .int v14), (5, .int v15)]) hx hb dX2_busValue_27 hl (by decide) rfl (fun ls hl => ?_)
        refine lv_iload_n hx hb dX2_busValue_29 rfl (lv_at hl 5 rfl) ?_
        refine lv_iconst (v := 3) hx hb dX2_busValue_30 (by decide) ?_
        refine lv_icmp_ne (tgt := 40) hx hb dX2_busValue_31 (by decide) (fun c21 => ?_) (fun c21 => ?_)
        · have h := zN c21 h
          refine lv_iload hx hb dX2_busValue_40 (lv_at hl 0 rfl) ?_
          refine lv_iconst (v := 3) hx hb dX2_busValue_42 (by decide) ?_
          refine lv_icmp_eq (tgt := 54) hx hb dX2_busValue_43 (by decide) (fun c22 => ?_) (fun c22 => ?_)
          · have h := zY c22 h
            obtain ⟨v23, ev23, h⟩ := zL_spec h
            refine lv_iinc (v := v23) (lv' := [(5, .int v23), (6, .int r17), (4, .int r1), (0, .ref a0), (1, .int p1), (2, .ref aw), (3, .int v14)]) hx hb dX2_busValue_54 hl (k := 6) rfl (by rw [ev23]; rfl) (by decide) rfl (fun ls hl => ?_)
            refine lv_goto (tgt := 12) hx hb dX2_busValue_57 (by decide) ?_
            have h := zI_l h hx12
            exact (eG6 _ _ _ _ _).mp (ihlp8 v14 v23 _ _ _ h hP hD hS (lv_sub hl [2, 3, 4, 5, 6, 0] rfl))
          · have h := zN c22 h
            refine lv_iload hx hb dX2_busValue_46 (lv_at hl 0 rfl) ?_
            refine lv_iload_n hx hb dX2_busValue_48 rfl (lv_at hl 5 rfl) ?_
            refine lv_icmp_eq (tgt := 54) hx hb dX2_busValue_49 (by decide) (fun c24 => ?_) (fun c24 => ?_)
            · have h := zY c24 h
              obtain ⟨v25, ev25, h⟩ := zL_spec h
              refine lv_iinc (v := v25) (lv' := [(5, .int v25), (6, .int r17), (4, .int r1), (0, .ref a0), (1, .int p1), (2, .ref aw), (3, .int v14)]) hx hb dX2_busValue_54 hl (k := 6) rfl (by rw [ev25]; rfl) (by decide) rfl (fun ls hl => ?_)
              refine lv_goto (tgt := 12) hx hb dX2_busValue_57 (by decide) ?_
              have h := zI_l h hx12
              exact (eG6 _ _ _ _ _).mp (ihlp8 v14 v25 _ _ _ h hP hD hS (lv_sub hl [2, 3, 4, 5, 6, 0] rfl))
            · have h := zN c24 h
              refine lv_iconst (v := 2) hx hb dX2_busValue_52 (by decide) ?_
              refine lv_istore_n (lv' := [(3, .int 2), (6, .int r17), (4, .int r1), (0, .ref a0), (1, .int p1), (2, .ref aw), (5, .int v15)]) hx hb dX2_busValue_53 rfl hl (by decide) rfl (fun ls hl => ?_)
              obtain ⟨v26, ev26, h⟩ := zL_spec h
              refine lv_iinc (v := v26) (lv' := [(5, .int v26), (3, .int 2), (6, .int r17), (4, .int r1), (0, .ref a0), (1, .int p1), (2, .ref aw)]) hx hb dX2_busValue_54 hl (k := 6) rfl (by rw [ev26]; rfl) (by decide) rfl (fun ls hl => ?_)
              refine lv_goto (tgt := 12) hx hb dX2_busValue_57 (by decide) ?_
              have h := zI_l h hx12
              exact (eG6 _ _ _ _ _).mp (ihlp8 (2 : Int32) v26 _ _ _ h hP hD hS (lv_sub hl [3, 4, 5, 6, 1, 0] rfl))
        · have h := zY c21 h
          refine lv_iload hx hb dX2_busValue_34 (lv_at hl 0 rfl) ?_
          refine lv_istore_n (lv' := [(3, .int r17), (6, .int r17), (4, .int r1), (0, .ref a0), (1, .int p1), (2, .ref aw), (5, .int v15)]) hx hb dX2_busValue_36 rfl hl (by decide) rfl (fun ls hl => ?_)
          refine lv_goto (tgt := 54) hx hb dX2_busValue_37 (by decide) ?_
          obtain ⟨v27, ev27, h⟩ := zL_spec h
          refine lv_iinc (v := v27) (lv' := [(5, .int v27), (3, .int r17), (6, .int r17), (4, .int r1), (0, .ref a0), (1, .int p1), (2, .ref aw)]) hx hb dX2_busValue_54 hl (k := 6) rfl (by rw [ev27]; rfl) (by decide) rfl (fun ls hl => ?_)
          refine lv_goto (tgt := 12) hx hb dX2_busValue_57 (by decide) ?_
          have h := zI_l h hx12
          exact (eG6 _ _ _ _ _).mp (ihlp8 r17 v27 _ _ _ h hP hD hS (lv_sub hl [3, 4, 5, 6, 1, 0] rfl))
  exact lp8 zF (3 : Int32) (0 : Int32) _ _ _ hi10 hP hD hS (lv_sub hl [1, 3, 4, 5, 2, 0] rfl)

set_option maxHeartbeats 4000000 in
set_option maxRecDepth 100000 in
theorem m_X2_settle (l : Launch) (dC : Nat → ClassId) (dI : Nat → Nat → Nat) (y : Nat → ClassId) (a0 : Nat) (h0 : Nat → Nat) (S0 : SS) (aw : Nat) (fw : Nat → Int32) (sz : Nat) (o_w : Nat → Int32) (h : f_X2_settle S0 fw = some o_w) : Met l yX2_settle wsX2_settle ({ frames := 3, cells := 0, slots := 0, locals := 75 }) (va_Pc [.ref a0, .ref aw] (fun U => U.heap.size = sz ∧ va_P (dC, dI) vwCl ((cX0 a0 h0 y S0) ++ ([(aw, .inl (y 0, 60, .inl fw))])) U.heap ∧ va_K (dC, dI) vwCl [(y 0, .int), (y 1, .long), (y 2, .byte), (y 3, .boolean)] U ∧ va_D (fun _ => True) ((cX0 a0 h0 y S0) ++ ([(aw, .inl (y 0, 60, .inl fw))])))) (va_Qv (fun (_ : Unit) => True) (fun (_ : Unit) (t : State) => va_P (dC, dI) vwCl ((cX0 a0 h0 y S0) ++ ([(aw, .inl (y 0, 60, .inl o_w))])) t.heap ∧ va_K (dC, dI) vwCl [(y 0, .int), (y 1, .long), (y 2, .byte), (y 3, .boolean)] t ∧ va_D (va_A ((cX0 a0 h0 y S0) ++ ([(aw, .inl (y 0, 60, .inl fw))])) sz) ((cX0 a0 h0 y S0) ++ ([(aw, .inl (y 0, 60, .inl o_w))]))) (va_A ((cX0 a0 h0 y S0) ++ ([(aw, .inl (y 0, 60, .inl fw))])) sz)) 0 0 (va_A ((cX0 a0 h0 y S0) ++ ([(aw, .inl (y 0, 60, .inl fw))])) sz) := by
  refine Met.ofW (cc := cX2_settle) (maxL := 4) (ret := none) (by decide +kernel) rfl ?_
  intro p e s m args below meth c s₁ B hml hv
  obtain ⟨rfl, hsz, hP, hK, hD0⟩ := hv
  have hx := B.exec
  have hb := B.bytes
  have hr := B.returns
  have hts := atoms_spec (ws := wsX2_settle) B.pre
  have hown : s.vm.findClass RX2 = some m.cls := findClass_of_methodNamed B.named
  have hlocks := B.notSynchronized
  have inX0_ : ∀ w ∈ wsX00, w ∈ wsX2_settle := fun _ h => List.mem_cons_of_mem _ (List.mem_append_right _ h)
  subst hsz
  have hD := hD0.self (sz := s.heap.size)
  generalize hAe : va_A ((cX0 a0 h0 y S0) ++ ([(aw, .inl (y 0, 60, .inl fw))])) s.heap.size = A at hD ⊢
  have hA : ∀ q : Nat, s.heap.size ≤ q → A q := fun q h => by rw [← hAe]; exact Or.inr h
  have hS : va_S A s.heap s.heap [] := va_S.rf
  have hP : va_P (dC, dI) vwCl ((cX0 a0 h0 y S0) ++ ([(aw, .inl (y 0, 60, .inl fw))])) s.heap := hP
  have hl := lv_entry ([.ref a0, .ref aw]) (n := 4) (Nat.le_of_ble_eq_true rfl)
  rw [lg_entry_eq]
  generalize (lg_sl ([.ref a0, .ref aw]) ++ List.replicate (4 - (lg_sl ([.ref a0, .ref aw])).length) Slot.unset).toArray = ls at hl ⊢
  have hl : lv_has ls 4 [(0, .ref a0), (1, .ref aw)] := hl
  refine lv_iconst (v := 0) hx hb dX2_settle_0 (by decide) ?_
  refine lv_istore_n (lv' := [(2, .int 0), (0, .ref a0), (1, .ref aw)]) hx hb dX2_settle_1 rfl hl (by decide) rfl (fun ls hl => ?_)
  refine W_abs (fun GW1 eG2 => ?_)
  have hi6 := h
  have lp4 : ∀ (n : Nat) (v10 : Int32) (sw_11 : Nat → Int32) (HGW1 : Heap) (locs : List Loc) (ls : Array Slot), zI (b_X2_settle_2 S0) n (v10, sw_11) = some o_w → va_P (dC, dI) vwCl ((cX0 a0 h0 y S0) ++ ([(aw, .inl (y 0, 60, .inl sw_11))])) HGW1 → va_D A ((cX0 a0 h0 y S0) ++ ([(aw, .inl (y 0, 60, .inl sw_11))])) → va_S A s.heap HGW1 locs → lv_has ls 4 [(0, .ref a0), (1, .ref aw), (2, .int v10)] → GW1 HGW1 locs 0 0 (F0 m 2 ls []) := by
    intro n
    induction n with
    | zero =>
      intro v10 sw_11 HGW1 locs ls hi6 hP hD hS hl
      exact (zI_0 hi6).elim
    | succ n ihlp4 =>
      intro v10 sw_11 HGW1 locs ls hi6 hP hD hS hl
      refine (eG2 _ _ _ _ _).mpr ?_
      obtain ⟨xx9, h, hx8⟩ := zI_spec hi6
      refine lv_iload_n hx hb dX2_settle_2 rfl (lv_at hl 2 rfl) ?_
      refine lv_aload_n hx hb dX2_settle_3 rfl (lv_at hl 0 rfl) ?_
      refine va_get (D := (dC, dI)) (ci := 0) (v := .int (gI S0 0)) (C := RX0) (T := TX0) (N := 13) hx hb hts inX0_ hown hK hP 0 rfl rfl 0 (by decide) (hts (.fieldLink RX2 9 "GateWheel$Circuit" "count" "I") (List.mem_of_getElem? (i := 1) rfl)) (fun _ h9 => h9) rfl dX2_settle_4 ?_
      refine lv_icmp_ge (tgt := 64) hx hb dX2_settle_7 (by decide) (fun c12 => ?_) (fun c12 => ?_)
      · have h := zY c12 h
        have h := congrArg some (zI_r h hx8)
        have ho0 : sw_11 = o_w := congrArg (fun z : (Nat → Int32) => z) (Option.some.inj h)
        exact W.vret hx hb hr (fun t ht hW => ⟨⟨(), rfl, trivial, by rw [ht]; rw [← ho0]; exact hP, va_K.moved hW.alike hK, by rw [← ho0]; exact hD⟩, hS.F ht⟩) hS.2.2 dX2_settle_64
      · have h := zN c12 h
        refine lv_aload_n hx hb dX2_settle_10 rfl (lv_at hl 0 rfl) ?_
        refine va_get (D := (dC, dI)) (ci := 0) (v := .ref (h0 12)) (C := RX0) (T := TX0) (N := 13) hx hb hts inX0_ hown hK hP 0 rfl rfl 12 (by decide) (hts (.fieldLink RX2 15 "GateWheel$Circuit" "order" "[I") (List.mem_of_getElem? (i := 2) rfl)) (fun _ h9 => h9) rfl dX2_settle_11 ?_
        refine lv_iload_n hx hb dX2_settle_14 rfl (lv_at hl 2 rfl) ?_
        obtain ⟨hi13, h⟩ := zG_spec h
        refine va_iald hx hb hK hP 11 0 rfl rfl hi13 dX2_settle_15 ?_
        obtain ⟨v14, ev14, h⟩ := zL_spec h
        refine zTopi ev14 ?_
        refine lv_istore_n (lv' := [(3, .int v14), (0, .ref a0), (1, .ref aw), (2, .int v10)]) hx hb dX2_settle_16 rfl hl (by decide) rfl (fun ls hl => ?_)
        refine lv_aload_n hx hb dX2_settle_17 rfl (lv_at hl 1 rfl) ?_
        refine va_get (D := (dC, dI)) (ci := 0) (v := .ref (h0 4)) (C := RX0) (T := TX0) (N := 13) hx hb hts inX0_ hown hK hP 0 rfl rfl 4 (by decide) (hts (.fieldLink RX2 19 "GateWheel$Circuit" "kinds" "[I") (List.mem_of_getElem? (i := 3) rfl)) (fun _ h9 => h9) rfl dX2_settle_18 ?_
        refine lv_iload_n hx hb dX2_settle_21 rfl (lv_at hl 0 rfl) ?_
        obtain ⟨hi15, h⟩ := zG_spec h
        refine va_iald hx hb hK hP 3 0 rfl rfl hi15 dX2_settle_22 ?_
        refine lv_iconst (v := 2) hx hb dX2_settle_23 (by decide) ?_
        refine lv_icmp_ne (tgt := 39) hx hb dX2_settle_24 (by decide) (fun c16 => ?_) (fun c16 => ?_)
        · have h := zN c16 h
          refine lv_aload_n hx hb dX2_settle_39 rfl (lv_at hl 1 rfl) ?_
          refine va_get (D := (dC, dI)) (ci := 0) (v := .ref (h0 4)) (C := RX0) (T := TX0) (N := 13) hx hb hts inX0_ hown hK hP 0 rfl rfl 4 (by decide) (hts (.fieldLink RX2 19 "GateWheel$Circuit" "kinds" "[I") (List.mem_of_getElem? (i := 3) rfl)) (fun _ h9 => h9) rfl dX2_settle_40 ?_
          refine lv_iload_n hx hb dX2_settle_43 rfl (lv_at hl 0 rfl) ?_
          refine va_iald hx hb hK hP 3 0 rfl rfl hi15 dX2_settle_44 ?_
          refine lv_iconst (v := 1) hx hb dX2_settle_45 (by decide) ?_
          refine lv_icmp_ne (tgt := 58) hx hb dX2_settle_46 (by decide) (fun c17 => ?_) (fun c17 => ?_)
          · have h := zN c17 h
            obtain ⟨v18, ev18, h⟩ := zL_spec h
            refine lv_iinc (v := v18) (lv' := [(2, .int v18), (3, .int v14), (0, .ref a0), (1, .ref aw)]) hx hb dX2_settle_58 hl (k := 3) rfl (by rw [ev18]; rfl) (by decide) rfl (fun ls hl => ?_)
            refine lv_goto (tgt := 2) hx hb dX2_settle_61 (by decide) ?_
            have h := zI_l h hx8
            exact (eG2 _ _ _ _ _).mp (ihlp4 v18 sw_11 _ _ _ h hP hD hS (lv_sub hl [2, 3, 0] rfl))
          · have h := zY c17 h
            refine lv_aload_n hx hb dX2_settle_49 rfl (lv_at hl 2 rfl) ?_
            refine lv_iload_n hx hb dX2_settle_50 rfl (lv_at hl 0 rfl) ?_
            refine lv_aload_n hx hb dX2_settle_51 rfl (lv_at hl 1 rfl) ?_
            refine lv_iload_n hx hb dX2_settle_52 rfl (lv_at hl 0 rfl) ?_
            refine lv_aload_n hx hb dX2_settle_53 rfl (lv_at hl 2 rfl) ?_
            obtain ⟨r19, hc20, h⟩ := zB_spec h
            have hFc := zFree hD hS hA
            refine va_calli (va_runS (As := [.ref a0, .int v14, .ref aw]) (rest := [.int v14, .ref aw]) ⟨hx, hb, hml, hown, hts⟩ (m_X2_busValue l dC dI y a0 h0 S0 aw sw_11 v14 HGW1.size r19 hc20) (va_cwS 3 hts gX2_settle_X2_busValue rfl rfl rfl (by decide +kernel) ⟨Nat.le_of_ble_eq_true rfl, Nat.le_of_ble_eq_true rfl⟩) ⟨fun a U g mk q => by obtain ⟨q0, q1, qP, qK, qD⟩ := q; exact ⟨q0, q1, qP, va_K.moved (u := U) (U := U.calling g mk a) (Vm.Alike.refl U.vm) qK, qD⟩, fun U hU hW => ⟨rfl, by rw [hU], by rw [hU]; exact hP, va_K.moved hW.alike hK, hD.weaken (fun _ _ _ _ => trivial)⟩⟩ rfl rfl hl.1 rfl (lv_room (Nat.le_of_ble_eq_true rfl)) dX2_settle_54 ⟨Nat.le_of_ble_eq_true rfl, Nat.le_of_ble_eq_true rfl⟩) hS (fun q _ h => hFc q h) hFc (fun rr22 u t H21 locs ht hvm hw hB hz1 hk1 hS => ?_)
            obtain ⟨hP1, hK1, hD1⟩ := hB
            rw [ht] at hP1
            refine zTopi hw.symm ?_
            have hP := hP1
            have hD := hD1.weaken (fun _ q _ h => hFc q.1 h)
            have hP : va_P (dC, dI) vwCl ((cX0 a0 h0 y S0) ++ ([(aw, .inl (y 0, 60, .inl sw_11))])) H21 := hP
            have hD : va_D A ((cX0 a0 h0 y S0) ++ ([(aw, .inl (y 0, 60, .inl sw_11))])) := hD
            refine va_iast hx hb hK hP hD hS 12 0 rfl rfl hi15 dX2_settle_57 (fun H23 locs hP hD hS => ?_)
            obtain ⟨sw_24, esw_24, h⟩ := zL_spec h
            have hP : va_P (dC, dI) vwCl ((cX0 a0 h0 y S0) ++ ([(aw, .inl (y 0, 60, .inl sw_24))])) H23 := by rw [esw_24]; exact hP
            have hD : va_D A ((cX0 a0 h0 y S0) ++ ([(aw, .inl (y 0, 60, .inl sw_24))])) := by rw [esw_24]; exact hD
            obtain ⟨v25, ev25, h⟩ := zL_spec h
            refine lv_iinc (v := v25) (lv' := [(2, .int v25), (3, .int v14), (0, .ref a0), (1, .ref aw)]) hx hb dX2_settle_58 hl (k := 3) rfl (by rw [ev25]; rfl) (by decide) rfl (fun ls hl => ?_)
            refine lv_goto (tgt := 2) hx hb dX2_settle_61 (by decide) ?_
            have h := zI_l h hx8
            exact (eG2 _ _ _ _ _).mp (ihlp4 v25 sw_24 _ _ _ h hP hD hS (lv_sub hl [2, 3, 0] rfl))
        · have h := zY c16 h
          refine lv_aload_n hx hb dX2_settle_27 rfl (lv_at hl 2 rfl) ?_
          refine lv_iload_n hx hb dX2_settle_28 rfl (lv_at hl 0 rfl) ?_
          refine lv_aload_n hx hb dX2_settle_29 rfl (lv_at hl 1 rfl) ?_
          refine lv_iload_n hx hb dX2_settle_30 rfl (lv_at hl 0 rfl) ?_
          refine lv_aload_n hx hb dX2_settle_31 rfl (lv_at hl 2 rfl) ?_
          obtain ⟨r26, hc27, h⟩ := zB_spec h
          have hFc := zFree hD hS hA
          refine va_calli (va_runS (As := [.ref a0, .int v14, .ref aw]) (rest := [.int v14, .ref aw]) ⟨hx, hb, hml, hown, hts⟩ (m_X2_gateValue l dC dI y a0 h0 S0 aw sw_11 v14 HGW1.size r26 hc27) (va_cwS 3 hts gX2_settle_X2_gateValue rfl rfl rfl (by decide +kernel) ⟨Nat.le_of_ble_eq_true rfl, Nat.le_of_ble_eq_true rfl⟩) ⟨fun a U g mk q => by obtain ⟨q0, q1, qP, qK, qD⟩ := q; exact ⟨q0, q1, qP, va_K.moved (u := U) (U := U.calling g mk a) (Vm.Alike.refl U.vm) qK, qD⟩, fun U hU hW => ⟨rfl, by rw [hU], by rw [hU]; exact hP, va_K.moved hW.alike hK, hD.weaken (fun _ _ _ _ => trivial)⟩⟩ rfl rfl hl.1 rfl (lv_room (Nat.le_of_ble_eq_true rfl)) dX2_settle_32 ⟨Nat.le_of_ble_eq_true rfl, Nat.le_of_ble_eq_true rfl⟩) hS (fun q _ h => hFc q h) hFc (fun rr29 u t H28 locs ht hvm hw hB hz1 hk1 hS => ?_)
          obtain ⟨hP1, hK1, hD1⟩ := hB
          rw [ht] at hP1
          refine zTopi hw.symm ?_
          have hP := hP1
          have hD := hD1.weaken (fun _ q _ h => hFc q.1 h)
          have hP : va_P (dC, dI) vwCl ((cX0 a0 h0 y S0) ++ ([(aw, .inl (y 0, 60, .inl sw_11))])) H28 := hP
          have hD : va_D A ((cX0 a0 h0 y S0) ++ ([(aw, .inl (y 0, 60, .inl sw_11))])) := hD
          refine va_iast hx hb hK hP hD hS 12 0 rfl rfl hi15 dX2_settle_35 (fun H30 locs hP hD hS => ?_)
          obtain ⟨sw_31, esw_31, h⟩ := zL_spec h
          have hP : va_P (dC, dI) vwCl ((cX0 a0 h0 y S0) ++ ([(aw, .inl (y 0, 60, .inl sw_31))])) H30 := by rw [esw_31]; exact hP
          have hD : va_D A ((cX0 a0 h0 y S0) ++ ([(aw, .inl (y 0, 60, .inl sw_31))])) := by rw [esw_31]; exact hD
          refine lv_goto (tgt := 58) hx hb dX2_settle_36 (by decide) ?_
          obtain ⟨v32, ev32, h⟩ := zL_spec h
          refine lv_iinc (v := v32) (lv' := [(2, .int v32), (3, .int v14), (0, .ref a0), (1, .ref aw)]) hx hb dX2_settle_58 hl (k := 3) rfl (by rw [ev32]; rfl) (by decide) rfl (fun ls hl => ?_)
          refine lv_goto (tgt := 2) hx hb dX2_settle_61 (by decide) ?_
          have h := zI_l h hx8
          exact (eG2 _ _ _ _ _).mp (ihlp4 v32 sw_31 _ _ _ h hP hD hS (lv_sub hl [2, 3, 0] rfl))
  exact lp4 zF (0 : Int32) fw _ _ _ hi6 hP hD hS (lv_sub hl [1, 2, 0] rfl)

set_option maxHeartbeats 4000000 in
set_option maxRecDepth 100000 in
theorem m_X2_afterTick (l : Launch) (dC : Nat → ClassId) (dI : Nat → Nat → Nat) (y : Nat → ClassId) (a0 : Nat) (h0 : Nat → Nat) (S0 : SS) (aw : Nat) (fw : Nat → Int32) (p1 : Int32) (sz : Nat) (or_ : Int32) (h : f_X2_afterTick S0 fw p1 = some or_) : Met l yX2_afterTick wsX2_afterTick ({ frames := 1, cells := 0, slots := 0, locals := 22 }) (va_Pc [.ref a0, .int p1, .ref aw] (fun U => U.heap.size = sz ∧ va_P (dC, dI) vwCl ((cX0 a0 h0 y S0) ++ ([(aw, .inl (y 0, 60, .inl fw))])) U.heap ∧ va_K (dC, dI) vwCl [(y 0, .int), (y 1, .long), (y 2, .byte), (y 3, .boolean)] U ∧ va_D (fun _ => True) ((cX0 a0 h0 y S0) ++ ([(aw, .inl (y 0, 60, .inl fw))])))) (va_Qi (fun (r : Int32) (_ : Unit) => r = or_) (fun (_ : Unit) (t : State) => va_P (dC, dI) vwCl ((cX0 a0 h0 y S0) ++ ([(aw, .inl (y 0, 60, .inl fw))])) t.heap ∧ va_K (dC, dI) vwCl [(y 0, .int), (y 1, .long), (y 2, .byte), (y 3, .boolean)] t ∧ va_D (va_A ((cX0 a0 h0 y S0) ++ ([(aw, .inl (y 0, 60, .inl fw))])) sz) ((cX0 a0 h0 y S0) ++ ([(aw, .inl (y 0, 60, .inl fw))]))) (va_A ((cX0 a0 h0 y S0) ++ ([(aw, .inl (y 0, 60, .inl fw))])) sz)) 0 0 (va_A ((cX0 a0 h0 y S0) ++ ([(aw, .inl (y 0, 60, .inl fw))])) sz) := by
  refine Met.ofW (cc := cX2_afterTick) (maxL := 6) (ret := (some .int)) (by decide +kernel) rfl ?_
  intro p e s m args below meth c s₁ B hml hv
  obtain ⟨rfl, hsz, hP, hK, hD0⟩ := hv
  have hx := B.exec
  have hb := B.bytes
  have hr := B.returns
  have hts := atoms_spec (ws := wsX2_afterTick) B.pre
  have hown : s.vm.findClass RX2 = some m.cls := findClass_of_methodNamed B.named
  have hlocks := B.notSynchronized
  subst hsz
  have hD := hD0.self (sz := s.heap.size)
  generalize hAe : va_A ((cX0 a0 h0 y S0) ++ ([(aw, .inl (y 0, 60, .inl fw))])) s.heap.size = A at hD ⊢
  have hA : ∀ q : Nat, s.heap.size ≤ q → A q := fun q h => by rw [← hAe]; exact Or.inr h
  have hS : va_S A s.heap s.heap [] := va_S.rf
  have hP : va_P (dC, dI) vwCl ((cX0 a0 h0 y S0) ++ ([(aw, .inl (y 0, 60, .inl fw))])) s.heap := hP
  have hl := lv_entry ([.ref a0, .int p1, .ref aw]) (n := 6) (Nat.le_of_ble_eq_true rfl)
  rw [lg_entry_eq]
  generalize (lg_sl ([.ref a0, .int p1, .ref aw]) ++ List.replicate (6 - (lg_sl ([.ref a0, .int p1, .ref aw])).length) Slot.unset).toArray = ls at hl ⊢
  have hl : lv_has ls 6 [(0, .ref a0), (1, .int p1), (2, .ref aw)] := hl
  refine lv_aload_n hx hb dX2_afterTick_0 rfl (lv_at hl 2 rfl) ?_
  refine lv_iload_n hx hb dX2_afterTick_1 rfl (lv_at hl 1 rfl) ?_
  obtain ⟨hi1, h⟩ := zG_spec h
  refine va_iald hx hb hK hP 12 0 rfl rfl hi1 dX2_afterTick_2 ?_
  obtain ⟨v2, ev2, h⟩ := zL_spec h
  refine zTopi ev2 ?_
  refine lv_istore_n (lv' := [(3, .int v2), (0, .ref a0), (1, .int p1), (2, .ref aw)]) hx hb dX2_afterTick_3 rfl hl (by decide) rfl (fun ls hl => ?_)
  refine lv_aload_n hx hb dX2_afterTick_4 rfl (lv_at hl 3 rfl) ?_
  refine lv_aload_n hx hb dX2_afterTick_5 rfl (lv_at hl 1 rfl) ?_
  refine lv_iload_n hx hb dX2_afterTick_6 rfl (lv_at hl 2 rfl) ?_
  refine lv_iconst (v := 0) hx hb dX2_afterTick_7 (by decide) ?_
  obtain ⟨r3, hc4, h⟩ := zB_spec h
  have hPc := hP.sub (ws' := (cX0 a0 h0 y S0)) [0, 1, 2, 3, 4, 5, 6, 7, 8, 9, 10, 11] rfl
  have hDc := hD.sub (ws' := (cX0 a0 h0 y S0)) [0, 1, 2, 3, 4, 5, 6, 7, 8, 9, 10, 11] (by decide) rfl
  have hFc := va_free (wc := (cX0 a0 h0 y S0)) hD hS hA [0, 1, 2, 3, 4, 5, 6, 7, 8, 9, 10, 11] rfl
  refine va_calli (va_runV (As := [.int p1, .int 0]) (rest := [.ref aw]) ⟨hx, hb, hml, hown, hts⟩ (m_X0_part l dC dI y a0 h0 S0 p1 (0 : Int32) s.heap.size r3 hc4) (cwV 2 hts gX2_afterTick_X0_part rfl rfl rfl (by decide +kernel) ⟨Nat.le_of_ble_eq_true rfl, Nat.le_of_ble_eq_true rfl⟩) ⟨fun a U g mk q => by obtain ⟨q0, q1, qP, qK, qD⟩ := q; exact ⟨q0, q1, qP, va_K.moved (u := U) (U := U.calling g mk a) (Vm.Alike.refl U.vm) qK, qD⟩, va_recv hK hPc (ci := 0) (q0 := 0) rfl rfl, fun U hU hW => ⟨rfl, by rw [hU], by rw [hU]; exact hPc, va_K.moved hW.alike hK, hDc.weaken (fun _ _ _ _ => trivial)⟩⟩ rfl rfl hl.1 rfl (lv_room (Nat.le_of_ble_eq_true rfl)) dX2_afterTick_8 ⟨Nat.le_of_ble_eq_true rfl, Nat.le_of_ble_eq_true rfl⟩) hS (fun q _ h => hFc q h) hFc (fun rr6 u t H5 locs ht hvm hw hB hz1 hk1 hS => ?_)
  obtain ⟨hP1, hK1, hD1⟩ := hB
  rw [ht] at hP1
  refine zTopi hw.symm ?_
  obtain ⟨hP, hD⟩ := va_join (wr := [(aw, .inl (y 0, 60, .inl fw))]) (w1 := (cX0 a0 h0 y S0)) hP hD [0, 1, 2, 3, 4, 5, 6, 7, 8, 9, 10, 11] [12] rfl rfl (by decide) (by decide) hk1 hFc hP1 hD1
  have hP : va_P (dC, dI) vwCl ((cX0 a0 h0 y S0) ++ ([(aw, .inl (y 0, 60, .inl fw))])) H5 := hP.sub [1, 2, 3, 4, 5, 6, 7, 8, 9, 10, 11, 12, 0] rfl
  have hD : va_D A ((cX0 a0 h0 y S0) ++ ([(aw, .inl (y 0, 60, .inl fw))])) := hD.sub [1, 2, 3, 4, 5, 6, 7, 8, 9, 10, 11, 12, 0] (by decide) rfl
  obtain ⟨hi7, h⟩ := zG_spec h
  refine va_iald hx hb hK hP 12 0 rfl rfl hi7 dX2_afterTick_11 ?_
  obtain ⟨r8, hc9, h⟩ := zB_spec h
  have hPc := hP.sub (ws' := []) [] rfl
  have hDc := hD.sub (ws' := []) [] (by decide) rfl
  have hFc := va_free (wc := []) hD hS hA [] rfl
  refine va_calli (va_runS (As := [.int (fw r3.toNatClampNeg)]) (rest := []) ⟨hx, hb, hml, hown, hts⟩ (m_X2_takenIn l dC dI y (fw r3.toNatClampNeg) H5.size r8 hc9) (va_cwS 1 hts gX2_afterTick_X2_takenIn rfl rfl rfl (by decide +kernel) ⟨Nat.le_of_ble_eq_true rfl, Nat.le_of_ble_eq_true rfl⟩) ⟨fun a U g mk q => by obtain ⟨q0, q1, qP, qK, qD⟩ := q; exact ⟨q0, q1, qP, va_K.moved (u := U) (U := U.calling g mk a) (Vm.Alike.refl U.vm) qK, qD⟩, fun U hU hW => ⟨rfl, by rw [hU], by rw [hU]; exact hPc, va_K.moved hW.alike hK, hDc.weaken (fun _ _ _ _ => trivial)⟩⟩ rfl rfl hl.1 rfl (lv_room (Nat.le_of_ble_eq_true rfl)) dX2_afterTick_12 ⟨Nat.le_of_ble_eq_true rfl, Nat.le_of_ble_eq_true rfl⟩) hS (fun q _ h => hFc q h) hFc (fun rr11 u t H10 locs ht hvm hw hB hz1 hk1 hS => ?_)
  obtain ⟨hP1, hK1, hD1⟩ := hB
  rw [ht] at hP1
  refine zTopi hw.symm ?_
  obtain ⟨hP, hD⟩ := va_join (wr := [(oX0 a0 h0 S0), (h0 2, .inl (y 1, 60, .inr (.inl (gB S0 2)))), (h0 3, .inl (y 0, 60, .inl (gA S0 3))), (h0 4, .inl (y 0, 60, .inl (gA S0 4))), (h0 5, .inl (y 0, 60, .inl (gA S0 5))), (h0 6, .inl (y 0, 60, .inl (gA S0 6))), (h0 7, .inl (y 0, 720, .inl (gA S0 7))), (h0 8, .inl (y 0, 60, .inl (gA S0 8))), (h0 9, .inl (y 0, 60, .inl (gA S0 9))), (h0 10, .inl (y 1, 60, .inr (.inl (gB S0 10)))), (h0 11, .inl (y 0, 60, .inl (gA S0 11))), (h0 12, .inl (y 0, 60, .inl (gA S0 12))), (aw, .inl (y 0, 60, .inl fw))]) (w1 := []) hP hD [] [0, 1, 2, 3, 4, 5, 6, 7, 8, 9, 10, 11, 12] rfl rfl (by decide) (by decide) hk1 hFc hP1 hD1
  have hP : va_P (dC, dI) vwCl ((cX0 a0 h0 y S0) ++ ([(aw, .inl (y 0, 60, .inl fw))])) H10 := hP.sub [0, 1, 2, 3, 4, 5, 6, 7, 8, 9, 10, 11, 12] rfl
  have hD : va_D A ((cX0 a0 h0 y S0) ++ ([(aw, .inl (y 0, 60, .inl fw))])) := hD.sub [0, 1, 2, 3, 4, 5, 6, 7, 8, 9, 10, 11, 12] (by decide) rfl
  refine lv_istore (lv' := [(4, .int r8), (3, .int v2), (0, .ref a0), (1, .int p1), (2, .ref aw)]) hx hb dX2_afterTick_15 hl (by decide) rfl (fun ls hl => ?_)
  refine lv_aload_n hx hb dX2_afterTick_17 rfl (lv_at hl 2 rfl) ?_
  refine lv_iload_n hx hb dX2_afterTick_18 rfl (lv_at hl 3 rfl) ?_
  obtain ⟨r12, hc13, h⟩ := zB_spec h
  have hPc := hP.sub (ws' := (cX0 a0 h0 y S0)) [0, 1, 2, 3, 4, 5, 6, 7, 8, 9, 10, 11] rfl
  have hDc := hD.sub (ws' := (cX0 a0 h0 y S0)) [0, 1, 2, 3, 4, 5, 6, 7, 8, 9, 10, 11] (by decide) rfl
  have hFc := va_free (wc := (cX0 a0 h0 y S0)) hD hS hA [0, 1, 2, 3, 4, 5, 6, 7, 8, 9, 10, 11] rfl
  refine va_calli (va_runV (As := [.int p1]) (rest := []) ⟨hx, hb, hml, hown, hts⟩ (m_X0_size l dC dI y a0 h0 S0 p1 H10.size r12 hc13) (cwV 1 hts gX2_afterTick_X0_size rfl rfl rfl (by decide +kernel) ⟨Nat.le_of_ble_eq_true rfl, Nat.le_of_ble_eq_true rfl⟩) ⟨fun a U g mk q => by obtain ⟨q0, q1, qP, qK, qD⟩ := q; exact ⟨q0, q1, qP, va_K.moved (u := U) (U := U.calling g mk a) (Vm.Alike.refl U.vm) qK, qD⟩, va_recv hK hPc (ci := 0) (q0 := 0) rfl rfl, fun U hU hW => ⟨rfl, by rw [hU], by rw [hU]; exact hPc, va_K.moved hW.alike hK, hDc.weaken (fun _ _ _ _ => trivial)⟩⟩ rfl rfl hl.1 rfl (lv_room (Nat.le_of_ble_eq_true rfl)) dX2_afterTick_19 ⟨Nat.le_of_ble_eq_true rfl, Nat.le_of_ble_eq_true rfl⟩) hS (fun q _ h => hFc q h) hFc (fun rr15 u t H14 locs ht hvm hw hB hz1 hk1 hS => ?_)
  obtain ⟨hP1, hK1, hD1⟩ := hB
  rw [ht] at hP1
  refine zTopi hw.symm ?_
  obtain ⟨hP, hD⟩ := va_join (wr := [(aw, .inl (y 0, 60, .inl fw))]) (w1 := (cX0 a0 h0 y S0)) hP hD [0, 1, 2, 3, 4, 5, 6, 7, 8, 9, 10, 11] [12] rfl rfl (by decide) (by decide) hk1 hFc hP1 hD1
  have hP : va_P (dC, dI) vwCl ((cX0 a0 h0 y S0) ++ ([(aw, .inl (y 0, 60, .inl fw))])) H14 := hP.sub [1, 2, 3, 4, 5, 6, 7, 8, 9, 10, 11, 12, 0] rfl
  have hD : va_D A ((cX0 a0 h0 y S0) ++ ([(aw, .inl (y 0, 60, .inl fw))])) := hD.sub [1, 2, 3, 4, 5, 6, 7, 8, 9, 10, 11, 12, 0] (by decide) rfl
  refine lv_iconst (v := 1) hx hb dX2_afterTick_22 (by decide) ?_
  refine W_abs (fun GW16 eG17 => ?_)
  obtain ⟨ov19, hr20, h⟩ := zB_spec h
  have jn18 : ∀ (v22 : Int32) (HGW16 : Heap) (locs : List Loc) (ls : Array Slot), v22 = ov19 → va_P (dC, dI) vwCl ((cX0 a0 h0 y S0) ++ ([(aw, .inl (y 0, 60, .inl fw))])) HGW16 → va_D A ((cX0 a0 h0 y S0) ++ ([(aw, .inl (y 0, 60, .inl fw))])) → va_S A s.heap HGW16 locs → lv_has ls 6 [(4, .int r8), (3, .int v2)] → GW16 HGW16 locs 0 0 (F0 m 38 ls [.int v22]) := by
    intro v22 HGW16 locs ls hv hP hD hS hl
    subst hv
    refine (eG17 _ _ _ _ _).mpr ?_
    refine lv_istore (lv' := [(5, .int v22), (4, .int r8), (3, .int v2)]) hx hb dX2_afterTick_38 hl (by decide) rfl (fun ls hl => ?_)
    refine lv_iload hx hb dX2_afterTick_40 (lv_at hl 0 rfl) ?_
    refine lv_iconst (v := 1) hx hb dX2_afterTick_42 (by decide) ?_
    refine lv_icmp_ne (tgt := 49) hx hb dX2_afterTick_43 (by decide) (fun c23 => ?_) (fun c23 => ?_)
    · have h := zN c23 h
      refine lv_iload hx hb dX2_afterTick_49 (lv_at hl 0 rfl) ?_
      refine lv_if_ne (tgt := 56) hx hb dX2_afterTick_51 (by decide) (fun c24 => ?_) (fun c24 => ?_)
      · have h := zN c24 h
        refine lv_iload hx hb dX2_afterTick_56 (lv_at hl 1 rfl) ?_
        refine lv_iload_n hx hb dX2_afterTick_58 rfl (lv_at hl 2 rfl) ?_
        refine lv_icmp_ne (tgt := 66) hx hb dX2_afterTick_59 (by decide) (fun c25 => ?_) (fun c25 => ?_)
        · have h := zN c25 h
          refine lv_iconst (v := 2) hx hb dX2_afterTick_66 (by decide) ?_
          have ho0 : (2 : Int32) = or_ := congrArg (fun z : Int32 => z) (Option.some.inj h)
          exact W.iret (v := 2) hx hb hr (fun t ht hW => ⟨⟨2, (), rfl, ho0, by rw [ht]; exact hP, va_K.moved hW.alike hK, hD⟩, hS.F ht⟩) hS.2.2 dX2_afterTick_67
        · have h := zY c25 h
          refine lv_iload_n hx hb dX2_afterTick_62 rfl (lv_at hl 2 rfl) ?_
          refine lv_goto (tgt := 67) hx hb dX2_afterTick_63 (by decide) ?_
          have ho0 : v2 = or_ := congrArg (fun z : Int32 => z) (Option.some.inj h)
          exact W.iret (v := v2) hx hb hr (fun t ht hW => ⟨⟨v2, (), rfl, ho0, by rw [ht]; exact hP, va_K.moved hW.alike hK, hD⟩, hS.F ht⟩) hS.2.2 dX2_afterTick_67
      · have h := zY c24 h
        refine lv_iload_n hx hb dX2_afterTick_54 rfl (lv_at hl 2 rfl) ?_
        have ho0 : v2 = or_ := congrArg (fun z : Int32 => z) (Option.some.inj h)
        exact W.iret (v := v2) hx hb hr (fun t ht hW => ⟨⟨v2, (), rfl, ho0, by rw [ht]; exact hP, va_K.moved hW.alike hK, hD⟩, hS.F ht⟩) hS.2.2 dX2_afterTick_55
    · have h := zY c23 h
      refine lv_iload hx hb dX2_afterTick_46 (lv_at hl 1 rfl) ?_
      have ho0 : r8 = or_ := congrArg (fun z : Int32 => z) (Option.some.inj h)
      exact W.iret (v := r8) hx hb hr (fun t ht hW => ⟨⟨r8, (), rfl, ho0, by rw [ht]; exact hP, va_K.moved hW.alike hK, hD⟩, hS.F ht⟩) hS.2.2 dX2_afterTick_48
  refine (eG17 _ _ _ _ _).mpr ?_
  have h := hr20
  refine lv_icmp_le (tgt := 37) hx hb dX2_afterTick_23 (by decide) (fun c26 => ?_) (fun c26 => ?_)
  · have h := zY c26 h
    refine lv_iconst (v := 1) hx hb dX2_afterTick_37 (by decide) ?_
    exact (eG17 _ _ _ _ _).mp (jn18 (1 : Int32) _ _ _ (Option.some.inj h) hP hD hS (lv_sub hl [0, 1] rfl))
  · have h := zN c26 h
    refine lv_aload_n hx hb dX2_afterTick_26 rfl (lv_at hl 4 rfl) ?_
    refine lv_aload_n hx hb dX2_afterTick_27 rfl (lv_at hl 2 rfl) ?_
    refine lv_iload_n hx hb dX2_afterTick_28 rfl (lv_at hl 3 rfl) ?_
    refine lv_iconst (v := 1) hx hb dX2_afterTick_29 (by decide) ?_
    obtain ⟨r27, hc28, h⟩ := zB_spec h
    have hPc := hP.sub (ws' := (cX0 a0 h0 y S0)) [0, 1, 2, 3, 4, 5, 6, 7, 8, 9, 10, 11] rfl
    have hDc := hD.sub (ws' := (cX0 a0 h0 y S0)) [0, 1, 2, 3, 4, 5, 6, 7, 8, 9, 10, 11] (by decide) rfl
    have hFc := va_free (wc := (cX0 a0 h0 y S0)) hD hS hA [0, 1, 2, 3, 4, 5, 6, 7, 8, 9, 10, 11] rfl
    refine va_calli (va_runV (As := [.int p1, .int 1]) (rest := [.ref aw]) ⟨hx, hb, hml, hown, hts⟩ (m_X0_part l dC dI y a0 h0 S0 p1 (1 : Int32) H14.size r27 hc28) (cwV 2 hts gX2_afterTick_X0_part rfl rfl rfl (by decide +kernel) ⟨Nat.le_of_ble_eq_true rfl, Nat.le_of_ble_eq_true rfl⟩) ⟨fun a U g mk q => by obtain ⟨q0, q1, qP, qK, qD⟩ := q; exact ⟨q0, q1, qP, va_K.moved (u := U) (U := U.calling g mk a) (Vm.Alike.refl U.vm) qK, qD⟩, va_recv hK hPc (ci := 0) (q0 := 0) rfl rfl, fun U hU hW => ⟨rfl, by rw [hU], by rw [hU]; exact hPc, va_K.moved hW.alike hK, hDc.weaken (fun _ _ _ _ => trivial)⟩⟩ rfl rfl hl.1 rfl (lv_room (Nat.le_of_ble_eq_true rfl)) dX2_afterTick_30 ⟨Nat.le_of_ble_eq_true rfl, Nat.le_of_ble_eq_true rfl⟩) hS (fun q _ h => hFc q h) hFc (fun rr30 u t H29 locs ht hvm hw hB hz1 hk1 hS => ?_)
    obtain ⟨hP1, hK1, hD1⟩ := hB
    rw [ht] at hP1
    refine zTopi hw.symm ?_
    obtain ⟨hP, hD⟩ := va_join (wr := [(aw, .inl (y 0, 60, .inl fw))]) (w1 := (cX0 a0 h0 y S0)) hP hD [0, 1, 2, 3, 4, 5, 6, 7, 8, 9, 10, 11] [12] rfl rfl (by decide) (by decide) hk1 hFc hP1 hD1
    have hP : va_P (dC, dI) vwCl ((cX0 a0 h0 y S0) ++ ([(aw, .inl (y 0, 60, .inl fw))])) H29 := hP.sub [1, 2, 3, 4, 5, 6, 7, 8, 9, 10, 11, 12, 0] rfl
    have hD : va_D A ((cX0 a0 h0 y S0) ++ ([(aw, .inl (y 0, 60, .inl fw))])) := hD.sub [1, 2, 3, 4, 5, 6, 7, 8, 9, 10, 11, 12, 0] (by decide) rfl
    obtain ⟨hi31, h⟩ := zG_spec h
    refine va_iald hx hb hK hP 12 0 rfl rfl hi31 dX2_afterTick_33 ?_
    refine lv_goto (tgt := 38) hx hb dX2_afterTick_34 (by decide) ?_
    exact (eG17 _ _ _ _ _).mp (jn18 (fw r27.toNatClampNeg) _ _ _ (Option.some.inj h) hP hD hS (lv_sub hl [0, 1] rfl))
