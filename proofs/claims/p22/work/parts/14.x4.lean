noncomputable def f_J9_floorMod_7cf53 (p1 : Int32) (p2 : Int32) : Option (Int32) :=
  zG (¬ p2 = 0) (
  zL (p1 - p1 / p2 * p2) (fun v2 =>
  if (0 : Int32) ≤ (p1 ^^^ p2) then some v2
  else if v2 = (0 : Int32) then some v2
  else some (v2 + p2)))

noncomputable def f_X4_slotAt (p1 : Int32) (p2 : Int32) : Option (Int32) :=
  zB (f_J9_floorMod_7cf53 p2 (10 : Int32)) (fun (r1 : Int32) =>
  some ((p1 * (10 : Int32)) + r1))

noncomputable def b_X4_begin_58 (S0 : SS) : (Int32 × SS) → Option ((Int32 × SS) ⊕ (SS)) := fun (v26, s4_27) =>
  if ((gI S0 0) * (10 : Int32)) ≤ v26 then some (Sum.inr s4_27)
  else zG (vp_in v26 600) (
  zL (sA s4_27 4 (upd (gA s4_27 4) v26.toNatClampNeg (-1 : Int32))) (fun s4_31 =>
  zL (v26 + 1) (fun v32 =>
  some (Sum.inl (v32, s4_31)))))
noncomputable def b_X4_begin_17 (S0 : SS) (fw : Nat → Int32) : (Int32 × SS) → Option ((Int32 × SS) ⊕ (SS)) := fun (v33, s4_34) =>
  if (gI S0 0) ≤ v33 then some (Sum.inr s4_34)
  else zG (vp_in v33 60) (
  zL (sA s4_34 2 (upd (gA s4_34 2) v33.toNatClampNeg (fw v33.toNatClampNeg))) (fun s4_38 =>
  zL (sA s4_38 3 (upd (gA s4_38 3) v33.toNatClampNeg (fw v33.toNatClampNeg))) (fun s4_40 =>
  zL (sA s4_40 6 (upd (gA s4_40 6) v33.toNatClampNeg (0 : Int32))) (fun s4_42 =>
  zL (v33 + 1) (fun v43 =>
  some (Sum.inl (v43, s4_42)))))))
noncomputable def f_X4_begin (S4 : SS) (S0 : SS) (fw : Nat → Int32) : Option (SS) :=
  zL (sI S4 0 (0 : Int32)) (fun s4_2 =>
  zL (sI s4_2 1 (0 : Int32)) (fun s4_4 =>
  zL (sL s4_4 7 (0 : Int64)) (fun s4_6 =>
  zB (zI (b_X4_begin_17 S0 fw) zF ((0 : Int32), s4_6)) (fun (s4_16 : SS) =>
  zI (b_X4_begin_58 S0) zF ((0 : Int32), s4_16)))))

noncomputable def f_X4_change (S4 : SS) (p1 : Int32) (p2 : Int32) : Option (Int32 × SS) :=
  zG (vp_in p1 60) (
  if (gA S4 2 p1.toNatClampNeg) = p2 then some ((0 : Int32), S4)
  else zL (sA S4 2 (upd (gA S4 2) p1.toNatClampNeg p2)) (fun s4_4 =>
  zL (sL s4_4 7 ((gL s4_4 7) ||| (jLs (1 : Int64) p1))) (fun s4_6 =>
  if (20 : Int32) ≤ (gA s4_6 6 p1.toNatClampNeg) then some ((1 : Int32), s4_6)
  else zG (vp_in ((p1 * (20 : Int32)) + (gA s4_6 6 p1.toNatClampNeg)) 1200) (
  zL (sA s4_6 5 (upd (gA s4_6 5) ((p1 * (20 : Int32)) + (gA s4_6 6 p1.toNatClampNeg)).toNatClampNeg (((4 : Int32) * (gI s4_6 0)) + p2))) (fun s4_10 =>
  zL (sA s4_10 6 (upd (gA s4_10 6) p1.toNatClampNeg ((gA s4_10 6 p1.toNatClampNeg) + (1 : Int32)))) (fun s4_12 =>
  some ((1 : Int32), s4_12)))))))

noncomputable def f_X4_quiet (S4 : SS) : Option (Int32) :=
  if (gI S4 1) = (0 : Int32) then if (lg_cmp (gL S4 7) (0 : Int64)) = (0 : Int32) then some (1 : Int32)
  else some (0 : Int32)
  else some (0 : Int32)

noncomputable def f_X4_changeOf (S4 : SS) (p1 : Int32) (p2 : Int32) : Option (Int32) :=
  if p2 < (0 : Int32) then some (-1 : Int32)
  else zG (vp_in p1 60) (
  if (gA S4 6 p1.toNatClampNeg) ≤ p2 then some (-1 : Int32)
  else zG (vp_in ((p1 * (20 : Int32)) + p2) 1200) (
  some (gA S4 5 ((p1 * (20 : Int32)) + p2).toNatClampNeg)))

noncomputable def b_X4_changeBuses_4 (S0 : SS) : (Int32 × Int32 × SS) → Option ((Int32 × Int32 × SS) ⊕ (Int32 × SS)) := fun (v10, v11, s4_12) =>
  if (gI S0 0) ≤ v11 then some (Sum.inr (v10, s4_12))
  else zG (vp_in v11 60) (
  zL (gA S0 12 v11.toNatClampNeg) (fun v15 =>
  zG (vp_in v15 60) (
  if (gA S0 4 v15.toNatClampNeg) = (1 : Int32) then zB (f_X2_busValue S0 (gA s4_12 2) v15) (fun (r19 : Int32) =>
  zB (f_X4_change s4_12 v15 r19) (fun ((r23, s4_24) : Int32 × SS) =>
  zL (v10 + r23) (fun v28 =>
  zL (v11 + 1) (fun v29 =>
  some (Sum.inl (v28, v29, s4_24))))))
  else zL (v11 + 1) (fun v18 =>
  some (Sum.inl (v10, v18, s4_12))))))
noncomputable def f_X4_changeBuses (S4 : SS) (S0 : SS) : Option (Int32 × SS) :=
  zI (b_X4_changeBuses_4 S0) zF ((0 : Int32), (0 : Int32), S4)

noncomputable def f_X4_lookAt (S4 : SS) (S0 : SS) (p2 : Int32) : Option (SS) :=
  zB (f_X2_gateValue S0 (gA S4 2) p2) (fun (r1 : Int32) =>
  zG (vp_in p2 60) (
  if r1 = (gA S4 3 p2.toNatClampNeg) then some S4
  else zL (sA S4 3 (upd (gA S4 3) p2.toNatClampNeg r1)) (fun s4_8 =>
  zB (f_X4_slotAt p2 ((gI s4_8 0) + (gA S0 6 p2.toNatClampNeg))) (fun (r9 : Int32) =>
  zG (vp_in r9 600) (
  zB (if (gA s4_8 4 r9.toNatClampNeg) = (-1 : Int32) then zL (sI s4_8 1 ((gI s4_8 1) + (1 : Int32))) (fun s4_25 =>
  some s4_25)
  else some s4_8) (fun (s4_20 : SS) =>
  zL (sA s4_20 4 (upd (gA s4_20 4) r9.toNatClampNeg r1)) (fun s4_22 =>
  some s4_22)))))))

noncomputable def b_X4_follow_19 (S0 : SS) : (Int32 × SS) → Option ((Int32 × SS) ⊕ (SS)) := fun (v19, s4_20) =>
  if (gI S0 0) ≤ v19 then some (Sum.inr s4_20)
  else zG (vp_in v19 60) (
  if (gA S0 4 v19.toNatClampNeg) = (2 : Int32) then zB (f_X0_dependsOn S0 v19 (gL s4_20 7)) (fun (r25 : Int32) =>
  if r25 = (0 : Int32) then zL (v19 + 1) (fun v30 =>
  some (Sum.inl (v30, s4_20)))
  else zB (f_X4_lookAt s4_20 S0 v19) (fun (s4_31 : SS) =>
  zL (v19 + 1) (fun v35 =>
  some (Sum.inl (v35, s4_31)))))
  else zL (v19 + 1) (fun v24 =>
  some (Sum.inl (v24, s4_20))))
noncomputable def f_X4_follow (S4 : SS) (S0 : SS) : Option (Int32 × SS) :=
  if (lg_cmp (gL S4 7) (0 : Int64)) = (0 : Int32) then some ((0 : Int32), S4)
  else zB (f_X4_changeBuses S4 S0) (fun ((r2, s4_3) : Int32 × SS) =>
  zB (zI (b_X4_follow_19 S0) zF ((0 : Int32), s4_3)) (fun (s4_16 : SS) =>
  zL (sL s4_16 7 (0 : Int64)) (fun s4_18 =>
  some (r2, s4_18))))

noncomputable def b_X4_arrive_4 (S0 : SS) : (Int32 × Int32 × SS) → Option ((Int32 × Int32 × SS) ⊕ (Int32 × SS)) := fun (v10, v11, s4_12) =>
  if (gI S0 0) ≤ v11 then some (Sum.inr (v10, s4_12))
  else zB (f_X4_slotAt v11 (gI s4_12 0)) (fun (r14 : Int32) =>
  zG (vp_in r14 600) (
  if (gA s4_12 4 r14.toNatClampNeg) = (-1 : Int32) then zL (v11 + 1) (fun v20 =>
  some (Sum.inl (v10, v20, s4_12)))
  else zB (f_X4_change s4_12 v11 (gA s4_12 4 r14.toNatClampNeg)) (fun ((r21, s4_22) : Int32 × SS) =>
  zL (v10 + r21) (fun v26 =>
  zL (sA s4_22 4 (upd (gA s4_22 4) r14.toNatClampNeg (-1 : Int32))) (fun s4_28 =>
  zL (sI s4_28 1 ((gI s4_28 1) - (1 : Int32))) (fun s4_30 =>
  zL (v11 + 1) (fun v31 =>
  some (Sum.inl (v26, v31, s4_30)))))))))
noncomputable def f_X4_arrive (S4 : SS) (S0 : SS) : Option (Int32 × SS) :=
  zI (b_X4_arrive_4 S0) zF ((0 : Int32), (0 : Int32), S4)

noncomputable def b_X4_turn_17 (S0 : SS) (p2 : Int32) : (Int32 × Int32 × SS) → Option ((Int32 × Int32 × SS) ⊕ (Int32 × SS)) := fun (v20, v21, s4_22) =>
  if p2 ≤ v21 then some (Sum.inr (v20, s4_22))
  else if (gI s4_22 1) ≤ (0 : Int32) then some (Sum.inr (v20, s4_22))
  else zL (sI s4_22 0 ((gI s4_22 0) + (1 : Int32))) (fun s4_26 =>
  zB (f_X4_arrive s4_26 S0) (fun ((r27, s4_28) : Int32 × SS) =>
  zL (v20 + r27) (fun v32 =>
  zB (f_X4_follow s4_28 S0) (fun ((r33, s4_34) : Int32 × SS) =>
  zL (v32 + r33) (fun v38 =>
  zL (v21 + 1) (fun v39 =>
  some (Sum.inl (v38, v39, s4_34))))))))
noncomputable def f_X4_turn (S4 : SS) (S0 : SS) (p2 : Int32) : Option (Int32 × SS) :=
  zL ((gI S4 0) + p2) (fun v1 =>
  zB (f_X4_follow S4 S0) (fun ((r2, s4_3) : Int32 × SS) =>
  zB (zI (b_X4_turn_17 S0 p2) zF (r2, (0 : Int32), s4_3)) (fun ((v16, s4_17) : Int32 × SS) =>
  zL (sI s4_17 0 v1) (fun s4_19 =>
  some (v16, s4_19)))))

set_option maxHeartbeats 4000000 in
set_option maxRecDepth 100000 in
theorem m_J9_floorMod_7cf53 (l : Launch) (dC : Nat → ClassId) (dI : Nat → Nat → Nat) (y : Nat → ClassId) (p1 : Int32) (p2 : Int32) (sz : Nat) (or_ : Int32) (h : f_J9_floorMod_7cf53 p1 p2 = some or_) : Met l yJ9_floorMod_7cf53 wsJ9_floorMod_7cf53 ({ frames := 0, cells := 0, slots := 0, locals := 0 }) (va_Pc [.int p1, .int p2] (fun U => U.heap.size = sz ∧ va_P (dC, dI) vwCl [] U.heap ∧ va_K (dC, dI) vwCl [(y 0, .int), (y 1, .long), (y 2, .byte), (y 3, .boolean)] U ∧ va_D (fun _ => True) [])) (va_Qi (fun (r : Int32) (_ : Unit) => r = or_) (fun (_ : Unit) (t : State) => va_P (dC, dI) vwCl [] t.heap ∧ va_K (dC, dI) vwCl [(y 0, .int), (y 1, .long), (y 2, .byte), (y 3, .boolean)] t ∧ va_D (va_A [] sz) []) (va_A [] sz)) 0 0 (va_A [] sz) := by
  refine va_MetF (cc := cJ9_floorMod_7cf53) (maxL := 3) (ret := (some .int)) (by decide +kernel) rfl ?_
  intro p e s m args below meth c s₁ B hml hv
  obtain ⟨rfl, hsz, hP, hK, hD0⟩ := hv
  have hx := B.exec
  have hb := B.bytes
  have hr := B.returns
  have hts := atoms_spec (ws := wsJ9_floorMod_7cf53) B.pre
  have hown : s.vm.findClass RJ9 = some m.cls := findClass_of_methodNamed B.named
  have hlocks := B.notSynchronized
  subst hsz
  have hD := hD0.self (sz := s.heap.size)
  generalize hAe : va_A [] s.heap.size = A at hD ⊢
  have hA : ∀ q : Nat, s.heap.size ≤ q → A q := fun q h => by rw [← hAe]; exact Or.inr h
  have hS : va_S A s.heap s.heap [] := va_S.rf
  have hP : va_P (dC, dI) vwCl [] s.heap := hP
  have hl := lv_entry ([.int p1, .int p2]) (n := 3) (Nat.le_of_ble_eq_true rfl)
  rw [lg_entry_eq]
  generalize (lg_sl ([.int p1, .int p2]) ++ List.replicate (3 - (lg_sl ([.int p1, .int p2])).length) Slot.unset).toArray = ls at hl ⊢
  have hl : lv_has ls 3 [(0, .int p1), (1, .int p2)] := hl
  refine lv_iload_n hx hb dJ9_floorMod_7cf53_0 rfl (lv_at hl 0 rfl) ?_
  refine lv_iload_n hx hb dJ9_floorMod_7cf53_1 rfl (lv_at hl 1 rfl) ?_
  obtain ⟨hn1, h⟩ := zG_spec h
  refine lv_irem hx hb dJ9_floorMod_7cf53_2 hn1 ?_
  obtain ⟨v2, ev2, h⟩ := zL_spec h
  refine zTopi ev2 ?_
  refine lv_istore_n (lv' := [(2, .int v2), (0, .int p1), (1, .int p2)]) hx hb dJ9_floorMod_7cf53_3 rfl hl (by decide) rfl (fun ls hl => ?_)
  refine lv_iload_n hx hb dJ9_floorMod_7cf53_4 rfl (lv_at hl 1 rfl) ?_
  refine lv_iload_n hx hb dJ9_floorMod_7cf53_5 rfl (lv_at hl 2 rfl) ?_
  refine lv_ixor hx hb dJ9_floorMod_7cf53_6 ?_
  refine lv_if_ge (tgt := 18) hx hb dJ9_floorMod_7cf53_7 (by decide) (fun c3 => ?_) (fun c3 => ?_)
  · have h := zY c3 h
    refine lv_iload_n hx hb dJ9_floorMod_7cf53_18 rfl (lv_at hl 0 rfl) ?_
    have ho0 : v2 = or_ := congrArg (fun z : Int32 => z) (Option.some.inj h)
    exact W.iret (v := v2) hx hb hr (fun t ht hW => ⟨⟨v2, (), rfl, ho0, by rw [ht]; exact hP, va_K.moved hW.alike hK, hD⟩, hS.F ht⟩) hS.2.2 dJ9_floorMod_7cf53_19
  · have h := zN c3 h
    refine lv_iload_n hx hb dJ9_floorMod_7cf53_10 rfl (lv_at hl 0 rfl) ?_
    refine lv_if_eq (tgt := 18) hx hb dJ9_floorMod_7cf53_11 (by decide) (fun c4 => ?_) (fun c4 => ?_)
    · have h := zY c4 h
      refine lv_iload_n hx hb dJ9_floorMod_7cf53_18 rfl (lv_at hl 0 rfl) ?_
      have ho0 : v2 = or_ := congrArg (fun z : Int32 => z) (Option.some.inj h)
      exact W.iret (v := v2) hx hb hr (fun t ht hW => ⟨⟨v2, (), rfl, ho0, by rw [ht]; exact hP, va_K.moved hW.alike hK, hD⟩, hS.F ht⟩) hS.2.2 dJ9_floorMod_7cf53_19
    · have h := zN c4 h
      refine lv_iload_n hx hb dJ9_floorMod_7cf53_14 rfl (lv_at hl 0 rfl) ?_
      refine lv_iload_n hx hb dJ9_floorMod_7cf53_15 rfl (lv_at hl 2 rfl) ?_
      refine lv_iadd hx hb dJ9_floorMod_7cf53_16 ?_
      have ho0 : (v2 + p2) = or_ := congrArg (fun z : Int32 => z) (Option.some.inj h)
      exact W.iret (v := (v2 + p2)) hx hb hr (fun t ht hW => ⟨⟨(v2 + p2), (), rfl, ho0, by rw [ht]; exact hP, va_K.moved hW.alike hK, hD⟩, hS.F ht⟩) hS.2.2 dJ9_floorMod_7cf53_17

set_option maxHeartbeats 4000000 in
set_option maxRecDepth 100000 in
theorem m_X4_slotAt (l : Launch) (dC : Nat → ClassId) (dI : Nat → Nat → Nat) (y : Nat → ClassId) (p1 : Int32) (p2 : Int32) (sz : Nat) (or_ : Int32) (h : f_X4_slotAt p1 p2 = some or_) : Met l yX4_slotAt wsX4_slotAt ({ frames := 1, cells := 0, slots := 0, locals := 22 }) (va_Pc [.int p1, .int p2] (fun U => U.heap.size = sz ∧ va_P (dC, dI) vwCl [] U.heap ∧ va_K (dC, dI) vwCl [(y 0, .int), (y 1, .long), (y 2, .byte), (y 3, .boolean)] U ∧ va_D (fun _ => True) [])) (va_Qi (fun (r : Int32) (_ : Unit) => r = or_) (fun (_ : Unit) (t : State) => va_P (dC, dI) vwCl [] t.heap ∧ va_K (dC, dI) vwCl [(y 0, .int), (y 1, .long), (y 2, .byte), (y 3, .boolean)] t ∧ va_D (va_A [] sz) []) (va_A [] sz)) 0 0 (va_A [] sz) := by
  refine Met.ofW (cc := cX4_slotAt) (maxL := 2) (ret := (some .int)) (by decide +kernel) rfl ?_
  intro p e s m args below meth c s₁ B hml hv
  obtain ⟨rfl, hsz, hP, hK, hD0⟩ := hv
  have hx := B.exec
  have hb := B.bytes
  have hr := B.returns
  have hts := atoms_spec (ws := wsX4_slotAt) B.pre
  have hown : s.vm.findClass RX4 = some m.cls := findClass_of_methodNamed B.named
  have hlocks := B.notSynchronized
  subst hsz
  have hD := hD0.self (sz := s.heap.size)
  generalize hAe : va_A [] s.heap.size = A at hD ⊢
  have hA : ∀ q : Nat, s.heap.size ≤ q → A q := fun q h => by rw [← hAe]; exact Or.inr h
  have hS : va_S A s.heap s.heap [] := va_S.rf
  have hP : va_P (dC, dI) vwCl [] s.heap := hP
  have hl := lv_entry ([.int p1, .int p2]) (n := 2) (Nat.le_of_ble_eq_true rfl)
  rw [lg_entry_eq]
  generalize (lg_sl ([.int p1, .int p2]) ++ List.replicate (2 - (lg_sl ([.int p1, .int p2])).length) Slot.unset).toArray = ls at hl ⊢
  have hl : lv_has ls 2 [(0, .int p1), (1, .int p2)] := hl
  refine lv_iload_n hx hb dX4_slotAt_0 rfl (lv_at hl 0 rfl) ?_
  refine lv_bipush (v := 10) hx hb dX4_slotAt_1 (by decide) ?_
  refine lv_imul hx hb dX4_slotAt_3 ?_
  refine lv_iload_n hx hb dX4_slotAt_4 rfl (lv_at hl 1 rfl) ?_
  refine lv_bipush (v := 10) hx hb dX4_slotAt_5 (by decide) ?_
  obtain ⟨r1, hc2, h⟩ := zB_spec h
  have hFc := zFree hD hS hA
  refine va_calli (va_runS (As := [.int p2, .int 10]) (rest := [.int (p1 * (10 : Int32))]) ⟨hx, hb, hml, hown, hts⟩ (m_J9_floorMod_7cf53 l dC dI y p2 (10 : Int32) s.heap.size r1 hc2) (va_cwS 2 hts gX4_slotAt_J9_floorMod_7cf53 rfl rfl rfl (by decide +kernel) ⟨Nat.le_of_ble_eq_true rfl, Nat.le_of_ble_eq_true rfl⟩) ⟨fun a U g mk q => by obtain ⟨q0, q1, qP, qK, qD⟩ := q; exact ⟨q0, q1, qP, va_K.moved (u := U) (U := U.calling g mk a) (Vm.Alike.refl U.vm) qK, qD⟩, fun U hU hW => ⟨rfl, by rw [hU], by rw [hU]; exact hP, va_K.moved hW.alike hK, hD.weaken (fun _ _ _ _ => trivial)⟩⟩ rfl rfl hl.1 rfl (lv_room (Nat.le_of_ble_eq_true rfl)) dX4_slotAt_7 ⟨Nat.le_of_ble_eq_true rfl, Nat.le_of_ble_eq_true rfl⟩) hS (fun q _ h => hFc q h) hFc (fun rr4 u t H3 locs ht hvm hw hB hz1 hk1 hS => ?_)
  obtain ⟨hP1, hK1, hD1⟩ := hB
  rw [ht] at hP1
  refine zTopi hw.symm ?_
  have hP := hP1
  have hD := hD1.weaken (fun _ q _ h => hFc q.1 h)
  have hP : va_P (dC, dI) vwCl [] H3 := hP
  have hD : va_D A [] := hD
  refine lv_iadd hx hb dX4_slotAt_10 ?_
  have ho0 : ((p1 * (10 : Int32)) + r1) = or_ := congrArg (fun z : Int32 => z) (Option.some.inj h)
  exact W.iret (v := ((p1 * (10 : Int32)) + r1)) hx hb hr (fun t ht hW => ⟨⟨((p1 * (10 : Int32)) + r1), (), rfl, ho0, by rw [ht]; exact hP, va_K.moved hW.alike hK, hD⟩, hS.F ht⟩) hS.2.2 dX4_slotAt_11

set_option maxHeartbeats 4000000 in
set_option maxRecDepth 100000 in
theorem m_X4_begin (l : Launch) (dC : Nat → ClassId) (dI : Nat → Nat → Nat) (y : Nat → ClassId) (a4 : Nat) (h4 : Nat → Nat) (S4 : SS) (a0 : Nat) (h0 : Nat → Nat) (S0 : SS) (aw : Nat) (fw : Nat → Int32) (sz : Nat) (o_4 : SS) (h : f_X4_begin S4 S0 fw = some o_4) : Met l yX4_begin wsX4_begin ({ frames := 0, cells := 0, slots := 0, locals := 0 }) (va_Pc [.ref a4, .ref a0, .ref aw] (fun U => U.heap.size = sz ∧ va_P (dC, dI) vwCl ((cX4 a4 h4 y S4) ++ ((cX0 a0 h0 y S0) ++ ([(aw, .inl (y 0, 60, .inl fw))]))) U.heap ∧ va_K (dC, dI) vwCl [(y 0, .int), (y 1, .long), (y 2, .byte), (y 3, .boolean)] U ∧ va_D (fun _ => True) ((cX4 a4 h4 y S4) ++ ((cX0 a0 h0 y S0) ++ ([(aw, .inl (y 0, 60, .inl fw))]))))) (va_Qv (fun (_ : Unit) => True) (fun (_ : Unit) (t : State) => va_P (dC, dI) vwCl ((cX4 a4 h4 y o_4) ++ ((cX0 a0 h0 y S0) ++ ([(aw, .inl (y 0, 60, .inl fw))]))) t.heap ∧ va_K (dC, dI) vwCl [(y 0, .int), (y 1, .long), (y 2, .byte), (y 3, .boolean)] t ∧ va_D (va_A ((cX4 a4 h4 y S4) ++ ((cX0 a0 h0 y S0) ++ ([(aw, .inl (y 0, 60, .inl fw))]))) sz) ((cX4 a4 h4 y o_4) ++ ((cX0 a0 h0 y S0) ++ ([(aw, .inl (y 0, 60, .inl fw))])))) (va_A ((cX4 a4 h4 y S4) ++ ((cX0 a0 h0 y S0) ++ ([(aw, .inl (y 0, 60, .inl fw))]))) sz)) 0 0 (va_A ((cX4 a4 h4 y S4) ++ ((cX0 a0 h0 y S0) ++ ([(aw, .inl (y 0, 60, .inl fw))]))) sz) := by
  refine Met.ofW (cc := cX4_begin) (maxL := 4) (ret := none) (by decide +kernel) rfl ?_
  intro p e s m args below meth c s₁ B hml hv
  obtain ⟨rfl, hsz, hP, hK, hD0⟩ := hv
  have hx := B.exec
  have hb := B.bytes
  have hr := B.returns
  have hts := atoms_spec (ws := wsX4_begin) B.pre
  have hown : s.vm.findClass RX4 = some m.cls := findClass_of_methodNamed B.named
  have hlocks := B.notSynchronized
  have inX0_ : ∀ w ∈ wsX00, w ∈ wsX4_begin := fun _ h => List.mem_cons_of_mem _ (List.mem_append_right _ h)
  have inX4_ : ∀ w ∈ wsX40, w ∈ wsX4_begin := fun _ h => List.mem_cons_of_mem _ (List.mem_append_left _ (List.mem_append_right _ h))
  subst hsz
  have hD := hD0.self (sz := s.heap.size)
  generalize hAe : va_A ((cX4 a4 h4 y S4) ++ ((cX0 a0 h0 y S0) ++ ([(aw, .inl (y 0, 60, .inl fw))]))) s.heap.size = A at hD ⊢
  have hA : ∀ q : Nat, s.heap.size ≤ q → A q := fun q h => by rw [← hAe]; exact Or.inr h
  have hS : va_S A s.heap s.heap [] := va_S.rf
  have hP : va_P (dC, dI) vwCl ((cX4 a4 h4 y S4) ++ ((cX0 a0 h0 y S0) ++ ([(aw, .inl (y 0, 60, .inl fw))]))) s.heap := hP
  have hl := lv_entry ([.ref a4, .ref a0, .ref aw]) (n := 4) (Nat.le_of_ble_eq_true rfl)
  rw [lg_entry_eq]
  generalize (lg_sl ([.ref a4, .ref a0, .ref aw]) ++ List.replicate (4 - (lg_sl ([.ref a4, .ref a0, .ref aw])).length) Slot.unset).toArray = ls at hl ⊢
  have hl : lv_has ls 4 [(0, .ref a4), (1, .ref a0), (2, .ref aw)] := hl
  refine lv_aload_n hx hb dX4_begin_0 rfl (lv_at hl 0 rfl) ?_
  refine lv_iconst (v := 0) hx hb dX4_begin_1 (by decide) ?_
  refine va_put (D := (dC, dI)) (ci := 3) (v := .int 0) (ty := .int) (C := RX4) (T := TX4) (N := 8) hx hb hts inX4_ tyX4 tyX4_ok nmX4 hown hK hP hD hS 0 rfl rfl 0 (by decide) (hts (.fieldLink RX4 27 "GateWheel$Wheel" "time" "I") (List.mem_of_getElem? (i := 1) rfl)) (fun _ h9 => h9) rfl (by decide +kernel) rfl rfl (Nat.le_of_ble_eq_true rfl) dX4_begin_2 (fun H1 locs hP hD hS => ?_)
  obtain ⟨s4_2, es4_2, h⟩ := zL_spec h
  have hP : va_P (dC, dI) vwCl ((cX4 a4 h4 y s4_2) ++ ((cX0 a0 h0 y S0) ++ ([(aw, .inl (y 0, 60, .inl fw))]))) H1 := by rw [es4_2]; exact hP
  have hD : va_D A ((cX4 a4 h4 y s4_2) ++ ((cX0 a0 h0 y S0) ++ ([(aw, .inl (y 0, 60, .inl fw))]))) := by rw [es4_2]; exact hD
  refine lv_aload_n hx hb dX4_begin_5 rfl (lv_at hl 0 rfl) ?_
  refine lv_iconst (v := 0) hx hb dX4_begin_6 (by decide) ?_
  refine va_put (D := (dC, dI)) (ci := 3) (v := .int 0) (ty := .int) (C := RX4) (T := TX4) (N := 8) hx hb hts inX4_ tyX4 tyX4_ok nmX4 hown hK hP hD hS 0 rfl rfl 1 (by decide) (hts (.fieldLink RX4 31 "GateWheel$Wheel" "toCome" "I") (List.mem_of_getElem? (i := 2) rfl)) (fun _ h9 => h9) rfl (by decide +kernel) rfl rfl (Nat.le_of_ble_eq_true rfl) dX4_begin_7 (fun H3 locs hP hD hS => ?_)
  obtain ⟨s4_4, es4_4, h⟩ := zL_spec h
  have hP : va_P (dC, dI) vwCl ((cX4 a4 h4 y s4_4) ++ ((cX0 a0 h0 y S0) ++ ([(aw, .inl (y 0, 60, .inl fw))]))) H3 := by rw [es4_4]; exact hP
  have hD : va_D A ((cX4 a4 h4 y s4_4) ++ ((cX0 a0 h0 y S0) ++ ([(aw, .inl (y 0, 60, .inl fw))]))) := by rw [es4_4]; exact hD
  refine lv_aload_n hx hb dX4_begin_10 rfl (lv_at hl 0 rfl) ?_
  refine lv_lconst (v := 0) hx hb dX4_begin_11 (by decide) ?_
  refine va_put (D := (dC, dI)) (ci := 3) (v := .long 0) (ty := .long) (C := RX4) (T := TX4) (N := 8) hx hb hts inX4_ tyX4 tyX4_ok nmX4 hown hK hP hD hS 0 rfl rfl 7 (by decide) (hts (.fieldLink RX4 34 "GateWheel$Wheel" "changed" "J") (List.mem_of_getElem? (i := 3) rfl)) (fun _ h9 => h9) rfl (by decide +kernel) rfl rfl (Nat.le_of_ble_eq_true rfl) dX4_begin_12 (fun H5 locs hP hD hS => ?_)
  obtain ⟨s4_6, es4_6, h⟩ := zL_spec h
  have hP : va_P (dC, dI) vwCl ((cX4 a4 h4 y s4_6) ++ ((cX0 a0 h0 y S0) ++ ([(aw, .inl (y 0, 60, .inl fw))]))) H5 := by rw [es4_6]; exact hP
  have hD : va_D A ((cX4 a4 h4 y s4_6) ++ ((cX0 a0 h0 y S0) ++ ([(aw, .inl (y 0, 60, .inl fw))]))) := by rw [es4_6]; exact hD
  refine lv_iconst (v := 0) hx hb dX4_begin_15 (by decide) ?_
  refine lv_istore_n (lv' := [(3, .int 0), (0, .ref a4), (1, .ref a0), (2, .ref aw)]) hx hb dX4_begin_16 rfl hl (by decide) rfl (fun ls hl => ?_)
  refine W_abs (fun GW7 eG8 => ?_)
  obtain ⟨ov11, hi12, h⟩ := zB_spec h
  have je9 : ∀ (s4_16 : SS) (HGW7e : Heap) (locs : List Loc) (ls : Array Slot), s4_16 = ov11 → va_P (dC, dI) vwCl ((cX4 a4 h4 y s4_16) ++ ((cX0 a0 h0 y S0) ++ ([(aw, .inl (y 0, 60, .inl fw))]))) HGW7e → va_D A ((cX4 a4 h4 y s4_16) ++ ((cX0 a0 h0 y S0) ++ ([(aw, .inl (y 0, 60, .inl fw))]))) → va_S A s.heap HGW7e locs → lv_has ls 4 [(0, .ref a4), (1, .ref a0)] → GW7 HGW7e locs 0 0 (F0 m 56 ls []) := by
    intro s4_16 HGW7e locs ls hv hP hD hS hl
    subst hv
    refine (eG8 _ _ _ _ _).mpr ?_
    refine lv_iconst (v := 0) hx hb dX4_begin_56 (by decide) ?_
    refine lv_istore_n (lv' := [(3, .int 0), (0, .ref a4), (1, .ref a0)]) hx hb dX4_begin_57 rfl hl (by decide) rfl (fun ls hl => ?_)
    refine W_abs (fun GW17 eG18 => ?_)
    have hi22 := h
    have lp20 : ∀ (n : Nat) (v26 : Int32) (s4_27 : SS) (HGW17 : Heap) (locs : List Loc) (ls : Array Slot), zI (b_X4_begin_58 S0) n (v26, s4_27) = some o_4 → va_P (dC, dI) vwCl ((cX4 a4 h4 y s4_27) ++ ((cX0 a0 h0 y S0) ++ ([(aw, .inl (y 0, 60, .inl fw))]))) HGW17 → va_D A ((cX4 a4 h4 y s4_27) ++ ((cX0 a0 h0 y S0) ++ ([(aw, .inl (y 0, 60, .inl fw))]))) → va_S A s.heap HGW17 locs → lv_has ls 4 [(0, .ref a4), (1, .ref a0), (3, .int v26)] → GW17 HGW17 locs 0 0 (F0 m 58 ls []) := by
      intro n
      induction n with
      | zero =>
        intro v26 s4_27 HGW17 locs ls hi22 hP hD hS hl
        exact (zI_0 hi22).elim
      | succ n ihlp20 =>
        intro v26 s4_27 HGW17 locs ls hi22 hP hD hS hl
        refine (eG18 _ _ _ _ _).mpr ?_
        obtain ⟨xx25, h, hx24⟩ := zI_spec hi22
        refine lv_iload_n hx hb dX4_begin_58 rfl (lv_at hl 2 rfl) ?_
        refine lv_aload_n hx hb dX4_begin_59 rfl (lv_at hl 1 rfl) ?_
        refine va_get (D := (dC, dI)) (ci := 0) (v := .int (gI S0 0)) (C := RX0) (T := TX0) (N := 13) hx hb hts inX0_ hown hK hP 6 rfl rfl 0 (by decide) (hts (.fieldLink RX4 38 "GateWheel$Circuit" "count" "I") (List.mem_of_getElem? (i := 4) rfl)) (fun _ h9 => h9) rfl dX4_begin_60 ?_
        refine lv_bipush (v := 10) hx hb dX4_begin_63 (by decide) ?_
        refine lv_imul hx hb dX4_begin_65 ?_
        refine lv_icmp_ge (tgt := 82) hx hb dX4_begin_66 (by decide) (fun c28 => ?_) (fun c28 => ?_)
        · have h := zY c28 h
          have h := congrArg some (zI_r h hx24)
          have ho0 : s4_27 = o_4 := congrArg (fun z : SS => z) (Option.some.inj h)
          exact W.vret hx hb hr (fun t ht hW => ⟨⟨(), rfl, trivial, by rw [ht]; rw [← ho0]; exact hP, va_K.moved hW.alike hK, by rw [← ho0]; exact hD⟩, hS.F ht⟩) hS.2.2 dX4_begin_82
        · have h := zN c28 h
          refine lv_aload_n hx hb dX4_begin_69 rfl (lv_at hl 0 rfl) ?_
          refine va_get (D := (dC, dI)) (ci := 3) (v := .ref (h4 4)) (C := RX4) (T := TX4) (N := 8) hx hb hts inX4_ hown hK hP 0 rfl rfl 4 (by decide) (hts (.fieldLink RX4 18 "GateWheel$Wheel" "slots" "[I") (List.mem_of_getElem? (i := 8) rfl)) (fun _ h9 => h9) rfl dX4_begin_70 ?_
          refine lv_iload_n hx hb dX4_begin_73 rfl (lv_at hl 2 rfl) ?_
          refine lv_iconst (v := (-1)) hx hb dX4_begin_74 (by decide) ?_
          obtain ⟨hi29, h⟩ := zG_spec h
          refine va_iast hx hb hK hP hD hS 3 0 rfl rfl hi29 dX4_begin_75 (fun H30 locs hP hD hS => ?_)
          obtain ⟨s4_31, es4_31, h⟩ := zL_spec h
          have hP : va_P (dC, dI) vwCl ((cX4 a4 h4 y s4_31) ++ ((cX0 a0 h0 y S0) ++ ([(aw, .inl (y 0, 60, .inl fw))]))) H30 := by rw [es4_31]; exact hP
          have hD : va_D A ((cX4 a4 h4 y s4_31) ++ ((cX0 a0 h0 y S0) ++ ([(aw, .inl (y 0, 60, .inl fw))]))) := by rw [es4_31]; exact hD
          obtain ⟨v32, ev32, h⟩ := zL_spec h
          refine lv_iinc (v := v32) (lv' := [(3, .int v32), (0, .ref a4), (1, .ref a0)]) hx hb dX4_begin_76 hl (k := 2) rfl (by rw [ev32]; rfl) (by decide) rfl (fun ls hl => ?_)
          refine lv_goto (tgt := 58) hx hb dX4_begin_79 (by decide) ?_
          have h := zI_l h hx24
          exact (eG18 _ _ _ _ _).mp (ihlp20 v32 s4_31 _ _ _ h hP hD hS (lv_sub hl [1, 2, 0] rfl))
    exact lp20 zF (0 : Int32) s4_16 _ _ _ hi22 hP hD hS (lv_sub hl [1, 2, 0] rfl)
  have lp10 : ∀ (n : Nat) (v33 : Int32) (s4_34 : SS) (HGW7 : Heap) (locs : List Loc) (ls : Array Slot), zI (b_X4_begin_17 S0 fw) n (v33, s4_34) = some ov11 → va_P (dC, dI) vwCl ((cX4 a4 h4 y s4_34) ++ ((cX0 a0 h0 y S0) ++ ([(aw, .inl (y 0, 60, .inl fw))]))) HGW7 → va_D A ((cX4 a4 h4 y s4_34) ++ ((cX0 a0 h0 y S0) ++ ([(aw, .inl (y 0, 60, .inl fw))]))) → va_S A s.heap HGW7 locs → lv_has ls 4 [(0, .ref a4), (1, .ref a0), (2, .ref aw), (3, .int v33)] → GW7 HGW7 locs 0 0 (F0 m 17 ls []) := by
    intro n
    induction n with
    | zero =>
      intro v33 s4_34 HGW7 locs ls hi12 hP hD hS hl
      exact (zI_0 hi12).elim
    | succ n ihlp10 =>
      intro v33 s4_34 HGW7 locs ls hi12 hP hD hS hl
      refine (eG8 _ _ _ _ _).mpr ?_
      obtain ⟨xx15, h, hx14⟩ := zI_spec hi12
      refine lv_iload_n hx hb dX4_begin_17 rfl (lv_at hl 3 rfl) ?_
      refine lv_aload_n hx hb dX4_begin_18 rfl (lv_at hl 1 rfl) ?_
      refine va_get (D := (dC, dI)) (ci := 0) (v := .int (gI S0 0)) (C := RX0) (T := TX0) (N := 13) hx hb hts inX0_ hown hK hP 6 rfl rfl 0 (by decide) (hts (.fieldLink RX4 38 "GateWheel$Circuit" "count" "I") (List.mem_of_getElem? (i := 4) rfl)) (fun _ h9 => h9) rfl dX4_begin_19 ?_
      refine lv_icmp_ge (tgt := 56) hx hb dX4_begin_22 (by decide) (fun c35 => ?_) (fun c35 => ?_)
      · have h := zY c35 h
        exact (eG8 _ _ _ _ _).mp (je9 s4_34 _ _ _ (zI_r h hx14) hP hD hS (lv_sub hl [0, 1] rfl))
      · have h := zN c35 h
        refine lv_aload_n hx hb dX4_begin_25 rfl (lv_at hl 0 rfl) ?_
        refine va_get (D := (dC, dI)) (ci := 3) (v := .ref (h4 2)) (C := RX4) (T := TX4) (N := 8) hx hb hts inX4_ hown hK hP 0 rfl rfl 2 (by decide) (hts (.fieldLink RX4 9 "GateWheel$Wheel" "values" "[I") (List.mem_of_getElem? (i := 5) rfl)) (fun _ h9 => h9) rfl dX4_begin_26 ?_
        refine lv_iload_n hx hb dX4_begin_29 rfl (lv_at hl 3 rfl) ?_
        refine lv_aload_n hx hb dX4_begin_30 rfl (lv_at hl 2 rfl) ?_
        refine lv_iload_n hx hb dX4_begin_31 rfl (lv_at hl 3 rfl) ?_
        obtain ⟨hi36, h⟩ := zG_spec h
        refine va_iald hx hb hK hP 18 0 rfl rfl hi36 dX4_begin_32 ?_
        refine va_iast hx hb hK hP hD hS 1 0 rfl rfl hi36 dX4_begin_33 (fun H37 locs hP hD hS => ?_)
        obtain ⟨s4_38, es4_38, h⟩ := zL_spec h
        have hP : va_P (dC, dI) vwCl ((cX4 a4 h4 y s4_38) ++ ((cX0 a0 h0 y S0) ++ ([(aw, .inl (y 0, 60, .inl fw))]))) H37 := by rw [es4_38]; exact hP
        have hD : va_D A ((cX4 a4 h4 y s4_38) ++ ((cX0 a0 h0 y S0) ++ ([(aw, .inl (y 0, 60, .inl fw))]))) := by rw [es4_38]; exact hD
        refine lv_aload_n hx hb dX4_begin_34 rfl (lv_at hl 0 rfl) ?_
        refine va_get (D := (dC, dI)) (ci := 3) (v := .ref (h4 3)) (C := RX4) (T := TX4) (N := 8) hx hb hts inX4_ hown hK hP 0 rfl rfl 3 (by decide) (hts (.fieldLink RX4 15 "GateWheel$Wheel" "lastTold" "[I") (List.mem_of_getElem? (i := 6) rfl)) (fun _ h9 => h9) rfl dX4_begin_35 ?_
        refine lv_iload_n hx hb dX4_begin_38 rfl (lv_at hl 3 rfl) ?_
        refine lv_aload_n hx hb dX4_begin_39 rfl (lv_at hl 2 rfl) ?_
        refine lv_iload_n hx hb dX4_begin_40 rfl (lv_at hl 3 rfl) ?_
        refine va_iald hx hb hK hP 18 0 rfl rfl hi36 dX4_begin_41 ?_
        refine va_iast hx hb hK hP hD hS 2 0 rfl rfl hi36 dX4_begin_42 (fun H39 locs hP hD hS => ?_)
        obtain ⟨s4_40, es4_40, h⟩ := zL_spec h
        have hP : va_P (dC, dI) vwCl ((cX4 a4 h4 y s4_40) ++ ((cX0 a0 h0 y S0) ++ ([(aw, .inl (y 0, 60, .inl fw))]))) H39 := by rw [es4_40]; exact hP
        have hD : va_D A ((cX4 a4 h4 y s4_40) ++ ((cX0 a0 h0 y S0) ++ ([(aw, .inl (y 0, 60, .inl fw))]))) := by rw [es4_40]; exact hD
        refine lv_aload_n hx hb dX4_begin_43 rfl (lv_at hl 0 rfl) ?_
        refine va_get (D := (dC, dI)) (ci := 3) (v := .ref (h4 6)) (C := RX4) (T := TX4) (N := 8) hx hb hts inX4_ hown hK hP 0 rfl rfl 6 (by decide) (hts (.fieldLink RX4 24 "GateWheel$Wheel" "waveCounts" "[I") (List.mem_of_getElem? (i := 7) rfl)) (fun _ h9 => h9) rfl dX4_begin_44 ?_
        refine lv_iload_n hx hb dX4_begin_47 rfl (lv_at hl 3 rfl) ?_
        refine lv_iconst (v := 0) hx hb dX4_begin_48 (by decide) ?_
        refine va_iast hx hb hK hP hD hS 5 0 rfl rfl hi36 dX4_begin_49 (fun H41 locs hP hD hS => ?_)
        obtain ⟨s4_42, es4_42, h⟩ := zL_spec h
        have hP : va_P (dC, dI) vwCl ((cX4 a4 h4 y s4_42) ++ ((cX0 a0 h0 y S0) ++ ([(aw, .inl (y 0, 60, .inl fw))]))) H41 := by rw [es4_42]; exact hP
        have hD : va_D A ((cX4 a4 h4 y s4_42) ++ ((cX0 a0 h0 y S0) ++ ([(aw, .inl (y 0, 60, .inl fw))]))) := by rw [es4_42]; exact hD
        obtain ⟨v43, ev43, h⟩ := zL_spec h
        refine lv_iinc (v := v43) (lv' := [(3, .int v43), (0, .ref a4), (1, .ref a0), (2, .ref aw)]) hx hb dX4_begin_50 hl (k := 3) rfl (by rw [ev43]; rfl) (by decide) rfl (fun ls hl => ?_)
        refine lv_goto (tgt := 17) hx hb dX4_begin_53 (by decide) ?_
        have h := zI_l h hx14
        exact (eG8 _ _ _ _ _).mp (ihlp10 v43 s4_42 _ _ _ h hP hD hS (lv_sub hl [1, 2, 3, 0] rfl))
  exact lp10 zF (0 : Int32) s4_6 _ _ _ hi12 hP hD hS (lv_sub hl [1, 2, 3, 0] rfl)

set_option maxHeartbeats 4000000 in
set_option maxRecDepth 100000 in
theorem m_X4_change (l : Launch) (dC : Nat → ClassId) (dI : Nat → Nat → Nat) (y : Nat → ClassId) (a4 : Nat) (h4 : Nat → Nat) (S4 : SS) (p1 : Int32) (p2 : Int32) (sz : Nat) (or_ : Int32) (o_4 : SS) (h : f_X4_change S4 p1 p2 = some (or_, o_4)) : Met l yX4_change wsX4_change ({ frames := 0, cells := 0, slots := 0, locals := 0 }) (va_Pc [.ref a4, .int p1, .int p2] (fun U => U.heap.size = sz ∧ va_P (dC, dI) vwCl (cX4 a4 h4 y S4) U.heap ∧ va_K (dC, dI) vwCl [(y 0, .int), (y 1, .long), (y 2, .byte), (y 3, .boolean)] U ∧ va_D (fun _ => True) (cX4 a4 h4 y S4))) (va_Qi (fun (r : Int32) (_ : Unit) => r = or_) (fun (_ : Unit) (t : State) => va_P (dC, dI) vwCl (cX4 a4 h4 y o_4) t.heap ∧ va_K (dC, dI) vwCl [(y 0, .int), (y 1, .long), (y 2, .byte), (y 3, .boolean)] t ∧ va_D (va_A (cX4 a4 h4 y S4) sz) (cX4 a4 h4 y o_4)) (va_A (cX4 a4 h4 y S4) sz)) 0 0 (va_A (cX4 a4 h4 y S4) sz) := by
  refine Met.ofW (cc := cX4_change) (maxL := 3) (ret := (some .int)) (by decide +kernel) rfl ?_
  intro p e s m args below meth c s₁ B hml hv
  obtain ⟨rfl, hsz, hP, hK, hD0⟩ := hv
  have hx := B.exec
  have hb := B.bytes
  have hr := B.returns
  have hts := atoms_spec (ws := wsX4_change) B.pre
  have hown : s.vm.findClass RX4 = some m.cls := findClass_of_methodNamed B.named
  have hlocks := B.notSynchronized
  have inX4_ : ∀ w ∈ wsX40, w ∈ wsX4_change := fun _ h => List.mem_cons_of_mem _ (List.mem_append_right _ h)
  subst hsz
  have hD := hD0.self (sz := s.heap.size)
  generalize hAe : va_A (cX4 a4 h4 y S4) s.heap.size = A at hD ⊢
  have hA : ∀ q : Nat, s.heap.size ≤ q → A q := fun q h => by rw [← hAe]; exact Or.inr h
  have hS : va_S A s.heap s.heap [] := va_S.rf
  have hP : va_P (dC, dI) vwCl (cX4 a4 h4 y S4) s.heap := hP
  have hl := lv_entry ([.ref a4, .int p1, .int p2]) (n := 3) (Nat.le_of_ble_eq_true rfl)
  rw [lg_entry_eq]
  generalize (lg_sl ([.ref a4, .int p1, .int p2]) ++ List.replicate (3 - (lg_sl ([.ref a4, .int p1, .int p2])).length) Slot.unset).toArray = ls at hl ⊢
  have hl : lv_has ls 3 [(0, .ref a4), (1, .int p1), (2, .int p2)] := hl
  refine lv_aload_n hx hb dX4_change_0 rfl (lv_at hl 0 rfl) ?_
  refine va_get (D := (dC, dI)) (ci := 3) (v := .ref (h4 2)) (C := RX4) (T := TX4) (N := 8) hx hb hts inX4_ hown hK hP 0 rfl rfl 2 (by decide) (hts (.fieldLink RX4 9 "GateWheel$Wheel" "values" "[I") (List.mem_of_getElem? (i := 1) rfl)) (fun _ h9 => h9) rfl dX4_change_1 ?_
  refine lv_iload_n hx hb dX4_change_4 rfl (lv_at hl 1 rfl) ?_
  obtain ⟨hi1, h⟩ := zG_spec h
  refine va_iald hx hb hK hP 1 0 rfl rfl hi1 dX4_change_5 ?_
  refine lv_iload_n hx hb dX4_change_6 rfl (lv_at hl 2 rfl) ?_
  refine lv_icmp_ne (tgt := 12) hx hb dX4_change_7 (by decide) (fun c2 => ?_) (fun c2 => ?_)
  · have h := zN c2 h
    refine lv_aload_n hx hb dX4_change_12 rfl (lv_at hl 0 rfl) ?_
    refine va_get (D := (dC, dI)) (ci := 3) (v := .ref (h4 2)) (C := RX4) (T := TX4) (N := 8) hx hb hts inX4_ hown hK hP 0 rfl rfl 2 (by decide) (hts (.fieldLink RX4 9 "GateWheel$Wheel" "values" "[I") (List.mem_of_getElem? (i := 1) rfl)) (fun _ h9 => h9) rfl dX4_change_13 ?_
    refine lv_iload_n hx hb dX4_change_16 rfl (lv_at hl 1 rfl) ?_
    refine lv_iload_n hx hb dX4_change_17 rfl (lv_at hl 2 rfl) ?_
    refine va_iast hx hb hK hP hD hS 1 0 rfl rfl hi1 dX4_change_18 (fun H3 locs hP hD hS => ?_)
    obtain ⟨s4_4, es4_4, h⟩ := zL_spec h
    have hP : va_P (dC, dI) vwCl (cX4 a4 h4 y s4_4) H3 := by rw [es4_4]; exact hP
    have hD : va_D A (cX4 a4 h4 y s4_4) := by rw [es4_4]; exact hD
    refine lv_aload_n hx hb dX4_change_19 rfl (lv_at hl 0 rfl) ?_
    refine lv_dup hx hb dX4_change_20 rfl ?_
    refine va_get (D := (dC, dI)) (ci := 3) (v := .long (gL s4_4 7)) (C := RX4) (T := TX4) (N := 8) hx hb hts inX4_ hown hK hP 0 rfl rfl 7 (by decide) (hts (.fieldLink RX4 34 "GateWheel$Wheel" "changed" "J") (List.mem_of_getElem? (i := 2) rfl)) (fun _ h9 => h9) rfl dX4_change_21 ?_
    refine lv_lconst (v := 1) hx hb dX4_change_24 (by decide) ?_
    refine lv_iload_n hx hb dX4_change_25 rfl (lv_at hl 1 rfl) ?_
    refine lv_lshl (v := (jLs (1 : Int64) p1)) hx hb dX4_change_26 rfl ?_
    refine lv_lor hx hb dX4_change_27 ?_
    refine va_put (D := (dC, dI)) (ci := 3) (v := .long ((gL s4_4 7) ||| (jLs (1 : Int64) p1))) (ty := .long) (C := RX4) (T := TX4) (N := 8) hx hb hts inX4_ tyX4 tyX4_ok nmX4 hown hK hP hD hS 0 rfl rfl 7 (by decide) (hts (.fieldLink RX4 34 "GateWheel$Wheel" "changed" "J") (List.mem_of_getElem? (i := 2) rfl)) (fun _ h9 => h9) rfl (by decide +kernel) rfl rfl (Nat.le_of_ble_eq_true rfl) dX4_change_28 (fun H5 locs hP hD hS => ?_)
    obtain ⟨s4_6, es4_6, h⟩ := zL_spec h
    have hP : va_P (dC, dI) vwCl (cX4 a4 h4 y s4_6) H5 := by rw [es4_6]; exact hP
    have hD : va_D A (cX4 a4 h4 y s4_6) := by rw [es4_6]; exact hD
    refine lv_aload_n hx hb dX4_change_31 rfl (lv_at hl 0 rfl) ?_
    refine va_get (D := (dC, dI)) (ci := 3) (v := .ref (h4 6)) (C := RX4) (T := TX4) (N := 8) hx hb hts inX4_ hown hK hP 0 rfl rfl 6 (by decide) (hts (.fieldLink RX4 24 "GateWheel$Wheel" "waveCounts" "[I") (List.mem_of_getElem? (i := 3) rfl)) (fun _ h9 => h9) rfl dX4_change_32 ?_
    refine lv_iload_n hx hb dX4_change_35 rfl (lv_at hl 1 rfl) ?_
    refine va_iald hx hb hK hP 5 0 rfl rfl hi1 dX4_change_36 ?_
    refine lv_bipush (v := 20) hx hb dX4_change_37 (by decide) ?_
    refine lv_icmp_ge (tgt := 76) hx hb dX4_change_39 (by decide) (fun c7 => ?_) (fun c7 => ?_)
    · have h := zY c7 h
      refine lv_iconst (v := 1) hx hb dX4_change_76 (by decide) ?_
      have ho0 : (1 : Int32) = or_ := congrArg (fun z : Int32 × SS => z.1) (Option.some.inj h)
      have ho1 : s4_6 = o_4 := congrArg (fun z : Int32 × SS => z.2) (Option.some.inj h)
      exact W.iret (v := 1) hx hb hr (fun t ht hW => ⟨⟨1, (), rfl, ho0, by rw [ht]; rw [← ho1]; exact hP, va_K.moved hW.alike hK, by rw [← ho1]; exact hD⟩, hS.F ht⟩) hS.2.2 dX4_change_77
    · have h := zN c7 h
      refine lv_aload_n hx hb dX4_change_42 rfl (lv_at hl 0 rfl) ?_
      refine va_get (D := (dC, dI)) (ci := 3) (v := .ref (h4 5)) (C := RX4) (T := TX4) (N := 8) hx hb hts inX4_ hown hK hP 0 rfl rfl 5 (by decide) (hts (.fieldLink RX4 21 "GateWheel$Wheel" "waves" "[I") (List.mem_of_getElem? (i := 4) rfl)) (fun _ h9 => h9) rfl dX4_change_43 ?_
      refine lv_iload_n hx hb dX4_change_46 rfl (lv_at hl 1 rfl) ?_
      refine lv_bipush (v := 20) hx hb dX4_change_47 (by decide) ?_
      refine lv_imul hx hb dX4_change_49 ?_
      refine lv_aload_n hx hb dX4_change_50 rfl (lv_at hl 0 rfl) ?_
      refine va_get (D := (dC, dI)) (ci := 3) (v := .ref (h4 6)) (C := RX4) (T := TX4) (N := 8) hx hb hts inX4_ hown hK hP 0 rfl rfl 6 (by decide) (hts (.fieldLink RX4 24 "GateWheel$Wheel" "waveCounts" "[I") (List.mem_of_getElem? (i := 3) rfl)) (fun _ h9 => h9) rfl dX4_change_51 ?_
      refine lv_iload_n hx hb dX4_change_54 rfl (lv_at hl 1 rfl) ?_
      refine va_iald hx hb hK hP 5 0 rfl rfl hi1 dX4_change_55 ?_
      refine lv_iadd hx hb dX4_change_56 ?_
      refine lv_iconst (v := 4) hx hb dX4_change_57 (by decide) ?_
      refine lv_aload_n hx hb dX4_change_58 rfl (lv_at hl 0 rfl) ?_
      refine va_get (D := (dC, dI)) (ci := 3) (v := .int (gI s4_6 0)) (C := RX4) (T := TX4) (N := 8) hx hb hts inX4_ hown hK hP 0 rfl rfl 0 (by decide) (hts (.fieldLink RX4 27 "GateWheel$Wheel" "time" "I") (List.mem_of_getElem? (i := 5) rfl)) (fun _ h9 => h9) rfl dX4_change_59 ?_
      refine lv_imul hx hb dX4_change_62 ?_
      refine lv_iload_n hx hb dX4_change_63 rfl (lv_at hl 2 rfl) ?_
      refine lv_iadd hx hb dX4_change_64 ?_
      obtain ⟨hi8, h⟩ := zG_spec h
      refine va_iast hx hb hK hP hD hS 4 0 rfl rfl hi8 dX4_change_65 (fun H9 locs hP hD hS => ?_)
      obtain ⟨s4_10, es4_10, h⟩ := zL_spec h
      have hP : va_P (dC, dI) vwCl (cX4 a4 h4 y s4_10) H9 := by rw [es4_10]; exact hP
      have hD : va_D A (cX4 a4 h4 y s4_10) := by rw [es4_10]; exact hD
      refine lv_aload_n hx hb dX4_change_66 rfl (lv_at hl 0 rfl) ?_
      refine va_get (D := (dC, dI)) (ci := 3) (v := .ref (h4 6)) (C := RX4) (T := TX4) (N := 8) hx hb hts inX4_ hown hK hP 0 rfl rfl 6 (by decide) (hts (.fieldLink RX4 24 "GateWheel$Wheel" "waveCounts" "[I") (List.mem_of_getElem? (i := 3) rfl)) (fun _ h9 => h9) rfl dX4_change_67 ?_
      refine lv_iload_n hx hb dX4_change_70 rfl (lv_at hl 1 rfl) ?_
      refine lv_dup2_11 hx hb dX4_change_71 rfl rfl ?_
      refine va_iald hx hb hK hP 5 0 rfl rfl hi1 dX4_change_72 ?_
      refine lv_iconst (v := 1) hx hb dX4_change_73 (by decide) ?_
      refine lv_iadd hx hb dX4_change_74 ?_
      refine va_iast hx hb hK hP hD hS 5 0 rfl rfl hi1 dX4_change_75 (fun H11 locs hP hD hS => ?_)
      obtain ⟨s4_12, es4_12, h⟩ := zL_spec h
      have hP : va_P (dC, dI) vwCl (cX4 a4 h4 y s4_12) H11 := by rw [es4_12]; exact hP
      have hD : va_D A (cX4 a4 h4 y s4_12) := by rw [es4_12]; exact hD
      refine lv_iconst (v := 1) hx hb dX4_change_76 (by decide) ?_
      have ho0 : (1 : Int32) = or_ := congrArg (fun z : Int32 × SS => z.1) (Option.some.inj h)
      have ho1 : s4_12 = o_4 := congrArg (fun z : Int32 × SS => z.2) (Option.some.inj h)
      exact W.iret (v := 1) hx hb hr (fun t ht hW => ⟨⟨1, (), rfl, ho0, by rw [ht]; rw [← ho1]; exact hP, va_K.moved hW.alike hK, by rw [← ho1]; exact hD⟩, hS.F ht⟩) hS.2.2 dX4_change_77
  · have h := zY c2 h
    refine lv_iconst (v := 0) hx hb dX4_change_10 (by decide) ?_
    have ho0 : (0 : Int32) = or_ := congrArg (fun z : Int32 × SS => z.1) (Option.some.inj h)
    have ho1 : S4 = o_4 := congrArg (fun z : Int32 × SS => z.2) (Option.some.inj h)
    exact W.iret (v := 0) hx hb hr (fun t ht hW => ⟨⟨0, (), rfl, ho0, by rw [ht]; rw [← ho1]; exact hP, va_K.moved hW.alike hK, by rw [← ho1]; exact hD⟩, hS.F ht⟩) hS.2.2 dX4_change_11

set_option maxHeartbeats 4000000 in
set_option maxRecDepth 100000 in
theorem m_X4_quiet (l : Launch) (dC : Nat → ClassId) (dI : Nat → Nat → Nat) (y : Nat → ClassId) (a4 : Nat) (h4 : Nat → Nat) (S4 : SS) (sz : Nat) (or_ : Int32) (h : f_X4_quiet S4 = some or_) : Met l yX4_quiet wsX4_quiet ({ frames := 0, cells := 0, slots := 0, locals := 0 }) (va_Pc [.ref a4] (fun U => U.heap.size = sz ∧ va_P (dC, dI) vwCl (cX4 a4 h4 y S4) U.heap ∧ va_K (dC, dI) vwCl [(y 0, .int), (y 1, .long), (y 2, .byte), (y 3, .boolean)] U ∧ va_D (fun _ => True) (cX4 a4 h4 y S4))) (va_Qi (fun (r : Int32) (_ : Unit) => r = or_) (fun (_ : Unit) (t : State) => va_P (dC, dI) vwCl (cX4 a4 h4 y S4) t.heap ∧ va_K (dC, dI) vwCl [(y 0, .int), (y 1, .long), (y 2, .byte), (y 3, .boolean)] t ∧ va_D (va_A (cX4 a4 h4 y S4) sz) (cX4 a4 h4 y S4)) (va_A (cX4 a4 h4 y S4) sz)) 0 0 (va_A (cX4 a4 h4 y S4) sz) := by
  refine Met.ofW (cc := cX4_quiet) (maxL := 1) (ret := (some .int)) (by decide +kernel) rfl ?_
  intro p e s m args below meth c s₁ B hml hv
  obtain ⟨rfl, hsz, hP, hK, hD0⟩ := hv
  have hx := B.exec
  have hb := B.bytes
  have hr := B.returns
  have hts := atoms_spec (ws := wsX4_quiet) B.pre
  have hown : s.vm.findClass RX4 = some m.cls := findClass_of_methodNamed B.named
  have hlocks := B.notSynchronized
  have inX4_ : ∀ w ∈ wsX40, w ∈ wsX4_quiet := fun _ h => List.mem_cons_of_mem _ (List.mem_append_right _ h)
  subst hsz
  have hD := hD0.self (sz := s.heap.size)
  generalize hAe : va_A (cX4 a4 h4 y S4) s.heap.size = A at hD ⊢
  have hA : ∀ q : Nat, s.heap.size ≤ q → A q := fun q h => by rw [← hAe]; exact Or.inr h
  have hS : va_S A s.heap s.heap [] := va_S.rf
  have hP : va_P (dC, dI) vwCl (cX4 a4 h4 y S4) s.heap := hP
  have hl := lv_entry ([.ref a4]) (n := 1) (Nat.le_of_ble_eq_true rfl)
  rw [lg_entry_eq]
  generalize (lg_sl ([.ref a4]) ++ List.replicate (1 - (lg_sl ([.ref a4])).length) Slot.unset).toArray = ls at hl ⊢
  have hl : lv_has ls 1 [(0, .ref a4)] := hl
  refine lv_aload_n hx hb dX4_quiet_0 rfl (lv_at hl 0 rfl) ?_
  refine va_get (D := (dC, dI)) (ci := 3) (v := .int (gI S4 1)) (C := RX4) (T := TX4) (N := 8) hx hb hts inX4_ hown hK hP 0 rfl rfl 1 (by decide) (hts (.fieldLink RX4 31 "GateWheel$Wheel" "toCome" "I") (List.mem_of_getElem? (i := 1) rfl)) (fun _ h9 => h9) rfl dX4_quiet_1 ?_
  refine lv_if_ne (tgt := 20) hx hb dX4_quiet_4 (by decide) (fun c1 => ?_) (fun c1 => ?_)
  · have h := zN c1 h
    refine lv_iconst (v := 0) hx hb dX4_quiet_20 (by decide) ?_
    have ho0 : (0 : Int32) = or_ := congrArg (fun z : Int32 => z) (Option.some.inj h)
    exact W.iret (v := 0) hx hb hr (fun t ht hW => ⟨⟨0, (), rfl, ho0, by rw [ht]; exact hP, va_K.moved hW.alike hK, hD⟩, hS.F ht⟩) hS.2.2 dX4_quiet_21
  · have h := zY c1 h
    refine lv_aload_n hx hb dX4_quiet_7 rfl (lv_at hl 0 rfl) ?_
    refine va_get (D := (dC, dI)) (ci := 3) (v := .long (gL S4 7)) (C := RX4) (T := TX4) (N := 8) hx hb hts inX4_ hown hK hP 0 rfl rfl 7 (by decide) (hts (.fieldLink RX4 34 "GateWheel$Wheel" "changed" "J") (List.mem_of_getElem? (i := 2) rfl)) (fun _ h9 => h9) rfl dX4_quiet_8 ?_
    refine lv_lconst (v := 0) hx hb dX4_quiet_11 (by decide) ?_
    refine W.lcmp hx hb dX4_quiet_12 ?_
    refine lv_if_ne (tgt := 20) hx hb dX4_quiet_13 (by decide) (fun c2 => ?_) (fun c2 => ?_)
    · have h := zN c2 h
      refine lv_iconst (v := 0) hx hb dX4_quiet_20 (by decide) ?_
      have ho0 : (0 : Int32) = or_ := congrArg (fun z : Int32 => z) (Option.some.inj h)
      exact W.iret (v := 0) hx hb hr (fun t ht hW => ⟨⟨0, (), rfl, ho0, by rw [ht]; exact hP, va_K.moved hW.alike hK, hD⟩, hS.F ht⟩) hS.2.2 dX4_quiet_21
    · have h := zY c2 h
      refine lv_iconst (v := 1) hx hb dX4_quiet_16 (by decide) ?_
      refine lv_goto (tgt := 21) hx hb dX4_quiet_17 (by decide) ?_
      have ho0 : (1 : Int32) = or_ := congrArg (fun z : Int32 => z) (Option.some.inj h)
      exact W.iret (v := 1) hx hb hr (fun t ht hW => ⟨⟨1, (), rfl, ho0, by rw [ht]; exact hP, va_K.moved hW.alike hK, hD⟩, hS.F ht⟩) hS.2.2 dX4_quiet_21

set_option maxHeartbeats 4000000 in
set_option maxRecDepth 100000 in
theorem m_X4_changeOf (l : Launch) (dC : Nat → ClassId) (dI : Nat → Nat → Nat) (y : Nat → ClassId) (a4 : Nat) (h4 : Nat → Nat) (S4 : SS) (p1 : Int32) (p2 : Int32) (sz : Nat) (or_ : Int32) (h : f_X4_changeOf S4 p1 p2 = some or_) : Met l yX4_changeOf wsX4_changeOf ({ frames := 0, cells := 0, slots := 0, locals := 0 }) (va_Pc [.ref a4, .int p1, .int p2] (fun U => U.heap.size = sz ∧ va_P (dC, dI) vwCl (cX4 a4 h4 y S4) U.heap ∧ va_K (dC, dI) vwCl [(y 0, .int), (y 1, .long), (y 2, .byte), (y 3, .boolean)] U ∧ va_D (fun _ => True) (cX4 a4 h4 y S4))) (va_Qi (fun (r : Int32) (_ : Unit) => r = or_) (fun (_ : Unit) (t : State) => va_P (dC, dI) vwCl (cX4 a4 h4 y S4) t.heap ∧ va_K (dC, dI) vwCl [(y 0, .int), (y 1, .long), (y 2, .byte), (y 3, .boolean)] t ∧ va_D (va_A (cX4 a4 h4 y S4) sz) (cX4 a4 h4 y S4)) (va_A (cX4 a4 h4 y S4) sz)) 0 0 (va_A (cX4 a4 h4 y S4) sz) := by
  refine Met.ofW (cc := cX4_changeOf) (maxL := 3) (ret := (some .int)) (by decide +kernel) rfl ?_
  intro p e s m args below meth c s₁ B hml hv
  obtain ⟨rfl, hsz, hP, hK, hD0⟩ := hv
  have hx := B.exec
  have hb := B.bytes
  have hr := B.returns
  have hts := atoms_spec (ws := wsX4_changeOf) B.pre
  have hown : s.vm.findClass RX4 = some m.cls := findClass_of_methodNamed B.named
  have hlocks := B.notSynchronized
  have inX4_ : ∀ w ∈ wsX40, w ∈ wsX4_changeOf := fun _ h => List.mem_cons_of_mem _ (List.mem_append_right _ h)
  subst hsz
  have hD := hD0.self (sz := s.heap.size)
  generalize hAe : va_A (cX4 a4 h4 y S4) s.heap.size = A at hD ⊢
  have hA : ∀ q : Nat, s.heap.size ≤ q → A q := fun q h => by rw [← hAe]; exact Or.inr h
  have hS : va_S A s.heap s.heap [] := va_S.rf
  have hP : va_P (dC, dI) vwCl (cX4 a4 h4 y S4) s.heap := hP
  have hl := lv_entry ([.ref a4, .int p1, .int p2]) (n := 3) (Nat.le_of_ble_eq_true rfl)
  rw [lg_entry_eq]
  generalize (lg_sl ([.ref a4, .int p1, .int p2]) ++ List.replicate (3 - (lg_sl ([.ref a4, .int p1, .int p2])).length) Slot.unset).toArray = ls at hl ⊢
  have hl : lv_has ls 3 [(0, .ref a4), (1, .int p1), (2, .int p2)] := hl
  refine lv_iload_n hx hb dX4_changeOf_0 rfl (lv_at hl 2 rfl) ?_
  refine lv_if_lt (tgt := 28) hx hb dX4_changeOf_1 (by decide) (fun c1 => ?_) (fun c1 => ?_)
  · have h := zY c1 h
    refine lv_iconst (v := (-1)) hx hb dX4_changeOf_28 (by decide) ?_
    have ho0 : (-1 : Int32) = or_ := congrArg (fun z : Int32 => z) (Option.some.inj h)
    exact W.iret (v := (-1)) hx hb hr (fun t ht hW => ⟨⟨(-1), (), rfl, ho0, by rw [ht]; exact hP, va_K.moved hW.alike hK, hD⟩, hS.F ht⟩) hS.2.2 dX4_changeOf_29
  · have h := zN c1 h
    refine lv_iload_n hx hb dX4_changeOf_4 rfl (lv_at hl 2 rfl) ?_
    refine lv_aload_n hx hb dX4_changeOf_5 rfl (lv_at hl 0 rfl) ?_
    refine va_get (D := (dC, dI)) (ci := 3) (v := .ref (h4 6)) (C := RX4) (T := TX4) (N := 8) hx hb hts inX4_ hown hK hP 0 rfl rfl 6 (by decide) (hts (.fieldLink RX4 24 "GateWheel$Wheel" "waveCounts" "[I") (List.mem_of_getElem? (i := 1) rfl)) (fun _ h9 => h9) rfl dX4_changeOf_6 ?_
    refine lv_iload_n hx hb dX4_changeOf_9 rfl (lv_at hl 1 rfl) ?_
    obtain ⟨hi2, h⟩ := zG_spec h
    refine va_iald hx hb hK hP 5 0 rfl rfl hi2 dX4_changeOf_10 ?_
    refine lv_icmp_ge (tgt := 28) hx hb dX4_changeOf_11 (by decide) (fun c3 => ?_) (fun c3 => ?_)
    · have h := zY c3 h
      refine lv_iconst (v := (-1)) hx hb dX4_changeOf_28 (by decide) ?_
      have ho0 : (-1 : Int32) = or_ := congrArg (fun z : Int32 => z) (Option.some.inj h)
      exact W.iret (v := (-1)) hx hb hr (fun t ht hW => ⟨⟨(-1), (), rfl, ho0, by rw [ht]; exact hP, va_K.moved hW.alike hK, hD⟩, hS.F ht⟩) hS.2.2 dX4_changeOf_29
    · have h := zN c3 h
      refine lv_aload_n hx hb dX4_changeOf_14 rfl (lv_at hl 0 rfl) ?_
      refine va_get (D := (dC, dI)) (ci := 3) (v := .ref (h4 5)) (C := RX4) (T := TX4) (N := 8) hx hb hts inX4_ hown hK hP 0 rfl rfl 5 (by decide) (hts (.fieldLink RX4 21 "GateWheel$Wheel" "waves" "[I") (List.mem_of_getElem? (i := 2) rfl)) (fun _ h9 => h9) rfl dX4_changeOf_15 ?_
      refine lv_iload_n hx hb dX4_changeOf_18 rfl (lv_at hl 1 rfl) ?_
      refine lv_bipush (v := 20) hx hb dX4_changeOf_19 (by decide) ?_
      refine lv_imul hx hb dX4_changeOf_21 ?_
      refine lv_iload_n hx hb dX4_changeOf_22 rfl (lv_at hl 2 rfl) ?_
      refine lv_iadd hx hb dX4_changeOf_23 ?_
      obtain ⟨hi4, h⟩ := zG_spec h
      refine va_iald hx hb hK hP 4 0 rfl rfl hi4 dX4_changeOf_24 ?_
      refine lv_goto (tgt := 29) hx hb dX4_changeOf_25 (by decide) ?_
      have ho0 : (gA S4 5 ((p1 * (20 : Int32)) + p2).toNatClampNeg) = or_ := congrArg (fun z : Int32 => z) (Option.some.inj h)
      exact W.iret (v := (gA S4 5 ((p1 * (20 : Int32)) + p2).toNatClampNeg)) hx hb hr (fun t ht hW => ⟨⟨(gA S4 5 ((p1 * (20 : Int32)) + p2).toNatClampNeg), (), rfl, ho0, by rw [ht]; exact hP, va_K.moved hW.alike hK, hD⟩, hS.F ht⟩) hS.2.2 dX4_changeOf_29

set_option maxHeartbeats 4000000 in
set_option maxRecDepth 100000 in
theorem m_X4_changeBuses (l : Launch) (dC : Nat → ClassId) (dI : Nat → Nat → Nat) (y : Nat → ClassId) (a4 : Nat) (h4 : Nat → Nat) (S4 : SS) (a0 : Nat) (h0 : Nat → Nat) (S0 : SS) (sz : Nat) (or_ : Int32) (o_4 : SS) (h : f_X4_changeBuses S4 S0 = some (or_, o_4)) : Met l yX4_changeBuses wsX4_changeBuses ({ frames := 3, cells := 0, slots := 0, locals := 74 }) (va_Pc [.ref a4, .ref a0] (fun U => U.heap.size = sz ∧ va_P (dC, dI) vwCl ((cX4 a4 h4 y S4) ++ (cX0 a0 h0 y S0)) U.heap ∧ va_K (dC, dI) vwCl [(y 0, .int), (y 1, .long), (y 2, .byte), (y 3, .boolean)] U ∧ va_D (fun _ => True) ((cX4 a4 h4 y S4) ++ (cX0 a0 h0 y S0)))) (va_Qi (fun (r : Int32) (_ : Unit) => r = or_) (fun (_ : Unit) (t : State) => va_P (dC, dI) vwCl ((cX4 a4 h4 y o_4) ++ (cX0 a0 h0 y S0)) t.heap ∧ va_K (dC, dI) vwCl [(y 0, .int), (y 1, .long), (y 2, .byte), (y 3, .boolean)] t ∧ va_D (va_A ((cX4 a4 h4 y S4) ++ (cX0 a0 h0 y S0)) sz) ((cX4 a4 h4 y o_4) ++ (cX0 a0 h0 y S0))) (va_A ((cX4 a4 h4 y S4) ++ (cX0 a0 h0 y S0)) sz)) 0 0 (va_A ((cX4 a4 h4 y S4) ++ (cX0 a0 h0 y S0)) sz) := by
  refine Met.ofW (cc := cX4_changeBuses) (maxL := 5) (ret := (some .int)) (by decide +kernel) rfl ?_
  intro p e s m args below meth c s₁ B hml hv
  obtain ⟨rfl, hsz, hP, hK, hD0⟩ := hv
  have hx := B.exec
  have hb := B.bytes
  have hr := B.returns
  have hts := atoms_spec (ws := wsX4_changeBuses) B.pre
  have hown : s.vm.findClass RX4 = some m.cls := findClass_of_methodNamed B.named
  have hlocks := B.notSynchronized
  have inX0_ : ∀ w ∈ wsX00, w ∈ wsX4_changeBuses := fun _ h => List.mem_cons_of_mem _ (List.mem_append_left _ (List.mem_append_right _ h))
  have inX4_ : ∀ w ∈ wsX40, w ∈ wsX4_changeBuses := fun _ h => List.mem_cons_of_mem _ (List.mem_append_right _ h)
  subst hsz
  have hD := hD0.self (sz := s.heap.size)
  generalize hAe : va_A ((cX4 a4 h4 y S4) ++ (cX0 a0 h0 y S0)) s.heap.size = A at hD ⊢
  have hA : ∀ q : Nat, s.heap.size ≤ q → A q := fun q h => by rw [← hAe]; exact Or.inr h
  have hS : va_S A s.heap s.heap [] := va_S.rf
  have hP : va_P (dC, dI) vwCl ((cX4 a4 h4 y S4) ++ (cX0 a0 h0 y S0)) s.heap := hP
  have hl := lv_entry ([.ref a4, .ref a0]) (n := 5) (Nat.le_of_ble_eq_true rfl)
  rw [lg_entry_eq]
  generalize (lg_sl ([.ref a4, .ref a0]) ++ List.replicate (5 - (lg_sl ([.ref a4, .ref a0])).length) Slot.unset).toArray = ls at hl ⊢
  have hl : lv_has ls 5 [(0, .ref a4), (1, .ref a0)] := hl
  refine lv_iconst (v := 0) hx hb dX4_changeBuses_0 (by decide) ?_
  refine lv_istore_n (lv' := [(2, .int 0), (0, .ref a4), (1, .ref a0)]) hx hb dX4_changeBuses_1 rfl hl (by decide) rfl (fun ls hl => ?_)
  refine lv_iconst (v := 0) hx hb dX4_changeBuses_2 (by decide) ?_
  refine lv_istore_n (lv' := [(3, .int 0), (2, .int 0), (0, .ref a4), (1, .ref a0)]) hx hb dX4_changeBuses_3 rfl hl (by decide) rfl (fun ls hl => ?_)
  refine W_abs (fun GW1 eG2 => ?_)
  have hi6 := h
  have lp4 : ∀ (n : Nat) (v10 : Int32) (v11 : Int32) (s4_12 : SS) (HGW1 : Heap) (locs : List Loc) (ls : Array Slot), zI (b_X4_changeBuses_4 S0) n (v10, v11, s4_12) = some (or_, o_4) → va_P (dC, dI) vwCl ((cX4 a4 h4 y s4_12) ++ (cX0 a0 h0 y S0)) HGW1 → va_D A ((cX4 a4 h4 y s4_12) ++ (cX0 a0 h0 y S0)) → va_S A s.heap HGW1 locs → lv_has ls 5 [(0, .ref a4), (1, .ref a0), (2, .int v10), (3, .int v11)] → GW1 HGW1 locs 0 0 (F0 m 4 ls []) := by
    intro n
    induction n with
    | zero =>
      intro v10 v11 s4_12 HGW1 locs ls hi6 hP hD hS hl
      exact (zI_0 hi6).elim
    | succ n ihlp4 =>
      intro v10 v11 s4_12 HGW1 locs ls hi6 hP hD hS hl
      refine (eG2 _ _ _ _ _).mpr ?_
      obtain ⟨xx9, h, hx8⟩ := zI_spec hi6
      refine lv_iload_n hx hb dX4_changeBuses_4 rfl (lv_at hl 3 rfl) ?_
      refine lv_aload_n hx hb dX4_changeBuses_5 rfl (lv_at hl 1 rfl) ?_
      refine va_get (D := (dC, dI)) (ci := 0) (v := .int (gI S0 0)) (C := RX0) (T := TX0) (N := 13) hx hb hts inX0_ hown hK hP 6 rfl rfl 0 (by decide) (hts (.fieldLink RX4 38 "GateWheel$Circuit" "count" "I") (List.mem_of_getElem? (i := 1) rfl)) (fun _ h9 => h9) rfl dX4_changeBuses_6 ?_
      refine lv_icmp_ge (tgt := 56) hx hb dX4_changeBuses_9 (by decide) (fun c13 => ?_) (fun c13 => ?_)
      · have h := zY c13 h
        refine lv_iload_n hx hb dX4_changeBuses_56 rfl (lv_at hl 2 rfl) ?_
        have h := congrArg some (zI_r h hx8)
        have ho0 : v10 = or_ := congrArg (fun z : Int32 × SS => z.1) (Option.some.inj h)
        have ho1 : s4_12 = o_4 := congrArg (fun z : Int32 × SS => z.2) (Option.some.inj h)
        exact W.iret (v := v10) hx hb hr (fun t ht hW => ⟨⟨v10, (), rfl, ho0, by rw [ht]; rw [← ho1]; exact hP, va_K.moved hW.alike hK, by rw [← ho1]; exact hD⟩, hS.F ht⟩) hS.2.2 dX4_changeBuses_57
      · have h := zN c13 h
        refine lv_aload_n hx hb dX4_changeBuses_12 rfl (lv_at hl 1 rfl) ?_
        refine va_get (D := (dC, dI)) (ci := 0) (v := .ref (h0 12)) (C := RX0) (T := TX0) (N := 13) hx hb hts inX0_ hown hK hP 6 rfl rfl 12 (by decide) (hts (.fieldLink RX4 76 "GateWheel$Circuit" "order" "[I") (List.mem_of_getElem? (i := 2) rfl)) (fun _ h9 => h9) rfl dX4_changeBuses_13 ?_
        refine lv_iload_n hx hb dX4_changeBuses_16 rfl (lv_at hl 3 rfl) ?_
        obtain ⟨hi14, h⟩ := zG_spec h
        refine va_iald hx hb hK hP 17 0 rfl rfl hi14 dX4_changeBuses_17 ?_
        obtain ⟨v15, ev15, h⟩ := zL_spec h
        refine zTopi ev15 ?_
        refine lv_istore (lv' := [(4, .int v15), (0, .ref a4), (1, .ref a0), (2, .int v10), (3, .int v11)]) hx hb dX4_changeBuses_18 hl (by decide) rfl (fun ls hl => ?_)
        refine lv_aload_n hx hb dX4_changeBuses_20 rfl (lv_at hl 2 rfl) ?_
        refine va_get (D := (dC, dI)) (ci := 0) (v := .ref (h0 4)) (C := RX0) (T := TX0) (N := 13) hx hb hts inX0_ hown hK hP 6 rfl rfl 4 (by decide) (hts (.fieldLink RX4 65 "GateWheel$Circuit" "kinds" "[I") (List.mem_of_getElem? (i := 3) rfl)) (fun _ h9 => h9) rfl dX4_changeBuses_21 ?_
        refine lv_iload hx hb dX4_changeBuses_24 (lv_at hl 0 rfl) ?_
        obtain ⟨hi16, h⟩ := zG_spec h
        refine va_iald hx hb hK hP 9 0 rfl rfl hi16 dX4_changeBuses_26 ?_
        refine lv_iconst (v := 1) hx hb dX4_changeBuses_27 (by decide) ?_
        refine lv_icmp_ne (tgt := 50) hx hb dX4_changeBuses_28 (by decide) (fun c17 => ?_) (fun c17 => ?_)
        · have h := zN c17 h
          obtain ⟨v18, ev18, h⟩ := zL_spec h
          refine lv_iinc (v := v18) (lv' := [(3, .int v18), (4, .int v15), (0, .ref a4), (1, .ref a0), (2, .int v10)]) hx hb dX4_changeBuses_50 hl (k := 4) rfl (by rw [ev18]; rfl) (by decide) rfl (fun ls hl => ?_)
          refine lv_goto (tgt := 4) hx hb dX4_changeBuses_53 (by decide) ?_
          have h := zI_l h hx8
          exact (eG2 _ _ _ _ _).mp (ihlp4 v10 v18 s4_12 _ _ _ h hP hD hS (lv_sub hl [2, 3, 4, 0] rfl))
        · have h := zY c17 h
          refine lv_iload_n hx hb dX4_changeBuses_31 rfl (lv_at hl 3 rfl) ?_
          refine lv_aload_n hx hb dX4_changeBuses_32 rfl (lv_at hl 1 rfl) ?_
          refine lv_iload hx hb dX4_changeBuses_33 (lv_at hl 0 rfl) ?_
          refine lv_aload_n hx hb dX4_changeBuses_35 rfl (lv_at hl 2 rfl) ?_
          refine lv_iload hx hb dX4_changeBuses_36 (lv_at hl 0 rfl) ?_
          refine lv_aload_n hx hb dX4_changeBuses_38 rfl (lv_at hl 1 rfl) ?_
          refine va_get (D := (dC, dI)) (ci := 3) (v := .ref (h4 2)) (C := RX4) (T := TX4) (N := 8) hx hb hts inX4_ hown hK hP 0 rfl rfl 2 (by decide) (hts (.fieldLink RX4 9 "GateWheel$Wheel" "values" "[I") (List.mem_of_getElem? (i := 4) rfl)) (fun _ h9 => h9) rfl dX4_changeBuses_39 ?_
          obtain ⟨r19, hc20, h⟩ := zB_spec h
          have hPc := hP.sub (ws' := ((cX0 a0 h0 y S0) ++ ([((h4 2), .inl (y 0, 60, .inl (gA s4_12 2)))]))) [6, 7, 8, 9, 10, 11, 12, 13, 14, 15, 16, 17, 1] rfl
          have hDc := hD.sub (ws' := ((cX0 a0 h0 y S0) ++ ([((h4 2), .inl (y 0, 60, .inl (gA s4_12 2)))]))) [6, 7, 8, 9, 10, 11, 12, 13, 14, 15, 16, 17, 1] (by decide) rfl
          have hFc := va_free (wc := ((cX0 a0 h0 y S0) ++ ([((h4 2), .inl (y 0, 60, .inl (gA s4_12 2)))]))) hD hS hA [6, 7, 8, 9, 10, 11, 12, 13, 14, 15, 16, 17, 1] rfl
          refine va_calli (va_runS (As := [.ref a0, .int v15, .ref (h4 2)]) (rest := [.int v15, .ref a4, .int v10]) ⟨hx, hb, hml, hown, hts⟩ (m_X2_busValue l dC dI y a0 h0 S0 (h4 2) (gA s4_12 2) v15 HGW1.size r19 hc20) (va_cwS 3 hts gX4_changeBuses_X2_busValue rfl rfl rfl (by decide +kernel) ⟨Nat.le_of_ble_eq_true rfl, Nat.le_of_ble_eq_true rfl⟩) ⟨fun a U g mk q => by obtain ⟨q0, q1, qP, qK, qD⟩ := q; exact ⟨q0, q1, qP, va_K.moved (u := U) (U := U.calling g mk a) (Vm.Alike.refl U.vm) qK, qD⟩, fun U hU hW => ⟨rfl, by rw [hU], by rw [hU]; exact hPc, va_K.moved hW.alike hK, hDc.weaken (fun _ _ _ _ => trivial)⟩⟩ rfl rfl hl.1 rfl (lv_room (Nat.le_of_ble_eq_true rfl)) dX4_changeBuses_42 ⟨Nat.le_of_ble_eq_true rfl, Nat.le_of_ble_eq_true rfl⟩) hS (fun q _ h => hFc q h) hFc (fun rr22 u t H21 locs ht hvm hw hB hz1 hk1 hS => ?_)
          obtain ⟨hP1, hK1, hD1⟩ := hB
          rw [ht] at hP1
          refine zTopi hw.symm ?_
          obtain ⟨hP, hD⟩ := va_join (wr := [(oX4 a4 h4 s4_12), (h4 3, .inl (y 0, 60, .inl (gA s4_12 3))), (h4 4, .inl (y 0, 600, .inl (gA s4_12 4))), (h4 5, .inl (y 0, 1200, .inl (gA s4_12 5))), (h4 6, .inl (y 0, 60, .inl (gA s4_12 6)))]) (w1 := ((cX0 a0 h0 y S0) ++ ([((h4 2), .inl (y 0, 60, .inl (gA s4_12 2)))]))) hP hD [6, 7, 8, 9, 10, 11, 12, 13, 14, 15, 16, 17, 1] [0, 2, 3, 4, 5] rfl rfl (by decide) (by decide) hk1 hFc hP1 hD1
          have hP : va_P (dC, dI) vwCl ((cX4 a4 h4 y s4_12) ++ (cX0 a0 h0 y S0)) H21 := hP.sub [0, 17, 1, 2, 3, 4, 5, 6, 7, 8, 9, 10, 11, 12, 13, 14, 15, 16] rfl
          have hD : va_D A ((cX4 a4 h4 y s4_12) ++ (cX0 a0 h0 y S0)) := hD.sub [0, 17, 1, 2, 3, 4, 5, 6, 7, 8, 9, 10, 11, 12, 13, 14, 15, 16] (by decide) rfl
          obtain ⟨⟨r23, s4_24⟩, hc25, h⟩ := zB_spec h
          have hPc := hP.sub (ws' := (cX4 a4 h4 y s4_12)) [0, 1, 2, 3, 4, 5] rfl
          have hDc := hD.sub (ws' := (cX4 a4 h4 y s4_12)) [0, 1, 2, 3, 4, 5] (by decide) rfl
          have hFc := va_free (wc := (cX4 a4 h4 y s4_12)) hD hS hA [0, 1, 2, 3, 4, 5] rfl
          refine va_calli (va_runV (As := [.int v15, .int r19]) (rest := [.int v10]) ⟨hx, hb, hml, hown, hts⟩ (m_X4_change l dC dI y a4 h4 s4_12 v15 r19 H21.size r23 s4_24 hc25) (cwV 2 hts gX4_changeBuses_X4_change rfl rfl rfl (by decide +kernel) ⟨Nat.le_of_ble_eq_true rfl, Nat.le_of_ble_eq_true rfl⟩) ⟨fun a U g mk q => by obtain ⟨q0, q1, qP, qK, qD⟩ := q; exact ⟨q0, q1, qP, va_K.moved (u := U) (U := U.calling g mk a) (Vm.Alike.refl U.vm) qK, qD⟩, va_recv hK hPc (ci := 3) (q0 := 0) rfl rfl, fun U hU hW => ⟨rfl, by rw [hU], by rw [hU]; exact hPc, va_K.moved hW.alike hK, hDc.weaken (fun _ _ _ _ => trivial)⟩⟩ rfl rfl hl.1 rfl (lv_room (Nat.le_of_ble_eq_true rfl)) dX4_changeBuses_45 ⟨Nat.le_of_ble_eq_true rfl, Nat.le_of_ble_eq_true rfl⟩) hS (fun q _ h => hFc q h) hFc (fun rr27 u t H26 locs ht hvm hw hB hz1 hk1 hS => ?_)
          obtain ⟨hP1, hK1, hD1⟩ := hB
          rw [ht] at hP1
          refine zTopi hw.symm ?_
          obtain ⟨hP, hD⟩ := va_join (wr := [(oX0 a0 h0 S0), (h0 2, .inl (y 1, 60, .inr (.inl (gB S0 2)))), (h0 3, .inl (y 0, 60, .inl (gA S0 3))), (h0 4, .inl (y 0, 60, .inl (gA S0 4))), (h0 5, .inl (y 0, 60, .inl (gA S0 5))), (h0 6, .inl (y 0, 60, .inl (gA S0 6))), (h0 7, .inl (y 0, 720, .inl (gA S0 7))), (h0 8, .inl (y 0, 60, .inl (gA S0 8))), (h0 9, .inl (y 0, 60, .inl (gA S0 9))), (h0 10, .inl (y 1, 60, .inr (.inl (gB S0 10)))), (h0 11, .inl (y 0, 60, .inl (gA S0 11))), (h0 12, .inl (y 0, 60, .inl (gA S0 12)))]) (w1 := (cX4 a4 h4 y s4_24)) hP hD [0, 1, 2, 3, 4, 5] [6, 7, 8, 9, 10, 11, 12, 13, 14, 15, 16, 17] rfl rfl (by decide) (by decide) hk1 hFc hP1 hD1
          have hP : va_P (dC, dI) vwCl ((cX4 a4 h4 y s4_24) ++ (cX0 a0 h0 y S0)) H26 := hP.sub [12, 13, 14, 15, 16, 17, 0, 1, 2, 3, 4, 5, 6, 7, 8, 9, 10, 11] rfl
          have hD : va_D A ((cX4 a4 h4 y s4_24) ++ (cX0 a0 h0 y S0)) := hD.sub [12, 13, 14, 15, 16, 17, 0, 1, 2, 3, 4, 5, 6, 7, 8, 9, 10, 11] (by decide) rfl
          refine lv_iadd hx hb dX4_changeBuses_48 ?_
          obtain ⟨v28, ev28, h⟩ := zL_spec h
          refine zTopi ev28 ?_
          refine lv_istore_n (lv' := [(2, .int v28), (4, .int v15), (0, .ref a4), (1, .ref a0), (3, .int v11)]) hx hb dX4_changeBuses_49 rfl hl (by decide) rfl (fun ls hl => ?_)
          obtain ⟨v29, ev29, h⟩ := zL_spec h
          refine lv_iinc (v := v29) (lv' := [(3, .int v29), (2, .int v28), (4, .int v15), (0, .ref a4), (1, .ref a0)]) hx hb dX4_changeBuses_50 hl (k := 4) rfl (by rw [ev29]; rfl) (by decide) rfl (fun ls hl => ?_)
          refine lv_goto (tgt := 4) hx hb dX4_changeBuses_53 (by decide) ?_
          have h := zI_l h hx8
          exact (eG2 _ _ _ _ _).mp (ihlp4 v28 v29 s4_24 _ _ _ h hP hD hS (lv_sub hl [3, 4, 1, 0] rfl))
  exact lp4 zF (0 : Int32) (0 : Int32) S4 _ _ _ hi6 hP hD hS (lv_sub hl [2, 3, 1, 0] rfl)

set_option maxHeartbeats 4000000 in
set_option maxRecDepth 100000 in
theorem m_X4_lookAt (l : Launch) (dC : Nat → ClassId) (dI : Nat → Nat → Nat) (y : Nat → ClassId) (a4 : Nat) (h4 : Nat → Nat) (S4 : SS) (a0 : Nat) (h0 : Nat → Nat) (S0 : SS) (p2 : Int32) (sz : Nat) (o_4 : SS) (h : f_X4_lookAt S4 S0 p2 = some o_4) : Met l yX4_lookAt wsX4_lookAt ({ frames := 3, cells := 0, slots := 0, locals := 75 }) (va_Pc [.ref a4, .ref a0, .int p2] (fun U => U.heap.size = sz ∧ va_P (dC, dI) vwCl ((cX4 a4 h4 y S4) ++ (cX0 a0 h0 y S0)) U.heap ∧ va_K (dC, dI) vwCl [(y 0, .int), (y 1, .long), (y 2, .byte), (y 3, .boolean)] U ∧ va_D (fun _ => True) ((cX4 a4 h4 y S4) ++ (cX0 a0 h0 y S0)))) (va_Qv (fun (_ : Unit) => True) (fun (_ : Unit) (t : State) => va_P (dC, dI) vwCl ((cX4 a4 h4 y o_4) ++ (cX0 a0 h0 y S0)) t.heap ∧ va_K (dC, dI) vwCl [(y 0, .int), (y 1, .long), (y 2, .byte), (y 3, .boolean)] t ∧ va_D (va_A ((cX4 a4 h4 y S4) ++ (cX0 a0 h0 y S0)) sz) ((cX4 a4 h4 y o_4) ++ (cX0 a0 h0 y S0))) (va_A ((cX4 a4 h4 y S4) ++ (cX0 a0 h0 y S0)) sz)) 0 0 (va_A ((cX4 a4 h4 y S4) ++ (cX0 a0 h0 y S0)) sz) := by
  refine Met.ofW (cc := cX4_lookAt) (maxL := 5) (ret := none) (by decide +kernel) rfl ?_
  intro p e s m args below meth c s₁ B hml hv
  obtain ⟨rfl, hsz, hP, hK, hD0⟩ := hv
  have hx := B.exec
  have hb := B.bytes
  have hr := B.returns
  have hts := atoms_spec (ws := wsX4_lookAt) B.pre
  have hown : s.vm.findClass RX4 = some m.cls := findClass_of_methodNamed B.named
  have hlocks := B.notSynchronized
  have inX0_ : ∀ w ∈ wsX00, w ∈ wsX4_lookAt := fun _ h => List.mem_cons_of_mem _ (List.mem_append_right _ h)
  have inX4_ : ∀ w ∈ wsX40, w ∈ wsX4_lookAt := fun _ h => List.mem_cons_of_mem _ (List.mem_append_left _ (List.mem_append_right _ h))
  subst hsz
  have hD := hD0.self (sz := s.heap.size)
  generalize hAe : va_A ((cX4 a4 h4 y S4) ++ (cX0 a0 h0 y S0)) s.heap.size = A at hD ⊢
  have hA : ∀ q : Nat, s.heap.size ≤ q → A q := fun q h => by rw [← hAe]; exact Or.inr h
  have hS : va_S A s.heap s.heap [] := va_S.rf
  have hP : va_P (dC, dI) vwCl ((cX4 a4 h4 y S4) ++ (cX0 a0 h0 y S0)) s.heap := hP
  have hl := lv_entry ([.ref a4, .ref a0, .int p2]) (n := 5) (Nat.le_of_ble_eq_true rfl)
  rw [lg_entry_eq]
  generalize (lg_sl ([.ref a4, .ref a0, .int p2]) ++ List.replicate (5 - (lg_sl ([.ref a4, .ref a0, .int p2])).length) Slot.unset).toArray = ls at hl ⊢
  have hl : lv_has ls 5 [(0, .ref a4), (1, .ref a0), (2, .int p2)] := hl
  refine lv_aload_n hx hb dX4_lookAt_0 rfl (lv_at hl 1 rfl) ?_
  refine lv_iload_n hx hb dX4_lookAt_1 rfl (lv_at hl 2 rfl) ?_
  refine lv_aload_n hx hb dX4_lookAt_2 rfl (lv_at hl 0 rfl) ?_
  refine va_get (D := (dC, dI)) (ci := 3) (v := .ref (h4 2)) (C := RX4) (T := TX4) (N := 8) hx hb hts inX4_ hown hK hP 0 rfl rfl 2 (by decide) (hts (.fieldLink RX4 9 "GateWheel$Wheel" "values" "[I") (List.mem_of_getElem? (i := 1) rfl)) (fun _ h9 => h9) rfl dX4_lookAt_3 ?_
  obtain ⟨r1, hc2, h⟩ := zB_spec h
  have hPc := hP.sub (ws' := ((cX0 a0 h0 y S0) ++ ([((h4 2), .inl (y 0, 60, .inl (gA S4 2)))]))) [6, 7, 8, 9, 10, 11, 12, 13, 14, 15, 16, 17, 1] rfl
  have hDc := hD.sub (ws' := ((cX0 a0 h0 y S0) ++ ([((h4 2), .inl (y 0, 60, .inl (gA S4 2)))]))) [6, 7, 8, 9, 10, 11, 12, 13, 14, 15, 16, 17, 1] (by decide) rfl
  have hFc := va_free (wc := ((cX0 a0 h0 y S0) ++ ([((h4 2), .inl (y 0, 60, .inl (gA S4 2)))]))) hD hS hA [6, 7, 8, 9, 10, 11, 12, 13, 14, 15, 16, 17, 1] rfl
  refine va_calli (va_runS (As := [.ref a0, .int p2, .ref (h4 2)]) (rest := []) ⟨hx, hb, hml, hown, hts⟩ (m_X2_gateValue l dC dI y a0 h0 S0 (h4 2) (gA S4 2) p2 s.heap.size r1 hc2) (va_cwS 3 hts gX4_lookAt_X2_gateValue rfl rfl rfl (by decide +kernel) ⟨Nat.le_of_ble_eq_true rfl, Nat.le_of_ble_eq_true rfl⟩) ⟨fun a U g mk q => by obtain ⟨q0, q1, qP, qK, qD⟩ := q; exact ⟨q0, q1, qP, va_K.moved (u := U) (U := U.calling g mk a) (Vm.Alike.refl U.vm) qK, qD⟩, fun U hU hW => ⟨rfl, by rw [hU], by rw [hU]; exact hPc, va_K.moved hW.alike hK, hDc.weaken (fun _ _ _ _ => trivial)⟩⟩ rfl rfl hl.1 rfl (lv_room (Nat.le_of_ble_eq_true rfl)) dX4_lookAt_6 ⟨Nat.le_of_ble_eq_true rfl, Nat.le_of_ble_eq_true rfl⟩) hS (fun q _ h => hFc q h) hFc (fun rr4 u t H3 locs ht hvm hw hB hz1 hk1 hS => ?_)
  obtain ⟨hP1, hK1, hD1⟩ := hB
  rw [ht] at hP1
  refine zTopi hw.symm ?_
  obtain ⟨hP, hD⟩ := va_join (wr := [(oX4 a4 h4 S4), (h4 3, .inl (y 0, 60, .inl (gA S4 3))), (h4 4, .inl (y 0, 600, .inl (gA S4 4))), (h4 5, .inl (y 0, 1200, .inl (gA S4 5))), (h4 6, .inl (y 0, 60, .inl (gA S4 6)))]) (w1 := ((cX0 a0 h0 y S0) ++ ([((h4 2), .inl (y 0, 60, .inl (gA S4 2)))]))) hP hD [6, 7, 8, 9, 10, 11, 12, 13, 14, 15, 16, 17, 1] [0, 2, 3, 4, 5] rfl rfl (by decide) (by decide) hk1 hFc hP1 hD1
  have hP : va_P (dC, dI) vwCl ((cX4 a4 h4 y S4) ++ (cX0 a0 h0 y S0)) H3 := hP.sub [0, 17, 1, 2, 3, 4, 5, 6, 7, 8, 9, 10, 11, 12, 13, 14, 15, 16] rfl
  have hD : va_D A ((cX4 a4 h4 y S4) ++ (cX0 a0 h0 y S0)) := hD.sub [0, 17, 1, 2, 3, 4, 5, 6, 7, 8, 9, 10, 11, 12, 13, 14, 15, 16] (by decide) rfl
  refine lv_istore_n (lv' := [(3, .int r1), (0, .ref a4), (1, .ref a0), (2, .int p2)]) hx hb dX4_lookAt_9 rfl hl (by decide) rfl (fun ls hl => ?_)
  refine lv_iload_n hx hb dX4_lookAt_10 rfl (lv_at hl 0 rfl) ?_
  refine lv_aload_n hx hb dX4_lookAt_11 rfl (lv_at hl 1 rfl) ?_
  refine va_get (D := (dC, dI)) (ci := 3) (v := .ref (h4 3)) (C := RX4) (T := TX4) (N := 8) hx hb hts inX4_ hown hK hP 0 rfl rfl 3 (by decide) (hts (.fieldLink RX4 15 "GateWheel$Wheel" "lastTold" "[I") (List.mem_of_getElem? (i := 2) rfl)) (fun _ h9 => h9) rfl dX4_lookAt_12 ?_
  refine lv_iload_n hx hb dX4_lookAt_15 rfl (lv_at hl 3 rfl) ?_
  obtain ⟨hi5, h⟩ := zG_spec h
  refine va_iald hx hb hK hP 2 0 rfl rfl hi5 dX4_lookAt_16 ?_
  refine lv_icmp_ne (tgt := 21) hx hb dX4_lookAt_17 (by decide) (fun c6 => ?_) (fun c6 => ?_)
  · have h := zN c6 h
    refine lv_aload_n hx hb dX4_lookAt_21 rfl (lv_at hl 1 rfl) ?_
    refine va_get (D := (dC, dI)) (ci := 3) (v := .ref (h4 3)) (C := RX4) (T := TX4) (N := 8) hx hb hts inX4_ hown hK hP 0 rfl rfl 3 (by decide) (hts (.fieldLink RX4 15 "GateWheel$Wheel" "lastTold" "[I") (List.mem_of_getElem? (i := 2) rfl)) (fun _ h9 => h9) rfl dX4_lookAt_22 ?_
    refine lv_iload_n hx hb dX4_lookAt_25 rfl (lv_at hl 3 rfl) ?_
    refine lv_iload_n hx hb dX4_lookAt_26 rfl (lv_at hl 0 rfl) ?_
    refine va_iast hx hb hK hP hD hS 2 0 rfl rfl hi5 dX4_lookAt_27 (fun H7 locs hP hD hS => ?_)
    obtain ⟨s4_8, es4_8, h⟩ := zL_spec h
    have hP : va_P (dC, dI) vwCl ((cX4 a4 h4 y s4_8) ++ (cX0 a0 h0 y S0)) H7 := by rw [es4_8]; exact hP
    have hD : va_D A ((cX4 a4 h4 y s4_8) ++ (cX0 a0 h0 y S0)) := by rw [es4_8]; exact hD
    refine lv_iload_n hx hb dX4_lookAt_28 rfl (lv_at hl 3 rfl) ?_
    refine lv_aload_n hx hb dX4_lookAt_29 rfl (lv_at hl 1 rfl) ?_
    refine va_get (D := (dC, dI)) (ci := 3) (v := .int (gI s4_8 0)) (C := RX4) (T := TX4) (N := 8) hx hb hts inX4_ hown hK hP 0 rfl rfl 0 (by decide) (hts (.fieldLink RX4 27 "GateWheel$Wheel" "time" "I") (List.mem_of_getElem? (i := 3) rfl)) (fun _ h9 => h9) rfl dX4_lookAt_30 ?_
    refine lv_aload_n hx hb dX4_lookAt_33 rfl (lv_at hl 2 rfl) ?_
    refine va_get (D := (dC, dI)) (ci := 0) (v := .ref (h0 6)) (C := RX0) (T := TX0) (N := 13) hx hb hts inX0_ hown hK hP 6 rfl rfl 6 (by decide) (hts (.fieldLink RX4 88 "GateWheel$Circuit" "delays" "[I") (List.mem_of_getElem? (i := 4) rfl)) (fun _ h9 => h9) rfl dX4_lookAt_34 ?_
    refine lv_iload_n hx hb dX4_lookAt_37 rfl (lv_at hl 3 rfl) ?_
    refine va_iald hx hb hK hP 11 0 rfl rfl hi5 dX4_lookAt_38 ?_
    refine lv_iadd hx hb dX4_lookAt_39 ?_
    obtain ⟨r9, hc10, h⟩ := zB_spec h
    have hPc := hP.sub (ws' := []) [] rfl
    have hDc := hD.sub (ws' := []) [] (by decide) rfl
    have hFc := va_free (wc := []) hD hS hA [] rfl
    refine va_calli (va_runS (As := [.int p2, .int ((gI s4_8 0) + (gA S0 6 p2.toNatClampNeg))]) (rest := []) ⟨hx, hb, hml, hown, hts⟩ (m_X4_slotAt l dC dI y p2 ((gI s4_8 0) + (gA S0 6 p2.toNatClampNeg)) H7.size r9 hc10) (va_cwS 2 hts gX4_lookAt_X4_slotAt rfl rfl rfl (by decide +kernel) ⟨Nat.le_of_ble_eq_true rfl, Nat.le_of_ble_eq_true rfl⟩) ⟨fun a U g mk q => by obtain ⟨q0, q1, qP, qK, qD⟩ := q; exact ⟨q0, q1, qP, va_K.moved (u := U) (U := U.calling g mk a) (Vm.Alike.refl U.vm) qK, qD⟩, fun U hU hW => ⟨rfl, by rw [hU], by rw [hU]; exact hPc, va_K.moved hW.alike hK, hDc.weaken (fun _ _ _ _ => trivial)⟩⟩ rfl rfl hl.1 rfl (lv_room (Nat.le_of_ble_eq_true rfl)) dX4_lookAt_40 ⟨Nat.le_of_ble_eq_true rfl, Nat.le_of_ble_eq_true rfl⟩) hS (fun q _ h => hFc q h) hFc (fun rr12 u t H11 locs ht hvm hw hB hz1 hk1 hS => ?_)
    obtain ⟨hP1, hK1, hD1⟩ := hB
    rw [ht] at hP1
    refine zTopi hw.symm ?_
    obtain ⟨hP, hD⟩ := va_join (wr := [(oX4 a4 h4 s4_8), (h4 2, .inl (y 0, 60, .inl (gA s4_8 2))), (h4 3, .inl (y 0, 60, .inl (gA s4_8 3))), (h4 4, .inl (y 0, 600, .inl (gA s4_8 4))), (h4 5, .inl (y 0, 1200, .inl (gA s4_8 5))), (h4 6, .inl (y 0, 60, .inl (gA s4_8 6))), (oX0 a0 h0 S0), (h0 2, .inl (y 1, 60, .inr (.inl (gB S0 2)))), (h0 3, .inl (y 0, 60, .inl (gA S0 3))), (h0 4, .inl (y 0, 60, .inl (gA S0 4))), (h0 5, .inl (y 0, 60, .inl (gA S0 5))), (h0 6, .inl (y 0, 60, .inl (gA S0 6))), (h0 7, .inl (y 0, 720, .inl (gA S0 7))), (h0 8, .inl (y 0, 60, .inl (gA S0 8))), (h0 9, .inl (y 0, 60, .inl (gA S0 9))), (h0 10, .inl (y 1, 60, .inr (.inl (gB S0 10)))), (h0 11, .inl (y 0, 60, .inl (gA S0 11))), (h0 12, .inl (y 0, 60, .inl (gA S0 12)))]) (w1 := []) hP hD [] [0, 1, 2, 3, 4, 5, 6, 7, 8, 9, 10, 11, 12, 13, 14, 15, 16, 17] rfl rfl (by decide) (by decide) hk1 hFc hP1 hD1
    have hP : va_P (dC, dI) vwCl ((cX4 a4 h4 y s4_8) ++ (cX0 a0 h0 y S0)) H11 := hP.sub [0, 1, 2, 3, 4, 5, 6, 7, 8, 9, 10, 11, 12, 13, 14, 15, 16, 17] rfl
    have hD : va_D A ((cX4 a4 h4 y s4_8) ++ (cX0 a0 h0 y S0)) := hD.sub [0, 1, 2, 3, 4, 5, 6, 7, 8, 9, 10, 11, 12, 13, 14, 15, 16, 17] (by decide) rfl
    refine lv_istore (lv' := [(4, .int r9), (3, .int r1), (0, .ref a4), (1, .ref a0), (2, .int p2)]) hx hb dX4_lookAt_43 hl (by decide) rfl (fun ls hl => ?_)
    refine lv_aload_n hx hb dX4_lookAt_45 rfl (lv_at hl 2 rfl) ?_
    refine va_get (D := (dC, dI)) (ci := 3) (v := .ref (h4 4)) (C := RX4) (T := TX4) (N := 8) hx hb hts inX4_ hown hK hP 0 rfl rfl 4 (by decide) (hts (.fieldLink RX4 18 "GateWheel$Wheel" "slots" "[I") (List.mem_of_getElem? (i := 5) rfl)) (fun _ h9 => h9) rfl dX4_lookAt_46 ?_
    refine lv_iload hx hb dX4_lookAt_49 (lv_at hl 0 rfl) ?_
    obtain ⟨hi13, h⟩ := zG_spec h
    refine va_iald hx hb hK hP 3 0 rfl rfl hi13 dX4_lookAt_51 ?_
    refine lv_iconst (v := (-1)) hx hb dX4_lookAt_52 (by decide) ?_
    refine W_abs (fun GW14 eG15 => ?_)
    obtain ⟨ov17, hr18, h⟩ := zB_spec h
    have jn16 : ∀ (s4_20 : SS) (HGW14 : Heap) (locs : List Loc) (ls : Array Slot), s4_20 = ov17 → va_P (dC, dI) vwCl ((cX4 a4 h4 y s4_20) ++ (cX0 a0 h0 y S0)) HGW14 → va_D A ((cX4 a4 h4 y s4_20) ++ (cX0 a0 h0 y S0)) → va_S A s.heap HGW14 locs → lv_has ls 5 [(4, .int r9), (3, .int r1), (0, .ref a4)] → GW14 HGW14 locs 0 0 (F0 m 66 ls []) := by
      intro s4_20 HGW14 locs ls hv hP hD hS hl
      subst hv
      refine (eG15 _ _ _ _ _).mpr ?_
      refine lv_aload_n hx hb dX4_lookAt_66 rfl (lv_at hl 2 rfl) ?_
      refine va_get (D := (dC, dI)) (ci := 3) (v := .ref (h4 4)) (C := RX4) (T := TX4) (N := 8) hx hb hts inX4_ hown hK hP 0 rfl rfl 4 (by decide) (hts (.fieldLink RX4 18 "GateWheel$Wheel" "slots" "[I") (List.mem_of_getElem? (i := 5) rfl)) (fun _ h9 => h9) rfl dX4_lookAt_67 ?_
      refine lv_iload hx hb dX4_lookAt_70 (lv_at hl 0 rfl) ?_
      refine lv_iload_n hx hb dX4_lookAt_72 rfl (lv_at hl 1 rfl) ?_
      refine va_iast hx hb hK hP hD hS 3 0 rfl rfl hi13 dX4_lookAt_73 (fun H21 locs hP hD hS => ?_)
      obtain ⟨s4_22, es4_22, h⟩ := zL_spec h
      have hP : va_P (dC, dI) vwCl ((cX4 a4 h4 y s4_22) ++ (cX0 a0 h0 y S0)) H21 := by rw [es4_22]; exact hP
      have hD : va_D A ((cX4 a4 h4 y s4_22) ++ (cX0 a0 h0 y S0)) := by rw [es4_22]; exact hD
      have ho0 : s4_22 = o_4 := congrArg (fun z : SS => z) (Option.some.inj h)
      exact W.vret hx hb hr (fun t ht hW => ⟨⟨(), rfl, trivial, by rw [ht]; rw [← ho0]; exact hP, va_K.moved hW.alike hK, by rw [← ho0]; exact hD⟩, hS.F ht⟩) hS.2.2 dX4_lookAt_74
    refine (eG15 _ _ _ _ _).mpr ?_
    have h := hr18
    refine lv_icmp_ne (tgt := 66) hx hb dX4_lookAt_53 (by decide) (fun c23 => ?_) (fun c23 => ?_)
    · have h := zN c23 h
      exact (eG15 _ _ _ _ _).mp (jn16 s4_8 _ _ _ (Option.some.inj h) hP hD hS (lv_sub hl [0, 1, 2] rfl))
    · have h := zY c23 h
      refine lv_aload_n hx hb dX4_lookAt_56 rfl (lv_at hl 2 rfl) ?_
      refine lv_dup hx hb dX4_lookAt_57 rfl ?_
      refine va_get (D := (dC, dI)) (ci := 3) (v := .int (gI s4_8 1)) (C := RX4) (T := TX4) (N := 8) hx hb hts inX4_ hown hK hP 0 rfl rfl 1 (by decide) (hts (.fieldLink RX4 31 "GateWheel$Wheel" "toCome" "I") (List.mem_of_getElem? (i := 6) rfl)) (fun _ h9 => h9) rfl dX4_lookAt_58 ?_
      refine lv_iconst (v := 1) hx hb dX4_lookAt_61 (by decide) ?_
      refine lv_iadd hx hb dX4_lookAt_62 ?_
      refine va_put (D := (dC, dI)) (ci := 3) (v := .int ((gI s4_8 1) + (1 : Int32))) (ty := .int) (C := RX4) (T := TX4) (N := 8) hx hb hts inX4_ tyX4 tyX4_ok nmX4 hown hK hP hD hS 0 rfl rfl 1 (by decide) (hts (.fieldLink RX4 31 "GateWheel$Wheel" "toCome" "I") (List.mem_of_getElem? (i := 6) rfl)) (fun _ h9 => h9) rfl (by decide +kernel) rfl rfl (Nat.le_of_ble_eq_true rfl) dX4_lookAt_63 (fun H24 locs hP hD hS => ?_)
      obtain ⟨s4_25, es4_25, h⟩ := zL_spec h
      have hP : va_P (dC, dI) vwCl ((cX4 a4 h4 y s4_25) ++ (cX0 a0 h0 y S0)) H24 := by rw [es4_25]; exact hP
      have hD : va_D A ((cX4 a4 h4 y s4_25) ++ (cX0 a0 h0 y S0)) := by rw [es4_25]; exact hD
      exact (eG15 _ _ _ _ _).mp (jn16 s4_25 _ _ _ (Option.some.inj h) hP hD hS (lv_sub hl [0, 1, 2] rfl))
  · have h := zY c6 h
    have ho0 : S4 = o_4 := congrArg (fun z : SS => z) (Option.some.inj h)
    exact W.vret hx hb hr (fun t ht hW => ⟨⟨(), rfl, trivial, by rw [ht]; rw [← ho0]; exact hP, va_K.moved hW.alike hK, by rw [← ho0]; exact hD⟩, hS.F ht⟩) hS.2.2 dX4_lookAt_20

set_option maxHeartbeats 4000000 in
set_option maxRecDepth 100000 in
theorem m_X4_follow (l : Launch) (dC : Nat → ClassId) (dI : Nat → Nat → Nat) (y : Nat → ClassId) (a4 : Nat) (h4 : Nat → Nat) (S4 : SS) (a0 : Nat) (h0 : Nat → Nat) (S0 : SS) (sz : Nat) (or_ : Int32) (o_4 : SS) (h : f_X4_follow S4 S0 = some (or_, o_4)) : Met l yX4_follow wsX4_follow ({ frames := 4, cells := 0, slots := 0, locals := 99 }) (va_Pc [.ref a4, .ref a0] (fun U => U.heap.size = sz ∧ va_P (dC, dI) vwCl ((cX4 a4 h4 y S4) ++ (cX0 a0 h0 y S0)) U.heap ∧ va_K (dC, dI) vwCl [(y 0, .int), (y 1, .long), (y 2, .byte), (y 3, .boolean)] U ∧ va_D (fun _ => True) ((cX4 a4 h4 y S4) ++ (cX0 a0 h0 y S0)))) (va_Qi (fun (r : Int32) (_ : Unit) => r = or_) (fun (_ : Unit) (t : State) => va_P (dC, dI) vwCl ((cX4 a4 h4 y o_4) ++ (cX0 a0 h0 y S0)) t.heap ∧ va_K (dC, dI) vwCl [(y 0, .int), (y 1, .long), (y 2, .byte), (y 3, .boolean)] t ∧ va_D (va_A ((cX4 a4 h4 y S4) ++ (cX0 a0 h0 y S0)) sz) ((cX4 a4 h4 y o_4) ++ (cX0 a0 h0 y S0))) (va_A ((cX4 a4 h4 y S4) ++ (cX0 a0 h0 y S0)) sz)) 0 0 (va_A ((cX4 a4 h4 y S4) ++ (cX0 a0 h0 y S0)) sz) := by
  refine Met.ofW (cc := cX4_follow) (maxL := 4) (ret := (some .int)) (by decide +kernel) rfl ?_
  intro p e s m args below meth c s₁ B hml hv
  obtain ⟨rfl, hsz, hP, hK, hD0⟩ := hv
  have hx := B.exec
  have hb := B.bytes
  have hr := B.returns
  have hts := atoms_spec (ws := wsX4_follow) B.pre
  have hown : s.vm.findClass RX4 = some m.cls := findClass_of_methodNamed B.named
  have hlocks := B.notSynchronized
  have inX0_ : ∀ w ∈ wsX00, w ∈ wsX4_follow := fun _ h => List.mem_cons_of_mem _ (List.mem_append_right _ h)
  have inX4_ : ∀ w ∈ wsX40, w ∈ wsX4_follow := fun _ h => List.mem_cons_of_mem _ (List.mem_append_left _ (List.mem_append_right _ h))
  subst hsz
  have hD := hD0.self (sz := s.heap.size)
  generalize hAe : va_A ((cX4 a4 h4 y S4) ++ (cX0 a0 h0 y S0)) s.heap.size = A at hD ⊢
  have hA : ∀ q : Nat, s.heap.size ≤ q → A q := fun q h => by rw [← hAe]; exact Or.inr h
  have hS : va_S A s.heap s.heap [] := va_S.rf
  have hP : va_P (dC, dI) vwCl ((cX4 a4 h4 y S4) ++ (cX0 a0 h0 y S0)) s.heap := hP
  have hl := lv_entry ([.ref a4, .ref a0]) (n := 4) (Nat.le_of_ble_eq_true rfl)
  rw [lg_entry_eq]
  generalize (lg_sl ([.ref a4, .ref a0]) ++ List.replicate (4 - (lg_sl ([.ref a4, .ref a0])).length) Slot.unset).toArray = ls at hl ⊢
  have hl : lv_has ls 4 [(0, .ref a4), (1, .ref a0)] := hl
  refine lv_aload_n hx hb dX4_follow_0 rfl (lv_at hl 0 rfl) ?_
  refine va_get (D := (dC, dI)) (ci := 3) (v := .long (gL S4 7)) (C := RX4) (T := TX4) (N := 8) hx hb hts inX4_ hown hK hP 0 rfl rfl 7 (by decide) (hts (.fieldLink RX4 34 "GateWheel$Wheel" "changed" "J") (List.mem_of_getElem? (i := 1) rfl)) (fun _ h9 => h9) rfl dX4_follow_1 ?_
  refine lv_lconst (v := 0) hx hb dX4_follow_4 (by decide) ?_
  refine W.lcmp hx hb dX4_follow_5 ?_
  refine lv_if_ne (tgt := 11) hx hb dX4_follow_6 (by decide) (fun c1 => ?_) (fun c1 => ?_)
  · have h := zN c1 h
    refine lv_aload_n hx hb dX4_follow_11 rfl (lv_at hl 0 rfl) ?_
    refine lv_aload_n hx hb dX4_follow_12 rfl (lv_at hl 1 rfl) ?_
    obtain ⟨⟨r2, s4_3⟩, hc4, h⟩ := zB_spec h
    have hFc := zFree hD hS hA
    refine va_calli (va_runV (As := [.ref a0]) (rest := []) ⟨hx, hb, hml, hown, hts⟩ (m_X4_changeBuses l dC dI y a4 h4 S4 a0 h0 S0 s.heap.size r2 s4_3 hc4) (cwV 1 hts gX4_follow_X4_changeBuses rfl rfl rfl (by decide +kernel) ⟨Nat.le_of_ble_eq_true rfl, Nat.le_of_ble_eq_true rfl⟩) ⟨fun a U g mk q => by obtain ⟨q0, q1, qP, qK, qD⟩ := q; exact ⟨q0, q1, qP, va_K.moved (u := U) (U := U.calling g mk a) (Vm.Alike.refl U.vm) qK, qD⟩, va_recv hK hP (ci := 3) (q0 := 0) rfl rfl, fun U hU hW => ⟨rfl, by rw [hU], by rw [hU]; exact hP, va_K.moved hW.alike hK, hD.weaken (fun _ _ _ _ => trivial)⟩⟩ rfl rfl hl.1 rfl (lv_room (Nat.le_of_ble_eq_true rfl)) dX4_follow_13 ⟨Nat.le_of_ble_eq_true rfl, Nat.le_of_ble_eq_true rfl⟩) hS (fun q _ h => hFc q h) hFc (fun rr6 u t H5 locs ht hvm hw hB hz1 hk1 hS => ?_)
    obtain ⟨hP1, hK1, hD1⟩ := hB
    rw [ht] at hP1
    refine zTopi hw.symm ?_
    have hP := hP1
    have hD := hD1.weaken (fun _ q _ h => hFc q.1 h)
    have hP : va_P (dC, dI) vwCl ((cX4 a4 h4 y s4_3) ++ (cX0 a0 h0 y S0)) H5 := hP
    have hD : va_D A ((cX4 a4 h4 y s4_3) ++ (cX0 a0 h0 y S0)) := hD
    refine lv_istore_n (lv' := [(2, .int r2), (0, .ref a4), (1, .ref a0)]) hx hb dX4_follow_16 rfl hl (by decide) rfl (fun ls hl => ?_)
    refine lv_iconst (v := 0) hx hb dX4_follow_17 (by decide) ?_
    refine lv_istore_n (lv' := [(3, .int 0), (2, .int r2), (0, .ref a4), (1, .ref a0)]) hx hb dX4_follow_18 rfl hl (by decide) rfl (fun ls hl => ?_)
    refine W_abs (fun GW7 eG8 => ?_)
    obtain ⟨ov11, hi12, h⟩ := zB_spec h
    have je9 : ∀ (s4_16 : SS) (HGW7e : Heap) (locs : List Loc) (ls : Array Slot), s4_16 = ov11 → va_P (dC, dI) vwCl ((cX4 a4 h4 y s4_16) ++ (cX0 a0 h0 y S0)) HGW7e → va_D A ((cX4 a4 h4 y s4_16) ++ (cX0 a0 h0 y S0)) → va_S A s.heap HGW7e locs → lv_has ls 4 [(2, .int r2), (0, .ref a4)] → GW7 HGW7e locs 0 0 (F0 m 61 ls []) := by
      intro s4_16 HGW7e locs ls hv hP hD hS hl
      subst hv
      refine (eG8 _ _ _ _ _).mpr ?_
      refine lv_aload_n hx hb dX4_follow_61 rfl (lv_at hl 1 rfl) ?_
      refine lv_lconst (v := 0) hx hb dX4_follow_62 (by decide) ?_
      refine va_put (D := (dC, dI)) (ci := 3) (v := .long 0) (ty := .long) (C := RX4) (T := TX4) (N := 8) hx hb hts inX4_ tyX4 tyX4_ok nmX4 hown hK hP hD hS 0 rfl rfl 7 (by decide) (hts (.fieldLink RX4 34 "GateWheel$Wheel" "changed" "J") (List.mem_of_getElem? (i := 1) rfl)) (fun _ h9 => h9) rfl (by decide +kernel) rfl rfl (Nat.le_of_ble_eq_true rfl) dX4_follow_63 (fun H17 locs hP hD hS => ?_)
      obtain ⟨s4_18, es4_18, h⟩ := zL_spec h
      have hP : va_P (dC, dI) vwCl ((cX4 a4 h4 y s4_18) ++ (cX0 a0 h0 y S0)) H17 := by rw [es4_18]; exact hP
      have hD : va_D A ((cX4 a4 h4 y s4_18) ++ (cX0 a0 h0 y S0)) := by rw [es4_18]; exact hD
      refine lv_iload_n hx hb dX4_follow_66 rfl (lv_at hl 0 rfl) ?_
      have ho0 : r2 = or_ := congrArg (fun z : Int32 × SS => z.1) (Option.some.inj h)
      have ho1 : s4_18 = o_4 := congrArg (fun z : Int32 × SS => z.2) (Option.some.inj h)
      exact W.iret (v := r2) hx hb hr (fun t ht hW => ⟨⟨r2, (), rfl, ho0, by rw [ht]; rw [← ho1]; exact hP, va_K.moved hW.alike hK, by rw [← ho1]; exact hD⟩, hS.F ht⟩) hS.2.2 dX4_follow_67
    have lp10 : ∀ (n : Nat) (v19 : Int32) (s4_20 : SS) (HGW7 : Heap) (locs : List Loc) (ls : Array Slot), zI (b_X4_follow_19 S0) n (v19, s4_20) = some ov11 → va_P (dC, dI) vwCl ((cX4 a4 h4 y s4_20) ++ (cX0 a0 h0 y S0)) HGW7 → va_D A ((cX4 a4 h4 y s4_20) ++ (cX0 a0 h0 y S0)) → va_S A s.heap HGW7 locs → lv_has ls 4 [(2, .int r2), (0, .ref a4), (1, .ref a0), (3, .int v19)] → GW7 HGW7 locs 0 0 (F0 m 19 ls []) := by
      intro n
      induction n with
      | zero =>
        intro v19 s4_20 HGW7 locs ls hi12 hP hD hS hl
        exact (zI_0 hi12).elim
      | succ n ihlp10 =>
        intro v19 s4_20 HGW7 locs ls hi12 hP hD hS hl
        refine (eG8 _ _ _ _ _).mpr ?_
        obtain ⟨xx15, h, hx14⟩ := zI_spec hi12
        refine lv_iload_n hx hb dX4_follow_19 rfl (lv_at hl 3 rfl) ?_
        refine lv_aload_n hx hb dX4_follow_20 rfl (lv_at hl 2 rfl) ?_
        refine va_get (D := (dC, dI)) (ci := 0) (v := .int (gI S0 0)) (C := RX0) (T := TX0) (N := 13) hx hb hts inX0_ hown hK hP 6 rfl rfl 0 (by decide) (hts (.fieldLink RX4 38 "GateWheel$Circuit" "count" "I") (List.mem_of_getElem? (i := 2) rfl)) (fun _ h9 => h9) rfl dX4_follow_21 ?_
        refine lv_icmp_ge (tgt := 61) hx hb dX4_follow_24 (by decide) (fun c21 => ?_) (fun c21 => ?_)
        · have h := zY c21 h
          exact (eG8 _ _ _ _ _).mp (je9 s4_20 _ _ _ (zI_r h hx14) hP hD hS (lv_sub hl [0, 1] rfl))
        · have h := zN c21 h
          refine lv_aload_n hx hb dX4_follow_27 rfl (lv_at hl 2 rfl) ?_
          refine va_get (D := (dC, dI)) (ci := 0) (v := .ref (h0 4)) (C := RX0) (T := TX0) (N := 13) hx hb hts inX0_ hown hK hP 6 rfl rfl 4 (by decide) (hts (.fieldLink RX4 65 "GateWheel$Circuit" "kinds" "[I") (List.mem_of_getElem? (i := 3) rfl)) (fun _ h9 => h9) rfl dX4_follow_28 ?_
          refine lv_iload_n hx hb dX4_follow_31 rfl (lv_at hl 3 rfl) ?_
          obtain ⟨hi22, h⟩ := zG_spec h
          refine va_iald hx hb hK hP 9 0 rfl rfl hi22 dX4_follow_32 ?_
          refine lv_iconst (v := 2) hx hb dX4_follow_33 (by decide) ?_
          refine lv_icmp_ne (tgt := 55) hx hb dX4_follow_34 (by decide) (fun c23 => ?_) (fun c23 => ?_)
          · have h := zN c23 h
            obtain ⟨v24, ev24, h⟩ := zL_spec h
            refine lv_iinc (v := v24) (lv' := [(3, .int v24), (2, .int r2), (0, .ref a4), (1, .ref a0)]) hx hb dX4_follow_55 hl (k := 3) rfl (by rw [ev24]; rfl) (by decide) rfl (fun ls hl => ?_)
            refine lv_goto (tgt := 19) hx hb dX4_follow_58 (by decide) ?_
            have h := zI_l h hx14
            exact (eG8 _ _ _ _ _).mp (ihlp10 v24 s4_20 _ _ _ h hP hD hS (lv_sub hl [1, 2, 3, 0] rfl))
          · have h := zY c23 h
            refine lv_aload_n hx hb dX4_follow_37 rfl (lv_at hl 2 rfl) ?_
            refine lv_iload_n hx hb dX4_follow_38 rfl (lv_at hl 3 rfl) ?_
            refine lv_aload_n hx hb dX4_follow_39 rfl (lv_at hl 1 rfl) ?_
            refine va_get (D := (dC, dI)) (ci := 3) (v := .long (gL s4_20 7)) (C := RX4) (T := TX4) (N := 8) hx hb hts inX4_ hown hK hP 0 rfl rfl 7 (by decide) (hts (.fieldLink RX4 34 "GateWheel$Wheel" "changed" "J") (List.mem_of_getElem? (i := 1) rfl)) (fun _ h9 => h9) rfl dX4_follow_40 ?_
            obtain ⟨r25, hc26, h⟩ := zB_spec h
            have hPc := hP.sub (ws' := (cX0 a0 h0 y S0)) [6, 7, 8, 9, 10, 11, 12, 13, 14, 15, 16, 17] rfl
            have hDc := hD.sub (ws' := (cX0 a0 h0 y S0)) [6, 7, 8, 9, 10, 11, 12, 13, 14, 15, 16, 17] (by decide) rfl
            have hFc := va_free (wc := (cX0 a0 h0 y S0)) hD hS hA [6, 7, 8, 9, 10, 11, 12, 13, 14, 15, 16, 17] rfl
            refine va_calli (va_runV (As := [.int v19, .long (gL s4_20 7)]) (rest := []) ⟨hx, hb, hml, hown, hts⟩ (m_X0_dependsOn l dC dI y a0 h0 S0 v19 (gL s4_20 7) HGW7.size r25 hc26) (cwV 2 hts gX4_follow_X0_dependsOn rfl rfl rfl (by decide +kernel) ⟨Nat.le_of_ble_eq_true rfl, Nat.le_of_ble_eq_true rfl⟩) ⟨fun a U g mk q => by obtain ⟨q0, q1, qP, qK, qD⟩ := q; exact ⟨q0, q1, qP, va_K.moved (u := U) (U := U.calling g mk a) (Vm.Alike.refl U.vm) qK, qD⟩, va_recv hK hPc (ci := 0) (q0 := 0) rfl rfl, fun U hU hW => ⟨rfl, by rw [hU], by rw [hU]; exact hPc, va_K.moved hW.alike hK, hDc.weaken (fun _ _ _ _ => trivial)⟩⟩ rfl rfl hl.1 rfl (lv_room (Nat.le_of_ble_eq_true rfl)) dX4_follow_43 ⟨Nat.le_of_ble_eq_true rfl, Nat.le_of_ble_eq_true rfl⟩) hS (fun q _ h => hFc q h) hFc (fun rr28 u t H27 locs ht hvm hw hB hz1 hk1 hS => ?_)
            obtain ⟨hP1, hK1, hD1⟩ := hB
            rw [ht] at hP1
            refine zTopi hw.symm ?_
            obtain ⟨hP, hD⟩ := va_join (wr := [(oX4 a4 h4 s4_20), (h4 2, .inl (y 0, 60, .inl (gA s4_20 2))), (h4 3, .inl (y 0, 60, .inl (gA s4_20 3))), (h4 4, .inl (y 0, 600, .inl (gA s4_20 4))), (h4 5, .inl (y 0, 1200, .inl (gA s4_20 5))), (h4 6, .inl (y 0, 60, .inl (gA s4_20 6)))]) (w1 := (cX0 a0 h0 y S0)) hP hD [6, 7, 8, 9, 10, 11, 12, 13, 14, 15, 16, 17] [0, 1, 2, 3, 4, 5] rfl rfl (by decide) (by decide) hk1 hFc hP1 hD1
            have hP : va_P (dC, dI) vwCl ((cX4 a4 h4 y s4_20) ++ (cX0 a0 h0 y S0)) H27 := hP.sub [0, 1, 2, 3, 4, 5, 6, 7, 8, 9, 10, 11, 12, 13, 14, 15, 16, 17] rfl
            have hD : va_D A ((cX4 a4 h4 y s4_20) ++ (cX0 a0 h0 y S0)) := hD.sub [0, 1, 2, 3, 4, 5, 6, 7, 8, 9, 10, 11, 12, 13, 14, 15, 16, 17] (by decide) rfl
            refine lv_if_eq (tgt := 55) hx hb dX4_follow_46 (by decide) (fun c29 => ?_) (fun c29 => ?_)
            · have h := zY c29 h
              obtain ⟨v30, ev30, h⟩ := zL_spec h
              refine lv_iinc (v := v30) (lv' := [(3, .int v30), (2, .int r2), (0, .ref a4), (1, .ref a0)]) hx hb dX4_follow_55 hl (k := 3) rfl (by rw [ev30]; rfl) (by decide) rfl (fun ls hl => ?_)
              refine lv_goto (tgt := 19) hx hb dX4_follow_58 (by decide) ?_
              have h := zI_l h hx14
              exact (eG8 _ _ _ _ _).mp (ihlp10 v30 s4_20 _ _ _ h hP hD hS (lv_sub hl [1, 2, 3, 0] rfl))
            · have h := zN c29 h
              refine lv_aload_n hx hb dX4_follow_49 rfl (lv_at hl 1 rfl) ?_
              refine lv_aload_n hx hb dX4_follow_50 rfl (lv_at hl 2 rfl) ?_
              refine lv_iload_n hx hb dX4_follow_51 rfl (lv_at hl 3 rfl) ?_
              obtain ⟨s4_31, hc32, h⟩ := zB_spec h
              have hFc := zFree hD hS hA
              refine va_callv (va_runV (As := [.ref a0, .int v19]) (rest := []) ⟨hx, hb, hml, hown, hts⟩ (m_X4_lookAt l dC dI y a4 h4 s4_20 a0 h0 S0 v19 H27.size s4_31 hc32) (cwV 2 hts gX4_follow_X4_lookAt rfl rfl rfl (by decide +kernel) ⟨Nat.le_of_ble_eq_true rfl, Nat.le_of_ble_eq_true rfl⟩) ⟨fun a U g mk q => by obtain ⟨q0, q1, qP, qK, qD⟩ := q; exact ⟨q0, q1, qP, va_K.moved (u := U) (U := U.calling g mk a) (Vm.Alike.refl U.vm) qK, qD⟩, va_recv hK hP (ci := 3) (q0 := 0) rfl rfl, fun U hU hW => ⟨rfl, by rw [hU], by rw [hU]; exact hP, va_K.moved hW.alike hK, hD.weaken (fun _ _ _ _ => trivial)⟩⟩ rfl rfl hl.1 rfl (lv_room (Nat.le_of_ble_eq_true rfl)) dX4_follow_52 ⟨Nat.le_of_ble_eq_true rfl, Nat.le_of_ble_eq_true rfl⟩) hS (fun q _ h => hFc q h) hFc (fun u t H33 locs ht hvm hw hB hz1 hk1 hS => ?_)
              obtain ⟨hP1, hK1, hD1⟩ := hB
              rw [ht] at hP1
              have hP := hP1
              have hD := hD1.weaken (fun _ q _ h => hFc q.1 h)
              have hP : va_P (dC, dI) vwCl ((cX4 a4 h4 y s4_31) ++ (cX0 a0 h0 y S0)) H33 := hP
              have hD : va_D A ((cX4 a4 h4 y s4_31) ++ (cX0 a0 h0 y S0)) := hD
              obtain ⟨v35, ev35, h⟩ := zL_spec h
              refine lv_iinc (v := v35) (lv' := [(3, .int v35), (2, .int r2), (0, .ref a4), (1, .ref a0)]) hx hb dX4_follow_55 hl (k := 3) rfl (by rw [ev35]; rfl) (by decide) rfl (fun ls hl => ?_)
              refine lv_goto (tgt := 19) hx hb dX4_follow_58 (by decide) ?_
              have h := zI_l h hx14
              exact (eG8 _ _ _ _ _).mp (ihlp10 v35 s4_31 _ _ _ h hP hD hS (lv_sub hl [1, 2, 3, 0] rfl))
    exact lp10 zF (0 : Int32) s4_3 _ _ _ hi12 hP hD hS (lv_sub hl [1, 2, 3, 0] rfl)
  · have h := zY c1 h
    refine lv_iconst (v := 0) hx hb dX4_follow_9 (by decide) ?_
    have ho0 : (0 : Int32) = or_ := congrArg (fun z : Int32 × SS => z.1) (Option.some.inj h)
    have ho1 : S4 = o_4 := congrArg (fun z : Int32 × SS => z.2) (Option.some.inj h)
    exact W.iret (v := 0) hx hb hr (fun t ht hW => ⟨⟨0, (), rfl, ho0, by rw [ht]; rw [← ho1]; exact hP, va_K.moved hW.alike hK, by rw [← ho1]; exact hD⟩, hS.F ht⟩) hS.2.2 dX4_follow_10

set_option maxHeartbeats 4000000 in
set_option maxRecDepth 100000 in
theorem m_X4_arrive (l : Launch) (dC : Nat → ClassId) (dI : Nat → Nat → Nat) (y : Nat → ClassId) (a4 : Nat) (h4 : Nat → Nat) (S4 : SS) (a0 : Nat) (h0 : Nat → Nat) (S0 : SS) (sz : Nat) (or_ : Int32) (o_4 : SS) (h : f_X4_arrive S4 S0 = some (or_, o_4)) : Met l yX4_arrive wsX4_arrive ({ frames := 2, cells := 0, slots := 0, locals := 43 }) (va_Pc [.ref a4, .ref a0] (fun U => U.heap.size = sz ∧ va_P (dC, dI) vwCl ((cX4 a4 h4 y S4) ++ (cX0 a0 h0 y S0)) U.heap ∧ va_K (dC, dI) vwCl [(y 0, .int), (y 1, .long), (y 2, .byte), (y 3, .boolean)] U ∧ va_D (fun _ => True) ((cX4 a4 h4 y S4) ++ (cX0 a0 h0 y S0)))) (va_Qi (fun (r : Int32) (_ : Unit) => r = or_) (fun (_ : Unit) (t : State) => va_P (dC, dI) vwCl ((cX4 a4 h4 y o_4) ++ (cX0 a0 h0 y S0)) t.heap ∧ va_K (dC, dI) vwCl [(y 0, .int), (y 1, .long), (y 2, .byte), (y 3, .boolean)] t ∧ va_D (va_A ((cX4 a4 h4 y S4) ++ (cX0 a0 h0 y S0)) sz) ((cX4 a4 h4 y o_4) ++ (cX0 a0 h0 y S0))) (va_A ((cX4 a4 h4 y S4) ++ (cX0 a0 h0 y S0)) sz)) 0 0 (va_A ((cX4 a4 h4 y S4) ++ (cX0 a0 h0 y S0)) sz) := by
  refine Met.ofW (cc := cX4_arrive) (maxL := 5) (ret := (some .int)) (by decide +kernel) rfl ?_
  intro p e s m args below meth c s₁ B hml hv
  obtain ⟨rfl, hsz, hP, hK, hD0⟩ := hv
  have hx := B.exec
  have hb := B.bytes
  have hr := B.returns
  have hts := atoms_spec (ws := wsX4_arrive) B.pre
  have hown : s.vm.findClass RX4 = some m.cls := findClass_of_methodNamed B.named
  have hlocks := B.notSynchronized
  have inX0_ : ∀ w ∈ wsX00, w ∈ wsX4_arrive := fun _ h => List.mem_cons_of_mem _ (List.mem_append_left _ (List.mem_append_right _ h))
  have inX4_ : ∀ w ∈ wsX40, w ∈ wsX4_arrive := fun _ h => List.mem_cons_of_mem _ (List.mem_append_right _ h)
  subst hsz
  have hD := hD0.self (sz := s.heap.size)
  generalize hAe : va_A ((cX4 a4 h4 y S4) ++ (cX0 a0 h0 y S0)) s.heap.size = A at hD ⊢
  have hA : ∀ q : Nat, s.heap.size ≤ q → A q := fun q h => by rw [← hAe]; exact Or.inr h
  have hS : va_S A s.heap s.heap [] := va_S.rf
  have hP : va_P (dC, dI) vwCl ((cX4 a4 h4 y S4) ++ (cX0 a0 h0 y S0)) s.heap := hP
  have hl := lv_entry ([.ref a4, .ref a0]) (n := 5) (Nat.le_of_ble_eq_true rfl)
  rw [lg_entry_eq]
  generalize (lg_sl ([.ref a4, .ref a0]) ++ List.replicate (5 - (lg_sl ([.ref a4, .ref a0])).length) Slot.unset).toArray = ls at hl ⊢
  have hl : lv_has ls 5 [(0, .ref a4), (1, .ref a0)] := hl
  refine lv_iconst (v := 0) hx hb dX4_arrive_0 (by decide) ?_
  refine lv_istore_n (lv' := [(2, .int 0), (0, .ref a4), (1, .ref a0)]) hx hb dX4_arrive_1 rfl hl (by decide) rfl (fun ls hl => ?_)
  refine lv_iconst (v := 0) hx hb dX4_arrive_2 (by decide) ?_
  refine lv_istore_n (lv' := [(3, .int 0), (2, .int 0), (0, .ref a4), (1, .ref a0)]) hx hb dX4_arrive_3 rfl hl (by decide) rfl (fun ls hl => ?_)
  refine W_abs (fun GW1 eG2 => ?_)
  have hi6 := h
  have lp4 : ∀ (n : Nat) (v10 : Int32) (v11 : Int32) (s4_12 : SS) (HGW1 : Heap) (locs : List Loc) (ls : Array Slot), zI (b_X4_arrive_4 S0) n (v10, v11, s4_12) = some (or_, o_4) → va_P (dC, dI) vwCl ((cX4 a4 h4 y s4_12) ++ (cX0 a0 h0 y S0)) HGW1 → va_D A ((cX4 a4 h4 y s4_12) ++ (cX0 a0 h0 y S0)) → va_S A s.heap HGW1 locs → lv_has ls 5 [(0, .ref a4), (1, .ref a0), (2, .int v10), (3, .int v11)] → GW1 HGW1 locs 0 0 (F0 m 4 ls []) := by
    intro n
    induction n with
    | zero =>
      intro v10 v11 s4_12 HGW1 locs ls hi6 hP hD hS hl
      exact (zI_0 hi6).elim
    | succ n ihlp4 =>
      intro v10 v11 s4_12 HGW1 locs ls hi6 hP hD hS hl
      refine (eG2 _ _ _ _ _).mpr ?_
      obtain ⟨xx9, h, hx8⟩ := zI_spec hi6
      refine lv_iload_n hx hb dX4_arrive_4 rfl (lv_at hl 3 rfl) ?_
      refine lv_aload_n hx hb dX4_arrive_5 rfl (lv_at hl 1 rfl) ?_
      refine va_get (D := (dC, dI)) (ci := 0) (v := .int (gI S0 0)) (C := RX0) (T := TX0) (N := 13) hx hb hts inX0_ hown hK hP 6 rfl rfl 0 (by decide) (hts (.fieldLink RX4 38 "GateWheel$Circuit" "count" "I") (List.mem_of_getElem? (i := 1) rfl)) (fun _ h9 => h9) rfl dX4_arrive_6 ?_
      refine lv_icmp_ge (tgt := 72) hx hb dX4_arrive_9 (by decide) (fun c13 => ?_) (fun c13 => ?_)
      · have h := zY c13 h
        refine lv_iload_n hx hb dX4_arrive_72 rfl (lv_at hl 2 rfl) ?_
        have h := congrArg some (zI_r h hx8)
        have ho0 : v10 = or_ := congrArg (fun z : Int32 × SS => z.1) (Option.some.inj h)
        have ho1 : s4_12 = o_4 := congrArg (fun z : Int32 × SS => z.2) (Option.some.inj h)
        exact W.iret (v := v10) hx hb hr (fun t ht hW => ⟨⟨v10, (), rfl, ho0, by rw [ht]; rw [← ho1]; exact hP, va_K.moved hW.alike hK, by rw [← ho1]; exact hD⟩, hS.F ht⟩) hS.2.2 dX4_arrive_73
      · have h := zN c13 h
        refine lv_iload_n hx hb dX4_arrive_12 rfl (lv_at hl 3 rfl) ?_
        refine lv_aload_n hx hb dX4_arrive_13 rfl (lv_at hl 0 rfl) ?_
        refine va_get (D := (dC, dI)) (ci := 3) (v := .int (gI s4_12 0)) (C := RX4) (T := TX4) (N := 8) hx hb hts inX4_ hown hK hP 0 rfl rfl 0 (by decide) (hts (.fieldLink RX4 27 "GateWheel$Wheel" "time" "I") (List.mem_of_getElem? (i := 2) rfl)) (fun _ h9 => h9) rfl dX4_arrive_14 ?_
        obtain ⟨r14, hc15, h⟩ := zB_spec h
        have hPc := hP.sub (ws' := []) [] rfl
        have hDc := hD.sub (ws' := []) [] (by decide) rfl
        have hFc := va_free (wc := []) hD hS hA [] rfl
        refine va_calli (va_runS (As := [.int v11, .int (gI s4_12 0)]) (rest := []) ⟨hx, hb, hml, hown, hts⟩ (m_X4_slotAt l dC dI y v11 (gI s4_12 0) HGW1.size r14 hc15) (va_cwS 2 hts gX4_arrive_X4_slotAt rfl rfl rfl (by decide +kernel) ⟨Nat.le_of_ble_eq_true rfl, Nat.le_of_ble_eq_true rfl⟩) ⟨fun a U g mk q => by obtain ⟨q0, q1, qP, qK, qD⟩ := q; exact ⟨q0, q1, qP, va_K.moved (u := U) (U := U.calling g mk a) (Vm.Alike.refl U.vm) qK, qD⟩, fun U hU hW => ⟨rfl, by rw [hU], by rw [hU]; exact hPc, va_K.moved hW.alike hK, hDc.weaken (fun _ _ _ _ => trivial)⟩⟩ rfl rfl hl.1 rfl (lv_room (Nat.le_of_ble_eq_true rfl)) dX4_arrive_17 ⟨Nat.le_of_ble_eq_true rfl, Nat.le_of_ble_eq_true rfl⟩) hS (fun q _ h => hFc q h) hFc (fun rr17 u t H16 locs ht hvm hw hB hz1 hk1 hS => ?_)
        obtain ⟨hP1, hK1, hD1⟩ := hB
        rw [ht] at hP1
        refine zTopi hw.symm ?_
        obtain ⟨hP, hD⟩ := va_join (wr := [(oX4 a4 h4 s4_12), (h4 2, .inl (y 0, 60, .inl (gA s4_12 2))), (h4 3, .inl (y 0, 60, .inl (gA s4_12 3))), (h4 4, .inl (y 0, 600, .inl (gA s4_12 4))), (h4 5, .inl (y 0, 1200, .inl (gA s4_12 5))), (h4 6, .inl (y 0, 60, .inl (gA s4_12 6))), (oX0 a0 h0 S0), (h0 2, .inl (y 1, 60, .inr (.inl (gB S0 2)))), (h0 3, .inl (y 0, 60, .inl (gA S0 3))), (h0 4, .inl (y 0, 60, .inl (gA S0 4))), (h0 5, .inl (y 0, 60, .inl (gA S0 5))), (h0 6, .inl (y 0, 60, .inl (gA S0 6))), (h0 7, .inl (y 0, 720, .inl (gA S0 7))), (h0 8, .inl (y 0, 60, .inl (gA S0 8))), (h0 9, .inl (y 0, 60, .inl (gA S0 9))), (h0 10, .inl (y 1, 60, .inr (.inl (gB S0 10)))), (h0 11, .inl (y 0, 60, .inl (gA S0 11))), (h0 12, .inl (y 0, 60, .inl (gA S0 12)))]) (w1 := []) hP hD [] [0, 1, 2, 3, 4, 5, 6, 7, 8, 9, 10, 11, 12, 13, 14, 15, 16, 17] rfl rfl (by decide) (by decide) hk1 hFc hP1 hD1
        have hP : va_P (dC, dI) vwCl ((cX4 a4 h4 y s4_12) ++ (cX0 a0 h0 y S0)) H16 := hP.sub [0, 1, 2, 3, 4, 5, 6, 7, 8, 9, 10, 11, 12, 13, 14, 15, 16, 17] rfl
        have hD : va_D A ((cX4 a4 h4 y s4_12) ++ (cX0 a0 h0 y S0)) := hD.sub [0, 1, 2, 3, 4, 5, 6, 7, 8, 9, 10, 11, 12, 13, 14, 15, 16, 17] (by decide) rfl
        refine lv_istore (lv' := [(4, .int r14), (0, .ref a4), (1, .ref a0), (2, .int v10), (3, .int v11)]) hx hb dX4_arrive_20 hl (by decide) rfl (fun ls hl => ?_)
        refine lv_aload_n hx hb dX4_arrive_22 rfl (lv_at hl 1 rfl) ?_
        refine va_get (D := (dC, dI)) (ci := 3) (v := .ref (h4 4)) (C := RX4) (T := TX4) (N := 8) hx hb hts inX4_ hown hK hP 0 rfl rfl 4 (by decide) (hts (.fieldLink RX4 18 "GateWheel$Wheel" "slots" "[I") (List.mem_of_getElem? (i := 3) rfl)) (fun _ h9 => h9) rfl dX4_arrive_23 ?_
        refine lv_iload hx hb dX4_arrive_26 (lv_at hl 0 rfl) ?_
        obtain ⟨hi18, h⟩ := zG_spec h
        refine va_iald hx hb hK hP 3 0 rfl rfl hi18 dX4_arrive_28 ?_
        refine lv_iconst (v := (-1)) hx hb dX4_arrive_29 (by decide) ?_
        refine lv_icmp_eq (tgt := 66) hx hb dX4_arrive_30 (by decide) (fun c19 => ?_) (fun c19 => ?_)
        · have h := zY c19 h
          obtain ⟨v20, ev20, h⟩ := zL_spec h
          refine lv_iinc (v := v20) (lv' := [(3, .int v20), (4, .int r14), (0, .ref a4), (1, .ref a0), (2, .int v10)]) hx hb dX4_arrive_66 hl (k := 4) rfl (by rw [ev20]; rfl) (by decide) rfl (fun ls hl => ?_)
          refine lv_goto (tgt := 4) hx hb dX4_arrive_69 (by decide) ?_
          have h := zI_l h hx8
          exact (eG2 _ _ _ _ _).mp (ihlp4 v10 v20 s4_12 _ _ _ h hP hD hS (lv_sub hl [2, 3, 4, 0] rfl))
        · have h := zN c19 h
          refine lv_iload_n hx hb dX4_arrive_33 rfl (lv_at hl 3 rfl) ?_
          refine lv_aload_n hx hb dX4_arrive_34 rfl (lv_at hl 1 rfl) ?_
          refine lv_iload_n hx hb dX4_arrive_35 rfl (lv_at hl 4 rfl) ?_
          refine lv_aload_n hx hb dX4_arrive_36 rfl (lv_at hl 1 rfl) ?_
          refine va_get (D := (dC, dI)) (ci := 3) (v := .ref (h4 4)) (C := RX4) (T := TX4) (N := 8) hx hb hts inX4_ hown hK hP 0 rfl rfl 4 (by decide) (hts (.fieldLink RX4 18 "GateWheel$Wheel" "slots" "[I") (List.mem_of_getElem? (i := 3) rfl)) (fun _ h9 => h9) rfl dX4_arrive_37 ?_
          refine lv_iload hx hb dX4_arrive_40 (lv_at hl 0 rfl) ?_
          refine va_iald hx hb hK hP 3 0 rfl rfl hi18 dX4_arrive_42 ?_
          obtain ⟨⟨r21, s4_22⟩, hc23, h⟩ := zB_spec h
          have hPc := hP.sub (ws' := (cX4 a4 h4 y s4_12)) [0, 1, 2, 3, 4, 5] rfl
          have hDc := hD.sub (ws' := (cX4 a4 h4 y s4_12)) [0, 1, 2, 3, 4, 5] (by decide) rfl
          have hFc := va_free (wc := (cX4 a4 h4 y s4_12)) hD hS hA [0, 1, 2, 3, 4, 5] rfl
          refine va_calli (va_runV (As := [.int v11, .int (gA s4_12 4 r14.toNatClampNeg)]) (rest := [.int v10]) ⟨hx, hb, hml, hown, hts⟩ (m_X4_change l dC dI y a4 h4 s4_12 v11 (gA s4_12 4 r14.toNatClampNeg) H16.size r21 s4_22 hc23) (cwV 2 hts gX4_arrive_X4_change rfl rfl rfl (by decide +kernel) ⟨Nat.le_of_ble_eq_true rfl, Nat.le_of_ble_eq_true rfl⟩) ⟨fun a U g mk q => by obtain ⟨q0, q1, qP, qK, qD⟩ := q; exact ⟨q0, q1, qP, va_K.moved (u := U) (U := U.calling g mk a) (Vm.Alike.refl U.vm) qK, qD⟩, va_recv hK hPc (ci := 3) (q0 := 0) rfl rfl, fun U hU hW => ⟨rfl, by rw [hU], by rw [hU]; exact hPc, va_K.moved hW.alike hK, hDc.weaken (fun _ _ _ _ => trivial)⟩⟩ rfl rfl hl.1 rfl (lv_room (Nat.le_of_ble_eq_true rfl)) dX4_arrive_43 ⟨Nat.le_of_ble_eq_true rfl, Nat.le_of_ble_eq_true rfl⟩) hS (fun q _ h => hFc q h) hFc (fun rr25 u t H24 locs ht hvm hw hB hz1 hk1 hS => ?_)
          obtain ⟨hP1, hK1, hD1⟩ := hB
          rw [ht] at hP1
          refine zTopi hw.symm ?_
          obtain ⟨hP, hD⟩ := va_join (wr := [(oX0 a0 h0 S0), (h0 2, .inl (y 1, 60, .inr (.inl (gB S0 2)))), (h0 3, .inl (y 0, 60, .inl (gA S0 3))), (h0 4, .inl (y 0, 60, .inl (gA S0 4))), (h0 5, .inl (y 0, 60, .inl (gA S0 5))), (h0 6, .inl (y 0, 60, .inl (gA S0 6))), (h0 7, .inl (y 0, 720, .inl (gA S0 7))), (h0 8, .inl (y 0, 60, .inl (gA S0 8))), (h0 9, .inl (y 0, 60, .inl (gA S0 9))), (h0 10, .inl (y 1, 60, .inr (.inl (gB S0 10)))), (h0 11, .inl (y 0, 60, .inl (gA S0 11))), (h0 12, .inl (y 0, 60, .inl (gA S0 12)))]) (w1 := (cX4 a4 h4 y s4_22)) hP hD [0, 1, 2, 3, 4, 5] [6, 7, 8, 9, 10, 11, 12, 13, 14, 15, 16, 17] rfl rfl (by decide) (by decide) hk1 hFc hP1 hD1
          have hP : va_P (dC, dI) vwCl ((cX4 a4 h4 y s4_22) ++ (cX0 a0 h0 y S0)) H24 := hP.sub [12, 13, 14, 15, 16, 17, 0, 1, 2, 3, 4, 5, 6, 7, 8, 9, 10, 11] rfl
          have hD : va_D A ((cX4 a4 h4 y s4_22) ++ (cX0 a0 h0 y S0)) := hD.sub [12, 13, 14, 15, 16, 17, 0, 1, 2, 3, 4, 5, 6, 7, 8, 9, 10, 11] (by decide) rfl
          refine lv_iadd hx hb dX4_arrive_46 ?_
          obtain ⟨v26, ev26, h⟩ := zL_spec h
          refine zTopi ev26 ?_
          refine lv_istore_n (lv' := [(2, .int v26), (4, .int r14), (0, .ref a4), (1, .ref a0), (3, .int v11)]) hx hb dX4_arrive_47 rfl hl (by decide) rfl (fun ls hl => ?_)
          refine lv_aload_n hx hb dX4_arrive_48 rfl (lv_at hl 2 rfl) ?_
          refine va_get (D := (dC, dI)) (ci := 3) (v := .ref (h4 4)) (C := RX4) (T := TX4) (N := 8) hx hb hts inX4_ hown hK hP 0 rfl rfl 4 (by decide) (hts (.fieldLink RX4 18 "GateWheel$Wheel" "slots" "[I") (List.mem_of_getElem? (i := 3) rfl)) (fun _ h9 => h9) rfl dX4_arrive_49 ?_
          refine lv_iload hx hb dX4_arrive_52 (lv_at hl 1 rfl) ?_
          refine lv_iconst (v := (-1)) hx hb dX4_arrive_54 (by decide) ?_
          refine va_iast hx hb hK hP hD hS 3 0 rfl rfl hi18 dX4_arrive_55 (fun H27 locs hP hD hS => ?_)
          obtain ⟨s4_28, es4_28, h⟩ := zL_spec h
          have hP : va_P (dC, dI) vwCl ((cX4 a4 h4 y s4_28) ++ (cX0 a0 h0 y S0)) H27 := by rw [es4_28]; exact hP
          have hD : va_D A ((cX4 a4 h4 y s4_28) ++ (cX0 a0 h0 y S0)) := by rw [es4_28]; exact hD
          refine lv_aload_n hx hb dX4_arrive_56 rfl (lv_at hl 2 rfl) ?_
          refine lv_dup hx hb dX4_arrive_57 rfl ?_
          refine va_get (D := (dC, dI)) (ci := 3) (v := .int (gI s4_28 1)) (C := RX4) (T := TX4) (N := 8) hx hb hts inX4_ hown hK hP 0 rfl rfl 1 (by decide) (hts (.fieldLink RX4 31 "GateWheel$Wheel" "toCome" "I") (List.mem_of_getElem? (i := 4) rfl)) (fun _ h9 => h9) rfl dX4_arrive_58 ?_
          refine lv_iconst (v := 1) hx hb dX4_arrive_61 (by decide) ?_
          refine lv_isub hx hb dX4_arrive_62 ?_
          refine va_put (D := (dC, dI)) (ci := 3) (v := .int ((gI s4_28 1) - (1 : Int32))) (ty := .int) (C := RX4) (T := TX4) (N := 8) hx hb hts inX4_ tyX4 tyX4_ok nmX4 hown hK hP hD hS 0 rfl rfl 1 (by decide) (hts (.fieldLink RX4 31 "GateWheel$Wheel" "toCome" "I") (List.mem_of_getElem? (i := 4) rfl)) (fun _ h9 => h9) rfl (by decide +kernel) rfl rfl (Nat.le_of_ble_eq_true rfl) dX4_arrive_63 (fun H29 locs hP hD hS => ?_)
          obtain ⟨s4_30, es4_30, h⟩ := zL_spec h
          have hP : va_P (dC, dI) vwCl ((cX4 a4 h4 y s4_30) ++ (cX0 a0 h0 y S0)) H29 := by rw [es4_30]; exact hP
          have hD : va_D A ((cX4 a4 h4 y s4_30) ++ (cX0 a0 h0 y S0)) := by rw [es4_30]; exact hD
          obtain ⟨v31, ev31, h⟩ := zL_spec h
          refine lv_iinc (v := v31) (lv' := [(3, .int v31), (2, .int v26), (4, .int r14), (0, .ref a4), (1, .ref a0)]) hx hb dX4_arrive_66 hl (k := 4) rfl (by rw [ev31]; rfl) (by decide) rfl (fun ls hl => ?_)
          refine lv_goto (tgt := 4) hx hb dX4_arrive_69 (by decide) ?_
          have h := zI_l h hx8
          exact (eG2 _ _ _ _ _).mp (ihlp4 v26 v31 s4_30 _ _ _ h hP hD hS (lv_sub hl [3, 4, 1, 0] rfl))
  exact lp4 zF (0 : Int32) (0 : Int32) S4 _ _ _ hi6 hP hD hS (lv_sub hl [2, 3, 1, 0] rfl)

set_option maxHeartbeats 4000000 in
set_option maxRecDepth 100000 in
theorem m_X4_turn (l : Launch) (dC : Nat → ClassId) (dI : Nat → Nat → Nat) (y : Nat → ClassId) (a4 : Nat) (h4 : Nat → Nat) (S4 : SS) (a0 : Nat) (h0 : Nat → Nat) (S0 : SS) (p2 : Int32) (sz : Nat) (or_ : Int32) (o_4 : SS) (h : f_X4_turn S4 S0 p2 = some (or_, o_4)) : Met l yX4_turn wsX4_turn ({ frames := 5, cells := 0, slots := 0, locals := 122 }) (va_Pc [.ref a4, .ref a0, .int p2] (fun U => U.heap.size = sz ∧ va_P (dC, dI) vwCl ((cX4 a4 h4 y S4) ++ (cX0 a0 h0 y S0)) U.heap ∧ va_K (dC, dI) vwCl [(y 0, .int), (y 1, .long), (y 2, .byte), (y 3, .boolean)] U ∧ va_D (fun _ => True) ((cX4 a4 h4 y S4) ++ (cX0 a0 h0 y S0)))) (va_Qi (fun (r : Int32) (_ : Unit) => r = or_) (fun (_ : Unit) (t : State) => va_P (dC, dI) vwCl ((cX4 a4 h4 y o_4) ++ (cX0 a0 h0 y S0)) t.heap ∧ va_K (dC, dI) vwCl [(y 0, .int), (y 1, .long), (y 2, .byte), (y 3, .boolean)] t ∧ va_D (va_A ((cX4 a4 h4 y S4) ++ (cX0 a0 h0 y S0)) sz) ((cX4 a4 h4 y o_4) ++ (cX0 a0 h0 y S0))) (va_A ((cX4 a4 h4 y S4) ++ (cX0 a0 h0 y S0)) sz)) 0 0 (va_A ((cX4 a4 h4 y S4) ++ (cX0 a0 h0 y S0)) sz) := by
  refine Met.ofW (cc := cX4_turn) (maxL := 6) (ret := (some .int)) (by decide +kernel) rfl ?_
  intro p e s m args below meth c s₁ B hml hv
  obtain ⟨rfl, hsz, hP, hK, hD0⟩ := hv
  have hx := B.exec
  have hb := B.bytes
  have hr := B.returns
  have hts := atoms_spec (ws := wsX4_turn) B.pre
  have hown : s.vm.findClass RX4 = some m.cls := findClass_of_methodNamed B.named
  have hlocks := B.notSynchronized
  have inX4_ : ∀ w ∈ wsX40, w ∈ wsX4_turn := fun _ h => List.mem_cons_of_mem _ (List.mem_append_left _ (List.mem_append_right _ h))
  subst hsz
  have hD := hD0.self (sz := s.heap.size)
  generalize hAe : va_A ((cX4 a4 h4 y S4) ++ (cX0 a0 h0 y S0)) s.heap.size = A at hD ⊢
  have hA : ∀ q : Nat, s.heap.size ≤ q → A q := fun q h => by rw [← hAe]; exact Or.inr h
  have hS : va_S A s.heap s.heap [] := va_S.rf
  have hP : va_P (dC, dI) vwCl ((cX4 a4 h4 y S4) ++ (cX0 a0 h0 y S0)) s.heap := hP
  have hl := lv_entry ([.ref a4, .ref a0, .int p2]) (n := 6) (Nat.le_of_ble_eq_true rfl)
  rw [lg_entry_eq]
  generalize (lg_sl ([.ref a4, .ref a0, .int p2]) ++ List.replicate (6 - (lg_sl ([.ref a4, .ref a0, .int p2])).length) Slot.unset).toArray = ls at hl ⊢
  have hl : lv_has ls 6 [(0, .ref a4), (1, .ref a0), (2, .int p2)] := hl
  refine lv_aload_n hx hb dX4_turn_0 rfl (lv_at hl 0 rfl) ?_
  refine va_get (D := (dC, dI)) (ci := 3) (v := .int (gI S4 0)) (C := RX4) (T := TX4) (N := 8) hx hb hts inX4_ hown hK hP 0 rfl rfl 0 (by decide) (hts (.fieldLink RX4 27 "GateWheel$Wheel" "time" "I") (List.mem_of_getElem? (i := 1) rfl)) (fun _ h9 => h9) rfl dX4_turn_1 ?_
  refine lv_iload_n hx hb dX4_turn_4 rfl (lv_at hl 2 rfl) ?_
  refine lv_iadd hx hb dX4_turn_5 ?_
  obtain ⟨v1, ev1, h⟩ := zL_spec h
  refine zTopi ev1 ?_
  refine lv_istore_n (lv' := [(3, .int v1), (0, .ref a4), (1, .ref a0), (2, .int p2)]) hx hb dX4_turn_6 rfl hl (by decide) rfl (fun ls hl => ?_)
  refine lv_aload_n hx hb dX4_turn_7 rfl (lv_at hl 1 rfl) ?_
  refine lv_aload_n hx hb dX4_turn_8 rfl (lv_at hl 2 rfl) ?_
  obtain ⟨⟨r2, s4_3⟩, hc4, h⟩ := zB_spec h
  have hFc := zFree hD hS hA
  refine va_calli (va_runV (As := [.ref a0]) (rest := []) ⟨hx, hb, hml, hown, hts⟩ (m_X4_follow l dC dI y a4 h4 S4 a0 h0 S0 s.heap.size r2 s4_3 hc4) (cwV 1 hts gX4_turn_X4_follow rfl rfl rfl (by decide +kernel) ⟨Nat.le_of_ble_eq_true rfl, Nat.le_of_ble_eq_true rfl⟩) ⟨fun a U g mk q => by obtain ⟨q0, q1, qP, qK, qD⟩ := q; exact ⟨q0, q1, qP, va_K.moved (u := U) (U := U.calling g mk a) (Vm.Alike.refl U.vm) qK, qD⟩, va_recv hK hP (ci := 3) (q0 := 0) rfl rfl, fun U hU hW => ⟨rfl, by rw [hU], by rw [hU]; exact hP, va_K.moved hW.alike hK, hD.weaken (fun _ _ _ _ => trivial)⟩⟩ rfl rfl hl.1 rfl (lv_room (Nat.le_of_ble_eq_true rfl)) dX4_turn_9 ⟨Nat.le_of_ble_eq_true rfl, Nat.le_of_ble_eq_true rfl⟩) hS (fun q _ h => hFc q h) hFc (fun rr6 u t H5 locs ht hvm hw hB hz1 hk1 hS => ?_)
  obtain ⟨hP1, hK1, hD1⟩ := hB
  rw [ht] at hP1
  refine zTopi hw.symm ?_
  have hP := hP1
  have hD := hD1.weaken (fun _ q _ h => hFc q.1 h)
  have hP : va_P (dC, dI) vwCl ((cX4 a4 h4 y s4_3) ++ (cX0 a0 h0 y S0)) H5 := hP
  have hD : va_D A ((cX4 a4 h4 y s4_3) ++ (cX0 a0 h0 y S0)) := hD
  refine lv_istore (lv' := [(4, .int r2), (3, .int v1), (0, .ref a4), (1, .ref a0), (2, .int p2)]) hx hb dX4_turn_12 hl (by decide) rfl (fun ls hl => ?_)
  refine lv_iconst (v := 0) hx hb dX4_turn_14 (by decide) ?_
  refine lv_istore (lv' := [(5, .int 0), (4, .int r2), (3, .int v1), (0, .ref a4), (1, .ref a0), (2, .int p2)]) hx hb dX4_turn_15 hl (by decide) rfl (fun ls hl => ?_)
  refine W_abs (fun GW7 eG8 => ?_)
  obtain ⟨ov11, hi12, h⟩ := zB_spec h
  have je9 : ∀ (v16 : Int32) (s4_17 : SS) (HGW7e : Heap) (locs : List Loc) (ls : Array Slot), (v16, s4_17) = ov11 → va_P (dC, dI) vwCl ((cX4 a4 h4 y s4_17) ++ (cX0 a0 h0 y S0)) HGW7e → va_D A ((cX4 a4 h4 y s4_17) ++ (cX0 a0 h0 y S0)) → va_S A s.heap HGW7e locs → lv_has ls 6 [(3, .int v1), (0, .ref a4), (4, .int v16)] → GW7 HGW7e locs 0 0 (F0 m 66 ls []) := by
    intro v16 s4_17 HGW7e locs ls hv hP hD hS hl
    subst hv
    refine (eG8 _ _ _ _ _).mpr ?_
    refine lv_aload_n hx hb dX4_turn_66 rfl (lv_at hl 1 rfl) ?_
    refine lv_iload_n hx hb dX4_turn_67 rfl (lv_at hl 0 rfl) ?_
    refine va_put (D := (dC, dI)) (ci := 3) (v := .int v1) (ty := .int) (C := RX4) (T := TX4) (N := 8) hx hb hts inX4_ tyX4 tyX4_ok nmX4 hown hK hP hD hS 0 rfl rfl 0 (by decide) (hts (.fieldLink RX4 27 "GateWheel$Wheel" "time" "I") (List.mem_of_getElem? (i := 1) rfl)) (fun _ h9 => h9) rfl (by decide +kernel) rfl rfl (Nat.le_of_ble_eq_true rfl) dX4_turn_68 (fun H18 locs hP hD hS => ?_)
    obtain ⟨s4_19, es4_19, h⟩ := zL_spec h
    have hP : va_P (dC, dI) vwCl ((cX4 a4 h4 y s4_19) ++ (cX0 a0 h0 y S0)) H18 := by rw [es4_19]; exact hP
    have hD : va_D A ((cX4 a4 h4 y s4_19) ++ (cX0 a0 h0 y S0)) := by rw [es4_19]; exact hD
    refine lv_iload hx hb dX4_turn_71 (lv_at hl 2 rfl) ?_
    have ho0 : v16 = or_ := congrArg (fun z : Int32 × SS => z.1) (Option.some.inj h)
    have ho1 : s4_19 = o_4 := congrArg (fun z : Int32 × SS => z.2) (Option.some.inj h)
    exact W.iret (v := v16) hx hb hr (fun t ht hW => ⟨⟨v16, (), rfl, ho0, by rw [ht]; rw [← ho1]; exact hP, va_K.moved hW.alike hK, by rw [← ho1]; exact hD⟩, hS.F ht⟩) hS.2.2 dX4_turn_73
  have lp10 : ∀ (n : Nat) (v20 : Int32) (v21 : Int32) (s4_22 : SS) (HGW7 : Heap) (locs : List Loc) (ls : Array Slot), zI (b_X4_turn_17 S0 p2) n (v20, v21, s4_22) = some ov11 → va_P (dC, dI) vwCl ((cX4 a4 h4 y s4_22) ++ (cX0 a0 h0 y S0)) HGW7 → va_D A ((cX4 a4 h4 y s4_22) ++ (cX0 a0 h0 y S0)) → va_S A s.heap HGW7 locs → lv_has ls 6 [(3, .int v1), (0, .ref a4), (1, .ref a0), (2, .int p2), (4, .int v20), (5, .int v21)] → GW7 HGW7 locs 0 0 (F0 m 17 ls []) := by
    intro n
    induction n with
    | zero =>
      intro v20 v21 s4_22 HGW7 locs ls hi12 hP hD hS hl
      exact (zI_0 hi12).elim
    | succ n ihlp10 =>
      intro v20 v21 s4_22 HGW7 locs ls hi12 hP hD hS hl
      refine (eG8 _ _ _ _ _).mpr ?_
      obtain ⟨xx15, h, hx14⟩ := zI_spec hi12
      refine lv_iload hx hb dX4_turn_17 (lv_at hl 5 rfl) ?_
      refine lv_iload_n hx hb dX4_turn_19 rfl (lv_at hl 3 rfl) ?_
      refine lv_icmp_ge (tgt := 66) hx hb dX4_turn_20 (by decide) (fun c23 => ?_) (fun c23 => ?_)
      · have h := zY c23 h
        exact (eG8 _ _ _ _ _).mp (je9 v20 s4_22 _ _ _ (zI_r h hx14) hP hD hS (lv_sub hl [0, 1, 4] rfl))
      · have h := zN c23 h
        refine lv_aload_n hx hb dX4_turn_23 rfl (lv_at hl 1 rfl) ?_
        refine va_get (D := (dC, dI)) (ci := 3) (v := .int (gI s4_22 1)) (C := RX4) (T := TX4) (N := 8) hx hb hts inX4_ hown hK hP 0 rfl rfl 1 (by decide) (hts (.fieldLink RX4 31 "GateWheel$Wheel" "toCome" "I") (List.mem_of_getElem? (i := 2) rfl)) (fun _ h9 => h9) rfl dX4_turn_24 ?_
        refine lv_if_le (tgt := 66) hx hb dX4_turn_27 (by decide) (fun c24 => ?_) (fun c24 => ?_)
        · have h := zY c24 h
          exact (eG8 _ _ _ _ _).mp (je9 v20 s4_22 _ _ _ (zI_r h hx14) hP hD hS (lv_sub hl [0, 1, 4] rfl))
        · have h := zN c24 h
          refine lv_aload_n hx hb dX4_turn_30 rfl (lv_at hl 1 rfl) ?_
          refine lv_dup hx hb dX4_turn_31 rfl ?_
          refine va_get (D := (dC, dI)) (ci := 3) (v := .int (gI s4_22 0)) (C := RX4) (T := TX4) (N := 8) hx hb hts inX4_ hown hK hP 0 rfl rfl 0 (by decide) (hts (.fieldLink RX4 27 "GateWheel$Wheel" "time" "I") (List.mem_of_getElem? (i := 1) rfl)) (fun _ h9 => h9) rfl dX4_turn_32 ?_
          refine lv_iconst (v := 1) hx hb dX4_turn_35 (by decide) ?_
          refine lv_iadd hx hb dX4_turn_36 ?_
          refine va_put (D := (dC, dI)) (ci := 3) (v := .int ((gI s4_22 0) + (1 : Int32))) (ty := .int) (C := RX4) (T := TX4) (N := 8) hx hb hts inX4_ tyX4 tyX4_ok nmX4 hown hK hP hD hS 0 rfl rfl 0 (by decide) (hts (.fieldLink RX4 27 "GateWheel$Wheel" "time" "I") (List.mem_of_getElem? (i := 1) rfl)) (fun _ h9 => h9) rfl (by decide +kernel) rfl rfl (Nat.le_of_ble_eq_true rfl) dX4_turn_37 (fun H25 locs hP hD hS => ?_)
          obtain ⟨s4_26, es4_26, h⟩ := zL_spec h
          have hP : va_P (dC, dI) vwCl ((cX4 a4 h4 y s4_26) ++ (cX0 a0 h0 y S0)) H25 := by rw [es4_26]; exact hP
          have hD : va_D A ((cX4 a4 h4 y s4_26) ++ (cX0 a0 h0 y S0)) := by rw [es4_26]; exact hD
          refine lv_iload hx hb dX4_turn_40 (lv_at hl 4 rfl) ?_
          refine lv_aload_n hx hb dX4_turn_42 rfl (lv_at hl 1 rfl) ?_
          refine lv_aload_n hx hb dX4_turn_43 rfl (lv_at hl 2 rfl) ?_
          obtain ⟨⟨r27, s4_28⟩, hc29, h⟩ := zB_spec h
          have hFc := zFree hD hS hA
          refine va_calli (va_runV (As := [.ref a0]) (rest := [.int v20]) ⟨hx, hb, hml, hown, hts⟩ (m_X4_arrive l dC dI y a4 h4 s4_26 a0 h0 S0 H25.size r27 s4_28 hc29) (cwV 1 hts gX4_turn_X4_arrive rfl rfl rfl (by decide +kernel) ⟨Nat.le_of_ble_eq_true rfl, Nat.le_of_ble_eq_true rfl⟩) ⟨fun a U g mk q => by obtain ⟨q0, q1, qP, qK, qD⟩ := q; exact ⟨q0, q1, qP, va_K.moved (u := U) (U := U.calling g mk a) (Vm.Alike.refl U.vm) qK, qD⟩, va_recv hK hP (ci := 3) (q0 := 0) rfl rfl, fun U hU hW => ⟨rfl, by rw [hU], by rw [hU]; exact hP, va_K.moved hW.alike hK, hD.weaken (fun _ _ _ _ => trivial)⟩⟩ rfl rfl hl.1 rfl (lv_room (Nat.le_of_ble_eq_true rfl)) dX4_turn_44 ⟨Nat.le_of_ble_eq_true rfl, Nat.le_of_ble_eq_true rfl⟩) hS (fun q _ h => hFc q h) hFc (fun rr31 u t H30 locs ht hvm hw hB hz1 hk1 hS => ?_)
          obtain ⟨hP1, hK1, hD1⟩ := hB
          rw [ht] at hP1
          refine zTopi hw.symm ?_
          have hP := hP1
          have hD := hD1.weaken (fun _ q _ h => hFc q.1 h)
          have hP : va_P (dC, dI) vwCl ((cX4 a4 h4 y s4_28) ++ (cX0 a0 h0 y S0)) H30 := hP
          have hD : va_D A ((cX4 a4 h4 y s4_28) ++ (cX0 a0 h0 y S0)) := hD
          refine lv_iadd hx hb dX4_turn_47 ?_
          obtain ⟨v32, ev32, h⟩ := zL_spec h
          refine zTopi ev32 ?_
          refine lv_istore (lv' := [(4, .int v32), (3, .int v1), (0, .ref a4), (1, .ref a0), (2, .int p2), (5, .int v21)]) hx hb dX4_turn_48 hl (by decide) rfl (fun ls hl => ?_)
          refine lv_iload hx hb dX4_turn_50 (lv_at hl 0 rfl) ?_
          refine lv_aload_n hx hb dX4_turn_52 rfl (lv_at hl 2 rfl) ?_
          refine lv_aload_n hx hb dX4_turn_53 rfl (lv_at hl 3 rfl) ?_
          obtain ⟨⟨r33, s4_34⟩, hc35, h⟩ := zB_spec h
          have hFc := zFree hD hS hA
          refine va_calli (va_runV (As := [.ref a0]) (rest := [.int v32]) ⟨hx, hb, hml, hown, hts⟩ (m_X4_follow l dC dI y a4 h4 s4_28 a0 h0 S0 H30.size r33 s4_34 hc35) (cwV 1 hts gX4_turn_X4_follow rfl rfl rfl (by decide +kernel) ⟨Nat.le_of_ble_eq_true rfl, Nat.le_of_ble_eq_true rfl⟩) ⟨fun a U g mk q => by obtain ⟨q0, q1, qP, qK, qD⟩ := q; exact ⟨q0, q1, qP, va_K.moved (u := U) (U := U.calling g mk a) (Vm.Alike.refl U.vm) qK, qD⟩, va_recv hK hP (ci := 3) (q0 := 0) rfl rfl, fun U hU hW => ⟨rfl, by rw [hU], by rw [hU]; exact hP, va_K.moved hW.alike hK, hD.weaken (fun _ _ _ _ => trivial)⟩⟩ rfl rfl hl.1 rfl (lv_room (Nat.le_of_ble_eq_true rfl)) dX4_turn_54 ⟨Nat.le_of_ble_eq_true rfl, Nat.le_of_ble_eq_true rfl⟩) hS (fun q _ h => hFc q h) hFc (fun rr37 u t H36 locs ht hvm hw hB hz1 hk1 hS => ?_)
          obtain ⟨hP1, hK1, hD1⟩ := hB
          rw [ht] at hP1
          refine zTopi hw.symm ?_
          have hP := hP1
          have hD := hD1.weaken (fun _ q _ h => hFc q.1 h)
          have hP : va_P (dC, dI) vwCl ((cX4 a4 h4 y s4_34) ++ (cX0 a0 h0 y S0)) H36 := hP
          have hD : va_D A ((cX4 a4 h4 y s4_34) ++ (cX0 a0 h0 y S0)) := hD
          refine lv_iadd hx hb dX4_turn_57 ?_
          obtain ⟨v38, ev38, h⟩ := zL_spec h
          refine zTopi ev38 ?_
          refine lv_istore (lv' := [(4, .int v38), (3, .int v1), (0, .ref a4), (1, .ref a0), (2, .int p2), (5, .int v21)]) hx hb dX4_turn_58 hl (by decide) rfl (fun ls hl => ?_)
          obtain ⟨v39, ev39, h⟩ := zL_spec h
          refine lv_iinc (v := v39) (lv' := [(5, .int v39), (4, .int v38), (3, .int v1), (0, .ref a4), (1, .ref a0), (2, .int p2)]) hx hb dX4_turn_60 hl (k := 5) rfl (by rw [ev39]; rfl) (by decide) rfl (fun ls hl => ?_)
          refine lv_goto (tgt := 17) hx hb dX4_turn_63 (by decide) ?_
          have h := zI_l h hx14
          exact (eG8 _ _ _ _ _).mp (ihlp10 v38 v39 s4_34 _ _ _ h hP hD hS (lv_sub hl [2, 3, 4, 5, 1, 0] rfl))
  exact lp10 zF r2 (0 : Int32) s4_3 _ _ _ hi12 hP hD hS (lv_sub hl [2, 3, 4, 5, 1, 0] rfl)
