noncomputable def f_X0_clear (S0 : SS) : Option (SS) :=
  zL (sI S0 0 (0 : Int32)) (fun s0_2 =>
  zL (sI s0_2 1 (0 : Int32)) (fun s0_4 =>
  some s0_4))

noncomputable def f_X0_has (S0 : SS) (p1 : Int32) : Option (Int32) :=
  if p1 < (0 : Int32) then some (0 : Int32)
  else if (gI S0 0) ≤ p1 then some (0 : Int32)
  else some (1 : Int32)

noncomputable def f_X0_isKind (S0 : SS) (p1 : Int32) (p2 : Int32) : Option (Int32) :=
  zB (f_X0_has S0 p1) (fun (r1 : Int32) =>
  if r1 = (0 : Int32) then some (0 : Int32)
  else zG (vp_in p1 60) (
  if (gA S0 4 p1.toNatClampNeg) = p2 then some (1 : Int32)
  else some (0 : Int32)))

noncomputable def f_X0_isSource (S0 : SS) (p1 : Int32) : Option (Int32) :=
  zB (f_X0_isKind S0 p1 (0 : Int32)) (fun (r1 : Int32) =>
  if r1 = (0 : Int32) then zB (f_X0_isKind S0 p1 (3 : Int32)) (fun (r6 : Int32) =>
  if r6 = (0 : Int32) then some (0 : Int32)
  else some (1 : Int32))
  else some (1 : Int32))

noncomputable def b_X0_find_2 (S0 : SS) (p1 : Int64) : (Int32) → Option ((Int32) ⊕ (Int32)) := fun v10 =>
  if (gI S0 0) ≤ v10 then some (Sum.inr (-1 : Int32))
  else zG (vp_in v10 60) (
  if (lg_cmp (gB S0 2 v10.toNatClampNeg) p1) = (0 : Int32) then some (Sum.inr v10)
  else zL (v10 + 1) (fun v14 =>
  some (Sum.inl v14)))
noncomputable def f_X0_find (S0 : SS) (p1 : Int64) : Option (Int32) :=
  zI (b_X0_find_2 S0 p1) zF (0 : Int32)

noncomputable def f_X0_add (S0 : SS) (p1 : Int64) (p2 : Int32) (p3 : Int32) : Option (SS) :=
  if (gI S0 0) < (60 : Int32) then zG (vp_in (gI S0 0) 60) (
  zL (sB S0 2 (vp_updL (gB S0 2) (gI S0 0).toNatClampNeg p1)) (fun s0_4 =>
  zG (vp_in (gI s0_4 0) 60) (
  zL (sA s0_4 3 (upd (gA s0_4 3) (gI s0_4 0).toNatClampNeg p2)) (fun s0_7 =>
  zG (vp_in (gI s0_7 0) 60) (
  zL (sA s0_7 4 (upd (gA s0_7 4) (gI s0_7 0).toNatClampNeg p3)) (fun s0_10 =>
  zG (vp_in (gI s0_10 0) 60) (
  zL (sA s0_10 5 (upd (gA s0_10 5) (gI s0_10 0).toNatClampNeg (0 : Int32))) (fun s0_13 =>
  zB (if p3 = (2 : Int32) then some (1 : Int32)
  else some (0 : Int32)) (fun (v20 : Int32) =>
  zG (vp_in (gI s0_13 0) 60) (
  zL (sA s0_13 6 (upd (gA s0_13 6) (gI s0_13 0).toNatClampNeg v20)) (fun s0_23 =>
  zG (vp_in (gI s0_23 0) 60) (
  zL (sA s0_23 8 (upd (gA s0_23 8) (gI s0_23 0).toNatClampNeg (0 : Int32))) (fun s0_26 =>
  zG (vp_in (gI s0_26 0) 60) (
  zL (sA s0_26 9 (upd (gA s0_26 9) (gI s0_26 0).toNatClampNeg (0 : Int32))) (fun s0_29 =>
  zG (vp_in (gI s0_29 0) 60) (
  zL (sB s0_29 10 (vp_updL (gB s0_29 10) (gI s0_29 0).toNatClampNeg (0 : Int64))) (fun s0_32 =>
  zG (vp_in (gI s0_32 0) 60) (
  zL (sA s0_32 11 (upd (gA s0_32 11) (gI s0_32 0).toNatClampNeg (0 : Int32))) (fun s0_35 =>
  zB (if p3 = (3 : Int32) then zL (sI s0_35 1 ((gI s0_35 1) + (1 : Int32))) (fun s0_47 =>
  some s0_47)
  else some s0_35) (fun (s0_42 : SS) =>
  zL (sI s0_42 0 ((gI s0_42 0) + (1 : Int32))) (fun s0_44 =>
  some s0_44)))))))))))))))))))))
  else some S0

noncomputable def f_X0_addPart (S0 : SS) (p1 : Int32) (p2 : Int32) : Option (SS) :=
  zB (f_X0_has S0 p1) (fun (r1 : Int32) =>
  if r1 = (0 : Int32) then some S0
  else zB (f_X0_has S0 p2) (fun (r6 : Int32) =>
  if r6 = (0 : Int32) then some S0
  else zG (vp_in p1 60) (
  if (gA S0 8 p1.toNatClampNeg) < (12 : Int32) then zG (vp_in ((p1 * (12 : Int32)) + (gA S0 8 p1.toNatClampNeg)) 720) (
  zL (sA S0 7 (upd (gA S0 7) ((p1 * (12 : Int32)) + (gA S0 8 p1.toNatClampNeg)).toNatClampNeg p2)) (fun s0_15 =>
  zL (sA s0_15 8 (upd (gA s0_15 8) p1.toNatClampNeg ((gA s0_15 8 p1.toNatClampNeg) + (1 : Int32)))) (fun s0_17 =>
  if (gA s0_17 4 p1.toNatClampNeg) = (3 : Int32) then some s0_17
  else zL (sB s0_17 10 (vp_updL (gB s0_17 10) p1.toNatClampNeg ((gB s0_17 10 p1.toNatClampNeg) ||| (jLs (1 : Int64) p2)))) (fun s0_20 =>
  some s0_20))))
  else some S0)))

noncomputable def f_X0_size (S0 : SS) (p1 : Int32) : Option (Int32) :=
  zG (vp_in p1 60) (
  if (gA S0 4 p1.toNatClampNeg) = (1 : Int32) then some ((gA S0 8 p1.toNatClampNeg) / (2 : Int32))
  else some (gA S0 8 p1.toNatClampNeg))

noncomputable def f_X0_beginDriver (S0 : SS) (p1 : Int32) (p2 : Int32) : Option (SS) :=
  zB (f_X0_has S0 p1) (fun (r1 : Int32) =>
  if r1 = (0 : Int32) then some S0
  else if p2 = (0 : Int32) then some S0
  else zG (vp_in p1 60) (
  zB (f_X0_size S0 p1) (fun (r8 : Int32) =>
  zL (sA S0 9 (upd (gA S0 9) p1.toNatClampNeg ((gA S0 9 p1.toNatClampNeg) ||| ((1 : Int32) <<< (r8 &&& 31))))) (fun s0_13 =>
  some s0_13))))

noncomputable def f_X0_part (S0 : SS) (p1 : Int32) (p2 : Int32) : Option (Int32) :=
  zG (vp_in ((p1 * (12 : Int32)) + p2) 720) (
  some (gA S0 7 ((p1 * (12 : Int32)) + p2).toNatClampNeg))

noncomputable def f_X0_isLow (S0 : SS) (p1 : Int32) (p2 : Int32) : Option (Int32) :=
  zG (vp_in p1 60) (
  if (((gA S0 9 p1.toNatClampNeg) >>> (p2 &&& 31)) &&& (1 : Int32)) = (1 : Int32) then some (1 : Int32)
  else some (0 : Int32))

noncomputable def f_X0_dependsOn (S0 : SS) (p1 : Int32) (p2 : Int64) : Option (Int32) :=
  zG (vp_in p1 60) (
  if (lg_cmp ((gB S0 10 p1.toNatClampNeg) &&& p2) (0 : Int64)) = (0 : Int32) then some (0 : Int32)
  else some (1 : Int32))

noncomputable def b_X0_levelAbove_5 (S0 : SS) (p1 : Int64) : (Int32 × Int32) → Option ((Int32 × Int32) ⊕ (Int32)) := fun (v10, v11) =>
  if (gI S0 0) ≤ v11 then some (Sum.inr v10)
  else if (lg_cmp ((jLu p1 v11) &&& (1 : Int64)) (1 : Int64)) = (0 : Int32) then zG (vp_in v11 60) (
  zL (if v10 < ((gA S0 11 v11.toNatClampNeg) + (1 : Int32)) then ((gA S0 11 v11.toNatClampNeg) + (1 : Int32)) else v10) (fun v16 =>
  zL (v11 + 1) (fun v17 =>
  some (Sum.inl (v16, v17)))))
  else zL (v11 + 1) (fun v14 =>
  some (Sum.inl (v10, v14)))
noncomputable def f_X0_levelAbove (S0 : SS) (p1 : Int64) : Option (Int32) :=
  zI (b_X0_levelAbove_5 S0 p1) zF ((0 : Int32), (0 : Int32))

noncomputable def b_X0_arrange_27 : (Int64 × Int32 × Int32 × SS) → Option ((Int64 × Int32 × Int32 × SS) ⊕ (Int64 × Int32 × SS)) := fun (v29, v30, v31, s0_32) =>
  if (gI s0_32 0) ≤ v31 then some (Sum.inr (v29, v30, s0_32))
  else if (gI s0_32 0) ≤ v30 then some (Sum.inr (v29, v30, s0_32))
  else zB (if (lg_cmp ((jLu v29 v31) &&& (1 : Int64)) (1 : Int64)) = (0 : Int32) then some (1 : Int32)
  else some (0 : Int32)) (fun (v41 : Int32) =>
  if v41 = (0 : Int32) then zB (f_X0_dependsOn s0_32 v31 (v29 ^^^ (-1 : Int64))) (fun (r44 : Int32) =>
  if r44 = (0 : Int32) then zG (vp_in v30 60) (
  zL (sA s0_32 12 (upd (gA s0_32 12) v30.toNatClampNeg v31)) (fun s0_52 =>
  zL (v30 + 1) (fun v53 =>
  zL (v29 ||| (jLs (1 : Int64) v31)) (fun v54 =>
  zG (vp_in v31 60) (
  zB (f_X0_levelAbove s0_52 (gB s0_52 10 v31.toNatClampNeg)) (fun (r56 : Int32) =>
  zL (sA s0_52 11 (upd (gA s0_52 11) v31.toNatClampNeg r56)) (fun s0_61 =>
  zL (v31 + 1) (fun v62 =>
  some (Sum.inl (v54, v53, v62, s0_61))))))))))
  else zL (v31 + 1) (fun v49 =>
  some (Sum.inl (v29, v30, v49, s0_32))))
  else zL (v31 + 1) (fun v43 =>
  some (Sum.inl (v29, v30, v43, s0_32))))
noncomputable def b_X0_arrange_7 : (Int64 × Int32 × Int32 × SS) → Option ((Int64 × Int32 × Int32 × SS) ⊕ (SS)) := fun (v10, v11, v12, s0_13) =>
  if (gI s0_13 0) ≤ v12 then some (Sum.inr s0_13)
  else if (gI s0_13 0) ≤ v11 then some (Sum.inr s0_13)
  else zB (zI (b_X0_arrange_27) zF (v10, v11, (0 : Int32), s0_13)) (fun ((v25, v26, s0_27) : Int64 × Int32 × SS) =>
  zL (v12 + 1) (fun v28 =>
  some (Sum.inl (v25, v26, v28, s0_27))))
noncomputable def f_X0_arrange (S0 : SS) : Option (SS) :=
  zI (b_X0_arrange_7) zF ((0 : Int64), (0 : Int32), (0 : Int32), S0)

set_option maxHeartbeats 4000000 in
set_option maxRecDepth 100000 in
theorem m_X0_clear (l : Launch) (dC : Nat → ClassId) (dI : Nat → Nat → Nat) (y : Nat → ClassId) (a0 : Nat) (h0 : Nat → Nat) (S0 : SS) (sz : Nat) (o_0 : SS) (h : f_X0_clear S0 = some o_0) : Met l yX0_clear wsX0_clear ({ frames := 0, cells := 0, slots := 0, locals := 0 }) (va_Pc [.ref a0] (fun U => U.heap.size = sz ∧ va_P (dC, dI) vwCl (cX0 a0 h0 y S0) U.heap ∧ va_K (dC, dI) vwCl [(y 0, .int), (y 1, .long), (y 2, .byte), (y 3, .boolean)] U ∧ va_D (fun _ => True) (cX0 a0 h0 y S0))) (va_Qv (fun (_ : Unit) => True) (fun (_ : Unit) (t : State) => va_P (dC, dI) vwCl (cX0 a0 h0 y o_0) t.heap ∧ va_K (dC, dI) vwCl [(y 0, .int), (y 1, .long), (y 2, .byte), (y 3, .boolean)] t ∧ va_D (va_A (cX0 a0 h0 y S0) sz) (cX0 a0 h0 y o_0)) (va_A (cX0 a0 h0 y S0) sz)) 0 0 (va_A (cX0 a0 h0 y S0) sz) := by
  refine Met.ofW (cc := cX0_clear) (maxL := 1) (ret := none) (by decide +kernel) rfl ?_
  intro p e s m args below meth c s₁ B hml hv
  obtain ⟨rfl, hsz, hP, hK, hD0⟩ := hv
  have hx := B.exec
  have hb := B.bytes
  have hr := B.returns
  have hts := atoms_spec (ws := wsX0_clear) B.pre
  have hown : s.vm.findClass RX0 = some m.cls := findClass_of_methodNamed B.named
  have hlocks := B.notSynchronized
  have inX0_ : ∀ w ∈ wsX00, w ∈ wsX0_clear := fun _ h => List.mem_cons_of_mem _ (List.mem_append_right _ h)
  subst hsz
  have hD := hD0.self (sz := s.heap.size)
  generalize hAe : va_A (cX0 a0 h0 y S0) s.heap.size = A at hD ⊢
  have hA : ∀ q : Nat, s.heap.size ≤ q → A q := fun q h => by rw [← hAe]; exact Or.inr h
  have hS : va_S A s.heap s.heap [] := va_S.rf
  have hP : va_P (dC, dI) vwCl (cX0 a0 h0 y S0) s.heap := hP
  have hl := lv_entry ([.ref a0]) (n := 1) (Nat.le_of_ble_eq_true rfl)
  rw [lg_entry_eq]
  generalize (lg_sl ([.ref a0]) ++ List.replicate (1 - (lg_sl ([.ref a0])).length) Slot.unset).toArray = ls at hl ⊢
  have hl : lv_has ls 1 [(0, .ref a0)] := hl
  refine lv_aload_n hx hb dX0_clear_0 rfl (lv_at hl 0 rfl) ?_
  refine lv_iconst (v := 0) hx hb dX0_clear_1 (by decide) ?_
  refine va_put (D := (dC, dI)) (ci := 0) (v := .int 0) (ty := .int) (C := RX0) (T := TX0) (N := 13) hx hb hts inX0_ tyX0 tyX0_ok nmX0 hown hK hP hD hS 0 rfl rfl 0 (by decide) (hts (.fieldLink RX0 46 "GateWheel$Circuit" "count" "I") (List.mem_of_getElem? (i := 1) rfl)) (fun _ h9 => h9) rfl (by decide +kernel) rfl rfl (Nat.le_of_ble_eq_true rfl) dX0_clear_2 (fun H1 locs hP hD hS => ?_)
  obtain ⟨s0_2, es0_2, h⟩ := zL_spec h
  have hP : va_P (dC, dI) vwCl (cX0 a0 h0 y s0_2) H1 := by rw [es0_2]; exact hP
  have hD : va_D A (cX0 a0 h0 y s0_2) := by rw [es0_2]; exact hD
  refine lv_aload_n hx hb dX0_clear_5 rfl (lv_at hl 0 rfl) ?_
  refine lv_iconst (v := 0) hx hb dX0_clear_6 (by decide) ?_
  refine va_put (D := (dC, dI)) (ci := 0) (v := .int 0) (ty := .int) (C := RX0) (T := TX0) (N := 13) hx hb hts inX0_ tyX0 tyX0_ok nmX0 hown hK hP hD hS 0 rfl rfl 1 (by decide) (hts (.fieldLink RX0 50 "GateWheel$Circuit" "registers" "I") (List.mem_of_getElem? (i := 2) rfl)) (fun _ h9 => h9) rfl (by decide +kernel) rfl rfl (Nat.le_of_ble_eq_true rfl) dX0_clear_7 (fun H3 locs hP hD hS => ?_)
  obtain ⟨s0_4, es0_4, h⟩ := zL_spec h
  have hP : va_P (dC, dI) vwCl (cX0 a0 h0 y s0_4) H3 := by rw [es0_4]; exact hP
  have hD : va_D A (cX0 a0 h0 y s0_4) := by rw [es0_4]; exact hD
  have ho0 : s0_4 = o_0 := congrArg (fun z : SS => z) (Option.some.inj h)
  exact W.vret hx hb hr (fun t ht hW => ⟨⟨(), rfl, trivial, by rw [ht]; rw [← ho0]; exact hP, va_K.moved hW.alike hK, by rw [← ho0]; exact hD⟩, hS.F ht⟩) hS.2.2 dX0_clear_10

set_option maxHeartbeats 4000000 in
set_option maxRecDepth 100000 in
theorem m_X0_has (l : Launch) (dC : Nat → ClassId) (dI : Nat → Nat → Nat) (y : Nat → ClassId) (a0 : Nat) (h0 : Nat → Nat) (S0 : SS) (p1 : Int32) (sz : Nat) (or_ : Int32) (h : f_X0_has S0 p1 = some or_) : Met l yX0_has wsX0_has ({ frames := 0, cells := 0, slots := 0, locals := 0 }) (va_Pc [.ref a0, .int p1] (fun U => U.heap.size = sz ∧ va_P (dC, dI) vwCl (cX0 a0 h0 y S0) U.heap ∧ va_K (dC, dI) vwCl [(y 0, .int), (y 1, .long), (y 2, .byte), (y 3, .boolean)] U ∧ va_D (fun _ => True) (cX0 a0 h0 y S0))) (va_Qi (fun (r : Int32) (_ : Unit) => r = or_) (fun (_ : Unit) (t : State) => va_P (dC, dI) vwCl (cX0 a0 h0 y S0) t.heap ∧ va_K (dC, dI) vwCl [(y 0, .int), (y 1, .long), (y 2, .byte), (y 3, .boolean)] t ∧ va_D (va_A (cX0 a0 h0 y S0) sz) (cX0 a0 h0 y S0)) (va_A (cX0 a0 h0 y S0) sz)) 0 0 (va_A (cX0 a0 h0 y S0) sz) := by
  refine Met.ofW (cc := cX0_has) (maxL := 2) (ret := (some .boolean)) (by decide +kernel) rfl ?_
  intro p e s m args below meth c s₁ B hml hv
  obtain ⟨rfl, hsz, hP, hK, hD0⟩ := hv
  have hx := B.exec
  have hb := B.bytes
  have hr := B.returns
  have hts := atoms_spec (ws := wsX0_has) B.pre
  have hown : s.vm.findClass RX0 = some m.cls := findClass_of_methodNamed B.named
  have hlocks := B.notSynchronized
  have inX0_ : ∀ w ∈ wsX00, w ∈ wsX0_has := fun _ h => List.mem_cons_of_mem _ (List.mem_append_right _ h)
  subst hsz
  have hD := hD0.self (sz := s.heap.size)
  generalize hAe : va_A (cX0 a0 h0 y S0) s.heap.size = A at hD ⊢
  have hA : ∀ q : Nat, s.heap.size ≤ q → A q := fun q h => by rw [← hAe]; exact Or.inr h
  have hS : va_S A s.heap s.heap [] := va_S.rf
  have hP : va_P (dC, dI) vwCl (cX0 a0 h0 y S0) s.heap := hP
  have hl := lv_entry ([.ref a0, .int p1]) (n := 2) (Nat.le_of_ble_eq_true rfl)
  rw [lg_entry_eq]
  generalize (lg_sl ([.ref a0, .int p1]) ++ List.replicate (2 - (lg_sl ([.ref a0, .int p1])).length) Slot.unset).toArray = ls at hl ⊢
  have hl : lv_has ls 2 [(0, .ref a0), (1, .int p1)] := hl
  refine lv_iload_n hx hb dX0_has_0 rfl (lv_at hl 1 rfl) ?_
  refine lv_if_lt (tgt := 16) hx hb dX0_has_1 (by decide) (fun c1 => ?_) (fun c1 => ?_)
  · have h := zY c1 h
    refine lv_iconst (v := 0) hx hb dX0_has_16 (by decide) ?_
    have ho0 : (0 : Int32) = or_ := congrArg (fun z : Int32 => z) (Option.some.inj h)
    exact W.zret (v := 0) hx hb hr (by decide) (fun t ht hW => ⟨⟨0, (), rfl, ho0, by rw [ht]; exact hP, va_K.moved hW.alike hK, hD⟩, hS.F ht⟩) hS.2.2 dX0_has_17
  · have h := zN c1 h
    refine lv_iload_n hx hb dX0_has_4 rfl (lv_at hl 1 rfl) ?_
    refine lv_aload_n hx hb dX0_has_5 rfl (lv_at hl 0 rfl) ?_
    refine va_get (D := (dC, dI)) (ci := 0) (v := .int (gI S0 0)) (C := RX0) (T := TX0) (N := 13) hx hb hts inX0_ hown hK hP 0 rfl rfl 0 (by decide) (hts (.fieldLink RX0 46 "GateWheel$Circuit" "count" "I") (List.mem_of_getElem? (i := 1) rfl)) (fun _ h9 => h9) rfl dX0_has_6 ?_
    refine lv_icmp_ge (tgt := 16) hx hb dX0_has_9 (by decide) (fun c2 => ?_) (fun c2 => ?_)
    · have h := zY c2 h
      refine lv_iconst (v := 0) hx hb dX0_has_16 (by decide) ?_
      have ho0 : (0 : Int32) = or_ := congrArg (fun z : Int32 => z) (Option.some.inj h)
      exact W.zret (v := 0) hx hb hr (by decide) (fun t ht hW => ⟨⟨0, (), rfl, ho0, by rw [ht]; exact hP, va_K.moved hW.alike hK, hD⟩, hS.F ht⟩) hS.2.2 dX0_has_17
    · have h := zN c2 h
      refine lv_iconst (v := 1) hx hb dX0_has_12 (by decide) ?_
      refine lv_goto (tgt := 17) hx hb dX0_has_13 (by decide) ?_
      have ho0 : (1 : Int32) = or_ := congrArg (fun z : Int32 => z) (Option.some.inj h)
      exact W.zret (v := 1) hx hb hr (by decide) (fun t ht hW => ⟨⟨1, (), rfl, ho0, by rw [ht]; exact hP, va_K.moved hW.alike hK, hD⟩, hS.F ht⟩) hS.2.2 dX0_has_17

set_option maxHeartbeats 4000000 in
set_option maxRecDepth 100000 in
theorem m_X0_isKind (l : Launch) (dC : Nat → ClassId) (dI : Nat → Nat → Nat) (y : Nat → ClassId) (a0 : Nat) (h0 : Nat → Nat) (S0 : SS) (p1 : Int32) (p2 : Int32) (sz : Nat) (or_ : Int32) (h : f_X0_isKind S0 p1 p2 = some or_) : Met l yX0_isKind wsX0_isKind ({ frames := 1, cells := 0, slots := 0, locals := 21 }) (va_Pc [.ref a0, .int p1, .int p2] (fun U => U.heap.size = sz ∧ va_P (dC, dI) vwCl (cX0 a0 h0 y S0) U.heap ∧ va_K (dC, dI) vwCl [(y 0, .int), (y 1, .long), (y 2, .byte), (y 3, .boolean)] U ∧ va_D (fun _ => True) (cX0 a0 h0 y S0))) (va_Qi (fun (r : Int32) (_ : Unit) => r = or_) (fun (_ : Unit) (t : State) => va_P (dC, dI) vwCl (cX0 a0 h0 y S0) t.heap ∧ va_K (dC, dI) vwCl [(y 0, .int), (y 1, .long), (y 2, .byte), (y 3, .boolean)] t ∧ va_D (va_A (cX0 a0 h0 y S0) sz) (cX0 a0 h0 y S0)) (va_A (cX0 a0 h0 y S0) sz)) 0 0 (va_A (cX0 a0 h0 y S0) sz) := by
  refine Met.ofW (cc := cX0_isKind) (maxL := 3) (ret := (some .boolean)) (by decide +kernel) rfl ?_
  intro p e s m args below meth c s₁ B hml hv
  obtain ⟨rfl, hsz, hP, hK, hD0⟩ := hv
  have hx := B.exec
  have hb := B.bytes
  have hr := B.returns
  have hts := atoms_spec (ws := wsX0_isKind) B.pre
  have hown : s.vm.findClass RX0 = some m.cls := findClass_of_methodNamed B.named
  have hlocks := B.notSynchronized
  have inX0_ : ∀ w ∈ wsX00, w ∈ wsX0_isKind := fun _ h => List.mem_cons_of_mem _ (List.mem_append_right _ h)
  subst hsz
  have hD := hD0.self (sz := s.heap.size)
  generalize hAe : va_A (cX0 a0 h0 y S0) s.heap.size = A at hD ⊢
  have hA : ∀ q : Nat, s.heap.size ≤ q → A q := fun q h => by rw [← hAe]; exact Or.inr h
  have hS : va_S A s.heap s.heap [] := va_S.rf
  have hP : va_P (dC, dI) vwCl (cX0 a0 h0 y S0) s.heap := hP
  have hl := lv_entry ([.ref a0, .int p1, .int p2]) (n := 3) (Nat.le_of_ble_eq_true rfl)
  rw [lg_entry_eq]
  generalize (lg_sl ([.ref a0, .int p1, .int p2]) ++ List.replicate (3 - (lg_sl ([.ref a0, .int p1, .int p2])).length) Slot.unset).toArray = ls at hl ⊢
  have hl : lv_has ls 3 [(0, .ref a0), (1, .int p1), (2, .int p2)] := hl
  refine lv_aload_n hx hb dX0_isKind_0 rfl (lv_at hl 0 rfl) ?_
  refine lv_iload_n hx hb dX0_isKind_1 rfl (lv_at hl 1 rfl) ?_
  obtain ⟨r1, hc2, h⟩ := zB_spec h
  have hFc := zFree hD hS hA
  refine va_calli (va_runV (As := [.int p1]) (rest := []) ⟨hx, hb, hml, hown, hts⟩ (m_X0_has l dC dI y a0 h0 S0 p1 s.heap.size r1 hc2) (cwV 1 hts gX0_isKind_X0_has rfl rfl rfl (by decide +kernel) ⟨Nat.le_of_ble_eq_true rfl, Nat.le_of_ble_eq_true rfl⟩) ⟨fun a U g mk q => by obtain ⟨q0, q1, qP, qK, qD⟩ := q; exact ⟨q0, q1, qP, va_K.moved (u := U) (U := U.calling g mk a) (Vm.Alike.refl U.vm) qK, qD⟩, va_recv hK hP (ci := 0) (q0 := 0) rfl rfl, fun U hU hW => ⟨rfl, by rw [hU], by rw [hU]; exact hP, va_K.moved hW.alike hK, hD.weaken (fun _ _ _ _ => trivial)⟩⟩ rfl rfl hl.1 rfl (lv_room (Nat.le_of_ble_eq_true rfl)) dX0_isKind_2 ⟨Nat.le_of_ble_eq_true rfl, Nat.le_of_ble_eq_true rfl⟩) hS (fun q _ h => hFc q h) hFc (fun rr4 u t H3 locs ht hvm hw hB hz1 hk1 hS => ?_)
  obtain ⟨hP1, hK1, hD1⟩ := hB
  rw [ht] at hP1
  refine zTopi hw.symm ?_
  have hP := hP1
  have hD := hD1.weaken (fun _ q _ h => hFc q.1 h)
  have hP : va_P (dC, dI) vwCl (cX0 a0 h0 y S0) H3 := hP
  have hD : va_D A (cX0 a0 h0 y S0) := hD
  refine lv_if_eq (tgt := 22) hx hb dX0_isKind_5 (by decide) (fun c5 => ?_) (fun c5 => ?_)
  · have h := zY c5 h
    refine lv_iconst (v := 0) hx hb dX0_isKind_22 (by decide) ?_
    have ho0 : (0 : Int32) = or_ := congrArg (fun z : Int32 => z) (Option.some.inj h)
    exact W.zret (v := 0) hx hb hr (by decide) (fun t ht hW => ⟨⟨0, (), rfl, ho0, by rw [ht]; exact hP, va_K.moved hW.alike hK, hD⟩, hS.F ht⟩) hS.2.2 dX0_isKind_23
  · have h := zN c5 h
    refine lv_aload_n hx hb dX0_isKind_8 rfl (lv_at hl 0 rfl) ?_
    refine va_get (D := (dC, dI)) (ci := 0) (v := .ref (h0 4)) (C := RX0) (T := TX0) (N := 13) hx hb hts inX0_ hown hK hP 0 rfl rfl 4 (by decide) (hts (.fieldLink RX0 19 "GateWheel$Circuit" "kinds" "[I") (List.mem_of_getElem? (i := 1) rfl)) (fun _ h9 => h9) rfl dX0_isKind_9 ?_
    refine lv_iload_n hx hb dX0_isKind_12 rfl (lv_at hl 1 rfl) ?_
    obtain ⟨hi6, h⟩ := zG_spec h
    refine va_iald hx hb hK hP 3 0 rfl rfl hi6 dX0_isKind_13 ?_
    refine lv_iload_n hx hb dX0_isKind_14 rfl (lv_at hl 2 rfl) ?_
    refine lv_icmp_ne (tgt := 22) hx hb dX0_isKind_15 (by decide) (fun c7 => ?_) (fun c7 => ?_)
    · have h := zN c7 h
      refine lv_iconst (v := 0) hx hb dX0_isKind_22 (by decide) ?_
      have ho0 : (0 : Int32) = or_ := congrArg (fun z : Int32 => z) (Option.some.inj h)
      exact W.zret (v := 0) hx hb hr (by decide) (fun t ht hW => ⟨⟨0, (), rfl, ho0, by rw [ht]; exact hP, va_K.moved hW.alike hK, hD⟩, hS.F ht⟩) hS.2.2 dX0_isKind_23
    · have h := zY c7 h
      refine lv_iconst (v := 1) hx hb dX0_isKind_18 (by decide) ?_
      refine lv_goto (tgt := 23) hx hb dX0_isKind_19 (by decide) ?_
      have ho0 : (1 : Int32) = or_ := congrArg (fun z : Int32 => z) (Option.some.inj h)
      exact W.zret (v := 1) hx hb hr (by decide) (fun t ht hW => ⟨⟨1, (), rfl, ho0, by rw [ht]; exact hP, va_K.moved hW.alike hK, hD⟩, hS.F ht⟩) hS.2.2 dX0_isKind_23

set_option maxHeartbeats 4000000 in
set_option maxRecDepth 100000 in
theorem m_X0_isSource (l : Launch) (dC : Nat → ClassId) (dI : Nat → Nat → Nat) (y : Nat → ClassId) (a0 : Nat) (h0 : Nat → Nat) (S0 : SS) (p1 : Int32) (sz : Nat) (or_ : Int32) (h : f_X0_isSource S0 p1 = some or_) : Met l yX0_isSource wsX0_isSource ({ frames := 2, cells := 0, slots := 0, locals := 43 }) (va_Pc [.ref a0, .int p1] (fun U => U.heap.size = sz ∧ va_P (dC, dI) vwCl (cX0 a0 h0 y S0) U.heap ∧ va_K (dC, dI) vwCl [(y 0, .int), (y 1, .long), (y 2, .byte), (y 3, .boolean)] U ∧ va_D (fun _ => True) (cX0 a0 h0 y S0))) (va_Qi (fun (r : Int32) (_ : Unit) => r = or_) (fun (_ : Unit) (t : State) => va_P (dC, dI) vwCl (cX0 a0 h0 y S0) t.heap ∧ va_K (dC, dI) vwCl [(y 0, .int), (y 1, .long), (y 2, .byte), (y 3, .boolean)] t ∧ va_D (va_A (cX0 a0 h0 y S0) sz) (cX0 a0 h0 y S0)) (va_A (cX0 a0 h0 y S0) sz)) 0 0 (va_A (cX0 a0 h0 y S0) sz) := by
  refine Met.ofW (cc := cX0_isSource) (maxL := 2) (ret := (some .boolean)) (by decide +kernel) rfl ?_
  intro p e s m args below meth c s₁ B hml hv
  obtain ⟨rfl, hsz, hP, hK, hD0⟩ := hv
  have hx := B.exec
  have hb := B.bytes
  have hr := B.returns
  have hts := atoms_spec (ws := wsX0_isSource) B.pre
  have hown : s.vm.findClass RX0 = some m.cls := findClass_of_methodNamed B.named
  have hlocks := B.notSynchronized
  subst hsz
  have hD := hD0.self (sz := s.heap.size)
  generalize hAe : va_A (cX0 a0 h0 y S0) s.heap.size = A at hD ⊢
  have hA : ∀ q : Nat, s.heap.size ≤ q → A q := fun q h => by rw [← hAe]; exact Or.inr h
  have hS : va_S A s.heap s.heap [] := va_S.rf
  have hP : va_P (dC, dI) vwCl (cX0 a0 h0 y S0) s.heap := hP
  have hl := lv_entry ([.ref a0, .int p1]) (n := 2) (Nat.le_of_ble_eq_true rfl)
  rw [lg_entry_eq]
  generalize (lg_sl ([.ref a0, .int p1]) ++ List.replicate (2 - (lg_sl ([.ref a0, .int p1])).length) Slot.unset).toArray = ls at hl ⊢
  have hl : lv_has ls 2 [(0, .ref a0), (1, .int p1)] := hl
  refine lv_aload_n hx hb dX0_isSource_0 rfl (lv_at hl 0 rfl) ?_
  refine lv_iload_n hx hb dX0_isSource_1 rfl (lv_at hl 1 rfl) ?_
  refine lv_iconst (v := 0) hx hb dX0_isSource_2 (by decide) ?_
  obtain ⟨r1, hc2, h⟩ := zB_spec h
  have hFc := zFree hD hS hA
  refine va_calli (va_runV (As := [.int p1, .int 0]) (rest := []) ⟨hx, hb, hml, hown, hts⟩ (m_X0_isKind l dC dI y a0 h0 S0 p1 (0 : Int32) s.heap.size r1 hc2) (cwV 2 hts gX0_isSource_X0_isKind rfl rfl rfl (by decide +kernel) ⟨Nat.le_of_ble_eq_true rfl, Nat.le_of_ble_eq_true rfl⟩) ⟨fun a U g mk q => by obtain ⟨q0, q1, qP, qK, qD⟩ := q; exact ⟨q0, q1, qP, va_K.moved (u := U) (U := U.calling g mk a) (Vm.Alike.refl U.vm) qK, qD⟩, va_recv hK hP (ci := 0) (q0 := 0) rfl rfl, fun U hU hW => ⟨rfl, by rw [hU], by rw [hU]; exact hP, va_K.moved hW.alike hK, hD.weaken (fun _ _ _ _ => trivial)⟩⟩ rfl rfl hl.1 rfl (lv_room (Nat.le_of_ble_eq_true rfl)) dX0_isSource_3 ⟨Nat.le_of_ble_eq_true rfl, Nat.le_of_ble_eq_true rfl⟩) hS (fun q _ h => hFc q h) hFc (fun rr4 u t H3 locs ht hvm hw hB hz1 hk1 hS => ?_)
  obtain ⟨hP1, hK1, hD1⟩ := hB
  rw [ht] at hP1
  refine zTopi hw.symm ?_
  have hP := hP1
  have hD := hD1.weaken (fun _ q _ h => hFc q.1 h)
  have hP : va_P (dC, dI) vwCl (cX0 a0 h0 y S0) H3 := hP
  have hD : va_D A (cX0 a0 h0 y S0) := hD
  refine lv_if_ne (tgt := 18) hx hb dX0_isSource_6 (by decide) (fun c5 => ?_) (fun c5 => ?_)
  · have h := zN c5 h
    refine lv_iconst (v := 1) hx hb dX0_isSource_18 (by decide) ?_
    refine lv_goto (tgt := 23) hx hb dX0_isSource_19 (by decide) ?_
    have ho0 : (1 : Int32) = or_ := congrArg (fun z : Int32 => z) (Option.some.inj h)
    exact W.zret (v := 1) hx hb hr (by decide) (fun t ht hW => ⟨⟨1, (), rfl, ho0, by rw [ht]; exact hP, va_K.moved hW.alike hK, hD⟩, hS.F ht⟩) hS.2.2 dX0_isSource_23
  · have h := zY c5 h
    refine lv_aload_n hx hb dX0_isSource_9 rfl (lv_at hl 0 rfl) ?_
    refine lv_iload_n hx hb dX0_isSource_10 rfl (lv_at hl 1 rfl) ?_
    refine lv_iconst (v := 3) hx hb dX0_isSource_11 (by decide) ?_
    obtain ⟨r6, hc7, h⟩ := zB_spec h
    have hFc := zFree hD hS hA
    refine va_calli (va_runV (As := [.int p1, .int 3]) (rest := []) ⟨hx, hb, hml, hown, hts⟩ (m_X0_isKind l dC dI y a0 h0 S0 p1 (3 : Int32) H3.size r6 hc7) (cwV 2 hts gX0_isSource_X0_isKind rfl rfl rfl (by decide +kernel) ⟨Nat.le_of_ble_eq_true rfl, Nat.le_of_ble_eq_true rfl⟩) ⟨fun a U g mk q => by obtain ⟨q0, q1, qP, qK, qD⟩ := q; exact ⟨q0, q1, qP, va_K.moved (u := U) (U := U.calling g mk a) (Vm.Alike.refl U.vm) qK, qD⟩, va_recv hK hP (ci := 0) (q0 := 0) rfl rfl, fun U hU hW => ⟨rfl, by rw [hU], by rw [hU]; exact hP, va_K.moved hW.alike hK, hD.weaken (fun _ _ _ _ => trivial)⟩⟩ rfl rfl hl.1 rfl (lv_room (Nat.le_of_ble_eq_true rfl)) dX0_isSource_12 ⟨Nat.le_of_ble_eq_true rfl, Nat.le_of_ble_eq_true rfl⟩) hS (fun q _ h => hFc q h) hFc (fun rr9 u t H8 locs ht hvm hw hB hz1 hk1 hS => ?_)
    obtain ⟨hP1, hK1, hD1⟩ := hB
    rw [ht] at hP1
    refine zTopi hw.symm ?_
    have hP := hP1
    have hD := hD1.weaken (fun _ q _ h => hFc q.1 h)
    have hP : va_P (dC, dI) vwCl (cX0 a0 h0 y S0) H8 := hP
    have hD : va_D A (cX0 a0 h0 y S0) := hD
    refine lv_if_eq (tgt := 22) hx hb dX0_isSource_15 (by decide) (fun c10 => ?_) (fun c10 => ?_)
    · have h := zY c10 h
      refine lv_iconst (v := 0) hx hb dX0_isSource_22 (by decide) ?_
      have ho0 : (0 : Int32) = or_ := congrArg (fun z : Int32 => z) (Option.some.inj h)
      exact W.zret (v := 0) hx hb hr (by decide) (fun t ht hW => ⟨⟨0, (), rfl, ho0, by rw [ht]; exact hP, va_K.moved hW.alike hK, hD⟩, hS.F ht⟩) hS.2.2 dX0_isSource_23
    · have h := zN c10 h
      refine lv_iconst (v := 1) hx hb dX0_isSource_18 (by decide) ?_
      refine lv_goto (tgt := 23) hx hb dX0_isSource_19 (by decide) ?_
      have ho0 : (1 : Int32) = or_ := congrArg (fun z : Int32 => z) (Option.some.inj h)
      exact W.zret (v := 1) hx hb hr (by decide) (fun t ht hW => ⟨⟨1, (), rfl, ho0, by rw [ht]; exact hP, va_K.moved hW.alike hK, hD⟩, hS.F ht⟩) hS.2.2 dX0_isSource_23

set_option maxHeartbeats 4000000 in
set_option maxRecDepth 100000 in
theorem m_X0_find (l : Launch) (dC : Nat → ClassId) (dI : Nat → Nat → Nat) (y : Nat → ClassId) (a0 : Nat) (h0 : Nat → Nat) (S0 : SS) (p1 : Int64) (sz : Nat) (or_ : Int32) (h : f_X0_find S0 p1 = some or_) : Met l yX0_find wsX0_find ({ frames := 0, cells := 0, slots := 0, locals := 0 }) (va_Pc [.ref a0, .long p1] (fun U => U.heap.size = sz ∧ va_P (dC, dI) vwCl (cX0 a0 h0 y S0) U.heap ∧ va_K (dC, dI) vwCl [(y 0, .int), (y 1, .long), (y 2, .byte), (y 3, .boolean)] U ∧ va_D (fun _ => True) (cX0 a0 h0 y S0))) (va_Qi (fun (r : Int32) (_ : Unit) => r = or_) (fun (_ : Unit) (t : State) => va_P (dC, dI) vwCl (cX0 a0 h0 y S0) t.heap ∧ va_K (dC, dI) vwCl [(y 0, .int), (y 1, .long), (y 2, .byte), (y 3, .boolean)] t ∧ va_D (va_A (cX0 a0 h0 y S0) sz) (cX0 a0 h0 y S0)) (va_A (cX0 a0 h0 y S0) sz)) 0 0 (va_A (cX0 a0 h0 y S0) sz) := by
  refine Met.ofW (cc := cX0_find) (maxL := 4) (ret := (some .int)) (by decide +kernel) rfl ?_
  intro p e s m args below meth c s₁ B hml hv
  obtain ⟨rfl, hsz, hP, hK, hD0⟩ := hv
  have hx := B.exec
  have hb := B.bytes
  have hr := B.returns
  have hts := atoms_spec (ws := wsX0_find) B.pre
  have hown : s.vm.findClass RX0 = some m.cls := findClass_of_methodNamed B.named
  have hlocks := B.notSynchronized
  have inX0_ : ∀ w ∈ wsX00, w ∈ wsX0_find := fun _ h => List.mem_cons_of_mem _ (List.mem_append_right _ h)
  subst hsz
  have hD := hD0.self (sz := s.heap.size)
  generalize hAe : va_A (cX0 a0 h0 y S0) s.heap.size = A at hD ⊢
  have hA : ∀ q : Nat, s.heap.size ≤ q → A q := fun q h => by rw [← hAe]; exact Or.inr h
  have hS : va_S A s.heap s.heap [] := va_S.rf
  have hP : va_P (dC, dI) vwCl (cX0 a0 h0 y S0) s.heap := hP
  have hl := lv_entry ([.ref a0, .long p1]) (n := 4) (Nat.le_of_ble_eq_true rfl)
  rw [lg_entry_eq]
  generalize (lg_sl ([.ref a0, .long p1]) ++ List.replicate (4 - (lg_sl ([.ref a0, .long p1])).length) Slot.unset).toArray = ls at hl ⊢
  have hl : lv_has ls 4 [(0, .ref a0), (1, .long p1)] := hl
  refine lv_iconst (v := 0) hx hb dX0_find_0 (by decide) ?_
  refine lv_istore_n (lv' := [(3, .int 0), (0, .ref a0), (1, .long p1)]) hx hb dX0_find_1 rfl hl (by decide) rfl (fun ls hl => ?_)
  refine W_abs (fun GW1 eG2 => ?_)
  have hi6 := h
  have lp4 : ∀ (n : Nat) (v10 : Int32) (HGW1 : Heap) (locs : List Loc) (ls : Array Slot), zI (b_X0_find_2 S0 p1) n v10 = some or_ → va_P (dC, dI) vwCl (cX0 a0 h0 y S0) HGW1 → va_D A (cX0 a0 h0 y S0) → va_S A s.heap HGW1 locs → lv_has ls 4 [(0, .ref a0), (1, .long p1), (3, .int v10)] → GW1 HGW1 locs 0 0 (F0 m 2 ls []) := by
    intro n
    induction n with
    | zero =>
      intro v10 HGW1 locs ls hi6 hP hD hS hl
      exact (zI_0 hi6).elim
    | succ n ihlp4 =>
      intro v10 HGW1 locs ls hi6 hP hD hS hl
      refine (eG2 _ _ _ _ _).mpr ?_
      obtain ⟨xx9, h, hx8⟩ := zI_spec hi6
      refine lv_iload_n hx hb dX0_find_2 rfl (lv_at hl 2 rfl) ?_
      refine lv_aload_n hx hb dX0_find_3 rfl (lv_at hl 0 rfl) ?_
      refine va_get (D := (dC, dI)) (ci := 0) (v := .int (gI S0 0)) (C := RX0) (T := TX0) (N := 13) hx hb hts inX0_ hown hK hP 0 rfl rfl 0 (by decide) (hts (.fieldLink RX0 46 "GateWheel$Circuit" "count" "I") (List.mem_of_getElem? (i := 1) rfl)) (fun _ h9 => h9) rfl dX0_find_4 ?_
      refine lv_icmp_ge (tgt := 29) hx hb dX0_find_7 (by decide) (fun c11 => ?_) (fun c11 => ?_)
      · have h := zY c11 h
        refine lv_iconst (v := (-1)) hx hb dX0_find_29 (by decide) ?_
        have h := congrArg some (zI_r h hx8)
        have ho0 : (-1 : Int32) = or_ := congrArg (fun z : Int32 => z) (Option.some.inj h)
        exact W.iret (v := (-1)) hx hb hr (fun t ht hW => ⟨⟨(-1), (), rfl, ho0, by rw [ht]; exact hP, va_K.moved hW.alike hK, hD⟩, hS.F ht⟩) hS.2.2 dX0_find_30
      · have h := zN c11 h
        refine lv_aload_n hx hb dX0_find_10 rfl (lv_at hl 0 rfl) ?_
        refine va_get (D := (dC, dI)) (ci := 0) (v := .ref (h0 2)) (C := RX0) (T := TX0) (N := 13) hx hb hts inX0_ hown hK hP 0 rfl rfl 2 (by decide) (hts (.fieldLink RX0 9 "GateWheel$Circuit" "names" "[J") (List.mem_of_getElem? (i := 2) rfl)) (fun _ h9 => h9) rfl dX0_find_11 ?_
        refine lv_iload_n hx hb dX0_find_14 rfl (lv_at hl 2 rfl) ?_
        obtain ⟨hi12, h⟩ := zG_spec h
        refine va_lald hx hb hK hP 1 1 rfl rfl hi12 dX0_find_15 ?_
        refine lv_lload_n hx hb dX0_find_16 rfl (lv_at hl 1 rfl) ?_
        refine W.lcmp hx hb dX0_find_17 ?_
        refine lv_if_ne (tgt := 23) hx hb dX0_find_18 (by decide) (fun c13 => ?_) (fun c13 => ?_)
        · have h := zN c13 h
          obtain ⟨v14, ev14, h⟩ := zL_spec h
          refine lv_iinc (v := v14) (lv' := [(3, .int v14), (0, .ref a0), (1, .long p1)]) hx hb dX0_find_23 hl (k := 2) rfl (by rw [ev14]; rfl) (by decide) rfl (fun ls hl => ?_)
          refine lv_goto (tgt := 2) hx hb dX0_find_26 (by decide) ?_
          have h := zI_l h hx8
          exact (eG2 _ _ _ _ _).mp (ihlp4 v14 _ _ _ h hP hD hS (lv_sub hl [1, 2, 0] rfl))
        · have h := zY c13 h
          refine lv_iload_n hx hb dX0_find_21 rfl (lv_at hl 2 rfl) ?_
          have h := congrArg some (zI_r h hx8)
          have ho0 : v10 = or_ := congrArg (fun z : Int32 => z) (Option.some.inj h)
          exact W.iret (v := v10) hx hb hr (fun t ht hW => ⟨⟨v10, (), rfl, ho0, by rw [ht]; exact hP, va_K.moved hW.alike hK, hD⟩, hS.F ht⟩) hS.2.2 dX0_find_22
  exact lp4 zF (0 : Int32) _ _ _ hi6 hP hD hS (lv_sub hl [1, 2, 0] rfl)

set_option maxHeartbeats 4000000 in
set_option maxRecDepth 100000 in
theorem m_X0_add (l : Launch) (dC : Nat → ClassId) (dI : Nat → Nat → Nat) (y : Nat → ClassId) (a0 : Nat) (h0 : Nat → Nat) (S0 : SS) (p1 : Int64) (p2 : Int32) (p3 : Int32) (sz : Nat) (o_0 : SS) (h : f_X0_add S0 p1 p2 p3 = some o_0) : Met l yX0_add wsX0_add ({ frames := 0, cells := 0, slots := 0, locals := 0 }) (va_Pc [.ref a0, .long p1, .int p2, .int p3] (fun U => U.heap.size = sz ∧ va_P (dC, dI) vwCl (cX0 a0 h0 y S0) U.heap ∧ va_K (dC, dI) vwCl [(y 0, .int), (y 1, .long), (y 2, .byte), (y 3, .boolean)] U ∧ va_D (fun _ => True) (cX0 a0 h0 y S0))) (va_Qv (fun (_ : Unit) => True) (fun (_ : Unit) (t : State) => va_P (dC, dI) vwCl (cX0 a0 h0 y o_0) t.heap ∧ va_K (dC, dI) vwCl [(y 0, .int), (y 1, .long), (y 2, .byte), (y 3, .boolean)] t ∧ va_D (va_A (cX0 a0 h0 y S0) sz) (cX0 a0 h0 y o_0)) (va_A (cX0 a0 h0 y S0) sz)) 0 0 (va_A (cX0 a0 h0 y S0) sz) := by
  refine Met.ofW (cc := cX0_add) (maxL := 5) (ret := none) (by decide +kernel) rfl ?_
  intro p e s m args below meth c s₁ B hml hv
  obtain ⟨rfl, hsz, hP, hK, hD0⟩ := hv
  have hx := B.exec
  have hb := B.bytes
  have hr := B.returns
  have hts := atoms_spec (ws := wsX0_add) B.pre
  have hown : s.vm.findClass RX0 = some m.cls := findClass_of_methodNamed B.named
  have hlocks := B.notSynchronized
  have inX0_ : ∀ w ∈ wsX00, w ∈ wsX0_add := fun _ h => List.mem_cons_of_mem _ (List.mem_append_right _ h)
  subst hsz
  have hD := hD0.self (sz := s.heap.size)
  generalize hAe : va_A (cX0 a0 h0 y S0) s.heap.size = A at hD ⊢
  have hA : ∀ q : Nat, s.heap.size ≤ q → A q := fun q h => by rw [← hAe]; exact Or.inr h
  have hS : va_S A s.heap s.heap [] := va_S.rf
  have hP : va_P (dC, dI) vwCl (cX0 a0 h0 y S0) s.heap := hP
  have hl := lv_entry ([.ref a0, .long p1, .int p2, .int p3]) (n := 5) (Nat.le_of_ble_eq_true rfl)
  rw [lg_entry_eq]
  generalize (lg_sl ([.ref a0, .long p1, .int p2, .int p3]) ++ List.replicate (5 - (lg_sl ([.ref a0, .long p1, .int p2, .int p3])).length) Slot.unset).toArray = ls at hl ⊢
  have hl : lv_has ls 5 [(0, .ref a0), (1, .long p1), (3, .int p2), (4, .int p3)] := hl
  refine lv_aload_n hx hb dX0_add_0 rfl (lv_at hl 0 rfl) ?_
  refine va_get (D := (dC, dI)) (ci := 0) (v := .int (gI S0 0)) (C := RX0) (T := TX0) (N := 13) hx hb hts inX0_ hown hK hP 0 rfl rfl 0 (by decide) (hts (.fieldLink RX0 46 "GateWheel$Circuit" "count" "I") (List.mem_of_getElem? (i := 1) rfl)) (fun _ h9 => h9) rfl dX0_add_1 ?_
  refine lv_bipush (v := 60) hx hb dX0_add_4 (by decide) ?_
  refine lv_icmp_lt (tgt := 10) hx hb dX0_add_6 (by decide) (fun c1 => ?_) (fun c1 => ?_)
  · have h := zY c1 h
    refine lv_aload_n hx hb dX0_add_10 rfl (lv_at hl 0 rfl) ?_
    refine va_get (D := (dC, dI)) (ci := 0) (v := .ref (h0 2)) (C := RX0) (T := TX0) (N := 13) hx hb hts inX0_ hown hK hP 0 rfl rfl 2 (by decide) (hts (.fieldLink RX0 9 "GateWheel$Circuit" "names" "[J") (List.mem_of_getElem? (i := 2) rfl)) (fun _ h9 => h9) rfl dX0_add_11 ?_
    refine lv_aload_n hx hb dX0_add_14 rfl (lv_at hl 0 rfl) ?_
    refine va_get (D := (dC, dI)) (ci := 0) (v := .int (gI S0 0)) (C := RX0) (T := TX0) (N := 13) hx hb hts inX0_ hown hK hP 0 rfl rfl 0 (by decide) (hts (.fieldLink RX0 46 "GateWheel$Circuit" "count" "I") (List.mem_of_getElem? (i := 1) rfl)) (fun _ h9 => h9) rfl dX0_add_15 ?_
    refine lv_lload_n hx hb dX0_add_18 rfl (lv_at hl 1 rfl) ?_
    obtain ⟨hi2, h⟩ := zG_spec h
    refine va_last hx hb hK hP hD hS 1 1 rfl rfl hi2 dX0_add_19 (fun H3 locs hP hD hS => ?_)
    obtain ⟨s0_4, es0_4, h⟩ := zL_spec h
    have hP : va_P (dC, dI) vwCl (cX0 a0 h0 y s0_4) H3 := by rw [es0_4]; exact hP
    have hD : va_D A (cX0 a0 h0 y s0_4) := by rw [es0_4]; exact hD
    refine lv_aload_n hx hb dX0_add_20 rfl (lv_at hl 0 rfl) ?_
    refine va_get (D := (dC, dI)) (ci := 0) (v := .ref (h0 3)) (C := RX0) (T := TX0) (N := 13) hx hb hts inX0_ hown hK hP 0 rfl rfl 3 (by decide) (hts (.fieldLink RX0 15 "GateWheel$Circuit" "places" "[I") (List.mem_of_getElem? (i := 3) rfl)) (fun _ h9 => h9) rfl dX0_add_21 ?_
    refine lv_aload_n hx hb dX0_add_24 rfl (lv_at hl 0 rfl) ?_
    refine va_get (D := (dC, dI)) (ci := 0) (v := .int (gI s0_4 0)) (C := RX0) (T := TX0) (N := 13) hx hb hts inX0_ hown hK hP 0 rfl rfl 0 (by decide) (hts (.fieldLink RX0 46 "GateWheel$Circuit" "count" "I") (List.mem_of_getElem? (i := 1) rfl)) (fun _ h9 => h9) rfl dX0_add_25 ?_
    refine lv_iload_n hx hb dX0_add_28 rfl (lv_at hl 2 rfl) ?_
    obtain ⟨hi5, h⟩ := zG_spec h
    refine va_iast hx hb hK hP hD hS 2 0 rfl rfl hi5 dX0_add_29 (fun H6 locs hP hD hS => ?_)
    obtain ⟨s0_7, es0_7, h⟩ := zL_spec h
    have hP : va_P (dC, dI) vwCl (cX0 a0 h0 y s0_7) H6 := by rw [es0_7]; exact hP
    have hD : va_D A (cX0 a0 h0 y s0_7) := by rw [es0_7]; exact hD
    refine lv_aload_n hx hb dX0_add_30 rfl (lv_at hl 0 rfl) ?_
    refine va_get (D := (dC, dI)) (ci := 0) (v := .ref (h0 4)) (C := RX0) (T := TX0) (N := 13) hx hb hts inX0_ hown hK hP 0 rfl rfl 4 (by decide) (hts (.fieldLink RX0 19 "GateWheel$Circuit" "kinds" "[I") (List.mem_of_getElem? (i := 4) rfl)) (fun _ h9 => h9) rfl dX0_add_31 ?_
    refine lv_aload_n hx hb dX0_add_34 rfl (lv_at hl 0 rfl) ?_
    refine va_get (D := (dC, dI)) (ci := 0) (v := .int (gI s0_7 0)) (C := RX0) (T := TX0) (N := 13) hx hb hts inX0_ hown hK hP 0 rfl rfl 0 (by decide) (hts (.fieldLink RX0 46 "GateWheel$Circuit" "count" "I") (List.mem_of_getElem? (i := 1) rfl)) (fun _ h9 => h9) rfl dX0_add_35 ?_
    refine lv_iload hx hb dX0_add_38 (lv_at hl 3 rfl) ?_
    obtain ⟨hi8, h⟩ := zG_spec h
    refine va_iast hx hb hK hP hD hS 3 0 rfl rfl hi8 dX0_add_40 (fun H9 locs hP hD hS => ?_)
    obtain ⟨s0_10, es0_10, h⟩ := zL_spec h
    have hP : va_P (dC, dI) vwCl (cX0 a0 h0 y s0_10) H9 := by rw [es0_10]; exact hP
    have hD : va_D A (cX0 a0 h0 y s0_10) := by rw [es0_10]; exact hD
    refine lv_aload_n hx hb dX0_add_41 rfl (lv_at hl 0 rfl) ?_
    refine va_get (D := (dC, dI)) (ci := 0) (v := .ref (h0 5)) (C := RX0) (T := TX0) (N := 13) hx hb hts inX0_ hown hK hP 0 rfl rfl 5 (by decide) (hts (.fieldLink RX0 22 "GateWheel$Circuit" "gates" "[I") (List.mem_of_getElem? (i := 5) rfl)) (fun _ h9 => h9) rfl dX0_add_42 ?_
    refine lv_aload_n hx hb dX0_add_45 rfl (lv_at hl 0 rfl) ?_
    refine va_get (D := (dC, dI)) (ci := 0) (v := .int (gI s0_10 0)) (C := RX0) (T := TX0) (N := 13) hx hb hts inX0_ hown hK hP 0 rfl rfl 0 (by decide) (hts (.fieldLink RX0 46 "GateWheel$Circuit" "count" "I") (List.mem_of_getElem? (i := 1) rfl)) (fun _ h9 => h9) rfl dX0_add_46 ?_
    refine lv_iconst (v := 0) hx hb dX0_add_49 (by decide) ?_
    obtain ⟨hi11, h⟩ := zG_spec h
    refine va_iast hx hb hK hP hD hS 4 0 rfl rfl hi11 dX0_add_50 (fun H12 locs hP hD hS => ?_)
    obtain ⟨s0_13, es0_13, h⟩ := zL_spec h
    have hP : va_P (dC, dI) vwCl (cX0 a0 h0 y s0_13) H12 := by rw [es0_13]; exact hP
    have hD : va_D A (cX0 a0 h0 y s0_13) := by rw [es0_13]; exact hD
    refine lv_aload_n hx hb dX0_add_51 rfl (lv_at hl 0 rfl) ?_
    refine va_get (D := (dC, dI)) (ci := 0) (v := .ref (h0 6)) (C := RX0) (T := TX0) (N := 13) hx hb hts inX0_ hown hK hP 0 rfl rfl 6 (by decide) (hts (.fieldLink RX0 25 "GateWheel$Circuit" "delays" "[I") (List.mem_of_getElem? (i := 6) rfl)) (fun _ h9 => h9) rfl dX0_add_52 ?_
    refine lv_aload_n hx hb dX0_add_55 rfl (lv_at hl 0 rfl) ?_
    refine va_get (D := (dC, dI)) (ci := 0) (v := .int (gI s0_13 0)) (C := RX0) (T := TX0) (N := 13) hx hb hts inX0_ hown hK hP 0 rfl rfl 0 (by decide) (hts (.fieldLink RX0 46 "GateWheel$Circuit" "count" "I") (List.mem_of_getElem? (i := 1) rfl)) (fun _ h9 => h9) rfl dX0_add_56 ?_
    refine lv_iload hx hb dX0_add_59 (lv_at hl 3 rfl) ?_
    refine lv_iconst (v := 2) hx hb dX0_add_61 (by decide) ?_
    refine W_abs (fun GW14 eG15 => ?_)
    obtain ⟨ov17, hr18, h⟩ := zB_spec h
    have jn16 : ∀ (v20 : Int32) (HGW14 : Heap) (locs : List Loc) (ls : Array Slot), v20 = ov17 → va_P (dC, dI) vwCl (cX0 a0 h0 y s0_13) HGW14 → va_D A (cX0 a0 h0 y s0_13) → va_S A s.heap HGW14 locs → lv_has ls 5 [(0, .ref a0), (4, .int p3)] → GW14 HGW14 locs 0 0 (F0 m 70 ls [.int v20, .int (gI s0_13 0), .ref (h0 6)]) := by
      intro v20 HGW14 locs ls hv hP hD hS hl
      subst hv
      refine (eG15 _ _ _ _ _).mpr ?_
      obtain ⟨hi21, h⟩ := zG_spec h
      refine va_iast hx hb hK hP hD hS 5 0 rfl rfl hi21 dX0_add_70 (fun H22 locs hP hD hS => ?_)
      obtain ⟨s0_23, es0_23, h⟩ := zL_spec h
      have hP : va_P (dC, dI) vwCl (cX0 a0 h0 y s0_23) H22 := by rw [es0_23]; exact hP
      have hD : va_D A (cX0 a0 h0 y s0_23) := by rw [es0_23]; exact hD
      refine lv_aload_n hx hb dX0_add_71 rfl (lv_at hl 0 rfl) ?_
      refine va_get (D := (dC, dI)) (ci := 0) (v := .ref (h0 8)) (C := RX0) (T := TX0) (N := 13) hx hb hts inX0_ hown hK hP 0 rfl rfl 8 (by decide) (hts (.fieldLink RX0 31 "GateWheel$Circuit" "partCounts" "[I") (List.mem_of_getElem? (i := 7) rfl)) (fun _ h9 => h9) rfl dX0_add_72 ?_
      refine lv_aload_n hx hb dX0_add_75 rfl (lv_at hl 0 rfl) ?_
      refine va_get (D := (dC, dI)) (ci := 0) (v := .int (gI s0_23 0)) (C := RX0) (T := TX0) (N := 13) hx hb hts inX0_ hown hK hP 0 rfl rfl 0 (by decide) (hts (.fieldLink RX0 46 "GateWheel$Circuit" "count" "I") (List.mem_of_getElem? (i := 1) rfl)) (fun _ h9 => h9) rfl dX0_add_76 ?_
      refine lv_iconst (v := 0) hx hb dX0_add_79 (by decide) ?_
      obtain ⟨hi24, h⟩ := zG_spec h
      refine va_iast hx hb hK hP hD hS 7 0 rfl rfl hi24 dX0_add_80 (fun H25 locs hP hD hS => ?_)
      obtain ⟨s0_26, es0_26, h⟩ := zL_spec h
      have hP : va_P (dC, dI) vwCl (cX0 a0 h0 y s0_26) H25 := by rw [es0_26]; exact hP
      have hD : va_D A (cX0 a0 h0 y s0_26) := by rw [es0_26]; exact hD
      refine lv_aload_n hx hb dX0_add_81 rfl (lv_at hl 0 rfl) ?_
      refine va_get (D := (dC, dI)) (ci := 0) (v := .ref (h0 9)) (C := RX0) (T := TX0) (N := 13) hx hb hts inX0_ hown hK hP 0 rfl rfl 9 (by decide) (hts (.fieldLink RX0 34 "GateWheel$Circuit" "lows" "[I") (List.mem_of_getElem? (i := 8) rfl)) (fun _ h9 => h9) rfl dX0_add_82 ?_
      refine lv_aload_n hx hb dX0_add_85 rfl (lv_at hl 0 rfl) ?_
      refine va_get (D := (dC, dI)) (ci := 0) (v := .int (gI s0_26 0)) (C := RX0) (T := TX0) (N := 13) hx hb hts inX0_ hown hK hP 0 rfl rfl 0 (by decide) (hts (.fieldLink RX0 46 "GateWheel$Circuit" "count" "I") (List.mem_of_getElem? (i := 1) rfl)) (fun _ h9 => h9) rfl dX0_add_86 ?_
      refine lv_iconst (v := 0) hx hb dX0_add_89 (by decide) ?_
      obtain ⟨hi27, h⟩ := zG_spec h
      refine va_iast hx hb hK hP hD hS 8 0 rfl rfl hi27 dX0_add_90 (fun H28 locs hP hD hS => ?_)
      obtain ⟨s0_29, es0_29, h⟩ := zL_spec h
      have hP : va_P (dC, dI) vwCl (cX0 a0 h0 y s0_29) H28 := by rw [es0_29]; exact hP
      have hD : va_D A (cX0 a0 h0 y s0_29) := by rw [es0_29]; exact hD
      refine lv_aload_n hx hb dX0_add_91 rfl (lv_at hl 0 rfl) ?_
      refine va_get (D := (dC, dI)) (ci := 0) (v := .ref (h0 10)) (C := RX0) (T := TX0) (N := 13) hx hb hts inX0_ hown hK hP 0 rfl rfl 10 (by decide) (hts (.fieldLink RX0 37 "GateWheel$Circuit" "hangs" "[J") (List.mem_of_getElem? (i := 9) rfl)) (fun _ h9 => h9) rfl dX0_add_92 ?_
      refine lv_aload_n hx hb dX0_add_95 rfl (lv_at hl 0 rfl) ?_
      refine va_get (D := (dC, dI)) (ci := 0) (v := .int (gI s0_29 0)) (C := RX0) (T := TX0) (N := 13) hx hb hts inX0_ hown hK hP 0 rfl rfl 0 (by decide) (hts (.fieldLink RX0 46 "GateWheel$Circuit" "count" "I") (List.mem_of_getElem? (i := 1) rfl)) (fun _ h9 => h9) rfl dX0_add_96 ?_
      refine lv_lconst (v := 0) hx hb dX0_add_99 (by decide) ?_
      obtain ⟨hi30, h⟩ := zG_spec h
      refine va_last hx hb hK hP hD hS 9 1 rfl rfl hi30 dX0_add_100 (fun H31 locs hP hD hS => ?_)
      obtain ⟨s0_32, es0_32, h⟩ := zL_spec h
      have hP : va_P (dC, dI) vwCl (cX0 a0 h0 y s0_32) H31 := by rw [es0_32]; exact hP
      have hD : va_D A (cX0 a0 h0 y s0_32) := by rw [es0_32]; exact hD
      refine lv_aload_n hx hb dX0_add_101 rfl (lv_at hl 0 rfl) ?_
      refine va_get (D := (dC, dI)) (ci := 0) (v := .ref (h0 11)) (C := RX0) (T := TX0) (N := 13) hx hb hts inX0_ hown hK hP 0 rfl rfl 11 (by decide) (hts (.fieldLink RX0 40 "GateWheel$Circuit" "levels" "[I") (List.mem_of_getElem? (i := 10) rfl)) (fun _ h9 => h9) rfl dX0_add_102 ?_
      refine lv_aload_n hx hb dX0_add_105 rfl (lv_at hl 0 rfl) ?_
      refine va_get (D := (dC, dI)) (ci := 0) (v := .int (gI s0_32 0)) (C := RX0) (T := TX0) (N := 13) hx hb hts inX0_ hown hK hP 0 rfl rfl 0 (by decide) (hts (.fieldLink RX0 46 "GateWheel$Circuit" "count" "I") (List.mem_of_getElem? (i := 1) rfl)) (fun _ h9 => h9) rfl dX0_add_106 ?_
      refine lv_iconst (v := 0) hx hb dX0_add_109 (by decide) ?_
      obtain ⟨hi33, h⟩ := zG_spec h
      refine va_iast hx hb hK hP hD hS 10 0 rfl rfl hi33 dX0_add_110 (fun H34 locs hP hD hS => ?_)
      obtain ⟨s0_35, es0_35, h⟩ := zL_spec h
      have hP : va_P (dC, dI) vwCl (cX0 a0 h0 y s0_35) H34 := by rw [es0_35]; exact hP
      have hD : va_D A (cX0 a0 h0 y s0_35) := by rw [es0_35]; exact hD
      refine lv_iload hx hb dX0_add_111 (lv_at hl 1 rfl) ?_
      refine lv_iconst (v := 3) hx hb dX0_add_113 (by decide) ?_
      refine W_abs (fun GW36 eG37 => ?_)
      obtain ⟨ov39, hr40, h⟩ := zB_spec h
      have jn38 : ∀ (s0_42 : SS) (HGW36 : Heap) (locs : List Loc) (ls : Array Slot), s0_42 = ov39 → va_P (dC, dI) vwCl (cX0 a0 h0 y s0_42) HGW36 → va_D A (cX0 a0 h0 y s0_42) → va_S A s.heap HGW36 locs → lv_has ls 5 [(0, .ref a0)] → GW36 HGW36 locs 0 0 (F0 m 127 ls []) := by
        intro s0_42 HGW36 locs ls hv hP hD hS hl
        subst hv
        refine (eG37 _ _ _ _ _).mpr ?_
        refine lv_aload_n hx hb dX0_add_127 rfl (lv_at hl 0 rfl) ?_
        refine lv_dup hx hb dX0_add_128 rfl ?_
        refine va_get (D := (dC, dI)) (ci := 0) (v := .int (gI s0_42 0)) (C := RX0) (T := TX0) (N := 13) hx hb hts inX0_ hown hK hP 0 rfl rfl 0 (by decide) (hts (.fieldLink RX0 46 "GateWheel$Circuit" "count" "I") (List.mem_of_getElem? (i := 1) rfl)) (fun _ h9 => h9) rfl dX0_add_129 ?_
        refine lv_iconst (v := 1) hx hb dX0_add_132 (by decide) ?_
        refine lv_iadd hx hb dX0_add_133 ?_
        refine va_put (D := (dC, dI)) (ci := 0) (v := .int ((gI s0_42 0) + (1 : Int32))) (ty := .int) (C := RX0) (T := TX0) (N := 13) hx hb hts inX0_ tyX0 tyX0_ok nmX0 hown hK hP hD hS 0 rfl rfl 0 (by decide) (hts (.fieldLink RX0 46 "GateWheel$Circuit" "count" "I") (List.mem_of_getElem? (i := 1) rfl)) (fun _ h9 => h9) rfl (by decide +kernel) rfl rfl (Nat.le_of_ble_eq_true rfl) dX0_add_134 (fun H43 locs hP hD hS => ?_)
        obtain ⟨s0_44, es0_44, h⟩ := zL_spec h
        have hP : va_P (dC, dI) vwCl (cX0 a0 h0 y s0_44) H43 := by rw [es0_44]; exact hP
        have hD : va_D A (cX0 a0 h0 y s0_44) := by rw [es0_44]; exact hD
        have ho0 : s0_44 = o_0 := congrArg (fun z : SS => z) (Option.some.inj h)
        exact W.vret hx hb hr (fun t ht hW => ⟨⟨(), rfl, trivial, by rw [ht]; rw [← ho0]; exact hP, va_K.moved hW.alike hK, by rw [← ho0]; exact hD⟩, hS.F ht⟩) hS.2.2 dX0_add_137
      refine (eG37 _ _ _ _ _).mpr ?_
      have h := hr40
      refine lv_icmp_ne (tgt := 127) hx hb dX0_add_114 (by decide) (fun c45 => ?_) (fun c45 => ?_)
      · have h := zN c45 h
        exact (eG37 _ _ _ _ _).mp (jn38 s0_35 _ _ _ (Option.some.inj h) hP hD hS (lv_sub hl [0] rfl))
      · have h := zY c45 h
        refine lv_aload_n hx hb dX0_add_117 rfl (lv_at hl 0 rfl) ?_
        refine lv_dup hx hb dX0_add_118 rfl ?_
        refine va_get (D := (dC, dI)) (ci := 0) (v := .int (gI s0_35 1)) (C := RX0) (T := TX0) (N := 13) hx hb hts inX0_ hown hK hP 0 rfl rfl 1 (by decide) (hts (.fieldLink RX0 50 "GateWheel$Circuit" "registers" "I") (List.mem_of_getElem? (i := 11) rfl)) (fun _ h9 => h9) rfl dX0_add_119 ?_
        refine lv_iconst (v := 1) hx hb dX0_add_122 (by decide) ?_
        refine lv_iadd hx hb dX0_add_123 ?_
        refine va_put (D := (dC, dI)) (ci := 0) (v := .int ((gI s0_35 1) + (1 : Int32))) (ty := .int) (C := RX0) (T := TX0) (N := 13) hx hb hts inX0_ tyX0 tyX0_ok nmX0 hown hK hP hD hS 0 rfl rfl 1 (by decide) (hts (.fieldLink RX0 50 "GateWheel$Circuit" "registers" "I") (List.mem_of_getElem? (i := 11) rfl)) (fun _ h9 => h9) rfl (by decide +kernel) rfl rfl (Nat.le_of_ble_eq_true rfl) dX0_add_124 (fun H46 locs hP hD hS => ?_)
        obtain ⟨s0_47, es0_47, h⟩ := zL_spec h
        have hP : va_P (dC, dI) vwCl (cX0 a0 h0 y s0_47) H46 := by rw [es0_47]; exact hP
        have hD : va_D A (cX0 a0 h0 y s0_47) := by rw [es0_47]; exact hD
        exact (eG37 _ _ _ _ _).mp (jn38 s0_47 _ _ _ (Option.some.inj h) hP hD hS (lv_sub hl [0] rfl))
    refine (eG15 _ _ _ _ _).mpr ?_
    have h := hr18
    refine lv_icmp_ne (tgt := 69) hx hb dX0_add_62 (by decide) (fun c48 => ?_) (fun c48 => ?_)
    · have h := zN c48 h
      refine lv_iconst (v := 0) hx hb dX0_add_69 (by decide) ?_
      exact (eG15 _ _ _ _ _).mp (jn16 (0 : Int32) _ _ _ (Option.some.inj h) hP hD hS (lv_sub hl [0, 3] rfl))
    · have h := zY c48 h
      refine lv_iconst (v := 1) hx hb dX0_add_65 (by decide) ?_
      refine lv_goto (tgt := 70) hx hb dX0_add_66 (by decide) ?_
      exact (eG15 _ _ _ _ _).mp (jn16 (1 : Int32) _ _ _ (Option.some.inj h) hP hD hS (lv_sub hl [0, 3] rfl))
  · have h := zN c1 h
    have ho0 : S0 = o_0 := congrArg (fun z : SS => z) (Option.some.inj h)
    exact W.vret hx hb hr (fun t ht hW => ⟨⟨(), rfl, trivial, by rw [ht]; rw [← ho0]; exact hP, va_K.moved hW.alike hK, by rw [← ho0]; exact hD⟩, hS.F ht⟩) hS.2.2 dX0_add_9

set_option maxHeartbeats 4000000 in
set_option maxRecDepth 100000 in
theorem m_X0_addPart (l : Launch) (dC : Nat → ClassId) (dI : Nat → Nat → Nat) (y : Nat → ClassId) (a0 : Nat) (h0 : Nat → Nat) (S0 : SS) (p1 : Int32) (p2 : Int32) (sz : Nat) (o_0 : SS) (h : f_X0_addPart S0 p1 p2 = some o_0) : Met l yX0_addPart wsX0_addPart ({ frames := 1, cells := 0, slots := 0, locals := 21 }) (va_Pc [.ref a0, .int p1, .int p2] (fun U => U.heap.size = sz ∧ va_P (dC, dI) vwCl (cX0 a0 h0 y S0) U.heap ∧ va_K (dC, dI) vwCl [(y 0, .int), (y 1, .long), (y 2, .byte), (y 3, .boolean)] U ∧ va_D (fun _ => True) (cX0 a0 h0 y S0))) (va_Qv (fun (_ : Unit) => True) (fun (_ : Unit) (t : State) => va_P (dC, dI) vwCl (cX0 a0 h0 y o_0) t.heap ∧ va_K (dC, dI) vwCl [(y 0, .int), (y 1, .long), (y 2, .byte), (y 3, .boolean)] t ∧ va_D (va_A (cX0 a0 h0 y S0) sz) (cX0 a0 h0 y o_0)) (va_A (cX0 a0 h0 y S0) sz)) 0 0 (va_A (cX0 a0 h0 y S0) sz) := by
  refine Met.ofW (cc := cX0_addPart) (maxL := 3) (ret := none) (by decide +kernel) rfl ?_
  intro p e s m args below meth c s₁ B hml hv
  obtain ⟨rfl, hsz, hP, hK, hD0⟩ := hv
  have hx := B.exec
  have hb := B.bytes
  have hr := B.returns
  have hts := atoms_spec (ws := wsX0_addPart) B.pre
  have hown : s.vm.findClass RX0 = some m.cls := findClass_of_methodNamed B.named
  have hlocks := B.notSynchronized
  have inX0_ : ∀ w ∈ wsX00, w ∈ wsX0_addPart := fun _ h => List.mem_cons_of_mem _ (List.mem_append_right _ h)
  subst hsz
  have hD := hD0.self (sz := s.heap.size)
  generalize hAe : va_A (cX0 a0 h0 y S0) s.heap.size = A at hD ⊢
  have hA : ∀ q : Nat, s.heap.size ≤ q → A q := fun q h => by rw [← hAe]; exact Or.inr h
  have hS : va_S A s.heap s.heap [] := va_S.rf
  have hP : va_P (dC, dI) vwCl (cX0 a0 h0 y S0) s.heap := hP
  have hl := lv_entry ([.ref a0, .int p1, .int p2]) (n := 3) (Nat.le_of_ble_eq_true rfl)
  rw [lg_entry_eq]
  generalize (lg_sl ([.ref a0, .int p1, .int p2]) ++ List.replicate (3 - (lg_sl ([.ref a0, .int p1, .int p2])).length) Slot.unset).toArray = ls at hl ⊢
  have hl : lv_has ls 3 [(0, .ref a0), (1, .int p1), (2, .int p2)] := hl
  refine lv_aload_n hx hb dX0_addPart_0 rfl (lv_at hl 0 rfl) ?_
  refine lv_iload_n hx hb dX0_addPart_1 rfl (lv_at hl 1 rfl) ?_
  obtain ⟨r1, hc2, h⟩ := zB_spec h
  have hFc := zFree hD hS hA
  refine va_calli (va_runV (As := [.int p1]) (rest := []) ⟨hx, hb, hml, hown, hts⟩ (m_X0_has l dC dI y a0 h0 S0 p1 s.heap.size r1 hc2) (cwV 1 hts gX0_addPart_X0_has rfl rfl rfl (by decide +kernel) ⟨Nat.le_of_ble_eq_true rfl, Nat.le_of_ble_eq_true rfl⟩) ⟨fun a U g mk q => by obtain ⟨q0, q1, qP, qK, qD⟩ := q; exact ⟨q0, q1, qP, va_K.moved (u := U) (U := U.calling g mk a) (Vm.Alike.refl U.vm) qK, qD⟩, va_recv hK hP (ci := 0) (q0 := 0) rfl rfl, fun U hU hW => ⟨rfl, by rw [hU], by rw [hU]; exact hP, va_K.moved hW.alike hK, hD.weaken (fun _ _ _ _ => trivial)⟩⟩ rfl rfl hl.1 rfl (lv_room (Nat.le_of_ble_eq_true rfl)) dX0_addPart_2 ⟨Nat.le_of_ble_eq_true rfl, Nat.le_of_ble_eq_true rfl⟩) hS (fun q _ h => hFc q h) hFc (fun rr4 u t H3 locs ht hvm hw hB hz1 hk1 hS => ?_)
  obtain ⟨hP1, hK1, hD1⟩ := hB
  rw [ht] at hP1
  refine zTopi hw.symm ?_
  have hP := hP1
  have hD := hD1.weaken (fun _ q _ h => hFc q.1 h)
  have hP : va_P (dC, dI) vwCl (cX0 a0 h0 y S0) H3 := hP
  have hD : va_D A (cX0 a0 h0 y S0) := hD
  refine lv_if_eq (tgt := 27) hx hb dX0_addPart_5 (by decide) (fun c5 => ?_) (fun c5 => ?_)
  · have h := zY c5 h
    have ho0 : S0 = o_0 := congrArg (fun z : SS => z) (Option.some.inj h)
    exact W.vret hx hb hr (fun t ht hW => ⟨⟨(), rfl, trivial, by rw [ht]; rw [← ho0]; exact hP, va_K.moved hW.alike hK, by rw [← ho0]; exact hD⟩, hS.F ht⟩) hS.2.2 dX0_addPart_27
  · have h := zN c5 h
    refine lv_aload_n hx hb dX0_addPart_8 rfl (lv_at hl 0 rfl) ?_
    refine lv_iload_n hx hb dX0_addPart_9 rfl (lv_at hl 2 rfl) ?_
    obtain ⟨r6, hc7, h⟩ := zB_spec h
    have hFc := zFree hD hS hA
    refine va_calli (va_runV (As := [.int p2]) (rest := []) ⟨hx, hb, hml, hown, hts⟩ (m_X0_has l dC dI y a0 h0 S0 p2 H3.size r6 hc7) (cwV 1 hts gX0_addPart_X0_has rfl rfl rfl (by decide +kernel) ⟨Nat.le_of_ble_eq_true rfl, Nat.le_of_ble_eq_true rfl⟩) ⟨fun a U g mk q => by obtain ⟨q0, q1, qP, qK, qD⟩ := q; exact ⟨q0, q1, qP, va_K.moved (u := U) (U := U.calling g mk a) (Vm.Alike.refl U.vm) qK, qD⟩, va_recv hK hP (ci := 0) (q0 := 0) rfl rfl, fun U hU hW => ⟨rfl, by rw [hU], by rw [hU]; exact hP, va_K.moved hW.alike hK, hD.weaken (fun _ _ _ _ => trivial)⟩⟩ rfl rfl hl.1 rfl (lv_room (Nat.le_of_ble_eq_true rfl)) dX0_addPart_10 ⟨Nat.le_of_ble_eq_true rfl, Nat.le_of_ble_eq_true rfl⟩) hS (fun q _ h => hFc q h) hFc (fun rr9 u t H8 locs ht hvm hw hB hz1 hk1 hS => ?_)
    obtain ⟨hP1, hK1, hD1⟩ := hB
    rw [ht] at hP1
    refine zTopi hw.symm ?_
    have hP := hP1
    have hD := hD1.weaken (fun _ q _ h => hFc q.1 h)
    have hP : va_P (dC, dI) vwCl (cX0 a0 h0 y S0) H8 := hP
    have hD : va_D A (cX0 a0 h0 y S0) := hD
    refine lv_if_eq (tgt := 27) hx hb dX0_addPart_13 (by decide) (fun c10 => ?_) (fun c10 => ?_)
    · have h := zY c10 h
      have ho0 : S0 = o_0 := congrArg (fun z : SS => z) (Option.some.inj h)
      exact W.vret hx hb hr (fun t ht hW => ⟨⟨(), rfl, trivial, by rw [ht]; rw [← ho0]; exact hP, va_K.moved hW.alike hK, by rw [← ho0]; exact hD⟩, hS.F ht⟩) hS.2.2 dX0_addPart_27
    · have h := zN c10 h
      refine lv_aload_n hx hb dX0_addPart_16 rfl (lv_at hl 0 rfl) ?_
      refine va_get (D := (dC, dI)) (ci := 0) (v := .ref (h0 8)) (C := RX0) (T := TX0) (N := 13) hx hb hts inX0_ hown hK hP 0 rfl rfl 8 (by decide) (hts (.fieldLink RX0 31 "GateWheel$Circuit" "partCounts" "[I") (List.mem_of_getElem? (i := 1) rfl)) (fun _ h9 => h9) rfl dX0_addPart_17 ?_
      refine lv_iload_n hx hb dX0_addPart_20 rfl (lv_at hl 1 rfl) ?_
      obtain ⟨hi11, h⟩ := zG_spec h
      refine va_iald hx hb hK hP 7 0 rfl rfl hi11 dX0_addPart_21 ?_
      refine lv_bipush (v := 12) hx hb dX0_addPart_22 (by decide) ?_
      refine lv_icmp_lt (tgt := 28) hx hb dX0_addPart_24 (by decide) (fun c12 => ?_) (fun c12 => ?_)
      · have h := zY c12 h
        refine lv_aload_n hx hb dX0_addPart_28 rfl (lv_at hl 0 rfl) ?_
        refine va_get (D := (dC, dI)) (ci := 0) (v := .ref (h0 7)) (C := RX0) (T := TX0) (N := 13) hx hb hts inX0_ hown hK hP 0 rfl rfl 7 (by decide) (hts (.fieldLink RX0 28 "GateWheel$Circuit" "parts" "[I") (List.mem_of_getElem? (i := 2) rfl)) (fun _ h9 => h9) rfl dX0_addPart_29 ?_
        refine lv_iload_n hx hb dX0_addPart_32 rfl (lv_at hl 1 rfl) ?_
        refine lv_bipush (v := 12) hx hb dX0_addPart_33 (by decide) ?_
        refine lv_imul hx hb dX0_addPart_35 ?_
        refine lv_aload_n hx hb dX0_addPart_36 rfl (lv_at hl 0 rfl) ?_
        refine va_get (D := (dC, dI)) (ci := 0) (v := .ref (h0 8)) (C := RX0) (T := TX0) (N := 13) hx hb hts inX0_ hown hK hP 0 rfl rfl 8 (by decide) (hts (.fieldLink RX0 31 "GateWheel$Circuit" "partCounts" "[I") (List.mem_of_getElem? (i := 1) rfl)) (fun _ h9 => h9) rfl dX0_addPart_37 ?_
        refine lv_iload_n hx hb dX0_addPart_40 rfl (lv_at hl 1 rfl) ?_
        refine va_iald hx hb hK hP 7 0 rfl rfl hi11 dX0_addPart_41 ?_
        refine lv_iadd hx hb dX0_addPart_42 ?_
        refine lv_iload_n hx hb dX0_addPart_43 rfl (lv_at hl 2 rfl) ?_
        obtain ⟨hi13, h⟩ := zG_spec h
        refine va_iast hx hb hK hP hD hS 6 0 rfl rfl hi13 dX0_addPart_44 (fun H14 locs hP hD hS => ?_)
        obtain ⟨s0_15, es0_15, h⟩ := zL_spec h
        have hP : va_P (dC, dI) vwCl (cX0 a0 h0 y s0_15) H14 := by rw [es0_15]; exact hP
        have hD : va_D A (cX0 a0 h0 y s0_15) := by rw [es0_15]; exact hD
        refine lv_aload_n hx hb dX0_addPart_45 rfl (lv_at hl 0 rfl) ?_
        refine va_get (D := (dC, dI)) (ci := 0) (v := .ref (h0 8)) (C := RX0) (T := TX0) (N := 13) hx hb hts inX0_ hown hK hP 0 rfl rfl 8 (by decide) (hts (.fieldLink RX0 31 "GateWheel$Circuit" "partCounts" "[I") (List.mem_of_getElem? (i := 1) rfl)) (fun _ h9 => h9) rfl dX0_addPart_46 ?_
        refine lv_iload_n hx hb dX0_addPart_49 rfl (lv_at hl 1 rfl) ?_
        refine lv_dup2_11 hx hb dX0_addPart_50 rfl rfl ?_
        refine va_iald hx hb hK hP 7 0 rfl rfl hi11 dX0_addPart_51 ?_
        refine lv_iconst (v := 1) hx hb dX0_addPart_52 (by decide) ?_
        refine lv_iadd hx hb dX0_addPart_53 ?_
        refine va_iast hx hb hK hP hD hS 7 0 rfl rfl hi11 dX0_addPart_54 (fun H16 locs hP hD hS => ?_)
        obtain ⟨s0_17, es0_17, h⟩ := zL_spec h
        have hP : va_P (dC, dI) vwCl (cX0 a0 h0 y s0_17) H16 := by rw [es0_17]; exact hP
        have hD : va_D A (cX0 a0 h0 y s0_17) := by rw [es0_17]; exact hD
        refine lv_aload_n hx hb dX0_addPart_55 rfl (lv_at hl 0 rfl) ?_
        refine va_get (D := (dC, dI)) (ci := 0) (v := .ref (h0 4)) (C := RX0) (T := TX0) (N := 13) hx hb hts inX0_ hown hK hP 0 rfl rfl 4 (by decide) (hts (.fieldLink RX0 19 "GateWheel$Circuit" "kinds" "[I") (List.mem_of_getElem? (i := 3) rfl)) (fun _ h9 => h9) rfl dX0_addPart_56 ?_
        refine lv_iload_n hx hb dX0_addPart_59 rfl (lv_at hl 1 rfl) ?_
        refine va_iald hx hb hK hP 3 0 rfl rfl hi11 dX0_addPart_60 ?_
        refine lv_iconst (v := 3) hx hb dX0_addPart_61 (by decide) ?_
        refine lv_icmp_eq (tgt := 77) hx hb dX0_addPart_62 (by decide) (fun c18 => ?_) (fun c18 => ?_)
        · have h := zY c18 h
          have ho0 : s0_17 = o_0 := congrArg (fun z : SS => z) (Option.some.inj h)
          exact W.vret hx hb hr (fun t ht hW => ⟨⟨(), rfl, trivial, by rw [ht]; rw [← ho0]; exact hP, va_K.moved hW.alike hK, by rw [← ho0]; exact hD⟩, hS.F ht⟩) hS.2.2 dX0_addPart_77
        · have h := zN c18 h
          refine lv_aload_n hx hb dX0_addPart_65 rfl (lv_at hl 0 rfl) ?_
          refine va_get (D := (dC, dI)) (ci := 0) (v := .ref (h0 10)) (C := RX0) (T := TX0) (N := 13) hx hb hts inX0_ hown hK hP 0 rfl rfl 10 (by decide) (hts (.fieldLink RX0 37 "GateWheel$Circuit" "hangs" "[J") (List.mem_of_getElem? (i := 4) rfl)) (fun _ h9 => h9) rfl dX0_addPart_66 ?_
          refine lv_iload_n hx hb dX0_addPart_69 rfl (lv_at hl 1 rfl) ?_
          refine lv_dup2_11 hx hb dX0_addPart_70 rfl rfl ?_
          refine va_lald hx hb hK hP 9 1 rfl rfl hi11 dX0_addPart_71 ?_
          refine lv_lconst (v := 1) hx hb dX0_addPart_72 (by decide) ?_
          refine lv_iload_n hx hb dX0_addPart_73 rfl (lv_at hl 2 rfl) ?_
          refine lv_lshl (v := (jLs (1 : Int64) p2)) hx hb dX0_addPart_74 rfl ?_
          refine lv_lor hx hb dX0_addPart_75 ?_
          refine va_last hx hb hK hP hD hS 9 1 rfl rfl hi11 dX0_addPart_76 (fun H19 locs hP hD hS => ?_)
          obtain ⟨s0_20, es0_20, h⟩ := zL_spec h
          have hP : va_P (dC, dI) vwCl (cX0 a0 h0 y s0_20) H19 := by rw [es0_20]; exact hP
          have hD : va_D A (cX0 a0 h0 y s0_20) := by rw [es0_20]; exact hD
          have ho0 : s0_20 = o_0 := congrArg (fun z : SS => z) (Option.some.inj h)
          exact W.vret hx hb hr (fun t ht hW => ⟨⟨(), rfl, trivial, by rw [ht]; rw [← ho0]; exact hP, va_K.moved hW.alike hK, by rw [← ho0]; exact hD⟩, hS.F ht⟩) hS.2.2 dX0_addPart_77
      · have h := zN c12 h
        have ho0 : S0 = o_0 := congrArg (fun z : SS => z) (Option.some.inj h)
        exact W.vret hx hb hr (fun t ht hW => ⟨⟨(), rfl, trivial, by rw [ht]; rw [← ho0]; exact hP, va_K.moved hW.alike hK, by rw [← ho0]; exact hD⟩, hS.F ht⟩) hS.2.2 dX0_addPart_27

set_option maxHeartbeats 4000000 in
set_option maxRecDepth 100000 in
theorem m_X0_size (l : Launch) (dC : Nat → ClassId) (dI : Nat → Nat → Nat) (y : Nat → ClassId) (a0 : Nat) (h0 : Nat → Nat) (S0 : SS) (p1 : Int32) (sz : Nat) (or_ : Int32) (h : f_X0_size S0 p1 = some or_) : Met l yX0_size wsX0_size ({ frames := 0, cells := 0, slots := 0, locals := 0 }) (va_Pc [.ref a0, .int p1] (fun U => U.heap.size = sz ∧ va_P (dC, dI) vwCl (cX0 a0 h0 y S0) U.heap ∧ va_K (dC, dI) vwCl [(y 0, .int), (y 1, .long), (y 2, .byte), (y 3, .boolean)] U ∧ va_D (fun _ => True) (cX0 a0 h0 y S0))) (va_Qi (fun (r : Int32) (_ : Unit) => r = or_) (fun (_ : Unit) (t : State) => va_P (dC, dI) vwCl (cX0 a0 h0 y S0) t.heap ∧ va_K (dC, dI) vwCl [(y 0, .int), (y 1, .long), (y 2, .byte), (y 3, .boolean)] t ∧ va_D (va_A (cX0 a0 h0 y S0) sz) (cX0 a0 h0 y S0)) (va_A (cX0 a0 h0 y S0) sz)) 0 0 (va_A (cX0 a0 h0 y S0) sz) := by
  refine Met.ofW (cc := cX0_size) (maxL := 2) (ret := (some .int)) (by decide +kernel) rfl ?_
  intro p e s m args below meth c s₁ B hml hv
  obtain ⟨rfl, hsz, hP, hK, hD0⟩ := hv
  have hx := B.exec
  have hb := B.bytes
  have hr := B.returns
  have hts := atoms_spec (ws := wsX0_size) B.pre
  have hown : s.vm.findClass RX0 = some m.cls := findClass_of_methodNamed B.named
  have hlocks := B.notSynchronized
  have inX0_ : ∀ w ∈ wsX00, w ∈ wsX0_size := fun _ h => List.mem_cons_of_mem _ (List.mem_append_right _ h)
  subst hsz
  have hD := hD0.self (sz := s.heap.size)
  generalize hAe : va_A (cX0 a0 h0 y S0) s.heap.size = A at hD ⊢
  have hA : ∀ q : Nat, s.heap.size ≤ q → A q := fun q h => by rw [← hAe]; exact Or.inr h
  have hS : va_S A s.heap s.heap [] := va_S.rf
  have hP : va_P (dC, dI) vwCl (cX0 a0 h0 y S0) s.heap := hP
  have hl := lv_entry ([.ref a0, .int p1]) (n := 2) (Nat.le_of_ble_eq_true rfl)
  rw [lg_entry_eq]
  generalize (lg_sl ([.ref a0, .int p1]) ++ List.replicate (2 - (lg_sl ([.ref a0, .int p1])).length) Slot.unset).toArray = ls at hl ⊢
  have hl : lv_has ls 2 [(0, .ref a0), (1, .int p1)] := hl
  refine lv_aload_n hx hb dX0_size_0 rfl (lv_at hl 0 rfl) ?_
  refine va_get (D := (dC, dI)) (ci := 0) (v := .ref (h0 4)) (C := RX0) (T := TX0) (N := 13) hx hb hts inX0_ hown hK hP 0 rfl rfl 4 (by decide) (hts (.fieldLink RX0 19 "GateWheel$Circuit" "kinds" "[I") (List.mem_of_getElem? (i := 1) rfl)) (fun _ h9 => h9) rfl dX0_size_1 ?_
  refine lv_iload_n hx hb dX0_size_4 rfl (lv_at hl 1 rfl) ?_
  obtain ⟨hi1, h⟩ := zG_spec h
  refine va_iald hx hb hK hP 3 0 rfl rfl hi1 dX0_size_5 ?_
  refine lv_iconst (v := 1) hx hb dX0_size_6 (by decide) ?_
  refine lv_icmp_ne (tgt := 21) hx hb dX0_size_7 (by decide) (fun c2 => ?_) (fun c2 => ?_)
  · have h := zN c2 h
    refine lv_aload_n hx hb dX0_size_21 rfl (lv_at hl 0 rfl) ?_
    refine va_get (D := (dC, dI)) (ci := 0) (v := .ref (h0 8)) (C := RX0) (T := TX0) (N := 13) hx hb hts inX0_ hown hK hP 0 rfl rfl 8 (by decide) (hts (.fieldLink RX0 31 "GateWheel$Circuit" "partCounts" "[I") (List.mem_of_getElem? (i := 2) rfl)) (fun _ h9 => h9) rfl dX0_size_22 ?_
    refine lv_iload_n hx hb dX0_size_25 rfl (lv_at hl 1 rfl) ?_
    refine va_iald hx hb hK hP 7 0 rfl rfl hi1 dX0_size_26 ?_
    have ho0 : (gA S0 8 p1.toNatClampNeg) = or_ := congrArg (fun z : Int32 => z) (Option.some.inj h)
    exact W.iret (v := (gA S0 8 p1.toNatClampNeg)) hx hb hr (fun t ht hW => ⟨⟨(gA S0 8 p1.toNatClampNeg), (), rfl, ho0, by rw [ht]; exact hP, va_K.moved hW.alike hK, hD⟩, hS.F ht⟩) hS.2.2 dX0_size_27
  · have h := zY c2 h
    refine lv_aload_n hx hb dX0_size_10 rfl (lv_at hl 0 rfl) ?_
    refine va_get (D := (dC, dI)) (ci := 0) (v := .ref (h0 8)) (C := RX0) (T := TX0) (N := 13) hx hb hts inX0_ hown hK hP 0 rfl rfl 8 (by decide) (hts (.fieldLink RX0 31 "GateWheel$Circuit" "partCounts" "[I") (List.mem_of_getElem? (i := 2) rfl)) (fun _ h9 => h9) rfl dX0_size_11 ?_
    refine lv_iload_n hx hb dX0_size_14 rfl (lv_at hl 1 rfl) ?_
    refine va_iald hx hb hK hP 7 0 rfl rfl hi1 dX0_size_15 ?_
    refine lv_iconst (v := 2) hx hb dX0_size_16 (by decide) ?_
    refine lv_idiv hx hb dX0_size_17 (by decide) ?_
    refine lv_goto (tgt := 27) hx hb dX0_size_18 (by decide) ?_
    have ho0 : ((gA S0 8 p1.toNatClampNeg) / (2 : Int32)) = or_ := congrArg (fun z : Int32 => z) (Option.some.inj h)
    exact W.iret (v := ((gA S0 8 p1.toNatClampNeg) / (2 : Int32))) hx hb hr (fun t ht hW => ⟨⟨((gA S0 8 p1.toNatClampNeg) / (2 : Int32)), (), rfl, ho0, by rw [ht]; exact hP, va_K.moved hW.alike hK, hD⟩, hS.F ht⟩) hS.2.2 dX0_size_27

set_option maxHeartbeats 4000000 in
set_option maxRecDepth 100000 in
theorem m_X0_beginDriver (l : Launch) (dC : Nat → ClassId) (dI : Nat → Nat → Nat) (y : Nat → ClassId) (a0 : Nat) (h0 : Nat → Nat) (S0 : SS) (p1 : Int32) (p2 : Int32) (sz : Nat) (o_0 : SS) (h : f_X0_beginDriver S0 p1 p2 = some o_0) : Met l yX0_beginDriver wsX0_beginDriver ({ frames := 1, cells := 0, slots := 0, locals := 21 }) (va_Pc [.ref a0, .int p1, .int p2] (fun U => U.heap.size = sz ∧ va_P (dC, dI) vwCl (cX0 a0 h0 y S0) U.heap ∧ va_K (dC, dI) vwCl [(y 0, .int), (y 1, .long), (y 2, .byte), (y 3, .boolean)] U ∧ va_D (fun _ => True) (cX0 a0 h0 y S0))) (va_Qv (fun (_ : Unit) => True) (fun (_ : Unit) (t : State) => va_P (dC, dI) vwCl (cX0 a0 h0 y o_0) t.heap ∧ va_K (dC, dI) vwCl [(y 0, .int), (y 1, .long), (y 2, .byte), (y 3, .boolean)] t ∧ va_D (va_A (cX0 a0 h0 y S0) sz) (cX0 a0 h0 y o_0)) (va_A (cX0 a0 h0 y S0) sz)) 0 0 (va_A (cX0 a0 h0 y S0) sz) := by
  refine Met.ofW (cc := cX0_beginDriver) (maxL := 3) (ret := none) (by decide +kernel) rfl ?_
  intro p e s m args below meth c s₁ B hml hv
  obtain ⟨rfl, hsz, hP, hK, hD0⟩ := hv
  have hx := B.exec
  have hb := B.bytes
  have hr := B.returns
  have hts := atoms_spec (ws := wsX0_beginDriver) B.pre
  have hown : s.vm.findClass RX0 = some m.cls := findClass_of_methodNamed B.named
  have hlocks := B.notSynchronized
  have inX0_ : ∀ w ∈ wsX00, w ∈ wsX0_beginDriver := fun _ h => List.mem_cons_of_mem _ (List.mem_append_right _ h)
  subst hsz
  have hD := hD0.self (sz := s.heap.size)
  generalize hAe : va_A (cX0 a0 h0 y S0) s.heap.size = A at hD ⊢
  have hA : ∀ q : Nat, s.heap.size ≤ q → A q := fun q h => by rw [← hAe]; exact Or.inr h
  have hS : va_S A s.heap s.heap [] := va_S.rf
  have hP : va_P (dC, dI) vwCl (cX0 a0 h0 y S0) s.heap := hP
  have hl := lv_entry ([.ref a0, .int p1, .int p2]) (n := 3) (Nat.le_of_ble_eq_true rfl)
  rw [lg_entry_eq]
  generalize (lg_sl ([.ref a0, .int p1, .int p2]) ++ List.replicate (3 - (lg_sl ([.ref a0, .int p1, .int p2])).length) Slot.unset).toArray = ls at hl ⊢
  have hl : lv_has ls 3 [(0, .ref a0), (1, .int p1), (2, .int p2)] := hl
  refine lv_aload_n hx hb dX0_beginDriver_0 rfl (lv_at hl 0 rfl) ?_
  refine lv_iload_n hx hb dX0_beginDriver_1 rfl (lv_at hl 1 rfl) ?_
  obtain ⟨r1, hc2, h⟩ := zB_spec h
  have hFc := zFree hD hS hA
  refine va_calli (va_runV (As := [.int p1]) (rest := []) ⟨hx, hb, hml, hown, hts⟩ (m_X0_has l dC dI y a0 h0 S0 p1 s.heap.size r1 hc2) (cwV 1 hts gX0_beginDriver_X0_has rfl rfl rfl (by decide +kernel) ⟨Nat.le_of_ble_eq_true rfl, Nat.le_of_ble_eq_true rfl⟩) ⟨fun a U g mk q => by obtain ⟨q0, q1, qP, qK, qD⟩ := q; exact ⟨q0, q1, qP, va_K.moved (u := U) (U := U.calling g mk a) (Vm.Alike.refl U.vm) qK, qD⟩, va_recv hK hP (ci := 0) (q0 := 0) rfl rfl, fun U hU hW => ⟨rfl, by rw [hU], by rw [hU]; exact hP, va_K.moved hW.alike hK, hD.weaken (fun _ _ _ _ => trivial)⟩⟩ rfl rfl hl.1 rfl (lv_room (Nat.le_of_ble_eq_true rfl)) dX0_beginDriver_2 ⟨Nat.le_of_ble_eq_true rfl, Nat.le_of_ble_eq_true rfl⟩) hS (fun q _ h => hFc q h) hFc (fun rr4 u t H3 locs ht hvm hw hB hz1 hk1 hS => ?_)
  obtain ⟨hP1, hK1, hD1⟩ := hB
  rw [ht] at hP1
  refine zTopi hw.symm ?_
  have hP := hP1
  have hD := hD1.weaken (fun _ q _ h => hFc q.1 h)
  have hP : va_P (dC, dI) vwCl (cX0 a0 h0 y S0) H3 := hP
  have hD : va_D A (cX0 a0 h0 y S0) := hD
  refine lv_if_eq (tgt := 28) hx hb dX0_beginDriver_5 (by decide) (fun c5 => ?_) (fun c5 => ?_)
  · have h := zY c5 h
    have ho0 : S0 = o_0 := congrArg (fun z : SS => z) (Option.some.inj h)
    exact W.vret hx hb hr (fun t ht hW => ⟨⟨(), rfl, trivial, by rw [ht]; rw [← ho0]; exact hP, va_K.moved hW.alike hK, by rw [← ho0]; exact hD⟩, hS.F ht⟩) hS.2.2 dX0_beginDriver_28
  · have h := zN c5 h
    refine lv_iload_n hx hb dX0_beginDriver_8 rfl (lv_at hl 2 rfl) ?_
    refine lv_if_eq (tgt := 28) hx hb dX0_beginDriver_9 (by decide) (fun c6 => ?_) (fun c6 => ?_)
    · have h := zY c6 h
      have ho0 : S0 = o_0 := congrArg (fun z : SS => z) (Option.some.inj h)
      exact W.vret hx hb hr (fun t ht hW => ⟨⟨(), rfl, trivial, by rw [ht]; rw [← ho0]; exact hP, va_K.moved hW.alike hK, by rw [← ho0]; exact hD⟩, hS.F ht⟩) hS.2.2 dX0_beginDriver_28
    · have h := zN c6 h
      refine lv_aload_n hx hb dX0_beginDriver_12 rfl (lv_at hl 0 rfl) ?_
      refine va_get (D := (dC, dI)) (ci := 0) (v := .ref (h0 9)) (C := RX0) (T := TX0) (N := 13) hx hb hts inX0_ hown hK hP 0 rfl rfl 9 (by decide) (hts (.fieldLink RX0 34 "GateWheel$Circuit" "lows" "[I") (List.mem_of_getElem? (i := 1) rfl)) (fun _ h9 => h9) rfl dX0_beginDriver_13 ?_
      refine lv_iload_n hx hb dX0_beginDriver_16 rfl (lv_at hl 1 rfl) ?_
      refine lv_dup2_11 hx hb dX0_beginDriver_17 rfl rfl ?_
      obtain ⟨hi7, h⟩ := zG_spec h
      refine va_iald hx hb hK hP 8 0 rfl rfl hi7 dX0_beginDriver_18 ?_
      refine lv_iconst (v := 1) hx hb dX0_beginDriver_19 (by decide) ?_
      refine lv_aload_n hx hb dX0_beginDriver_20 rfl (lv_at hl 0 rfl) ?_
      refine lv_iload_n hx hb dX0_beginDriver_21 rfl (lv_at hl 1 rfl) ?_
      obtain ⟨r8, hc9, h⟩ := zB_spec h
      have hFc := zFree hD hS hA
      refine va_calli (va_runV (As := [.int p1]) (rest := [.int 1, .int (gA S0 9 p1.toNatClampNeg), .int p1, .ref (h0 9)]) ⟨hx, hb, hml, hown, hts⟩ (m_X0_size l dC dI y a0 h0 S0 p1 H3.size r8 hc9) (cwV 1 hts gX0_beginDriver_X0_size rfl rfl rfl (by decide +kernel) ⟨Nat.le_of_ble_eq_true rfl, Nat.le_of_ble_eq_true rfl⟩) ⟨fun a U g mk q => by obtain ⟨q0, q1, qP, qK, qD⟩ := q; exact ⟨q0, q1, qP, va_K.moved (u := U) (U := U.calling g mk a) (Vm.Alike.refl U.vm) qK, qD⟩, va_recv hK hP (ci := 0) (q0 := 0) rfl rfl, fun U hU hW => ⟨rfl, by rw [hU], by rw [hU]; exact hP, va_K.moved hW.alike hK, hD.weaken (fun _ _ _ _ => trivial)⟩⟩ rfl rfl hl.1 rfl (lv_room (Nat.le_of_ble_eq_true rfl)) dX0_beginDriver_22 ⟨Nat.le_of_ble_eq_true rfl, Nat.le_of_ble_eq_true rfl⟩) hS (fun q _ h => hFc q h) hFc (fun rr11 u t H10 locs ht hvm hw hB hz1 hk1 hS => ?_)
      obtain ⟨hP1, hK1, hD1⟩ := hB
      rw [ht] at hP1
      refine zTopi hw.symm ?_
      have hP := hP1
      have hD := hD1.weaken (fun _ q _ h => hFc q.1 h)
      have hP : va_P (dC, dI) vwCl (cX0 a0 h0 y S0) H10 := hP
      have hD : va_D A (cX0 a0 h0 y S0) := hD
      refine lv_ishl hx hb dX0_beginDriver_25 ?_
      refine lv_ior hx hb dX0_beginDriver_26 ?_
      refine va_iast hx hb hK hP hD hS 8 0 rfl rfl hi7 dX0_beginDriver_27 (fun H12 locs hP hD hS => ?_)
      obtain ⟨s0_13, es0_13, h⟩ := zL_spec h
      have hP : va_P (dC, dI) vwCl (cX0 a0 h0 y s0_13) H12 := by rw [es0_13]; exact hP
      have hD : va_D A (cX0 a0 h0 y s0_13) := by rw [es0_13]; exact hD
      have ho0 : s0_13 = o_0 := congrArg (fun z : SS => z) (Option.some.inj h)
      exact W.vret hx hb hr (fun t ht hW => ⟨⟨(), rfl, trivial, by rw [ht]; rw [← ho0]; exact hP, va_K.moved hW.alike hK, by rw [← ho0]; exact hD⟩, hS.F ht⟩) hS.2.2 dX0_beginDriver_28

set_option maxHeartbeats 4000000 in
set_option maxRecDepth 100000 in
theorem m_X0_part (l : Launch) (dC : Nat → ClassId) (dI : Nat → Nat → Nat) (y : Nat → ClassId) (a0 : Nat) (h0 : Nat → Nat) (S0 : SS) (p1 : Int32) (p2 : Int32) (sz : Nat) (or_ : Int32) (h : f_X0_part S0 p1 p2 = some or_) : Met l yX0_part wsX0_part ({ frames := 0, cells := 0, slots := 0, locals := 0 }) (va_Pc [.ref a0, .int p1, .int p2] (fun U => U.heap.size = sz ∧ va_P (dC, dI) vwCl (cX0 a0 h0 y S0) U.heap ∧ va_K (dC, dI) vwCl [(y 0, .int), (y 1, .long), (y 2, .byte), (y 3, .boolean)] U ∧ va_D (fun _ => True) (cX0 a0 h0 y S0))) (va_Qi (fun (r : Int32) (_ : Unit) => r = or_) (fun (_ : Unit) (t : State) => va_P (dC, dI) vwCl (cX0 a0 h0 y S0) t.heap ∧ va_K (dC, dI) vwCl [(y 0, .int), (y 1, .long), (y 2, .byte), (y 3, .boolean)] t ∧ va_D (va_A (cX0 a0 h0 y S0) sz) (cX0 a0 h0 y S0)) (va_A (cX0 a0 h0 y S0) sz)) 0 0 (va_A (cX0 a0 h0 y S0) sz) := by
  refine Met.ofW (cc := cX0_part) (maxL := 3) (ret := (some .int)) (by decide +kernel) rfl ?_
  intro p e s m args below meth c s₁ B hml hv
  obtain ⟨rfl, hsz, hP, hK, hD0⟩ := hv
  have hx := B.exec
  have hb := B.bytes
  have hr := B.returns
  have hts := atoms_spec (ws := wsX0_part) B.pre
  have hown : s.vm.findClass RX0 = some m.cls := findClass_of_methodNamed B.named
  have hlocks := B.notSynchronized
  have inX0_ : ∀ w ∈ wsX00, w ∈ wsX0_part := fun _ h => List.mem_cons_of_mem _ (List.mem_append_right _ h)
  subst hsz
  have hD := hD0.self (sz := s.heap.size)
  generalize hAe : va_A (cX0 a0 h0 y S0) s.heap.size = A at hD ⊢
  have hA : ∀ q : Nat, s.heap.size ≤ q → A q := fun q h => by rw [← hAe]; exact Or.inr h
  have hS : va_S A s.heap s.heap [] := va_S.rf
  have hP : va_P (dC, dI) vwCl (cX0 a0 h0 y S0) s.heap := hP
  have hl := lv_entry ([.ref a0, .int p1, .int p2]) (n := 3) (Nat.le_of_ble_eq_true rfl)
  rw [lg_entry_eq]
  generalize (lg_sl ([.ref a0, .int p1, .int p2]) ++ List.replicate (3 - (lg_sl ([.ref a0, .int p1, .int p2])).length) Slot.unset).toArray = ls at hl ⊢
  have hl : lv_has ls 3 [(0, .ref a0), (1, .int p1), (2, .int p2)] := hl
  refine lv_aload_n hx hb dX0_part_0 rfl (lv_at hl 0 rfl) ?_
  refine va_get (D := (dC, dI)) (ci := 0) (v := .ref (h0 7)) (C := RX0) (T := TX0) (N := 13) hx hb hts inX0_ hown hK hP 0 rfl rfl 7 (by decide) (hts (.fieldLink RX0 28 "GateWheel$Circuit" "parts" "[I") (List.mem_of_getElem? (i := 1) rfl)) (fun _ h9 => h9) rfl dX0_part_1 ?_
  refine lv_iload_n hx hb dX0_part_4 rfl (lv_at hl 1 rfl) ?_
  refine lv_bipush (v := 12) hx hb dX0_part_5 (by decide) ?_
  refine lv_imul hx hb dX0_part_7 ?_
  refine lv_iload_n hx hb dX0_part_8 rfl (lv_at hl 2 rfl) ?_
  refine lv_iadd hx hb dX0_part_9 ?_
  obtain ⟨hi1, h⟩ := zG_spec h
  refine va_iald hx hb hK hP 6 0 rfl rfl hi1 dX0_part_10 ?_
  have ho0 : (gA S0 7 ((p1 * (12 : Int32)) + p2).toNatClampNeg) = or_ := congrArg (fun z : Int32 => z) (Option.some.inj h)
  exact W.iret (v := (gA S0 7 ((p1 * (12 : Int32)) + p2).toNatClampNeg)) hx hb hr (fun t ht hW => ⟨⟨(gA S0 7 ((p1 * (12 : Int32)) + p2).toNatClampNeg), (), rfl, ho0, by rw [ht]; exact hP, va_K.moved hW.alike hK, hD⟩, hS.F ht⟩) hS.2.2 dX0_part_11

set_option maxHeartbeats 4000000 in
set_option maxRecDepth 100000 in
theorem m_X0_isLow (l : Launch) (dC : Nat → ClassId) (dI : Nat → Nat → Nat) (y : Nat → ClassId) (a0 : Nat) (h0 : Nat → Nat) (S0 : SS) (p1 : Int32) (p2 : Int32) (sz : Nat) (or_ : Int32) (h : f_X0_isLow S0 p1 p2 = some or_) : Met l yX0_isLow wsX0_isLow ({ frames := 0, cells := 0, slots := 0, locals := 0 }) (va_Pc [.ref a0, .int p1, .int p2] (fun U => U.heap.size = sz ∧ va_P (dC, dI) vwCl (cX0 a0 h0 y S0) U.heap ∧ va_K (dC, dI) vwCl [(y 0, .int), (y 1, .long), (y 2, .byte), (y 3, .boolean)] U ∧ va_D (fun _ => True) (cX0 a0 h0 y S0))) (va_Qi (fun (r : Int32) (_ : Unit) => r = or_) (fun (_ : Unit) (t : State) => va_P (dC, dI) vwCl (cX0 a0 h0 y S0) t.heap ∧ va_K (dC, dI) vwCl [(y 0, .int), (y 1, .long), (y 2, .byte), (y 3, .boolean)] t ∧ va_D (va_A (cX0 a0 h0 y S0) sz) (cX0 a0 h0 y S0)) (va_A (cX0 a0 h0 y S0) sz)) 0 0 (va_A (cX0 a0 h0 y S0) sz) := by
  refine Met.ofW (cc := cX0_isLow) (maxL := 3) (ret := (some .boolean)) (by decide +kernel) rfl ?_
  intro p e s m args below meth c s₁ B hml hv
  obtain ⟨rfl, hsz, hP, hK, hD0⟩ := hv
  have hx := B.exec
  have hb := B.bytes
  have hr := B.returns
  have hts := atoms_spec (ws := wsX0_isLow) B.pre
  have hown : s.vm.findClass RX0 = some m.cls := findClass_of_methodNamed B.named
  have hlocks := B.notSynchronized
  have inX0_ : ∀ w ∈ wsX00, w ∈ wsX0_isLow := fun _ h => List.mem_cons_of_mem _ (List.mem_append_right _ h)
  subst hsz
  have hD := hD0.self (sz := s.heap.size)
  generalize hAe : va_A (cX0 a0 h0 y S0) s.heap.size = A at hD ⊢
  have hA : ∀ q : Nat, s.heap.size ≤ q → A q := fun q h => by rw [← hAe]; exact Or.inr h
  have hS : va_S A s.heap s.heap [] := va_S.rf
  have hP : va_P (dC, dI) vwCl (cX0 a0 h0 y S0) s.heap := hP
  have hl := lv_entry ([.ref a0, .int p1, .int p2]) (n := 3) (Nat.le_of_ble_eq_true rfl)
  rw [lg_entry_eq]
  generalize (lg_sl ([.ref a0, .int p1, .int p2]) ++ List.replicate (3 - (lg_sl ([.ref a0, .int p1, .int p2])).length) Slot.unset).toArray = ls at hl ⊢
  have hl : lv_has ls 3 [(0, .ref a0), (1, .int p1), (2, .int p2)] := hl
  refine lv_aload_n hx hb dX0_isLow_0 rfl (lv_at hl 0 rfl) ?_
  refine va_get (D := (dC, dI)) (ci := 0) (v := .ref (h0 9)) (C := RX0) (T := TX0) (N := 13) hx hb hts inX0_ hown hK hP 0 rfl rfl 9 (by decide) (hts (.fieldLink RX0 34 "GateWheel$Circuit" "lows" "[I") (List.mem_of_getElem? (i := 1) rfl)) (fun _ h9 => h9) rfl dX0_isLow_1 ?_
  refine lv_iload_n hx hb dX0_isLow_4 rfl (lv_at hl 1 rfl) ?_
  obtain ⟨hi1, h⟩ := zG_spec h
  refine va_iald hx hb hK hP 8 0 rfl rfl hi1 dX0_isLow_5 ?_
  refine lv_iload_n hx hb dX0_isLow_6 rfl (lv_at hl 2 rfl) ?_
  refine lv_ishr hx hb dX0_isLow_7 ?_
  refine lv_iconst (v := 1) hx hb dX0_isLow_8 (by decide) ?_
  refine lv_iand hx hb dX0_isLow_9 ?_
  refine lv_iconst (v := 1) hx hb dX0_isLow_10 (by decide) ?_
  refine lv_icmp_ne (tgt := 18) hx hb dX0_isLow_11 (by decide) (fun c2 => ?_) (fun c2 => ?_)
  · have h := zN c2 h
    refine lv_iconst (v := 0) hx hb dX0_isLow_18 (by decide) ?_
    have ho0 : (0 : Int32) = or_ := congrArg (fun z : Int32 => z) (Option.some.inj h)
    exact W.zret (v := 0) hx hb hr (by decide) (fun t ht hW => ⟨⟨0, (), rfl, ho0, by rw [ht]; exact hP, va_K.moved hW.alike hK, hD⟩, hS.F ht⟩) hS.2.2 dX0_isLow_19
  · have h := zY c2 h
    refine lv_iconst (v := 1) hx hb dX0_isLow_14 (by decide) ?_
    refine lv_goto (tgt := 19) hx hb dX0_isLow_15 (by decide) ?_
    have ho0 : (1 : Int32) = or_ := congrArg (fun z : Int32 => z) (Option.some.inj h)
    exact W.zret (v := 1) hx hb hr (by decide) (fun t ht hW => ⟨⟨1, (), rfl, ho0, by rw [ht]; exact hP, va_K.moved hW.alike hK, hD⟩, hS.F ht⟩) hS.2.2 dX0_isLow_19

set_option maxHeartbeats 4000000 in
set_option maxRecDepth 100000 in
theorem m_X0_dependsOn (l : Launch) (dC : Nat → ClassId) (dI : Nat → Nat → Nat) (y : Nat → ClassId) (a0 : Nat) (h0 : Nat → Nat) (S0 : SS) (p1 : Int32) (p2 : Int64) (sz : Nat) (or_ : Int32) (h : f_X0_dependsOn S0 p1 p2 = some or_) : Met l yX0_dependsOn wsX0_dependsOn ({ frames := 0, cells := 0, slots := 0, locals := 0 }) (va_Pc [.ref a0, .int p1, .long p2] (fun U => U.heap.size = sz ∧ va_P (dC, dI) vwCl (cX0 a0 h0 y S0) U.heap ∧ va_K (dC, dI) vwCl [(y 0, .int), (y 1, .long), (y 2, .byte), (y 3, .boolean)] U ∧ va_D (fun _ => True) (cX0 a0 h0 y S0))) (va_Qi (fun (r : Int32) (_ : Unit) => r = or_) (fun (_ : Unit) (t : State) => va_P (dC, dI) vwCl (cX0 a0 h0 y S0) t.heap ∧ va_K (dC, dI) vwCl [(y 0, .int), (y 1, .long), (y 2, .byte), (y 3, .boolean)] t ∧ va_D (va_A (cX0 a0 h0 y S0) sz) (cX0 a0 h0 y S0)) (va_A (cX0 a0 h0 y S0) sz)) 0 0 (va_A (cX0 a0 h0 y S0) sz) := by
  refine Met.ofW (cc := cX0_dependsOn) (maxL := 4) (ret := (some .boolean)) (by decide +kernel) rfl ?_
  intro p e s m args below meth c s₁ B hml hv
  obtain ⟨rfl, hsz, hP, hK, hD0⟩ := hv
  have hx := B.exec
  have hb := B.bytes
  have hr := B.returns
  have hts := atoms_spec (ws := wsX0_dependsOn) B.pre
  have hown : s.vm.findClass RX0 = some m.cls := findClass_of_methodNamed B.named
  have hlocks := B.notSynchronized
  have inX0_ : ∀ w ∈ wsX00, w ∈ wsX0_dependsOn := fun _ h => List.mem_cons_of_mem _ (List.mem_append_right _ h)
  subst hsz
  have hD := hD0.self (sz := s.heap.size)
  generalize hAe : va_A (cX0 a0 h0 y S0) s.heap.size = A at hD ⊢
  have hA : ∀ q : Nat, s.heap.size ≤ q → A q := fun q h => by rw [← hAe]; exact Or.inr h
  have hS : va_S A s.heap s.heap [] := va_S.rf
  have hP : va_P (dC, dI) vwCl (cX0 a0 h0 y S0) s.heap := hP
  have hl := lv_entry ([.ref a0, .int p1, .long p2]) (n := 4) (Nat.le_of_ble_eq_true rfl)
  rw [lg_entry_eq]
  generalize (lg_sl ([.ref a0, .int p1, .long p2]) ++ List.replicate (4 - (lg_sl ([.ref a0, .int p1, .long p2])).length) Slot.unset).toArray = ls at hl ⊢
  have hl : lv_has ls 4 [(0, .ref a0), (1, .int p1), (2, .long p2)] := hl
  refine lv_aload_n hx hb dX0_dependsOn_0 rfl (lv_at hl 0 rfl) ?_
  refine va_get (D := (dC, dI)) (ci := 0) (v := .ref (h0 10)) (C := RX0) (T := TX0) (N := 13) hx hb hts inX0_ hown hK hP 0 rfl rfl 10 (by decide) (hts (.fieldLink RX0 37 "GateWheel$Circuit" "hangs" "[J") (List.mem_of_getElem? (i := 1) rfl)) (fun _ h9 => h9) rfl dX0_dependsOn_1 ?_
  refine lv_iload_n hx hb dX0_dependsOn_4 rfl (lv_at hl 1 rfl) ?_
  obtain ⟨hi1, h⟩ := zG_spec h
  refine va_lald hx hb hK hP 9 1 rfl rfl hi1 dX0_dependsOn_5 ?_
  refine lv_lload_n hx hb dX0_dependsOn_6 rfl (lv_at hl 2 rfl) ?_
  refine lv_land hx hb dX0_dependsOn_7 ?_
  refine lv_lconst (v := 0) hx hb dX0_dependsOn_8 (by decide) ?_
  refine W.lcmp hx hb dX0_dependsOn_9 ?_
  refine lv_if_eq (tgt := 17) hx hb dX0_dependsOn_10 (by decide) (fun c2 => ?_) (fun c2 => ?_)
  · have h := zY c2 h
    refine lv_iconst (v := 0) hx hb dX0_dependsOn_17 (by decide) ?_
    have ho0 : (0 : Int32) = or_ := congrArg (fun z : Int32 => z) (Option.some.inj h)
    exact W.zret (v := 0) hx hb hr (by decide) (fun t ht hW => ⟨⟨0, (), rfl, ho0, by rw [ht]; exact hP, va_K.moved hW.alike hK, hD⟩, hS.F ht⟩) hS.2.2 dX0_dependsOn_18
  · have h := zN c2 h
    refine lv_iconst (v := 1) hx hb dX0_dependsOn_13 (by decide) ?_
    refine lv_goto (tgt := 18) hx hb dX0_dependsOn_14 (by decide) ?_
    have ho0 : (1 : Int32) = or_ := congrArg (fun z : Int32 => z) (Option.some.inj h)
    exact W.zret (v := 1) hx hb hr (by decide) (fun t ht hW => ⟨⟨1, (), rfl, ho0, by rw [ht]; exact hP, va_K.moved hW.alike hK, hD⟩, hS.F ht⟩) hS.2.2 dX0_dependsOn_18

set_option maxHeartbeats 4000000 in
set_option maxRecDepth 100000 in
theorem m_X0_levelAbove (l : Launch) (dC : Nat → ClassId) (dI : Nat → Nat → Nat) (y : Nat → ClassId) (a0 : Nat) (h0 : Nat → Nat) (S0 : SS) (p1 : Int64) (sz : Nat) (or_ : Int32) (h : f_X0_levelAbove S0 p1 = some or_) : Met l yX0_levelAbove wsX0_levelAbove ({ frames := 1, cells := 0, slots := 0, locals := 13 }) (va_Pc [.ref a0, .long p1] (fun U => U.heap.size = sz ∧ va_P (dC, dI) vwCl (cX0 a0 h0 y S0) U.heap ∧ va_K (dC, dI) vwCl [(y 0, .int), (y 1, .long), (y 2, .byte), (y 3, .boolean)] U ∧ va_D (fun _ => True) (cX0 a0 h0 y S0))) (va_Qi (fun (r : Int32) (_ : Unit) => r = or_) (fun (_ : Unit) (t : State) => va_P (dC, dI) vwCl (cX0 a0 h0 y S0) t.heap ∧ va_K (dC, dI) vwCl [(y 0, .int), (y 1, .long), (y 2, .byte), (y 3, .boolean)] t ∧ va_D (va_A (cX0 a0 h0 y S0) sz) (cX0 a0 h0 y S0)) (va_A (cX0 a0 h0 y S0) sz)) 0 0 (va_A (cX0 a0 h0 y S0) sz) := by
  refine Met.ofW (cc := cX0_levelAbove) (maxL := 5) (ret := (some .int)) (by decide +kernel) rfl ?_
  intro p e s m args below meth c s₁ B hml hv
  obtain ⟨rfl, hsz, hP, hK, hD0⟩ := hv
  have hx := B.exec
  have hb := B.bytes
  have hr := B.returns
  have hts := atoms_spec (ws := wsX0_levelAbove) B.pre
  have hown : s.vm.findClass RX0 = some m.cls := findClass_of_methodNamed B.named
  have hlocks := B.notSynchronized
  have inX0_ : ∀ w ∈ wsX00, w ∈ wsX0_levelAbove := fun _ h => List.mem_cons_of_mem _ (List.mem_append_right _ h)
  subst hsz
  have hD := hD0.self (sz := s.heap.size)
  generalize hAe : va_A (cX0 a0 h0 y S0) s.heap.size = A at hD ⊢
  have hA : ∀ q : Nat, s.heap.size ≤ q → A q := fun q h => by rw [← hAe]; exact Or.inr h
  have hS : va_S A s.heap s.heap [] := va_S.rf
  have hP : va_P (dC, dI) vwCl (cX0 a0 h0 y S0) s.heap := hP
  have hl := lv_entry ([.ref a0, .long p1]) (n := 5) (Nat.le_of_ble_eq_true rfl)
  rw [lg_entry_eq]
  generalize (lg_sl ([.ref a0, .long p1]) ++ List.replicate (5 - (lg_sl ([.ref a0, .long p1])).length) Slot.unset).toArray = ls at hl ⊢
  have hl : lv_has ls 5 [(0, .ref a0), (1, .long p1)] := hl
  refine lv_iconst (v := 0) hx hb dX0_levelAbove_0 (by decide) ?_
  refine lv_istore_n (lv' := [(3, .int 0), (0, .ref a0), (1, .long p1)]) hx hb dX0_levelAbove_1 rfl hl (by decide) rfl (fun ls hl => ?_)
  refine lv_iconst (v := 0) hx hb dX0_levelAbove_2 (by decide) ?_
  refine lv_istore (lv' := [(4, .int 0), (3, .int 0), (0, .ref a0), (1, .long p1)]) hx hb dX0_levelAbove_3 hl (by decide) rfl (fun ls hl => ?_)
  refine W_abs (fun GW1 eG2 => ?_)
  have hi6 := h
  have lp4 : ∀ (n : Nat) (v10 : Int32) (v11 : Int32) (HGW1 : Heap) (locs : List Loc) (ls : Array Slot), zI (b_X0_levelAbove_5 S0 p1) n (v10, v11) = some or_ → va_P (dC, dI) vwCl (cX0 a0 h0 y S0) HGW1 → va_D A (cX0 a0 h0 y S0) → va_S A s.heap HGW1 locs → lv_has ls 5 [(0, .ref a0), (1, .long p1), (3, .int v10), (4, .int v11)] → GW1 HGW1 locs 0 0 (F0 m 5 ls []) := by
    intro n
    induction n with
    | zero =>
      intro v10 v11 HGW1 locs ls hi6 hP hD hS hl
      exact (zI_0 hi6).elim
    | succ n ihlp4 =>
      intro v10 v11 HGW1 locs ls hi6 hP hD hS hl
      refine (eG2 _ _ _ _ _).mpr ?_
      obtain ⟨xx9, h, hx8⟩ := zI_spec hi6
      refine lv_iload hx hb dX0_levelAbove_5 (lv_at hl 3 rfl) ?_
      refine lv_aload_n hx hb dX0_levelAbove_7 rfl (lv_at hl 0 rfl) ?_
      refine va_get (D := (dC, dI)) (ci := 0) (v := .int (gI S0 0)) (C := RX0) (T := TX0) (N := 13) hx hb hts inX0_ hown hK hP 0 rfl rfl 0 (by decide) (hts (.fieldLink RX0 46 "GateWheel$Circuit" "count" "I") (List.mem_of_getElem? (i := 1) rfl)) (fun _ h9 => h9) rfl dX0_levelAbove_8 ?_
      refine lv_icmp_ge (tgt := 45) hx hb dX0_levelAbove_11 (by decide) (fun c12 => ?_) (fun c12 => ?_)
      · have h := zY c12 h
        refine lv_iload_n hx hb dX0_levelAbove_45 rfl (lv_at hl 2 rfl) ?_
        have h := congrArg some (zI_r h hx8)
        have ho0 : v10 = or_ := congrArg (fun z : Int32 => z) (Option.some.inj h)
        exact W.iret (v := v10) hx hb hr (fun t ht hW => ⟨⟨v10, (), rfl, ho0, by rw [ht]; exact hP, va_K.moved hW.alike hK, hD⟩, hS.F ht⟩) hS.2.2 dX0_levelAbove_46
      · have h := zN c12 h
        refine lv_lload_n hx hb dX0_levelAbove_14 rfl (lv_at hl 1 rfl) ?_
        refine lv_iload hx hb dX0_levelAbove_15 (lv_at hl 3 rfl) ?_
        refine lv_lushr (v := (jLu p1 v11)) hx hb dX0_levelAbove_17 rfl ?_
        refine lv_lconst (v := 1) hx hb dX0_levelAbove_18 (by decide) ?_
        refine lv_land hx hb dX0_levelAbove_19 ?_
        refine lv_lconst (v := 1) hx hb dX0_levelAbove_20 (by decide) ?_
        refine W.lcmp hx hb dX0_levelAbove_21 ?_
        refine lv_if_ne (tgt := 39) hx hb dX0_levelAbove_22 (by decide) (fun c13 => ?_) (fun c13 => ?_)
        · have h := zN c13 h
          obtain ⟨v14, ev14, h⟩ := zL_spec h
          refine lv_iinc (v := v14) (lv' := [(4, .int v14), (0, .ref a0), (1, .long p1), (3, .int v10)]) hx hb dX0_levelAbove_39 hl (k := 3) rfl (by rw [ev14]; rfl) (by decide) rfl (fun ls hl => ?_)
          refine lv_goto (tgt := 5) hx hb dX0_levelAbove_42 (by decide) ?_
          have h := zI_l h hx8
          exact (eG2 _ _ _ _ _).mp (ihlp4 v10 v14 _ _ _ h hP hD hS (lv_sub hl [1, 2, 3, 0] rfl))
        · have h := zY c13 h
          refine lv_iload_n hx hb dX0_levelAbove_25 rfl (lv_at hl 2 rfl) ?_
          refine lv_aload_n hx hb dX0_levelAbove_26 rfl (lv_at hl 0 rfl) ?_
          refine va_get (D := (dC, dI)) (ci := 0) (v := .ref (h0 11)) (C := RX0) (T := TX0) (N := 13) hx hb hts inX0_ hown hK hP 0 rfl rfl 11 (by decide) (hts (.fieldLink RX0 40 "GateWheel$Circuit" "levels" "[I") (List.mem_of_getElem? (i := 2) rfl)) (fun _ h9 => h9) rfl dX0_levelAbove_27 ?_
          refine lv_iload hx hb dX0_levelAbove_30 (lv_at hl 3 rfl) ?_
          obtain ⟨hi15, h⟩ := zG_spec h
          refine va_iald hx hb hK hP 10 0 rfl rfl hi15 dX0_levelAbove_32 ?_
          refine lv_iconst (v := 1) hx hb dX0_levelAbove_33 (by decide) ?_
          refine lv_iadd hx hb dX0_levelAbove_34 ?_
          refine va_mmax hx hb (by rw [hml]; exact hl.1.symm) hown (hts (.methodLink RX0 75 Lib.Math.max.name) (List.mem_of_getElem? (i := 3) rfl)) (hts (.static Lib.Math.max.name) (List.mem_of_getElem? (i := 4) rfl)) (hts (.initialized "java/lang/Math") (List.mem_of_getElem? (i := 5) rfl)) (hts (.code Lib.Math.max.name Lib.Math.max.code 2 (some .int)) (List.mem_of_getElem? (i := 6) rfl)) (Nat.le_of_ble_eq_true rfl) (Nat.le_of_ble_eq_true rfl) (Nat.le_of_ble_eq_true rfl) (Nat.le_of_ble_eq_true rfl) dX0_levelAbove_35 ?_
          obtain ⟨v16, ev16, h⟩ := zL_spec h
          refine zTopi ev16 ?_
          refine lv_istore_n (lv' := [(3, .int v16), (0, .ref a0), (1, .long p1), (4, .int v11)]) hx hb dX0_levelAbove_38 rfl hl (by decide) rfl (fun ls hl => ?_)
          obtain ⟨v17, ev17, h⟩ := zL_spec h
          refine lv_iinc (v := v17) (lv' := [(4, .int v17), (3, .int v16), (0, .ref a0), (1, .long p1)]) hx hb dX0_levelAbove_39 hl (k := 3) rfl (by rw [ev17]; rfl) (by decide) rfl (fun ls hl => ?_)
          refine lv_goto (tgt := 5) hx hb dX0_levelAbove_42 (by decide) ?_
          have h := zI_l h hx8
          exact (eG2 _ _ _ _ _).mp (ihlp4 v16 v17 _ _ _ h hP hD hS (lv_sub hl [2, 3, 1, 0] rfl))
  exact lp4 zF (0 : Int32) (0 : Int32) _ _ _ hi6 hP hD hS (lv_sub hl [2, 3, 1, 0] rfl)

set_option maxHeartbeats 4000000 in
set_option maxRecDepth 100000 in
theorem m_X0_arrange (l : Launch) (dC : Nat → ClassId) (dI : Nat → Nat → Nat) (y : Nat → ClassId) (a0 : Nat) (h0 : Nat → Nat) (S0 : SS) (sz : Nat) (o_0 : SS) (h : f_X0_arrange S0 = some o_0) : Met l yX0_arrange wsX0_arrange ({ frames := 2, cells := 0, slots := 0, locals := 37 }) (va_Pc [.ref a0] (fun U => U.heap.size = sz ∧ va_P (dC, dI) vwCl (cX0 a0 h0 y S0) U.heap ∧ va_K (dC, dI) vwCl [(y 0, .int), (y 1, .long), (y 2, .byte), (y 3, .boolean)] U ∧ va_D (fun _ => True) (cX0 a0 h0 y S0))) (va_Qv (fun (_ : Unit) => True) (fun (_ : Unit) (t : State) => va_P (dC, dI) vwCl (cX0 a0 h0 y o_0) t.heap ∧ va_K (dC, dI) vwCl [(y 0, .int), (y 1, .long), (y 2, .byte), (y 3, .boolean)] t ∧ va_D (va_A (cX0 a0 h0 y S0) sz) (cX0 a0 h0 y o_0)) (va_A (cX0 a0 h0 y S0) sz)) 0 0 (va_A (cX0 a0 h0 y S0) sz) := by
  refine Met.ofW (cc := cX0_arrange) (maxL := 7) (ret := none) (by decide +kernel) rfl ?_
  intro p e s m args below meth c s₁ B hml hv
  obtain ⟨rfl, hsz, hP, hK, hD0⟩ := hv
  have hx := B.exec
  have hb := B.bytes
  have hr := B.returns
  have hts := atoms_spec (ws := wsX0_arrange) B.pre
  have hown : s.vm.findClass RX0 = some m.cls := findClass_of_methodNamed B.named
  have hlocks := B.notSynchronized
  have inX0_ : ∀ w ∈ wsX00, w ∈ wsX0_arrange := fun _ h => List.mem_cons_of_mem _ (List.mem_append_right _ h)
  subst hsz
  have hD := hD0.self (sz := s.heap.size)
  generalize hAe : va_A (cX0 a0 h0 y S0) s.heap.size = A at hD ⊢
  have hA : ∀ q : Nat, s.heap.size ≤ q → A q := fun q h => by rw [← hAe]; exact Or.inr h
  have hS : va_S A s.heap s.heap [] := va_S.rf
  have hP : va_P (dC, dI) vwCl (cX0 a0 h0 y S0) s.heap := hP
  have hl := lv_entry ([.ref a0]) (n := 7) (Nat.le_of_ble_eq_true rfl)
  rw [lg_entry_eq]
  generalize (lg_sl ([.ref a0]) ++ List.replicate (7 - (lg_sl ([.ref a0])).length) Slot.unset).toArray = ls at hl ⊢
  have hl : lv_has ls 7 [(0, .ref a0)] := hl
  refine lv_lconst (v := 0) hx hb dX0_arrange_0 (by decide) ?_
  refine lv_lstore_n (lv' := [(1, .long 0), (0, .ref a0)]) hx hb dX0_arrange_1 rfl hl (by decide) rfl (fun ls hl => ?_)
  refine lv_iconst (v := 0) hx hb dX0_arrange_2 (by decide) ?_
  refine lv_istore_n (lv' := [(3, .int 0), (1, .long 0), (0, .ref a0)]) hx hb dX0_arrange_3 rfl hl (by decide) rfl (fun ls hl => ?_)
  refine lv_iconst (v := 0) hx hb dX0_arrange_4 (by decide) ?_
  refine lv_istore (lv' := [(4, .int 0), (3, .int 0), (1, .long 0), (0, .ref a0)]) hx hb dX0_arrange_5 hl (by decide) rfl (fun ls hl => ?_)
  refine W_abs (fun GW1 eG2 => ?_)
  have hi6 := h
  have lp4 : ∀ (n : Nat) (v10 : Int64) (v11 : Int32) (v12 : Int32) (s0_13 : SS) (HGW1 : Heap) (locs : List Loc) (ls : Array Slot), zI (b_X0_arrange_7) n (v10, v11, v12, s0_13) = some o_0 → va_P (dC, dI) vwCl (cX0 a0 h0 y s0_13) HGW1 → va_D A (cX0 a0 h0 y s0_13) → va_S A s.heap HGW1 locs → lv_has ls 7 [(0, .ref a0), (1, .long v10), (3, .int v11), (4, .int v12)] → GW1 HGW1 locs 0 0 (F0 m 7 ls []) := by
    intro n
    induction n with
    | zero =>
      intro v10 v11 v12 s0_13 HGW1 locs ls hi6 hP hD hS hl
      exact (zI_0 hi6).elim
    | succ n ihlp4 =>
      intro v10 v11 v12 s0_13 HGW1 locs ls hi6 hP hD hS hl
      refine (eG2 _ _ _ _ _).mpr ?_
      obtain ⟨xx9, h, hx8⟩ := zI_spec hi6
      refine lv_iload hx hb dX0_arrange_7 (lv_at hl 3 rfl) ?_
      refine lv_aload_n hx hb dX0_arrange_9 rfl (lv_at hl 0 rfl) ?_
      refine va_get (D := (dC, dI)) (ci := 0) (v := .int (gI s0_13 0)) (C := RX0) (T := TX0) (N := 13) hx hb hts inX0_ hown hK hP 0 rfl rfl 0 (by decide) (hts (.fieldLink RX0 46 "GateWheel$Circuit" "count" "I") (List.mem_of_getElem? (i := 1) rfl)) (fun _ h9 => h9) rfl dX0_arrange_10 ?_
      refine lv_icmp_ge (tgt := 129) hx hb dX0_arrange_13 (by decide) (fun c14 => ?_) (fun c14 => ?_)
      · have h := zY c14 h
        have h := congrArg some (zI_r h hx8)
        have ho0 : s0_13 = o_0 := congrArg (fun z : SS => z) (Option.some.inj h)
        exact W.vret hx hb hr (fun t ht hW => ⟨⟨(), rfl, trivial, by rw [ht]; rw [← ho0]; exact hP, va_K.moved hW.alike hK, by rw [← ho0]; exact hD⟩, hS.F ht⟩) hS.2.2 dX0_arrange_129
      · have h := zN c14 h
        refine lv_iload_n hx hb dX0_arrange_16 rfl (lv_at hl 2 rfl) ?_
        refine lv_aload_n hx hb dX0_arrange_17 rfl (lv_at hl 0 rfl) ?_
        refine va_get (D := (dC, dI)) (ci := 0) (v := .int (gI s0_13 0)) (C := RX0) (T := TX0) (N := 13) hx hb hts inX0_ hown hK hP 0 rfl rfl 0 (by decide) (hts (.fieldLink RX0 46 "GateWheel$Circuit" "count" "I") (List.mem_of_getElem? (i := 1) rfl)) (fun _ h9 => h9) rfl dX0_arrange_18 ?_
        refine lv_icmp_ge (tgt := 129) hx hb dX0_arrange_21 (by decide) (fun c15 => ?_) (fun c15 => ?_)
        · have h := zY c15 h
          have h := congrArg some (zI_r h hx8)
          have ho0 : s0_13 = o_0 := congrArg (fun z : SS => z) (Option.some.inj h)
          exact W.vret hx hb hr (fun t ht hW => ⟨⟨(), rfl, trivial, by rw [ht]; rw [← ho0]; exact hP, va_K.moved hW.alike hK, by rw [← ho0]; exact hD⟩, hS.F ht⟩) hS.2.2 dX0_arrange_129
        · have h := zN c15 h
          refine lv_iconst (v := 0) hx hb dX0_arrange_24 (by decide) ?_
          refine lv_istore (lv' := [(5, .int 0), (0, .ref a0), (1, .long v10), (3, .int v11), (4, .int v12)]) hx hb dX0_arrange_25 hl (by decide) rfl (fun ls hl => ?_)
          refine W_abs (fun GW16 eG17 => ?_)
          obtain ⟨ov20, hi21, h⟩ := zB_spec h
          have je18 : ∀ (v25 : Int64) (v26 : Int32) (s0_27 : SS) (HGW16e : Heap) (locs : List Loc) (ls : Array Slot), (v25, v26, s0_27) = ov20 → va_P (dC, dI) vwCl (cX0 a0 h0 y s0_27) HGW16e → va_D A (cX0 a0 h0 y s0_27) → va_S A s.heap HGW16e locs → lv_has ls 7 [(0, .ref a0), (4, .int v12), (1, .long v25), (3, .int v26)] → GW16 HGW16e locs 0 0 (F0 m 123 ls []) := by
            intro v25 v26 s0_27 HGW16e locs ls hv hP hD hS hl
            subst hv
            refine (eG17 _ _ _ _ _).mpr ?_
            obtain ⟨v28, ev28, h⟩ := zL_spec h
            refine lv_iinc (v := v28) (lv' := [(4, .int v28), (0, .ref a0), (1, .long v25), (3, .int v26)]) hx hb dX0_arrange_123 hl (k := 1) rfl (by rw [ev28]; rfl) (by decide) rfl (fun ls hl => ?_)
            refine lv_goto (tgt := 7) hx hb dX0_arrange_126 (by decide) ?_
            have h := zI_l h hx8
            exact (eG2 _ _ _ _ _).mp (ihlp4 v25 v26 v28 s0_27 _ _ _ h hP hD hS (lv_sub hl [1, 2, 3, 0] rfl))
          have lp19 : ∀ (n : Nat) (v29 : Int64) (v30 : Int32) (v31 : Int32) (s0_32 : SS) (HGW16 : Heap) (locs : List Loc) (ls : Array Slot), zI (b_X0_arrange_27) n (v29, v30, v31, s0_32) = some ov20 → va_P (dC, dI) vwCl (cX0 a0 h0 y s0_32) HGW16 → va_D A (cX0 a0 h0 y s0_32) → va_S A s.heap HGW16 locs → lv_has ls 7 [(0, .ref a0), (4, .int v12), (1, .long v29), (3, .int v30), (5, .int v31)] → GW16 HGW16 locs 0 0 (F0 m 27 ls []) := by
            intro n
            induction n with
            | zero =>
              intro v29 v30 v31 s0_32 HGW16 locs ls hi21 hP hD hS hl
              exact (zI_0 hi21).elim
            | succ n ihlp19 =>
              intro v29 v30 v31 s0_32 HGW16 locs ls hi21 hP hD hS hl
              refine (eG17 _ _ _ _ _).mpr ?_
              obtain ⟨xx24, h, hx23⟩ := zI_spec hi21
              refine lv_iload hx hb dX0_arrange_27 (lv_at hl 4 rfl) ?_
              refine lv_aload_n hx hb dX0_arrange_29 rfl (lv_at hl 0 rfl) ?_
              refine va_get (D := (dC, dI)) (ci := 0) (v := .int (gI s0_32 0)) (C := RX0) (T := TX0) (N := 13) hx hb hts inX0_ hown hK hP 0 rfl rfl 0 (by decide) (hts (.fieldLink RX0 46 "GateWheel$Circuit" "count" "I") (List.mem_of_getElem? (i := 1) rfl)) (fun _ h9 => h9) rfl dX0_arrange_30 ?_
              refine lv_icmp_ge (tgt := 123) hx hb dX0_arrange_33 (by decide) (fun c33 => ?_) (fun c33 => ?_)
              · have h := zY c33 h
                exact (eG17 _ _ _ _ _).mp (je18 v29 v30 s0_32 _ _ _ (zI_r h hx23) hP hD hS (lv_sub hl [0, 1, 2, 3] rfl))
              · have h := zN c33 h
                refine lv_iload_n hx hb dX0_arrange_36 rfl (lv_at hl 3 rfl) ?_
                refine lv_aload_n hx hb dX0_arrange_37 rfl (lv_at hl 0 rfl) ?_
                refine va_get (D := (dC, dI)) (ci := 0) (v := .int (gI s0_32 0)) (C := RX0) (T := TX0) (N := 13) hx hb hts inX0_ hown hK hP 0 rfl rfl 0 (by decide) (hts (.fieldLink RX0 46 "GateWheel$Circuit" "count" "I") (List.mem_of_getElem? (i := 1) rfl)) (fun _ h9 => h9) rfl dX0_arrange_38 ?_
                refine lv_icmp_ge (tgt := 123) hx hb dX0_arrange_41 (by decide) (fun c34 => ?_) (fun c34 => ?_)
                · have h := zY c34 h
                  exact (eG17 _ _ _ _ _).mp (je18 v29 v30 s0_32 _ _ _ (zI_r h hx23) hP hD hS (lv_sub hl [0, 1, 2, 3] rfl))
                · have h := zN c34 h
                  refine lv_lload_n hx hb dX0_arrange_44 rfl (lv_at hl 2 rfl) ?_
                  refine lv_iload hx hb dX0_arrange_45 (lv_at hl 4 rfl) ?_
                  refine lv_lushr (v := (jLu v29 v31)) hx hb dX0_arrange_47 rfl ?_
                  refine lv_lconst (v := 1) hx hb dX0_arrange_48 (by decide) ?_
                  refine lv_land hx hb dX0_arrange_49 ?_
                  refine lv_lconst (v := 1) hx hb dX0_arrange_50 (by decide) ?_
                  refine W.lcmp hx hb dX0_arrange_51 ?_
                  refine W_abs (fun GW35 eG36 => ?_)
                  obtain ⟨ov38, hr39, h⟩ := zB_spec h
                  have jn37 : ∀ (v41 : Int32) (HGW35 : Heap) (locs : List Loc) (ls : Array Slot), v41 = ov38 → va_P (dC, dI) vwCl (cX0 a0 h0 y s0_32) HGW35 → va_D A (cX0 a0 h0 y s0_32) → va_S A s.heap HGW35 locs → lv_has ls 7 [(0, .ref a0), (4, .int v12), (1, .long v29), (3, .int v30), (5, .int v31)] → GW35 HGW35 locs 0 0 (F0 m 60 ls [.int v41]) := by
                    intro v41 HGW35 locs ls hv hP hD hS hl
                    subst hv
                    refine (eG36 _ _ _ _ _).mpr ?_
                    refine lv_istore (lv' := [(6, .int v41), (0, .ref a0), (4, .int v12), (1, .long v29), (3, .int v30), (5, .int v31)]) hx hb dX0_arrange_60 hl (by decide) rfl (fun ls hl => ?_)
                    refine lv_iload hx hb dX0_arrange_62 (lv_at hl 0 rfl) ?_
                    refine lv_if_ne (tgt := 117) hx hb dX0_arrange_64 (by decide) (fun c42 => ?_) (fun c42 => ?_)
                    · have h := zN c42 h
                      obtain ⟨v43, ev43, h⟩ := zL_spec h
                      refine lv_iinc (v := v43) (lv' := [(5, .int v43), (6, .int v41), (0, .ref a0), (4, .int v12), (1, .long v29), (3, .int v30)]) hx hb dX0_arrange_117 hl (k := 5) rfl (by rw [ev43]; rfl) (by decide) rfl (fun ls hl => ?_)
                      refine lv_goto (tgt := 27) hx hb dX0_arrange_120 (by decide) ?_
                      have h := zI_l h hx23
                      exact (eG17 _ _ _ _ _).mp (ihlp19 v29 v30 v43 s0_32 _ _ _ h hP hD hS (lv_sub hl [2, 3, 4, 5, 0] rfl))
                    · have h := zY c42 h
                      refine lv_aload_n hx hb dX0_arrange_67 rfl (lv_at hl 1 rfl) ?_
                      refine lv_iload hx hb dX0_arrange_68 (lv_at hl 5 rfl) ?_
                      refine lv_lload_n hx hb dX0_arrange_70 rfl (lv_at hl 3 rfl) ?_
                      refine lv_ldc2 hx hb hown (hts (.constantLong RX0 65 (-1)) (List.mem_of_getElem? (i := 2) rfl)) dX0_arrange_71 ?_
                      refine lv_lxor hx hb dX0_arrange_74 ?_
                      obtain ⟨r44, hc45, h⟩ := zB_spec h
                      have hFc := zFree hD hS hA
                      refine va_calli (va_runV (As := [.int v31, .long (v29 ^^^ (-1 : Int64))]) (rest := []) ⟨hx, hb, hml, hown, hts⟩ (m_X0_dependsOn l dC dI y a0 h0 s0_32 v31 (v29 ^^^ (-1 : Int64)) HGW35.size r44 hc45) (cwV 2 hts gX0_arrange_X0_dependsOn rfl rfl rfl (by decide +kernel) ⟨Nat.le_of_ble_eq_true rfl, Nat.le_of_ble_eq_true rfl⟩) ⟨fun a U g mk q => by obtain ⟨q0, q1, qP, qK, qD⟩ := q; exact ⟨q0, q1, qP, va_K.moved (u := U) (U := U.calling g mk a) (Vm.Alike.refl U.vm) qK, qD⟩, va_recv hK hP (ci := 0) (q0 := 0) rfl rfl, fun U hU hW => ⟨rfl, by rw [hU], by rw [hU]; exact hP, va_K.moved hW.alike hK, hD.weaken (fun _ _ _ _ => trivial)⟩⟩ rfl rfl hl.1 rfl (lv_room (Nat.le_of_ble_eq_true rfl)) dX0_arrange_75 ⟨Nat.le_of_ble_eq_true rfl, Nat.le_of_ble_eq_true rfl⟩) hS (fun q _ h => hFc q h) hFc (fun rr47 u t H46 locs ht hvm hw hB hz1 hk1 hS => ?_)
                      obtain ⟨hP1, hK1, hD1⟩ := hB
                      rw [ht] at hP1
                      refine zTopi hw.symm ?_
                      have hP := hP1
                      have hD := hD1.weaken (fun _ q _ h => hFc q.1 h)
                      have hP : va_P (dC, dI) vwCl (cX0 a0 h0 y s0_32) H46 := hP
                      have hD : va_D A (cX0 a0 h0 y s0_32) := hD
                      refine lv_if_ne (tgt := 117) hx hb dX0_arrange_78 (by decide) (fun c48 => ?_) (fun c48 => ?_)
                      · have h := zN c48 h
                        obtain ⟨v49, ev49, h⟩ := zL_spec h
                        refine lv_iinc (v := v49) (lv' := [(5, .int v49), (6, .int v41), (0, .ref a0), (4, .int v12), (1, .long v29), (3, .int v30)]) hx hb dX0_arrange_117 hl (k := 5) rfl (by rw [ev49]; rfl) (by decide) rfl (fun ls hl => ?_)
                        refine lv_goto (tgt := 27) hx hb dX0_arrange_120 (by decide) ?_
                        have h := zI_l h hx23
                        exact (eG17 _ _ _ _ _).mp (ihlp19 v29 v30 v49 s0_32 _ _ _ h hP hD hS (lv_sub hl [2, 3, 4, 5, 0] rfl))
                      · have h := zY c48 h
                        refine lv_aload_n hx hb dX0_arrange_81 rfl (lv_at hl 1 rfl) ?_
                        refine va_get (D := (dC, dI)) (ci := 0) (v := .ref (h0 12)) (C := RX0) (T := TX0) (N := 13) hx hb hts inX0_ hown hK hP 0 rfl rfl 12 (by decide) (hts (.fieldLink RX0 43 "GateWheel$Circuit" "order" "[I") (List.mem_of_getElem? (i := 3) rfl)) (fun _ h9 => h9) rfl dX0_arrange_82 ?_
                        refine lv_iload_n hx hb dX0_arrange_85 rfl (lv_at hl 4 rfl) ?_
                        refine lv_iload hx hb dX0_arrange_86 (lv_at hl 5 rfl) ?_
                        obtain ⟨hi50, h⟩ := zG_spec h
                        refine va_iast hx hb hK hP hD hS 11 0 rfl rfl hi50 dX0_arrange_88 (fun H51 locs hP hD hS => ?_)
                        obtain ⟨s0_52, es0_52, h⟩ := zL_spec h
                        have hP : va_P (dC, dI) vwCl (cX0 a0 h0 y s0_52) H51 := by rw [es0_52]; exact hP
                        have hD : va_D A (cX0 a0 h0 y s0_52) := by rw [es0_52]; exact hD
                        obtain ⟨v53, ev53, h⟩ := zL_spec h
                        refine lv_iinc (v := v53) (lv' := [(3, .int v53), (6, .int v41), (0, .ref a0), (4, .int v12), (1, .long v29), (5, .int v31)]) hx hb dX0_arrange_89 hl (k := 4) rfl (by rw [ev53]; rfl) (by decide) rfl (fun ls hl => ?_)
                        refine lv_lload_n hx hb dX0_arrange_92 rfl (lv_at hl 4 rfl) ?_
                        refine lv_lconst (v := 1) hx hb dX0_arrange_93 (by decide) ?_
                        refine lv_iload hx hb dX0_arrange_94 (lv_at hl 5 rfl) ?_
                        refine lv_lshl (v := (jLs (1 : Int64) v31)) hx hb dX0_arrange_96 rfl ?_
                        refine lv_lor hx hb dX0_arrange_97 ?_
                        obtain ⟨v54, ev54, h⟩ := zL_spec h
                        refine zTopl ev54 ?_
                        refine lv_lstore_n (lv' := [(1, .long v54), (3, .int v53), (6, .int v41), (0, .ref a0), (4, .int v12), (5, .int v31)]) hx hb dX0_arrange_98 rfl hl (by decide) rfl (fun ls hl => ?_)
                        refine lv_aload_n hx hb dX0_arrange_99 rfl (lv_at hl 3 rfl) ?_
                        refine va_get (D := (dC, dI)) (ci := 0) (v := .ref (h0 11)) (C := RX0) (T := TX0) (N := 13) hx hb hts inX0_ hown hK hP 0 rfl rfl 11 (by decide) (hts (.fieldLink RX0 40 "GateWheel$Circuit" "levels" "[I") (List.mem_of_getElem? (i := 4) rfl)) (fun _ h9 => h9) rfl dX0_arrange_100 ?_
                        refine lv_iload hx hb dX0_arrange_103 (lv_at hl 5 rfl) ?_
                        refine lv_aload_n hx hb dX0_arrange_105 rfl (lv_at hl 3 rfl) ?_
                        refine lv_aload_n hx hb dX0_arrange_106 rfl (lv_at hl 3 rfl) ?_
                        refine va_get (D := (dC, dI)) (ci := 0) (v := .ref (h0 10)) (C := RX0) (T := TX0) (N := 13) hx hb hts inX0_ hown hK hP 0 rfl rfl 10 (by decide) (hts (.fieldLink RX0 37 "GateWheel$Circuit" "hangs" "[J") (List.mem_of_getElem? (i := 5) rfl)) (fun _ h9 => h9) rfl dX0_arrange_107 ?_
                        refine lv_iload hx hb dX0_arrange_110 (lv_at hl 5 rfl) ?_
                        obtain ⟨hi55, h⟩ := zG_spec h
                        refine va_lald hx hb hK hP 9 1 rfl rfl hi55 dX0_arrange_112 ?_
                        obtain ⟨r56, hc57, h⟩ := zB_spec h
                        have hFc := zFree hD hS hA
                        refine va_calli (va_runV (As := [.long (gB s0_52 10 v31.toNatClampNeg)]) (rest := [.int v31, .ref (h0 11)]) ⟨hx, hb, hml, hown, hts⟩ (m_X0_levelAbove l dC dI y a0 h0 s0_52 (gB s0_52 10 v31.toNatClampNeg) H51.size r56 hc57) (cwV 1 hts gX0_arrange_X0_levelAbove rfl rfl rfl (by decide +kernel) ⟨Nat.le_of_ble_eq_true rfl, Nat.le_of_ble_eq_true rfl⟩) ⟨fun a U g mk q => by obtain ⟨q0, q1, qP, qK, qD⟩ := q; exact ⟨q0, q1, qP, va_K.moved (u := U) (U := U.calling g mk a) (Vm.Alike.refl U.vm) qK, qD⟩, va_recv hK hP (ci := 0) (q0 := 0) rfl rfl, fun U hU hW => ⟨rfl, by rw [hU], by rw [hU]; exact hP, va_K.moved hW.alike hK, hD.weaken (fun _ _ _ _ => trivial)⟩⟩ rfl rfl hl.1 rfl (lv_room (Nat.le_of_ble_eq_true rfl)) dX0_arrange_113 ⟨Nat.le_of_ble_eq_true rfl, Nat.le_of_ble_eq_true rfl⟩) hS (fun q _ h => hFc q h) hFc (fun rr59 u t H58 locs ht hvm hw hB hz1 hk1 hS => ?_)
                        obtain ⟨hP1, hK1, hD1⟩ := hB
                        rw [ht] at hP1
                        refine zTopi hw.symm ?_
                        have hP := hP1
                        have hD := hD1.weaken (fun _ q _ h => hFc q.1 h)
                        have hP : va_P (dC, dI) vwCl (cX0 a0 h0 y s0_52) H58 := hP
                        have hD : va_D A (cX0 a0 h0 y s0_52) := hD
                        refine va_iast hx hb hK hP hD hS 10 0 rfl rfl hi55 dX0_arrange_116 (fun H60 locs hP hD hS => ?_)
                        obtain ⟨s0_61, es0_61, h⟩ := zL_spec h
                        have hP : va_P (dC, dI) vwCl (cX0 a0 h0 y s0_61) H60 := by rw [es0_61]; exact hP
                        have hD : va_D A (cX0 a0 h0 y s0_61) := by rw [es0_61]; exact hD
                        obtain ⟨v62, ev62, h⟩ := zL_spec h
                        refine lv_iinc (v := v62) (lv' := [(5, .int v62), (1, .long v54), (3, .int v53), (6, .int v41), (0, .ref a0), (4, .int v12)]) hx hb dX0_arrange_117 hl (k := 5) rfl (by rw [ev62]; rfl) (by decide) rfl (fun ls hl => ?_)
                        refine lv_goto (tgt := 27) hx hb dX0_arrange_120 (by decide) ?_
                        have h := zI_l h hx23
                        exact (eG17 _ _ _ _ _).mp (ihlp19 v54 v53 v62 s0_61 _ _ _ h hP hD hS (lv_sub hl [4, 5, 1, 2, 0] rfl))
                  refine (eG36 _ _ _ _ _).mpr ?_
                  have h := hr39
                  refine lv_if_ne (tgt := 59) hx hb dX0_arrange_52 (by decide) (fun c63 => ?_) (fun c63 => ?_)
                  · have h := zN c63 h
                    refine lv_iconst (v := 0) hx hb dX0_arrange_59 (by decide) ?_
                    exact (eG36 _ _ _ _ _).mp (jn37 (0 : Int32) _ _ _ (Option.some.inj h) hP hD hS (lv_sub hl [0, 1, 2, 3, 4] rfl))
                  · have h := zY c63 h
                    refine lv_iconst (v := 1) hx hb dX0_arrange_55 (by decide) ?_
                    refine lv_goto (tgt := 60) hx hb dX0_arrange_56 (by decide) ?_
                    exact (eG36 _ _ _ _ _).mp (jn37 (1 : Int32) _ _ _ (Option.some.inj h) hP hD hS (lv_sub hl [0, 1, 2, 3, 4] rfl))
          exact lp19 zF v10 v11 (0 : Int32) s0_13 _ _ _ hi21 hP hD hS (lv_sub hl [1, 4, 2, 3, 0] rfl)
  exact lp4 zF (0 : Int64) (0 : Int32) (0 : Int32) S0 _ _ _ hi6 hP hD hS (lv_sub hl [3, 2, 1, 0] rfl)
