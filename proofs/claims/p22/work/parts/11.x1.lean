noncomputable def f_X1_isBlank (p1 : Int32) : Option (Int32) :=
  if p1 = (32 : Int32) then some (1 : Int32)
  else if p1 = (10 : Int32) then some (1 : Int32)
  else some (0 : Int32)

noncomputable def f_X1_isLetter (p1 : Int32) : Option (Int32) :=
  if p1 < (97 : Int32) then some (0 : Int32)
  else if (122 : Int32) < p1 then some (0 : Int32)
  else some (1 : Int32)

noncomputable def f_X1_isDigit (p1 : Int32) : Option (Int32) :=
  if p1 < (48 : Int32) then some (0 : Int32)
  else if (57 : Int32) < p1 then some (0 : Int32)
  else some (1 : Int32)

noncomputable def f_X1_isLetterOrDigit (p1 : Int32) : Option (Int32) :=
  zB (f_X1_isLetter p1) (fun (r1 : Int32) =>
  if r1 = (0 : Int32) then zB (f_X1_isDigit p1) (fun (r6 : Int32) =>
  if r6 = (0 : Int32) then some (0 : Int32)
  else some (1 : Int32))
  else some (1 : Int32))

noncomputable def f_X1_isSign (p1 : Int32) : Option (Int32) :=
  if p1 = (44 : Int32) then some (1 : Int32)
  else if p1 = (59 : Int32) then some (1 : Int32)
  else if p1 = (61 : Int32) then some (1 : Int32)
  else if p1 = (40 : Int32) then some (1 : Int32)
  else if p1 = (41 : Int32) then some (1 : Int32)
  else if p1 = (60 : Int32) then some (1 : Int32)
  else some (0 : Int32)

noncomputable def f_X1_begin (S1 : SS) (ft : Nat → Int32) (p2 : Int32) : Option (SS) :=
  zL (sI S1 1 (if (2000 : Int32) < p2 then (2000 : Int32) else p2)) (fun s1_3 =>
  zL (sI s1_3 2 (0 : Int32)) (fun s1_5 =>
  some s1_5))

noncomputable def f_X1_takeDigit (S1 : SS) (ft : Nat → Int32) : Option (SS) :=
  zG (vp_in (gI S1 2) 2000) (
  zL (sI S1 6 ((ft (gI S1 2).toNatClampNeg) - (48 : Int32))) (fun s1_3 =>
  zL (sI s1_3 2 ((gI s1_3 2) + (1 : Int32))) (fun s1_5 =>
  zB (if (gI s1_5 1) ≤ (gI s1_5 2) then some (1 : Int32)
  else zG (vp_in (gI s1_5 2) 2000) (
  zB (f_X1_isLetterOrDigit (ft (gI s1_5 2).toNatClampNeg)) (fun (r26 : Int32) =>
  if r26 = (0 : Int32) then some (1 : Int32)
  else some (0 : Int32)))) (fun (v12 : Int32) =>
  zB (if v12 = (0 : Int32) then some (0 : Int32)
  else if (gI s1_5 6) ≤ (0 : Int32) then some (0 : Int32)
  else some (3 : Int32)) (fun (v19 : Int32) =>
  zL (sI s1_5 3 v19) (fun s1_21 =>
  some s1_21))))))

noncomputable def b_X1_takeWord_5 (ft : Nat → Int32) : (SS) → Option ((SS) ⊕ (SS)) := fun s1_23 =>
  if (gI s1_23 1) ≤ (gI s1_23 2) then some (Sum.inr s1_23)
  else zG (vp_in (gI s1_23 2) 2000) (
  zB (f_X1_isLetterOrDigit (ft (gI s1_23 2).toNatClampNeg)) (fun (r26 : Int32) =>
  if r26 = (0 : Int32) then some (Sum.inr s1_23)
  else zL (sL s1_23 5 ((jLs (gL s1_23 5) (8 : Int32)) ||| (jIL (ft (gI s1_23 2).toNatClampNeg)))) (fun s1_32 =>
  zL (sI s1_32 2 ((gI s1_32 2) + (1 : Int32))) (fun s1_34 =>
  some (Sum.inl s1_34)))))
noncomputable def f_X1_takeWord (S1 : SS) (ft : Nat → Int32) : Option (SS) :=
  zL (sL S1 5 (0 : Int64)) (fun s1_2 =>
  zB (zI (b_X1_takeWord_5 ft) zF s1_2) (fun (s1_12 : SS) =>
  zB (if ((gI s1_12 2) - (gI s1_12 4)) ≤ (8 : Int32) then some (2 : Int32)
  else some (0 : Int32)) (fun (v19 : Int32) =>
  zL (sI s1_12 3 v19) (fun s1_21 =>
  some s1_21))))

noncomputable def b_X1_advance_0 (ft : Nat → Int32) : (SS) → Option ((SS) ⊕ (SS)) := fun s1_52 =>
  if (gI s1_52 1) ≤ (gI s1_52 2) then some (Sum.inr s1_52)
  else zG (vp_in (gI s1_52 2) 2000) (
  zB (f_X1_isBlank (ft (gI s1_52 2).toNatClampNeg)) (fun (r55 : Int32) =>
  if r55 = (0 : Int32) then some (Sum.inr s1_52)
  else zL (sI s1_52 2 ((gI s1_52 2) + (1 : Int32))) (fun s1_61 =>
  some (Sum.inl s1_61))))
noncomputable def f_X1_advance (S1 : SS) (ft : Nat → Int32) : Option (SS) :=
  zB (zI (b_X1_advance_0 ft) zF S1) (fun (s1_10 : SS) =>
  zL (sI s1_10 4 (gI s1_10 2)) (fun s1_12 =>
  if (gI s1_12 2) < (gI s1_12 1) then zG (vp_in (gI s1_12 2) 2000) (
  zL (ft (gI s1_12 2).toNatClampNeg) (fun v15 =>
  zB (f_X1_isLetter v15) (fun (r16 : Int32) =>
  if r16 = (0 : Int32) then zB (f_X1_isDigit v15) (fun (r21 : Int32) =>
  if r21 = (0 : Int32) then zB (f_X1_isSign v15) (fun (r26 : Int32) =>
  zB (if r26 = (0 : Int32) then some (0 : Int32)
  else some v15) (fun (v36 : Int32) =>
  zL (sI s1_12 3 v36) (fun s1_38 =>
  zL (sI s1_38 2 ((gI s1_38 2) + (1 : Int32))) (fun s1_40 =>
  some s1_40))))
  else zB (f_X1_takeDigit s1_12 ft) (fun (s1_42 : SS) =>
  some s1_42))
  else zB (f_X1_takeWord s1_12 ft) (fun (s1_46 : SS) =>
  some s1_46))))
  else zL (sI s1_12 3 (1 : Int32)) (fun s1_51 =>
  some s1_51)))

set_option maxHeartbeats 4000000 in
set_option maxRecDepth 100000 in
theorem m_X1_isBlank (l : Launch) (dC : Nat → ClassId) (dI : Nat → Nat → Nat) (y : Nat → ClassId) (p1 : Int32) (sz : Nat) (or_ : Int32) (h : f_X1_isBlank p1 = some or_) : Met l yX1_isBlank wsX1_isBlank ({ frames := 0, cells := 0, slots := 0, locals := 0 }) (va_Pc [.int p1] (fun U => U.heap.size = sz ∧ va_P (dC, dI) vwCl [] U.heap ∧ va_K (dC, dI) vwCl [(y 0, .int), (y 1, .long), (y 2, .byte), (y 3, .boolean)] U ∧ va_D (fun _ => True) [])) (va_Qi (fun (r : Int32) (_ : Unit) => r = or_) (fun (_ : Unit) (t : State) => va_P (dC, dI) vwCl [] t.heap ∧ va_K (dC, dI) vwCl [(y 0, .int), (y 1, .long), (y 2, .byte), (y 3, .boolean)] t ∧ va_D (va_A [] sz) []) (va_A [] sz)) 0 0 (va_A [] sz) := by
  refine Met.ofW (cc := cX1_isBlank) (maxL := 1) (ret := (some .boolean)) (by decide +kernel) rfl ?_
  intro p e s m args below meth c s₁ B hml hv
  obtain ⟨rfl, hsz, hP, hK, hD0⟩ := hv
  have hx := B.exec
  have hb := B.bytes
  have hr := B.returns
  have hts := atoms_spec (ws := wsX1_isBlank) B.pre
  have hown : s.vm.findClass RX1 = some m.cls := findClass_of_methodNamed B.named
  have hlocks := B.notSynchronized
  subst hsz
  have hD := hD0.self (sz := s.heap.size)
  generalize hAe : va_A [] s.heap.size = A at hD ⊢
  have hA : ∀ q : Nat, s.heap.size ≤ q → A q := fun q h => by rw [← hAe]; exact Or.inr h
  have hS : va_S A s.heap s.heap [] := va_S.rf
  have hP : va_P (dC, dI) vwCl [] s.heap := hP
  have hl := lv_entry ([.int p1]) (n := 1) (Nat.le_of_ble_eq_true rfl)
  rw [lg_entry_eq]
  generalize (lg_sl ([.int p1]) ++ List.replicate (1 - (lg_sl ([.int p1])).length) Slot.unset).toArray = ls at hl ⊢
  have hl : lv_has ls 1 [(0, .int p1)] := hl
  refine lv_iload_n hx hb dX1_isBlank_0 rfl (lv_at hl 0 rfl) ?_
  refine lv_bipush (v := 32) hx hb dX1_isBlank_1 (by decide) ?_
  refine lv_icmp_eq (tgt := 12) hx hb dX1_isBlank_3 (by decide) (fun c1 => ?_) (fun c1 => ?_)
  · have h := zY c1 h
    refine lv_iconst (v := 1) hx hb dX1_isBlank_12 (by decide) ?_
    refine lv_goto (tgt := 17) hx hb dX1_isBlank_13 (by decide) ?_
    have ho0 : (1 : Int32) = or_ := congrArg (fun z : Int32 => z) (Option.some.inj h)
    exact W.zret (v := 1) hx hb hr (by decide) (fun t ht hW => ⟨⟨1, (), rfl, ho0, by rw [ht]; exact hP, va_K.moved hW.alike hK, hD⟩, hS.F ht⟩) hS.2.2 dX1_isBlank_17
  · have h := zN c1 h
    refine lv_iload_n hx hb dX1_isBlank_6 rfl (lv_at hl 0 rfl) ?_
    refine lv_bipush (v := 10) hx hb dX1_isBlank_7 (by decide) ?_
    refine lv_icmp_ne (tgt := 16) hx hb dX1_isBlank_9 (by decide) (fun c2 => ?_) (fun c2 => ?_)
    · have h := zN c2 h
      refine lv_iconst (v := 0) hx hb dX1_isBlank_16 (by decide) ?_
      have ho0 : (0 : Int32) = or_ := congrArg (fun z : Int32 => z) (Option.some.inj h)
      exact W.zret (v := 0) hx hb hr (by decide) (fun t ht hW => ⟨⟨0, (), rfl, ho0, by rw [ht]; exact hP, va_K.moved hW.alike hK, hD⟩, hS.F ht⟩) hS.2.2 dX1_isBlank_17
    · have h := zY c2 h
      refine lv_iconst (v := 1) hx hb dX1_isBlank_12 (by decide) ?_
      refine lv_goto (tgt := 17) hx hb dX1_isBlank_13 (by decide) ?_
      have ho0 : (1 : Int32) = or_ := congrArg (fun z : Int32 => z) (Option.some.inj h)
      exact W.zret (v := 1) hx hb hr (by decide) (fun t ht hW => ⟨⟨1, (), rfl, ho0, by rw [ht]; exact hP, va_K.moved hW.alike hK, hD⟩, hS.F ht⟩) hS.2.2 dX1_isBlank_17

set_option maxHeartbeats 4000000 in
set_option maxRecDepth 100000 in
theorem m_X1_isLetter (l : Launch) (dC : Nat → ClassId) (dI : Nat → Nat → Nat) (y : Nat → ClassId) (p1 : Int32) (sz : Nat) (or_ : Int32) (h : f_X1_isLetter p1 = some or_) : Met l yX1_isLetter wsX1_isLetter ({ frames := 0, cells := 0, slots := 0, locals := 0 }) (va_Pc [.int p1] (fun U => U.heap.size = sz ∧ va_P (dC, dI) vwCl [] U.heap ∧ va_K (dC, dI) vwCl [(y 0, .int), (y 1, .long), (y 2, .byte), (y 3, .boolean)] U ∧ va_D (fun _ => True) [])) (va_Qi (fun (r : Int32) (_ : Unit) => r = or_) (fun (_ : Unit) (t : State) => va_P (dC, dI) vwCl [] t.heap ∧ va_K (dC, dI) vwCl [(y 0, .int), (y 1, .long), (y 2, .byte), (y 3, .boolean)] t ∧ va_D (va_A [] sz) []) (va_A [] sz)) 0 0 (va_A [] sz) := by
  refine Met.ofW (cc := cX1_isLetter) (maxL := 1) (ret := (some .boolean)) (by decide +kernel) rfl ?_
  intro p e s m args below meth c s₁ B hml hv
  obtain ⟨rfl, hsz, hP, hK, hD0⟩ := hv
  have hx := B.exec
  have hb := B.bytes
  have hr := B.returns
  have hts := atoms_spec (ws := wsX1_isLetter) B.pre
  have hown : s.vm.findClass RX1 = some m.cls := findClass_of_methodNamed B.named
  have hlocks := B.notSynchronized
  subst hsz
  have hD := hD0.self (sz := s.heap.size)
  generalize hAe : va_A [] s.heap.size = A at hD ⊢
  have hA : ∀ q : Nat, s.heap.size ≤ q → A q := fun q h => by rw [← hAe]; exact Or.inr h
  have hS : va_S A s.heap s.heap [] := va_S.rf
  have hP : va_P (dC, dI) vwCl [] s.heap := hP
  have hl := lv_entry ([.int p1]) (n := 1) (Nat.le_of_ble_eq_true rfl)
  rw [lg_entry_eq]
  generalize (lg_sl ([.int p1]) ++ List.replicate (1 - (lg_sl ([.int p1])).length) Slot.unset).toArray = ls at hl ⊢
  have hl : lv_has ls 1 [(0, .int p1)] := hl
  refine lv_iload_n hx hb dX1_isLetter_0 rfl (lv_at hl 0 rfl) ?_
  refine lv_bipush (v := 97) hx hb dX1_isLetter_1 (by decide) ?_
  refine lv_icmp_lt (tgt := 16) hx hb dX1_isLetter_3 (by decide) (fun c1 => ?_) (fun c1 => ?_)
  · have h := zY c1 h
    refine lv_iconst (v := 0) hx hb dX1_isLetter_16 (by decide) ?_
    have ho0 : (0 : Int32) = or_ := congrArg (fun z : Int32 => z) (Option.some.inj h)
    exact W.zret (v := 0) hx hb hr (by decide) (fun t ht hW => ⟨⟨0, (), rfl, ho0, by rw [ht]; exact hP, va_K.moved hW.alike hK, hD⟩, hS.F ht⟩) hS.2.2 dX1_isLetter_17
  · have h := zN c1 h
    refine lv_iload_n hx hb dX1_isLetter_6 rfl (lv_at hl 0 rfl) ?_
    refine lv_bipush (v := 122) hx hb dX1_isLetter_7 (by decide) ?_
    refine lv_icmp_gt (tgt := 16) hx hb dX1_isLetter_9 (by decide) (fun c2 => ?_) (fun c2 => ?_)
    · have h := zY c2 h
      refine lv_iconst (v := 0) hx hb dX1_isLetter_16 (by decide) ?_
      have ho0 : (0 : Int32) = or_ := congrArg (fun z : Int32 => z) (Option.some.inj h)
      exact W.zret (v := 0) hx hb hr (by decide) (fun t ht hW => ⟨⟨0, (), rfl, ho0, by rw [ht]; exact hP, va_K.moved hW.alike hK, hD⟩, hS.F ht⟩) hS.2.2 dX1_isLetter_17
    · have h := zN c2 h
      refine lv_iconst (v := 1) hx hb dX1_isLetter_12 (by decide) ?_
      refine lv_goto (tgt := 17) hx hb dX1_isLetter_13 (by decide) ?_
      have ho0 : (1 : Int32) = or_ := congrArg (fun z : Int32 => z) (Option.some.inj h)
      exact W.zret (v := 1) hx hb hr (by decide) (fun t ht hW => ⟨⟨1, (), rfl, ho0, by rw [ht]; exact hP, va_K.moved hW.alike hK, hD⟩, hS.F ht⟩) hS.2.2 dX1_isLetter_17

set_option maxHeartbeats 4000000 in
set_option maxRecDepth 100000 in
theorem m_X1_isDigit (l : Launch) (dC : Nat → ClassId) (dI : Nat → Nat → Nat) (y : Nat → ClassId) (p1 : Int32) (sz : Nat) (or_ : Int32) (h : f_X1_isDigit p1 = some or_) : Met l yX1_isDigit wsX1_isDigit ({ frames := 0, cells := 0, slots := 0, locals := 0 }) (va_Pc [.int p1] (fun U => U.heap.size = sz ∧ va_P (dC, dI) vwCl [] U.heap ∧ va_K (dC, dI) vwCl [(y 0, .int), (y 1, .long), (y 2, .byte), (y 3, .boolean)] U ∧ va_D (fun _ => True) [])) (va_Qi (fun (r : Int32) (_ : Unit) => r = or_) (fun (_ : Unit) (t : State) => va_P (dC, dI) vwCl [] t.heap ∧ va_K (dC, dI) vwCl [(y 0, .int), (y 1, .long), (y 2, .byte), (y 3, .boolean)] t ∧ va_D (va_A [] sz) []) (va_A [] sz)) 0 0 (va_A [] sz) := by
  refine Met.ofW (cc := cX1_isDigit) (maxL := 1) (ret := (some .boolean)) (by decide +kernel) rfl ?_
  intro p e s m args below meth c s₁ B hml hv
  obtain ⟨rfl, hsz, hP, hK, hD0⟩ := hv
  have hx := B.exec
  have hb := B.bytes
  have hr := B.returns
  have hts := atoms_spec (ws := wsX1_isDigit) B.pre
  have hown : s.vm.findClass RX1 = some m.cls := findClass_of_methodNamed B.named
  have hlocks := B.notSynchronized
  subst hsz
  have hD := hD0.self (sz := s.heap.size)
  generalize hAe : va_A [] s.heap.size = A at hD ⊢
  have hA : ∀ q : Nat, s.heap.size ≤ q → A q := fun q h => by rw [← hAe]; exact Or.inr h
  have hS : va_S A s.heap s.heap [] := va_S.rf
  have hP : va_P (dC, dI) vwCl [] s.heap := hP
  have hl := lv_entry ([.int p1]) (n := 1) (Nat.le_of_ble_eq_true rfl)
  rw [lg_entry_eq]
  generalize (lg_sl ([.int p1]) ++ List.replicate (1 - (lg_sl ([.int p1])).length) Slot.unset).toArray = ls at hl ⊢
  have hl : lv_has ls 1 [(0, .int p1)] := hl
  refine lv_iload_n hx hb dX1_isDigit_0 rfl (lv_at hl 0 rfl) ?_
  refine lv_bipush (v := 48) hx hb dX1_isDigit_1 (by decide) ?_
  refine lv_icmp_lt (tgt := 16) hx hb dX1_isDigit_3 (by decide) (fun c1 => ?_) (fun c1 => ?_)
  · have h := zY c1 h
    refine lv_iconst (v := 0) hx hb dX1_isDigit_16 (by decide) ?_
    have ho0 : (0 : Int32) = or_ := congrArg (fun z : Int32 => z) (Option.some.inj h)
    exact W.zret (v := 0) hx hb hr (by decide) (fun t ht hW => ⟨⟨0, (), rfl, ho0, by rw [ht]; exact hP, va_K.moved hW.alike hK, hD⟩, hS.F ht⟩) hS.2.2 dX1_isDigit_17
  · have h := zN c1 h
    refine lv_iload_n hx hb dX1_isDigit_6 rfl (lv_at hl 0 rfl) ?_
    refine lv_bipush (v := 57) hx hb dX1_isDigit_7 (by decide) ?_
    refine lv_icmp_gt (tgt := 16) hx hb dX1_isDigit_9 (by decide) (fun c2 => ?_) (fun c2 => ?_)
    · have h := zY c2 h
      refine lv_iconst (v := 0) hx hb dX1_isDigit_16 (by decide) ?_
      have ho0 : (0 : Int32) = or_ := congrArg (fun z : Int32 => z) (Option.some.inj h)
      exact W.zret (v := 0) hx hb hr (by decide) (fun t ht hW => ⟨⟨0, (), rfl, ho0, by rw [ht]; exact hP, va_K.moved hW.alike hK, hD⟩, hS.F ht⟩) hS.2.2 dX1_isDigit_17
    · have h := zN c2 h
      refine lv_iconst (v := 1) hx hb dX1_isDigit_12 (by decide) ?_
      refine lv_goto (tgt := 17) hx hb dX1_isDigit_13 (by decide) ?_
      have ho0 : (1 : Int32) = or_ := congrArg (fun z : Int32 => z) (Option.some.inj h)
      exact W.zret (v := 1) hx hb hr (by decide) (fun t ht hW => ⟨⟨1, (), rfl, ho0, by rw [ht]; exact hP, va_K.moved hW.alike hK, hD⟩, hS.F ht⟩) hS.2.2 dX1_isDigit_17

set_option maxHeartbeats 4000000 in
set_option maxRecDepth 100000 in
theorem m_X1_isLetterOrDigit (l : Launch) (dC : Nat → ClassId) (dI : Nat → Nat → Nat) (y : Nat → ClassId) (p1 : Int32) (sz : Nat) (or_ : Int32) (h : f_X1_isLetterOrDigit p1 = some or_) : Met l yX1_isLetterOrDigit wsX1_isLetterOrDigit ({ frames := 1, cells := 0, slots := 0, locals := 20 }) (va_Pc [.int p1] (fun U => U.heap.size = sz ∧ va_P (dC, dI) vwCl [] U.heap ∧ va_K (dC, dI) vwCl [(y 0, .int), (y 1, .long), (y 2, .byte), (y 3, .boolean)] U ∧ va_D (fun _ => True) [])) (va_Qi (fun (r : Int32) (_ : Unit) => r = or_) (fun (_ : Unit) (t : State) => va_P (dC, dI) vwCl [] t.heap ∧ va_K (dC, dI) vwCl [(y 0, .int), (y 1, .long), (y 2, .byte), (y 3, .boolean)] t ∧ va_D (va_A [] sz) []) (va_A [] sz)) 0 0 (va_A [] sz) := by
  refine Met.ofW (cc := cX1_isLetterOrDigit) (maxL := 1) (ret := (some .boolean)) (by decide +kernel) rfl ?_
  intro p e s m args below meth c s₁ B hml hv
  obtain ⟨rfl, hsz, hP, hK, hD0⟩ := hv
  have hx := B.exec
  have hb := B.bytes
  have hr := B.returns
  have hts := atoms_spec (ws := wsX1_isLetterOrDigit) B.pre
  have hown : s.vm.findClass RX1 = some m.cls := findClass_of_methodNamed B.named
  have hlocks := B.notSynchronized
  subst hsz
  have hD := hD0.self (sz := s.heap.size)
  generalize hAe : va_A [] s.heap.size = A at hD ⊢
  have hA : ∀ q : Nat, s.heap.size ≤ q → A q := fun q h => by rw [← hAe]; exact Or.inr h
  have hS : va_S A s.heap s.heap [] := va_S.rf
  have hP : va_P (dC, dI) vwCl [] s.heap := hP
  have hl := lv_entry ([.int p1]) (n := 1) (Nat.le_of_ble_eq_true rfl)
  rw [lg_entry_eq]
  generalize (lg_sl ([.int p1]) ++ List.replicate (1 - (lg_sl ([.int p1])).length) Slot.unset).toArray = ls at hl ⊢
  have hl : lv_has ls 1 [(0, .int p1)] := hl
  refine lv_iload_n hx hb dX1_isLetterOrDigit_0 rfl (lv_at hl 0 rfl) ?_
  obtain ⟨r1, hc2, h⟩ := zB_spec h
  have hFc := zFree hD hS hA
  refine va_calli (va_runS (As := [.int p1]) (rest := []) ⟨hx, hb, hml, hown, hts⟩ (m_X1_isLetter l dC dI y p1 s.heap.size r1 hc2) (va_cwS 1 hts gX1_isLetterOrDigit_X1_isLetter rfl rfl rfl (by decide +kernel) ⟨Nat.le_of_ble_eq_true rfl, Nat.le_of_ble_eq_true rfl⟩) ⟨fun a U g mk q => by obtain ⟨q0, q1, qP, qK, qD⟩ := q; exact ⟨q0, q1, qP, va_K.moved (u := U) (U := U.calling g mk a) (Vm.Alike.refl U.vm) qK, qD⟩, fun U hU hW => ⟨rfl, by rw [hU], by rw [hU]; exact hP, va_K.moved hW.alike hK, hD.weaken (fun _ _ _ _ => trivial)⟩⟩ rfl rfl hl.1 rfl (lv_room (Nat.le_of_ble_eq_true rfl)) dX1_isLetterOrDigit_1 ⟨Nat.le_of_ble_eq_true rfl, Nat.le_of_ble_eq_true rfl⟩) hS (fun q _ h => hFc q h) hFc (fun rr4 u t H3 locs ht hvm hw hB hz1 hk1 hS => ?_)
  obtain ⟨hP1, hK1, hD1⟩ := hB
  rw [ht] at hP1
  refine zTopi hw.symm ?_
  have hP := hP1
  have hD := hD1.weaken (fun _ q _ h => hFc q.1 h)
  have hP : va_P (dC, dI) vwCl [] H3 := hP
  have hD : va_D A [] := hD
  refine lv_if_ne (tgt := 14) hx hb dX1_isLetterOrDigit_4 (by decide) (fun c5 => ?_) (fun c5 => ?_)
  · have h := zN c5 h
    refine lv_iconst (v := 1) hx hb dX1_isLetterOrDigit_14 (by decide) ?_
    refine lv_goto (tgt := 19) hx hb dX1_isLetterOrDigit_15 (by decide) ?_
    have ho0 : (1 : Int32) = or_ := congrArg (fun z : Int32 => z) (Option.some.inj h)
    exact W.zret (v := 1) hx hb hr (by decide) (fun t ht hW => ⟨⟨1, (), rfl, ho0, by rw [ht]; exact hP, va_K.moved hW.alike hK, hD⟩, hS.F ht⟩) hS.2.2 dX1_isLetterOrDigit_19
  · have h := zY c5 h
    refine lv_iload_n hx hb dX1_isLetterOrDigit_7 rfl (lv_at hl 0 rfl) ?_
    obtain ⟨r6, hc7, h⟩ := zB_spec h
    have hFc := zFree hD hS hA
    refine va_calli (va_runS (As := [.int p1]) (rest := []) ⟨hx, hb, hml, hown, hts⟩ (m_X1_isDigit l dC dI y p1 H3.size r6 hc7) (va_cwS 1 hts gX1_isLetterOrDigit_X1_isDigit rfl rfl rfl (by decide +kernel) ⟨Nat.le_of_ble_eq_true rfl, Nat.le_of_ble_eq_true rfl⟩) ⟨fun a U g mk q => by obtain ⟨q0, q1, qP, qK, qD⟩ := q; exact ⟨q0, q1, qP, va_K.moved (u := U) (U := U.calling g mk a) (Vm.Alike.refl U.vm) qK, qD⟩, fun U hU hW => ⟨rfl, by rw [hU], by rw [hU]; exact hP, va_K.moved hW.alike hK, hD.weaken (fun _ _ _ _ => trivial)⟩⟩ rfl rfl hl.1 rfl (lv_room (Nat.le_of_ble_eq_true rfl)) dX1_isLetterOrDigit_8 ⟨Nat.le_of_ble_eq_true rfl, Nat.le_of_ble_eq_true rfl⟩) hS (fun q _ h => hFc q h) hFc (fun rr9 u t H8 locs ht hvm hw hB hz1 hk1 hS => ?_)
    obtain ⟨hP1, hK1, hD1⟩ := hB
    rw [ht] at hP1
    refine zTopi hw.symm ?_
    have hP := hP1
    have hD := hD1.weaken (fun _ q _ h => hFc q.1 h)
    have hP : va_P (dC, dI) vwCl [] H8 := hP
    have hD : va_D A [] := hD
    refine lv_if_eq (tgt := 18) hx hb dX1_isLetterOrDigit_11 (by decide) (fun c10 => ?_) (fun c10 => ?_)
    · have h := zY c10 h
      refine lv_iconst (v := 0) hx hb dX1_isLetterOrDigit_18 (by decide) ?_
      have ho0 : (0 : Int32) = or_ := congrArg (fun z : Int32 => z) (Option.some.inj h)
      exact W.zret (v := 0) hx hb hr (by decide) (fun t ht hW => ⟨⟨0, (), rfl, ho0, by rw [ht]; exact hP, va_K.moved hW.alike hK, hD⟩, hS.F ht⟩) hS.2.2 dX1_isLetterOrDigit_19
    · have h := zN c10 h
      refine lv_iconst (v := 1) hx hb dX1_isLetterOrDigit_14 (by decide) ?_
      refine lv_goto (tgt := 19) hx hb dX1_isLetterOrDigit_15 (by decide) ?_
      have ho0 : (1 : Int32) = or_ := congrArg (fun z : Int32 => z) (Option.some.inj h)
      exact W.zret (v := 1) hx hb hr (by decide) (fun t ht hW => ⟨⟨1, (), rfl, ho0, by rw [ht]; exact hP, va_K.moved hW.alike hK, hD⟩, hS.F ht⟩) hS.2.2 dX1_isLetterOrDigit_19

set_option maxHeartbeats 4000000 in
set_option maxRecDepth 100000 in
theorem m_X1_isSign (l : Launch) (dC : Nat → ClassId) (dI : Nat → Nat → Nat) (y : Nat → ClassId) (p1 : Int32) (sz : Nat) (or_ : Int32) (h : f_X1_isSign p1 = some or_) : Met l yX1_isSign wsX1_isSign ({ frames := 0, cells := 0, slots := 0, locals := 0 }) (va_Pc [.int p1] (fun U => U.heap.size = sz ∧ va_P (dC, dI) vwCl [] U.heap ∧ va_K (dC, dI) vwCl [(y 0, .int), (y 1, .long), (y 2, .byte), (y 3, .boolean)] U ∧ va_D (fun _ => True) [])) (va_Qi (fun (r : Int32) (_ : Unit) => r = or_) (fun (_ : Unit) (t : State) => va_P (dC, dI) vwCl [] t.heap ∧ va_K (dC, dI) vwCl [(y 0, .int), (y 1, .long), (y 2, .byte), (y 3, .boolean)] t ∧ va_D (va_A [] sz) []) (va_A [] sz)) 0 0 (va_A [] sz) := by
  refine Met.ofW (cc := cX1_isSign) (maxL := 1) (ret := (some .boolean)) (by decide +kernel) rfl ?_
  intro p e s m args below meth c s₁ B hml hv
  obtain ⟨rfl, hsz, hP, hK, hD0⟩ := hv
  have hx := B.exec
  have hb := B.bytes
  have hr := B.returns
  have hts := atoms_spec (ws := wsX1_isSign) B.pre
  have hown : s.vm.findClass RX1 = some m.cls := findClass_of_methodNamed B.named
  have hlocks := B.notSynchronized
  subst hsz
  have hD := hD0.self (sz := s.heap.size)
  generalize hAe : va_A [] s.heap.size = A at hD ⊢
  have hA : ∀ q : Nat, s.heap.size ≤ q → A q := fun q h => by rw [← hAe]; exact Or.inr h
  have hS : va_S A s.heap s.heap [] := va_S.rf
  have hP : va_P (dC, dI) vwCl [] s.heap := hP
  have hl := lv_entry ([.int p1]) (n := 1) (Nat.le_of_ble_eq_true rfl)
  rw [lg_entry_eq]
  generalize (lg_sl ([.int p1]) ++ List.replicate (1 - (lg_sl ([.int p1])).length) Slot.unset).toArray = ls at hl ⊢
  have hl : lv_has ls 1 [(0, .int p1)] := hl
  refine lv_iload_n hx hb dX1_isSign_0 rfl (lv_at hl 0 rfl) ?_
  refine lv_bipush (v := 44) hx hb dX1_isSign_1 (by decide) ?_
  refine lv_icmp_eq (tgt := 36) hx hb dX1_isSign_3 (by decide) (fun c1 => ?_) (fun c1 => ?_)
  · have h := zY c1 h
    refine lv_iconst (v := 1) hx hb dX1_isSign_36 (by decide) ?_
    refine lv_goto (tgt := 41) hx hb dX1_isSign_37 (by decide) ?_
    have ho0 : (1 : Int32) = or_ := congrArg (fun z : Int32 => z) (Option.some.inj h)
    exact W.zret (v := 1) hx hb hr (by decide) (fun t ht hW => ⟨⟨1, (), rfl, ho0, by rw [ht]; exact hP, va_K.moved hW.alike hK, hD⟩, hS.F ht⟩) hS.2.2 dX1_isSign_41
  · have h := zN c1 h
    refine lv_iload_n hx hb dX1_isSign_6 rfl (lv_at hl 0 rfl) ?_
    refine lv_bipush (v := 59) hx hb dX1_isSign_7 (by decide) ?_
    refine lv_icmp_eq (tgt := 36) hx hb dX1_isSign_9 (by decide) (fun c2 => ?_) (fun c2 => ?_)
    · have h := zY c2 h
      refine lv_iconst (v := 1) hx hb dX1_isSign_36 (by decide) ?_
      refine lv_goto (tgt := 41) hx hb dX1_isSign_37 (by decide) ?_
      have ho0 : (1 : Int32) = or_ := congrArg (fun z : Int32 => z) (Option.some.inj h)
      exact W.zret (v := 1) hx hb hr (by decide) (fun t ht hW => ⟨⟨1, (), rfl, ho0, by rw [ht]; exact hP, va_K.moved hW.alike hK, hD⟩, hS.F ht⟩) hS.2.2 dX1_isSign_41
    · have h := zN c2 h
      refine lv_iload_n hx hb dX1_isSign_12 rfl (lv_at hl 0 rfl) ?_
      refine lv_bipush (v := 61) hx hb dX1_isSign_13 (by decide) ?_
      refine lv_icmp_eq (tgt := 36) hx hb dX1_isSign_15 (by decide) (fun c3 => ?_) (fun c3 => ?_)
      · have h := zY c3 h
        refine lv_iconst (v := 1) hx hb dX1_isSign_36 (by decide) ?_
        refine lv_goto (tgt := 41) hx hb dX1_isSign_37 (by decide) ?_
        have ho0 : (1 : Int32) = or_ := congrArg (fun z : Int32 => z) (Option.some.inj h)
        exact W.zret (v := 1) hx hb hr (by decide) (fun t ht hW => ⟨⟨1, (), rfl, ho0, by rw [ht]; exact hP, va_K.moved hW.alike hK, hD⟩, hS.F ht⟩) hS.2.2 dX1_isSign_41
      · have h := zN c3 h
        refine lv_iload_n hx hb dX1_isSign_18 rfl (lv_at hl 0 rfl) ?_
        refine lv_bipush (v := 40) hx hb dX1_isSign_19 (by decide) ?_
        refine lv_icmp_eq (tgt := 36) hx hb dX1_isSign_21 (by decide) (fun c4 => ?_) (fun c4 => ?_)
        · have h := zY c4 h
          refine lv_iconst (v := 1) hx hb dX1_isSign_36 (by decide) ?_
          refine lv_goto (tgt := 41) hx hb dX1_isSign_37 (by decide) ?_
          have ho0 : (1 : Int32) = or_ := congrArg (fun z : Int32 => z) (Option.some.inj h)
          exact W.zret (v := 1) hx hb hr (by decide) (fun t ht hW => ⟨⟨1, (), rfl, ho0, by rw [ht]; exact hP, va_K.moved hW.alike hK, hD⟩, hS.F ht⟩) hS.2.2 dX1_isSign_41
        · have h := zN c4 h
          refine lv_iload_n hx hb dX1_isSign_24 rfl (lv_at hl 0 rfl) ?_
          refine lv_bipush (v := 41) hx hb dX1_isSign_25 (by decide) ?_
          refine lv_icmp_eq (tgt := 36) hx hb dX1_isSign_27 (by decide) (fun c5 => ?_) (fun c5 => ?_)
          · have h := zY c5 h
            refine lv_iconst (v := 1) hx hb dX1_isSign_36 (by decide) ?_
            refine lv_goto (tgt := 41) hx hb dX1_isSign_37 (by decide) ?_
            have ho0 : (1 : Int32) = or_ := congrArg (fun z : Int32 => z) (Option.some.inj h)
            exact W.zret (v := 1) hx hb hr (by decide) (fun t ht hW => ⟨⟨1, (), rfl, ho0, by rw [ht]; exact hP, va_K.moved hW.alike hK, hD⟩, hS.F ht⟩) hS.2.2 dX1_isSign_41
          · have h := zN c5 h
            refine lv_iload_n hx hb dX1_isSign_30 rfl (lv_at hl 0 rfl) ?_
            refine lv_bipush (v := 60) hx hb dX1_isSign_31 (by decide) ?_
            refine lv_icmp_ne (tgt := 40) hx hb dX1_isSign_33 (by decide) (fun c6 => ?_) (fun c6 => ?_)
            · have h := zN c6 h
              refine lv_iconst (v := 0) hx hb dX1_isSign_40 (by decide) ?_
              have ho0 : (0 : Int32) = or_ := congrArg (fun z : Int32 => z) (Option.some.inj h)
              exact W.zret (v := 0) hx hb hr (by decide) (fun t ht hW => ⟨⟨0, (), rfl, ho0, by rw [ht]; exact hP, va_K.moved hW.alike hK, hD⟩, hS.F ht⟩) hS.2.2 dX1_isSign_41
            · have h := zY c6 h
              refine lv_iconst (v := 1) hx hb dX1_isSign_36 (by decide) ?_
              refine lv_goto (tgt := 41) hx hb dX1_isSign_37 (by decide) ?_
              have ho0 : (1 : Int32) = or_ := congrArg (fun z : Int32 => z) (Option.some.inj h)
              exact W.zret (v := 1) hx hb hr (by decide) (fun t ht hW => ⟨⟨1, (), rfl, ho0, by rw [ht]; exact hP, va_K.moved hW.alike hK, hD⟩, hS.F ht⟩) hS.2.2 dX1_isSign_41

set_option maxHeartbeats 4000000 in
set_option maxRecDepth 100000 in
theorem m_X1_begin (l : Launch) (dC : Nat → ClassId) (dI : Nat → Nat → Nat) (y : Nat → ClassId) (a1 : Nat) (h1 : Nat → Nat) (S1 : SS) (atx : Nat) (ft : Nat → Int32) (tv : Value) (p2 : Int32) (sz : Nat) (o_1 : SS) (h : f_X1_begin S1 ft p2 = some o_1) : Met l yX1_begin wsX1_begin ({ frames := 1, cells := 0, slots := 0, locals := 14 }) (va_Pc [.ref a1, .ref atx, .int p2] (fun U => U.heap.size = sz ∧ va_P (dC, dI) vwCl ((cX1 a1 h1 tv y S1) ++ ([(atx, .inl (y 2, 2000, .inl ft))])) U.heap ∧ va_K (dC, dI) vwCl [(y 0, .int), (y 1, .long), (y 2, .byte), (y 3, .boolean)] U ∧ va_D (fun _ => True) ((cX1 a1 h1 tv y S1) ++ ([(atx, .inl (y 2, 2000, .inl ft))])))) (va_Qv (fun (_ : Unit) => True) (fun (_ : Unit) (t : State) => va_P (dC, dI) vwCl ((cX1 a1 h1 (.ref atx) y o_1) ++ ([(atx, .inl (y 2, 2000, .inl ft))])) t.heap ∧ va_K (dC, dI) vwCl [(y 0, .int), (y 1, .long), (y 2, .byte), (y 3, .boolean)] t ∧ va_D (va_A ((cX1 a1 h1 tv y S1) ++ ([(atx, .inl (y 2, 2000, .inl ft))])) sz) ((cX1 a1 h1 (.ref atx) y o_1) ++ ([(atx, .inl (y 2, 2000, .inl ft))]))) (va_A ((cX1 a1 h1 tv y S1) ++ ([(atx, .inl (y 2, 2000, .inl ft))])) sz)) 0 0 (va_A ((cX1 a1 h1 tv y S1) ++ ([(atx, .inl (y 2, 2000, .inl ft))])) sz) := by
  refine Met.ofW (cc := cX1_begin) (maxL := 3) (ret := none) (by decide +kernel) rfl ?_
  intro p e s m args below meth c s₁ B hml hv
  obtain ⟨rfl, hsz, hP, hK, hD0⟩ := hv
  have hx := B.exec
  have hb := B.bytes
  have hr := B.returns
  have hts := atoms_spec (ws := wsX1_begin) B.pre
  have hown : s.vm.findClass RX1 = some m.cls := findClass_of_methodNamed B.named
  have hlocks := B.notSynchronized
  have inX1_ : ∀ w ∈ wsX10, w ∈ wsX1_begin := fun _ h => List.mem_cons_of_mem _ (List.mem_append_right _ h)
  subst hsz
  have hD := hD0.self (sz := s.heap.size)
  generalize hAe : va_A ((cX1 a1 h1 tv y S1) ++ ([(atx, .inl (y 2, 2000, .inl ft))])) s.heap.size = A at hD ⊢
  have hA : ∀ q : Nat, s.heap.size ≤ q → A q := fun q h => by rw [← hAe]; exact Or.inr h
  have hS : va_S A s.heap s.heap [] := va_S.rf
  have hP : va_P (dC, dI) vwCl ((cX1 a1 h1 tv y S1) ++ ([(atx, .inl (y 2, 2000, .inl ft))])) s.heap := hP
  have hl := lv_entry ([.ref a1, .ref atx, .int p2]) (n := 3) (Nat.le_of_ble_eq_true rfl)
  rw [lg_entry_eq]
  generalize (lg_sl ([.ref a1, .ref atx, .int p2]) ++ List.replicate (3 - (lg_sl ([.ref a1, .ref atx, .int p2])).length) Slot.unset).toArray = ls at hl ⊢
  have hl : lv_has ls 3 [(0, .ref a1), (1, .ref atx), (2, .int p2)] := hl
  refine lv_aload_n hx hb dX1_begin_0 rfl (lv_at hl 0 rfl) ?_
  refine lv_aload_n hx hb dX1_begin_1 rfl (lv_at hl 1 rfl) ?_
  refine va_put (D := (dC, dI)) (ci := 1) (v := .ref atx) (ty := (.array .byte)) (C := RX1) (T := TX1) (N := 7) hx hb hts inX1_ tyX1 tyX1_ok nmX1 hown hK hP hD hS 0 rfl rfl 0 (by decide) (hts (.fieldLink RX1 7 "GateWheel$Lexer" "text" "[B") (List.mem_of_getElem? (i := 1) rfl)) (fun _ h9 => h9) rfl (by decide +kernel) rfl rfl (Nat.le_of_ble_eq_true rfl) dX1_begin_2 (fun H1 locs hP hD hS => ?_)
  have hP : va_P (dC, dI) vwCl ((cX1 a1 h1 (.ref atx) y S1) ++ ([(atx, .inl (y 2, 2000, .inl ft))])) H1 := hP
  have hD : va_D A ((cX1 a1 h1 (.ref atx) y S1) ++ ([(atx, .inl (y 2, 2000, .inl ft))])) := hD
  refine lv_aload_n hx hb dX1_begin_5 rfl (lv_at hl 0 rfl) ?_
  refine lv_iload_n hx hb dX1_begin_6 rfl (lv_at hl 2 rfl) ?_
  refine lv_aload_n hx hb dX1_begin_7 rfl (lv_at hl 1 rfl) ?_
  refine va_alen (v := 2000) hx hb hK hP 1 2 rfl rfl rfl dX1_begin_8 ?_
  refine va_mmin hx hb (by rw [hml]; exact hl.1.symm) hown (hts (.methodLink RX1 13 Lib.Math.min.name) (List.mem_of_getElem? (i := 2) rfl)) (hts (.static Lib.Math.min.name) (List.mem_of_getElem? (i := 3) rfl)) (hts (.initialized "java/lang/Math") (List.mem_of_getElem? (i := 4) rfl)) (hts (.code Lib.Math.min.name Lib.Math.min.code 2 (some .int)) (List.mem_of_getElem? (i := 5) rfl)) (Nat.le_of_ble_eq_true rfl) (Nat.le_of_ble_eq_true rfl) (Nat.le_of_ble_eq_true rfl) (Nat.le_of_ble_eq_true rfl) dX1_begin_9 ?_
  refine va_put (D := (dC, dI)) (ci := 1) (v := .int (if (2000 : Int32) < p2 then (2000 : Int32) else p2)) (ty := .int) (C := RX1) (T := TX1) (N := 7) hx hb hts inX1_ tyX1 tyX1_ok nmX1 hown hK hP hD hS 0 rfl rfl 1 (by decide) (hts (.fieldLink RX1 19 "GateWheel$Lexer" "length" "I") (List.mem_of_getElem? (i := 6) rfl)) (fun _ h9 => h9) rfl (by decide +kernel) rfl rfl (Nat.le_of_ble_eq_true rfl) dX1_begin_12 (fun H2 locs hP hD hS => ?_)
  obtain ⟨s1_3, es1_3, h⟩ := zL_spec h
  have hP : va_P (dC, dI) vwCl ((cX1 a1 h1 (.ref atx) y s1_3) ++ ([(atx, .inl (y 2, 2000, .inl ft))])) H2 := by rw [es1_3]; exact hP
  have hD : va_D A ((cX1 a1 h1 (.ref atx) y s1_3) ++ ([(atx, .inl (y 2, 2000, .inl ft))])) := by rw [es1_3]; exact hD
  refine lv_aload_n hx hb dX1_begin_15 rfl (lv_at hl 0 rfl) ?_
  refine lv_iconst (v := 0) hx hb dX1_begin_16 (by decide) ?_
  refine va_put (D := (dC, dI)) (ci := 1) (v := .int 0) (ty := .int) (C := RX1) (T := TX1) (N := 7) hx hb hts inX1_ tyX1 tyX1_ok nmX1 hown hK hP hD hS 0 rfl rfl 2 (by decide) (hts (.fieldLink RX1 23 "GateWheel$Lexer" "next" "I") (List.mem_of_getElem? (i := 7) rfl)) (fun _ h9 => h9) rfl (by decide +kernel) rfl rfl (Nat.le_of_ble_eq_true rfl) dX1_begin_17 (fun H4 locs hP hD hS => ?_)
  obtain ⟨s1_5, es1_5, h⟩ := zL_spec h
  have hP : va_P (dC, dI) vwCl ((cX1 a1 h1 (.ref atx) y s1_5) ++ ([(atx, .inl (y 2, 2000, .inl ft))])) H4 := by rw [es1_5]; exact hP
  have hD : va_D A ((cX1 a1 h1 (.ref atx) y s1_5) ++ ([(atx, .inl (y 2, 2000, .inl ft))])) := by rw [es1_5]; exact hD
  have ho0 : s1_5 = o_1 := congrArg (fun z : SS => z) (Option.some.inj h)
  exact W.vret hx hb hr (fun t ht hW => ⟨⟨(), rfl, trivial, by rw [ht]; rw [← ho0]; exact hP, va_K.moved hW.alike hK, by rw [← ho0]; exact hD⟩, hS.F ht⟩) hS.2.2 dX1_begin_20

set_option maxHeartbeats 4000000 in
set_option maxRecDepth 100000 in
theorem m_X1_takeDigit (l : Launch) (dC : Nat → ClassId) (dI : Nat → Nat → Nat) (y : Nat → ClassId) (a1 : Nat) (h1 : Nat → Nat) (S1 : SS) (atx : Nat) (ft : Nat → Int32) (sz : Nat) (o_1 : SS) (h : f_X1_takeDigit S1 ft = some o_1) : Met l yX1_takeDigit wsX1_takeDigit ({ frames := 2, cells := 0, slots := 0, locals := 40 }) (va_Pc [.ref a1] (fun U => U.heap.size = sz ∧ va_P (dC, dI) vwCl ((cX1 a1 h1 (.ref atx) y S1) ++ ([(atx, .inl (y 2, 2000, .inl ft))])) U.heap ∧ va_K (dC, dI) vwCl [(y 0, .int), (y 1, .long), (y 2, .byte), (y 3, .boolean)] U ∧ va_D (fun _ => True) ((cX1 a1 h1 (.ref atx) y S1) ++ ([(atx, .inl (y 2, 2000, .inl ft))])))) (va_Qv (fun (_ : Unit) => True) (fun (_ : Unit) (t : State) => va_P (dC, dI) vwCl ((cX1 a1 h1 (.ref atx) y o_1) ++ ([(atx, .inl (y 2, 2000, .inl ft))])) t.heap ∧ va_K (dC, dI) vwCl [(y 0, .int), (y 1, .long), (y 2, .byte), (y 3, .boolean)] t ∧ va_D (va_A ((cX1 a1 h1 (.ref atx) y S1) ++ ([(atx, .inl (y 2, 2000, .inl ft))])) sz) ((cX1 a1 h1 (.ref atx) y o_1) ++ ([(atx, .inl (y 2, 2000, .inl ft))]))) (va_A ((cX1 a1 h1 (.ref atx) y S1) ++ ([(atx, .inl (y 2, 2000, .inl ft))])) sz)) 0 0 (va_A ((cX1 a1 h1 (.ref atx) y S1) ++ ([(atx, .inl (y 2, 2000, .inl ft))])) sz) := by
  refine Met.ofW (cc := cX1_takeDigit) (maxL := 2) (ret := none) (by decide +kernel) rfl ?_
  intro p e s m args below meth c s₁ B hml hv
  obtain ⟨rfl, hsz, hP, hK, hD0⟩ := hv
  have hx := B.exec
  have hb := B.bytes
  have hr := B.returns
  have hts := atoms_spec (ws := wsX1_takeDigit) B.pre
  have hown : s.vm.findClass RX1 = some m.cls := findClass_of_methodNamed B.named
  have hlocks := B.notSynchronized
  have inX1_ : ∀ w ∈ wsX10, w ∈ wsX1_takeDigit := fun _ h => List.mem_cons_of_mem _ (List.mem_append_right _ h)
  subst hsz
  have hD := hD0.self (sz := s.heap.size)
  generalize hAe : va_A ((cX1 a1 h1 (.ref atx) y S1) ++ ([(atx, .inl (y 2, 2000, .inl ft))])) s.heap.size = A at hD ⊢
  have hA : ∀ q : Nat, s.heap.size ≤ q → A q := fun q h => by rw [← hAe]; exact Or.inr h
  have hS : va_S A s.heap s.heap [] := va_S.rf
  have hP : va_P (dC, dI) vwCl ((cX1 a1 h1 (.ref atx) y S1) ++ ([(atx, .inl (y 2, 2000, .inl ft))])) s.heap := hP
  have hl := lv_entry ([.ref a1]) (n := 2) (Nat.le_of_ble_eq_true rfl)
  rw [lg_entry_eq]
  generalize (lg_sl ([.ref a1]) ++ List.replicate (2 - (lg_sl ([.ref a1])).length) Slot.unset).toArray = ls at hl ⊢
  have hl : lv_has ls 2 [(0, .ref a1)] := hl
  refine lv_aload_n hx hb dX1_takeDigit_0 rfl (lv_at hl 0 rfl) ?_
  refine lv_aload_n hx hb dX1_takeDigit_1 rfl (lv_at hl 0 rfl) ?_
  refine va_get (D := (dC, dI)) (ci := 1) (v := .ref atx) (C := RX1) (T := TX1) (N := 7) hx hb hts inX1_ hown hK hP 0 rfl rfl 0 (by decide) (hts (.fieldLink RX1 7 "GateWheel$Lexer" "text" "[B") (List.mem_of_getElem? (i := 1) rfl)) (fun _ h9 => h9) rfl dX1_takeDigit_2 ?_
  refine lv_aload_n hx hb dX1_takeDigit_5 rfl (lv_at hl 0 rfl) ?_
  refine va_get (D := (dC, dI)) (ci := 1) (v := .int (gI S1 2)) (C := RX1) (T := TX1) (N := 7) hx hb hts inX1_ hown hK hP 0 rfl rfl 2 (by decide) (hts (.fieldLink RX1 23 "GateWheel$Lexer" "next" "I") (List.mem_of_getElem? (i := 2) rfl)) (fun _ h9 => h9) rfl dX1_takeDigit_6 ?_
  obtain ⟨hi1, h⟩ := zG_spec h
  refine va_bald hx hb hK hP 1 2 rfl rfl hi1 dX1_takeDigit_9 ?_
  refine lv_bipush (v := 48) hx hb dX1_takeDigit_10 (by decide) ?_
  refine lv_isub hx hb dX1_takeDigit_12 ?_
  refine va_put (D := (dC, dI)) (ci := 1) (v := .int ((ft (gI S1 2).toNatClampNeg) - (48 : Int32))) (ty := .int) (C := RX1) (T := TX1) (N := 7) hx hb hts inX1_ tyX1 tyX1_ok nmX1 hown hK hP hD hS 0 rfl rfl 6 (by decide) (hts (.fieldLink RX1 58 "GateWheel$Lexer" "digit" "I") (List.mem_of_getElem? (i := 3) rfl)) (fun _ h9 => h9) rfl (by decide +kernel) rfl rfl (Nat.le_of_ble_eq_true rfl) dX1_takeDigit_13 (fun H2 locs hP hD hS => ?_)
  obtain ⟨s1_3, es1_3, h⟩ := zL_spec h
  have hP : va_P (dC, dI) vwCl ((cX1 a1 h1 (.ref atx) y s1_3) ++ ([(atx, .inl (y 2, 2000, .inl ft))])) H2 := by rw [es1_3]; exact hP
  have hD : va_D A ((cX1 a1 h1 (.ref atx) y s1_3) ++ ([(atx, .inl (y 2, 2000, .inl ft))])) := by rw [es1_3]; exact hD
  refine lv_aload_n hx hb dX1_takeDigit_16 rfl (lv_at hl 0 rfl) ?_
  refine lv_dup hx hb dX1_takeDigit_17 rfl ?_
  refine va_get (D := (dC, dI)) (ci := 1) (v := .int (gI s1_3 2)) (C := RX1) (T := TX1) (N := 7) hx hb hts inX1_ hown hK hP 0 rfl rfl 2 (by decide) (hts (.fieldLink RX1 23 "GateWheel$Lexer" "next" "I") (List.mem_of_getElem? (i := 2) rfl)) (fun _ h9 => h9) rfl dX1_takeDigit_18 ?_
  refine lv_iconst (v := 1) hx hb dX1_takeDigit_21 (by decide) ?_
  refine lv_iadd hx hb dX1_takeDigit_22 ?_
  refine va_put (D := (dC, dI)) (ci := 1) (v := .int ((gI s1_3 2) + (1 : Int32))) (ty := .int) (C := RX1) (T := TX1) (N := 7) hx hb hts inX1_ tyX1 tyX1_ok nmX1 hown hK hP hD hS 0 rfl rfl 2 (by decide) (hts (.fieldLink RX1 23 "GateWheel$Lexer" "next" "I") (List.mem_of_getElem? (i := 2) rfl)) (fun _ h9 => h9) rfl (by decide +kernel) rfl rfl (Nat.le_of_ble_eq_true rfl) dX1_takeDigit_23 (fun H4 locs hP hD hS => ?_)
  obtain ⟨s1_5, es1_5, h⟩ := zL_spec h
  have hP : va_P (dC, dI) vwCl ((cX1 a1 h1 (.ref atx) y s1_5) ++ ([(atx, .inl (y 2, 2000, .inl ft))])) H4 := by rw [es1_5]; exact hP
  have hD : va_D A ((cX1 a1 h1 (.ref atx) y s1_5) ++ ([(atx, .inl (y 2, 2000, .inl ft))])) := by rw [es1_5]; exact hD
  refine lv_aload_n hx hb dX1_takeDigit_26 rfl (lv_at hl 0 rfl) ?_
  refine va_get (D := (dC, dI)) (ci := 1) (v := .int (gI s1_5 2)) (C := RX1) (T := TX1) (N := 7) hx hb hts inX1_ hown hK hP 0 rfl rfl 2 (by decide) (hts (.fieldLink RX1 23 "GateWheel$Lexer" "next" "I") (List.mem_of_getElem? (i := 2) rfl)) (fun _ h9 => h9) rfl dX1_takeDigit_27 ?_
  refine lv_aload_n hx hb dX1_takeDigit_30 rfl (lv_at hl 0 rfl) ?_
  refine va_get (D := (dC, dI)) (ci := 1) (v := .int (gI s1_5 1)) (C := RX1) (T := TX1) (N := 7) hx hb hts inX1_ hown hK hP 0 rfl rfl 1 (by decide) (hts (.fieldLink RX1 19 "GateWheel$Lexer" "length" "I") (List.mem_of_getElem? (i := 4) rfl)) (fun _ h9 => h9) rfl dX1_takeDigit_31 ?_
  refine W_abs (fun GW6 eG7 => ?_)
  obtain ⟨ov9, hr10, h⟩ := zB_spec h
  have jn8 : ∀ (v12 : Int32) (HGW6 : Heap) (locs : List Loc) (ls : Array Slot), v12 = ov9 → va_P (dC, dI) vwCl ((cX1 a1 h1 (.ref atx) y s1_5) ++ ([(atx, .inl (y 2, 2000, .inl ft))])) HGW6 → va_D A ((cX1 a1 h1 (.ref atx) y s1_5) ++ ([(atx, .inl (y 2, 2000, .inl ft))])) → va_S A s.heap HGW6 locs → lv_has ls 2 [(0, .ref a1)] → GW6 HGW6 locs 0 0 (F0 m 57 ls [.int v12]) := by
    intro v12 HGW6 locs ls hv hP hD hS hl
    subst hv
    refine (eG7 _ _ _ _ _).mpr ?_
    refine lv_istore_n (lv' := [(1, .int v12), (0, .ref a1)]) hx hb dX1_takeDigit_57 rfl hl (by decide) rfl (fun ls hl => ?_)
    refine lv_aload_n hx hb dX1_takeDigit_58 rfl (lv_at hl 1 rfl) ?_
    refine lv_iload_n hx hb dX1_takeDigit_59 rfl (lv_at hl 0 rfl) ?_
    refine W_abs (fun GW13 eG14 => ?_)
    obtain ⟨ov16, hr17, h⟩ := zB_spec h
    have jn15 : ∀ (v19 : Int32) (HGW13 : Heap) (locs : List Loc) (ls : Array Slot), v19 = ov16 → va_P (dC, dI) vwCl ((cX1 a1 h1 (.ref atx) y s1_5) ++ ([(atx, .inl (y 2, 2000, .inl ft))])) HGW13 → va_D A ((cX1 a1 h1 (.ref atx) y s1_5) ++ ([(atx, .inl (y 2, 2000, .inl ft))])) → va_S A s.heap HGW13 locs → lv_has ls 2 [] → GW13 HGW13 locs 0 0 (F0 m 75 ls [.int v19, .ref a1]) := by
      intro v19 HGW13 locs ls hv hP hD hS hl
      subst hv
      refine (eG14 _ _ _ _ _).mpr ?_
      refine va_put (D := (dC, dI)) (ci := 1) (v := .int v19) (ty := .int) (C := RX1) (T := TX1) (N := 7) hx hb hts inX1_ tyX1 tyX1_ok nmX1 hown hK hP hD hS 0 rfl rfl 3 (by decide) (hts (.fieldLink RX1 33 "GateWheel$Lexer" "kind" "I") (List.mem_of_getElem? (i := 5) rfl)) (fun _ h9 => h9) rfl (by decide +kernel) rfl rfl (Nat.le_of_ble_eq_true rfl) dX1_takeDigit_75 (fun H20 locs hP hD hS => ?_)
      obtain ⟨s1_21, es1_21, h⟩ := zL_spec h
      have hP : va_P (dC, dI) vwCl ((cX1 a1 h1 (.ref atx) y s1_21) ++ ([(atx, .inl (y 2, 2000, .inl ft))])) H20 := by rw [es1_21]; exact hP
      have hD : va_D A ((cX1 a1 h1 (.ref atx) y s1_21) ++ ([(atx, .inl (y 2, 2000, .inl ft))])) := by rw [es1_21]; exact hD
      have ho0 : s1_21 = o_1 := congrArg (fun z : SS => z) (Option.some.inj h)
      exact W.vret hx hb hr (fun t ht hW => ⟨⟨(), rfl, trivial, by rw [ht]; rw [← ho0]; exact hP, va_K.moved hW.alike hK, by rw [← ho0]; exact hD⟩, hS.F ht⟩) hS.2.2 dX1_takeDigit_78
    refine (eG14 _ _ _ _ _).mpr ?_
    have h := hr17
    refine lv_if_eq (tgt := 74) hx hb dX1_takeDigit_60 (by decide) (fun c22 => ?_) (fun c22 => ?_)
    · have h := zY c22 h
      refine lv_iconst (v := 0) hx hb dX1_takeDigit_74 (by decide) ?_
      exact (eG14 _ _ _ _ _).mp (jn15 (0 : Int32) _ _ _ (Option.some.inj h) hP hD hS (lv_sub hl [] rfl))
    · have h := zN c22 h
      refine lv_aload_n hx hb dX1_takeDigit_63 rfl (lv_at hl 1 rfl) ?_
      refine va_get (D := (dC, dI)) (ci := 1) (v := .int (gI s1_5 6)) (C := RX1) (T := TX1) (N := 7) hx hb hts inX1_ hown hK hP 0 rfl rfl 6 (by decide) (hts (.fieldLink RX1 58 "GateWheel$Lexer" "digit" "I") (List.mem_of_getElem? (i := 3) rfl)) (fun _ h9 => h9) rfl dX1_takeDigit_64 ?_
      refine lv_if_le (tgt := 74) hx hb dX1_takeDigit_67 (by decide) (fun c23 => ?_) (fun c23 => ?_)
      · have h := zY c23 h
        refine lv_iconst (v := 0) hx hb dX1_takeDigit_74 (by decide) ?_
        exact (eG14 _ _ _ _ _).mp (jn15 (0 : Int32) _ _ _ (Option.some.inj h) hP hD hS (lv_sub hl [] rfl))
      · have h := zN c23 h
        refine lv_iconst (v := 3) hx hb dX1_takeDigit_70 (by decide) ?_
        refine lv_goto (tgt := 75) hx hb dX1_takeDigit_71 (by decide) ?_
        exact (eG14 _ _ _ _ _).mp (jn15 (3 : Int32) _ _ _ (Option.some.inj h) hP hD hS (lv_sub hl [] rfl))
  refine (eG7 _ _ _ _ _).mpr ?_
  have h := hr10
  refine lv_icmp_ge (tgt := 52) hx hb dX1_takeDigit_34 (by decide) (fun c24 => ?_) (fun c24 => ?_)
  · have h := zY c24 h
    refine lv_iconst (v := 1) hx hb dX1_takeDigit_52 (by decide) ?_
    refine lv_goto (tgt := 57) hx hb dX1_takeDigit_53 (by decide) ?_
    exact (eG7 _ _ _ _ _).mp (jn8 (1 : Int32) _ _ _ (Option.some.inj h) hP hD hS (lv_sub hl [0] rfl))
  · have h := zN c24 h
    refine lv_aload_n hx hb dX1_takeDigit_37 rfl (lv_at hl 0 rfl) ?_
    refine va_get (D := (dC, dI)) (ci := 1) (v := .ref atx) (C := RX1) (T := TX1) (N := 7) hx hb hts inX1_ hown hK hP 0 rfl rfl 0 (by decide) (hts (.fieldLink RX1 7 "GateWheel$Lexer" "text" "[B") (List.mem_of_getElem? (i := 1) rfl)) (fun _ h9 => h9) rfl dX1_takeDigit_38 ?_
    refine lv_aload_n hx hb dX1_takeDigit_41 rfl (lv_at hl 0 rfl) ?_
    refine va_get (D := (dC, dI)) (ci := 1) (v := .int (gI s1_5 2)) (C := RX1) (T := TX1) (N := 7) hx hb hts inX1_ hown hK hP 0 rfl rfl 2 (by decide) (hts (.fieldLink RX1 23 "GateWheel$Lexer" "next" "I") (List.mem_of_getElem? (i := 2) rfl)) (fun _ h9 => h9) rfl dX1_takeDigit_42 ?_
    obtain ⟨hi25, h⟩ := zG_spec h
    refine va_bald hx hb hK hP 1 2 rfl rfl hi25 dX1_takeDigit_45 ?_
    obtain ⟨r26, hc27, h⟩ := zB_spec h
    have hPc := hP.sub (ws' := []) [] rfl
    have hDc := hD.sub (ws' := []) [] (by decide) rfl
    have hFc := va_free (wc := []) hD hS hA [] rfl
    refine va_calli (va_runS (As := [.int (ft (gI s1_5 2).toNatClampNeg)]) (rest := []) ⟨hx, hb, hml, hown, hts⟩ (m_X1_isLetterOrDigit l dC dI y (ft (gI s1_5 2).toNatClampNeg) H4.size r26 hc27) (va_cwS 1 hts gX1_takeDigit_X1_isLetterOrDigit rfl rfl rfl (by decide +kernel) ⟨Nat.le_of_ble_eq_true rfl, Nat.le_of_ble_eq_true rfl⟩) ⟨fun a U g mk q => by obtain ⟨q0, q1, qP, qK, qD⟩ := q; exact ⟨q0, q1, qP, va_K.moved (u := U) (U := U.calling g mk a) (Vm.Alike.refl U.vm) qK, qD⟩, fun U hU hW => ⟨rfl, by rw [hU], by rw [hU]; exact hPc, va_K.moved hW.alike hK, hDc.weaken (fun _ _ _ _ => trivial)⟩⟩ rfl rfl hl.1 rfl (lv_room (Nat.le_of_ble_eq_true rfl)) dX1_takeDigit_46 ⟨Nat.le_of_ble_eq_true rfl, Nat.le_of_ble_eq_true rfl⟩) hS (fun q _ h => hFc q h) hFc (fun rr29 u t H28 locs ht hvm hw hB hz1 hk1 hS => ?_)
    obtain ⟨hP1, hK1, hD1⟩ := hB
    rw [ht] at hP1
    refine zTopi hw.symm ?_
    obtain ⟨hP, hD⟩ := va_join (wr := [(oX1 a1 h1 (.ref atx) s1_5), (atx, .inl (y 2, 2000, .inl ft))]) (w1 := []) hP hD [] [0, 1] rfl rfl (by decide) (by decide) hk1 hFc hP1 hD1
    have hP : va_P (dC, dI) vwCl ((cX1 a1 h1 (.ref atx) y s1_5) ++ ([(atx, .inl (y 2, 2000, .inl ft))])) H28 := hP.sub [0, 1] rfl
    have hD : va_D A ((cX1 a1 h1 (.ref atx) y s1_5) ++ ([(atx, .inl (y 2, 2000, .inl ft))])) := hD.sub [0, 1] (by decide) rfl
    refine lv_if_ne (tgt := 56) hx hb dX1_takeDigit_49 (by decide) (fun c30 => ?_) (fun c30 => ?_)
    · have h := zN c30 h
      refine lv_iconst (v := 0) hx hb dX1_takeDigit_56 (by decide) ?_
      exact (eG7 _ _ _ _ _).mp (jn8 (0 : Int32) _ _ _ (Option.some.inj h) hP hD hS (lv_sub hl [0] rfl))
    · have h := zY c30 h
      refine lv_iconst (v := 1) hx hb dX1_takeDigit_52 (by decide) ?_
      refine lv_goto (tgt := 57) hx hb dX1_takeDigit_53 (by decide) ?_
      exact (eG7 _ _ _ _ _).mp (jn8 (1 : Int32) _ _ _ (Option.some.inj h) hP hD hS (lv_sub hl [0] rfl))

set_option maxHeartbeats 4000000 in
set_option maxRecDepth 100000 in
theorem m_X1_takeWord (l : Launch) (dC : Nat → ClassId) (dI : Nat → Nat → Nat) (y : Nat → ClassId) (a1 : Nat) (h1 : Nat → Nat) (S1 : SS) (atx : Nat) (ft : Nat → Int32) (sz : Nat) (o_1 : SS) (h : f_X1_takeWord S1 ft = some o_1) : Met l yX1_takeWord wsX1_takeWord ({ frames := 2, cells := 0, slots := 0, locals := 40 }) (va_Pc [.ref a1] (fun U => U.heap.size = sz ∧ va_P (dC, dI) vwCl ((cX1 a1 h1 (.ref atx) y S1) ++ ([(atx, .inl (y 2, 2000, .inl ft))])) U.heap ∧ va_K (dC, dI) vwCl [(y 0, .int), (y 1, .long), (y 2, .byte), (y 3, .boolean)] U ∧ va_D (fun _ => True) ((cX1 a1 h1 (.ref atx) y S1) ++ ([(atx, .inl (y 2, 2000, .inl ft))])))) (va_Qv (fun (_ : Unit) => True) (fun (_ : Unit) (t : State) => va_P (dC, dI) vwCl ((cX1 a1 h1 (.ref atx) y o_1) ++ ([(atx, .inl (y 2, 2000, .inl ft))])) t.heap ∧ va_K (dC, dI) vwCl [(y 0, .int), (y 1, .long), (y 2, .byte), (y 3, .boolean)] t ∧ va_D (va_A ((cX1 a1 h1 (.ref atx) y S1) ++ ([(atx, .inl (y 2, 2000, .inl ft))])) sz) ((cX1 a1 h1 (.ref atx) y o_1) ++ ([(atx, .inl (y 2, 2000, .inl ft))]))) (va_A ((cX1 a1 h1 (.ref atx) y S1) ++ ([(atx, .inl (y 2, 2000, .inl ft))])) sz)) 0 0 (va_A ((cX1 a1 h1 (.ref atx) y S1) ++ ([(atx, .inl (y 2, 2000, .inl ft))])) sz) := by
  refine Met.ofW (cc := cX1_takeWord) (maxL := 1) (ret := none) (by decide +kernel) rfl ?_
  intro p e s m args below meth c s₁ B hml hv
  obtain ⟨rfl, hsz, hP, hK, hD0⟩ := hv
  have hx := B.exec
  have hb := B.bytes
  have hr := B.returns
  have hts := atoms_spec (ws := wsX1_takeWord) B.pre
  have hown : s.vm.findClass RX1 = some m.cls := findClass_of_methodNamed B.named
  have hlocks := B.notSynchronized
  have inX1_ : ∀ w ∈ wsX10, w ∈ wsX1_takeWord := fun _ h => List.mem_cons_of_mem _ (List.mem_append_right _ h)
  subst hsz
  have hD := hD0.self (sz := s.heap.size)
  generalize hAe : va_A ((cX1 a1 h1 (.ref atx) y S1) ++ ([(atx, .inl (y 2, 2000, .inl ft))])) s.heap.size = A at hD ⊢
  have hA : ∀ q : Nat, s.heap.size ≤ q → A q := fun q h => by rw [← hAe]; exact Or.inr h
  have hS : va_S A s.heap s.heap [] := va_S.rf
  have hP : va_P (dC, dI) vwCl ((cX1 a1 h1 (.ref atx) y S1) ++ ([(atx, .inl (y 2, 2000, .inl ft))])) s.heap := hP
  have hl := lv_entry ([.ref a1]) (n := 1) (Nat.le_of_ble_eq_true rfl)
  rw [lg_entry_eq]
  generalize (lg_sl ([.ref a1]) ++ List.replicate (1 - (lg_sl ([.ref a1])).length) Slot.unset).toArray = ls at hl ⊢
  have hl : lv_has ls 1 [(0, .ref a1)] := hl
  refine lv_aload_n hx hb dX1_takeWord_0 rfl (lv_at hl 0 rfl) ?_
  refine lv_lconst (v := 0) hx hb dX1_takeWord_1 (by decide) ?_
  refine va_put (D := (dC, dI)) (ci := 1) (v := .long 0) (ty := .long) (C := RX1) (T := TX1) (N := 7) hx hb hts inX1_ tyX1 tyX1_ok nmX1 hown hK hP hD hS 0 rfl rfl 5 (by decide) (hts (.fieldLink RX1 51 "GateWheel$Lexer" "word" "J") (List.mem_of_getElem? (i := 1) rfl)) (fun _ h9 => h9) rfl (by decide +kernel) rfl rfl (Nat.le_of_ble_eq_true rfl) dX1_takeWord_2 (fun H1 locs hP hD hS => ?_)
  obtain ⟨s1_2, es1_2, h⟩ := zL_spec h
  have hP : va_P (dC, dI) vwCl ((cX1 a1 h1 (.ref atx) y s1_2) ++ ([(atx, .inl (y 2, 2000, .inl ft))])) H1 := by rw [es1_2]; exact hP
  have hD : va_D A ((cX1 a1 h1 (.ref atx) y s1_2) ++ ([(atx, .inl (y 2, 2000, .inl ft))])) := by rw [es1_2]; exact hD
  refine W_abs (fun GW3 eG4 => ?_)
  obtain ⟨ov7, hi8, h⟩ := zB_spec h
  have je5 : ∀ (s1_12 : SS) (HGW3e : Heap) (locs : List Loc) (ls : Array Slot), s1_12 = ov7 → va_P (dC, dI) vwCl ((cX1 a1 h1 (.ref atx) y s1_12) ++ ([(atx, .inl (y 2, 2000, .inl ft))])) HGW3e → va_D A ((cX1 a1 h1 (.ref atx) y s1_12) ++ ([(atx, .inl (y 2, 2000, .inl ft))])) → va_S A s.heap HGW3e locs → lv_has ls 1 [(0, .ref a1)] → GW3 HGW3e locs 0 0 (F0 m 66 ls []) := by
    intro s1_12 HGW3e locs ls hv hP hD hS hl
    subst hv
    refine (eG4 _ _ _ _ _).mpr ?_
    refine lv_aload_n hx hb dX1_takeWord_66 rfl (lv_at hl 0 rfl) ?_
    refine lv_aload_n hx hb dX1_takeWord_67 rfl (lv_at hl 0 rfl) ?_
    refine va_get (D := (dC, dI)) (ci := 1) (v := .int (gI s1_12 2)) (C := RX1) (T := TX1) (N := 7) hx hb hts inX1_ hown hK hP 0 rfl rfl 2 (by decide) (hts (.fieldLink RX1 23 "GateWheel$Lexer" "next" "I") (List.mem_of_getElem? (i := 2) rfl)) (fun _ h9 => h9) rfl dX1_takeWord_68 ?_
    refine lv_aload_n hx hb dX1_takeWord_71 rfl (lv_at hl 0 rfl) ?_
    refine va_get (D := (dC, dI)) (ci := 1) (v := .int (gI s1_12 4)) (C := RX1) (T := TX1) (N := 7) hx hb hts inX1_ hown hK hP 0 rfl rfl 4 (by decide) (hts (.fieldLink RX1 30 "GateWheel$Lexer" "start" "I") (List.mem_of_getElem? (i := 5) rfl)) (fun _ h9 => h9) rfl dX1_takeWord_72 ?_
    refine lv_isub hx hb dX1_takeWord_75 ?_
    refine lv_bipush (v := 8) hx hb dX1_takeWord_76 (by decide) ?_
    refine W_abs (fun GW13 eG14 => ?_)
    obtain ⟨ov16, hr17, h⟩ := zB_spec h
    have jn15 : ∀ (v19 : Int32) (HGW13 : Heap) (locs : List Loc) (ls : Array Slot), v19 = ov16 → va_P (dC, dI) vwCl ((cX1 a1 h1 (.ref atx) y s1_12) ++ ([(atx, .inl (y 2, 2000, .inl ft))])) HGW13 → va_D A ((cX1 a1 h1 (.ref atx) y s1_12) ++ ([(atx, .inl (y 2, 2000, .inl ft))])) → va_S A s.heap HGW13 locs → lv_has ls 1 [] → GW13 HGW13 locs 0 0 (F0 m 86 ls [.int v19, .ref a1]) := by
      intro v19 HGW13 locs ls hv hP hD hS hl
      subst hv
      refine (eG14 _ _ _ _ _).mpr ?_
      refine va_put (D := (dC, dI)) (ci := 1) (v := .int v19) (ty := .int) (C := RX1) (T := TX1) (N := 7) hx hb hts inX1_ tyX1 tyX1_ok nmX1 hown hK hP hD hS 0 rfl rfl 3 (by decide) (hts (.fieldLink RX1 33 "GateWheel$Lexer" "kind" "I") (List.mem_of_getElem? (i := 6) rfl)) (fun _ h9 => h9) rfl (by decide +kernel) rfl rfl (Nat.le_of_ble_eq_true rfl) dX1_takeWord_86 (fun H20 locs hP hD hS => ?_)
      obtain ⟨s1_21, es1_21, h⟩ := zL_spec h
      have hP : va_P (dC, dI) vwCl ((cX1 a1 h1 (.ref atx) y s1_21) ++ ([(atx, .inl (y 2, 2000, .inl ft))])) H20 := by rw [es1_21]; exact hP
      have hD : va_D A ((cX1 a1 h1 (.ref atx) y s1_21) ++ ([(atx, .inl (y 2, 2000, .inl ft))])) := by rw [es1_21]; exact hD
      have ho0 : s1_21 = o_1 := congrArg (fun z : SS => z) (Option.some.inj h)
      exact W.vret hx hb hr (fun t ht hW => ⟨⟨(), rfl, trivial, by rw [ht]; rw [← ho0]; exact hP, va_K.moved hW.alike hK, by rw [← ho0]; exact hD⟩, hS.F ht⟩) hS.2.2 dX1_takeWord_89
    refine (eG14 _ _ _ _ _).mpr ?_
    have h := hr17
    refine lv_icmp_le (tgt := 85) hx hb dX1_takeWord_78 (by decide) (fun c22 => ?_) (fun c22 => ?_)
    · have h := zY c22 h
      refine lv_iconst (v := 2) hx hb dX1_takeWord_85 (by decide) ?_
      exact (eG14 _ _ _ _ _).mp (jn15 (2 : Int32) _ _ _ (Option.some.inj h) hP hD hS (lv_sub hl [] rfl))
    · have h := zN c22 h
      refine lv_iconst (v := 0) hx hb dX1_takeWord_81 (by decide) ?_
      refine lv_goto (tgt := 86) hx hb dX1_takeWord_82 (by decide) ?_
      exact (eG14 _ _ _ _ _).mp (jn15 (0 : Int32) _ _ _ (Option.some.inj h) hP hD hS (lv_sub hl [] rfl))
  have lp6 : ∀ (n : Nat) (s1_23 : SS) (HGW3 : Heap) (locs : List Loc) (ls : Array Slot), zI (b_X1_takeWord_5 ft) n s1_23 = some ov7 → va_P (dC, dI) vwCl ((cX1 a1 h1 (.ref atx) y s1_23) ++ ([(atx, .inl (y 2, 2000, .inl ft))])) HGW3 → va_D A ((cX1 a1 h1 (.ref atx) y s1_23) ++ ([(atx, .inl (y 2, 2000, .inl ft))])) → va_S A s.heap HGW3 locs → lv_has ls 1 [(0, .ref a1)] → GW3 HGW3 locs 0 0 (F0 m 5 ls []) := by
    intro n
    induction n with
    | zero =>
      intro s1_23 HGW3 locs ls hi8 hP hD hS hl
      exact (zI_0 hi8).elim
    | succ n ihlp6 =>
      intro s1_23 HGW3 locs ls hi8 hP hD hS hl
      refine (eG4 _ _ _ _ _).mpr ?_
      obtain ⟨xx11, h, hx10⟩ := zI_spec hi8
      refine lv_aload_n hx hb dX1_takeWord_5 rfl (lv_at hl 0 rfl) ?_
      refine va_get (D := (dC, dI)) (ci := 1) (v := .int (gI s1_23 2)) (C := RX1) (T := TX1) (N := 7) hx hb hts inX1_ hown hK hP 0 rfl rfl 2 (by decide) (hts (.fieldLink RX1 23 "GateWheel$Lexer" "next" "I") (List.mem_of_getElem? (i := 2) rfl)) (fun _ h9 => h9) rfl dX1_takeWord_6 ?_
      refine lv_aload_n hx hb dX1_takeWord_9 rfl (lv_at hl 0 rfl) ?_
      refine va_get (D := (dC, dI)) (ci := 1) (v := .int (gI s1_23 1)) (C := RX1) (T := TX1) (N := 7) hx hb hts inX1_ hown hK hP 0 rfl rfl 1 (by decide) (hts (.fieldLink RX1 19 "GateWheel$Lexer" "length" "I") (List.mem_of_getElem? (i := 3) rfl)) (fun _ h9 => h9) rfl dX1_takeWord_10 ?_
      refine lv_icmp_ge (tgt := 66) hx hb dX1_takeWord_13 (by decide) (fun c24 => ?_) (fun c24 => ?_)
      · have h := zY c24 h
        exact (eG4 _ _ _ _ _).mp (je5 s1_23 _ _ _ (zI_r h hx10) hP hD hS (lv_sub hl [0] rfl))
      · have h := zN c24 h
        refine lv_aload_n hx hb dX1_takeWord_16 rfl (lv_at hl 0 rfl) ?_
        refine va_get (D := (dC, dI)) (ci := 1) (v := .ref atx) (C := RX1) (T := TX1) (N := 7) hx hb hts inX1_ hown hK hP 0 rfl rfl 0 (by decide) (hts (.fieldLink RX1 7 "GateWheel$Lexer" "text" "[B") (List.mem_of_getElem? (i := 4) rfl)) (fun _ h9 => h9) rfl dX1_takeWord_17 ?_
        refine lv_aload_n hx hb dX1_takeWord_20 rfl (lv_at hl 0 rfl) ?_
        refine va_get (D := (dC, dI)) (ci := 1) (v := .int (gI s1_23 2)) (C := RX1) (T := TX1) (N := 7) hx hb hts inX1_ hown hK hP 0 rfl rfl 2 (by decide) (hts (.fieldLink RX1 23 "GateWheel$Lexer" "next" "I") (List.mem_of_getElem? (i := 2) rfl)) (fun _ h9 => h9) rfl dX1_takeWord_21 ?_
        obtain ⟨hi25, h⟩ := zG_spec h
        refine va_bald hx hb hK hP 1 2 rfl rfl hi25 dX1_takeWord_24 ?_
        obtain ⟨r26, hc27, h⟩ := zB_spec h
        have hPc := hP.sub (ws' := []) [] rfl
        have hDc := hD.sub (ws' := []) [] (by decide) rfl
        have hFc := va_free (wc := []) hD hS hA [] rfl
        refine va_calli (va_runS (As := [.int (ft (gI s1_23 2).toNatClampNeg)]) (rest := []) ⟨hx, hb, hml, hown, hts⟩ (m_X1_isLetterOrDigit l dC dI y (ft (gI s1_23 2).toNatClampNeg) HGW3.size r26 hc27) (va_cwS 1 hts gX1_takeWord_X1_isLetterOrDigit rfl rfl rfl (by decide +kernel) ⟨Nat.le_of_ble_eq_true rfl, Nat.le_of_ble_eq_true rfl⟩) ⟨fun a U g mk q => by obtain ⟨q0, q1, qP, qK, qD⟩ := q; exact ⟨q0, q1, qP, va_K.moved (u := U) (U := U.calling g mk a) (Vm.Alike.refl U.vm) qK, qD⟩, fun U hU hW => ⟨rfl, by rw [hU], by rw [hU]; exact hPc, va_K.moved hW.alike hK, hDc.weaken (fun _ _ _ _ => trivial)⟩⟩ rfl rfl hl.1 rfl (lv_room (Nat.le_of_ble_eq_true rfl)) dX1_takeWord_25 ⟨Nat.le_of_ble_eq_true rfl, Nat.le_of_ble_eq_true rfl⟩) hS (fun q _ h => hFc q h) hFc (fun rr29 u t H28 locs ht hvm hw hB hz1 hk1 hS => ?_)
        obtain ⟨hP1, hK1, hD1⟩ := hB
        rw [ht] at hP1
        refine zTopi hw.symm ?_
        obtain ⟨hP, hD⟩ := va_join (wr := [(oX1 a1 h1 (.ref atx) s1_23), (atx, .inl (y 2, 2000, .inl ft))]) (w1 := []) hP hD [] [0, 1] rfl rfl (by decide) (by decide) hk1 hFc hP1 hD1
        have hP : va_P (dC, dI) vwCl ((cX1 a1 h1 (.ref atx) y s1_23) ++ ([(atx, .inl (y 2, 2000, .inl ft))])) H28 := hP.sub [0, 1] rfl
        have hD : va_D A ((cX1 a1 h1 (.ref atx) y s1_23) ++ ([(atx, .inl (y 2, 2000, .inl ft))])) := hD.sub [0, 1] (by decide) rfl
        refine lv_if_eq (tgt := 66) hx hb dX1_takeWord_28 (by decide) (fun c30 => ?_) (fun c30 => ?_)
        · have h := zY c30 h
          exact (eG4 _ _ _ _ _).mp (je5 s1_23 _ _ _ (zI_r h hx10) hP hD hS (lv_sub hl [0] rfl))
        · have h := zN c30 h
          refine lv_aload_n hx hb dX1_takeWord_31 rfl (lv_at hl 0 rfl) ?_
          refine lv_aload_n hx hb dX1_takeWord_32 rfl (lv_at hl 0 rfl) ?_
          refine va_get (D := (dC, dI)) (ci := 1) (v := .long (gL s1_23 5)) (C := RX1) (T := TX1) (N := 7) hx hb hts inX1_ hown hK hP 0 rfl rfl 5 (by decide) (hts (.fieldLink RX1 51 "GateWheel$Lexer" "word" "J") (List.mem_of_getElem? (i := 1) rfl)) (fun _ h9 => h9) rfl dX1_takeWord_33 ?_
          refine lv_bipush (v := 8) hx hb dX1_takeWord_36 (by decide) ?_
          refine lv_lshl (v := (jLs (gL s1_23 5) (8 : Int32))) hx hb dX1_takeWord_38 rfl ?_
          refine lv_aload_n hx hb dX1_takeWord_39 rfl (lv_at hl 0 rfl) ?_
          refine va_get (D := (dC, dI)) (ci := 1) (v := .ref atx) (C := RX1) (T := TX1) (N := 7) hx hb hts inX1_ hown hK hP 0 rfl rfl 0 (by decide) (hts (.fieldLink RX1 7 "GateWheel$Lexer" "text" "[B") (List.mem_of_getElem? (i := 4) rfl)) (fun _ h9 => h9) rfl dX1_takeWord_40 ?_
          refine lv_aload_n hx hb dX1_takeWord_43 rfl (lv_at hl 0 rfl) ?_
          refine va_get (D := (dC, dI)) (ci := 1) (v := .int (gI s1_23 2)) (C := RX1) (T := TX1) (N := 7) hx hb hts inX1_ hown hK hP 0 rfl rfl 2 (by decide) (hts (.fieldLink RX1 23 "GateWheel$Lexer" "next" "I") (List.mem_of_getElem? (i := 2) rfl)) (fun _ h9 => h9) rfl dX1_takeWord_44 ?_
          refine va_bald hx hb hK hP 1 2 rfl rfl hi25 dX1_takeWord_47 ?_
          refine lv_i2l (v := (jIL (ft (gI s1_23 2).toNatClampNeg))) hx hb dX1_takeWord_48 rfl ?_
          refine lv_lor hx hb dX1_takeWord_49 ?_
          refine va_put (D := (dC, dI)) (ci := 1) (v := .long ((jLs (gL s1_23 5) (8 : Int32)) ||| (jIL (ft (gI s1_23 2).toNatClampNeg)))) (ty := .long) (C := RX1) (T := TX1) (N := 7) hx hb hts inX1_ tyX1 tyX1_ok nmX1 hown hK hP hD hS 0 rfl rfl 5 (by decide) (hts (.fieldLink RX1 51 "GateWheel$Lexer" "word" "J") (List.mem_of_getElem? (i := 1) rfl)) (fun _ h9 => h9) rfl (by decide +kernel) rfl rfl (Nat.le_of_ble_eq_true rfl) dX1_takeWord_50 (fun H31 locs hP hD hS => ?_)
          obtain ⟨s1_32, es1_32, h⟩ := zL_spec h
          have hP : va_P (dC, dI) vwCl ((cX1 a1 h1 (.ref atx) y s1_32) ++ ([(atx, .inl (y 2, 2000, .inl ft))])) H31 := by rw [es1_32]; exact hP
          have hD : va_D A ((cX1 a1 h1 (.ref atx) y s1_32) ++ ([(atx, .inl (y 2, 2000, .inl ft))])) := by rw [es1_32]; exact hD
          refine lv_aload_n hx hb dX1_takeWord_53 rfl (lv_at hl 0 rfl) ?_
          refine lv_dup hx hb dX1_takeWord_54 rfl ?_
          refine va_get (D := (dC, dI)) (ci := 1) (v := .int (gI s1_32 2)) (C := RX1) (T := TX1) (N := 7) hx hb hts inX1_ hown hK hP 0 rfl rfl 2 (by decide) (hts (.fieldLink RX1 23 "GateWheel$Lexer" "next" "I") (List.mem_of_getElem? (i := 2) rfl)) (fun _ h9 => h9) rfl dX1_takeWord_55 ?_
          refine lv_iconst (v := 1) hx hb dX1_takeWord_58 (by decide) ?_
          refine lv_iadd hx hb dX1_takeWord_59 ?_
          refine va_put (D := (dC, dI)) (ci := 1) (v := .int ((gI s1_32 2) + (1 : Int32))) (ty := .int) (C := RX1) (T := TX1) (N := 7) hx hb hts inX1_ tyX1 tyX1_ok nmX1 hown hK hP hD hS 0 rfl rfl 2 (by decide) (hts (.fieldLink RX1 23 "GateWheel$Lexer" "next" "I") (List.mem_of_getElem? (i := 2) rfl)) (fun _ h9 => h9) rfl (by decide +kernel) rfl rfl (Nat.le_of_ble_eq_true rfl) dX1_takeWord_60 (fun H33 locs hP hD hS => ?_)
          obtain ⟨s1_34, es1_34, h⟩ := zL_spec h
          have hP : va_P (dC, dI) vwCl ((cX1 a1 h1 (.ref atx) y s1_34) ++ ([(atx, .inl (y 2, 2000, .inl ft))])) H33 := by rw [es1_34]; exact hP
          have hD : va_D A ((cX1 a1 h1 (.ref atx) y s1_34) ++ ([(atx, .inl (y 2, 2000, .inl ft))])) := by rw [es1_34]; exact hD
          refine lv_goto (tgt := 5) hx hb dX1_takeWord_63 (by decide) ?_
          have h := zI_l h hx10
          exact (eG4 _ _ _ _ _).mp (ihlp6 s1_34 _ _ _ h hP hD hS (lv_sub hl [0] rfl))
  exact lp6 zF s1_2 _ _ _ hi8 hP hD hS (lv_sub hl [0] rfl)

set_option maxHeartbeats 4000000 in
set_option maxRecDepth 100000 in
theorem m_X1_advance (l : Launch) (dC : Nat → ClassId) (dI : Nat → Nat → Nat) (y : Nat → ClassId) (a1 : Nat) (h1 : Nat → Nat) (S1 : SS) (atx : Nat) (ft : Nat → Int32) (sz : Nat) (o_1 : SS) (h : f_X1_advance S1 ft = some o_1) : Met l yX1_advance wsX1_advance ({ frames := 3, cells := 0, slots := 0, locals := 61 }) (va_Pc [.ref a1] (fun U => U.heap.size = sz ∧ va_P (dC, dI) vwCl ((cX1 a1 h1 (.ref atx) y S1) ++ ([(atx, .inl (y 2, 2000, .inl ft))])) U.heap ∧ va_K (dC, dI) vwCl [(y 0, .int), (y 1, .long), (y 2, .byte), (y 3, .boolean)] U ∧ va_D (fun _ => True) ((cX1 a1 h1 (.ref atx) y S1) ++ ([(atx, .inl (y 2, 2000, .inl ft))])))) (va_Qv (fun (_ : Unit) => True) (fun (_ : Unit) (t : State) => va_P (dC, dI) vwCl ((cX1 a1 h1 (.ref atx) y o_1) ++ ([(atx, .inl (y 2, 2000, .inl ft))])) t.heap ∧ va_K (dC, dI) vwCl [(y 0, .int), (y 1, .long), (y 2, .byte), (y 3, .boolean)] t ∧ va_D (va_A ((cX1 a1 h1 (.ref atx) y S1) ++ ([(atx, .inl (y 2, 2000, .inl ft))])) sz) ((cX1 a1 h1 (.ref atx) y o_1) ++ ([(atx, .inl (y 2, 2000, .inl ft))]))) (va_A ((cX1 a1 h1 (.ref atx) y S1) ++ ([(atx, .inl (y 2, 2000, .inl ft))])) sz)) 0 0 (va_A ((cX1 a1 h1 (.ref atx) y S1) ++ ([(atx, .inl (y 2, 2000, .inl ft))])) sz) := by
  refine Met.ofW (cc := cX1_advance) (maxL := 2) (ret := none) (by decide +kernel) rfl ?_
  intro p e s m args below meth c s₁ B hml hv
  obtain ⟨rfl, hsz, hP, hK, hD0⟩ := hv
  have hx := B.exec
  have hb := B.bytes
  have hr := B.returns
  have hts := atoms_spec (ws := wsX1_advance) B.pre
  have hown : s.vm.findClass RX1 = some m.cls := findClass_of_methodNamed B.named
  have hlocks := B.notSynchronized
  have inX1_ : ∀ w ∈ wsX10, w ∈ wsX1_advance := fun _ h => List.mem_cons_of_mem _ (List.mem_append_right _ h)
  subst hsz
  have hD := hD0.self (sz := s.heap.size)
  generalize hAe : va_A ((cX1 a1 h1 (.ref atx) y S1) ++ ([(atx, .inl (y 2, 2000, .inl ft))])) s.heap.size = A at hD ⊢
  have hA : ∀ q : Nat, s.heap.size ≤ q → A q := fun q h => by rw [← hAe]; exact Or.inr h
  have hS : va_S A s.heap s.heap [] := va_S.rf
  have hP : va_P (dC, dI) vwCl ((cX1 a1 h1 (.ref atx) y S1) ++ ([(atx, .inl (y 2, 2000, .inl ft))])) s.heap := hP
  have hl := lv_entry ([.ref a1]) (n := 2) (Nat.le_of_ble_eq_true rfl)
  rw [lg_entry_eq]
  generalize (lg_sl ([.ref a1]) ++ List.replicate (2 - (lg_sl ([.ref a1])).length) Slot.unset).toArray = ls at hl ⊢
  have hl : lv_has ls 2 [(0, .ref a1)] := hl
  refine W_abs (fun GW1 eG2 => ?_)
  obtain ⟨ov5, hi6, h⟩ := zB_spec h
  have je3 : ∀ (s1_10 : SS) (HGW1e : Heap) (locs : List Loc) (ls : Array Slot), s1_10 = ov5 → va_P (dC, dI) vwCl ((cX1 a1 h1 (.ref atx) y s1_10) ++ ([(atx, .inl (y 2, 2000, .inl ft))])) HGW1e → va_D A ((cX1 a1 h1 (.ref atx) y s1_10) ++ ([(atx, .inl (y 2, 2000, .inl ft))])) → va_S A s.heap HGW1e locs → lv_has ls 2 [(0, .ref a1)] → GW1 HGW1e locs 0 0 (F0 m 39 ls []) := by
    intro s1_10 HGW1e locs ls hv hP hD hS hl
    subst hv
    refine (eG2 _ _ _ _ _).mpr ?_
    refine lv_aload_n hx hb dX1_advance_39 rfl (lv_at hl 0 rfl) ?_
    refine lv_aload_n hx hb dX1_advance_40 rfl (lv_at hl 0 rfl) ?_
    refine va_get (D := (dC, dI)) (ci := 1) (v := .int (gI s1_10 2)) (C := RX1) (T := TX1) (N := 7) hx hb hts inX1_ hown hK hP 0 rfl rfl 2 (by decide) (hts (.fieldLink RX1 23 "GateWheel$Lexer" "next" "I") (List.mem_of_getElem? (i := 1) rfl)) (fun _ h9 => h9) rfl dX1_advance_41 ?_
    refine va_put (D := (dC, dI)) (ci := 1) (v := .int (gI s1_10 2)) (ty := .int) (C := RX1) (T := TX1) (N := 7) hx hb hts inX1_ tyX1 tyX1_ok nmX1 hown hK hP hD hS 0 rfl rfl 4 (by decide) (hts (.fieldLink RX1 30 "GateWheel$Lexer" "start" "I") (List.mem_of_getElem? (i := 4) rfl)) (fun _ h9 => h9) rfl (by decide +kernel) rfl rfl (Nat.le_of_ble_eq_true rfl) dX1_advance_44 (fun H11 locs hP hD hS => ?_)
    obtain ⟨s1_12, es1_12, h⟩ := zL_spec h
    have hP : va_P (dC, dI) vwCl ((cX1 a1 h1 (.ref atx) y s1_12) ++ ([(atx, .inl (y 2, 2000, .inl ft))])) H11 := by rw [es1_12]; exact hP
    have hD : va_D A ((cX1 a1 h1 (.ref atx) y s1_12) ++ ([(atx, .inl (y 2, 2000, .inl ft))])) := by rw [es1_12]; exact hD
    refine lv_aload_n hx hb dX1_advance_47 rfl (lv_at hl 0 rfl) ?_
    refine va_get (D := (dC, dI)) (ci := 1) (v := .int (gI s1_12 2)) (C := RX1) (T := TX1) (N := 7) hx hb hts inX1_ hown hK hP 0 rfl rfl 2 (by decide) (hts (.fieldLink RX1 23 "GateWheel$Lexer" "next" "I") (List.mem_of_getElem? (i := 1) rfl)) (fun _ h9 => h9) rfl dX1_advance_48 ?_
    refine lv_aload_n hx hb dX1_advance_51 rfl (lv_at hl 0 rfl) ?_
    refine va_get (D := (dC, dI)) (ci := 1) (v := .int (gI s1_12 1)) (C := RX1) (T := TX1) (N := 7) hx hb hts inX1_ hown hK hP 0 rfl rfl 1 (by decide) (hts (.fieldLink RX1 19 "GateWheel$Lexer" "length" "I") (List.mem_of_getElem? (i := 2) rfl)) (fun _ h9 => h9) rfl dX1_advance_52 ?_
    refine lv_icmp_lt (tgt := 64) hx hb dX1_advance_55 (by decide) (fun c13 => ?_) (fun c13 => ?_)
    · have h := zY c13 h
      refine lv_aload_n hx hb dX1_advance_64 rfl (lv_at hl 0 rfl) ?_
      refine va_get (D := (dC, dI)) (ci := 1) (v := .ref atx) (C := RX1) (T := TX1) (N := 7) hx hb hts inX1_ hown hK hP 0 rfl rfl 0 (by decide) (hts (.fieldLink RX1 7 "GateWheel$Lexer" "text" "[B") (List.mem_of_getElem? (i := 3) rfl)) (fun _ h9 => h9) rfl dX1_advance_65 ?_
      refine lv_aload_n hx hb dX1_advance_68 rfl (lv_at hl 0 rfl) ?_
      refine va_get (D := (dC, dI)) (ci := 1) (v := .int (gI s1_12 2)) (C := RX1) (T := TX1) (N := 7) hx hb hts inX1_ hown hK hP 0 rfl rfl 2 (by decide) (hts (.fieldLink RX1 23 "GateWheel$Lexer" "next" "I") (List.mem_of_getElem? (i := 1) rfl)) (fun _ h9 => h9) rfl dX1_advance_69 ?_
      obtain ⟨hi14, h⟩ := zG_spec h
      refine va_bald hx hb hK hP 1 2 rfl rfl hi14 dX1_advance_72 ?_
      obtain ⟨v15, ev15, h⟩ := zL_spec h
      refine zTopi ev15 ?_
      refine lv_istore_n (lv' := [(1, .int v15), (0, .ref a1)]) hx hb dX1_advance_73 rfl hl (by decide) rfl (fun ls hl => ?_)
      refine lv_iload_n hx hb dX1_advance_74 rfl (lv_at hl 0 rfl) ?_
      obtain ⟨r16, hc17, h⟩ := zB_spec h
      have hPc := hP.sub (ws' := []) [] rfl
      have hDc := hD.sub (ws' := []) [] (by decide) rfl
      have hFc := va_free (wc := []) hD hS hA [] rfl
      refine va_calli (va_runS (As := [.int v15]) (rest := []) ⟨hx, hb, hml, hown, hts⟩ (m_X1_isLetter l dC dI y v15 H11.size r16 hc17) (va_cwS 1 hts gX1_advance_X1_isLetter rfl rfl rfl (by decide +kernel) ⟨Nat.le_of_ble_eq_true rfl, Nat.le_of_ble_eq_true rfl⟩) ⟨fun a U g mk q => by obtain ⟨q0, q1, qP, qK, qD⟩ := q; exact ⟨q0, q1, qP, va_K.moved (u := U) (U := U.calling g mk a) (Vm.Alike.refl U.vm) qK, qD⟩, fun U hU hW => ⟨rfl, by rw [hU], by rw [hU]; exact hPc, va_K.moved hW.alike hK, hDc.weaken (fun _ _ _ _ => trivial)⟩⟩ rfl rfl hl.1 rfl (lv_room (Nat.le_of_ble_eq_true rfl)) dX1_advance_75 ⟨Nat.le_of_ble_eq_true rfl, Nat.le_of_ble_eq_true rfl⟩) hS (fun q _ h => hFc q h) hFc (fun rr19 u t H18 locs ht hvm hw hB hz1 hk1 hS => ?_)
      obtain ⟨hP1, hK1, hD1⟩ := hB
      rw [ht] at hP1
      refine zTopi hw.symm ?_
      obtain ⟨hP, hD⟩ := va_join (wr := [(oX1 a1 h1 (.ref atx) s1_12), (atx, .inl (y 2, 2000, .inl ft))]) (w1 := []) hP hD [] [0, 1] rfl rfl (by decide) (by decide) hk1 hFc hP1 hD1
      have hP : va_P (dC, dI) vwCl ((cX1 a1 h1 (.ref atx) y s1_12) ++ ([(atx, .inl (y 2, 2000, .inl ft))])) H18 := hP.sub [0, 1] rfl
      have hD : va_D A ((cX1 a1 h1 (.ref atx) y s1_12) ++ ([(atx, .inl (y 2, 2000, .inl ft))])) := hD.sub [0, 1] (by decide) rfl
      refine lv_if_eq (tgt := 88) hx hb dX1_advance_78 (by decide) (fun c20 => ?_) (fun c20 => ?_)
      · have h := zY c20 h
        refine lv_iload_n hx hb dX1_advance_88 rfl (lv_at hl 0 rfl) ?_
        obtain ⟨r21, hc22, h⟩ := zB_spec h
        have hPc := hP.sub (ws' := []) [] rfl
        have hDc := hD.sub (ws' := []) [] (by decide) rfl
        have hFc := va_free (wc := []) hD hS hA [] rfl
        refine va_calli (va_runS (As := [.int v15]) (rest := []) ⟨hx, hb, hml, hown, hts⟩ (m_X1_isDigit l dC dI y v15 H18.size r21 hc22) (va_cwS 1 hts gX1_advance_X1_isDigit rfl rfl rfl (by decide +kernel) ⟨Nat.le_of_ble_eq_true rfl, Nat.le_of_ble_eq_true rfl⟩) ⟨fun a U g mk q => by obtain ⟨q0, q1, qP, qK, qD⟩ := q; exact ⟨q0, q1, qP, va_K.moved (u := U) (U := U.calling g mk a) (Vm.Alike.refl U.vm) qK, qD⟩, fun U hU hW => ⟨rfl, by rw [hU], by rw [hU]; exact hPc, va_K.moved hW.alike hK, hDc.weaken (fun _ _ _ _ => trivial)⟩⟩ rfl rfl hl.1 rfl (lv_room (Nat.le_of_ble_eq_true rfl)) dX1_advance_89 ⟨Nat.le_of_ble_eq_true rfl, Nat.le_of_ble_eq_true rfl⟩) hS (fun q _ h => hFc q h) hFc (fun rr24 u t H23 locs ht hvm hw hB hz1 hk1 hS => ?_)
        obtain ⟨hP1, hK1, hD1⟩ := hB
        rw [ht] at hP1
        refine zTopi hw.symm ?_
        obtain ⟨hP, hD⟩ := va_join (wr := [(oX1 a1 h1 (.ref atx) s1_12), (atx, .inl (y 2, 2000, .inl ft))]) (w1 := []) hP hD [] [0, 1] rfl rfl (by decide) (by decide) hk1 hFc hP1 hD1
        have hP : va_P (dC, dI) vwCl ((cX1 a1 h1 (.ref atx) y s1_12) ++ ([(atx, .inl (y 2, 2000, .inl ft))])) H23 := hP.sub [0, 1] rfl
        have hD : va_D A ((cX1 a1 h1 (.ref atx) y s1_12) ++ ([(atx, .inl (y 2, 2000, .inl ft))])) := hD.sub [0, 1] (by decide) rfl
        refine lv_if_eq (tgt := 102) hx hb dX1_advance_92 (by decide) (fun c25 => ?_) (fun c25 => ?_)
        · have h := zY c25 h
          refine lv_aload_n hx hb dX1_advance_102 rfl (lv_at hl 1 rfl) ?_
          refine lv_iload_n hx hb dX1_advance_103 rfl (lv_at hl 0 rfl) ?_
          obtain ⟨r26, hc27, h⟩ := zB_spec h
          have hPc := hP.sub (ws' := []) [] rfl
          have hDc := hD.sub (ws' := []) [] (by decide) rfl
          have hFc := va_free (wc := []) hD hS hA [] rfl
          refine va_calli (va_runS (As := [.int v15]) (rest := [.ref a1]) ⟨hx, hb, hml, hown, hts⟩ (m_X1_isSign l dC dI y v15 H23.size r26 hc27) (va_cwS 1 hts gX1_advance_X1_isSign rfl rfl rfl (by decide +kernel) ⟨Nat.le_of_ble_eq_true rfl, Nat.le_of_ble_eq_true rfl⟩) ⟨fun a U g mk q => by obtain ⟨q0, q1, qP, qK, qD⟩ := q; exact ⟨q0, q1, qP, va_K.moved (u := U) (U := U.calling g mk a) (Vm.Alike.refl U.vm) qK, qD⟩, fun U hU hW => ⟨rfl, by rw [hU], by rw [hU]; exact hPc, va_K.moved hW.alike hK, hDc.weaken (fun _ _ _ _ => trivial)⟩⟩ rfl rfl hl.1 rfl (lv_room (Nat.le_of_ble_eq_true rfl)) dX1_advance_104 ⟨Nat.le_of_ble_eq_true rfl, Nat.le_of_ble_eq_true rfl⟩) hS (fun q _ h => hFc q h) hFc (fun rr29 u t H28 locs ht hvm hw hB hz1 hk1 hS => ?_)
          obtain ⟨hP1, hK1, hD1⟩ := hB
          rw [ht] at hP1
          refine zTopi hw.symm ?_
          obtain ⟨hP, hD⟩ := va_join (wr := [(oX1 a1 h1 (.ref atx) s1_12), (atx, .inl (y 2, 2000, .inl ft))]) (w1 := []) hP hD [] [0, 1] rfl rfl (by decide) (by decide) hk1 hFc hP1 hD1
          have hP : va_P (dC, dI) vwCl ((cX1 a1 h1 (.ref atx) y s1_12) ++ ([(atx, .inl (y 2, 2000, .inl ft))])) H28 := hP.sub [0, 1] rfl
          have hD : va_D A ((cX1 a1 h1 (.ref atx) y s1_12) ++ ([(atx, .inl (y 2, 2000, .inl ft))])) := hD.sub [0, 1] (by decide) rfl
          refine W_abs (fun GW30 eG31 => ?_)
          obtain ⟨ov33, hr34, h⟩ := zB_spec h
          have jn32 : ∀ (v36 : Int32) (HGW30 : Heap) (locs : List Loc) (ls : Array Slot), v36 = ov33 → va_P (dC, dI) vwCl ((cX1 a1 h1 (.ref atx) y s1_12) ++ ([(atx, .inl (y 2, 2000, .inl ft))])) HGW30 → va_D A ((cX1 a1 h1 (.ref atx) y s1_12) ++ ([(atx, .inl (y 2, 2000, .inl ft))])) → va_S A s.heap HGW30 locs → lv_has ls 2 [(0, .ref a1)] → GW30 HGW30 locs 0 0 (F0 m 115 ls [.int v36, .ref a1]) := by
            intro v36 HGW30 locs ls hv hP hD hS hl
            subst hv
            refine (eG31 _ _ _ _ _).mpr ?_
            refine va_put (D := (dC, dI)) (ci := 1) (v := .int v36) (ty := .int) (C := RX1) (T := TX1) (N := 7) hx hb hts inX1_ tyX1 tyX1_ok nmX1 hown hK hP hD hS 0 rfl rfl 3 (by decide) (hts (.fieldLink RX1 33 "GateWheel$Lexer" "kind" "I") (List.mem_of_getElem? (i := 5) rfl)) (fun _ h9 => h9) rfl (by decide +kernel) rfl rfl (Nat.le_of_ble_eq_true rfl) dX1_advance_115 (fun H37 locs hP hD hS => ?_)
            obtain ⟨s1_38, es1_38, h⟩ := zL_spec h
            have hP : va_P (dC, dI) vwCl ((cX1 a1 h1 (.ref atx) y s1_38) ++ ([(atx, .inl (y 2, 2000, .inl ft))])) H37 := by rw [es1_38]; exact hP
            have hD : va_D A ((cX1 a1 h1 (.ref atx) y s1_38) ++ ([(atx, .inl (y 2, 2000, .inl ft))])) := by rw [es1_38]; exact hD
            refine lv_aload_n hx hb dX1_advance_118 rfl (lv_at hl 0 rfl) ?_
            refine lv_dup hx hb dX1_advance_119 rfl ?_
            refine va_get (D := (dC, dI)) (ci := 1) (v := .int (gI s1_38 2)) (C := RX1) (T := TX1) (N := 7) hx hb hts inX1_ hown hK hP 0 rfl rfl 2 (by decide) (hts (.fieldLink RX1 23 "GateWheel$Lexer" "next" "I") (List.mem_of_getElem? (i := 1) rfl)) (fun _ h9 => h9) rfl dX1_advance_120 ?_
            refine lv_iconst (v := 1) hx hb dX1_advance_123 (by decide) ?_
            refine lv_iadd hx hb dX1_advance_124 ?_
            refine va_put (D := (dC, dI)) (ci := 1) (v := .int ((gI s1_38 2) + (1 : Int32))) (ty := .int) (C := RX1) (T := TX1) (N := 7) hx hb hts inX1_ tyX1 tyX1_ok nmX1 hown hK hP hD hS 0 rfl rfl 2 (by decide) (hts (.fieldLink RX1 23 "GateWheel$Lexer" "next" "I") (List.mem_of_getElem? (i := 1) rfl)) (fun _ h9 => h9) rfl (by decide +kernel) rfl rfl (Nat.le_of_ble_eq_true rfl) dX1_advance_125 (fun H39 locs hP hD hS => ?_)
            obtain ⟨s1_40, es1_40, h⟩ := zL_spec h
            have hP : va_P (dC, dI) vwCl ((cX1 a1 h1 (.ref atx) y s1_40) ++ ([(atx, .inl (y 2, 2000, .inl ft))])) H39 := by rw [es1_40]; exact hP
            have hD : va_D A ((cX1 a1 h1 (.ref atx) y s1_40) ++ ([(atx, .inl (y 2, 2000, .inl ft))])) := by rw [es1_40]; exact hD
            have ho0 : s1_40 = o_1 := congrArg (fun z : SS => z) (Option.some.inj h)
            exact W.vret hx hb hr (fun t ht hW => ⟨⟨(), rfl, trivial, by rw [ht]; rw [← ho0]; exact hP, va_K.moved hW.alike hK, by rw [← ho0]; exact hD⟩, hS.F ht⟩) hS.2.2 dX1_advance_128
          refine (eG31 _ _ _ _ _).mpr ?_
          have h := hr34
          refine lv_if_eq (tgt := 114) hx hb dX1_advance_107 (by decide) (fun c41 => ?_) (fun c41 => ?_)
          · have h := zY c41 h
            refine lv_iconst (v := 0) hx hb dX1_advance_114 (by decide) ?_
            exact (eG31 _ _ _ _ _).mp (jn32 (0 : Int32) _ _ _ (Option.some.inj h) hP hD hS (lv_sub hl [1] rfl))
          · have h := zN c41 h
            refine lv_iload_n hx hb dX1_advance_110 rfl (lv_at hl 0 rfl) ?_
            refine lv_goto (tgt := 115) hx hb dX1_advance_111 (by decide) ?_
            exact (eG31 _ _ _ _ _).mp (jn32 v15 _ _ _ (Option.some.inj h) hP hD hS (lv_sub hl [1] rfl))
        · have h := zN c25 h
          refine lv_aload_n hx hb dX1_advance_95 rfl (lv_at hl 1 rfl) ?_
          obtain ⟨s1_42, hc43, h⟩ := zB_spec h
          have hFc := zFree hD hS hA
          refine va_callv (va_runV (As := []) (rest := []) ⟨hx, hb, hml, hown, hts⟩ (m_X1_takeDigit l dC dI y a1 h1 s1_12 atx ft H23.size s1_42 hc43) (cwV 0 hts gX1_advance_X1_takeDigit rfl rfl rfl (by decide +kernel) ⟨Nat.le_of_ble_eq_true rfl, Nat.le_of_ble_eq_true rfl⟩) ⟨fun a U g mk q => by obtain ⟨q0, q1, qP, qK, qD⟩ := q; exact ⟨q0, q1, qP, va_K.moved (u := U) (U := U.calling g mk a) (Vm.Alike.refl U.vm) qK, qD⟩, va_recv hK hP (ci := 1) (q0 := 0) rfl rfl, fun U hU hW => ⟨rfl, by rw [hU], by rw [hU]; exact hP, va_K.moved hW.alike hK, hD.weaken (fun _ _ _ _ => trivial)⟩⟩ rfl rfl hl.1 rfl (lv_room (Nat.le_of_ble_eq_true rfl)) dX1_advance_96 ⟨Nat.le_of_ble_eq_true rfl, Nat.le_of_ble_eq_true rfl⟩) hS (fun q _ h => hFc q h) hFc (fun u t H44 locs ht hvm hw hB hz1 hk1 hS => ?_)
          obtain ⟨hP1, hK1, hD1⟩ := hB
          rw [ht] at hP1
          have hP := hP1
          have hD := hD1.weaken (fun _ q _ h => hFc q.1 h)
          have hP : va_P (dC, dI) vwCl ((cX1 a1 h1 (.ref atx) y s1_42) ++ ([(atx, .inl (y 2, 2000, .inl ft))])) H44 := hP
          have hD : va_D A ((cX1 a1 h1 (.ref atx) y s1_42) ++ ([(atx, .inl (y 2, 2000, .inl ft))])) := hD
          refine lv_goto (tgt := 128) hx hb dX1_advance_99 (by decide) ?_
          have ho0 : s1_42 = o_1 := congrArg (fun z : SS => z) (Option.some.inj h)
          exact W.vret hx hb hr (fun t ht hW => ⟨⟨(), rfl, trivial, by rw [ht]; rw [← ho0]; exact hP, va_K.moved hW.alike hK, by rw [← ho0]; exact hD⟩, hS.F ht⟩) hS.2.2 dX1_advance_128
      · have h := zN c20 h
        refine lv_aload_n hx hb dX1_advance_81 rfl (lv_at hl 1 rfl) ?_
        obtain ⟨s1_46, hc47, h⟩ := zB_spec h
        have hFc := zFree hD hS hA
        refine va_callv (va_runV (As := []) (rest := []) ⟨hx, hb, hml, hown, hts⟩ (m_X1_takeWord l dC dI y a1 h1 s1_12 atx ft H18.size s1_46 hc47) (cwV 0 hts gX1_advance_X1_takeWord rfl rfl rfl (by decide +kernel) ⟨Nat.le_of_ble_eq_true rfl, Nat.le_of_ble_eq_true rfl⟩) ⟨fun a U g mk q => by obtain ⟨q0, q1, qP, qK, qD⟩ := q; exact ⟨q0, q1, qP, va_K.moved (u := U) (U := U.calling g mk a) (Vm.Alike.refl U.vm) qK, qD⟩, va_recv hK hP (ci := 1) (q0 := 0) rfl rfl, fun U hU hW => ⟨rfl, by rw [hU], by rw [hU]; exact hP, va_K.moved hW.alike hK, hD.weaken (fun _ _ _ _ => trivial)⟩⟩ rfl rfl hl.1 rfl (lv_room (Nat.le_of_ble_eq_true rfl)) dX1_advance_82 ⟨Nat.le_of_ble_eq_true rfl, Nat.le_of_ble_eq_true rfl⟩) hS (fun q _ h => hFc q h) hFc (fun u t H48 locs ht hvm hw hB hz1 hk1 hS => ?_)
        obtain ⟨hP1, hK1, hD1⟩ := hB
        rw [ht] at hP1
        have hP := hP1
        have hD := hD1.weaken (fun _ q _ h => hFc q.1 h)
        have hP : va_P (dC, dI) vwCl ((cX1 a1 h1 (.ref atx) y s1_46) ++ ([(atx, .inl (y 2, 2000, .inl ft))])) H48 := hP
        have hD : va_D A ((cX1 a1 h1 (.ref atx) y s1_46) ++ ([(atx, .inl (y 2, 2000, .inl ft))])) := hD
        refine lv_goto (tgt := 128) hx hb dX1_advance_85 (by decide) ?_
        have ho0 : s1_46 = o_1 := congrArg (fun z : SS => z) (Option.some.inj h)
        exact W.vret hx hb hr (fun t ht hW => ⟨⟨(), rfl, trivial, by rw [ht]; rw [← ho0]; exact hP, va_K.moved hW.alike hK, by rw [← ho0]; exact hD⟩, hS.F ht⟩) hS.2.2 dX1_advance_128
    · have h := zN c13 h
      refine lv_aload_n hx hb dX1_advance_58 rfl (lv_at hl 0 rfl) ?_
      refine lv_iconst (v := 1) hx hb dX1_advance_59 (by decide) ?_
      refine va_put (D := (dC, dI)) (ci := 1) (v := .int 1) (ty := .int) (C := RX1) (T := TX1) (N := 7) hx hb hts inX1_ tyX1 tyX1_ok nmX1 hown hK hP hD hS 0 rfl rfl 3 (by decide) (hts (.fieldLink RX1 33 "GateWheel$Lexer" "kind" "I") (List.mem_of_getElem? (i := 5) rfl)) (fun _ h9 => h9) rfl (by decide +kernel) rfl rfl (Nat.le_of_ble_eq_true rfl) dX1_advance_60 (fun H50 locs hP hD hS => ?_)
      obtain ⟨s1_51, es1_51, h⟩ := zL_spec h
      have hP : va_P (dC, dI) vwCl ((cX1 a1 h1 (.ref atx) y s1_51) ++ ([(atx, .inl (y 2, 2000, .inl ft))])) H50 := by rw [es1_51]; exact hP
      have hD : va_D A ((cX1 a1 h1 (.ref atx) y s1_51) ++ ([(atx, .inl (y 2, 2000, .inl ft))])) := by rw [es1_51]; exact hD
      have ho0 : s1_51 = o_1 := congrArg (fun z : SS => z) (Option.some.inj h)
      exact W.vret hx hb hr (fun t ht hW => ⟨⟨(), rfl, trivial, by rw [ht]; rw [← ho0]; exact hP, va_K.moved hW.alike hK, by rw [← ho0]; exact hD⟩, hS.F ht⟩) hS.2.2 dX1_advance_63
  have lp4 : ∀ (n : Nat) (s1_52 : SS) (HGW1 : Heap) (locs : List Loc) (ls : Array Slot), zI (b_X1_advance_0 ft) n s1_52 = some ov5 → va_P (dC, dI) vwCl ((cX1 a1 h1 (.ref atx) y s1_52) ++ ([(atx, .inl (y 2, 2000, .inl ft))])) HGW1 → va_D A ((cX1 a1 h1 (.ref atx) y s1_52) ++ ([(atx, .inl (y 2, 2000, .inl ft))])) → va_S A s.heap HGW1 locs → lv_has ls 2 [(0, .ref a1)] → GW1 HGW1 locs 0 0 (F0 m 0 ls []) := by
    intro n
    induction n with
    | zero =>
      intro s1_52 HGW1 locs ls hi6 hP hD hS hl
      exact (zI_0 hi6).elim
    | succ n ihlp4 =>
      intro s1_52 HGW1 locs ls hi6 hP hD hS hl
      refine (eG2 _ _ _ _ _).mpr ?_
      obtain ⟨xx9, h, hx8⟩ := zI_spec hi6
      refine lv_aload_n hx hb dX1_advance_0 rfl (lv_at hl 0 rfl) ?_
      refine va_get (D := (dC, dI)) (ci := 1) (v := .int (gI s1_52 2)) (C := RX1) (T := TX1) (N := 7) hx hb hts inX1_ hown hK hP 0 rfl rfl 2 (by decide) (hts (.fieldLink RX1 23 "GateWheel$Lexer" "next" "I") (List.mem_of_getElem? (i := 1) rfl)) (fun _ h9 => h9) rfl dX1_advance_1 ?_
      refine lv_aload_n hx hb dX1_advance_4 rfl (lv_at hl 0 rfl) ?_
      refine va_get (D := (dC, dI)) (ci := 1) (v := .int (gI s1_52 1)) (C := RX1) (T := TX1) (N := 7) hx hb hts inX1_ hown hK hP 0 rfl rfl 1 (by decide) (hts (.fieldLink RX1 19 "GateWheel$Lexer" "length" "I") (List.mem_of_getElem? (i := 2) rfl)) (fun _ h9 => h9) rfl dX1_advance_5 ?_
      refine lv_icmp_ge (tgt := 39) hx hb dX1_advance_8 (by decide) (fun c53 => ?_) (fun c53 => ?_)
      · have h := zY c53 h
        exact (eG2 _ _ _ _ _).mp (je3 s1_52 _ _ _ (zI_r h hx8) hP hD hS (lv_sub hl [0] rfl))
      · have h := zN c53 h
        refine lv_aload_n hx hb dX1_advance_11 rfl (lv_at hl 0 rfl) ?_
        refine va_get (D := (dC, dI)) (ci := 1) (v := .ref atx) (C := RX1) (T := TX1) (N := 7) hx hb hts inX1_ hown hK hP 0 rfl rfl 0 (by decide) (hts (.fieldLink RX1 7 "GateWheel$Lexer" "text" "[B") (List.mem_of_getElem? (i := 3) rfl)) (fun _ h9 => h9) rfl dX1_advance_12 ?_
        refine lv_aload_n hx hb dX1_advance_15 rfl (lv_at hl 0 rfl) ?_
        refine va_get (D := (dC, dI)) (ci := 1) (v := .int (gI s1_52 2)) (C := RX1) (T := TX1) (N := 7) hx hb hts inX1_ hown hK hP 0 rfl rfl 2 (by decide) (hts (.fieldLink RX1 23 "GateWheel$Lexer" "next" "I") (List.mem_of_getElem? (i := 1) rfl)) (fun _ h9 => h9) rfl dX1_advance_16 ?_
        obtain ⟨hi54, h⟩ := zG_spec h
        refine va_bald hx hb hK hP 1 2 rfl rfl hi54 dX1_advance_19 ?_
        obtain ⟨r55, hc56, h⟩ := zB_spec h
        have hPc := hP.sub (ws' := []) [] rfl
        have hDc := hD.sub (ws' := []) [] (by decide) rfl
        have hFc := va_free (wc := []) hD hS hA [] rfl
        refine va_calli (va_runS (As := [.int (ft (gI s1_52 2).toNatClampNeg)]) (rest := []) ⟨hx, hb, hml, hown, hts⟩ (m_X1_isBlank l dC dI y (ft (gI s1_52 2).toNatClampNeg) HGW1.size r55 hc56) (va_cwS 1 hts gX1_advance_X1_isBlank rfl rfl rfl (by decide +kernel) ⟨Nat.le_of_ble_eq_true rfl, Nat.le_of_ble_eq_true rfl⟩) ⟨fun a U g mk q => by obtain ⟨q0, q1, qP, qK, qD⟩ := q; exact ⟨q0, q1, qP, va_K.moved (u := U) (U := U.calling g mk a) (Vm.Alike.refl U.vm) qK, qD⟩, fun U hU hW => ⟨rfl, by rw [hU], by rw [hU]; exact hPc, va_K.moved hW.alike hK, hDc.weaken (fun _ _ _ _ => trivial)⟩⟩ rfl rfl hl.1 rfl (lv_room (Nat.le_of_ble_eq_true rfl)) dX1_advance_20 ⟨Nat.le_of_ble_eq_true rfl, Nat.le_of_ble_eq_true rfl⟩) hS (fun q _ h => hFc q h) hFc (fun rr58 u t H57 locs ht hvm hw hB hz1 hk1 hS => ?_)
        obtain ⟨hP1, hK1, hD1⟩ := hB
        rw [ht] at hP1
        refine zTopi hw.symm ?_
        obtain ⟨hP, hD⟩ := va_join (wr := [(oX1 a1 h1 (.ref atx) s1_52), (atx, .inl (y 2, 2000, .inl ft))]) (w1 := []) hP hD [] [0, 1] rfl rfl (by decide) (by decide) hk1 hFc hP1 hD1
        have hP : va_P (dC, dI) vwCl ((cX1 a1 h1 (.ref atx) y s1_52) ++ ([(atx, .inl (y 2, 2000, .inl ft))])) H57 := hP.sub [0, 1] rfl
        have hD : va_D A ((cX1 a1 h1 (.ref atx) y s1_52) ++ ([(atx, .inl (y 2, 2000, .inl ft))])) := hD.sub [0, 1] (by decide) rfl
        refine lv_if_eq (tgt := 39) hx hb dX1_advance_23 (by decide) (fun c59 => ?_) (fun c59 => ?_)
        · have h := zY c59 h
          exact (eG2 _ _ _ _ _).mp (je3 s1_52 _ _ _ (zI_r h hx8) hP hD hS (lv_sub hl [0] rfl))
        · have h := zN c59 h
          refine lv_aload_n hx hb dX1_advance_26 rfl (lv_at hl 0 rfl) ?_
          refine lv_dup hx hb dX1_advance_27 rfl ?_
          refine va_get (D := (dC, dI)) (ci := 1) (v := .int (gI s1_52 2)) (C := RX1) (T := TX1) (N := 7) hx hb hts inX1_ hown hK hP 0 rfl rfl 2 (by decide) (hts (.fieldLink RX1 23 "GateWheel$Lexer" "next" "I") (List.mem_of_getElem? (i := 1) rfl)) (fun _ h9 => h9) rfl dX1_advance_28 ?_
          refine lv_iconst (v := 1) hx hb dX1_advance_31 (by decide) ?_
          refine lv_iadd hx hb dX1_advance_32 ?_
          refine va_put (D := (dC, dI)) (ci := 1) (v := .int ((gI s1_52 2) + (1 : Int32))) (ty := .int) (C := RX1) (T := TX1) (N := 7) hx hb hts inX1_ tyX1 tyX1_ok nmX1 hown hK hP hD hS 0 rfl rfl 2 (by decide) (hts (.fieldLink RX1 23 "GateWheel$Lexer" "next" "I") (List.mem_of_getElem? (i := 1) rfl)) (fun _ h9 => h9) rfl (by decide +kernel) rfl rfl (Nat.le_of_ble_eq_true rfl) dX1_advance_33 (fun H60 locs hP hD hS => ?_)
          obtain ⟨s1_61, es1_61, h⟩ := zL_spec h
          have hP : va_P (dC, dI) vwCl ((cX1 a1 h1 (.ref atx) y s1_61) ++ ([(atx, .inl (y 2, 2000, .inl ft))])) H60 := by rw [es1_61]; exact hP
          have hD : va_D A ((cX1 a1 h1 (.ref atx) y s1_61) ++ ([(atx, .inl (y 2, 2000, .inl ft))])) := by rw [es1_61]; exact hD
          refine lv_goto (tgt := 0) hx hb dX1_advance_36 (by decide) ?_
          have h := zI_l h hx8
          exact (eG2 _ _ _ _ _).mp (ihlp4 s1_61 _ _ _ h hP hD hS (lv_sub hl [0] rfl))
  exact lp4 zF S1 _ _ _ hi6 hP hD hS (lv_sub hl [0] rfl)
