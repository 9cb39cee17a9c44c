set_option maxHeartbeats 4000000 in
set_option maxRecDepth 100000 in
theorem s_X1_isBlank (l : Launch) (dC : Nat → ClassId) (dI : Nat → Nat → Nat) (p1 : Int32) (sz : Nat) : Met l yX1_isBlank wsX1_isBlank ({ frames := 0, cells := 0, slots := 0, locals := 0 }) (va_Pc [.int p1] (fun U => U.heap.size = sz ∧ va_P (dC, dI) vwCl [] U.heap ∧ va_K (dC, dI) vwCl [] U ∧ va_D (fun _ => True) [])) (va_Qi (fun (r : Int32) (_ : Unit) => IV 0 1 r) (fun (_ : Unit) (t : State) => va_P (dC, dI) vwCl [] t.heap ∧ va_K (dC, dI) vwCl [] t ∧ va_D (va_A [] sz) []) (va_A [] sz)) 0 0 (va_A [] sz) := by
  refine Met.ofW (cc := cX1_isBlank) (maxL := 1) (ret := (some .boolean)) (by decide +kernel) rfl ?_
  intro p e s m args below meth c s₁ B hml hv
  obtain ⟨rfl, hsz, hP, hK, hD0⟩ := hv
  have hx := B.exec
  have hb := B.bytes
  have hr := B.returns
  have hts := atoms_spec (ws := wsX1_isBlank) B.pre
  have hown : s.vm.findClass RX1 = some m.cls := findClass_of_methodNamed B.named
  have hlocks := B.notSynchronized
  subst hsz
  have hD := hD0.self (sz := s.heap.size)
  generalize hAe : va_A [] s.heap.size = A at hD ⊢
  have hA : ∀ q : Nat, s.heap.size ≤ q → A q := fun q h => by rw [← hAe]; exact Or.inr h
  have hS : va_S A s.heap s.heap [] := va_S.rf
  have hP : va_P (dC, dI) vwCl [] s.heap := hP
  have hl := lv_entry ([.int p1]) (n := 1) (Nat.le_of_ble_eq_true rfl)
  rw [lg_entry_eq]
  generalize (lg_sl ([.int p1]) ++ List.replicate (1 - (lg_sl ([.int p1])).length) Slot.unset).toArray = ls at hl ⊢
  have hl : lv_has ls 1 [(0, .int p1)] := hl
  refine lv_iload_n hx hb dX1_isBlank_0 rfl (lv_at hl 0 rfl) ?_
  refine lv_bipush (v := 32) hx hb dX1_isBlank_1 (by decide) ?_
  refine lv_icmp_eq (tgt := 12) hx hb dX1_isBlank_3 (by decide) (fun cy1 => ?_) (fun cy1 => ?_)
  · have h_cy1 := cy1
    have by2 : IV 32 32 p1 := IV_eq_l cy1 (IV_top p1) (IV_mk (a := 32) (b := 32) (by decide) (by decide)) (by decide) (by decide)
    refine lv_iconst (v := 1) hx hb dX1_isBlank_12 (by decide) ?_
    refine lv_goto (tgt := 17) hx hb dX1_isBlank_13 (by decide) ?_
    exact W.zret (v := 1) hx hb hr (by decide) (fun t ht hW => ⟨⟨1, (), rfl, (IV_mk (by decide) (by decide)), by rw [ht]; exact hP, va_K.moved hW.alike hK, hD⟩, hS.F ht⟩) hS.2.2 dX1_isBlank_17
  · have h_cy1 := cy1
    refine lv_iload_n hx hb dX1_isBlank_6 rfl (lv_at hl 0 rfl) ?_
    refine lv_bipush (v := 10) hx hb dX1_isBlank_7 (by decide) ?_
    refine lv_icmp_ne (tgt := 16) hx hb dX1_isBlank_9 (by decide) (fun cy3 => ?_) (fun cy3 => ?_)
    · have h_cy3 := cy3
      refine lv_iconst (v := 0) hx hb dX1_isBlank_16 (by decide) ?_
      exact W.zret (v := 0) hx hb hr (by decide) (fun t ht hW => ⟨⟨0, (), rfl, (IV_mk (by decide) (by decide)), by rw [ht]; exact hP, va_K.moved hW.alike hK, hD⟩, hS.F ht⟩) hS.2.2 dX1_isBlank_17
    · have h_cy3 := cy3
      have by4 : IV 10 10 p1 := IV_eq_l cy3 (IV_top p1) (IV_mk (a := 10) (b := 10) (by decide) (by decide)) (by decide) (by decide)
      refine lv_iconst (v := 1) hx hb dX1_isBlank_12 (by decide) ?_
      refine lv_goto (tgt := 17) hx hb dX1_isBlank_13 (by decide) ?_
      exact W.zret (v := 1) hx hb hr (by decide) (fun t ht hW => ⟨⟨1, (), rfl, (IV_mk (by decide) (by decide)), by rw [ht]; exact hP, va_K.moved hW.alike hK, hD⟩, hS.F ht⟩) hS.2.2 dX1_isBlank_17

set_option maxHeartbeats 4000000 in
set_option maxRecDepth 100000 in
theorem s_X1_isLetter (l : Launch) (dC : Nat → ClassId) (dI : Nat → Nat → Nat) (p1 : Int32) (sz : Nat) : Met l yX1_isLetter wsX1_isLetter ({ frames := 0, cells := 0, slots := 0, locals := 0 }) (va_Pc [.int p1] (fun U => U.heap.size = sz ∧ va_P (dC, dI) vwCl [] U.heap ∧ va_K (dC, dI) vwCl [] U ∧ va_D (fun _ => True) [])) (va_Qi (fun (r : Int32) (_ : Unit) => IV 0 1 r) (fun (_ : Unit) (t : State) => va_P (dC, dI) vwCl [] t.heap ∧ va_K (dC, dI) vwCl [] t ∧ va_D (va_A [] sz) []) (va_A [] sz)) 0 0 (va_A [] sz) := by
  refine Met.ofW (cc := cX1_isLetter) (maxL := 1) (ret := (some .boolean)) (by decide +kernel) rfl ?_
  intro p e s m args below meth c s₁ B hml hv
  obtain ⟨rfl, hsz, hP, hK, hD0⟩ := hv
  have hx := B.exec
  have hb := B.bytes
  have hr := B.returns
  have hts := atoms_spec (ws := wsX1_isLetter) B.pre
  have hown : s.vm.findClass RX1 = some m.cls := findClass_of_methodNamed B.named
  have hlocks := B.notSynchronized
  subst hsz
  have hD := hD0.self (sz := s.heap.size)
  generalize hAe : va_A [] s.heap.size = A at hD ⊢
  have hA : ∀ q : Nat, s.heap.size ≤ q → A q := fun q h => by rw [← hAe]; exact Or.inr h
  have hS : va_S A s.heap s.heap [] := va_S.rf
  have hP : va_P (dC, dI) vwCl [] s.heap := hP
  have hl := lv_entry ([.int p1]) (n := 1) (Nat.le_of_ble_eq_true rfl)
  rw [lg_entry_eq]
  generalize (lg_sl ([.int p1]) ++ List.replicate (1 - (lg_sl ([.int p1])).length) Slot.unset).toArray = ls at hl ⊢
  have hl : lv_has ls 1 [(0, .int p1)] := hl
  refine lv_iload_n hx hb dX1_isLetter_0 rfl (lv_at hl 0 rfl) ?_
  refine lv_bipush (v := 97) hx hb dX1_isLetter_1 (by decide) ?_
  refine lv_icmp_lt (tgt := 16) hx hb dX1_isLetter_3 (by decide) (fun cy1 => ?_) (fun cy1 => ?_)
  · have h_cy1 := cy1
    have by2 : IV (-2147483648) 96 p1 := IV_lt_l cy1 (IV_top p1) (IV_mk (a := 97) (b := 97) (by decide) (by decide)) (by decide) (by decide)
    refine lv_iconst (v := 0) hx hb dX1_isLetter_16 (by decide) ?_
    exact W.zret (v := 0) hx hb hr (by decide) (fun t ht hW => ⟨⟨0, (), rfl, (IV_mk (by decide) (by decide)), by rw [ht]; exact hP, va_K.moved hW.alike hK, hD⟩, hS.F ht⟩) hS.2.2 dX1_isLetter_17
  · have h_cy1 := cy1
    have by3 : IV 97 2147483647 p1 := IV_nlt_l cy1 (IV_top p1) (IV_mk (a := 97) (b := 97) (by decide) (by decide)) (by decide) (by decide)
    refine lv_iload_n hx hb dX1_isLetter_6 rfl (lv_at hl 0 rfl) ?_
    refine lv_bipush (v := 122) hx hb dX1_isLetter_7 (by decide) ?_
    refine lv_icmp_gt (tgt := 16) hx hb dX1_isLetter_9 (by decide) (fun cy4 => ?_) (fun cy4 => ?_)
    · have h_cy4 := cy4
      have by5 : IV 123 2147483647 p1 := IV_lt_r cy4 (IV_mk (a := 122) (b := 122) (by decide) (by decide)) by3 (by decide) (by decide)
      refine lv_iconst (v := 0) hx hb dX1_isLetter_16 (by decide) ?_
      exact W.zret (v := 0) hx hb hr (by decide) (fun t ht hW => ⟨⟨0, (), rfl, (IV_mk (by decide) (by decide)), by rw [ht]; exact hP, va_K.moved hW.alike hK, hD⟩, hS.F ht⟩) hS.2.2 dX1_isLetter_17
    · have h_cy4 := cy4
      have by6 : IV 97 122 p1 := IV_nlt_r cy4 (IV_mk (a := 122) (b := 122) (by decide) (by decide)) by3 (by decide) (by decide)
      refine lv_iconst (v := 1) hx hb dX1_isLetter_12 (by decide) ?_
      refine lv_goto (tgt := 17) hx hb dX1_isLetter_13 (by decide) ?_
      exact W.zret (v := 1) hx hb hr (by decide) (fun t ht hW => ⟨⟨1, (), rfl, (IV_mk (by decide) (by decide)), by rw [ht]; exact hP, va_K.moved hW.alike hK, hD⟩, hS.F ht⟩) hS.2.2 dX1_isLetter_17

set_option maxHeartbeats 4000000 in
set_option maxRecDepth 100000 in
theorem s_X1_isDigit (l : Launch) (dC : Nat → ClassId) (dI : Nat → Nat → Nat) (p1 : Int32) (sz : Nat) : Met l yX1_isDigit wsX1_isDigit ({ frames := 0, cells := 0, slots := 0, locals := 0 }) (va_Pc [.int p1] (fun U => U.heap.size = sz ∧ va_P (dC, dI) vwCl [] U.heap ∧ va_K (dC, dI) vwCl [] U ∧ va_D (fun _ => True) [])) (va_Qi (fun (r : Int32) (_ : Unit) => IV 0 1 r) (fun (_ : Unit) (t : State) => va_P (dC, dI) vwCl [] t.heap ∧ va_K (dC, dI) vwCl [] t ∧ va_D (va_A [] sz) []) (va_A [] sz)) 0 0 (va_A [] sz) := by
  refine Met.ofW (cc := cX1_isDigit) (maxL := 1) (ret := (some .boolean)) (by decide +kernel) rfl ?_
  intro p e s m args below meth c s₁ B hml hv
  obtain ⟨rfl, hsz, hP, hK, hD0⟩ := hv
  have hx := B.exec
  have hb := B.bytes
  have hr := B.returns
  have hts := atoms_spec (ws := wsX1_isDigit) B.pre
  have hown : s.vm.findClass RX1 = some m.cls := findClass_of_methodNamed B.named
  have hlocks := B.notSynchronized
  subst hsz
  have hD := hD0.self (sz := s.heap.size)
  generalize hAe : va_A [] s.heap.size = A at hD ⊢
  have hA : ∀ q : Nat, s.heap.size ≤ q → A q := fun q h => by rw [← hAe]; exact Or.inr h
  have hS : va_S A s.heap s.heap [] := va_S.rf
  have hP : va_P (dC, dI) vwCl [] s.heap := hP
  have hl := lv_entry ([.int p1]) (n := 1) (Nat.le_of_ble_eq_true rfl)
  rw [lg_entry_eq]
  generalize (lg_sl ([.int p1]) ++ List.replicate (1 - (lg_sl ([.int p1])).length) Slot.unset).toArray = ls at hl ⊢
  have hl : lv_has ls 1 [(0, .int p1)] := hl
  refine lv_iload_n hx hb dX1_isDigit_0 rfl (lv_at hl 0 rfl) ?_
  refine lv_bipush (v := 48) hx hb dX1_isDigit_1 (by decide) ?_
  refine lv_icmp_lt (tgt := 16) hx hb dX1_isDigit_3 (by decide) (fun cy1 => ?_) (fun cy1 => ?_)
  · have h_cy1 := cy1
    have by2 : IV (-2147483648) 47 p1 := IV_lt_l cy1 (IV_top p1) (IV_mk (a := 48) (b := 48) (by decide) (by decide)) (by decide) (by decide)
    refine lv_iconst (v := 0) hx hb dX1_isDigit_16 (by decide) ?_
    exact W.zret (v := 0) hx hb hr (by decide) (fun t ht hW => ⟨⟨0, (), rfl, (IV_mk (by decide) (by decide)), by rw [ht]; exact hP, va_K.moved hW.alike hK, hD⟩, hS.F ht⟩) hS.2.2 dX1_isDigit_17
  · have h_cy1 := cy1
    have by3 : IV 48 2147483647 p1 := IV_nlt_l cy1 (IV_top p1) (IV_mk (a := 48) (b := 48) (by decide) (by decide)) (by decide) (by decide)
    refine lv_iload_n hx hb dX1_isDigit_6 rfl (lv_at hl 0 rfl) ?_
    refine lv_bipush (v := 57) hx hb dX1_isDigit_7 (by decide) ?_
    refine lv_icmp_gt (tgt := 16) hx hb dX1_isDigit_9 (by decide) (fun cy4 => ?_) (fun cy4 => ?_)
    · have h_cy4 := cy4
      have by5 : IV 58 2147483647 p1 := IV_lt_r cy4 (IV_mk (a := 57) (b := 57) (by decide) (by decide)) by3 (by decide) (by decide)
      refine lv_iconst (v := 0) hx hb dX1_isDigit_16 (by decide) ?_
      exact W.zret (v := 0) hx hb hr (by decide) (fun t ht hW => ⟨⟨0, (), rfl, (IV_mk (by decide) (by decide)), by rw [ht]; exact hP, va_K.moved hW.alike hK, hD⟩, hS.F ht⟩) hS.2.2 dX1_isDigit_17
    · have h_cy4 := cy4
      have by6 : IV 48 57 p1 := IV_nlt_r cy4 (IV_mk (a := 57) (b := 57) (by decide) (by decide)) by3 (by decide) (by decide)
      refine lv_iconst (v := 1) hx hb dX1_isDigit_12 (by decide) ?_
      refine lv_goto (tgt := 17) hx hb dX1_isDigit_13 (by decide) ?_
      exact W.zret (v := 1) hx hb hr (by decide) (fun t ht hW => ⟨⟨1, (), rfl, (IV_mk (by decide) (by decide)), by rw [ht]; exact hP, va_K.moved hW.alike hK, hD⟩, hS.F ht⟩) hS.2.2 dX1_isDigit_17

set_option maxHeartbeats 4000000 in
set_option maxRecDepth 100000 in
theorem s_X1_isLetterOrDigit (l : Launch) (dC : Nat → ClassId) (dI : Nat → Nat → Nat) (p1 : Int32) (sz : Nat) : Met l yX1_isLetterOrDigit wsX1_isLetterOrDigit ({ frames := 1, cells := 0, slots := 0, locals := 20 }) (va_Pc [.int p1] (fun U => U.heap.size = sz ∧ va_P (dC, dI) vwCl [] U.heap ∧ va_K (dC, dI) vwCl [] U ∧ va_D (fun _ => True) [])) (va_Qi (fun (r : Int32) (_ : Unit) => IV 0 1 r) (fun (_ : Unit) (t : State) => va_P (dC, dI) vwCl [] t.heap ∧ va_K (dC, dI) vwCl [] t ∧ va_D (va_A [] sz) []) (va_A [] sz)) 0 0 (va_A [] sz) := by
  refine Met.ofW (cc := cX1_isLetterOrDigit) (maxL := 1) (ret := (some .boolean)) (by decide +kernel) rfl ?_
  intro p e s m args below meth c s₁ B hml hv
  obtain ⟨rfl, hsz, hP, hK, hD0⟩ := hv
  have hx := B.exec
  have hb := B.bytes
  have hr := B.returns
  have hts := atoms_spec (ws := wsX1_isLetterOrDigit) B.pre
  have hown : s.vm.findClass RX1 = some m.cls := findClass_of_methodNamed B.named
  have hlocks := B.notSynchronized
  subst hsz
  have hD := hD0.self (sz := s.heap.size)
  generalize hAe : va_A [] s.heap.size = A at hD ⊢
  have hA : ∀ q : Nat, s.heap.size ≤ q → A q := fun q h => by rw [← hAe]; exact Or.inr h
  have hS : va_S A s.heap s.heap [] := va_S.rf
  have hP : va_P (dC, dI) vwCl [] s.heap := hP
  have hl := lv_entry ([.int p1]) (n := 1) (Nat.le_of_ble_eq_true rfl)
  rw [lg_entry_eq]
  generalize (lg_sl ([.int p1]) ++ List.replicate (1 - (lg_sl ([.int p1])).length) Slot.unset).toArray = ls at hl ⊢
  have hl : lv_has ls 1 [(0, .int p1)] := hl
  refine lv_iload_n hx hb dX1_isLetterOrDigit_0 rfl (lv_at hl 0 rfl) ?_
  have hPc := hP.sub (ws' := []) [] rfl
  have hDc := hD.sub (ws' := []) [] (by decide) rfl
  have hKc := hK.sub (tys' := []) [] rfl
  have hFc := va_free (wc := []) hD hS hA [] rfl
  refine va_calli (va_runS (As := [.int p1]) (rest := []) ⟨hx, hb, hml, hown, hts⟩ (s_X1_isLetter l dC dI p1 s.heap.size) (va_cwS 1 hts gX1_isLetterOrDigit_X1_isLetter rfl rfl rfl (by decide +kernel) ⟨Nat.le_of_ble_eq_true rfl, Nat.le_of_ble_eq_true rfl⟩) ⟨fun a U g mk q => by obtain ⟨q0, q1, qP, qK, qD⟩ := q; exact ⟨q0, q1, qP, va_K.moved (u := U) (U := U.calling g mk a) (Vm.Alike.refl U.vm) qK, qD⟩, fun U hU hW => ⟨rfl, by rw [hU], by rw [hU]; exact hPc, va_K.moved hW.alike hKc, hDc.weaken (fun _ _ _ _ => trivial)⟩⟩ rfl rfl hl.1 rfl (lv_room (Nat.le_of_ble_eq_true rfl)) dX1_isLetterOrDigit_1 ⟨Nat.le_of_ble_eq_true rfl, Nat.le_of_ble_eq_true rfl⟩) hS (fun q _ h => hFc q h) hFc (fun ry2 u t Hy1 locs ht hvm hw hB hz1 hk1 hS => ?_)
  obtain ⟨hP1, hK1, hD1⟩ := hB
  rw [ht] at hP1
  obtain ⟨hP, hD⟩ := va_join (wr := []) (w1 := []) hP hD [] [] rfl rfl (by decide) (by decide) hk1 hFc hP1 hD1
  have hP : va_P (dC, dI) vwCl [] Hy1 := hP
  have hD : va_D A [] := hD
  have by3 : IV 0 1 ry2 := hw
  refine lv_if_ne (tgt := 14) hx hb dX1_isLetterOrDigit_4 (by decide) (fun cy4 => ?_) (fun cy4 => ?_)
  · have h_cy4 := cy4
    have by5 : IV 1 1 ry2 := IV_ne_lo cy4 by3 (IV_mk (a := 0) (b := 0) (by decide) (by decide)) (by decide) (by decide) (by decide)
    refine lv_iconst (v := 1) hx hb dX1_isLetterOrDigit_14 (by decide) ?_
    refine lv_goto (tgt := 19) hx hb dX1_isLetterOrDigit_15 (by decide) ?_
    exact W.zret (v := 1) hx hb hr (by decide) (fun t ht hW => ⟨⟨1, (), rfl, (IV_mk (by decide) (by decide)), by rw [ht]; exact hP, va_K.moved hW.alike hK, hD⟩, hS.F ht⟩) hS.2.2 dX1_isLetterOrDigit_19
  · have h_cy4 := cy4
    have by6 : IV 0 0 ry2 := IV_eq_l cy4 by3 (IV_mk (a := 0) (b := 0) (by decide) (by decide)) (by decide) (by decide)
    refine lv_iload_n hx hb dX1_isLetterOrDigit_7 rfl (lv_at hl 0 rfl) ?_
    have hPc := hP.sub (ws' := []) [] rfl
    have hDc := hD.sub (ws' := []) [] (by decide) rfl
    have hKc := hK.sub (tys' := []) [] rfl
    have hFc := va_free (wc := []) hD hS hA [] rfl
    refine va_calli (va_runS (As := [.int p1]) (rest := []) ⟨hx, hb, hml, hown, hts⟩ (s_X1_isDigit l dC dI p1 Hy1.size) (va_cwS 1 hts gX1_isLetterOrDigit_X1_isDigit rfl rfl rfl (by decide +kernel) ⟨Nat.le_of_ble_eq_true rfl, Nat.le_of_ble_eq_true rfl⟩) ⟨fun a U g mk q => by obtain ⟨q0, q1, qP, qK, qD⟩ := q; exact ⟨q0, q1, qP, va_K.moved (u := U) (U := U.calling g mk a) (Vm.Alike.refl U.vm) qK, qD⟩, fun U hU hW => ⟨rfl, by rw [hU], by rw [hU]; exact hPc, va_K.moved hW.alike hKc, hDc.weaken (fun _ _ _ _ => trivial)⟩⟩ rfl rfl hl.1 rfl (lv_room (Nat.le_of_ble_eq_true rfl)) dX1_isLetterOrDigit_8 ⟨Nat.le_of_ble_eq_true rfl, Nat.le_of_ble_eq_true rfl⟩) hS (fun q _ h => hFc q h) hFc (fun ry8 u t Hy7 locs ht hvm hw hB hz1 hk1 hS => ?_)
    obtain ⟨hP1, hK1, hD1⟩ := hB
    rw [ht] at hP1
    obtain ⟨hP, hD⟩ := va_join (wr := []) (w1 := []) hP hD [] [] rfl rfl (by decide) (by decide) hk1 hFc hP1 hD1
    have hP : va_P (dC, dI) vwCl [] Hy7 := hP
    have hD : va_D A [] := hD
    have by9 : IV 0 1 ry8 := hw
    refine lv_if_eq (tgt := 18) hx hb dX1_isLetterOrDigit_11 (by decide) (fun cy10 => ?_) (fun cy10 => ?_)
    · have h_cy10 := cy10
      have by11 : IV 0 0 ry8 := IV_eq_l cy10 by9 (IV_mk (a := 0) (b := 0) (by decide) (by decide)) (by decide) (by decide)
      refine lv_iconst (v := 0) hx hb dX1_isLetterOrDigit_18 (by decide) ?_
      exact W.zret (v := 0) hx hb hr (by decide) (fun t ht hW => ⟨⟨0, (), rfl, (IV_mk (by decide) (by decide)), by rw [ht]; exact hP, va_K.moved hW.alike hK, hD⟩, hS.F ht⟩) hS.2.2 dX1_isLetterOrDigit_19
    · have h_cy10 := cy10
      have by12 : IV 1 1 ry8 := IV_ne_lo cy10 by9 (IV_mk (a := 0) (b := 0) (by decide) (by decide)) (by decide) (by decide) (by decide)
      refine lv_iconst (v := 1) hx hb dX1_isLetterOrDigit_14 (by decide) ?_
      refine lv_goto (tgt := 19) hx hb dX1_isLetterOrDigit_15 (by decide) ?_
      exact W.zret (v := 1) hx hb hr (by decide) (fun t ht hW => ⟨⟨1, (), rfl, (IV_mk (by decide) (by decide)), by rw [ht]; exact hP, va_K.moved hW.alike hK, hD⟩, hS.F ht⟩) hS.2.2 dX1_isLetterOrDigit_19

set_option maxHeartbeats 4000000 in
set_option maxRecDepth 100000 in
theorem s_X1_isSign (l : Launch) (dC : Nat → ClassId) (dI : Nat → Nat → Nat) (p1 : Int32) (sz : Nat) : Met l yX1_isSign wsX1_isSign ({ frames := 0, cells := 0, slots := 0, locals := 0 }) (va_Pc [.int p1] (fun U => U.heap.size = sz ∧ va_P (dC, dI) vwCl [] U.heap ∧ va_K (dC, dI) vwCl [] U ∧ va_D (fun _ => True) [])) (va_Qi (fun (r : Int32) (_ : Unit) => IV 0 1 r) (fun (_ : Unit) (t : State) => va_P (dC, dI) vwCl [] t.heap ∧ va_K (dC, dI) vwCl [] t ∧ va_D (va_A [] sz) []) (va_A [] sz)) 0 0 (va_A [] sz) := by
  refine Met.ofW (cc := cX1_isSign) (maxL := 1) (ret := (some .boolean)) (by decide +kernel) rfl ?_
  intro p e s m args below meth c s₁ B hml hv
  obtain ⟨rfl, hsz, hP, hK, hD0⟩ := hv
  have hx := B.exec
  have hb := B.bytes
  have hr := B.returns
  have hts := atoms_spec (ws := wsX1_isSign) B.pre
  have hown : s.vm.findClass RX1 = some m.cls := findClass_of_methodNamed B.named
  have hlocks := B.notSynchronized
  subst hsz
  have hD := hD0.self (sz := s.heap.size)
  generalize hAe : va_A [] s.heap.size = A at hD ⊢
  have hA : ∀ q : Nat, s.heap.size ≤ q → A q := fun q h => by rw [← hAe]; exact Or.inr h
  have hS : va_S A s.heap s.heap [] := va_S.rf
  have hP : va_P (dC, dI) vwCl [] s.heap := hP
  have hl := lv_entry ([.int p1]) (n := 1) (Nat.le_of_ble_eq_true rfl)
  rw [lg_entry_eq]
  generalize (lg_sl ([.int p1]) ++ List.replicate (1 - (lg_sl ([.int p1])).length) Slot.unset).toArray = ls at hl ⊢
  have hl : lv_has ls 1 [(0, .int p1)] := hl
  refine lv_iload_n hx hb dX1_isSign_0 rfl (lv_at hl 0 rfl) ?_
  refine lv_bipush (v := 44) hx hb dX1_isSign_1 (by decide) ?_
  refine lv_icmp_eq (tgt := 36) hx hb dX1_isSign_3 (by decide) (fun cy1 => ?_) (fun cy1 => ?_)
  · have h_cy1 := cy1
    have by2 : IV 44 44 p1 := IV_eq_l cy1 (IV_top p1) (IV_mk (a := 44) (b := 44) (by decide) (by decide)) (by decide) (by decide)
    refine lv_iconst (v := 1) hx hb dX1_isSign_36 (by decide) ?_
    refine lv_goto (tgt := 41) hx hb dX1_isSign_37 (by decide) ?_
    exact W.zret (v := 1) hx hb hr (by decide) (fun t ht hW => ⟨⟨1, (), rfl, (IV_mk (by decide) (by decide)), by rw [ht]; exact hP, va_K.moved hW.alike hK, hD⟩, hS.F ht⟩) hS.2.2 dX1_isSign_41
  · have h_cy1 := cy1
    refine lv_iload_n hx hb dX1_isSign_6 rfl (lv_at hl 0 rfl) ?_
    refine lv_bipush (v := 59) hx hb dX1_isSign_7 (by decide) ?_
    refine lv_icmp_eq (tgt := 36) hx hb dX1_isSign_9 (by decide) (fun cy3 => ?_) (fun cy3 => ?_)
    · have h_cy3 := cy3
      have by4 : IV 59 59 p1 := IV_eq_l cy3 (IV_top p1) (IV_mk (a := 59) (b := 59) (by decide) (by decide)) (by decide) (by decide)
      refine lv_iconst (v := 1) hx hb dX1_isSign_36 (by decide) ?_
      refine lv_goto (tgt := 41) hx hb dX1_isSign_37 (by decide) ?_
      exact W.zret (v := 1) hx hb hr (by decide) (fun t ht hW => ⟨⟨1, (), rfl, (IV_mk (by decide) (by decide)), by rw [ht]; exact hP, va_K.moved hW.alike hK, hD⟩, hS.F ht⟩) hS.2.2 dX1_isSign_41
    · have h_cy3 := cy3
      refine lv_iload_n hx hb dX1_isSign_12 rfl (lv_at hl 0 rfl) ?_
      refine lv_bipush (v := 61) hx hb dX1_isSign_13 (by decide) ?_
      refine lv_icmp_eq (tgt := 36) hx hb dX1_isSign_15 (by decide) (fun cy5 => ?_) (fun cy5 => ?_)
      · have h_cy5 := cy5
        have by6 : IV 61 61 p1 := IV_eq_l cy5 (IV_top p1) (IV_mk (a := 61) (b := 61) (by decide) (by decide)) (by decide) (by decide)
        refine lv_iconst (v := 1) hx hb dX1_isSign_36 (by decide) ?_
        refine lv_goto (tgt := 41) hx hb dX1_isSign_37 (by decide) ?_
        exact W.zret (v := 1) hx hb hr (by decide) (fun t ht hW => ⟨⟨1, (), rfl, (IV_mk (by decide) (by decide)), by rw [ht]; exact hP, va_K.moved hW.alike hK, hD⟩, hS.F ht⟩) hS.2.2 dX1_isSign_41
      · have h_cy5 := cy5
        refine lv_iload_n hx hb dX1_isSign_18 rfl (lv_at hl 0 rfl) ?_
        refine lv_bipush (v := 40) hx hb dX1_isSign_19 (by decide) ?_
        refine lv_icmp_eq (tgt := 36) hx hb dX1_isSign_21 (by decide) (fun cy7 => ?_) (fun cy7 => ?_)
        · have h_cy7 := cy7
          have by8 : IV 40 40 p1 := IV_eq_l cy7 (IV_top p1) (IV_mk (a := 40) (b := 40) (by decide) (by decide)) (by decide) (by decide)
          refine lv_iconst (v := 1) hx hb dX1_isSign_36 (by decide) ?_
          refine lv_goto (tgt := 41) hx hb dX1_isSign_37 (by decide) ?_
          exact W.zret (v := 1) hx hb hr (by decide) (fun t ht hW => ⟨⟨1, (), rfl, (IV_mk (by decide) (by decide)), by rw [ht]; exact hP, va_K.moved hW.alike hK, hD⟩, hS.F ht⟩) hS.2.2 dX1_isSign_41
        · have h_cy7 := cy7
          refine lv_iload_n hx hb dX1_isSign_24 rfl (lv_at hl 0 rfl) ?_
          refine lv_bipush (v := 41) hx hb dX1_isSign_25 (by decide) ?_
          refine lv_icmp_eq (tgt := 36) hx hb dX1_isSign_27 (by decide) (fun cy9 => ?_) (fun cy9 => ?_)
          · have h_cy9 := cy9
            have by10 : IV 41 41 p1 := IV_eq_l cy9 (IV_top p1) (IV_mk (a := 41) (b := 41) (by decide) (by decide)) (by decide) (by decide)
            refine lv_iconst (v := 1) hx hb dX1_isSign_36 (by decide) ?_
            refine lv_goto (tgt := 41) hx hb dX1_isSign_37 (by decide) ?_
            exact W.zret (v := 1) hx hb hr (by decide) (fun t ht hW => ⟨⟨1, (), rfl, (IV_mk (by decide) (by decide)), by rw [ht]; exact hP, va_K.moved hW.alike hK, hD⟩, hS.F ht⟩) hS.2.2 dX1_isSign_41
          · have h_cy9 := cy9
            refine lv_iload_n hx hb dX1_isSign_30 rfl (lv_at hl 0 rfl) ?_
            refine lv_bipush (v := 60) hx hb dX1_isSign_31 (by decide) ?_
            refine lv_icmp_ne (tgt := 40) hx hb dX1_isSign_33 (by decide) (fun cy11 => ?_) (fun cy11 => ?_)
            · have h_cy11 := cy11
              refine lv_iconst (v := 0) hx hb dX1_isSign_40 (by decide) ?_
              exact W.zret (v := 0) hx hb hr (by decide) (fun t ht hW => ⟨⟨0, (), rfl, (IV_mk (by decide) (by decide)), by rw [ht]; exact hP, va_K.moved hW.alike hK, hD⟩, hS.F ht⟩) hS.2.2 dX1_isSign_41
            · have h_cy11 := cy11
              have by12 : IV 60 60 p1 := IV_eq_l cy11 (IV_top p1) (IV_mk (a := 60) (b := 60) (by decide) (by decide)) (by decide) (by decide)
              refine lv_iconst (v := 1) hx hb dX1_isSign_36 (by decide) ?_
              refine lv_goto (tgt := 41) hx hb dX1_isSign_37 (by decide) ?_
              exact W.zret (v := 1) hx hb hr (by decide) (fun t ht hW => ⟨⟨1, (), rfl, (IV_mk (by decide) (by decide)), by rw [ht]; exact hP, va_K.moved hW.alike hK, hD⟩, hS.F ht⟩) hS.2.2 dX1_isSign_41

set_option maxHeartbeats 4000000 in
set_option maxRecDepth 100000 in
theorem s_X1_begin (l : Launch) (dC : Nat → ClassId) (dI : Nat → Nat → Nat) (h0 : Nat) (a1 : Nat) (h0_0 : Value) (h0_1 : Int32) (h0_2 : Int32) (h0_3 : Int32) (h0_4 : Int32) (h0_5 : Int64) (h0_6 : Int32) (ya1 : ClassId) (fa1 : Nat → Int32) (p2 : Int32) (sz : Nat) (hy_h0_1 : IV 0 2000 h0_1) (hy_h0_2 : IV 0 2000 h0_2) (hy_h0_4 : IV 0 2000 h0_4) (hy_p2 : IV 0 2000 p2) : Met l yX1_begin wsX1_begin ({ frames := 1, cells := 0, slots := 0, locals := 14 }) (va_Pc [.ref h0, .ref a1, .int p2] (fun U => U.heap.size = sz ∧ va_P (dC, dI) vwCl [(h0, .inr (1, [h0_0, .int h0_1, .int h0_2, .int h0_3, .int h0_4, .long h0_5, .int h0_6])), (a1, .inl (ya1, 2000, .inl fa1))] U.heap ∧ va_K (dC, dI) vwCl [(ya1, .byte)] U ∧ va_D (fun _ => True) [(h0, .inr (1, [h0_0, .int h0_1, .int h0_2, .int h0_3, .int h0_4, .long h0_5, .int h0_6])), (a1, .inl (ya1, 2000, .inl fa1))])) (va_Qv (fun (_ : Unit) => True) (fun (_ : Unit) (t : State) => ∃ (my6 : Int32), IV 0 2000 my6 ∧ va_P (dC, dI) vwCl [(h0, .inr (1, [.ref a1, .int my6, .int 0, .int h0_3, .int h0_4, .long h0_5, .int h0_6])), (a1, .inl (ya1, 2000, .inl fa1))] t.heap ∧ va_K (dC, dI) vwCl [(ya1, .byte)] t ∧ va_D (va_A [(h0, .inr (1, [h0_0, .int h0_1, .int h0_2, .int h0_3, .int h0_4, .long h0_5, .int h0_6])), (a1, .inl (ya1, 2000, .inl fa1))] sz) [(h0, .inr (1, [.ref a1, .int my6, .int 0, .int h0_3, .int h0_4, .long h0_5, .int h0_6])), (a1, .inl (ya1, 2000, .inl fa1))]) (va_A [(h0, .inr (1, [h0_0, .int h0_1, .int h0_2, .int h0_3, .int h0_4, .long h0_5, .int h0_6])), (a1, .inl (ya1, 2000, .inl fa1))] sz)) 0 0 (va_A [(h0, .inr (1, [h0_0, .int h0_1, .int h0_2, .int h0_3, .int h0_4, .long h0_5, .int h0_6])), (a1, .inl (ya1, 2000, .inl fa1))] sz) := by
  refine Met.ofW (cc := cX1_begin) (maxL := 3) (ret := none) (by decide +kernel) rfl ?_
  intro p e s m args below meth c s₁ B hml hv
  obtain ⟨rfl, hsz, hP, hK, hD0⟩ := hv
  have hx := B.exec
  have hb := B.bytes
  have hr := B.returns
  have hts := atoms_spec (ws := wsX1_begin) B.pre
  have hown : s.vm.findClass RX1 = some m.cls := findClass_of_methodNamed B.named
  have hlocks := B.notSynchronized
  have inX1_ : ∀ w ∈ wsX10, w ∈ wsX1_begin := fun _ h => List.mem_cons_of_mem _ (List.mem_append_right _ h)
  subst hsz
  have hD := hD0.self (sz := s.heap.size)
  generalize hAe : va_A [(h0, .inr (1, [h0_0, .int h0_1, .int h0_2, .int h0_3, .int h0_4, .long h0_5, .int h0_6])), (a1, .inl (ya1, 2000, .inl fa1))] s.heap.size = A at hD ⊢
  have hA : ∀ q : Nat, s.heap.size ≤ q → A q := fun q h => by rw [← hAe]; exact Or.inr h
  have hS : va_S A s.heap s.heap [] := va_S.rf
  have hP : va_P (dC, dI) vwCl [(h0, .inr (1, [h0_0, .int h0_1, .int h0_2, .int h0_3, .int h0_4, .long h0_5, .int h0_6])), (a1, .inl (ya1, 2000, .inl fa1))] s.heap := hP
  have hl := lv_entry ([.ref h0, .ref a1, .int p2]) (n := 3) (Nat.le_of_ble_eq_true rfl)
  rw [lg_entry_eq]
  generalize (lg_sl ([.ref h0, .ref a1, .int p2]) ++ List.replicate (3 - (lg_sl ([.ref h0, .ref a1, .int p2])).length) Slot.unset).toArray = ls at hl ⊢
  have hl : lv_has ls 3 [(0, .ref h0), (1, .ref a1), (2, .int p2)] := hl
  refine lv_aload_n hx hb dX1_begin_0 rfl (lv_at hl 0 rfl) ?_
  refine lv_aload_n hx hb dX1_begin_1 rfl (lv_at hl 1 rfl) ?_
  refine va_put (D := (dC, dI)) (ci := 1) (v := .ref a1) (ty := (.array .byte)) (C := RX1) (T := TX1) (N := 7) hx hb hts inX1_ tyX1 tyX1_ok nmX1 hown hK hP hD hS 0 rfl rfl 0 (by decide) (hts (.fieldLink RX1 7 "GateWheel$Lexer" "text" "[B") (List.mem_of_getElem? (i := 1) rfl)) (fun _ h9 => h9) rfl (by decide +kernel) rfl rfl (Nat.le_of_ble_eq_true rfl) dX1_begin_2 (fun Hy1 locs hP hD hS => ?_)
  have hP : va_P (dC, dI) vwCl [(h0, .inr (1, [.ref a1, .int h0_1, .int h0_2, .int h0_3, .int h0_4, .long h0_5, .int h0_6])), (a1, .inl (ya1, 2000, .inl fa1))] Hy1 := hP
  have hD : va_D A [(h0, .inr (1, [.ref a1, .int h0_1, .int h0_2, .int h0_3, .int h0_4, .long h0_5, .int h0_6])), (a1, .inl (ya1, 2000, .inl fa1))] := hD
  refine lv_aload_n hx hb dX1_begin_5 rfl (lv_at hl 0 rfl) ?_
  refine lv_iload_n hx hb dX1_begin_6 rfl (lv_at hl 2 rfl) ?_
  refine lv_aload_n hx hb dX1_begin_7 rfl (lv_at hl 1 rfl) ?_
  refine va_alen (v := 2000) hx hb hK hP 1 0 rfl rfl rfl dX1_begin_8 ?_
  refine va_mmin hx hb (by rw [hml]; exact hl.1.symm) hown (hts (.methodLink RX1 13 Lib.Math.min.name) (List.mem_of_getElem? (i := 2) rfl)) (hts (.static Lib.Math.min.name) (List.mem_of_getElem? (i := 3) rfl)) (hts (.initialized "java/lang/Math") (List.mem_of_getElem? (i := 4) rfl)) (hts (.code Lib.Math.min.name Lib.Math.min.code 2 (some .int)) (List.mem_of_getElem? (i := 5) rfl)) (Nat.le_of_ble_eq_true rfl) (Nat.le_of_ble_eq_true rfl) (Nat.le_of_ble_eq_true rfl) (Nat.le_of_ble_eq_true rfl) dX1_begin_9 ?_
  refine lv_topi (fun zy2 ezy2 => ?_)
  have by3 : IV 0 2000 zy2 := IV_min ezy2 hy_p2 (IV_mk (a := 2000) (b := 2000) (by decide) (by decide)) (by decide) (by decide)
  refine va_put (D := (dC, dI)) (ci := 1) (v := .int zy2) (ty := .int) (C := RX1) (T := TX1) (N := 7) hx hb hts inX1_ tyX1 tyX1_ok nmX1 hown hK hP hD hS 0 rfl rfl 1 (by decide) (hts (.fieldLink RX1 19 "GateWheel$Lexer" "length" "I") (List.mem_of_getElem? (i := 6) rfl)) (fun _ h9 => h9) rfl (by decide +kernel) rfl rfl (Nat.le_of_ble_eq_true rfl) dX1_begin_12 (fun Hy4 locs hP hD hS => ?_)
  have hP : va_P (dC, dI) vwCl [(h0, .inr (1, [.ref a1, .int zy2, .int h0_2, .int h0_3, .int h0_4, .long h0_5, .int h0_6])), (a1, .inl (ya1, 2000, .inl fa1))] Hy4 := hP
  have hD : va_D A [(h0, .inr (1, [.ref a1, .int zy2, .int h0_2, .int h0_3, .int h0_4, .long h0_5, .int h0_6])), (a1, .inl (ya1, 2000, .inl fa1))] := hD
  refine lv_aload_n hx hb dX1_begin_15 rfl (lv_at hl 0 rfl) ?_
  refine lv_iconst (v := 0) hx hb dX1_begin_16 (by decide) ?_
  refine va_put (D := (dC, dI)) (ci := 1) (v := .int 0) (ty := .int) (C := RX1) (T := TX1) (N := 7) hx hb hts inX1_ tyX1 tyX1_ok nmX1 hown hK hP hD hS 0 rfl rfl 2 (by decide) (hts (.fieldLink RX1 23 "GateWheel$Lexer" "next" "I") (List.mem_of_getElem? (i := 7) rfl)) (fun _ h9 => h9) rfl (by decide +kernel) rfl rfl (Nat.le_of_ble_eq_true rfl) dX1_begin_17 (fun Hy5 locs hP hD hS => ?_)
  have hP : va_P (dC, dI) vwCl [(h0, .inr (1, [.ref a1, .int zy2, .int 0, .int h0_3, .int h0_4, .long h0_5, .int h0_6])), (a1, .inl (ya1, 2000, .inl fa1))] Hy5 := hP
  have hD : va_D A [(h0, .inr (1, [.ref a1, .int zy2, .int 0, .int h0_3, .int h0_4, .long h0_5, .int h0_6])), (a1, .inl (ya1, 2000, .inl fa1))] := hD
  exact W.vret hx hb hr (fun t ht hW => ⟨⟨(), rfl, trivial, zy2, by3, by rw [ht]; exact hP, va_K.moved hW.alike hK, hD⟩, hS.F ht⟩) hS.2.2 dX1_begin_20

set_option maxHeartbeats 4000000 in
set_option maxRecDepth 100000 in
theorem s_X1_takeDigit (l : Launch) (dC : Nat → ClassId) (dI : Nat → Nat → Nat) (h0 : Nat) (h0_0 : Nat) (h0_1 : Int32) (h0_2 : Int32) (h0_3 : Int32) (h0_4 : Int32) (h0_5 : Int64) (h0_6 : Int32) (yh0_0 : ClassId) (fh0_0 : Nat → Int32) (sz : Nat) (hy_h0_1 : IV 0 2000 h0_1) (hy_h0_2 : IV 0 1999 h0_2) (hy_h0_4 : IV 0 2000 h0_4) : Met l yX1_takeDigit wsX1_takeDigit ({ frames := 2, cells := 0, slots := 0, locals := 40 }) (va_Pc [.ref h0] (fun U => U.heap.size = sz ∧ va_P (dC, dI) vwCl [(h0, .inr (1, [.ref h0_0, .int h0_1, .int h0_2, .int h0_3, .int h0_4, .long h0_5, .int h0_6])), (h0_0, .inl (yh0_0, 2000, .inl fh0_0))] U.heap ∧ va_K (dC, dI) vwCl [(yh0_0, .byte)] U ∧ va_D (fun _ => True) [(h0, .inr (1, [.ref h0_0, .int h0_1, .int h0_2, .int h0_3, .int h0_4, .long h0_5, .int h0_6])), (h0_0, .inl (yh0_0, 2000, .inl fh0_0))])) (va_Qv (fun (_ : Unit) => True) (fun (_ : Unit) (t : State) => ∃ (my30 : Int32), ∃ (my31 : Int32), ∃ (my32 : Int32), IV 1 2000 my30 ∧ IV 0 3 my31 ∧ va_P (dC, dI) vwCl [(h0, .inr (1, [.ref h0_0, .int h0_1, .int my30, .int my31, .int h0_4, .long h0_5, .int my32])), (h0_0, .inl (yh0_0, 2000, .inl fh0_0))] t.heap ∧ va_K (dC, dI) vwCl [(yh0_0, .byte)] t ∧ va_D (va_A [(h0, .inr (1, [.ref h0_0, .int h0_1, .int h0_2, .int h0_3, .int h0_4, .long h0_5, .int h0_6])), (h0_0, .inl (yh0_0, 2000, .inl fh0_0))] sz) [(h0, .inr (1, [.ref h0_0, .int h0_1, .int my30, .int my31, .int h0_4, .long h0_5, .int my32])), (h0_0, .inl (yh0_0, 2000, .inl fh0_0))]) (va_A [(h0, .inr (1, [.ref h0_0, .int h0_1, .int h0_2, .int h0_3, .int h0_4, .long h0_5, .int h0_6])), (h0_0, .inl (yh0_0, 2000, .inl fh0_0))] sz)) 0 0 (va_A [(h0, .inr (1, [.ref h0_0, .int h0_1, .int h0_2, .int h0_3, .int h0_4, .long h0_5, .int h0_6])), (h0_0, .inl (yh0_0, 2000, .inl fh0_0))] sz) := by
  refine Met.ofW (cc := cX1_takeDigit) (maxL := 2) (ret := none) (by decide +kernel) rfl ?_
  intro p e s m args below meth c s₁ B hml hv
  obtain ⟨rfl, hsz, hP, hK, hD0⟩ := hv
  have hx := B.exec
  have hb := B.bytes
  have hr := B.returns
  have hts := atoms_spec (ws := wsX1_takeDigit) B.pre
  have hown : s.vm.findClass RX1 = some m.cls := findClass_of_methodNamed B.named
  have hlocks := B.notSynchronized
  have inX1_ : ∀ w ∈ wsX10, w ∈ wsX1_takeDigit := fun _ h => List.mem_cons_of_mem _ (List.mem_append_right _ h)
  subst hsz
  have hD := hD0.self (sz := s.heap.size)
  generalize hAe : va_A [(h0, .inr (1, [.ref h0_0, .int h0_1, .int h0_2, .int h0_3, .int h0_4, .long h0_5, .int h0_6])), (h0_0, .inl (yh0_0, 2000, .inl fh0_0))] s.heap.size = A at hD ⊢
  have hA : ∀ q : Nat, s.heap.size ≤ q → A q := fun q h => by rw [← hAe]; exact Or.inr h
  have hS : va_S A s.heap s.heap [] := va_S.rf
  have hP : va_P (dC, dI) vwCl [(h0, .inr (1, [.ref h0_0, .int h0_1, .int h0_2, .int h0_3, .int h0_4, .long h0_5, .int h0_6])), (h0_0, .inl (yh0_0, 2000, .inl fh0_0))] s.heap := hP
  have hl := lv_entry ([.ref h0]) (n := 2) (Nat.le_of_ble_eq_true rfl)
  rw [lg_entry_eq]
  generalize (lg_sl ([.ref h0]) ++ List.replicate (2 - (lg_sl ([.ref h0])).length) Slot.unset).toArray = ls at hl ⊢
  have hl : lv_has ls 2 [(0, .ref h0)] := hl
  refine lv_aload_n hx hb dX1_takeDigit_0 rfl (lv_at hl 0 rfl) ?_
  refine lv_aload_n hx hb dX1_takeDigit_1 rfl (lv_at hl 0 rfl) ?_
  refine va_get (D := (dC, dI)) (ci := 1) (v := .ref h0_0) (C := RX1) (T := TX1) (N := 7) hx hb hts inX1_ hown hK hP 0 rfl rfl 0 (by decide) (hts (.fieldLink RX1 7 "GateWheel$Lexer" "text" "[B") (List.mem_of_getElem? (i := 1) rfl)) (fun _ h9 => h9) rfl dX1_takeDigit_2 ?_
  refine lv_aload_n hx hb dX1_takeDigit_5 rfl (lv_at hl 0 rfl) ?_
  refine va_get (D := (dC, dI)) (ci := 1) (v := .int h0_2) (C := RX1) (T := TX1) (N := 7) hx hb hts inX1_ hown hK hP 0 rfl rfl 2 (by decide) (hts (.fieldLink RX1 23 "GateWheel$Lexer" "next" "I") (List.mem_of_getElem? (i := 2) rfl)) (fun _ h9 => h9) rfl dX1_takeDigit_6 ?_
  refine va_bald hx hb hK hP 1 0 rfl rfl (IV_in hy_h0_2 (by decide) (by decide)) dX1_takeDigit_9 ?_
  refine lv_topi (fun zy1 ezy1 => ?_)
  refine lv_bipush (v := 48) hx hb dX1_takeDigit_10 (by decide) ?_
  refine lv_isub hx hb dX1_takeDigit_12 ?_
  refine lv_topi (fun zy2 ezy2 => ?_)
  refine va_put (D := (dC, dI)) (ci := 1) (v := .int zy2) (ty := .int) (C := RX1) (T := TX1) (N := 7) hx hb hts inX1_ tyX1 tyX1_ok nmX1 hown hK hP hD hS 0 rfl rfl 6 (by decide) (hts (.fieldLink RX1 58 "GateWheel$Lexer" "digit" "I") (List.mem_of_getElem? (i := 3) rfl)) (fun _ h9 => h9) rfl (by decide +kernel) rfl rfl (Nat.le_of_ble_eq_true rfl) dX1_takeDigit_13 (fun Hy3 locs hP hD hS => ?_)
  have hP : va_P (dC, dI) vwCl [(h0, .inr (1, [.ref h0_0, .int h0_1, .int h0_2, .int h0_3, .int h0_4, .long h0_5, .int zy2])), (h0_0, .inl (yh0_0, 2000, .inl fh0_0))] Hy3 := hP
  have hD : va_D A [(h0, .inr (1, [.ref h0_0, .int h0_1, .int h0_2, .int h0_3, .int h0_4, .long h0_5, .int zy2])), (h0_0, .inl (yh0_0, 2000, .inl fh0_0))] := hD
  refine lv_aload_n hx hb dX1_takeDigit_16 rfl (lv_at hl 0 rfl) ?_
  refine lv_dup hx hb dX1_takeDigit_17 rfl ?_
  refine va_get (D := (dC, dI)) (ci := 1) (v := .int h0_2) (C := RX1) (T := TX1) (N := 7) hx hb hts inX1_ hown hK hP 0 rfl rfl 2 (by decide) (hts (.fieldLink RX1 23 "GateWheel$Lexer" "next" "I") (List.mem_of_getElem? (i := 2) rfl)) (fun _ h9 => h9) rfl dX1_takeDigit_18 ?_
  refine lv_iconst (v := 1) hx hb dX1_takeDigit_21 (by decide) ?_
  refine lv_iadd hx hb dX1_takeDigit_22 ?_
  refine lv_topi (fun zy4 ezy4 => ?_)
  have by5 : IV 1 2000 zy4 := IV_add ezy4 hy_h0_2 (IV_mk (a := 1) (b := 1) (by decide) (by decide)) (by decide) (by decide) (by decide) (by decide)
  refine va_put (D := (dC, dI)) (ci := 1) (v := .int zy4) (ty := .int) (C := RX1) (T := TX1) (N := 7) hx hb hts inX1_ tyX1 tyX1_ok nmX1 hown hK hP hD hS 0 rfl rfl 2 (by decide) (hts (.fieldLink RX1 23 "GateWheel$Lexer" "next" "I") (List.mem_of_getElem? (i := 2) rfl)) (fun _ h9 => h9) rfl (by decide +kernel) rfl rfl (Nat.le_of_ble_eq_true rfl) dX1_takeDigit_23 (fun Hy6 locs hP hD hS => ?_)
  have hP : va_P (dC, dI) vwCl [(h0, .inr (1, [.ref h0_0, .int h0_1, .int zy4, .int h0_3, .int h0_4, .long h0_5, .int zy2])), (h0_0, .inl (yh0_0, 2000, .inl fh0_0))] Hy6 := hP
  have hD : va_D A [(h0, .inr (1, [.ref h0_0, .int h0_1, .int zy4, .int h0_3, .int h0_4, .long h0_5, .int zy2])), (h0_0, .inl (yh0_0, 2000, .inl fh0_0))] := hD
  refine lv_aload_n hx hb dX1_takeDigit_26 rfl (lv_at hl 0 rfl) ?_
  refine va_get (D := (dC, dI)) (ci := 1) (v := .int zy4) (C := RX1) (T := TX1) (N := 7) hx hb hts inX1_ hown hK hP 0 rfl rfl 2 (by decide) (hts (.fieldLink RX1 23 "GateWheel$Lexer" "next" "I") (List.mem_of_getElem? (i := 2) rfl)) (fun _ h9 => h9) rfl dX1_takeDigit_27 ?_
  refine lv_aload_n hx hb dX1_takeDigit_30 rfl (lv_at hl 0 rfl) ?_
  refine va_get (D := (dC, dI)) (ci := 1) (v := .int h0_1) (C := RX1) (T := TX1) (N := 7) hx hb hts inX1_ hown hK hP 0 rfl rfl 1 (by decide) (hts (.fieldLink RX1 19 "GateWheel$Lexer" "length" "I") (List.mem_of_getElem? (i := 4) rfl)) (fun _ h9 => h9) rfl dX1_takeDigit_31 ?_
  refine W_abs (fun GWy9 eGy10 => ?_)
  have jny11 : ∀ (my8 : Int32) (HGWy9 : Heap) (locs : List Loc) (ls : Array Slot), IV 0 1 my8 → va_P (dC, dI) vwCl [(h0, .inr (1, [.ref h0_0, .int h0_1, .int zy4, .int h0_3, .int h0_4, .long h0_5, .int zy2])), (h0_0, .inl (yh0_0, 2000, .inl fh0_0))] HGWy9 → va_D A [(h0, .inr (1, [.ref h0_0, .int h0_1, .int zy4, .int h0_3, .int h0_4, .long h0_5, .int zy2])), (h0_0, .inl (yh0_0, 2000, .inl fh0_0))] → va_S A s.heap HGWy9 locs → lv_has ls 2 [(0, .ref h0)] → GWy9 HGWy9 locs 0 0 (F0 m 57 ls [.int my8]) := by
    intro my8 HGWy9 locs ls hmy8 hP hD hS hl
    refine (eGy10 _ _ _ _ _).mpr ?_
    refine lv_istore_n (lv' := [(1, .int my8), (0, .ref h0)]) hx hb dX1_takeDigit_57 rfl hl (by decide) rfl (fun ls hl => ?_)
    refine lv_aload_n hx hb dX1_takeDigit_58 rfl (lv_at hl 1 rfl) ?_
    refine lv_iload_n hx hb dX1_takeDigit_59 rfl (lv_at hl 0 rfl) ?_
    refine lv_if_eq (tgt := 74) hx hb dX1_takeDigit_60 (by decide) (fun cy12 => ?_) (fun cy12 => ?_)
    · have h_cy12 := cy12
      have by13 : IV 0 0 my8 := IV_eq_l cy12 hmy8 (IV_mk (a := 0) (b := 0) (by decide) (by decide)) (by decide) (by decide)
      refine lv_iconst (v := 0) hx hb dX1_takeDigit_74 (by decide) ?_
      refine va_put (D := (dC, dI)) (ci := 1) (v := .int 0) (ty := .int) (C := RX1) (T := TX1) (N := 7) hx hb hts inX1_ tyX1 tyX1_ok nmX1 hown hK hP hD hS 0 rfl rfl 3 (by decide) (hts (.fieldLink RX1 33 "GateWheel$Lexer" "kind" "I") (List.mem_of_getElem? (i := 5) rfl)) (fun _ h9 => h9) rfl (by decide +kernel) rfl rfl (Nat.le_of_ble_eq_true rfl) dX1_takeDigit_75 (fun Hy14 locs hP hD hS => ?_)
      have hP : va_P (dC, dI) vwCl [(h0, .inr (1, [.ref h0_0, .int h0_1, .int zy4, .int 0, .int h0_4, .long h0_5, .int zy2])), (h0_0, .inl (yh0_0, 2000, .inl fh0_0))] Hy14 := hP
      have hD : va_D A [(h0, .inr (1, [.ref h0_0, .int h0_1, .int zy4, .int 0, .int h0_4, .long h0_5, .int zy2])), (h0_0, .inl (yh0_0, 2000, .inl fh0_0))] := hD
      exact W.vret hx hb hr (fun t ht hW => ⟨⟨(), rfl, trivial, zy4, 0, zy2, by5, (IV_mk (by decide) (by decide)), by rw [ht]; exact hP, va_K.moved hW.alike hK, hD⟩, hS.F ht⟩) hS.2.2 dX1_takeDigit_78
    · have h_cy12 := cy12
      have by15 : IV 1 1 my8 := IV_ne_lo cy12 hmy8 (IV_mk (a := 0) (b := 0) (by decide) (by decide)) (by decide) (by decide) (by decide)
      refine lv_aload_n hx hb dX1_takeDigit_63 rfl (lv_at hl 1 rfl) ?_
      refine va_get (D := (dC, dI)) (ci := 1) (v := .int zy2) (C := RX1) (T := TX1) (N := 7) hx hb hts inX1_ hown hK hP 0 rfl rfl 6 (by decide) (hts (.fieldLink RX1 58 "GateWheel$Lexer" "digit" "I") (List.mem_of_getElem? (i := 3) rfl)) (fun _ h9 => h9) rfl dX1_takeDigit_64 ?_
      refine lv_if_le (tgt := 74) hx hb dX1_takeDigit_67 (by decide) (fun cy16 => ?_) (fun cy16 => ?_)
      · have h_cy16 := cy16
        have by17 : IV (-2147483648) 0 zy2 := IV_le_l cy16 (IV_top zy2) (IV_mk (a := 0) (b := 0) (by decide) (by decide)) (by decide) (by decide)
        refine lv_iconst (v := 0) hx hb dX1_takeDigit_74 (by decide) ?_
        refine va_put (D := (dC, dI)) (ci := 1) (v := .int 0) (ty := .int) (C := RX1) (T := TX1) (N := 7) hx hb hts inX1_ tyX1 tyX1_ok nmX1 hown hK hP hD hS 0 rfl rfl 3 (by decide) (hts (.fieldLink RX1 33 "GateWheel$Lexer" "kind" "I") (List.mem_of_getElem? (i := 5) rfl)) (fun _ h9 => h9) rfl (by decide +kernel) rfl rfl (Nat.le_of_ble_eq_true rfl) dX1_takeDigit_75 (fun Hy18 locs hP hD hS => ?_)
        have hP : va_P (dC, dI) vwCl [(h0, .inr (1, [.ref h0_0, .int h0_1, .int zy4, .int 0, .int h0_4, .long h0_5, .int zy2])), (h0_0, .inl (yh0_0, 2000, .inl fh0_0))] Hy18 := hP
        have hD : va_D A [(h0, .inr (1, [.ref h0_0, .int h0_1, .int zy4, .int 0, .int h0_4, .long h0_5, .int zy2])), (h0_0, .inl (yh0_0, 2000, .inl fh0_0))] := hD
        exact W.vret hx hb hr (fun t ht hW => ⟨⟨(), rfl, trivial, zy4, 0, zy2, by5, (IV_mk (by decide) (by decide)), by rw [ht]; exact hP, va_K.moved hW.alike hK, hD⟩, hS.F ht⟩) hS.2.2 dX1_takeDigit_78
      · have h_cy16 := cy16
        have by19 : IV 1 2147483647 zy2 := IV_nle_l cy16 (IV_top zy2) (IV_mk (a := 0) (b := 0) (by decide) (by decide)) (by decide) (by decide)
        refine lv_iconst (v := 3) hx hb dX1_takeDigit_70 (by decide) ?_
        refine lv_goto (tgt := 75) hx hb dX1_takeDigit_71 (by decide) ?_
        refine va_put (D := (dC, dI)) (ci := 1) (v := .int 3) (ty := .int) (C := RX1) (T := TX1) (N := 7) hx hb hts inX1_ tyX1 tyX1_ok nmX1 hown hK hP hD hS 0 rfl rfl 3 (by decide) (hts (.fieldLink RX1 33 "GateWheel$Lexer" "kind" "I") (List.mem_of_getElem? (i := 5) rfl)) (fun _ h9 => h9) rfl (by decide +kernel) rfl rfl (Nat.le_of_ble_eq_true rfl) dX1_takeDigit_75 (fun Hy20 locs hP hD hS => ?_)
        have hP : va_P (dC, dI) vwCl [(h0, .inr (1, [.ref h0_0, .int h0_1, .int zy4, .int 3, .int h0_4, .long h0_5, .int zy2])), (h0_0, .inl (yh0_0, 2000, .inl fh0_0))] Hy20 := hP
        have hD : va_D A [(h0, .inr (1, [.ref h0_0, .int h0_1, .int zy4, .int 3, .int h0_4, .long h0_5, .int zy2])), (h0_0, .inl (yh0_0, 2000, .inl fh0_0))] := hD
        exact W.vret hx hb hr (fun t ht hW => ⟨⟨(), rfl, trivial, zy4, 3, zy2, by5, (IV_mk (by decide) (by decide)), by rw [ht]; exact hP, va_K.moved hW.alike hK, hD⟩, hS.F ht⟩) hS.2.2 dX1_takeDigit_78
  refine (eGy10 _ _ _ _ _).mpr ?_
  refine lv_icmp_ge (tgt := 52) hx hb dX1_takeDigit_34 (by decide) (fun cy7 => ?_) (fun cy7 => ?_)
  · have h_cy7 := cy7
    refine lv_iconst (v := 1) hx hb dX1_takeDigit_52 (by decide) ?_
    refine lv_goto (tgt := 57) hx hb dX1_takeDigit_53 (by decide) ?_
    exact (eGy10 _ _ _ _ _).mp (jny11 1 _ _ _ (IV_mk (by decide) (by decide)) hP hD hS (lv_sub hl [0] rfl))
  · have h_cy7 := cy7
    have by21 : IV 2 2000 h0_1 := IV_nle_l cy7 hy_h0_1 by5 (by decide) (by decide)
    have by22 : IV 1 1999 zy4 := IV_nle_r cy7 hy_h0_1 by5 (by decide) (by decide)
    refine lv_aload_n hx hb dX1_takeDigit_37 rfl (lv_at hl 0 rfl) ?_
    refine va_get (D := (dC, dI)) (ci := 1) (v := .ref h0_0) (C := RX1) (T := TX1) (N := 7) hx hb hts inX1_ hown hK hP 0 rfl rfl 0 (by decide) (hts (.fieldLink RX1 7 "GateWheel$Lexer" "text" "[B") (List.mem_of_getElem? (i := 1) rfl)) (fun _ h9 => h9) rfl dX1_takeDigit_38 ?_
    refine lv_aload_n hx hb dX1_takeDigit_41 rfl (lv_at hl 0 rfl) ?_
    refine va_get (D := (dC, dI)) (ci := 1) (v := .int zy4) (C := RX1) (T := TX1) (N := 7) hx hb hts inX1_ hown hK hP 0 rfl rfl 2 (by decide) (hts (.fieldLink RX1 23 "GateWheel$Lexer" "next" "I") (List.mem_of_getElem? (i := 2) rfl)) (fun _ h9 => h9) rfl dX1_takeDigit_42 ?_
    refine va_bald hx hb hK hP 1 0 rfl rfl (IV_in by22 (by decide) (by decide)) dX1_takeDigit_45 ?_
    refine lv_topi (fun zy23 ezy23 => ?_)
    have hPc := hP.sub (ws' := []) [] rfl
    have hDc := hD.sub (ws' := []) [] (by decide) rfl
    have hKc := hK.sub (tys' := []) [] rfl
    have hFc := va_free (wc := []) hD hS hA [] rfl
    refine va_calli (va_runS (As := [.int zy23]) (rest := []) ⟨hx, hb, hml, hown, hts⟩ (s_X1_isLetterOrDigit l dC dI zy23 Hy6.size) (va_cwS 1 hts gX1_takeDigit_X1_isLetterOrDigit rfl rfl rfl (by decide +kernel) ⟨Nat.le_of_ble_eq_true rfl, Nat.le_of_ble_eq_true rfl⟩) ⟨fun a U g mk q => by obtain ⟨q0, q1, qP, qK, qD⟩ := q; exact ⟨q0, q1, qP, va_K.moved (u := U) (U := U.calling g mk a) (Vm.Alike.refl U.vm) qK, qD⟩, fun U hU hW => ⟨rfl, by rw [hU], by rw [hU]; exact hPc, va_K.moved hW.alike hKc, hDc.weaken (fun _ _ _ _ => trivial)⟩⟩ rfl rfl hl.1 rfl (lv_room (Nat.le_of_ble_eq_true rfl)) dX1_takeDigit_46 ⟨Nat.le_of_ble_eq_true rfl, Nat.le_of_ble_eq_true rfl⟩) hS (fun q _ h => hFc q h) hFc (fun ry25 u t Hy24 locs ht hvm hw hB hz1 hk1 hS => ?_)
    obtain ⟨hP1, hK1, hD1⟩ := hB
    rw [ht] at hP1
    obtain ⟨hP, hD⟩ := va_join (wr := [(h0, .inr (1, [.ref h0_0, .int h0_1, .int zy4, .int h0_3, .int h0_4, .long h0_5, .int zy2])), (h0_0, .inl (yh0_0, 2000, .inl fh0_0))]) (w1 := []) hP hD [] [0, 1] rfl rfl (by decide) (by decide) hk1 hFc hP1 hD1
    have hP : va_P (dC, dI) vwCl [(h0, .inr (1, [.ref h0_0, .int h0_1, .int zy4, .int h0_3, .int h0_4, .long h0_5, .int zy2])), (h0_0, .inl (yh0_0, 2000, .inl fh0_0))] Hy24 := hP
    have hD : va_D A [(h0, .inr (1, [.ref h0_0, .int h0_1, .int zy4, .int h0_3, .int h0_4, .long h0_5, .int zy2])), (h0_0, .inl (yh0_0, 2000, .inl fh0_0))] := hD
    have by26 : IV 0 1 ry25 := hw
    refine lv_if_ne (tgt := 56) hx hb dX1_takeDigit_49 (by decide) (fun cy27 => ?_) (fun cy27 => ?_)
    · have h_cy27 := cy27
      have by28 : IV 1 1 ry25 := IV_ne_lo cy27 by26 (IV_mk (a := 0) (b := 0) (by decide) (by decide)) (by decide) (by decide) (by decide)
      refine lv_iconst (v := 0) hx hb dX1_takeDigit_56 (by decide) ?_
      exact (eGy10 _ _ _ _ _).mp (jny11 0 _ _ _ (IV_mk (by decide) (by decide)) hP hD hS (lv_sub hl [0] rfl))
    · have h_cy27 := cy27
      have by29 : IV 0 0 ry25 := IV_eq_l cy27 by26 (IV_mk (a := 0) (b := 0) (by decide) (by decide)) (by decide) (by decide)
      refine lv_iconst (v := 1) hx hb dX1_takeDigit_52 (by decide) ?_
      refine lv_goto (tgt := 57) hx hb dX1_takeDigit_53 (by decide) ?_
      exact (eGy10 _ _ _ _ _).mp (jny11 1 _ _ _ (IV_mk (by decide) (by decide)) hP hD hS (lv_sub hl [0] rfl))

set_option maxHeartbeats 4000000 in
set_option maxRecDepth 100000 in
theorem s_X1_takeWord (l : Launch) (dC : Nat → ClassId) (dI : Nat → Nat → Nat) (h0 : Nat) (h0_0 : Nat) (h0_1 : Int32) (h0_2 : Int32) (h0_3 : Int32) (h0_4 : Int32) (h0_5 : Int64) (h0_6 : Int32) (yh0_0 : ClassId) (fh0_0 : Nat → Int32) (sz : Nat) (hy_h0_1 : IV 0 2000 h0_1) (hy_h0_2 : IV 0 2000 h0_2) (hy_h0_4 : IV 0 2000 h0_4) : Met l yX1_takeWord wsX1_takeWord ({ frames := 2, cells := 0, slots := 0, locals := 40 }) (va_Pc [.ref h0] (fun U => U.heap.size = sz ∧ va_P (dC, dI) vwCl [(h0, .inr (1, [.ref h0_0, .int h0_1, .int h0_2, .int h0_3, .int h0_4, .long h0_5, .int h0_6])), (h0_0, .inl (yh0_0, 2000, .inl fh0_0))] U.heap ∧ va_K (dC, dI) vwCl [(yh0_0, .byte)] U ∧ va_D (fun _ => True) [(h0, .inr (1, [.ref h0_0, .int h0_1, .int h0_2, .int h0_3, .int h0_4, .long h0_5, .int h0_6])), (h0_0, .inl (yh0_0, 2000, .inl fh0_0))])) (va_Qv (fun (_ : Unit) => True) (fun (_ : Unit) (t : State) => ∃ (my36 : Int32), ∃ (my37 : Int32), ∃ (my38 : Int64), IV 0 2000 my36 ∧ IV 0 2 my37 ∧ va_P (dC, dI) vwCl [(h0, .inr (1, [.ref h0_0, .int h0_1, .int my36, .int my37, .int h0_4, .long my38, .int h0_6])), (h0_0, .inl (yh0_0, 2000, .inl fh0_0))] t.heap ∧ va_K (dC, dI) vwCl [(yh0_0, .byte)] t ∧ va_D (va_A [(h0, .inr (1, [.ref h0_0, .int h0_1, .int h0_2, .int h0_3, .int h0_4, .long h0_5, .int h0_6])), (h0_0, .inl (yh0_0, 2000, .inl fh0_0))] sz) [(h0, .inr (1, [.ref h0_0, .int h0_1, .int my36, .int my37, .int h0_4, .long my38, .int h0_6])), (h0_0, .inl (yh0_0, 2000, .inl fh0_0))]) (va_A [(h0, .inr (1, [.ref h0_0, .int h0_1, .int h0_2, .int h0_3, .int h0_4, .long h0_5, .int h0_6])), (h0_0, .inl (yh0_0, 2000, .inl fh0_0))] sz)) 0 0 (va_A [(h0, .inr (1, [.ref h0_0, .int h0_1, .int h0_2, .int h0_3, .int h0_4, .long h0_5, .int h0_6])), (h0_0, .inl (yh0_0, 2000, .inl fh0_0))] sz) := by
  refine Met.ofW (cc := cX1_takeWord) (maxL := 1) (ret := none) (by decide +kernel) rfl ?_
  intro p e s m args below meth c s₁ B hml hv
  obtain ⟨rfl, hsz, hP, hK, hD0⟩ := hv
  have hx := B.exec
  have hb := B.bytes
  have hr := B.returns
  have hts := atoms_spec (ws := wsX1_takeWord) B.pre
  have hown : s.vm.findClass RX1 = some m.cls := findClass_of_methodNamed B.named
  have hlocks := B.notSynchronized
  have inX1_ : ∀ w ∈ wsX10, w ∈ wsX1_takeWord := fun _ h => List.mem_cons_of_mem _ (List.mem_append_right _ h)
  subst hsz
  have hD := hD0.self (sz := s.heap.size)
  generalize hAe : va_A [(h0, .inr (1, [.ref h0_0, .int h0_1, .int h0_2, .int h0_3, .int h0_4, .long h0_5, .int h0_6])), (h0_0, .inl (yh0_0, 2000, .inl fh0_0))] s.heap.size = A at hD ⊢
  have hA : ∀ q : Nat, s.heap.size ≤ q → A q := fun q h => by rw [← hAe]; exact Or.inr h
  have hS : va_S A s.heap s.heap [] := va_S.rf
  have hP : va_P (dC, dI) vwCl [(h0, .inr (1, [.ref h0_0, .int h0_1, .int h0_2, .int h0_3, .int h0_4, .long h0_5, .int h0_6])), (h0_0, .inl (yh0_0, 2000, .inl fh0_0))] s.heap := hP
  have hl := lv_entry ([.ref h0]) (n := 1) (Nat.le_of_ble_eq_true rfl)
  rw [lg_entry_eq]
  generalize (lg_sl ([.ref h0]) ++ List.replicate (1 - (lg_sl ([.ref h0])).length) Slot.unset).toArray = ls at hl ⊢
  have hl : lv_has ls 1 [(0, .ref h0)] := hl
  refine lv_aload_n hx hb dX1_takeWord_0 rfl (lv_at hl 0 rfl) ?_
  refine lv_lconst (v := 0) hx hb dX1_takeWord_1 (by decide) ?_
  refine va_put (D := (dC, dI)) (ci := 1) (v := .long 0) (ty := .long) (C := RX1) (T := TX1) (N := 7) hx hb hts inX1_ tyX1 tyX1_ok nmX1 hown hK hP hD hS 0 rfl rfl 5 (by decide) (hts (.fieldLink RX1 51 "GateWheel$Lexer" "word" "J") (List.mem_of_getElem? (i := 1) rfl)) (fun _ h9 => h9) rfl (by decide +kernel) rfl rfl (Nat.le_of_ble_eq_true rfl) dX1_takeWord_2 (fun Hy1 locs hP hD hS => ?_)
  have hP : va_P (dC, dI) vwCl [(h0, .inr (1, [.ref h0_0, .int h0_1, .int h0_2, .int h0_3, .int h0_4, .long 0, .int h0_6])), (h0_0, .inl (yh0_0, 2000, .inl fh0_0))] Hy1 := hP
  have hD : va_D A [(h0, .inr (1, [.ref h0_0, .int h0_1, .int h0_2, .int h0_3, .int h0_4, .long 0, .int h0_6])), (h0_0, .inl (yh0_0, 2000, .inl fh0_0))] := hD
  refine W_abs (fun GWy6 eGy7 => ?_)
  have lpy8 : ∀ (n : Nat) (my4 : Int32) (my5 : Int64) (HGWy6 : Heap) (locs : List Loc) (ls : Array Slot), 2001 - my4.toInt ≤ (n : Int) → IV 0 2000 my4 → va_P (dC, dI) vwCl [(h0, .inr (1, [.ref h0_0, .int h0_1, .int my4, .int h0_3, .int h0_4, .long my5, .int h0_6])), (h0_0, .inl (yh0_0, 2000, .inl fh0_0))] HGWy6 → va_D A [(h0, .inr (1, [.ref h0_0, .int h0_1, .int my4, .int h0_3, .int h0_4, .long my5, .int h0_6])), (h0_0, .inl (yh0_0, 2000, .inl fh0_0))] → va_S A s.heap HGWy6 locs → lv_has ls 1 [(0, .ref h0)] → GWy6 HGWy6 locs 0 0 (F0 m 5 ls []) := by
    intro n
    induction n with
    | zero =>
      intro my4 my5 HGWy6 locs ls hmGWy6 hmy4 hP hD hS hl
      exact (IV_u0 hmy4 hmGWy6 (by decide)).elim
    | succ n ihGWy6 =>
      intro my4 my5 HGWy6 locs ls hmGWy6 hmy4 hP hD hS hl
      refine (eGy7 _ _ _ _ _).mpr ?_
      refine lv_aload_n hx hb dX1_takeWord_5 rfl (lv_at hl 0 rfl) ?_
      refine va_get (D := (dC, dI)) (ci := 1) (v := .int my4) (C := RX1) (T := TX1) (N := 7) hx hb hts inX1_ hown hK hP 0 rfl rfl 2 (by decide) (hts (.fieldLink RX1 23 "GateWheel$Lexer" "next" "I") (List.mem_of_getElem? (i := 2) rfl)) (fun _ h9 => h9) rfl dX1_takeWord_6 ?_
      refine lv_aload_n hx hb dX1_takeWord_9 rfl (lv_at hl 0 rfl) ?_
      refine va_get (D := (dC, dI)) (ci := 1) (v := .int h0_1) (C := RX1) (T := TX1) (N := 7) hx hb hts inX1_ hown hK hP 0 rfl rfl 1 (by decide) (hts (.fieldLink RX1 19 "GateWheel$Lexer" "length" "I") (List.mem_of_getElem? (i := 3) rfl)) (fun _ h9 => h9) rfl dX1_takeWord_10 ?_
      refine W_abs (fun GWy10 eGy11 => ?_)
      have jny12 : ∀ (HGWy10 : Heap) (locs : List Loc) (ls : Array Slot), va_P (dC, dI) vwCl [(h0, .inr (1, [.ref h0_0, .int h0_1, .int my4, .int h0_3, .int h0_4, .long my5, .int h0_6])), (h0_0, .inl (yh0_0, 2000, .inl fh0_0))] HGWy10 → va_D A [(h0, .inr (1, [.ref h0_0, .int h0_1, .int my4, .int h0_3, .int h0_4, .long my5, .int h0_6])), (h0_0, .inl (yh0_0, 2000, .inl fh0_0))] → va_S A s.heap HGWy10 locs → lv_has ls 1 [(0, .ref h0)] → GWy10 HGWy10 locs 0 0 (F0 m 66 ls []) := by
        intro HGWy10 locs ls hP hD hS hl
        refine (eGy11 _ _ _ _ _).mpr ?_
        refine lv_aload_n hx hb dX1_takeWord_66 rfl (lv_at hl 0 rfl) ?_
        refine lv_aload_n hx hb dX1_takeWord_67 rfl (lv_at hl 0 rfl) ?_
        refine va_get (D := (dC, dI)) (ci := 1) (v := .int my4) (C := RX1) (T := TX1) (N := 7) hx hb hts inX1_ hown hK hP 0 rfl rfl 2 (by decide) (hts (.fieldLink RX1 23 "GateWheel$Lexer" "next" "I") (List.mem_of_getElem? (i := 2) rfl)) (fun _ h9 => h9) rfl dX1_takeWord_68 ?_
        refine lv_aload_n hx hb dX1_takeWord_71 rfl (lv_at hl 0 rfl) ?_
        refine va_get (D := (dC, dI)) (ci := 1) (v := .int h0_4) (C := RX1) (T := TX1) (N := 7) hx hb hts inX1_ hown hK hP 0 rfl rfl 4 (by decide) (hts (.fieldLink RX1 30 "GateWheel$Lexer" "start" "I") (List.mem_of_getElem? (i := 5) rfl)) (fun _ h9 => h9) rfl dX1_takeWord_72 ?_
        refine lv_isub hx hb dX1_takeWord_75 ?_
        refine lv_topi (fun zy13 ezy13 => ?_)
        have by14 : IV (-2000) 2000 zy13 := IV_sub ezy13 hmy4 hy_h0_4 (by decide) (by decide) (by decide) (by decide)
        refine lv_bipush (v := 8) hx hb dX1_takeWord_76 (by decide) ?_
        refine lv_icmp_le (tgt := 85) hx hb dX1_takeWord_78 (by decide) (fun cy15 => ?_) (fun cy15 => ?_)
        · have h_cy15 := cy15
          have by16 : IV (-2000) 8 zy13 := IV_le_l cy15 by14 (IV_mk (a := 8) (b := 8) (by decide) (by decide)) (by decide) (by decide)
          refine lv_iconst (v := 2) hx hb dX1_takeWord_85 (by decide) ?_
          refine va_put (D := (dC, dI)) (ci := 1) (v := .int 2) (ty := .int) (C := RX1) (T := TX1) (N := 7) hx hb hts inX1_ tyX1 tyX1_ok nmX1 hown hK hP hD hS 0 rfl rfl 3 (by decide) (hts (.fieldLink RX1 33 "GateWheel$Lexer" "kind" "I") (List.mem_of_getElem? (i := 6) rfl)) (fun _ h9 => h9) rfl (by decide +kernel) rfl rfl (Nat.le_of_ble_eq_true rfl) dX1_takeWord_86 (fun Hy17 locs hP hD hS => ?_)
          have hP : va_P (dC, dI) vwCl [(h0, .inr (1, [.ref h0_0, .int h0_1, .int my4, .int 2, .int h0_4, .long my5, .int h0_6])), (h0_0, .inl (yh0_0, 2000, .inl fh0_0))] Hy17 := hP
          have hD : va_D A [(h0, .inr (1, [.ref h0_0, .int h0_1, .int my4, .int 2, .int h0_4, .long my5, .int h0_6])), (h0_0, .inl (yh0_0, 2000, .inl fh0_0))] := hD
          exact W.vret hx hb hr (fun t ht hW => ⟨⟨(), rfl, trivial, my4, 2, my5, hmy4, (IV_mk (by decide) (by decide)), by rw [ht]; exact hP, va_K.moved hW.alike hK, hD⟩, hS.F ht⟩) hS.2.2 dX1_takeWord_89
        · have h_cy15 := cy15
          have by18 : IV 9 2000 zy13 := IV_nle_l cy15 by14 (IV_mk (a := 8) (b := 8) (by decide) (by decide)) (by decide) (by decide)
          refine lv_iconst (v := 0) hx hb dX1_takeWord_81 (by decide) ?_
          refine lv_goto (tgt := 86) hx hb dX1_takeWord_82 (by decide) ?_
          refine va_put (D := (dC, dI)) (ci := 1) (v := .int 0) (ty := .int) (C := RX1) (T := TX1) (N := 7) hx hb hts inX1_ tyX1 tyX1_ok nmX1 hown hK hP hD hS 0 rfl rfl 3 (by decide) (hts (.fieldLink RX1 33 "GateWheel$Lexer" "kind" "I") (List.mem_of_getElem? (i := 6) rfl)) (fun _ h9 => h9) rfl (by decide +kernel) rfl rfl (Nat.le_of_ble_eq_true rfl) dX1_takeWord_86 (fun Hy19 locs hP hD hS => ?_)
          have hP : va_P (dC, dI) vwCl [(h0, .inr (1, [.ref h0_0, .int h0_1, .int my4, .int 0, .int h0_4, .long my5, .int h0_6])), (h0_0, .inl (yh0_0, 2000, .inl fh0_0))] Hy19 := hP
          have hD : va_D A [(h0, .inr (1, [.ref h0_0, .int h0_1, .int my4, .int 0, .int h0_4, .long my5, .int h0_6])), (h0_0, .inl (yh0_0, 2000, .inl fh0_0))] := hD
          exact W.vret hx hb hr (fun t ht hW => ⟨⟨(), rfl, trivial, my4, 0, my5, hmy4, (IV_mk (by decide) (by decide)), by rw [ht]; exact hP, va_K.moved hW.alike hK, hD⟩, hS.F ht⟩) hS.2.2 dX1_takeWord_89
      refine (eGy11 _ _ _ _ _).mpr ?_
      refine lv_icmp_ge (tgt := 66) hx hb dX1_takeWord_13 (by decide) (fun cy9 => ?_) (fun cy9 => ?_)
      · have h_cy9 := cy9
        exact (eGy11 _ _ _ _ _).mp (jny12 _ _ _ hP hD hS (lv_sub hl [0] rfl))
      · have h_cy9 := cy9
        have by20 : IV 1 2000 h0_1 := IV_nle_l cy9 hy_h0_1 hmy4 (by decide) (by decide)
        have by21 : IV 0 1999 my4 := IV_nle_r cy9 hy_h0_1 hmy4 (by decide) (by decide)
        refine lv_aload_n hx hb dX1_takeWord_16 rfl (lv_at hl 0 rfl) ?_
        refine va_get (D := (dC, dI)) (ci := 1) (v := .ref h0_0) (C := RX1) (T := TX1) (N := 7) hx hb hts inX1_ hown hK hP 0 rfl rfl 0 (by decide) (hts (.fieldLink RX1 7 "GateWheel$Lexer" "text" "[B") (List.mem_of_getElem? (i := 4) rfl)) (fun _ h9 => h9) rfl dX1_takeWord_17 ?_
        refine lv_aload_n hx hb dX1_takeWord_20 rfl (lv_at hl 0 rfl) ?_
        refine va_get (D := (dC, dI)) (ci := 1) (v := .int my4) (C := RX1) (T := TX1) (N := 7) hx hb hts inX1_ hown hK hP 0 rfl rfl 2 (by decide) (hts (.fieldLink RX1 23 "GateWheel$Lexer" "next" "I") (List.mem_of_getElem? (i := 2) rfl)) (fun _ h9 => h9) rfl dX1_takeWord_21 ?_
        refine va_bald hx hb hK hP 1 0 rfl rfl (IV_in by21 (by decide) (by decide)) dX1_takeWord_24 ?_
        refine lv_topi (fun zy22 ezy22 => ?_)
        have hPc := hP.sub (ws' := []) [] rfl
        have hDc := hD.sub (ws' := []) [] (by decide) rfl
        have hKc := hK.sub (tys' := []) [] rfl
        have hFc := va_free (wc := []) hD hS hA [] rfl
        refine va_calli (va_runS (As := [.int zy22]) (rest := []) ⟨hx, hb, hml, hown, hts⟩ (s_X1_isLetterOrDigit l dC dI zy22 HGWy6.size) (va_cwS 1 hts gX1_takeWord_X1_isLetterOrDigit rfl rfl rfl (by decide +kernel) ⟨Nat.le_of_ble_eq_true rfl, Nat.le_of_ble_eq_true rfl⟩) ⟨fun a U g mk q => by obtain ⟨q0, q1, qP, qK, qD⟩ := q; exact ⟨q0, q1, qP, va_K.moved (u := U) (U := U.calling g mk a) (Vm.Alike.refl U.vm) qK, qD⟩, fun U hU hW => ⟨rfl, by rw [hU], by rw [hU]; exact hPc, va_K.moved hW.alike hKc, hDc.weaken (fun _ _ _ _ => trivial)⟩⟩ rfl rfl hl.1 rfl (lv_room (Nat.le_of_ble_eq_true rfl)) dX1_takeWord_25 ⟨Nat.le_of_ble_eq_true rfl, Nat.le_of_ble_eq_true rfl⟩) hS (fun q _ h => hFc q h) hFc (fun ry24 u t Hy23 locs ht hvm hw hB hz1 hk1 hS => ?_)
        obtain ⟨hP1, hK1, hD1⟩ := hB
        rw [ht] at hP1
        obtain ⟨hP, hD⟩ := va_join (wr := [(h0, .inr (1, [.ref h0_0, .int h0_1, .int my4, .int h0_3, .int h0_4, .long my5, .int h0_6])), (h0_0, .inl (yh0_0, 2000, .inl fh0_0))]) (w1 := []) hP hD [] [0, 1] rfl rfl (by decide) (by decide) hk1 hFc hP1 hD1
        have hP : va_P (dC, dI) vwCl [(h0, .inr (1, [.ref h0_0, .int h0_1, .int my4, .int h0_3, .int h0_4, .long my5, .int h0_6])), (h0_0, .inl (yh0_0, 2000, .inl fh0_0))] Hy23 := hP
        have hD : va_D A [(h0, .inr (1, [.ref h0_0, .int h0_1, .int my4, .int h0_3, .int h0_4, .long my5, .int h0_6])), (h0_0, .inl (yh0_0, 2000, .inl fh0_0))] := hD
        have by25 : IV 0 1 ry24 := hw
        refine lv_if_eq (tgt := 66) hx hb dX1_takeWord_28 (by decide) (fun cy26 => ?_) (fun cy26 => ?_)
        · have h_cy26 := cy26
          have by27 : IV 0 0 ry24 := IV_eq_l cy26 by25 (IV_mk (a := 0) (b := 0) (by decide) (by decide)) (by decide) (by decide)
          exact (eGy11 _ _ _ _ _).mp (jny12 _ _ _ hP hD hS (lv_sub hl [0] rfl))
        · have h_cy26 := cy26
          have by28 : IV 1 1 ry24 := IV_ne_lo cy26 by25 (IV_mk (a := 0) (b := 0) (by decide) (by decide)) (by decide) (by decide) (by decide)
          refine lv_aload_n hx hb dX1_takeWord_31 rfl (lv_at hl 0 rfl) ?_
          refine lv_aload_n hx hb dX1_takeWord_32 rfl (lv_at hl 0 rfl) ?_
          refine va_get (D := (dC, dI)) (ci := 1) (v := .long my5) (C := RX1) (T := TX1) (N := 7) hx hb hts inX1_ hown hK hP 0 rfl rfl 5 (by decide) (hts (.fieldLink RX1 51 "GateWheel$Lexer" "word" "J") (List.mem_of_getElem? (i := 1) rfl)) (fun _ h9 => h9) rfl dX1_takeWord_33 ?_
          refine lv_bipush (v := 8) hx hb dX1_takeWord_36 (by decide) ?_
          refine lv_lshl hx hb dX1_takeWord_38 rfl ?_
          refine lv_topl (fun zy29 ezy29 => ?_)
          refine lv_aload_n hx hb dX1_takeWord_39 rfl (lv_at hl 0 rfl) ?_
          refine va_get (D := (dC, dI)) (ci := 1) (v := .ref h0_0) (C := RX1) (T := TX1) (N := 7) hx hb hts inX1_ hown hK hP 0 rfl rfl 0 (by decide) (hts (.fieldLink RX1 7 "GateWheel$Lexer" "text" "[B") (List.mem_of_getElem? (i := 4) rfl)) (fun _ h9 => h9) rfl dX1_takeWord_40 ?_
          refine lv_aload_n hx hb dX1_takeWord_43 rfl (lv_at hl 0 rfl) ?_
          refine va_get (D := (dC, dI)) (ci := 1) (v := .int my4) (C := RX1) (T := TX1) (N := 7) hx hb hts inX1_ hown hK hP 0 rfl rfl 2 (by decide) (hts (.fieldLink RX1 23 "GateWheel$Lexer" "next" "I") (List.mem_of_getElem? (i := 2) rfl)) (fun _ h9 => h9) rfl dX1_takeWord_44 ?_
          refine va_bald hx hb hK hP 1 0 rfl rfl (IV_in by21 (by decide) (by decide)) dX1_takeWord_47 ?_
          rw [← ezy22]
          refine lv_i2l hx hb dX1_takeWord_48 rfl ?_
          refine lv_topl (fun zy30 ezy30 => ?_)
          refine lv_lor hx hb dX1_takeWord_49 ?_
          refine lv_topl (fun zy31 ezy31 => ?_)
          refine va_put (D := (dC, dI)) (ci := 1) (v := .long zy31) (ty := .long) (C := RX1) (T := TX1) (N := 7) hx hb hts inX1_ tyX1 tyX1_ok nmX1 hown hK hP hD hS 0 rfl rfl 5 (by decide) (hts (.fieldLink RX1 51 "GateWheel$Lexer" "word" "J") (List.mem_of_getElem? (i := 1) rfl)) (fun _ h9 => h9) rfl (by decide +kernel) rfl rfl (Nat.le_of_ble_eq_true rfl) dX1_takeWord_50 (fun Hy32 locs hP hD hS => ?_)
          have hP : va_P (dC, dI) vwCl [(h0, .inr (1, [.ref h0_0, .int h0_1, .int my4, .int h0_3, .int h0_4, .long zy31, .int h0_6])), (h0_0, .inl (yh0_0, 2000, .inl fh0_0))] Hy32 := hP
          have hD : va_D A [(h0, .inr (1, [.ref h0_0, .int h0_1, .int my4, .int h0_3, .int h0_4, .long zy31, .int h0_6])), (h0_0, .inl (yh0_0, 2000, .inl fh0_0))] := hD
          refine lv_aload_n hx hb dX1_takeWord_53 rfl (lv_at hl 0 rfl) ?_
          refine lv_dup hx hb dX1_takeWord_54 rfl ?_
          refine va_get (D := (dC, dI)) (ci := 1) (v := .int my4) (C := RX1) (T := TX1) (N := 7) hx hb hts inX1_ hown hK hP 0 rfl rfl 2 (by decide) (hts (.fieldLink RX1 23 "GateWheel$Lexer" "next" "I") (List.mem_of_getElem? (i := 2) rfl)) (fun _ h9 => h9) rfl dX1_takeWord_55 ?_
          refine lv_iconst (v := 1) hx hb dX1_takeWord_58 (by decide) ?_
          refine lv_iadd hx hb dX1_takeWord_59 ?_
          refine lv_topi (fun zy33 ezy33 => ?_)
          have by34 : IV 1 2000 zy33 := IV_add ezy33 by21 (IV_mk (a := 1) (b := 1) (by decide) (by decide)) (by decide) (by decide) (by decide) (by decide)
          refine va_put (D := (dC, dI)) (ci := 1) (v := .int zy33) (ty := .int) (C := RX1) (T := TX1) (N := 7) hx hb hts inX1_ tyX1 tyX1_ok nmX1 hown hK hP hD hS 0 rfl rfl 2 (by decide) (hts (.fieldLink RX1 23 "GateWheel$Lexer" "next" "I") (List.mem_of_getElem? (i := 2) rfl)) (fun _ h9 => h9) rfl (by decide +kernel) rfl rfl (Nat.le_of_ble_eq_true rfl) dX1_takeWord_60 (fun Hy35 locs hP hD hS => ?_)
          have hP : va_P (dC, dI) vwCl [(h0, .inr (1, [.ref h0_0, .int h0_1, .int zy33, .int h0_3, .int h0_4, .long zy31, .int h0_6])), (h0_0, .inl (yh0_0, 2000, .inl fh0_0))] Hy35 := hP
          have hD : va_D A [(h0, .inr (1, [.ref h0_0, .int h0_1, .int zy33, .int h0_3, .int h0_4, .long zy31, .int h0_6])), (h0_0, .inl (yh0_0, 2000, .inl fh0_0))] := hD
          refine lv_goto (tgt := 5) hx hb dX1_takeWord_63 (by decide) ?_
          exact (eGy7 _ _ _ _ _).mp (ihGWy6 zy33 zy31 _ _ _ (IV_u1 hmGWy6 (IV_step (c := 1) ezy33 by21 (by decide) (by decide) (by decide)) (by decide)) (IV_wk by34 (by decide) (by decide)) hP hD hS (lv_sub hl [0] rfl))
  exact lpy8 2001 h0_2 0 _ _ _ (IV_ui hy_h0_2 (by decide)) hy_h0_2 hP hD hS (lv_sub hl [0] rfl)

set_option maxHeartbeats 4000000 in
set_option maxRecDepth 100000 in
theorem s_X1_advance (l : Launch) (dC : Nat → ClassId) (dI : Nat → Nat → Nat) (h0 : Nat) (h0_0 : Nat) (h0_1 : Int32) (h0_2 : Int32) (h0_3 : Int32) (h0_4 : Int32) (h0_5 : Int64) (h0_6 : Int32) (yh0_0 : ClassId) (fh0_0 : Nat → Int32) (sz : Nat) (hy_h0_1 : IV 0 2000 h0_1) (hy_h0_2 : IV 0 2000 h0_2) (hy_h0_4 : IV 0 2000 h0_4) : Met l yX1_advance wsX1_advance ({ frames := 3, cells := 0, slots := 0, locals := 61 }) (va_Pc [.ref h0] (fun U => U.heap.size = sz ∧ va_P (dC, dI) vwCl [(h0, .inr (1, [.ref h0_0, .int h0_1, .int h0_2, .int h0_3, .int h0_4, .long h0_5, .int h0_6])), (h0_0, .inl (yh0_0, 2000, .inl fh0_0))] U.heap ∧ va_K (dC, dI) vwCl [(yh0_0, .byte)] U ∧ va_D (fun _ => True) [(h0, .inr (1, [.ref h0_0, .int h0_1, .int h0_2, .int h0_3, .int h0_4, .long h0_5, .int h0_6])), (h0_0, .inl (yh0_0, 2000, .inl fh0_0))])) (va_Qv (fun (_ : Unit) => True) (fun (_ : Unit) (t : State) => ∃ (my68 : Int32), ∃ (my69 : Int32), ∃ (my70 : Int32), ∃ (my71 : Int64), ∃ (my72 : Int32), IV 0 2000 my68 ∧ IV 0 2000 my70 ∧ va_P (dC, dI) vwCl [(h0, .inr (1, [.ref h0_0, .int h0_1, .int my68, .int my69, .int my70, .long my71, .int my72])), (h0_0, .inl (yh0_0, 2000, .inl fh0_0))] t.heap ∧ va_K (dC, dI) vwCl [(yh0_0, .byte)] t ∧ va_D (va_A [(h0, .inr (1, [.ref h0_0, .int h0_1, .int h0_2, .int h0_3, .int h0_4, .long h0_5, .int h0_6])), (h0_0, .inl (yh0_0, 2000, .inl fh0_0))] sz) [(h0, .inr (1, [.ref h0_0, .int h0_1, .int my68, .int my69, .int my70, .long my71, .int my72])), (h0_0, .inl (yh0_0, 2000, .inl fh0_0))]) (va_A [(h0, .inr (1, [.ref h0_0, .int h0_1, .int h0_2, .int h0_3, .int h0_4, .long h0_5, .int h0_6])), (h0_0, .inl (yh0_0, 2000, .inl fh0_0))] sz)) 0 0 (va_A [(h0, .inr (1, [.ref h0_0, .int h0_1, .int h0_2, .int h0_3, .int h0_4, .long h0_5, .int h0_6])), (h0_0, .inl (yh0_0, 2000, .inl fh0_0))] sz) := by
  refine Met.ofW (cc := cX1_advance) (maxL := 2) (ret := none) (by decide +kernel) rfl ?_
  intro p e s m args below meth c s₁ B hml hv
  obtain ⟨rfl, hsz, hP, hK, hD0⟩ := hv
  have hx := B.exec
  have hb := B.bytes
  have hr := B.returns
  have hts := atoms_spec (ws := wsX1_advance) B.pre
  have hown : s.vm.findClass RX1 = some m.cls := findClass_of_methodNamed B.named
  have hlocks := B.notSynchronized
  have inX1_ : ∀ w ∈ wsX10, w ∈ wsX1_advance := fun _ h => List.mem_cons_of_mem _ (List.mem_append_right _ h)
  subst hsz
  have hD := hD0.self (sz := s.heap.size)
  generalize hAe : va_A [(h0, .inr (1, [.ref h0_0, .int h0_1, .int h0_2, .int h0_3, .int h0_4, .long h0_5, .int h0_6])), (h0_0, .inl (yh0_0, 2000, .inl fh0_0))] s.heap.size = A at hD ⊢
  have hA : ∀ q : Nat, s.heap.size ≤ q → A q := fun q h => by rw [← hAe]; exact Or.inr h
  have hS : va_S A s.heap s.heap [] := va_S.rf
  have hP : va_P (dC, dI) vwCl [(h0, .inr (1, [.ref h0_0, .int h0_1, .int h0_2, .int h0_3, .int h0_4, .long h0_5, .int h0_6])), (h0_0, .inl (yh0_0, 2000, .inl fh0_0))] s.heap := hP
  have hl := lv_entry ([.ref h0]) (n := 2) (Nat.le_of_ble_eq_true rfl)
  rw [lg_entry_eq]
  generalize (lg_sl ([.ref h0]) ++ List.replicate (2 - (lg_sl ([.ref h0])).length) Slot.unset).toArray = ls at hl ⊢
  have hl : lv_has ls 2 [(0, .ref h0)] := hl
  refine W_abs (fun GWy3 eGy4 => ?_)
  have lpy5 : ∀ (n : Nat) (my2 : Int32) (HGWy3 : Heap) (locs : List Loc) (ls : Array Slot), 2001 - my2.toInt ≤ (n : Int) → IV 0 2000 my2 → va_P (dC, dI) vwCl [(h0, .inr (1, [.ref h0_0, .int h0_1, .int my2, .int h0_3, .int h0_4, .long h0_5, .int h0_6])), (h0_0, .inl (yh0_0, 2000, .inl fh0_0))] HGWy3 → va_D A [(h0, .inr (1, [.ref h0_0, .int h0_1, .int my2, .int h0_3, .int h0_4, .long h0_5, .int h0_6])), (h0_0, .inl (yh0_0, 2000, .inl fh0_0))] → va_S A s.heap HGWy3 locs → lv_has ls 2 [(0, .ref h0)] → GWy3 HGWy3 locs 0 0 (F0 m 0 ls []) := by
    intro n
    induction n with
    | zero =>
      intro my2 HGWy3 locs ls hmGWy3 hmy2 hP hD hS hl
      exact (IV_u0 hmy2 hmGWy3 (by decide)).elim
    | succ n ihGWy3 =>
      intro my2 HGWy3 locs ls hmGWy3 hmy2 hP hD hS hl
      refine (eGy4 _ _ _ _ _).mpr ?_
      refine lv_aload_n hx hb dX1_advance_0 rfl (lv_at hl 0 rfl) ?_
      refine va_get (D := (dC, dI)) (ci := 1) (v := .int my2) (C := RX1) (T := TX1) (N := 7) hx hb hts inX1_ hown hK hP 0 rfl rfl 2 (by decide) (hts (.fieldLink RX1 23 "GateWheel$Lexer" "next" "I") (List.mem_of_getElem? (i := 1) rfl)) (fun _ h9 => h9) rfl dX1_advance_1 ?_
      refine lv_aload_n hx hb dX1_advance_4 rfl (lv_at hl 0 rfl) ?_
      refine va_get (D := (dC, dI)) (ci := 1) (v := .int h0_1) (C := RX1) (T := TX1) (N := 7) hx hb hts inX1_ hown hK hP 0 rfl rfl 1 (by decide) (hts (.fieldLink RX1 19 "GateWheel$Lexer" "length" "I") (List.mem_of_getElem? (i := 2) rfl)) (fun _ h9 => h9) rfl dX1_advance_5 ?_
      refine W_abs (fun GWy7 eGy8 => ?_)
      have jny9 : ∀ (HGWy7 : Heap) (locs : List Loc) (ls : Array Slot), va_P (dC, dI) vwCl [(h0, .inr (1, [.ref h0_0, .int h0_1, .int my2, .int h0_3, .int h0_4, .long h0_5, .int h0_6])), (h0_0, .inl (yh0_0, 2000, .inl fh0_0))] HGWy7 → va_D A [(h0, .inr (1, [.ref h0_0, .int h0_1, .int my2, .int h0_3, .int h0_4, .long h0_5, .int h0_6])), (h0_0, .inl (yh0_0, 2000, .inl fh0_0))] → va_S A s.heap HGWy7 locs → lv_has ls 2 [(0, .ref h0)] → GWy7 HGWy7 locs 0 0 (F0 m 39 ls []) := by
        intro HGWy7 locs ls hP hD hS hl
        refine (eGy8 _ _ _ _ _).mpr ?_
        refine lv_aload_n hx hb dX1_advance_39 rfl (lv_at hl 0 rfl) ?_
        refine lv_aload_n hx hb dX1_advance_40 rfl (lv_at hl 0 rfl) ?_
        refine va_get (D := (dC, dI)) (ci := 1) (v := .int my2) (C := RX1) (T := TX1) (N := 7) hx hb hts inX1_ hown hK hP 0 rfl rfl 2 (by decide) (hts (.fieldLink RX1 23 "GateWheel$Lexer" "next" "I") (List.mem_of_getElem? (i := 1) rfl)) (fun _ h9 => h9) rfl dX1_advance_41 ?_
        refine va_put (D := (dC, dI)) (ci := 1) (v := .int my2) (ty := .int) (C := RX1) (T := TX1) (N := 7) hx hb hts inX1_ tyX1 tyX1_ok nmX1 hown hK hP hD hS 0 rfl rfl 4 (by decide) (hts (.fieldLink RX1 30 "GateWheel$Lexer" "start" "I") (List.mem_of_getElem? (i := 4) rfl)) (fun _ h9 => h9) rfl (by decide +kernel) rfl rfl (Nat.le_of_ble_eq_true rfl) dX1_advance_44 (fun Hy10 locs hP hD hS => ?_)
        have hP : va_P (dC, dI) vwCl [(h0, .inr (1, [.ref h0_0, .int h0_1, .int my2, .int h0_3, .int my2, .long h0_5, .int h0_6])), (h0_0, .inl (yh0_0, 2000, .inl fh0_0))] Hy10 := hP
        have hD : va_D A [(h0, .inr (1, [.ref h0_0, .int h0_1, .int my2, .int h0_3, .int my2, .long h0_5, .int h0_6])), (h0_0, .inl (yh0_0, 2000, .inl fh0_0))] := hD
        refine lv_aload_n hx hb dX1_advance_47 rfl (lv_at hl 0 rfl) ?_
        refine va_get (D := (dC, dI)) (ci := 1) (v := .int my2) (C := RX1) (T := TX1) (N := 7) hx hb hts inX1_ hown hK hP 0 rfl rfl 2 (by decide) (hts (.fieldLink RX1 23 "GateWheel$Lexer" "next" "I") (List.mem_of_getElem? (i := 1) rfl)) (fun _ h9 => h9) rfl dX1_advance_48 ?_
        refine lv_aload_n hx hb dX1_advance_51 rfl (lv_at hl 0 rfl) ?_
        refine va_get (D := (dC, dI)) (ci := 1) (v := .int h0_1) (C := RX1) (T := TX1) (N := 7) hx hb hts inX1_ hown hK hP 0 rfl rfl 1 (by decide) (hts (.fieldLink RX1 19 "GateWheel$Lexer" "length" "I") (List.mem_of_getElem? (i := 2) rfl)) (fun _ h9 => h9) rfl dX1_advance_52 ?_
        refine lv_icmp_lt (tgt := 64) hx hb dX1_advance_55 (by decide) (fun cy11 => ?_) (fun cy11 => ?_)
        · have h_cy11 := cy11
          have by12 : IV 0 1999 my2 := IV_lt_l cy11 hmy2 hy_h0_1 (by decide) (by decide)
          have by13 : IV 1 2000 h0_1 := IV_lt_r cy11 hmy2 hy_h0_1 (by decide) (by decide)
          refine lv_aload_n hx hb dX1_advance_64 rfl (lv_at hl 0 rfl) ?_
          refine va_get (D := (dC, dI)) (ci := 1) (v := .ref h0_0) (C := RX1) (T := TX1) (N := 7) hx hb hts inX1_ hown hK hP 0 rfl rfl 0 (by decide) (hts (.fieldLink RX1 7 "GateWheel$Lexer" "text" "[B") (List.mem_of_getElem? (i := 3) rfl)) (fun _ h9 => h9) rfl dX1_advance_65 ?_
          refine lv_aload_n hx hb dX1_advance_68 rfl (lv_at hl 0 rfl) ?_
          refine va_get (D := (dC, dI)) (ci := 1) (v := .int my2) (C := RX1) (T := TX1) (N := 7) hx hb hts inX1_ hown hK hP 0 rfl rfl 2 (by decide) (hts (.fieldLink RX1 23 "GateWheel$Lexer" "next" "I") (List.mem_of_getElem? (i := 1) rfl)) (fun _ h9 => h9) rfl dX1_advance_69 ?_
          refine va_bald hx hb hK hP 1 0 rfl rfl (IV_in by12 (by decide) (by decide)) dX1_advance_72 ?_
          refine lv_topi (fun zy14 ezy14 => ?_)
          refine lv_istore_n (lv' := [(1, .int zy14), (0, .ref h0)]) hx hb dX1_advance_73 rfl hl (by decide) rfl (fun ls hl => ?_)
          refine lv_iload_n hx hb dX1_advance_74 rfl (lv_at hl 0 rfl) ?_
          have hPc := hP.sub (ws' := []) [] rfl
          have hDc := hD.sub (ws' := []) [] (by decide) rfl
          have hKc := hK.sub (tys' := []) [] rfl
          have hFc := va_free (wc := []) hD hS hA [] rfl
          refine va_calli (va_runS (As := [.int zy14]) (rest := []) ⟨hx, hb, hml, hown, hts⟩ (s_X1_isLetter l dC dI zy14 Hy10.size) (va_cwS 1 hts gX1_advance_X1_isLetter rfl rfl rfl (by decide +kernel) ⟨Nat.le_of_ble_eq_true rfl, Nat.le_of_ble_eq_true rfl⟩) ⟨fun a U g mk q => by obtain ⟨q0, q1, qP, qK, qD⟩ := q; exact ⟨q0, q1, qP, va_K.moved (u := U) (U := U.calling g mk a) (Vm.Alike.refl U.vm) qK, qD⟩, fun U hU hW => ⟨rfl, by rw [hU], by rw [hU]; exact hPc, va_K.moved hW.alike hKc, hDc.weaken (fun _ _ _ _ => trivial)⟩⟩ rfl rfl hl.1 rfl (lv_room (Nat.le_of_ble_eq_true rfl)) dX1_advance_75 ⟨Nat.le_of_ble_eq_true rfl, Nat.le_of_ble_eq_true rfl⟩) hS (fun q _ h => hFc q h) hFc (fun ry16 u t Hy15 locs ht hvm hw hB hz1 hk1 hS => ?_)
          obtain ⟨hP1, hK1, hD1⟩ := hB
          rw [ht] at hP1
          obtain ⟨hP, hD⟩ := va_join (wr := [(h0, .inr (1, [.ref h0_0, .int h0_1, .int my2, .int h0_3, .int my2, .long h0_5, .int h0_6])), (h0_0, .inl (yh0_0, 2000, .inl fh0_0))]) (w1 := []) hP hD [] [0, 1] rfl rfl (by decide) (by decide) hk1 hFc hP1 hD1
          have hP : va_P (dC, dI) vwCl [(h0, .inr (1, [.ref h0_0, .int h0_1, .int my2, .int h0_3, .int my2, .long h0_5, .int h0_6])), (h0_0, .inl (yh0_0, 2000, .inl fh0_0))] Hy15 := hP
          have hD : va_D A [(h0, .inr (1, [.ref h0_0, .int h0_1, .int my2, .int h0_3, .int my2, .long h0_5, .int h0_6])), (h0_0, .inl (yh0_0, 2000, .inl fh0_0))] := hD
          have by17 : IV 0 1 ry16 := hw
          refine lv_if_eq (tgt := 88) hx hb dX1_advance_78 (by decide) (fun cy18 => ?_) (fun cy18 => ?_)
          · have h_cy18 := cy18
            have by19 : IV 0 0 ry16 := IV_eq_l cy18 by17 (IV_mk (a := 0) (b := 0) (by decide) (by decide)) (by decide) (by decide)
            refine lv_iload_n hx hb dX1_advance_88 rfl (lv_at hl 0 rfl) ?_
            have hPc := hP.sub (ws' := []) [] rfl
            have hDc := hD.sub (ws' := []) [] (by decide) rfl
            have hKc := hK.sub (tys' := []) [] rfl
            have hFc := va_free (wc := []) hD hS hA [] rfl
            refine va_calli (va_runS (As := [.int zy14]) (rest := []) ⟨hx, hb, hml, hown, hts⟩ (s_X1_isDigit l dC dI zy14 Hy15.size) (va_cwS 1 hts gX1_advance_X1_isDigit rfl rfl rfl (by decide +kernel) ⟨Nat.le_of_ble_eq_true rfl, Nat.le_of_ble_eq_true rfl⟩) ⟨fun a U g mk q => by obtain ⟨q0, q1, qP, qK, qD⟩ := q; exact ⟨q0, q1, qP, va_K.moved (u := U) (U := U.calling g mk a) (Vm.Alike.refl U.vm) qK, qD⟩, fun U hU hW => ⟨rfl, by rw [hU], by rw [hU]; exact hPc, va_K.moved hW.alike hKc, hDc.weaken (fun _ _ _ _ => trivial)⟩⟩ rfl rfl hl.1 rfl (lv_room (Nat.le_of_ble_eq_true rfl)) dX1_advance_89 ⟨Nat.le_of_ble_eq_true rfl, Nat.le_of_ble_eq_true rfl⟩) hS (fun q _ h => hFc q h) hFc (fun ry21 u t Hy20 locs ht hvm hw hB hz1 hk1 hS => ?_)
            obtain ⟨hP1, hK1, hD1⟩ := hB
            rw [ht] at hP1
            obtain ⟨hP, hD⟩ := va_join (wr := [(h0, .inr (1, [.ref h0_0, .int h0_1, .int my2, .int h0_3, .int my2, .long h0_5, .int h0_6])), (h0_0, .inl (yh0_0, 2000, .inl fh0_0))]) (w1 := []) hP hD [] [0, 1] rfl rfl (by decide) (by decide) hk1 hFc hP1 hD1
            have hP : va_P (dC, dI) vwCl [(h0, .inr (1, [.ref h0_0, .int h0_1, .int my2, .int h0_3, .int my2, .long h0_5, .int h0_6])), (h0_0, .inl (yh0_0, 2000, .inl fh0_0))] Hy20 := hP
            have hD : va_D A [(h0, .inr (1, [.ref h0_0, .int h0_1, .int my2, .int h0_3, .int my2, .long h0_5, .int h0_6])), (h0_0, .inl (yh0_0, 2000, .inl fh0_0))] := hD
            have by22 : IV 0 1 ry21 := hw
            refine lv_if_eq (tgt := 102) hx hb dX1_advance_92 (by decide) (fun cy23 => ?_) (fun cy23 => ?_)
            · have h_cy23 := cy23
              have by24 : IV 0 0 ry21 := IV_eq_l cy23 by22 (IV_mk (a := 0) (b := 0) (by decide) (by decide)) (by decide) (by decide)
              refine lv_aload_n hx hb dX1_advance_102 rfl (lv_at hl 1 rfl) ?_
              refine lv_iload_n hx hb dX1_advance_103 rfl (lv_at hl 0 rfl) ?_
              have hPc := hP.sub (ws' := []) [] rfl
              have hDc := hD.sub (ws' := []) [] (by decide) rfl
              have hKc := hK.sub (tys' := []) [] rfl
              have hFc := va_free (wc := []) hD hS hA [] rfl
              refine va_calli (va_runS (As := [.int zy14]) (rest := [.ref h0]) ⟨hx, hb, hml, hown, hts⟩ (s_X1_isSign l dC dI zy14 Hy20.size) (va_cwS 1 hts gX1_advance_X1_isSign rfl rfl rfl (by decide +kernel) ⟨Nat.le_of_ble_eq_true rfl, Nat.le_of_ble_eq_true rfl⟩) ⟨fun a U g mk q => by obtain ⟨q0, q1, qP, qK, qD⟩ := q; exact ⟨q0, q1, qP, va_K.moved (u := U) (U := U.calling g mk a) (Vm.Alike.refl U.vm) qK, qD⟩, fun U hU hW => ⟨rfl, by rw [hU], by rw [hU]; exact hPc, va_K.moved hW.alike hKc, hDc.weaken (fun _ _ _ _ => trivial)⟩⟩ rfl rfl hl.1 rfl (lv_room (Nat.le_of_ble_eq_true rfl)) dX1_advance_104 ⟨Nat.le_of_ble_eq_true rfl, Nat.le_of_ble_eq_true rfl⟩) hS (fun q _ h => hFc q h) hFc (fun ry26 u t Hy25 locs ht hvm hw hB hz1 hk1 hS => ?_)
              obtain ⟨hP1, hK1, hD1⟩ := hB
              rw [ht] at hP1
              obtain ⟨hP, hD⟩ := va_join (wr := [(h0, .inr (1, [.ref h0_0, .int h0_1, .int my2, .int h0_3, .int my2, .long h0_5, .int h0_6])), (h0_0, .inl (yh0_0, 2000, .inl fh0_0))]) (w1 := []) hP hD [] [0, 1] rfl rfl (by decide) (by decide) hk1 hFc hP1 hD1
              have hP : va_P (dC, dI) vwCl [(h0, .inr (1, [.ref h0_0, .int h0_1, .int my2, .int h0_3, .int my2, .long h0_5, .int h0_6])), (h0_0, .inl (yh0_0, 2000, .inl fh0_0))] Hy25 := hP
              have hD : va_D A [(h0, .inr (1, [.ref h0_0, .int h0_1, .int my2, .int h0_3, .int my2, .long h0_5, .int h0_6])), (h0_0, .inl (yh0_0, 2000, .inl fh0_0))] := hD
              have by27 : IV 0 1 ry26 := hw
              refine W_abs (fun GWy30 eGy31 => ?_)
              have jny32 : ∀ (my29 : Int32) (HGWy30 : Heap) (locs : List Loc) (ls : Array Slot), va_P (dC, dI) vwCl [(h0, .inr (1, [.ref h0_0, .int h0_1, .int my2, .int h0_3, .int my2, .long h0_5, .int h0_6])), (h0_0, .inl (yh0_0, 2000, .inl fh0_0))] HGWy30 → va_D A [(h0, .inr (1, [.ref h0_0, .int h0_1, .int my2, .int h0_3, .int my2, .long h0_5, .int h0_6])), (h0_0, .inl (yh0_0, 2000, .inl fh0_0))] → va_S A s.heap HGWy30 locs → lv_has ls 2 [(1, .int zy14), (0, .ref h0)] → GWy30 HGWy30 locs 0 0 (F0 m 115 ls [.int my29, .ref h0]) := by
                intro my29 HGWy30 locs ls hP hD hS hl
                refine (eGy31 _ _ _ _ _).mpr ?_
                refine va_put (D := (dC, dI)) (ci := 1) (v := .int my29) (ty := .int) (C := RX1) (T := TX1) (N := 7) hx hb hts inX1_ tyX1 tyX1_ok nmX1 hown hK hP hD hS 0 rfl rfl 3 (by decide) (hts (.fieldLink RX1 33 "GateWheel$Lexer" "kind" "I") (List.mem_of_getElem? (i := 5) rfl)) (fun _ h9 => h9) rfl (by decide +kernel) rfl rfl (Nat.le_of_ble_eq_true rfl) dX1_advance_115 (fun Hy33 locs hP hD hS => ?_)
                have hP : va_P (dC, dI) vwCl [(h0, .inr (1, [.ref h0_0, .int h0_1, .int my2, .int my29, .int my2, .long h0_5, .int h0_6])), (h0_0, .inl (yh0_0, 2000, .inl fh0_0))] Hy33 := hP
                have hD : va_D A [(h0, .inr (1, [.ref h0_0, .int h0_1, .int my2, .int my29, .int my2, .long h0_5, .int h0_6])), (h0_0, .inl (yh0_0, 2000, .inl fh0_0))] := hD
                refine lv_aload_n hx hb dX1_advance_118 rfl (lv_at hl 1 rfl) ?_
                refine lv_dup hx hb dX1_advance_119 rfl ?_
                refine va_get (D := (dC, dI)) (ci := 1) (v := .int my2) (C := RX1) (T := TX1) (N := 7) hx hb hts inX1_ hown hK hP 0 rfl rfl 2 (by decide) (hts (.fieldLink RX1 23 "GateWheel$Lexer" "next" "I") (List.mem_of_getElem? (i := 1) rfl)) (fun _ h9 => h9) rfl dX1_advance_120 ?_
                refine lv_iconst (v := 1) hx hb dX1_advance_123 (by decide) ?_
                refine lv_iadd hx hb dX1_advance_124 ?_
                refine lv_topi (fun zy34 ezy34 => ?_)
                have by35 : IV 1 2000 zy34 := IV_add ezy34 by12 (IV_mk (a := 1) (b := 1) (by decide) (by decide)) (by decide) (by decide) (by decide) (by decide)
                refine va_put (D := (dC, dI)) (ci := 1) (v := .int zy34) (ty := .int) (C := RX1) (T := TX1) (N := 7) hx hb hts inX1_ tyX1 tyX1_ok nmX1 hown hK hP hD hS 0 rfl rfl 2 (by decide) (hts (.fieldLink RX1 23 "GateWheel$Lexer" "next" "I") (List.mem_of_getElem? (i := 1) rfl)) (fun _ h9 => h9) rfl (by decide +kernel) rfl rfl (Nat.le_of_ble_eq_true rfl) dX1_advance_125 (fun Hy36 locs hP hD hS => ?_)
                have hP : va_P (dC, dI) vwCl [(h0, .inr (1, [.ref h0_0, .int h0_1, .int zy34, .int my29, .int my2, .long h0_5, .int h0_6])), (h0_0, .inl (yh0_0, 2000, .inl fh0_0))] Hy36 := hP
                have hD : va_D A [(h0, .inr (1, [.ref h0_0, .int h0_1, .int zy34, .int my29, .int my2, .long h0_5, .int h0_6])), (h0_0, .inl (yh0_0, 2000, .inl fh0_0))] := hD
                exact W.vret hx hb hr (fun t ht hW => ⟨⟨(), rfl, trivial, zy34, my29, my2, h0_5, h0_6, (IV_wk by35 (by decide) (by decide)), (IV_wk by12 (by decide) (by decide)), by rw [ht]; exact hP, va_K.moved hW.alike hK, hD⟩, hS.F ht⟩) hS.2.2 dX1_advance_128
              refine (eGy31 _ _ _ _ _).mpr ?_
              refine lv_if_eq (tgt := 114) hx hb dX1_advance_107 (by decide) (fun cy28 => ?_) (fun cy28 => ?_)
              · have h_cy28 := cy28
                have by37 : IV 0 0 ry26 := IV_eq_l cy28 by27 (IV_mk (a := 0) (b := 0) (by decide) (by decide)) (by decide) (by decide)
                refine lv_iconst (v := 0) hx hb dX1_advance_114 (by decide) ?_
                exact (eGy31 _ _ _ _ _).mp (jny32 0 _ _ _ hP hD hS (lv_sub hl [0, 1] rfl))
              · have h_cy28 := cy28
                have by38 : IV 1 1 ry26 := IV_ne_lo cy28 by27 (IV_mk (a := 0) (b := 0) (by decide) (by decide)) (by decide) (by decide) (by decide)
                refine lv_iload_n hx hb dX1_advance_110 rfl (lv_at hl 0 rfl) ?_
                refine lv_goto (tgt := 115) hx hb dX1_advance_111 (by decide) ?_
                exact (eGy31 _ _ _ _ _).mp (jny32 zy14 _ _ _ hP hD hS (lv_sub hl [0, 1] rfl))
            · have h_cy23 := cy23
              have by39 : IV 1 1 ry21 := IV_ne_lo cy23 by22 (IV_mk (a := 0) (b := 0) (by decide) (by decide)) (by decide) (by decide) (by decide)
              refine lv_aload_n hx hb dX1_advance_95 rfl (lv_at hl 1 rfl) ?_
              have hPc := hP.sub (ws' := [(h0, .inr (1, [.ref h0_0, .int h0_1, .int my2, .int h0_3, .int my2, .long h0_5, .int h0_6])), (h0_0, .inl (yh0_0, 2000, .inl fh0_0))]) [0, 1] rfl
              have hDc := hD.sub (ws' := [(h0, .inr (1, [.ref h0_0, .int h0_1, .int my2, .int h0_3, .int my2, .long h0_5, .int h0_6])), (h0_0, .inl (yh0_0, 2000, .inl fh0_0))]) [0, 1] (by decide) rfl
              have hKc := hK.sub (tys' := [(yh0_0, .byte)]) [0] rfl
              have hFc := va_free (wc := [(h0, .inr (1, [.ref h0_0, .int h0_1, .int my2, .int h0_3, .int my2, .long h0_5, .int h0_6])), (h0_0, .inl (yh0_0, 2000, .inl fh0_0))]) hD hS hA [0, 1] rfl
              refine va_callv (va_runV (As := []) (rest := []) ⟨hx, hb, hml, hown, hts⟩ (s_X1_takeDigit l dC dI h0 h0_0 h0_1 my2 h0_3 my2 h0_5 h0_6 yh0_0 fh0_0 Hy20.size (IV_wk by13 (by decide) (by decide)) by12 (IV_wk by12 (by decide) (by decide))) (cwV 0 hts gX1_advance_X1_takeDigit rfl rfl rfl (by decide +kernel) ⟨Nat.le_of_ble_eq_true rfl, Nat.le_of_ble_eq_true rfl⟩) ⟨fun a U g mk q => by obtain ⟨q0, q1, qP, qK, qD⟩ := q; exact ⟨q0, q1, qP, va_K.moved (u := U) (U := U.calling g mk a) (Vm.Alike.refl U.vm) qK, qD⟩, va_recv hKc hPc (ci := 1) (q0 := 0) rfl rfl, fun U hU hW => ⟨rfl, by rw [hU], by rw [hU]; exact hPc, va_K.moved hW.alike hKc, hDc.weaken (fun _ _ _ _ => trivial)⟩⟩ rfl rfl hl.1 rfl (lv_room (Nat.le_of_ble_eq_true rfl)) dX1_advance_96 ⟨Nat.le_of_ble_eq_true rfl, Nat.le_of_ble_eq_true rfl⟩) hS (fun q _ h => hFc q h) hFc (fun u t Hy40 locs ht hvm hw hB hz1 hk1 hS => ?_)
              obtain ⟨my42, my44, my46, by43, by45, hP1, hK1, hD1⟩ := hB
              rw [ht] at hP1
              obtain ⟨hP, hD⟩ := va_join (wr := []) (w1 := [(h0, .inr (1, [.ref h0_0, .int h0_1, .int my42, .int my44, .int my2, .long h0_5, .int my46])), (h0_0, .inl (yh0_0, 2000, .inl fh0_0))]) hP hD [0, 1] [] rfl rfl (by decide) (by decide) hk1 hFc hP1 hD1
              have hP : va_P (dC, dI) vwCl [(h0, .inr (1, [.ref h0_0, .int h0_1, .int my42, .int my44, .int my2, .long h0_5, .int my46])), (h0_0, .inl (yh0_0, 2000, .inl fh0_0))] Hy40 := hP
              have hD : va_D A [(h0, .inr (1, [.ref h0_0, .int h0_1, .int my42, .int my44, .int my2, .long h0_5, .int my46])), (h0_0, .inl (yh0_0, 2000, .inl fh0_0))] := hD
              refine lv_goto (tgt := 128) hx hb dX1_advance_99 (by decide) ?_
              exact W.vret hx hb hr (fun t ht hW => ⟨⟨(), rfl, trivial, my42, my44, my2, h0_5, my46, (IV_wk by43 (by decide) (by decide)), (IV_wk by12 (by decide) (by decide)), by rw [ht]; exact hP, va_K.moved hW.alike hK, hD⟩, hS.F ht⟩) hS.2.2 dX1_advance_128
          · have h_cy18 := cy18
            have by47 : IV 1 1 ry16 := IV_ne_lo cy18 by17 (IV_mk (a := 0) (b := 0) (by decide) (by decide)) (by decide) (by decide) (by decide)
            refine lv_aload_n hx hb dX1_advance_81 rfl (lv_at hl 1 rfl) ?_
            have hPc := hP.sub (ws' := [(h0, .inr (1, [.ref h0_0, .int h0_1, .int my2, .int h0_3, .int my2, .long h0_5, .int h0_6])), (h0_0, .inl (yh0_0, 2000, .inl fh0_0))]) [0, 1] rfl
            have hDc := hD.sub (ws' := [(h0, .inr (1, [.ref h0_0, .int h0_1, .int my2, .int h0_3, .int my2, .long h0_5, .int h0_6])), (h0_0, .inl (yh0_0, 2000, .inl fh0_0))]) [0, 1] (by decide) rfl
            have hKc := hK.sub (tys' := [(yh0_0, .byte)]) [0] rfl
            have hFc := va_free (wc := [(h0, .inr (1, [.ref h0_0, .int h0_1, .int my2, .int h0_3, .int my2, .long h0_5, .int h0_6])), (h0_0, .inl (yh0_0, 2000, .inl fh0_0))]) hD hS hA [0, 1] rfl
            refine va_callv (va_runV (As := []) (rest := []) ⟨hx, hb, hml, hown, hts⟩ (s_X1_takeWord l dC dI h0 h0_0 h0_1 my2 h0_3 my2 h0_5 h0_6 yh0_0 fh0_0 Hy15.size (IV_wk by13 (by decide) (by decide)) (IV_wk by12 (by decide) (by decide)) (IV_wk by12 (by decide) (by decide))) (cwV 0 hts gX1_advance_X1_takeWord rfl rfl rfl (by decide +kernel) ⟨Nat.le_of_ble_eq_true rfl, Nat.le_of_ble_eq_true rfl⟩) ⟨fun a U g mk q => by obtain ⟨q0, q1, qP, qK, qD⟩ := q; exact ⟨q0, q1, qP, va_K.moved (u := U) (U := U.calling g mk a) (Vm.Alike.refl U.vm) qK, qD⟩, va_recv hKc hPc (ci := 1) (q0 := 0) rfl rfl, fun U hU hW => ⟨rfl, by rw [hU], by rw [hU]; exact hPc, va_K.moved hW.alike hKc, hDc.weaken (fun _ _ _ _ => trivial)⟩⟩ rfl rfl hl.1 rfl (lv_room (Nat.le_of_ble_eq_true rfl)) dX1_advance_82 ⟨Nat.le_of_ble_eq_true rfl, Nat.le_of_ble_eq_true rfl⟩) hS (fun q _ h => hFc q h) hFc (fun u t Hy48 locs ht hvm hw hB hz1 hk1 hS => ?_)
            obtain ⟨my50, my52, my54, by51, by53, hP1, hK1, hD1⟩ := hB
            rw [ht] at hP1
            obtain ⟨hP, hD⟩ := va_join (wr := []) (w1 := [(h0, .inr (1, [.ref h0_0, .int h0_1, .int my50, .int my52, .int my2, .long my54, .int h0_6])), (h0_0, .inl (yh0_0, 2000, .inl fh0_0))]) hP hD [0, 1] [] rfl rfl (by decide) (by decide) hk1 hFc hP1 hD1
            have hP : va_P (dC, dI) vwCl [(h0, .inr (1, [.ref h0_0, .int h0_1, .int my50, .int my52, .int my2, .long my54, .int h0_6])), (h0_0, .inl (yh0_0, 2000, .inl fh0_0))] Hy48 := hP
            have hD : va_D A [(h0, .inr (1, [.ref h0_0, .int h0_1, .int my50, .int my52, .int my2, .long my54, .int h0_6])), (h0_0, .inl (yh0_0, 2000, .inl fh0_0))] := hD
            refine lv_goto (tgt := 128) hx hb dX1_advance_85 (by decide) ?_
            exact W.vret hx hb hr (fun t ht hW => ⟨⟨(), rfl, trivial, my50, my52, my2, my54, h0_6, by51, (IV_wk by12 (by decide) (by decide)), by rw [ht]; exact hP, va_K.moved hW.alike hK, hD⟩, hS.F ht⟩) hS.2.2 dX1_advance_128
        · have h_cy11 := cy11
          refine lv_aload_n hx hb dX1_advance_58 rfl (lv_at hl 0 rfl) ?_
          refine lv_iconst (v := 1) hx hb dX1_advance_59 (by decide) ?_
          refine va_put (D := (dC, dI)) (ci := 1) (v := .int 1) (ty := .int) (C := RX1) (T := TX1) (N := 7) hx hb hts inX1_ tyX1 tyX1_ok nmX1 hown hK hP hD hS 0 rfl rfl 3 (by decide) (hts (.fieldLink RX1 33 "GateWheel$Lexer" "kind" "I") (List.mem_of_getElem? (i := 5) rfl)) (fun _ h9 => h9) rfl (by decide +kernel) rfl rfl (Nat.le_of_ble_eq_true rfl) dX1_advance_60 (fun Hy55 locs hP hD hS => ?_)
          have hP : va_P (dC, dI) vwCl [(h0, .inr (1, [.ref h0_0, .int h0_1, .int my2, .int 1, .int my2, .long h0_5, .int h0_6])), (h0_0, .inl (yh0_0, 2000, .inl fh0_0))] Hy55 := hP
          have hD : va_D A [(h0, .inr (1, [.ref h0_0, .int h0_1, .int my2, .int 1, .int my2, .long h0_5, .int h0_6])), (h0_0, .inl (yh0_0, 2000, .inl fh0_0))] := hD
          exact W.vret hx hb hr (fun t ht hW => ⟨⟨(), rfl, trivial, my2, 1, my2, h0_5, h0_6, hmy2, hmy2, by rw [ht]; exact hP, va_K.moved hW.alike hK, hD⟩, hS.F ht⟩) hS.2.2 dX1_advance_63
      refine (eGy8 _ _ _ _ _).mpr ?_
      refine lv_icmp_ge (tgt := 39) hx hb dX1_advance_8 (by decide) (fun cy6 => ?_) (fun cy6 => ?_)
      · have h_cy6 := cy6
        exact (eGy8 _ _ _ _ _).mp (jny9 _ _ _ hP hD hS (lv_sub hl [0] rfl))
      · have h_cy6 := cy6
        have by56 : IV 1 2000 h0_1 := IV_nle_l cy6 hy_h0_1 hmy2 (by decide) (by decide)
        have by57 : IV 0 1999 my2 := IV_nle_r cy6 hy_h0_1 hmy2 (by decide) (by decide)
        refine lv_aload_n hx hb dX1_advance_11 rfl (lv_at hl 0 rfl) ?_
        refine va_get (D := (dC, dI)) (ci := 1) (v := .ref h0_0) (C := RX1) (T := TX1) (N := 7) hx hb hts inX1_ hown hK hP 0 rfl rfl 0 (by decide) (hts (.fieldLink RX1 7 "GateWheel$Lexer" "text" "[B") (List.mem_of_getElem? (i := 3) rfl)) (fun _ h9 => h9) rfl dX1_advance_12 ?_
        refine lv_aload_n hx hb dX1_advance_15 rfl (lv_at hl 0 rfl) ?_
        refine va_get (D := (dC, dI)) (ci := 1) (v := .int my2) (C := RX1) (T := TX1) (N := 7) hx hb hts inX1_ hown hK hP 0 rfl rfl 2 (by decide) (hts (.fieldLink RX1 23 "GateWheel$Lexer" "next" "I") (List.mem_of_getElem? (i := 1) rfl)) (fun _ h9 => h9) rfl dX1_advance_16 ?_
        refine va_bald hx hb hK hP 1 0 rfl rfl (IV_in by57 (by decide) (by decide)) dX1_advance_19 ?_
        refine lv_topi (fun zy58 ezy58 => ?_)
        have hPc := hP.sub (ws' := []) [] rfl
        have hDc := hD.sub (ws' := []) [] (by decide) rfl
        have hKc := hK.sub (tys' := []) [] rfl
        have hFc := va_free (wc := []) hD hS hA [] rfl
        refine va_calli (va_runS (As := [.int zy58]) (rest := []) ⟨hx, hb, hml, hown, hts⟩ (s_X1_isBlank l dC dI zy58 HGWy3.size) (va_cwS 1 hts gX1_advance_X1_isBlank rfl rfl rfl (by decide +kernel) ⟨Nat.le_of_ble_eq_true rfl, Nat.le_of_ble_eq_true rfl⟩) ⟨fun a U g mk q => by obtain ⟨q0, q1, qP, qK, qD⟩ := q; exact ⟨q0, q1, qP, va_K.moved (u := U) (U := U.calling g mk a) (Vm.Alike.refl U.vm) qK, qD⟩, fun U hU hW => ⟨rfl, by rw [hU], by rw [hU]; exact hPc, va_K.moved hW.alike hKc, hDc.weaken (fun _ _ _ _ => trivial)⟩⟩ rfl rfl hl.1 rfl (lv_room (Nat.le_of_ble_eq_true rfl)) dX1_advance_20 ⟨Nat.le_of_ble_eq_true rfl, Nat.le_of_ble_eq_true rfl⟩) hS (fun q _ h => hFc q h) hFc (fun ry60 u t Hy59 locs ht hvm hw hB hz1 hk1 hS => ?_)
        obtain ⟨hP1, hK1, hD1⟩ := hB
        rw [ht] at hP1
        obtain ⟨hP, hD⟩ := va_join (wr := [(h0, .inr (1, [.ref h0_0, .int h0_1, .int my2, .int h0_3, .int h0_4, .long h0_5, .int h0_6])), (h0_0, .inl (yh0_0, 2000, .inl fh0_0))]) (w1 := []) hP hD [] [0, 1] rfl rfl (by decide) (by decide) hk1 hFc hP1 hD1
        have hP : va_P (dC, dI) vwCl [(h0, .inr (1, [.ref h0_0, .int h0_1, .int my2, .int h0_3, .int h0_4, .long h0_5, .int h0_6])), (h0_0, .inl (yh0_0, 2000, .inl fh0_0))] Hy59 := hP
        have hD : va_D A [(h0, .inr (1, [.ref h0_0, .int h0_1, .int my2, .int h0_3, .int h0_4, .long h0_5, .int h0_6])), (h0_0, .inl (yh0_0, 2000, .inl fh0_0))] := hD
        have by61 : IV 0 1 ry60 := hw
        refine lv_if_eq (tgt := 39) hx hb dX1_advance_23 (by decide) (fun cy62 => ?_) (fun cy62 => ?_)
        · have h_cy62 := cy62
          have by63 : IV 0 0 ry60 := IV_eq_l cy62 by61 (IV_mk (a := 0) (b := 0) (by decide) (by decide)) (by decide) (by decide)
          exact (eGy8 _ _ _ _ _).mp (jny9 _ _ _ hP hD hS (lv_sub hl [0] rfl))
        · have h_cy62 := cy62
          have by64 : IV 1 1 ry60 := IV_ne_lo cy62 by61 (IV_mk (a := 0) (b := 0) (by decide) (by decide)) (by decide) (by decide) (by decide)
          refine lv_aload_n hx hb dX1_advance_26 rfl (lv_at hl 0 rfl) ?_
          refine lv_dup hx hb dX1_advance_27 rfl ?_
          refine va_get (D := (dC, dI)) (ci := 1) (v := .int my2) (C := RX1) (T := TX1) (N := 7) hx hb hts inX1_ hown hK hP 0 rfl rfl 2 (by decide) (hts (.fieldLink RX1 23 "GateWheel$Lexer" "next" "I") (List.mem_of_getElem? (i := 1) rfl)) (fun _ h9 => h9) rfl dX1_advance_28 ?_
          refine lv_iconst (v := 1) hx hb dX1_advance_31 (by decide) ?_
          refine lv_iadd hx hb dX1_advance_32 ?_
          refine lv_topi (fun zy65 ezy65 => ?_)
          have by66 : IV 1 2000 zy65 := IV_add ezy65 by57 (IV_mk (a := 1) (b := 1) (by decide) (by decide)) (by decide) (by decide) (by decide) (by decide)
          refine va_put (D := (dC, dI)) (ci := 1) (v := .int zy65) (ty := .int) (C := RX1) (T := TX1) (N := 7) hx hb hts inX1_ tyX1 tyX1_ok nmX1 hown hK hP hD hS 0 rfl rfl 2 (by decide) (hts (.fieldLink RX1 23 "GateWheel$Lexer" "next" "I") (List.mem_of_getElem? (i := 1) rfl)) (fun _ h9 => h9) rfl (by decide +kernel) rfl rfl (Nat.le_of_ble_eq_true rfl) dX1_advance_33 (fun Hy67 locs hP hD hS => ?_)
          have hP : va_P (dC, dI) vwCl [(h0, .inr (1, [.ref h0_0, .int h0_1, .int zy65, .int h0_3, .int h0_4, .long h0_5, .int h0_6])), (h0_0, .inl (yh0_0, 2000, .inl fh0_0))] Hy67 := hP
          have hD : va_D A [(h0, .inr (1, [.ref h0_0, .int h0_1, .int zy65, .int h0_3, .int h0_4, .long h0_5, .int h0_6])), (h0_0, .inl (yh0_0, 2000, .inl fh0_0))] := hD
          refine lv_goto (tgt := 0) hx hb dX1_advance_36 (by decide) ?_
          exact (eGy4 _ _ _ _ _).mp (ihGWy3 zy65 _ _ _ (IV_u1 hmGWy3 (IV_step (c := 1) ezy65 by57 (by decide) (by decide) (by decide)) (by decide)) (IV_wk by66 (by decide) (by decide)) hP hD hS (lv_sub hl [0] rfl))
  exact lpy5 2001 h0_2 _ _ _ (IV_ui hy_h0_2 (by decide)) hy_h0_2 hP hD hS (lv_sub hl [0] rfl)
