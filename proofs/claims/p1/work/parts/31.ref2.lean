set_option maxHeartbeats 4000000 in
set_option maxRecDepth 100000 in
theorem c_X7_plain (l : Launch) (dC : Nat → ClassId) (dI : Nat → Nat → Nat) (p1 : Int64) (sz : Nat) : Met l yX7_plain wsX7_plain ({ frames := 0, cells := 0, slots := 0, locals := 0 }) (va_Pc [.long p1] (fun U => U.heap.size = sz ∧ va_P (dC, dI) vwCl [] U.heap ∧ va_K (dC, dI) vwCl [] U ∧ va_D (fun _ => True) [])) (va_Ql (fun (r : Int64) (_ : Unit) => True) (fun (_ : Unit) (t : State) => va_P (dC, dI) vwCl [] t.heap ∧ va_K (dC, dI) vwCl [] t ∧ va_D (va_A [] sz) []) (va_A [] sz)) 0 0 (va_A [] sz) := by
  refine Met.ofW (cc := cX7_plain) (maxL := 5) (ret := (some .long)) (by decide) rfl ?_
  intro p e s m args below meth c s₁ B hml hv
  obtain ⟨rfl, hsz, hP, hK, hD0⟩ := hv
  have hx := B.exec
  have hb := B.bytes
  have hr := B.returns
  have hts := atoms_spec (ws := wsX7_plain) B.pre
  have hown : s.vm.findClass RX7 = some m.cls := findClass_of_methodNamed B.named
  have hlocks := B.notSynchronized
  subst hsz
  have hD := hD0.self (sz := s.heap.size)
  generalize hAe : va_A [] s.heap.size = A at hD ⊢
  have hA : ∀ q : Nat, s.heap.size ≤ q → A q := fun q h => by rw [← hAe]; exact Or.inr h
  have hS : va_S A s.heap s.heap [] := va_S.rf
  have hP : va_P (dC, dI) vwCl [] s.heap := hP
  have hl := lv_entry ([.long p1]) (n := 5) (Nat.le_of_ble_eq_true rfl)
  rw [lg_entry_eq]
  generalize (lg_sl ([.long p1]) ++ List.replicate (5 - (lg_sl ([.long p1])).length) Slot.unset).toArray = ls at hl ⊢
  have hl : lv_has ls 5 [(0, .long p1)] := hl
  refine lv_lconst (v := 0) hx hb dX7_plain_0 (by decide) ?_
  refine lv_lstore_n (lv' := [(2, .long 0), (0, .long p1)]) hx hb dX7_plain_1 rfl hl (by decide) rfl (fun ls hl => ?_)
  refine lv_bipush (v := 56) hx hb dX7_plain_2 (by decide) ?_
  refine lv_istore (lv' := [(4, .int 56), (2, .long 0), (0, .long p1)]) hx hb dX7_plain_4 hl (by decide) rfl (fun ls hl => ?_)
  obtain ⟨n, hI⟩ : ∃ n : Nat, (n ≤ 8 ∧ (56 : Int32) = nI (8 * n) - 8) ∧ lv_has ls 5 [(4, .int 56), (2, .long 0), (0, .long p1)] := ⟨8, ⟨by omega, by decide⟩, lv_sub hl [0, 1, 2] rfl⟩
  clear hl
  generalize (56 : Int32) = x5 at hI
  generalize (0 : Int64) = x3 at hI
  induction n generalizing x5 x3 ls with
  | zero =>
    obtain ⟨⟨_, ex⟩, hl⟩ := hI
    refine lv_iload hx hb dX7_plain_6 (lv_at hl 0 rfl) ?_
    refine lv_if_lt (tgt := 44) hx hb dX7_plain_8 (by decide) (fun _ => ?_) (fun hc => absurd (by rw [ex]; decide) hc)
    refine lv_lload_n hx hb dX7_plain_44 rfl (lv_at hl 1 rfl) ?_
    have hP9 := hP.sub (ws' := []) [] rfl
    have hD9 := hD.sub (ws' := []) [] (by decide) rfl
    have hK9 := hK.sub (tys' := []) [] rfl
    exact W.lret (v := x3) hx hb hr (fun t ht hW => ⟨⟨x3, (), rfl, trivial, by rw [ht]; exact hP9, va_K.moved hW.alike hK9, hD9⟩, hS.F ht⟩) hS.2.2 dX7_plain_45
  | succ n ih =>
    obtain ⟨⟨hn, ex⟩, hl⟩ := hI
    refine lv_iload hx hb dX7_plain_6 (lv_at hl 0 rfl) ?_
    refine lv_if_lt (tgt := 44) hx hb dX7_plain_8 (by decide) (fun hc => absurd hc (by rw [ex]; exact fN_1 ⟨n, by omega⟩)) (fun _ => ?_)
    refine lv_lload_n hx hb dX7_plain_11 rfl (lv_at hl 2 rfl) ?_
    refine lv_iload hx hb dX7_plain_12 (lv_at hl 0 rfl) ?_
    refine lv_lshr hx hb dX7_plain_14 rfl ?_
    refine lv_topl (fun zx1 ezx1 => ?_)
    refine lv_ldc2 hx hb hown (hts (.constantLong RX7 295 (255)) (List.mem_of_getElem? (i := 1) rfl)) dX7_plain_15 ?_
    refine lv_land hx hb dX7_plain_18 ?_
    refine lv_topl (fun zx2 ezx2 => ?_)
    refine lv_lconst (v := 0) hx hb dX7_plain_19 (by decide) ?_
    refine W.lcmp hx hb dX7_plain_20 ?_
    refine lv_topi (fun zx3 ezx3 => ?_)
    refine lv_if_eq (tgt := 38) hx hb dX7_plain_21 (by decide) (fun cx4 => ?_) (fun cx4 => ?_)
    · obtain ⟨zx5, ezx5⟩ : ∃ y : Int32, y = x5 + Int32.ofInt (-8) := ⟨_, rfl⟩
      refine lv_iinc (v := zx5) (lv' := [(4, .int zx5), (2, .long x3), (0, .long p1)]) hx hb dX7_plain_38 hl (k := 0) rfl ezx5.symm (by decide) rfl (fun ls hl => ?_)
      refine lv_goto (tgt := 6) hx hb dX7_plain_41 (by decide) ?_
      exact ih _ _ _ ⟨⟨by omega, by rw [ezx5, ex]; exact fN_2 ⟨n, by omega⟩⟩, lv_sub hl [0, 1, 2] rfl⟩
    · refine lv_lload_n hx hb dX7_plain_24 rfl (lv_at hl 1 rfl) ?_
      refine lv_bipush (v := 8) hx hb dX7_plain_25 (by decide) ?_
      refine lv_lshl hx hb dX7_plain_27 rfl ?_
      refine lv_topl (fun zx6 ezx6 => ?_)
      refine lv_lload_n hx hb dX7_plain_28 rfl (lv_at hl 2 rfl) ?_
      refine lv_iload hx hb dX7_plain_29 (lv_at hl 0 rfl) ?_
      refine lv_lshr hx hb dX7_plain_31 rfl ?_
      refine lv_topl (fun zx7 ezx7 => ?_)
      refine lv_ldc2 hx hb hown (hts (.constantLong RX7 295 (255)) (List.mem_of_getElem? (i := 1) rfl)) dX7_plain_32 ?_
      refine lv_land hx hb dX7_plain_35 ?_
      refine lv_topl (fun zx8 ezx8 => ?_)
      refine lv_lor hx hb dX7_plain_36 ?_
      refine lv_topl (fun zx9 ezx9 => ?_)
      refine lv_lstore_n (lv' := [(2, .long zx9), (4, .int x5), (0, .long p1)]) hx hb dX7_plain_37 rfl hl (by decide) rfl (fun ls hl => ?_)
      obtain ⟨zx10, ezx10⟩ : ∃ y : Int32, y = x5 + Int32.ofInt (-8) := ⟨_, rfl⟩
      refine lv_iinc (v := zx10) (lv' := [(4, .int zx10), (2, .long zx9), (0, .long p1)]) hx hb dX7_plain_38 hl (k := 1) rfl ezx10.symm (by decide) rfl (fun ls hl => ?_)
      refine lv_goto (tgt := 6) hx hb dX7_plain_41 (by decide) ?_
      exact ih _ _ _ ⟨⟨by omega, by rw [ezx10, ex]; exact fN_2 ⟨n, by omega⟩⟩, lv_sub hl [0, 1, 2] rfl⟩

set_option maxHeartbeats 4000000 in
set_option maxRecDepth 100000 in
theorem c_X7_named (l : Launch) (dC : Nat → ClassId) (dI : Nat → Nat → Nat) (h0 : Nat) (h0_0 : Nat) (h0_1 : Nat) (h0_2 : Int32) (h0_3 : Int32) (h0_4 : Int32) (h0_5 : Int32) (h0_6 : Int32) (h0_7 : Int32) (h0_8 : Int32) (h0_9 : Int32) (h0_10 : Int64) (h0_11 : Nat) (h0_12 : Nat) (h0_13 : Nat) (h0_14 : Nat) (h0_15 : Nat) (h0_16 : Nat) (h0_17 : Nat) (h0_18 : Nat) (h0_19 : Nat) (h0_20 : Nat) (h0_21 : Nat) (h0_22 : Nat) (h0_23 : Nat) (h0_24 : Nat) (h0_25 : Nat) (h0_26 : Int32) (h0_27 : Int32) (h0_28 : Int32) (h0_30 : Int32) (h0_31 : Int32) (h0_32 : Nat) (h0_33 : Nat) (h0_34 : Nat) (h0_35 : Nat) (h0_36 : Nat) (h0_37 : Nat) (h0_38 : Nat) (h0_39 : Int32) (h0_40 : Nat) (h0_41 : Nat) (h0_42 : Nat) (h0_43 : Nat) (h0_44 : Nat) (h0_45 : Nat) (h0_46 : Int32) (h0_47 : Int32) (h0_48 : Int32) (p1 : Int64) (sz : Nat) : Met l yX7_named wsX7_named ({ frames := 1, cells := 0, slots := 0, locals := 24 }) (va_Pc [.ref h0, .long p1] (fun U => U.heap.size = sz ∧ va_P (dC, dI) vwCl [(h0, .inr (6, [.ref h0_0, .ref h0_1, .int h0_2, .int h0_3, .int h0_4, .int h0_5, .int h0_6, .int h0_7, .int h0_8, .int h0_9, .long h0_10, .ref h0_11, .ref h0_12, .ref h0_13, .ref h0_14, .ref h0_15, .ref h0_16, .ref h0_17, .ref h0_18, .ref h0_19, .ref h0_20, .ref h0_21, .ref h0_22, .ref h0_23, .ref h0_24, .ref h0_25, .int h0_26, .int h0_27, .int h0_28, .int 0, .int h0_30, .int h0_31, .ref h0_32, .ref h0_33, .ref h0_34, .ref h0_35, .ref h0_36, .ref h0_37, .ref h0_38, .int h0_39, .ref h0_40, .ref h0_41, .ref h0_42, .ref h0_43, .ref h0_44, .ref h0_45, .int h0_46, .int h0_47, .int h0_48]))] U.heap ∧ va_K (dC, dI) vwCl [] U ∧ va_D (fun _ => True) [(h0, .inr (6, [.ref h0_0, .ref h0_1, .int h0_2, .int h0_3, .int h0_4, .int h0_5, .int h0_6, .int h0_7, .int h0_8, .int h0_9, .long h0_10, .ref h0_11, .ref h0_12, .ref h0_13, .ref h0_14, .ref h0_15, .ref h0_16, .ref h0_17, .ref h0_18, .ref h0_19, .ref h0_20, .ref h0_21, .ref h0_22, .ref h0_23, .ref h0_24, .ref h0_25, .int h0_26, .int h0_27, .int h0_28, .int 0, .int h0_30, .int h0_31, .ref h0_32, .ref h0_33, .ref h0_34, .ref h0_35, .ref h0_36, .ref h0_37, .ref h0_38, .int h0_39, .ref h0_40, .ref h0_41, .ref h0_42, .ref h0_43, .ref h0_44, .ref h0_45, .int h0_46, .int h0_47, .int h0_48]))])) (va_Qi (fun (r : Int32) (_ : Unit) => r = (-1)) (fun (_ : Unit) (_ : State) => True) (va_A [(h0, .inr (6, [.ref h0_0, .ref h0_1, .int h0_2, .int h0_3, .int h0_4, .int h0_5, .int h0_6, .int h0_7, .int h0_8, .int h0_9, .long h0_10, .ref h0_11, .ref h0_12, .ref h0_13, .ref h0_14, .ref h0_15, .ref h0_16, .ref h0_17, .ref h0_18, .ref h0_19, .ref h0_20, .ref h0_21, .ref h0_22, .ref h0_23, .ref h0_24, .ref h0_25, .int h0_26, .int h0_27, .int h0_28, .int 0, .int h0_30, .int h0_31, .ref h0_32, .ref h0_33, .ref h0_34, .ref h0_35, .ref h0_36, .ref h0_37, .ref h0_38, .int h0_39, .ref h0_40, .ref h0_41, .ref h0_42, .ref h0_43, .ref h0_44, .ref h0_45, .int h0_46, .int h0_47, .int h0_48]))] sz)) 0 0 (va_A [(h0, .inr (6, [.ref h0_0, .ref h0_1, .int h0_2, .int h0_3, .int h0_4, .int h0_5, .int h0_6, .int h0_7, .int h0_8, .int h0_9, .long h0_10, .ref h0_11, .ref h0_12, .ref h0_13, .ref h0_14, .ref h0_15, .ref h0_16, .ref h0_17, .ref h0_18, .ref h0_19, .ref h0_20, .ref h0_21, .ref h0_22, .ref h0_23, .ref h0_24, .ref h0_25, .int h0_26, .int h0_27, .int h0_28, .int 0, .int h0_30, .int h0_31, .ref h0_32, .ref h0_33, .ref h0_34, .ref h0_35, .ref h0_36, .ref h0_37, .ref h0_38, .int h0_39, .ref h0_40, .ref h0_41, .ref h0_42, .ref h0_43, .ref h0_44, .ref h0_45, .int h0_46, .int h0_47, .int h0_48]))] sz) := by
  refine Met.ofW (cc := cX7_named) (maxL := 6) (ret := (some .int)) (by decide) rfl ?_
  intro p e s m args below meth c s₁ B hml hv
  obtain ⟨rfl, hsz, hP, hK, hD0⟩ := hv
  have hx := B.exec
  have hb := B.bytes
  have hr := B.returns
  have hts := atoms_spec (ws := wsX7_named) B.pre
  have hown : s.vm.findClass RX7 = some m.cls := findClass_of_methodNamed B.named
  have hlocks := B.notSynchronized
  have inX7_ : ∀ w ∈ wsX70, w ∈ wsX7_named := fun _ h => List.mem_cons_of_mem _ (List.mem_append_right _ h)
  subst hsz
  have hD := hD0.self (sz := s.heap.size)
  generalize hAe : va_A [(h0, .inr (6, [.ref h0_0, .ref h0_1, .int h0_2, .int h0_3, .int h0_4, .int h0_5, .int h0_6, .int h0_7, .int h0_8, .int h0_9, .long h0_10, .ref h0_11, .ref h0_12, .ref h0_13, .ref h0_14, .ref h0_15, .ref h0_16, .ref h0_17, .ref h0_18, .ref h0_19, .ref h0_20, .ref h0_21, .ref h0_22, .ref h0_23, .ref h0_24, .ref h0_25, .int h0_26, .int h0_27, .int h0_28, .int 0, .int h0_30, .int h0_31, .ref h0_32, .ref h0_33, .ref h0_34, .ref h0_35, .ref h0_36, .ref h0_37, .ref h0_38, .int h0_39, .ref h0_40, .ref h0_41, .ref h0_42, .ref h0_43, .ref h0_44, .ref h0_45, .int h0_46, .int h0_47, .int h0_48]))] s.heap.size = A at hD ⊢
  have hA : ∀ q : Nat, s.heap.size ≤ q → A q := fun q h => by rw [← hAe]; exact Or.inr h
  have hS : va_S A s.heap s.heap [] := va_S.rf
  have hP : va_P (dC, dI) vwCl [(h0, .inr (6, [.ref h0_0, .ref h0_1, .int h0_2, .int h0_3, .int h0_4, .int h0_5, .int h0_6, .int h0_7, .int h0_8, .int h0_9, .long h0_10, .ref h0_11, .ref h0_12, .ref h0_13, .ref h0_14, .ref h0_15, .ref h0_16, .ref h0_17, .ref h0_18, .ref h0_19, .ref h0_20, .ref h0_21, .ref h0_22, .ref h0_23, .ref h0_24, .ref h0_25, .int h0_26, .int h0_27, .int h0_28, .int 0, .int h0_30, .int h0_31, .ref h0_32, .ref h0_33, .ref h0_34, .ref h0_35, .ref h0_36, .ref h0_37, .ref h0_38, .int h0_39, .ref h0_40, .ref h0_41, .ref h0_42, .ref h0_43, .ref h0_44, .ref h0_45, .int h0_46, .int h0_47, .int h0_48]))] s.heap := hP
  have hl := lv_entry ([.ref h0, .long p1]) (n := 6) (Nat.le_of_ble_eq_true rfl)
  rw [lg_entry_eq]
  generalize (lg_sl ([.ref h0, .long p1]) ++ List.replicate (6 - (lg_sl ([.ref h0, .long p1])).length) Slot.unset).toArray = ls at hl ⊢
  have hl : lv_has ls 6 [(0, .ref h0), (1, .long p1)] := hl
  refine lv_lload_n hx hb dX7_named_0 rfl (lv_at hl 1 rfl) ?_
  have hPc := hP.sub (ws' := []) [] rfl
  have hDc := hD.sub (ws' := []) [] (by decide) rfl
  have hKc := hK.sub (tys' := []) [] rfl
  have hFc := va_free (wc := []) hD hS hA [] rfl
  refine va_calll (va_runS (As := [.long p1]) (rest := []) ⟨hx, hb, hml, hown, hts⟩ (c_X7_plain l dC dI p1 s.heap.size) (va_cwS 1 hts gX7_named_X7_plain rfl rfl rfl (by decide +kernel) ⟨Nat.le_of_ble_eq_true rfl, Nat.le_of_ble_eq_true rfl⟩) ⟨fun a U g mk q => by obtain ⟨q0, q1, qP, qK, qD⟩ := q; exact ⟨q0, q1, qP, va_K.moved (u := U) (U := U.calling g mk a) (Vm.Alike.refl U.vm) qK, qD⟩, fun U hU hW => ⟨rfl, by rw [hU], by rw [hU]; exact hPc, va_K.moved hW.alike hKc, hDc.weaken (fun _ _ _ _ => trivial)⟩⟩ rfl rfl hl.1 rfl (lv_room (Nat.le_of_ble_eq_true rfl)) dX7_named_1 ⟨Nat.le_of_ble_eq_true rfl, Nat.le_of_ble_eq_true rfl⟩) hS (fun q _ h => hFc q h) hFc (fun rx2 u t Hx1 locs ht hvm hw hB hz1 hk1 hS => ?_)
  obtain ⟨hP1, hK1, hD1⟩ := hB
  rw [ht] at hP1
  have hK1 := va_K.moved hvm.symm hK1
  obtain ⟨hP, hD⟩ := va_join (wr := [(h0, .inr (6, [.ref h0_0, .ref h0_1, .int h0_2, .int h0_3, .int h0_4, .int h0_5, .int h0_6, .int h0_7, .int h0_8, .int h0_9, .long h0_10, .ref h0_11, .ref h0_12, .ref h0_13, .ref h0_14, .ref h0_15, .ref h0_16, .ref h0_17, .ref h0_18, .ref h0_19, .ref h0_20, .ref h0_21, .ref h0_22, .ref h0_23, .ref h0_24, .ref h0_25, .int h0_26, .int h0_27, .int h0_28, .int 0, .int h0_30, .int h0_31, .ref h0_32, .ref h0_33, .ref h0_34, .ref h0_35, .ref h0_36, .ref h0_37, .ref h0_38, .int h0_39, .ref h0_40, .ref h0_41, .ref h0_42, .ref h0_43, .ref h0_44, .ref h0_45, .int h0_46, .int h0_47, .int h0_48]))]) (w1 := []) hP hD [] [0] rfl rfl (by decide) (by decide) hk1 hFc hP1 hD1
  have hK := (hK.sub (tys' := []) [] rfl).app hK1
  have hP : va_P (dC, dI) vwCl [(h0, .inr (6, [.ref h0_0, .ref h0_1, .int h0_2, .int h0_3, .int h0_4, .int h0_5, .int h0_6, .int h0_7, .int h0_8, .int h0_9, .long h0_10, .ref h0_11, .ref h0_12, .ref h0_13, .ref h0_14, .ref h0_15, .ref h0_16, .ref h0_17, .ref h0_18, .ref h0_19, .ref h0_20, .ref h0_21, .ref h0_22, .ref h0_23, .ref h0_24, .ref h0_25, .int h0_26, .int h0_27, .int h0_28, .int 0, .int h0_30, .int h0_31, .ref h0_32, .ref h0_33, .ref h0_34, .ref h0_35, .ref h0_36, .ref h0_37, .ref h0_38, .int h0_39, .ref h0_40, .ref h0_41, .ref h0_42, .ref h0_43, .ref h0_44, .ref h0_45, .int h0_46, .int h0_47, .int h0_48]))] Hx1 := hP
  have hD : va_D A [(h0, .inr (6, [.ref h0_0, .ref h0_1, .int h0_2, .int h0_3, .int h0_4, .int h0_5, .int h0_6, .int h0_7, .int h0_8, .int h0_9, .long h0_10, .ref h0_11, .ref h0_12, .ref h0_13, .ref h0_14, .ref h0_15, .ref h0_16, .ref h0_17, .ref h0_18, .ref h0_19, .ref h0_20, .ref h0_21, .ref h0_22, .ref h0_23, .ref h0_24, .ref h0_25, .int h0_26, .int h0_27, .int h0_28, .int 0, .int h0_30, .int h0_31, .ref h0_32, .ref h0_33, .ref h0_34, .ref h0_35, .ref h0_36, .ref h0_37, .ref h0_38, .int h0_39, .ref h0_40, .ref h0_41, .ref h0_42, .ref h0_43, .ref h0_44, .ref h0_45, .int h0_46, .int h0_47, .int h0_48]))] := hD
  have hK : va_K (dC, dI) vwCl [] s := hK
  have wx3 := hw
  refine lv_lstore_n (lv' := [(3, .long rx2), (0, .ref h0), (1, .long p1)]) hx hb dX7_named_4 rfl hl (by decide) rfl (fun ls hl => ?_)
  refine lv_iconst (v := 0) hx hb dX7_named_5 (by decide) ?_
  refine lv_istore (lv' := [(5, .int 0), (3, .long rx2), (0, .ref h0), (1, .long p1)]) hx hb dX7_named_6 hl (by decide) rfl (fun ls hl => ?_)
  refine lv_iload hx hb dX7_named_8 (lv_at hl 0 rfl) ?_
  refine lv_aload_n hx hb dX7_named_10 rfl (lv_at hl 2 rfl) ?_
  refine va_get (D := (dC, dI)) (ci := 6) (v := .int 0) (C := RX7) (T := TX7) (N := 49) hx hb hts inX7_ hown hK hP 0 rfl rfl 29 (by decide) (hts (.fieldLink RX7 261 "GateWheelModel" "nodes" "I") (List.mem_of_getElem? (i := 1) rfl)) (fun _ h9 => h9) rfl dX7_named_11 ?_
  refine lv_icmp_ge (tgt := 46) hx hb dX7_named_14 (by decide) (fun _ => ?_) (fun hc => absurd (by decide) hc)
  refine lv_iconst (v := (-1)) hx hb dX7_named_46 (by decide) ?_
  exact W.iret (v := (-1)) hx hb hr (fun t ht hW => ⟨⟨(-1), (), rfl, rfl, trivial⟩, hS.F ht⟩) hS.2.2 dX7_named_47

set_option maxHeartbeats 4000000 in
set_option maxRecDepth 100000 in
theorem c_X7_put (l : Launch) (dC : Nat → ClassId) (dI : Nat → Nat → Nat) (h0 : Nat) (h0_0 : Nat) (h0_1 : Nat) (h0_2 : Int32) (h0_3 : Int32) (h0_4 : Int32) (h0_5 : Int32) (h0_6 : Int32) (h0_7 : Int32) (h0_8 : Int32) (h0_9 : Int32) (h0_10 : Int64) (h0_11 : Nat) (h0_12 : Nat) (h0_13 : Nat) (h0_14 : Nat) (h0_15 : Nat) (h0_16 : Nat) (h0_17 : Nat) (h0_18 : Nat) (h0_19 : Nat) (h0_20 : Nat) (h0_21 : Nat) (h0_22 : Nat) (h0_23 : Nat) (h0_24 : Nat) (h0_25 : Nat) (h0_26 : Int32) (h0_27 : Int32) (h0_28 : Int32) (h0_29 : Int32) (h0_30 : Int32) (h0_31 : Int32) (h0_32 : Nat) (h0_33 : Nat) (h0_34 : Nat) (h0_35 : Nat) (h0_36 : Nat) (h0_37 : Nat) (h0_38 : Nat) (h0_39 : Int32) (h0_40 : Nat) (h0_41 : Nat) (h0_42 : Nat) (h0_43 : Nat) (h0_44 : Nat) (h0_45 : Nat) (h0_47 : Int32) (h0_48 : Int32) (p1 : Int32) (p2 : Int32) (sz : Nat) : Met l yX7_put wsX7_put ({ frames := 0, cells := 0, slots := 0, locals := 0 }) (va_Pc [.ref h0, .int p1, .int p2] (fun U => U.heap.size = sz ∧ va_P (dC, dI) vwCl [(h0, .inr (6, [.ref h0_0, .ref h0_1, .int h0_2, .int h0_3, .int h0_4, .int h0_5, .int h0_6, .int h0_7, .int h0_8, .int h0_9, .long h0_10, .ref h0_11, .ref h0_12, .ref h0_13, .ref h0_14, .ref h0_15, .ref h0_16, .ref h0_17, .ref h0_18, .ref h0_19, .ref h0_20, .ref h0_21, .ref h0_22, .ref h0_23, .ref h0_24, .ref h0_25, .int h0_26, .int h0_27, .int h0_28, .int h0_29, .int h0_30, .int h0_31, .ref h0_32, .ref h0_33, .ref h0_34, .ref h0_35, .ref h0_36, .ref h0_37, .ref h0_38, .int h0_39, .ref h0_40, .ref h0_41, .ref h0_42, .ref h0_43, .ref h0_44, .ref h0_45, .int 0, .int h0_47, .int h0_48]))] U.heap ∧ va_K (dC, dI) vwCl [] U ∧ va_D (fun _ => True) [(h0, .inr (6, [.ref h0_0, .ref h0_1, .int h0_2, .int h0_3, .int h0_4, .int h0_5, .int h0_6, .int h0_7, .int h0_8, .int h0_9, .long h0_10, .ref h0_11, .ref h0_12, .ref h0_13, .ref h0_14, .ref h0_15, .ref h0_16, .ref h0_17, .ref h0_18, .ref h0_19, .ref h0_20, .ref h0_21, .ref h0_22, .ref h0_23, .ref h0_24, .ref h0_25, .int h0_26, .int h0_27, .int h0_28, .int h0_29, .int h0_30, .int h0_31, .ref h0_32, .ref h0_33, .ref h0_34, .ref h0_35, .ref h0_36, .ref h0_37, .ref h0_38, .int h0_39, .ref h0_40, .ref h0_41, .ref h0_42, .ref h0_43, .ref h0_44, .ref h0_45, .int 0, .int h0_47, .int h0_48]))])) (va_Qi (fun (r : Int32) (_ : Unit) => r = 0) (fun (_ : Unit) (_ : State) => True) (va_A [(h0, .inr (6, [.ref h0_0, .ref h0_1, .int h0_2, .int h0_3, .int h0_4, .int h0_5, .int h0_6, .int h0_7, .int h0_8, .int h0_9, .long h0_10, .ref h0_11, .ref h0_12, .ref h0_13, .ref h0_14, .ref h0_15, .ref h0_16, .ref h0_17, .ref h0_18, .ref h0_19, .ref h0_20, .ref h0_21, .ref h0_22, .ref h0_23, .ref h0_24, .ref h0_25, .int h0_26, .int h0_27, .int h0_28, .int h0_29, .int h0_30, .int h0_31, .ref h0_32, .ref h0_33, .ref h0_34, .ref h0_35, .ref h0_36, .ref h0_37, .ref h0_38, .int h0_39, .ref h0_40, .ref h0_41, .ref h0_42, .ref h0_43, .ref h0_44, .ref h0_45, .int 0, .int h0_47, .int h0_48]))] sz)) 0 0 (va_A [(h0, .inr (6, [.ref h0_0, .ref h0_1, .int h0_2, .int h0_3, .int h0_4, .int h0_5, .int h0_6, .int h0_7, .int h0_8, .int h0_9, .long h0_10, .ref h0_11, .ref h0_12, .ref h0_13, .ref h0_14, .ref h0_15, .ref h0_16, .ref h0_17, .ref h0_18, .ref h0_19, .ref h0_20, .ref h0_21, .ref h0_22, .ref h0_23, .ref h0_24, .ref h0_25, .int h0_26, .int h0_27, .int h0_28, .int h0_29, .int h0_30, .int h0_31, .ref h0_32, .ref h0_33, .ref h0_34, .ref h0_35, .ref h0_36, .ref h0_37, .ref h0_38, .int h0_39, .ref h0_40, .ref h0_41, .ref h0_42, .ref h0_43, .ref h0_44, .ref h0_45, .int 0, .int h0_47, .int h0_48]))] sz) := by
  refine Met.ofW (cc := cX7_put) (maxL := 3) (ret := (some .boolean)) (by decide) rfl ?_
  intro p e s m args below meth c s₁ B hml hv
  obtain ⟨rfl, hsz, hP, hK, hD0⟩ := hv
  have hx := B.exec
  have hb := B.bytes
  have hr := B.returns
  have hts := atoms_spec (ws := wsX7_put) B.pre
  have hown : s.vm.findClass RX7 = some m.cls := findClass_of_methodNamed B.named
  have hlocks := B.notSynchronized
  have inX7_ : ∀ w ∈ wsX70, w ∈ wsX7_put := fun _ h => List.mem_cons_of_mem _ (List.mem_append_right _ h)
  subst hsz
  have hD := hD0.self (sz := s.heap.size)
  generalize hAe : va_A [(h0, .inr (6, [.ref h0_0, .ref h0_1, .int h0_2, .int h0_3, .int h0_4, .int h0_5, .int h0_6, .int h0_7, .int h0_8, .int h0_9, .long h0_10, .ref h0_11, .ref h0_12, .ref h0_13, .ref h0_14, .ref h0_15, .ref h0_16, .ref h0_17, .ref h0_18, .ref h0_19, .ref h0_20, .ref h0_21, .ref h0_22, .ref h0_23, .ref h0_24, .ref h0_25, .int h0_26, .int h0_27, .int h0_28, .int h0_29, .int h0_30, .int h0_31, .ref h0_32, .ref h0_33, .ref h0_34, .ref h0_35, .ref h0_36, .ref h0_37, .ref h0_38, .int h0_39, .ref h0_40, .ref h0_41, .ref h0_42, .ref h0_43, .ref h0_44, .ref h0_45, .int 0, .int h0_47, .int h0_48]))] s.heap.size = A at hD ⊢
  have hA : ∀ q : Nat, s.heap.size ≤ q → A q := fun q h => by rw [← hAe]; exact Or.inr h
  have hS : va_S A s.heap s.heap [] := va_S.rf
  have hP : va_P (dC, dI) vwCl [(h0, .inr (6, [.ref h0_0, .ref h0_1, .int h0_2, .int h0_3, .int h0_4, .int h0_5, .int h0_6, .int h0_7, .int h0_8, .int h0_9, .long h0_10, .ref h0_11, .ref h0_12, .ref h0_13, .ref h0_14, .ref h0_15, .ref h0_16, .ref h0_17, .ref h0_18, .ref h0_19, .ref h0_20, .ref h0_21, .ref h0_22, .ref h0_23, .ref h0_24, .ref h0_25, .int h0_26, .int h0_27, .int h0_28, .int h0_29, .int h0_30, .int h0_31, .ref h0_32, .ref h0_33, .ref h0_34, .ref h0_35, .ref h0_36, .ref h0_37, .ref h0_38, .int h0_39, .ref h0_40, .ref h0_41, .ref h0_42, .ref h0_43, .ref h0_44, .ref h0_45, .int 0, .int h0_47, .int h0_48]))] s.heap := hP
  have hl := lv_entry ([.ref h0, .int p1, .int p2]) (n := 3) (Nat.le_of_ble_eq_true rfl)
  rw [lg_entry_eq]
  generalize (lg_sl ([.ref h0, .int p1, .int p2]) ++ List.replicate (3 - (lg_sl ([.ref h0, .int p1, .int p2])).length) Slot.unset).toArray = ls at hl ⊢
  have hl : lv_has ls 3 [(0, .ref h0), (1, .int p1), (2, .int p2)] := hl
  refine lv_aload_n hx hb dX7_put_0 rfl (lv_at hl 0 rfl) ?_
  refine va_get (D := (dC, dI)) (ci := 6) (v := .int 0) (C := RX7) (T := TX7) (N := 49) hx hb hts inX7_ hown hK hP 0 rfl rfl 46 (by decide) (hts (.fieldLink RX7 267 "GateWheelModel" "hasWheel" "Z") (List.mem_of_getElem? (i := 1) rfl)) (fun _ h9 => h9) rfl dX7_put_1 ?_
  refine lv_if_eq (tgt := 32) hx hb dX7_put_4 (by decide) (fun _ => ?_) (fun hc => absurd (by decide) hc)
  refine lv_iconst (v := 0) hx hb dX7_put_32 (by decide) ?_
  exact W.zret (v := 0) hx hb hr (by decide) (fun t ht hW => ⟨⟨0, (), rfl, rfl, trivial⟩, hS.F ht⟩) hS.2.2 dX7_put_33

set_option maxHeartbeats 4000000 in
set_option maxRecDepth 100000 in
theorem c_X7_run (l : Launch) (dC : Nat → ClassId) (dI : Nat → Nat → Nat) (h0 : Nat) (h0_0 : Nat) (h0_1 : Nat) (h0_2 : Int32) (h0_3 : Int32) (h0_4 : Int32) (h0_5 : Int32) (h0_6 : Int32) (h0_7 : Int32) (h0_8 : Int32) (h0_9 : Int32) (h0_10 : Int64) (h0_11 : Nat) (h0_12 : Nat) (h0_13 : Nat) (h0_14 : Nat) (h0_15 : Nat) (h0_16 : Nat) (h0_17 : Nat) (h0_18 : Nat) (h0_19 : Nat) (h0_20 : Nat) (h0_21 : Nat) (h0_22 : Nat) (h0_23 : Nat) (h0_24 : Nat) (h0_25 : Nat) (h0_26 : Int32) (h0_27 : Int32) (h0_28 : Int32) (h0_29 : Int32) (h0_30 : Int32) (h0_31 : Int32) (h0_32 : Nat) (h0_33 : Nat) (h0_34 : Nat) (h0_35 : Nat) (h0_36 : Nat) (h0_37 : Nat) (h0_38 : Nat) (h0_39 : Int32) (h0_40 : Nat) (h0_41 : Nat) (h0_42 : Nat) (h0_43 : Nat) (h0_44 : Nat) (h0_45 : Nat) (h0_47 : Int32) (h0_48 : Int32) (p1 : Int32) (sz : Nat) : Met l yX7_run wsX7_run ({ frames := 0, cells := 0, slots := 0, locals := 0 }) (va_Pc [.ref h0, .int p1] (fun U => U.heap.size = sz ∧ va_P (dC, dI) vwCl [(h0, .inr (6, [.ref h0_0, .ref h0_1, .int h0_2, .int h0_3, .int h0_4, .int h0_5, .int h0_6, .int h0_7, .int h0_8, .int h0_9, .long h0_10, .ref h0_11, .ref h0_12, .ref h0_13, .ref h0_14, .ref h0_15, .ref h0_16, .ref h0_17, .ref h0_18, .ref h0_19, .ref h0_20, .ref h0_21, .ref h0_22, .ref h0_23, .ref h0_24, .ref h0_25, .int h0_26, .int h0_27, .int h0_28, .int h0_29, .int h0_30, .int h0_31, .ref h0_32, .ref h0_33, .ref h0_34, .ref h0_35, .ref h0_36, .ref h0_37, .ref h0_38, .int h0_39, .ref h0_40, .ref h0_41, .ref h0_42, .ref h0_43, .ref h0_44, .ref h0_45, .int 0, .int h0_47, .int h0_48]))] U.heap ∧ va_K (dC, dI) vwCl [] U ∧ va_D (fun _ => True) [(h0, .inr (6, [.ref h0_0, .ref h0_1, .int h0_2, .int h0_3, .int h0_4, .int h0_5, .int h0_6, .int h0_7, .int h0_8, .int h0_9, .long h0_10, .ref h0_11, .ref h0_12, .ref h0_13, .ref h0_14, .ref h0_15, .ref h0_16, .ref h0_17, .ref h0_18, .ref h0_19, .ref h0_20, .ref h0_21, .ref h0_22, .ref h0_23, .ref h0_24, .ref h0_25, .int h0_26, .int h0_27, .int h0_28, .int h0_29, .int h0_30, .int h0_31, .ref h0_32, .ref h0_33, .ref h0_34, .ref h0_35, .ref h0_36, .ref h0_37, .ref h0_38, .int h0_39, .ref h0_40, .ref h0_41, .ref h0_42, .ref h0_43, .ref h0_44, .ref h0_45, .int 0, .int h0_47, .int h0_48]))])) (va_Qi (fun (r : Int32) (_ : Unit) => r = (-1)) (fun (_ : Unit) (_ : State) => True) (va_A [(h0, .inr (6, [.ref h0_0, .ref h0_1, .int h0_2, .int h0_3, .int h0_4, .int h0_5, .int h0_6, .int h0_7, .int h0_8, .int h0_9, .long h0_10, .ref h0_11, .ref h0_12, .ref h0_13, .ref h0_14, .ref h0_15, .ref h0_16, .ref h0_17, .ref h0_18, .ref h0_19, .ref h0_20, .ref h0_21, .ref h0_22, .ref h0_23, .ref h0_24, .ref h0_25, .int h0_26, .int h0_27, .int h0_28, .int h0_29, .int h0_30, .int h0_31, .ref h0_32, .ref h0_33, .ref h0_34, .ref h0_35, .ref h0_36, .ref h0_37, .ref h0_38, .int h0_39, .ref h0_40, .ref h0_41, .ref h0_42, .ref h0_43, .ref h0_44, .ref h0_45, .int 0, .int h0_47, .int h0_48]))] sz)) 0 0 (va_A [(h0, .inr (6, [.ref h0_0, .ref h0_1, .int h0_2, .int h0_3, .int h0_4, .int h0_5, .int h0_6, .int h0_7, .int h0_8, .int h0_9, .long h0_10, .ref h0_11, .ref h0_12, .ref h0_13, .ref h0_14, .ref h0_15, .ref h0_16, .ref h0_17, .ref h0_18, .ref h0_19, .ref h0_20, .ref h0_21, .ref h0_22, .ref h0_23, .ref h0_24, .ref h0_25, .int h0_26, .int h0_27, .int h0_28, .int h0_29, .int h0_30, .int h0_31, .ref h0_32, .ref h0_33, .ref h0_34, .ref h0_35, .ref h0_36, .ref h0_37, .ref h0_38, .int h0_39, .ref h0_40, .ref h0_41, .ref h0_42, .ref h0_43, .ref h0_44, .ref h0_45, .int 0, .int h0_47, .int h0_48]))] sz) := by
  refine Met.ofW (cc := cX7_run) (maxL := 7) (ret := (some .int)) (by decide) rfl ?_
  intro p e s m args below meth c s₁ B hml hv
  obtain ⟨rfl, hsz, hP, hK, hD0⟩ := hv
  have hx := B.exec
  have hb := B.bytes
  have hr := B.returns
  have hts := atoms_spec (ws := wsX7_run) B.pre
  have hown : s.vm.findClass RX7 = some m.cls := findClass_of_methodNamed B.named
  have hlocks := B.notSynchronized
  have inX7_ : ∀ w ∈ wsX70, w ∈ wsX7_run := fun _ h => List.mem_cons_of_mem _ (List.mem_append_right _ h)
  subst hsz
  have hD := hD0.self (sz := s.heap.size)
  generalize hAe : va_A [(h0, .inr (6, [.ref h0_0, .ref h0_1, .int h0_2, .int h0_3, .int h0_4, .int h0_5, .int h0_6, .int h0_7, .int h0_8, .int h0_9, .long h0_10, .ref h0_11, .ref h0_12, .ref h0_13, .ref h0_14, .ref h0_15, .ref h0_16, .ref h0_17, .ref h0_18, .ref h0_19, .ref h0_20, .ref h0_21, .ref h0_22, .ref h0_23, .ref h0_24, .ref h0_25, .int h0_26, .int h0_27, .int h0_28, .int h0_29, .int h0_30, .int h0_31, .ref h0_32, .ref h0_33, .ref h0_34, .ref h0_35, .ref h0_36, .ref h0_37, .ref h0_38, .int h0_39, .ref h0_40, .ref h0_41, .ref h0_42, .ref h0_43, .ref h0_44, .ref h0_45, .int 0, .int h0_47, .int h0_48]))] s.heap.size = A at hD ⊢
  have hA : ∀ q : Nat, s.heap.size ≤ q → A q := fun q h => by rw [← hAe]; exact Or.inr h
  have hS : va_S A s.heap s.heap [] := va_S.rf
  have hP : va_P (dC, dI) vwCl [(h0, .inr (6, [.ref h0_0, .ref h0_1, .int h0_2, .int h0_3, .int h0_4, .int h0_5, .int h0_6, .int h0_7, .int h0_8, .int h0_9, .long h0_10, .ref h0_11, .ref h0_12, .ref h0_13, .ref h0_14, .ref h0_15, .ref h0_16, .ref h0_17, .ref h0_18, .ref h0_19, .ref h0_20, .ref h0_21, .ref h0_22, .ref h0_23, .ref h0_24, .ref h0_25, .int h0_26, .int h0_27, .int h0_28, .int h0_29, .int h0_30, .int h0_31, .ref h0_32, .ref h0_33, .ref h0_34, .ref h0_35, .ref h0_36, .ref h0_37, .ref h0_38, .int h0_39, .ref h0_40, .ref h0_41, .ref h0_42, .ref h0_43, .ref h0_44, .ref h0_45, .int 0, .int h0_47, .int h0_48]))] s.heap := hP
  have hl := lv_entry ([.ref h0, .int p1]) (n := 7) (Nat.le_of_ble_eq_true rfl)
  rw [lg_entry_eq]
  generalize (lg_sl ([.ref h0, .int p1]) ++ List.replicate (7 - (lg_sl ([.ref h0, .int p1])).length) Slot.unset).toArray = ls at hl ⊢
  have hl : lv_has ls 7 [(0, .ref h0), (1, .int p1)] := hl
  refine lv_aload_n hx hb dX7_run_0 rfl (lv_at hl 0 rfl) ?_
  refine va_get (D := (dC, dI)) (ci := 6) (v := .int 0) (C := RX7) (T := TX7) (N := 49) hx hb hts inX7_ hown hK hP 0 rfl rfl 46 (by decide) (hts (.fieldLink RX7 267 "GateWheelModel" "hasWheel" "Z") (List.mem_of_getElem? (i := 1) rfl)) (fun _ h9 => h9) rfl dX7_run_1 ?_
  refine lv_if_eq (tgt := 18) hx hb dX7_run_4 (by decide) (fun _ => ?_) (fun hc => absurd (by decide) hc)
  refine lv_iconst (v := (-1)) hx hb dX7_run_18 (by decide) ?_
  exact W.iret (v := (-1)) hx hb hr (fun t ht hW => ⟨⟨(-1), (), rfl, rfl, trivial⟩, hS.F ht⟩) hS.2.2 dX7_run_19

set_option maxHeartbeats 4000000 in
set_option maxRecDepth 100000 in
theorem c_X7_on (l : Launch) (dC : Nat → ClassId) (dI : Nat → Nat → Nat) (h0 : Nat) (h0_0 : Nat) (h0_1 : Nat) (h0_2 : Int32) (h0_3 : Int32) (h0_4 : Int32) (h0_5 : Int32) (h0_6 : Int32) (h0_7 : Int32) (h0_8 : Int32) (h0_9 : Int32) (h0_10 : Int64) (h0_11 : Nat) (h0_12 : Nat) (h0_13 : Nat) (h0_14 : Nat) (h0_15 : Nat) (h0_16 : Nat) (h0_17 : Nat) (h0_18 : Nat) (h0_19 : Nat) (h0_20 : Nat) (h0_21 : Nat) (h0_22 : Nat) (h0_23 : Nat) (h0_24 : Nat) (h0_25 : Nat) (h0_26 : Int32) (h0_27 : Int32) (h0_28 : Int32) (h0_29 : Int32) (h0_30 : Int32) (h0_31 : Int32) (h0_32 : Nat) (h0_33 : Nat) (h0_34 : Nat) (h0_35 : Nat) (h0_36 : Nat) (h0_37 : Nat) (h0_38 : Nat) (h0_39 : Int32) (h0_40 : Nat) (h0_41 : Nat) (h0_42 : Nat) (h0_43 : Nat) (h0_44 : Nat) (h0_45 : Nat) (h0_47 : Int32) (h0_48 : Int32) (p1 : Int32) (sz : Nat) : Met l yX7_on wsX7_on ({ frames := 0, cells := 0, slots := 0, locals := 0 }) (va_Pc [.ref h0, .int p1] (fun U => U.heap.size = sz ∧ va_P (dC, dI) vwCl [(h0, .inr (6, [.ref h0_0, .ref h0_1, .int h0_2, .int h0_3, .int h0_4, .int h0_5, .int h0_6, .int h0_7, .int h0_8, .int h0_9, .long h0_10, .ref h0_11, .ref h0_12, .ref h0_13, .ref h0_14, .ref h0_15, .ref h0_16, .ref h0_17, .ref h0_18, .ref h0_19, .ref h0_20, .ref h0_21, .ref h0_22, .ref h0_23, .ref h0_24, .ref h0_25, .int h0_26, .int h0_27, .int h0_28, .int h0_29, .int h0_30, .int h0_31, .ref h0_32, .ref h0_33, .ref h0_34, .ref h0_35, .ref h0_36, .ref h0_37, .ref h0_38, .int h0_39, .ref h0_40, .ref h0_41, .ref h0_42, .ref h0_43, .ref h0_44, .ref h0_45, .int 0, .int h0_47, .int h0_48]))] U.heap ∧ va_K (dC, dI) vwCl [] U ∧ va_D (fun _ => True) [(h0, .inr (6, [.ref h0_0, .ref h0_1, .int h0_2, .int h0_3, .int h0_4, .int h0_5, .int h0_6, .int h0_7, .int h0_8, .int h0_9, .long h0_10, .ref h0_11, .ref h0_12, .ref h0_13, .ref h0_14, .ref h0_15, .ref h0_16, .ref h0_17, .ref h0_18, .ref h0_19, .ref h0_20, .ref h0_21, .ref h0_22, .ref h0_23, .ref h0_24, .ref h0_25, .int h0_26, .int h0_27, .int h0_28, .int h0_29, .int h0_30, .int h0_31, .ref h0_32, .ref h0_33, .ref h0_34, .ref h0_35, .ref h0_36, .ref h0_37, .ref h0_38, .int h0_39, .ref h0_40, .ref h0_41, .ref h0_42, .ref h0_43, .ref h0_44, .ref h0_45, .int 0, .int h0_47, .int h0_48]))])) (va_Qi (fun (r : Int32) (_ : Unit) => r = (-1)) (fun (_ : Unit) (_ : State) => True) (va_A [(h0, .inr (6, [.ref h0_0, .ref h0_1, .int h0_2, .int h0_3, .int h0_4, .int h0_5, .int h0_6, .int h0_7, .int h0_8, .int h0_9, .long h0_10, .ref h0_11, .ref h0_12, .ref h0_13, .ref h0_14, .ref h0_15, .ref h0_16, .ref h0_17, .ref h0_18, .ref h0_19, .ref h0_20, .ref h0_21, .ref h0_22, .ref h0_23, .ref h0_24, .ref h0_25, .int h0_26, .int h0_27, .int h0_28, .int h0_29, .int h0_30, .int h0_31, .ref h0_32, .ref h0_33, .ref h0_34, .ref h0_35, .ref h0_36, .ref h0_37, .ref h0_38, .int h0_39, .ref h0_40, .ref h0_41, .ref h0_42, .ref h0_43, .ref h0_44, .ref h0_45, .int 0, .int h0_47, .int h0_48]))] sz)) 0 0 (va_A [(h0, .inr (6, [.ref h0_0, .ref h0_1, .int h0_2, .int h0_3, .int h0_4, .int h0_5, .int h0_6, .int h0_7, .int h0_8, .int h0_9, .long h0_10, .ref h0_11, .ref h0_12, .ref h0_13, .ref h0_14, .ref h0_15, .ref h0_16, .ref h0_17, .ref h0_18, .ref h0_19, .ref h0_20, .ref h0_21, .ref h0_22, .ref h0_23, .ref h0_24, .ref h0_25, .int h0_26, .int h0_27, .int h0_28, .int h0_29, .int h0_30, .int h0_31, .ref h0_32, .ref h0_33, .ref h0_34, .ref h0_35, .ref h0_36, .ref h0_37, .ref h0_38, .int h0_39, .ref h0_40, .ref h0_41, .ref h0_42, .ref h0_43, .ref h0_44, .ref h0_45, .int 0, .int h0_47, .int h0_48]))] sz) := by
  refine Met.ofW (cc := cX7_on) (maxL := 2) (ret := (some .int)) (by decide) rfl ?_
  intro p e s m args below meth c s₁ B hml hv
  obtain ⟨rfl, hsz, hP, hK, hD0⟩ := hv
  have hx := B.exec
  have hb := B.bytes
  have hr := B.returns
  have hts := atoms_spec (ws := wsX7_on) B.pre
  have hown : s.vm.findClass RX7 = some m.cls := findClass_of_methodNamed B.named
  have hlocks := B.notSynchronized
  have inX7_ : ∀ w ∈ wsX70, w ∈ wsX7_on := fun _ h => List.mem_cons_of_mem _ (List.mem_append_right _ h)
  subst hsz
  have hD := hD0.self (sz := s.heap.size)
  generalize hAe : va_A [(h0, .inr (6, [.ref h0_0, .ref h0_1, .int h0_2, .int h0_3, .int h0_4, .int h0_5, .int h0_6, .int h0_7, .int h0_8, .int h0_9, .long h0_10, .ref h0_11, .ref h0_12, .ref h0_13, .ref h0_14, .ref h0_15, .ref h0_16, .ref h0_17, .ref h0_18, .ref h0_19, .ref h0_20, .ref h0_21, .ref h0_22, .ref h0_23, .ref h0_24, .ref h0_25, .int h0_26, .int h0_27, .int h0_28, .int h0_29, .int h0_30, .int h0_31, .ref h0_32, .ref h0_33, .ref h0_34, .ref h0_35, .ref h0_36, .ref h0_37, .ref h0_38, .int h0_39, .ref h0_40, .ref h0_41, .ref h0_42, .ref h0_43, .ref h0_44, .ref h0_45, .int 0, .int h0_47, .int h0_48]))] s.heap.size = A at hD ⊢
  have hA : ∀ q : Nat, s.heap.size ≤ q → A q := fun q h => by rw [← hAe]; exact Or.inr h
  have hS : va_S A s.heap s.heap [] := va_S.rf
  have hP : va_P (dC, dI) vwCl [(h0, .inr (6, [.ref h0_0, .ref h0_1, .int h0_2, .int h0_3, .int h0_4, .int h0_5, .int h0_6, .int h0_7, .int h0_8, .int h0_9, .long h0_10, .ref h0_11, .ref h0_12, .ref h0_13, .ref h0_14, .ref h0_15, .ref h0_16, .ref h0_17, .ref h0_18, .ref h0_19, .ref h0_20, .ref h0_21, .ref h0_22, .ref h0_23, .ref h0_24, .ref h0_25, .int h0_26, .int h0_27, .int h0_28, .int h0_29, .int h0_30, .int h0_31, .ref h0_32, .ref h0_33, .ref h0_34, .ref h0_35, .ref h0_36, .ref h0_37, .ref h0_38, .int h0_39, .ref h0_40, .ref h0_41, .ref h0_42, .ref h0_43, .ref h0_44, .ref h0_45, .int 0, .int h0_47, .int h0_48]))] s.heap := hP
  have hl := lv_entry ([.ref h0, .int p1]) (n := 2) (Nat.le_of_ble_eq_true rfl)
  rw [lg_entry_eq]
  generalize (lg_sl ([.ref h0, .int p1]) ++ List.replicate (2 - (lg_sl ([.ref h0, .int p1])).length) Slot.unset).toArray = ls at hl ⊢
  have hl : lv_has ls 2 [(0, .ref h0), (1, .int p1)] := hl
  refine lv_aload_n hx hb dX7_on_0 rfl (lv_at hl 0 rfl) ?_
  refine va_get (D := (dC, dI)) (ci := 6) (v := .int 0) (C := RX7) (T := TX7) (N := 49) hx hb hts inX7_ hown hK hP 0 rfl rfl 46 (by decide) (hts (.fieldLink RX7 267 "GateWheelModel" "hasWheel" "Z") (List.mem_of_getElem? (i := 1) rfl)) (fun _ h9 => h9) rfl dX7_on_1 ?_
  refine lv_if_eq (tgt := 15) hx hb dX7_on_4 (by decide) (fun _ => ?_) (fun hc => absurd (by decide) hc)
  refine lv_iconst (v := (-1)) hx hb dX7_on_15 (by decide) ?_
  refine lv_goto (tgt := 25) hx hb dX7_on_16 (by decide) ?_
  exact W.iret (v := (-1)) hx hb hr (fun t ht hW => ⟨⟨(-1), (), rfl, rfl, trivial⟩, hS.F ht⟩) hS.2.2 dX7_on_25

set_option maxHeartbeats 4000000 in
set_option maxRecDepth 100000 in
theorem c_X7_wave (l : Launch) (dC : Nat → ClassId) (dI : Nat → Nat → Nat) (h0 : Nat) (h0_0 : Nat) (h0_1 : Nat) (h0_2 : Int32) (h0_3 : Int32) (h0_4 : Int32) (h0_5 : Int32) (h0_6 : Int32) (h0_7 : Int32) (h0_8 : Int32) (h0_9 : Int32) (h0_10 : Int64) (h0_11 : Nat) (h0_12 : Nat) (h0_13 : Nat) (h0_14 : Nat) (h0_15 : Nat) (h0_16 : Nat) (h0_17 : Nat) (h0_18 : Nat) (h0_19 : Nat) (h0_20 : Nat) (h0_21 : Nat) (h0_22 : Nat) (h0_23 : Nat) (h0_24 : Nat) (h0_25 : Nat) (h0_26 : Int32) (h0_27 : Int32) (h0_28 : Int32) (h0_29 : Int32) (h0_30 : Int32) (h0_31 : Int32) (h0_32 : Nat) (h0_33 : Nat) (h0_34 : Nat) (h0_35 : Nat) (h0_36 : Nat) (h0_37 : Nat) (h0_38 : Nat) (h0_39 : Int32) (h0_40 : Nat) (h0_41 : Nat) (h0_42 : Nat) (h0_43 : Nat) (h0_44 : Nat) (h0_45 : Nat) (h0_47 : Int32) (h0_48 : Int32) (p1 : Int32) (p2 : Int32) (sz : Nat) : Met l yX7_wave wsX7_wave ({ frames := 0, cells := 0, slots := 0, locals := 0 }) (va_Pc [.ref h0, .int p1, .int p2] (fun U => U.heap.size = sz ∧ va_P (dC, dI) vwCl [(h0, .inr (6, [.ref h0_0, .ref h0_1, .int h0_2, .int h0_3, .int h0_4, .int h0_5, .int h0_6, .int h0_7, .int h0_8, .int h0_9, .long h0_10, .ref h0_11, .ref h0_12, .ref h0_13, .ref h0_14, .ref h0_15, .ref h0_16, .ref h0_17, .ref h0_18, .ref h0_19, .ref h0_20, .ref h0_21, .ref h0_22, .ref h0_23, .ref h0_24, .ref h0_25, .int h0_26, .int h0_27, .int h0_28, .int h0_29, .int h0_30, .int h0_31, .ref h0_32, .ref h0_33, .ref h0_34, .ref h0_35, .ref h0_36, .ref h0_37, .ref h0_38, .int h0_39, .ref h0_40, .ref h0_41, .ref h0_42, .ref h0_43, .ref h0_44, .ref h0_45, .int 0, .int h0_47, .int h0_48]))] U.heap ∧ va_K (dC, dI) vwCl [] U ∧ va_D (fun _ => True) [(h0, .inr (6, [.ref h0_0, .ref h0_1, .int h0_2, .int h0_3, .int h0_4, .int h0_5, .int h0_6, .int h0_7, .int h0_8, .int h0_9, .long h0_10, .ref h0_11, .ref h0_12, .ref h0_13, .ref h0_14, .ref h0_15, .ref h0_16, .ref h0_17, .ref h0_18, .ref h0_19, .ref h0_20, .ref h0_21, .ref h0_22, .ref h0_23, .ref h0_24, .ref h0_25, .int h0_26, .int h0_27, .int h0_28, .int h0_29, .int h0_30, .int h0_31, .ref h0_32, .ref h0_33, .ref h0_34, .ref h0_35, .ref h0_36, .ref h0_37, .ref h0_38, .int h0_39, .ref h0_40, .ref h0_41, .ref h0_42, .ref h0_43, .ref h0_44, .ref h0_45, .int 0, .int h0_47, .int h0_48]))])) (va_Qi (fun (r : Int32) (_ : Unit) => r = (-1)) (fun (_ : Unit) (_ : State) => True) (va_A [(h0, .inr (6, [.ref h0_0, .ref h0_1, .int h0_2, .int h0_3, .int h0_4, .int h0_5, .int h0_6, .int h0_7, .int h0_8, .int h0_9, .long h0_10, .ref h0_11, .ref h0_12, .ref h0_13, .ref h0_14, .ref h0_15, .ref h0_16, .ref h0_17, .ref h0_18, .ref h0_19, .ref h0_20, .ref h0_21, .ref h0_22, .ref h0_23, .ref h0_24, .ref h0_25, .int h0_26, .int h0_27, .int h0_28, .int h0_29, .int h0_30, .int h0_31, .ref h0_32, .ref h0_33, .ref h0_34, .ref h0_35, .ref h0_36, .ref h0_37, .ref h0_38, .int h0_39, .ref h0_40, .ref h0_41, .ref h0_42, .ref h0_43, .ref h0_44, .ref h0_45, .int 0, .int h0_47, .int h0_48]))] sz)) 0 0 (va_A [(h0, .inr (6, [.ref h0_0, .ref h0_1, .int h0_2, .int h0_3, .int h0_4, .int h0_5, .int h0_6, .int h0_7, .int h0_8, .int h0_9, .long h0_10, .ref h0_11, .ref h0_12, .ref h0_13, .ref h0_14, .ref h0_15, .ref h0_16, .ref h0_17, .ref h0_18, .ref h0_19, .ref h0_20, .ref h0_21, .ref h0_22, .ref h0_23, .ref h0_24, .ref h0_25, .int h0_26, .int h0_27, .int h0_28, .int h0_29, .int h0_30, .int h0_31, .ref h0_32, .ref h0_33, .ref h0_34, .ref h0_35, .ref h0_36, .ref h0_37, .ref h0_38, .int h0_39, .ref h0_40, .ref h0_41, .ref h0_42, .ref h0_43, .ref h0_44, .ref h0_45, .int 0, .int h0_47, .int h0_48]))] sz) := by
  refine Met.ofW (cc := cX7_wave) (maxL := 3) (ret := (some .int)) (by decide) rfl ?_
  intro p e s m args below meth c s₁ B hml hv
  obtain ⟨rfl, hsz, hP, hK, hD0⟩ := hv
  have hx := B.exec
  have hb := B.bytes
  have hr := B.returns
  have hts := atoms_spec (ws := wsX7_wave) B.pre
  have hown : s.vm.findClass RX7 = some m.cls := findClass_of_methodNamed B.named
  have hlocks := B.notSynchronized
  have inX7_ : ∀ w ∈ wsX70, w ∈ wsX7_wave := fun _ h => List.mem_cons_of_mem _ (List.mem_append_right _ h)
  subst hsz
  have hD := hD0.self (sz := s.heap.size)
  generalize hAe : va_A [(h0, .inr (6, [.ref h0_0, .ref h0_1, .int h0_2, .int h0_3, .int h0_4, .int h0_5, .int h0_6, .int h0_7, .int h0_8, .int h0_9, .long h0_10, .ref h0_11, .ref h0_12, .ref h0_13, .ref h0_14, .ref h0_15, .ref h0_16, .ref h0_17, .ref h0_18, .ref h0_19, .ref h0_20, .ref h0_21, .ref h0_22, .ref h0_23, .ref h0_24, .ref h0_25, .int h0_26, .int h0_27, .int h0_28, .int h0_29, .int h0_30, .int h0_31, .ref h0_32, .ref h0_33, .ref h0_34, .ref h0_35, .ref h0_36, .ref h0_37, .ref h0_38, .int h0_39, .ref h0_40, .ref h0_41, .ref h0_42, .ref h0_43, .ref h0_44, .ref h0_45, .int 0, .int h0_47, .int h0_48]))] s.heap.size = A at hD ⊢
  have hA : ∀ q : Nat, s.heap.size ≤ q → A q := fun q h => by rw [← hAe]; exact Or.inr h
  have hS : va_S A s.heap s.heap [] := va_S.rf
  have hP : va_P (dC, dI) vwCl [(h0, .inr (6, [.ref h0_0, .ref h0_1, .int h0_2, .int h0_3, .int h0_4, .int h0_5, .int h0_6, .int h0_7, .int h0_8, .int h0_9, .long h0_10, .ref h0_11, .ref h0_12, .ref h0_13, .ref h0_14, .ref h0_15, .ref h0_16, .ref h0_17, .ref h0_18, .ref h0_19, .ref h0_20, .ref h0_21, .ref h0_22, .ref h0_23, .ref h0_24, .ref h0_25, .int h0_26, .int h0_27, .int h0_28, .int h0_29, .int h0_30, .int h0_31, .ref h0_32, .ref h0_33, .ref h0_34, .ref h0_35, .ref h0_36, .ref h0_37, .ref h0_38, .int h0_39, .ref h0_40, .ref h0_41, .ref h0_42, .ref h0_43, .ref h0_44, .ref h0_45, .int 0, .int h0_47, .int h0_48]))] s.heap := hP
  have hl := lv_entry ([.ref h0, .int p1, .int p2]) (n := 3) (Nat.le_of_ble_eq_true rfl)
  rw [lg_entry_eq]
  generalize (lg_sl ([.ref h0, .int p1, .int p2]) ++ List.replicate (3 - (lg_sl ([.ref h0, .int p1, .int p2])).length) Slot.unset).toArray = ls at hl ⊢
  have hl : lv_has ls 3 [(0, .ref h0), (1, .int p1), (2, .int p2)] := hl
  refine lv_aload_n hx hb dX7_wave_0 rfl (lv_at hl 0 rfl) ?_
  refine va_get (D := (dC, dI)) (ci := 6) (v := .int 0) (C := RX7) (T := TX7) (N := 49) hx hb hts inX7_ hown hK hP 0 rfl rfl 46 (by decide) (hts (.fieldLink RX7 267 "GateWheelModel" "hasWheel" "Z") (List.mem_of_getElem? (i := 1) rfl)) (fun _ h9 => h9) rfl dX7_wave_1 ?_
  refine lv_if_eq (tgt := 35) hx hb dX7_wave_4 (by decide) (fun _ => ?_) (fun hc => absurd (by decide) hc)
  refine lv_iconst (v := (-1)) hx hb dX7_wave_35 (by decide) ?_
  refine lv_goto (tgt := 50) hx hb dX7_wave_36 (by decide) ?_
  exact W.iret (v := (-1)) hx hb hr (fun t ht hW => ⟨⟨(-1), (), rfl, rfl, trivial⟩, hS.F ht⟩) hS.2.2 dX7_wave_50

set_option maxHeartbeats 4000000 in
set_option maxRecDepth 100000 in
theorem c_X7_end (l : Launch) (dC : Nat → ClassId) (dI : Nat → Nat → Nat) (h0 : Nat) (h0_0 : Nat) (h0_1 : Nat) (h0_3 : Int32) (h0_4 : Int32) (h0_5 : Int32) (h0_6 : Int32) (h0_7 : Int32) (h0_8 : Int32) (h0_9 : Int32) (h0_10 : Int64) (h0_11 : Nat) (h0_12 : Nat) (h0_13 : Nat) (h0_14 : Nat) (h0_15 : Nat) (h0_16 : Nat) (h0_17 : Nat) (h0_18 : Nat) (h0_19 : Nat) (h0_20 : Nat) (h0_21 : Nat) (h0_22 : Nat) (h0_23 : Nat) (h0_24 : Nat) (h0_25 : Nat) (h0_26 : Int32) (h0_27 : Int32) (h0_28 : Int32) (h0_29 : Int32) (h0_30 : Int32) (h0_31 : Int32) (h0_32 : Nat) (h0_33 : Nat) (h0_34 : Nat) (h0_35 : Nat) (h0_36 : Nat) (h0_37 : Nat) (h0_38 : Nat) (h0_39 : Int32) (h0_40 : Nat) (h0_41 : Nat) (h0_42 : Nat) (h0_43 : Nat) (h0_44 : Nat) (h0_45 : Nat) (h0_46 : Int32) (h0_47 : Int32) (h0_48 : Int32) (p1 : Int32) (sz : Nat) : Met l yX7_end wsX7_end ({ frames := 0, cells := 0, slots := 0, locals := 0 }) (va_Pc [.ref h0, .int p1] (fun U => U.heap.size = sz ∧ va_P (dC, dI) vwCl [(h0, .inr (6, [.ref h0_0, .ref h0_1, .int 0, .int h0_3, .int h0_4, .int h0_5, .int h0_6, .int h0_7, .int h0_8, .int h0_9, .long h0_10, .ref h0_11, .ref h0_12, .ref h0_13, .ref h0_14, .ref h0_15, .ref h0_16, .ref h0_17, .ref h0_18, .ref h0_19, .ref h0_20, .ref h0_21, .ref h0_22, .ref h0_23, .ref h0_24, .ref h0_25, .int h0_26, .int h0_27, .int h0_28, .int h0_29, .int h0_30, .int h0_31, .ref h0_32, .ref h0_33, .ref h0_34, .ref h0_35, .ref h0_36, .ref h0_37, .ref h0_38, .int h0_39, .ref h0_40, .ref h0_41, .ref h0_42, .ref h0_43, .ref h0_44, .ref h0_45, .int h0_46, .int h0_47, .int h0_48]))] U.heap ∧ va_K (dC, dI) vwCl [] U ∧ va_D (fun _ => True) [(h0, .inr (6, [.ref h0_0, .ref h0_1, .int 0, .int h0_3, .int h0_4, .int h0_5, .int h0_6, .int h0_7, .int h0_8, .int h0_9, .long h0_10, .ref h0_11, .ref h0_12, .ref h0_13, .ref h0_14, .ref h0_15, .ref h0_16, .ref h0_17, .ref h0_18, .ref h0_19, .ref h0_20, .ref h0_21, .ref h0_22, .ref h0_23, .ref h0_24, .ref h0_25, .int h0_26, .int h0_27, .int h0_28, .int h0_29, .int h0_30, .int h0_31, .ref h0_32, .ref h0_33, .ref h0_34, .ref h0_35, .ref h0_36, .ref h0_37, .ref h0_38, .int h0_39, .ref h0_40, .ref h0_41, .ref h0_42, .ref h0_43, .ref h0_44, .ref h0_45, .int h0_46, .int h0_47, .int h0_48]))])) (va_Qi (fun (r : Int32) (_ : Unit) => r = fE p1) (fun (_ : Unit) (_ : State) => True) (va_A [(h0, .inr (6, [.ref h0_0, .ref h0_1, .int 0, .int h0_3, .int h0_4, .int h0_5, .int h0_6, .int h0_7, .int h0_8, .int h0_9, .long h0_10, .ref h0_11, .ref h0_12, .ref h0_13, .ref h0_14, .ref h0_15, .ref h0_16, .ref h0_17, .ref h0_18, .ref h0_19, .ref h0_20, .ref h0_21, .ref h0_22, .ref h0_23, .ref h0_24, .ref h0_25, .int h0_26, .int h0_27, .int h0_28, .int h0_29, .int h0_30, .int h0_31, .ref h0_32, .ref h0_33, .ref h0_34, .ref h0_35, .ref h0_36, .ref h0_37, .ref h0_38, .int h0_39, .ref h0_40, .ref h0_41, .ref h0_42, .ref h0_43, .ref h0_44, .ref h0_45, .int h0_46, .int h0_47, .int h0_48]))] sz)) 0 0 (va_A [(h0, .inr (6, [.ref h0_0, .ref h0_1, .int 0, .int h0_3, .int h0_4, .int h0_5, .int h0_6, .int h0_7, .int h0_8, .int h0_9, .long h0_10, .ref h0_11, .ref h0_12, .ref h0_13, .ref h0_14, .ref h0_15, .ref h0_16, .ref h0_17, .ref h0_18, .ref h0_19, .ref h0_20, .ref h0_21, .ref h0_22, .ref h0_23, .ref h0_24, .ref h0_25, .int h0_26, .int h0_27, .int h0_28, .int h0_29, .int h0_30, .int h0_31, .ref h0_32, .ref h0_33, .ref h0_34, .ref h0_35, .ref h0_36, .ref h0_37, .ref h0_38, .int h0_39, .ref h0_40, .ref h0_41, .ref h0_42, .ref h0_43, .ref h0_44, .ref h0_45, .int h0_46, .int h0_47, .int h0_48]))] sz) := by
  refine Met.ofW (cc := cX7_end) (maxL := 2) (ret := (some .int)) (by decide) rfl ?_
  intro p e s m args below meth c s₁ B hml hv
  obtain ⟨rfl, hsz, hP, hK, hD0⟩ := hv
  have hx := B.exec
  have hb := B.bytes
  have hr := B.returns
  have hts := atoms_spec (ws := wsX7_end) B.pre
  have hown : s.vm.findClass RX7 = some m.cls := findClass_of_methodNamed B.named
  have hlocks := B.notSynchronized
  have inX7_ : ∀ w ∈ wsX70, w ∈ wsX7_end := fun _ h => List.mem_cons_of_mem _ (List.mem_append_right _ h)
  subst hsz
  have hD := hD0.self (sz := s.heap.size)
  generalize hAe : va_A [(h0, .inr (6, [.ref h0_0, .ref h0_1, .int 0, .int h0_3, .int h0_4, .int h0_5, .int h0_6, .int h0_7, .int h0_8, .int h0_9, .long h0_10, .ref h0_11, .ref h0_12, .ref h0_13, .ref h0_14, .ref h0_15, .ref h0_16, .ref h0_17, .ref h0_18, .ref h0_19, .ref h0_20, .ref h0_21, .ref h0_22, .ref h0_23, .ref h0_24, .ref h0_25, .int h0_26, .int h0_27, .int h0_28, .int h0_29, .int h0_30, .int h0_31, .ref h0_32, .ref h0_33, .ref h0_34, .ref h0_35, .ref h0_36, .ref h0_37, .ref h0_38, .int h0_39, .ref h0_40, .ref h0_41, .ref h0_42, .ref h0_43, .ref h0_44, .ref h0_45, .int h0_46, .int h0_47, .int h0_48]))] s.heap.size = A at hD ⊢
  have hA : ∀ q : Nat, s.heap.size ≤ q → A q := fun q h => by rw [← hAe]; exact Or.inr h
  have hS : va_S A s.heap s.heap [] := va_S.rf
  have hP : va_P (dC, dI) vwCl [(h0, .inr (6, [.ref h0_0, .ref h0_1, .int 0, .int h0_3, .int h0_4, .int h0_5, .int h0_6, .int h0_7, .int h0_8, .int h0_9, .long h0_10, .ref h0_11, .ref h0_12, .ref h0_13, .ref h0_14, .ref h0_15, .ref h0_16, .ref h0_17, .ref h0_18, .ref h0_19, .ref h0_20, .ref h0_21, .ref h0_22, .ref h0_23, .ref h0_24, .ref h0_25, .int h0_26, .int h0_27, .int h0_28, .int h0_29, .int h0_30, .int h0_31, .ref h0_32, .ref h0_33, .ref h0_34, .ref h0_35, .ref h0_36, .ref h0_37, .ref h0_38, .int h0_39, .ref h0_40, .ref h0_41, .ref h0_42, .ref h0_43, .ref h0_44, .ref h0_45, .int h0_46, .int h0_47, .int h0_48]))] s.heap := hP
  have hl := lv_entry ([.ref h0, .int p1]) (n := 2) (Nat.le_of_ble_eq_true rfl)
  rw [lg_entry_eq]
  generalize (lg_sl ([.ref h0, .int p1]) ++ List.replicate (2 - (lg_sl ([.ref h0, .int p1])).length) Slot.unset).toArray = ls at hl ⊢
  have hl : lv_has ls 2 [(0, .ref h0), (1, .int p1)] := hl
  refine lv_iload_n hx hb dX7_end_0 rfl (lv_at hl 1 rfl) ?_
  refine lv_if_lt (tgt := 12) hx hb dX7_end_1 (by decide) (fun cx1 => ?_) (fun cx1 => ?_)
  · refine lv_iconst (v := (-1)) hx hb dX7_end_12 (by decide) ?_
    exact W.iret (v := (-1)) hx hb hr (fun t ht hW => ⟨⟨(-1), (), rfl, (fE_1 cx1), trivial⟩, hS.F ht⟩) hS.2.2 dX7_end_13
  · refine lv_iload_n hx hb dX7_end_4 rfl (lv_at hl 1 rfl) ?_
    refine lv_aload_n hx hb dX7_end_5 rfl (lv_at hl 0 rfl) ?_
    refine va_get (D := (dC, dI)) (ci := 6) (v := .int 0) (C := RX7) (T := TX7) (N := 49) hx hb hts inX7_ hown hK hP 0 rfl rfl 2 (by decide) (hts (.fieldLink RX7 249 "GateWheelModel" "taped" "I") (List.mem_of_getElem? (i := 1) rfl)) (fun _ h9 => h9) rfl dX7_end_6 ?_
    refine lv_icmp_le (tgt := 14) hx hb dX7_end_9 (by decide) (fun cx2 => ?_) (fun cx2 => ?_)
    · refine lv_aload_n hx hb dX7_end_14 rfl (lv_at hl 0 rfl) ?_
      refine lv_iload_n hx hb dX7_end_15 rfl (lv_at hl 1 rfl) ?_
      refine va_put (D := (dC, dI)) (ci := 6) (v := .int p1) (ty := .int) (C := RX7) (T := TX7) (N := 49) hx hb hts inX7_ tyX7 tyX7_ok nmX7 hown hK hP hD hS 0 rfl rfl 2 (by decide) (hts (.fieldLink RX7 249 "GateWheelModel" "taped" "I") (List.mem_of_getElem? (i := 1) rfl)) (fun _ h9 => h9) rfl (by decide +kernel) rfl rfl (Nat.le_of_ble_eq_true rfl) dX7_end_16 (fun Hx3 locs hP hD hS => ?_)
      have hP : va_P (dC, dI) vwCl [(h0, .inr (6, [.ref h0_0, .ref h0_1, .int p1, .int h0_3, .int h0_4, .int h0_5, .int h0_6, .int h0_7, .int h0_8, .int h0_9, .long h0_10, .ref h0_11, .ref h0_12, .ref h0_13, .ref h0_14, .ref h0_15, .ref h0_16, .ref h0_17, .ref h0_18, .ref h0_19, .ref h0_20, .ref h0_21, .ref h0_22, .ref h0_23, .ref h0_24, .ref h0_25, .int h0_26, .int h0_27, .int h0_28, .int h0_29, .int h0_30, .int h0_31, .ref h0_32, .ref h0_33, .ref h0_34, .ref h0_35, .ref h0_36, .ref h0_37, .ref h0_38, .int h0_39, .ref h0_40, .ref h0_41, .ref h0_42, .ref h0_43, .ref h0_44, .ref h0_45, .int h0_46, .int h0_47, .int h0_48]))] Hx3 := hP
      have hD : va_D A [(h0, .inr (6, [.ref h0_0, .ref h0_1, .int p1, .int h0_3, .int h0_4, .int h0_5, .int h0_6, .int h0_7, .int h0_8, .int h0_9, .long h0_10, .ref h0_11, .ref h0_12, .ref h0_13, .ref h0_14, .ref h0_15, .ref h0_16, .ref h0_17, .ref h0_18, .ref h0_19, .ref h0_20, .ref h0_21, .ref h0_22, .ref h0_23, .ref h0_24, .ref h0_25, .int h0_26, .int h0_27, .int h0_28, .int h0_29, .int h0_30, .int h0_31, .ref h0_32, .ref h0_33, .ref h0_34, .ref h0_35, .ref h0_36, .ref h0_37, .ref h0_38, .int h0_39, .ref h0_40, .ref h0_41, .ref h0_42, .ref h0_43, .ref h0_44, .ref h0_45, .int h0_46, .int h0_47, .int h0_48]))] := hD
      refine lv_iload_n hx hb dX7_end_19 rfl (lv_at hl 1 rfl) ?_
      exact W.iret (v := p1) hx hb hr (fun t ht hW => ⟨⟨p1, (), rfl, (fE_3 cx1 cx2), trivial⟩, hS.F ht⟩) hS.2.2 dX7_end_20
    · refine lv_iconst (v := (-1)) hx hb dX7_end_12 (by decide) ?_
      exact W.iret (v := (-1)) hx hb hr (fun t ht hW => ⟨⟨(-1), (), rfl, (fE_2 cx2), trivial⟩, hS.F ht⟩) hS.2.2 dX7_end_13

set_option maxHeartbeats 4000000 in
set_option maxRecDepth 100000 in
theorem c_X7_fault (l : Launch) (dC : Nat → ClassId) (dI : Nat → Nat → Nat) (h0 : Nat) (h0_0 : Nat) (h0_1 : Nat) (h0_2 : Int32) (h0_3 : Int32) (h0_6 : Int32) (h0_7 : Int32) (h0_8 : Int32) (h0_9 : Int32) (h0_10 : Int64) (h0_11 : Nat) (h0_12 : Nat) (h0_13 : Nat) (h0_14 : Nat) (h0_15 : Nat) (h0_16 : Nat) (h0_17 : Nat) (h0_18 : Nat) (h0_19 : Nat) (h0_20 : Nat) (h0_21 : Nat) (h0_22 : Nat) (h0_23 : Nat) (h0_24 : Nat) (h0_25 : Nat) (h0_26 : Int32) (h0_27 : Int32) (h0_28 : Int32) (h0_29 : Int32) (h0_30 : Int32) (h0_31 : Int32) (h0_32 : Nat) (h0_33 : Nat) (h0_34 : Nat) (h0_35 : Nat) (h0_36 : Nat) (h0_37 : Nat) (h0_38 : Nat) (h0_39 : Int32) (h0_40 : Nat) (h0_41 : Nat) (h0_42 : Nat) (h0_43 : Nat) (h0_44 : Nat) (h0_45 : Nat) (h0_46 : Int32) (h0_47 : Int32) (h0_48 : Int32) (p1 : Int32) (sz : Nat) : Met l yX7_fault wsX7_fault ({ frames := 0, cells := 0, slots := 0, locals := 0 }) (va_Pc [.ref h0, .int p1] (fun U => U.heap.size = sz ∧ va_P (dC, dI) vwCl [(h0, .inr (6, [.ref h0_0, .ref h0_1, .int h0_2, .int h0_3, .int 0, .int (-1), .int h0_6, .int h0_7, .int h0_8, .int h0_9, .long h0_10, .ref h0_11, .ref h0_12, .ref h0_13, .ref h0_14, .ref h0_15, .ref h0_16, .ref h0_17, .ref h0_18, .ref h0_19, .ref h0_20, .ref h0_21, .ref h0_22, .ref h0_23, .ref h0_24, .ref h0_25, .int h0_26, .int h0_27, .int h0_28, .int h0_29, .int h0_30, .int h0_31, .ref h0_32, .ref h0_33, .ref h0_34, .ref h0_35, .ref h0_36, .ref h0_37, .ref h0_38, .int h0_39, .ref h0_40, .ref h0_41, .ref h0_42, .ref h0_43, .ref h0_44, .ref h0_45, .int h0_46, .int h0_47, .int h0_48]))] U.heap ∧ va_K (dC, dI) vwCl [] U ∧ va_D (fun _ => True) [(h0, .inr (6, [.ref h0_0, .ref h0_1, .int h0_2, .int h0_3, .int 0, .int (-1), .int h0_6, .int h0_7, .int h0_8, .int h0_9, .long h0_10, .ref h0_11, .ref h0_12, .ref h0_13, .ref h0_14, .ref h0_15, .ref h0_16, .ref h0_17, .ref h0_18, .ref h0_19, .ref h0_20, .ref h0_21, .ref h0_22, .ref h0_23, .ref h0_24, .ref h0_25, .int h0_26, .int h0_27, .int h0_28, .int h0_29, .int h0_30, .int h0_31, .ref h0_32, .ref h0_33, .ref h0_34, .ref h0_35, .ref h0_36, .ref h0_37, .ref h0_38, .int h0_39, .ref h0_40, .ref h0_41, .ref h0_42, .ref h0_43, .ref h0_44, .ref h0_45, .int h0_46, .int h0_47, .int h0_48]))])) (va_Qi (fun (r : Int32) (_ : Unit) => r = fE p1) (fun (_ : Unit) (_ : State) => True) (va_A [(h0, .inr (6, [.ref h0_0, .ref h0_1, .int h0_2, .int h0_3, .int 0, .int (-1), .int h0_6, .int h0_7, .int h0_8, .int h0_9, .long h0_10, .ref h0_11, .ref h0_12, .ref h0_13, .ref h0_14, .ref h0_15, .ref h0_16, .ref h0_17, .ref h0_18, .ref h0_19, .ref h0_20, .ref h0_21, .ref h0_22, .ref h0_23, .ref h0_24, .ref h0_25, .int h0_26, .int h0_27, .int h0_28, .int h0_29, .int h0_30, .int h0_31, .ref h0_32, .ref h0_33, .ref h0_34, .ref h0_35, .ref h0_36, .ref h0_37, .ref h0_38, .int h0_39, .ref h0_40, .ref h0_41, .ref h0_42, .ref h0_43, .ref h0_44, .ref h0_45, .int h0_46, .int h0_47, .int h0_48]))] sz)) 0 0 (va_A [(h0, .inr (6, [.ref h0_0, .ref h0_1, .int h0_2, .int h0_3, .int 0, .int (-1), .int h0_6, .int h0_7, .int h0_8, .int h0_9, .long h0_10, .ref h0_11, .ref h0_12, .ref h0_13, .ref h0_14, .ref h0_15, .ref h0_16, .ref h0_17, .ref h0_18, .ref h0_19, .ref h0_20, .ref h0_21, .ref h0_22, .ref h0_23, .ref h0_24, .ref h0_25, .int h0_26, .int h0_27, .int h0_28, .int h0_29, .int h0_30, .int h0_31, .ref h0_32, .ref h0_33, .ref h0_34, .ref h0_35, .ref h0_36, .ref h0_37, .ref h0_38, .int h0_39, .ref h0_40, .ref h0_41, .ref h0_42, .ref h0_43, .ref h0_44, .ref h0_45, .int h0_46, .int h0_47, .int h0_48]))] sz) := by
  refine Met.ofW (cc := cX7_fault) (maxL := 2) (ret := (some .int)) (by decide) rfl ?_
  intro p e s m args below meth c s₁ B hml hv
  obtain ⟨rfl, hsz, hP, hK, hD0⟩ := hv
  have hx := B.exec
  have hb := B.bytes
  have hr := B.returns
  have hts := atoms_spec (ws := wsX7_fault) B.pre
  have hown : s.vm.findClass RX7 = some m.cls := findClass_of_methodNamed B.named
  have hlocks := B.notSynchronized
  have inX7_ : ∀ w ∈ wsX70, w ∈ wsX7_fault := fun _ h => List.mem_cons_of_mem _ (List.mem_append_right _ h)
  subst hsz
  have hD := hD0.self (sz := s.heap.size)
  generalize hAe : va_A [(h0, .inr (6, [.ref h0_0, .ref h0_1, .int h0_2, .int h0_3, .int 0, .int (-1), .int h0_6, .int h0_7, .int h0_8, .int h0_9, .long h0_10, .ref h0_11, .ref h0_12, .ref h0_13, .ref h0_14, .ref h0_15, .ref h0_16, .ref h0_17, .ref h0_18, .ref h0_19, .ref h0_20, .ref h0_21, .ref h0_22, .ref h0_23, .ref h0_24, .ref h0_25, .int h0_26, .int h0_27, .int h0_28, .int h0_29, .int h0_30, .int h0_31, .ref h0_32, .ref h0_33, .ref h0_34, .ref h0_35, .ref h0_36, .ref h0_37, .ref h0_38, .int h0_39, .ref h0_40, .ref h0_41, .ref h0_42, .ref h0_43, .ref h0_44, .ref h0_45, .int h0_46, .int h0_47, .int h0_48]))] s.heap.size = A at hD ⊢
  have hA : ∀ q : Nat, s.heap.size ≤ q → A q := fun q h => by rw [← hAe]; exact Or.inr h
  have hS : va_S A s.heap s.heap [] := va_S.rf
  have hP : va_P (dC, dI) vwCl [(h0, .inr (6, [.ref h0_0, .ref h0_1, .int h0_2, .int h0_3, .int 0, .int (-1), .int h0_6, .int h0_7, .int h0_8, .int h0_9, .long h0_10, .ref h0_11, .ref h0_12, .ref h0_13, .ref h0_14, .ref h0_15, .ref h0_16, .ref h0_17, .ref h0_18, .ref h0_19, .ref h0_20, .ref h0_21, .ref h0_22, .ref h0_23, .ref h0_24, .ref h0_25, .int h0_26, .int h0_27, .int h0_28, .int h0_29, .int h0_30, .int h0_31, .ref h0_32, .ref h0_33, .ref h0_34, .ref h0_35, .ref h0_36, .ref h0_37, .ref h0_38, .int h0_39, .ref h0_40, .ref h0_41, .ref h0_42, .ref h0_43, .ref h0_44, .ref h0_45, .int h0_46, .int h0_47, .int h0_48]))] s.heap := hP
  have hl := lv_entry ([.ref h0, .int p1]) (n := 2) (Nat.le_of_ble_eq_true rfl)
  rw [lg_entry_eq]
  generalize (lg_sl ([.ref h0, .int p1]) ++ List.replicate (2 - (lg_sl ([.ref h0, .int p1])).length) Slot.unset).toArray = ls at hl ⊢
  have hl : lv_has ls 2 [(0, .ref h0), (1, .int p1)] := hl
  refine lv_iload_n hx hb dX7_fault_0 rfl (lv_at hl 1 rfl) ?_
  refine lv_if_ne (tgt := 11) hx hb dX7_fault_1 (by decide) (fun cx1 => ?_) (fun cx1 => ?_)
  · refine lv_iload_n hx hb dX7_fault_11 rfl (lv_at hl 1 rfl) ?_
    refine lv_iconst (v := 1) hx hb dX7_fault_12 (by decide) ?_
    refine lv_icmp_ne (tgt := 23) hx hb dX7_fault_13 (by decide) (fun cx2 => ?_) (fun cx2 => ?_)
    · refine lv_iconst (v := (-1)) hx hb dX7_fault_23 (by decide) ?_
      exact W.iret (v := (-1)) hx hb hr (fun t ht hW => ⟨⟨(-1), (), rfl, (fE_5 cx1), trivial⟩, hS.F ht⟩) hS.2.2 dX7_fault_24
    · refine lv_aload_n hx hb dX7_fault_16 rfl (lv_at hl 0 rfl) ?_
      refine va_get (D := (dC, dI)) (ci := 6) (v := .int (-1)) (C := RX7) (T := TX7) (N := 49) hx hb hts inX7_ hown hK hP 0 rfl rfl 5 (by decide) (hts (.fieldLink RX7 16 "GateWheelModel" "faultPlace" "I") (List.mem_of_getElem? (i := 2) rfl)) (fun _ h9 => h9) rfl dX7_fault_17 ?_
      refine lv_goto (tgt := 24) hx hb dX7_fault_20 (by decide) ?_
      exact W.iret (v := (-1)) hx hb hr (fun t ht hW => ⟨⟨(-1), (), rfl, (fE_5 cx1), trivial⟩, hS.F ht⟩) hS.2.2 dX7_fault_24
  · refine lv_aload_n hx hb dX7_fault_4 rfl (lv_at hl 0 rfl) ?_
    refine va_get (D := (dC, dI)) (ci := 6) (v := .int 0) (C := RX7) (T := TX7) (N := 49) hx hb hts inX7_ hown hK hP 0 rfl rfl 4 (by decide) (hts (.fieldLink RX7 110 "GateWheelModel" "faultKind" "I") (List.mem_of_getElem? (i := 1) rfl)) (fun _ h9 => h9) rfl dX7_fault_5 ?_
    refine lv_goto (tgt := 24) hx hb dX7_fault_8 (by decide) ?_
    exact W.iret (v := 0) hx hb hr (fun t ht hW => ⟨⟨0, (), rfl, (fE_4 cx1), trivial⟩, hS.F ht⟩) hS.2.2 dX7_fault_24

set_option maxHeartbeats 4000000 in
set_option maxRecDepth 100000 in
theorem c_X7_about (l : Launch) (dC : Nat → ClassId) (dI : Nat → Nat → Nat) (h0 : Nat) (h0_0 : Nat) (h0_1 : Nat) (h0_2 : Int32) (h0_3 : Int32) (h0_4 : Int32) (h0_5 : Int32) (h0_6 : Int32) (h0_7 : Int32) (h0_8 : Int32) (h0_9 : Int32) (h0_10 : Int64) (h0_11 : Nat) (h0_12 : Nat) (h0_13 : Nat) (h0_14 : Nat) (h0_15 : Nat) (h0_16 : Nat) (h0_17 : Nat) (h0_18 : Nat) (h0_19 : Nat) (h0_20 : Nat) (h0_21 : Nat) (h0_22 : Nat) (h0_23 : Nat) (h0_24 : Nat) (h0_25 : Nat) (h0_26 : Int32) (h0_27 : Int32) (h0_28 : Int32) (h0_30 : Int32) (h0_32 : Nat) (h0_33 : Nat) (h0_34 : Nat) (h0_35 : Nat) (h0_36 : Nat) (h0_37 : Nat) (h0_38 : Nat) (h0_39 : Int32) (h0_40 : Nat) (h0_41 : Nat) (h0_42 : Nat) (h0_43 : Nat) (h0_44 : Nat) (h0_45 : Nat) (h0_47 : Int32) (h0_48 : Int32) (p1 : Int32) (sz : Nat) : Met l yX7_about wsX7_about ({ frames := 1, cells := 0, slots := 0, locals := 21 }) (va_Pc [.ref h0, .int p1] (fun U => U.heap.size = sz ∧ va_P (dC, dI) vwCl [(h0, .inr (6, [.ref h0_0, .ref h0_1, .int h0_2, .int h0_3, .int h0_4, .int h0_5, .int h0_6, .int h0_7, .int h0_8, .int h0_9, .long h0_10, .ref h0_11, .ref h0_12, .ref h0_13, .ref h0_14, .ref h0_15, .ref h0_16, .ref h0_17, .ref h0_18, .ref h0_19, .ref h0_20, .ref h0_21, .ref h0_22, .ref h0_23, .ref h0_24, .ref h0_25, .int h0_26, .int h0_27, .int h0_28, .int 0, .int h0_30, .int 0, .ref h0_32, .ref h0_33, .ref h0_34, .ref h0_35, .ref h0_36, .ref h0_37, .ref h0_38, .int h0_39, .ref h0_40, .ref h0_41, .ref h0_42, .ref h0_43, .ref h0_44, .ref h0_45, .int 0, .int h0_47, .int h0_48]))] U.heap ∧ va_K (dC, dI) vwCl [] U ∧ va_D (fun _ => True) [(h0, .inr (6, [.ref h0_0, .ref h0_1, .int h0_2, .int h0_3, .int h0_4, .int h0_5, .int h0_6, .int h0_7, .int h0_8, .int h0_9, .long h0_10, .ref h0_11, .ref h0_12, .ref h0_13, .ref h0_14, .ref h0_15, .ref h0_16, .ref h0_17, .ref h0_18, .ref h0_19, .ref h0_20, .ref h0_21, .ref h0_22, .ref h0_23, .ref h0_24, .ref h0_25, .int h0_26, .int h0_27, .int h0_28, .int 0, .int h0_30, .int 0, .ref h0_32, .ref h0_33, .ref h0_34, .ref h0_35, .ref h0_36, .ref h0_37, .ref h0_38, .int h0_39, .ref h0_40, .ref h0_41, .ref h0_42, .ref h0_43, .ref h0_44, .ref h0_45, .int 0, .int h0_47, .int h0_48]))])) (va_Qi (fun (r : Int32) (_ : Unit) => r = fA p1) (fun (_ : Unit) (_ : State) => True) (va_A [(h0, .inr (6, [.ref h0_0, .ref h0_1, .int h0_2, .int h0_3, .int h0_4, .int h0_5, .int h0_6, .int h0_7, .int h0_8, .int h0_9, .long h0_10, .ref h0_11, .ref h0_12, .ref h0_13, .ref h0_14, .ref h0_15, .ref h0_16, .ref h0_17, .ref h0_18, .ref h0_19, .ref h0_20, .ref h0_21, .ref h0_22, .ref h0_23, .ref h0_24, .ref h0_25, .int h0_26, .int h0_27, .int h0_28, .int 0, .int h0_30, .int 0, .ref h0_32, .ref h0_33, .ref h0_34, .ref h0_35, .ref h0_36, .ref h0_37, .ref h0_38, .int h0_39, .ref h0_40, .ref h0_41, .ref h0_42, .ref h0_43, .ref h0_44, .ref h0_45, .int 0, .int h0_47, .int h0_48]))] sz)) 0 0 (va_A [(h0, .inr (6, [.ref h0_0, .ref h0_1, .int h0_2, .int h0_3, .int h0_4, .int h0_5, .int h0_6, .int h0_7, .int h0_8, .int h0_9, .long h0_10, .ref h0_11, .ref h0_12, .ref h0_13, .ref h0_14, .ref h0_15, .ref h0_16, .ref h0_17, .ref h0_18, .ref h0_19, .ref h0_20, .ref h0_21, .ref h0_22, .ref h0_23, .ref h0_24, .ref h0_25, .int h0_26, .int h0_27, .int h0_28, .int 0, .int h0_30, .int 0, .ref h0_32, .ref h0_33, .ref h0_34, .ref h0_35, .ref h0_36, .ref h0_37, .ref h0_38, .int h0_39, .ref h0_40, .ref h0_41, .ref h0_42, .ref h0_43, .ref h0_44, .ref h0_45, .int 0, .int h0_47, .int h0_48]))] sz) := by
  refine Met.ofW (cc := cX7_about) (maxL := 2) (ret := (some .int)) (by decide) rfl ?_
  intro p e s m args below meth c s₁ B hml hv
  obtain ⟨rfl, hsz, hP, hK, hD0⟩ := hv
  have hx := B.exec
  have hb := B.bytes
  have hr := B.returns
  have hts := atoms_spec (ws := wsX7_about) B.pre
  have hown : s.vm.findClass RX7 = some m.cls := findClass_of_methodNamed B.named
  have hlocks := B.notSynchronized
  have inX7_ : ∀ w ∈ wsX70, w ∈ wsX7_about := fun _ h => List.mem_cons_of_mem _ (List.mem_append_right _ h)
  subst hsz
  have hD := hD0.self (sz := s.heap.size)
  generalize hAe : va_A [(h0, .inr (6, [.ref h0_0, .ref h0_1, .int h0_2, .int h0_3, .int h0_4, .int h0_5, .int h0_6, .int h0_7, .int h0_8, .int h0_9, .long h0_10, .ref h0_11, .ref h0_12, .ref h0_13, .ref h0_14, .ref h0_15, .ref h0_16, .ref h0_17, .ref h0_18, .ref h0_19, .ref h0_20, .ref h0_21, .ref h0_22, .ref h0_23, .ref h0_24, .ref h0_25, .int h0_26, .int h0_27, .int h0_28, .int 0, .int h0_30, .int 0, .ref h0_32, .ref h0_33, .ref h0_34, .ref h0_35, .ref h0_36, .ref h0_37, .ref h0_38, .int h0_39, .ref h0_40, .ref h0_41, .ref h0_42, .ref h0_43, .ref h0_44, .ref h0_45, .int 0, .int h0_47, .int h0_48]))] s.heap.size = A at hD ⊢
  have hA : ∀ q : Nat, s.heap.size ≤ q → A q := fun q h => by rw [← hAe]; exact Or.inr h
  have hS : va_S A s.heap s.heap [] := va_S.rf
  have hP : va_P (dC, dI) vwCl [(h0, .inr (6, [.ref h0_0, .ref h0_1, .int h0_2, .int h0_3, .int h0_4, .int h0_5, .int h0_6, .int h0_7, .int h0_8, .int h0_9, .long h0_10, .ref h0_11, .ref h0_12, .ref h0_13, .ref h0_14, .ref h0_15, .ref h0_16, .ref h0_17, .ref h0_18, .ref h0_19, .ref h0_20, .ref h0_21, .ref h0_22, .ref h0_23, .ref h0_24, .ref h0_25, .int h0_26, .int h0_27, .int h0_28, .int 0, .int h0_30, .int 0, .ref h0_32, .ref h0_33, .ref h0_34, .ref h0_35, .ref h0_36, .ref h0_37, .ref h0_38, .int h0_39, .ref h0_40, .ref h0_41, .ref h0_42, .ref h0_43, .ref h0_44, .ref h0_45, .int 0, .int h0_47, .int h0_48]))] s.heap := hP
  have hl := lv_entry ([.ref h0, .int p1]) (n := 2) (Nat.le_of_ble_eq_true rfl)
  rw [lg_entry_eq]
  generalize (lg_sl ([.ref h0, .int p1]) ++ List.replicate (2 - (lg_sl ([.ref h0, .int p1])).length) Slot.unset).toArray = ls at hl ⊢
  have hl : lv_has ls 2 [(0, .ref h0), (1, .int p1)] := hl
  refine lv_aload_n hx hb dX7_about_0 rfl (lv_at hl 0 rfl) ?_
  have hPc := hP.sub (ws' := [(h0, .inr (6, [.ref h0_0, .ref h0_1, .int h0_2, .int h0_3, .int h0_4, .int h0_5, .int h0_6, .int h0_7, .int h0_8, .int h0_9, .long h0_10, .ref h0_11, .ref h0_12, .ref h0_13, .ref h0_14, .ref h0_15, .ref h0_16, .ref h0_17, .ref h0_18, .ref h0_19, .ref h0_20, .ref h0_21, .ref h0_22, .ref h0_23, .ref h0_24, .ref h0_25, .int h0_26, .int h0_27, .int h0_28, .int 0, .int h0_30, .int 0, .ref h0_32, .ref h0_33, .ref h0_34, .ref h0_35, .ref h0_36, .ref h0_37, .ref h0_38, .int h0_39, .ref h0_40, .ref h0_41, .ref h0_42, .ref h0_43, .ref h0_44, .ref h0_45, .int 0, .int h0_47, .int h0_48]))]) [0] rfl
  have hDc := hD.sub (ws' := [(h0, .inr (6, [.ref h0_0, .ref h0_1, .int h0_2, .int h0_3, .int h0_4, .int h0_5, .int h0_6, .int h0_7, .int h0_8, .int h0_9, .long h0_10, .ref h0_11, .ref h0_12, .ref h0_13, .ref h0_14, .ref h0_15, .ref h0_16, .ref h0_17, .ref h0_18, .ref h0_19, .ref h0_20, .ref h0_21, .ref h0_22, .ref h0_23, .ref h0_24, .ref h0_25, .int h0_26, .int h0_27, .int h0_28, .int 0, .int h0_30, .int 0, .ref h0_32, .ref h0_33, .ref h0_34, .ref h0_35, .ref h0_36, .ref h0_37, .ref h0_38, .int h0_39, .ref h0_40, .ref h0_41, .ref h0_42, .ref h0_43, .ref h0_44, .ref h0_45, .int 0, .int h0_47, .int h0_48]))]) [0] (by decide) rfl
  have hKc := hK.sub (tys' := []) [] rfl
  have hFc := va_free (wc := [(h0, .inr (6, [.ref h0_0, .ref h0_1, .int h0_2, .int h0_3, .int h0_4, .int h0_5, .int h0_6, .int h0_7, .int h0_8, .int h0_9, .long h0_10, .ref h0_11, .ref h0_12, .ref h0_13, .ref h0_14, .ref h0_15, .ref h0_16, .ref h0_17, .ref h0_18, .ref h0_19, .ref h0_20, .ref h0_21, .ref h0_22, .ref h0_23, .ref h0_24, .ref h0_25, .int h0_26, .int h0_27, .int h0_28, .int 0, .int h0_30, .int 0, .ref h0_32, .ref h0_33, .ref h0_34, .ref h0_35, .ref h0_36, .ref h0_37, .ref h0_38, .int h0_39, .ref h0_40, .ref h0_41, .ref h0_42, .ref h0_43, .ref h0_44, .ref h0_45, .int 0, .int h0_47, .int h0_48]))]) hD hS hA [0] rfl
  refine va_callv (va_runV (As := []) (rest := []) ⟨hx, hb, hml, hown, hts⟩ (c_X7_find l dC dI h0 h0_0 h0_1 h0_2 h0_3 h0_4 h0_5 h0_6 h0_7 h0_8 h0_9 h0_10 h0_11 h0_12 h0_13 h0_14 h0_15 h0_16 h0_17 h0_18 h0_19 h0_20 h0_21 h0_22 h0_23 h0_24 h0_25 h0_26 h0_27 h0_28 h0_30 0 h0_32 h0_33 h0_34 h0_35 h0_36 h0_37 h0_38 h0_39 h0_40 h0_41 h0_42 h0_43 h0_44 h0_45 0 h0_47 h0_48 s.heap.size) (cwV 0 hts gX7_about_X7_find rfl rfl rfl (by decide +kernel) ⟨Nat.le_of_ble_eq_true rfl, Nat.le_of_ble_eq_true rfl⟩) ⟨fun a U g mk q => by obtain ⟨q0, q1, qP, qK, qD⟩ := q; exact ⟨q0, q1, qP, va_K.moved (u := U) (U := U.calling g mk a) (Vm.Alike.refl U.vm) qK, qD⟩, va_recv hKc hPc (ci := 6) (q0 := 0) rfl rfl, fun U hU hW => ⟨rfl, by rw [hU], by rw [hU]; exact hPc, va_K.moved hW.alike hKc, hDc.weaken (fun _ _ _ _ => trivial)⟩⟩ rfl rfl hl.1 rfl (lv_room (Nat.le_of_ble_eq_true rfl)) dX7_about_1 ⟨Nat.le_of_ble_eq_true rfl, Nat.le_of_ble_eq_true rfl⟩) hS (fun q _ h => hFc q h) hFc (fun u t Hx1 locs ht hvm hw hB hz1 hk1 hS => ?_)
  obtain ⟨hP1, hK1, hD1⟩ := hB
  rw [ht] at hP1
  have hK1 := va_K.moved hvm.symm hK1
  obtain ⟨hP, hD⟩ := va_join (wr := []) (w1 := [(h0, .inr (6, [.ref h0_0, .ref h0_1, .int h0_2, .int h0_3, .int h0_4, .int h0_5, .int h0_6, .int h0_7, .int h0_8, .int h0_9, .long h0_10, .ref h0_11, .ref h0_12, .ref h0_13, .ref h0_14, .ref h0_15, .ref h0_16, .ref h0_17, .ref h0_18, .ref h0_19, .ref h0_20, .ref h0_21, .ref h0_22, .ref h0_23, .ref h0_24, .ref h0_25, .int h0_26, .int h0_27, .int h0_28, .int 0, .int h0_30, .int 0, .ref h0_32, .ref h0_33, .ref h0_34, .ref h0_35, .ref h0_36, .ref h0_37, .ref h0_38, .int 0, .ref h0_40, .ref h0_41, .ref h0_42, .ref h0_43, .ref h0_44, .ref h0_45, .int 0, .int h0_47, .int h0_48]))]) hP hD [0] [] rfl rfl (by decide) (by decide) hk1 hFc hP1 hD1
  have hK := (hK.sub (tys' := []) [] rfl).app hK1
  have hP : va_P (dC, dI) vwCl [(h0, .inr (6, [.ref h0_0, .ref h0_1, .int h0_2, .int h0_3, .int h0_4, .int h0_5, .int h0_6, .int h0_7, .int h0_8, .int h0_9, .long h0_10, .ref h0_11, .ref h0_12, .ref h0_13, .ref h0_14, .ref h0_15, .ref h0_16, .ref h0_17, .ref h0_18, .ref h0_19, .ref h0_20, .ref h0_21, .ref h0_22, .ref h0_23, .ref h0_24, .ref h0_25, .int h0_26, .int h0_27, .int h0_28, .int 0, .int h0_30, .int 0, .ref h0_32, .ref h0_33, .ref h0_34, .ref h0_35, .ref h0_36, .ref h0_37, .ref h0_38, .int 0, .ref h0_40, .ref h0_41, .ref h0_42, .ref h0_43, .ref h0_44, .ref h0_45, .int 0, .int h0_47, .int h0_48]))] Hx1 := hP
  have hD : va_D A [(h0, .inr (6, [.ref h0_0, .ref h0_1, .int h0_2, .int h0_3, .int h0_4, .int h0_5, .int h0_6, .int h0_7, .int h0_8, .int h0_9, .long h0_10, .ref h0_11, .ref h0_12, .ref h0_13, .ref h0_14, .ref h0_15, .ref h0_16, .ref h0_17, .ref h0_18, .ref h0_19, .ref h0_20, .ref h0_21, .ref h0_22, .ref h0_23, .ref h0_24, .ref h0_25, .int h0_26, .int h0_27, .int h0_28, .int 0, .int h0_30, .int 0, .ref h0_32, .ref h0_33, .ref h0_34, .ref h0_35, .ref h0_36, .ref h0_37, .ref h0_38, .int 0, .ref h0_40, .ref h0_41, .ref h0_42, .ref h0_43, .ref h0_44, .ref h0_45, .int 0, .int h0_47, .int h0_48]))] := hD
  have hK : va_K (dC, dI) vwCl [] s := hK
  refine lv_iload_n hx hb dX7_about_4 rfl (lv_at hl 1 rfl) ?_
  by_cases k0 : p1 = 0
  · have kk0 := k0
    refine lv_tableIn (off := 39) (tgt := 44) hx hb dX7_about_5 (by rw [k0]; decide) (by rw [k0]; decide) (by rw [k0]; rfl) (by decide) ?_
    refine lv_aload_n hx hb dX7_about_44 rfl (lv_at hl 0 rfl) ?_
    refine va_get (D := (dC, dI)) (ci := 6) (v := .int 0) (C := RX7) (T := TX7) (N := 49) hx hb hts inX7_ hown hK hP 0 rfl rfl 29 (by decide) (hts (.fieldLink RX7 261 "GateWheelModel" "nodes" "I") (List.mem_of_getElem? (i := 1) rfl)) (fun _ h9 => h9) rfl dX7_about_45 ?_
    exact W.iret (v := 0) hx hb hr (fun t ht hW => ⟨⟨0, (), rfl, (by rw [k0]; decide), trivial⟩, hS.F ht⟩) hS.2.2 dX7_about_48
  by_cases k1 : p1 = 1
  · have kk1 := k1
    refine lv_tableIn (off := 44) (tgt := 49) hx hb dX7_about_5 (by rw [k1]; decide) (by rw [k1]; decide) (by rw [k1]; rfl) (by decide) ?_
    refine lv_aload_n hx hb dX7_about_49 rfl (lv_at hl 0 rfl) ?_
    refine va_get (D := (dC, dI)) (ci := 6) (v := .int 0) (C := RX7) (T := TX7) (N := 49) hx hb hts inX7_ hown hK hP 0 rfl rfl 31 (by decide) (hts (.fieldLink RX7 264 "GateWheelModel" "registers" "I") (List.mem_of_getElem? (i := 2) rfl)) (fun _ h9 => h9) rfl dX7_about_50 ?_
    exact W.iret (v := 0) hx hb hr (fun t ht hW => ⟨⟨0, (), rfl, (by rw [k1]; decide), trivial⟩, hS.F ht⟩) hS.2.2 dX7_about_53
  by_cases k2 : p1 = 2
  · have kk2 := k2
    refine lv_tableIn (off := 49) (tgt := 54) hx hb dX7_about_5 (by rw [k2]; decide) (by rw [k2]; decide) (by rw [k2]; rfl) (by decide) ?_
    refine lv_aload_n hx hb dX7_about_54 rfl (lv_at hl 0 rfl) ?_
    refine va_get (D := (dC, dI)) (ci := 6) (v := .int 0) (C := RX7) (T := TX7) (N := 49) hx hb hts inX7_ hown hK hP 0 rfl rfl 46 (by decide) (hts (.fieldLink RX7 267 "GateWheelModel" "hasWheel" "Z") (List.mem_of_getElem? (i := 3) rfl)) (fun _ h9 => h9) rfl dX7_about_55 ?_
    refine lv_if_eq (tgt := 68) hx hb dX7_about_58 (by decide) (fun _ => ?_) (fun hc => absurd (by decide) hc)
    refine lv_iconst (v := (-1)) hx hb dX7_about_68 (by decide) ?_
    exact W.iret (v := (-1)) hx hb hr (fun t ht hW => ⟨⟨(-1), (), rfl, (by rw [k2]; decide), trivial⟩, hS.F ht⟩) hS.2.2 dX7_about_69
  by_cases k3 : p1 = 3
  · have kk3 := k3
    refine lv_tableIn (off := 65) (tgt := 70) hx hb dX7_about_5 (by rw [k3]; decide) (by rw [k3]; decide) (by rw [k3]; rfl) (by decide) ?_
    refine lv_aload_n hx hb dX7_about_70 rfl (lv_at hl 0 rfl) ?_
    refine va_get (D := (dC, dI)) (ci := 6) (v := .int 0) (C := RX7) (T := TX7) (N := 49) hx hb hts inX7_ hown hK hP 0 rfl rfl 46 (by decide) (hts (.fieldLink RX7 267 "GateWheelModel" "hasWheel" "Z") (List.mem_of_getElem? (i := 3) rfl)) (fun _ h9 => h9) rfl dX7_about_71 ?_
    refine lv_if_ne (tgt := 81) hx hb dX7_about_74 (by decide) (fun hc => absurd rfl hc) (fun _ => ?_)
    refine lv_iconst (v := (-1)) hx hb dX7_about_77 (by decide) ?_
    refine lv_goto (tgt := 93) hx hb dX7_about_78 (by decide) ?_
    exact W.iret (v := (-1)) hx hb hr (fun t ht hW => ⟨⟨(-1), (), rfl, (by rw [k3]; decide), trivial⟩, hS.F ht⟩) hS.2.2 dX7_about_93
  by_cases k4 : p1 = 4
  · have kk4 := k4
    refine lv_tableIn (off := 89) (tgt := 94) hx hb dX7_about_5 (by rw [k4]; decide) (by rw [k4]; decide) (by rw [k4]; rfl) (by decide) ?_
    refine lv_aload_n hx hb dX7_about_94 rfl (lv_at hl 0 rfl) ?_
    refine va_get (D := (dC, dI)) (ci := 6) (v := .int 0) (C := RX7) (T := TX7) (N := 49) hx hb hts inX7_ hown hK hP 0 rfl rfl 46 (by decide) (hts (.fieldLink RX7 267 "GateWheelModel" "hasWheel" "Z") (List.mem_of_getElem? (i := 3) rfl)) (fun _ h9 => h9) rfl dX7_about_95 ?_
    refine lv_if_eq (tgt := 108) hx hb dX7_about_98 (by decide) (fun _ => ?_) (fun hc => absurd (by decide) hc)
    refine lv_iconst (v := (-1)) hx hb dX7_about_108 (by decide) ?_
    exact W.iret (v := (-1)) hx hb hr (fun t ht hW => ⟨⟨(-1), (), rfl, (by rw [k4]; decide), trivial⟩, hS.F ht⟩) hS.2.2 dX7_about_109
  by_cases k5 : p1 = 5
  · have kk5 := k5
    refine lv_tableIn (off := 105) (tgt := 110) hx hb dX7_about_5 (by rw [k5]; decide) (by rw [k5]; decide) (by rw [k5]; rfl) (by decide) ?_
    refine lv_aload_n hx hb dX7_about_110 rfl (lv_at hl 0 rfl) ?_
    refine va_get (D := (dC, dI)) (ci := 6) (v := .int 0) (C := RX7) (T := TX7) (N := 49) hx hb hts inX7_ hown hK hP 0 rfl rfl 39 (by decide) (hts (.fieldLink RX7 304 "GateWheelModel" "thems" "I") (List.mem_of_getElem? (i := 6) rfl)) (fun _ h9 => h9) rfl dX7_about_111 ?_
    exact W.iret (v := 0) hx hb hr (fun t ht hW => ⟨⟨0, (), rfl, (by rw [k5]; decide), trivial⟩, hS.F ht⟩) hS.2.2 dX7_about_114
  have kd : p1.toInt < 0 ∨ 5 < p1.toInt := by
    have n0 : ¬ p1.toInt = 0 := lv_neT k0 (by decide)
    have n1 : ¬ p1.toInt = 1 := lv_neT k1 (by decide)
    have n2 : ¬ p1.toInt = 2 := lv_neT k2 (by decide)
    have n3 : ¬ p1.toInt = 3 := lv_neT k3 (by decide)
    have n4 : ¬ p1.toInt = 4 := lv_neT k4 (by decide)
    have n5 : ¬ p1.toInt = 5 := lv_neT k5 (by decide)
    omega
  refine lv_tableOut (tgt := 115) hx hb dX7_about_5 kd (by decide) ?_
  refine lv_iconst (v := (-1)) hx hb dX7_about_115 (by decide) ?_
  exact W.iret (v := (-1)) hx hb hr (fun t ht hW => ⟨⟨(-1), (), rfl, (fA_n k0 k1 k5), trivial⟩, hS.F ht⟩) hS.2.2 dX7_about_116
