noncomputable def f_X6_goThroughWorlds (S6 : SS) (S0 : SS) (S5 : SS) : Option (Int32 × SS × SS) :=
  zB (f_X6_countFree S6 S0) (fun (r1 : Int32) =>
  if r1 ≤ (12 : Int32) then if (gI S6 9) = (0 : Int32) then zB (f_X5_goThrough S5 S0 (gA S6 5) r1) (fun (s5_7 : SS) =>
  zL (sI S6 9 (1 : Int32)) (fun s6_12 =>
  some ((1 : Int32), s6_12, s5_7)))
  else some ((1 : Int32), S6, S5)
  else some ((0 : Int32), S6, S5))

noncomputable def f_X6_legal (S6 : SS) (S0 : SS) (S5 : SS) : Option (Int32 × SS × SS) :=
  zB (f_X6_goThroughWorlds S6 S0 S5) (fun ((r1, s6_2, s5_3) : Int32 × SS × SS) =>
  if r1 = (0 : Int32) then some ((-2 : Int32), s6_2, s5_3)
  else some ((gI s5_3 0), s6_2, s5_3))

noncomputable def f_X6_sharp (S6 : SS) (S0 : SS) (S5 : SS) (p1 : Int32) : Option (Int32 × SS × SS) :=
  zB (f_X6_goThroughWorlds S6 S0 S5) (fun ((r1, s6_2, s5_3) : Int32 × SS × SS) =>
  if r1 = (0 : Int32) then some ((-2 : Int32), s6_2, s5_3)
  else zB (f_X0_has S0 p1) (fun (r8 : Int32) =>
  if r8 = (0 : Int32) then some ((-1 : Int32), s6_2, s5_3)
  else zB (f_X5_sharpValue s5_3 p1) (fun (r13 : Int32) =>
  some (r13, s6_2, s5_3))))

noncomputable def b_X6_gainsaid_12 (S0 : SS) (s6_2 : SS) (s5_3 : SS) : (Int32) → Option ((Int32) ⊕ (Int32 × SS × SS)) := fun v17 =>
  if (gI S0 0) ≤ v17 then some (Sum.inr ((-1 : Int32), s6_2, s5_3))
  else zG (vp_in v17 60) (
  if (2 : Int32) ≤ (gA s6_2 5 v17.toNatClampNeg) then zL (v17 + 1) (fun v21 =>
  some (Sum.inl v21))
  else zB (f_X5_isEver s5_3 v17 ((1 : Int32) - (gA s6_2 5 v17.toNatClampNeg))) (fun (r22 : Int32) =>
  if r22 = (0 : Int32) then zL (v17 + 1) (fun v27 =>
  some (Sum.inl v27))
  else some (Sum.inr (v17, s6_2, s5_3))))
noncomputable def f_X6_gainsaid (S6 : SS) (S0 : SS) (S5 : SS) : Option (Int32 × SS × SS) :=
  zB (f_X6_goThroughWorlds S6 S0 S5) (fun ((r1, s6_2, s5_3) : Int32 × SS × SS) =>
  if r1 = (0 : Int32) then some ((-2 : Int32), s6_2, s5_3)
  else zI (b_X6_gainsaid_12 S0 s6_2 s5_3) zF (0 : Int32))

noncomputable def f_X6_wheel (S6 : SS) (S0 : SS) (S4 : SS) : Option (Int32 × SS × SS) :=
  zB (f_X4_begin S4 S0 (gA S6 5)) (fun (s4_1 : SS) =>
  zL (sI S6 11 (1 : Int32)) (fun s6_6 =>
  some ((1 : Int32), s6_6, s4_1)))

noncomputable def f_X6_put (S6 : SS) (S0 : SS) (S4 : SS) (p1 : Int32) (p2 : Int32) : Option (Int32 × SS) :=
  if (gI S6 11) = (0 : Int32) then some ((0 : Int32), S4)
  else zB (f_X0_isKind S0 p1 (0 : Int32)) (fun (r2 : Int32) =>
  if r2 = (0 : Int32) then some ((0 : Int32), S4)
  else if p2 < (0 : Int32) then some ((0 : Int32), S4)
  else if p2 ≤ (3 : Int32) then zB (f_X4_change S4 p1 p2) (fun ((r9, s4_10) : Int32 × SS) =>
  some ((1 : Int32), s4_10))
  else some ((0 : Int32), S4))

noncomputable def f_X6_run (S6 : SS) (S0 : SS) (S4 : SS) (p1 : Int32) : Option (Int32 × SS) :=
  if (gI S6 11) = (0 : Int32) then some ((-1 : Int32), S4)
  else if p1 < (0 : Int32) then some ((-1 : Int32), S4)
  else if p1 ≤ (1000 : Int32) then zB (f_X4_turn S4 S0 p1) (fun ((r4, s4_5) : Int32 × SS) =>
  some (r4, s4_5))
  else some ((-1 : Int32), S4)

noncomputable def f_X6_on (S6 : SS) (S0 : SS) (S4 : SS) (p1 : Int32) : Option (Int32) :=
  if (gI S6 11) = (0 : Int32) then some (-1 : Int32)
  else zB (f_X0_has S0 p1) (fun (r2 : Int32) =>
  if r2 = (0 : Int32) then some (-1 : Int32)
  else zG (vp_in p1 60) (
  some (gA S4 2 p1.toNatClampNeg)))

noncomputable def f_X6_wave (S6 : SS) (S0 : SS) (S4 : SS) (p1 : Int32) (p2 : Int32) : Option (Int32) :=
  if (gI S6 11) = (0 : Int32) then some (-1 : Int32)
  else zB (f_X0_has S0 p1) (fun (r2 : Int32) =>
  if r2 = (0 : Int32) then some (-1 : Int32)
  else zB (f_X4_changeOf S4 p1 p2) (fun (r7 : Int32) =>
  some r7))

noncomputable def f_X6_about (S6 : SS) (S0 : SS) (S4 : SS) (p1 : Int32) : Option (Int32) :=
  if p1 = (0 : Int32) then some (gI S0 0)
  else if p1 = (1 : Int32) then some (gI S0 1)
  else if p1 = (2 : Int32) then if (gI S6 11) = (0 : Int32) then some (-1 : Int32)
  else some (gI S4 0)
  else if p1 = (3 : Int32) then if (gI S6 11) = (0 : Int32) then some (-1 : Int32)
  else zB (f_X4_quiet S4) (fun (r7 : Int32) =>
  some r7)
  else if p1 = (4 : Int32) then if (gI S6 11) = (0 : Int32) then some (-1 : Int32)
  else some (gI S4 1)
  else if p1 = (5 : Int32) then zB (f_X6_countFree S6 S0) (fun (r14 : Int32) =>
  some r14)
  else some (-1 : Int32)

noncomputable def b_X6_read_51 (s8_7 : SS) : (Int32 × SS) → Option ((Int32 × SS) ⊕ (SS)) := fun (v30, s6_31) =>
  if (gI s8_7 0) ≤ v30 then some (Sum.inr s6_31)
  else zG (vp_in v30 60) (
  zL (sA s6_31 5 (upd (gA s6_31 5) v30.toNatClampNeg (2 : Int32))) (fun s6_35 =>
  zL (v30 + 1) (fun v36 =>
  some (Sum.inl (v36, s6_35)))))
noncomputable def f_X6_read (S6 : SS) (S3 : SS) (S1 : SS) (S0 : SS) (S8 : SS) : Option (Int32 × Bool × SS × SS × SS × SS) :=
  zL (gI S6 1) (fun v1 =>
  zL (sI S6 1 (0 : Int32)) (fun s6_3 =>
  zB (f_X3_readInto S3 S1 (gA s6_3 0) S8 v1) (fun ((r4, s3_5, s1_6, s8_7) : Int32 × SS × SS × SS) =>
  if r4 = (0 : Int32) then some ((-1 : Int32), false, s6_3, s3_5, s1_6, s8_7)
  else zB (zI (b_X6_read_51 s8_7) zF ((0 : Int32), s6_3)) (fun (s6_23 : SS) =>
  zL (sI s6_23 11 (0 : Int32)) (fun s6_25 =>
  zB (f_X6_settleValues s6_25 s8_7) (fun (s6_26 : SS) =>
  some ((gI s8_7 0), true, s6_26, s3_5, s1_6, s8_7)))))))

set_option maxHeartbeats 4000000 in
set_option maxRecDepth 100000 in
theorem m_X6_goThroughWorlds (l : Launch) (dC : Nat → ClassId) (dI : Nat → Nat → Nat) (y : Nat → ClassId) (a6 : Nat) (h6 : Nat → Nat) (S6 : SS) (a0 : Nat) (h0 : Nat → Nat) (S0 : SS) (a5 : Nat) (h5 : Nat → Nat) (S5 : SS) (q3 : Nat) (q8 : Nat) (q4 : Nat) (tg : Nat × Nat × Nat × Nat) (sz : Nat) (or_ : Int32) (o_6 : SS) (o_5 : SS) (h : f_X6_goThroughWorlds S6 S0 S5 = some (or_, o_6, o_5)) : Met l yX6_goThroughWorlds wsX6_goThroughWorlds ({ frames := 5, cells := 0, slots := 0, locals := 116 }) (va_Pc [.ref a6] (fun U => U.heap.size = sz ∧ va_P (dC, dI) vwCl ((cX6 a6 h6 q3 a0 q8 a5 q4 y S6) ++ ((cX0 a0 h0 y S0) ++ (cX5 a5 h5 y S5))) U.heap ∧ va_K (dC, dI) vwCl [(y 0, .int), (y 1, .long), (y 2, .byte), (y 3, .boolean)] U ∧ va_D (fun _ => True) ((cX6 a6 h6 q3 a0 q8 a5 q4 y S6) ++ ((cX0 a0 h0 y S0) ++ (cX5 a5 h5 y S5))) ∧ STG tg (va_A ((cX6 a6 h6 q3 a0 q8 a5 q4 y S6) ++ ((cX0 a0 h0 y S0) ++ (cX5 a5 h5 y S5))) sz) U U.heap)) (va_Qi (fun (r : Int32) (_ : Unit) => r = or_) (fun (_ : Unit) (t : State) => va_P (dC, dI) vwCl ((cX6 a6 h6 q3 a0 q8 a5 q4 y o_6) ++ ((cX0 a0 h0 y S0) ++ (cX5 a5 h5 y o_5))) t.heap ∧ va_K (dC, dI) vwCl [(y 0, .int), (y 1, .long), (y 2, .byte), (y 3, .boolean)] t ∧ va_D (va_A ((cX6 a6 h6 q3 a0 q8 a5 q4 y S6) ++ ((cX0 a0 h0 y S0) ++ (cX5 a5 h5 y S5))) sz) ((cX6 a6 h6 q3 a0 q8 a5 q4 y o_6) ++ ((cX0 a0 h0 y S0) ++ (cX5 a5 h5 y o_5)))) (va_A ((cX6 a6 h6 q3 a0 q8 a5 q4 y S6) ++ ((cX0 a0 h0 y S0) ++ (cX5 a5 h5 y S5))) sz)) 0 0 (va_A ((cX6 a6 h6 q3 a0 q8 a5 q4 y S6) ++ ((cX0 a0 h0 y S0) ++ (cX5 a5 h5 y S5))) sz) := by
  refine Met.ofW (cc := cX6_goThroughWorlds) (maxL := 2) (ret := (some .boolean)) (by decide +kernel) rfl ?_
  intro p e s m args below meth c s₁ B hml hv
  obtain ⟨rfl, hsz, hP, hK, hD0, hST⟩ := hv
  have hx := B.exec
  have hb := B.bytes
  have hr := B.returns
  have hts := atoms_spec (ws := wsX6_goThroughWorlds) B.pre
  have hown : s.vm.findClass RX6 = some m.cls := findClass_of_methodNamed B.named
  have hlocks := B.notSynchronized
  have inX6_ : ∀ w ∈ wsX60, w ∈ wsX6_goThroughWorlds := fun _ h => List.mem_cons_of_mem _ (List.mem_append_left _ (List.mem_append_left _ (List.mem_append_right _ h)))
  subst hsz
  have hD := hD0.self (sz := s.heap.size)
  generalize hAe : va_A ((cX6 a6 h6 q3 a0 q8 a5 q4 y S6) ++ ((cX0 a0 h0 y S0) ++ (cX5 a5 h5 y S5))) s.heap.size = A at hD hST ⊢
  have hA : ∀ q : Nat, s.heap.size ≤ q → A q := fun q h => by rw [← hAe]; exact Or.inr h
  have hS : va_S A s.heap s.heap [] := va_S.rf
  have hP : va_P (dC, dI) vwCl ((cX6 a6 h6 q3 a0 q8 a5 q4 y S6) ++ ((cX0 a0 h0 y S0) ++ (cX5 a5 h5 y S5))) s.heap := hP
  have hl := lv_entry ([.ref a6]) (n := 2) (Nat.le_of_ble_eq_true rfl)
  rw [lg_entry_eq]
  generalize (lg_sl ([.ref a6]) ++ List.replicate (2 - (lg_sl ([.ref a6])).length) Slot.unset).toArray = ls at hl ⊢
  have hl : lv_has ls 2 [(0, .ref a6)] := hl
  refine lv_aload_n hx hb dX6_goThroughWorlds_0 rfl (lv_at hl 0 rfl) ?_
  obtain ⟨r1, hc2, h⟩ := zB_spec h
  have hPc := hP.sub (ws' := ((cX6 a6 h6 q3 a0 q8 a5 q4 y S6) ++ (cX0 a0 h0 y S0))) [0, 1, 2, 3, 4, 5, 6, 7, 8, 9, 10, 11, 12, 13, 14, 15, 16] rfl
  have hDc := hD.sub (ws' := ((cX6 a6 h6 q3 a0 q8 a5 q4 y S6) ++ (cX0 a0 h0 y S0))) [0, 1, 2, 3, 4, 5, 6, 7, 8, 9, 10, 11, 12, 13, 14, 15, 16] (by decide) rfl
  have hFc := va_free (wc := ((cX6 a6 h6 q3 a0 q8 a5 q4 y S6) ++ (cX0 a0 h0 y S0))) hD hS hA [0, 1, 2, 3, 4, 5, 6, 7, 8, 9, 10, 11, 12, 13, 14, 15, 16] rfl
  refine va_calli (va_runV (As := []) (rest := []) ⟨hx, hb, hml, hown, hts⟩ (m_X6_countFree l dC dI y a6 h6 S6 a0 h0 S0 q3 q8 a5 q4 s.heap.size r1 hc2) (cwV 0 hts gX6_goThroughWorlds_X6_countFree rfl rfl rfl (by decide +kernel) ⟨Nat.le_of_ble_eq_true rfl, Nat.le_of_ble_eq_true rfl⟩) ⟨fun a U g mk q => by obtain ⟨q0, q1, qP, qK, qD⟩ := q; exact ⟨q0, q1, qP, va_K.moved (u := U) (U := U.calling g mk a) (Vm.Alike.refl U.vm) qK, qD⟩, va_recv hK hPc (ci := 5) (q0 := 0) rfl rfl, fun U hU hW => ⟨rfl, by rw [hU], by rw [hU]; exact hPc, va_K.moved hW.alike hK, hDc.weaken (fun _ _ _ _ => trivial)⟩⟩ rfl rfl hl.1 rfl (lv_room (Nat.le_of_ble_eq_true rfl)) dX6_goThroughWorlds_1 ⟨Nat.le_of_ble_eq_true rfl, Nat.le_of_ble_eq_true rfl⟩) hS (fun q _ h => hFc q h) hFc (fun rr4 u t H3 locs ht hvm hw hB hz1 hk1 hS => ?_)
  obtain ⟨hP1, hK1, hD1⟩ := hB
  rw [ht] at hP1
  refine zTopi hw.symm ?_
  obtain ⟨hP, hD⟩ := va_join (wr := [(oX5 a5 h5 S5), (h5 3, .inl (y 1, 60, .inr (.inl (gB S5 3))))]) (w1 := ((cX6 a6 h6 q3 a0 q8 a5 q4 y S6) ++ (cX0 a0 h0 y S0))) hP hD [0, 1, 2, 3, 4, 5, 6, 7, 8, 9, 10, 11, 12, 13, 14, 15, 16] [17, 18] rfl rfl (by decide) (by decide) hk1 hFc hP1 hD1
  have hP : va_P (dC, dI) vwCl ((cX6 a6 h6 q3 a0 q8 a5 q4 y S6) ++ ((cX0 a0 h0 y S0) ++ (cX5 a5 h5 y S5))) H3 := hP.sub [2, 3, 4, 5, 6, 7, 8, 9, 10, 11, 12, 13, 14, 15, 16, 17, 18, 0, 1] rfl
  have hD : va_D A ((cX6 a6 h6 q3 a0 q8 a5 q4 y S6) ++ ((cX0 a0 h0 y S0) ++ (cX5 a5 h5 y S5))) := hD.sub [2, 3, 4, 5, 6, 7, 8, 9, 10, 11, 12, 13, 14, 15, 16, 17, 18, 0, 1] (by decide) rfl
  refine lv_istore_n (lv' := [(1, .int r1), (0, .ref a6)]) hx hb dX6_goThroughWorlds_4 rfl hl (by decide) rfl (fun ls hl => ?_)
  refine lv_iload_n hx hb dX6_goThroughWorlds_5 rfl (lv_at hl 0 rfl) ?_
  refine lv_bipush (v := 12) hx hb dX6_goThroughWorlds_6 (by decide) ?_
  refine lv_icmp_le (tgt := 13) hx hb dX6_goThroughWorlds_8 (by decide) (fun c5 => ?_) (fun c5 => ?_)
  · have h := zY c5 h
    refine lv_aload_n hx hb dX6_goThroughWorlds_13 rfl (lv_at hl 1 rfl) ?_
    refine va_get (D := (dC, dI)) (ci := 5) (v := .int (gI S6 9)) (C := RX6) (T := TX6) (N := 12) hx hb hts inX6_ hown hK hP 0 rfl rfl 9 (by decide) (hts (.fieldLink RX6 167 "GateWheel" "worldsAreFresh" "Z") (List.mem_of_getElem? (i := 1) rfl)) (fun _ h9 => h9) rfl dX6_goThroughWorlds_14 ?_
    refine lv_if_ne (tgt := 41) hx hb dX6_goThroughWorlds_17 (by decide) (fun c6 => ?_) (fun c6 => ?_)
    · have h := zN c6 h
      refine lv_iconst (v := 1) hx hb dX6_goThroughWorlds_41 (by decide) ?_
      have ho0 : (1 : Int32) = or_ := congrArg (fun z : Int32 × SS × SS => z.1) (Option.some.inj h)
      have ho1 : S6 = o_6 := congrArg (fun z : Int32 × SS × SS => z.2.1) (Option.some.inj h)
      have ho2 : S5 = o_5 := congrArg (fun z : Int32 × SS × SS => z.2.2) (Option.some.inj h)
      exact W.zret (v := 1) hx hb hr (by decide) (fun t ht hW => ⟨⟨1, (), rfl, ho0, by rw [ht]; rw [← ho1, ← ho2]; exact hP, va_K.moved hW.alike hK, by rw [← ho1, ← ho2]; exact hD⟩, hS.F ht⟩) hS.2.2 dX6_goThroughWorlds_42
    · have h := zY c6 h
      refine lv_aload_n hx hb dX6_goThroughWorlds_20 rfl (lv_at hl 1 rfl) ?_
      refine va_get (D := (dC, dI)) (ci := 5) (v := .ref a5) (C := RX6) (T := TX6) (N := 12) hx hb hts inX6_ hown hK hP 0 rfl rfl 8 (by decide) (hts (.fieldLink RX6 43 "GateWheel" "allWorlds" "LGateWheel$Worlds;") (List.mem_of_getElem? (i := 2) rfl)) (fun _ h9 => h9) rfl dX6_goThroughWorlds_21 ?_
      refine lv_aload_n hx hb dX6_goThroughWorlds_24 rfl (lv_at hl 1 rfl) ?_
      refine va_get (D := (dC, dI)) (ci := 5) (v := .ref a0) (C := RX6) (T := TX6) (N := 12) hx hb hts inX6_ hown hK hP 0 rfl rfl 3 (by decide) (hts (.fieldLink RX6 23 "GateWheel" "circuit" "LGateWheel$Circuit;") (List.mem_of_getElem? (i := 3) rfl)) (fun _ h9 => h9) rfl dX6_goThroughWorlds_25 ?_
      refine lv_aload_n hx hb dX6_goThroughWorlds_28 rfl (lv_at hl 1 rfl) ?_
      refine va_get (D := (dC, dI)) (ci := 5) (v := .ref (h6 5)) (C := RX6) (T := TX6) (N := 12) hx hb hts inX6_ hown hK hP 0 rfl rfl 5 (by decide) (hts (.fieldLink RX6 30 "GateWheel" "values" "[I") (List.mem_of_getElem? (i := 4) rfl)) (fun _ h9 => h9) rfl dX6_goThroughWorlds_29 ?_
      refine lv_iload_n hx hb dX6_goThroughWorlds_32 rfl (lv_at hl 0 rfl) ?_
      obtain ⟨s5_7, hc8, h⟩ := zB_spec h
      have hPc := hP.sub (ws' := ((cX5 a5 h5 y S5) ++ ((cX0 a0 h0 y S0) ++ ([((h6 5), .inl (y 0, 60, .inl (gA S6 5)))])))) [17, 18, 5, 6, 7, 8, 9, 10, 11, 12, 13, 14, 15, 16, 2] rfl
      have hDc := hD.sub (ws' := ((cX5 a5 h5 y S5) ++ ((cX0 a0 h0 y S0) ++ ([((h6 5), .inl (y 0, 60, .inl (gA S6 5)))])))) [17, 18, 5, 6, 7, 8, 9, 10, 11, 12, 13, 14, 15, 16, 2] (by decide) rfl
      have hFc := va_free (wc := ((cX5 a5 h5 y S5) ++ ((cX0 a0 h0 y S0) ++ ([((h6 5), .inl (y 0, 60, .inl (gA S6 5)))])))) hD hS hA [17, 18, 5, 6, 7, 8, 9, 10, 11, 12, 13, 14, 15, 16, 2] rfl
      refine va_callv (va_runV (As := [.ref a0, .ref (h6 5), .int r1]) (rest := []) ⟨hx, hb, hml, hown, hts⟩ (m_X5_goThrough l dC dI y a5 h5 S5 a0 h0 S0 (h6 5) (gA S6 5) r1 tg H3.size s5_7 hc8) (cwV 3 hts gX6_goThroughWorlds_X5_goThrough rfl rfl rfl (by decide +kernel) ⟨Nat.le_of_ble_eq_true rfl, Nat.le_of_ble_eq_true rfl⟩) ⟨fun a U g mk q => by obtain ⟨q0, q1, qP, qK, qD, qT⟩ := q; exact ⟨q0, q1, qP, va_K.moved (u := U) (U := U.calling g mk a) (Vm.Alike.refl U.vm) qK, qD, STG_moved (u := U) (U := U.calling g mk a) (Vm.Alike.refl U.vm) qT⟩, va_recv hK hPc (ci := 4) (q0 := 0) rfl rfl, fun U hU hW => ⟨rfl, by rw [hU], by rw [hU]; exact hPc, va_K.moved hW.alike hK, hDc.weaken (fun _ _ _ _ => trivial), by rw [hU]; exact STG_moved hW.alike (STG_narrow (STG_kept hST hS.2.1) hFc)⟩⟩ rfl rfl hl.1 rfl (lv_room (Nat.le_of_ble_eq_true rfl)) dX6_goThroughWorlds_33 ⟨Nat.le_of_ble_eq_true rfl, Nat.le_of_ble_eq_true rfl⟩) hS (fun q _ h => hFc q h) hFc (fun u t H9 locs ht hvm hw hB hz1 hk1 hS => ?_)
      obtain ⟨hP1, hK1, hD1⟩ := hB
      rw [ht] at hP1
      obtain ⟨hP, hD⟩ := va_join (wr := [(oX6 a6 h6 q3 a0 q8 a5 q4 S6), (h6 0, .inl (y 2, 2000, .inl (gA S6 0))), (h6 6, .inl (y 0, 60, .inl (gA S6 6))), (h6 7, .inl (y 0, 60, .inl (gA S6 7)))]) (w1 := ((cX5 a5 h5 y s5_7) ++ ((cX0 a0 h0 y S0) ++ ([((h6 5), .inl (y 0, 60, .inl (gA S6 5)))])))) hP hD [17, 18, 5, 6, 7, 8, 9, 10, 11, 12, 13, 14, 15, 16, 2] [0, 1, 3, 4] rfl rfl (by decide) (by decide) hk1 hFc hP1 hD1
      have hP : va_P (dC, dI) vwCl ((cX6 a6 h6 q3 a0 q8 a5 q4 y S6) ++ ((cX0 a0 h0 y S0) ++ (cX5 a5 h5 y s5_7))) H9 := hP.sub [0, 1, 18, 2, 3, 6, 7, 8, 9, 10, 11, 12, 13, 14, 15, 16, 17, 4, 5] rfl
      have hD : va_D A ((cX6 a6 h6 q3 a0 q8 a5 q4 y S6) ++ ((cX0 a0 h0 y S0) ++ (cX5 a5 h5 y s5_7))) := hD.sub [0, 1, 18, 2, 3, 6, 7, 8, 9, 10, 11, 12, 13, 14, 15, 16, 17, 4, 5] (by decide) rfl
      refine lv_aload_n hx hb dX6_goThroughWorlds_36 rfl (lv_at hl 1 rfl) ?_
      refine lv_iconst (v := 1) hx hb dX6_goThroughWorlds_37 (by decide) ?_
      refine va_put (D := (dC, dI)) (ci := 5) (v := .int 1) (ty := .boolean) (C := RX6) (T := TX6) (N := 12) hx hb hts inX6_ tyX6 tyX6_ok nmX6 hown hK hP hD hS 0 rfl rfl 9 (by decide) (hts (.fieldLink RX6 167 "GateWheel" "worldsAreFresh" "Z") (List.mem_of_getElem? (i := 1) rfl)) (fun _ h9 => h9) rfl (by decide +kernel) (by decide) rfl (Nat.le_of_ble_eq_true rfl) dX6_goThroughWorlds_38 (fun H11 locs hP hD hS => ?_)
      obtain ⟨s6_12, es6_12, h⟩ := zL_spec h
      have hP : va_P (dC, dI) vwCl ((cX6 a6 h6 q3 a0 q8 a5 q4 y s6_12) ++ ((cX0 a0 h0 y S0) ++ (cX5 a5 h5 y s5_7))) H11 := by rw [es6_12]; exact hP
      have hD : va_D A ((cX6 a6 h6 q3 a0 q8 a5 q4 y s6_12) ++ ((cX0 a0 h0 y S0) ++ (cX5 a5 h5 y s5_7))) := by rw [es6_12]; exact hD
      refine lv_iconst (v := 1) hx hb dX6_goThroughWorlds_41 (by decide) ?_
      have ho0 : (1 : Int32) = or_ := congrArg (fun z : Int32 × SS × SS => z.1) (Option.some.inj h)
      have ho1 : s6_12 = o_6 := congrArg (fun z : Int32 × SS × SS => z.2.1) (Option.some.inj h)
      have ho2 : s5_7 = o_5 := congrArg (fun z : Int32 × SS × SS => z.2.2) (Option.some.inj h)
      exact W.zret (v := 1) hx hb hr (by decide) (fun t ht hW => ⟨⟨1, (), rfl, ho0, by rw [ht]; rw [← ho1, ← ho2]; exact hP, va_K.moved hW.alike hK, by rw [← ho1, ← ho2]; exact hD⟩, hS.F ht⟩) hS.2.2 dX6_goThroughWorlds_42
  · have h := zN c5 h
    refine lv_iconst (v := 0) hx hb dX6_goThroughWorlds_11 (by decide) ?_
    have ho0 : (0 : Int32) = or_ := congrArg (fun z : Int32 × SS × SS => z.1) (Option.some.inj h)
    have ho1 : S6 = o_6 := congrArg (fun z : Int32 × SS × SS => z.2.1) (Option.some.inj h)
    have ho2 : S5 = o_5 := congrArg (fun z : Int32 × SS × SS => z.2.2) (Option.some.inj h)
    exact W.zret (v := 0) hx hb hr (by decide) (fun t ht hW => ⟨⟨0, (), rfl, ho0, by rw [ht]; rw [← ho1, ← ho2]; exact hP, va_K.moved hW.alike hK, by rw [← ho1, ← ho2]; exact hD⟩, hS.F ht⟩) hS.2.2 dX6_goThroughWorlds_12

set_option maxHeartbeats 4000000 in
set_option maxRecDepth 100000 in
theorem m_X6_legal (l : Launch) (dC : Nat → ClassId) (dI : Nat → Nat → Nat) (y : Nat → ClassId) (a6 : Nat) (h6 : Nat → Nat) (S6 : SS) (a0 : Nat) (h0 : Nat → Nat) (S0 : SS) (a5 : Nat) (h5 : Nat → Nat) (S5 : SS) (q3 : Nat) (q8 : Nat) (q4 : Nat) (tg : Nat × Nat × Nat × Nat) (sz : Nat) (or_ : Int32) (o_6 : SS) (o_5 : SS) (h : f_X6_legal S6 S0 S5 = some (or_, o_6, o_5)) : Met l yX6_legal wsX6_legal ({ frames := 6, cells := 0, slots := 0, locals := 137 }) (va_Pc [.ref a6] (fun U => U.heap.size = sz ∧ va_P (dC, dI) vwCl ((cX6 a6 h6 q3 a0 q8 a5 q4 y S6) ++ ((cX0 a0 h0 y S0) ++ (cX5 a5 h5 y S5))) U.heap ∧ va_K (dC, dI) vwCl [(y 0, .int), (y 1, .long), (y 2, .byte), (y 3, .boolean)] U ∧ va_D (fun _ => True) ((cX6 a6 h6 q3 a0 q8 a5 q4 y S6) ++ ((cX0 a0 h0 y S0) ++ (cX5 a5 h5 y S5))) ∧ STG tg (va_A ((cX6 a6 h6 q3 a0 q8 a5 q4 y S6) ++ ((cX0 a0 h0 y S0) ++ (cX5 a5 h5 y S5))) sz) U U.heap)) (va_Qi (fun (r : Int32) (_ : Unit) => r = or_) (fun (_ : Unit) (t : State) => va_P (dC, dI) vwCl ((cX6 a6 h6 q3 a0 q8 a5 q4 y o_6) ++ ((cX0 a0 h0 y S0) ++ (cX5 a5 h5 y o_5))) t.heap ∧ va_K (dC, dI) vwCl [(y 0, .int), (y 1, .long), (y 2, .byte), (y 3, .boolean)] t ∧ va_D (va_A ((cX6 a6 h6 q3 a0 q8 a5 q4 y S6) ++ ((cX0 a0 h0 y S0) ++ (cX5 a5 h5 y S5))) sz) ((cX6 a6 h6 q3 a0 q8 a5 q4 y o_6) ++ ((cX0 a0 h0 y S0) ++ (cX5 a5 h5 y o_5)))) (va_A ((cX6 a6 h6 q3 a0 q8 a5 q4 y S6) ++ ((cX0 a0 h0 y S0) ++ (cX5 a5 h5 y S5))) sz)) 0 0 (va_A ((cX6 a6 h6 q3 a0 q8 a5 q4 y S6) ++ ((cX0 a0 h0 y S0) ++ (cX5 a5 h5 y S5))) sz) := by
  refine Met.ofW (cc := cX6_legal) (maxL := 1) (ret := (some .int)) (by decide +kernel) rfl ?_
  intro p e s m args below meth c s₁ B hml hv
  obtain ⟨rfl, hsz, hP, hK, hD0, hST⟩ := hv
  have hx := B.exec
  have hb := B.bytes
  have hr := B.returns
  have hts := atoms_spec (ws := wsX6_legal) B.pre
  have hown : s.vm.findClass RX6 = some m.cls := findClass_of_methodNamed B.named
  have hlocks := B.notSynchronized
  have inX5_ : ∀ w ∈ wsX50, w ∈ wsX6_legal := fun _ h => List.mem_cons_of_mem _ (List.mem_append_left _ (List.mem_append_right _ h))
  have inX6_ : ∀ w ∈ wsX60, w ∈ wsX6_legal := fun _ h => List.mem_cons_of_mem _ (List.mem_append_left _ (List.mem_append_left _ (List.mem_append_right _ h)))
  subst hsz
  have hD := hD0.self (sz := s.heap.size)
  generalize hAe : va_A ((cX6 a6 h6 q3 a0 q8 a5 q4 y S6) ++ ((cX0 a0 h0 y S0) ++ (cX5 a5 h5 y S5))) s.heap.size = A at hD hST ⊢
  have hA : ∀ q : Nat, s.heap.size ≤ q → A q := fun q h => by rw [← hAe]; exact Or.inr h
  have hS : va_S A s.heap s.heap [] := va_S.rf
  have hP : va_P (dC, dI) vwCl ((cX6 a6 h6 q3 a0 q8 a5 q4 y S6) ++ ((cX0 a0 h0 y S0) ++ (cX5 a5 h5 y S5))) s.heap := hP
  have hl := lv_entry ([.ref a6]) (n := 1) (Nat.le_of_ble_eq_true rfl)
  rw [lg_entry_eq]
  generalize (lg_sl ([.ref a6]) ++ List.replicate (1 - (lg_sl ([.ref a6])).length) Slot.unset).toArray = ls at hl ⊢
  have hl : lv_has ls 1 [(0, .ref a6)] := hl
  refine lv_aload_n hx hb dX6_legal_0 rfl (lv_at hl 0 rfl) ?_
  obtain ⟨⟨r1, s6_2, s5_3⟩, hc4, h⟩ := zB_spec h
  have hFc := zFree hD hS hA
  refine va_calli (va_runV (As := []) (rest := []) ⟨hx, hb, hml, hown, hts⟩ (m_X6_goThroughWorlds l dC dI y a6 h6 S6 a0 h0 S0 a5 h5 S5 q3 q8 q4 tg s.heap.size r1 s6_2 s5_3 hc4) (cwV 0 hts gX6_legal_X6_goThroughWorlds rfl rfl rfl (by decide +kernel) ⟨Nat.le_of_ble_eq_true rfl, Nat.le_of_ble_eq_true rfl⟩) ⟨fun a U g mk q => by obtain ⟨q0, q1, qP, qK, qD, qT⟩ := q; exact ⟨q0, q1, qP, va_K.moved (u := U) (U := U.calling g mk a) (Vm.Alike.refl U.vm) qK, qD, STG_moved (u := U) (U := U.calling g mk a) (Vm.Alike.refl U.vm) qT⟩, va_recv hK hP (ci := 5) (q0 := 0) rfl rfl, fun U hU hW => ⟨rfl, by rw [hU], by rw [hU]; exact hP, va_K.moved hW.alike hK, hD.weaken (fun _ _ _ _ => trivial), by rw [hU]; exact STG_moved hW.alike (STG_narrow (STG_kept hST hS.2.1) hFc)⟩⟩ rfl rfl hl.1 rfl (lv_room (Nat.le_of_ble_eq_true rfl)) dX6_legal_1 ⟨Nat.le_of_ble_eq_true rfl, Nat.le_of_ble_eq_true rfl⟩) hS (fun q _ h => hFc q h) hFc (fun rr6 u t H5 locs ht hvm hw hB hz1 hk1 hS => ?_)
  obtain ⟨hP1, hK1, hD1⟩ := hB
  rw [ht] at hP1
  refine zTopi hw.symm ?_
  have hP := hP1
  have hD := hD1.weaken (fun _ q _ h => hFc q.1 h)
  have hP : va_P (dC, dI) vwCl ((cX6 a6 h6 q3 a0 q8 a5 q4 y s6_2) ++ ((cX0 a0 h0 y S0) ++ (cX5 a5 h5 y s5_3))) H5 := hP
  have hD : va_D A ((cX6 a6 h6 q3 a0 q8 a5 q4 y s6_2) ++ ((cX0 a0 h0 y S0) ++ (cX5 a5 h5 y s5_3))) := hD
  refine lv_if_eq (tgt := 17) hx hb dX6_legal_4 (by decide) (fun c7 => ?_) (fun c7 => ?_)
  · have h := zY c7 h
    refine lv_bipush (v := (-2)) hx hb dX6_legal_17 (by decide) ?_
    have ho0 : (-2 : Int32) = or_ := congrArg (fun z : Int32 × SS × SS => z.1) (Option.some.inj h)
    have ho1 : s6_2 = o_6 := congrArg (fun z : Int32 × SS × SS => z.2.1) (Option.some.inj h)
    have ho2 : s5_3 = o_5 := congrArg (fun z : Int32 × SS × SS => z.2.2) (Option.some.inj h)
    exact W.iret (v := (-2)) hx hb hr (fun t ht hW => ⟨⟨(-2), (), rfl, ho0, by rw [ht]; rw [← ho1, ← ho2]; exact hP, va_K.moved hW.alike hK, by rw [← ho1, ← ho2]; exact hD⟩, hS.F ht⟩) hS.2.2 dX6_legal_19
  · have h := zN c7 h
    refine lv_aload_n hx hb dX6_legal_7 rfl (lv_at hl 0 rfl) ?_
    refine va_get (D := (dC, dI)) (ci := 5) (v := .ref a5) (C := RX6) (T := TX6) (N := 12) hx hb hts inX6_ hown hK hP 0 rfl rfl 8 (by decide) (hts (.fieldLink RX6 43 "GateWheel" "allWorlds" "LGateWheel$Worlds;") (List.mem_of_getElem? (i := 1) rfl)) (fun _ h9 => h9) rfl dX6_legal_8 ?_
    refine va_get (D := (dC, dI)) (ci := 4) (v := .int (gI s5_3 0)) (C := RX5) (T := TX5) (N := 5) hx hb hts inX5_ hown hK hP 17 rfl rfl 0 (by decide) (hts (.fieldLink RX6 123 "GateWheel$Worlds" "legalCount" "I") (List.mem_of_getElem? (i := 2) rfl)) (fun _ h9 => h9) rfl dX6_legal_11 ?_
    refine lv_goto (tgt := 19) hx hb dX6_legal_14 (by decide) ?_
    have ho0 : (gI s5_3 0) = or_ := congrArg (fun z : Int32 × SS × SS => z.1) (Option.some.inj h)
    have ho1 : s6_2 = o_6 := congrArg (fun z : Int32 × SS × SS => z.2.1) (Option.some.inj h)
    have ho2 : s5_3 = o_5 := congrArg (fun z : Int32 × SS × SS => z.2.2) (Option.some.inj h)
    exact W.iret (v := (gI s5_3 0)) hx hb hr (fun t ht hW => ⟨⟨(gI s5_3 0), (), rfl, ho0, by rw [ht]; rw [← ho1, ← ho2]; exact hP, va_K.moved hW.alike hK, by rw [← ho1, ← ho2]; exact hD⟩, hS.F ht⟩) hS.2.2 dX6_legal_19

set_option maxHeartbeats 4000000 in
set_option maxRecDepth 100000 in
theorem m_X6_sharp (l : Launch) (dC : Nat → ClassId) (dI : Nat → Nat → Nat) (y : Nat → ClassId) (a6 : Nat) (h6 : Nat → Nat) (S6 : SS) (a0 : Nat) (h0 : Nat → Nat) (S0 : SS) (a5 : Nat) (h5 : Nat → Nat) (S5 : SS) (q3 : Nat) (q8 : Nat) (q4 : Nat) (p1 : Int32) (tg : Nat × Nat × Nat × Nat) (sz : Nat) (or_ : Int32) (o_6 : SS) (o_5 : SS) (h : f_X6_sharp S6 S0 S5 p1 = some (or_, o_6, o_5)) : Met l yX6_sharp wsX6_sharp ({ frames := 6, cells := 0, slots := 0, locals := 137 }) (va_Pc [.ref a6, .int p1] (fun U => U.heap.size = sz ∧ va_P (dC, dI) vwCl ((cX6 a6 h6 q3 a0 q8 a5 q4 y S6) ++ ((cX0 a0 h0 y S0) ++ (cX5 a5 h5 y S5))) U.heap ∧ va_K (dC, dI) vwCl [(y 0, .int), (y 1, .long), (y 2, .byte), (y 3, .boolean)] U ∧ va_D (fun _ => True) ((cX6 a6 h6 q3 a0 q8 a5 q4 y S6) ++ ((cX0 a0 h0 y S0) ++ (cX5 a5 h5 y S5))) ∧ STG tg (va_A ((cX6 a6 h6 q3 a0 q8 a5 q4 y S6) ++ ((cX0 a0 h0 y S0) ++ (cX5 a5 h5 y S5))) sz) U U.heap)) (va_Qi (fun (r : Int32) (_ : Unit) => r = or_) (fun (_ : Unit) (t : State) => va_P (dC, dI) vwCl ((cX6 a6 h6 q3 a0 q8 a5 q4 y o_6) ++ ((cX0 a0 h0 y S0) ++ (cX5 a5 h5 y o_5))) t.heap ∧ va_K (dC, dI) vwCl [(y 0, .int), (y 1, .long), (y 2, .byte), (y 3, .boolean)] t ∧ va_D (va_A ((cX6 a6 h6 q3 a0 q8 a5 q4 y S6) ++ ((cX0 a0 h0 y S0) ++ (cX5 a5 h5 y S5))) sz) ((cX6 a6 h6 q3 a0 q8 a5 q4 y o_6) ++ ((cX0 a0 h0 y S0) ++ (cX5 a5 h5 y o_5)))) (va_A ((cX6 a6 h6 q3 a0 q8 a5 q4 y S6) ++ ((cX0 a0 h0 y S0) ++ (cX5 a5 h5 y S5))) sz)) 0 0 (va_A ((cX6 a6 h6 q3 a0 q8 a5 q4 y S6) ++ ((cX0 a0 h0 y S0) ++ (cX5 a5 h5 y S5))) sz) := by
  refine Met.ofW (cc := cX6_sharp) (maxL := 2) (ret := (some .int)) (by decide +kernel) rfl ?_
  intro p e s m args below meth c s₁ B hml hv
  obtain ⟨rfl, hsz, hP, hK, hD0, hST⟩ := hv
  have hx := B.exec
  have hb := B.bytes
  have hr := B.returns
  have hts := atoms_spec (ws := wsX6_sharp) B.pre
  have hown : s.vm.findClass RX6 = some m.cls := findClass_of_methodNamed B.named
  have hlocks := B.notSynchronized
  have inX6_ : ∀ w ∈ wsX60, w ∈ wsX6_sharp := fun _ h => List.mem_cons_of_mem _ (List.mem_append_left _ (List.mem_append_left _ (List.mem_append_right _ h)))
  subst hsz
  have hD := hD0.self (sz := s.heap.size)
  generalize hAe : va_A ((cX6 a6 h6 q3 a0 q8 a5 q4 y S6) ++ ((cX0 a0 h0 y S0) ++ (cX5 a5 h5 y S5))) s.heap.size = A at hD hST ⊢
  have hA : ∀ q : Nat, s.heap.size ≤ q → A q := fun q h => by rw [← hAe]; exact Or.inr h
  have hS : va_S A s.heap s.heap [] := va_S.rf
  have hP : va_P (dC, dI) vwCl ((cX6 a6 h6 q3 a0 q8 a5 q4 y S6) ++ ((cX0 a0 h0 y S0) ++ (cX5 a5 h5 y S5))) s.heap := hP
  have hl := lv_entry ([.ref a6, .int p1]) (n := 2) (Nat.le_of_ble_eq_true rfl)
  rw [lg_entry_eq]
  generalize (lg_sl ([.ref a6, .int p1]) ++ List.replicate (2 - (lg_sl ([.ref a6, .int p1])).length) Slot.unset).toArray = ls at hl ⊢
  have hl : lv_has ls 2 [(0, .ref a6), (1, .int p1)] := hl
  refine lv_aload_n hx hb dX6_sharp_0 rfl (lv_at hl 0 rfl) ?_
  obtain ⟨⟨r1, s6_2, s5_3⟩, hc4, h⟩ := zB_spec h
  have hFc := zFree hD hS hA
  refine va_calli (va_runV (As := []) (rest := []) ⟨hx, hb, hml, hown, hts⟩ (m_X6_goThroughWorlds l dC dI y a6 h6 S6 a0 h0 S0 a5 h5 S5 q3 q8 q4 tg s.heap.size r1 s6_2 s5_3 hc4) (cwV 0 hts gX6_sharp_X6_goThroughWorlds rfl rfl rfl (by decide +kernel) ⟨Nat.le_of_ble_eq_true rfl, Nat.le_of_ble_eq_true rfl⟩) ⟨fun a U g mk q => by obtain ⟨q0, q1, qP, qK, qD, qT⟩ := q; exact ⟨q0, q1, qP, va_K.moved (u := U) (U := U.calling g mk a) (Vm.Alike.refl U.vm) qK, qD, STG_moved (u := U) (U := U.calling g mk a) (Vm.Alike.refl U.vm) qT⟩, va_recv hK hP (ci := 5) (q0 := 0) rfl rfl, fun U hU hW => ⟨rfl, by rw [hU], by rw [hU]; exact hP, va_K.moved hW.alike hK, hD.weaken (fun _ _ _ _ => trivial), by rw [hU]; exact STG_moved hW.alike (STG_narrow (STG_kept hST hS.2.1) hFc)⟩⟩ rfl rfl hl.1 rfl (lv_room (Nat.le_of_ble_eq_true rfl)) dX6_sharp_1 ⟨Nat.le_of_ble_eq_true rfl, Nat.le_of_ble_eq_true rfl⟩) hS (fun q _ h => hFc q h) hFc (fun rr6 u t H5 locs ht hvm hw hB hz1 hk1 hS => ?_)
  obtain ⟨hP1, hK1, hD1⟩ := hB
  rw [ht] at hP1
  refine zTopi hw.symm ?_
  have hP := hP1
  have hD := hD1.weaken (fun _ q _ h => hFc q.1 h)
  have hP : va_P (dC, dI) vwCl ((cX6 a6 h6 q3 a0 q8 a5 q4 y s6_2) ++ ((cX0 a0 h0 y S0) ++ (cX5 a5 h5 y s5_3))) H5 := hP
  have hD : va_D A ((cX6 a6 h6 q3 a0 q8 a5 q4 y s6_2) ++ ((cX0 a0 h0 y S0) ++ (cX5 a5 h5 y s5_3))) := hD
  refine lv_if_ne (tgt := 10) hx hb dX6_sharp_4 (by decide) (fun c7 => ?_) (fun c7 => ?_)
  · have h := zN c7 h
    refine lv_aload_n hx hb dX6_sharp_10 rfl (lv_at hl 0 rfl) ?_
    refine va_get (D := (dC, dI)) (ci := 5) (v := .ref a0) (C := RX6) (T := TX6) (N := 12) hx hb hts inX6_ hown hK hP 0 rfl rfl 3 (by decide) (hts (.fieldLink RX6 23 "GateWheel" "circuit" "LGateWheel$Circuit;") (List.mem_of_getElem? (i := 1) rfl)) (fun _ h9 => h9) rfl dX6_sharp_11 ?_
    refine lv_iload_n hx hb dX6_sharp_14 rfl (lv_at hl 1 rfl) ?_
    obtain ⟨r8, hc9, h⟩ := zB_spec h
    have hPc := hP.sub (ws' := (cX0 a0 h0 y S0)) [5, 6, 7, 8, 9, 10, 11, 12, 13, 14, 15, 16] rfl
    have hDc := hD.sub (ws' := (cX0 a0 h0 y S0)) [5, 6, 7, 8, 9, 10, 11, 12, 13, 14, 15, 16] (by decide) rfl
    have hFc := va_free (wc := (cX0 a0 h0 y S0)) hD hS hA [5, 6, 7, 8, 9, 10, 11, 12, 13, 14, 15, 16] rfl
    refine va_calli (va_runV (As := [.int p1]) (rest := []) ⟨hx, hb, hml, hown, hts⟩ (m_X0_has l dC dI y a0 h0 S0 p1 H5.size r8 hc9) (cwV 1 hts gX6_sharp_X0_has rfl rfl rfl (by decide +kernel) ⟨Nat.le_of_ble_eq_true rfl, Nat.le_of_ble_eq_true rfl⟩) ⟨fun a U g mk q => by obtain ⟨q0, q1, qP, qK, qD⟩ := q; exact ⟨q0, q1, qP, va_K.moved (u := U) (U := U.calling g mk a) (Vm.Alike.refl U.vm) qK, qD⟩, va_recv hK hPc (ci := 0) (q0 := 0) rfl rfl, fun U hU hW => ⟨rfl, by rw [hU], by rw [hU]; exact hPc, va_K.moved hW.alike hK, hDc.weaken (fun _ _ _ _ => trivial)⟩⟩ rfl rfl hl.1 rfl (lv_room (Nat.le_of_ble_eq_true rfl)) dX6_sharp_15 ⟨Nat.le_of_ble_eq_true rfl, Nat.le_of_ble_eq_true rfl⟩) hS (fun q _ h => hFc q h) hFc (fun rr11 u t H10 locs ht hvm hw hB hz1 hk1 hS => ?_)
    obtain ⟨hP1, hK1, hD1⟩ := hB
    rw [ht] at hP1
    refine zTopi hw.symm ?_
    obtain ⟨hP, hD⟩ := va_join (wr := [(oX6 a6 h6 q3 a0 q8 a5 q4 s6_2), (h6 0, .inl (y 2, 2000, .inl (gA s6_2 0))), (h6 5, .inl (y 0, 60, .inl (gA s6_2 5))), (h6 6, .inl (y 0, 60, .inl (gA s6_2 6))), (h6 7, .inl (y 0, 60, .inl (gA s6_2 7))), (oX5 a5 h5 s5_3), (h5 3, .inl (y 1, 60, .inr (.inl (gB s5_3 3))))]) (w1 := (cX0 a0 h0 y S0)) hP hD [5, 6, 7, 8, 9, 10, 11, 12, 13, 14, 15, 16] [0, 1, 2, 3, 4, 17, 18] rfl rfl (by decide) (by decide) hk1 hFc hP1 hD1
    have hP : va_P (dC, dI) vwCl ((cX6 a6 h6 q3 a0 q8 a5 q4 y s6_2) ++ ((cX0 a0 h0 y S0) ++ (cX5 a5 h5 y s5_3))) H10 := hP.sub [0, 1, 2, 3, 4, 7, 8, 9, 10, 11, 12, 13, 14, 15, 16, 17, 18, 5, 6] rfl
    have hD : va_D A ((cX6 a6 h6 q3 a0 q8 a5 q4 y s6_2) ++ ((cX0 a0 h0 y S0) ++ (cX5 a5 h5 y s5_3))) := hD.sub [0, 1, 2, 3, 4, 7, 8, 9, 10, 11, 12, 13, 14, 15, 16, 17, 18, 5, 6] (by decide) rfl
    refine lv_if_eq (tgt := 32) hx hb dX6_sharp_18 (by decide) (fun c12 => ?_) (fun c12 => ?_)
    · have h := zY c12 h
      refine lv_iconst (v := (-1)) hx hb dX6_sharp_32 (by decide) ?_
      have ho0 : (-1 : Int32) = or_ := congrArg (fun z : Int32 × SS × SS => z.1) (Option.some.inj h)
      have ho1 : s6_2 = o_6 := congrArg (fun z : Int32 × SS × SS => z.2.1) (Option.some.inj h)
      have ho2 : s5_3 = o_5 := congrArg (fun z : Int32 × SS × SS => z.2.2) (Option.some.inj h)
      exact W.iret (v := (-1)) hx hb hr (fun t ht hW => ⟨⟨(-1), (), rfl, ho0, by rw [ht]; rw [← ho1, ← ho2]; exact hP, va_K.moved hW.alike hK, by rw [← ho1, ← ho2]; exact hD⟩, hS.F ht⟩) hS.2.2 dX6_sharp_33
    · have h := zN c12 h
      refine lv_aload_n hx hb dX6_sharp_21 rfl (lv_at hl 0 rfl) ?_
      refine va_get (D := (dC, dI)) (ci := 5) (v := .ref a5) (C := RX6) (T := TX6) (N := 12) hx hb hts inX6_ hown hK hP 0 rfl rfl 8 (by decide) (hts (.fieldLink RX6 43 "GateWheel" "allWorlds" "LGateWheel$Worlds;") (List.mem_of_getElem? (i := 2) rfl)) (fun _ h9 => h9) rfl dX6_sharp_22 ?_
      refine lv_iload_n hx hb dX6_sharp_25 rfl (lv_at hl 1 rfl) ?_
      obtain ⟨r13, hc14, h⟩ := zB_spec h
      have hPc := hP.sub (ws' := (cX5 a5 h5 y s5_3)) [17, 18] rfl
      have hDc := hD.sub (ws' := (cX5 a5 h5 y s5_3)) [17, 18] (by decide) rfl
      have hFc := va_free (wc := (cX5 a5 h5 y s5_3)) hD hS hA [17, 18] rfl
      refine va_calli (va_runV (As := [.int p1]) (rest := []) ⟨hx, hb, hml, hown, hts⟩ (m_X5_sharpValue l dC dI y a5 h5 s5_3 p1 H10.size r13 hc14) (cwV 1 hts gX6_sharp_X5_sharpValue rfl rfl rfl (by decide +kernel) ⟨Nat.le_of_ble_eq_true rfl, Nat.le_of_ble_eq_true rfl⟩) ⟨fun a U g mk q => by obtain ⟨q0, q1, qP, qK, qD⟩ := q; exact ⟨q0, q1, qP, va_K.moved (u := U) (U := U.calling g mk a) (Vm.Alike.refl U.vm) qK, qD⟩, va_recv hK hPc (ci := 4) (q0 := 0) rfl rfl, fun U hU hW => ⟨rfl, by rw [hU], by rw [hU]; exact hPc, va_K.moved hW.alike hK, hDc.weaken (fun _ _ _ _ => trivial)⟩⟩ rfl rfl hl.1 rfl (lv_room (Nat.le_of_ble_eq_true rfl)) dX6_sharp_26 ⟨Nat.le_of_ble_eq_true rfl, Nat.le_of_ble_eq_true rfl⟩) hS (fun q _ h => hFc q h) hFc (fun rr16 u t H15 locs ht hvm hw hB hz1 hk1 hS => ?_)
      obtain ⟨hP1, hK1, hD1⟩ := hB
      rw [ht] at hP1
      refine zTopi hw.symm ?_
      obtain ⟨hP, hD⟩ := va_join (wr := [(oX6 a6 h6 q3 a0 q8 a5 q4 s6_2), (h6 0, .inl (y 2, 2000, .inl (gA s6_2 0))), (h6 5, .inl (y 0, 60, .inl (gA s6_2 5))), (h6 6, .inl (y 0, 60, .inl (gA s6_2 6))), (h6 7, .inl (y 0, 60, .inl (gA s6_2 7))), (oX0 a0 h0 S0), (h0 2, .inl (y 1, 60, .inr (.inl (gB S0 2)))), (h0 3, .inl (y 0, 60, .inl (gA S0 3))), (h0 4, .inl (y 0, 60, .inl (gA S0 4))), (h0 5, .inl (y 0, 60, .inl (gA S0 5))), (h0 6, .inl (y 0, 60, .inl (gA S0 6))), (h0 7, .inl (y 0, 720, .inl (gA S0 7))), (h0 8, .inl (y 0, 60, .inl (gA S0 8))), (h0 9, .inl (y 0, 60, .inl (gA S0 9))), (h0 10, .inl (y 1, 60, .inr (.inl (gB S0 10)))), (h0 11, .inl (y 0, 60, .inl (gA S0 11))), (h0 12, .inl (y 0, 60, .inl (gA S0 12)))]) (w1 := (cX5 a5 h5 y s5_3)) hP hD [17, 18] [0, 1, 2, 3, 4, 5, 6, 7, 8, 9, 10, 11, 12, 13, 14, 15, 16] rfl rfl (by decide) (by decide) hk1 hFc hP1 hD1
      have hP : va_P (dC, dI) vwCl ((cX6 a6 h6 q3 a0 q8 a5 q4 y s6_2) ++ ((cX0 a0 h0 y S0) ++ (cX5 a5 h5 y s5_3))) H15 := hP.sub [0, 1, 2, 3, 4, 5, 6, 7, 8, 9, 10, 11, 12, 13, 14, 15, 16, 17, 18] rfl
      have hD : va_D A ((cX6 a6 h6 q3 a0 q8 a5 q4 y s6_2) ++ ((cX0 a0 h0 y S0) ++ (cX5 a5 h5 y s5_3))) := hD.sub [0, 1, 2, 3, 4, 5, 6, 7, 8, 9, 10, 11, 12, 13, 14, 15, 16, 17, 18] (by decide) rfl
      refine lv_goto (tgt := 33) hx hb dX6_sharp_29 (by decide) ?_
      have ho0 : r13 = or_ := congrArg (fun z : Int32 × SS × SS => z.1) (Option.some.inj h)
      have ho1 : s6_2 = o_6 := congrArg (fun z : Int32 × SS × SS => z.2.1) (Option.some.inj h)
      have ho2 : s5_3 = o_5 := congrArg (fun z : Int32 × SS × SS => z.2.2) (Option.some.inj h)
      exact W.iret (v := r13) hx hb hr (fun t ht hW => ⟨⟨r13, (), rfl, ho0, by rw [ht]; rw [← ho1, ← ho2]; exact hP, va_K.moved hW.alike hK, by rw [← ho1, ← ho2]; exact hD⟩, hS.F ht⟩) hS.2.2 dX6_sharp_33
  · have h := zY c7 h
    refine lv_bipush (v := (-2)) hx hb dX6_sharp_7 (by decide) ?_
    have ho0 : (-2 : Int32) = or_ := congrArg (fun z : Int32 × SS × SS => z.1) (Option.some.inj h)
    have ho1 : s6_2 = o_6 := congrArg (fun z : Int32 × SS × SS => z.2.1) (Option.some.inj h)
    have ho2 : s5_3 = o_5 := congrArg (fun z : Int32 × SS × SS => z.2.2) (Option.some.inj h)
    exact W.iret (v := (-2)) hx hb hr (fun t ht hW => ⟨⟨(-2), (), rfl, ho0, by rw [ht]; rw [← ho1, ← ho2]; exact hP, va_K.moved hW.alike hK, by rw [← ho1, ← ho2]; exact hD⟩, hS.F ht⟩) hS.2.2 dX6_sharp_9

set_option maxHeartbeats 4000000 in
set_option maxRecDepth 100000 in
theorem m_X6_gainsaid (l : Launch) (dC : Nat → ClassId) (dI : Nat → Nat → Nat) (y : Nat → ClassId) (a6 : Nat) (h6 : Nat → Nat) (S6 : SS) (a0 : Nat) (h0 : Nat → Nat) (S0 : SS) (a5 : Nat) (h5 : Nat → Nat) (S5 : SS) (q3 : Nat) (q8 : Nat) (q4 : Nat) (tg : Nat × Nat × Nat × Nat) (sz : Nat) (or_ : Int32) (o_6 : SS) (o_5 : SS) (h : f_X6_gainsaid S6 S0 S5 = some (or_, o_6, o_5)) : Met l yX6_gainsaid wsX6_gainsaid ({ frames := 6, cells := 0, slots := 0, locals := 137 }) (va_Pc [.ref a6] (fun U => U.heap.size = sz ∧ va_P (dC, dI) vwCl ((cX6 a6 h6 q3 a0 q8 a5 q4 y S6) ++ ((cX0 a0 h0 y S0) ++ (cX5 a5 h5 y S5))) U.heap ∧ va_K (dC, dI) vwCl [(y 0, .int), (y 1, .long), (y 2, .byte), (y 3, .boolean)] U ∧ va_D (fun _ => True) ((cX6 a6 h6 q3 a0 q8 a5 q4 y S6) ++ ((cX0 a0 h0 y S0) ++ (cX5 a5 h5 y S5))) ∧ STG tg (va_A ((cX6 a6 h6 q3 a0 q8 a5 q4 y S6) ++ ((cX0 a0 h0 y S0) ++ (cX5 a5 h5 y S5))) sz) U U.heap)) (va_Qi (fun (r : Int32) (_ : Unit) => r = or_) (fun (_ : Unit) (t : State) => va_P (dC, dI) vwCl ((cX6 a6 h6 q3 a0 q8 a5 q4 y o_6) ++ ((cX0 a0 h0 y S0) ++ (cX5 a5 h5 y o_5))) t.heap ∧ va_K (dC, dI) vwCl [(y 0, .int), (y 1, .long), (y 2, .byte), (y 3, .boolean)] t ∧ va_D (va_A ((cX6 a6 h6 q3 a0 q8 a5 q4 y S6) ++ ((cX0 a0 h0 y S0) ++ (cX5 a5 h5 y S5))) sz) ((cX6 a6 h6 q3 a0 q8 a5 q4 y o_6) ++ ((cX0 a0 h0 y S0) ++ (cX5 a5 h5 y o_5)))) (va_A ((cX6 a6 h6 q3 a0 q8 a5 q4 y S6) ++ ((cX0 a0 h0 y S0) ++ (cX5 a5 h5 y S5))) sz)) 0 0 (va_A ((cX6 a6 h6 q3 a0 q8 a5 q4 y S6) ++ ((cX0 a0 h0 y S0) ++ (cX5 a5 h5 y S5))) sz) := by
  refine Met.ofW (cc := cX6_gainsaid) (maxL := 2) (ret := (some .int)) (by decide +kernel) rfl ?_
  intro p e s m args below meth c s₁ B hml hv
  obtain ⟨rfl, hsz, hP, hK, hD0, hST⟩ := hv
  have hx := B.exec
  have hb := B.bytes
  have hr := B.returns
  have hts := atoms_spec (ws := wsX6_gainsaid) B.pre
  have hown : s.vm.findClass RX6 = some m.cls := findClass_of_methodNamed B.named
  have hlocks := B.notSynchronized
  have inX0_ : ∀ w ∈ wsX00, w ∈ wsX6_gainsaid := fun _ h => List.mem_cons_of_mem _ (List.mem_append_left _ (List.mem_append_right _ h))
  have inX6_ : ∀ w ∈ wsX60, w ∈ wsX6_gainsaid := fun _ h => List.mem_cons_of_mem _ (List.mem_append_left _ (List.mem_append_left _ (List.mem_append_right _ h)))
  subst hsz
  have hD := hD0.self (sz := s.heap.size)
  generalize hAe : va_A ((cX6 a6 h6 q3 a0 q8 a5 q4 y S6) ++ ((cX0 a0 h0 y S0) ++ (cX5 a5 h5 y S5))) s.heap.size = A at hD hST ⊢
  have hA : ∀ q : Nat, s.heap.size ≤ q → A q := fun q h => by rw [← hAe]; exact Or.inr h
  have hS : va_S A s.heap s.heap [] := va_S.rf
  have hP : va_P (dC, dI) vwCl ((cX6 a6 h6 q3 a0 q8 a5 q4 y S6) ++ ((cX0 a0 h0 y S0) ++ (cX5 a5 h5 y S5))) s.heap := hP
  have hl := lv_entry ([.ref a6]) (n := 2) (Nat.le_of_ble_eq_true rfl)
  rw [lg_entry_eq]
  generalize (lg_sl ([.ref a6]) ++ List.replicate (2 - (lg_sl ([.ref a6])).length) Slot.unset).toArray = ls at hl ⊢
  have hl : lv_has ls 2 [(0, .ref a6)] := hl
  refine lv_aload_n hx hb dX6_gainsaid_0 rfl (lv_at hl 0 rfl) ?_
  obtain ⟨⟨r1, s6_2, s5_3⟩, hc4, h⟩ := zB_spec h
  have hFc := zFree hD hS hA
  refine va_calli (va_runV (As := []) (rest := []) ⟨hx, hb, hml, hown, hts⟩ (m_X6_goThroughWorlds l dC dI y a6 h6 S6 a0 h0 S0 a5 h5 S5 q3 q8 q4 tg s.heap.size r1 s6_2 s5_3 hc4) (cwV 0 hts gX6_gainsaid_X6_goThroughWorlds rfl rfl rfl (by decide +kernel) ⟨Nat.le_of_ble_eq_true rfl, Nat.le_of_ble_eq_true rfl⟩) ⟨fun a U g mk q => by obtain ⟨q0, q1, qP, qK, qD, qT⟩ := q; exact ⟨q0, q1, qP, va_K.moved (u := U) (U := U.calling g mk a) (Vm.Alike.refl U.vm) qK, qD, STG_moved (u := U) (U := U.calling g mk a) (Vm.Alike.refl U.vm) qT⟩, va_recv hK hP (ci := 5) (q0 := 0) rfl rfl, fun U hU hW => ⟨rfl, by rw [hU], by rw [hU]; exact hP, va_K.moved hW.alike hK, hD.weaken (fun _ _ _ _ => trivial), by rw [hU]; exact STG_moved hW.alike (STG_narrow (STG_kept hST hS.2.1) hFc)⟩⟩ rfl rfl hl.1 rfl (lv_room (Nat.le_of_ble_eq_true rfl)) dX6_gainsaid_1 ⟨Nat.le_of_ble_eq_true rfl, Nat.le_of_ble_eq_true rfl⟩) hS (fun q _ h => hFc q h) hFc (fun rr6 u t H5 locs ht hvm hw hB hz1 hk1 hS => ?_)
  obtain ⟨hP1, hK1, hD1⟩ := hB
  rw [ht] at hP1
  refine zTopi hw.symm ?_
  have hP := hP1
  have hD := hD1.weaken (fun _ q _ h => hFc q.1 h)
  have hP : va_P (dC, dI) vwCl ((cX6 a6 h6 q3 a0 q8 a5 q4 y s6_2) ++ ((cX0 a0 h0 y S0) ++ (cX5 a5 h5 y s5_3))) H5 := hP
  have hD : va_D A ((cX6 a6 h6 q3 a0 q8 a5 q4 y s6_2) ++ ((cX0 a0 h0 y S0) ++ (cX5 a5 h5 y s5_3))) := hD
  refine lv_if_ne (tgt := 10) hx hb dX6_gainsaid_4 (by decide) (fun c7 => ?_) (fun c7 => ?_)
  · have h := zN c7 h
    refine lv_iconst (v := 0) hx hb dX6_gainsaid_10 (by decide) ?_
    refine lv_istore_n (lv' := [(1, .int 0), (0, .ref a6)]) hx hb dX6_gainsaid_11 rfl hl (by decide) rfl (fun ls hl => ?_)
    refine W_abs (fun GW8 eG9 => ?_)
    have hi13 := h
    have lp11 : ∀ (n : Nat) (v17 : Int32) (HGW8 : Heap) (locs : List Loc) (ls : Array Slot), zI (b_X6_gainsaid_12 S0 s6_2 s5_3) n v17 = some (or_, o_6, o_5) → va_P (dC, dI) vwCl ((cX6 a6 h6 q3 a0 q8 a5 q4 y s6_2) ++ ((cX0 a0 h0 y S0) ++ (cX5 a5 h5 y s5_3))) HGW8 → va_D A ((cX6 a6 h6 q3 a0 q8 a5 q4 y s6_2) ++ ((cX0 a0 h0 y S0) ++ (cX5 a5 h5 y s5_3))) → va_S A s.heap HGW8 locs → lv_has ls 2 [(0, .ref a6), (1, .int v17)] → GW8 HGW8 locs 0 0 (F0 m 12 ls []) := by
      intro n
      induction n with
      | zero =>
        intro v17 HGW8 locs ls hi13 hP hD hS hl
        exact (zI_0 hi13).elim
      | succ n ihlp11 =>
        intro v17 HGW8 locs ls hi13 hP hD hS hl
        refine (eG9 _ _ _ _ _).mpr ?_
        obtain ⟨xx16, h, hx15⟩ := zI_spec hi13
        refine lv_iload_n hx hb dX6_gainsaid_12 rfl (lv_at hl 1 rfl) ?_
        refine lv_aload_n hx hb dX6_gainsaid_13 rfl (lv_at hl 0 rfl) ?_
        refine va_get (D := (dC, dI)) (ci := 5) (v := .ref a0) (C := RX6) (T := TX6) (N := 12) hx hb hts inX6_ hown hK hP 0 rfl rfl 3 (by decide) (hts (.fieldLink RX6 23 "GateWheel" "circuit" "LGateWheel$Circuit;") (List.mem_of_getElem? (i := 1) rfl)) (fun _ h9 => h9) rfl dX6_gainsaid_14 ?_
        refine va_get (D := (dC, dI)) (ci := 0) (v := .int (gI S0 0)) (C := RX0) (T := TX0) (N := 13) hx hb hts inX0_ hown hK hP 5 rfl rfl 0 (by decide) (hts (.fieldLink RX6 66 "GateWheel$Circuit" "count" "I") (List.mem_of_getElem? (i := 2) rfl)) (fun _ h9 => h9) rfl dX6_gainsaid_17 ?_
        refine lv_icmp_ge (tgt := 60) hx hb dX6_gainsaid_20 (by decide) (fun c18 => ?_) (fun c18 => ?_)
        · have h := zY c18 h
          refine lv_iconst (v := (-1)) hx hb dX6_gainsaid_60 (by decide) ?_
          have h := congrArg some (zI_r h hx15)
          have ho0 : (-1 : Int32) = or_ := congrArg (fun z : Int32 × SS × SS => z.1) (Option.some.inj h)
          have ho1 : s6_2 = o_6 := congrArg (fun z : Int32 × SS × SS => z.2.1) (Option.some.inj h)
          have ho2 : s5_3 = o_5 := congrArg (fun z : Int32 × SS × SS => z.2.2) (Option.some.inj h)
          exact W.iret (v := (-1)) hx hb hr (fun t ht hW => ⟨⟨(-1), (), rfl, ho0, by rw [ht]; rw [← ho1, ← ho2]; exact hP, va_K.moved hW.alike hK, by rw [← ho1, ← ho2]; exact hD⟩, hS.F ht⟩) hS.2.2 dX6_gainsaid_61
        · have h := zN c18 h
          refine lv_aload_n hx hb dX6_gainsaid_23 rfl (lv_at hl 0 rfl) ?_
          refine va_get (D := (dC, dI)) (ci := 5) (v := .ref (h6 5)) (C := RX6) (T := TX6) (N := 12) hx hb hts inX6_ hown hK hP 0 rfl rfl 5 (by decide) (hts (.fieldLink RX6 30 "GateWheel" "values" "[I") (List.mem_of_getElem? (i := 3) rfl)) (fun _ h9 => h9) rfl dX6_gainsaid_24 ?_
          refine lv_iload_n hx hb dX6_gainsaid_27 rfl (lv_at hl 1 rfl) ?_
          obtain ⟨hi19, h⟩ := zG_spec h
          refine va_iald hx hb hK hP 2 0 rfl rfl hi19 dX6_gainsaid_28 ?_
          refine lv_iconst (v := 2) hx hb dX6_gainsaid_29 (by decide) ?_
          refine lv_icmp_ge (tgt := 54) hx hb dX6_gainsaid_30 (by decide) (fun c20 => ?_) (fun c20 => ?_)
          · have h := zY c20 h
            obtain ⟨v21, ev21, h⟩ := zL_spec h
            refine lv_iinc (v := v21) (lv' := [(1, .int v21), (0, .ref a6)]) hx hb dX6_gainsaid_54 hl (k := 1) rfl (by rw [ev21]; rfl) (by decide) rfl (fun ls hl => ?_)
            refine lv_goto (tgt := 12) hx hb dX6_gainsaid_57 (by decide) ?_
            have h := zI_l h hx15
            exact (eG9 _ _ _ _ _).mp (ihlp11 v21 _ _ _ h hP hD hS (lv_sub hl [1, 0] rfl))
          · have h := zN c20 h
            refine lv_aload_n hx hb dX6_gainsaid_33 rfl (lv_at hl 0 rfl) ?_
            refine va_get (D := (dC, dI)) (ci := 5) (v := .ref a5) (C := RX6) (T := TX6) (N := 12) hx hb hts inX6_ hown hK hP 0 rfl rfl 8 (by decide) (hts (.fieldLink RX6 43 "GateWheel" "allWorlds" "LGateWheel$Worlds;") (List.mem_of_getElem? (i := 4) rfl)) (fun _ h9 => h9) rfl dX6_gainsaid_34 ?_
            refine lv_iload_n hx hb dX6_gainsaid_37 rfl (lv_at hl 1 rfl) ?_
            refine lv_iconst (v := 1) hx hb dX6_gainsaid_38 (by decide) ?_
            refine lv_aload_n hx hb dX6_gainsaid_39 rfl (lv_at hl 0 rfl) ?_
            refine va_get (D := (dC, dI)) (ci := 5) (v := .ref (h6 5)) (C := RX6) (T := TX6) (N := 12) hx hb hts inX6_ hown hK hP 0 rfl rfl 5 (by decide) (hts (.fieldLink RX6 30 "GateWheel" "values" "[I") (List.mem_of_getElem? (i := 3) rfl)) (fun _ h9 => h9) rfl dX6_gainsaid_40 ?_
            refine lv_iload_n hx hb dX6_gainsaid_43 rfl (lv_at hl 1 rfl) ?_
            refine va_iald hx hb hK hP 2 0 rfl rfl hi19 dX6_gainsaid_44 ?_
            refine lv_isub hx hb dX6_gainsaid_45 ?_
            obtain ⟨r22, hc23, h⟩ := zB_spec h
            have hPc := hP.sub (ws' := (cX5 a5 h5 y s5_3)) [17, 18] rfl
            have hDc := hD.sub (ws' := (cX5 a5 h5 y s5_3)) [17, 18] (by decide) rfl
            have hFc := va_free (wc := (cX5 a5 h5 y s5_3)) hD hS hA [17, 18] rfl
            refine va_calli (va_runV (As := [.int v17, .int ((1 : Int32) - (gA s6_2 5 v17.toNatClampNeg))]) (rest := []) ⟨hx, hb, hml, hown, hts⟩ (m_X5_isEver l dC dI y a5 h5 s5_3 v17 ((1 : Int32) - (gA s6_2 5 v17.toNatClampNeg)) HGW8.size r22 hc23) (cwV 2 hts gX6_gainsaid_X5_isEver rfl rfl rfl (by decide +kernel) ⟨Nat.le_of_ble_eq_true rfl, Nat.le_of_ble_eq_true rfl⟩) ⟨fun a U g mk q => by obtain ⟨q0, q1, qP, qK, qD⟩ := q; exact ⟨q0, q1, qP, va_K.moved (u := U) (U := U.calling g mk a) (Vm.Alike.refl U.vm) qK, qD⟩, va_recv hK hPc (ci := 4) (q0 := 0) rfl rfl, fun U hU hW => ⟨rfl, by rw [hU], by rw [hU]; exact hPc, va_K.moved hW.alike hK, hDc.weaken (fun _ _ _ _ => trivial)⟩⟩ rfl rfl hl.1 rfl (lv_room (Nat.le_of_ble_eq_true rfl)) dX6_gainsaid_46 ⟨Nat.le_of_ble_eq_true rfl, Nat.le_of_ble_eq_true rfl⟩) hS (fun q _ h => hFc q h) hFc (fun rr25 u t H24 locs ht hvm hw hB hz1 hk1 hS => ?_)
            obtain ⟨hP1, hK1, hD1⟩ := hB
            rw [ht] at hP1
            refine zTopi hw.symm ?_
            obtain ⟨hP, hD⟩ := va_join (wr := [(oX6 a6 h6 q3 a0 q8 a5 q4 s6_2), (h6 0, .inl (y 2, 2000, .inl (gA s6_2 0))), (h6 5, .inl (y 0, 60, .inl (gA s6_2 5))), (h6 6, .inl (y 0, 60, .inl (gA s6_2 6))), (h6 7, .inl (y 0, 60, .inl (gA s6_2 7))), (oX0 a0 h0 S0), (h0 2, .inl (y 1, 60, .inr (.inl (gB S0 2)))), (h0 3, .inl (y 0, 60, .inl (gA S0 3))), (h0 4, .inl (y 0, 60, .inl (gA S0 4))), (h0 5, .inl (y 0, 60, .inl (gA S0 5))), (h0 6, .inl (y 0, 60, .inl (gA S0 6))), (h0 7, .inl (y 0, 720, .inl (gA S0 7))), (h0 8, .inl (y 0, 60, .inl (gA S0 8))), (h0 9, .inl (y 0, 60, .inl (gA S0 9))), (h0 10, .inl (y 1, 60, .inr (.inl (gB S0 10)))), (h0 11, .inl (y 0, 60, .inl (gA S0 11))), (h0 12, .inl (y 0, 60, .inl (gA S0 12)))]) (w1 := (cX5 a5 h5 y s5_3)) hP hD [17, 18] [0, 1, 2, 3, 4, 5, 6, 7, 8, 9, 10, 11, 12, 13, 14, 15, 16] rfl rfl (by decide) (by decide) hk1 hFc hP1 hD1
            have hP : va_P (dC, dI) vwCl ((cX6 a6 h6 q3 a0 q8 a5 q4 y s6_2) ++ ((cX0 a0 h0 y S0) ++ (cX5 a5 h5 y s5_3))) H24 := hP.sub [0, 1, 2, 3, 4, 5, 6, 7, 8, 9, 10, 11, 12, 13, 14, 15, 16, 17, 18] rfl
            have hD : va_D A ((cX6 a6 h6 q3 a0 q8 a5 q4 y s6_2) ++ ((cX0 a0 h0 y S0) ++ (cX5 a5 h5 y s5_3))) := hD.sub [0, 1, 2, 3, 4, 5, 6, 7, 8, 9, 10, 11, 12, 13, 14, 15, 16, 17, 18] (by decide) rfl
            refine lv_if_eq (tgt := 54) hx hb dX6_gainsaid_49 (by decide) (fun c26 => ?_) (fun c26 => ?_)
            · have h := zY c26 h
              obtain ⟨v27, ev27, h⟩ := zL_spec h
              refine lv_iinc (v := v27) (lv' := [(1, .int v27), (0, .ref a6)]) hx hb dX6_gainsaid_54 hl (k := 1) rfl (by rw [ev27]; rfl) (by decide) rfl (fun ls hl => ?_)
              refine lv_goto (tgt := 12) hx hb dX6_gainsaid_57 (by decide) ?_
              have h := zI_l h hx15
              exact (eG9 _ _ _ _ _).mp (ihlp11 v27 _ _ _ h hP hD hS (lv_sub hl [1, 0] rfl))
            · have h := zN c26 h
              refine lv_iload_n hx hb dX6_gainsaid_52 rfl (lv_at hl 1 rfl) ?_
              have h := congrArg some (zI_r h hx15)
              have ho0 : v17 = or_ := congrArg (fun z : Int32 × SS × SS => z.1) (Option.some.inj h)
              have ho1 : s6_2 = o_6 := congrArg (fun z : Int32 × SS × SS => z.2.1) (Option.some.inj h)
              have ho2 : s5_3 = o_5 := congrArg (fun z : Int32 × SS × SS => z.2.2) (Option.some.inj h)
              exact W.iret (v := v17) hx hb hr (fun t ht hW => ⟨⟨v17, (), rfl, ho0, by rw [ht]; rw [← ho1, ← ho2]; exact hP, va_K.moved hW.alike hK, by rw [← ho1, ← ho2]; exact hD⟩, hS.F ht⟩) hS.2.2 dX6_gainsaid_53
    exact lp11 zF (0 : Int32) _ _ _ hi13 hP hD hS (lv_sub hl [1, 0] rfl)
  · have h := zY c7 h
    refine lv_bipush (v := (-2)) hx hb dX6_gainsaid_7 (by decide) ?_
    have ho0 : (-2 : Int32) = or_ := congrArg (fun z : Int32 × SS × SS => z.1) (Option.some.inj h)
    have ho1 : s6_2 = o_6 := congrArg (fun z : Int32 × SS × SS => z.2.1) (Option.some.inj h)
    have ho2 : s5_3 = o_5 := congrArg (fun z : Int32 × SS × SS => z.2.2) (Option.some.inj h)
    exact W.iret (v := (-2)) hx hb hr (fun t ht hW => ⟨⟨(-2), (), rfl, ho0, by rw [ht]; rw [← ho1, ← ho2]; exact hP, va_K.moved hW.alike hK, by rw [← ho1, ← ho2]; exact hD⟩, hS.F ht⟩) hS.2.2 dX6_gainsaid_9

set_option maxHeartbeats 4000000 in
set_option maxRecDepth 100000 in
theorem m_X6_wheel (l : Launch) (dC : Nat → ClassId) (dI : Nat → Nat → Nat) (y : Nat → ClassId) (a6 : Nat) (h6 : Nat → Nat) (S6 : SS) (a0 : Nat) (h0 : Nat → Nat) (S0 : SS) (a4 : Nat) (h4 : Nat → Nat) (S4 : SS) (q3 : Nat) (q8 : Nat) (q5 : Nat) (sz : Nat) (or_ : Int32) (o_6 : SS) (o_4 : SS) (h : f_X6_wheel S6 S0 S4 = some (or_, o_6, o_4)) : Met l yX6_wheel wsX6_wheel ({ frames := 1, cells := 0, slots := 0, locals := 23 }) (va_Pc [.ref a6] (fun U => U.heap.size = sz ∧ va_P (dC, dI) vwCl ((cX6 a6 h6 q3 a0 q8 q5 a4 y S6) ++ ((cX0 a0 h0 y S0) ++ (cX4 a4 h4 y S4))) U.heap ∧ va_K (dC, dI) vwCl [(y 0, .int), (y 1, .long), (y 2, .byte), (y 3, .boolean)] U ∧ va_D (fun _ => True) ((cX6 a6 h6 q3 a0 q8 q5 a4 y S6) ++ ((cX0 a0 h0 y S0) ++ (cX4 a4 h4 y S4))))) (va_Qi (fun (r : Int32) (_ : Unit) => r = or_) (fun (_ : Unit) (t : State) => va_P (dC, dI) vwCl ((cX6 a6 h6 q3 a0 q8 q5 a4 y o_6) ++ ((cX0 a0 h0 y S0) ++ (cX4 a4 h4 y o_4))) t.heap ∧ va_K (dC, dI) vwCl [(y 0, .int), (y 1, .long), (y 2, .byte), (y 3, .boolean)] t ∧ va_D (va_A ((cX6 a6 h6 q3 a0 q8 q5 a4 y S6) ++ ((cX0 a0 h0 y S0) ++ (cX4 a4 h4 y S4))) sz) ((cX6 a6 h6 q3 a0 q8 q5 a4 y o_6) ++ ((cX0 a0 h0 y S0) ++ (cX4 a4 h4 y o_4)))) (va_A ((cX6 a6 h6 q3 a0 q8 q5 a4 y S6) ++ ((cX0 a0 h0 y S0) ++ (cX4 a4 h4 y S4))) sz)) 0 0 (va_A ((cX6 a6 h6 q3 a0 q8 q5 a4 y S6) ++ ((cX0 a0 h0 y S0) ++ (cX4 a4 h4 y S4))) sz) := by
  refine Met.ofW (cc := cX6_wheel) (maxL := 1) (ret := (some .boolean)) (by decide +kernel) rfl ?_
  intro p e s m args below meth c s₁ B hml hv
  obtain ⟨rfl, hsz, hP, hK, hD0⟩ := hv
  have hx := B.exec
  have hb := B.bytes
  have hr := B.returns
  have hts := atoms_spec (ws := wsX6_wheel) B.pre
  have hown : s.vm.findClass RX6 = some m.cls := findClass_of_methodNamed B.named
  have hlocks := B.notSynchronized
  have inX6_ : ∀ w ∈ wsX60, w ∈ wsX6_wheel := fun _ h => List.mem_cons_of_mem _ (List.mem_append_left _ (List.mem_append_left _ (List.mem_append_right _ h)))
  subst hsz
  have hD := hD0.self (sz := s.heap.size)
  generalize hAe : va_A ((cX6 a6 h6 q3 a0 q8 q5 a4 y S6) ++ ((cX0 a0 h0 y S0) ++ (cX4 a4 h4 y S4))) s.heap.size = A at hD ⊢
  have hA : ∀ q : Nat, s.heap.size ≤ q → A q := fun q h => by rw [← hAe]; exact Or.inr h
  have hS : va_S A s.heap s.heap [] := va_S.rf
  have hP : va_P (dC, dI) vwCl ((cX6 a6 h6 q3 a0 q8 q5 a4 y S6) ++ ((cX0 a0 h0 y S0) ++ (cX4 a4 h4 y S4))) s.heap := hP
  have hl := lv_entry ([.ref a6]) (n := 1) (Nat.le_of_ble_eq_true rfl)
  rw [lg_entry_eq]
  generalize (lg_sl ([.ref a6]) ++ List.replicate (1 - (lg_sl ([.ref a6])).length) Slot.unset).toArray = ls at hl ⊢
  have hl : lv_has ls 1 [(0, .ref a6)] := hl
  refine lv_aload_n hx hb dX6_wheel_0 rfl (lv_at hl 0 rfl) ?_
  refine va_get (D := (dC, dI)) (ci := 5) (v := .ref a4) (C := RX6) (T := TX6) (N := 12) hx hb hts inX6_ hown hK hP 0 rfl rfl 10 (by decide) (hts (.fieldLink RX6 50 "GateWheel" "spinning" "LGateWheel$Wheel;") (List.mem_of_getElem? (i := 1) rfl)) (fun _ h9 => h9) rfl dX6_wheel_1 ?_
  refine lv_aload_n hx hb dX6_wheel_4 rfl (lv_at hl 0 rfl) ?_
  refine va_get (D := (dC, dI)) (ci := 5) (v := .ref a0) (C := RX6) (T := TX6) (N := 12) hx hb hts inX6_ hown hK hP 0 rfl rfl 3 (by decide) (hts (.fieldLink RX6 23 "GateWheel" "circuit" "LGateWheel$Circuit;") (List.mem_of_getElem? (i := 2) rfl)) (fun _ h9 => h9) rfl dX6_wheel_5 ?_
  refine lv_aload_n hx hb dX6_wheel_8 rfl (lv_at hl 0 rfl) ?_
  refine va_get (D := (dC, dI)) (ci := 5) (v := .ref (h6 5)) (C := RX6) (T := TX6) (N := 12) hx hb hts inX6_ hown hK hP 0 rfl rfl 5 (by decide) (hts (.fieldLink RX6 30 "GateWheel" "values" "[I") (List.mem_of_getElem? (i := 3) rfl)) (fun _ h9 => h9) rfl dX6_wheel_9 ?_
  obtain ⟨s4_1, hc2, h⟩ := zB_spec h
  have hPc := hP.sub (ws' := ((cX4 a4 h4 y S4) ++ ((cX0 a0 h0 y S0) ++ ([((h6 5), .inl (y 0, 60, .inl (gA S6 5)))])))) [17, 18, 19, 20, 21, 22, 5, 6, 7, 8, 9, 10, 11, 12, 13, 14, 15, 16, 2] rfl
  have hDc := hD.sub (ws' := ((cX4 a4 h4 y S4) ++ ((cX0 a0 h0 y S0) ++ ([((h6 5), .inl (y 0, 60, .inl (gA S6 5)))])))) [17, 18, 19, 20, 21, 22, 5, 6, 7, 8, 9, 10, 11, 12, 13, 14, 15, 16, 2] (by decide) rfl
  have hFc := va_free (wc := ((cX4 a4 h4 y S4) ++ ((cX0 a0 h0 y S0) ++ ([((h6 5), .inl (y 0, 60, .inl (gA S6 5)))])))) hD hS hA [17, 18, 19, 20, 21, 22, 5, 6, 7, 8, 9, 10, 11, 12, 13, 14, 15, 16, 2] rfl
  refine va_callv (va_runV (As := [.ref a0, .ref (h6 5)]) (rest := []) ⟨hx, hb, hml, hown, hts⟩ (m_X4_begin l dC dI y a4 h4 S4 a0 h0 S0 (h6 5) (gA S6 5) s.heap.size s4_1 hc2) (cwV 2 hts gX6_wheel_X4_begin rfl rfl rfl (by decide +kernel) ⟨Nat.le_of_ble_eq_true rfl, Nat.le_of_ble_eq_true rfl⟩) ⟨fun a U g mk q => by obtain ⟨q0, q1, qP, qK, qD⟩ := q; exact ⟨q0, q1, qP, va_K.moved (u := U) (U := U.calling g mk a) (Vm.Alike.refl U.vm) qK, qD⟩, va_recv hK hPc (ci := 3) (q0 := 0) rfl rfl, fun U hU hW => ⟨rfl, by rw [hU], by rw [hU]; exact hPc, va_K.moved hW.alike hK, hDc.weaken (fun _ _ _ _ => trivial)⟩⟩ rfl rfl hl.1 rfl (lv_room (Nat.le_of_ble_eq_true rfl)) dX6_wheel_12 ⟨Nat.le_of_ble_eq_true rfl, Nat.le_of_ble_eq_true rfl⟩) hS (fun q _ h => hFc q h) hFc (fun u t H3 locs ht hvm hw hB hz1 hk1 hS => ?_)
  obtain ⟨hP1, hK1, hD1⟩ := hB
  rw [ht] at hP1
  obtain ⟨hP, hD⟩ := va_join (wr := [(oX6 a6 h6 q3 a0 q8 q5 a4 S6), (h6 0, .inl (y 2, 2000, .inl (gA S6 0))), (h6 6, .inl (y 0, 60, .inl (gA S6 6))), (h6 7, .inl (y 0, 60, .inl (gA S6 7)))]) (w1 := ((cX4 a4 h4 y s4_1) ++ ((cX0 a0 h0 y S0) ++ ([((h6 5), .inl (y 0, 60, .inl (gA S6 5)))])))) hP hD [17, 18, 19, 20, 21, 22, 5, 6, 7, 8, 9, 10, 11, 12, 13, 14, 15, 16, 2] [0, 1, 3, 4] rfl rfl (by decide) (by decide) hk1 hFc hP1 hD1
  have hP : va_P (dC, dI) vwCl ((cX6 a6 h6 q3 a0 q8 q5 a4 y S6) ++ ((cX0 a0 h0 y S0) ++ (cX4 a4 h4 y s4_1))) H3 := hP.sub [0, 1, 22, 2, 3, 10, 11, 12, 13, 14, 15, 16, 17, 18, 19, 20, 21, 4, 5, 6, 7, 8, 9] rfl
  have hD : va_D A ((cX6 a6 h6 q3 a0 q8 q5 a4 y S6) ++ ((cX0 a0 h0 y S0) ++ (cX4 a4 h4 y s4_1))) := hD.sub [0, 1, 22, 2, 3, 10, 11, 12, 13, 14, 15, 16, 17, 18, 19, 20, 21, 4, 5, 6, 7, 8, 9] (by decide) rfl
  refine lv_aload_n hx hb dX6_wheel_15 rfl (lv_at hl 0 rfl) ?_
  refine lv_iconst (v := 1) hx hb dX6_wheel_16 (by decide) ?_
  refine va_put (D := (dC, dI)) (ci := 5) (v := .int 1) (ty := .boolean) (C := RX6) (T := TX6) (N := 12) hx hb hts inX6_ tyX6 tyX6_ok nmX6 hown hK hP hD hS 0 rfl rfl 11 (by decide) (hts (.fieldLink RX6 69 "GateWheel" "hasWheel" "Z") (List.mem_of_getElem? (i := 4) rfl)) (fun _ h9 => h9) rfl (by decide +kernel) (by decide) rfl (Nat.le_of_ble_eq_true rfl) dX6_wheel_17 (fun H5 locs hP hD hS => ?_)
  obtain ⟨s6_6, es6_6, h⟩ := zL_spec h
  have hP : va_P (dC, dI) vwCl ((cX6 a6 h6 q3 a0 q8 q5 a4 y s6_6) ++ ((cX0 a0 h0 y S0) ++ (cX4 a4 h4 y s4_1))) H5 := by rw [es6_6]; exact hP
  have hD : va_D A ((cX6 a6 h6 q3 a0 q8 q5 a4 y s6_6) ++ ((cX0 a0 h0 y S0) ++ (cX4 a4 h4 y s4_1))) := by rw [es6_6]; exact hD
  refine lv_iconst (v := 1) hx hb dX6_wheel_20 (by decide) ?_
  have ho0 : (1 : Int32) = or_ := congrArg (fun z : Int32 × SS × SS => z.1) (Option.some.inj h)
  have ho1 : s6_6 = o_6 := congrArg (fun z : Int32 × SS × SS => z.2.1) (Option.some.inj h)
  have ho2 : s4_1 = o_4 := congrArg (fun z : Int32 × SS × SS => z.2.2) (Option.some.inj h)
  exact W.zret (v := 1) hx hb hr (by decide) (fun t ht hW => ⟨⟨1, (), rfl, ho0, by rw [ht]; rw [← ho1, ← ho2]; exact hP, va_K.moved hW.alike hK, by rw [← ho1, ← ho2]; exact hD⟩, hS.F ht⟩) hS.2.2 dX6_wheel_21

set_option maxHeartbeats 4000000 in
set_option maxRecDepth 100000 in
theorem m_X6_put (l : Launch) (dC : Nat → ClassId) (dI : Nat → Nat → Nat) (y : Nat → ClassId) (a6 : Nat) (h6 : Nat → Nat) (S6 : SS) (a0 : Nat) (h0 : Nat → Nat) (S0 : SS) (a4 : Nat) (h4 : Nat → Nat) (S4 : SS) (q3 : Nat) (q8 : Nat) (q5 : Nat) (p1 : Int32) (p2 : Int32) (sz : Nat) (or_ : Int32) (o_4 : SS) (h : f_X6_put S6 S0 S4 p1 p2 = some (or_, o_4)) : Met l yX6_put wsX6_put ({ frames := 2, cells := 0, slots := 0, locals := 43 }) (va_Pc [.ref a6, .int p1, .int p2] (fun U => U.heap.size = sz ∧ va_P (dC, dI) vwCl ((cX6 a6 h6 q3 a0 q8 q5 a4 y S6) ++ ((cX0 a0 h0 y S0) ++ (cX4 a4 h4 y S4))) U.heap ∧ va_K (dC, dI) vwCl [(y 0, .int), (y 1, .long), (y 2, .byte), (y 3, .boolean)] U ∧ va_D (fun _ => True) ((cX6 a6 h6 q3 a0 q8 q5 a4 y S6) ++ ((cX0 a0 h0 y S0) ++ (cX4 a4 h4 y S4))))) (va_Qi (fun (r : Int32) (_ : Unit) => r = or_) (fun (_ : Unit) (t : State) => va_P (dC, dI) vwCl ((cX6 a6 h6 q3 a0 q8 q5 a4 y S6) ++ ((cX0 a0 h0 y S0) ++ (cX4 a4 h4 y o_4))) t.heap ∧ va_K (dC, dI) vwCl [(y 0, .int), (y 1, .long), (y 2, .byte), (y 3, .boolean)] t ∧ va_D (va_A ((cX6 a6 h6 q3 a0 q8 q5 a4 y S6) ++ ((cX0 a0 h0 y S0) ++ (cX4 a4 h4 y S4))) sz) ((cX6 a6 h6 q3 a0 q8 q5 a4 y S6) ++ ((cX0 a0 h0 y S0) ++ (cX4 a4 h4 y o_4)))) (va_A ((cX6 a6 h6 q3 a0 q8 q5 a4 y S6) ++ ((cX0 a0 h0 y S0) ++ (cX4 a4 h4 y S4))) sz)) 0 0 (va_A ((cX6 a6 h6 q3 a0 q8 q5 a4 y S6) ++ ((cX0 a0 h0 y S0) ++ (cX4 a4 h4 y S4))) sz) := by
  refine Met.ofW (cc := cX6_put) (maxL := 3) (ret := (some .boolean)) (by decide +kernel) rfl ?_
  intro p e s m args below meth c s₁ B hml hv
  obtain ⟨rfl, hsz, hP, hK, hD0⟩ := hv
  have hx := B.exec
  have hb := B.bytes
  have hr := B.returns
  have hts := atoms_spec (ws := wsX6_put) B.pre
  have hown : s.vm.findClass RX6 = some m.cls := findClass_of_methodNamed B.named
  have hlocks := B.notSynchronized
  have inX6_ : ∀ w ∈ wsX60, w ∈ wsX6_put := fun _ h => List.mem_cons_of_mem _ (List.mem_append_left _ (List.mem_append_left _ (List.mem_append_right _ h)))
  subst hsz
  have hD := hD0.self (sz := s.heap.size)
  generalize hAe : va_A ((cX6 a6 h6 q3 a0 q8 q5 a4 y S6) ++ ((cX0 a0 h0 y S0) ++ (cX4 a4 h4 y S4))) s.heap.size = A at hD ⊢
  have hA : ∀ q : Nat, s.heap.size ≤ q → A q := fun q h => by rw [← hAe]; exact Or.inr h
  have hS : va_S A s.heap s.heap [] := va_S.rf
  have hP : va_P (dC, dI) vwCl ((cX6 a6 h6 q3 a0 q8 q5 a4 y S6) ++ ((cX0 a0 h0 y S0) ++ (cX4 a4 h4 y S4))) s.heap := hP
  have hl := lv_entry ([.ref a6, .int p1, .int p2]) (n := 3) (Nat.le_of_ble_eq_true rfl)
  rw [lg_entry_eq]
  generalize (lg_sl ([.ref a6, .int p1, .int p2]) ++ List.replicate (3 - (lg_sl ([.ref a6, .int p1, .int p2])).length) Slot.unset).toArray = ls at hl ⊢
  have hl : lv_has ls 3 [(0, .ref a6), (1, .int p1), (2, .int p2)] := hl
  refine lv_aload_n hx hb dX6_put_0 rfl (lv_at hl 0 rfl) ?_
  refine va_get (D := (dC, dI)) (ci := 5) (v := .int (gI S6 11)) (C := RX6) (T := TX6) (N := 12) hx hb hts inX6_ hown hK hP 0 rfl rfl 11 (by decide) (hts (.fieldLink RX6 69 "GateWheel" "hasWheel" "Z") (List.mem_of_getElem? (i := 1) rfl)) (fun _ h9 => h9) rfl dX6_put_1 ?_
  refine lv_if_eq (tgt := 28) hx hb dX6_put_4 (by decide) (fun c1 => ?_) (fun c1 => ?_)
  · have h := zY c1 h
    refine lv_iconst (v := 0) hx hb dX6_put_28 (by decide) ?_
    have ho0 : (0 : Int32) = or_ := congrArg (fun z : Int32 × SS => z.1) (Option.some.inj h)
    have ho1 : S4 = o_4 := congrArg (fun z : Int32 × SS => z.2) (Option.some.inj h)
    exact W.zret (v := 0) hx hb hr (by decide) (fun t ht hW => ⟨⟨0, (), rfl, ho0, by rw [ht]; rw [← ho1]; exact hP, va_K.moved hW.alike hK, by rw [← ho1]; exact hD⟩, hS.F ht⟩) hS.2.2 dX6_put_29
  · have h := zN c1 h
    refine lv_aload_n hx hb dX6_put_7 rfl (lv_at hl 0 rfl) ?_
    refine va_get (D := (dC, dI)) (ci := 5) (v := .ref a0) (C := RX6) (T := TX6) (N := 12) hx hb hts inX6_ hown hK hP 0 rfl rfl 3 (by decide) (hts (.fieldLink RX6 23 "GateWheel" "circuit" "LGateWheel$Circuit;") (List.mem_of_getElem? (i := 2) rfl)) (fun _ h9 => h9) rfl dX6_put_8 ?_
    refine lv_iload_n hx hb dX6_put_11 rfl (lv_at hl 1 rfl) ?_
    refine lv_iconst (v := 0) hx hb dX6_put_12 (by decide) ?_
    obtain ⟨r2, hc3, h⟩ := zB_spec h
    have hPc := hP.sub (ws' := (cX0 a0 h0 y S0)) [5, 6, 7, 8, 9, 10, 11, 12, 13, 14, 15, 16] rfl
    have hDc := hD.sub (ws' := (cX0 a0 h0 y S0)) [5, 6, 7, 8, 9, 10, 11, 12, 13, 14, 15, 16] (by decide) rfl
    have hFc := va_free (wc := (cX0 a0 h0 y S0)) hD hS hA [5, 6, 7, 8, 9, 10, 11, 12, 13, 14, 15, 16] rfl
    refine va_calli (va_runV (As := [.int p1, .int 0]) (rest := []) ⟨hx, hb, hml, hown, hts⟩ (m_X0_isKind l dC dI y a0 h0 S0 p1 (0 : Int32) s.heap.size r2 hc3) (cwV 2 hts gX6_put_X0_isKind rfl rfl rfl (by decide +kernel) ⟨Nat.le_of_ble_eq_true rfl, Nat.le_of_ble_eq_true rfl⟩) ⟨fun a U g mk q => by obtain ⟨q0, q1, qP, qK, qD⟩ := q; exact ⟨q0, q1, qP, va_K.moved (u := U) (U := U.calling g mk a) (Vm.Alike.refl U.vm) qK, qD⟩, va_recv hK hPc (ci := 0) (q0 := 0) rfl rfl, fun U hU hW => ⟨rfl, by rw [hU], by rw [hU]; exact hPc, va_K.moved hW.alike hK, hDc.weaken (fun _ _ _ _ => trivial)⟩⟩ rfl rfl hl.1 rfl (lv_room (Nat.le_of_ble_eq_true rfl)) dX6_put_13 ⟨Nat.le_of_ble_eq_true rfl, Nat.le_of_ble_eq_true rfl⟩) hS (fun q _ h => hFc q h) hFc (fun rr5 u t H4 locs ht hvm hw hB hz1 hk1 hS => ?_)
    obtain ⟨hP1, hK1, hD1⟩ := hB
    rw [ht] at hP1
    refine zTopi hw.symm ?_
    obtain ⟨hP, hD⟩ := va_join (wr := [(oX6 a6 h6 q3 a0 q8 q5 a4 S6), (h6 0, .inl (y 2, 2000, .inl (gA S6 0))), (h6 5, .inl (y 0, 60, .inl (gA S6 5))), (h6 6, .inl (y 0, 60, .inl (gA S6 6))), (h6 7, .inl (y 0, 60, .inl (gA S6 7))), (oX4 a4 h4 S4), (h4 2, .inl (y 0, 60, .inl (gA S4 2))), (h4 3, .inl (y 0, 60, .inl (gA S4 3))), (h4 4, .inl (y 0, 600, .inl (gA S4 4))), (h4 5, .inl (y 0, 1200, .inl (gA S4 5))), (h4 6, .inl (y 0, 60, .inl (gA S4 6)))]) (w1 := (cX0 a0 h0 y S0)) hP hD [5, 6, 7, 8, 9, 10, 11, 12, 13, 14, 15, 16] [0, 1, 2, 3, 4, 17, 18, 19, 20, 21, 22] rfl rfl (by decide) (by decide) hk1 hFc hP1 hD1
    have hP : va_P (dC, dI) vwCl ((cX6 a6 h6 q3 a0 q8 q5 a4 y S6) ++ ((cX0 a0 h0 y S0) ++ (cX4 a4 h4 y S4))) H4 := hP.sub [0, 1, 2, 3, 4, 11, 12, 13, 14, 15, 16, 17, 18, 19, 20, 21, 22, 5, 6, 7, 8, 9, 10] rfl
    have hD : va_D A ((cX6 a6 h6 q3 a0 q8 q5 a4 y S6) ++ ((cX0 a0 h0 y S0) ++ (cX4 a4 h4 y S4))) := hD.sub [0, 1, 2, 3, 4, 11, 12, 13, 14, 15, 16, 17, 18, 19, 20, 21, 22, 5, 6, 7, 8, 9, 10] (by decide) rfl
    refine lv_if_eq (tgt := 28) hx hb dX6_put_16 (by decide) (fun c6 => ?_) (fun c6 => ?_)
    · have h := zY c6 h
      refine lv_iconst (v := 0) hx hb dX6_put_28 (by decide) ?_
      have ho0 : (0 : Int32) = or_ := congrArg (fun z : Int32 × SS => z.1) (Option.some.inj h)
      have ho1 : S4 = o_4 := congrArg (fun z : Int32 × SS => z.2) (Option.some.inj h)
      exact W.zret (v := 0) hx hb hr (by decide) (fun t ht hW => ⟨⟨0, (), rfl, ho0, by rw [ht]; rw [← ho1]; exact hP, va_K.moved hW.alike hK, by rw [← ho1]; exact hD⟩, hS.F ht⟩) hS.2.2 dX6_put_29
    · have h := zN c6 h
      refine lv_iload_n hx hb dX6_put_19 rfl (lv_at hl 2 rfl) ?_
      refine lv_if_lt (tgt := 28) hx hb dX6_put_20 (by decide) (fun c7 => ?_) (fun c7 => ?_)
      · have h := zY c7 h
        refine lv_iconst (v := 0) hx hb dX6_put_28 (by decide) ?_
        have ho0 : (0 : Int32) = or_ := congrArg (fun z : Int32 × SS => z.1) (Option.some.inj h)
        have ho1 : S4 = o_4 := congrArg (fun z : Int32 × SS => z.2) (Option.some.inj h)
        exact W.zret (v := 0) hx hb hr (by decide) (fun t ht hW => ⟨⟨0, (), rfl, ho0, by rw [ht]; rw [← ho1]; exact hP, va_K.moved hW.alike hK, by rw [← ho1]; exact hD⟩, hS.F ht⟩) hS.2.2 dX6_put_29
      · have h := zN c7 h
        refine lv_iload_n hx hb dX6_put_23 rfl (lv_at hl 2 rfl) ?_
        refine lv_iconst (v := 3) hx hb dX6_put_24 (by decide) ?_
        refine lv_icmp_le (tgt := 30) hx hb dX6_put_25 (by decide) (fun c8 => ?_) (fun c8 => ?_)
        · have h := zY c8 h
          refine lv_aload_n hx hb dX6_put_30 rfl (lv_at hl 0 rfl) ?_
          refine va_get (D := (dC, dI)) (ci := 5) (v := .ref a4) (C := RX6) (T := TX6) (N := 12) hx hb hts inX6_ hown hK hP 0 rfl rfl 10 (by decide) (hts (.fieldLink RX6 50 "GateWheel" "spinning" "LGateWheel$Wheel;") (List.mem_of_getElem? (i := 3) rfl)) (fun _ h9 => h9) rfl dX6_put_31 ?_
          refine lv_iload_n hx hb dX6_put_34 rfl (lv_at hl 1 rfl) ?_
          refine lv_iload_n hx hb dX6_put_35 rfl (lv_at hl 2 rfl) ?_
          obtain ⟨⟨r9, s4_10⟩, hc11, h⟩ := zB_spec h
          have hPc := hP.sub (ws' := (cX4 a4 h4 y S4)) [17, 18, 19, 20, 21, 22] rfl
          have hDc := hD.sub (ws' := (cX4 a4 h4 y S4)) [17, 18, 19, 20, 21, 22] (by decide) rfl
          have hFc := va_free (wc := (cX4 a4 h4 y S4)) hD hS hA [17, 18, 19, 20, 21, 22] rfl
          refine va_calli (va_runV (As := [.int p1, .int p2]) (rest := []) ⟨hx, hb, hml, hown, hts⟩ (m_X4_change l dC dI y a4 h4 S4 p1 p2 H4.size r9 s4_10 hc11) (cwV 2 hts gX6_put_X4_change rfl rfl rfl (by decide +kernel) ⟨Nat.le_of_ble_eq_true rfl, Nat.le_of_ble_eq_true rfl⟩) ⟨fun a U g mk q => by obtain ⟨q0, q1, qP, qK, qD⟩ := q; exact ⟨q0, q1, qP, va_K.moved (u := U) (U := U.calling g mk a) (Vm.Alike.refl U.vm) qK, qD⟩, va_recv hK hPc (ci := 3) (q0 := 0) rfl rfl, fun U hU hW => ⟨rfl, by rw [hU], by rw [hU]; exact hPc, va_K.moved hW.alike hK, hDc.weaken (fun _ _ _ _ => trivial)⟩⟩ rfl rfl hl.1 rfl (lv_room (Nat.le_of_ble_eq_true rfl)) dX6_put_36 ⟨Nat.le_of_ble_eq_true rfl, Nat.le_of_ble_eq_true rfl⟩) hS (fun q _ h => hFc q h) hFc (fun rr13 u t H12 locs ht hvm hw hB hz1 hk1 hS => ?_)
          obtain ⟨hP1, hK1, hD1⟩ := hB
          rw [ht] at hP1
          refine zTopi hw.symm ?_
          obtain ⟨hP, hD⟩ := va_join (wr := [(oX6 a6 h6 q3 a0 q8 q5 a4 S6), (h6 0, .inl (y 2, 2000, .inl (gA S6 0))), (h6 5, .inl (y 0, 60, .inl (gA S6 5))), (h6 6, .inl (y 0, 60, .inl (gA S6 6))), (h6 7, .inl (y 0, 60, .inl (gA S6 7))), (oX0 a0 h0 S0), (h0 2, .inl (y 1, 60, .inr (.inl (gB S0 2)))), (h0 3, .inl (y 0, 60, .inl (gA S0 3))), (h0 4, .inl (y 0, 60, .inl (gA S0 4))), (h0 5, .inl (y 0, 60, .inl (gA S0 5))), (h0 6, .inl (y 0, 60, .inl (gA S0 6))), (h0 7, .inl (y 0, 720, .inl (gA S0 7))), (h0 8, .inl (y 0, 60, .inl (gA S0 8))), (h0 9, .inl (y 0, 60, .inl (gA S0 9))), (h0 10, .inl (y 1, 60, .inr (.inl (gB S0 10)))), (h0 11, .inl (y 0, 60, .inl (gA S0 11))), (h0 12, .inl (y 0, 60, .inl (gA S0 12)))]) (w1 := (cX4 a4 h4 y s4_10)) hP hD [17, 18, 19, 20, 21, 22] [0, 1, 2, 3, 4, 5, 6, 7, 8, 9, 10, 11, 12, 13, 14, 15, 16] rfl rfl (by decide) (by decide) hk1 hFc hP1 hD1
          have hP : va_P (dC, dI) vwCl ((cX6 a6 h6 q3 a0 q8 q5 a4 y S6) ++ ((cX0 a0 h0 y S0) ++ (cX4 a4 h4 y s4_10))) H12 := hP.sub [0, 1, 2, 3, 4, 5, 6, 7, 8, 9, 10, 11, 12, 13, 14, 15, 16, 17, 18, 19, 20, 21, 22] rfl
          have hD : va_D A ((cX6 a6 h6 q3 a0 q8 q5 a4 y S6) ++ ((cX0 a0 h0 y S0) ++ (cX4 a4 h4 y s4_10))) := hD.sub [0, 1, 2, 3, 4, 5, 6, 7, 8, 9, 10, 11, 12, 13, 14, 15, 16, 17, 18, 19, 20, 21, 22] (by decide) rfl
          refine lv_pop hx hb dX6_put_39 rfl ?_
          refine lv_iconst (v := 1) hx hb dX6_put_40 (by decide) ?_
          have ho0 : (1 : Int32) = or_ := congrArg (fun z : Int32 × SS => z.1) (Option.some.inj h)
          have ho1 : s4_10 = o_4 := congrArg (fun z : Int32 × SS => z.2) (Option.some.inj h)
          exact W.zret (v := 1) hx hb hr (by decide) (fun t ht hW => ⟨⟨1, (), rfl, ho0, by rw [ht]; rw [← ho1]; exact hP, va_K.moved hW.alike hK, by rw [← ho1]; exact hD⟩, hS.F ht⟩) hS.2.2 dX6_put_41
        · have h := zN c8 h
          refine lv_iconst (v := 0) hx hb dX6_put_28 (by decide) ?_
          have ho0 : (0 : Int32) = or_ := congrArg (fun z : Int32 × SS => z.1) (Option.some.inj h)
          have ho1 : S4 = o_4 := congrArg (fun z : Int32 × SS => z.2) (Option.some.inj h)
          exact W.zret (v := 0) hx hb hr (by decide) (fun t ht hW => ⟨⟨0, (), rfl, ho0, by rw [ht]; rw [← ho1]; exact hP, va_K.moved hW.alike hK, by rw [← ho1]; exact hD⟩, hS.F ht⟩) hS.2.2 dX6_put_29

set_option maxHeartbeats 4000000 in
set_option maxRecDepth 100000 in
theorem m_X6_run (l : Launch) (dC : Nat → ClassId) (dI : Nat → Nat → Nat) (y : Nat → ClassId) (a6 : Nat) (h6 : Nat → Nat) (S6 : SS) (a0 : Nat) (h0 : Nat → Nat) (S0 : SS) (a4 : Nat) (h4 : Nat → Nat) (S4 : SS) (q3 : Nat) (q8 : Nat) (q5 : Nat) (p1 : Int32) (sz : Nat) (or_ : Int32) (o_4 : SS) (h : f_X6_run S6 S0 S4 p1 = some (or_, o_4)) : Met l yX6_run wsX6_run ({ frames := 6, cells := 0, slots := 0, locals := 147 }) (va_Pc [.ref a6, .int p1] (fun U => U.heap.size = sz ∧ va_P (dC, dI) vwCl ((cX6 a6 h6 q3 a0 q8 q5 a4 y S6) ++ ((cX0 a0 h0 y S0) ++ (cX4 a4 h4 y S4))) U.heap ∧ va_K (dC, dI) vwCl [(y 0, .int), (y 1, .long), (y 2, .byte), (y 3, .boolean)] U ∧ va_D (fun _ => True) ((cX6 a6 h6 q3 a0 q8 q5 a4 y S6) ++ ((cX0 a0 h0 y S0) ++ (cX4 a4 h4 y S4))))) (va_Qi (fun (r : Int32) (_ : Unit) => r = or_) (fun (_ : Unit) (t : State) => va_P (dC, dI) vwCl ((cX6 a6 h6 q3 a0 q8 q5 a4 y S6) ++ ((cX0 a0 h0 y S0) ++ (cX4 a4 h4 y o_4))) t.heap ∧ va_K (dC, dI) vwCl [(y 0, .int), (y 1, .long), (y 2, .byte), (y 3, .boolean)] t ∧ va_D (va_A ((cX6 a6 h6 q3 a0 q8 q5 a4 y S6) ++ ((cX0 a0 h0 y S0) ++ (cX4 a4 h4 y S4))) sz) ((cX6 a6 h6 q3 a0 q8 q5 a4 y S6) ++ ((cX0 a0 h0 y S0) ++ (cX4 a4 h4 y o_4)))) (va_A ((cX6 a6 h6 q3 a0 q8 q5 a4 y S6) ++ ((cX0 a0 h0 y S0) ++ (cX4 a4 h4 y S4))) sz)) 0 0 (va_A ((cX6 a6 h6 q3 a0 q8 q5 a4 y S6) ++ ((cX0 a0 h0 y S0) ++ (cX4 a4 h4 y S4))) sz) := by
  refine Met.ofW (cc := cX6_run) (maxL := 2) (ret := (some .int)) (by decide +kernel) rfl ?_
  intro p e s m args below meth c s₁ B hml hv
  obtain ⟨rfl, hsz, hP, hK, hD0⟩ := hv
  have hx := B.exec
  have hb := B.bytes
  have hr := B.returns
  have hts := atoms_spec (ws := wsX6_run) B.pre
  have hown : s.vm.findClass RX6 = some m.cls := findClass_of_methodNamed B.named
  have hlocks := B.notSynchronized
  have inX6_ : ∀ w ∈ wsX60, w ∈ wsX6_run := fun _ h => List.mem_cons_of_mem _ (List.mem_append_left _ (List.mem_append_left _ (List.mem_append_right _ h)))
  subst hsz
  have hD := hD0.self (sz := s.heap.size)
  generalize hAe : va_A ((cX6 a6 h6 q3 a0 q8 q5 a4 y S6) ++ ((cX0 a0 h0 y S0) ++ (cX4 a4 h4 y S4))) s.heap.size = A at hD ⊢
  have hA : ∀ q : Nat, s.heap.size ≤ q → A q := fun q h => by rw [← hAe]; exact Or.inr h
  have hS : va_S A s.heap s.heap [] := va_S.rf
  have hP : va_P (dC, dI) vwCl ((cX6 a6 h6 q3 a0 q8 q5 a4 y S6) ++ ((cX0 a0 h0 y S0) ++ (cX4 a4 h4 y S4))) s.heap := hP
  have hl := lv_entry ([.ref a6, .int p1]) (n := 2) (Nat.le_of_ble_eq_true rfl)
  rw [lg_entry_eq]
  generalize (lg_sl ([.ref a6, .int p1]) ++ List.replicate (2 - (lg_sl ([.ref a6, .int p1])).length) Slot.unset).toArray = ls at hl ⊢
  have hl : lv_has ls 2 [(0, .ref a6), (1, .int p1)] := hl
  refine lv_aload_n hx hb dX6_run_0 rfl (lv_at hl 0 rfl) ?_
  refine va_get (D := (dC, dI)) (ci := 5) (v := .int (gI S6 11)) (C := RX6) (T := TX6) (N := 12) hx hb hts inX6_ hown hK hP 0 rfl rfl 11 (by decide) (hts (.fieldLink RX6 69 "GateWheel" "hasWheel" "Z") (List.mem_of_getElem? (i := 1) rfl)) (fun _ h9 => h9) rfl dX6_run_1 ?_
  refine lv_if_eq (tgt := 18) hx hb dX6_run_4 (by decide) (fun c1 => ?_) (fun c1 => ?_)
  · have h := zY c1 h
    refine lv_iconst (v := (-1)) hx hb dX6_run_18 (by decide) ?_
    have ho0 : (-1 : Int32) = or_ := congrArg (fun z : Int32 × SS => z.1) (Option.some.inj h)
    have ho1 : S4 = o_4 := congrArg (fun z : Int32 × SS => z.2) (Option.some.inj h)
    exact W.iret (v := (-1)) hx hb hr (fun t ht hW => ⟨⟨(-1), (), rfl, ho0, by rw [ht]; rw [← ho1]; exact hP, va_K.moved hW.alike hK, by rw [← ho1]; exact hD⟩, hS.F ht⟩) hS.2.2 dX6_run_19
  · have h := zN c1 h
    refine lv_iload_n hx hb dX6_run_7 rfl (lv_at hl 1 rfl) ?_
    refine lv_if_lt (tgt := 18) hx hb dX6_run_8 (by decide) (fun c2 => ?_) (fun c2 => ?_)
    · have h := zY c2 h
      refine lv_iconst (v := (-1)) hx hb dX6_run_18 (by decide) ?_
      have ho0 : (-1 : Int32) = or_ := congrArg (fun z : Int32 × SS => z.1) (Option.some.inj h)
      have ho1 : S4 = o_4 := congrArg (fun z : Int32 × SS => z.2) (Option.some.inj h)
      exact W.iret (v := (-1)) hx hb hr (fun t ht hW => ⟨⟨(-1), (), rfl, ho0, by rw [ht]; rw [← ho1]; exact hP, va_K.moved hW.alike hK, by rw [← ho1]; exact hD⟩, hS.F ht⟩) hS.2.2 dX6_run_19
    · have h := zN c2 h
      refine lv_iload_n hx hb dX6_run_11 rfl (lv_at hl 1 rfl) ?_
      refine lv_sipush (v := 1000) hx hb dX6_run_12 (by decide) ?_
      refine lv_icmp_le (tgt := 20) hx hb dX6_run_15 (by decide) (fun c3 => ?_) (fun c3 => ?_)
      · have h := zY c3 h
        refine lv_aload_n hx hb dX6_run_20 rfl (lv_at hl 0 rfl) ?_
        refine va_get (D := (dC, dI)) (ci := 5) (v := .ref a4) (C := RX6) (T := TX6) (N := 12) hx hb hts inX6_ hown hK hP 0 rfl rfl 10 (by decide) (hts (.fieldLink RX6 50 "GateWheel" "spinning" "LGateWheel$Wheel;") (List.mem_of_getElem? (i := 2) rfl)) (fun _ h9 => h9) rfl dX6_run_21 ?_
        refine lv_aload_n hx hb dX6_run_24 rfl (lv_at hl 0 rfl) ?_
        refine va_get (D := (dC, dI)) (ci := 5) (v := .ref a0) (C := RX6) (T := TX6) (N := 12) hx hb hts inX6_ hown hK hP 0 rfl rfl 3 (by decide) (hts (.fieldLink RX6 23 "GateWheel" "circuit" "LGateWheel$Circuit;") (List.mem_of_getElem? (i := 3) rfl)) (fun _ h9 => h9) rfl dX6_run_25 ?_
        refine lv_iload_n hx hb dX6_run_28 rfl (lv_at hl 1 rfl) ?_
        obtain ⟨⟨r4, s4_5⟩, hc6, h⟩ := zB_spec h
        have hPc := hP.sub (ws' := ((cX4 a4 h4 y S4) ++ (cX0 a0 h0 y S0))) [17, 18, 19, 20, 21, 22, 5, 6, 7, 8, 9, 10, 11, 12, 13, 14, 15, 16] rfl
        have hDc := hD.sub (ws' := ((cX4 a4 h4 y S4) ++ (cX0 a0 h0 y S0))) [17, 18, 19, 20, 21, 22, 5, 6, 7, 8, 9, 10, 11, 12, 13, 14, 15, 16] (by decide) rfl
        have hFc := va_free (wc := ((cX4 a4 h4 y S4) ++ (cX0 a0 h0 y S0))) hD hS hA [17, 18, 19, 20, 21, 22, 5, 6, 7, 8, 9, 10, 11, 12, 13, 14, 15, 16] rfl
        refine va_calli (va_runV (As := [.ref a0, .int p1]) (rest := []) ⟨hx, hb, hml, hown, hts⟩ (m_X4_turn l dC dI y a4 h4 S4 a0 h0 S0 p1 s.heap.size r4 s4_5 hc6) (cwV 2 hts gX6_run_X4_turn rfl rfl rfl (by decide +kernel) ⟨Nat.le_of_ble_eq_true rfl, Nat.le_of_ble_eq_true rfl⟩) ⟨fun a U g mk q => by obtain ⟨q0, q1, qP, qK, qD⟩ := q; exact ⟨q0, q1, qP, va_K.moved (u := U) (U := U.calling g mk a) (Vm.Alike.refl U.vm) qK, qD⟩, va_recv hK hPc (ci := 3) (q0 := 0) rfl rfl, fun U hU hW => ⟨rfl, by rw [hU], by rw [hU]; exact hPc, va_K.moved hW.alike hK, hDc.weaken (fun _ _ _ _ => trivial)⟩⟩ rfl rfl hl.1 rfl (lv_room (Nat.le_of_ble_eq_true rfl)) dX6_run_29 ⟨Nat.le_of_ble_eq_true rfl, Nat.le_of_ble_eq_true rfl⟩) hS (fun q _ h => hFc q h) hFc (fun rr8 u t H7 locs ht hvm hw hB hz1 hk1 hS => ?_)
        obtain ⟨hP1, hK1, hD1⟩ := hB
        rw [ht] at hP1
        refine zTopi hw.symm ?_
        obtain ⟨hP, hD⟩ := va_join (wr := [(oX6 a6 h6 q3 a0 q8 q5 a4 S6), (h6 0, .inl (y 2, 2000, .inl (gA S6 0))), (h6 5, .inl (y 0, 60, .inl (gA S6 5))), (h6 6, .inl (y 0, 60, .inl (gA S6 6))), (h6 7, .inl (y 0, 60, .inl (gA S6 7)))]) (w1 := ((cX4 a4 h4 y s4_5) ++ (cX0 a0 h0 y S0))) hP hD [17, 18, 19, 20, 21, 22, 5, 6, 7, 8, 9, 10, 11, 12, 13, 14, 15, 16] [0, 1, 2, 3, 4] rfl rfl (by decide) (by decide) hk1 hFc hP1 hD1
        have hP : va_P (dC, dI) vwCl ((cX6 a6 h6 q3 a0 q8 q5 a4 y S6) ++ ((cX0 a0 h0 y S0) ++ (cX4 a4 h4 y s4_5))) H7 := hP.sub [0, 1, 2, 3, 4, 11, 12, 13, 14, 15, 16, 17, 18, 19, 20, 21, 22, 5, 6, 7, 8, 9, 10] rfl
        have hD : va_D A ((cX6 a6 h6 q3 a0 q8 q5 a4 y S6) ++ ((cX0 a0 h0 y S0) ++ (cX4 a4 h4 y s4_5))) := hD.sub [0, 1, 2, 3, 4, 11, 12, 13, 14, 15, 16, 17, 18, 19, 20, 21, 22, 5, 6, 7, 8, 9, 10] (by decide) rfl
        have ho0 : r4 = or_ := congrArg (fun z : Int32 × SS => z.1) (Option.some.inj h)
        have ho1 : s4_5 = o_4 := congrArg (fun z : Int32 × SS => z.2) (Option.some.inj h)
        exact W.iret (v := r4) hx hb hr (fun t ht hW => ⟨⟨r4, (), rfl, ho0, by rw [ht]; rw [← ho1]; exact hP, va_K.moved hW.alike hK, by rw [← ho1]; exact hD⟩, hS.F ht⟩) hS.2.2 dX6_run_32
      · have h := zN c3 h
        refine lv_iconst (v := (-1)) hx hb dX6_run_18 (by decide) ?_
        have ho0 : (-1 : Int32) = or_ := congrArg (fun z : Int32 × SS => z.1) (Option.some.inj h)
        have ho1 : S4 = o_4 := congrArg (fun z : Int32 × SS => z.2) (Option.some.inj h)
        exact W.iret (v := (-1)) hx hb hr (fun t ht hW => ⟨⟨(-1), (), rfl, ho0, by rw [ht]; rw [← ho1]; exact hP, va_K.moved hW.alike hK, by rw [← ho1]; exact hD⟩, hS.F ht⟩) hS.2.2 dX6_run_19

set_option maxHeartbeats 4000000 in
set_option maxRecDepth 100000 in
theorem m_X6_on (l : Launch) (dC : Nat → ClassId) (dI : Nat → Nat → Nat) (y : Nat → ClassId) (a6 : Nat) (h6 : Nat → Nat) (S6 : SS) (a0 : Nat) (h0 : Nat → Nat) (S0 : SS) (a4 : Nat) (h4 : Nat → Nat) (S4 : SS) (q3 : Nat) (q8 : Nat) (q5 : Nat) (p1 : Int32) (sz : Nat) (or_ : Int32) (h : f_X6_on S6 S0 S4 p1 = some or_) : Met l yX6_on wsX6_on ({ frames := 1, cells := 0, slots := 0, locals := 21 }) (va_Pc [.ref a6, .int p1] (fun U => U.heap.size = sz ∧ va_P (dC, dI) vwCl ((cX6 a6 h6 q3 a0 q8 q5 a4 y S6) ++ ((cX0 a0 h0 y S0) ++ (cX4 a4 h4 y S4))) U.heap ∧ va_K (dC, dI) vwCl [(y 0, .int), (y 1, .long), (y 2, .byte), (y 3, .boolean)] U ∧ va_D (fun _ => True) ((cX6 a6 h6 q3 a0 q8 q5 a4 y S6) ++ ((cX0 a0 h0 y S0) ++ (cX4 a4 h4 y S4))))) (va_Qi (fun (r : Int32) (_ : Unit) => r = or_) (fun (_ : Unit) (t : State) => va_P (dC, dI) vwCl ((cX6 a6 h6 q3 a0 q8 q5 a4 y S6) ++ ((cX0 a0 h0 y S0) ++ (cX4 a4 h4 y S4))) t.heap ∧ va_K (dC, dI) vwCl [(y 0, .int), (y 1, .long), (y 2, .byte), (y 3, .boolean)] t ∧ va_D (va_A ((cX6 a6 h6 q3 a0 q8 q5 a4 y S6) ++ ((cX0 a0 h0 y S0) ++ (cX4 a4 h4 y S4))) sz) ((cX6 a6 h6 q3 a0 q8 q5 a4 y S6) ++ ((cX0 a0 h0 y S0) ++ (cX4 a4 h4 y S4)))) (va_A ((cX6 a6 h6 q3 a0 q8 q5 a4 y S6) ++ ((cX0 a0 h0 y S0) ++ (cX4 a4 h4 y S4))) sz)) 0 0 (va_A ((cX6 a6 h6 q3 a0 q8 q5 a4 y S6) ++ ((cX0 a0 h0 y S0) ++ (cX4 a4 h4 y S4))) sz) := by
  refine Met.ofW (cc := cX6_on) (maxL := 2) (ret := (some .int)) (by decide +kernel) rfl ?_
  intro p e s m args below meth c s₁ B hml hv
  obtain ⟨rfl, hsz, hP, hK, hD0⟩ := hv
  have hx := B.exec
  have hb := B.bytes
  have hr := B.returns
  have hts := atoms_spec (ws := wsX6_on) B.pre
  have hown : s.vm.findClass RX6 = some m.cls := findClass_of_methodNamed B.named
  have hlocks := B.notSynchronized
  have inX4_ : ∀ w ∈ wsX40, w ∈ wsX6_on := fun _ h => List.mem_cons_of_mem _ (List.mem_append_left _ (List.mem_append_right _ h))
  have inX6_ : ∀ w ∈ wsX60, w ∈ wsX6_on := fun _ h => List.mem_cons_of_mem _ (List.mem_append_left _ (List.mem_append_left _ (List.mem_append_right _ h)))
  subst hsz
  have hD := hD0.self (sz := s.heap.size)
  generalize hAe : va_A ((cX6 a6 h6 q3 a0 q8 q5 a4 y S6) ++ ((cX0 a0 h0 y S0) ++ (cX4 a4 h4 y S4))) s.heap.size = A at hD ⊢
  have hA : ∀ q : Nat, s.heap.size ≤ q → A q := fun q h => by rw [← hAe]; exact Or.inr h
  have hS : va_S A s.heap s.heap [] := va_S.rf
  have hP : va_P (dC, dI) vwCl ((cX6 a6 h6 q3 a0 q8 q5 a4 y S6) ++ ((cX0 a0 h0 y S0) ++ (cX4 a4 h4 y S4))) s.heap := hP
  have hl := lv_entry ([.ref a6, .int p1]) (n := 2) (Nat.le_of_ble_eq_true rfl)
  rw [lg_entry_eq]
  generalize (lg_sl ([.ref a6, .int p1]) ++ List.replicate (2 - (lg_sl ([.ref a6, .int p1])).length) Slot.unset).toArray = ls at hl ⊢
  have hl : lv_has ls 2 [(0, .ref a6), (1, .int p1)] := hl
  refine lv_aload_n hx hb dX6_on_0 rfl (lv_at hl 0 rfl) ?_
  refine va_get (D := (dC, dI)) (ci := 5) (v := .int (gI S6 11)) (C := RX6) (T := TX6) (N := 12) hx hb hts inX6_ hown hK hP 0 rfl rfl 11 (by decide) (hts (.fieldLink RX6 69 "GateWheel" "hasWheel" "Z") (List.mem_of_getElem? (i := 1) rfl)) (fun _ h9 => h9) rfl dX6_on_1 ?_
  refine lv_if_eq (tgt := 30) hx hb dX6_on_4 (by decide) (fun c1 => ?_) (fun c1 => ?_)
  · have h := zY c1 h
    refine lv_iconst (v := (-1)) hx hb dX6_on_30 (by decide) ?_
    have ho0 : (-1 : Int32) = or_ := congrArg (fun z : Int32 => z) (Option.some.inj h)
    exact W.iret (v := (-1)) hx hb hr (fun t ht hW => ⟨⟨(-1), (), rfl, ho0, by rw [ht]; exact hP, va_K.moved hW.alike hK, hD⟩, hS.F ht⟩) hS.2.2 dX6_on_31
  · have h := zN c1 h
    refine lv_aload_n hx hb dX6_on_7 rfl (lv_at hl 0 rfl) ?_
    refine va_get (D := (dC, dI)) (ci := 5) (v := .ref a0) (C := RX6) (T := TX6) (N := 12) hx hb hts inX6_ hown hK hP 0 rfl rfl 3 (by decide) (hts (.fieldLink RX6 23 "GateWheel" "circuit" "LGateWheel$Circuit;") (List.mem_of_getElem? (i := 2) rfl)) (fun _ h9 => h9) rfl dX6_on_8 ?_
    refine lv_iload_n hx hb dX6_on_11 rfl (lv_at hl 1 rfl) ?_
    obtain ⟨r2, hc3, h⟩ := zB_spec h
    have hPc := hP.sub (ws' := (cX0 a0 h0 y S0)) [5, 6, 7, 8, 9, 10, 11, 12, 13, 14, 15, 16] rfl
    have hDc := hD.sub (ws' := (cX0 a0 h0 y S0)) [5, 6, 7, 8, 9, 10, 11, 12, 13, 14, 15, 16] (by decide) rfl
    have hFc := va_free (wc := (cX0 a0 h0 y S0)) hD hS hA [5, 6, 7, 8, 9, 10, 11, 12, 13, 14, 15, 16] rfl
    refine va_calli (va_runV (As := [.int p1]) (rest := []) ⟨hx, hb, hml, hown, hts⟩ (m_X0_has l dC dI y a0 h0 S0 p1 s.heap.size r2 hc3) (cwV 1 hts gX6_on_X0_has rfl rfl rfl (by decide +kernel) ⟨Nat.le_of_ble_eq_true rfl, Nat.le_of_ble_eq_true rfl⟩) ⟨fun a U g mk q => by obtain ⟨q0, q1, qP, qK, qD⟩ := q; exact ⟨q0, q1, qP, va_K.moved (u := U) (U := U.calling g mk a) (Vm.Alike.refl U.vm) qK, qD⟩, va_recv hK hPc (ci := 0) (q0 := 0) rfl rfl, fun U hU hW => ⟨rfl, by rw [hU], by rw [hU]; exact hPc, va_K.moved hW.alike hK, hDc.weaken (fun _ _ _ _ => trivial)⟩⟩ rfl rfl hl.1 rfl (lv_room (Nat.le_of_ble_eq_true rfl)) dX6_on_12 ⟨Nat.le_of_ble_eq_true rfl, Nat.le_of_ble_eq_true rfl⟩) hS (fun q _ h => hFc q h) hFc (fun rr5 u t H4 locs ht hvm hw hB hz1 hk1 hS => ?_)
    obtain ⟨hP1, hK1, hD1⟩ := hB
    rw [ht] at hP1
    refine zTopi hw.symm ?_
    obtain ⟨hP, hD⟩ := va_join (wr := [(oX6 a6 h6 q3 a0 q8 q5 a4 S6), (h6 0, .inl (y 2, 2000, .inl (gA S6 0))), (h6 5, .inl (y 0, 60, .inl (gA S6 5))), (h6 6, .inl (y 0, 60, .inl (gA S6 6))), (h6 7, .inl (y 0, 60, .inl (gA S6 7))), (oX4 a4 h4 S4), (h4 2, .inl (y 0, 60, .inl (gA S4 2))), (h4 3, .inl (y 0, 60, .inl (gA S4 3))), (h4 4, .inl (y 0, 600, .inl (gA S4 4))), (h4 5, .inl (y 0, 1200, .inl (gA S4 5))), (h4 6, .inl (y 0, 60, .inl (gA S4 6)))]) (w1 := (cX0 a0 h0 y S0)) hP hD [5, 6, 7, 8, 9, 10, 11, 12, 13, 14, 15, 16] [0, 1, 2, 3, 4, 17, 18, 19, 20, 21, 22] rfl rfl (by decide) (by decide) hk1 hFc hP1 hD1
    have hP : va_P (dC, dI) vwCl ((cX6 a6 h6 q3 a0 q8 q5 a4 y S6) ++ ((cX0 a0 h0 y S0) ++ (cX4 a4 h4 y S4))) H4 := hP.sub [0, 1, 2, 3, 4, 11, 12, 13, 14, 15, 16, 17, 18, 19, 20, 21, 22, 5, 6, 7, 8, 9, 10] rfl
    have hD : va_D A ((cX6 a6 h6 q3 a0 q8 q5 a4 y S6) ++ ((cX0 a0 h0 y S0) ++ (cX4 a4 h4 y S4))) := hD.sub [0, 1, 2, 3, 4, 11, 12, 13, 14, 15, 16, 17, 18, 19, 20, 21, 22, 5, 6, 7, 8, 9, 10] (by decide) rfl
    refine lv_if_eq (tgt := 30) hx hb dX6_on_15 (by decide) (fun c6 => ?_) (fun c6 => ?_)
    · have h := zY c6 h
      refine lv_iconst (v := (-1)) hx hb dX6_on_30 (by decide) ?_
      have ho0 : (-1 : Int32) = or_ := congrArg (fun z : Int32 => z) (Option.some.inj h)
      exact W.iret (v := (-1)) hx hb hr (fun t ht hW => ⟨⟨(-1), (), rfl, ho0, by rw [ht]; exact hP, va_K.moved hW.alike hK, hD⟩, hS.F ht⟩) hS.2.2 dX6_on_31
    · have h := zN c6 h
      refine lv_aload_n hx hb dX6_on_18 rfl (lv_at hl 0 rfl) ?_
      refine va_get (D := (dC, dI)) (ci := 5) (v := .ref a4) (C := RX6) (T := TX6) (N := 12) hx hb hts inX6_ hown hK hP 0 rfl rfl 10 (by decide) (hts (.fieldLink RX6 50 "GateWheel" "spinning" "LGateWheel$Wheel;") (List.mem_of_getElem? (i := 3) rfl)) (fun _ h9 => h9) rfl dX6_on_19 ?_
      refine va_get (D := (dC, dI)) (ci := 3) (v := .ref (h4 2)) (C := RX4) (T := TX4) (N := 8) hx hb hts inX4_ hown hK hP 17 rfl rfl 2 (by decide) (hts (.fieldLink RX6 148 "GateWheel$Wheel" "values" "[I") (List.mem_of_getElem? (i := 4) rfl)) (fun _ h9 => h9) rfl dX6_on_22 ?_
      refine lv_iload_n hx hb dX6_on_25 rfl (lv_at hl 1 rfl) ?_
      obtain ⟨hi7, h⟩ := zG_spec h
      refine va_iald hx hb hK hP 18 0 rfl rfl hi7 dX6_on_26 ?_
      refine lv_goto (tgt := 31) hx hb dX6_on_27 (by decide) ?_
      have ho0 : (gA S4 2 p1.toNatClampNeg) = or_ := congrArg (fun z : Int32 => z) (Option.some.inj h)
      exact W.iret (v := (gA S4 2 p1.toNatClampNeg)) hx hb hr (fun t ht hW => ⟨⟨(gA S4 2 p1.toNatClampNeg), (), rfl, ho0, by rw [ht]; exact hP, va_K.moved hW.alike hK, hD⟩, hS.F ht⟩) hS.2.2 dX6_on_31

set_option maxHeartbeats 4000000 in
set_option maxRecDepth 100000 in
theorem m_X6_wave (l : Launch) (dC : Nat → ClassId) (dI : Nat → Nat → Nat) (y : Nat → ClassId) (a6 : Nat) (h6 : Nat → Nat) (S6 : SS) (a0 : Nat) (h0 : Nat → Nat) (S0 : SS) (a4 : Nat) (h4 : Nat → Nat) (S4 : SS) (q3 : Nat) (q8 : Nat) (q5 : Nat) (p1 : Int32) (p2 : Int32) (sz : Nat) (or_ : Int32) (h : f_X6_wave S6 S0 S4 p1 p2 = some or_) : Met l yX6_wave wsX6_wave ({ frames := 1, cells := 0, slots := 0, locals := 22 }) (va_Pc [.ref a6, .int p1, .int p2] (fun U => U.heap.size = sz ∧ va_P (dC, dI) vwCl ((cX6 a6 h6 q3 a0 q8 q5 a4 y S6) ++ ((cX0 a0 h0 y S0) ++ (cX4 a4 h4 y S4))) U.heap ∧ va_K (dC, dI) vwCl [(y 0, .int), (y 1, .long), (y 2, .byte), (y 3, .boolean)] U ∧ va_D (fun _ => True) ((cX6 a6 h6 q3 a0 q8 q5 a4 y S6) ++ ((cX0 a0 h0 y S0) ++ (cX4 a4 h4 y S4))))) (va_Qi (fun (r : Int32) (_ : Unit) => r = or_) (fun (_ : Unit) (t : State) => va_P (dC, dI) vwCl ((cX6 a6 h6 q3 a0 q8 q5 a4 y S6) ++ ((cX0 a0 h0 y S0) ++ (cX4 a4 h4 y S4))) t.heap ∧ va_K (dC, dI) vwCl [(y 0, .int), (y 1, .long), (y 2, .byte), (y 3, .boolean)] t ∧ va_D (va_A ((cX6 a6 h6 q3 a0 q8 q5 a4 y S6) ++ ((cX0 a0 h0 y S0) ++ (cX4 a4 h4 y S4))) sz) ((cX6 a6 h6 q3 a0 q8 q5 a4 y S6) ++ ((cX0 a0 h0 y S0) ++ (cX4 a4 h4 y S4)))) (va_A ((cX6 a6 h6 q3 a0 q8 q5 a4 y S6) ++ ((cX0 a0 h0 y S0) ++ (cX4 a4 h4 y S4))) sz)) 0 0 (va_A ((cX6 a6 h6 q3 a0 q8 q5 a4 y S6) ++ ((cX0 a0 h0 y S0) ++ (cX4 a4 h4 y S4))) sz) := by
  refine Met.ofW (cc := cX6_wave) (maxL := 3) (ret := (some .int)) (by decide +kernel) rfl ?_
  intro p e s m args below meth c s₁ B hml hv
  obtain ⟨rfl, hsz, hP, hK, hD0⟩ := hv
  have hx := B.exec
  have hb := B.bytes
  have hr := B.returns
  have hts := atoms_spec (ws := wsX6_wave) B.pre
  have hown : s.vm.findClass RX6 = some m.cls := findClass_of_methodNamed B.named
  have hlocks := B.notSynchronized
  have inX6_ : ∀ w ∈ wsX60, w ∈ wsX6_wave := fun _ h => List.mem_cons_of_mem _ (List.mem_append_left _ (List.mem_append_left _ (List.mem_append_right _ h)))
  subst hsz
  have hD := hD0.self (sz := s.heap.size)
  generalize hAe : va_A ((cX6 a6 h6 q3 a0 q8 q5 a4 y S6) ++ ((cX0 a0 h0 y S0) ++ (cX4 a4 h4 y S4))) s.heap.size = A at hD ⊢
  have hA : ∀ q : Nat, s.heap.size ≤ q → A q := fun q h => by rw [← hAe]; exact Or.inr h
  have hS : va_S A s.heap s.heap [] := va_S.rf
  have hP : va_P (dC, dI) vwCl ((cX6 a6 h6 q3 a0 q8 q5 a4 y S6) ++ ((cX0 a0 h0 y S0) ++ (cX4 a4 h4 y S4))) s.heap := hP
  have hl := lv_entry ([.ref a6, .int p1, .int p2]) (n := 3) (Nat.le_of_ble_eq_true rfl)
  rw [lg_entry_eq]
  generalize (lg_sl ([.ref a6, .int p1, .int p2]) ++ List.replicate (3 - (lg_sl ([.ref a6, .int p1, .int p2])).length) Slot.unset).toArray = ls at hl ⊢
  have hl : lv_has ls 3 [(0, .ref a6), (1, .int p1), (2, .int p2)] := hl
  refine lv_aload_n hx hb dX6_wave_0 rfl (lv_at hl 0 rfl) ?_
  refine va_get (D := (dC, dI)) (ci := 5) (v := .int (gI S6 11)) (C := RX6) (T := TX6) (N := 12) hx hb hts inX6_ hown hK hP 0 rfl rfl 11 (by decide) (hts (.fieldLink RX6 69 "GateWheel" "hasWheel" "Z") (List.mem_of_getElem? (i := 1) rfl)) (fun _ h9 => h9) rfl dX6_wave_1 ?_
  refine lv_if_eq (tgt := 30) hx hb dX6_wave_4 (by decide) (fun c1 => ?_) (fun c1 => ?_)
  · have h := zY c1 h
    refine lv_iconst (v := (-1)) hx hb dX6_wave_30 (by decide) ?_
    have ho0 : (-1 : Int32) = or_ := congrArg (fun z : Int32 => z) (Option.some.inj h)
    exact W.iret (v := (-1)) hx hb hr (fun t ht hW => ⟨⟨(-1), (), rfl, ho0, by rw [ht]; exact hP, va_K.moved hW.alike hK, hD⟩, hS.F ht⟩) hS.2.2 dX6_wave_31
  · have h := zN c1 h
    refine lv_aload_n hx hb dX6_wave_7 rfl (lv_at hl 0 rfl) ?_
    refine va_get (D := (dC, dI)) (ci := 5) (v := .ref a0) (C := RX6) (T := TX6) (N := 12) hx hb hts inX6_ hown hK hP 0 rfl rfl 3 (by decide) (hts (.fieldLink RX6 23 "GateWheel" "circuit" "LGateWheel$Circuit;") (List.mem_of_getElem? (i := 2) rfl)) (fun _ h9 => h9) rfl dX6_wave_8 ?_
    refine lv_iload_n hx hb dX6_wave_11 rfl (lv_at hl 1 rfl) ?_
    obtain ⟨r2, hc3, h⟩ := zB_spec h
    have hPc := hP.sub (ws' := (cX0 a0 h0 y S0)) [5, 6, 7, 8, 9, 10, 11, 12, 13, 14, 15, 16] rfl
    have hDc := hD.sub (ws' := (cX0 a0 h0 y S0)) [5, 6, 7, 8, 9, 10, 11, 12, 13, 14, 15, 16] (by decide) rfl
    have hFc := va_free (wc := (cX0 a0 h0 y S0)) hD hS hA [5, 6, 7, 8, 9, 10, 11, 12, 13, 14, 15, 16] rfl
    refine va_calli (va_runV (As := [.int p1]) (rest := []) ⟨hx, hb, hml, hown, hts⟩ (m_X0_has l dC dI y a0 h0 S0 p1 s.heap.size r2 hc3) (cwV 1 hts gX6_wave_X0_has rfl rfl rfl (by decide +kernel) ⟨Nat.le_of_ble_eq_true rfl, Nat.le_of_ble_eq_true rfl⟩) ⟨fun a U g mk q => by obtain ⟨q0, q1, qP, qK, qD⟩ := q; exact ⟨q0, q1, qP, va_K.moved (u := U) (U := U.calling g mk a) (Vm.Alike.refl U.vm) qK, qD⟩, va_recv hK hPc (ci := 0) (q0 := 0) rfl rfl, fun U hU hW => ⟨rfl, by rw [hU], by rw [hU]; exact hPc, va_K.moved hW.alike hK, hDc.weaken (fun _ _ _ _ => trivial)⟩⟩ rfl rfl hl.1 rfl (lv_room (Nat.le_of_ble_eq_true rfl)) dX6_wave_12 ⟨Nat.le_of_ble_eq_true rfl, Nat.le_of_ble_eq_true rfl⟩) hS (fun q _ h => hFc q h) hFc (fun rr5 u t H4 locs ht hvm hw hB hz1 hk1 hS => ?_)
    obtain ⟨hP1, hK1, hD1⟩ := hB
    rw [ht] at hP1
    refine zTopi hw.symm ?_
    obtain ⟨hP, hD⟩ := va_join (wr := [(oX6 a6 h6 q3 a0 q8 q5 a4 S6), (h6 0, .inl (y 2, 2000, .inl (gA S6 0))), (h6 5, .inl (y 0, 60, .inl (gA S6 5))), (h6 6, .inl (y 0, 60, .inl (gA S6 6))), (h6 7, .inl (y 0, 60, .inl (gA S6 7))), (oX4 a4 h4 S4), (h4 2, .inl (y 0, 60, .inl (gA S4 2))), (h4 3, .inl (y 0, 60, .inl (gA S4 3))), (h4 4, .inl (y 0, 600, .inl (gA S4 4))), (h4 5, .inl (y 0, 1200, .inl (gA S4 5))), (h4 6, .inl (y 0, 60, .inl (gA S4 6)))]) (w1 := (cX0 a0 h0 y S0)) hP hD [5, 6, 7, 8, 9, 10, 11, 12, 13, 14, 15, 16] [0, 1, 2, 3, 4, 17, 18, 19, 20, 21, 22] rfl rfl (by decide) (by decide) hk1 hFc hP1 hD1
    have hP : va_P (dC, dI) vwCl ((cX6 a6 h6 q3 a0 q8 q5 a4 y S6) ++ ((cX0 a0 h0 y S0) ++ (cX4 a4 h4 y S4))) H4 := hP.sub [0, 1, 2, 3, 4, 11, 12, 13, 14, 15, 16, 17, 18, 19, 20, 21, 22, 5, 6, 7, 8, 9, 10] rfl
    have hD : va_D A ((cX6 a6 h6 q3 a0 q8 q5 a4 y S6) ++ ((cX0 a0 h0 y S0) ++ (cX4 a4 h4 y S4))) := hD.sub [0, 1, 2, 3, 4, 11, 12, 13, 14, 15, 16, 17, 18, 19, 20, 21, 22, 5, 6, 7, 8, 9, 10] (by decide) rfl
    refine lv_if_eq (tgt := 30) hx hb dX6_wave_15 (by decide) (fun c6 => ?_) (fun c6 => ?_)
    · have h := zY c6 h
      refine lv_iconst (v := (-1)) hx hb dX6_wave_30 (by decide) ?_
      have ho0 : (-1 : Int32) = or_ := congrArg (fun z : Int32 => z) (Option.some.inj h)
      exact W.iret (v := (-1)) hx hb hr (fun t ht hW => ⟨⟨(-1), (), rfl, ho0, by rw [ht]; exact hP, va_K.moved hW.alike hK, hD⟩, hS.F ht⟩) hS.2.2 dX6_wave_31
    · have h := zN c6 h
      refine lv_aload_n hx hb dX6_wave_18 rfl (lv_at hl 0 rfl) ?_
      refine va_get (D := (dC, dI)) (ci := 5) (v := .ref a4) (C := RX6) (T := TX6) (N := 12) hx hb hts inX6_ hown hK hP 0 rfl rfl 10 (by decide) (hts (.fieldLink RX6 50 "GateWheel" "spinning" "LGateWheel$Wheel;") (List.mem_of_getElem? (i := 3) rfl)) (fun _ h9 => h9) rfl dX6_wave_19 ?_
      refine lv_iload_n hx hb dX6_wave_22 rfl (lv_at hl 1 rfl) ?_
      refine lv_iload_n hx hb dX6_wave_23 rfl (lv_at hl 2 rfl) ?_
      obtain ⟨r7, hc8, h⟩ := zB_spec h
      have hPc := hP.sub (ws' := (cX4 a4 h4 y S4)) [17, 18, 19, 20, 21, 22] rfl
      have hDc := hD.sub (ws' := (cX4 a4 h4 y S4)) [17, 18, 19, 20, 21, 22] (by decide) rfl
      have hFc := va_free (wc := (cX4 a4 h4 y S4)) hD hS hA [17, 18, 19, 20, 21, 22] rfl
      refine va_calli (va_runV (As := [.int p1, .int p2]) (rest := []) ⟨hx, hb, hml, hown, hts⟩ (m_X4_changeOf l dC dI y a4 h4 S4 p1 p2 H4.size r7 hc8) (cwV 2 hts gX6_wave_X4_changeOf rfl rfl rfl (by decide +kernel) ⟨Nat.le_of_ble_eq_true rfl, Nat.le_of_ble_eq_true rfl⟩) ⟨fun a U g mk q => by obtain ⟨q0, q1, qP, qK, qD⟩ := q; exact ⟨q0, q1, qP, va_K.moved (u := U) (U := U.calling g mk a) (Vm.Alike.refl U.vm) qK, qD⟩, va_recv hK hPc (ci := 3) (q0 := 0) rfl rfl, fun U hU hW => ⟨rfl, by rw [hU], by rw [hU]; exact hPc, va_K.moved hW.alike hK, hDc.weaken (fun _ _ _ _ => trivial)⟩⟩ rfl rfl hl.1 rfl (lv_room (Nat.le_of_ble_eq_true rfl)) dX6_wave_24 ⟨Nat.le_of_ble_eq_true rfl, Nat.le_of_ble_eq_true rfl⟩) hS (fun q _ h => hFc q h) hFc (fun rr10 u t H9 locs ht hvm hw hB hz1 hk1 hS => ?_)
      obtain ⟨hP1, hK1, hD1⟩ := hB
      rw [ht] at hP1
      refine zTopi hw.symm ?_
      obtain ⟨hP, hD⟩ := va_join (wr := [(oX6 a6 h6 q3 a0 q8 q5 a4 S6), (h6 0, .inl (y 2, 2000, .inl (gA S6 0))), (h6 5, .inl (y 0, 60, .inl (gA S6 5))), (h6 6, .inl (y 0, 60, .inl (gA S6 6))), (h6 7, .inl (y 0, 60, .inl (gA S6 7))), (oX0 a0 h0 S0), (h0 2, .inl (y 1, 60, .inr (.inl (gB S0 2)))), (h0 3, .inl (y 0, 60, .inl (gA S0 3))), (h0 4, .inl (y 0, 60, .inl (gA S0 4))), (h0 5, .inl (y 0, 60, .inl (gA S0 5))), (h0 6, .inl (y 0, 60, .inl (gA S0 6))), (h0 7, .inl (y 0, 720, .inl (gA S0 7))), (h0 8, .inl (y 0, 60, .inl (gA S0 8))), (h0 9, .inl (y 0, 60, .inl (gA S0 9))), (h0 10, .inl (y 1, 60, .inr (.inl (gB S0 10)))), (h0 11, .inl (y 0, 60, .inl (gA S0 11))), (h0 12, .inl (y 0, 60, .inl (gA S0 12)))]) (w1 := (cX4 a4 h4 y S4)) hP hD [17, 18, 19, 20, 21, 22] [0, 1, 2, 3, 4, 5, 6, 7, 8, 9, 10, 11, 12, 13, 14, 15, 16] rfl rfl (by decide) (by decide) hk1 hFc hP1 hD1
      have hP : va_P (dC, dI) vwCl ((cX6 a6 h6 q3 a0 q8 q5 a4 y S6) ++ ((cX0 a0 h0 y S0) ++ (cX4 a4 h4 y S4))) H9 := hP.sub [0, 1, 2, 3, 4, 5, 6, 7, 8, 9, 10, 11, 12, 13, 14, 15, 16, 17, 18, 19, 20, 21, 22] rfl
      have hD : va_D A ((cX6 a6 h6 q3 a0 q8 q5 a4 y S6) ++ ((cX0 a0 h0 y S0) ++ (cX4 a4 h4 y S4))) := hD.sub [0, 1, 2, 3, 4, 5, 6, 7, 8, 9, 10, 11, 12, 13, 14, 15, 16, 17, 18, 19, 20, 21, 22] (by decide) rfl
      refine lv_goto (tgt := 31) hx hb dX6_wave_27 (by decide) ?_
      have ho0 : r7 = or_ := congrArg (fun z : Int32 => z) (Option.some.inj h)
      exact W.iret (v := r7) hx hb hr (fun t ht hW => ⟨⟨r7, (), rfl, ho0, by rw [ht]; exact hP, va_K.moved hW.alike hK, hD⟩, hS.F ht⟩) hS.2.2 dX6_wave_31

set_option maxHeartbeats 4000000 in
set_option maxRecDepth 100000 in
theorem m_X6_about (l : Launch) (dC : Nat → ClassId) (dI : Nat → Nat → Nat) (y : Nat → ClassId) (a6 : Nat) (h6 : Nat → Nat) (S6 : SS) (a0 : Nat) (h0 : Nat → Nat) (S0 : SS) (a4 : Nat) (h4 : Nat → Nat) (S4 : SS) (q3 : Nat) (q8 : Nat) (q5 : Nat) (p1 : Int32) (sz : Nat) (or_ : Int32) (h : f_X6_about S6 S0 S4 p1 = some or_) : Met l yX6_about wsX6_about ({ frames := 4, cells := 0, slots := 0, locals := 86 }) (va_Pc [.ref a6, .int p1] (fun U => U.heap.size = sz ∧ va_P (dC, dI) vwCl ((cX6 a6 h6 q3 a0 q8 q5 a4 y S6) ++ ((cX0 a0 h0 y S0) ++ (cX4 a4 h4 y S4))) U.heap ∧ va_K (dC, dI) vwCl [(y 0, .int), (y 1, .long), (y 2, .byte), (y 3, .boolean)] U ∧ va_D (fun _ => True) ((cX6 a6 h6 q3 a0 q8 q5 a4 y S6) ++ ((cX0 a0 h0 y S0) ++ (cX4 a4 h4 y S4))))) (va_Qi (fun (r : Int32) (_ : Unit) => r = or_) (fun (_ : Unit) (t : State) => va_P (dC, dI) vwCl ((cX6 a6 h6 q3 a0 q8 q5 a4 y S6) ++ ((cX0 a0 h0 y S0) ++ (cX4 a4 h4 y S4))) t.heap ∧ va_K (dC, dI) vwCl [(y 0, .int), (y 1, .long), (y 2, .byte), (y 3, .boolean)] t ∧ va_D (va_A ((cX6 a6 h6 q3 a0 q8 q5 a4 y S6) ++ ((cX0 a0 h0 y S0) ++ (cX4 a4 h4 y S4))) sz) ((cX6 a6 h6 q3 a0 q8 q5 a4 y S6) ++ ((cX0 a0 h0 y S0) ++ (cX4 a4 h4 y S4)))) (va_A ((cX6 a6 h6 q3 a0 q8 q5 a4 y S6) ++ ((cX0 a0 h0 y S0) ++ (cX4 a4 h4 y S4))) sz)) 0 0 (va_A ((cX6 a6 h6 q3 a0 q8 q5 a4 y S6) ++ ((cX0 a0 h0 y S0) ++ (cX4 a4 h4 y S4))) sz) := by
  refine Met.ofW (cc := cX6_about) (maxL := 2) (ret := (some .int)) (by decide +kernel) rfl ?_
  intro p e s m args below meth c s₁ B hml hv
  obtain ⟨rfl, hsz, hP, hK, hD0⟩ := hv
  have hx := B.exec
  have hb := B.bytes
  have hr := B.returns
  have hts := atoms_spec (ws := wsX6_about) B.pre
  have hown : s.vm.findClass RX6 = some m.cls := findClass_of_methodNamed B.named
  have hlocks := B.notSynchronized
  have inX0_ : ∀ w ∈ wsX00, w ∈ wsX6_about := fun _ h => List.mem_cons_of_mem _ (List.mem_append_left _ (List.mem_append_right _ h))
  have inX4_ : ∀ w ∈ wsX40, w ∈ wsX6_about := fun _ h => List.mem_cons_of_mem _ (List.mem_append_right _ h)
  have inX6_ : ∀ w ∈ wsX60, w ∈ wsX6_about := fun _ h => List.mem_cons_of_mem _ (List.mem_append_left _ (List.mem_append_left _ (List.mem_append_right _ h)))
  subst hsz
  have hD := hD0.self (sz := s.heap.size)
  generalize hAe : va_A ((cX6 a6 h6 q3 a0 q8 q5 a4 y S6) ++ ((cX0 a0 h0 y S0) ++ (cX4 a4 h4 y S4))) s.heap.size = A at hD ⊢
  have hA : ∀ q : Nat, s.heap.size ≤ q → A q := fun q h => by rw [← hAe]; exact Or.inr h
  have hS : va_S A s.heap s.heap [] := va_S.rf
  have hP : va_P (dC, dI) vwCl ((cX6 a6 h6 q3 a0 q8 q5 a4 y S6) ++ ((cX0 a0 h0 y S0) ++ (cX4 a4 h4 y S4))) s.heap := hP
  have hl := lv_entry ([.ref a6, .int p1]) (n := 2) (Nat.le_of_ble_eq_true rfl)
  rw [lg_entry_eq]
  generalize (lg_sl ([.ref a6, .int p1]) ++ List.replicate (2 - (lg_sl ([.ref a6, .int p1])).length) Slot.unset).toArray = ls at hl ⊢
  have hl : lv_has ls 2 [(0, .ref a6), (1, .int p1)] := hl
  refine lv_iload_n hx hb dX6_about_0 rfl (lv_at hl 1 rfl) ?_
  by_cases k1 : p1 = 0
  · have h := zY k1 h
    refine lv_tableIn (off := 39) (tgt := 40) hx hb dX6_about_1 (by rw [k1]; decide) (by rw [k1]; decide) (by rw [k1]; rfl) (by decide) ?_
    refine lv_aload_n hx hb dX6_about_40 rfl (lv_at hl 0 rfl) ?_
    refine va_get (D := (dC, dI)) (ci := 5) (v := .ref a0) (C := RX6) (T := TX6) (N := 12) hx hb hts inX6_ hown hK hP 0 rfl rfl 3 (by decide) (hts (.fieldLink RX6 23 "GateWheel" "circuit" "LGateWheel$Circuit;") (List.mem_of_getElem? (i := 1) rfl)) (fun _ h9 => h9) rfl dX6_about_41 ?_
    refine va_get (D := (dC, dI)) (ci := 0) (v := .int (gI S0 0)) (C := RX0) (T := TX0) (N := 13) hx hb hts inX0_ hown hK hP 5 rfl rfl 0 (by decide) (hts (.fieldLink RX6 66 "GateWheel$Circuit" "count" "I") (List.mem_of_getElem? (i := 2) rfl)) (fun _ h9 => h9) rfl dX6_about_44 ?_
    have ho0 : (gI S0 0) = or_ := congrArg (fun z : Int32 => z) (Option.some.inj h)
    exact W.iret (v := (gI S0 0)) hx hb hr (fun t ht hW => ⟨⟨(gI S0 0), (), rfl, ho0, by rw [ht]; exact hP, va_K.moved hW.alike hK, hD⟩, hS.F ht⟩) hS.2.2 dX6_about_47
  replace h := zN k1 h
  by_cases k2 : p1 = 1
  · have h := zY k2 h
    refine lv_tableIn (off := 47) (tgt := 48) hx hb dX6_about_1 (by rw [k2]; decide) (by rw [k2]; decide) (by rw [k2]; rfl) (by decide) ?_
    refine lv_aload_n hx hb dX6_about_48 rfl (lv_at hl 0 rfl) ?_
    refine va_get (D := (dC, dI)) (ci := 5) (v := .ref a0) (C := RX6) (T := TX6) (N := 12) hx hb hts inX6_ hown hK hP 0 rfl rfl 3 (by decide) (hts (.fieldLink RX6 23 "GateWheel" "circuit" "LGateWheel$Circuit;") (List.mem_of_getElem? (i := 1) rfl)) (fun _ h9 => h9) rfl dX6_about_49 ?_
    refine va_get (D := (dC, dI)) (ci := 0) (v := .int (gI S0 1)) (C := RX0) (T := TX0) (N := 13) hx hb hts inX0_ hown hK hP 5 rfl rfl 1 (by decide) (hts (.fieldLink RX6 152 "GateWheel$Circuit" "registers" "I") (List.mem_of_getElem? (i := 3) rfl)) (fun _ h9 => h9) rfl dX6_about_52 ?_
    have ho0 : (gI S0 1) = or_ := congrArg (fun z : Int32 => z) (Option.some.inj h)
    exact W.iret (v := (gI S0 1)) hx hb hr (fun t ht hW => ⟨⟨(gI S0 1), (), rfl, ho0, by rw [ht]; exact hP, va_K.moved hW.alike hK, hD⟩, hS.F ht⟩) hS.2.2 dX6_about_55
  replace h := zN k2 h
  by_cases k3 : p1 = 2
  · have h := zY k3 h
    refine lv_tableIn (off := 55) (tgt := 56) hx hb dX6_about_1 (by rw [k3]; decide) (by rw [k3]; decide) (by rw [k3]; rfl) (by decide) ?_
    refine lv_aload_n hx hb dX6_about_56 rfl (lv_at hl 0 rfl) ?_
    refine va_get (D := (dC, dI)) (ci := 5) (v := .int (gI S6 11)) (C := RX6) (T := TX6) (N := 12) hx hb hts inX6_ hown hK hP 0 rfl rfl 11 (by decide) (hts (.fieldLink RX6 69 "GateWheel" "hasWheel" "Z") (List.mem_of_getElem? (i := 4) rfl)) (fun _ h9 => h9) rfl dX6_about_57 ?_
    refine lv_if_eq (tgt := 73) hx hb dX6_about_60 (by decide) (fun c4 => ?_) (fun c4 => ?_)
    · have h := zY c4 h
      refine lv_iconst (v := (-1)) hx hb dX6_about_73 (by decide) ?_
      have ho0 : (-1 : Int32) = or_ := congrArg (fun z : Int32 => z) (Option.some.inj h)
      exact W.iret (v := (-1)) hx hb hr (fun t ht hW => ⟨⟨(-1), (), rfl, ho0, by rw [ht]; exact hP, va_K.moved hW.alike hK, hD⟩, hS.F ht⟩) hS.2.2 dX6_about_74
    · have h := zN c4 h
      refine lv_aload_n hx hb dX6_about_63 rfl (lv_at hl 0 rfl) ?_
      refine va_get (D := (dC, dI)) (ci := 5) (v := .ref a4) (C := RX6) (T := TX6) (N := 12) hx hb hts inX6_ hown hK hP 0 rfl rfl 10 (by decide) (hts (.fieldLink RX6 50 "GateWheel" "spinning" "LGateWheel$Wheel;") (List.mem_of_getElem? (i := 5) rfl)) (fun _ h9 => h9) rfl dX6_about_64 ?_
      refine va_get (D := (dC, dI)) (ci := 3) (v := .int (gI S4 0)) (C := RX4) (T := TX4) (N := 8) hx hb hts inX4_ hown hK hP 17 rfl rfl 0 (by decide) (hts (.fieldLink RX6 155 "GateWheel$Wheel" "time" "I") (List.mem_of_getElem? (i := 6) rfl)) (fun _ h9 => h9) rfl dX6_about_67 ?_
      refine lv_goto (tgt := 74) hx hb dX6_about_70 (by decide) ?_
      have ho0 : (gI S4 0) = or_ := congrArg (fun z : Int32 => z) (Option.some.inj h)
      exact W.iret (v := (gI S4 0)) hx hb hr (fun t ht hW => ⟨⟨(gI S4 0), (), rfl, ho0, by rw [ht]; exact hP, va_K.moved hW.alike hK, hD⟩, hS.F ht⟩) hS.2.2 dX6_about_74
  replace h := zN k3 h
  by_cases k5 : p1 = 3
  · have h := zY k5 h
    refine lv_tableIn (off := 74) (tgt := 75) hx hb dX6_about_1 (by rw [k5]; decide) (by rw [k5]; decide) (by rw [k5]; rfl) (by decide) ?_
    refine lv_aload_n hx hb dX6_about_75 rfl (lv_at hl 0 rfl) ?_
    refine va_get (D := (dC, dI)) (ci := 5) (v := .int (gI S6 11)) (C := RX6) (T := TX6) (N := 12) hx hb hts inX6_ hown hK hP 0 rfl rfl 11 (by decide) (hts (.fieldLink RX6 69 "GateWheel" "hasWheel" "Z") (List.mem_of_getElem? (i := 4) rfl)) (fun _ h9 => h9) rfl dX6_about_76 ?_
    refine lv_if_eq (tgt := 92) hx hb dX6_about_79 (by decide) (fun c6 => ?_) (fun c6 => ?_)
    · have h := zY c6 h
      refine lv_iconst (v := (-1)) hx hb dX6_about_92 (by decide) ?_
      have ho0 : (-1 : Int32) = or_ := congrArg (fun z : Int32 => z) (Option.some.inj h)
      exact W.iret (v := (-1)) hx hb hr (fun t ht hW => ⟨⟨(-1), (), rfl, ho0, by rw [ht]; exact hP, va_K.moved hW.alike hK, hD⟩, hS.F ht⟩) hS.2.2 dX6_about_93
    · have h := zN c6 h
      refine lv_aload_n hx hb dX6_about_82 rfl (lv_at hl 0 rfl) ?_
      refine va_get (D := (dC, dI)) (ci := 5) (v := .ref a4) (C := RX6) (T := TX6) (N := 12) hx hb hts inX6_ hown hK hP 0 rfl rfl 10 (by decide) (hts (.fieldLink RX6 50 "GateWheel" "spinning" "LGateWheel$Wheel;") (List.mem_of_getElem? (i := 5) rfl)) (fun _ h9 => h9) rfl dX6_about_83 ?_
      obtain ⟨r7, hc8, h⟩ := zB_spec h
      have hPc := hP.sub (ws' := (cX4 a4 h4 y S4)) [17, 18, 19, 20, 21, 22] rfl
      have hDc := hD.sub (ws' := (cX4 a4 h4 y S4)) [17, 18, 19, 20, 21, 22] (by decide) rfl
      have hFc := va_free (wc := (cX4 a4 h4 y S4)) hD hS hA [17, 18, 19, 20, 21, 22] rfl
      refine va_calli (va_runV (As := []) (rest := []) ⟨hx, hb, hml, hown, hts⟩ (m_X4_quiet l dC dI y a4 h4 S4 s.heap.size r7 hc8) (cwV 0 hts gX6_about_X4_quiet rfl rfl rfl (by decide +kernel) ⟨Nat.le_of_ble_eq_true rfl, Nat.le_of_ble_eq_true rfl⟩) ⟨fun a U g mk q => by obtain ⟨q0, q1, qP, qK, qD⟩ := q; exact ⟨q0, q1, qP, va_K.moved (u := U) (U := U.calling g mk a) (Vm.Alike.refl U.vm) qK, qD⟩, va_recv hK hPc (ci := 3) (q0 := 0) rfl rfl, fun U hU hW => ⟨rfl, by rw [hU], by rw [hU]; exact hPc, va_K.moved hW.alike hK, hDc.weaken (fun _ _ _ _ => trivial)⟩⟩ rfl rfl hl.1 rfl (lv_room (Nat.le_of_ble_eq_true rfl)) dX6_about_86 ⟨Nat.le_of_ble_eq_true rfl, Nat.le_of_ble_eq_true rfl⟩) hS (fun q _ h => hFc q h) hFc (fun rr10 u t H9 locs ht hvm hw hB hz1 hk1 hS => ?_)
      obtain ⟨hP1, hK1, hD1⟩ := hB
      rw [ht] at hP1
      refine zTopi hw.symm ?_
      obtain ⟨hP, hD⟩ := va_join (wr := [(oX6 a6 h6 q3 a0 q8 q5 a4 S6), (h6 0, .inl (y 2, 2000, .inl (gA S6 0))), (h6 5, .inl (y 0, 60, .inl (gA S6 5))), (h6 6, .inl (y 0, 60, .inl (gA S6 6))), (h6 7, .inl (y 0, 60, .inl (gA S6 7))), (oX0 a0 h0 S0), (h0 2, .inl (y 1, 60, .inr (.inl (gB S0 2)))), (h0 3, .inl (y 0, 60, .inl (gA S0 3))), (h0 4, .inl (y 0, 60, .inl (gA S0 4))), (h0 5, .inl (y 0, 60, .inl (gA S0 5))), (h0 6, .inl (y 0, 60, .inl (gA S0 6))), (h0 7, .inl (y 0, 720, .inl (gA S0 7))), (h0 8, .inl (y 0, 60, .inl (gA S0 8))), (h0 9, .inl (y 0, 60, .inl (gA S0 9))), (h0 10, .inl (y 1, 60, .inr (.inl (gB S0 10)))), (h0 11, .inl (y 0, 60, .inl (gA S0 11))), (h0 12, .inl (y 0, 60, .inl (gA S0 12)))]) (w1 := (cX4 a4 h4 y S4)) hP hD [17, 18, 19, 20, 21, 22] [0, 1, 2, 3, 4, 5, 6, 7, 8, 9, 10, 11, 12, 13, 14, 15, 16] rfl rfl (by decide) (by decide) hk1 hFc hP1 hD1
      have hP : va_P (dC, dI) vwCl ((cX6 a6 h6 q3 a0 q8 q5 a4 y S6) ++ ((cX0 a0 h0 y S0) ++ (cX4 a4 h4 y S4))) H9 := hP.sub [0, 1, 2, 3, 4, 5, 6, 7, 8, 9, 10, 11, 12, 13, 14, 15, 16, 17, 18, 19, 20, 21, 22] rfl
      have hD : va_D A ((cX6 a6 h6 q3 a0 q8 q5 a4 y S6) ++ ((cX0 a0 h0 y S0) ++ (cX4 a4 h4 y S4))) := hD.sub [0, 1, 2, 3, 4, 5, 6, 7, 8, 9, 10, 11, 12, 13, 14, 15, 16, 17, 18, 19, 20, 21, 22] (by decide) rfl
      refine lv_goto (tgt := 93) hx hb dX6_about_89 (by decide) ?_
      have ho0 : r7 = or_ := congrArg (fun z : Int32 => z) (Option.some.inj h)
      exact W.iret (v := r7) hx hb hr (fun t ht hW => ⟨⟨r7, (), rfl, ho0, by rw [ht]; exact hP, va_K.moved hW.alike hK, hD⟩, hS.F ht⟩) hS.2.2 dX6_about_93
  replace h := zN k5 h
  by_cases k11 : p1 = 4
  · have h := zY k11 h
    refine lv_tableIn (off := 93) (tgt := 94) hx hb dX6_about_1 (by rw [k11]; decide) (by rw [k11]; decide) (by rw [k11]; rfl) (by decide) ?_
    refine lv_aload_n hx hb dX6_about_94 rfl (lv_at hl 0 rfl) ?_
    refine va_get (D := (dC, dI)) (ci := 5) (v := .int (gI S6 11)) (C := RX6) (T := TX6) (N := 12) hx hb hts inX6_ hown hK hP 0 rfl rfl 11 (by decide) (hts (.fieldLink RX6 69 "GateWheel" "hasWheel" "Z") (List.mem_of_getElem? (i := 4) rfl)) (fun _ h9 => h9) rfl dX6_about_95 ?_
    refine lv_if_eq (tgt := 111) hx hb dX6_about_98 (by decide) (fun c12 => ?_) (fun c12 => ?_)
    · have h := zY c12 h
      refine lv_iconst (v := (-1)) hx hb dX6_about_111 (by decide) ?_
      have ho0 : (-1 : Int32) = or_ := congrArg (fun z : Int32 => z) (Option.some.inj h)
      exact W.iret (v := (-1)) hx hb hr (fun t ht hW => ⟨⟨(-1), (), rfl, ho0, by rw [ht]; exact hP, va_K.moved hW.alike hK, hD⟩, hS.F ht⟩) hS.2.2 dX6_about_112
    · have h := zN c12 h
      refine lv_aload_n hx hb dX6_about_101 rfl (lv_at hl 0 rfl) ?_
      refine va_get (D := (dC, dI)) (ci := 5) (v := .ref a4) (C := RX6) (T := TX6) (N := 12) hx hb hts inX6_ hown hK hP 0 rfl rfl 10 (by decide) (hts (.fieldLink RX6 50 "GateWheel" "spinning" "LGateWheel$Wheel;") (List.mem_of_getElem? (i := 5) rfl)) (fun _ h9 => h9) rfl dX6_about_102 ?_
      refine va_get (D := (dC, dI)) (ci := 3) (v := .int (gI S4 1)) (C := RX4) (T := TX4) (N := 8) hx hb hts inX4_ hown hK hP 17 rfl rfl 1 (by decide) (hts (.fieldLink RX6 161 "GateWheel$Wheel" "toCome" "I") (List.mem_of_getElem? (i := 7) rfl)) (fun _ h9 => h9) rfl dX6_about_105 ?_
      refine lv_goto (tgt := 112) hx hb dX6_about_108 (by decide) ?_
      have ho0 : (gI S4 1) = or_ := congrArg (fun z : Int32 => z) (Option.some.inj h)
      exact W.iret (v := (gI S4 1)) hx hb hr (fun t ht hW => ⟨⟨(gI S4 1), (), rfl, ho0, by rw [ht]; exact hP, va_K.moved hW.alike hK, hD⟩, hS.F ht⟩) hS.2.2 dX6_about_112
  replace h := zN k11 h
  by_cases k13 : p1 = 5
  · have h := zY k13 h
    refine lv_tableIn (off := 112) (tgt := 113) hx hb dX6_about_1 (by rw [k13]; decide) (by rw [k13]; decide) (by rw [k13]; rfl) (by decide) ?_
    refine lv_aload_n hx hb dX6_about_113 rfl (lv_at hl 0 rfl) ?_
    obtain ⟨r14, hc15, h⟩ := zB_spec h
    have hPc := hP.sub (ws' := ((cX6 a6 h6 q3 a0 q8 q5 a4 y S6) ++ (cX0 a0 h0 y S0))) [0, 1, 2, 3, 4, 5, 6, 7, 8, 9, 10, 11, 12, 13, 14, 15, 16] rfl
    have hDc := hD.sub (ws' := ((cX6 a6 h6 q3 a0 q8 q5 a4 y S6) ++ (cX0 a0 h0 y S0))) [0, 1, 2, 3, 4, 5, 6, 7, 8, 9, 10, 11, 12, 13, 14, 15, 16] (by decide) rfl
    have hFc := va_free (wc := ((cX6 a6 h6 q3 a0 q8 q5 a4 y S6) ++ (cX0 a0 h0 y S0))) hD hS hA [0, 1, 2, 3, 4, 5, 6, 7, 8, 9, 10, 11, 12, 13, 14, 15, 16] rfl
    refine va_calli (va_runV (As := []) (rest := []) ⟨hx, hb, hml, hown, hts⟩ (m_X6_countFree l dC dI y a6 h6 S6 a0 h0 S0 q3 q8 q5 a4 s.heap.size r14 hc15) (cwV 0 hts gX6_about_X6_countFree rfl rfl rfl (by decide +kernel) ⟨Nat.le_of_ble_eq_true rfl, Nat.le_of_ble_eq_true rfl⟩) ⟨fun a U g mk q => by obtain ⟨q0, q1, qP, qK, qD⟩ := q; exact ⟨q0, q1, qP, va_K.moved (u := U) (U := U.calling g mk a) (Vm.Alike.refl U.vm) qK, qD⟩, va_recv hK hPc (ci := 5) (q0 := 0) rfl rfl, fun U hU hW => ⟨rfl, by rw [hU], by rw [hU]; exact hPc, va_K.moved hW.alike hK, hDc.weaken (fun _ _ _ _ => trivial)⟩⟩ rfl rfl hl.1 rfl (lv_room (Nat.le_of_ble_eq_true rfl)) dX6_about_114 ⟨Nat.le_of_ble_eq_true rfl, Nat.le_of_ble_eq_true rfl⟩) hS (fun q _ h => hFc q h) hFc (fun rr17 u t H16 locs ht hvm hw hB hz1 hk1 hS => ?_)
    obtain ⟨hP1, hK1, hD1⟩ := hB
    rw [ht] at hP1
    refine zTopi hw.symm ?_
    obtain ⟨hP, hD⟩ := va_join (wr := [(oX4 a4 h4 S4), (h4 2, .inl (y 0, 60, .inl (gA S4 2))), (h4 3, .inl (y 0, 60, .inl (gA S4 3))), (h4 4, .inl (y 0, 600, .inl (gA S4 4))), (h4 5, .inl (y 0, 1200, .inl (gA S4 5))), (h4 6, .inl (y 0, 60, .inl (gA S4 6)))]) (w1 := ((cX6 a6 h6 q3 a0 q8 q5 a4 y S6) ++ (cX0 a0 h0 y S0))) hP hD [0, 1, 2, 3, 4, 5, 6, 7, 8, 9, 10, 11, 12, 13, 14, 15, 16] [17, 18, 19, 20, 21, 22] rfl rfl (by decide) (by decide) hk1 hFc hP1 hD1
    have hP : va_P (dC, dI) vwCl ((cX6 a6 h6 q3 a0 q8 q5 a4 y S6) ++ ((cX0 a0 h0 y S0) ++ (cX4 a4 h4 y S4))) H16 := hP.sub [6, 7, 8, 9, 10, 11, 12, 13, 14, 15, 16, 17, 18, 19, 20, 21, 22, 0, 1, 2, 3, 4, 5] rfl
    have hD : va_D A ((cX6 a6 h6 q3 a0 q8 q5 a4 y S6) ++ ((cX0 a0 h0 y S0) ++ (cX4 a4 h4 y S4))) := hD.sub [6, 7, 8, 9, 10, 11, 12, 13, 14, 15, 16, 17, 18, 19, 20, 21, 22, 0, 1, 2, 3, 4, 5] (by decide) rfl
    have ho0 : r14 = or_ := congrArg (fun z : Int32 => z) (Option.some.inj h)
    exact W.iret (v := r14) hx hb hr (fun t ht hW => ⟨⟨r14, (), rfl, ho0, by rw [ht]; exact hP, va_K.moved hW.alike hK, hD⟩, hS.F ht⟩) hS.2.2 dX6_about_117
  replace h := zN k13 h
  have kd : p1.toInt < 0 ∨ 5 < p1.toInt := by
    have nk1 : ¬ p1.toInt = 0 := lv_neT k1 (by decide)
    have nk2 : ¬ p1.toInt = 1 := lv_neT k2 (by decide)
    have nk3 : ¬ p1.toInt = 2 := lv_neT k3 (by decide)
    have nk5 : ¬ p1.toInt = 3 := lv_neT k5 (by decide)
    have nk11 : ¬ p1.toInt = 4 := lv_neT k11 (by decide)
    have nk13 : ¬ p1.toInt = 5 := lv_neT k13 (by decide)
    omega
  refine lv_tableOut (tgt := 118) hx hb dX6_about_1 kd (by decide) ?_
  refine lv_iconst (v := (-1)) hx hb dX6_about_118 (by decide) ?_
  have ho0 : (-1 : Int32) = or_ := congrArg (fun z : Int32 => z) (Option.some.inj h)
  exact W.iret (v := (-1)) hx hb hr (fun t ht hW => ⟨⟨(-1), (), rfl, ho0, by rw [ht]; exact hP, va_K.moved hW.alike hK, hD⟩, hS.F ht⟩) hS.2.2 dX6_about_119

set_option maxHeartbeats 4000000 in
set_option maxRecDepth 100000 in
theorem m_X6_read (l : Launch) (dC : Nat → ClassId) (dI : Nat → Nat → Nat) (y : Nat → ClassId) (a6 : Nat) (h6 : Nat → Nat) (S6 : SS) (a3 : Nat) (h3 : Nat → Nat) (S3 : SS) (a1 : Nat) (h1 : Nat → Nat) (S1 : SS) (a0 : Nat) (h0 : Nat → Nat) (S0 : SS) (a8 : Nat) (h8 : Nat → Nat) (S8 : SS) (q5 : Nat) (q4 : Nat) (cv : Value) (tv : Value) (tg : Nat × Nat × Nat × Nat) (sz : Nat) (or_ : Int32) (osw : Bool) (o_6 : SS) (o_3 : SS) (o_1 : SS) (o_8 : SS) (h : f_X6_read S6 S3 S1 S0 S8 = some (or_, osw, o_6, o_3, o_1, o_8)) : Met l yX6_read wsX6_read ({ frames := 6, cells := 0, slots := 0, locals := 132 }) (va_Pc [.ref a6] (fun U => U.heap.size = sz ∧ va_P (dC, dI) vwCl ((cX6 a6 h6 a3 a0 a8 q5 q4 y S6) ++ ((cX3 a3 h3 a1 cv y S3) ++ ((cX1 a1 h1 tv y S1) ++ ((cX0 a0 h0 y S0) ++ (cX0 a8 h8 y S8))))) U.heap ∧ va_K (dC, dI) vwCl [(y 0, .int), (y 1, .long), (y 2, .byte), (y 3, .boolean)] U ∧ va_D (fun _ => True) ((cX6 a6 h6 a3 a0 a8 q5 q4 y S6) ++ ((cX3 a3 h3 a1 cv y S3) ++ ((cX1 a1 h1 tv y S1) ++ ((cX0 a0 h0 y S0) ++ (cX0 a8 h8 y S8))))) ∧ STG tg (va_A ((cX6 a6 h6 a3 a0 a8 q5 q4 y S6) ++ ((cX3 a3 h3 a1 cv y S3) ++ ((cX1 a1 h1 tv y S1) ++ ((cX0 a0 h0 y S0) ++ (cX0 a8 h8 y S8))))) sz) U U.heap)) (va_Qi (fun (r : Int32) (_ : Unit) => r = or_) (fun (_ : Unit) (t : State) => va_P (dC, dI) vwCl ((cX6 a6 h6 a3 (zsw osw a0 a8) (zsw osw a8 a0) q5 q4 y o_6) ++ ((cX3 a3 h3 a1 (.ref a8) y o_3) ++ ((cX1 a1 h1 (.ref (h6 0)) y o_1) ++ ((cX0 a0 h0 y S0) ++ (cX0 a8 h8 y o_8))))) t.heap ∧ va_K (dC, dI) vwCl [(y 0, .int), (y 1, .long), (y 2, .byte), (y 3, .boolean)] t ∧ va_D (va_A ((cX6 a6 h6 a3 a0 a8 q5 q4 y S6) ++ ((cX3 a3 h3 a1 cv y S3) ++ ((cX1 a1 h1 tv y S1) ++ ((cX0 a0 h0 y S0) ++ (cX0 a8 h8 y S8))))) sz) ((cX6 a6 h6 a3 (zsw osw a0 a8) (zsw osw a8 a0) q5 q4 y o_6) ++ ((cX3 a3 h3 a1 (.ref a8) y o_3) ++ ((cX1 a1 h1 (.ref (h6 0)) y o_1) ++ ((cX0 a0 h0 y S0) ++ (cX0 a8 h8 y o_8)))))) (va_A ((cX6 a6 h6 a3 a0 a8 q5 q4 y S6) ++ ((cX3 a3 h3 a1 cv y S3) ++ ((cX1 a1 h1 tv y S1) ++ ((cX0 a0 h0 y S0) ++ (cX0 a8 h8 y S8))))) sz)) 0 0 (va_A ((cX6 a6 h6 a3 a0 a8 q5 q4 y S6) ++ ((cX3 a3 h3 a1 cv y S3) ++ ((cX1 a1 h1 tv y S1) ++ ((cX0 a0 h0 y S0) ++ (cX0 a8 h8 y S8))))) sz) := by
  refine Met.ofW (cc := cX6_read) (maxL := 4) (ret := (some .int)) (by decide +kernel) rfl ?_
  intro p e s m args below meth c s₁ B hml hv
  obtain ⟨rfl, hsz, hP, hK, hD0, hST⟩ := hv
  have hx := B.exec
  have hb := B.bytes
  have hr := B.returns
  have hts := atoms_spec (ws := wsX6_read) B.pre
  have hown : s.vm.findClass RX6 = some m.cls := findClass_of_methodNamed B.named
  have hlocks := B.notSynchronized
  have inX0_ : ∀ w ∈ wsX00, w ∈ wsX6_read := fun _ h => List.mem_cons_of_mem _ (List.mem_append_left _ (List.mem_append_left _ (List.mem_append_right _ h)))
  have inX6_ : ∀ w ∈ wsX60, w ∈ wsX6_read := fun _ h => List.mem_cons_of_mem _ (List.mem_append_left _ (List.mem_append_left _ (List.mem_append_left _ (List.mem_append_right _ h))))
  subst hsz
  have hD := hD0.self (sz := s.heap.size)
  generalize hAe : va_A ((cX6 a6 h6 a3 a0 a8 q5 q4 y S6) ++ ((cX3 a3 h3 a1 cv y S3) ++ ((cX1 a1 h1 tv y S1) ++ ((cX0 a0 h0 y S0) ++ (cX0 a8 h8 y S8))))) s.heap.size = A at hD hST ⊢
  have hA : ∀ q : Nat, s.heap.size ≤ q → A q := fun q h => by rw [← hAe]; exact Or.inr h
  have hS : va_S A s.heap s.heap [] := va_S.rf
  have hP : va_P (dC, dI) vwCl ((cX6 a6 h6 a3 a0 a8 q5 q4 y S6) ++ ((cX3 a3 h3 a1 cv y S3) ++ ((cX1 a1 h1 tv y S1) ++ ((cX0 a0 h0 y S0) ++ (cX0 a8 h8 y S8))))) s.heap := hP
  have hl := lv_entry ([.ref a6]) (n := 4) (Nat.le_of_ble_eq_true rfl)
  rw [lg_entry_eq]
  generalize (lg_sl ([.ref a6]) ++ List.replicate (4 - (lg_sl ([.ref a6])).length) Slot.unset).toArray = ls at hl ⊢
  have hl : lv_has ls 4 [(0, .ref a6)] := hl
  refine lv_aload_n hx hb dX6_read_0 rfl (lv_at hl 0 rfl) ?_
  refine va_get (D := (dC, dI)) (ci := 5) (v := .int (gI S6 1)) (C := RX6) (T := TX6) (N := 12) hx hb hts inX6_ hown hK hP 0 rfl rfl 1 (by decide) (hts (.fieldLink RX6 54 "GateWheel" "tapeLength" "I") (List.mem_of_getElem? (i := 1) rfl)) (fun _ h9 => h9) rfl dX6_read_1 ?_
  obtain ⟨v1, ev1, h⟩ := zL_spec h
  refine zTopi ev1 ?_
  refine lv_istore_n (lv' := [(1, .int v1), (0, .ref a6)]) hx hb dX6_read_4 rfl hl (by decide) rfl (fun ls hl => ?_)
  refine lv_aload_n hx hb dX6_read_5 rfl (lv_at hl 1 rfl) ?_
  refine lv_iconst (v := 0) hx hb dX6_read_6 (by decide) ?_
  refine va_put (D := (dC, dI)) (ci := 5) (v := .int 0) (ty := .int) (C := RX6) (T := TX6) (N := 12) hx hb hts inX6_ tyX6 tyX6_ok nmX6 hown hK hP hD hS 0 rfl rfl 1 (by decide) (hts (.fieldLink RX6 54 "GateWheel" "tapeLength" "I") (List.mem_of_getElem? (i := 1) rfl)) (fun _ h9 => h9) rfl (by decide +kernel) rfl rfl (Nat.le_of_ble_eq_true rfl) dX6_read_7 (fun H2 locs hP hD hS => ?_)
  obtain ⟨s6_3, es6_3, h⟩ := zL_spec h
  have hP : va_P (dC, dI) vwCl ((cX6 a6 h6 a3 a0 a8 q5 q4 y s6_3) ++ ((cX3 a3 h3 a1 cv y S3) ++ ((cX1 a1 h1 tv y S1) ++ ((cX0 a0 h0 y S0) ++ (cX0 a8 h8 y S8))))) H2 := by rw [es6_3]; exact hP
  have hD : va_D A ((cX6 a6 h6 a3 a0 a8 q5 q4 y s6_3) ++ ((cX3 a3 h3 a1 cv y S3) ++ ((cX1 a1 h1 tv y S1) ++ ((cX0 a0 h0 y S0) ++ (cX0 a8 h8 y S8))))) := by rw [es6_3]; exact hD
  refine lv_aload_n hx hb dX6_read_10 rfl (lv_at hl 1 rfl) ?_
  refine va_get (D := (dC, dI)) (ci := 5) (v := .ref a3) (C := RX6) (T := TX6) (N := 12) hx hb hts inX6_ hown hK hP 0 rfl rfl 2 (by decide) (hts (.fieldLink RX6 16 "GateWheel" "reader" "LGateWheel$Reader;") (List.mem_of_getElem? (i := 2) rfl)) (fun _ h9 => h9) rfl dX6_read_11 ?_
  refine lv_aload_n hx hb dX6_read_14 rfl (lv_at hl 1 rfl) ?_
  refine va_get (D := (dC, dI)) (ci := 5) (v := .ref a8) (C := RX6) (T := TX6) (N := 12) hx hb hts inX6_ hown hK hP 0 rfl rfl 4 (by decide) (hts (.fieldLink RX6 27 "GateWheel" "spare" "LGateWheel$Circuit;") (List.mem_of_getElem? (i := 3) rfl)) (fun _ h9 => h9) rfl dX6_read_15 ?_
  refine lv_aload_n hx hb dX6_read_18 rfl (lv_at hl 1 rfl) ?_
  refine va_get (D := (dC, dI)) (ci := 5) (v := .ref (h6 0)) (C := RX6) (T := TX6) (N := 12) hx hb hts inX6_ hown hK hP 0 rfl rfl 0 (by decide) (hts (.fieldLink RX6 9 "GateWheel" "tape" "[B") (List.mem_of_getElem? (i := 4) rfl)) (fun _ h9 => h9) rfl dX6_read_19 ?_
  refine lv_iload_n hx hb dX6_read_22 rfl (lv_at hl 0 rfl) ?_
  obtain ⟨⟨r4, s3_5, s1_6, s8_7⟩, hc8, h⟩ := zB_spec h
  have hPc := hP.sub (ws' := ((cX3 a3 h3 a1 cv y S3) ++ ((cX1 a1 h1 tv y S1) ++ (([((h6 0), .inl (y 2, 2000, .inl (gA s6_3 0)))]) ++ (cX0 a8 h8 y S8))))) [5, 6, 7, 8, 9, 10, 1, 23, 24, 25, 26, 27, 28, 29, 30, 31, 32, 33, 34] rfl
  have hDc := hD.sub (ws' := ((cX3 a3 h3 a1 cv y S3) ++ ((cX1 a1 h1 tv y S1) ++ (([((h6 0), .inl (y 2, 2000, .inl (gA s6_3 0)))]) ++ (cX0 a8 h8 y S8))))) [5, 6, 7, 8, 9, 10, 1, 23, 24, 25, 26, 27, 28, 29, 30, 31, 32, 33, 34] (by decide) rfl
  have hFc := va_free (wc := ((cX3 a3 h3 a1 cv y S3) ++ ((cX1 a1 h1 tv y S1) ++ (([((h6 0), .inl (y 2, 2000, .inl (gA s6_3 0)))]) ++ (cX0 a8 h8 y S8))))) hD hS hA [5, 6, 7, 8, 9, 10, 1, 23, 24, 25, 26, 27, 28, 29, 30, 31, 32, 33, 34] rfl
  refine va_calli (va_runV (As := [.ref a8, .ref (h6 0), .int v1]) (rest := []) ⟨hx, hb, hml, hown, hts⟩ (m_X3_readInto l dC dI y a3 h3 S3 a1 h1 S1 (h6 0) (gA s6_3 0) a8 h8 S8 cv tv v1 tg H2.size r4 s3_5 s1_6 s8_7 hc8) (cwV 3 hts gX6_read_X3_readInto rfl rfl rfl (by decide +kernel) ⟨Nat.le_of_ble_eq_true rfl, Nat.le_of_ble_eq_true rfl⟩) ⟨fun a U g mk q => by obtain ⟨q0, q1, qP, qK, qD, qT⟩ := q; exact ⟨q0, q1, qP, va_K.moved (u := U) (U := U.calling g mk a) (Vm.Alike.refl U.vm) qK, qD, STG_moved (u := U) (U := U.calling g mk a) (Vm.Alike.refl U.vm) qT⟩, va_recv hK hPc (ci := 2) (q0 := 0) rfl rfl, fun U hU hW => ⟨rfl, by rw [hU], by rw [hU]; exact hPc, va_K.moved hW.alike hK, hDc.weaken (fun _ _ _ _ => trivial), by rw [hU]; exact STG_moved hW.alike (STG_narrow (STG_kept hST hS.2.1) hFc)⟩⟩ rfl rfl hl.1 rfl (lv_room (Nat.le_of_ble_eq_true rfl)) dX6_read_23 ⟨Nat.le_of_ble_eq_true rfl, Nat.le_of_ble_eq_true rfl⟩) hS (fun q _ h => hFc q h) hFc (fun rr10 u t H9 locs ht hvm hw hB hz1 hk1 hS => ?_)
  obtain ⟨hP1, hK1, hD1⟩ := hB
  rw [ht] at hP1
  refine zTopi hw.symm ?_
  obtain ⟨hP, hD⟩ := va_join (wr := [(oX6 a6 h6 a3 a0 a8 q5 q4 s6_3), (h6 5, .inl (y 0, 60, .inl (gA s6_3 5))), (h6 6, .inl (y 0, 60, .inl (gA s6_3 6))), (h6 7, .inl (y 0, 60, .inl (gA s6_3 7))), (oX0 a0 h0 S0), (h0 2, .inl (y 1, 60, .inr (.inl (gB S0 2)))), (h0 3, .inl (y 0, 60, .inl (gA S0 3))), (h0 4, .inl (y 0, 60, .inl (gA S0 4))), (h0 5, .inl (y 0, 60, .inl (gA S0 5))), (h0 6, .inl (y 0, 60, .inl (gA S0 6))), (h0 7, .inl (y 0, 720, .inl (gA S0 7))), (h0 8, .inl (y 0, 60, .inl (gA S0 8))), (h0 9, .inl (y 0, 60, .inl (gA S0 9))), (h0 10, .inl (y 1, 60, .inr (.inl (gB S0 10)))), (h0 11, .inl (y 0, 60, .inl (gA S0 11))), (h0 12, .inl (y 0, 60, .inl (gA S0 12)))]) (w1 := ((cX3 a3 h3 a1 (.ref a8) y s3_5) ++ ((cX1 a1 h1 (.ref (h6 0)) y s1_6) ++ (([((h6 0), .inl (y 2, 2000, .inl (gA s6_3 0)))]) ++ (cX0 a8 h8 y s8_7))))) hP hD [5, 6, 7, 8, 9, 10, 1, 23, 24, 25, 26, 27, 28, 29, 30, 31, 32, 33, 34] [0, 2, 3, 4, 11, 12, 13, 14, 15, 16, 17, 18, 19, 20, 21, 22] rfl rfl (by decide) (by decide) hk1 hFc hP1 hD1
  have hP : va_P (dC, dI) vwCl ((cX6 a6 h6 a3 a0 a8 q5 q4 y s6_3) ++ ((cX3 a3 h3 a1 (.ref a8) y s3_5) ++ ((cX1 a1 h1 (.ref (h6 0)) y s1_6) ++ ((cX0 a0 h0 y S0) ++ (cX0 a8 h8 y s8_7))))) H9 := hP.sub [0, 22, 1, 2, 3, 16, 17, 18, 19, 20, 21, 4, 5, 6, 7, 8, 9, 10, 11, 12, 13, 14, 15, 23, 24, 25, 26, 27, 28, 29, 30, 31, 32, 33, 34] rfl
  have hD : va_D A ((cX6 a6 h6 a3 a0 a8 q5 q4 y s6_3) ++ ((cX3 a3 h3 a1 (.ref a8) y s3_5) ++ ((cX1 a1 h1 (.ref (h6 0)) y s1_6) ++ ((cX0 a0 h0 y S0) ++ (cX0 a8 h8 y s8_7))))) := hD.sub [0, 22, 1, 2, 3, 16, 17, 18, 19, 20, 21, 4, 5, 6, 7, 8, 9, 10, 11, 12, 13, 14, 15, 23, 24, 25, 26, 27, 28, 29, 30, 31, 32, 33, 34] (by decide) rfl
  refine lv_if_ne (tgt := 31) hx hb dX6_read_26 (by decide) (fun c11 => ?_) (fun c11 => ?_)
  · have h := zN c11 h
    refine lv_aload_n hx hb dX6_read_31 rfl (lv_at hl 1 rfl) ?_
    refine va_get (D := (dC, dI)) (ci := 5) (v := .ref a0) (C := RX6) (T := TX6) (N := 12) hx hb hts inX6_ hown hK hP 0 rfl rfl 3 (by decide) (hts (.fieldLink RX6 23 "GateWheel" "circuit" "LGateWheel$Circuit;") (List.mem_of_getElem? (i := 5) rfl)) (fun _ h9 => h9) rfl dX6_read_32 ?_
    refine lv_astore_n (lv' := [(2, .ref a0), (1, .int v1), (0, .ref a6)]) hx hb dX6_read_35 rfl hl (by decide) rfl (fun ls hl => ?_)
    refine lv_aload_n hx hb dX6_read_36 rfl (lv_at hl 2 rfl) ?_
    refine lv_aload_n hx hb dX6_read_37 rfl (lv_at hl 2 rfl) ?_
    refine va_get (D := (dC, dI)) (ci := 5) (v := .ref a8) (C := RX6) (T := TX6) (N := 12) hx hb hts inX6_ hown hK hP 0 rfl rfl 4 (by decide) (hts (.fieldLink RX6 27 "GateWheel" "spare" "LGateWheel$Circuit;") (List.mem_of_getElem? (i := 3) rfl)) (fun _ h9 => h9) rfl dX6_read_38 ?_
    refine va_put (D := (dC, dI)) (ci := 5) (v := .ref a8) (ty := (.object "GateWheel$Circuit")) (C := RX6) (T := TX6) (N := 12) hx hb hts inX6_ tyX6 tyX6_ok nmX6 hown hK hP hD hS 0 rfl rfl 3 (by decide) (hts (.fieldLink RX6 23 "GateWheel" "circuit" "LGateWheel$Circuit;") (List.mem_of_getElem? (i := 5) rfl)) (fun _ h9 => h9) rfl (by decide +kernel) rfl rfl (Nat.le_of_ble_eq_true rfl) dX6_read_41 (fun H12 locs hP hD hS => ?_)
    have hP : va_P (dC, dI) vwCl ((cX6 a6 h6 a3 a8 a8 q5 q4 y s6_3) ++ ((cX3 a3 h3 a1 (.ref a8) y s3_5) ++ ((cX1 a1 h1 (.ref (h6 0)) y s1_6) ++ ((cX0 a0 h0 y S0) ++ (cX0 a8 h8 y s8_7))))) H12 := hP
    have hD : va_D A ((cX6 a6 h6 a3 a8 a8 q5 q4 y s6_3) ++ ((cX3 a3 h3 a1 (.ref a8) y s3_5) ++ ((cX1 a1 h1 (.ref (h6 0)) y s1_6) ++ ((cX0 a0 h0 y S0) ++ (cX0 a8 h8 y s8_7))))) := hD
    refine lv_aload_n hx hb dX6_read_44 rfl (lv_at hl 2 rfl) ?_
    refine lv_aload_n hx hb dX6_read_45 rfl (lv_at hl 0 rfl) ?_
    refine va_put (D := (dC, dI)) (ci := 5) (v := .ref a0) (ty := (.object "GateWheel$Circuit")) (C := RX6) (T := TX6) (N := 12) hx hb hts inX6_ tyX6 tyX6_ok nmX6 hown hK hP hD hS 0 rfl rfl 4 (by decide) (hts (.fieldLink RX6 27 "GateWheel" "spare" "LGateWheel$Circuit;") (List.mem_of_getElem? (i := 3) rfl)) (fun _ h9 => h9) rfl (by decide +kernel) rfl rfl (Nat.le_of_ble_eq_true rfl) dX6_read_46 (fun H13 locs hP hD hS => ?_)
    have hP : va_P (dC, dI) vwCl ((cX6 a6 h6 a3 a8 a0 q5 q4 y s6_3) ++ ((cX3 a3 h3 a1 (.ref a8) y s3_5) ++ ((cX1 a1 h1 (.ref (h6 0)) y s1_6) ++ ((cX0 a0 h0 y S0) ++ (cX0 a8 h8 y s8_7))))) H13 := hP
    have hD : va_D A ((cX6 a6 h6 a3 a8 a0 q5 q4 y s6_3) ++ ((cX3 a3 h3 a1 (.ref a8) y s3_5) ++ ((cX1 a1 h1 (.ref (h6 0)) y s1_6) ++ ((cX0 a0 h0 y S0) ++ (cX0 a8 h8 y s8_7))))) := hD
    refine lv_iconst (v := 0) hx hb dX6_read_49 (by decide) ?_
    refine lv_istore_n (lv' := [(3, .int 0), (2, .ref a0), (1, .int v1), (0, .ref a6)]) hx hb dX6_read_50 rfl hl (by decide) rfl (fun ls hl => ?_)
    refine W_abs (fun GW14 eG15 => ?_)
    obtain ⟨ov18, hi19, h⟩ := zB_spec h
    have je16 : ∀ (s6_23 : SS) (HGW14e : Heap) (locs : List Loc) (ls : Array Slot), s6_23 = ov18 → va_P (dC, dI) vwCl ((cX6 a6 h6 a3 a8 a0 q5 q4 y s6_23) ++ ((cX3 a3 h3 a1 (.ref a8) y s3_5) ++ ((cX1 a1 h1 (.ref (h6 0)) y s1_6) ++ ((cX0 a0 h0 y S0) ++ (cX0 a8 h8 y s8_7))))) HGW14e → va_D A ((cX6 a6 h6 a3 a8 a0 q5 q4 y s6_23) ++ ((cX3 a3 h3 a1 (.ref a8) y s3_5) ++ ((cX1 a1 h1 (.ref (h6 0)) y s1_6) ++ ((cX0 a0 h0 y S0) ++ (cX0 a8 h8 y s8_7))))) → va_S A s.heap HGW14e locs → lv_has ls 4 [(0, .ref a6)] → GW14 HGW14e locs 0 0 (F0 m 75 ls []) := by
      intro s6_23 HGW14e locs ls hv hP hD hS hl
      subst hv
      refine (eG15 _ _ _ _ _).mpr ?_
      refine lv_aload_n hx hb dX6_read_75 rfl (lv_at hl 0 rfl) ?_
      refine lv_iconst (v := 0) hx hb dX6_read_76 (by decide) ?_
      refine va_put (D := (dC, dI)) (ci := 5) (v := .int 0) (ty := .boolean) (C := RX6) (T := TX6) (N := 12) hx hb hts inX6_ tyX6 tyX6_ok nmX6 hown hK hP hD hS 0 rfl rfl 11 (by decide) (hts (.fieldLink RX6 69 "GateWheel" "hasWheel" "Z") (List.mem_of_getElem? (i := 8) rfl)) (fun _ h9 => h9) rfl (by decide +kernel) (by decide) rfl (Nat.le_of_ble_eq_true rfl) dX6_read_77 (fun H24 locs hP hD hS => ?_)
      obtain ⟨s6_25, es6_25, h⟩ := zL_spec h
      have hP : va_P (dC, dI) vwCl ((cX6 a6 h6 a3 a8 a0 q5 q4 y s6_25) ++ ((cX3 a3 h3 a1 (.ref a8) y s3_5) ++ ((cX1 a1 h1 (.ref (h6 0)) y s1_6) ++ ((cX0 a0 h0 y S0) ++ (cX0 a8 h8 y s8_7))))) H24 := by rw [es6_25]; exact hP
      have hD : va_D A ((cX6 a6 h6 a3 a8 a0 q5 q4 y s6_25) ++ ((cX3 a3 h3 a1 (.ref a8) y s3_5) ++ ((cX1 a1 h1 (.ref (h6 0)) y s1_6) ++ ((cX0 a0 h0 y S0) ++ (cX0 a8 h8 y s8_7))))) := by rw [es6_25]; exact hD
      refine lv_aload_n hx hb dX6_read_80 rfl (lv_at hl 0 rfl) ?_
      obtain ⟨s6_26, hc27, h⟩ := zB_spec h
      have hPc := hP.sub (ws' := ((cX6 a6 h6 a3 a8 a0 q5 q4 y s6_25) ++ (cX0 a8 h8 y s8_7))) [0, 1, 2, 3, 4, 23, 24, 25, 26, 27, 28, 29, 30, 31, 32, 33, 34] rfl
      have hDc := hD.sub (ws' := ((cX6 a6 h6 a3 a8 a0 q5 q4 y s6_25) ++ (cX0 a8 h8 y s8_7))) [0, 1, 2, 3, 4, 23, 24, 25, 26, 27, 28, 29, 30, 31, 32, 33, 34] (by decide) rfl
      have hFc := va_free (wc := ((cX6 a6 h6 a3 a8 a0 q5 q4 y s6_25) ++ (cX0 a8 h8 y s8_7))) hD hS hA [0, 1, 2, 3, 4, 23, 24, 25, 26, 27, 28, 29, 30, 31, 32, 33, 34] rfl
      refine va_callv (va_runV (As := []) (rest := []) ⟨hx, hb, hml, hown, hts⟩ (m_X6_settleValues l dC dI y a6 h6 s6_25 a8 h8 s8_7 a3 a0 q5 q4 H24.size s6_26 hc27) (cwV 0 hts gX6_read_X6_settleValues rfl rfl rfl (by decide +kernel) ⟨Nat.le_of_ble_eq_true rfl, Nat.le_of_ble_eq_true rfl⟩) ⟨fun a U g mk q => by obtain ⟨q0, q1, qP, qK, qD⟩ := q; exact ⟨q0, q1, qP, va_K.moved (u := U) (U := U.calling g mk a) (Vm.Alike.refl U.vm) qK, qD⟩, va_recv hK hPc (ci := 5) (q0 := 0) rfl rfl, fun U hU hW => ⟨rfl, by rw [hU], by rw [hU]; exact hPc, va_K.moved hW.alike hK, hDc.weaken (fun _ _ _ _ => trivial)⟩⟩ rfl rfl hl.1 rfl (lv_room (Nat.le_of_ble_eq_true rfl)) dX6_read_81 ⟨Nat.le_of_ble_eq_true rfl, Nat.le_of_ble_eq_true rfl⟩) hS (fun q _ h => hFc q h) hFc (fun u t H28 locs ht hvm hw hB hz1 hk1 hS => ?_)
      obtain ⟨hP1, hK1, hD1⟩ := hB
      rw [ht] at hP1
      obtain ⟨hP, hD⟩ := va_join (wr := [(oX3 a3 h3 a1 (.ref a8) s3_5), (h3 12, .inl (y 1, 667, .inr (.inl (gB s3_5 12)))), (h3 13, .inl (y 0, 667, .inl (gA s3_5 13))), (h3 14, .inl (y 0, 667, .inl (gA s3_5 14))), (h3 16, .inl (y 1, 60, .inr (.inl (gB s3_5 16)))), (oX1 a1 h1 (.ref (h6 0)) s1_6), (oX0 a0 h0 S0), (h0 2, .inl (y 1, 60, .inr (.inl (gB S0 2)))), (h0 3, .inl (y 0, 60, .inl (gA S0 3))), (h0 4, .inl (y 0, 60, .inl (gA S0 4))), (h0 5, .inl (y 0, 60, .inl (gA S0 5))), (h0 6, .inl (y 0, 60, .inl (gA S0 6))), (h0 7, .inl (y 0, 720, .inl (gA S0 7))), (h0 8, .inl (y 0, 60, .inl (gA S0 8))), (h0 9, .inl (y 0, 60, .inl (gA S0 9))), (h0 10, .inl (y 1, 60, .inr (.inl (gB S0 10)))), (h0 11, .inl (y 0, 60, .inl (gA S0 11))), (h0 12, .inl (y 0, 60, .inl (gA S0 12)))]) (w1 := ((cX6 a6 h6 a3 a8 a0 q5 q4 y s6_26) ++ (cX0 a8 h8 y s8_7))) hP hD [0, 1, 2, 3, 4, 23, 24, 25, 26, 27, 28, 29, 30, 31, 32, 33, 34] [5, 6, 7, 8, 9, 10, 11, 12, 13, 14, 15, 16, 17, 18, 19, 20, 21, 22] rfl rfl (by decide) (by decide) hk1 hFc hP1 hD1
      have hP : va_P (dC, dI) vwCl ((cX6 a6 h6 a3 a8 a0 q5 q4 y s6_26) ++ ((cX3 a3 h3 a1 (.ref a8) y s3_5) ++ ((cX1 a1 h1 (.ref (h6 0)) y s1_6) ++ ((cX0 a0 h0 y S0) ++ (cX0 a8 h8 y s8_7))))) H28 := hP.sub [18, 19, 20, 21, 22, 0, 1, 2, 3, 4, 5, 6, 7, 8, 9, 10, 11, 12, 13, 14, 15, 16, 17, 23, 24, 25, 26, 27, 28, 29, 30, 31, 32, 33, 34] rfl
      have hD : va_D A ((cX6 a6 h6 a3 a8 a0 q5 q4 y s6_26) ++ ((cX3 a3 h3 a1 (.ref a8) y s3_5) ++ ((cX1 a1 h1 (.ref (h6 0)) y s1_6) ++ ((cX0 a0 h0 y S0) ++ (cX0 a8 h8 y s8_7))))) := hD.sub [18, 19, 20, 21, 22, 0, 1, 2, 3, 4, 5, 6, 7, 8, 9, 10, 11, 12, 13, 14, 15, 16, 17, 23, 24, 25, 26, 27, 28, 29, 30, 31, 32, 33, 34] (by decide) rfl
      refine lv_aload_n hx hb dX6_read_84 rfl (lv_at hl 0 rfl) ?_
      refine va_get (D := (dC, dI)) (ci := 5) (v := .ref a8) (C := RX6) (T := TX6) (N := 12) hx hb hts inX6_ hown hK hP 0 rfl rfl 3 (by decide) (hts (.fieldLink RX6 23 "GateWheel" "circuit" "LGateWheel$Circuit;") (List.mem_of_getElem? (i := 5) rfl)) (fun _ h9 => h9) rfl dX6_read_85 ?_
      refine va_get (D := (dC, dI)) (ci := 0) (v := .int (gI s8_7 0)) (C := RX0) (T := TX0) (N := 13) hx hb hts inX0_ hown hK hP 23 rfl rfl 0 (by decide) (hts (.fieldLink RX6 66 "GateWheel$Circuit" "count" "I") (List.mem_of_getElem? (i := 6) rfl)) (fun _ h9 => h9) rfl dX6_read_88 ?_
      have ho0 : (gI s8_7 0) = or_ := congrArg (fun z : Int32 × Bool × SS × SS × SS × SS => z.1) (Option.some.inj h)
      have ho1 : true = osw := congrArg (fun z : Int32 × Bool × SS × SS × SS × SS => z.2.1) (Option.some.inj h)
      have ho2 : s6_26 = o_6 := congrArg (fun z : Int32 × Bool × SS × SS × SS × SS => z.2.2.1) (Option.some.inj h)
      have ho3 : s3_5 = o_3 := congrArg (fun z : Int32 × Bool × SS × SS × SS × SS => z.2.2.2.1) (Option.some.inj h)
      have ho4 : s1_6 = o_1 := congrArg (fun z : Int32 × Bool × SS × SS × SS × SS => z.2.2.2.2.1) (Option.some.inj h)
      have ho5 : s8_7 = o_8 := congrArg (fun z : Int32 × Bool × SS × SS × SS × SS => z.2.2.2.2.2) (Option.some.inj h)
      exact W.iret (v := (gI s8_7 0)) hx hb hr (fun t ht hW => ⟨⟨(gI s8_7 0), (), rfl, ho0, by rw [ht]; rw [← ho1, ← ho2, ← ho3, ← ho4, ← ho5]; exact hP, va_K.moved hW.alike hK, by rw [← ho1, ← ho2, ← ho3, ← ho4, ← ho5]; exact hD⟩, hS.F ht⟩) hS.2.2 dX6_read_91
    have lp17 : ∀ (n : Nat) (v30 : Int32) (s6_31 : SS) (HGW14 : Heap) (locs : List Loc) (ls : Array Slot), zI (b_X6_read_51 s8_7) n (v30, s6_31) = some ov18 → va_P (dC, dI) vwCl ((cX6 a6 h6 a3 a8 a0 q5 q4 y s6_31) ++ ((cX3 a3 h3 a1 (.ref a8) y s3_5) ++ ((cX1 a1 h1 (.ref (h6 0)) y s1_6) ++ ((cX0 a0 h0 y S0) ++ (cX0 a8 h8 y s8_7))))) HGW14 → va_D A ((cX6 a6 h6 a3 a8 a0 q5 q4 y s6_31) ++ ((cX3 a3 h3 a1 (.ref a8) y s3_5) ++ ((cX1 a1 h1 (.ref (h6 0)) y s1_6) ++ ((cX0 a0 h0 y S0) ++ (cX0 a8 h8 y s8_7))))) → va_S A s.heap HGW14 locs → lv_has ls 4 [(0, .ref a6), (3, .int v30)] → GW14 HGW14 locs 0 0 (F0 m 51 ls []) := by
      intro n
      induction n with
      | zero =>
        intro v30 s6_31 HGW14 locs ls hi19 hP hD hS hl
        exact (zI_0 hi19).elim
      | succ n ihlp17 =>
        intro v30 s6_31 HGW14 locs ls hi19 hP hD hS hl
        refine (eG15 _ _ _ _ _).mpr ?_
        obtain ⟨xx22, h, hx21⟩ := zI_spec hi19
        refine lv_iload_n hx hb dX6_read_51 rfl (lv_at hl 1 rfl) ?_
        refine lv_aload_n hx hb dX6_read_52 rfl (lv_at hl 0 rfl) ?_
        refine va_get (D := (dC, dI)) (ci := 5) (v := .ref a8) (C := RX6) (T := TX6) (N := 12) hx hb hts inX6_ hown hK hP 0 rfl rfl 3 (by decide) (hts (.fieldLink RX6 23 "GateWheel" "circuit" "LGateWheel$Circuit;") (List.mem_of_getElem? (i := 5) rfl)) (fun _ h9 => h9) rfl dX6_read_53 ?_
        refine va_get (D := (dC, dI)) (ci := 0) (v := .int (gI s8_7 0)) (C := RX0) (T := TX0) (N := 13) hx hb hts inX0_ hown hK hP 23 rfl rfl 0 (by decide) (hts (.fieldLink RX6 66 "GateWheel$Circuit" "count" "I") (List.mem_of_getElem? (i := 6) rfl)) (fun _ h9 => h9) rfl dX6_read_56 ?_
        refine lv_icmp_ge (tgt := 75) hx hb dX6_read_59 (by decide) (fun c32 => ?_) (fun c32 => ?_)
        · have h := zY c32 h
          exact (eG15 _ _ _ _ _).mp (je16 s6_31 _ _ _ (zI_r h hx21) hP hD hS (lv_sub hl [0] rfl))
        · have h := zN c32 h
          refine lv_aload_n hx hb dX6_read_62 rfl (lv_at hl 0 rfl) ?_
          refine va_get (D := (dC, dI)) (ci := 5) (v := .ref (h6 5)) (C := RX6) (T := TX6) (N := 12) hx hb hts inX6_ hown hK hP 0 rfl rfl 5 (by decide) (hts (.fieldLink RX6 30 "GateWheel" "values" "[I") (List.mem_of_getElem? (i := 7) rfl)) (fun _ h9 => h9) rfl dX6_read_63 ?_
          refine lv_iload_n hx hb dX6_read_66 rfl (lv_at hl 1 rfl) ?_
          refine lv_iconst (v := 2) hx hb dX6_read_67 (by decide) ?_
          obtain ⟨hi33, h⟩ := zG_spec h
          refine va_iast hx hb hK hP hD hS 2 0 rfl rfl hi33 dX6_read_68 (fun H34 locs hP hD hS => ?_)
          obtain ⟨s6_35, es6_35, h⟩ := zL_spec h
          have hP : va_P (dC, dI) vwCl ((cX6 a6 h6 a3 a8 a0 q5 q4 y s6_35) ++ ((cX3 a3 h3 a1 (.ref a8) y s3_5) ++ ((cX1 a1 h1 (.ref (h6 0)) y s1_6) ++ ((cX0 a0 h0 y S0) ++ (cX0 a8 h8 y s8_7))))) H34 := by rw [es6_35]; exact hP
          have hD : va_D A ((cX6 a6 h6 a3 a8 a0 q5 q4 y s6_35) ++ ((cX3 a3 h3 a1 (.ref a8) y s3_5) ++ ((cX1 a1 h1 (.ref (h6 0)) y s1_6) ++ ((cX0 a0 h0 y S0) ++ (cX0 a8 h8 y s8_7))))) := by rw [es6_35]; exact hD
          obtain ⟨v36, ev36, h⟩ := zL_spec h
          refine lv_iinc (v := v36) (lv' := [(3, .int v36), (0, .ref a6)]) hx hb dX6_read_69 hl (k := 1) rfl (by rw [ev36]; rfl) (by decide) rfl (fun ls hl => ?_)
          refine lv_goto (tgt := 51) hx hb dX6_read_72 (by decide) ?_
          have h := zI_l h hx21
          exact (eG15 _ _ _ _ _).mp (ihlp17 v36 s6_35 _ _ _ h hP hD hS (lv_sub hl [1, 0] rfl))
    exact lp17 zF (0 : Int32) s6_3 _ _ _ hi19 hP hD hS (lv_sub hl [3, 0] rfl)
  · have h := zY c11 h
    refine lv_iconst (v := (-1)) hx hb dX6_read_29 (by decide) ?_
    have ho0 : (-1 : Int32) = or_ := congrArg (fun z : Int32 × Bool × SS × SS × SS × SS => z.1) (Option.some.inj h)
    have ho1 : false = osw := congrArg (fun z : Int32 × Bool × SS × SS × SS × SS => z.2.1) (Option.some.inj h)
    have ho2 : s6_3 = o_6 := congrArg (fun z : Int32 × Bool × SS × SS × SS × SS => z.2.2.1) (Option.some.inj h)
    have ho3 : s3_5 = o_3 := congrArg (fun z : Int32 × Bool × SS × SS × SS × SS => z.2.2.2.1) (Option.some.inj h)
    have ho4 : s1_6 = o_1 := congrArg (fun z : Int32 × Bool × SS × SS × SS × SS => z.2.2.2.2.1) (Option.some.inj h)
    have ho5 : s8_7 = o_8 := congrArg (fun z : Int32 × Bool × SS × SS × SS × SS => z.2.2.2.2.2) (Option.some.inj h)
    exact W.iret (v := (-1)) hx hb hr (fun t ht hW => ⟨⟨(-1), (), rfl, ho0, by rw [ht]; rw [← ho1, ← ho2, ← ho3, ← ho4, ← ho5]; exact hP, va_K.moved hW.alike hK, by rw [← ho1, ← ho2, ← ho3, ← ho4, ← ho5]; exact hD⟩, hS.F ht⟩) hS.2.2 dX6_read_30
