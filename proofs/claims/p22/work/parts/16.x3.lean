noncomputable def b_X3_linkUses_4 (S3 : SS) : (Int32 × Int32 × SS) → Option ((Int32 × Int32 × SS) ⊕ (Int32 × SS × SS)) := fun (v10, v11, s0_12) =>
  if (gI S3 15) ≤ v11 then some (Sum.inr ((1 : Int32), S3, s0_12))
  else zG (vp_in v11 667) (
  zB (f_X0_find s0_12 (gB S3 12 v11.toNatClampNeg)) (fun (r15 : Int32) =>
  zB (f_X3_isHead (gA S3 14 v11.toNatClampNeg)) (fun (r19 : Int32) =>
  if r15 = (-1 : Int32) then zB (f_X3_failAt S3 (4 : Int32) (gA S3 13 v11.toNatClampNeg)) (fun ((r24, s3_25) : Int32 × SS) =>
  zG (zb r24) (
  some (Sum.inr (r24, s3_25, s0_12))))
  else if r19 = (0 : Int32) then if r19 = (0 : Int32) then zB (if (gA S3 14 v11.toNatClampNeg) = (-3 : Int32) then some v10
  else some (gA S3 14 v11.toNatClampNeg)) (fun (v38 : Int32) =>
  zB (f_X0_addPart s0_12 v38 r15) (fun (s0_39 : SS) =>
  zL (v11 + 1) (fun v43 =>
  some (Sum.inl (v10, v43, s0_39)))))
  else zB (if (gA S3 14 v11.toNatClampNeg) = (-2 : Int32) then some (1 : Int32)
  else some (0 : Int32)) (fun (v51 : Int32) =>
  zB (f_X0_beginDriver s0_12 r15 v51) (fun (s0_52 : SS) =>
  zL (v11 + 1) (fun v56 =>
  some (Sum.inl (r15, v56, s0_52)))))
  else zB (f_X0_isKind s0_12 r15 (1 : Int32)) (fun (r58 : Int32) =>
  if r58 = (0 : Int32) then zB (f_X3_failAt S3 (4 : Int32) (gA S3 13 v11.toNatClampNeg)) (fun ((r90, s3_91) : Int32 × SS) =>
  zG (zb r90) (
  some (Sum.inr (r90, s3_91, s0_12))))
  else if r19 = (0 : Int32) then zB (if (gA S3 14 v11.toNatClampNeg) = (-3 : Int32) then some v10
  else some (gA S3 14 v11.toNatClampNeg)) (fun (v70 : Int32) =>
  zB (f_X0_addPart s0_12 v70 r15) (fun (s0_71 : SS) =>
  zL (v11 + 1) (fun v75 =>
  some (Sum.inl (v10, v75, s0_71)))))
  else zB (if (gA S3 14 v11.toNatClampNeg) = (-2 : Int32) then some (1 : Int32)
  else some (0 : Int32)) (fun (v83 : Int32) =>
  zB (f_X0_beginDriver s0_12 r15 v83) (fun (s0_84 : SS) =>
  zL (v11 + 1) (fun v88 =>
  some (Sum.inl (r15, v88, s0_84)))))))))
noncomputable def f_X3_linkUses (S3 : SS) (S0 : SS) : Option (Int32 × SS × SS) :=
  zI (b_X3_linkUses_4 S3) zF ((-1 : Int32), (0 : Int32), S0)

noncomputable def b_X3_checkLoops_84 (S0 : SS) (v1 : Int32) (s3_13 : SS) : (Int32) → Option ((Int32) ⊕ (Int32 × SS)) := fun v23 =>
  if v1 ≤ v23 then some (Sum.inr ((1 : Int32), s3_13))
  else zG (vp_in v23 60) (
  if (lg_cmp ((jLu (gB s3_13 16 v23.toNatClampNeg) v23) &&& (1 : Int64)) (1 : Int64)) = (0 : Int32) then zB (f_X3_failAt s3_13 (5 : Int32) (gA S0 3 v23.toNatClampNeg)) (fun ((r28, s3_29) : Int32 × SS) =>
  zG (zb r28) (
  some (Sum.inr (r28, s3_29))))
  else zL (v23 + 1) (fun v27 =>
  some (Sum.inl v27)))
noncomputable def b_X3_checkLoops_35 (v1 : Int32) (v34 : Int32) : (Int32 × SS) → Option ((Int32 × SS) ⊕ (SS)) := fun (v48, s3_49) =>
  if v1 ≤ v48 then some (Sum.inr s3_49)
  else zG (vp_in v48 60) (
  if (lg_cmp ((jLu (gB s3_49 16 v48.toNatClampNeg) v34) &&& (1 : Int64)) (1 : Int64)) = (0 : Int32) then zG (vp_in v34 60) (
  zL (sB s3_49 16 (vp_updL (gB s3_49 16) v48.toNatClampNeg ((gB s3_49 16 v48.toNatClampNeg) ||| (gB s3_49 16 v34.toNatClampNeg)))) (fun s3_56 =>
  zL (v48 + 1) (fun v57 =>
  some (Sum.inl (v57, s3_56)))))
  else zL (v48 + 1) (fun v53 =>
  some (Sum.inl (v53, s3_49))))
noncomputable def b_X3_checkLoops_28 (v1 : Int32) : (Int32 × SS) → Option ((Int32 × SS) ⊕ (SS)) := fun (v34, s3_35) =>
  if v1 ≤ v34 then some (Sum.inr s3_35)
  else zB (zI (b_X3_checkLoops_35 v1 v34) zF ((0 : Int32), s3_35)) (fun (s3_46 : SS) =>
  zL (v34 + 1) (fun v47 =>
  some (Sum.inl (v47, s3_46))))
noncomputable def f_X3_checkLoops (S3 : SS) (S0 : SS) : Option (Int32 × SS) :=
  zL (gI S0 0) (fun v1 =>
  zL (sB S3 16 (va_cpy (gB S0 10) (gB S3 16) (0 : Int32).toNatClampNeg (0 : Int32).toNatClampNeg (60 : Int32).toNatClampNeg)) (fun s3_3 =>
  zB (zI (b_X3_checkLoops_28 v1) zF ((0 : Int32), s3_3)) (fun (s3_13 : SS) =>
  zI (b_X3_checkLoops_84 S0 v1 s3_13) zF (0 : Int32))))

noncomputable def b_X3_takeTokens_14 (ft : Nat → Int32) : (Int32 × SS × SS × SS) → Option ((Int32 × SS × SS × SS) ⊕ ((Int32 × SS × SS × SS) ⊕ (SS × SS × SS))) := fun (v26, s3_27, s1_28, s0_29) =>
  if (2000 : Int32) ≤ v26 then some (Sum.inr (Sum.inr (s3_27, s1_28, s0_29)))
  else if (gI s1_28 3) = (1 : Int32) then some (Sum.inr (Sum.inr (s3_27, s1_28, s0_29)))
  else zB (f_X3_step s3_27 s1_28 s0_29) (fun ((r32, s3_33, s0_34) : Int32 × SS × SS) =>
  if r32 = (0 : Int32) then some (Sum.inr (Sum.inl ((0 : Int32), s3_33, s1_28, s0_34)))
  else zB (f_X1_advance s1_28 ft) (fun (s1_39 : SS) =>
  zL (v26 + 1) (fun v43 =>
  some (Sum.inl (v43, s3_33, s1_39, s0_34)))))
noncomputable def f_X3_takeTokens (S3 : SS) (S1 : SS) (ft : Nat → Int32) (S0 : SS) : Option (Int32 × SS × SS × SS) :=
  zL (sI S3 4 (0 : Int32)) (fun s3_2 =>
  zB (f_X1_advance S1 ft) (fun (s1_3 : SS) =>
  zS (zI (b_X3_takeTokens_14 ft) zF ((0 : Int32), s3_2, s1_3, S0)) (fun ((s3_16, s1_17, s0_18) : SS × SS × SS) =>
  if (gI s3_16 4) = (0 : Int32) then some ((1 : Int32), s3_16, s1_17, s0_18)
  else zB (f_X3_refuse s3_16 s1_17) (fun ((r20, s3_21) : Int32 × SS) =>
  if r20 = (0 : Int32) then some ((0 : Int32), s3_21, s1_17, s0_18)
  else some ((1 : Int32), s3_21, s1_17, s0_18)))))

noncomputable def f_X3_readInto (S3 : SS) (S1 : SS) (ft : Nat → Int32) (S0 : SS) (p3 : Int32) : Option (Int32 × SS × SS × SS) :=
  zB (f_X0_clear S0) (fun (s0_2 : SS) =>
  zL (sI S3 0 (0 : Int32)) (fun s3_7 =>
  zL (sI s3_7 1 (-1 : Int32)) (fun s3_9 =>
  zL (sI s3_9 15 (0 : Int32)) (fun s3_11 =>
  zB (f_X1_begin S1 ft p3) (fun (s1_12 : SS) =>
  zB (f_X3_takeTokens s3_11 s1_12 ft s0_2) (fun ((r16, s3_17, s1_18, s0_19) : Int32 × SS × SS × SS) =>
  if r16 = (0 : Int32) then some ((0 : Int32), s3_17, s1_18, s0_19)
  else zB (f_X3_linkUses s3_17 s0_19) (fun ((r24, s3_25, s0_26) : Int32 × SS × SS) =>
  if r24 = (0 : Int32) then some ((0 : Int32), s3_25, s1_18, s0_26)
  else zB (f_X3_checkLoops s3_25 s0_26) (fun ((r31, s3_32) : Int32 × SS) =>
  if r31 = (0 : Int32) then some ((0 : Int32), s3_32, s1_18, s0_26)
  else zB (f_X0_arrange s0_26) (fun (s0_37 : SS) =>
  some ((1 : Int32), s3_32, s1_18, s0_37))))))))))

set_option maxHeartbeats 4000000 in
set_option maxRecDepth 100000 in
theorem m_X3_linkUses (l : Launch) (dC : Nat → ClassId) (dI : Nat → Nat → Nat) (y : Nat → ClassId) (a3 : Nat) (h3 : Nat → Nat) (S3 : SS) (a0 : Nat) (h0 : Nat → Nat) (S0 : SS) (lxa : Nat) (sz : Nat) (or_ : Int32) (o_3 : SS) (o_0 : SS) (h : f_X3_linkUses S3 S0 = some (or_, o_3, o_0)) : Met l yX3_linkUses wsX3_linkUses ({ frames := 2, cells := 0, slots := 0, locals := 43 }) (va_Pc [.ref a3] (fun U => U.heap.size = sz ∧ va_P (dC, dI) vwCl ((cX3 a3 h3 lxa (.ref a0) y S3) ++ (cX0 a0 h0 y S0)) U.heap ∧ va_K (dC, dI) vwCl [(y 0, .int), (y 1, .long), (y 2, .byte), (y 3, .boolean)] U ∧ va_D (fun _ => True) ((cX3 a3 h3 lxa (.ref a0) y S3) ++ (cX0 a0 h0 y S0)))) (va_Qi (fun (r : Int32) (_ : Unit) => r = or_) (fun (_ : Unit) (t : State) => va_P (dC, dI) vwCl ((cX3 a3 h3 lxa (.ref a0) y o_3) ++ (cX0 a0 h0 y o_0)) t.heap ∧ va_K (dC, dI) vwCl [(y 0, .int), (y 1, .long), (y 2, .byte), (y 3, .boolean)] t ∧ va_D (va_A ((cX3 a3 h3 lxa (.ref a0) y S3) ++ (cX0 a0 h0 y S0)) sz) ((cX3 a3 h3 lxa (.ref a0) y o_3) ++ (cX0 a0 h0 y o_0))) (va_A ((cX3 a3 h3 lxa (.ref a0) y S3) ++ (cX0 a0 h0 y S0)) sz)) 0 0 (va_A ((cX3 a3 h3 lxa (.ref a0) y S3) ++ (cX0 a0 h0 y S0)) sz) := by
  refine Met.ofW (cc := cX3_linkUses) (maxL := 5) (ret := (some .boolean)) (by decide +kernel) rfl ?_
  intro p e s m args below meth c s₁ B hml hv
  obtain ⟨rfl, hsz, hP, hK, hD0⟩ := hv
  have hx := B.exec
  have hb := B.bytes
  have hr := B.returns
  have hts := atoms_spec (ws := wsX3_linkUses) B.pre
  have hown : s.vm.findClass RX3 = some m.cls := findClass_of_methodNamed B.named
  have hlocks := B.notSynchronized
  have inX3_ : ∀ w ∈ wsX30, w ∈ wsX3_linkUses := fun _ h => List.mem_cons_of_mem _ (List.mem_append_left _ (List.mem_append_right _ h))
  subst hsz
  have hD := hD0.self (sz := s.heap.size)
  generalize hAe : va_A ((cX3 a3 h3 lxa (.ref a0) y S3) ++ (cX0 a0 h0 y S0)) s.heap.size = A at hD ⊢
  have hA : ∀ q : Nat, s.heap.size ≤ q → A q := fun q h => by rw [← hAe]; exact Or.inr h
  have hS : va_S A s.heap s.heap [] := va_S.rf
  have hP : va_P (dC, dI) vwCl ((cX3 a3 h3 lxa (.ref a0) y S3) ++ (cX0 a0 h0 y S0)) s.heap := hP
  have hl := lv_entry ([.ref a3]) (n := 5) (Nat.le_of_ble_eq_true rfl)
  rw [lg_entry_eq]
  generalize (lg_sl ([.ref a3]) ++ List.replicate (5 - (lg_sl ([.ref a3])).length) Slot.unset).toArray = ls at hl ⊢
  have hl : lv_has ls 5 [(0, .ref a3)] := hl
  refine lv_iconst (v := (-1)) hx hb dX3_linkUses_0 (by decide) ?_
  refine lv_istore_n (lv' := [(1, .int (-1)), (0, .ref a3)]) hx hb dX3_linkUses_1 rfl hl (by decide) rfl (fun ls hl => ?_)
  refine lv_iconst (v := 0) hx hb dX3_linkUses_2 (by decide) ?_
  refine lv_istore_n (lv' := [(2, .int 0), (1, .int (-1)), (0, .ref a3)]) hx hb dX3_linkUses_3 rfl hl (by decide) rfl (fun ls hl => ?_)
  refine W_abs (fun GW1 eG2 => ?_)
  have hi6 := h
  have lp4 : ∀ (n : Nat) (v10 : Int32) (v11 : Int32) (s0_12 : SS) (HGW1 : Heap) (locs : List Loc) (ls : Array Slot), zI (b_X3_linkUses_4 S3) n (v10, v11, s0_12) = some (or_, o_3, o_0) → va_P (dC, dI) vwCl ((cX3 a3 h3 lxa (.ref a0) y S3) ++ (cX0 a0 h0 y s0_12)) HGW1 → va_D A ((cX3 a3 h3 lxa (.ref a0) y S3) ++ (cX0 a0 h0 y s0_12)) → va_S A s.heap HGW1 locs → lv_has ls 5 [(0, .ref a3), (1, .int v10), (2, .int v11)] → GW1 HGW1 locs 0 0 (F0 m 4 ls []) := by
    intro n
    induction n with
    | zero =>
      intro v10 v11 s0_12 HGW1 locs ls hi6 hP hD hS hl
      exact (zI_0 hi6).elim
    | succ n ihlp4 =>
      intro v10 v11 s0_12 HGW1 locs ls hi6 hP hD hS hl
      refine (eG2 _ _ _ _ _).mpr ?_
      obtain ⟨xx9, h, hx8⟩ := zI_spec hi6
      refine lv_iload_n hx hb dX3_linkUses_4 rfl (lv_at hl 2 rfl) ?_
      refine lv_aload_n hx hb dX3_linkUses_5 rfl (lv_at hl 0 rfl) ?_
      refine va_get (D := (dC, dI)) (ci := 2) (v := .int (gI S3 15)) (C := RX3) (T := TX3) (N := 17) hx hb hts inX3_ hown hK hP 0 rfl rfl 15 (by decide) (hts (.fieldLink RX3 48 "GateWheel$Reader" "uses" "I") (List.mem_of_getElem? (i := 1) rfl)) (fun _ h9 => h9) rfl dX3_linkUses_6 ?_
      refine lv_icmp_ge (tgt := 140) hx hb dX3_linkUses_9 (by decide) (fun c13 => ?_) (fun c13 => ?_)
      · have h := zY c13 h
        refine lv_iconst (v := 1) hx hb dX3_linkUses_140 (by decide) ?_
        have h := congrArg some (zI_r h hx8)
        have ho0 : (1 : Int32) = or_ := congrArg (fun z : Int32 × SS × SS => z.1) (Option.some.inj h)
        have ho1 : S3 = o_3 := congrArg (fun z : Int32 × SS × SS => z.2.1) (Option.some.inj h)
        have ho2 : s0_12 = o_0 := congrArg (fun z : Int32 × SS × SS => z.2.2) (Option.some.inj h)
        exact W.zret (v := 1) hx hb hr (by decide) (fun t ht hW => ⟨⟨1, (), rfl, ho0, by rw [ht]; rw [← ho1, ← ho2]; exact hP, va_K.moved hW.alike hK, by rw [← ho1, ← ho2]; exact hD⟩, hS.F ht⟩) hS.2.2 dX3_linkUses_141
      · have h := zN c13 h
        refine lv_aload_n hx hb dX3_linkUses_12 rfl (lv_at hl 0 rfl) ?_
        refine va_get (D := (dC, dI)) (ci := 2) (v := .ref a0) (C := RX3) (T := TX3) (N := 17) hx hb hts inX3_ hown hK hP 0 rfl rfl 3 (by decide) (hts (.fieldLink RX3 36 "GateWheel$Reader" "circuit" "LGateWheel$Circuit;") (List.mem_of_getElem? (i := 2) rfl)) (fun _ h9 => h9) rfl dX3_linkUses_13 ?_
        refine lv_aload_n hx hb dX3_linkUses_16 rfl (lv_at hl 0 rfl) ?_
        refine va_get (D := (dC, dI)) (ci := 2) (v := .ref (h3 12)) (C := RX3) (T := TX3) (N := 17) hx hb hts inX3_ hown hK hP 0 rfl rfl 12 (by decide) (hts (.fieldLink RX3 22 "GateWheel$Reader" "useNames" "[J") (List.mem_of_getElem? (i := 3) rfl)) (fun _ h9 => h9) rfl dX3_linkUses_17 ?_
        refine lv_iload_n hx hb dX3_linkUses_20 rfl (lv_at hl 2 rfl) ?_
        obtain ⟨hi14, h⟩ := zG_spec h
        refine va_lald hx hb hK hP 1 1 rfl rfl hi14 dX3_linkUses_21 ?_
        obtain ⟨r15, hc16, h⟩ := zB_spec h
        have hPc := hP.sub (ws' := (cX0 a0 h0 y s0_12)) [5, 6, 7, 8, 9, 10, 11, 12, 13, 14, 15, 16] rfl
        have hDc := hD.sub (ws' := (cX0 a0 h0 y s0_12)) [5, 6, 7, 8, 9, 10, 11, 12, 13, 14, 15, 16] (by decide) rfl
        have hFc := va_free (wc := (cX0 a0 h0 y s0_12)) hD hS hA [5, 6, 7, 8, 9, 10, 11, 12, 13, 14, 15, 16] rfl
        refine va_calli (va_runV (As := [.long (gB S3 12 v11.toNatClampNeg)]) (rest := []) ⟨hx, hb, hml, hown, hts⟩ (m_X0_find l dC dI y a0 h0 s0_12 (gB S3 12 v11.toNatClampNeg) HGW1.size r15 hc16) (cwV 1 hts gX3_linkUses_X0_find rfl rfl rfl (by decide +kernel) ⟨Nat.le_of_ble_eq_true rfl, Nat.le_of_ble_eq_true rfl⟩) ⟨fun a U g mk q => by obtain ⟨q0, q1, qP, qK, qD⟩ := q; exact ⟨q0, q1, qP, va_K.moved (u := U) (U := U.calling g mk a) (Vm.Alike.refl U.vm) qK, qD⟩, va_recv hK hPc (ci := 0) (q0 := 0) rfl rfl, fun U hU hW => ⟨rfl, by rw [hU], by rw [hU]; exact hPc, va_K.moved hW.alike hK, hDc.weaken (fun _ _ _ _ => trivial)⟩⟩ rfl rfl hl.1 rfl (lv_room (Nat.le_of_ble_eq_true rfl)) dX3_linkUses_22 ⟨Nat.le_of_ble_eq_true rfl, Nat.le_of_ble_eq_true rfl⟩) hS (fun q _ h => hFc q h) hFc (fun rr18 u t H17 locs ht hvm hw hB hz1 hk1 hS => ?_)
        obtain ⟨hP1, hK1, hD1⟩ := hB
        rw [ht] at hP1
        refine zTopi hw.symm ?_
        obtain ⟨hP, hD⟩ := va_join (wr := [(oX3 a3 h3 lxa (.ref a0) S3), (h3 12, .inl (y 1, 667, .inr (.inl (gB S3 12)))), (h3 13, .inl (y 0, 667, .inl (gA S3 13))), (h3 14, .inl (y 0, 667, .inl (gA S3 14))), (h3 16, .inl (y 1, 60, .inr (.inl (gB S3 16))))]) (w1 := (cX0 a0 h0 y s0_12)) hP hD [5, 6, 7, 8, 9, 10, 11, 12, 13, 14, 15, 16] [0, 1, 2, 3, 4] rfl rfl (by decide) (by decide) hk1 hFc hP1 hD1
        have hP : va_P (dC, dI) vwCl ((cX3 a3 h3 lxa (.ref a0) y S3) ++ (cX0 a0 h0 y s0_12)) H17 := hP.sub [0, 1, 2, 3, 4, 5, 6, 7, 8, 9, 10, 11, 12, 13, 14, 15, 16] rfl
        have hD : va_D A ((cX3 a3 h3 lxa (.ref a0) y S3) ++ (cX0 a0 h0 y s0_12)) := hD.sub [0, 1, 2, 3, 4, 5, 6, 7, 8, 9, 10, 11, 12, 13, 14, 15, 16] (by decide) rfl
        refine lv_istore_n (lv' := [(3, .int r15), (0, .ref a3), (1, .int v10), (2, .int v11)]) hx hb dX3_linkUses_25 rfl hl (by decide) rfl (fun ls hl => ?_)
        refine lv_aload_n hx hb dX3_linkUses_26 rfl (lv_at hl 1 rfl) ?_
        refine va_get (D := (dC, dI)) (ci := 2) (v := .ref (h3 14)) (C := RX3) (T := TX3) (N := 17) hx hb hts inX3_ hown hK hP 0 rfl rfl 14 (by decide) (hts (.fieldLink RX3 30 "GateWheel$Reader" "useRoles" "[I") (List.mem_of_getElem? (i := 4) rfl)) (fun _ h9 => h9) rfl dX3_linkUses_27 ?_
        refine lv_iload_n hx hb dX3_linkUses_30 rfl (lv_at hl 3 rfl) ?_
        refine va_iald hx hb hK hP 3 0 rfl rfl hi14 dX3_linkUses_31 ?_
        obtain ⟨r19, hc20, h⟩ := zB_spec h
        have hPc := hP.sub (ws' := []) [] rfl
        have hDc := hD.sub (ws' := []) [] (by decide) rfl
        have hFc := va_free (wc := []) hD hS hA [] rfl
        refine va_calli (va_runS (As := [.int (gA S3 14 v11.toNatClampNeg)]) (rest := []) ⟨hx, hb, hml, hown, hts⟩ (m_X3_isHead l dC dI y (gA S3 14 v11.toNatClampNeg) H17.size r19 hc20) (va_cwS 1 hts gX3_linkUses_X3_isHead rfl rfl rfl (by decide +kernel) ⟨Nat.le_of_ble_eq_true rfl, Nat.le_of_ble_eq_true rfl⟩) ⟨fun a U g mk q => by obtain ⟨q0, q1, qP, qK, qD⟩ := q; exact ⟨q0, q1, qP, va_K.moved (u := U) (U := U.calling g mk a) (Vm.Alike.refl U.vm) qK, qD⟩, fun U hU hW => ⟨rfl, by rw [hU], by rw [hU]; exact hPc, va_K.moved hW.alike hK, hDc.weaken (fun _ _ _ _ => trivial)⟩⟩ rfl rfl hl.1 rfl (lv_room (Nat.le_of_ble_eq_true rfl)) dX3_linkUses_32 ⟨Nat.le_of_ble_eq_true rfl, Nat.le_of_ble_eq_true rfl⟩) hS (fun q _ h => hFc q h) hFc (fun rr22 u t H21 locs ht hvm hw hB hz1 hk1 hS => ?_)
        obtain ⟨hP1, hK1, hD1⟩ := hB
        rw [ht] at hP1
        refine zTopi hw.symm ?_
        obtain ⟨hP, hD⟩ := va_join (wr := [(oX3 a3 h3 lxa (.ref a0) S3), (h3 12, .inl (y 1, 667, .inr (.inl (gB S3 12)))), (h3 13, .inl (y 0, 667, .inl (gA S3 13))), (h3 14, .inl (y 0, 667, .inl (gA S3 14))), (h3 16, .inl (y 1, 60, .inr (.inl (gB S3 16)))), (oX0 a0 h0 s0_12), (h0 2, .inl (y 1, 60, .inr (.inl (gB s0_12 2)))), (h0 3, .inl (y 0, 60, .inl (gA s0_12 3))), (h0 4, .inl (y 0, 60, .inl (gA s0_12 4))), (h0 5, .inl (y 0, 60, .inl (gA s0_12 5))), (h0 6, .inl (y 0, 60, .inl (gA s0_12 6))), (h0 7, .inl (y 0, 720, .inl (gA s0_12 7))), (h0 8, .inl (y 0, 60, .inl (gA s0_12 8))), (h0 9, .inl (y 0, 60, .inl (gA s0_12 9))), (h0 10, .inl (y 1, 60, .inr (.inl (gB s0_12 10)))), (h0 11, .inl (y 0, 60, .inl (gA s0_12 11))), (h0 12, .inl (y 0, 60, .inl (gA s0_12 12)))]) (w1 := []) hP hD [] [0, 1, 2, 3, 4, 5, 6, 7, 8, 9, 10, 11, 12, 13, 14, 15, 16] rfl rfl (by decide) (by decide) hk1 hFc hP1 hD1
        have hP : va_P (dC, dI) vwCl ((cX3 a3 h3 lxa (.ref a0) y S3) ++ (cX0 a0 h0 y s0_12)) H21 := hP.sub [0, 1, 2, 3, 4, 5, 6, 7, 8, 9, 10, 11, 12, 13, 14, 15, 16] rfl
        have hD : va_D A ((cX3 a3 h3 lxa (.ref a0) y S3) ++ (cX0 a0 h0 y s0_12)) := hD.sub [0, 1, 2, 3, 4, 5, 6, 7, 8, 9, 10, 11, 12, 13, 14, 15, 16] (by decide) rfl
        refine lv_istore (lv' := [(4, .int r19), (3, .int r15), (0, .ref a3), (1, .int v10), (2, .int v11)]) hx hb dX3_linkUses_35 hl (by decide) rfl (fun ls hl => ?_)
        refine lv_iload_n hx hb dX3_linkUses_37 rfl (lv_at hl 1 rfl) ?_
        refine lv_iconst (v := (-1)) hx hb dX3_linkUses_38 (by decide) ?_
        refine lv_icmp_eq (tgt := 59) hx hb dX3_linkUses_39 (by decide) (fun c23 => ?_) (fun c23 => ?_)
        · have h := zY c23 h
          refine lv_aload_n hx hb dX3_linkUses_59 rfl (lv_at hl 2 rfl) ?_
          refine lv_iconst (v := 4) hx hb dX3_linkUses_60 (by decide) ?_
          refine lv_aload_n hx hb dX3_linkUses_61 rfl (lv_at hl 2 rfl) ?_
          refine va_get (D := (dC, dI)) (ci := 2) (v := .ref (h3 13)) (C := RX3) (T := TX3) (N := 17) hx hb hts inX3_ hown hK hP 0 rfl rfl 13 (by decide) (hts (.fieldLink RX3 26 "GateWheel$Reader" "usePlaces" "[I") (List.mem_of_getElem? (i := 5) rfl)) (fun _ h9 => h9) rfl dX3_linkUses_62 ?_
          refine lv_iload_n hx hb dX3_linkUses_65 rfl (lv_at hl 4 rfl) ?_
          refine va_iald hx hb hK hP 2 0 rfl rfl hi14 dX3_linkUses_66 ?_
          obtain ⟨⟨r24, s3_25⟩, hc26, h⟩ := zB_spec h
          have hPc := hP.sub (ws' := (cX3 a3 h3 lxa (.ref a0) y S3)) [0, 1, 2, 3, 4] rfl
          have hDc := hD.sub (ws' := (cX3 a3 h3 lxa (.ref a0) y S3)) [0, 1, 2, 3, 4] (by decide) rfl
          have hFc := va_free (wc := (cX3 a3 h3 lxa (.ref a0) y S3)) hD hS hA [0, 1, 2, 3, 4] rfl
          refine va_calli (va_runV (As := [.int 4, .int (gA S3 13 v11.toNatClampNeg)]) (rest := []) ⟨hx, hb, hml, hown, hts⟩ (m_X3_failAt l dC dI y a3 h3 S3 lxa (.ref a0) (4 : Int32) (gA S3 13 v11.toNatClampNeg) H21.size r24 s3_25 hc26) (cwV 2 hts gX3_linkUses_X3_failAt rfl rfl rfl (by decide +kernel) ⟨Nat.le_of_ble_eq_true rfl, Nat.le_of_ble_eq_true rfl⟩) ⟨fun a U g mk q => by obtain ⟨q0, q1, qP, qK, qD⟩ := q; exact ⟨q0, q1, qP, va_K.moved (u := U) (U := U.calling g mk a) (Vm.Alike.refl U.vm) qK, qD⟩, va_recv hK hPc (ci := 2) (q0 := 0) rfl rfl, fun U hU hW => ⟨rfl, by rw [hU], by rw [hU]; exact hPc, va_K.moved hW.alike hK, hDc.weaken (fun _ _ _ _ => trivial)⟩⟩ rfl rfl hl.1 rfl (lv_room (Nat.le_of_ble_eq_true rfl)) dX3_linkUses_67 ⟨Nat.le_of_ble_eq_true rfl, Nat.le_of_ble_eq_true rfl⟩) hS (fun q _ h => hFc q h) hFc (fun rr28 u t H27 locs ht hvm hw hB hz1 hk1 hS => ?_)
          obtain ⟨hP1, hK1, hD1⟩ := hB
          rw [ht] at hP1
          refine zTopi hw.symm ?_
          obtain ⟨hP, hD⟩ := va_join (wr := [(oX0 a0 h0 s0_12), (h0 2, .inl (y 1, 60, .inr (.inl (gB s0_12 2)))), (h0 3, .inl (y 0, 60, .inl (gA s0_12 3))), (h0 4, .inl (y 0, 60, .inl (gA s0_12 4))), (h0 5, .inl (y 0, 60, .inl (gA s0_12 5))), (h0 6, .inl (y 0, 60, .inl (gA s0_12 6))), (h0 7, .inl (y 0, 720, .inl (gA s0_12 7))), (h0 8, .inl (y 0, 60, .inl (gA s0_12 8))), (h0 9, .inl (y 0, 60, .inl (gA s0_12 9))), (h0 10, .inl (y 1, 60, .inr (.inl (gB s0_12 10)))), (h0 11, .inl (y 0, 60, .inl (gA s0_12 11))), (h0 12, .inl (y 0, 60, .inl (gA s0_12 12)))]) (w1 := (cX3 a3 h3 lxa (.ref a0) y s3_25)) hP hD [0, 1, 2, 3, 4] [5, 6, 7, 8, 9, 10, 11, 12, 13, 14, 15, 16] rfl rfl (by decide) (by decide) hk1 hFc hP1 hD1
          have hP : va_P (dC, dI) vwCl ((cX3 a3 h3 lxa (.ref a0) y s3_25) ++ (cX0 a0 h0 y s0_12)) H27 := hP.sub [12, 13, 14, 15, 16, 0, 1, 2, 3, 4, 5, 6, 7, 8, 9, 10, 11] rfl
          have hD : va_D A ((cX3 a3 h3 lxa (.ref a0) y s3_25) ++ (cX0 a0 h0 y s0_12)) := hD.sub [12, 13, 14, 15, 16, 0, 1, 2, 3, 4, 5, 6, 7, 8, 9, 10, 11] (by decide) rfl
          obtain ⟨hz29, h⟩ := zG_spec h
          have h := congrArg some (zI_r h hx8)
          have ho0 : r24 = or_ := congrArg (fun z : Int32 × SS × SS => z.1) (Option.some.inj h)
          have ho1 : s3_25 = o_3 := congrArg (fun z : Int32 × SS × SS => z.2.1) (Option.some.inj h)
          have ho2 : s0_12 = o_0 := congrArg (fun z : Int32 × SS × SS => z.2.2) (Option.some.inj h)
          exact W.zret (v := r24) hx hb hr (zb_nar hz29) (fun t ht hW => ⟨⟨r24, (), rfl, ho0, by rw [ht]; rw [← ho1, ← ho2]; exact hP, va_K.moved hW.alike hK, by rw [← ho1, ← ho2]; exact hD⟩, hS.F ht⟩) hS.2.2 dX3_linkUses_70
        · have h := zN c23 h
          refine lv_iload hx hb dX3_linkUses_42 (lv_at hl 0 rfl) ?_
          refine lv_if_eq (tgt := 71) hx hb dX3_linkUses_44 (by decide) (fun c30 => ?_) (fun c30 => ?_)
          · have h := zY c30 h
            refine lv_iload hx hb dX3_linkUses_71 (lv_at hl 0 rfl) ?_
            refine lv_if_eq (tgt := 105) hx hb dX3_linkUses_73 (by decide) (fun c31 => ?_) (fun c31 => ?_)
            · have h := zY c31 h
              refine lv_aload_n hx hb dX3_linkUses_105 rfl (lv_at hl 2 rfl) ?_
              refine va_get (D := (dC, dI)) (ci := 2) (v := .ref a0) (C := RX3) (T := TX3) (N := 17) hx hb hts inX3_ hown hK hP 0 rfl rfl 3 (by decide) (hts (.fieldLink RX3 36 "GateWheel$Reader" "circuit" "LGateWheel$Circuit;") (List.mem_of_getElem? (i := 2) rfl)) (fun _ h9 => h9) rfl dX3_linkUses_106 ?_
              refine lv_aload_n hx hb dX3_linkUses_109 rfl (lv_at hl 2 rfl) ?_
              refine va_get (D := (dC, dI)) (ci := 2) (v := .ref (h3 14)) (C := RX3) (T := TX3) (N := 17) hx hb hts inX3_ hown hK hP 0 rfl rfl 14 (by decide) (hts (.fieldLink RX3 30 "GateWheel$Reader" "useRoles" "[I") (List.mem_of_getElem? (i := 4) rfl)) (fun _ h9 => h9) rfl dX3_linkUses_110 ?_
              refine lv_iload_n hx hb dX3_linkUses_113 rfl (lv_at hl 4 rfl) ?_
              refine va_iald hx hb hK hP 3 0 rfl rfl hi14 dX3_linkUses_114 ?_
              refine lv_bipush (v := (-3)) hx hb dX3_linkUses_115 (by decide) ?_
              refine W_abs (fun GW32 eG33 => ?_)
              obtain ⟨ov35, hr36, h⟩ := zB_spec h
              have jn34 : ∀ (v38 : Int32) (HGW32 : Heap) (locs : List Loc) (ls : Array Slot), v38 = ov35 → va_P (dC, dI) vwCl ((cX3 a3 h3 lxa (.ref a0) y S3) ++ (cX0 a0 h0 y s0_12)) HGW32 → va_D A ((cX3 a3 h3 lxa (.ref a0) y S3) ++ (cX0 a0 h0 y s0_12)) → va_S A s.heap HGW32 locs → lv_has ls 5 [(3, .int r15), (0, .ref a3), (1, .int v10), (2, .int v11)] → GW32 HGW32 locs 0 0 (F0 m 130 ls [.int v38, .ref a0]) := by
                intro v38 HGW32 locs ls hv hP hD hS hl
                subst hv
                refine (eG33 _ _ _ _ _).mpr ?_
                refine lv_iload_n hx hb dX3_linkUses_130 rfl (lv_at hl 0 rfl) ?_
                obtain ⟨s0_39, hc40, h⟩ := zB_spec h
                have hPc := hP.sub (ws' := (cX0 a0 h0 y s0_12)) [5, 6, 7, 8, 9, 10, 11, 12, 13, 14, 15, 16] rfl
                have hDc := hD.sub (ws' := (cX0 a0 h0 y s0_12)) [5, 6, 7, 8, 9, 10, 11, 12, 13, 14, 15, 16] (by decide) rfl
                have hFc := va_free (wc := (cX0 a0 h0 y s0_12)) hD hS hA [5, 6, 7, 8, 9, 10, 11, 12, 13, 14, 15, 16] rfl
                refine va_callv (va_runV (As := [.int v38, .int r15]) (rest := []) ⟨hx, hb, hml, hown, hts⟩ (m_X0_addPart l dC dI y a0 h0 s0_12 v38 r15 HGW32.size s0_39 hc40) (cwV 2 hts gX3_linkUses_X0_addPart rfl rfl rfl (by decide +kernel) ⟨Nat.le_of_ble_eq_true rfl, Nat.le_of_ble_eq_true rfl⟩) ⟨fun a U g mk q => by obtain ⟨q0, q1, qP, qK, qD⟩ := q; exact ⟨q0, q1, qP, va_K.moved (u := U) (U := U.calling g mk a) (Vm.Alike.refl U.vm) qK, qD⟩, va_recv hK hPc (ci := 0) (q0 := 0) rfl rfl, fun U hU hW => ⟨rfl, by rw [hU], by rw [hU]; exact hPc, va_K.moved hW.alike hK, hDc.weaken (fun _ _ _ _ => trivial)⟩⟩ rfl rfl hl.1 rfl (lv_room (Nat.le_of_ble_eq_true rfl)) dX3_linkUses_131 ⟨Nat.le_of_ble_eq_true rfl, Nat.le_of_ble_eq_true rfl⟩) hS (fun q _ h => hFc q h) hFc (fun u t H41 locs ht hvm hw hB hz1 hk1 hS => ?_)
                obtain ⟨hP1, hK1, hD1⟩ := hB
                rw [ht] at hP1
                obtain ⟨hP, hD⟩ := va_join (wr := [(oX3 a3 h3 lxa (.ref a0) S3), (h3 12, .inl (y 1, 667, .inr (.inl (gB S3 12)))), (h3 13, .inl (y 0, 667, .inl (gA S3 13))), (h3 14, .inl (y 0, 667, .inl (gA S3 14))), (h3 16, .inl (y 1, 60, .inr (.inl (gB S3 16))))]) (w1 := (cX0 a0 h0 y s0_39)) hP hD [5, 6, 7, 8, 9, 10, 11, 12, 13, 14, 15, 16] [0, 1, 2, 3, 4] rfl rfl (by decide) (by decide) hk1 hFc hP1 hD1
                have hP : va_P (dC, dI) vwCl ((cX3 a3 h3 lxa (.ref a0) y S3) ++ (cX0 a0 h0 y s0_39)) H41 := hP.sub [0, 1, 2, 3, 4, 5, 6, 7, 8, 9, 10, 11, 12, 13, 14, 15, 16] rfl
                have hD : va_D A ((cX3 a3 h3 lxa (.ref a0) y S3) ++ (cX0 a0 h0 y s0_39)) := hD.sub [0, 1, 2, 3, 4, 5, 6, 7, 8, 9, 10, 11, 12, 13, 14, 15, 16] (by decide) rfl
                obtain ⟨v43, ev43, h⟩ := zL_spec h
                refine lv_iinc (v := v43) (lv' := [(2, .int v43), (3, .int r15), (0, .ref a3), (1, .int v10)]) hx hb dX3_linkUses_134 hl (k := 3) rfl (by rw [ev43]; rfl) (by decide) rfl (fun ls hl => ?_)
                refine lv_goto (tgt := 4) hx hb dX3_linkUses_137 (by decide) ?_
                have h := zI_l h hx8
                exact (eG2 _ _ _ _ _).mp (ihlp4 v10 v43 s0_39 _ _ _ h hP hD hS (lv_sub hl [2, 3, 0] rfl))
              refine (eG33 _ _ _ _ _).mpr ?_
              have h := hr36
              refine lv_icmp_ne (tgt := 124) hx hb dX3_linkUses_117 (by decide) (fun c44 => ?_) (fun c44 => ?_)
              · have h := zN c44 h
                refine lv_aload_n hx hb dX3_linkUses_124 rfl (lv_at hl 2 rfl) ?_
                refine va_get (D := (dC, dI)) (ci := 2) (v := .ref (h3 14)) (C := RX3) (T := TX3) (N := 17) hx hb hts inX3_ hown hK hP 0 rfl rfl 14 (by decide) (hts (.fieldLink RX3 30 "GateWheel$Reader" "useRoles" "[I") (List.mem_of_getElem? (i := 4) rfl)) (fun _ h9 => h9) rfl dX3_linkUses_125 ?_
                refine lv_iload_n hx hb dX3_linkUses_128 rfl (lv_at hl 4 rfl) ?_
                refine va_iald hx hb hK hP 3 0 rfl rfl hi14 dX3_linkUses_129 ?_
                exact (eG33 _ _ _ _ _).mp (jn34 (gA S3 14 v11.toNatClampNeg) _ _ _ (Option.some.inj h) hP hD hS (lv_sub hl [1, 2, 3, 4] rfl))
              · have h := zY c44 h
                refine lv_iload_n hx hb dX3_linkUses_120 rfl (lv_at hl 3 rfl) ?_
                refine lv_goto (tgt := 130) hx hb dX3_linkUses_121 (by decide) ?_
                exact (eG33 _ _ _ _ _).mp (jn34 v10 _ _ _ (Option.some.inj h) hP hD hS (lv_sub hl [1, 2, 3, 4] rfl))
            · have h := zN c31 h
              refine lv_iload_n hx hb dX3_linkUses_76 rfl (lv_at hl 1 rfl) ?_
              refine lv_istore_n (lv' := [(1, .int r15), (4, .int r19), (3, .int r15), (0, .ref a3), (2, .int v11)]) hx hb dX3_linkUses_77 rfl hl (by decide) rfl (fun ls hl => ?_)
              refine lv_aload_n hx hb dX3_linkUses_78 rfl (lv_at hl 3 rfl) ?_
              refine va_get (D := (dC, dI)) (ci := 2) (v := .ref a0) (C := RX3) (T := TX3) (N := 17) hx hb hts inX3_ hown hK hP 0 rfl rfl 3 (by decide) (hts (.fieldLink RX3 36 "GateWheel$Reader" "circuit" "LGateWheel$Circuit;") (List.mem_of_getElem? (i := 2) rfl)) (fun _ h9 => h9) rfl dX3_linkUses_79 ?_
              refine lv_iload_n hx hb dX3_linkUses_82 rfl (lv_at hl 0 rfl) ?_
              refine lv_aload_n hx hb dX3_linkUses_83 rfl (lv_at hl 3 rfl) ?_
              refine va_get (D := (dC, dI)) (ci := 2) (v := .ref (h3 14)) (C := RX3) (T := TX3) (N := 17) hx hb hts inX3_ hown hK hP 0 rfl rfl 14 (by decide) (hts (.fieldLink RX3 30 "GateWheel$Reader" "useRoles" "[I") (List.mem_of_getElem? (i := 4) rfl)) (fun _ h9 => h9) rfl dX3_linkUses_84 ?_
              refine lv_iload_n hx hb dX3_linkUses_87 rfl (lv_at hl 4 rfl) ?_
              refine va_iald hx hb hK hP 3 0 rfl rfl hi14 dX3_linkUses_88 ?_
              refine lv_bipush (v := (-2)) hx hb dX3_linkUses_89 (by decide) ?_
              refine W_abs (fun GW45 eG46 => ?_)
              obtain ⟨ov48, hr49, h⟩ := zB_spec h
              have jn47 : ∀ (v51 : Int32) (HGW45 : Heap) (locs : List Loc) (ls : Array Slot), v51 = ov48 → va_P (dC, dI) vwCl ((cX3 a3 h3 lxa (.ref a0) y S3) ++ (cX0 a0 h0 y s0_12)) HGW45 → va_D A ((cX3 a3 h3 lxa (.ref a0) y S3) ++ (cX0 a0 h0 y s0_12)) → va_S A s.heap HGW45 locs → lv_has ls 5 [(1, .int r15), (0, .ref a3), (2, .int v11)] → GW45 HGW45 locs 0 0 (F0 m 99 ls [.int v51, .int r15, .ref a0]) := by
                intro v51 HGW45 locs ls hv hP hD hS hl
                subst hv
                refine (eG46 _ _ _ _ _).mpr ?_
                obtain ⟨s0_52, hc53, h⟩ := zB_spec h
                have hPc := hP.sub (ws' := (cX0 a0 h0 y s0_12)) [5, 6, 7, 8, 9, 10, 11, 12, 13, 14, 15, 16] rfl
                have hDc := hD.sub (ws' := (cX0 a0 h0 y s0_12)) [5, 6, 7, 8, 9, 10, 11, 12, 13, 14, 15, 16] (by decide) rfl
                have hFc := va_free (wc := (cX0 a0 h0 y s0_12)) hD hS hA [5, 6, 7, 8, 9, 10, 11, 12, 13, 14, 15, 16] rfl
                refine va_callv (va_runV (As := [.int r15, .int v51]) (rest := []) ⟨hx, hb, hml, hown, hts⟩ (m_X0_beginDriver l dC dI y a0 h0 s0_12 r15 v51 HGW45.size s0_52 hc53) (cwV 2 hts gX3_linkUses_X0_beginDriver rfl rfl rfl (by decide +kernel) ⟨Nat.le_of_ble_eq_true rfl, Nat.le_of_ble_eq_true rfl⟩) ⟨fun a U g mk q => by obtain ⟨q0, q1, qP, qK, qD⟩ := q; exact ⟨q0, q1, qP, va_K.moved (u := U) (U := U.calling g mk a) (Vm.Alike.refl U.vm) qK, qD⟩, va_recv hK hPc (ci := 0) (q0 := 0) rfl rfl, fun U hU hW => ⟨rfl, by rw [hU], by rw [hU]; exact hPc, va_K.moved hW.alike hK, hDc.weaken (fun _ _ _ _ => trivial)⟩⟩ rfl rfl hl.1 rfl (lv_room (Nat.le_of_ble_eq_true rfl)) dX3_linkUses_99 ⟨Nat.le_of_ble_eq_true rfl, Nat.le_of_ble_eq_true rfl⟩) hS (fun q _ h => hFc q h) hFc (fun u t H54 locs ht hvm hw hB hz1 hk1 hS => ?_)
                obtain ⟨hP1, hK1, hD1⟩ := hB
                rw [ht] at hP1
                obtain ⟨hP, hD⟩ := va_join (wr := [(oX3 a3 h3 lxa (.ref a0) S3), (h3 12, .inl (y 1, 667, .inr (.inl (gB S3 12)))), (h3 13, .inl (y 0, 667, .inl (gA S3 13))), (h3 14, .inl (y 0, 667, .inl (gA S3 14))), (h3 16, .inl (y 1, 60, .inr (.inl (gB S3 16))))]) (w1 := (cX0 a0 h0 y s0_52)) hP hD [5, 6, 7, 8, 9, 10, 11, 12, 13, 14, 15, 16] [0, 1, 2, 3, 4] rfl rfl (by decide) (by decide) hk1 hFc hP1 hD1
                have hP : va_P (dC, dI) vwCl ((cX3 a3 h3 lxa (.ref a0) y S3) ++ (cX0 a0 h0 y s0_52)) H54 := hP.sub [0, 1, 2, 3, 4, 5, 6, 7, 8, 9, 10, 11, 12, 13, 14, 15, 16] rfl
                have hD : va_D A ((cX3 a3 h3 lxa (.ref a0) y S3) ++ (cX0 a0 h0 y s0_52)) := hD.sub [0, 1, 2, 3, 4, 5, 6, 7, 8, 9, 10, 11, 12, 13, 14, 15, 16] (by decide) rfl
                refine lv_goto (tgt := 134) hx hb dX3_linkUses_102 (by decide) ?_
                obtain ⟨v56, ev56, h⟩ := zL_spec h
                refine lv_iinc (v := v56) (lv' := [(2, .int v56), (1, .int r15), (0, .ref a3)]) hx hb dX3_linkUses_134 hl (k := 2) rfl (by rw [ev56]; rfl) (by decide) rfl (fun ls hl => ?_)
                refine lv_goto (tgt := 4) hx hb dX3_linkUses_137 (by decide) ?_
                have h := zI_l h hx8
                exact (eG2 _ _ _ _ _).mp (ihlp4 r15 v56 s0_52 _ _ _ h hP hD hS (lv_sub hl [2, 1, 0] rfl))
              refine (eG46 _ _ _ _ _).mpr ?_
              have h := hr49
              refine lv_icmp_ne (tgt := 98) hx hb dX3_linkUses_91 (by decide) (fun c57 => ?_) (fun c57 => ?_)
              · have h := zN c57 h
                refine lv_iconst (v := 0) hx hb dX3_linkUses_98 (by decide) ?_
                exact (eG46 _ _ _ _ _).mp (jn47 (0 : Int32) _ _ _ (Option.some.inj h) hP hD hS (lv_sub hl [0, 3, 4] rfl))
              · have h := zY c57 h
                refine lv_iconst (v := 1) hx hb dX3_linkUses_94 (by decide) ?_
                refine lv_goto (tgt := 99) hx hb dX3_linkUses_95 (by decide) ?_
                exact (eG46 _ _ _ _ _).mp (jn47 (1 : Int32) _ _ _ (Option.some.inj h) hP hD hS (lv_sub hl [0, 3, 4] rfl))
          · have h := zN c30 h
            refine lv_aload_n hx hb dX3_linkUses_47 rfl (lv_at hl 2 rfl) ?_
            refine va_get (D := (dC, dI)) (ci := 2) (v := .ref a0) (C := RX3) (T := TX3) (N := 17) hx hb hts inX3_ hown hK hP 0 rfl rfl 3 (by decide) (hts (.fieldLink RX3 36 "GateWheel$Reader" "circuit" "LGateWheel$Circuit;") (List.mem_of_getElem? (i := 2) rfl)) (fun _ h9 => h9) rfl dX3_linkUses_48 ?_
            refine lv_iload_n hx hb dX3_linkUses_51 rfl (lv_at hl 1 rfl) ?_
            refine lv_iconst (v := 1) hx hb dX3_linkUses_52 (by decide) ?_
            obtain ⟨r58, hc59, h⟩ := zB_spec h
            have hPc := hP.sub (ws' := (cX0 a0 h0 y s0_12)) [5, 6, 7, 8, 9, 10, 11, 12, 13, 14, 15, 16] rfl
            have hDc := hD.sub (ws' := (cX0 a0 h0 y s0_12)) [5, 6, 7, 8, 9, 10, 11, 12, 13, 14, 15, 16] (by decide) rfl
            have hFc := va_free (wc := (cX0 a0 h0 y s0_12)) hD hS hA [5, 6, 7, 8, 9, 10, 11, 12, 13, 14, 15, 16] rfl
            refine va_calli (va_runV (As := [.int r15, .int 1]) (rest := []) ⟨hx, hb, hml, hown, hts⟩ (m_X0_isKind l dC dI y a0 h0 s0_12 r15 (1 : Int32) H21.size r58 hc59) (cwV 2 hts gX3_linkUses_X0_isKind rfl rfl rfl (by decide +kernel) ⟨Nat.le_of_ble_eq_true rfl, Nat.le_of_ble_eq_true rfl⟩) ⟨fun a U g mk q => by obtain ⟨q0, q1, qP, qK, qD⟩ := q; exact ⟨q0, q1, qP, va_K.moved (u := U) (U := U.calling g mk a) (Vm.Alike.refl U.vm) qK, qD⟩, va_recv hK hPc (ci := 0) (q0 := 0) rfl rfl, fun U hU hW => ⟨rfl, by rw [hU], by rw [hU]; exact hPc, va_K.moved hW.alike hK, hDc.weaken (fun _ _ _ _ => trivial)⟩⟩ rfl rfl hl.1 rfl (lv_room (Nat.le_of_ble_eq_true rfl)) dX3_linkUses_53 ⟨Nat.le_of_ble_eq_true rfl, Nat.le_of_ble_eq_true rfl⟩) hS (fun q _ h => hFc q h) hFc (fun rr61 u t H60 locs ht hvm hw hB hz1 hk1 hS => ?_)
            obtain ⟨hP1, hK1, hD1⟩ := hB
            rw [ht] at hP1
            refine zTopi hw.symm ?_
            obtain ⟨hP, hD⟩ := va_join (wr := [(oX3 a3 h3 lxa (.ref a0) S3), (h3 12, .inl (y 1, 667, .inr (.inl (gB S3 12)))), (h3 13, .inl (y 0, 667, .inl (gA S3 13))), (h3 14, .inl (y 0, 667, .inl (gA S3 14))), (h3 16, .inl (y 1, 60, .inr (.inl (gB S3 16))))]) (w1 := (cX0 a0 h0 y s0_12)) hP hD [5, 6, 7, 8, 9, 10, 11, 12, 13, 14, 15, 16] [0, 1, 2, 3, 4] rfl rfl (by decide) (by decide) hk1 hFc hP1 hD1
            have hP : va_P (dC, dI) vwCl ((cX3 a3 h3 lxa (.ref a0) y S3) ++ (cX0 a0 h0 y s0_12)) H60 := hP.sub [0, 1, 2, 3, 4, 5, 6, 7, 8, 9, 10, 11, 12, 13, 14, 15, 16] rfl
            have hD : va_D A ((cX3 a3 h3 lxa (.ref a0) y S3) ++ (cX0 a0 h0 y s0_12)) := hD.sub [0, 1, 2, 3, 4, 5, 6, 7, 8, 9, 10, 11, 12, 13, 14, 15, 16] (by decide) rfl
            refine lv_if_ne (tgt := 71) hx hb dX3_linkUses_56 (by decide) (fun c62 => ?_) (fun c62 => ?_)
            · have h := zN c62 h
              refine lv_iload hx hb dX3_linkUses_71 (lv_at hl 0 rfl) ?_
              refine lv_if_eq (tgt := 105) hx hb dX3_linkUses_73 (by decide) (fun c63 => ?_) (fun c63 => ?_)
              · have h := zY c63 h
                refine lv_aload_n hx hb dX3_linkUses_105 rfl (lv_at hl 2 rfl) ?_
                refine va_get (D := (dC, dI)) (ci := 2) (v := .ref a0) (C := RX3) (T := TX3) (N := 17) hx hb hts inX3_ hown hK hP 0 rfl rfl 3 (by decide) (hts (.fieldLink RX3 36 "GateWheel$Reader" "circuit" "LGateWheel$Circuit;") (List.mem_of_getElem? (i := 2) rfl)) (fun _ h9 => h9) rfl dX3_linkUses_106 ?_
                refine lv_aload_n hx hb dX3_linkUses_109 rfl (lv_at hl 2 rfl) ?_
                refine va_get (D := (dC, dI)) (ci := 2) (v := .ref (h3 14)) (C := RX3) (T := TX3) (N := 17) hx hb hts inX3_ hown hK hP 0 rfl rfl 14 (by decide) (hts (.fieldLink RX3 30 "GateWheel$Reader" "useRoles" "[I") (List.mem_of_getElem? (i := 4) rfl)) (fun _ h9 => h9) rfl dX3_linkUses_110 ?_
                refine lv_iload_n hx hb dX3_linkUses_113 rfl (lv_at hl 4 rfl) ?_
                refine va_iald hx hb hK hP 3 0 rfl rfl hi14 dX3_linkUses_114 ?_
                refine lv_bipush (v := (-3)) hx hb dX3_linkUses_115 (by decide) ?_
                refine W_abs (fun GW64 eG65 => ?_)
                obtain ⟨ov67, hr68, h⟩ := zB_spec h
                have jn66 : ∀ (v70 : Int32) (HGW64 : Heap) (locs : List Loc) (ls : Array Slot), v70 = ov67 → va_P (dC, dI) vwCl ((cX3 a3 h3 lxa (.ref a0) y S3) ++ (cX0 a0 h0 y s0_12)) HGW64 → va_D A ((cX3 a3 h3 lxa (.ref a0) y S3) ++ (cX0 a0 h0 y s0_12)) → va_S A s.heap HGW64 locs → lv_has ls 5 [(3, .int r15), (0, .ref a3), (1, .int v10), (2, .int v11)] → GW64 HGW64 locs 0 0 (F0 m 130 ls [.int v70, .ref a0]) := by
                  intro v70 HGW64 locs ls hv hP hD hS hl
                  subst hv
                  refine (eG65 _ _ _ _ _).mpr ?_
                  refine lv_iload_n hx hb dX3_linkUses_130 rfl (lv_at hl 0 rfl) ?_
                  obtain ⟨s0_71, hc72, h⟩ := zB_spec h
                  have hPc := hP.sub (ws' := (cX0 a0 h0 y s0_12)) [5, 6, 7, 8, 9, 10, 11, 12, 13, 14, 15, 16] rfl
                  have hDc := hD.sub (ws' := (cX0 a0 h0 y s0_12)) [5, 6, 7, 8, 9, 10, 11, 12, 13, 14, 15, 16] (by decide) rfl
                  have hFc := va_free (wc := (cX0 a0 h0 y s0_12)) hD hS hA [5, 6, 7, 8, 9, 10, 11, 12, 13, 14, 15, 16] rfl
                  refine va_callv (va_runV (As := [.int v70, .int r15]) (rest := []) ⟨hx, hb, hml, hown, hts⟩ (m_X0_addPart l dC dI y a0 h0 s0_12 v70 r15 HGW64.size s0_71 hc72) (cwV 2 hts gX3_linkUses_X0_addPart rfl rfl rfl (by decide +kernel) ⟨Nat.le_of_ble_eq_true rfl, Nat.le_of_ble_eq_true rfl⟩) ⟨fun a U g mk q => by obtain ⟨q0, q1, qP, qK, qD⟩ := q; exact ⟨q0, q1, qP, va_K.moved (u := U) (U := U.calling g mk a) (Vm.Alike.refl U.vm) qK, qD⟩, va_recv hK hPc (ci := 0) (q0 := 0) rfl rfl, fun U hU hW => ⟨rfl, by rw [hU], by rw [hU]; exact hPc, va_K.moved hW.alike hK, hDc.weaken (fun _ _ _ _ => trivial)⟩⟩ rfl rfl hl.1 rfl (lv_room (Nat.le_of_ble_eq_true rfl)) dX3_linkUses_131 ⟨Nat.le_of_ble_eq_true rfl, Nat.le_of_ble_eq_true rfl⟩) hS (fun q _ h => hFc q h) hFc (fun u t H73 locs ht hvm hw hB hz1 hk1 hS => ?_)
                  obtain ⟨hP1, hK1, hD1⟩ := hB
                  rw [ht] at hP1
                  obtain ⟨hP, hD⟩ := va_join (wr := [(oX3 a3 h3 lxa (.ref a0) S3), (h3 12, .inl (y 1, 667, .inr (.inl (gB S3 12)))), (h3 13, .inl (y 0, 667, .inl (gA S3 13))), (h3 14, .inl (y 0, 667, .inl (gA S3 14))), (h3 16, .inl (y 1, 60, .inr (.inl (gB S3 16))))]) (w1 := (cX0 a0 h0 y s0_71)) hP hD [5, 6, 7, 8, 9, 10, 11, 12, 13, 14, 15, 16] [0, 1, 2, 3, 4] rfl rfl (by decide) (by decide) hk1 hFc hP1 hD1
                  have hP : va_P (dC, dI) vwCl ((cX3 a3 h3 lxa (.ref a0) y S3) ++ (cX0 a0 h0 y s0_71)) H73 := hP.sub [0, 1, 2, 3, 4, 5, 6, 7, 8, 9, 10, 11, 12, 13, 14, 15, 16] rfl
                  have hD : va_D A ((cX3 a3 h3 lxa (.ref a0) y S3) ++ (cX0 a0 h0 y s0_71)) := hD.sub [0, 1, 2, 3, 4, 5, 6, 7, 8, 9, 10, 11, 12, 13, 14, 15, 16] (by decide) rfl
                  obtain ⟨v75, ev75, h⟩ := zL_spec h
                  refine lv_iinc (v := v75) (lv' := [(2, .int v75), (3, .int r15), (0, .ref a3), (1, .int v10)]) hx hb dX3_linkUses_134 hl (k := 3) rfl (by rw [ev75]; rfl) (by decide) rfl (fun ls hl => ?_)
                  refine lv_goto (tgt := 4) hx hb dX3_linkUses_137 (by decide) ?_
                  have h := zI_l h hx8
                  exact (eG2 _ _ _ _ _).mp (ihlp4 v10 v75 s0_71 _ _ _ h hP hD hS (lv_sub hl [2, 3, 0] rfl))
                refine (eG65 _ _ _ _ _).mpr ?_
                have h := hr68
                refine lv_icmp_ne (tgt := 124) hx hb dX3_linkUses_117 (by decide) (fun c76 => ?_) (fun c76 => ?_)
                · have h := zN c76 h
                  refine lv_aload_n hx hb dX3_linkUses_124 rfl (lv_at hl 2 rfl) ?_
                  refine va_get (D := (dC, dI)) (ci := 2) (v := .ref (h3 14)) (C := RX3) (T := TX3) (N := 17) hx hb hts inX3_ hown hK hP 0 rfl rfl 14 (by decide) (hts (.fieldLink RX3 30 "GateWheel$Reader" "useRoles" "[I") (List.mem_of_getElem? (i := 4) rfl)) (fun _ h9 => h9) rfl dX3_linkUses_125 ?_
                  refine lv_iload_n hx hb dX3_linkUses_128 rfl (lv_at hl 4 rfl) ?_
                  refine va_iald hx hb hK hP 3 0 rfl rfl hi14 dX3_linkUses_129 ?_
                  exact (eG65 _ _ _ _ _).mp (jn66 (gA S3 14 v11.toNatClampNeg) _ _ _ (Option.some.inj h) hP hD hS (lv_sub hl [1, 2, 3, 4] rfl))
                · have h := zY c76 h
                  refine lv_iload_n hx hb dX3_linkUses_120 rfl (lv_at hl 3 rfl) ?_
                  refine lv_goto (tgt := 130) hx hb dX3_linkUses_121 (by decide) ?_
                  exact (eG65 _ _ _ _ _).mp (jn66 v10 _ _ _ (Option.some.inj h) hP hD hS (lv_sub hl [1, 2, 3, 4] rfl))
              · have h := zN c63 h
                refine lv_iload_n hx hb dX3_linkUses_76 rfl (lv_at hl 1 rfl) ?_
                refine lv_istore_n (lv' := [(1, .int r15), (4, .int r19), (3, .int r15), (0, .ref a3), (2, .int v11)]) hx hb dX3_linkUses_77 rfl hl (by decide) rfl (fun ls hl => ?_)
                refine lv_aload_n hx hb dX3_linkUses_78 rfl (lv_at hl 3 rfl) ?_
                refine va_get (D := (dC, dI)) (ci := 2) (v := .ref a0) (C := RX3) (T := TX3) (N := 17) hx hb hts inX3_ hown hK hP 0 rfl rfl 3 (by decide) (hts (.fieldLink RX3 36 "GateWheel$Reader" "circuit" "LGateWheel$Circuit;") (List.mem_of_getElem? (i := 2) rfl)) (fun _ h9 => h9) rfl dX3_linkUses_79 ?_
                refine lv_iload_n hx hb dX3_linkUses_82 rfl (lv_at hl 0 rfl) ?_
                refine lv_aload_n hx hb dX3_linkUses_83 rfl (lv_at hl 3 rfl) ?_
                refine va_get (D := (dC, dI)) (ci := 2) (v := .ref (h3 14)) (C := RX3) (T := TX3) (N := 17) hx hb hts inX3_ hown hK hP 0 rfl rfl 14 (by decide) (hts (.fieldLink RX3 30 "GateWheel$Reader" "useRoles" "[I") (List.mem_of_getElem? (i := 4) rfl)) (fun _ h9 => h9) rfl dX3_linkUses_84 ?_
                refine lv_iload_n hx hb dX3_linkUses_87 rfl (lv_at hl 4 rfl) ?_
                refine va_iald hx hb hK hP 3 0 rfl rfl hi14 dX3_linkUses_88 ?_
                refine lv_bipush (v := (-2)) hx hb dX3_linkUses_89 (by decide) ?_
                refine W_abs (fun GW77 eG78 => ?_)
                obtain ⟨ov80, hr81, h⟩ := zB_spec h
                have jn79 : ∀ (v83 : Int32) (HGW77 : Heap) (locs : List Loc) (ls : Array Slot), v83 = ov80 → va_P (dC, dI) vwCl ((cX3 a3 h3 lxa (.ref a0) y S3) ++ (cX0 a0 h0 y s0_12)) HGW77 → va_D A ((cX3 a3 h3 lxa (.ref a0) y S3) ++ (cX0 a0 h0 y s0_12)) → va_S A s.heap HGW77 locs → lv_has ls 5 [(1, .int r15), (0, .ref a3), (2, .int v11)] → GW77 HGW77 locs 0 0 (F0 m 99 ls [.int v83, .int r15, .ref a0]) := by
                  intro v83 HGW77 locs ls hv hP hD hS hl
                  subst hv
                  refine (eG78 _ _ _ _ _).mpr ?_
                  obtain ⟨s0_84, hc85, h⟩ := zB_spec h
                  have hPc := hP.sub (ws' := (cX0 a0 h0 y s0_12)) [5, 6, 7, 8, 9, 10, 11, 12, 13, 14, 15, 16] rfl
                  have hDc := hD.sub (ws' := (cX0 a0 h0 y s0_12)) [5, 6, 7, 8, 9, 10, 11, 12, 13, 14, 15, 16] (by decide) rfl
                  have hFc := va_free (wc := (cX0 a0 h0 y s0_12)) hD hS hA [5, 6, 7, 8, 9, 10, 11, 12, 13, 14, 15, 16] rfl
                  refine va_callv (va_runV (As := [.int r15, .int v83]) (rest := []) ⟨hx, hb, hml, hown, hts⟩ (m_X0_beginDriver l dC dI y a0 h0 s0_12 r15 v83 HGW77.size s0_84 hc85) (cwV 2 hts gX3_linkUses_X0_beginDriver rfl rfl rfl (by decide +kernel) ⟨Nat.le_of_ble_eq_true rfl, Nat.le_of_ble_eq_true rfl⟩) ⟨fun a U g mk q => by obtain ⟨q0, q1, qP, qK, qD⟩ := q; exact ⟨q0, q1, qP, va_K.moved (u := U) (U := U.calling g mk a) (Vm.Alike.refl U.vm) qK, qD⟩, va_recv hK hPc (ci := 0) (q0 := 0) rfl rfl, fun U hU hW => ⟨rfl, by rw [hU], by rw [hU]; exact hPc, va_K.moved hW.alike hK, hDc.weaken (fun _ _ _ _ => trivial)⟩⟩ rfl rfl hl.1 rfl (lv_room (Nat.le_of_ble_eq_true rfl)) dX3_linkUses_99 ⟨Nat.le_of_ble_eq_true rfl, Nat.le_of_ble_eq_true rfl⟩) hS (fun q _ h => hFc q h) hFc (fun u t H86 locs ht hvm hw hB hz1 hk1 hS => ?_)
                  obtain ⟨hP1, hK1, hD1⟩ := hB
                  rw [ht] at hP1
                  obtain ⟨hP, hD⟩ := va_join (wr := [(oX3 a3 h3 lxa (.ref a0) S3), (h3 12, .inl (y 1, 667, .inr (.inl (gB S3 12)))), (h3 13, .inl (y 0, 667, .inl (gA S3 13))), (h3 14, .inl (y 0, 667, .inl (gA S3 14))), (h3 16, .inl (y 1, 60, .inr (.inl (gB S3 16))))]) (w1 := (cX0 a0 h0 y s0_84)) hP hD [5, 6, 7, 8, 9, 10, 11, 12, 13, 14, 15, 16] [0, 1, 2, 3, 4] rfl rfl (by decide) (by decide) hk1 hFc hP1 hD1
                  have hP : va_P (dC, dI) vwCl ((cX3 a3 h3 lxa (.ref a0) y S3) ++ (cX0 a0 h0 y s0_84)) H86 := hP.sub [0, 1, 2, 3, 4, 5, 6, 7, 8, 9, 10, 11, 12, 13, 14, 15, 16] rfl
                  have hD : va_D A ((cX3 a3 h3 lxa (.ref a0) y S3) ++ (cX0 a0 h0 y s0_84)) := hD.sub [0, 1, 2, 3, 4, 5, 6, 7, 8, 9, 10, 11, 12, 13, 14, 15, 16] (by decide) rfl
                  refine lv_goto (tgt := 134) hx hb dX3_linkUses_102 (by decide) ?_
                  obtain ⟨v88, ev88, h⟩ := zL_spec h
                  refine lv_iinc (v := v88) (lv' := [(2, .int v88), (1, .int r15), (0, .ref a3)]) hx hb dX3_linkUses_134 hl (k := 2) rfl (by rw [ev88]; rfl) (by decide) rfl (fun ls hl => ?_)
                  refine lv_goto (tgt := 4) hx hb dX3_linkUses_137 (by decide) ?_
                  have h := zI_l h hx8
                  exact (eG2 _ _ _ _ _).mp (ihlp4 r15 v88 s0_84 _ _ _ h hP hD hS (lv_sub hl [2, 1, 0] rfl))
                refine (eG78 _ _ _ _ _).mpr ?_
                have h := hr81
                refine lv_icmp_ne (tgt := 98) hx hb dX3_linkUses_91 (by decide) (fun c89 => ?_) (fun c89 => ?_)
                · have h := zN c89 h
                  refine lv_iconst (v := 0) hx hb dX3_linkUses_98 (by decide) ?_
                  exact (eG78 _ _ _ _ _).mp (jn79 (0 : Int32) _ _ _ (Option.some.inj h) hP hD hS (lv_sub hl [0, 3, 4] rfl))
                · have h := zY c89 h
                  refine lv_iconst (v := 1) hx hb dX3_linkUses_94 (by decide) ?_
                  refine lv_goto (tgt := 99) hx hb dX3_linkUses_95 (by decide) ?_
                  exact (eG78 _ _ _ _ _).mp (jn79 (1 : Int32) _ _ _ (Option.some.inj h) hP hD hS (lv_sub hl [0, 3, 4] rfl))
            · have h := zY c62 h
              refine lv_aload_n hx hb dX3_linkUses_59 rfl (lv_at hl 2 rfl) ?_
              refine lv_iconst (v := 4) hx hb dX3_linkUses_60 (by decide) ?_
              refine lv_aload_n hx hb dX3_linkUses_61 rfl (lv_at hl 2 rfl) ?_
              refine va_get (D := (dC, dI)) (ci := 2) (v := .ref (h3 13)) (C := RX3) (T := TX3) (N := 17) hx hb hts inX3_ hown hK hP 0 rfl rfl 13 (by decide) (hts (.fieldLink RX3 26 "GateWheel$Reader" "usePlaces" "[I") (List.mem_of_getElem? (i := 5) rfl)) (fun _ h9 => h9) rfl dX3_linkUses_62 ?_
              refine lv_iload_n hx hb dX3_linkUses_65 rfl (lv_at hl 4 rfl) ?_
              refine va_iald hx hb hK hP 2 0 rfl rfl hi14 dX3_linkUses_66 ?_
              obtain ⟨⟨r90, s3_91⟩, hc92, h⟩ := zB_spec h
              have hPc := hP.sub (ws' := (cX3 a3 h3 lxa (.ref a0) y S3)) [0, 1, 2, 3, 4] rfl
              have hDc := hD.sub (ws' := (cX3 a3 h3 lxa (.ref a0) y S3)) [0, 1, 2, 3, 4] (by decide) rfl
              have hFc := va_free (wc := (cX3 a3 h3 lxa (.ref a0) y S3)) hD hS hA [0, 1, 2, 3, 4] rfl
              refine va_calli (va_runV (As := [.int 4, .int (gA S3 13 v11.toNatClampNeg)]) (rest := []) ⟨hx, hb, hml, hown, hts⟩ (m_X3_failAt l dC dI y a3 h3 S3 lxa (.ref a0) (4 : Int32) (gA S3 13 v11.toNatClampNeg) H60.size r90 s3_91 hc92) (cwV 2 hts gX3_linkUses_X3_failAt rfl rfl rfl (by decide +kernel) ⟨Nat.le_of_ble_eq_true rfl, Nat.le_of_ble_eq_true rfl⟩) ⟨fun a U g mk q => by obtain ⟨q0, q1, qP, qK, qD⟩ := q; exact ⟨q0, q1, qP, va_K.moved (u := U) (U := U.calling g mk a) (Vm.Alike.refl U.vm) qK, qD⟩, va_recv hK hPc (ci := 2) (q0 := 0) rfl rfl, fun U hU hW => ⟨rfl, by rw [hU], by rw [hU]; exact hPc, va_K.moved hW.alike hK, hDc.weaken (fun _ _ _ _ => trivial)⟩⟩ rfl rfl hl.1 rfl (lv_room (Nat.le_of_ble_eq_true rfl)) dX3_linkUses_67 ⟨Nat.le_of_ble_eq_true rfl, Nat.le_of_ble_eq_true rfl⟩) hS (fun q _ h => hFc q h) hFc (fun rr94 u t H93 locs ht hvm hw hB hz1 hk1 hS => ?_)
              obtain ⟨hP1, hK1, hD1⟩ := hB
              rw [ht] at hP1
              refine zTopi hw.symm ?_
              obtain ⟨hP, hD⟩ := va_join (wr := [(oX0 a0 h0 s0_12), (h0 2, .inl (y 1, 60, .inr (.inl (gB s0_12 2)))), (h0 3, .inl (y 0, 60, .inl (gA s0_12 3))), (h0 4, .inl (y 0, 60, .inl (gA s0_12 4))), (h0 5, .inl (y 0, 60, .inl (gA s0_12 5))), (h0 6, .inl (y 0, 60, .inl (gA s0_12 6))), (h0 7, .inl (y 0, 720, .inl (gA s0_12 7))), (h0 8, .inl (y 0, 60, .inl (gA s0_12 8))), (h0 9, .inl (y 0, 60, .inl (gA s0_12 9))), (h0 10, .inl (y 1, 60, .inr (.inl (gB s0_12 10)))), (h0 11, .inl (y 0, 60, .inl (gA s0_12 11))), (h0 12, .inl (y 0, 60, .inl (gA s0_12 12)))]) (w1 := (cX3 a3 h3 lxa (.ref a0) y s3_91)) hP hD [0, 1, 2, 3, 4] [5, 6, 7, 8, 9, 10, 11, 12, 13, 14, 15, 16] rfl rfl (by decide) (by decide) hk1 hFc hP1 hD1
              have hP : va_P (dC, dI) vwCl ((cX3 a3 h3 lxa (.ref a0) y s3_91) ++ (cX0 a0 h0 y s0_12)) H93 := hP.sub [12, 13, 14, 15, 16, 0, 1, 2, 3, 4, 5, 6, 7, 8, 9, 10, 11] rfl
              have hD : va_D A ((cX3 a3 h3 lxa (.ref a0) y s3_91) ++ (cX0 a0 h0 y s0_12)) := hD.sub [12, 13, 14, 15, 16, 0, 1, 2, 3, 4, 5, 6, 7, 8, 9, 10, 11] (by decide) rfl
              obtain ⟨hz95, h⟩ := zG_spec h
              have h := congrArg some (zI_r h hx8)
              have ho0 : r90 = or_ := congrArg (fun z : Int32 × SS × SS => z.1) (Option.some.inj h)
              have ho1 : s3_91 = o_3 := congrArg (fun z : Int32 × SS × SS => z.2.1) (Option.some.inj h)
              have ho2 : s0_12 = o_0 := congrArg (fun z : Int32 × SS × SS => z.2.2) (Option.some.inj h)
              exact W.zret (v := r90) hx hb hr (zb_nar hz95) (fun t ht hW => ⟨⟨r90, (), rfl, ho0, by rw [ht]; rw [← ho1, ← ho2]; exact hP, va_K.moved hW.alike hK, by rw [← ho1, ← ho2]; exact hD⟩, hS.F ht⟩) hS.2.2 dX3_linkUses_70
  exact lp4 zF (-1 : Int32) (0 : Int32) S0 _ _ _ hi6 hP hD hS (lv_sub hl [2, 1, 0] rfl)

set_option maxHeartbeats 4000000 in
set_option maxRecDepth 100000 in
theorem m_X3_checkLoops (l : Launch) (dC : Nat → ClassId) (dI : Nat → Nat → Nat) (y : Nat → ClassId) (a3 : Nat) (h3 : Nat → Nat) (S3 : SS) (a0 : Nat) (h0 : Nat → Nat) (S0 : SS) (lxa : Nat) (sz : Nat) (or_ : Int32) (o_3 : SS) (h : f_X3_checkLoops S3 S0 = some (or_, o_3)) : Met l yX3_checkLoops wsX3_checkLoops ({ frames := 1, cells := 0, slots := 0, locals := 40 }) (va_Pc [.ref a3] (fun U => U.heap.size = sz ∧ va_P (dC, dI) vwCl ((cX3 a3 h3 lxa (.ref a0) y S3) ++ (cX0 a0 h0 y S0)) U.heap ∧ va_K (dC, dI) vwCl [(y 0, .int), (y 1, .long), (y 2, .byte), (y 3, .boolean)] U ∧ va_D (fun _ => True) ((cX3 a3 h3 lxa (.ref a0) y S3) ++ (cX0 a0 h0 y S0)))) (va_Qi (fun (r : Int32) (_ : Unit) => r = or_) (fun (_ : Unit) (t : State) => va_P (dC, dI) vwCl ((cX3 a3 h3 lxa (.ref a0) y o_3) ++ (cX0 a0 h0 y S0)) t.heap ∧ va_K (dC, dI) vwCl [(y 0, .int), (y 1, .long), (y 2, .byte), (y 3, .boolean)] t ∧ va_D (va_A ((cX3 a3 h3 lxa (.ref a0) y S3) ++ (cX0 a0 h0 y S0)) sz) ((cX3 a3 h3 lxa (.ref a0) y o_3) ++ (cX0 a0 h0 y S0))) (va_A ((cX3 a3 h3 lxa (.ref a0) y S3) ++ (cX0 a0 h0 y S0)) sz)) 0 0 (va_A ((cX3 a3 h3 lxa (.ref a0) y S3) ++ (cX0 a0 h0 y S0)) sz) := by
  refine Met.ofW (cc := cX3_checkLoops) (maxL := 4) (ret := (some .boolean)) (by decide +kernel) rfl ?_
  intro p e s m args below meth c s₁ B hml hv
  obtain ⟨rfl, hsz, hP, hK, hD0⟩ := hv
  have hx := B.exec
  have hb := B.bytes
  have hr := B.returns
  have hts := atoms_spec (ws := wsX3_checkLoops) B.pre
  have hown : s.vm.findClass RX3 = some m.cls := findClass_of_methodNamed B.named
  have hlocks := B.notSynchronized
  have inX0_ : ∀ w ∈ wsX00, w ∈ wsX3_checkLoops := fun _ h => List.mem_cons_of_mem _ (List.mem_append_right _ h)
  have inX3_ : ∀ w ∈ wsX30, w ∈ wsX3_checkLoops := fun _ h => List.mem_cons_of_mem _ (List.mem_append_left _ (List.mem_append_right _ h))
  subst hsz
  have hD := hD0.self (sz := s.heap.size)
  generalize hAe : va_A ((cX3 a3 h3 lxa (.ref a0) y S3) ++ (cX0 a0 h0 y S0)) s.heap.size = A at hD ⊢
  have hA : ∀ q : Nat, s.heap.size ≤ q → A q := fun q h => by rw [← hAe]; exact Or.inr h
  have hS : va_S A s.heap s.heap [] := va_S.rf
  have hP : va_P (dC, dI) vwCl ((cX3 a3 h3 lxa (.ref a0) y S3) ++ (cX0 a0 h0 y S0)) s.heap := hP
  have hl := lv_entry ([.ref a3]) (n := 4) (Nat.le_of_ble_eq_true rfl)
  rw [lg_entry_eq]
  generalize (lg_sl ([.ref a3]) ++ List.replicate (4 - (lg_sl ([.ref a3])).length) Slot.unset).toArray = ls at hl ⊢
  have hl : lv_has ls 4 [(0, .ref a3)] := hl
  refine lv_aload_n hx hb dX3_checkLoops_0 rfl (lv_at hl 0 rfl) ?_
  refine va_get (D := (dC, dI)) (ci := 2) (v := .ref a0) (C := RX3) (T := TX3) (N := 17) hx hb hts inX3_ hown hK hP 0 rfl rfl 3 (by decide) (hts (.fieldLink RX3 36 "GateWheel$Reader" "circuit" "LGateWheel$Circuit;") (List.mem_of_getElem? (i := 1) rfl)) (fun _ h9 => h9) rfl dX3_checkLoops_1 ?_
  refine va_get (D := (dC, dI)) (ci := 0) (v := .int (gI S0 0)) (C := RX0) (T := TX0) (N := 13) hx hb hts inX0_ hown hK hP 5 rfl rfl 0 (by decide) (hts (.fieldLink RX3 154 "GateWheel$Circuit" "count" "I") (List.mem_of_getElem? (i := 2) rfl)) (fun _ h9 => h9) rfl dX3_checkLoops_4 ?_
  obtain ⟨v1, ev1, h⟩ := zL_spec h
  refine zTopi ev1 ?_
  refine lv_istore_n (lv' := [(1, .int v1), (0, .ref a3)]) hx hb dX3_checkLoops_7 rfl hl (by decide) rfl (fun ls hl => ?_)
  refine lv_aload_n hx hb dX3_checkLoops_8 rfl (lv_at hl 1 rfl) ?_
  refine va_get (D := (dC, dI)) (ci := 2) (v := .ref a0) (C := RX3) (T := TX3) (N := 17) hx hb hts inX3_ hown hK hP 0 rfl rfl 3 (by decide) (hts (.fieldLink RX3 36 "GateWheel$Reader" "circuit" "LGateWheel$Circuit;") (List.mem_of_getElem? (i := 1) rfl)) (fun _ h9 => h9) rfl dX3_checkLoops_9 ?_
  refine va_get (D := (dC, dI)) (ci := 0) (v := .ref (h0 10)) (C := RX0) (T := TX0) (N := 13) hx hb hts inX0_ hown hK hP 5 rfl rfl 10 (by decide) (hts (.fieldLink RX3 230 "GateWheel$Circuit" "hangs" "[J") (List.mem_of_getElem? (i := 3) rfl)) (fun _ h9 => h9) rfl dX3_checkLoops_12 ?_
  refine lv_iconst (v := 0) hx hb dX3_checkLoops_15 (by decide) ?_
  refine lv_aload_n hx hb dX3_checkLoops_16 rfl (lv_at hl 1 rfl) ?_
  refine va_get (D := (dC, dI)) (ci := 2) (v := .ref (h3 16)) (C := RX3) (T := TX3) (N := 17) hx hb hts inX3_ hown hK hP 0 rfl rfl 16 (by decide) (hts (.fieldLink RX3 33 "GateWheel$Reader" "reach" "[J") (List.mem_of_getElem? (i := 4) rfl)) (fun _ h9 => h9) rfl dX3_checkLoops_17 ?_
  refine lv_iconst (v := 0) hx hb dX3_checkLoops_20 (by decide) ?_
  refine lv_bipush (v := 60) hx hb dX3_checkLoops_21 (by decide) ?_
  refine va_copyl (ty := .long) hx hb (by rw [hml]; exact hl.1.symm) hown (hts (.methodLink RX3 233 arraycopyName) (List.mem_of_getElem? (i := 5) rfl)) (hts (.native arraycopyName) (List.mem_of_getElem? (i := 6) rfl)) (hts (.static arraycopyName) (List.mem_of_getElem? (i := 7) rfl)) (hts (.initialized "java/lang/System") (List.mem_of_getElem? (i := 8) rfl)) hK hP hD hS 14 4 1 1 rfl rfl rfl rfl rfl (by decide) (by decide) (by decide) (by decide) (by decide) (fun _ _ => rfl) (Nat.le_of_ble_eq_true rfl) (Nat.le_of_ble_eq_true rfl) dX3_checkLoops_23 (fun H2 locs hP hD hS => ?_)
  obtain ⟨s3_3, es3_3, h⟩ := zL_spec h
  have hP : va_P (dC, dI) vwCl ((cX3 a3 h3 lxa (.ref a0) y s3_3) ++ (cX0 a0 h0 y S0)) H2 := by rw [es3_3]; exact hP
  have hD : va_D A ((cX3 a3 h3 lxa (.ref a0) y s3_3) ++ (cX0 a0 h0 y S0)) := by rw [es3_3]; exact hD
  refine lv_iconst (v := 0) hx hb dX3_checkLoops_26 (by decide) ?_
  refine lv_istore_n (lv' := [(2, .int 0), (1, .int v1), (0, .ref a3)]) hx hb dX3_checkLoops_27 rfl hl (by decide) rfl (fun ls hl => ?_)
  refine W_abs (fun GW4 eG5 => ?_)
  obtain ⟨ov8, hi9, h⟩ := zB_spec h
  have je6 : ∀ (s3_13 : SS) (HGW4e : Heap) (locs : List Loc) (ls : Array Slot), s3_13 = ov8 → va_P (dC, dI) vwCl ((cX3 a3 h3 lxa (.ref a0) y s3_13) ++ (cX0 a0 h0 y S0)) HGW4e → va_D A ((cX3 a3 h3 lxa (.ref a0) y s3_13) ++ (cX0 a0 h0 y S0)) → va_S A s.heap HGW4e locs → lv_has ls 4 [(1, .int v1), (0, .ref a3)] → GW4 HGW4e locs 0 0 (F0 m 82 ls []) := by
    intro s3_13 HGW4e locs ls hv hP hD hS hl
    subst hv
    refine (eG5 _ _ _ _ _).mpr ?_
    refine lv_iconst (v := 0) hx hb dX3_checkLoops_82 (by decide) ?_
    refine lv_istore_n (lv' := [(2, .int 0), (1, .int v1), (0, .ref a3)]) hx hb dX3_checkLoops_83 rfl hl (by decide) rfl (fun ls hl => ?_)
    refine W_abs (fun GW14 eG15 => ?_)
    have hi19 := h
    have lp17 : ∀ (n : Nat) (v23 : Int32) (HGW14 : Heap) (locs : List Loc) (ls : Array Slot), zI (b_X3_checkLoops_84 S0 v1 s3_13) n v23 = some (or_, o_3) → va_P (dC, dI) vwCl ((cX3 a3 h3 lxa (.ref a0) y s3_13) ++ (cX0 a0 h0 y S0)) HGW14 → va_D A ((cX3 a3 h3 lxa (.ref a0) y s3_13) ++ (cX0 a0 h0 y S0)) → va_S A s.heap HGW14 locs → lv_has ls 4 [(1, .int v1), (0, .ref a3), (2, .int v23)] → GW14 HGW14 locs 0 0 (F0 m 84 ls []) := by
      intro n
      induction n with
      | zero =>
        intro v23 HGW14 locs ls hi19 hP hD hS hl
        exact (zI_0 hi19).elim
      | succ n ihlp17 =>
        intro v23 HGW14 locs ls hi19 hP hD hS hl
        refine (eG15 _ _ _ _ _).mpr ?_
        obtain ⟨xx22, h, hx21⟩ := zI_spec hi19
        refine lv_iload_n hx hb dX3_checkLoops_84 rfl (lv_at hl 2 rfl) ?_
        refine lv_iload_n hx hb dX3_checkLoops_85 rfl (lv_at hl 0 rfl) ?_
        refine lv_icmp_ge (tgt := 125) hx hb dX3_checkLoops_86 (by decide) (fun c24 => ?_) (fun c24 => ?_)
        · have h := zY c24 h
          refine lv_iconst (v := 1) hx hb dX3_checkLoops_125 (by decide) ?_
          have h := congrArg some (zI_r h hx21)
          have ho0 : (1 : Int32) = or_ := congrArg (fun z : Int32 × SS => z.1) (Option.some.inj h)
          have ho1 : s3_13 = o_3 := congrArg (fun z : Int32 × SS => z.2) (Option.some.inj h)
          exact W.zret (v := 1) hx hb hr (by decide) (fun t ht hW => ⟨⟨1, (), rfl, ho0, by rw [ht]; rw [← ho1]; exact hP, va_K.moved hW.alike hK, by rw [← ho1]; exact hD⟩, hS.F ht⟩) hS.2.2 dX3_checkLoops_126
        · have h := zN c24 h
          refine lv_aload_n hx hb dX3_checkLoops_89 rfl (lv_at hl 1 rfl) ?_
          refine va_get (D := (dC, dI)) (ci := 2) (v := .ref (h3 16)) (C := RX3) (T := TX3) (N := 17) hx hb hts inX3_ hown hK hP 0 rfl rfl 16 (by decide) (hts (.fieldLink RX3 33 "GateWheel$Reader" "reach" "[J") (List.mem_of_getElem? (i := 4) rfl)) (fun _ h9 => h9) rfl dX3_checkLoops_90 ?_
          refine lv_iload_n hx hb dX3_checkLoops_93 rfl (lv_at hl 2 rfl) ?_
          obtain ⟨hi25, h⟩ := zG_spec h
          refine va_lald hx hb hK hP 4 1 rfl rfl hi25 dX3_checkLoops_94 ?_
          refine lv_iload_n hx hb dX3_checkLoops_95 rfl (lv_at hl 2 rfl) ?_
          refine lv_lushr (v := (jLu (gB s3_13 16 v23.toNatClampNeg) v23)) hx hb dX3_checkLoops_96 rfl ?_
          refine lv_lconst (v := 1) hx hb dX3_checkLoops_97 (by decide) ?_
          refine lv_land hx hb dX3_checkLoops_98 ?_
          refine lv_lconst (v := 1) hx hb dX3_checkLoops_99 (by decide) ?_
          refine W.lcmp hx hb dX3_checkLoops_100 ?_
          refine lv_if_ne (tgt := 119) hx hb dX3_checkLoops_101 (by decide) (fun c26 => ?_) (fun c26 => ?_)
          · have h := zN c26 h
            obtain ⟨v27, ev27, h⟩ := zL_spec h
            refine lv_iinc (v := v27) (lv' := [(2, .int v27), (1, .int v1), (0, .ref a3)]) hx hb dX3_checkLoops_119 hl (k := 2) rfl (by rw [ev27]; rfl) (by decide) rfl (fun ls hl => ?_)
            refine lv_goto (tgt := 84) hx hb dX3_checkLoops_122 (by decide) ?_
            have h := zI_l h hx21
            exact (eG15 _ _ _ _ _).mp (ihlp17 v27 _ _ _ h hP hD hS (lv_sub hl [1, 2, 0] rfl))
          · have h := zY c26 h
            refine lv_aload_n hx hb dX3_checkLoops_104 rfl (lv_at hl 1 rfl) ?_
            refine lv_iconst (v := 5) hx hb dX3_checkLoops_105 (by decide) ?_
            refine lv_aload_n hx hb dX3_checkLoops_106 rfl (lv_at hl 1 rfl) ?_
            refine va_get (D := (dC, dI)) (ci := 2) (v := .ref a0) (C := RX3) (T := TX3) (N := 17) hx hb hts inX3_ hown hK hP 0 rfl rfl 3 (by decide) (hts (.fieldLink RX3 36 "GateWheel$Reader" "circuit" "LGateWheel$Circuit;") (List.mem_of_getElem? (i := 1) rfl)) (fun _ h9 => h9) rfl dX3_checkLoops_107 ?_
            refine va_get (D := (dC, dI)) (ci := 0) (v := .ref (h0 3)) (C := RX0) (T := TX0) (N := 13) hx hb hts inX0_ hown hK hP 5 rfl rfl 3 (by decide) (hts (.fieldLink RX3 239 "GateWheel$Circuit" "places" "[I") (List.mem_of_getElem? (i := 9) rfl)) (fun _ h9 => h9) rfl dX3_checkLoops_110 ?_
            refine lv_iload_n hx hb dX3_checkLoops_113 rfl (lv_at hl 2 rfl) ?_
            refine va_iald hx hb hK hP 7 0 rfl rfl hi25 dX3_checkLoops_114 ?_
            obtain ⟨⟨r28, s3_29⟩, hc30, h⟩ := zB_spec h
            have hPc := hP.sub (ws' := (cX3 a3 h3 lxa (.ref a0) y s3_13)) [0, 1, 2, 3, 4] rfl
            have hDc := hD.sub (ws' := (cX3 a3 h3 lxa (.ref a0) y s3_13)) [0, 1, 2, 3, 4] (by decide) rfl
            have hFc := va_free (wc := (cX3 a3 h3 lxa (.ref a0) y s3_13)) hD hS hA [0, 1, 2, 3, 4] rfl
            refine va_calli (va_runV (As := [.int 5, .int (gA S0 3 v23.toNatClampNeg)]) (rest := []) ⟨hx, hb, hml, hown, hts⟩ (m_X3_failAt l dC dI y a3 h3 s3_13 lxa (.ref a0) (5 : Int32) (gA S0 3 v23.toNatClampNeg) HGW14.size r28 s3_29 hc30) (cwV 2 hts gX3_checkLoops_X3_failAt rfl rfl rfl (by decide +kernel) ⟨Nat.le_of_ble_eq_true rfl, Nat.le_of_ble_eq_true rfl⟩) ⟨fun a U g mk q => by obtain ⟨q0, q1, qP, qK, qD⟩ := q; exact ⟨q0, q1, qP, va_K.moved (u := U) (U := U.calling g mk a) (Vm.Alike.refl U.vm) qK, qD⟩, va_recv hK hPc (ci := 2) (q0 := 0) rfl rfl, fun U hU hW => ⟨rfl, by rw [hU], by rw [hU]; exact hPc, va_K.moved hW.alike hK, hDc.weaken (fun _ _ _ _ => trivial)⟩⟩ rfl rfl hl.1 rfl (lv_room (Nat.le_of_ble_eq_true rfl)) dX3_checkLoops_115 ⟨Nat.le_of_ble_eq_true rfl, Nat.le_of_ble_eq_true rfl⟩) hS (fun q _ h => hFc q h) hFc (fun rr32 u t H31 locs ht hvm hw hB hz1 hk1 hS => ?_)
            obtain ⟨hP1, hK1, hD1⟩ := hB
            rw [ht] at hP1
            refine zTopi hw.symm ?_
            obtain ⟨hP, hD⟩ := va_join (wr := [(oX0 a0 h0 S0), (h0 2, .inl (y 1, 60, .inr (.inl (gB S0 2)))), (h0 3, .inl (y 0, 60, .inl (gA S0 3))), (h0 4, .inl (y 0, 60, .inl (gA S0 4))), (h0 5, .inl (y 0, 60, .inl (gA S0 5))), (h0 6, .inl (y 0, 60, .inl (gA S0 6))), (h0 7, .inl (y 0, 720, .inl (gA S0 7))), (h0 8, .inl (y 0, 60, .inl (gA S0 8))), (h0 9, .inl (y 0, 60, .inl (gA S0 9))), (h0 10, .inl (y 1, 60, .inr (.inl (gB S0 10)))), (h0 11, .inl (y 0, 60, .inl (gA S0 11))), (h0 12, .inl (y 0, 60, .inl (gA S0 12)))]) (w1 := (cX3 a3 h3 lxa (.ref a0) y s3_29)) hP hD [0, 1, 2, 3, 4] [5, 6, 7, 8, 9, 10, 11, 12, 13, 14, 15, 16] rfl rfl (by decide) (by decide) hk1 hFc hP1 hD1
            have hP : va_P (dC, dI) vwCl ((cX3 a3 h3 lxa (.ref a0) y s3_29) ++ (cX0 a0 h0 y S0)) H31 := hP.sub [12, 13, 14, 15, 16, 0, 1, 2, 3, 4, 5, 6, 7, 8, 9, 10, 11] rfl
            have hD : va_D A ((cX3 a3 h3 lxa (.ref a0) y s3_29) ++ (cX0 a0 h0 y S0)) := hD.sub [12, 13, 14, 15, 16, 0, 1, 2, 3, 4, 5, 6, 7, 8, 9, 10, 11] (by decide) rfl
            obtain ⟨hz33, h⟩ := zG_spec h
            have h := congrArg some (zI_r h hx21)
            have ho0 : r28 = or_ := congrArg (fun z : Int32 × SS => z.1) (Option.some.inj h)
            have ho1 : s3_29 = o_3 := congrArg (fun z : Int32 × SS => z.2) (Option.some.inj h)
            exact W.zret (v := r28) hx hb hr (zb_nar hz33) (fun t ht hW => ⟨⟨r28, (), rfl, ho0, by rw [ht]; rw [← ho1]; exact hP, va_K.moved hW.alike hK, by rw [← ho1]; exact hD⟩, hS.F ht⟩) hS.2.2 dX3_checkLoops_118
    exact lp17 zF (0 : Int32) _ _ _ hi19 hP hD hS (lv_sub hl [1, 2, 0] rfl)
  have lp7 : ∀ (n : Nat) (v34 : Int32) (s3_35 : SS) (HGW4 : Heap) (locs : List Loc) (ls : Array Slot), zI (b_X3_checkLoops_28 v1) n (v34, s3_35) = some ov8 → va_P (dC, dI) vwCl ((cX3 a3 h3 lxa (.ref a0) y s3_35) ++ (cX0 a0 h0 y S0)) HGW4 → va_D A ((cX3 a3 h3 lxa (.ref a0) y s3_35) ++ (cX0 a0 h0 y S0)) → va_S A s.heap HGW4 locs → lv_has ls 4 [(1, .int v1), (0, .ref a3), (2, .int v34)] → GW4 HGW4 locs 0 0 (F0 m 28 ls []) := by
    intro n
    induction n with
    | zero =>
      intro v34 s3_35 HGW4 locs ls hi9 hP hD hS hl
      exact (zI_0 hi9).elim
    | succ n ihlp7 =>
      intro v34 s3_35 HGW4 locs ls hi9 hP hD hS hl
      refine (eG5 _ _ _ _ _).mpr ?_
      obtain ⟨xx12, h, hx11⟩ := zI_spec hi9
      refine lv_iload_n hx hb dX3_checkLoops_28 rfl (lv_at hl 2 rfl) ?_
      refine lv_iload_n hx hb dX3_checkLoops_29 rfl (lv_at hl 0 rfl) ?_
      refine lv_icmp_ge (tgt := 82) hx hb dX3_checkLoops_30 (by decide) (fun c36 => ?_) (fun c36 => ?_)
      · have h := zY c36 h
        exact (eG5 _ _ _ _ _).mp (je6 s3_35 _ _ _ (zI_r h hx11) hP hD hS (lv_sub hl [0, 1] rfl))
      · have h := zN c36 h
        refine lv_iconst (v := 0) hx hb dX3_checkLoops_33 (by decide) ?_
        refine lv_istore_n (lv' := [(3, .int 0), (1, .int v1), (0, .ref a3), (2, .int v34)]) hx hb dX3_checkLoops_34 rfl hl (by decide) rfl (fun ls hl => ?_)
        refine W_abs (fun GW37 eG38 => ?_)
        obtain ⟨ov41, hi42, h⟩ := zB_spec h
        have je39 : ∀ (s3_46 : SS) (HGW37e : Heap) (locs : List Loc) (ls : Array Slot), s3_46 = ov41 → va_P (dC, dI) vwCl ((cX3 a3 h3 lxa (.ref a0) y s3_46) ++ (cX0 a0 h0 y S0)) HGW37e → va_D A ((cX3 a3 h3 lxa (.ref a0) y s3_46) ++ (cX0 a0 h0 y S0)) → va_S A s.heap HGW37e locs → lv_has ls 4 [(1, .int v1), (0, .ref a3), (2, .int v34)] → GW37 HGW37e locs 0 0 (F0 m 76 ls []) := by
          intro s3_46 HGW37e locs ls hv hP hD hS hl
          subst hv
          refine (eG38 _ _ _ _ _).mpr ?_
          obtain ⟨v47, ev47, h⟩ := zL_spec h
          refine lv_iinc (v := v47) (lv' := [(2, .int v47), (1, .int v1), (0, .ref a3)]) hx hb dX3_checkLoops_76 hl (k := 2) rfl (by rw [ev47]; rfl) (by decide) rfl (fun ls hl => ?_)
          refine lv_goto (tgt := 28) hx hb dX3_checkLoops_79 (by decide) ?_
          have h := zI_l h hx11
          exact (eG5 _ _ _ _ _).mp (ihlp7 v47 s3_46 _ _ _ h hP hD hS (lv_sub hl [1, 2, 0] rfl))
        have lp40 : ∀ (n : Nat) (v48 : Int32) (s3_49 : SS) (HGW37 : Heap) (locs : List Loc) (ls : Array Slot), zI (b_X3_checkLoops_35 v1 v34) n (v48, s3_49) = some ov41 → va_P (dC, dI) vwCl ((cX3 a3 h3 lxa (.ref a0) y s3_49) ++ (cX0 a0 h0 y S0)) HGW37 → va_D A ((cX3 a3 h3 lxa (.ref a0) y s3_49) ++ (cX0 a0 h0 y S0)) → va_S A s.heap HGW37 locs → lv_has ls 4 [(1, .int v1), (0, .ref a3), (2, .int v34), (3, .int v48)] → GW37 HGW37 locs 0 0 (F0 m 35 ls []) := by
          intro n
          induction n with
          | zero =>
            intro v48 s3_49 HGW37 locs ls hi42 hP hD hS hl
            exact (zI_0 hi42).elim
          | succ n ihlp40 =>
            intro v48 s3_49 HGW37 locs ls hi42 hP hD hS hl
            refine (eG38 _ _ _ _ _).mpr ?_
            obtain ⟨xx45, h, hx44⟩ := zI_spec hi42
            refine lv_iload_n hx hb dX3_checkLoops_35 rfl (lv_at hl 3 rfl) ?_
            refine lv_iload_n hx hb dX3_checkLoops_36 rfl (lv_at hl 0 rfl) ?_
            refine lv_icmp_ge (tgt := 76) hx hb dX3_checkLoops_37 (by decide) (fun c50 => ?_) (fun c50 => ?_)
            · have h := zY c50 h
              exact (eG38 _ _ _ _ _).mp (je39 s3_49 _ _ _ (zI_r h hx44) hP hD hS (lv_sub hl [0, 1, 2] rfl))
            · have h := zN c50 h
              refine lv_aload_n hx hb dX3_checkLoops_40 rfl (lv_at hl 1 rfl) ?_
              refine va_get (D := (dC, dI)) (ci := 2) (v := .ref (h3 16)) (C := RX3) (T := TX3) (N := 17) hx hb hts inX3_ hown hK hP 0 rfl rfl 16 (by decide) (hts (.fieldLink RX3 33 "GateWheel$Reader" "reach" "[J") (List.mem_of_getElem? (i := 4) rfl)) (fun _ h9 => h9) rfl dX3_checkLoops_41 ?_
              refine lv_iload_n hx hb dX3_checkLoops_44 rfl (lv_at hl 3 rfl) ?_
              obtain ⟨hi51, h⟩ := zG_spec h
              refine va_lald hx hb hK hP 4 1 rfl rfl hi51 dX3_checkLoops_45 ?_
              refine lv_iload_n hx hb dX3_checkLoops_46 rfl (lv_at hl 2 rfl) ?_
              refine lv_lushr (v := (jLu (gB s3_49 16 v48.toNatClampNeg) v34)) hx hb dX3_checkLoops_47 rfl ?_
              refine lv_lconst (v := 1) hx hb dX3_checkLoops_48 (by decide) ?_
              refine lv_land hx hb dX3_checkLoops_49 ?_
              refine lv_lconst (v := 1) hx hb dX3_checkLoops_50 (by decide) ?_
              refine W.lcmp hx hb dX3_checkLoops_51 ?_
              refine lv_if_ne (tgt := 70) hx hb dX3_checkLoops_52 (by decide) (fun c52 => ?_) (fun c52 => ?_)
              · have h := zN c52 h
                obtain ⟨v53, ev53, h⟩ := zL_spec h
                refine lv_iinc (v := v53) (lv' := [(3, .int v53), (1, .int v1), (0, .ref a3), (2, .int v34)]) hx hb dX3_checkLoops_70 hl (k := 3) rfl (by rw [ev53]; rfl) (by decide) rfl (fun ls hl => ?_)
                refine lv_goto (tgt := 35) hx hb dX3_checkLoops_73 (by decide) ?_
                have h := zI_l h hx44
                exact (eG38 _ _ _ _ _).mp (ihlp40 v53 s3_49 _ _ _ h hP hD hS (lv_sub hl [1, 2, 3, 0] rfl))
              · have h := zY c52 h
                refine lv_aload_n hx hb dX3_checkLoops_55 rfl (lv_at hl 1 rfl) ?_
                refine va_get (D := (dC, dI)) (ci := 2) (v := .ref (h3 16)) (C := RX3) (T := TX3) (N := 17) hx hb hts inX3_ hown hK hP 0 rfl rfl 16 (by decide) (hts (.fieldLink RX3 33 "GateWheel$Reader" "reach" "[J") (List.mem_of_getElem? (i := 4) rfl)) (fun _ h9 => h9) rfl dX3_checkLoops_56 ?_
                refine lv_iload_n hx hb dX3_checkLoops_59 rfl (lv_at hl 3 rfl) ?_
                refine lv_dup2_11 hx hb dX3_checkLoops_60 rfl rfl ?_
                refine va_lald hx hb hK hP 4 1 rfl rfl hi51 dX3_checkLoops_61 ?_
                refine lv_aload_n hx hb dX3_checkLoops_62 rfl (lv_at hl 1 rfl) ?_
                refine va_get (D := (dC, dI)) (ci := 2) (v := .ref (h3 16)) (C := RX3) (T := TX3) (N := 17) hx hb hts inX3_ hown hK hP 0 rfl rfl 16 (by decide) (hts (.fieldLink RX3 33 "GateWheel$Reader" "reach" "[J") (List.mem_of_getElem? (i := 4) rfl)) (fun _ h9 => h9) rfl dX3_checkLoops_63 ?_
                refine lv_iload_n hx hb dX3_checkLoops_66 rfl (lv_at hl 2 rfl) ?_
                obtain ⟨hi54, h⟩ := zG_spec h
                refine va_lald hx hb hK hP 4 1 rfl rfl hi54 dX3_checkLoops_67 ?_
                refine lv_lor hx hb dX3_checkLoops_68 ?_
                refine va_last hx hb hK hP hD hS 4 1 rfl rfl hi51 dX3_checkLoops_69 (fun H55 locs hP hD hS => ?_)
                obtain ⟨s3_56, es3_56, h⟩ := zL_spec h
                have hP : va_P (dC, dI) vwCl ((cX3 a3 h3 lxa (.ref a0) y s3_56) ++ (cX0 a0 h0 y S0)) H55 := by rw [es3_56]; exact hP
                have hD : va_D A ((cX3 a3 h3 lxa (.ref a0) y s3_56) ++ (cX0 a0 h0 y S0)) := by rw [es3_56]; exact hD
                obtain ⟨v57, ev57, h⟩ := zL_spec h
                refine lv_iinc (v := v57) (lv' := [(3, .int v57), (1, .int v1), (0, .ref a3), (2, .int v34)]) hx hb dX3_checkLoops_70 hl (k := 3) rfl (by rw [ev57]; rfl) (by decide) rfl (fun ls hl => ?_)
                refine lv_goto (tgt := 35) hx hb dX3_checkLoops_73 (by decide) ?_
                have h := zI_l h hx44
                exact (eG38 _ _ _ _ _).mp (ihlp40 v57 s3_56 _ _ _ h hP hD hS (lv_sub hl [1, 2, 3, 0] rfl))
        exact lp40 zF (0 : Int32) s3_35 _ _ _ hi42 hP hD hS (lv_sub hl [1, 2, 3, 0] rfl)
  exact lp7 zF (0 : Int32) s3_3 _ _ _ hi9 hP hD hS (lv_sub hl [1, 2, 0] rfl)

set_option maxHeartbeats 4000000 in
set_option maxRecDepth 100000 in
theorem m_X3_takeTokens (l : Launch) (dC : Nat → ClassId) (dI : Nat → Nat → Nat) (y : Nat → ClassId) (a3 : Nat) (h3 : Nat → Nat) (S3 : SS) (a1 : Nat) (h1 : Nat → Nat) (S1 : SS) (atx : Nat) (ft : Nat → Int32) (a0 : Nat) (h0 : Nat → Nat) (S0 : SS) (tg : Nat × Nat × Nat × Nat) (sz : Nat) (or_ : Int32) (o_3 : SS) (o_1 : SS) (o_0 : SS) (h : f_X3_takeTokens S3 S1 ft S0 = some (or_, o_3, o_1, o_0)) : Met l yX3_takeTokens wsX3_takeTokens ({ frames := 4, cells := 0, slots := 0, locals := 88 }) (va_Pc [.ref a3] (fun U => U.heap.size = sz ∧ va_P (dC, dI) vwCl ((cX3 a3 h3 a1 (.ref a0) y S3) ++ ((cX1 a1 h1 (.ref atx) y S1) ++ (([(atx, .inl (y 2, 2000, .inl ft))]) ++ (cX0 a0 h0 y S0)))) U.heap ∧ va_K (dC, dI) vwCl [(y 0, .int), (y 1, .long), (y 2, .byte), (y 3, .boolean)] U ∧ va_D (fun _ => True) ((cX3 a3 h3 a1 (.ref a0) y S3) ++ ((cX1 a1 h1 (.ref atx) y S1) ++ (([(atx, .inl (y 2, 2000, .inl ft))]) ++ (cX0 a0 h0 y S0)))) ∧ STG tg (va_A ((cX3 a3 h3 a1 (.ref a0) y S3) ++ ((cX1 a1 h1 (.ref atx) y S1) ++ (([(atx, .inl (y 2, 2000, .inl ft))]) ++ (cX0 a0 h0 y S0)))) sz) U U.heap)) (va_Qi (fun (r : Int32) (_ : Unit) => r = or_) (fun (_ : Unit) (t : State) => va_P (dC, dI) vwCl ((cX3 a3 h3 a1 (.ref a0) y o_3) ++ ((cX1 a1 h1 (.ref atx) y o_1) ++ (([(atx, .inl (y 2, 2000, .inl ft))]) ++ (cX0 a0 h0 y o_0)))) t.heap ∧ va_K (dC, dI) vwCl [(y 0, .int), (y 1, .long), (y 2, .byte), (y 3, .boolean)] t ∧ va_D (va_A ((cX3 a3 h3 a1 (.ref a0) y S3) ++ ((cX1 a1 h1 (.ref atx) y S1) ++ (([(atx, .inl (y 2, 2000, .inl ft))]) ++ (cX0 a0 h0 y S0)))) sz) ((cX3 a3 h3 a1 (.ref a0) y o_3) ++ ((cX1 a1 h1 (.ref atx) y o_1) ++ (([(atx, .inl (y 2, 2000, .inl ft))]) ++ (cX0 a0 h0 y o_0))))) (va_A ((cX3 a3 h3 a1 (.ref a0) y S3) ++ ((cX1 a1 h1 (.ref atx) y S1) ++ (([(atx, .inl (y 2, 2000, .inl ft))]) ++ (cX0 a0 h0 y S0)))) sz)) 0 0 (va_A ((cX3 a3 h3 a1 (.ref a0) y S3) ++ ((cX1 a1 h1 (.ref atx) y S1) ++ (([(atx, .inl (y 2, 2000, .inl ft))]) ++ (cX0 a0 h0 y S0)))) sz) := by
  refine Met.ofW (cc := cX3_takeTokens) (maxL := 2) (ret := (some .boolean)) (by decide +kernel) rfl ?_
  intro p e s m args below meth c s₁ B hml hv
  obtain ⟨rfl, hsz, hP, hK, hD0, hST⟩ := hv
  have hx := B.exec
  have hb := B.bytes
  have hr := B.returns
  have hts := atoms_spec (ws := wsX3_takeTokens) B.pre
  have hown : s.vm.findClass RX3 = some m.cls := findClass_of_methodNamed B.named
  have hlocks := B.notSynchronized
  have inX1_ : ∀ w ∈ wsX10, w ∈ wsX3_takeTokens := fun _ h => List.mem_cons_of_mem _ (List.mem_append_left _ (List.mem_append_right _ h))
  have inX3_ : ∀ w ∈ wsX30, w ∈ wsX3_takeTokens := fun _ h => List.mem_cons_of_mem _ (List.mem_append_left _ (List.mem_append_left _ (List.mem_append_right _ h)))
  subst hsz
  have hD := hD0.self (sz := s.heap.size)
  generalize hAe : va_A ((cX3 a3 h3 a1 (.ref a0) y S3) ++ ((cX1 a1 h1 (.ref atx) y S1) ++ (([(atx, .inl (y 2, 2000, .inl ft))]) ++ (cX0 a0 h0 y S0)))) s.heap.size = A at hD hST ⊢
  have hA : ∀ q : Nat, s.heap.size ≤ q → A q := fun q h => by rw [← hAe]; exact Or.inr h
  have hS : va_S A s.heap s.heap [] := va_S.rf
  have hP : va_P (dC, dI) vwCl ((cX3 a3 h3 a1 (.ref a0) y S3) ++ ((cX1 a1 h1 (.ref atx) y S1) ++ (([(atx, .inl (y 2, 2000, .inl ft))]) ++ (cX0 a0 h0 y S0)))) s.heap := hP
  have hl := lv_entry ([.ref a3]) (n := 2) (Nat.le_of_ble_eq_true rfl)
  rw [lg_entry_eq]
  generalize (lg_sl ([.ref a3]) ++ List.replicate (2 - (lg_sl ([.ref a3])).length) Slot.unset).toArray = ls at hl ⊢
  have hl : lv_has ls 2 [(0, .ref a3)] := hl
  refine lv_aload_n hx hb dX3_takeTokens_0 rfl (lv_at hl 0 rfl) ?_
  refine lv_iconst (v := 0) hx hb dX3_takeTokens_1 (by decide) ?_
  refine va_put (D := (dC, dI)) (ci := 2) (v := .int 0) (ty := .int) (C := RX3) (T := TX3) (N := 17) hx hb hts inX3_ tyX3 tyX3_ok nmX3 hown hK hP hD hS 0 rfl rfl 4 (by decide) (hts (.fieldLink RX3 68 "GateWheel$Reader" "state" "I") (List.mem_of_getElem? (i := 1) rfl)) (fun _ h9 => h9) rfl (by decide +kernel) rfl rfl (Nat.le_of_ble_eq_true rfl) dX3_takeTokens_2 (fun H1 locs hP hD hS => ?_)
  obtain ⟨s3_2, es3_2, h⟩ := zL_spec h
  have hP : va_P (dC, dI) vwCl ((cX3 a3 h3 a1 (.ref a0) y s3_2) ++ ((cX1 a1 h1 (.ref atx) y S1) ++ (([(atx, .inl (y 2, 2000, .inl ft))]) ++ (cX0 a0 h0 y S0)))) H1 := by rw [es3_2]; exact hP
  have hD : va_D A ((cX3 a3 h3 a1 (.ref a0) y s3_2) ++ ((cX1 a1 h1 (.ref atx) y S1) ++ (([(atx, .inl (y 2, 2000, .inl ft))]) ++ (cX0 a0 h0 y S0)))) := by rw [es3_2]; exact hD
  refine lv_aload_n hx hb dX3_takeTokens_5 rfl (lv_at hl 0 rfl) ?_
  refine va_get (D := (dC, dI)) (ci := 2) (v := .ref a1) (C := RX3) (T := TX3) (N := 17) hx hb hts inX3_ hown hK hP 0 rfl rfl 2 (by decide) (hts (.fieldLink RX3 18 "GateWheel$Reader" "lexer" "LGateWheel$Lexer;") (List.mem_of_getElem? (i := 2) rfl)) (fun _ h9 => h9) rfl dX3_takeTokens_6 ?_
  obtain ⟨s1_3, hc4, h⟩ := zB_spec h
  have hPc := hP.sub (ws' := ((cX1 a1 h1 (.ref atx) y S1) ++ ([(atx, .inl (y 2, 2000, .inl ft))]))) [5, 6] rfl
  have hDc := hD.sub (ws' := ((cX1 a1 h1 (.ref atx) y S1) ++ ([(atx, .inl (y 2, 2000, .inl ft))]))) [5, 6] (by decide) rfl
  have hFc := va_free (wc := ((cX1 a1 h1 (.ref atx) y S1) ++ ([(atx, .inl (y 2, 2000, .inl ft))]))) hD hS hA [5, 6] rfl
  refine va_callv (va_runV (As := []) (rest := []) ⟨hx, hb, hml, hown, hts⟩ (m_X1_advance l dC dI y a1 h1 S1 atx ft H1.size s1_3 hc4) (cwV 0 hts gX3_takeTokens_X1_advance rfl rfl rfl (by decide +kernel) ⟨Nat.le_of_ble_eq_true rfl, Nat.le_of_ble_eq_true rfl⟩) ⟨fun a U g mk q => by obtain ⟨q0, q1, qP, qK, qD⟩ := q; exact ⟨q0, q1, qP, va_K.moved (u := U) (U := U.calling g mk a) (Vm.Alike.refl U.vm) qK, qD⟩, va_recv hK hPc (ci := 1) (q0 := 0) rfl rfl, fun U hU hW => ⟨rfl, by rw [hU], by rw [hU]; exact hPc, va_K.moved hW.alike hK, hDc.weaken (fun _ _ _ _ => trivial)⟩⟩ rfl rfl hl.1 rfl (lv_room (Nat.le_of_ble_eq_true rfl)) dX3_takeTokens_9 ⟨Nat.le_of_ble_eq_true rfl, Nat.le_of_ble_eq_true rfl⟩) hS (fun q _ h => hFc q h) hFc (fun u t H5 locs ht hvm hw hB hz1 hk1 hS => ?_)
  obtain ⟨hP1, hK1, hD1⟩ := hB
  rw [ht] at hP1
  obtain ⟨hP, hD⟩ := va_join (wr := [(oX3 a3 h3 a1 (.ref a0) s3_2), (h3 12, .inl (y 1, 667, .inr (.inl (gB s3_2 12)))), (h3 13, .inl (y 0, 667, .inl (gA s3_2 13))), (h3 14, .inl (y 0, 667, .inl (gA s3_2 14))), (h3 16, .inl (y 1, 60, .inr (.inl (gB s3_2 16)))), (oX0 a0 h0 S0), (h0 2, .inl (y 1, 60, .inr (.inl (gB S0 2)))), (h0 3, .inl (y 0, 60, .inl (gA S0 3))), (h0 4, .inl (y 0, 60, .inl (gA S0 4))), (h0 5, .inl (y 0, 60, .inl (gA S0 5))), (h0 6, .inl (y 0, 60, .inl (gA S0 6))), (h0 7, .inl (y 0, 720, .inl (gA S0 7))), (h0 8, .inl (y 0, 60, .inl (gA S0 8))), (h0 9, .inl (y 0, 60, .inl (gA S0 9))), (h0 10, .inl (y 1, 60, .inr (.inl (gB S0 10)))), (h0 11, .inl (y 0, 60, .inl (gA S0 11))), (h0 12, .inl (y 0, 60, .inl (gA S0 12)))]) (w1 := ((cX1 a1 h1 (.ref atx) y s1_3) ++ ([(atx, .inl (y 2, 2000, .inl ft))]))) hP hD [5, 6] [0, 1, 2, 3, 4, 7, 8, 9, 10, 11, 12, 13, 14, 15, 16, 17, 18] rfl rfl (by decide) (by decide) hk1 hFc hP1 hD1
  have hP : va_P (dC, dI) vwCl ((cX3 a3 h3 a1 (.ref a0) y s3_2) ++ ((cX1 a1 h1 (.ref atx) y s1_3) ++ (([(atx, .inl (y 2, 2000, .inl ft))]) ++ (cX0 a0 h0 y S0)))) H5 := hP.sub [0, 1, 2, 3, 4, 17, 18, 5, 6, 7, 8, 9, 10, 11, 12, 13, 14, 15, 16] rfl
  have hD : va_D A ((cX3 a3 h3 a1 (.ref a0) y s3_2) ++ ((cX1 a1 h1 (.ref atx) y s1_3) ++ (([(atx, .inl (y 2, 2000, .inl ft))]) ++ (cX0 a0 h0 y S0)))) := hD.sub [0, 1, 2, 3, 4, 17, 18, 5, 6, 7, 8, 9, 10, 11, 12, 13, 14, 15, 16] (by decide) rfl
  refine lv_iconst (v := 0) hx hb dX3_takeTokens_12 (by decide) ?_
  refine lv_istore_n (lv' := [(1, .int 0), (0, .ref a3)]) hx hb dX3_takeTokens_13 rfl hl (by decide) rfl (fun ls hl => ?_)
  refine W_abs (fun GW7 eG8 => ?_)
  obtain ⟨ov11, hi12, hk13⟩ := zS_spec h
  have je9 : ∀ (s3_16 : SS) (s1_17 : SS) (s0_18 : SS) (HGW7e : Heap) (locs : List Loc) (ls : Array Slot), Sum.inr (s3_16, s1_17, s0_18) = ov11 → va_P (dC, dI) vwCl ((cX3 a3 h3 a1 (.ref a0) y s3_16) ++ ((cX1 a1 h1 (.ref atx) y s1_17) ++ (([(atx, .inl (y 2, 2000, .inl ft))]) ++ (cX0 a0 h0 y s0_18)))) HGW7e → va_D A ((cX3 a3 h3 a1 (.ref a0) y s3_16) ++ ((cX1 a1 h1 (.ref atx) y s1_17) ++ (([(atx, .inl (y 2, 2000, .inl ft))]) ++ (cX0 a0 h0 y s0_18)))) → va_S A s.heap HGW7e locs → lv_has ls 2 [(0, .ref a3)] → GW7 HGW7e locs 0 0 (F0 m 54 ls []) := by
    intro s3_16 s1_17 s0_18 HGW7e locs ls hv hP hD hS hl
    subst hv
    have h := zS_r hk13
    refine (eG8 _ _ _ _ _).mpr ?_
    refine lv_aload_n hx hb dX3_takeTokens_54 rfl (lv_at hl 0 rfl) ?_
    refine va_get (D := (dC, dI)) (ci := 2) (v := .int (gI s3_16 4)) (C := RX3) (T := TX3) (N := 17) hx hb hts inX3_ hown hK hP 0 rfl rfl 4 (by decide) (hts (.fieldLink RX3 68 "GateWheel$Reader" "state" "I") (List.mem_of_getElem? (i := 1) rfl)) (fun _ h9 => h9) rfl dX3_takeTokens_55 ?_
    refine lv_if_eq (tgt := 68) hx hb dX3_takeTokens_58 (by decide) (fun c19 => ?_) (fun c19 => ?_)
    · have h := zY c19 h
      refine lv_iconst (v := 1) hx hb dX3_takeTokens_68 (by decide) ?_
      refine lv_goto (tgt := 73) hx hb dX3_takeTokens_69 (by decide) ?_
      have ho0 : (1 : Int32) = or_ := congrArg (fun z : Int32 × SS × SS × SS => z.1) (Option.some.inj h)
      have ho1 : s3_16 = o_3 := congrArg (fun z : Int32 × SS × SS × SS => z.2.1) (Option.some.inj h)
      have ho2 : s1_17 = o_1 := congrArg (fun z : Int32 × SS × SS × SS => z.2.2.1) (Option.some.inj h)
      have ho3 : s0_18 = o_0 := congrArg (fun z : Int32 × SS × SS × SS => z.2.2.2) (Option.some.inj h)
      exact W.zret (v := 1) hx hb hr (by decide) (fun t ht hW => ⟨⟨1, (), rfl, ho0, by rw [ht]; rw [← ho1, ← ho2, ← ho3]; exact hP, va_K.moved hW.alike hK, by rw [← ho1, ← ho2, ← ho3]; exact hD⟩, hS.F ht⟩) hS.2.2 dX3_takeTokens_73
    · have h := zN c19 h
      refine lv_aload_n hx hb dX3_takeTokens_61 rfl (lv_at hl 0 rfl) ?_
      obtain ⟨⟨r20, s3_21⟩, hc22, h⟩ := zB_spec h
      have hPc := hP.sub (ws' := ((cX3 a3 h3 a1 (.ref a0) y s3_16) ++ (cX1 a1 h1 (.ref atx) y s1_17))) [0, 1, 2, 3, 4, 5] rfl
      have hDc := hD.sub (ws' := ((cX3 a3 h3 a1 (.ref a0) y s3_16) ++ (cX1 a1 h1 (.ref atx) y s1_17))) [0, 1, 2, 3, 4, 5] (by decide) rfl
      have hFc := va_free (wc := ((cX3 a3 h3 a1 (.ref a0) y s3_16) ++ (cX1 a1 h1 (.ref atx) y s1_17))) hD hS hA [0, 1, 2, 3, 4, 5] rfl
      refine va_calli (va_runV (As := []) (rest := []) ⟨hx, hb, hml, hown, hts⟩ (m_X3_refuse l dC dI y a3 h3 s3_16 a1 h1 s1_17 (.ref a0) (.ref atx) HGW7e.size r20 s3_21 hc22) (cwV 0 hts gX3_takeTokens_X3_refuse rfl rfl rfl (by decide +kernel) ⟨Nat.le_of_ble_eq_true rfl, Nat.le_of_ble_eq_true rfl⟩) ⟨fun a U g mk q => by obtain ⟨q0, q1, qP, qK, qD⟩ := q; exact ⟨q0, q1, qP, va_K.moved (u := U) (U := U.calling g mk a) (Vm.Alike.refl U.vm) qK, qD⟩, va_recv hK hPc (ci := 2) (q0 := 0) rfl rfl, fun U hU hW => ⟨rfl, by rw [hU], by rw [hU]; exact hPc, va_K.moved hW.alike hK, hDc.weaken (fun _ _ _ _ => trivial)⟩⟩ rfl rfl hl.1 rfl (lv_room (Nat.le_of_ble_eq_true rfl)) dX3_takeTokens_62 ⟨Nat.le_of_ble_eq_true rfl, Nat.le_of_ble_eq_true rfl⟩) hS (fun q _ h => hFc q h) hFc (fun rr24 u t H23 locs ht hvm hw hB hz1 hk1 hS => ?_)
      obtain ⟨hP1, hK1, hD1⟩ := hB
      rw [ht] at hP1
      refine zTopi hw.symm ?_
      obtain ⟨hP, hD⟩ := va_join (wr := [(atx, .inl (y 2, 2000, .inl ft)), (oX0 a0 h0 s0_18), (h0 2, .inl (y 1, 60, .inr (.inl (gB s0_18 2)))), (h0 3, .inl (y 0, 60, .inl (gA s0_18 3))), (h0 4, .inl (y 0, 60, .inl (gA s0_18 4))), (h0 5, .inl (y 0, 60, .inl (gA s0_18 5))), (h0 6, .inl (y 0, 60, .inl (gA s0_18 6))), (h0 7, .inl (y 0, 720, .inl (gA s0_18 7))), (h0 8, .inl (y 0, 60, .inl (gA s0_18 8))), (h0 9, .inl (y 0, 60, .inl (gA s0_18 9))), (h0 10, .inl (y 1, 60, .inr (.inl (gB s0_18 10)))), (h0 11, .inl (y 0, 60, .inl (gA s0_18 11))), (h0 12, .inl (y 0, 60, .inl (gA s0_18 12)))]) (w1 := ((cX3 a3 h3 a1 (.ref a0) y s3_21) ++ (cX1 a1 h1 (.ref atx) y s1_17))) hP hD [0, 1, 2, 3, 4, 5] [6, 7, 8, 9, 10, 11, 12, 13, 14, 15, 16, 17, 18] rfl rfl (by decide) (by decide) hk1 hFc hP1 hD1
      have hP : va_P (dC, dI) vwCl ((cX3 a3 h3 a1 (.ref a0) y s3_21) ++ ((cX1 a1 h1 (.ref atx) y s1_17) ++ (([(atx, .inl (y 2, 2000, .inl ft))]) ++ (cX0 a0 h0 y s0_18)))) H23 := hP.sub [13, 14, 15, 16, 17, 18, 0, 1, 2, 3, 4, 5, 6, 7, 8, 9, 10, 11, 12] rfl
      have hD : va_D A ((cX3 a3 h3 a1 (.ref a0) y s3_21) ++ ((cX1 a1 h1 (.ref atx) y s1_17) ++ (([(atx, .inl (y 2, 2000, .inl ft))]) ++ (cX0 a0 h0 y s0_18)))) := hD.sub [13, 14, 15, 16, 17, 18, 0, 1, 2, 3, 4, 5, 6, 7, 8, 9, 10, 11, 12] (by decide) rfl
      refine lv_if_eq (tgt := 72) hx hb dX3_takeTokens_65 (by decide) (fun c25 => ?_) (fun c25 => ?_)
      · have h := zY c25 h
        refine lv_iconst (v := 0) hx hb dX3_takeTokens_72 (by decide) ?_
        have ho0 : (0 : Int32) = or_ := congrArg (fun z : Int32 × SS × SS × SS => z.1) (Option.some.inj h)
        have ho1 : s3_21 = o_3 := congrArg (fun z : Int32 × SS × SS × SS => z.2.1) (Option.some.inj h)
        have ho2 : s1_17 = o_1 := congrArg (fun z : Int32 × SS × SS × SS => z.2.2.1) (Option.some.inj h)
        have ho3 : s0_18 = o_0 := congrArg (fun z : Int32 × SS × SS × SS => z.2.2.2) (Option.some.inj h)
        exact W.zret (v := 0) hx hb hr (by decide) (fun t ht hW => ⟨⟨0, (), rfl, ho0, by rw [ht]; rw [← ho1, ← ho2, ← ho3]; exact hP, va_K.moved hW.alike hK, by rw [← ho1, ← ho2, ← ho3]; exact hD⟩, hS.F ht⟩) hS.2.2 dX3_takeTokens_73
      · have h := zN c25 h
        refine lv_iconst (v := 1) hx hb dX3_takeTokens_68 (by decide) ?_
        refine lv_goto (tgt := 73) hx hb dX3_takeTokens_69 (by decide) ?_
        have ho0 : (1 : Int32) = or_ := congrArg (fun z : Int32 × SS × SS × SS => z.1) (Option.some.inj h)
        have ho1 : s3_21 = o_3 := congrArg (fun z : Int32 × SS × SS × SS => z.2.1) (Option.some.inj h)
        have ho2 : s1_17 = o_1 := congrArg (fun z : Int32 × SS × SS × SS => z.2.2.1) (Option.some.inj h)
        have ho3 : s0_18 = o_0 := congrArg (fun z : Int32 × SS × SS × SS => z.2.2.2) (Option.some.inj h)
        exact W.zret (v := 1) hx hb hr (by decide) (fun t ht hW => ⟨⟨1, (), rfl, ho0, by rw [ht]; rw [← ho1, ← ho2, ← ho3]; exact hP, va_K.moved hW.alike hK, by rw [← ho1, ← ho2, ← ho3]; exact hD⟩, hS.F ht⟩) hS.2.2 dX3_takeTokens_73
  have lp10 : ∀ (n : Nat) (v26 : Int32) (s3_27 : SS) (s1_28 : SS) (s0_29 : SS) (HGW7 : Heap) (locs : List Loc) (ls : Array Slot), zI (b_X3_takeTokens_14 ft) n (v26, s3_27, s1_28, s0_29) = some ov11 → va_P (dC, dI) vwCl ((cX3 a3 h3 a1 (.ref a0) y s3_27) ++ ((cX1 a1 h1 (.ref atx) y s1_28) ++ (([(atx, .inl (y 2, 2000, .inl ft))]) ++ (cX0 a0 h0 y s0_29)))) HGW7 → va_D A ((cX3 a3 h3 a1 (.ref a0) y s3_27) ++ ((cX1 a1 h1 (.ref atx) y s1_28) ++ (([(atx, .inl (y 2, 2000, .inl ft))]) ++ (cX0 a0 h0 y s0_29)))) → va_S A s.heap HGW7 locs → lv_has ls 2 [(0, .ref a3), (1, .int v26)] → GW7 HGW7 locs 0 0 (F0 m 14 ls []) := by
    intro n
    induction n with
    | zero =>
      intro v26 s3_27 s1_28 s0_29 HGW7 locs ls hi12 hP hD hS hl
      exact (zI_0 hi12).elim
    | succ n ihlp10 =>
      intro v26 s3_27 s1_28 s0_29 HGW7 locs ls hi12 hP hD hS hl
      refine (eG8 _ _ _ _ _).mpr ?_
      obtain ⟨xx15, h, hx14⟩ := zI_spec hi12
      refine lv_iload_n hx hb dX3_takeTokens_14 rfl (lv_at hl 1 rfl) ?_
      refine lv_sipush (v := 2000) hx hb dX3_takeTokens_15 (by decide) ?_
      refine lv_icmp_ge (tgt := 54) hx hb dX3_takeTokens_18 (by decide) (fun c30 => ?_) (fun c30 => ?_)
      · have h := zY c30 h
        exact (eG8 _ _ _ _ _).mp (je9 s3_27 s1_28 s0_29 _ _ _ (zI_r h hx14) hP hD hS (lv_sub hl [0] rfl))
      · have h := zN c30 h
        refine lv_aload_n hx hb dX3_takeTokens_21 rfl (lv_at hl 0 rfl) ?_
        refine va_get (D := (dC, dI)) (ci := 2) (v := .ref a1) (C := RX3) (T := TX3) (N := 17) hx hb hts inX3_ hown hK hP 0 rfl rfl 2 (by decide) (hts (.fieldLink RX3 18 "GateWheel$Reader" "lexer" "LGateWheel$Lexer;") (List.mem_of_getElem? (i := 2) rfl)) (fun _ h9 => h9) rfl dX3_takeTokens_22 ?_
        refine va_get (D := (dC, dI)) (ci := 1) (v := .int (gI s1_28 3)) (C := RX1) (T := TX1) (N := 7) hx hb hts inX1_ hown hK hP 5 rfl rfl 3 (by decide) (hts (.fieldLink RX3 74 "GateWheel$Lexer" "kind" "I") (List.mem_of_getElem? (i := 3) rfl)) (fun _ h9 => h9) rfl dX3_takeTokens_25 ?_
        refine lv_iconst (v := 1) hx hb dX3_takeTokens_28 (by decide) ?_
        refine lv_icmp_eq (tgt := 54) hx hb dX3_takeTokens_29 (by decide) (fun c31 => ?_) (fun c31 => ?_)
        · have h := zY c31 h
          exact (eG8 _ _ _ _ _).mp (je9 s3_27 s1_28 s0_29 _ _ _ (zI_r h hx14) hP hD hS (lv_sub hl [0] rfl))
        · have h := zN c31 h
          refine lv_aload_n hx hb dX3_takeTokens_32 rfl (lv_at hl 0 rfl) ?_
          obtain ⟨⟨r32, s3_33, s0_34⟩, hc35, h⟩ := zB_spec h
          have hPc := hP.sub (ws' := ((cX3 a3 h3 a1 (.ref a0) y s3_27) ++ ((cX1 a1 h1 (.ref atx) y s1_28) ++ (cX0 a0 h0 y s0_29)))) [0, 1, 2, 3, 4, 5, 7, 8, 9, 10, 11, 12, 13, 14, 15, 16, 17, 18] rfl
          have hDc := hD.sub (ws' := ((cX3 a3 h3 a1 (.ref a0) y s3_27) ++ ((cX1 a1 h1 (.ref atx) y s1_28) ++ (cX0 a0 h0 y s0_29)))) [0, 1, 2, 3, 4, 5, 7, 8, 9, 10, 11, 12, 13, 14, 15, 16, 17, 18] (by decide) rfl
          have hFc := va_free (wc := ((cX3 a3 h3 a1 (.ref a0) y s3_27) ++ ((cX1 a1 h1 (.ref atx) y s1_28) ++ (cX0 a0 h0 y s0_29)))) hD hS hA [0, 1, 2, 3, 4, 5, 7, 8, 9, 10, 11, 12, 13, 14, 15, 16, 17, 18] rfl
          refine va_calli (va_runV (As := []) (rest := []) ⟨hx, hb, hml, hown, hts⟩ (m_X3_step l dC dI y a3 h3 s3_27 a1 h1 s1_28 a0 h0 s0_29 (.ref atx) tg HGW7.size r32 s3_33 s0_34 hc35) (cwV 0 hts gX3_takeTokens_X3_step rfl rfl rfl (by decide +kernel) ⟨Nat.le_of_ble_eq_true rfl, Nat.le_of_ble_eq_true rfl⟩) ⟨fun a U g mk q => by obtain ⟨q0, q1, qP, qK, qD, qT⟩ := q; exact ⟨q0, q1, qP, va_K.moved (u := U) (U := U.calling g mk a) (Vm.Alike.refl U.vm) qK, qD, STG_moved (u := U) (U := U.calling g mk a) (Vm.Alike.refl U.vm) qT⟩, va_recv hK hPc (ci := 2) (q0 := 0) rfl rfl, fun U hU hW => ⟨rfl, by rw [hU], by rw [hU]; exact hPc, va_K.moved hW.alike hK, hDc.weaken (fun _ _ _ _ => trivial), by rw [hU]; exact STG_moved hW.alike (STG_narrow (STG_kept hST hS.2.1) hFc)⟩⟩ rfl rfl hl.1 rfl (lv_room (Nat.le_of_ble_eq_true rfl)) dX3_takeTokens_33 ⟨Nat.le_of_ble_eq_true rfl, Nat.le_of_ble_eq_true rfl⟩) hS (fun q _ h => hFc q h) hFc (fun rr37 u t H36 locs ht hvm hw hB hz1 hk1 hS => ?_)
          obtain ⟨hP1, hK1, hD1⟩ := hB
          rw [ht] at hP1
          refine zTopi hw.symm ?_
          obtain ⟨hP, hD⟩ := va_join (wr := [(atx, .inl (y 2, 2000, .inl ft))]) (w1 := ((cX3 a3 h3 a1 (.ref a0) y s3_33) ++ ((cX1 a1 h1 (.ref atx) y s1_28) ++ (cX0 a0 h0 y s0_34)))) hP hD [0, 1, 2, 3, 4, 5, 7, 8, 9, 10, 11, 12, 13, 14, 15, 16, 17, 18] [6] rfl rfl (by decide) (by decide) hk1 hFc hP1 hD1
          have hP : va_P (dC, dI) vwCl ((cX3 a3 h3 a1 (.ref a0) y s3_33) ++ ((cX1 a1 h1 (.ref atx) y s1_28) ++ (([(atx, .inl (y 2, 2000, .inl ft))]) ++ (cX0 a0 h0 y s0_34)))) H36 := hP.sub [1, 2, 3, 4, 5, 6, 0, 7, 8, 9, 10, 11, 12, 13, 14, 15, 16, 17, 18] rfl
          have hD : va_D A ((cX3 a3 h3 a1 (.ref a0) y s3_33) ++ ((cX1 a1 h1 (.ref atx) y s1_28) ++ (([(atx, .inl (y 2, 2000, .inl ft))]) ++ (cX0 a0 h0 y s0_34)))) := hD.sub [1, 2, 3, 4, 5, 6, 0, 7, 8, 9, 10, 11, 12, 13, 14, 15, 16, 17, 18] (by decide) rfl
          refine lv_if_ne (tgt := 41) hx hb dX3_takeTokens_36 (by decide) (fun c38 => ?_) (fun c38 => ?_)
          · have h := zN c38 h
            refine lv_aload_n hx hb dX3_takeTokens_41 rfl (lv_at hl 0 rfl) ?_
            refine va_get (D := (dC, dI)) (ci := 2) (v := .ref a1) (C := RX3) (T := TX3) (N := 17) hx hb hts inX3_ hown hK hP 0 rfl rfl 2 (by decide) (hts (.fieldLink RX3 18 "GateWheel$Reader" "lexer" "LGateWheel$Lexer;") (List.mem_of_getElem? (i := 2) rfl)) (fun _ h9 => h9) rfl dX3_takeTokens_42 ?_
            obtain ⟨s1_39, hc40, h⟩ := zB_spec h
            have hPc := hP.sub (ws' := ((cX1 a1 h1 (.ref atx) y s1_28) ++ ([(atx, .inl (y 2, 2000, .inl ft))]))) [5, 6] rfl
            have hDc := hD.sub (ws' := ((cX1 a1 h1 (.ref atx) y s1_28) ++ ([(atx, .inl (y 2, 2000, .inl ft))]))) [5, 6] (by decide) rfl
            have hFc := va_free (wc := ((cX1 a1 h1 (.ref atx) y s1_28) ++ ([(atx, .inl (y 2, 2000, .inl ft))]))) hD hS hA [5, 6] rfl
            refine va_callv (va_runV (As := []) (rest := []) ⟨hx, hb, hml, hown, hts⟩ (m_X1_advance l dC dI y a1 h1 s1_28 atx ft H36.size s1_39 hc40) (cwV 0 hts gX3_takeTokens_X1_advance rfl rfl rfl (by decide +kernel) ⟨Nat.le_of_ble_eq_true rfl, Nat.le_of_ble_eq_true rfl⟩) ⟨fun a U g mk q => by obtain ⟨q0, q1, qP, qK, qD⟩ := q; exact ⟨q0, q1, qP, va_K.moved (u := U) (U := U.calling g mk a) (Vm.Alike.refl U.vm) qK, qD⟩, va_recv hK hPc (ci := 1) (q0 := 0) rfl rfl, fun U hU hW => ⟨rfl, by rw [hU], by rw [hU]; exact hPc, va_K.moved hW.alike hK, hDc.weaken (fun _ _ _ _ => trivial)⟩⟩ rfl rfl hl.1 rfl (lv_room (Nat.le_of_ble_eq_true rfl)) dX3_takeTokens_45 ⟨Nat.le_of_ble_eq_true rfl, Nat.le_of_ble_eq_true rfl⟩) hS (fun q _ h => hFc q h) hFc (fun u t H41 locs ht hvm hw hB hz1 hk1 hS => ?_)
            obtain ⟨hP1, hK1, hD1⟩ := hB
            rw [ht] at hP1
            obtain ⟨hP, hD⟩ := va_join (wr := [(oX3 a3 h3 a1 (.ref a0) s3_33), (h3 12, .inl (y 1, 667, .inr (.inl (gB s3_33 12)))), (h3 13, .inl (y 0, 667, .inl (gA s3_33 13))), (h3 14, .inl (y 0, 667, .inl (gA s3_33 14))), (h3 16, .inl (y 1, 60, .inr (.inl (gB s3_33 16)))), (oX0 a0 h0 s0_34), (h0 2, .inl (y 1, 60, .inr (.inl (gB s0_34 2)))), (h0 3, .inl (y 0, 60, .inl (gA s0_34 3))), (h0 4, .inl (y 0, 60, .inl (gA s0_34 4))), (h0 5, .inl (y 0, 60, .inl (gA s0_34 5))), (h0 6, .inl (y 0, 60, .inl (gA s0_34 6))), (h0 7, .inl (y 0, 720, .inl (gA s0_34 7))), (h0 8, .inl (y 0, 60, .inl (gA s0_34 8))), (h0 9, .inl (y 0, 60, .inl (gA s0_34 9))), (h0 10, .inl (y 1, 60, .inr (.inl (gB s0_34 10)))), (h0 11, .inl (y 0, 60, .inl (gA s0_34 11))), (h0 12, .inl (y 0, 60, .inl (gA s0_34 12)))]) (w1 := ((cX1 a1 h1 (.ref atx) y s1_39) ++ ([(atx, .inl (y 2, 2000, .inl ft))]))) hP hD [5, 6] [0, 1, 2, 3, 4, 7, 8, 9, 10, 11, 12, 13, 14, 15, 16, 17, 18] rfl rfl (by decide) (by decide) hk1 hFc hP1 hD1
            have hP : va_P (dC, dI) vwCl ((cX3 a3 h3 a1 (.ref a0) y s3_33) ++ ((cX1 a1 h1 (.ref atx) y s1_39) ++ (([(atx, .inl (y 2, 2000, .inl ft))]) ++ (cX0 a0 h0 y s0_34)))) H41 := hP.sub [0, 1, 2, 3, 4, 17, 18, 5, 6, 7, 8, 9, 10, 11, 12, 13, 14, 15, 16] rfl
            have hD : va_D A ((cX3 a3 h3 a1 (.ref a0) y s3_33) ++ ((cX1 a1 h1 (.ref atx) y s1_39) ++ (([(atx, .inl (y 2, 2000, .inl ft))]) ++ (cX0 a0 h0 y s0_34)))) := hD.sub [0, 1, 2, 3, 4, 17, 18, 5, 6, 7, 8, 9, 10, 11, 12, 13, 14, 15, 16] (by decide) rfl
            obtain ⟨v43, ev43, h⟩ := zL_spec h
            refine lv_iinc (v := v43) (lv' := [(1, .int v43), (0, .ref a3)]) hx hb dX3_takeTokens_48 hl (k := 1) rfl (by rw [ev43]; rfl) (by decide) rfl (fun ls hl => ?_)
            refine lv_goto (tgt := 14) hx hb dX3_takeTokens_51 (by decide) ?_
            have h := zI_l h hx14
            exact (eG8 _ _ _ _ _).mp (ihlp10 v43 s3_33 s1_39 s0_34 _ _ _ h hP hD hS (lv_sub hl [1, 0] rfl))
          · have h := zY c38 h
            refine lv_iconst (v := 0) hx hb dX3_takeTokens_39 (by decide) ?_
            have h := zS_l (zI_r h hx14) hk13
            have ho0 : (0 : Int32) = or_ := congrArg (fun z : Int32 × SS × SS × SS => z.1) (Option.some.inj h)
            have ho1 : s3_33 = o_3 := congrArg (fun z : Int32 × SS × SS × SS => z.2.1) (Option.some.inj h)
            have ho2 : s1_28 = o_1 := congrArg (fun z : Int32 × SS × SS × SS => z.2.2.1) (Option.some.inj h)
            have ho3 : s0_34 = o_0 := congrArg (fun z : Int32 × SS × SS × SS => z.2.2.2) (Option.some.inj h)
            exact W.zret (v := 0) hx hb hr (by decide) (fun t ht hW => ⟨⟨0, (), rfl, ho0, by rw [ht]; rw [← ho1, ← ho2, ← ho3]; exact hP, va_K.moved hW.alike hK, by rw [← ho1, ← ho2, ← ho3]; exact hD⟩, hS.F ht⟩) hS.2.2 dX3_takeTokens_40
  exact lp10 zF (0 : Int32) s3_2 s1_3 S0 _ _ _ hi12 hP hD hS (lv_sub hl [1, 0] rfl)

set_option maxHeartbeats 4000000 in
set_option maxRecDepth 100000 in
theorem m_X3_readInto (l : Launch) (dC : Nat → ClassId) (dI : Nat → Nat → Nat) (y : Nat → ClassId) (a3 : Nat) (h3 : Nat → Nat) (S3 : SS) (a1 : Nat) (h1 : Nat → Nat) (S1 : SS) (atx : Nat) (ft : Nat → Int32) (a0 : Nat) (h0 : Nat → Nat) (S0 : SS) (cv : Value) (tv : Value) (p3 : Int32) (tg : Nat × Nat × Nat × Nat) (sz : Nat) (or_ : Int32) (o_3 : SS) (o_1 : SS) (o_0 : SS) (h : f_X3_readInto S3 S1 ft S0 p3 = some (or_, o_3, o_1, o_0)) : Met l yX3_readInto wsX3_readInto ({ frames := 5, cells := 0, slots := 0, locals := 109 }) (va_Pc [.ref a3, .ref a0, .ref atx, .int p3] (fun U => U.heap.size = sz ∧ va_P (dC, dI) vwCl ((cX3 a3 h3 a1 cv y S3) ++ ((cX1 a1 h1 tv y S1) ++ (([(atx, .inl (y 2, 2000, .inl ft))]) ++ (cX0 a0 h0 y S0)))) U.heap ∧ va_K (dC, dI) vwCl [(y 0, .int), (y 1, .long), (y 2, .byte), (y 3, .boolean)] U ∧ va_D (fun _ => True) ((cX3 a3 h3 a1 cv y S3) ++ ((cX1 a1 h1 tv y S1) ++ (([(atx, .inl (y 2, 2000, .inl ft))]) ++ (cX0 a0 h0 y S0)))) ∧ STG tg (va_A ((cX3 a3 h3 a1 cv y S3) ++ ((cX1 a1 h1 tv y S1) ++ (([(atx, .inl (y 2, 2000, .inl ft))]) ++ (cX0 a0 h0 y S0)))) sz) U U.heap)) (va_Qi (fun (r : Int32) (_ : Unit) => r = or_) (fun (_ : Unit) (t : State) => va_P (dC, dI) vwCl ((cX3 a3 h3 a1 (.ref a0) y o_3) ++ ((cX1 a1 h1 (.ref atx) y o_1) ++ (([(atx, .inl (y 2, 2000, .inl ft))]) ++ (cX0 a0 h0 y o_0)))) t.heap ∧ va_K (dC, dI) vwCl [(y 0, .int), (y 1, .long), (y 2, .byte), (y 3, .boolean)] t ∧ va_D (va_A ((cX3 a3 h3 a1 cv y S3) ++ ((cX1 a1 h1 tv y S1) ++ (([(atx, .inl (y 2, 2000, .inl ft))]) ++ (cX0 a0 h0 y S0)))) sz) ((cX3 a3 h3 a1 (.ref a0) y o_3) ++ ((cX1 a1 h1 (.ref atx) y o_1) ++ (([(atx, .inl (y 2, 2000, .inl ft))]) ++ (cX0 a0 h0 y o_0))))) (va_A ((cX3 a3 h3 a1 cv y S3) ++ ((cX1 a1 h1 tv y S1) ++ (([(atx, .inl (y 2, 2000, .inl ft))]) ++ (cX0 a0 h0 y S0)))) sz)) 0 0 (va_A ((cX3 a3 h3 a1 cv y S3) ++ ((cX1 a1 h1 tv y S1) ++ (([(atx, .inl (y 2, 2000, .inl ft))]) ++ (cX0 a0 h0 y S0)))) sz) := by
  refine Met.ofW (cc := cX3_readInto) (maxL := 4) (ret := (some .boolean)) (by decide +kernel) rfl ?_
  intro p e s m args below meth c s₁ B hml hv
  obtain ⟨rfl, hsz, hP, hK, hD0, hST⟩ := hv
  have hx := B.exec
  have hb := B.bytes
  have hr := B.returns
  have hts := atoms_spec (ws := wsX3_readInto) B.pre
  have hown : s.vm.findClass RX3 = some m.cls := findClass_of_methodNamed B.named
  have hlocks := B.notSynchronized
  have inX3_ : ∀ w ∈ wsX30, w ∈ wsX3_readInto := fun _ h => List.mem_cons_of_mem _ (List.mem_append_left _ (List.mem_append_left _ (List.mem_append_right _ h)))
  subst hsz
  have hD := hD0.self (sz := s.heap.size)
  generalize hAe : va_A ((cX3 a3 h3 a1 cv y S3) ++ ((cX1 a1 h1 tv y S1) ++ (([(atx, .inl (y 2, 2000, .inl ft))]) ++ (cX0 a0 h0 y S0)))) s.heap.size = A at hD hST ⊢
  have hA : ∀ q : Nat, s.heap.size ≤ q → A q := fun q h => by rw [← hAe]; exact Or.inr h
  have hS : va_S A s.heap s.heap [] := va_S.rf
  have hP : va_P (dC, dI) vwCl ((cX3 a3 h3 a1 cv y S3) ++ ((cX1 a1 h1 tv y S1) ++ (([(atx, .inl (y 2, 2000, .inl ft))]) ++ (cX0 a0 h0 y S0)))) s.heap := hP
  have hl := lv_entry ([.ref a3, .ref a0, .ref atx, .int p3]) (n := 4) (Nat.le_of_ble_eq_true rfl)
  rw [lg_entry_eq]
  generalize (lg_sl ([.ref a3, .ref a0, .ref atx, .int p3]) ++ List.replicate (4 - (lg_sl ([.ref a3, .ref a0, .ref atx, .int p3])).length) Slot.unset).toArray = ls at hl ⊢
  have hl : lv_has ls 4 [(0, .ref a3), (1, .ref a0), (2, .ref atx), (3, .int p3)] := hl
  refine lv_aload_n hx hb dX3_readInto_0 rfl (lv_at hl 0 rfl) ?_
  refine lv_aload_n hx hb dX3_readInto_1 rfl (lv_at hl 1 rfl) ?_
  refine va_put (D := (dC, dI)) (ci := 2) (v := .ref a0) (ty := (.object "GateWheel$Circuit")) (C := RX3) (T := TX3) (N := 17) hx hb hts inX3_ tyX3 tyX3_ok nmX3 hown hK hP hD hS 0 rfl rfl 3 (by decide) (hts (.fieldLink RX3 36 "GateWheel$Reader" "circuit" "LGateWheel$Circuit;") (List.mem_of_getElem? (i := 1) rfl)) (fun _ h9 => h9) rfl (by decide +kernel) rfl rfl (Nat.le_of_ble_eq_true rfl) dX3_readInto_2 (fun H1 locs hP hD hS => ?_)
  have hP : va_P (dC, dI) vwCl ((cX3 a3 h3 a1 (.ref a0) y S3) ++ ((cX1 a1 h1 tv y S1) ++ (([(atx, .inl (y 2, 2000, .inl ft))]) ++ (cX0 a0 h0 y S0)))) H1 := hP
  have hD : va_D A ((cX3 a3 h3 a1 (.ref a0) y S3) ++ ((cX1 a1 h1 tv y S1) ++ (([(atx, .inl (y 2, 2000, .inl ft))]) ++ (cX0 a0 h0 y S0)))) := hD
  refine lv_aload_n hx hb dX3_readInto_5 rfl (lv_at hl 0 rfl) ?_
  refine va_get (D := (dC, dI)) (ci := 2) (v := .ref a0) (C := RX3) (T := TX3) (N := 17) hx hb hts inX3_ hown hK hP 0 rfl rfl 3 (by decide) (hts (.fieldLink RX3 36 "GateWheel$Reader" "circuit" "LGateWheel$Circuit;") (List.mem_of_getElem? (i := 1) rfl)) (fun _ h9 => h9) rfl dX3_readInto_6 ?_
  obtain ⟨s0_2, hc3, h⟩ := zB_spec h
  have hPc := hP.sub (ws' := (cX0 a0 h0 y S0)) [7, 8, 9, 10, 11, 12, 13, 14, 15, 16, 17, 18] rfl
  have hDc := hD.sub (ws' := (cX0 a0 h0 y S0)) [7, 8, 9, 10, 11, 12, 13, 14, 15, 16, 17, 18] (by decide) rfl
  have hFc := va_free (wc := (cX0 a0 h0 y S0)) hD hS hA [7, 8, 9, 10, 11, 12, 13, 14, 15, 16, 17, 18] rfl
  refine va_callv (va_runV (As := []) (rest := []) ⟨hx, hb, hml, hown, hts⟩ (m_X0_clear l dC dI y a0 h0 S0 H1.size s0_2 hc3) (cwV 0 hts gX3_readInto_X0_clear rfl rfl rfl (by decide +kernel) ⟨Nat.le_of_ble_eq_true rfl, Nat.le_of_ble_eq_true rfl⟩) ⟨fun a U g mk q => by obtain ⟨q0, q1, qP, qK, qD⟩ := q; exact ⟨q0, q1, qP, va_K.moved (u := U) (U := U.calling g mk a) (Vm.Alike.refl U.vm) qK, qD⟩, va_recv hK hPc (ci := 0) (q0 := 0) rfl rfl, fun U hU hW => ⟨rfl, by rw [hU], by rw [hU]; exact hPc, va_K.moved hW.alike hK, hDc.weaken (fun _ _ _ _ => trivial)⟩⟩ rfl rfl hl.1 rfl (lv_room (Nat.le_of_ble_eq_true rfl)) dX3_readInto_9 ⟨Nat.le_of_ble_eq_true rfl, Nat.le_of_ble_eq_true rfl⟩) hS (fun q _ h => hFc q h) hFc (fun u t H4 locs ht hvm hw hB hz1 hk1 hS => ?_)
  obtain ⟨hP1, hK1, hD1⟩ := hB
  rw [ht] at hP1
  obtain ⟨hP, hD⟩ := va_join (wr := [(oX3 a3 h3 a1 (.ref a0) S3), (h3 12, .inl (y 1, 667, .inr (.inl (gB S3 12)))), (h3 13, .inl (y 0, 667, .inl (gA S3 13))), (h3 14, .inl (y 0, 667, .inl (gA S3 14))), (h3 16, .inl (y 1, 60, .inr (.inl (gB S3 16)))), (oX1 a1 h1 tv S1), (atx, .inl (y 2, 2000, .inl ft))]) (w1 := (cX0 a0 h0 y s0_2)) hP hD [7, 8, 9, 10, 11, 12, 13, 14, 15, 16, 17, 18] [0, 1, 2, 3, 4, 5, 6] rfl rfl (by decide) (by decide) hk1 hFc hP1 hD1
  have hP : va_P (dC, dI) vwCl ((cX3 a3 h3 a1 (.ref a0) y S3) ++ ((cX1 a1 h1 tv y S1) ++ (([(atx, .inl (y 2, 2000, .inl ft))]) ++ (cX0 a0 h0 y s0_2)))) H4 := hP.sub [0, 1, 2, 3, 4, 5, 6, 7, 8, 9, 10, 11, 12, 13, 14, 15, 16, 17, 18] rfl
  have hD : va_D A ((cX3 a3 h3 a1 (.ref a0) y S3) ++ ((cX1 a1 h1 tv y S1) ++ (([(atx, .inl (y 2, 2000, .inl ft))]) ++ (cX0 a0 h0 y s0_2)))) := hD.sub [0, 1, 2, 3, 4, 5, 6, 7, 8, 9, 10, 11, 12, 13, 14, 15, 16, 17, 18] (by decide) rfl
  refine lv_aload_n hx hb dX3_readInto_12 rfl (lv_at hl 0 rfl) ?_
  refine lv_iconst (v := 0) hx hb dX3_readInto_13 (by decide) ?_
  refine va_put (D := (dC, dI)) (ci := 2) (v := .int 0) (ty := .int) (C := RX3) (T := TX3) (N := 17) hx hb hts inX3_ tyX3 tyX3_ok nmX3 hown hK hP hD hS 0 rfl rfl 0 (by decide) (hts (.fieldLink RX3 45 "GateWheel$Reader" "fault" "I") (List.mem_of_getElem? (i := 2) rfl)) (fun _ h9 => h9) rfl (by decide +kernel) rfl rfl (Nat.le_of_ble_eq_true rfl) dX3_readInto_14 (fun H6 locs hP hD hS => ?_)
  obtain ⟨s3_7, es3_7, h⟩ := zL_spec h
  have hP : va_P (dC, dI) vwCl ((cX3 a3 h3 a1 (.ref a0) y s3_7) ++ ((cX1 a1 h1 tv y S1) ++ (([(atx, .inl (y 2, 2000, .inl ft))]) ++ (cX0 a0 h0 y s0_2)))) H6 := by rw [es3_7]; exact hP
  have hD : va_D A ((cX3 a3 h3 a1 (.ref a0) y s3_7) ++ ((cX1 a1 h1 tv y S1) ++ (([(atx, .inl (y 2, 2000, .inl ft))]) ++ (cX0 a0 h0 y s0_2)))) := by rw [es3_7]; exact hD
  refine lv_aload_n hx hb dX3_readInto_17 rfl (lv_at hl 0 rfl) ?_
  refine lv_iconst (v := (-1)) hx hb dX3_readInto_18 (by decide) ?_
  refine va_put (D := (dC, dI)) (ci := 2) (v := .int (-1)) (ty := .int) (C := RX3) (T := TX3) (N := 17) hx hb hts inX3_ tyX3 tyX3_ok nmX3 hown hK hP hD hS 0 rfl rfl 1 (by decide) (hts (.fieldLink RX3 9 "GateWheel$Reader" "faultPlace" "I") (List.mem_of_getElem? (i := 3) rfl)) (fun _ h9 => h9) rfl (by decide +kernel) rfl rfl (Nat.le_of_ble_eq_true rfl) dX3_readInto_19 (fun H8 locs hP hD hS => ?_)
  obtain ⟨s3_9, es3_9, h⟩ := zL_spec h
  have hP : va_P (dC, dI) vwCl ((cX3 a3 h3 a1 (.ref a0) y s3_9) ++ ((cX1 a1 h1 tv y S1) ++ (([(atx, .inl (y 2, 2000, .inl ft))]) ++ (cX0 a0 h0 y s0_2)))) H8 := by rw [es3_9]; exact hP
  have hD : va_D A ((cX3 a3 h3 a1 (.ref a0) y s3_9) ++ ((cX1 a1 h1 tv y S1) ++ (([(atx, .inl (y 2, 2000, .inl ft))]) ++ (cX0 a0 h0 y s0_2)))) := by rw [es3_9]; exact hD
  refine lv_aload_n hx hb dX3_readInto_22 rfl (lv_at hl 0 rfl) ?_
  refine lv_iconst (v := 0) hx hb dX3_readInto_23 (by decide) ?_
  refine va_put (D := (dC, dI)) (ci := 2) (v := .int 0) (ty := .int) (C := RX3) (T := TX3) (N := 17) hx hb hts inX3_ tyX3 tyX3_ok nmX3 hown hK hP hD hS 0 rfl rfl 15 (by decide) (hts (.fieldLink RX3 48 "GateWheel$Reader" "uses" "I") (List.mem_of_getElem? (i := 4) rfl)) (fun _ h9 => h9) rfl (by decide +kernel) rfl rfl (Nat.le_of_ble_eq_true rfl) dX3_readInto_24 (fun H10 locs hP hD hS => ?_)
  obtain ⟨s3_11, es3_11, h⟩ := zL_spec h
  have hP : va_P (dC, dI) vwCl ((cX3 a3 h3 a1 (.ref a0) y s3_11) ++ ((cX1 a1 h1 tv y S1) ++ (([(atx, .inl (y 2, 2000, .inl ft))]) ++ (cX0 a0 h0 y s0_2)))) H10 := by rw [es3_11]; exact hP
  have hD : va_D A ((cX3 a3 h3 a1 (.ref a0) y s3_11) ++ ((cX1 a1 h1 tv y S1) ++ (([(atx, .inl (y 2, 2000, .inl ft))]) ++ (cX0 a0 h0 y s0_2)))) := by rw [es3_11]; exact hD
  refine lv_aload_n hx hb dX3_readInto_27 rfl (lv_at hl 0 rfl) ?_
  refine va_get (D := (dC, dI)) (ci := 2) (v := .ref a1) (C := RX3) (T := TX3) (N := 17) hx hb hts inX3_ hown hK hP 0 rfl rfl 2 (by decide) (hts (.fieldLink RX3 18 "GateWheel$Reader" "lexer" "LGateWheel$Lexer;") (List.mem_of_getElem? (i := 5) rfl)) (fun _ h9 => h9) rfl dX3_readInto_28 ?_
  refine lv_aload_n hx hb dX3_readInto_31 rfl (lv_at hl 2 rfl) ?_
  refine lv_iload_n hx hb dX3_readInto_32 rfl (lv_at hl 3 rfl) ?_
  obtain ⟨s1_12, hc13, h⟩ := zB_spec h
  have hPc := hP.sub (ws' := ((cX1 a1 h1 tv y S1) ++ ([(atx, .inl (y 2, 2000, .inl ft))]))) [5, 6] rfl
  have hDc := hD.sub (ws' := ((cX1 a1 h1 tv y S1) ++ ([(atx, .inl (y 2, 2000, .inl ft))]))) [5, 6] (by decide) rfl
  have hFc := va_free (wc := ((cX1 a1 h1 tv y S1) ++ ([(atx, .inl (y 2, 2000, .inl ft))]))) hD hS hA [5, 6] rfl
  refine va_callv (va_runV (As := [.ref atx, .int p3]) (rest := []) ⟨hx, hb, hml, hown, hts⟩ (m_X1_begin l dC dI y a1 h1 S1 atx ft tv p3 H10.size s1_12 hc13) (cwV 2 hts gX3_readInto_X1_begin rfl rfl rfl (by decide +kernel) ⟨Nat.le_of_ble_eq_true rfl, Nat.le_of_ble_eq_true rfl⟩) ⟨fun a U g mk q => by obtain ⟨q0, q1, qP, qK, qD⟩ := q; exact ⟨q0, q1, qP, va_K.moved (u := U) (U := U.calling g mk a) (Vm.Alike.refl U.vm) qK, qD⟩, va_recv hK hPc (ci := 1) (q0 := 0) rfl rfl, fun U hU hW => ⟨rfl, by rw [hU], by rw [hU]; exact hPc, va_K.moved hW.alike hK, hDc.weaken (fun _ _ _ _ => trivial)⟩⟩ rfl rfl hl.1 rfl (lv_room (Nat.le_of_ble_eq_true rfl)) dX3_readInto_33 ⟨Nat.le_of_ble_eq_true rfl, Nat.le_of_ble_eq_true rfl⟩) hS (fun q _ h => hFc q h) hFc (fun u t H14 locs ht hvm hw hB hz1 hk1 hS => ?_)
  obtain ⟨hP1, hK1, hD1⟩ := hB
  rw [ht] at hP1
  obtain ⟨hP, hD⟩ := va_join (wr := [(oX3 a3 h3 a1 (.ref a0) s3_11), (h3 12, .inl (y 1, 667, .inr (.inl (gB s3_11 12)))), (h3 13, .inl (y 0, 667, .inl (gA s3_11 13))), (h3 14, .inl (y 0, 667, .inl (gA s3_11 14))), (h3 16, .inl (y 1, 60, .inr (.inl (gB s3_11 16)))), (oX0 a0 h0 s0_2), (h0 2, .inl (y 1, 60, .inr (.inl (gB s0_2 2)))), (h0 3, .inl (y 0, 60, .inl (gA s0_2 3))), (h0 4, .inl (y 0, 60, .inl (gA s0_2 4))), (h0 5, .inl (y 0, 60, .inl (gA s0_2 5))), (h0 6, .inl (y 0, 60, .inl (gA s0_2 6))), (h0 7, .inl (y 0, 720, .inl (gA s0_2 7))), (h0 8, .inl (y 0, 60, .inl (gA s0_2 8))), (h0 9, .inl (y 0, 60, .inl (gA s0_2 9))), (h0 10, .inl (y 1, 60, .inr (.inl (gB s0_2 10)))), (h0 11, .inl (y 0, 60, .inl (gA s0_2 11))), (h0 12, .inl (y 0, 60, .inl (gA s0_2 12)))]) (w1 := ((cX1 a1 h1 (.ref atx) y s1_12) ++ ([(atx, .inl (y 2, 2000, .inl ft))]))) hP hD [5, 6] [0, 1, 2, 3, 4, 7, 8, 9, 10, 11, 12, 13, 14, 15, 16, 17, 18] rfl rfl (by decide) (by decide) hk1 hFc hP1 hD1
  have hP : va_P (dC, dI) vwCl ((cX3 a3 h3 a1 (.ref a0) y s3_11) ++ ((cX1 a1 h1 (.ref atx) y s1_12) ++ (([(atx, .inl (y 2, 2000, .inl ft))]) ++ (cX0 a0 h0 y s0_2)))) H14 := hP.sub [0, 1, 2, 3, 4, 17, 18, 5, 6, 7, 8, 9, 10, 11, 12, 13, 14, 15, 16] rfl
  have hD : va_D A ((cX3 a3 h3 a1 (.ref a0) y s3_11) ++ ((cX1 a1 h1 (.ref atx) y s1_12) ++ (([(atx, .inl (y 2, 2000, .inl ft))]) ++ (cX0 a0 h0 y s0_2)))) := hD.sub [0, 1, 2, 3, 4, 17, 18, 5, 6, 7, 8, 9, 10, 11, 12, 13, 14, 15, 16] (by decide) rfl
  refine lv_aload_n hx hb dX3_readInto_36 rfl (lv_at hl 0 rfl) ?_
  obtain ⟨⟨r16, s3_17, s1_18, s0_19⟩, hc20, h⟩ := zB_spec h
  have hFc := zFree hD hS hA
  refine va_calli (va_runV (As := []) (rest := []) ⟨hx, hb, hml, hown, hts⟩ (m_X3_takeTokens l dC dI y a3 h3 s3_11 a1 h1 s1_12 atx ft a0 h0 s0_2 tg H14.size r16 s3_17 s1_18 s0_19 hc20) (cwV 0 hts gX3_readInto_X3_takeTokens rfl rfl rfl (by decide +kernel) ⟨Nat.le_of_ble_eq_true rfl, Nat.le_of_ble_eq_true rfl⟩) ⟨fun a U g mk q => by obtain ⟨q0, q1, qP, qK, qD, qT⟩ := q; exact ⟨q0, q1, qP, va_K.moved (u := U) (U := U.calling g mk a) (Vm.Alike.refl U.vm) qK, qD, STG_moved (u := U) (U := U.calling g mk a) (Vm.Alike.refl U.vm) qT⟩, va_recv hK hP (ci := 2) (q0 := 0) rfl rfl, fun U hU hW => ⟨rfl, by rw [hU], by rw [hU]; exact hP, va_K.moved hW.alike hK, hD.weaken (fun _ _ _ _ => trivial), by rw [hU]; exact STG_moved hW.alike (STG_narrow (STG_kept hST hS.2.1) hFc)⟩⟩ rfl rfl hl.1 rfl (lv_room (Nat.le_of_ble_eq_true rfl)) dX3_readInto_37 ⟨Nat.le_of_ble_eq_true rfl, Nat.le_of_ble_eq_true rfl⟩) hS (fun q _ h => hFc q h) hFc (fun rr22 u t H21 locs ht hvm hw hB hz1 hk1 hS => ?_)
  obtain ⟨hP1, hK1, hD1⟩ := hB
  rw [ht] at hP1
  refine zTopi hw.symm ?_
  have hP := hP1
  have hD := hD1.weaken (fun _ q _ h => hFc q.1 h)
  have hP : va_P (dC, dI) vwCl ((cX3 a3 h3 a1 (.ref a0) y s3_17) ++ ((cX1 a1 h1 (.ref atx) y s1_18) ++ (([(atx, .inl (y 2, 2000, .inl ft))]) ++ (cX0 a0 h0 y s0_19)))) H21 := hP
  have hD : va_D A ((cX3 a3 h3 a1 (.ref a0) y s3_17) ++ ((cX1 a1 h1 (.ref atx) y s1_18) ++ (([(atx, .inl (y 2, 2000, .inl ft))]) ++ (cX0 a0 h0 y s0_19)))) := hD
  refine lv_if_eq (tgt := 57) hx hb dX3_readInto_40 (by decide) (fun c23 => ?_) (fun c23 => ?_)
  · have h := zY c23 h
    refine lv_iconst (v := 0) hx hb dX3_readInto_57 (by decide) ?_
    have ho0 : (0 : Int32) = or_ := congrArg (fun z : Int32 × SS × SS × SS => z.1) (Option.some.inj h)
    have ho1 : s3_17 = o_3 := congrArg (fun z : Int32 × SS × SS × SS => z.2.1) (Option.some.inj h)
    have ho2 : s1_18 = o_1 := congrArg (fun z : Int32 × SS × SS × SS => z.2.2.1) (Option.some.inj h)
    have ho3 : s0_19 = o_0 := congrArg (fun z : Int32 × SS × SS × SS => z.2.2.2) (Option.some.inj h)
    exact W.zret (v := 0) hx hb hr (by decide) (fun t ht hW => ⟨⟨0, (), rfl, ho0, by rw [ht]; rw [← ho1, ← ho2, ← ho3]; exact hP, va_K.moved hW.alike hK, by rw [← ho1, ← ho2, ← ho3]; exact hD⟩, hS.F ht⟩) hS.2.2 dX3_readInto_58
  · have h := zN c23 h
    refine lv_aload_n hx hb dX3_readInto_43 rfl (lv_at hl 0 rfl) ?_
    obtain ⟨⟨r24, s3_25, s0_26⟩, hc27, h⟩ := zB_spec h
    have hPc := hP.sub (ws' := ((cX3 a3 h3 a1 (.ref a0) y s3_17) ++ (cX0 a0 h0 y s0_19))) [0, 1, 2, 3, 4, 7, 8, 9, 10, 11, 12, 13, 14, 15, 16, 17, 18] rfl
    have hDc := hD.sub (ws' := ((cX3 a3 h3 a1 (.ref a0) y s3_17) ++ (cX0 a0 h0 y s0_19))) [0, 1, 2, 3, 4, 7, 8, 9, 10, 11, 12, 13, 14, 15, 16, 17, 18] (by decide) rfl
    have hFc := va_free (wc := ((cX3 a3 h3 a1 (.ref a0) y s3_17) ++ (cX0 a0 h0 y s0_19))) hD hS hA [0, 1, 2, 3, 4, 7, 8, 9, 10, 11, 12, 13, 14, 15, 16, 17, 18] rfl
    refine va_calli (va_runV (As := []) (rest := []) ⟨hx, hb, hml, hown, hts⟩ (m_X3_linkUses l dC dI y a3 h3 s3_17 a0 h0 s0_19 a1 H21.size r24 s3_25 s0_26 hc27) (cwV 0 hts gX3_readInto_X3_linkUses rfl rfl rfl (by decide +kernel) ⟨Nat.le_of_ble_eq_true rfl, Nat.le_of_ble_eq_true rfl⟩) ⟨fun a U g mk q => by obtain ⟨q0, q1, qP, qK, qD⟩ := q; exact ⟨q0, q1, qP, va_K.moved (u := U) (U := U.calling g mk a) (Vm.Alike.refl U.vm) qK, qD⟩, va_recv hK hPc (ci := 2) (q0 := 0) rfl rfl, fun U hU hW => ⟨rfl, by rw [hU], by rw [hU]; exact hPc, va_K.moved hW.alike hK, hDc.weaken (fun _ _ _ _ => trivial)⟩⟩ rfl rfl hl.1 rfl (lv_room (Nat.le_of_ble_eq_true rfl)) dX3_readInto_44 ⟨Nat.le_of_ble_eq_true rfl, Nat.le_of_ble_eq_true rfl⟩) hS (fun q _ h => hFc q h) hFc (fun rr29 u t H28 locs ht hvm hw hB hz1 hk1 hS => ?_)
    obtain ⟨hP1, hK1, hD1⟩ := hB
    rw [ht] at hP1
    refine zTopi hw.symm ?_
    obtain ⟨hP, hD⟩ := va_join (wr := [(oX1 a1 h1 (.ref atx) s1_18), (atx, .inl (y 2, 2000, .inl ft))]) (w1 := ((cX3 a3 h3 a1 (.ref a0) y s3_25) ++ (cX0 a0 h0 y s0_26))) hP hD [0, 1, 2, 3, 4, 7, 8, 9, 10, 11, 12, 13, 14, 15, 16, 17, 18] [5, 6] rfl rfl (by decide) (by decide) hk1 hFc hP1 hD1
    have hP : va_P (dC, dI) vwCl ((cX3 a3 h3 a1 (.ref a0) y s3_25) ++ ((cX1 a1 h1 (.ref atx) y s1_18) ++ (([(atx, .inl (y 2, 2000, .inl ft))]) ++ (cX0 a0 h0 y s0_26)))) H28 := hP.sub [2, 3, 4, 5, 6, 0, 1, 7, 8, 9, 10, 11, 12, 13, 14, 15, 16, 17, 18] rfl
    have hD : va_D A ((cX3 a3 h3 a1 (.ref a0) y s3_25) ++ ((cX1 a1 h1 (.ref atx) y s1_18) ++ (([(atx, .inl (y 2, 2000, .inl ft))]) ++ (cX0 a0 h0 y s0_26)))) := hD.sub [2, 3, 4, 5, 6, 0, 1, 7, 8, 9, 10, 11, 12, 13, 14, 15, 16, 17, 18] (by decide) rfl
    refine lv_if_eq (tgt := 57) hx hb dX3_readInto_47 (by decide) (fun c30 => ?_) (fun c30 => ?_)
    · have h := zY c30 h
      refine lv_iconst (v := 0) hx hb dX3_readInto_57 (by decide) ?_
      have ho0 : (0 : Int32) = or_ := congrArg (fun z : Int32 × SS × SS × SS => z.1) (Option.some.inj h)
      have ho1 : s3_25 = o_3 := congrArg (fun z : Int32 × SS × SS × SS => z.2.1) (Option.some.inj h)
      have ho2 : s1_18 = o_1 := congrArg (fun z : Int32 × SS × SS × SS => z.2.2.1) (Option.some.inj h)
      have ho3 : s0_26 = o_0 := congrArg (fun z : Int32 × SS × SS × SS => z.2.2.2) (Option.some.inj h)
      exact W.zret (v := 0) hx hb hr (by decide) (fun t ht hW => ⟨⟨0, (), rfl, ho0, by rw [ht]; rw [← ho1, ← ho2, ← ho3]; exact hP, va_K.moved hW.alike hK, by rw [← ho1, ← ho2, ← ho3]; exact hD⟩, hS.F ht⟩) hS.2.2 dX3_readInto_58
    · have h := zN c30 h
      refine lv_aload_n hx hb dX3_readInto_50 rfl (lv_at hl 0 rfl) ?_
      obtain ⟨⟨r31, s3_32⟩, hc33, h⟩ := zB_spec h
      have hPc := hP.sub (ws' := ((cX3 a3 h3 a1 (.ref a0) y s3_25) ++ (cX0 a0 h0 y s0_26))) [0, 1, 2, 3, 4, 7, 8, 9, 10, 11, 12, 13, 14, 15, 16, 17, 18] rfl
      have hDc := hD.sub (ws' := ((cX3 a3 h3 a1 (.ref a0) y s3_25) ++ (cX0 a0 h0 y s0_26))) [0, 1, 2, 3, 4, 7, 8, 9, 10, 11, 12, 13, 14, 15, 16, 17, 18] (by decide) rfl
      have hFc := va_free (wc := ((cX3 a3 h3 a1 (.ref a0) y s3_25) ++ (cX0 a0 h0 y s0_26))) hD hS hA [0, 1, 2, 3, 4, 7, 8, 9, 10, 11, 12, 13, 14, 15, 16, 17, 18] rfl
      refine va_calli (va_runV (As := []) (rest := []) ⟨hx, hb, hml, hown, hts⟩ (m_X3_checkLoops l dC dI y a3 h3 s3_25 a0 h0 s0_26 a1 H28.size r31 s3_32 hc33) (cwV 0 hts gX3_readInto_X3_checkLoops rfl rfl rfl (by decide +kernel) ⟨Nat.le_of_ble_eq_true rfl, Nat.le_of_ble_eq_true rfl⟩) ⟨fun a U g mk q => by obtain ⟨q0, q1, qP, qK, qD⟩ := q; exact ⟨q0, q1, qP, va_K.moved (u := U) (U := U.calling g mk a) (Vm.Alike.refl U.vm) qK, qD⟩, va_recv hK hPc (ci := 2) (q0 := 0) rfl rfl, fun U hU hW => ⟨rfl, by rw [hU], by rw [hU]; exact hPc, va_K.moved hW.alike hK, hDc.weaken (fun _ _ _ _ => trivial)⟩⟩ rfl rfl hl.1 rfl (lv_room (Nat.le_of_ble_eq_true rfl)) dX3_readInto_51 ⟨Nat.le_of_ble_eq_true rfl, Nat.le_of_ble_eq_true rfl⟩) hS (fun q _ h => hFc q h) hFc (fun rr35 u t H34 locs ht hvm hw hB hz1 hk1 hS => ?_)
      obtain ⟨hP1, hK1, hD1⟩ := hB
      rw [ht] at hP1
      refine zTopi hw.symm ?_
      obtain ⟨hP, hD⟩ := va_join (wr := [(oX1 a1 h1 (.ref atx) s1_18), (atx, .inl (y 2, 2000, .inl ft))]) (w1 := ((cX3 a3 h3 a1 (.ref a0) y s3_32) ++ (cX0 a0 h0 y s0_26))) hP hD [0, 1, 2, 3, 4, 7, 8, 9, 10, 11, 12, 13, 14, 15, 16, 17, 18] [5, 6] rfl rfl (by decide) (by decide) hk1 hFc hP1 hD1
      have hP : va_P (dC, dI) vwCl ((cX3 a3 h3 a1 (.ref a0) y s3_32) ++ ((cX1 a1 h1 (.ref atx) y s1_18) ++ (([(atx, .inl (y 2, 2000, .inl ft))]) ++ (cX0 a0 h0 y s0_26)))) H34 := hP.sub [2, 3, 4, 5, 6, 0, 1, 7, 8, 9, 10, 11, 12, 13, 14, 15, 16, 17, 18] rfl
      have hD : va_D A ((cX3 a3 h3 a1 (.ref a0) y s3_32) ++ ((cX1 a1 h1 (.ref atx) y s1_18) ++ (([(atx, .inl (y 2, 2000, .inl ft))]) ++ (cX0 a0 h0 y s0_26)))) := hD.sub [2, 3, 4, 5, 6, 0, 1, 7, 8, 9, 10, 11, 12, 13, 14, 15, 16, 17, 18] (by decide) rfl
      refine lv_if_ne (tgt := 59) hx hb dX3_readInto_54 (by decide) (fun c36 => ?_) (fun c36 => ?_)
      · have h := zN c36 h
        refine lv_aload_n hx hb dX3_readInto_59 rfl (lv_at hl 0 rfl) ?_
        refine va_get (D := (dC, dI)) (ci := 2) (v := .ref a0) (C := RX3) (T := TX3) (N := 17) hx hb hts inX3_ hown hK hP 0 rfl rfl 3 (by decide) (hts (.fieldLink RX3 36 "GateWheel$Reader" "circuit" "LGateWheel$Circuit;") (List.mem_of_getElem? (i := 1) rfl)) (fun _ h9 => h9) rfl dX3_readInto_60 ?_
        obtain ⟨s0_37, hc38, h⟩ := zB_spec h
        have hPc := hP.sub (ws' := (cX0 a0 h0 y s0_26)) [7, 8, 9, 10, 11, 12, 13, 14, 15, 16, 17, 18] rfl
        have hDc := hD.sub (ws' := (cX0 a0 h0 y s0_26)) [7, 8, 9, 10, 11, 12, 13, 14, 15, 16, 17, 18] (by decide) rfl
        have hFc := va_free (wc := (cX0 a0 h0 y s0_26)) hD hS hA [7, 8, 9, 10, 11, 12, 13, 14, 15, 16, 17, 18] rfl
        refine va_callv (va_runV (As := []) (rest := []) ⟨hx, hb, hml, hown, hts⟩ (m_X0_arrange l dC dI y a0 h0 s0_26 H34.size s0_37 hc38) (cwV 0 hts gX3_readInto_X0_arrange rfl rfl rfl (by decide +kernel) ⟨Nat.le_of_ble_eq_true rfl, Nat.le_of_ble_eq_true rfl⟩) ⟨fun a U g mk q => by obtain ⟨q0, q1, qP, qK, qD⟩ := q; exact ⟨q0, q1, qP, va_K.moved (u := U) (U := U.calling g mk a) (Vm.Alike.refl U.vm) qK, qD⟩, va_recv hK hPc (ci := 0) (q0 := 0) rfl rfl, fun U hU hW => ⟨rfl, by rw [hU], by rw [hU]; exact hPc, va_K.moved hW.alike hK, hDc.weaken (fun _ _ _ _ => trivial)⟩⟩ rfl rfl hl.1 rfl (lv_room (Nat.le_of_ble_eq_true rfl)) dX3_readInto_63 ⟨Nat.le_of_ble_eq_true rfl, Nat.le_of_ble_eq_true rfl⟩) hS (fun q _ h => hFc q h) hFc (fun u t H39 locs ht hvm hw hB hz1 hk1 hS => ?_)
        obtain ⟨hP1, hK1, hD1⟩ := hB
        rw [ht] at hP1
        obtain ⟨hP, hD⟩ := va_join (wr := [(oX3 a3 h3 a1 (.ref a0) s3_32), (h3 12, .inl (y 1, 667, .inr (.inl (gB s3_32 12)))), (h3 13, .inl (y 0, 667, .inl (gA s3_32 13))), (h3 14, .inl (y 0, 667, .inl (gA s3_32 14))), (h3 16, .inl (y 1, 60, .inr (.inl (gB s3_32 16)))), (oX1 a1 h1 (.ref atx) s1_18), (atx, .inl (y 2, 2000, .inl ft))]) (w1 := (cX0 a0 h0 y s0_37)) hP hD [7, 8, 9, 10, 11, 12, 13, 14, 15, 16, 17, 18] [0, 1, 2, 3, 4, 5, 6] rfl rfl (by decide) (by decide) hk1 hFc hP1 hD1
        have hP : va_P (dC, dI) vwCl ((cX3 a3 h3 a1 (.ref a0) y s3_32) ++ ((cX1 a1 h1 (.ref atx) y s1_18) ++ (([(atx, .inl (y 2, 2000, .inl ft))]) ++ (cX0 a0 h0 y s0_37)))) H39 := hP.sub [0, 1, 2, 3, 4, 5, 6, 7, 8, 9, 10, 11, 12, 13, 14, 15, 16, 17, 18] rfl
        have hD : va_D A ((cX3 a3 h3 a1 (.ref a0) y s3_32) ++ ((cX1 a1 h1 (.ref atx) y s1_18) ++ (([(atx, .inl (y 2, 2000, .inl ft))]) ++ (cX0 a0 h0 y s0_37)))) := hD.sub [0, 1, 2, 3, 4, 5, 6, 7, 8, 9, 10, 11, 12, 13, 14, 15, 16, 17, 18] (by decide) rfl
        refine lv_iconst (v := 1) hx hb dX3_readInto_66 (by decide) ?_
        have ho0 : (1 : Int32) = or_ := congrArg (fun z : Int32 × SS × SS × SS => z.1) (Option.some.inj h)
        have ho1 : s3_32 = o_3 := congrArg (fun z : Int32 × SS × SS × SS => z.2.1) (Option.some.inj h)
        have ho2 : s1_18 = o_1 := congrArg (fun z : Int32 × SS × SS × SS => z.2.2.1) (Option.some.inj h)
        have ho3 : s0_37 = o_0 := congrArg (fun z : Int32 × SS × SS × SS => z.2.2.2) (Option.some.inj h)
        exact W.zret (v := 1) hx hb hr (by decide) (fun t ht hW => ⟨⟨1, (), rfl, ho0, by rw [ht]; rw [← ho1, ← ho2, ← ho3]; exact hP, va_K.moved hW.alike hK, by rw [← ho1, ← ho2, ← ho3]; exact hD⟩, hS.F ht⟩) hS.2.2 dX3_readInto_67
      · have h := zY c36 h
        refine lv_iconst (v := 0) hx hb dX3_readInto_57 (by decide) ?_
        have ho0 : (0 : Int32) = or_ := congrArg (fun z : Int32 × SS × SS × SS => z.1) (Option.some.inj h)
        have ho1 : s3_32 = o_3 := congrArg (fun z : Int32 × SS × SS × SS => z.2.1) (Option.some.inj h)
        have ho2 : s1_18 = o_1 := congrArg (fun z : Int32 × SS × SS × SS => z.2.2.1) (Option.some.inj h)
        have ho3 : s0_26 = o_0 := congrArg (fun z : Int32 × SS × SS × SS => z.2.2.2) (Option.some.inj h)
        exact W.zret (v := 0) hx hb hr (by decide) (fun t ht hW => ⟨⟨0, (), rfl, ho0, by rw [ht]; rw [← ho1, ← ho2, ← ho3]; exact hP, va_K.moved hW.alike hK, by rw [← ho1, ← ho2, ← ho3]; exact hD⟩, hS.F ht⟩) hS.2.2 dX3_readInto_58
