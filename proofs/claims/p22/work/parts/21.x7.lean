noncomputable def f_X7_isLetter (p1 : Int32) : Option (Int32) :=
  if p1 < (97 : Int32) then some (0 : Int32)
  else if (122 : Int32) < p1 then some (0 : Int32)
  else some (1 : Int32)

noncomputable def f_X7_isDigit (p1 : Int32) : Option (Int32) :=
  if p1 < (48 : Int32) then some (0 : Int32)
  else if (57 : Int32) < p1 then some (0 : Int32)
  else some (1 : Int32)

noncomputable def f_X7_gateOf (p1 : Int64) : Option (Int32) :=
  if (lg_cmp p1 (6385252 : Int64)) = (0 : Int32) then some (0 : Int32)
  else if (lg_cmp p1 (28530 : Int64)) = (0 : Int32) then some (1 : Int32)
  else if (lg_cmp p1 (1851879012 : Int64)) = (0 : Int32) then some (2 : Int32)
  else if (lg_cmp p1 (7237490 : Int64)) = (0 : Int32) then some (3 : Int32)
  else if (lg_cmp p1 (7892850 : Int64)) = (0 : Int32) then some (4 : Int32)
  else if (lg_cmp p1 (2020503410 : Int64)) = (0 : Int32) then some (5 : Int32)
  else if (lg_cmp p1 (7237492 : Int64)) = (0 : Int32) then some (6 : Int32)
  else if (lg_cmp p1 (6452582 : Int64)) = (0 : Int32) then some (7 : Int32)
  else if (lg_cmp p1 (7173496 : Int64)) = (0 : Int32) then some (8 : Int32)
  else some (-1 : Int32)

noncomputable def f_X7_mostOf (p1 : Int32) : Option (Int32) :=
  if p1 = (6 : Int32) then some (1 : Int32)
  else if p1 = (7 : Int32) then some (1 : Int32)
  else if p1 = (8 : Int32) then some (3 : Int32)
  else some (6 : Int32)

noncomputable def f_X7_leastOf (p1 : Int32) : Option (Int32) :=
  if p1 = (6 : Int32) then some (1 : Int32)
  else if p1 = (7 : Int32) then some (1 : Int32)
  else if p1 = (8 : Int32) then some (3 : Int32)
  else some (2 : Int32)

noncomputable def f_X7_taken (p1 : Int32) : Option (Int32) :=
  if p1 = (3 : Int32) then some (2 : Int32)
  else some p1

noncomputable def b_X7_plain_6 (p1 : Int64) : (Int64 × Int32) → Option ((Int64 × Int32) ⊕ (Int64)) := fun (v10, v11) =>
  if v11 < (0 : Int32) then some (Sum.inr v10)
  else if (lg_cmp ((jLr p1 v11) &&& (255 : Int64)) (0 : Int64)) = (0 : Int32) then zL (v11 + Int32.ofInt (-8)) (fun v14 =>
  some (Sum.inl (v10, v14)))
  else zL ((jLs v10 (8 : Int32)) ||| ((jLr p1 v11) &&& (255 : Int64))) (fun v15 =>
  zL (v11 + Int32.ofInt (-8)) (fun v16 =>
  some (Sum.inl (v15, v16))))
noncomputable def f_X7_plain (p1 : Int64) : Option (Int64) :=
  zI (b_X7_plain_6 p1) zF ((0 : Int64), (56 : Int32))

noncomputable def f_X7_sign (S7 : SS) (p1 : Int32) : Option (Int32) :=
  if (gI S7 3) ≤ p1 then some (0 : Int32)
  else zG (vp_in p1 2000) (
  some ((gA S7 1 p1.toNatClampNeg) &&& (255 : Int32)))

noncomputable def f_X7_fails (S7 : SS) (p1 : Int32) (p2 : Int32) : Option (SS) :=
  if (gI S7 4) ≤ (0 : Int32) then zL (sI S7 4 p1) (fun s7_3 =>
  zL (sI s7_3 5 p2) (fun s7_5 =>
  some s7_5))
  else some S7

noncomputable def f_X7_isGood (S7 : SS) : Option (Int32) :=
  if (gI S7 4) = (0 : Int32) then some (1 : Int32)
  else some (0 : Int32)

noncomputable def b_X7_next_170 : (Int32 × SS) → Option ((Int32 × SS) ⊕ (SS)) := fun (v126, s7_127) =>
  if (gI s7_127 7) ≤ v126 then some (Sum.inr s7_127)
  else if ((gI s7_127 6) + (8 : Int32)) ≤ v126 then some (Sum.inr s7_127)
  else zB (f_X7_sign s7_127 v126) (fun (r130 : Int32) =>
  zL (sL s7_127 10 ((jLs (gL s7_127 10) (8 : Int32)) ||| (jIL r130))) (fun s7_135 =>
  zL (v126 + 1) (fun v136 =>
  some (Sum.inl (v136, s7_135)))))
noncomputable def b_X7_next_119 : (SS) → Option ((SS) ⊕ (SS)) := fun s7_137 =>
  zB (f_X7_sign s7_137 (gI s7_137 7)) (fun (r138 : Int32) =>
  zB (f_X7_isLetter r138) (fun (r142 : Int32) =>
  zS (if r142 = (0 : Int32) then zB (f_X7_sign s7_137 (gI s7_137 7)) (fun (r155 : Int32) =>
  zB (f_X7_isDigit r155) (fun (r159 : Int32) =>
  if r159 = (0 : Int32) then some (Sum.inl (Sum.inr s7_137))
  else some (Sum.inr ())))
  else some (Sum.inr ())) (fun (_ : Unit) =>
  zL (sI s7_137 7 ((gI s7_137 7) + (1 : Int32))) (fun s7_153 =>
  some (Sum.inl s7_153)))))
noncomputable def b_X7_next_8 : (SS) → Option ((SS) ⊕ (SS)) := fun s7_170 =>
  if (gI s7_170 3) ≤ (gI s7_170 6) then some (Sum.inr s7_170)
  else zB (f_X7_sign s7_170 (gI s7_170 6)) (fun (r172 : Int32) =>
  zS (if r172 = (32 : Int32) then some (Sum.inr ())
  else zB (f_X7_sign s7_170 (gI s7_170 6)) (fun (r185 : Int32) =>
  if r185 = (10 : Int32) then some (Sum.inr ())
  else some (Sum.inl (Sum.inr s7_170)))) (fun (_ : Unit) =>
  zL (sI s7_170 6 ((gI s7_170 6) + (1 : Int32))) (fun s7_183 =>
  some (Sum.inl s7_183))))
noncomputable def f_X7_next (S7 : SS) : Option (SS) :=
  zL (sI S7 6 (gI S7 7)) (fun s7_2 =>
  zB (zI (b_X7_next_8) zF s7_2) (fun (s7_12 : SS) =>
  zB (f_X7_sign s7_12 (gI s7_12 6)) (fun (r13 : Int32) =>
  zL (sI s7_12 7 ((gI s7_12 6) + (1 : Int32))) (fun s7_18 =>
  if (gI s7_18 6) < (gI s7_18 3) then zB (f_X7_isLetter r13) (fun (r20 : Int32) =>
  if r20 = (0 : Int32) then zB (f_X7_isDigit r13) (fun (r25 : Int32) =>
  if r25 = (0 : Int32) then zB (if r13 = (44 : Int32) then some (5 : Int32)
  else if r13 = (59 : Int32) then some (5 : Int32)
  else if r13 = (61 : Int32) then some (5 : Int32)
  else if r13 = (40 : Int32) then some (5 : Int32)
  else if r13 = (41 : Int32) then some (5 : Int32)
  else if r13 = (60 : Int32) then some (5 : Int32)
  else some (1 : Int32)) (fun (v36 : Int32) =>
  zL (sI s7_18 8 v36) (fun s7_38 =>
  some s7_38))
  else zL (sI s7_18 9 (r13 - (48 : Int32))) (fun s7_46 =>
  zB (if r13 = (48 : Int32) then some (1 : Int32)
  else zB (f_X7_sign s7_46 (gI s7_46 7)) (fun (r57 : Int32) =>
  zB (f_X7_isLetter r57) (fun (r61 : Int32) =>
  if r61 = (0 : Int32) then zB (f_X7_sign s7_46 (gI s7_46 7)) (fun (r66 : Int32) =>
  zB (f_X7_isDigit r66) (fun (r70 : Int32) =>
  if r70 = (0 : Int32) then some (4 : Int32)
  else some (1 : Int32)))
  else some (1 : Int32)))) (fun (v53 : Int32) =>
  zL (sI s7_46 8 v53) (fun s7_55 =>
  some s7_55))))
  else zB (zI (b_X7_next_119) zF s7_18) (fun (s7_84 : SS) =>
  zL (sL s7_84 10 (0 : Int64)) (fun s7_86 =>
  zL (gI s7_86 6) (fun v87 =>
  zB (zI (b_X7_next_170) zF (v87, s7_86)) (fun (s7_97 : SS) =>
  zB (f_X7_gateOf (gL s7_97 10)) (fun (r98 : Int32) =>
  zB (if (0 : Int32) ≤ r98 then some (1 : Int32)
  else if (lg_cmp (gL s7_97 10) (26990 : Int64)) = (0 : Int32) then some (1 : Int32)
  else if (lg_cmp (gL s7_97 10) (6452595 : Int64)) = (0 : Int32) then some (1 : Int32)
  else if (lg_cmp (gL s7_97 10) (7497063 : Int64)) = (0 : Int32) then some (1 : Int32)
  else if (lg_cmp (gL s7_97 10) (6907441 : Int64)) = (0 : Int32) then some (1 : Int32)
  else if (lg_cmp (gL s7_97 10) (6907440 : Int64)) = (0 : Int32) then some (1 : Int32)
  else some (0 : Int32)) (fun (v108 : Int32) =>
  zB (if ((gI s7_97 7) - (gI s7_97 6)) ≤ (8 : Int32) then if v108 = (0 : Int32) then some (2 : Int32)
  else some (3 : Int32)
  else some (1 : Int32)) (fun (v115 : Int32) =>
  zL (sI s7_97 8 v115) (fun s7_117 =>
  some s7_117)))))))))
  else zL (sI s7_18 8 (0 : Int32)) (fun s7_165 =>
  zL (sI s7_165 6 (gI s7_165 3)) (fun s7_167 =>
  zL (sI s7_167 7 (gI s7_167 3)) (fun s7_169 =>
  some s7_169)))))))

noncomputable def f_X7_is (S7 : SS) (p1 : Int32) : Option (Int32) :=
  if (gI S7 8) = (5 : Int32) then zB (f_X7_sign S7 (gI S7 6)) (fun (r2 : Int32) =>
  if r2 = p1 then some (1 : Int32)
  else some (0 : Int32))
  else some (0 : Int32)

noncomputable def f_X7_isWord (S7 : SS) (p1 : Int64) : Option (Int32) :=
  if (gI S7 8) = (3 : Int32) then if (lg_cmp (gL S7 10) p1) = (0 : Int32) then some (1 : Int32)
  else some (0 : Int32)
  else some (0 : Int32)

noncomputable def f_X7_wrong (S7 : SS) : Option (SS) :=
  zB (if (gI S7 8) = (1 : Int32) then some (1 : Int32)
  else some (2 : Int32)) (fun (v7 : Int32) =>
  zB (f_X7_fails S7 v7 (gI S7 6)) (fun (s7_8 : SS) =>
  some s7_8))

noncomputable def f_X7_must (S7 : SS) (p1 : Int32) : Option (SS) :=
  zB (f_X7_is S7 p1) (fun (r1 : Int32) =>
  if r1 = (0 : Int32) then zB (f_X7_wrong S7) (fun (s7_6 : SS) =>
  some s7_6)
  else zB (f_X7_next S7) (fun (s7_10 : SS) =>
  some s7_10))

noncomputable def b_X7_newOf_2 (S7 : SS) (p1 : Int64) : (Int32) → Option ((Int32) ⊕ (Int32)) := fun v10 =>
  if (gI S7 26) ≤ v10 then some (Sum.inr (-1 : Int32))
  else zG (vp_in (((60 : Int32) * (gI S7 30)) + v10) 120) (
  if (lg_cmp (gB S7 11 (((60 : Int32) * (gI S7 30)) + v10).toNatClampNeg) p1) = (0 : Int32) then some (Sum.inr v10)
  else zL (v10 + 1) (fun v14 =>
  some (Sum.inl v14)))
noncomputable def f_X7_newOf (S7 : SS) (p1 : Int64) : Option (Int32) :=
  zI (b_X7_newOf_2 S7 p1) zF (0 : Int32)

noncomputable def f_X7_tell (S7 : SS) (p1 : Int32) : Option (Int32 × SS) :=
  zB (if (gI S7 8) = (2 : Int32) then if (gI S7 26) = (60 : Int32) then zB (f_X7_wrong S7) (fun (s7_61 : SS) =>
  some s7_61)
  else some S7
  else zB (f_X7_wrong S7) (fun (s7_56 : SS) =>
  some s7_56)) (fun (s7_7 : SS) =>
  zB (f_X7_isGood s7_7) (fun (r8 : Int32) =>
  zB (if r8 = (0 : Int32) then some s7_7
  else zB (f_X7_newOf s7_7 (gL s7_7 10)) (fun (r46 : Int32) =>
  if r46 < (0 : Int32) then some s7_7
  else zB (f_X7_fails s7_7 (3 : Int32) (gI s7_7 6)) (fun (s7_51 : SS) =>
  some s7_51))) (fun (s7_18 : SS) =>
  zB (f_X7_isGood s7_18) (fun (r19 : Int32) =>
  if r19 = (0 : Int32) then some ((-1 : Int32), s7_18)
  else zL (((60 : Int32) * (gI s7_18 30)) + (gI s7_18 26)) (fun v24 =>
  zG (vp_in v24 120) (
  zL (sB s7_18 11 (vp_updL (gB s7_18 11) v24.toNatClampNeg (gL s7_18 10))) (fun s7_27 =>
  zL (sA s7_27 12 (upd (gA s7_27 12) v24.toNatClampNeg p1)) (fun s7_29 =>
  zL (sA s7_29 13 (upd (gA s7_29 13) v24.toNatClampNeg (-1 : Int32))) (fun s7_31 =>
  zL (sA s7_31 14 (upd (gA s7_31 14) v24.toNatClampNeg (0 : Int32))) (fun s7_33 =>
  zL (sA s7_33 15 (upd (gA s7_33 15) v24.toNatClampNeg (0 : Int32))) (fun s7_35 =>
  zG (vp_in (gI s7_35 26) 60) (
  zL (sA s7_35 18 (upd (gA s7_35 18) (gI s7_35 26).toNatClampNeg (gI s7_35 6))) (fun s7_38 =>
  zL (sI s7_38 26 ((gI s7_38 26) + (1 : Int32))) (fun s7_40 =>
  zB (f_X7_next s7_40) (fun (s7_41 : SS) =>
  some (v24, s7_41))))))))))))))))

noncomputable def f_X7_ask (S7 : SS) (p1 : Int32) : Option (SS) :=
  zB (if (gI S7 8) = (2 : Int32) then some S7
  else zB (f_X7_wrong S7) (fun (s7_29 : SS) =>
  some s7_29)) (fun (s7_7 : SS) =>
  zB (f_X7_isGood s7_7) (fun (r8 : Int32) =>
  if r8 = (0 : Int32) then some s7_7
  else zG (vp_in (gI s7_7 27) 1000) (
  zL (sB s7_7 20 (vp_updL (gB s7_7 20) (gI s7_7 27).toNatClampNeg (gL s7_7 10))) (fun s7_15 =>
  zG (vp_in (gI s7_15 27) 1000) (
  zL (sA s7_15 21 (upd (gA s7_15 21) (gI s7_15 27).toNatClampNeg (gI s7_15 6))) (fun s7_18 =>
  zG (vp_in (gI s7_18 27) 1000) (
  zL (sA s7_18 22 (upd (gA s7_18 22) (gI s7_18 27).toNatClampNeg p1)) (fun s7_21 =>
  zL (sI s7_21 27 ((gI s7_21 27) + (1 : Int32))) (fun s7_23 =>
  zB (f_X7_next s7_23) (fun (s7_24 : SS) =>
  some s7_24))))))))))

noncomputable def b_X7_tellAll_2 (p1 : Int32) : (Int32 × SS) → Option ((Int32 × SS) ⊕ (SS)) := fun (v20, s7_21) =>
  if v20 = (0 : Int32) then some (Sum.inr s7_21)
  else zB (f_X7_isGood s7_21) (fun (r23 : Int32) =>
  if r23 = (0 : Int32) then some (Sum.inr s7_21)
  else zB (f_X7_next s7_21) (fun (s7_28 : SS) =>
  zB (f_X7_tell s7_28 p1) (fun ((r32, s7_33) : Int32 × SS) =>
  zB (f_X7_isGood s7_33) (fun (r37 : Int32) =>
  if r37 = (0 : Int32) then some (Sum.inl ((0 : Int32), s7_33))
  else zB (f_X7_is s7_33 (44 : Int32)) (fun (r42 : Int32) =>
  if r42 = (0 : Int32) then some (Sum.inl ((0 : Int32), s7_33))
  else some (Sum.inl ((1 : Int32), s7_33)))))))
noncomputable def f_X7_tellAll (S7 : SS) (p1 : Int32) : Option (SS) :=
  zB (zI (b_X7_tellAll_2 p1) zF ((1 : Int32), S7)) (fun (s7_10 : SS) =>
  zB (f_X7_isGood s7_10) (fun (r11 : Int32) =>
  if r11 = (0 : Int32) then some s7_10
  else zB (f_X7_must s7_10 (59 : Int32)) (fun (s7_16 : SS) =>
  some s7_16)))

noncomputable def f_X7_readRegister (S7 : SS) : Option (SS) :=
  zB (f_X7_next S7) (fun (s7_1 : SS) =>
  zB (f_X7_tell s7_1 (3 : Int32)) (fun ((r5, s7_6) : Int32 × SS) =>
  zB (f_X7_isGood s7_6) (fun (r10 : Int32) =>
  zB (if r10 = (0 : Int32) then some s7_6
  else zB (f_X7_must s7_6 (40 : Int32)) (fun (s7_86 : SS) =>
  some s7_86)) (fun (s7_20 : SS) =>
  zB (f_X7_isGood s7_20) (fun (r21 : Int32) =>
  if r21 = (0 : Int32) then some s7_20
  else zB (f_X7_ask s7_20 ((12 : Int32) * r5)) (fun (s7_26 : SS) =>
  zG (vp_in r5 120) (
  zL (sA s7_26 14 (upd (gA s7_26 14) r5.toNatClampNeg (1 : Int32))) (fun s7_32 =>
  zB (f_X7_isGood s7_32) (fun (r33 : Int32) =>
  zB (if r33 = (0 : Int32) then some s7_32
  else zB (f_X7_is s7_32 (44 : Int32)) (fun (r70 : Int32) =>
  if r70 = (0 : Int32) then some s7_32
  else zB (f_X7_next s7_32) (fun (s7_75 : SS) =>
  zB (f_X7_ask s7_75 (((12 : Int32) * r5) + (1 : Int32))) (fun (s7_79 : SS) =>
  zL (sA s7_79 14 (upd (gA s7_79 14) r5.toNatClampNeg (2 : Int32))) (fun s7_84 =>
  some s7_84))))) (fun (s7_43 : SS) =>
  zB (f_X7_isGood s7_43) (fun (r44 : Int32) =>
  zB (if r44 = (0 : Int32) then some s7_43
  else zB (f_X7_must s7_43 (41 : Int32)) (fun (s7_65 : SS) =>
  some s7_65)) (fun (s7_54 : SS) =>
  zB (f_X7_isGood s7_54) (fun (r55 : Int32) =>
  if r55 = (0 : Int32) then some s7_54
  else zB (f_X7_must s7_54 (59 : Int32)) (fun (s7_60 : SS) =>
  some s7_60))))))))))))))

set_option maxHeartbeats 4000000 in
set_option maxRecDepth 100000 in
theorem m_X7_isLetter (l : Launch) (dC : Nat → ClassId) (dI : Nat → Nat → Nat) (y : Nat → ClassId) (p1 : Int32) (sz : Nat) (or_ : Int32) (h : f_X7_isLetter p1 = some or_) : Met l yX7_isLetter wsX7_isLetter ({ frames := 0, cells := 0, slots := 0, locals := 0 }) (va_Pc [.int p1] (fun U => U.heap.size = sz ∧ va_P (dC, dI) vwCl [] U.heap ∧ va_K (dC, dI) vwCl [(y 0, .int), (y 1, .long), (y 2, .byte), (y 3, .boolean)] U ∧ va_D (fun _ => True) [])) (va_Qi (fun (r : Int32) (_ : Unit) => r = or_) (fun (_ : Unit) (t : State) => va_P (dC, dI) vwCl [] t.heap ∧ va_K (dC, dI) vwCl [(y 0, .int), (y 1, .long), (y 2, .byte), (y 3, .boolean)] t ∧ va_D (va_A [] sz) []) (va_A [] sz)) 0 0 (va_A [] sz) := by
  refine Met.ofW (cc := cX7_isLetter) (maxL := 1) (ret := (some .boolean)) (by decide +kernel) rfl ?_
  intro p e s m args below meth c s₁ B hml hv
  obtain ⟨rfl, hsz, hP, hK, hD0⟩ := hv
  have hx := B.exec
  have hb := B.bytes
  have hr := B.returns
  have hts := atoms_spec (ws := wsX7_isLetter) B.pre
  have hown : s.vm.findClass RX7 = some m.cls := findClass_of_methodNamed B.named
  have hlocks := B.notSynchronized
  subst hsz
  have hD := hD0.self (sz := s.heap.size)
  generalize hAe : va_A [] s.heap.size = A at hD ⊢
  have hA : ∀ q : Nat, s.heap.size ≤ q → A q := fun q h => by rw [← hAe]; exact Or.inr h
  have hS : va_S A s.heap s.heap [] := va_S.rf
  have hP : va_P (dC, dI) vwCl [] s.heap := hP
  have hl := lv_entry ([.int p1]) (n := 1) (Nat.le_of_ble_eq_true rfl)
  rw [lg_entry_eq]
  generalize (lg_sl ([.int p1]) ++ List.replicate (1 - (lg_sl ([.int p1])).length) Slot.unset).toArray = ls at hl ⊢
  have hl : lv_has ls 1 [(0, .int p1)] := hl
  refine lv_iload_n hx hb dX7_isLetter_0 rfl (lv_at hl 0 rfl) ?_
  refine lv_bipush (v := 97) hx hb dX7_isLetter_1 (by decide) ?_
  refine lv_icmp_lt (tgt := 16) hx hb dX7_isLetter_3 (by decide) (fun c1 => ?_) (fun c1 => ?_)
  · have h := zY c1 h
    refine lv_iconst (v := 0) hx hb dX7_isLetter_16 (by decide) ?_
    have ho0 : (0 : Int32) = or_ := congrArg (fun z : Int32 => z) (Option.some.inj h)
    exact W.zret (v := 0) hx hb hr (by decide) (fun t ht hW => ⟨⟨0, (), rfl, ho0, by rw [ht]; exact hP, va_K.moved hW.alike hK, hD⟩, hS.F ht⟩) hS.2.2 dX7_isLetter_17
  · have h := zN c1 h
    refine lv_iload_n hx hb dX7_isLetter_6 rfl (lv_at hl 0 rfl) ?_
    refine lv_bipush (v := 122) hx hb dX7_isLetter_7 (by decide) ?_
    refine lv_icmp_gt (tgt := 16) hx hb dX7_isLetter_9 (by decide) (fun c2 => ?_) (fun c2 => ?_)
    · have h := zY c2 h
      refine lv_iconst (v := 0) hx hb dX7_isLetter_16 (by decide) ?_
      have ho0 : (0 : Int32) = or_ := congrArg (fun z : Int32 => z) (Option.some.inj h)
      exact W.zret (v := 0) hx hb hr (by decide) (fun t ht hW => ⟨⟨0, (), rfl, ho0, by rw [ht]; exact hP, va_K.moved hW.alike hK, hD⟩, hS.F ht⟩) hS.2.2 dX7_isLetter_17
    · have h := zN c2 h
      refine lv_iconst (v := 1) hx hb dX7_isLetter_12 (by decide) ?_
      refine lv_goto (tgt := 17) hx hb dX7_isLetter_13 (by decide) ?_
      have ho0 : (1 : Int32) = or_ := congrArg (fun z : Int32 => z) (Option.some.inj h)
      exact W.zret (v := 1) hx hb hr (by decide) (fun t ht hW => ⟨⟨1, (), rfl, ho0, by rw [ht]; exact hP, va_K.moved hW.alike hK, hD⟩, hS.F ht⟩) hS.2.2 dX7_isLetter_17

set_option maxHeartbeats 4000000 in
set_option maxRecDepth 100000 in
theorem m_X7_isDigit (l : Launch) (dC : Nat → ClassId) (dI : Nat → Nat → Nat) (y : Nat → ClassId) (p1 : Int32) (sz : Nat) (or_ : Int32) (h : f_X7_isDigit p1 = some or_) : Met l yX7_isDigit wsX7_isDigit ({ frames := 0, cells := 0, slots := 0, locals := 0 }) (va_Pc [.int p1] (fun U => U.heap.size = sz ∧ va_P (dC, dI) vwCl [] U.heap ∧ va_K (dC, dI) vwCl [(y 0, .int), (y 1, .long), (y 2, .byte), (y 3, .boolean)] U ∧ va_D (fun _ => True) [])) (va_Qi (fun (r : Int32) (_ : Unit) => r = or_) (fun (_ : Unit) (t : State) => va_P (dC, dI) vwCl [] t.heap ∧ va_K (dC, dI) vwCl [(y 0, .int), (y 1, .long), (y 2, .byte), (y 3, .boolean)] t ∧ va_D (va_A [] sz) []) (va_A [] sz)) 0 0 (va_A [] sz) := by
  refine Met.ofW (cc := cX7_isDigit) (maxL := 1) (ret := (some .boolean)) (by decide +kernel) rfl ?_
  intro p e s m args below meth c s₁ B hml hv
  obtain ⟨rfl, hsz, hP, hK, hD0⟩ := hv
  have hx := B.exec
  have hb := B.bytes
  have hr := B.returns
  have hts := atoms_spec (ws := wsX7_isDigit) B.pre
  have hown : s.vm.findClass RX7 = some m.cls := findClass_of_methodNamed B.named
  have hlocks := B.notSynchronized
  subst hsz
  have hD := hD0.self (sz := s.heap.size)
  generalize hAe : va_A [] s.heap.size = A at hD ⊢
  have hA : ∀ q : Nat, s.heap.size ≤ q → A q := fun q h => by rw [← hAe]; exact Or.inr h
  have hS : va_S A s.heap s.heap [] := va_S.rf
  have hP : va_P (dC, dI) vwCl [] s.heap := hP
  have hl := lv_entry ([.int p1]) (n := 1) (Nat.le_of_ble_eq_true rfl)
  rw [lg_entry_eq]
  generalize (lg_sl ([.int p1]) ++ List.replicate (1 - (lg_sl ([.int p1])).length) Slot.unset).toArray = ls at hl ⊢
  have hl : lv_has ls 1 [(0, .int p1)] := hl
  refine lv_iload_n hx hb dX7_isDigit_0 rfl (lv_at hl 0 rfl) ?_
  refine lv_bipush (v := 48) hx hb dX7_isDigit_1 (by decide) ?_
  refine lv_icmp_lt (tgt := 16) hx hb dX7_isDigit_3 (by decide) (fun c1 => ?_) (fun c1 => ?_)
  · have h := zY c1 h
    refine lv_iconst (v := 0) hx hb dX7_isDigit_16 (by decide) ?_
    have ho0 : (0 : Int32) = or_ := congrArg (fun z : Int32 => z) (Option.some.inj h)
    exact W.zret (v := 0) hx hb hr (by decide) (fun t ht hW => ⟨⟨0, (), rfl, ho0, by rw [ht]; exact hP, va_K.moved hW.alike hK, hD⟩, hS.F ht⟩) hS.2.2 dX7_isDigit_17
  · have h := zN c1 h
    refine lv_iload_n hx hb dX7_isDigit_6 rfl (lv_at hl 0 rfl) ?_
    refine lv_bipush (v := 57) hx hb dX7_isDigit_7 (by decide) ?_
    refine lv_icmp_gt (tgt := 16) hx hb dX7_isDigit_9 (by decide) (fun c2 => ?_) (fun c2 => ?_)
    · have h := zY c2 h
      refine lv_iconst (v := 0) hx hb dX7_isDigit_16 (by decide) ?_
      have ho0 : (0 : Int32) = or_ := congrArg (fun z : Int32 => z) (Option.some.inj h)
      exact W.zret (v := 0) hx hb hr (by decide) (fun t ht hW => ⟨⟨0, (), rfl, ho0, by rw [ht]; exact hP, va_K.moved hW.alike hK, hD⟩, hS.F ht⟩) hS.2.2 dX7_isDigit_17
    · have h := zN c2 h
      refine lv_iconst (v := 1) hx hb dX7_isDigit_12 (by decide) ?_
      refine lv_goto (tgt := 17) hx hb dX7_isDigit_13 (by decide) ?_
      have ho0 : (1 : Int32) = or_ := congrArg (fun z : Int32 => z) (Option.some.inj h)
      exact W.zret (v := 1) hx hb hr (by decide) (fun t ht hW => ⟨⟨1, (), rfl, ho0, by rw [ht]; exact hP, va_K.moved hW.alike hK, hD⟩, hS.F ht⟩) hS.2.2 dX7_isDigit_17

set_option maxHeartbeats 4000000 in
set_option maxRecDepth 100000 in
theorem m_X7_gateOf (l : Launch) (dC : Nat → ClassId) (dI : Nat → Nat → Nat) (y : Nat → ClassId) (p1 : Int64) (sz : Nat) (or_ : Int32) (h : f_X7_gateOf p1 = some or_) : Met l yX7_gateOf wsX7_gateOf ({ frames := 0, cells := 0, slots := 0, locals := 0 }) (va_Pc [.long p1] (fun U => U.heap.size = sz ∧ va_P (dC, dI) vwCl [] U.heap ∧ va_K (dC, dI) vwCl [(y 0, .int), (y 1, .long), (y 2, .byte), (y 3, .boolean)] U ∧ va_D (fun _ => True) [])) (va_Qi (fun (r : Int32) (_ : Unit) => r = or_) (fun (_ : Unit) (t : State) => va_P (dC, dI) vwCl [] t.heap ∧ va_K (dC, dI) vwCl [(y 0, .int), (y 1, .long), (y 2, .byte), (y 3, .boolean)] t ∧ va_D (va_A [] sz) []) (va_A [] sz)) 0 0 (va_A [] sz) := by
  refine Met.ofW (cc := cX7_gateOf) (maxL := 2) (ret := (some .int)) (by decide +kernel) rfl ?_
  intro p e s m args below meth c s₁ B hml hv
  obtain ⟨rfl, hsz, hP, hK, hD0⟩ := hv
  have hx := B.exec
  have hb := B.bytes
  have hr := B.returns
  have hts := atoms_spec (ws := wsX7_gateOf) B.pre
  have hown : s.vm.findClass RX7 = some m.cls := findClass_of_methodNamed B.named
  have hlocks := B.notSynchronized
  subst hsz
  have hD := hD0.self (sz := s.heap.size)
  generalize hAe : va_A [] s.heap.size = A at hD ⊢
  have hA : ∀ q : Nat, s.heap.size ≤ q → A q := fun q h => by rw [← hAe]; exact Or.inr h
  have hS : va_S A s.heap s.heap [] := va_S.rf
  have hP : va_P (dC, dI) vwCl [] s.heap := hP
  have hl := lv_entry ([.long p1]) (n := 2) (Nat.le_of_ble_eq_true rfl)
  rw [lg_entry_eq]
  generalize (lg_sl ([.long p1]) ++ List.replicate (2 - (lg_sl ([.long p1])).length) Slot.unset).toArray = ls at hl ⊢
  have hl : lv_has ls 2 [(0, .long p1)] := hl
  refine lv_lload_n hx hb dX7_gateOf_0 rfl (lv_at hl 0 rfl) ?_
  refine lv_ldc2 hx hb hown (hts (.constantLong RX7 113 (6385252)) (List.mem_of_getElem? (i := 1) rfl)) dX7_gateOf_1 ?_
  refine W.lcmp hx hb dX7_gateOf_4 ?_
  refine lv_if_ne (tgt := 10) hx hb dX7_gateOf_5 (by decide) (fun c1 => ?_) (fun c1 => ?_)
  · have h := zN c1 h
    refine lv_lload_n hx hb dX7_gateOf_10 rfl (lv_at hl 0 rfl) ?_
    refine lv_ldc2 hx hb hown (hts (.constantLong RX7 115 (28530)) (List.mem_of_getElem? (i := 2) rfl)) dX7_gateOf_11 ?_
    refine W.lcmp hx hb dX7_gateOf_14 ?_
    refine lv_if_ne (tgt := 20) hx hb dX7_gateOf_15 (by decide) (fun c2 => ?_) (fun c2 => ?_)
    · have h := zN c2 h
      refine lv_lload_n hx hb dX7_gateOf_20 rfl (lv_at hl 0 rfl) ?_
      refine lv_ldc2 hx hb hown (hts (.constantLong RX7 117 (1851879012)) (List.mem_of_getElem? (i := 3) rfl)) dX7_gateOf_21 ?_
      refine W.lcmp hx hb dX7_gateOf_24 ?_
      refine lv_if_ne (tgt := 30) hx hb dX7_gateOf_25 (by decide) (fun c3 => ?_) (fun c3 => ?_)
      · have h := zN c3 h
        refine lv_lload_n hx hb dX7_gateOf_30 rfl (lv_at hl 0 rfl) ?_
        refine lv_ldc2 hx hb hown (hts (.constantLong RX7 119 (7237490)) (List.mem_of_getElem? (i := 4) rfl)) dX7_gateOf_31 ?_
        refine W.lcmp hx hb dX7_gateOf_34 ?_
        refine lv_if_ne (tgt := 40) hx hb dX7_gateOf_35 (by decide) (fun c4 => ?_) (fun c4 => ?_)
        · have h := zN c4 h
          refine lv_lload_n hx hb dX7_gateOf_40 rfl (lv_at hl 0 rfl) ?_
          refine lv_ldc2 hx hb hown (hts (.constantLong RX7 121 (7892850)) (List.mem_of_getElem? (i := 5) rfl)) dX7_gateOf_41 ?_
          refine W.lcmp hx hb dX7_gateOf_44 ?_
          refine lv_if_ne (tgt := 50) hx hb dX7_gateOf_45 (by decide) (fun c5 => ?_) (fun c5 => ?_)
          · have h := zN c5 h
            refine lv_lload_n hx hb dX7_gateOf_50 rfl (lv_at hl 0 rfl) ?_
            refine lv_ldc2 hx hb hown (hts (.constantLong RX7 123 (2020503410)) (List.mem_of_getElem? (i := 6) rfl)) dX7_gateOf_51 ?_
            refine W.lcmp hx hb dX7_gateOf_54 ?_
            refine lv_if_ne (tgt := 60) hx hb dX7_gateOf_55 (by decide) (fun c6 => ?_) (fun c6 => ?_)
            · have h := zN c6 h
              refine lv_lload_n hx hb dX7_gateOf_60 rfl (lv_at hl 0 rfl) ?_
              refine lv_ldc2 hx hb hown (hts (.constantLong RX7 125 (7237492)) (List.mem_of_getElem? (i := 7) rfl)) dX7_gateOf_61 ?_
              refine W.lcmp hx hb dX7_gateOf_64 ?_
              refine lv_if_ne (tgt := 71) hx hb dX7_gateOf_65 (by decide) (fun c7 => ?_) (fun c7 => ?_)
              · have h := zN c7 h
                refine lv_lload_n hx hb dX7_gateOf_71 rfl (lv_at hl 0 rfl) ?_
                refine lv_ldc2 hx hb hown (hts (.constantLong RX7 127 (6452582)) (List.mem_of_getElem? (i := 8) rfl)) dX7_gateOf_72 ?_
                refine W.lcmp hx hb dX7_gateOf_75 ?_
                refine lv_if_ne (tgt := 82) hx hb dX7_gateOf_76 (by decide) (fun c8 => ?_) (fun c8 => ?_)
                · have h := zN c8 h
                  refine lv_lload_n hx hb dX7_gateOf_82 rfl (lv_at hl 0 rfl) ?_
                  refine lv_ldc2 hx hb hown (hts (.constantLong RX7 129 (7173496)) (List.mem_of_getElem? (i := 9) rfl)) dX7_gateOf_83 ?_
                  refine W.lcmp hx hb dX7_gateOf_86 ?_
                  refine lv_if_ne (tgt := 93) hx hb dX7_gateOf_87 (by decide) (fun c9 => ?_) (fun c9 => ?_)
                  · have h := zN c9 h
                    refine lv_iconst (v := (-1)) hx hb dX7_gateOf_93 (by decide) ?_
                    have ho0 : (-1 : Int32) = or_ := congrArg (fun z : Int32 => z) (Option.some.inj h)
                    exact W.iret (v := (-1)) hx hb hr (fun t ht hW => ⟨⟨(-1), (), rfl, ho0, by rw [ht]; exact hP, va_K.moved hW.alike hK, hD⟩, hS.F ht⟩) hS.2.2 dX7_gateOf_94
                  · have h := zY c9 h
                    refine lv_bipush (v := 8) hx hb dX7_gateOf_90 (by decide) ?_
                    have ho0 : (8 : Int32) = or_ := congrArg (fun z : Int32 => z) (Option.some.inj h)
                    exact W.iret (v := 8) hx hb hr (fun t ht hW => ⟨⟨8, (), rfl, ho0, by rw [ht]; exact hP, va_K.moved hW.alike hK, hD⟩, hS.F ht⟩) hS.2.2 dX7_gateOf_92
                · have h := zY c8 h
                  refine lv_bipush (v := 7) hx hb dX7_gateOf_79 (by decide) ?_
                  have ho0 : (7 : Int32) = or_ := congrArg (fun z : Int32 => z) (Option.some.inj h)
                  exact W.iret (v := 7) hx hb hr (fun t ht hW => ⟨⟨7, (), rfl, ho0, by rw [ht]; exact hP, va_K.moved hW.alike hK, hD⟩, hS.F ht⟩) hS.2.2 dX7_gateOf_81
              · have h := zY c7 h
                refine lv_bipush (v := 6) hx hb dX7_gateOf_68 (by decide) ?_
                have ho0 : (6 : Int32) = or_ := congrArg (fun z : Int32 => z) (Option.some.inj h)
                exact W.iret (v := 6) hx hb hr (fun t ht hW => ⟨⟨6, (), rfl, ho0, by rw [ht]; exact hP, va_K.moved hW.alike hK, hD⟩, hS.F ht⟩) hS.2.2 dX7_gateOf_70
            · have h := zY c6 h
              refine lv_iconst (v := 5) hx hb dX7_gateOf_58 (by decide) ?_
              have ho0 : (5 : Int32) = or_ := congrArg (fun z : Int32 => z) (Option.some.inj h)
              exact W.iret (v := 5) hx hb hr (fun t ht hW => ⟨⟨5, (), rfl, ho0, by rw [ht]; exact hP, va_K.moved hW.alike hK, hD⟩, hS.F ht⟩) hS.2.2 dX7_gateOf_59
          · have h := zY c5 h
            refine lv_iconst (v := 4) hx hb dX7_gateOf_48 (by decide) ?_
            have ho0 : (4 : Int32) = or_ := congrArg (fun z : Int32 => z) (Option.some.inj h)
            exact W.iret (v := 4) hx hb hr (fun t ht hW => ⟨⟨4, (), rfl, ho0, by rw [ht]; exact hP, va_K.moved hW.alike hK, hD⟩, hS.F ht⟩) hS.2.2 dX7_gateOf_49
        · have h := zY c4 h
          refine lv_iconst (v := 3) hx hb dX7_gateOf_38 (by decide) ?_
          have ho0 : (3 : Int32) = or_ := congrArg (fun z : Int32 => z) (Option.some.inj h)
          exact W.iret (v := 3) hx hb hr (fun t ht hW => ⟨⟨3, (), rfl, ho0, by rw [ht]; exact hP, va_K.moved hW.alike hK, hD⟩, hS.F ht⟩) hS.2.2 dX7_gateOf_39
      · have h := zY c3 h
        refine lv_iconst (v := 2) hx hb dX7_gateOf_28 (by decide) ?_
        have ho0 : (2 : Int32) = or_ := congrArg (fun z : Int32 => z) (Option.some.inj h)
        exact W.iret (v := 2) hx hb hr (fun t ht hW => ⟨⟨2, (), rfl, ho0, by rw [ht]; exact hP, va_K.moved hW.alike hK, hD⟩, hS.F ht⟩) hS.2.2 dX7_gateOf_29
    · have h := zY c2 h
      refine lv_iconst (v := 1) hx hb dX7_gateOf_18 (by decide) ?_
      have ho0 : (1 : Int32) = or_ := congrArg (fun z : Int32 => z) (Option.some.inj h)
      exact W.iret (v := 1) hx hb hr (fun t ht hW => ⟨⟨1, (), rfl, ho0, by rw [ht]; exact hP, va_K.moved hW.alike hK, hD⟩, hS.F ht⟩) hS.2.2 dX7_gateOf_19
  · have h := zY c1 h
    refine lv_iconst (v := 0) hx hb dX7_gateOf_8 (by decide) ?_
    have ho0 : (0 : Int32) = or_ := congrArg (fun z : Int32 => z) (Option.some.inj h)
    exact W.iret (v := 0) hx hb hr (fun t ht hW => ⟨⟨0, (), rfl, ho0, by rw [ht]; exact hP, va_K.moved hW.alike hK, hD⟩, hS.F ht⟩) hS.2.2 dX7_gateOf_9

set_option maxHeartbeats 4000000 in
set_option maxRecDepth 100000 in
theorem m_X7_mostOf (l : Launch) (dC : Nat → ClassId) (dI : Nat → Nat → Nat) (y : Nat → ClassId) (p1 : Int32) (sz : Nat) (or_ : Int32) (h : f_X7_mostOf p1 = some or_) : Met l yX7_mostOf wsX7_mostOf ({ frames := 0, cells := 0, slots := 0, locals := 0 }) (va_Pc [.int p1] (fun U => U.heap.size = sz ∧ va_P (dC, dI) vwCl [] U.heap ∧ va_K (dC, dI) vwCl [(y 0, .int), (y 1, .long), (y 2, .byte), (y 3, .boolean)] U ∧ va_D (fun _ => True) [])) (va_Qi (fun (r : Int32) (_ : Unit) => r = or_) (fun (_ : Unit) (t : State) => va_P (dC, dI) vwCl [] t.heap ∧ va_K (dC, dI) vwCl [(y 0, .int), (y 1, .long), (y 2, .byte), (y 3, .boolean)] t ∧ va_D (va_A [] sz) []) (va_A [] sz)) 0 0 (va_A [] sz) := by
  refine Met.ofW (cc := cX7_mostOf) (maxL := 1) (ret := (some .int)) (by decide +kernel) rfl ?_
  intro p e s m args below meth c s₁ B hml hv
  obtain ⟨rfl, hsz, hP, hK, hD0⟩ := hv
  have hx := B.exec
  have hb := B.bytes
  have hr := B.returns
  have hts := atoms_spec (ws := wsX7_mostOf) B.pre
  have hown : s.vm.findClass RX7 = some m.cls := findClass_of_methodNamed B.named
  have hlocks := B.notSynchronized
  subst hsz
  have hD := hD0.self (sz := s.heap.size)
  generalize hAe : va_A [] s.heap.size = A at hD ⊢
  have hA : ∀ q : Nat, s.heap.size ≤ q → A q := fun q h => by rw [← hAe]; exact Or.inr h
  have hS : va_S A s.heap s.heap [] := va_S.rf
  have hP : va_P (dC, dI) vwCl [] s.heap := hP
  have hl := lv_entry ([.int p1]) (n := 1) (Nat.le_of_ble_eq_true rfl)
  rw [lg_entry_eq]
  generalize (lg_sl ([.int p1]) ++ List.replicate (1 - (lg_sl ([.int p1])).length) Slot.unset).toArray = ls at hl ⊢
  have hl : lv_has ls 1 [(0, .int p1)] := hl
  refine lv_iload_n hx hb dX7_mostOf_0 rfl (lv_at hl 0 rfl) ?_
  refine lv_bipush (v := 6) hx hb dX7_mostOf_1 (by decide) ?_
  refine lv_icmp_eq (tgt := 12) hx hb dX7_mostOf_3 (by decide) (fun c1 => ?_) (fun c1 => ?_)
  · have h := zY c1 h
    refine lv_iconst (v := 1) hx hb dX7_mostOf_12 (by decide) ?_
    refine lv_goto (tgt := 28) hx hb dX7_mostOf_13 (by decide) ?_
    have ho0 : (1 : Int32) = or_ := congrArg (fun z : Int32 => z) (Option.some.inj h)
    exact W.iret (v := 1) hx hb hr (fun t ht hW => ⟨⟨1, (), rfl, ho0, by rw [ht]; exact hP, va_K.moved hW.alike hK, hD⟩, hS.F ht⟩) hS.2.2 dX7_mostOf_28
  · have h := zN c1 h
    refine lv_iload_n hx hb dX7_mostOf_6 rfl (lv_at hl 0 rfl) ?_
    refine lv_bipush (v := 7) hx hb dX7_mostOf_7 (by decide) ?_
    refine lv_icmp_ne (tgt := 16) hx hb dX7_mostOf_9 (by decide) (fun c2 => ?_) (fun c2 => ?_)
    · have h := zN c2 h
      refine lv_iload_n hx hb dX7_mostOf_16 rfl (lv_at hl 0 rfl) ?_
      refine lv_bipush (v := 8) hx hb dX7_mostOf_17 (by decide) ?_
      refine lv_icmp_ne (tgt := 26) hx hb dX7_mostOf_19 (by decide) (fun c3 => ?_) (fun c3 => ?_)
      · have h := zN c3 h
        refine lv_bipush (v := 6) hx hb dX7_mostOf_26 (by decide) ?_
        have ho0 : (6 : Int32) = or_ := congrArg (fun z : Int32 => z) (Option.some.inj h)
        exact W.iret (v := 6) hx hb hr (fun t ht hW => ⟨⟨6, (), rfl, ho0, by rw [ht]; exact hP, va_K.moved hW.alike hK, hD⟩, hS.F ht⟩) hS.2.2 dX7_mostOf_28
      · have h := zY c3 h
        refine lv_iconst (v := 3) hx hb dX7_mostOf_22 (by decide) ?_
        refine lv_goto (tgt := 28) hx hb dX7_mostOf_23 (by decide) ?_
        have ho0 : (3 : Int32) = or_ := congrArg (fun z : Int32 => z) (Option.some.inj h)
        exact W.iret (v := 3) hx hb hr (fun t ht hW => ⟨⟨3, (), rfl, ho0, by rw [ht]; exact hP, va_K.moved hW.alike hK, hD⟩, hS.F ht⟩) hS.2.2 dX7_mostOf_28
    · have h := zY c2 h
      refine lv_iconst (v := 1) hx hb dX7_mostOf_12 (by decide) ?_
      refine lv_goto (tgt := 28) hx hb dX7_mostOf_13 (by decide) ?_
      have ho0 : (1 : Int32) = or_ := congrArg (fun z : Int32 => z) (Option.some.inj h)
      exact W.iret (v := 1) hx hb hr (fun t ht hW => ⟨⟨1, (), rfl, ho0, by rw [ht]; exact hP, va_K.moved hW.alike hK, hD⟩, hS.F ht⟩) hS.2.2 dX7_mostOf_28

set_option maxHeartbeats 4000000 in
set_option maxRecDepth 100000 in
theorem m_X7_leastOf (l : Launch) (dC : Nat → ClassId) (dI : Nat → Nat → Nat) (y : Nat → ClassId) (p1 : Int32) (sz : Nat) (or_ : Int32) (h : f_X7_leastOf p1 = some or_) : Met l yX7_leastOf wsX7_leastOf ({ frames := 0, cells := 0, slots := 0, locals := 0 }) (va_Pc [.int p1] (fun U => U.heap.size = sz ∧ va_P (dC, dI) vwCl [] U.heap ∧ va_K (dC, dI) vwCl [(y 0, .int), (y 1, .long), (y 2, .byte), (y 3, .boolean)] U ∧ va_D (fun _ => True) [])) (va_Qi (fun (r : Int32) (_ : Unit) => r = or_) (fun (_ : Unit) (t : State) => va_P (dC, dI) vwCl [] t.heap ∧ va_K (dC, dI) vwCl [(y 0, .int), (y 1, .long), (y 2, .byte), (y 3, .boolean)] t ∧ va_D (va_A [] sz) []) (va_A [] sz)) 0 0 (va_A [] sz) := by
  refine Met.ofW (cc := cX7_leastOf) (maxL := 1) (ret := (some .int)) (by decide +kernel) rfl ?_
  intro p e s m args below meth c s₁ B hml hv
  obtain ⟨rfl, hsz, hP, hK, hD0⟩ := hv
  have hx := B.exec
  have hb := B.bytes
  have hr := B.returns
  have hts := atoms_spec (ws := wsX7_leastOf) B.pre
  have hown : s.vm.findClass RX7 = some m.cls := findClass_of_methodNamed B.named
  have hlocks := B.notSynchronized
  subst hsz
  have hD := hD0.self (sz := s.heap.size)
  generalize hAe : va_A [] s.heap.size = A at hD ⊢
  have hA : ∀ q : Nat, s.heap.size ≤ q → A q := fun q h => by rw [← hAe]; exact Or.inr h
  have hS : va_S A s.heap s.heap [] := va_S.rf
  have hP : va_P (dC, dI) vwCl [] s.heap := hP
  have hl := lv_entry ([.int p1]) (n := 1) (Nat.le_of_ble_eq_true rfl)
  rw [lg_entry_eq]
  generalize (lg_sl ([.int p1]) ++ List.replicate (1 - (lg_sl ([.int p1])).length) Slot.unset).toArray = ls at hl ⊢
  have hl : lv_has ls 1 [(0, .int p1)] := hl
  refine lv_iload_n hx hb dX7_leastOf_0 rfl (lv_at hl 0 rfl) ?_
  refine lv_bipush (v := 6) hx hb dX7_leastOf_1 (by decide) ?_
  refine lv_icmp_eq (tgt := 12) hx hb dX7_leastOf_3 (by decide) (fun c1 => ?_) (fun c1 => ?_)
  · have h := zY c1 h
    refine lv_iconst (v := 1) hx hb dX7_leastOf_12 (by decide) ?_
    refine lv_goto (tgt := 27) hx hb dX7_leastOf_13 (by decide) ?_
    have ho0 : (1 : Int32) = or_ := congrArg (fun z : Int32 => z) (Option.some.inj h)
    exact W.iret (v := 1) hx hb hr (fun t ht hW => ⟨⟨1, (), rfl, ho0, by rw [ht]; exact hP, va_K.moved hW.alike hK, hD⟩, hS.F ht⟩) hS.2.2 dX7_leastOf_27
  · have h := zN c1 h
    refine lv_iload_n hx hb dX7_leastOf_6 rfl (lv_at hl 0 rfl) ?_
    refine lv_bipush (v := 7) hx hb dX7_leastOf_7 (by decide) ?_
    refine lv_icmp_ne (tgt := 16) hx hb dX7_leastOf_9 (by decide) (fun c2 => ?_) (fun c2 => ?_)
    · have h := zN c2 h
      refine lv_iload_n hx hb dX7_leastOf_16 rfl (lv_at hl 0 rfl) ?_
      refine lv_bipush (v := 8) hx hb dX7_leastOf_17 (by decide) ?_
      refine lv_icmp_ne (tgt := 26) hx hb dX7_leastOf_19 (by decide) (fun c3 => ?_) (fun c3 => ?_)
      · have h := zN c3 h
        refine lv_iconst (v := 2) hx hb dX7_leastOf_26 (by decide) ?_
        have ho0 : (2 : Int32) = or_ := congrArg (fun z : Int32 => z) (Option.some.inj h)
        exact W.iret (v := 2) hx hb hr (fun t ht hW => ⟨⟨2, (), rfl, ho0, by rw [ht]; exact hP, va_K.moved hW.alike hK, hD⟩, hS.F ht⟩) hS.2.2 dX7_leastOf_27
      · have h := zY c3 h
        refine lv_iconst (v := 3) hx hb dX7_leastOf_22 (by decide) ?_
        refine lv_goto (tgt := 27) hx hb dX7_leastOf_23 (by decide) ?_
        have ho0 : (3 : Int32) = or_ := congrArg (fun z : Int32 => z) (Option.some.inj h)
        exact W.iret (v := 3) hx hb hr (fun t ht hW => ⟨⟨3, (), rfl, ho0, by rw [ht]; exact hP, va_K.moved hW.alike hK, hD⟩, hS.F ht⟩) hS.2.2 dX7_leastOf_27
    · have h := zY c2 h
      refine lv_iconst (v := 1) hx hb dX7_leastOf_12 (by decide) ?_
      refine lv_goto (tgt := 27) hx hb dX7_leastOf_13 (by decide) ?_
      have ho0 : (1 : Int32) = or_ := congrArg (fun z : Int32 => z) (Option.some.inj h)
      exact W.iret (v := 1) hx hb hr (fun t ht hW => ⟨⟨1, (), rfl, ho0, by rw [ht]; exact hP, va_K.moved hW.alike hK, hD⟩, hS.F ht⟩) hS.2.2 dX7_leastOf_27

set_option maxHeartbeats 4000000 in
set_option maxRecDepth 100000 in
theorem m_X7_taken (l : Launch) (dC : Nat → ClassId) (dI : Nat → Nat → Nat) (y : Nat → ClassId) (p1 : Int32) (sz : Nat) (or_ : Int32) (h : f_X7_taken p1 = some or_) : Met l yX7_taken wsX7_taken ({ frames := 0, cells := 0, slots := 0, locals := 0 }) (va_Pc [.int p1] (fun U => U.heap.size = sz ∧ va_P (dC, dI) vwCl [] U.heap ∧ va_K (dC, dI) vwCl [(y 0, .int), (y 1, .long), (y 2, .byte), (y 3, .boolean)] U ∧ va_D (fun _ => True) [])) (va_Qi (fun (r : Int32) (_ : Unit) => r = or_) (fun (_ : Unit) (t : State) => va_P (dC, dI) vwCl [] t.heap ∧ va_K (dC, dI) vwCl [(y 0, .int), (y 1, .long), (y 2, .byte), (y 3, .boolean)] t ∧ va_D (va_A [] sz) []) (va_A [] sz)) 0 0 (va_A [] sz) := by
  refine Met.ofW (cc := cX7_taken) (maxL := 1) (ret := (some .int)) (by decide +kernel) rfl ?_
  intro p e s m args below meth c s₁ B hml hv
  obtain ⟨rfl, hsz, hP, hK, hD0⟩ := hv
  have hx := B.exec
  have hb := B.bytes
  have hr := B.returns
  have hts := atoms_spec (ws := wsX7_taken) B.pre
  have hown : s.vm.findClass RX7 = some m.cls := findClass_of_methodNamed B.named
  have hlocks := B.notSynchronized
  subst hsz
  have hD := hD0.self (sz := s.heap.size)
  generalize hAe : va_A [] s.heap.size = A at hD ⊢
  have hA : ∀ q : Nat, s.heap.size ≤ q → A q := fun q h => by rw [← hAe]; exact Or.inr h
  have hS : va_S A s.heap s.heap [] := va_S.rf
  have hP : va_P (dC, dI) vwCl [] s.heap := hP
  have hl := lv_entry ([.int p1]) (n := 1) (Nat.le_of_ble_eq_true rfl)
  rw [lg_entry_eq]
  generalize (lg_sl ([.int p1]) ++ List.replicate (1 - (lg_sl ([.int p1])).length) Slot.unset).toArray = ls at hl ⊢
  have hl : lv_has ls 1 [(0, .int p1)] := hl
  refine lv_iload_n hx hb dX7_taken_0 rfl (lv_at hl 0 rfl) ?_
  refine lv_iconst (v := 3) hx hb dX7_taken_1 (by decide) ?_
  refine lv_icmp_ne (tgt := 9) hx hb dX7_taken_2 (by decide) (fun c1 => ?_) (fun c1 => ?_)
  · have h := zN c1 h
    refine lv_iload_n hx hb dX7_taken_9 rfl (lv_at hl 0 rfl) ?_
    have ho0 : p1 = or_ := congrArg (fun z : Int32 => z) (Option.some.inj h)
    exact W.iret (v := p1) hx hb hr (fun t ht hW => ⟨⟨p1, (), rfl, ho0, by rw [ht]; exact hP, va_K.moved hW.alike hK, hD⟩, hS.F ht⟩) hS.2.2 dX7_taken_10
  · have h := zY c1 h
    refine lv_iconst (v := 2) hx hb dX7_taken_5 (by decide) ?_
    refine lv_goto (tgt := 10) hx hb dX7_taken_6 (by decide) ?_
    have ho0 : (2 : Int32) = or_ := congrArg (fun z : Int32 => z) (Option.some.inj h)
    exact W.iret (v := 2) hx hb hr (fun t ht hW => ⟨⟨2, (), rfl, ho0, by rw [ht]; exact hP, va_K.moved hW.alike hK, hD⟩, hS.F ht⟩) hS.2.2 dX7_taken_10

set_option maxHeartbeats 4000000 in
set_option maxRecDepth 100000 in
theorem m_X7_plain (l : Launch) (dC : Nat → ClassId) (dI : Nat → Nat → Nat) (y : Nat → ClassId) (p1 : Int64) (sz : Nat) (or_ : Int64) (h : f_X7_plain p1 = some or_) : Met l yX7_plain wsX7_plain ({ frames := 0, cells := 0, slots := 0, locals := 0 }) (va_Pc [.long p1] (fun U => U.heap.size = sz ∧ va_P (dC, dI) vwCl [] U.heap ∧ va_K (dC, dI) vwCl [(y 0, .int), (y 1, .long), (y 2, .byte), (y 3, .boolean)] U ∧ va_D (fun _ => True) [])) (va_Ql (fun (r : Int64) (_ : Unit) => r = or_) (fun (_ : Unit) (t : State) => va_P (dC, dI) vwCl [] t.heap ∧ va_K (dC, dI) vwCl [(y 0, .int), (y 1, .long), (y 2, .byte), (y 3, .boolean)] t ∧ va_D (va_A [] sz) []) (va_A [] sz)) 0 0 (va_A [] sz) := by
  refine Met.ofW (cc := cX7_plain) (maxL := 5) (ret := (some .long)) (by decide +kernel) rfl ?_
  intro p e s m args below meth c s₁ B hml hv
  obtain ⟨rfl, hsz, hP, hK, hD0⟩ := hv
  have hx := B.exec
  have hb := B.bytes
  have hr := B.returns
  have hts := atoms_spec (ws := wsX7_plain) B.pre
  have hown : s.vm.findClass RX7 = some m.cls := findClass_of_methodNamed B.named
  have hlocks := B.notSynchronized
  subst hsz
  have hD := hD0.self (sz := s.heap.size)
  generalize hAe : va_A [] s.heap.size = A at hD ⊢
  have hA : ∀ q : Nat, s.heap.size ≤ q → A q := fun q h => by rw [← hAe]; exact Or.inr h
  have hS : va_S A s.heap s.heap [] := va_S.rf
  have hP : va_P (dC, dI) vwCl [] s.heap := hP
  have hl := lv_entry ([.long p1]) (n := 5) (Nat.le_of_ble_eq_true rfl)
  rw [lg_entry_eq]
  generalize (lg_sl ([.long p1]) ++ List.replicate (5 - (lg_sl ([.long p1])).length) Slot.unset).toArray = ls at hl ⊢
  have hl : lv_has ls 5 [(0, .long p1)] := hl
  refine lv_lconst (v := 0) hx hb dX7_plain_0 (by decide) ?_
  refine lv_lstore_n (lv' := [(2, .long 0), (0, .long p1)]) hx hb dX7_plain_1 rfl hl (by decide) rfl (fun ls hl => ?_)
  refine lv_bipush (v := 56) hx hb dX7_plain_2 (by decide) ?_
  refine lv_istore (lv' := [(4, .int 56), (2, .long 0), (0, .long p1)]) hx hb dX7_plain_4 hl (by decide) rfl (fun ls hl => ?_)
  refine W_abs (fun GW1 eG2 => ?_)
  have hi6 := h
  have lp4 : ∀ (n : Nat) (v10 : Int64) (v11 : Int32) (HGW1 : Heap) (locs : List Loc) (ls : Array Slot), zI (b_X7_plain_6 p1) n (v10, v11) = some or_ → va_P (dC, dI) vwCl [] HGW1 → va_D A [] → va_S A s.heap HGW1 locs → lv_has ls 5 [(0, .long p1), (2, .long v10), (4, .int v11)] → GW1 HGW1 locs 0 0 (F0 m 6 ls []) := by
    intro n
    induction n with
    | zero =>
      intro v10 v11 HGW1 locs ls hi6 hP hD hS hl
      exact (zI_0 hi6).elim
    | succ n ihlp4 =>
      intro v10 v11 HGW1 locs ls hi6 hP hD hS hl
      refine (eG2 _ _ _ _ _).mpr ?_
      obtain ⟨xx9, h, hx8⟩ := zI_spec hi6
      refine lv_iload hx hb dX7_plain_6 (lv_at hl 2 rfl) ?_
      refine lv_if_lt (tgt := 44) hx hb dX7_plain_8 (by decide) (fun c12 => ?_) (fun c12 => ?_)
      · have h := zY c12 h
        refine lv_lload_n hx hb dX7_plain_44 rfl (lv_at hl 1 rfl) ?_
        have h := congrArg some (zI_r h hx8)
        have ho0 : v10 = or_ := congrArg (fun z : Int64 => z) (Option.some.inj h)
        exact W.lret (v := v10) hx hb hr (fun t ht hW => ⟨⟨v10, (), rfl, ho0, by rw [ht]; exact hP, va_K.moved hW.alike hK, hD⟩, hS.F ht⟩) hS.2.2 dX7_plain_45
      · have h := zN c12 h
        refine lv_lload_n hx hb dX7_plain_11 rfl (lv_at hl 0 rfl) ?_
        refine lv_iload hx hb dX7_plain_12 (lv_at hl 2 rfl) ?_
        refine lv_lshr (v := (jLr p1 v11)) hx hb dX7_plain_14 rfl ?_
        refine lv_ldc2 hx hb hown (hts (.constantLong RX7 295 (255)) (List.mem_of_getElem? (i := 1) rfl)) dX7_plain_15 ?_
        refine lv_land hx hb dX7_plain_18 ?_
        refine lv_lconst (v := 0) hx hb dX7_plain_19 (by decide) ?_
        refine W.lcmp hx hb dX7_plain_20 ?_
        refine lv_if_eq (tgt := 38) hx hb dX7_plain_21 (by decide) (fun c13 => ?_) (fun c13 => ?_)
        · have h := zY c13 h
          obtain ⟨v14, ev14, h⟩ := zL_spec h
          refine lv_iinc (v := v14) (lv' := [(4, .int v14), (0, .long p1), (2, .long v10)]) hx hb dX7_plain_38 hl (k := 2) rfl ev14.symm (by decide) rfl (fun ls hl => ?_)
          refine lv_goto (tgt := 6) hx hb dX7_plain_41 (by decide) ?_
          have h := zI_l h hx8
          exact (eG2 _ _ _ _ _).mp (ihlp4 v10 v14 _ _ _ h hP hD hS (lv_sub hl [1, 2, 0] rfl))
        · have h := zN c13 h
          refine lv_lload_n hx hb dX7_plain_24 rfl (lv_at hl 1 rfl) ?_
          refine lv_bipush (v := 8) hx hb dX7_plain_25 (by decide) ?_
          refine lv_lshl (v := (jLs v10 (8 : Int32))) hx hb dX7_plain_27 rfl ?_
          refine lv_lload_n hx hb dX7_plain_28 rfl (lv_at hl 0 rfl) ?_
          refine lv_iload hx hb dX7_plain_29 (lv_at hl 2 rfl) ?_
          refine lv_lshr (v := (jLr p1 v11)) hx hb dX7_plain_31 rfl ?_
          refine lv_ldc2 hx hb hown (hts (.constantLong RX7 295 (255)) (List.mem_of_getElem? (i := 1) rfl)) dX7_plain_32 ?_
          refine lv_land hx hb dX7_plain_35 ?_
          refine lv_lor hx hb dX7_plain_36 ?_
          obtain ⟨v15, ev15, h⟩ := zL_spec h
          refine zTopl ev15 ?_
          refine lv_lstore_n (lv' := [(2, .long v15), (0, .long p1), (4, .int v11)]) hx hb dX7_plain_37 rfl hl (by decide) rfl (fun ls hl => ?_)
          obtain ⟨v16, ev16, h⟩ := zL_spec h
          refine lv_iinc (v := v16) (lv' := [(4, .int v16), (2, .long v15), (0, .long p1)]) hx hb dX7_plain_38 hl (k := 2) rfl ev16.symm (by decide) rfl (fun ls hl => ?_)
          refine lv_goto (tgt := 6) hx hb dX7_plain_41 (by decide) ?_
          have h := zI_l h hx8
          exact (eG2 _ _ _ _ _).mp (ihlp4 v15 v16 _ _ _ h hP hD hS (lv_sub hl [2, 1, 0] rfl))
  exact lp4 zF (0 : Int64) (56 : Int32) _ _ _ hi6 hP hD hS (lv_sub hl [2, 1, 0] rfl)

set_option maxHeartbeats 4000000 in
set_option maxRecDepth 100000 in
theorem m_X7_sign (l : Launch) (dC : Nat → ClassId) (dI : Nat → Nat → Nat) (y : Nat → ClassId) (a7 : Nat) (h7 : Nat → Nat) (S7 : SS) (p1 : Int32) (sz : Nat) (or_ : Int32) (h : f_X7_sign S7 p1 = some or_) : Met l yX7_sign wsX7_sign ({ frames := 0, cells := 0, slots := 0, locals := 0 }) (va_Pc [.ref a7, .int p1] (fun U => U.heap.size = sz ∧ va_P (dC, dI) vwCl (cX7 a7 h7 y S7) U.heap ∧ va_K (dC, dI) vwCl [(y 0, .int), (y 1, .long), (y 2, .byte), (y 3, .boolean)] U ∧ va_D (fun _ => True) (cX7 a7 h7 y S7))) (va_Qi (fun (r : Int32) (_ : Unit) => r = or_) (fun (_ : Unit) (t : State) => va_P (dC, dI) vwCl (cX7 a7 h7 y S7) t.heap ∧ va_K (dC, dI) vwCl [(y 0, .int), (y 1, .long), (y 2, .byte), (y 3, .boolean)] t ∧ va_D (va_A (cX7 a7 h7 y S7) sz) (cX7 a7 h7 y S7)) (va_A (cX7 a7 h7 y S7) sz)) 0 0 (va_A (cX7 a7 h7 y S7) sz) := by
  refine Met.ofW (cc := cX7_sign) (maxL := 2) (ret := (some .int)) (by decide +kernel) rfl ?_
  intro p e s m args below meth c s₁ B hml hv
  obtain ⟨rfl, hsz, hP, hK, hD0⟩ := hv
  have hx := B.exec
  have hb := B.bytes
  have hr := B.returns
  have hts := atoms_spec (ws := wsX7_sign) B.pre
  have hown : s.vm.findClass RX7 = some m.cls := findClass_of_methodNamed B.named
  have hlocks := B.notSynchronized
  have inX7_ : ∀ w ∈ wsX70, w ∈ wsX7_sign := fun _ h => List.mem_cons_of_mem _ (List.mem_append_right _ h)
  subst hsz
  have hD := hD0.self (sz := s.heap.size)
  generalize hAe : va_A (cX7 a7 h7 y S7) s.heap.size = A at hD ⊢
  have hA : ∀ q : Nat, s.heap.size ≤ q → A q := fun q h => by rw [← hAe]; exact Or.inr h
  have hS : va_S A s.heap s.heap [] := va_S.rf
  have hP : va_P (dC, dI) vwCl (cX7 a7 h7 y S7) s.heap := hP
  have hl := lv_entry ([.ref a7, .int p1]) (n := 2) (Nat.le_of_ble_eq_true rfl)
  rw [lg_entry_eq]
  generalize (lg_sl ([.ref a7, .int p1]) ++ List.replicate (2 - (lg_sl ([.ref a7, .int p1])).length) Slot.unset).toArray = ls at hl ⊢
  have hl : lv_has ls 2 [(0, .ref a7), (1, .int p1)] := hl
  refine lv_iload_n hx hb dX7_sign_0 rfl (lv_at hl 1 rfl) ?_
  refine lv_aload_n hx hb dX7_sign_1 rfl (lv_at hl 0 rfl) ?_
  refine va_get (D := (dC, dI)) (ci := 6) (v := .int (gI S7 3)) (C := RX7) (T := TX7) (N := 49) hx hb hts inX7_ hown hK hP 0 rfl rfl 3 (by decide) (hts (.fieldLink RX7 107 "GateWheelModel" "size" "I") (List.mem_of_getElem? (i := 1) rfl)) (fun _ h9 => h9) rfl dX7_sign_2 ?_
  refine lv_icmp_ge (tgt := 21) hx hb dX7_sign_5 (by decide) (fun c1 => ?_) (fun c1 => ?_)
  · have h := zY c1 h
    refine lv_iconst (v := 0) hx hb dX7_sign_21 (by decide) ?_
    have ho0 : (0 : Int32) = or_ := congrArg (fun z : Int32 => z) (Option.some.inj h)
    exact W.iret (v := 0) hx hb hr (fun t ht hW => ⟨⟨0, (), rfl, ho0, by rw [ht]; exact hP, va_K.moved hW.alike hK, hD⟩, hS.F ht⟩) hS.2.2 dX7_sign_22
  · have h := zN c1 h
    refine lv_aload_n hx hb dX7_sign_8 rfl (lv_at hl 0 rfl) ?_
    refine va_get (D := (dC, dI)) (ci := 6) (v := .ref (h7 1)) (C := RX7) (T := TX7) (N := 49) hx hb hts inX7_ hown hK hP 0 rfl rfl 1 (by decide) (hts (.fieldLink RX7 13 "GateWheelModel" "text" "[B") (List.mem_of_getElem? (i := 2) rfl)) (fun _ h9 => h9) rfl dX7_sign_9 ?_
    refine lv_iload_n hx hb dX7_sign_12 rfl (lv_at hl 1 rfl) ?_
    obtain ⟨hi2, h⟩ := zG_spec h
    refine va_bald hx hb hK hP 2 2 rfl rfl hi2 dX7_sign_13 ?_
    refine lv_sipush (v := 255) hx hb dX7_sign_14 (by decide) ?_
    refine lv_iand hx hb dX7_sign_17 ?_
    refine lv_goto (tgt := 22) hx hb dX7_sign_18 (by decide) ?_
    have ho0 : ((gA S7 1 p1.toNatClampNeg) &&& (255 : Int32)) = or_ := congrArg (fun z : Int32 => z) (Option.some.inj h)
    exact W.iret (v := ((gA S7 1 p1.toNatClampNeg) &&& (255 : Int32))) hx hb hr (fun t ht hW => ⟨⟨((gA S7 1 p1.toNatClampNeg) &&& (255 : Int32)), (), rfl, ho0, by rw [ht]; exact hP, va_K.moved hW.alike hK, hD⟩, hS.F ht⟩) hS.2.2 dX7_sign_22

set_option maxHeartbeats 4000000 in
set_option maxRecDepth 100000 in
theorem m_X7_fails (l : Launch) (dC : Nat → ClassId) (dI : Nat → Nat → Nat) (y : Nat → ClassId) (a7 : Nat) (h7 : Nat → Nat) (S7 : SS) (p1 : Int32) (p2 : Int32) (sz : Nat) (o_7 : SS) (h : f_X7_fails S7 p1 p2 = some o_7) : Met l yX7_fails wsX7_fails ({ frames := 0, cells := 0, slots := 0, locals := 0 }) (va_Pc [.ref a7, .int p1, .int p2] (fun U => U.heap.size = sz ∧ va_P (dC, dI) vwCl (cX7 a7 h7 y S7) U.heap ∧ va_K (dC, dI) vwCl [(y 0, .int), (y 1, .long), (y 2, .byte), (y 3, .boolean)] U ∧ va_D (fun _ => True) (cX7 a7 h7 y S7))) (va_Qv (fun (_ : Unit) => True) (fun (_ : Unit) (t : State) => va_P (dC, dI) vwCl (cX7 a7 h7 y o_7) t.heap ∧ va_K (dC, dI) vwCl [(y 0, .int), (y 1, .long), (y 2, .byte), (y 3, .boolean)] t ∧ va_D (va_A (cX7 a7 h7 y S7) sz) (cX7 a7 h7 y o_7)) (va_A (cX7 a7 h7 y S7) sz)) 0 0 (va_A (cX7 a7 h7 y S7) sz) := by
  refine Met.ofW (cc := cX7_fails) (maxL := 3) (ret := none) (by decide +kernel) rfl ?_
  intro p e s m args below meth c s₁ B hml hv
  obtain ⟨rfl, hsz, hP, hK, hD0⟩ := hv
  have hx := B.exec
  have hb := B.bytes
  have hr := B.returns
  have hts := atoms_spec (ws := wsX7_fails) B.pre
  have hown : s.vm.findClass RX7 = some m.cls := findClass_of_methodNamed B.named
  have hlocks := B.notSynchronized
  have inX7_ : ∀ w ∈ wsX70, w ∈ wsX7_fails := fun _ h => List.mem_cons_of_mem _ (List.mem_append_right _ h)
  subst hsz
  have hD := hD0.self (sz := s.heap.size)
  generalize hAe : va_A (cX7 a7 h7 y S7) s.heap.size = A at hD ⊢
  have hA : ∀ q : Nat, s.heap.size ≤ q → A q := fun q h => by rw [← hAe]; exact Or.inr h
  have hS : va_S A s.heap s.heap [] := va_S.rf
  have hP : va_P (dC, dI) vwCl (cX7 a7 h7 y S7) s.heap := hP
  have hl := lv_entry ([.ref a7, .int p1, .int p2]) (n := 3) (Nat.le_of_ble_eq_true rfl)
  rw [lg_entry_eq]
  generalize (lg_sl ([.ref a7, .int p1, .int p2]) ++ List.replicate (3 - (lg_sl ([.ref a7, .int p1, .int p2])).length) Slot.unset).toArray = ls at hl ⊢
  have hl : lv_has ls 3 [(0, .ref a7), (1, .int p1), (2, .int p2)] := hl
  refine lv_aload_n hx hb dX7_fails_0 rfl (lv_at hl 0 rfl) ?_
  refine va_get (D := (dC, dI)) (ci := 6) (v := .int (gI S7 4)) (C := RX7) (T := TX7) (N := 49) hx hb hts inX7_ hown hK hP 0 rfl rfl 4 (by decide) (hts (.fieldLink RX7 110 "GateWheelModel" "faultKind" "I") (List.mem_of_getElem? (i := 1) rfl)) (fun _ h9 => h9) rfl dX7_fails_1 ?_
  refine lv_if_le (tgt := 8) hx hb dX7_fails_4 (by decide) (fun c1 => ?_) (fun c1 => ?_)
  · have h := zY c1 h
    refine lv_aload_n hx hb dX7_fails_8 rfl (lv_at hl 0 rfl) ?_
    refine lv_iload_n hx hb dX7_fails_9 rfl (lv_at hl 1 rfl) ?_
    refine va_put (D := (dC, dI)) (ci := 6) (v := .int p1) (ty := .int) (C := RX7) (T := TX7) (N := 49) hx hb hts inX7_ tyX7 tyX7_ok nmX7 hown hK hP hD hS 0 rfl rfl 4 (by decide) (hts (.fieldLink RX7 110 "GateWheelModel" "faultKind" "I") (List.mem_of_getElem? (i := 1) rfl)) (fun _ h9 => h9) rfl (by decide +kernel) rfl rfl (Nat.le_of_ble_eq_true rfl) dX7_fails_10 (fun H2 locs hP hD hS => ?_)
    obtain ⟨s7_3, es7_3, h⟩ := zL_spec h
    have hP : va_P (dC, dI) vwCl (cX7 a7 h7 y s7_3) H2 := by rw [es7_3]; exact hP
    have hD : va_D A (cX7 a7 h7 y s7_3) := by rw [es7_3]; exact hD
    refine lv_aload_n hx hb dX7_fails_13 rfl (lv_at hl 0 rfl) ?_
    refine lv_iload_n hx hb dX7_fails_14 rfl (lv_at hl 2 rfl) ?_
    refine va_put (D := (dC, dI)) (ci := 6) (v := .int p2) (ty := .int) (C := RX7) (T := TX7) (N := 49) hx hb hts inX7_ tyX7 tyX7_ok nmX7 hown hK hP hD hS 0 rfl rfl 5 (by decide) (hts (.fieldLink RX7 16 "GateWheelModel" "faultPlace" "I") (List.mem_of_getElem? (i := 2) rfl)) (fun _ h9 => h9) rfl (by decide +kernel) rfl rfl (Nat.le_of_ble_eq_true rfl) dX7_fails_15 (fun H4 locs hP hD hS => ?_)
    obtain ⟨s7_5, es7_5, h⟩ := zL_spec h
    have hP : va_P (dC, dI) vwCl (cX7 a7 h7 y s7_5) H4 := by rw [es7_5]; exact hP
    have hD : va_D A (cX7 a7 h7 y s7_5) := by rw [es7_5]; exact hD
    have ho0 : s7_5 = o_7 := congrArg (fun z : SS => z) (Option.some.inj h)
    exact W.vret hx hb hr (fun t ht hW => ⟨⟨(), rfl, trivial, by rw [ht]; rw [← ho0]; exact hP, va_K.moved hW.alike hK, by rw [← ho0]; exact hD⟩, hS.F ht⟩) hS.2.2 dX7_fails_18
  · have h := zN c1 h
    have ho0 : S7 = o_7 := congrArg (fun z : SS => z) (Option.some.inj h)
    exact W.vret hx hb hr (fun t ht hW => ⟨⟨(), rfl, trivial, by rw [ht]; rw [← ho0]; exact hP, va_K.moved hW.alike hK, by rw [← ho0]; exact hD⟩, hS.F ht⟩) hS.2.2 dX7_fails_7

set_option maxHeartbeats 4000000 in
set_option maxRecDepth 100000 in
theorem m_X7_isGood (l : Launch) (dC : Nat → ClassId) (dI : Nat → Nat → Nat) (y : Nat → ClassId) (a7 : Nat) (h7 : Nat → Nat) (S7 : SS) (sz : Nat) (or_ : Int32) (h : f_X7_isGood S7 = some or_) : Met l yX7_isGood wsX7_isGood ({ frames := 0, cells := 0, slots := 0, locals := 0 }) (va_Pc [.ref a7] (fun U => U.heap.size = sz ∧ va_P (dC, dI) vwCl (cX7 a7 h7 y S7) U.heap ∧ va_K (dC, dI) vwCl [(y 0, .int), (y 1, .long), (y 2, .byte), (y 3, .boolean)] U ∧ va_D (fun _ => True) (cX7 a7 h7 y S7))) (va_Qi (fun (r : Int32) (_ : Unit) => r = or_) (fun (_ : Unit) (t : State) => va_P (dC, dI) vwCl (cX7 a7 h7 y S7) t.heap ∧ va_K (dC, dI) vwCl [(y 0, .int), (y 1, .long), (y 2, .byte), (y 3, .boolean)] t ∧ va_D (va_A (cX7 a7 h7 y S7) sz) (cX7 a7 h7 y S7)) (va_A (cX7 a7 h7 y S7) sz)) 0 0 (va_A (cX7 a7 h7 y S7) sz) := by
  refine Met.ofW (cc := cX7_isGood) (maxL := 1) (ret := (some .boolean)) (by decide +kernel) rfl ?_
  intro p e s m args below meth c s₁ B hml hv
  obtain ⟨rfl, hsz, hP, hK, hD0⟩ := hv
  have hx := B.exec
  have hb := B.bytes
  have hr := B.returns
  have hts := atoms_spec (ws := wsX7_isGood) B.pre
  have hown : s.vm.findClass RX7 = some m.cls := findClass_of_methodNamed B.named
  have hlocks := B.notSynchronized
  have inX7_ : ∀ w ∈ wsX70, w ∈ wsX7_isGood := fun _ h => List.mem_cons_of_mem _ (List.mem_append_right _ h)
  subst hsz
  have hD := hD0.self (sz := s.heap.size)
  generalize hAe : va_A (cX7 a7 h7 y S7) s.heap.size = A at hD ⊢
  have hA : ∀ q : Nat, s.heap.size ≤ q → A q := fun q h => by rw [← hAe]; exact Or.inr h
  have hS : va_S A s.heap s.heap [] := va_S.rf
  have hP : va_P (dC, dI) vwCl (cX7 a7 h7 y S7) s.heap := hP
  have hl := lv_entry ([.ref a7]) (n := 1) (Nat.le_of_ble_eq_true rfl)
  rw [lg_entry_eq]
  generalize (lg_sl ([.ref a7]) ++ List.replicate (1 - (lg_sl ([.ref a7])).length) Slot.unset).toArray = ls at hl ⊢
  have hl : lv_has ls 1 [(0, .ref a7)] := hl
  refine lv_aload_n hx hb dX7_isGood_0 rfl (lv_at hl 0 rfl) ?_
  refine va_get (D := (dC, dI)) (ci := 6) (v := .int (gI S7 4)) (C := RX7) (T := TX7) (N := 49) hx hb hts inX7_ hown hK hP 0 rfl rfl 4 (by decide) (hts (.fieldLink RX7 110 "GateWheelModel" "faultKind" "I") (List.mem_of_getElem? (i := 1) rfl)) (fun _ h9 => h9) rfl dX7_isGood_1 ?_
  refine lv_if_ne (tgt := 11) hx hb dX7_isGood_4 (by decide) (fun c1 => ?_) (fun c1 => ?_)
  · have h := zN c1 h
    refine lv_iconst (v := 0) hx hb dX7_isGood_11 (by decide) ?_
    have ho0 : (0 : Int32) = or_ := congrArg (fun z : Int32 => z) (Option.some.inj h)
    exact W.zret (v := 0) hx hb hr (by decide) (fun t ht hW => ⟨⟨0, (), rfl, ho0, by rw [ht]; exact hP, va_K.moved hW.alike hK, hD⟩, hS.F ht⟩) hS.2.2 dX7_isGood_12
  · have h := zY c1 h
    refine lv_iconst (v := 1) hx hb dX7_isGood_7 (by decide) ?_
    refine lv_goto (tgt := 12) hx hb dX7_isGood_8 (by decide) ?_
    have ho0 : (1 : Int32) = or_ := congrArg (fun z : Int32 => z) (Option.some.inj h)
    exact W.zret (v := 1) hx hb hr (by decide) (fun t ht hW => ⟨⟨1, (), rfl, ho0, by rw [ht]; exact hP, va_K.moved hW.alike hK, hD⟩, hS.F ht⟩) hS.2.2 dX7_isGood_12

set_option maxHeartbeats 4000000 in
set_option maxRecDepth 100000 in
theorem m_X7_next (l : Launch) (dC : Nat → ClassId) (dI : Nat → Nat → Nat) (y : Nat → ClassId) (a7 : Nat) (h7 : Nat → Nat) (S7 : SS) (sz : Nat) (o_7 : SS) (h : f_X7_next S7 = some o_7) : Met l yX7_next wsX7_next ({ frames := 1, cells := 0, slots := 0, locals := 21 }) (va_Pc [.ref a7] (fun U => U.heap.size = sz ∧ va_P (dC, dI) vwCl (cX7 a7 h7 y S7) U.heap ∧ va_K (dC, dI) vwCl [(y 0, .int), (y 1, .long), (y 2, .byte), (y 3, .boolean)] U ∧ va_D (fun _ => True) (cX7 a7 h7 y S7))) (va_Qv (fun (_ : Unit) => True) (fun (_ : Unit) (t : State) => va_P (dC, dI) vwCl (cX7 a7 h7 y o_7) t.heap ∧ va_K (dC, dI) vwCl [(y 0, .int), (y 1, .long), (y 2, .byte), (y 3, .boolean)] t ∧ va_D (va_A (cX7 a7 h7 y S7) sz) (cX7 a7 h7 y o_7)) (va_A (cX7 a7 h7 y S7) sz)) 0 0 (va_A (cX7 a7 h7 y S7) sz) := by
  refine Met.ofW (cc := cX7_next) (maxL := 3) (ret := none) (by decide +kernel) rfl ?_
  intro p e s m args below meth c s₁ B hml hv
  obtain ⟨rfl, hsz, hP, hK, hD0⟩ := hv
  have hx := B.exec
  have hb := B.bytes
  have hr := B.returns
  have hts := atoms_spec (ws := wsX7_next) B.pre
  have hown : s.vm.findClass RX7 = some m.cls := findClass_of_methodNamed B.named
  have hlocks := B.notSynchronized
  have inX7_ : ∀ w ∈ wsX70, w ∈ wsX7_next := fun _ h => List.mem_cons_of_mem _ (List.mem_append_right _ h)
  subst hsz
  have hD := hD0.self (sz := s.heap.size)
  generalize hAe : va_A (cX7 a7 h7 y S7) s.heap.size = A at hD ⊢
  have hA : ∀ q : Nat, s.heap.size ≤ q → A q := fun q h => by rw [← hAe]; exact Or.inr h
  have hS : va_S A s.heap s.heap [] := va_S.rf
  have hP : va_P (dC, dI) vwCl (cX7 a7 h7 y S7) s.heap := hP
  have hl := lv_entry ([.ref a7]) (n := 3) (Nat.le_of_ble_eq_true rfl)
  rw [lg_entry_eq]
  generalize (lg_sl ([.ref a7]) ++ List.replicate (3 - (lg_sl ([.ref a7])).length) Slot.unset).toArray = ls at hl ⊢
  have hl : lv_has ls 3 [(0, .ref a7)] := hl
  refine lv_aload_n hx hb dX7_next_0 rfl (lv_at hl 0 rfl) ?_
  refine lv_aload_n hx hb dX7_next_1 rfl (lv_at hl 0 rfl) ?_
  refine va_get (D := (dC, dI)) (ci := 6) (v := .int (gI S7 7)) (C := RX7) (T := TX7) (N := 49) hx hb hts inX7_ hown hK hP 0 rfl rfl 7 (by decide) (hts (.fieldLink RX7 131 "GateWheelModel" "end" "I") (List.mem_of_getElem? (i := 1) rfl)) (fun _ h9 => h9) rfl dX7_next_2 ?_
  refine va_put (D := (dC, dI)) (ci := 6) (v := .int (gI S7 7)) (ty := .int) (C := RX7) (T := TX7) (N := 49) hx hb hts inX7_ tyX7 tyX7_ok nmX7 hown hK hP hD hS 0 rfl rfl 6 (by decide) (hts (.fieldLink RX7 134 "GateWheelModel" "at" "I") (List.mem_of_getElem? (i := 2) rfl)) (fun _ h9 => h9) rfl (by decide +kernel) rfl rfl (Nat.le_of_ble_eq_true rfl) dX7_next_5 (fun H1 locs hP hD hS => ?_)
  obtain ⟨s7_2, es7_2, h⟩ := zL_spec h
  have hP : va_P (dC, dI) vwCl (cX7 a7 h7 y s7_2) H1 := by rw [es7_2]; exact hP
  have hD : va_D A (cX7 a7 h7 y s7_2) := by rw [es7_2]; exact hD
  refine W_abs (fun GW3 eG4 => ?_)
  obtain ⟨ov7, hi8, h⟩ := zB_spec h
  have je5 : ∀ (s7_12 : SS) (HGW3e : Heap) (locs : List Loc) (ls : Array Slot), s7_12 = ov7 → va_P (dC, dI) vwCl (cX7 a7 h7 y s7_12) HGW3e → va_D A (cX7 a7 h7 y s7_12) → va_S A s.heap HGW3e locs → lv_has ls 3 [(0, .ref a7)] → GW3 HGW3e locs 0 0 (F0 m 58 ls []) := by
    intro s7_12 HGW3e locs ls hv hP hD hS hl
    subst hv
    refine (eG4 _ _ _ _ _).mpr ?_
    refine lv_aload_n hx hb dX7_next_58 rfl (lv_at hl 0 rfl) ?_
    refine lv_aload_n hx hb dX7_next_59 rfl (lv_at hl 0 rfl) ?_
    refine va_get (D := (dC, dI)) (ci := 6) (v := .int (gI s7_12 6)) (C := RX7) (T := TX7) (N := 49) hx hb hts inX7_ hown hK hP 0 rfl rfl 6 (by decide) (hts (.fieldLink RX7 134 "GateWheelModel" "at" "I") (List.mem_of_getElem? (i := 2) rfl)) (fun _ h9 => h9) rfl dX7_next_60 ?_
    obtain ⟨r13, hc14, h⟩ := zB_spec h
    have hFc := zFree hD hS hA
    refine va_calli (va_runV (As := [.int (gI s7_12 6)]) (rest := []) ⟨hx, hb, hml, hown, hts⟩ (m_X7_sign l dC dI y a7 h7 s7_12 (gI s7_12 6) HGW3e.size r13 hc14) (cwV 1 hts gX7_next_X7_sign rfl rfl rfl (by decide +kernel) ⟨Nat.le_of_ble_eq_true rfl, Nat.le_of_ble_eq_true rfl⟩) ⟨fun a U g mk q => by obtain ⟨q0, q1, qP, qK, qD⟩ := q; exact ⟨q0, q1, qP, va_K.moved (u := U) (U := U.calling g mk a) (Vm.Alike.refl U.vm) qK, qD⟩, va_recv hK hP (ci := 6) (q0 := 0) rfl rfl, fun U hU hW => ⟨rfl, by rw [hU], by rw [hU]; exact hP, va_K.moved hW.alike hK, hD.weaken (fun _ _ _ _ => trivial)⟩⟩ rfl rfl hl.1 rfl (lv_room (Nat.le_of_ble_eq_true rfl)) dX7_next_63 ⟨Nat.le_of_ble_eq_true rfl, Nat.le_of_ble_eq_true rfl⟩) hS (fun q _ h => hFc q h) hFc (fun rr16 u t H15 locs ht hvm hw hB hz1 hk1 hS => ?_)
    obtain ⟨hP1, hK1, hD1⟩ := hB
    rw [ht] at hP1
    refine zTopi hw.symm ?_
    have hP := hP1
    have hD := hD1.weaken (fun _ q _ h => hFc q.1 h)
    have hP : va_P (dC, dI) vwCl (cX7 a7 h7 y s7_12) H15 := hP
    have hD : va_D A (cX7 a7 h7 y s7_12) := hD
    refine lv_istore_n (lv' := [(1, .int r13), (0, .ref a7)]) hx hb dX7_next_66 rfl hl (by decide) rfl (fun ls hl => ?_)
    refine lv_aload_n hx hb dX7_next_67 rfl (lv_at hl 1 rfl) ?_
    refine lv_aload_n hx hb dX7_next_68 rfl (lv_at hl 1 rfl) ?_
    refine va_get (D := (dC, dI)) (ci := 6) (v := .int (gI s7_12 6)) (C := RX7) (T := TX7) (N := 49) hx hb hts inX7_ hown hK hP 0 rfl rfl 6 (by decide) (hts (.fieldLink RX7 134 "GateWheelModel" "at" "I") (List.mem_of_getElem? (i := 2) rfl)) (fun _ h9 => h9) rfl dX7_next_69 ?_
    refine lv_iconst (v := 1) hx hb dX7_next_72 (by decide) ?_
    refine lv_iadd hx hb dX7_next_73 ?_
    refine va_put (D := (dC, dI)) (ci := 6) (v := .int ((gI s7_12 6) + (1 : Int32))) (ty := .int) (C := RX7) (T := TX7) (N := 49) hx hb hts inX7_ tyX7 tyX7_ok nmX7 hown hK hP hD hS 0 rfl rfl 7 (by decide) (hts (.fieldLink RX7 131 "GateWheelModel" "end" "I") (List.mem_of_getElem? (i := 1) rfl)) (fun _ h9 => h9) rfl (by decide +kernel) rfl rfl (Nat.le_of_ble_eq_true rfl) dX7_next_74 (fun H17 locs hP hD hS => ?_)
    obtain ⟨s7_18, es7_18, h⟩ := zL_spec h
    have hP : va_P (dC, dI) vwCl (cX7 a7 h7 y s7_18) H17 := by rw [es7_18]; exact hP
    have hD : va_D A (cX7 a7 h7 y s7_18) := by rw [es7_18]; exact hD
    refine lv_aload_n hx hb dX7_next_77 rfl (lv_at hl 1 rfl) ?_
    refine va_get (D := (dC, dI)) (ci := 6) (v := .int (gI s7_18 6)) (C := RX7) (T := TX7) (N := 49) hx hb hts inX7_ hown hK hP 0 rfl rfl 6 (by decide) (hts (.fieldLink RX7 134 "GateWheelModel" "at" "I") (List.mem_of_getElem? (i := 2) rfl)) (fun _ h9 => h9) rfl dX7_next_78 ?_
    refine lv_aload_n hx hb dX7_next_81 rfl (lv_at hl 1 rfl) ?_
    refine va_get (D := (dC, dI)) (ci := 6) (v := .int (gI s7_18 3)) (C := RX7) (T := TX7) (N := 49) hx hb hts inX7_ hown hK hP 0 rfl rfl 3 (by decide) (hts (.fieldLink RX7 107 "GateWheelModel" "size" "I") (List.mem_of_getElem? (i := 3) rfl)) (fun _ h9 => h9) rfl dX7_next_82 ?_
    refine lv_icmp_lt (tgt := 112) hx hb dX7_next_85 (by decide) (fun c19 => ?_) (fun c19 => ?_)
    · have h := zY c19 h
      refine lv_iload_n hx hb dX7_next_112 rfl (lv_at hl 0 rfl) ?_
      obtain ⟨r20, hc21, h⟩ := zB_spec h
      have hPc := hP.sub (ws' := []) [] rfl
      have hDc := hD.sub (ws' := []) [] (by decide) rfl
      have hFc := va_free (wc := []) hD hS hA [] rfl
      refine va_calli (va_runS (As := [.int r13]) (rest := []) ⟨hx, hb, hml, hown, hts⟩ (m_X7_isLetter l dC dI y r13 H17.size r20 hc21) (va_cwS 1 hts gX7_next_X7_isLetter rfl rfl rfl (by decide +kernel) ⟨Nat.le_of_ble_eq_true rfl, Nat.le_of_ble_eq_true rfl⟩) ⟨fun a U g mk q => by obtain ⟨q0, q1, qP, qK, qD⟩ := q; exact ⟨q0, q1, qP, va_K.moved (u := U) (U := U.calling g mk a) (Vm.Alike.refl U.vm) qK, qD⟩, fun U hU hW => ⟨rfl, by rw [hU], by rw [hU]; exact hPc, va_K.moved hW.alike hK, hDc.weaken (fun _ _ _ _ => trivial)⟩⟩ rfl rfl hl.1 rfl (lv_room (Nat.le_of_ble_eq_true rfl)) dX7_next_113 ⟨Nat.le_of_ble_eq_true rfl, Nat.le_of_ble_eq_true rfl⟩) hS (fun q _ h => hFc q h) hFc (fun rr23 u t H22 locs ht hvm hw hB hz1 hk1 hS => ?_)
      obtain ⟨hP1, hK1, hD1⟩ := hB
      rw [ht] at hP1
      refine zTopi hw.symm ?_
      obtain ⟨hP, hD⟩ := va_join (wr := [(oX7 a7 h7 s7_18), (h7 0, .inl (y 2, 2020, .inl (gA s7_18 0))), (h7 1, .inl (y 2, 2000, .inl (gA s7_18 1))), (h7 11, .inl (y 1, 120, .inr (.inl (gB s7_18 11)))), (h7 12, .inl (y 0, 120, .inl (gA s7_18 12))), (h7 13, .inl (y 0, 120, .inl (gA s7_18 13))), (h7 14, .inl (y 0, 120, .inl (gA s7_18 14))), (h7 15, .inl (y 0, 120, .inl (gA s7_18 15))), (h7 16, .inl (y 0, 1440, .inl (gA s7_18 16))), (h7 17, .inl (y 0, 120, .inl (gA s7_18 17))), (h7 18, .inl (y 0, 60, .inl (gA s7_18 18))), (h7 19, .inl (y 3, 720, .inl (gA s7_18 19))), (h7 20, .inl (y 1, 1000, .inr (.inl (gB s7_18 20)))), (h7 21, .inl (y 0, 1000, .inl (gA s7_18 21))), (h7 22, .inl (y 0, 1000, .inl (gA s7_18 22))), (h7 23, .inl (y 1, 200, .inr (.inl (gB s7_18 23)))), (h7 24, .inl (y 0, 200, .inl (gA s7_18 24))), (h7 25, .inl (y 3, 200, .inl (gA s7_18 25))), (h7 32, .inl (y 3, 60, .inl (gA s7_18 32))), (h7 33, .inl (y 0, 60, .inl (gA s7_18 33))), (h7 34, .inl (y 0, 60, .inl (gA s7_18 34))), (h7 35, .inl (y 0, 60, .inl (gA s7_18 35))), (h7 36, .inl (y 0, 60, .inl (gA s7_18 36))), (h7 37, .inl (y 0, 60, .inl (gA s7_18 37))), (h7 38, .inl (y 0, 60, .inl (gA s7_18 38))), (h7 40, .inl (y 0, 60, .inl (gA s7_18 40))), (h7 41, .inl (y 0, 60, .inl (gA s7_18 41))), (h7 42, .inl (y 0, 600, .inl (gA s7_18 42))), (h7 43, .inl (y 0, 1200, .inl (gA s7_18 43))), (h7 44, .inl (y 0, 60, .inl (gA s7_18 44))), (h7 45, .inl (y 3, 60, .inl (gA s7_18 45)))]) (w1 := []) hP hD [] [0, 1, 2, 3, 4, 5, 6, 7, 8, 9, 10, 11, 12, 13, 14, 15, 16, 17, 18, 19, 20, 21, 22, 23, 24, 25, 26, 27, 28, 29, 30] rfl rfl (by decide) (by decide) hk1 hFc hP1 hD1
      have hP : va_P (dC, dI) vwCl (cX7 a7 h7 y s7_18) H22 := hP.sub [0, 1, 2, 3, 4, 5, 6, 7, 8, 9, 10, 11, 12, 13, 14, 15, 16, 17, 18, 19, 20, 21, 22, 23, 24, 25, 26, 27, 28, 29, 30] rfl
      have hD : va_D A (cX7 a7 h7 y s7_18) := hD.sub [0, 1, 2, 3, 4, 5, 6, 7, 8, 9, 10, 11, 12, 13, 14, 15, 16, 17, 18, 19, 20, 21, 22, 23, 24, 25, 26, 27, 28, 29, 30] (by decide) rfl
      refine lv_if_eq (tgt := 318) hx hb dX7_next_116 (by decide) (fun c24 => ?_) (fun c24 => ?_)
      · have h := zY c24 h
        refine lv_iload_n hx hb dX7_next_318 rfl (lv_at hl 0 rfl) ?_
        obtain ⟨r25, hc26, h⟩ := zB_spec h
        have hPc := hP.sub (ws' := []) [] rfl
        have hDc := hD.sub (ws' := []) [] (by decide) rfl
        have hFc := va_free (wc := []) hD hS hA [] rfl
        refine va_calli (va_runS (As := [.int r13]) (rest := []) ⟨hx, hb, hml, hown, hts⟩ (m_X7_isDigit l dC dI y r13 H22.size r25 hc26) (va_cwS 1 hts gX7_next_X7_isDigit rfl rfl rfl (by decide +kernel) ⟨Nat.le_of_ble_eq_true rfl, Nat.le_of_ble_eq_true rfl⟩) ⟨fun a U g mk q => by obtain ⟨q0, q1, qP, qK, qD⟩ := q; exact ⟨q0, q1, qP, va_K.moved (u := U) (U := U.calling g mk a) (Vm.Alike.refl U.vm) qK, qD⟩, fun U hU hW => ⟨rfl, by rw [hU], by rw [hU]; exact hPc, va_K.moved hW.alike hK, hDc.weaken (fun _ _ _ _ => trivial)⟩⟩ rfl rfl hl.1 rfl (lv_room (Nat.le_of_ble_eq_true rfl)) dX7_next_319 ⟨Nat.le_of_ble_eq_true rfl, Nat.le_of_ble_eq_true rfl⟩) hS (fun q _ h => hFc q h) hFc (fun rr28 u t H27 locs ht hvm hw hB hz1 hk1 hS => ?_)
        obtain ⟨hP1, hK1, hD1⟩ := hB
        rw [ht] at hP1
        refine zTopi hw.symm ?_
        obtain ⟨hP, hD⟩ := va_join (wr := [(oX7 a7 h7 s7_18), (h7 0, .inl (y 2, 2020, .inl (gA s7_18 0))), (h7 1, .inl (y 2, 2000, .inl (gA s7_18 1))), (h7 11, .inl (y 1, 120, .inr (.inl (gB s7_18 11)))), (h7 12, .inl (y 0, 120, .inl (gA s7_18 12))), (h7 13, .inl (y 0, 120, .inl (gA s7_18 13))), (h7 14, .inl (y 0, 120, .inl (gA s7_18 14))), (h7 15, .inl (y 0, 120, .inl (gA s7_18 15))), (h7 16, .inl (y 0, 1440, .inl (gA s7_18 16))), (h7 17, .inl (y 0, 120, .inl (gA s7_18 17))), (h7 18, .inl (y 0, 60, .inl (gA s7_18 18))), (h7 19, .inl (y 3, 720, .inl (gA s7_18 19))), (h7 20, .inl (y 1, 1000, .inr (.inl (gB s7_18 20)))), (h7 21, .inl (y 0, 1000, .inl (gA s7_18 21))), (h7 22, .inl (y 0, 1000, .inl (gA s7_18 22))), (h7 23, .inl (y 1, 200, .inr (.inl (gB s7_18 23)))), (h7 24, .inl (y 0, 200, .inl (gA s7_18 24))), (h7 25, .inl (y 3, 200, .inl (gA s7_18 25))), (h7 32, .inl (y 3, 60, .inl (gA s7_18 32))), (h7 33, .inl (y 0, 60, .inl (gA s7_18 33))), (h7 34, .inl (y 0, 60, .inl (gA s7_18 34))), (h7 35, .inl (y 0, 60, .inl (gA s7_18 35))), (h7 36, .inl (y 0, 60, .inl (gA s7_18 36))), (h7 37, .inl (y 0, 60, .inl (gA s7_18 37))), (h7 38, .inl (y 0, 60, .inl (gA s7_18 38))), (h7 40, .inl (y 0, 60, .inl (gA s7_18 40))), (h7 41, .inl (y 0, 60, .inl (gA s7_18 41))), (h7 42, .inl (y 0, 600, .inl (gA s7_18 42))), (h7 43, .inl (y 0, 1200, .inl (gA s7_18 43))), (h7 44, .inl (y 0, 60, .inl (gA s7_18 44))), (h7 45, .inl (y 3, 60, .inl (gA s7_18 45)))]) (w1 := []) hP hD [] [0, 1, 2, 3, 4, 5, 6, 7, 8, 9, 10, 11, 12, 13, 14, 15, 16, 17, 18, 19, 20, 21, 22, 23, 24, 25, 26, 27, 28, 29, 30] rfl rfl (by decide) (by decide) hk1 hFc hP1 hD1
        have hP : va_P (dC, dI) vwCl (cX7 a7 h7 y s7_18) H27 := hP.sub [0, 1, 2, 3, 4, 5, 6, 7, 8, 9, 10, 11, 12, 13, 14, 15, 16, 17, 18, 19, 20, 21, 22, 23, 24, 25, 26, 27, 28, 29, 30] rfl
        have hD : va_D A (cX7 a7 h7 y s7_18) := hD.sub [0, 1, 2, 3, 4, 5, 6, 7, 8, 9, 10, 11, 12, 13, 14, 15, 16, 17, 18, 19, 20, 21, 22, 23, 24, 25, 26, 27, 28, 29, 30] (by decide) rfl
        refine lv_if_eq (tgt := 379) hx hb dX7_next_322 (by decide) (fun c29 => ?_) (fun c29 => ?_)
        · have h := zY c29 h
          refine lv_aload_n hx hb dX7_next_379 rfl (lv_at hl 1 rfl) ?_
          refine lv_iload_n hx hb dX7_next_380 rfl (lv_at hl 0 rfl) ?_
          refine lv_bipush (v := 44) hx hb dX7_next_381 (by decide) ?_
          refine W_abs (fun GW30 eG31 => ?_)
          obtain ⟨ov33, hr34, h⟩ := zB_spec h
          have jn32 : ∀ (v36 : Int32) (HGW30 : Heap) (locs : List Loc) (ls : Array Slot), v36 = ov33 → va_P (dC, dI) vwCl (cX7 a7 h7 y s7_18) HGW30 → va_D A (cX7 a7 h7 y s7_18) → va_S A s.heap HGW30 locs → lv_has ls 3 [] → GW30 HGW30 locs 0 0 (F0 m 421 ls [.int v36, .ref a7]) := by
            intro v36 HGW30 locs ls hv hP hD hS hl
            subst hv
            refine (eG31 _ _ _ _ _).mpr ?_
            refine va_put (D := (dC, dI)) (ci := 6) (v := .int v36) (ty := .int) (C := RX7) (T := TX7) (N := 49) hx hb hts inX7_ tyX7 tyX7_ok nmX7 hown hK hP hD hS 0 rfl rfl 8 (by decide) (hts (.fieldLink RX7 141 "GateWheelModel" "token" "I") (List.mem_of_getElem? (i := 4) rfl)) (fun _ h9 => h9) rfl (by decide +kernel) rfl rfl (Nat.le_of_ble_eq_true rfl) dX7_next_421 (fun H37 locs hP hD hS => ?_)
            obtain ⟨s7_38, es7_38, h⟩ := zL_spec h
            have hP : va_P (dC, dI) vwCl (cX7 a7 h7 y s7_38) H37 := by rw [es7_38]; exact hP
            have hD : va_D A (cX7 a7 h7 y s7_38) := by rw [es7_38]; exact hD
            have ho0 : s7_38 = o_7 := congrArg (fun z : SS => z) (Option.some.inj h)
            exact W.vret hx hb hr (fun t ht hW => ⟨⟨(), rfl, trivial, by rw [ht]; rw [← ho0]; exact hP, va_K.moved hW.alike hK, by rw [← ho0]; exact hD⟩, hS.F ht⟩) hS.2.2 dX7_next_424
          refine (eG31 _ _ _ _ _).mpr ?_
          have h := hr34
          refine lv_icmp_eq (tgt := 416) hx hb dX7_next_383 (by decide) (fun c39 => ?_) (fun c39 => ?_)
          · have h := zY c39 h
            refine lv_iconst (v := 5) hx hb dX7_next_416 (by decide) ?_
            refine lv_goto (tgt := 421) hx hb dX7_next_417 (by decide) ?_
            exact (eG31 _ _ _ _ _).mp (jn32 (5 : Int32) _ _ _ (Option.some.inj h) hP hD hS (lv_sub hl [] rfl))
          · have h := zN c39 h
            refine lv_iload_n hx hb dX7_next_386 rfl (lv_at hl 0 rfl) ?_
            refine lv_bipush (v := 59) hx hb dX7_next_387 (by decide) ?_
            refine lv_icmp_eq (tgt := 416) hx hb dX7_next_389 (by decide) (fun c40 => ?_) (fun c40 => ?_)
            · have h := zY c40 h
              refine lv_iconst (v := 5) hx hb dX7_next_416 (by decide) ?_
              refine lv_goto (tgt := 421) hx hb dX7_next_417 (by decide) ?_
              exact (eG31 _ _ _ _ _).mp (jn32 (5 : Int32) _ _ _ (Option.some.inj h) hP hD hS (lv_sub hl [] rfl))
            · have h := zN c40 h
              refine lv_iload_n hx hb dX7_next_392 rfl (lv_at hl 0 rfl) ?_
              refine lv_bipush (v := 61) hx hb dX7_next_393 (by decide) ?_
              refine lv_icmp_eq (tgt := 416) hx hb dX7_next_395 (by decide) (fun c41 => ?_) (fun c41 => ?_)
              · have h := zY c41 h
                refine lv_iconst (v := 5) hx hb dX7_next_416 (by decide) ?_
                refine lv_goto (tgt := 421) hx hb dX7_next_417 (by decide) ?_
                exact (eG31 _ _ _ _ _).mp (jn32 (5 : Int32) _ _ _ (Option.some.inj h) hP hD hS (lv_sub hl [] rfl))
              · have h := zN c41 h
                refine lv_iload_n hx hb dX7_next_398 rfl (lv_at hl 0 rfl) ?_
                refine lv_bipush (v := 40) hx hb dX7_next_399 (by decide) ?_
                refine lv_icmp_eq (tgt := 416) hx hb dX7_next_401 (by decide) (fun c42 => ?_) (fun c42 => ?_)
                · have h := zY c42 h
                  refine lv_iconst (v := 5) hx hb dX7_next_416 (by decide) ?_
                  refine lv_goto (tgt := 421) hx hb dX7_next_417 (by decide) ?_
                  exact (eG31 _ _ _ _ _).mp (jn32 (5 : Int32) _ _ _ (Option.some.inj h) hP hD hS (lv_sub hl [] rfl))
                · have h := zN c42 h
                  refine lv_iload_n hx hb dX7_next_404 rfl (lv_at hl 0 rfl) ?_
                  refine lv_bipush (v := 41) hx hb dX7_next_405 (by decide) ?_
                  refine lv_icmp_eq (tgt := 416) hx hb dX7_next_407 (by decide) (fun c43 => ?_) (fun c43 => ?_)
                  · have h := zY c43 h
                    refine lv_iconst (v := 5) hx hb dX7_next_416 (by decide) ?_
                    refine lv_goto (tgt := 421) hx hb dX7_next_417 (by decide) ?_
                    exact (eG31 _ _ _ _ _).mp (jn32 (5 : Int32) _ _ _ (Option.some.inj h) hP hD hS (lv_sub hl [] rfl))
                  · have h := zN c43 h
                    refine lv_iload_n hx hb dX7_next_410 rfl (lv_at hl 0 rfl) ?_
                    refine lv_bipush (v := 60) hx hb dX7_next_411 (by decide) ?_
                    refine lv_icmp_ne (tgt := 420) hx hb dX7_next_413 (by decide) (fun c44 => ?_) (fun c44 => ?_)
                    · have h := zN c44 h
                      refine lv_iconst (v := 1) hx hb dX7_next_420 (by decide) ?_
                      exact (eG31 _ _ _ _ _).mp (jn32 (1 : Int32) _ _ _ (Option.some.inj h) hP hD hS (lv_sub hl [] rfl))
                    · have h := zY c44 h
                      refine lv_iconst (v := 5) hx hb dX7_next_416 (by decide) ?_
                      refine lv_goto (tgt := 421) hx hb dX7_next_417 (by decide) ?_
                      exact (eG31 _ _ _ _ _).mp (jn32 (5 : Int32) _ _ _ (Option.some.inj h) hP hD hS (lv_sub hl [] rfl))
        · have h := zN c29 h
          refine lv_aload_n hx hb dX7_next_325 rfl (lv_at hl 1 rfl) ?_
          refine lv_iload_n hx hb dX7_next_326 rfl (lv_at hl 0 rfl) ?_
          refine lv_bipush (v := 48) hx hb dX7_next_327 (by decide) ?_
          refine lv_isub hx hb dX7_next_329 ?_
          refine va_put (D := (dC, dI)) (ci := 6) (v := .int (r13 - (48 : Int32))) (ty := .int) (C := RX7) (T := TX7) (N := 49) hx hb hts inX7_ tyX7 tyX7_ok nmX7 hown hK hP hD hS 0 rfl rfl 9 (by decide) (hts (.fieldLink RX7 169 "GateWheelModel" "digit" "I") (List.mem_of_getElem? (i := 11) rfl)) (fun _ h9 => h9) rfl (by decide +kernel) rfl rfl (Nat.le_of_ble_eq_true rfl) dX7_next_330 (fun H45 locs hP hD hS => ?_)
          obtain ⟨s7_46, es7_46, h⟩ := zL_spec h
          have hP : va_P (dC, dI) vwCl (cX7 a7 h7 y s7_46) H45 := by rw [es7_46]; exact hP
          have hD : va_D A (cX7 a7 h7 y s7_46) := by rw [es7_46]; exact hD
          refine lv_aload_n hx hb dX7_next_333 rfl (lv_at hl 1 rfl) ?_
          refine lv_iload_n hx hb dX7_next_334 rfl (lv_at hl 0 rfl) ?_
          refine lv_bipush (v := 48) hx hb dX7_next_335 (by decide) ?_
          refine W_abs (fun GW47 eG48 => ?_)
          obtain ⟨ov50, hr51, h⟩ := zB_spec h
          have jn49 : ∀ (v53 : Int32) (HGW47 : Heap) (locs : List Loc) (ls : Array Slot), v53 = ov50 → va_P (dC, dI) vwCl (cX7 a7 h7 y s7_46) HGW47 → va_D A (cX7 a7 h7 y s7_46) → va_S A s.heap HGW47 locs → lv_has ls 3 [] → GW47 HGW47 locs 0 0 (F0 m 373 ls [.int v53, .ref a7]) := by
            intro v53 HGW47 locs ls hv hP hD hS hl
            subst hv
            refine (eG48 _ _ _ _ _).mpr ?_
            refine va_put (D := (dC, dI)) (ci := 6) (v := .int v53) (ty := .int) (C := RX7) (T := TX7) (N := 49) hx hb hts inX7_ tyX7 tyX7_ok nmX7 hown hK hP hD hS 0 rfl rfl 8 (by decide) (hts (.fieldLink RX7 141 "GateWheelModel" "token" "I") (List.mem_of_getElem? (i := 4) rfl)) (fun _ h9 => h9) rfl (by decide +kernel) rfl rfl (Nat.le_of_ble_eq_true rfl) dX7_next_373 (fun H54 locs hP hD hS => ?_)
            obtain ⟨s7_55, es7_55, h⟩ := zL_spec h
            have hP : va_P (dC, dI) vwCl (cX7 a7 h7 y s7_55) H54 := by rw [es7_55]; exact hP
            have hD : va_D A (cX7 a7 h7 y s7_55) := by rw [es7_55]; exact hD
            refine lv_goto (tgt := 424) hx hb dX7_next_376 (by decide) ?_
            have ho0 : s7_55 = o_7 := congrArg (fun z : SS => z) (Option.some.inj h)
            exact W.vret hx hb hr (fun t ht hW => ⟨⟨(), rfl, trivial, by rw [ht]; rw [← ho0]; exact hP, va_K.moved hW.alike hK, by rw [← ho0]; exact hD⟩, hS.F ht⟩) hS.2.2 dX7_next_424
          refine (eG48 _ _ _ _ _).mpr ?_
          have h := hr51
          refine lv_icmp_eq (tgt := 368) hx hb dX7_next_337 (by decide) (fun c56 => ?_) (fun c56 => ?_)
          · have h := zY c56 h
            refine lv_iconst (v := 1) hx hb dX7_next_368 (by decide) ?_
            refine lv_goto (tgt := 373) hx hb dX7_next_369 (by decide) ?_
            exact (eG48 _ _ _ _ _).mp (jn49 (1 : Int32) _ _ _ (Option.some.inj h) hP hD hS (lv_sub hl [] rfl))
          · have h := zN c56 h
            refine lv_aload_n hx hb dX7_next_340 rfl (lv_at hl 1 rfl) ?_
            refine lv_aload_n hx hb dX7_next_341 rfl (lv_at hl 1 rfl) ?_
            refine va_get (D := (dC, dI)) (ci := 6) (v := .int (gI s7_46 7)) (C := RX7) (T := TX7) (N := 49) hx hb hts inX7_ hown hK hP 0 rfl rfl 7 (by decide) (hts (.fieldLink RX7 131 "GateWheelModel" "end" "I") (List.mem_of_getElem? (i := 1) rfl)) (fun _ h9 => h9) rfl dX7_next_342 ?_
            obtain ⟨r57, hc58, h⟩ := zB_spec h
            have hFc := zFree hD hS hA
            refine va_calli (va_runV (As := [.int (gI s7_46 7)]) (rest := [.ref a7]) ⟨hx, hb, hml, hown, hts⟩ (m_X7_sign l dC dI y a7 h7 s7_46 (gI s7_46 7) H45.size r57 hc58) (cwV 1 hts gX7_next_X7_sign rfl rfl rfl (by decide +kernel) ⟨Nat.le_of_ble_eq_true rfl, Nat.le_of_ble_eq_true rfl⟩) ⟨fun a U g mk q => by obtain ⟨q0, q1, qP, qK, qD⟩ := q; exact ⟨q0, q1, qP, va_K.moved (u := U) (U := U.calling g mk a) (Vm.Alike.refl U.vm) qK, qD⟩, va_recv hK hP (ci := 6) (q0 := 0) rfl rfl, fun U hU hW => ⟨rfl, by rw [hU], by rw [hU]; exact hP, va_K.moved hW.alike hK, hD.weaken (fun _ _ _ _ => trivial)⟩⟩ rfl rfl hl.1 rfl (lv_room (Nat.le_of_ble_eq_true rfl)) dX7_next_345 ⟨Nat.le_of_ble_eq_true rfl, Nat.le_of_ble_eq_true rfl⟩) hS (fun q _ h => hFc q h) hFc (fun rr60 u t H59 locs ht hvm hw hB hz1 hk1 hS => ?_)
            obtain ⟨hP1, hK1, hD1⟩ := hB
            rw [ht] at hP1
            refine zTopi hw.symm ?_
            have hP := hP1
            have hD := hD1.weaken (fun _ q _ h => hFc q.1 h)
            have hP : va_P (dC, dI) vwCl (cX7 a7 h7 y s7_46) H59 := hP
            have hD : va_D A (cX7 a7 h7 y s7_46) := hD
            obtain ⟨r61, hc62, h⟩ := zB_spec h
            have hPc := hP.sub (ws' := []) [] rfl
            have hDc := hD.sub (ws' := []) [] (by decide) rfl
            have hFc := va_free (wc := []) hD hS hA [] rfl
            refine va_calli (va_runS (As := [.int r57]) (rest := [.ref a7]) ⟨hx, hb, hml, hown, hts⟩ (m_X7_isLetter l dC dI y r57 H59.size r61 hc62) (va_cwS 1 hts gX7_next_X7_isLetter rfl rfl rfl (by decide +kernel) ⟨Nat.le_of_ble_eq_true rfl, Nat.le_of_ble_eq_true rfl⟩) ⟨fun a U g mk q => by obtain ⟨q0, q1, qP, qK, qD⟩ := q; exact ⟨q0, q1, qP, va_K.moved (u := U) (U := U.calling g mk a) (Vm.Alike.refl U.vm) qK, qD⟩, fun U hU hW => ⟨rfl, by rw [hU], by rw [hU]; exact hPc, va_K.moved hW.alike hK, hDc.weaken (fun _ _ _ _ => trivial)⟩⟩ rfl rfl hl.1 rfl (lv_room (Nat.le_of_ble_eq_true rfl)) dX7_next_348 ⟨Nat.le_of_ble_eq_true rfl, Nat.le_of_ble_eq_true rfl⟩) hS (fun q _ h => hFc q h) hFc (fun rr64 u t H63 locs ht hvm hw hB hz1 hk1 hS => ?_)
            obtain ⟨hP1, hK1, hD1⟩ := hB
            rw [ht] at hP1
            refine zTopi hw.symm ?_
            obtain ⟨hP, hD⟩ := va_join (wr := [(oX7 a7 h7 s7_46), (h7 0, .inl (y 2, 2020, .inl (gA s7_46 0))), (h7 1, .inl (y 2, 2000, .inl (gA s7_46 1))), (h7 11, .inl (y 1, 120, .inr (.inl (gB s7_46 11)))), (h7 12, .inl (y 0, 120, .inl (gA s7_46 12))), (h7 13, .inl (y 0, 120, .inl (gA s7_46 13))), (h7 14, .inl (y 0, 120, .inl (gA s7_46 14))), (h7 15, .inl (y 0, 120, .inl (gA s7_46 15))), (h7 16, .inl (y 0, 1440, .inl (gA s7_46 16))), (h7 17, .inl (y 0, 120, .inl (gA s7_46 17))), (h7 18, .inl (y 0, 60, .inl (gA s7_46 18))), (h7 19, .inl (y 3, 720, .inl (gA s7_46 19))), (h7 20, .inl (y 1, 1000, .inr (.inl (gB s7_46 20)))), (h7 21, .inl (y 0, 1000, .inl (gA s7_46 21))), (h7 22, .inl (y 0, 1000, .inl (gA s7_46 22))), (h7 23, .inl (y 1, 200, .inr (.inl (gB s7_46 23)))), (h7 24, .inl (y 0, 200, .inl (gA s7_46 24))), (h7 25, .inl (y 3, 200, .inl (gA s7_46 25))), (h7 32, .inl (y 3, 60, .inl (gA s7_46 32))), (h7 33, .inl (y 0, 60, .inl (gA s7_46 33))), (h7 34, .inl (y 0, 60, .inl (gA s7_46 34))), (h7 35, .inl (y 0, 60, .inl (gA s7_46 35))), (h7 36, .inl (y 0, 60, .inl (gA s7_46 36))), (h7 37, .inl (y 0, 60, .inl (gA s7_46 37))), (h7 38, .inl (y 0, 60, .inl (gA s7_46 38))), (h7 40, .inl (y 0, 60, .inl (gA s7_46 40))), (h7 41, .inl (y 0, 60, .inl (gA s7_46 41))), (h7 42, .inl (y 0, 600, .inl (gA s7_46 42))), (h7 43, .inl (y 0, 1200, .inl (gA s7_46 43))), (h7 44, .inl (y 0, 60, .inl (gA s7_46 44))), (h7 45, .inl (y 3, 60, .inl (gA s7_46 45)))]) (w1 := []) hP hD [] [0, 1, 2, 3, 4, 5, 6, 7, 8, 9, 10, 11, 12, 13, 14, 15, 16, 17, 18, 19, 20, 21, 22, 23, 24, 25, 26, 27, 28, 29, 30] rfl rfl (by decide) (by decide) hk1 hFc hP1 hD1
            have hP : va_P (dC, dI) vwCl (cX7 a7 h7 y s7_46) H63 := hP.sub [0, 1, 2, 3, 4, 5, 6, 7, 8, 9, 10, 11, 12, 13, 14, 15, 16, 17, 18, 19, 20, 21, 22, 23, 24, 25, 26, 27, 28, 29, 30] rfl
            have hD : va_D A (cX7 a7 h7 y s7_46) := hD.sub [0, 1, 2, 3, 4, 5, 6, 7, 8, 9, 10, 11, 12, 13, 14, 15, 16, 17, 18, 19, 20, 21, 22, 23, 24, 25, 26, 27, 28, 29, 30] (by decide) rfl
            refine lv_if_ne (tgt := 368) hx hb dX7_next_351 (by decide) (fun c65 => ?_) (fun c65 => ?_)
            · have h := zN c65 h
              refine lv_iconst (v := 1) hx hb dX7_next_368 (by decide) ?_
              refine lv_goto (tgt := 373) hx hb dX7_next_369 (by decide) ?_
              exact (eG48 _ _ _ _ _).mp (jn49 (1 : Int32) _ _ _ (Option.some.inj h) hP hD hS (lv_sub hl [] rfl))
            · have h := zY c65 h
              refine lv_aload_n hx hb dX7_next_354 rfl (lv_at hl 1 rfl) ?_
              refine lv_aload_n hx hb dX7_next_355 rfl (lv_at hl 1 rfl) ?_
              refine va_get (D := (dC, dI)) (ci := 6) (v := .int (gI s7_46 7)) (C := RX7) (T := TX7) (N := 49) hx hb hts inX7_ hown hK hP 0 rfl rfl 7 (by decide) (hts (.fieldLink RX7 131 "GateWheelModel" "end" "I") (List.mem_of_getElem? (i := 1) rfl)) (fun _ h9 => h9) rfl dX7_next_356 ?_
              obtain ⟨r66, hc67, h⟩ := zB_spec h
              have hFc := zFree hD hS hA
              refine va_calli (va_runV (As := [.int (gI s7_46 7)]) (rest := [.ref a7]) ⟨hx, hb, hml, hown, hts⟩ (m_X7_sign l dC dI y a7 h7 s7_46 (gI s7_46 7) H63.size r66 hc67) (cwV 1 hts gX7_next_X7_sign rfl rfl rfl (by decide +kernel) ⟨Nat.le_of_ble_eq_true rfl, Nat.le_of_ble_eq_true rfl⟩) ⟨fun a U g mk q => by obtain ⟨q0, q1, qP, qK, qD⟩ := q; exact ⟨q0, q1, qP, va_K.moved (u := U) (U := U.calling g mk a) (Vm.Alike.refl U.vm) qK, qD⟩, va_recv hK hP (ci := 6) (q0 := 0) rfl rfl, fun U hU hW => ⟨rfl, by rw [hU], by rw [hU]; exact hP, va_K.moved hW.alike hK, hD.weaken (fun _ _ _ _ => trivial)⟩⟩ rfl rfl hl.1 rfl (lv_room (Nat.le_of_ble_eq_true rfl)) dX7_next_359 ⟨Nat.le_of_ble_eq_true rfl, Nat.le_of_ble_eq_true rfl⟩) hS (fun q _ h => hFc q h) hFc (fun rr69 u t H68 locs ht hvm hw hB hz1 hk1 hS => ?_)
              obtain ⟨hP1, hK1, hD1⟩ := hB
              rw [ht] at hP1
              refine zTopi hw.symm ?_
              have hP := hP1
              have hD := hD1.weaken (fun _ q _ h => hFc q.1 h)
              have hP : va_P (dC, dI) vwCl (cX7 a7 h7 y s7_46) H68 := hP
              have hD : va_D A (cX7 a7 h7 y s7_46) := hD
              obtain ⟨r70, hc71, h⟩ := zB_spec h
              have hPc := hP.sub (ws' := []) [] rfl
              have hDc := hD.sub (ws' := []) [] (by decide) rfl
              have hFc := va_free (wc := []) hD hS hA [] rfl
              refine va_calli (va_runS (As := [.int r66]) (rest := [.ref a7]) ⟨hx, hb, hml, hown, hts⟩ (m_X7_isDigit l dC dI y r66 H68.size r70 hc71) (va_cwS 1 hts gX7_next_X7_isDigit rfl rfl rfl (by decide +kernel) ⟨Nat.le_of_ble_eq_true rfl, Nat.le_of_ble_eq_true rfl⟩) ⟨fun a U g mk q => by obtain ⟨q0, q1, qP, qK, qD⟩ := q; exact ⟨q0, q1, qP, va_K.moved (u := U) (U := U.calling g mk a) (Vm.Alike.refl U.vm) qK, qD⟩, fun U hU hW => ⟨rfl, by rw [hU], by rw [hU]; exact hPc, va_K.moved hW.alike hK, hDc.weaken (fun _ _ _ _ => trivial)⟩⟩ rfl rfl hl.1 rfl (lv_room (Nat.le_of_ble_eq_true rfl)) dX7_next_362 ⟨Nat.le_of_ble_eq_true rfl, Nat.le_of_ble_eq_true rfl⟩) hS (fun q _ h => hFc q h) hFc (fun rr73 u t H72 locs ht hvm hw hB hz1 hk1 hS => ?_)
              obtain ⟨hP1, hK1, hD1⟩ := hB
              rw [ht] at hP1
              refine zTopi hw.symm ?_
              obtain ⟨hP, hD⟩ := va_join (wr := [(oX7 a7 h7 s7_46), (h7 0, .inl (y 2, 2020, .inl (gA s7_46 0))), (h7 1, .inl (y 2, 2000, .inl (gA s7_46 1))), (h7 11, .inl (y 1, 120, .inr (.inl (gB s7_46 11)))), (h7 12, .inl (y 0, 120, .inl (gA s7_46 12))), (h7 13, .inl (y 0, 120, .inl (gA s7_46 13))), (h7 14, .inl (y 0, 120, .inl (gA s7_46 14))), (h7 15, .inl (y 0, 120, .inl (gA s7_46 15))), (h7 16, .inl (y 0, 1440, .inl (gA s7_46 16))), (h7 17, .inl (y 0, 120, .inl (gA s7_46 17))), (h7 18, .inl (y 0, 60, .inl (gA s7_46 18))), (h7 19, .inl (y 3, 720, .inl (gA s7_46 19))), (h7 20, .inl (y 1, 1000, .inr (.inl (gB s7_46 20)))), (h7 21, .inl (y 0, 1000, .inl (gA s7_46 21))), (h7 22, .inl (y 0, 1000, .inl (gA s7_46 22))), (h7 23, .inl (y 1, 200, .inr (.inl (gB s7_46 23)))), (h7 24, .inl (y 0, 200, .inl (gA s7_46 24))), (h7 25, .inl (y 3, 200, .inl (gA s7_46 25))), (h7 32, .inl (y 3, 60, .inl (gA s7_46 32))), (h7 33, .inl (y 0, 60, .inl (gA s7_46 33))), (h7 34, .inl (y 0, 60, .inl (gA s7_46 34))), (h7 35, .inl (y 0, 60, .inl (gA s7_46 35))), (h7 36, .inl (y 0, 60, .inl (gA s7_46 36))), (h7 37, .inl (y 0, 60, .inl (gA s7_46 37))), (h7 38, .inl (y 0, 60, .inl (gA s7_46 38))), (h7 40, .inl (y 0, 60, .inl (gA s7_46 40))), (h7 41, .inl (y 0, 60, .inl (gA s7_46 41))), (h7 42, .inl (y 0, 600, .inl (gA s7_46 42))), (h7 43, .inl (y 0, 1200, .inl (gA s7_46 43))), (h7 44, .inl (y 0, 60, .inl (gA s7_46 44))), (h7 45, .inl (y 3, 60, .inl (gA s7_46 45)))]) (w1 := []) hP hD [] [0, 1, 2, 3, 4, 5, 6, 7, 8, 9, 10, 11, 12, 13, 14, 15, 16, 17, 18, 19, 20, 21, 22, 23, 24, 25, 26, 27, 28, 29, 30] rfl rfl (by decide) (by decide) hk1 hFc hP1 hD1
              have hP : va_P (dC, dI) vwCl (cX7 a7 h7 y s7_46) H72 := hP.sub [0, 1, 2, 3, 4, 5, 6, 7, 8, 9, 10, 11, 12, 13, 14, 15, 16, 17, 18, 19, 20, 21, 22, 23, 24, 25, 26, 27, 28, 29, 30] rfl
              have hD : va_D A (cX7 a7 h7 y s7_46) := hD.sub [0, 1, 2, 3, 4, 5, 6, 7, 8, 9, 10, 11, 12, 13, 14, 15, 16, 17, 18, 19, 20, 21, 22, 23, 24, 25, 26, 27, 28, 29, 30] (by decide) rfl
              refine lv_if_eq (tgt := 372) hx hb dX7_next_365 (by decide) (fun c74 => ?_) (fun c74 => ?_)
              · have h := zY c74 h
                refine lv_iconst (v := 4) hx hb dX7_next_372 (by decide) ?_
                exact (eG48 _ _ _ _ _).mp (jn49 (4 : Int32) _ _ _ (Option.some.inj h) hP hD hS (lv_sub hl [] rfl))
              · have h := zN c74 h
                refine lv_iconst (v := 1) hx hb dX7_next_368 (by decide) ?_
                refine lv_goto (tgt := 373) hx hb dX7_next_369 (by decide) ?_
                exact (eG48 _ _ _ _ _).mp (jn49 (1 : Int32) _ _ _ (Option.some.inj h) hP hD hS (lv_sub hl [] rfl))
      · have h := zN c24 h
        refine W_abs (fun GW75 eG76 => ?_)
        obtain ⟨ov79, hi80, h⟩ := zB_spec h
        have je77 : ∀ (s7_84 : SS) (HGW75e : Heap) (locs : List Loc) (ls : Array Slot), s7_84 = ov79 → va_P (dC, dI) vwCl (cX7 a7 h7 y s7_84) HGW75e → va_D A (cX7 a7 h7 y s7_84) → va_S A s.heap HGW75e locs → lv_has ls 3 [(0, .ref a7)] → GW75 HGW75e locs 0 0 (F0 m 160 ls []) := by
          intro s7_84 HGW75e locs ls hv hP hD hS hl
          subst hv
          refine (eG76 _ _ _ _ _).mpr ?_
          refine lv_aload_n hx hb dX7_next_160 rfl (lv_at hl 0 rfl) ?_
          refine lv_lconst (v := 0) hx hb dX7_next_161 (by decide) ?_
          refine va_put (D := (dC, dI)) (ci := 6) (v := .long 0) (ty := .long) (C := RX7) (T := TX7) (N := 49) hx hb hts inX7_ tyX7 tyX7_ok nmX7 hown hK hP hD hS 0 rfl rfl 10 (by decide) (hts (.fieldLink RX7 151 "GateWheelModel" "name" "J") (List.mem_of_getElem? (i := 5) rfl)) (fun _ h9 => h9) rfl (by decide +kernel) rfl rfl (Nat.le_of_ble_eq_true rfl) dX7_next_162 (fun H85 locs hP hD hS => ?_)
          obtain ⟨s7_86, es7_86, h⟩ := zL_spec h
          have hP : va_P (dC, dI) vwCl (cX7 a7 h7 y s7_86) H85 := by rw [es7_86]; exact hP
          have hD : va_D A (cX7 a7 h7 y s7_86) := by rw [es7_86]; exact hD
          refine lv_aload_n hx hb dX7_next_165 rfl (lv_at hl 0 rfl) ?_
          refine va_get (D := (dC, dI)) (ci := 6) (v := .int (gI s7_86 6)) (C := RX7) (T := TX7) (N := 49) hx hb hts inX7_ hown hK hP 0 rfl rfl 6 (by decide) (hts (.fieldLink RX7 134 "GateWheelModel" "at" "I") (List.mem_of_getElem? (i := 2) rfl)) (fun _ h9 => h9) rfl dX7_next_166 ?_
          obtain ⟨v87, ev87, h⟩ := zL_spec h
          refine zTopi ev87 ?_
          refine lv_istore_n (lv' := [(2, .int v87), (0, .ref a7)]) hx hb dX7_next_169 rfl hl (by decide) rfl (fun ls hl => ?_)
          refine W_abs (fun GW88 eG89 => ?_)
          obtain ⟨ov92, hi93, h⟩ := zB_spec h
          have je90 : ∀ (s7_97 : SS) (HGW88e : Heap) (locs : List Loc) (ls : Array Slot), s7_97 = ov92 → va_P (dC, dI) vwCl (cX7 a7 h7 y s7_97) HGW88e → va_D A (cX7 a7 h7 y s7_97) → va_S A s.heap HGW88e locs → lv_has ls 3 [(0, .ref a7)] → GW88 HGW88e locs 0 0 (F0 m 213 ls []) := by
            intro s7_97 HGW88e locs ls hv hP hD hS hl
            subst hv
            refine (eG89 _ _ _ _ _).mpr ?_
            refine lv_aload_n hx hb dX7_next_213 rfl (lv_at hl 0 rfl) ?_
            refine va_get (D := (dC, dI)) (ci := 6) (v := .long (gL s7_97 10)) (C := RX7) (T := TX7) (N := 49) hx hb hts inX7_ hown hK hP 0 rfl rfl 10 (by decide) (hts (.fieldLink RX7 151 "GateWheelModel" "name" "J") (List.mem_of_getElem? (i := 5) rfl)) (fun _ h9 => h9) rfl dX7_next_214 ?_
            obtain ⟨r98, hc99, h⟩ := zB_spec h
            have hPc := hP.sub (ws' := []) [] rfl
            have hDc := hD.sub (ws' := []) [] (by decide) rfl
            have hFc := va_free (wc := []) hD hS hA [] rfl
            refine va_calli (va_runS (As := [.long (gL s7_97 10)]) (rest := []) ⟨hx, hb, hml, hown, hts⟩ (m_X7_gateOf l dC dI y (gL s7_97 10) HGW88e.size r98 hc99) (va_cwS 1 hts gX7_next_X7_gateOf rfl rfl rfl (by decide +kernel) ⟨Nat.le_of_ble_eq_true rfl, Nat.le_of_ble_eq_true rfl⟩) ⟨fun a U g mk q => by obtain ⟨q0, q1, qP, qK, qD⟩ := q; exact ⟨q0, q1, qP, va_K.moved (u := U) (U := U.calling g mk a) (Vm.Alike.refl U.vm) qK, qD⟩, fun U hU hW => ⟨rfl, by rw [hU], by rw [hU]; exact hPc, va_K.moved hW.alike hK, hDc.weaken (fun _ _ _ _ => trivial)⟩⟩ rfl rfl hl.1 rfl (lv_room (Nat.le_of_ble_eq_true rfl)) dX7_next_217 ⟨Nat.le_of_ble_eq_true rfl, Nat.le_of_ble_eq_true rfl⟩) hS (fun q _ h => hFc q h) hFc (fun rr101 u t H100 locs ht hvm hw hB hz1 hk1 hS => ?_)
            obtain ⟨hP1, hK1, hD1⟩ := hB
            rw [ht] at hP1
            refine zTopi hw.symm ?_
            obtain ⟨hP, hD⟩ := va_join (wr := [(oX7 a7 h7 s7_97), (h7 0, .inl (y 2, 2020, .inl (gA s7_97 0))), (h7 1, .inl (y 2, 2000, .inl (gA s7_97 1))), (h7 11, .inl (y 1, 120, .inr (.inl (gB s7_97 11)))), (h7 12, .inl (y 0, 120, .inl (gA s7_97 12))), (h7 13, .inl (y 0, 120, .inl (gA s7_97 13))), (h7 14, .inl (y 0, 120, .inl (gA s7_97 14))), (h7 15, .inl (y 0, 120, .inl (gA s7_97 15))), (h7 16, .inl (y 0, 1440, .inl (gA s7_97 16))), (h7 17, .inl (y 0, 120, .inl (gA s7_97 17))), (h7 18, .inl (y 0, 60, .inl (gA s7_97 18))), (h7 19, .inl (y 3, 720, .inl (gA s7_97 19))), (h7 20, .inl (y 1, 1000, .inr (.inl (gB s7_97 20)))), (h7 21, .inl (y 0, 1000, .inl (gA s7_97 21))), (h7 22, .inl (y 0, 1000, .inl (gA s7_97 22))), (h7 23, .inl (y 1, 200, .inr (.inl (gB s7_97 23)))), (h7 24, .inl (y 0, 200, .inl (gA s7_97 24))), (h7 25, .inl (y 3, 200, .inl (gA s7_97 25))), (h7 32, .inl (y 3, 60, .inl (gA s7_97 32))), (h7 33, .inl (y 0, 60, .inl (gA s7_97 33))), (h7 34, .inl (y 0, 60, .inl (gA s7_97 34))), (h7 35, .inl (y 0, 60, .inl (gA s7_97 35))), (h7 36, .inl (y 0, 60, .inl (gA s7_97 36))), (h7 37, .inl (y 0, 60, .inl (gA s7_97 37))), (h7 38, .inl (y 0, 60, .inl (gA s7_97 38))), (h7 40, .inl (y 0, 60, .inl (gA s7_97 40))), (h7 41, .inl (y 0, 60, .inl (gA s7_97 41))), (h7 42, .inl (y 0, 600, .inl (gA s7_97 42))), (h7 43, .inl (y 0, 1200, .inl (gA s7_97 43))), (h7 44, .inl (y 0, 60, .inl (gA s7_97 44))), (h7 45, .inl (y 3, 60, .inl (gA s7_97 45)))]) (w1 := []) hP hD [] [0, 1, 2, 3, 4, 5, 6, 7, 8, 9, 10, 11, 12, 13, 14, 15, 16, 17, 18, 19, 20, 21, 22, 23, 24, 25, 26, 27, 28, 29, 30] rfl rfl (by decide) (by decide) hk1 hFc hP1 hD1
            have hP : va_P (dC, dI) vwCl (cX7 a7 h7 y s7_97) H100 := hP.sub [0, 1, 2, 3, 4, 5, 6, 7, 8, 9, 10, 11, 12, 13, 14, 15, 16, 17, 18, 19, 20, 21, 22, 23, 24, 25, 26, 27, 28, 29, 30] rfl
            have hD : va_D A (cX7 a7 h7 y s7_97) := hD.sub [0, 1, 2, 3, 4, 5, 6, 7, 8, 9, 10, 11, 12, 13, 14, 15, 16, 17, 18, 19, 20, 21, 22, 23, 24, 25, 26, 27, 28, 29, 30] (by decide) rfl
            refine W_abs (fun GW102 eG103 => ?_)
            obtain ⟨ov105, hr106, h⟩ := zB_spec h
            have jn104 : ∀ (v108 : Int32) (HGW102 : Heap) (locs : List Loc) (ls : Array Slot), v108 = ov105 → va_P (dC, dI) vwCl (cX7 a7 h7 y s7_97) HGW102 → va_D A (cX7 a7 h7 y s7_97) → va_S A s.heap HGW102 locs → lv_has ls 3 [(0, .ref a7)] → GW102 HGW102 locs 0 0 (F0 m 283 ls [.int v108]) := by
              intro v108 HGW102 locs ls hv hP hD hS hl
              subst hv
              refine (eG103 _ _ _ _ _).mpr ?_
              refine lv_istore_n (lv' := [(2, .int v108), (0, .ref a7)]) hx hb dX7_next_283 rfl hl (by decide) rfl (fun ls hl => ?_)
              refine lv_aload_n hx hb dX7_next_284 rfl (lv_at hl 1 rfl) ?_
              refine lv_aload_n hx hb dX7_next_285 rfl (lv_at hl 1 rfl) ?_
              refine va_get (D := (dC, dI)) (ci := 6) (v := .int (gI s7_97 7)) (C := RX7) (T := TX7) (N := 49) hx hb hts inX7_ hown hK hP 0 rfl rfl 7 (by decide) (hts (.fieldLink RX7 131 "GateWheelModel" "end" "I") (List.mem_of_getElem? (i := 1) rfl)) (fun _ h9 => h9) rfl dX7_next_286 ?_
              refine lv_aload_n hx hb dX7_next_289 rfl (lv_at hl 1 rfl) ?_
              refine va_get (D := (dC, dI)) (ci := 6) (v := .int (gI s7_97 6)) (C := RX7) (T := TX7) (N := 49) hx hb hts inX7_ hown hK hP 0 rfl rfl 6 (by decide) (hts (.fieldLink RX7 134 "GateWheelModel" "at" "I") (List.mem_of_getElem? (i := 2) rfl)) (fun _ h9 => h9) rfl dX7_next_290 ?_
              refine lv_isub hx hb dX7_next_293 ?_
              refine lv_bipush (v := 8) hx hb dX7_next_294 (by decide) ?_
              refine W_abs (fun GW109 eG110 => ?_)
              obtain ⟨ov112, hr113, h⟩ := zB_spec h
              have jn111 : ∀ (v115 : Int32) (HGW109 : Heap) (locs : List Loc) (ls : Array Slot), v115 = ov112 → va_P (dC, dI) vwCl (cX7 a7 h7 y s7_97) HGW109 → va_D A (cX7 a7 h7 y s7_97) → va_S A s.heap HGW109 locs → lv_has ls 3 [] → GW109 HGW109 locs 0 0 (F0 m 312 ls [.int v115, .ref a7]) := by
                intro v115 HGW109 locs ls hv hP hD hS hl
                subst hv
                refine (eG110 _ _ _ _ _).mpr ?_
                refine va_put (D := (dC, dI)) (ci := 6) (v := .int v115) (ty := .int) (C := RX7) (T := TX7) (N := 49) hx hb hts inX7_ tyX7 tyX7_ok nmX7 hown hK hP hD hS 0 rfl rfl 8 (by decide) (hts (.fieldLink RX7 141 "GateWheelModel" "token" "I") (List.mem_of_getElem? (i := 4) rfl)) (fun _ h9 => h9) rfl (by decide +kernel) rfl rfl (Nat.le_of_ble_eq_true rfl) dX7_next_312 (fun H116 locs hP hD hS => ?_)
                obtain ⟨s7_117, es7_117, h⟩ := zL_spec h
                have hP : va_P (dC, dI) vwCl (cX7 a7 h7 y s7_117) H116 := by rw [es7_117]; exact hP
                have hD : va_D A (cX7 a7 h7 y s7_117) := by rw [es7_117]; exact hD
                refine lv_goto (tgt := 424) hx hb dX7_next_315 (by decide) ?_
                have ho0 : s7_117 = o_7 := congrArg (fun z : SS => z) (Option.some.inj h)
                exact W.vret hx hb hr (fun t ht hW => ⟨⟨(), rfl, trivial, by rw [ht]; rw [← ho0]; exact hP, va_K.moved hW.alike hK, by rw [← ho0]; exact hD⟩, hS.F ht⟩) hS.2.2 dX7_next_424
              refine (eG110 _ _ _ _ _).mpr ?_
              have h := hr113
              refine lv_icmp_le (tgt := 303) hx hb dX7_next_296 (by decide) (fun c118 => ?_) (fun c118 => ?_)
              · have h := zY c118 h
                refine lv_iload_n hx hb dX7_next_303 rfl (lv_at hl 0 rfl) ?_
                refine lv_if_eq (tgt := 311) hx hb dX7_next_304 (by decide) (fun c119 => ?_) (fun c119 => ?_)
                · have h := zY c119 h
                  refine lv_iconst (v := 2) hx hb dX7_next_311 (by decide) ?_
                  exact (eG110 _ _ _ _ _).mp (jn111 (2 : Int32) _ _ _ (Option.some.inj h) hP hD hS (lv_sub hl [] rfl))
                · have h := zN c119 h
                  refine lv_iconst (v := 3) hx hb dX7_next_307 (by decide) ?_
                  refine lv_goto (tgt := 312) hx hb dX7_next_308 (by decide) ?_
                  exact (eG110 _ _ _ _ _).mp (jn111 (3 : Int32) _ _ _ (Option.some.inj h) hP hD hS (lv_sub hl [] rfl))
              · have h := zN c118 h
                refine lv_iconst (v := 1) hx hb dX7_next_299 (by decide) ?_
                refine lv_goto (tgt := 312) hx hb dX7_next_300 (by decide) ?_
                exact (eG110 _ _ _ _ _).mp (jn111 (1 : Int32) _ _ _ (Option.some.inj h) hP hD hS (lv_sub hl [] rfl))
            refine (eG103 _ _ _ _ _).mpr ?_
            have h := hr106
            refine lv_if_ge (tgt := 278) hx hb dX7_next_220 (by decide) (fun c120 => ?_) (fun c120 => ?_)
            · have h := zY c120 h
              refine lv_iconst (v := 1) hx hb dX7_next_278 (by decide) ?_
              refine lv_goto (tgt := 283) hx hb dX7_next_279 (by decide) ?_
              exact (eG103 _ _ _ _ _).mp (jn104 (1 : Int32) _ _ _ (Option.some.inj h) hP hD hS (lv_sub hl [0] rfl))
            · have h := zN c120 h
              refine lv_aload_n hx hb dX7_next_223 rfl (lv_at hl 0 rfl) ?_
              refine va_get (D := (dC, dI)) (ci := 6) (v := .long (gL s7_97 10)) (C := RX7) (T := TX7) (N := 49) hx hb hts inX7_ hown hK hP 0 rfl rfl 10 (by decide) (hts (.fieldLink RX7 151 "GateWheelModel" "name" "J") (List.mem_of_getElem? (i := 5) rfl)) (fun _ h9 => h9) rfl dX7_next_224 ?_
              refine lv_ldc2 hx hb hown (hts (.constantLong RX7 159 (26990)) (List.mem_of_getElem? (i := 6) rfl)) dX7_next_227 ?_
              refine W.lcmp hx hb dX7_next_230 ?_
              refine lv_if_eq (tgt := 278) hx hb dX7_next_231 (by decide) (fun c121 => ?_) (fun c121 => ?_)
              · have h := zY c121 h
                refine lv_iconst (v := 1) hx hb dX7_next_278 (by decide) ?_
                refine lv_goto (tgt := 283) hx hb dX7_next_279 (by decide) ?_
                exact (eG103 _ _ _ _ _).mp (jn104 (1 : Int32) _ _ _ (Option.some.inj h) hP hD hS (lv_sub hl [0] rfl))
              · have h := zN c121 h
                refine lv_aload_n hx hb dX7_next_234 rfl (lv_at hl 0 rfl) ?_
                refine va_get (D := (dC, dI)) (ci := 6) (v := .long (gL s7_97 10)) (C := RX7) (T := TX7) (N := 49) hx hb hts inX7_ hown hK hP 0 rfl rfl 10 (by decide) (hts (.fieldLink RX7 151 "GateWheelModel" "name" "J") (List.mem_of_getElem? (i := 5) rfl)) (fun _ h9 => h9) rfl dX7_next_235 ?_
                refine lv_ldc2 hx hb hown (hts (.constantLong RX7 161 (6452595)) (List.mem_of_getElem? (i := 7) rfl)) dX7_next_238 ?_
                refine W.lcmp hx hb dX7_next_241 ?_
                refine lv_if_eq (tgt := 278) hx hb dX7_next_242 (by decide) (fun c122 => ?_) (fun c122 => ?_)
                · have h := zY c122 h
                  refine lv_iconst (v := 1) hx hb dX7_next_278 (by decide) ?_
                  refine lv_goto (tgt := 283) hx hb dX7_next_279 (by decide) ?_
                  exact (eG103 _ _ _ _ _).mp (jn104 (1 : Int32) _ _ _ (Option.some.inj h) hP hD hS (lv_sub hl [0] rfl))
                · have h := zN c122 h
                  refine lv_aload_n hx hb dX7_next_245 rfl (lv_at hl 0 rfl) ?_
                  refine va_get (D := (dC, dI)) (ci := 6) (v := .long (gL s7_97 10)) (C := RX7) (T := TX7) (N := 49) hx hb hts inX7_ hown hK hP 0 rfl rfl 10 (by decide) (hts (.fieldLink RX7 151 "GateWheelModel" "name" "J") (List.mem_of_getElem? (i := 5) rfl)) (fun _ h9 => h9) rfl dX7_next_246 ?_
                  refine lv_ldc2 hx hb hown (hts (.constantLong RX7 163 (7497063)) (List.mem_of_getElem? (i := 8) rfl)) dX7_next_249 ?_
                  refine W.lcmp hx hb dX7_next_252 ?_
                  refine lv_if_eq (tgt := 278) hx hb dX7_next_253 (by decide) (fun c123 => ?_) (fun c123 => ?_)
                  · have h := zY c123 h
                    refine lv_iconst (v := 1) hx hb dX7_next_278 (by decide) ?_
                    refine lv_goto (tgt := 283) hx hb dX7_next_279 (by decide) ?_
                    exact (eG103 _ _ _ _ _).mp (jn104 (1 : Int32) _ _ _ (Option.some.inj h) hP hD hS (lv_sub hl [0] rfl))
                  · have h := zN c123 h
                    refine lv_aload_n hx hb dX7_next_256 rfl (lv_at hl 0 rfl) ?_
                    refine va_get (D := (dC, dI)) (ci := 6) (v := .long (gL s7_97 10)) (C := RX7) (T := TX7) (N := 49) hx hb hts inX7_ hown hK hP 0 rfl rfl 10 (by decide) (hts (.fieldLink RX7 151 "GateWheelModel" "name" "J") (List.mem_of_getElem? (i := 5) rfl)) (fun _ h9 => h9) rfl dX7_next_257 ?_
                    refine lv_ldc2 hx hb hown (hts (.constantLong RX7 165 (6907441)) (List.mem_of_getElem? (i := 9) rfl)) dX7_next_260 ?_
                    refine W.lcmp hx hb dX7_next_263 ?_
                    refine lv_if_eq (tgt := 278) hx hb dX7_next_264 (by decide) (fun c124 => ?_) (fun c124 => ?_)
                    · have h := zY c124 h
                      refine lv_iconst (v := 1) hx hb dX7_next_278 (by decide) ?_
                      refine lv_goto (tgt := 283) hx hb dX7_next_279 (by decide) ?_
                      exact (eG103 _ _ _ _ _).mp (jn104 (1 : Int32) _ _ _ (Option.some.inj h) hP hD hS (lv_sub hl [0] rfl))
                    · have h := zN c124 h
                      refine lv_aload_n hx hb dX7_next_267 rfl (lv_at hl 0 rfl) ?_
                      refine va_get (D := (dC, dI)) (ci := 6) (v := .long (gL s7_97 10)) (C := RX7) (T := TX7) (N := 49) hx hb hts inX7_ hown hK hP 0 rfl rfl 10 (by decide) (hts (.fieldLink RX7 151 "GateWheelModel" "name" "J") (List.mem_of_getElem? (i := 5) rfl)) (fun _ h9 => h9) rfl dX7_next_268 ?_
                      refine lv_ldc2 hx hb hown (hts (.constantLong RX7 167 (6907440)) (List.mem_of_getElem? (i := 10) rfl)) dX7_next_271 ?_
                      refine W.lcmp hx hb dX7_next_274 ?_
                      refine lv_if_ne (tgt := 282) hx hb dX7_next_275 (by decide) (fun c125 => ?_) (fun c125 => ?_)
                      · have h := zN c125 h
                        refine lv_iconst (v := 0) hx hb dX7_next_282 (by decide) ?_
                        exact (eG103 _ _ _ _ _).mp (jn104 (0 : Int32) _ _ _ (Option.some.inj h) hP hD hS (lv_sub hl [0] rfl))
                      · have h := zY c125 h
                        refine lv_iconst (v := 1) hx hb dX7_next_278 (by decide) ?_
                        refine lv_goto (tgt := 283) hx hb dX7_next_279 (by decide) ?_
                        exact (eG103 _ _ _ _ _).mp (jn104 (1 : Int32) _ _ _ (Option.some.inj h) hP hD hS (lv_sub hl [0] rfl))
          have lp91 : ∀ (n : Nat) (v126 : Int32) (s7_127 : SS) (HGW88 : Heap) (locs : List Loc) (ls : Array Slot), zI (b_X7_next_170) n (v126, s7_127) = some ov92 → va_P (dC, dI) vwCl (cX7 a7 h7 y s7_127) HGW88 → va_D A (cX7 a7 h7 y s7_127) → va_S A s.heap HGW88 locs → lv_has ls 3 [(0, .ref a7), (2, .int v126)] → GW88 HGW88 locs 0 0 (F0 m 170 ls []) := by
            intro n
            induction n with
            | zero =>
              intro v126 s7_127 HGW88 locs ls hi93 hP hD hS hl
              exact (zI_0 hi93).elim
            | succ n ihlp91 =>
              intro v126 s7_127 HGW88 locs ls hi93 hP hD hS hl
              refine (eG89 _ _ _ _ _).mpr ?_
              obtain ⟨xx96, h, hx95⟩ := zI_spec hi93
              refine lv_iload_n hx hb dX7_next_170 rfl (lv_at hl 1 rfl) ?_
              refine lv_aload_n hx hb dX7_next_171 rfl (lv_at hl 0 rfl) ?_
              refine va_get (D := (dC, dI)) (ci := 6) (v := .int (gI s7_127 7)) (C := RX7) (T := TX7) (N := 49) hx hb hts inX7_ hown hK hP 0 rfl rfl 7 (by decide) (hts (.fieldLink RX7 131 "GateWheelModel" "end" "I") (List.mem_of_getElem? (i := 1) rfl)) (fun _ h9 => h9) rfl dX7_next_172 ?_
              refine lv_icmp_ge (tgt := 213) hx hb dX7_next_175 (by decide) (fun c128 => ?_) (fun c128 => ?_)
              · have h := zY c128 h
                exact (eG89 _ _ _ _ _).mp (je90 s7_127 _ _ _ (zI_r h hx95) hP hD hS (lv_sub hl [0] rfl))
              · have h := zN c128 h
                refine lv_iload_n hx hb dX7_next_178 rfl (lv_at hl 1 rfl) ?_
                refine lv_aload_n hx hb dX7_next_179 rfl (lv_at hl 0 rfl) ?_
                refine va_get (D := (dC, dI)) (ci := 6) (v := .int (gI s7_127 6)) (C := RX7) (T := TX7) (N := 49) hx hb hts inX7_ hown hK hP 0 rfl rfl 6 (by decide) (hts (.fieldLink RX7 134 "GateWheelModel" "at" "I") (List.mem_of_getElem? (i := 2) rfl)) (fun _ h9 => h9) rfl dX7_next_180 ?_
                refine lv_bipush (v := 8) hx hb dX7_next_183 (by decide) ?_
                refine lv_iadd hx hb dX7_next_185 ?_
                refine lv_icmp_ge (tgt := 213) hx hb dX7_next_186 (by decide) (fun c129 => ?_) (fun c129 => ?_)
                · have h := zY c129 h
                  exact (eG89 _ _ _ _ _).mp (je90 s7_127 _ _ _ (zI_r h hx95) hP hD hS (lv_sub hl [0] rfl))
                · have h := zN c129 h
                  refine lv_aload_n hx hb dX7_next_189 rfl (lv_at hl 0 rfl) ?_
                  refine lv_aload_n hx hb dX7_next_190 rfl (lv_at hl 0 rfl) ?_
                  refine va_get (D := (dC, dI)) (ci := 6) (v := .long (gL s7_127 10)) (C := RX7) (T := TX7) (N := 49) hx hb hts inX7_ hown hK hP 0 rfl rfl 10 (by decide) (hts (.fieldLink RX7 151 "GateWheelModel" "name" "J") (List.mem_of_getElem? (i := 5) rfl)) (fun _ h9 => h9) rfl dX7_next_191 ?_
                  refine lv_bipush (v := 8) hx hb dX7_next_194 (by decide) ?_
                  refine lv_lshl (v := (jLs (gL s7_127 10) (8 : Int32))) hx hb dX7_next_196 rfl ?_
                  refine lv_aload_n hx hb dX7_next_197 rfl (lv_at hl 0 rfl) ?_
                  refine lv_iload_n hx hb dX7_next_198 rfl (lv_at hl 1 rfl) ?_
                  obtain ⟨r130, hc131, h⟩ := zB_spec h
                  have hFc := zFree hD hS hA
                  refine va_calli (va_runV (As := [.int v126]) (rest := [.long (jLs (gL s7_127 10) (8 : Int32)), .ref a7]) ⟨hx, hb, hml, hown, hts⟩ (m_X7_sign l dC dI y a7 h7 s7_127 v126 HGW88.size r130 hc131) (cwV 1 hts gX7_next_X7_sign rfl rfl rfl (by decide +kernel) ⟨Nat.le_of_ble_eq_true rfl, Nat.le_of_ble_eq_true rfl⟩) ⟨fun a U g mk q => by obtain ⟨q0, q1, qP, qK, qD⟩ := q; exact ⟨q0, q1, qP, va_K.moved (u := U) (U := U.calling g mk a) (Vm.Alike.refl U.vm) qK, qD⟩, va_recv hK hP (ci := 6) (q0 := 0) rfl rfl, fun U hU hW => ⟨rfl, by rw [hU], by rw [hU]; exact hP, va_K.moved hW.alike hK, hD.weaken (fun _ _ _ _ => trivial)⟩⟩ rfl rfl hl.1 rfl (lv_room (Nat.le_of_ble_eq_true rfl)) dX7_next_199 ⟨Nat.le_of_ble_eq_true rfl, Nat.le_of_ble_eq_true rfl⟩) hS (fun q _ h => hFc q h) hFc (fun rr133 u t H132 locs ht hvm hw hB hz1 hk1 hS => ?_)
                  obtain ⟨hP1, hK1, hD1⟩ := hB
                  rw [ht] at hP1
                  refine zTopi hw.symm ?_
                  have hP := hP1
                  have hD := hD1.weaken (fun _ q _ h => hFc q.1 h)
                  have hP : va_P (dC, dI) vwCl (cX7 a7 h7 y s7_127) H132 := hP
                  have hD : va_D A (cX7 a7 h7 y s7_127) := hD
                  refine lv_i2l (v := (jIL r130)) hx hb dX7_next_202 rfl ?_
                  refine lv_lor hx hb dX7_next_203 ?_
                  refine va_put (D := (dC, dI)) (ci := 6) (v := .long ((jLs (gL s7_127 10) (8 : Int32)) ||| (jIL r130))) (ty := .long) (C := RX7) (T := TX7) (N := 49) hx hb hts inX7_ tyX7 tyX7_ok nmX7 hown hK hP hD hS 0 rfl rfl 10 (by decide) (hts (.fieldLink RX7 151 "GateWheelModel" "name" "J") (List.mem_of_getElem? (i := 5) rfl)) (fun _ h9 => h9) rfl (by decide +kernel) rfl rfl (Nat.le_of_ble_eq_true rfl) dX7_next_204 (fun H134 locs hP hD hS => ?_)
                  obtain ⟨s7_135, es7_135, h⟩ := zL_spec h
                  have hP : va_P (dC, dI) vwCl (cX7 a7 h7 y s7_135) H134 := by rw [es7_135]; exact hP
                  have hD : va_D A (cX7 a7 h7 y s7_135) := by rw [es7_135]; exact hD
                  obtain ⟨v136, ev136, h⟩ := zL_spec h
                  refine lv_iinc (v := v136) (lv' := [(2, .int v136), (0, .ref a7)]) hx hb dX7_next_207 hl (k := 1) rfl (by rw [ev136]; rfl) (by decide) rfl (fun ls hl => ?_)
                  refine lv_goto (tgt := 170) hx hb dX7_next_210 (by decide) ?_
                  have h := zI_l h hx95
                  exact (eG89 _ _ _ _ _).mp (ihlp91 v136 s7_135 _ _ _ h hP hD hS (lv_sub hl [1, 0] rfl))
          exact lp91 zF v87 s7_86 _ _ _ hi93 hP hD hS (lv_sub hl [1, 0] rfl)
        have lp78 : ∀ (n : Nat) (s7_137 : SS) (HGW75 : Heap) (locs : List Loc) (ls : Array Slot), zI (b_X7_next_119) n s7_137 = some ov79 → va_P (dC, dI) vwCl (cX7 a7 h7 y s7_137) HGW75 → va_D A (cX7 a7 h7 y s7_137) → va_S A s.heap HGW75 locs → lv_has ls 3 [(0, .ref a7)] → GW75 HGW75 locs 0 0 (F0 m 119 ls []) := by
          intro n
          induction n with
          | zero =>
            intro s7_137 HGW75 locs ls hi80 hP hD hS hl
            exact (zI_0 hi80).elim
          | succ n ihlp78 =>
            intro s7_137 HGW75 locs ls hi80 hP hD hS hl
            refine (eG76 _ _ _ _ _).mpr ?_
            obtain ⟨xx83, h, hx82⟩ := zI_spec hi80
            refine lv_aload_n hx hb dX7_next_119 rfl (lv_at hl 0 rfl) ?_
            refine lv_aload_n hx hb dX7_next_120 rfl (lv_at hl 0 rfl) ?_
            refine va_get (D := (dC, dI)) (ci := 6) (v := .int (gI s7_137 7)) (C := RX7) (T := TX7) (N := 49) hx hb hts inX7_ hown hK hP 0 rfl rfl 7 (by decide) (hts (.fieldLink RX7 131 "GateWheelModel" "end" "I") (List.mem_of_getElem? (i := 1) rfl)) (fun _ h9 => h9) rfl dX7_next_121 ?_
            obtain ⟨r138, hc139, h⟩ := zB_spec h
            have hFc := zFree hD hS hA
            refine va_calli (va_runV (As := [.int (gI s7_137 7)]) (rest := []) ⟨hx, hb, hml, hown, hts⟩ (m_X7_sign l dC dI y a7 h7 s7_137 (gI s7_137 7) HGW75.size r138 hc139) (cwV 1 hts gX7_next_X7_sign rfl rfl rfl (by decide +kernel) ⟨Nat.le_of_ble_eq_true rfl, Nat.le_of_ble_eq_true rfl⟩) ⟨fun a U g mk q => by obtain ⟨q0, q1, qP, qK, qD⟩ := q; exact ⟨q0, q1, qP, va_K.moved (u := U) (U := U.calling g mk a) (Vm.Alike.refl U.vm) qK, qD⟩, va_recv hK hP (ci := 6) (q0 := 0) rfl rfl, fun U hU hW => ⟨rfl, by rw [hU], by rw [hU]; exact hP, va_K.moved hW.alike hK, hD.weaken (fun _ _ _ _ => trivial)⟩⟩ rfl rfl hl.1 rfl (lv_room (Nat.le_of_ble_eq_true rfl)) dX7_next_124 ⟨Nat.le_of_ble_eq_true rfl, Nat.le_of_ble_eq_true rfl⟩) hS (fun q _ h => hFc q h) hFc (fun rr141 u t H140 locs ht hvm hw hB hz1 hk1 hS => ?_)
            obtain ⟨hP1, hK1, hD1⟩ := hB
            rw [ht] at hP1
            refine zTopi hw.symm ?_
            have hP := hP1
            have hD := hD1.weaken (fun _ q _ h => hFc q.1 h)
            have hP : va_P (dC, dI) vwCl (cX7 a7 h7 y s7_137) H140 := hP
            have hD : va_D A (cX7 a7 h7 y s7_137) := hD
            obtain ⟨r142, hc143, h⟩ := zB_spec h
            have hPc := hP.sub (ws' := []) [] rfl
            have hDc := hD.sub (ws' := []) [] (by decide) rfl
            have hFc := va_free (wc := []) hD hS hA [] rfl
            refine va_calli (va_runS (As := [.int r138]) (rest := []) ⟨hx, hb, hml, hown, hts⟩ (m_X7_isLetter l dC dI y r138 H140.size r142 hc143) (va_cwS 1 hts gX7_next_X7_isLetter rfl rfl rfl (by decide +kernel) ⟨Nat.le_of_ble_eq_true rfl, Nat.le_of_ble_eq_true rfl⟩) ⟨fun a U g mk q => by obtain ⟨q0, q1, qP, qK, qD⟩ := q; exact ⟨q0, q1, qP, va_K.moved (u := U) (U := U.calling g mk a) (Vm.Alike.refl U.vm) qK, qD⟩, fun U hU hW => ⟨rfl, by rw [hU], by rw [hU]; exact hPc, va_K.moved hW.alike hK, hDc.weaken (fun _ _ _ _ => trivial)⟩⟩ rfl rfl hl.1 rfl (lv_room (Nat.le_of_ble_eq_true rfl)) dX7_next_127 ⟨Nat.le_of_ble_eq_true rfl, Nat.le_of_ble_eq_true rfl⟩) hS (fun q _ h => hFc q h) hFc (fun rr145 u t H144 locs ht hvm hw hB hz1 hk1 hS => ?_)
            obtain ⟨hP1, hK1, hD1⟩ := hB
            rw [ht] at hP1
            refine zTopi hw.symm ?_
            obtain ⟨hP, hD⟩ := va_join (wr := [(oX7 a7 h7 s7_137), (h7 0, .inl (y 2, 2020, .inl (gA s7_137 0))), (h7 1, .inl (y 2, 2000, .inl (gA s7_137 1))), (h7 11, .inl (y 1, 120, .inr (.inl (gB s7_137 11)))), (h7 12, .inl (y 0, 120, .inl (gA s7_137 12))), (h7 13, .inl (y 0, 120, .inl (gA s7_137 13))), (h7 14, .inl (y 0, 120, .inl (gA s7_137 14))), (h7 15, .inl (y 0, 120, .inl (gA s7_137 15))), (h7 16, .inl (y 0, 1440, .inl (gA s7_137 16))), (h7 17, .inl (y 0, 120, .inl (gA s7_137 17))), (h7 18, .inl (y 0, 60, .inl (gA s7_137 18))), (h7 19, .inl (y 3, 720, .inl (gA s7_137 19))), (h7 20, .inl (y 1, 1000, .inr (.inl (gB s7_137 20)))), (h7 21, .inl (y 0, 1000, .inl (gA s7_137 21))), (h7 22, .inl (y 0, 1000, .inl (gA s7_137 22))), (h7 23, .inl (y 1, 200, .inr (.inl (gB s7_137 23)))), (h7 24, .inl (y 0, 200, .inl (gA s7_137 24))), (h7 25, .inl (y 3, 200, .inl (gA s7_137 25))), (h7 32, .inl (y 3, 60, .inl (gA s7_137 32))), (h7 33, .inl (y 0, 60, .inl (gA s7_137 33))), (h7 34, .inl (y 0, 60, .inl (gA s7_137 34))), (h7 35, .inl (y 0, 60, .inl (gA s7_137 35))), (h7 36, .inl (y 0, 60, .inl (gA s7_137 36))), (h7 37, .inl (y 0, 60, .inl (gA s7_137 37))), (h7 38, .inl (y 0, 60, .inl (gA s7_137 38))), (h7 40, .inl (y 0, 60, .inl (gA s7_137 40))), (h7 41, .inl (y 0, 60, .inl (gA s7_137 41))), (h7 42, .inl (y 0, 600, .inl (gA s7_137 42))), (h7 43, .inl (y 0, 1200, .inl (gA s7_137 43))), (h7 44, .inl (y 0, 60, .inl (gA s7_137 44))), (h7 45, .inl (y 3, 60, .inl (gA s7_137 45)))]) (w1 := []) hP hD [] [0, 1, 2, 3, 4, 5, 6, 7, 8, 9, 10, 11, 12, 13, 14, 15, 16, 17, 18, 19, 20, 21, 22, 23, 24, 25, 26, 27, 28, 29, 30] rfl rfl (by decide) (by decide) hk1 hFc hP1 hD1
            have hP : va_P (dC, dI) vwCl (cX7 a7 h7 y s7_137) H144 := hP.sub [0, 1, 2, 3, 4, 5, 6, 7, 8, 9, 10, 11, 12, 13, 14, 15, 16, 17, 18, 19, 20, 21, 22, 23, 24, 25, 26, 27, 28, 29, 30] rfl
            have hD : va_D A (cX7 a7 h7 y s7_137) := hD.sub [0, 1, 2, 3, 4, 5, 6, 7, 8, 9, 10, 11, 12, 13, 14, 15, 16, 17, 18, 19, 20, 21, 22, 23, 24, 25, 26, 27, 28, 29, 30] (by decide) rfl
            refine W_abs (fun GW146 eG147 => ?_)
            obtain ⟨ov149, hr150, hk151⟩ := zS_spec h
            have jn148 : ∀ (HGW146 : Heap) (locs : List Loc) (ls : Array Slot), Sum.inr () = ov149 → va_P (dC, dI) vwCl (cX7 a7 h7 y s7_137) HGW146 → va_D A (cX7 a7 h7 y s7_137) → va_S A s.heap HGW146 locs → lv_has ls 3 [(0, .ref a7)] → GW146 HGW146 locs 0 0 (F0 m 147 ls []) := by
              intro HGW146 locs ls hv hP hD hS hl
              subst hv
              have h := zS_r hk151
              refine (eG147 _ _ _ _ _).mpr ?_
              refine lv_aload_n hx hb dX7_next_147 rfl (lv_at hl 0 rfl) ?_
              refine lv_dup hx hb dX7_next_148 rfl ?_
              refine va_get (D := (dC, dI)) (ci := 6) (v := .int (gI s7_137 7)) (C := RX7) (T := TX7) (N := 49) hx hb hts inX7_ hown hK hP 0 rfl rfl 7 (by decide) (hts (.fieldLink RX7 131 "GateWheelModel" "end" "I") (List.mem_of_getElem? (i := 1) rfl)) (fun _ h9 => h9) rfl dX7_next_149 ?_
              refine lv_iconst (v := 1) hx hb dX7_next_152 (by decide) ?_
              refine lv_iadd hx hb dX7_next_153 ?_
              refine va_put (D := (dC, dI)) (ci := 6) (v := .int ((gI s7_137 7) + (1 : Int32))) (ty := .int) (C := RX7) (T := TX7) (N := 49) hx hb hts inX7_ tyX7 tyX7_ok nmX7 hown hK hP hD hS 0 rfl rfl 7 (by decide) (hts (.fieldLink RX7 131 "GateWheelModel" "end" "I") (List.mem_of_getElem? (i := 1) rfl)) (fun _ h9 => h9) rfl (by decide +kernel) rfl rfl (Nat.le_of_ble_eq_true rfl) dX7_next_154 (fun H152 locs hP hD hS => ?_)
              obtain ⟨s7_153, es7_153, h⟩ := zL_spec h
              have hP : va_P (dC, dI) vwCl (cX7 a7 h7 y s7_153) H152 := by rw [es7_153]; exact hP
              have hD : va_D A (cX7 a7 h7 y s7_153) := by rw [es7_153]; exact hD
              refine lv_goto (tgt := 119) hx hb dX7_next_157 (by decide) ?_
              have h := zI_l h hx82
              exact (eG76 _ _ _ _ _).mp (ihlp78 s7_153 _ _ _ h hP hD hS (lv_sub hl [0] rfl))
            refine (eG147 _ _ _ _ _).mpr ?_
            have h := hr150
            refine lv_if_ne (tgt := 147) hx hb dX7_next_130 (by decide) (fun c154 => ?_) (fun c154 => ?_)
            · have h := zN c154 h
              exact (eG147 _ _ _ _ _).mp (jn148 _ _ _ (Option.some.inj h) hP hD hS (lv_sub hl [0] rfl))
            · have h := zY c154 h
              refine lv_aload_n hx hb dX7_next_133 rfl (lv_at hl 0 rfl) ?_
              refine lv_aload_n hx hb dX7_next_134 rfl (lv_at hl 0 rfl) ?_
              refine va_get (D := (dC, dI)) (ci := 6) (v := .int (gI s7_137 7)) (C := RX7) (T := TX7) (N := 49) hx hb hts inX7_ hown hK hP 0 rfl rfl 7 (by decide) (hts (.fieldLink RX7 131 "GateWheelModel" "end" "I") (List.mem_of_getElem? (i := 1) rfl)) (fun _ h9 => h9) rfl dX7_next_135 ?_
              obtain ⟨r155, hc156, h⟩ := zB_spec h
              have hFc := zFree hD hS hA
              refine va_calli (va_runV (As := [.int (gI s7_137 7)]) (rest := []) ⟨hx, hb, hml, hown, hts⟩ (m_X7_sign l dC dI y a7 h7 s7_137 (gI s7_137 7) H144.size r155 hc156) (cwV 1 hts gX7_next_X7_sign rfl rfl rfl (by decide +kernel) ⟨Nat.le_of_ble_eq_true rfl, Nat.le_of_ble_eq_true rfl⟩) ⟨fun a U g mk q => by obtain ⟨q0, q1, qP, qK, qD⟩ := q; exact ⟨q0, q1, qP, va_K.moved (u := U) (U := U.calling g mk a) (Vm.Alike.refl U.vm) qK, qD⟩, va_recv hK hP (ci := 6) (q0 := 0) rfl rfl, fun U hU hW => ⟨rfl, by rw [hU], by rw [hU]; exact hP, va_K.moved hW.alike hK, hD.weaken (fun _ _ _ _ => trivial)⟩⟩ rfl rfl hl.1 rfl (lv_room (Nat.le_of_ble_eq_true rfl)) dX7_next_138 ⟨Nat.le_of_ble_eq_true rfl, Nat.le_of_ble_eq_true rfl⟩) hS (fun q _ h => hFc q h) hFc (fun rr158 u t H157 locs ht hvm hw hB hz1 hk1 hS => ?_)
              obtain ⟨hP1, hK1, hD1⟩ := hB
              rw [ht] at hP1
              refine zTopi hw.symm ?_
              have hP := hP1
              have hD := hD1.weaken (fun _ q _ h => hFc q.1 h)
              have hP : va_P (dC, dI) vwCl (cX7 a7 h7 y s7_137) H157 := hP
              have hD : va_D A (cX7 a7 h7 y s7_137) := hD
              obtain ⟨r159, hc160, h⟩ := zB_spec h
              have hPc := hP.sub (ws' := []) [] rfl
              have hDc := hD.sub (ws' := []) [] (by decide) rfl
              have hFc := va_free (wc := []) hD hS hA [] rfl
              refine va_calli (va_runS (As := [.int r155]) (rest := []) ⟨hx, hb, hml, hown, hts⟩ (m_X7_isDigit l dC dI y r155 H157.size r159 hc160) (va_cwS 1 hts gX7_next_X7_isDigit rfl rfl rfl (by decide +kernel) ⟨Nat.le_of_ble_eq_true rfl, Nat.le_of_ble_eq_true rfl⟩) ⟨fun a U g mk q => by obtain ⟨q0, q1, qP, qK, qD⟩ := q; exact ⟨q0, q1, qP, va_K.moved (u := U) (U := U.calling g mk a) (Vm.Alike.refl U.vm) qK, qD⟩, fun U hU hW => ⟨rfl, by rw [hU], by rw [hU]; exact hPc, va_K.moved hW.alike hK, hDc.weaken (fun _ _ _ _ => trivial)⟩⟩ rfl rfl hl.1 rfl (lv_room (Nat.le_of_ble_eq_true rfl)) dX7_next_141 ⟨Nat.le_of_ble_eq_true rfl, Nat.le_of_ble_eq_true rfl⟩) hS (fun q _ h => hFc q h) hFc (fun rr162 u t H161 locs ht hvm hw hB hz1 hk1 hS => ?_)
              obtain ⟨hP1, hK1, hD1⟩ := hB
              rw [ht] at hP1
              refine zTopi hw.symm ?_
              obtain ⟨hP, hD⟩ := va_join (wr := [(oX7 a7 h7 s7_137), (h7 0, .inl (y 2, 2020, .inl (gA s7_137 0))), (h7 1, .inl (y 2, 2000, .inl (gA s7_137 1))), (h7 11, .inl (y 1, 120, .inr (.inl (gB s7_137 11)))), (h7 12, .inl (y 0, 120, .inl (gA s7_137 12))), (h7 13, .inl (y 0, 120, .inl (gA s7_137 13))), (h7 14, .inl (y 0, 120, .inl (gA s7_137 14))), (h7 15, .inl (y 0, 120, .inl (gA s7_137 15))), (h7 16, .inl (y 0, 1440, .inl (gA s7_137 16))), (h7 17, .inl (y 0, 120, .inl (gA s7_137 17))), (h7 18, .inl (y 0, 60, .inl (gA s7_137 18))), (h7 19, .inl (y 3, 720, .inl (gA s7_137 19))), (h7 20, .inl (y 1, 1000, .inr (.inl (gB s7_137 20)))), (h7 21, .inl (y 0, 1000, .inl (gA s7_137 21))), (h7 22, .inl (y 0, 1000, .inl (gA s7_137 22))), (h7 23, .inl (y 1, 200, .inr (.inl (gB s7_137 23)))), (h7 24, .inl (y 0, 200, .inl (gA s7_137 24))), (h7 25, .inl (y 3, 200, .inl (gA s7_137 25))), (h7 32, .inl (y 3, 60, .inl (gA s7_137 32))), (h7 33, .inl (y 0, 60, .inl (gA s7_137 33))), (h7 34, .inl (y 0, 60, .inl (gA s7_137 34))), (h7 35, .inl (y 0, 60, .inl (gA s7_137 35))), (h7 36, .inl (y 0, 60, .inl (gA s7_137 36))), (h7 37, .inl (y 0, 60, .inl (gA s7_137 37))), (h7 38, .inl (y 0, 60, .inl (gA s7_137 38))), (h7 40, .inl (y 0, 60, .inl (gA s7_137 40))), (h7 41, .inl (y 0, 60, .inl (gA s7_137 41))), (h7 42, .inl (y 0, 600, .inl (gA s7_137 42))), (h7 43, .inl (y 0, 1200, .inl (gA s7_137 43))), (h7 44, .inl (y 0, 60, .inl (gA s7_137 44))), (h7 45, .inl (y 3, 60, .inl (gA s7_137 45)))]) (w1 := []) hP hD [] [0, 1, 2, 3, 4, 5, 6, 7, 8, 9, 10, 11, 12, 13, 14, 15, 16, 17, 18, 19, 20, 21, 22, 23, 24, 25, 26, 27, 28, 29, 30] rfl rfl (by decide) (by decide) hk1 hFc hP1 hD1
              have hP : va_P (dC, dI) vwCl (cX7 a7 h7 y s7_137) H161 := hP.sub [0, 1, 2, 3, 4, 5, 6, 7, 8, 9, 10, 11, 12, 13, 14, 15, 16, 17, 18, 19, 20, 21, 22, 23, 24, 25, 26, 27, 28, 29, 30] rfl
              have hD : va_D A (cX7 a7 h7 y s7_137) := hD.sub [0, 1, 2, 3, 4, 5, 6, 7, 8, 9, 10, 11, 12, 13, 14, 15, 16, 17, 18, 19, 20, 21, 22, 23, 24, 25, 26, 27, 28, 29, 30] (by decide) rfl
              refine lv_if_eq (tgt := 160) hx hb dX7_next_144 (by decide) (fun c163 => ?_) (fun c163 => ?_)
              · have h := zY c163 h
                have h := zS_l (Option.some.inj h) hk151
                exact (eG76 _ _ _ _ _).mp (je77 s7_137 _ _ _ (zI_r h hx82) hP hD hS (lv_sub hl [0] rfl))
              · have h := zN c163 h
                exact (eG147 _ _ _ _ _).mp (jn148 _ _ _ (Option.some.inj h) hP hD hS (lv_sub hl [0] rfl))
        exact lp78 zF s7_18 _ _ _ hi80 hP hD hS (lv_sub hl [1] rfl)
    · have h := zN c19 h
      refine lv_aload_n hx hb dX7_next_88 rfl (lv_at hl 1 rfl) ?_
      refine lv_iconst (v := 0) hx hb dX7_next_89 (by decide) ?_
      refine va_put (D := (dC, dI)) (ci := 6) (v := .int 0) (ty := .int) (C := RX7) (T := TX7) (N := 49) hx hb hts inX7_ tyX7 tyX7_ok nmX7 hown hK hP hD hS 0 rfl rfl 8 (by decide) (hts (.fieldLink RX7 141 "GateWheelModel" "token" "I") (List.mem_of_getElem? (i := 4) rfl)) (fun _ h9 => h9) rfl (by decide +kernel) rfl rfl (Nat.le_of_ble_eq_true rfl) dX7_next_90 (fun H164 locs hP hD hS => ?_)
      obtain ⟨s7_165, es7_165, h⟩ := zL_spec h
      have hP : va_P (dC, dI) vwCl (cX7 a7 h7 y s7_165) H164 := by rw [es7_165]; exact hP
      have hD : va_D A (cX7 a7 h7 y s7_165) := by rw [es7_165]; exact hD
      refine lv_aload_n hx hb dX7_next_93 rfl (lv_at hl 1 rfl) ?_
      refine lv_aload_n hx hb dX7_next_94 rfl (lv_at hl 1 rfl) ?_
      refine va_get (D := (dC, dI)) (ci := 6) (v := .int (gI s7_165 3)) (C := RX7) (T := TX7) (N := 49) hx hb hts inX7_ hown hK hP 0 rfl rfl 3 (by decide) (hts (.fieldLink RX7 107 "GateWheelModel" "size" "I") (List.mem_of_getElem? (i := 3) rfl)) (fun _ h9 => h9) rfl dX7_next_95 ?_
      refine va_put (D := (dC, dI)) (ci := 6) (v := .int (gI s7_165 3)) (ty := .int) (C := RX7) (T := TX7) (N := 49) hx hb hts inX7_ tyX7 tyX7_ok nmX7 hown hK hP hD hS 0 rfl rfl 6 (by decide) (hts (.fieldLink RX7 134 "GateWheelModel" "at" "I") (List.mem_of_getElem? (i := 2) rfl)) (fun _ h9 => h9) rfl (by decide +kernel) rfl rfl (Nat.le_of_ble_eq_true rfl) dX7_next_98 (fun H166 locs hP hD hS => ?_)
      obtain ⟨s7_167, es7_167, h⟩ := zL_spec h
      have hP : va_P (dC, dI) vwCl (cX7 a7 h7 y s7_167) H166 := by rw [es7_167]; exact hP
      have hD : va_D A (cX7 a7 h7 y s7_167) := by rw [es7_167]; exact hD
      refine lv_aload_n hx hb dX7_next_101 rfl (lv_at hl 1 rfl) ?_
      refine lv_aload_n hx hb dX7_next_102 rfl (lv_at hl 1 rfl) ?_
      refine va_get (D := (dC, dI)) (ci := 6) (v := .int (gI s7_167 3)) (C := RX7) (T := TX7) (N := 49) hx hb hts inX7_ hown hK hP 0 rfl rfl 3 (by decide) (hts (.fieldLink RX7 107 "GateWheelModel" "size" "I") (List.mem_of_getElem? (i := 3) rfl)) (fun _ h9 => h9) rfl dX7_next_103 ?_
      refine va_put (D := (dC, dI)) (ci := 6) (v := .int (gI s7_167 3)) (ty := .int) (C := RX7) (T := TX7) (N := 49) hx hb hts inX7_ tyX7 tyX7_ok nmX7 hown hK hP hD hS 0 rfl rfl 7 (by decide) (hts (.fieldLink RX7 131 "GateWheelModel" "end" "I") (List.mem_of_getElem? (i := 1) rfl)) (fun _ h9 => h9) rfl (by decide +kernel) rfl rfl (Nat.le_of_ble_eq_true rfl) dX7_next_106 (fun H168 locs hP hD hS => ?_)
      obtain ⟨s7_169, es7_169, h⟩ := zL_spec h
      have hP : va_P (dC, dI) vwCl (cX7 a7 h7 y s7_169) H168 := by rw [es7_169]; exact hP
      have hD : va_D A (cX7 a7 h7 y s7_169) := by rw [es7_169]; exact hD
      refine lv_goto (tgt := 424) hx hb dX7_next_109 (by decide) ?_
      have ho0 : s7_169 = o_7 := congrArg (fun z : SS => z) (Option.some.inj h)
      exact W.vret hx hb hr (fun t ht hW => ⟨⟨(), rfl, trivial, by rw [ht]; rw [← ho0]; exact hP, va_K.moved hW.alike hK, by rw [← ho0]; exact hD⟩, hS.F ht⟩) hS.2.2 dX7_next_424
  have lp6 : ∀ (n : Nat) (s7_170 : SS) (HGW3 : Heap) (locs : List Loc) (ls : Array Slot), zI (b_X7_next_8) n s7_170 = some ov7 → va_P (dC, dI) vwCl (cX7 a7 h7 y s7_170) HGW3 → va_D A (cX7 a7 h7 y s7_170) → va_S A s.heap HGW3 locs → lv_has ls 3 [(0, .ref a7)] → GW3 HGW3 locs 0 0 (F0 m 8 ls []) := by
    intro n
    induction n with
    | zero =>
      intro s7_170 HGW3 locs ls hi8 hP hD hS hl
      exact (zI_0 hi8).elim
    | succ n ihlp6 =>
      intro s7_170 HGW3 locs ls hi8 hP hD hS hl
      refine (eG4 _ _ _ _ _).mpr ?_
      obtain ⟨xx11, h, hx10⟩ := zI_spec hi8
      refine lv_aload_n hx hb dX7_next_8 rfl (lv_at hl 0 rfl) ?_
      refine va_get (D := (dC, dI)) (ci := 6) (v := .int (gI s7_170 6)) (C := RX7) (T := TX7) (N := 49) hx hb hts inX7_ hown hK hP 0 rfl rfl 6 (by decide) (hts (.fieldLink RX7 134 "GateWheelModel" "at" "I") (List.mem_of_getElem? (i := 2) rfl)) (fun _ h9 => h9) rfl dX7_next_9 ?_
      refine lv_aload_n hx hb dX7_next_12 rfl (lv_at hl 0 rfl) ?_
      refine va_get (D := (dC, dI)) (ci := 6) (v := .int (gI s7_170 3)) (C := RX7) (T := TX7) (N := 49) hx hb hts inX7_ hown hK hP 0 rfl rfl 3 (by decide) (hts (.fieldLink RX7 107 "GateWheelModel" "size" "I") (List.mem_of_getElem? (i := 3) rfl)) (fun _ h9 => h9) rfl dX7_next_13 ?_
      refine lv_icmp_ge (tgt := 58) hx hb dX7_next_16 (by decide) (fun c171 => ?_) (fun c171 => ?_)
      · have h := zY c171 h
        exact (eG4 _ _ _ _ _).mp (je5 s7_170 _ _ _ (zI_r h hx10) hP hD hS (lv_sub hl [0] rfl))
      · have h := zN c171 h
        refine lv_aload_n hx hb dX7_next_19 rfl (lv_at hl 0 rfl) ?_
        refine lv_aload_n hx hb dX7_next_20 rfl (lv_at hl 0 rfl) ?_
        refine va_get (D := (dC, dI)) (ci := 6) (v := .int (gI s7_170 6)) (C := RX7) (T := TX7) (N := 49) hx hb hts inX7_ hown hK hP 0 rfl rfl 6 (by decide) (hts (.fieldLink RX7 134 "GateWheelModel" "at" "I") (List.mem_of_getElem? (i := 2) rfl)) (fun _ h9 => h9) rfl dX7_next_21 ?_
        obtain ⟨r172, hc173, h⟩ := zB_spec h
        have hFc := zFree hD hS hA
        refine va_calli (va_runV (As := [.int (gI s7_170 6)]) (rest := []) ⟨hx, hb, hml, hown, hts⟩ (m_X7_sign l dC dI y a7 h7 s7_170 (gI s7_170 6) HGW3.size r172 hc173) (cwV 1 hts gX7_next_X7_sign rfl rfl rfl (by decide +kernel) ⟨Nat.le_of_ble_eq_true rfl, Nat.le_of_ble_eq_true rfl⟩) ⟨fun a U g mk q => by obtain ⟨q0, q1, qP, qK, qD⟩ := q; exact ⟨q0, q1, qP, va_K.moved (u := U) (U := U.calling g mk a) (Vm.Alike.refl U.vm) qK, qD⟩, va_recv hK hP (ci := 6) (q0 := 0) rfl rfl, fun U hU hW => ⟨rfl, by rw [hU], by rw [hU]; exact hP, va_K.moved hW.alike hK, hD.weaken (fun _ _ _ _ => trivial)⟩⟩ rfl rfl hl.1 rfl (lv_room (Nat.le_of_ble_eq_true rfl)) dX7_next_24 ⟨Nat.le_of_ble_eq_true rfl, Nat.le_of_ble_eq_true rfl⟩) hS (fun q _ h => hFc q h) hFc (fun rr175 u t H174 locs ht hvm hw hB hz1 hk1 hS => ?_)
        obtain ⟨hP1, hK1, hD1⟩ := hB
        rw [ht] at hP1
        refine zTopi hw.symm ?_
        have hP := hP1
        have hD := hD1.weaken (fun _ q _ h => hFc q.1 h)
        have hP : va_P (dC, dI) vwCl (cX7 a7 h7 y s7_170) H174 := hP
        have hD : va_D A (cX7 a7 h7 y s7_170) := hD
        refine lv_bipush (v := 32) hx hb dX7_next_27 (by decide) ?_
        refine W_abs (fun GW176 eG177 => ?_)
        obtain ⟨ov179, hr180, hk181⟩ := zS_spec h
        have jn178 : ∀ (HGW176 : Heap) (locs : List Loc) (ls : Array Slot), Sum.inr () = ov179 → va_P (dC, dI) vwCl (cX7 a7 h7 y s7_170) HGW176 → va_D A (cX7 a7 h7 y s7_170) → va_S A s.heap HGW176 locs → lv_has ls 3 [(0, .ref a7)] → GW176 HGW176 locs 0 0 (F0 m 45 ls []) := by
          intro HGW176 locs ls hv hP hD hS hl
          subst hv
          have h := zS_r hk181
          refine (eG177 _ _ _ _ _).mpr ?_
          refine lv_aload_n hx hb dX7_next_45 rfl (lv_at hl 0 rfl) ?_
          refine lv_dup hx hb dX7_next_46 rfl ?_
          refine va_get (D := (dC, dI)) (ci := 6) (v := .int (gI s7_170 6)) (C := RX7) (T := TX7) (N := 49) hx hb hts inX7_ hown hK hP 0 rfl rfl 6 (by decide) (hts (.fieldLink RX7 134 "GateWheelModel" "at" "I") (List.mem_of_getElem? (i := 2) rfl)) (fun _ h9 => h9) rfl dX7_next_47 ?_
          refine lv_iconst (v := 1) hx hb dX7_next_50 (by decide) ?_
          refine lv_iadd hx hb dX7_next_51 ?_
          refine va_put (D := (dC, dI)) (ci := 6) (v := .int ((gI s7_170 6) + (1 : Int32))) (ty := .int) (C := RX7) (T := TX7) (N := 49) hx hb hts inX7_ tyX7 tyX7_ok nmX7 hown hK hP hD hS 0 rfl rfl 6 (by decide) (hts (.fieldLink RX7 134 "GateWheelModel" "at" "I") (List.mem_of_getElem? (i := 2) rfl)) (fun _ h9 => h9) rfl (by decide +kernel) rfl rfl (Nat.le_of_ble_eq_true rfl) dX7_next_52 (fun H182 locs hP hD hS => ?_)
          obtain ⟨s7_183, es7_183, h⟩ := zL_spec h
          have hP : va_P (dC, dI) vwCl (cX7 a7 h7 y s7_183) H182 := by rw [es7_183]; exact hP
          have hD : va_D A (cX7 a7 h7 y s7_183) := by rw [es7_183]; exact hD
          refine lv_goto (tgt := 8) hx hb dX7_next_55 (by decide) ?_
          have h := zI_l h hx10
          exact (eG4 _ _ _ _ _).mp (ihlp6 s7_183 _ _ _ h hP hD hS (lv_sub hl [0] rfl))
        refine (eG177 _ _ _ _ _).mpr ?_
        have h := hr180
        refine lv_icmp_eq (tgt := 45) hx hb dX7_next_29 (by decide) (fun c184 => ?_) (fun c184 => ?_)
        · have h := zY c184 h
          exact (eG177 _ _ _ _ _).mp (jn178 _ _ _ (Option.some.inj h) hP hD hS (lv_sub hl [0] rfl))
        · have h := zN c184 h
          refine lv_aload_n hx hb dX7_next_32 rfl (lv_at hl 0 rfl) ?_
          refine lv_aload_n hx hb dX7_next_33 rfl (lv_at hl 0 rfl) ?_
          refine va_get (D := (dC, dI)) (ci := 6) (v := .int (gI s7_170 6)) (C := RX7) (T := TX7) (N := 49) hx hb hts inX7_ hown hK hP 0 rfl rfl 6 (by decide) (hts (.fieldLink RX7 134 "GateWheelModel" "at" "I") (List.mem_of_getElem? (i := 2) rfl)) (fun _ h9 => h9) rfl dX7_next_34 ?_
          obtain ⟨r185, hc186, h⟩ := zB_spec h
          have hFc := zFree hD hS hA
          refine va_calli (va_runV (As := [.int (gI s7_170 6)]) (rest := []) ⟨hx, hb, hml, hown, hts⟩ (m_X7_sign l dC dI y a7 h7 s7_170 (gI s7_170 6) H174.size r185 hc186) (cwV 1 hts gX7_next_X7_sign rfl rfl rfl (by decide +kernel) ⟨Nat.le_of_ble_eq_true rfl, Nat.le_of_ble_eq_true rfl⟩) ⟨fun a U g mk q => by obtain ⟨q0, q1, qP, qK, qD⟩ := q; exact ⟨q0, q1, qP, va_K.moved (u := U) (U := U.calling g mk a) (Vm.Alike.refl U.vm) qK, qD⟩, va_recv hK hP (ci := 6) (q0 := 0) rfl rfl, fun U hU hW => ⟨rfl, by rw [hU], by rw [hU]; exact hP, va_K.moved hW.alike hK, hD.weaken (fun _ _ _ _ => trivial)⟩⟩ rfl rfl hl.1 rfl (lv_room (Nat.le_of_ble_eq_true rfl)) dX7_next_37 ⟨Nat.le_of_ble_eq_true rfl, Nat.le_of_ble_eq_true rfl⟩) hS (fun q _ h => hFc q h) hFc (fun rr188 u t H187 locs ht hvm hw hB hz1 hk1 hS => ?_)
          obtain ⟨hP1, hK1, hD1⟩ := hB
          rw [ht] at hP1
          refine zTopi hw.symm ?_
          have hP := hP1
          have hD := hD1.weaken (fun _ q _ h => hFc q.1 h)
          have hP : va_P (dC, dI) vwCl (cX7 a7 h7 y s7_170) H187 := hP
          have hD : va_D A (cX7 a7 h7 y s7_170) := hD
          refine lv_bipush (v := 10) hx hb dX7_next_40 (by decide) ?_
          refine lv_icmp_ne (tgt := 58) hx hb dX7_next_42 (by decide) (fun c189 => ?_) (fun c189 => ?_)
          · have h := zN c189 h
            have h := zS_l (Option.some.inj h) hk181
            exact (eG4 _ _ _ _ _).mp (je5 s7_170 _ _ _ (zI_r h hx10) hP hD hS (lv_sub hl [0] rfl))
          · have h := zY c189 h
            exact (eG177 _ _ _ _ _).mp (jn178 _ _ _ (Option.some.inj h) hP hD hS (lv_sub hl [0] rfl))
  exact lp6 zF s7_2 _ _ _ hi8 hP hD hS (lv_sub hl [0] rfl)

set_option maxHeartbeats 4000000 in
set_option maxRecDepth 100000 in
theorem m_X7_is (l : Launch) (dC : Nat → ClassId) (dI : Nat → Nat → Nat) (y : Nat → ClassId) (a7 : Nat) (h7 : Nat → Nat) (S7 : SS) (p1 : Int32) (sz : Nat) (or_ : Int32) (h : f_X7_is S7 p1 = some or_) : Met l yX7_is wsX7_is ({ frames := 1, cells := 0, slots := 0, locals := 21 }) (va_Pc [.ref a7, .int p1] (fun U => U.heap.size = sz ∧ va_P (dC, dI) vwCl (cX7 a7 h7 y S7) U.heap ∧ va_K (dC, dI) vwCl [(y 0, .int), (y 1, .long), (y 2, .byte), (y 3, .boolean)] U ∧ va_D (fun _ => True) (cX7 a7 h7 y S7))) (va_Qi (fun (r : Int32) (_ : Unit) => r = or_) (fun (_ : Unit) (t : State) => va_P (dC, dI) vwCl (cX7 a7 h7 y S7) t.heap ∧ va_K (dC, dI) vwCl [(y 0, .int), (y 1, .long), (y 2, .byte), (y 3, .boolean)] t ∧ va_D (va_A (cX7 a7 h7 y S7) sz) (cX7 a7 h7 y S7)) (va_A (cX7 a7 h7 y S7) sz)) 0 0 (va_A (cX7 a7 h7 y S7) sz) := by
  refine Met.ofW (cc := cX7_is) (maxL := 2) (ret := (some .boolean)) (by decide +kernel) rfl ?_
  intro p e s m args below meth c s₁ B hml hv
  obtain ⟨rfl, hsz, hP, hK, hD0⟩ := hv
  have hx := B.exec
  have hb := B.bytes
  have hr := B.returns
  have hts := atoms_spec (ws := wsX7_is) B.pre
  have hown : s.vm.findClass RX7 = some m.cls := findClass_of_methodNamed B.named
  have hlocks := B.notSynchronized
  have inX7_ : ∀ w ∈ wsX70, w ∈ wsX7_is := fun _ h => List.mem_cons_of_mem _ (List.mem_append_right _ h)
  subst hsz
  have hD := hD0.self (sz := s.heap.size)
  generalize hAe : va_A (cX7 a7 h7 y S7) s.heap.size = A at hD ⊢
  have hA : ∀ q : Nat, s.heap.size ≤ q → A q := fun q h => by rw [← hAe]; exact Or.inr h
  have hS : va_S A s.heap s.heap [] := va_S.rf
  have hP : va_P (dC, dI) vwCl (cX7 a7 h7 y S7) s.heap := hP
  have hl := lv_entry ([.ref a7, .int p1]) (n := 2) (Nat.le_of_ble_eq_true rfl)
  rw [lg_entry_eq]
  generalize (lg_sl ([.ref a7, .int p1]) ++ List.replicate (2 - (lg_sl ([.ref a7, .int p1])).length) Slot.unset).toArray = ls at hl ⊢
  have hl : lv_has ls 2 [(0, .ref a7), (1, .int p1)] := hl
  refine lv_aload_n hx hb dX7_is_0 rfl (lv_at hl 0 rfl) ?_
  refine va_get (D := (dC, dI)) (ci := 6) (v := .int (gI S7 8)) (C := RX7) (T := TX7) (N := 49) hx hb hts inX7_ hown hK hP 0 rfl rfl 8 (by decide) (hts (.fieldLink RX7 141 "GateWheelModel" "token" "I") (List.mem_of_getElem? (i := 1) rfl)) (fun _ h9 => h9) rfl dX7_is_1 ?_
  refine lv_iconst (v := 5) hx hb dX7_is_4 (by decide) ?_
  refine lv_icmp_ne (tgt := 24) hx hb dX7_is_5 (by decide) (fun c1 => ?_) (fun c1 => ?_)
  · have h := zN c1 h
    refine lv_iconst (v := 0) hx hb dX7_is_24 (by decide) ?_
    have ho0 : (0 : Int32) = or_ := congrArg (fun z : Int32 => z) (Option.some.inj h)
    exact W.zret (v := 0) hx hb hr (by decide) (fun t ht hW => ⟨⟨0, (), rfl, ho0, by rw [ht]; exact hP, va_K.moved hW.alike hK, hD⟩, hS.F ht⟩) hS.2.2 dX7_is_25
  · have h := zY c1 h
    refine lv_aload_n hx hb dX7_is_8 rfl (lv_at hl 0 rfl) ?_
    refine lv_aload_n hx hb dX7_is_9 rfl (lv_at hl 0 rfl) ?_
    refine va_get (D := (dC, dI)) (ci := 6) (v := .int (gI S7 6)) (C := RX7) (T := TX7) (N := 49) hx hb hts inX7_ hown hK hP 0 rfl rfl 6 (by decide) (hts (.fieldLink RX7 134 "GateWheelModel" "at" "I") (List.mem_of_getElem? (i := 2) rfl)) (fun _ h9 => h9) rfl dX7_is_10 ?_
    obtain ⟨r2, hc3, h⟩ := zB_spec h
    have hFc := zFree hD hS hA
    refine va_calli (va_runV (As := [.int (gI S7 6)]) (rest := []) ⟨hx, hb, hml, hown, hts⟩ (m_X7_sign l dC dI y a7 h7 S7 (gI S7 6) s.heap.size r2 hc3) (cwV 1 hts gX7_is_X7_sign rfl rfl rfl (by decide +kernel) ⟨Nat.le_of_ble_eq_true rfl, Nat.le_of_ble_eq_true rfl⟩) ⟨fun a U g mk q => by obtain ⟨q0, q1, qP, qK, qD⟩ := q; exact ⟨q0, q1, qP, va_K.moved (u := U) (U := U.calling g mk a) (Vm.Alike.refl U.vm) qK, qD⟩, va_recv hK hP (ci := 6) (q0 := 0) rfl rfl, fun U hU hW => ⟨rfl, by rw [hU], by rw [hU]; exact hP, va_K.moved hW.alike hK, hD.weaken (fun _ _ _ _ => trivial)⟩⟩ rfl rfl hl.1 rfl (lv_room (Nat.le_of_ble_eq_true rfl)) dX7_is_13 ⟨Nat.le_of_ble_eq_true rfl, Nat.le_of_ble_eq_true rfl⟩) hS (fun q _ h => hFc q h) hFc (fun rr5 u t H4 locs ht hvm hw hB hz1 hk1 hS => ?_)
    obtain ⟨hP1, hK1, hD1⟩ := hB
    rw [ht] at hP1
    refine zTopi hw.symm ?_
    have hP := hP1
    have hD := hD1.weaken (fun _ q _ h => hFc q.1 h)
    have hP : va_P (dC, dI) vwCl (cX7 a7 h7 y S7) H4 := hP
    have hD : va_D A (cX7 a7 h7 y S7) := hD
    refine lv_iload_n hx hb dX7_is_16 rfl (lv_at hl 1 rfl) ?_
    refine lv_icmp_ne (tgt := 24) hx hb dX7_is_17 (by decide) (fun c6 => ?_) (fun c6 => ?_)
    · have h := zN c6 h
      refine lv_iconst (v := 0) hx hb dX7_is_24 (by decide) ?_
      have ho0 : (0 : Int32) = or_ := congrArg (fun z : Int32 => z) (Option.some.inj h)
      exact W.zret (v := 0) hx hb hr (by decide) (fun t ht hW => ⟨⟨0, (), rfl, ho0, by rw [ht]; exact hP, va_K.moved hW.alike hK, hD⟩, hS.F ht⟩) hS.2.2 dX7_is_25
    · have h := zY c6 h
      refine lv_iconst (v := 1) hx hb dX7_is_20 (by decide) ?_
      refine lv_goto (tgt := 25) hx hb dX7_is_21 (by decide) ?_
      have ho0 : (1 : Int32) = or_ := congrArg (fun z : Int32 => z) (Option.some.inj h)
      exact W.zret (v := 1) hx hb hr (by decide) (fun t ht hW => ⟨⟨1, (), rfl, ho0, by rw [ht]; exact hP, va_K.moved hW.alike hK, hD⟩, hS.F ht⟩) hS.2.2 dX7_is_25

set_option maxHeartbeats 4000000 in
set_option maxRecDepth 100000 in
theorem m_X7_isWord (l : Launch) (dC : Nat → ClassId) (dI : Nat → Nat → Nat) (y : Nat → ClassId) (a7 : Nat) (h7 : Nat → Nat) (S7 : SS) (p1 : Int64) (sz : Nat) (or_ : Int32) (h : f_X7_isWord S7 p1 = some or_) : Met l yX7_isWord wsX7_isWord ({ frames := 0, cells := 0, slots := 0, locals := 0 }) (va_Pc [.ref a7, .long p1] (fun U => U.heap.size = sz ∧ va_P (dC, dI) vwCl (cX7 a7 h7 y S7) U.heap ∧ va_K (dC, dI) vwCl [(y 0, .int), (y 1, .long), (y 2, .byte), (y 3, .boolean)] U ∧ va_D (fun _ => True) (cX7 a7 h7 y S7))) (va_Qi (fun (r : Int32) (_ : Unit) => r = or_) (fun (_ : Unit) (t : State) => va_P (dC, dI) vwCl (cX7 a7 h7 y S7) t.heap ∧ va_K (dC, dI) vwCl [(y 0, .int), (y 1, .long), (y 2, .byte), (y 3, .boolean)] t ∧ va_D (va_A (cX7 a7 h7 y S7) sz) (cX7 a7 h7 y S7)) (va_A (cX7 a7 h7 y S7) sz)) 0 0 (va_A (cX7 a7 h7 y S7) sz) := by
  refine Met.ofW (cc := cX7_isWord) (maxL := 3) (ret := (some .boolean)) (by decide +kernel) rfl ?_
  intro p e s m args below meth c s₁ B hml hv
  obtain ⟨rfl, hsz, hP, hK, hD0⟩ := hv
  have hx := B.exec
  have hb := B.bytes
  have hr := B.returns
  have hts := atoms_spec (ws := wsX7_isWord) B.pre
  have hown : s.vm.findClass RX7 = some m.cls := findClass_of_methodNamed B.named
  have hlocks := B.notSynchronized
  have inX7_ : ∀ w ∈ wsX70, w ∈ wsX7_isWord := fun _ h => List.mem_cons_of_mem _ (List.mem_append_right _ h)
  subst hsz
  have hD := hD0.self (sz := s.heap.size)
  generalize hAe : va_A (cX7 a7 h7 y S7) s.heap.size = A at hD ⊢
  have hA : ∀ q : Nat, s.heap.size ≤ q → A q := fun q h => by rw [← hAe]; exact Or.inr h
  have hS : va_S A s.heap s.heap [] := va_S.rf
  have hP : va_P (dC, dI) vwCl (cX7 a7 h7 y S7) s.heap := hP
  have hl := lv_entry ([.ref a7, .long p1]) (n := 3) (Nat.le_of_ble_eq_true rfl)
  rw [lg_entry_eq]
  generalize (lg_sl ([.ref a7, .long p1]) ++ List.replicate (3 - (lg_sl ([.ref a7, .long p1])).length) Slot.unset).toArray = ls at hl ⊢
  have hl : lv_has ls 3 [(0, .ref a7), (1, .long p1)] := hl
  refine lv_aload_n hx hb dX7_isWord_0 rfl (lv_at hl 0 rfl) ?_
  refine va_get (D := (dC, dI)) (ci := 6) (v := .int (gI S7 8)) (C := RX7) (T := TX7) (N := 49) hx hb hts inX7_ hown hK hP 0 rfl rfl 8 (by decide) (hts (.fieldLink RX7 141 "GateWheelModel" "token" "I") (List.mem_of_getElem? (i := 1) rfl)) (fun _ h9 => h9) rfl dX7_isWord_1 ?_
  refine lv_iconst (v := 3) hx hb dX7_isWord_4 (by decide) ?_
  refine lv_icmp_ne (tgt := 21) hx hb dX7_isWord_5 (by decide) (fun c1 => ?_) (fun c1 => ?_)
  · have h := zN c1 h
    refine lv_iconst (v := 0) hx hb dX7_isWord_21 (by decide) ?_
    have ho0 : (0 : Int32) = or_ := congrArg (fun z : Int32 => z) (Option.some.inj h)
    exact W.zret (v := 0) hx hb hr (by decide) (fun t ht hW => ⟨⟨0, (), rfl, ho0, by rw [ht]; exact hP, va_K.moved hW.alike hK, hD⟩, hS.F ht⟩) hS.2.2 dX7_isWord_22
  · have h := zY c1 h
    refine lv_aload_n hx hb dX7_isWord_8 rfl (lv_at hl 0 rfl) ?_
    refine va_get (D := (dC, dI)) (ci := 6) (v := .long (gL S7 10)) (C := RX7) (T := TX7) (N := 49) hx hb hts inX7_ hown hK hP 0 rfl rfl 10 (by decide) (hts (.fieldLink RX7 151 "GateWheelModel" "name" "J") (List.mem_of_getElem? (i := 2) rfl)) (fun _ h9 => h9) rfl dX7_isWord_9 ?_
    refine lv_lload_n hx hb dX7_isWord_12 rfl (lv_at hl 1 rfl) ?_
    refine W.lcmp hx hb dX7_isWord_13 ?_
    refine lv_if_ne (tgt := 21) hx hb dX7_isWord_14 (by decide) (fun c2 => ?_) (fun c2 => ?_)
    · have h := zN c2 h
      refine lv_iconst (v := 0) hx hb dX7_isWord_21 (by decide) ?_
      have ho0 : (0 : Int32) = or_ := congrArg (fun z : Int32 => z) (Option.some.inj h)
      exact W.zret (v := 0) hx hb hr (by decide) (fun t ht hW => ⟨⟨0, (), rfl, ho0, by rw [ht]; exact hP, va_K.moved hW.alike hK, hD⟩, hS.F ht⟩) hS.2.2 dX7_isWord_22
    · have h := zY c2 h
      refine lv_iconst (v := 1) hx hb dX7_isWord_17 (by decide) ?_
      refine lv_goto (tgt := 22) hx hb dX7_isWord_18 (by decide) ?_
      have ho0 : (1 : Int32) = or_ := congrArg (fun z : Int32 => z) (Option.some.inj h)
      exact W.zret (v := 1) hx hb hr (by decide) (fun t ht hW => ⟨⟨1, (), rfl, ho0, by rw [ht]; exact hP, va_K.moved hW.alike hK, hD⟩, hS.F ht⟩) hS.2.2 dX7_isWord_22

set_option maxHeartbeats 4000000 in
set_option maxRecDepth 100000 in
theorem m_X7_wrong (l : Launch) (dC : Nat → ClassId) (dI : Nat → Nat → Nat) (y : Nat → ClassId) (a7 : Nat) (h7 : Nat → Nat) (S7 : SS) (sz : Nat) (o_7 : SS) (h : f_X7_wrong S7 = some o_7) : Met l yX7_wrong wsX7_wrong ({ frames := 1, cells := 0, slots := 0, locals := 22 }) (va_Pc [.ref a7] (fun U => U.heap.size = sz ∧ va_P (dC, dI) vwCl (cX7 a7 h7 y S7) U.heap ∧ va_K (dC, dI) vwCl [(y 0, .int), (y 1, .long), (y 2, .byte), (y 3, .boolean)] U ∧ va_D (fun _ => True) (cX7 a7 h7 y S7))) (va_Qv (fun (_ : Unit) => True) (fun (_ : Unit) (t : State) => va_P (dC, dI) vwCl (cX7 a7 h7 y o_7) t.heap ∧ va_K (dC, dI) vwCl [(y 0, .int), (y 1, .long), (y 2, .byte), (y 3, .boolean)] t ∧ va_D (va_A (cX7 a7 h7 y S7) sz) (cX7 a7 h7 y o_7)) (va_A (cX7 a7 h7 y S7) sz)) 0 0 (va_A (cX7 a7 h7 y S7) sz) := by
  refine Met.ofW (cc := cX7_wrong) (maxL := 1) (ret := none) (by decide +kernel) rfl ?_
  intro p e s m args below meth c s₁ B hml hv
  obtain ⟨rfl, hsz, hP, hK, hD0⟩ := hv
  have hx := B.exec
  have hb := B.bytes
  have hr := B.returns
  have hts := atoms_spec (ws := wsX7_wrong) B.pre
  have hown : s.vm.findClass RX7 = some m.cls := findClass_of_methodNamed B.named
  have hlocks := B.notSynchronized
  have inX7_ : ∀ w ∈ wsX70, w ∈ wsX7_wrong := fun _ h => List.mem_cons_of_mem _ (List.mem_append_right _ h)
  subst hsz
  have hD := hD0.self (sz := s.heap.size)
  generalize hAe : va_A (cX7 a7 h7 y S7) s.heap.size = A at hD ⊢
  have hA : ∀ q : Nat, s.heap.size ≤ q → A q := fun q h => by rw [← hAe]; exact Or.inr h
  have hS : va_S A s.heap s.heap [] := va_S.rf
  have hP : va_P (dC, dI) vwCl (cX7 a7 h7 y S7) s.heap := hP
  have hl := lv_entry ([.ref a7]) (n := 1) (Nat.le_of_ble_eq_true rfl)
  rw [lg_entry_eq]
  generalize (lg_sl ([.ref a7]) ++ List.replicate (1 - (lg_sl ([.ref a7])).length) Slot.unset).toArray = ls at hl ⊢
  have hl : lv_has ls 1 [(0, .ref a7)] := hl
  refine lv_aload_n hx hb dX7_wrong_0 rfl (lv_at hl 0 rfl) ?_
  refine lv_aload_n hx hb dX7_wrong_1 rfl (lv_at hl 0 rfl) ?_
  refine va_get (D := (dC, dI)) (ci := 6) (v := .int (gI S7 8)) (C := RX7) (T := TX7) (N := 49) hx hb hts inX7_ hown hK hP 0 rfl rfl 8 (by decide) (hts (.fieldLink RX7 141 "GateWheelModel" "token" "I") (List.mem_of_getElem? (i := 1) rfl)) (fun _ h9 => h9) rfl dX7_wrong_2 ?_
  refine lv_iconst (v := 1) hx hb dX7_wrong_5 (by decide) ?_
  refine W_abs (fun GW1 eG2 => ?_)
  obtain ⟨ov4, hr5, h⟩ := zB_spec h
  have jn3 : ∀ (v7 : Int32) (HGW1 : Heap) (locs : List Loc) (ls : Array Slot), v7 = ov4 → va_P (dC, dI) vwCl (cX7 a7 h7 y S7) HGW1 → va_D A (cX7 a7 h7 y S7) → va_S A s.heap HGW1 locs → lv_has ls 1 [(0, .ref a7)] → GW1 HGW1 locs 0 0 (F0 m 14 ls [.int v7, .ref a7]) := by
    intro v7 HGW1 locs ls hv hP hD hS hl
    subst hv
    refine (eG2 _ _ _ _ _).mpr ?_
    refine lv_aload_n hx hb dX7_wrong_14 rfl (lv_at hl 0 rfl) ?_
    refine va_get (D := (dC, dI)) (ci := 6) (v := .int (gI S7 6)) (C := RX7) (T := TX7) (N := 49) hx hb hts inX7_ hown hK hP 0 rfl rfl 6 (by decide) (hts (.fieldLink RX7 134 "GateWheelModel" "at" "I") (List.mem_of_getElem? (i := 2) rfl)) (fun _ h9 => h9) rfl dX7_wrong_15 ?_
    obtain ⟨s7_8, hc9, h⟩ := zB_spec h
    have hFc := zFree hD hS hA
    refine va_callv (va_runV (As := [.int v7, .int (gI S7 6)]) (rest := []) ⟨hx, hb, hml, hown, hts⟩ (m_X7_fails l dC dI y a7 h7 S7 v7 (gI S7 6) HGW1.size s7_8 hc9) (cwV 2 hts gX7_wrong_X7_fails rfl rfl rfl (by decide +kernel) ⟨Nat.le_of_ble_eq_true rfl, Nat.le_of_ble_eq_true rfl⟩) ⟨fun a U g mk q => by obtain ⟨q0, q1, qP, qK, qD⟩ := q; exact ⟨q0, q1, qP, va_K.moved (u := U) (U := U.calling g mk a) (Vm.Alike.refl U.vm) qK, qD⟩, va_recv hK hP (ci := 6) (q0 := 0) rfl rfl, fun U hU hW => ⟨rfl, by rw [hU], by rw [hU]; exact hP, va_K.moved hW.alike hK, hD.weaken (fun _ _ _ _ => trivial)⟩⟩ rfl rfl hl.1 rfl (lv_room (Nat.le_of_ble_eq_true rfl)) dX7_wrong_18 ⟨Nat.le_of_ble_eq_true rfl, Nat.le_of_ble_eq_true rfl⟩) hS (fun q _ h => hFc q h) hFc (fun u t H10 locs ht hvm hw hB hz1 hk1 hS => ?_)
    obtain ⟨hP1, hK1, hD1⟩ := hB
    rw [ht] at hP1
    have hP := hP1
    have hD := hD1.weaken (fun _ q _ h => hFc q.1 h)
    have hP : va_P (dC, dI) vwCl (cX7 a7 h7 y s7_8) H10 := hP
    have hD : va_D A (cX7 a7 h7 y s7_8) := hD
    have ho0 : s7_8 = o_7 := congrArg (fun z : SS => z) (Option.some.inj h)
    exact W.vret hx hb hr (fun t ht hW => ⟨⟨(), rfl, trivial, by rw [ht]; rw [← ho0]; exact hP, va_K.moved hW.alike hK, by rw [← ho0]; exact hD⟩, hS.F ht⟩) hS.2.2 dX7_wrong_21
  refine (eG2 _ _ _ _ _).mpr ?_
  have h := hr5
  refine lv_icmp_ne (tgt := 13) hx hb dX7_wrong_6 (by decide) (fun c12 => ?_) (fun c12 => ?_)
  · have h := zN c12 h
    refine lv_iconst (v := 2) hx hb dX7_wrong_13 (by decide) ?_
    exact (eG2 _ _ _ _ _).mp (jn3 (2 : Int32) _ _ _ (Option.some.inj h) hP hD hS (lv_sub hl [0] rfl))
  · have h := zY c12 h
    refine lv_iconst (v := 1) hx hb dX7_wrong_9 (by decide) ?_
    refine lv_goto (tgt := 14) hx hb dX7_wrong_10 (by decide) ?_
    exact (eG2 _ _ _ _ _).mp (jn3 (1 : Int32) _ _ _ (Option.some.inj h) hP hD hS (lv_sub hl [0] rfl))

set_option maxHeartbeats 4000000 in
set_option maxRecDepth 100000 in
theorem m_X7_must (l : Launch) (dC : Nat → ClassId) (dI : Nat → Nat → Nat) (y : Nat → ClassId) (a7 : Nat) (h7 : Nat → Nat) (S7 : SS) (p1 : Int32) (sz : Nat) (o_7 : SS) (h : f_X7_must S7 p1 = some o_7) : Met l yX7_must wsX7_must ({ frames := 2, cells := 0, slots := 0, locals := 43 }) (va_Pc [.ref a7, .int p1] (fun U => U.heap.size = sz ∧ va_P (dC, dI) vwCl (cX7 a7 h7 y S7) U.heap ∧ va_K (dC, dI) vwCl [(y 0, .int), (y 1, .long), (y 2, .byte), (y 3, .boolean)] U ∧ va_D (fun _ => True) (cX7 a7 h7 y S7))) (va_Qv (fun (_ : Unit) => True) (fun (_ : Unit) (t : State) => va_P (dC, dI) vwCl (cX7 a7 h7 y o_7) t.heap ∧ va_K (dC, dI) vwCl [(y 0, .int), (y 1, .long), (y 2, .byte), (y 3, .boolean)] t ∧ va_D (va_A (cX7 a7 h7 y S7) sz) (cX7 a7 h7 y o_7)) (va_A (cX7 a7 h7 y S7) sz)) 0 0 (va_A (cX7 a7 h7 y S7) sz) := by
  refine Met.ofW (cc := cX7_must) (maxL := 2) (ret := none) (by decide +kernel) rfl ?_
  intro p e s m args below meth c s₁ B hml hv
  obtain ⟨rfl, hsz, hP, hK, hD0⟩ := hv
  have hx := B.exec
  have hb := B.bytes
  have hr := B.returns
  have hts := atoms_spec (ws := wsX7_must) B.pre
  have hown : s.vm.findClass RX7 = some m.cls := findClass_of_methodNamed B.named
  have hlocks := B.notSynchronized
  subst hsz
  have hD := hD0.self (sz := s.heap.size)
  generalize hAe : va_A (cX7 a7 h7 y S7) s.heap.size = A at hD ⊢
  have hA : ∀ q : Nat, s.heap.size ≤ q → A q := fun q h => by rw [← hAe]; exact Or.inr h
  have hS : va_S A s.heap s.heap [] := va_S.rf
  have hP : va_P (dC, dI) vwCl (cX7 a7 h7 y S7) s.heap := hP
  have hl := lv_entry ([.ref a7, .int p1]) (n := 2) (Nat.le_of_ble_eq_true rfl)
  rw [lg_entry_eq]
  generalize (lg_sl ([.ref a7, .int p1]) ++ List.replicate (2 - (lg_sl ([.ref a7, .int p1])).length) Slot.unset).toArray = ls at hl ⊢
  have hl : lv_has ls 2 [(0, .ref a7), (1, .int p1)] := hl
  refine lv_aload_n hx hb dX7_must_0 rfl (lv_at hl 0 rfl) ?_
  refine lv_iload_n hx hb dX7_must_1 rfl (lv_at hl 1 rfl) ?_
  obtain ⟨r1, hc2, h⟩ := zB_spec h
  have hFc := zFree hD hS hA
  refine va_calli (va_runV (As := [.int p1]) (rest := []) ⟨hx, hb, hml, hown, hts⟩ (m_X7_is l dC dI y a7 h7 S7 p1 s.heap.size r1 hc2) (cwV 1 hts gX7_must_X7_is rfl rfl rfl (by decide +kernel) ⟨Nat.le_of_ble_eq_true rfl, Nat.le_of_ble_eq_true rfl⟩) ⟨fun a U g mk q => by obtain ⟨q0, q1, qP, qK, qD⟩ := q; exact ⟨q0, q1, qP, va_K.moved (u := U) (U := U.calling g mk a) (Vm.Alike.refl U.vm) qK, qD⟩, va_recv hK hP (ci := 6) (q0 := 0) rfl rfl, fun U hU hW => ⟨rfl, by rw [hU], by rw [hU]; exact hP, va_K.moved hW.alike hK, hD.weaken (fun _ _ _ _ => trivial)⟩⟩ rfl rfl hl.1 rfl (lv_room (Nat.le_of_ble_eq_true rfl)) dX7_must_2 ⟨Nat.le_of_ble_eq_true rfl, Nat.le_of_ble_eq_true rfl⟩) hS (fun q _ h => hFc q h) hFc (fun rr4 u t H3 locs ht hvm hw hB hz1 hk1 hS => ?_)
  obtain ⟨hP1, hK1, hD1⟩ := hB
  rw [ht] at hP1
  refine zTopi hw.symm ?_
  have hP := hP1
  have hD := hD1.weaken (fun _ q _ h => hFc q.1 h)
  have hP : va_P (dC, dI) vwCl (cX7 a7 h7 y S7) H3 := hP
  have hD : va_D A (cX7 a7 h7 y S7) := hD
  refine lv_if_eq (tgt := 15) hx hb dX7_must_5 (by decide) (fun c5 => ?_) (fun c5 => ?_)
  · have h := zY c5 h
    refine lv_aload_n hx hb dX7_must_15 rfl (lv_at hl 0 rfl) ?_
    obtain ⟨s7_6, hc7, h⟩ := zB_spec h
    have hFc := zFree hD hS hA
    refine va_callv (va_runV (As := []) (rest := []) ⟨hx, hb, hml, hown, hts⟩ (m_X7_wrong l dC dI y a7 h7 S7 H3.size s7_6 hc7) (cwV 0 hts gX7_must_X7_wrong rfl rfl rfl (by decide +kernel) ⟨Nat.le_of_ble_eq_true rfl, Nat.le_of_ble_eq_true rfl⟩) ⟨fun a U g mk q => by obtain ⟨q0, q1, qP, qK, qD⟩ := q; exact ⟨q0, q1, qP, va_K.moved (u := U) (U := U.calling g mk a) (Vm.Alike.refl U.vm) qK, qD⟩, va_recv hK hP (ci := 6) (q0 := 0) rfl rfl, fun U hU hW => ⟨rfl, by rw [hU], by rw [hU]; exact hP, va_K.moved hW.alike hK, hD.weaken (fun _ _ _ _ => trivial)⟩⟩ rfl rfl hl.1 rfl (lv_room (Nat.le_of_ble_eq_true rfl)) dX7_must_16 ⟨Nat.le_of_ble_eq_true rfl, Nat.le_of_ble_eq_true rfl⟩) hS (fun q _ h => hFc q h) hFc (fun u t H8 locs ht hvm hw hB hz1 hk1 hS => ?_)
    obtain ⟨hP1, hK1, hD1⟩ := hB
    rw [ht] at hP1
    have hP := hP1
    have hD := hD1.weaken (fun _ q _ h => hFc q.1 h)
    have hP : va_P (dC, dI) vwCl (cX7 a7 h7 y s7_6) H8 := hP
    have hD : va_D A (cX7 a7 h7 y s7_6) := hD
    have ho0 : s7_6 = o_7 := congrArg (fun z : SS => z) (Option.some.inj h)
    exact W.vret hx hb hr (fun t ht hW => ⟨⟨(), rfl, trivial, by rw [ht]; rw [← ho0]; exact hP, va_K.moved hW.alike hK, by rw [← ho0]; exact hD⟩, hS.F ht⟩) hS.2.2 dX7_must_19
  · have h := zN c5 h
    refine lv_aload_n hx hb dX7_must_8 rfl (lv_at hl 0 rfl) ?_
    obtain ⟨s7_10, hc11, h⟩ := zB_spec h
    have hFc := zFree hD hS hA
    refine va_callv (va_runV (As := []) (rest := []) ⟨hx, hb, hml, hown, hts⟩ (m_X7_next l dC dI y a7 h7 S7 H3.size s7_10 hc11) (cwV 0 hts gX7_must_X7_next rfl rfl rfl (by decide +kernel) ⟨Nat.le_of_ble_eq_true rfl, Nat.le_of_ble_eq_true rfl⟩) ⟨fun a U g mk q => by obtain ⟨q0, q1, qP, qK, qD⟩ := q; exact ⟨q0, q1, qP, va_K.moved (u := U) (U := U.calling g mk a) (Vm.Alike.refl U.vm) qK, qD⟩, va_recv hK hP (ci := 6) (q0 := 0) rfl rfl, fun U hU hW => ⟨rfl, by rw [hU], by rw [hU]; exact hP, va_K.moved hW.alike hK, hD.weaken (fun _ _ _ _ => trivial)⟩⟩ rfl rfl hl.1 rfl (lv_room (Nat.le_of_ble_eq_true rfl)) dX7_must_9 ⟨Nat.le_of_ble_eq_true rfl, Nat.le_of_ble_eq_true rfl⟩) hS (fun q _ h => hFc q h) hFc (fun u t H12 locs ht hvm hw hB hz1 hk1 hS => ?_)
    obtain ⟨hP1, hK1, hD1⟩ := hB
    rw [ht] at hP1
    have hP := hP1
    have hD := hD1.weaken (fun _ q _ h => hFc q.1 h)
    have hP : va_P (dC, dI) vwCl (cX7 a7 h7 y s7_10) H12 := hP
    have hD : va_D A (cX7 a7 h7 y s7_10) := hD
    refine lv_goto (tgt := 19) hx hb dX7_must_12 (by decide) ?_
    have ho0 : s7_10 = o_7 := congrArg (fun z : SS => z) (Option.some.inj h)
    exact W.vret hx hb hr (fun t ht hW => ⟨⟨(), rfl, trivial, by rw [ht]; rw [← ho0]; exact hP, va_K.moved hW.alike hK, by rw [← ho0]; exact hD⟩, hS.F ht⟩) hS.2.2 dX7_must_19

set_option maxHeartbeats 4000000 in
set_option maxRecDepth 100000 in
theorem m_X7_newOf (l : Launch) (dC : Nat → ClassId) (dI : Nat → Nat → Nat) (y : Nat → ClassId) (a7 : Nat) (h7 : Nat → Nat) (S7 : SS) (p1 : Int64) (sz : Nat) (or_ : Int32) (h : f_X7_newOf S7 p1 = some or_) : Met l yX7_newOf wsX7_newOf ({ frames := 0, cells := 0, slots := 0, locals := 0 }) (va_Pc [.ref a7, .long p1] (fun U => U.heap.size = sz ∧ va_P (dC, dI) vwCl (cX7 a7 h7 y S7) U.heap ∧ va_K (dC, dI) vwCl [(y 0, .int), (y 1, .long), (y 2, .byte), (y 3, .boolean)] U ∧ va_D (fun _ => True) (cX7 a7 h7 y S7))) (va_Qi (fun (r : Int32) (_ : Unit) => r = or_) (fun (_ : Unit) (t : State) => va_P (dC, dI) vwCl (cX7 a7 h7 y S7) t.heap ∧ va_K (dC, dI) vwCl [(y 0, .int), (y 1, .long), (y 2, .byte), (y 3, .boolean)] t ∧ va_D (va_A (cX7 a7 h7 y S7) sz) (cX7 a7 h7 y S7)) (va_A (cX7 a7 h7 y S7) sz)) 0 0 (va_A (cX7 a7 h7 y S7) sz) := by
  refine Met.ofW (cc := cX7_newOf) (maxL := 4) (ret := (some .int)) (by decide +kernel) rfl ?_
  intro p e s m args below meth c s₁ B hml hv
  obtain ⟨rfl, hsz, hP, hK, hD0⟩ := hv
  have hx := B.exec
  have hb := B.bytes
  have hr := B.returns
  have hts := atoms_spec (ws := wsX7_newOf) B.pre
  have hown : s.vm.findClass RX7 = some m.cls := findClass_of_methodNamed B.named
  have hlocks := B.notSynchronized
  have inX7_ : ∀ w ∈ wsX70, w ∈ wsX7_newOf := fun _ h => List.mem_cons_of_mem _ (List.mem_append_right _ h)
  subst hsz
  have hD := hD0.self (sz := s.heap.size)
  generalize hAe : va_A (cX7 a7 h7 y S7) s.heap.size = A at hD ⊢
  have hA : ∀ q : Nat, s.heap.size ≤ q → A q := fun q h => by rw [← hAe]; exact Or.inr h
  have hS : va_S A s.heap s.heap [] := va_S.rf
  have hP : va_P (dC, dI) vwCl (cX7 a7 h7 y S7) s.heap := hP
  have hl := lv_entry ([.ref a7, .long p1]) (n := 4) (Nat.le_of_ble_eq_true rfl)
  rw [lg_entry_eq]
  generalize (lg_sl ([.ref a7, .long p1]) ++ List.replicate (4 - (lg_sl ([.ref a7, .long p1])).length) Slot.unset).toArray = ls at hl ⊢
  have hl : lv_has ls 4 [(0, .ref a7), (1, .long p1)] := hl
  refine lv_iconst (v := 0) hx hb dX7_newOf_0 (by decide) ?_
  refine lv_istore_n (lv' := [(3, .int 0), (0, .ref a7), (1, .long p1)]) hx hb dX7_newOf_1 rfl hl (by decide) rfl (fun ls hl => ?_)
  refine W_abs (fun GW1 eG2 => ?_)
  have hi6 := h
  have lp4 : ∀ (n : Nat) (v10 : Int32) (HGW1 : Heap) (locs : List Loc) (ls : Array Slot), zI (b_X7_newOf_2 S7 p1) n v10 = some or_ → va_P (dC, dI) vwCl (cX7 a7 h7 y S7) HGW1 → va_D A (cX7 a7 h7 y S7) → va_S A s.heap HGW1 locs → lv_has ls 4 [(0, .ref a7), (1, .long p1), (3, .int v10)] → GW1 HGW1 locs 0 0 (F0 m 2 ls []) := by
    intro n
    induction n with
    | zero =>
      intro v10 HGW1 locs ls hi6 hP hD hS hl
      exact (zI_0 hi6).elim
    | succ n ihlp4 =>
      intro v10 HGW1 locs ls hi6 hP hD hS hl
      refine (eG2 _ _ _ _ _).mpr ?_
      obtain ⟨xx9, h, hx8⟩ := zI_spec hi6
      refine lv_iload_n hx hb dX7_newOf_2 rfl (lv_at hl 2 rfl) ?_
      refine lv_aload_n hx hb dX7_newOf_3 rfl (lv_at hl 0 rfl) ?_
      refine va_get (D := (dC, dI)) (ci := 6) (v := .int (gI S7 26)) (C := RX7) (T := TX7) (N := 49) hx hb hts inX7_ hown hK hP 0 rfl rfl 26 (by decide) (hts (.fieldLink RX7 185 "GateWheelModel" "read" "I") (List.mem_of_getElem? (i := 1) rfl)) (fun _ h9 => h9) rfl dX7_newOf_4 ?_
      refine lv_icmp_ge (tgt := 37) hx hb dX7_newOf_7 (by decide) (fun c11 => ?_) (fun c11 => ?_)
      · have h := zY c11 h
        refine lv_iconst (v := (-1)) hx hb dX7_newOf_37 (by decide) ?_
        have h := congrArg some (zI_r h hx8)
        have ho0 : (-1 : Int32) = or_ := congrArg (fun z : Int32 => z) (Option.some.inj h)
        exact W.iret (v := (-1)) hx hb hr (fun t ht hW => ⟨⟨(-1), (), rfl, ho0, by rw [ht]; exact hP, va_K.moved hW.alike hK, hD⟩, hS.F ht⟩) hS.2.2 dX7_newOf_38
      · have h := zN c11 h
        refine lv_aload_n hx hb dX7_newOf_10 rfl (lv_at hl 0 rfl) ?_
        refine va_get (D := (dC, dI)) (ci := 6) (v := .ref (h7 11)) (C := RX7) (T := TX7) (N := 49) hx hb hts inX7_ hown hK hP 0 rfl rfl 11 (by decide) (hts (.fieldLink RX7 20 "GateWheelModel" "nName" "[J") (List.mem_of_getElem? (i := 2) rfl)) (fun _ h9 => h9) rfl dX7_newOf_11 ?_
        refine lv_bipush (v := 60) hx hb dX7_newOf_14 (by decide) ?_
        refine lv_aload_n hx hb dX7_newOf_16 rfl (lv_at hl 0 rfl) ?_
        refine va_get (D := (dC, dI)) (ci := 6) (v := .int (gI S7 30)) (C := RX7) (T := TX7) (N := 49) hx hb hts inX7_ hown hK hP 0 rfl rfl 30 (by decide) (hts (.fieldLink RX7 188 "GateWheelModel" "bank" "I") (List.mem_of_getElem? (i := 3) rfl)) (fun _ h9 => h9) rfl dX7_newOf_17 ?_
        refine lv_imul hx hb dX7_newOf_20 ?_
        refine lv_iload_n hx hb dX7_newOf_21 rfl (lv_at hl 2 rfl) ?_
        refine lv_iadd hx hb dX7_newOf_22 ?_
        obtain ⟨hi12, h⟩ := zG_spec h
        refine va_lald hx hb hK hP 3 1 rfl rfl hi12 dX7_newOf_23 ?_
        refine lv_lload_n hx hb dX7_newOf_24 rfl (lv_at hl 1 rfl) ?_
        refine W.lcmp hx hb dX7_newOf_25 ?_
        refine lv_if_ne (tgt := 31) hx hb dX7_newOf_26 (by decide) (fun c13 => ?_) (fun c13 => ?_)
        · have h := zN c13 h
          obtain ⟨v14, ev14, h⟩ := zL_spec h
          refine lv_iinc (v := v14) (lv' := [(3, .int v14), (0, .ref a7), (1, .long p1)]) hx hb dX7_newOf_31 hl (k := 2) rfl (by rw [ev14]; rfl) (by decide) rfl (fun ls hl => ?_)
          refine lv_goto (tgt := 2) hx hb dX7_newOf_34 (by decide) ?_
          have h := zI_l h hx8
          exact (eG2 _ _ _ _ _).mp (ihlp4 v14 _ _ _ h hP hD hS (lv_sub hl [1, 2, 0] rfl))
        · have h := zY c13 h
          refine lv_iload_n hx hb dX7_newOf_29 rfl (lv_at hl 2 rfl) ?_
          have h := congrArg some (zI_r h hx8)
          have ho0 : v10 = or_ := congrArg (fun z : Int32 => z) (Option.some.inj h)
          exact W.iret (v := v10) hx hb hr (fun t ht hW => ⟨⟨v10, (), rfl, ho0, by rw [ht]; exact hP, va_K.moved hW.alike hK, hD⟩, hS.F ht⟩) hS.2.2 dX7_newOf_30
  exact lp4 zF (0 : Int32) _ _ _ hi6 hP hD hS (lv_sub hl [1, 2, 0] rfl)

set_option maxHeartbeats 4000000 in
set_option maxRecDepth 100000 in
theorem m_X7_tell (l : Launch) (dC : Nat → ClassId) (dI : Nat → Nat → Nat) (y : Nat → ClassId) (a7 : Nat) (h7 : Nat → Nat) (S7 : SS) (p1 : Int32) (sz : Nat) (or_ : Int32) (o_7 : SS) (h : f_X7_tell S7 p1 = some (or_, o_7)) : Met l yX7_tell wsX7_tell ({ frames := 2, cells := 0, slots := 0, locals := 43 }) (va_Pc [.ref a7, .int p1] (fun U => U.heap.size = sz ∧ va_P (dC, dI) vwCl (cX7 a7 h7 y S7) U.heap ∧ va_K (dC, dI) vwCl [(y 0, .int), (y 1, .long), (y 2, .byte), (y 3, .boolean)] U ∧ va_D (fun _ => True) (cX7 a7 h7 y S7))) (va_Qi (fun (r : Int32) (_ : Unit) => r = or_) (fun (_ : Unit) (t : State) => va_P (dC, dI) vwCl (cX7 a7 h7 y o_7) t.heap ∧ va_K (dC, dI) vwCl [(y 0, .int), (y 1, .long), (y 2, .byte), (y 3, .boolean)] t ∧ va_D (va_A (cX7 a7 h7 y S7) sz) (cX7 a7 h7 y o_7)) (va_A (cX7 a7 h7 y S7) sz)) 0 0 (va_A (cX7 a7 h7 y S7) sz) := by
  refine Met.ofW (cc := cX7_tell) (maxL := 3) (ret := (some .int)) (by decide +kernel) rfl ?_
  intro p e s m args below meth c s₁ B hml hv
  obtain ⟨rfl, hsz, hP, hK, hD0⟩ := hv
  have hx := B.exec
  have hb := B.bytes
  have hr := B.returns
  have hts := atoms_spec (ws := wsX7_tell) B.pre
  have hown : s.vm.findClass RX7 = some m.cls := findClass_of_methodNamed B.named
  have hlocks := B.notSynchronized
  have inX7_ : ∀ w ∈ wsX70, w ∈ wsX7_tell := fun _ h => List.mem_cons_of_mem _ (List.mem_append_right _ h)
  subst hsz
  have hD := hD0.self (sz := s.heap.size)
  generalize hAe : va_A (cX7 a7 h7 y S7) s.heap.size = A at hD ⊢
  have hA : ∀ q : Nat, s.heap.size ≤ q → A q := fun q h => by rw [← hAe]; exact Or.inr h
  have hS : va_S A s.heap s.heap [] := va_S.rf
  have hP : va_P (dC, dI) vwCl (cX7 a7 h7 y S7) s.heap := hP
  have hl := lv_entry ([.ref a7, .int p1]) (n := 3) (Nat.le_of_ble_eq_true rfl)
  rw [lg_entry_eq]
  generalize (lg_sl ([.ref a7, .int p1]) ++ List.replicate (3 - (lg_sl ([.ref a7, .int p1])).length) Slot.unset).toArray = ls at hl ⊢
  have hl : lv_has ls 3 [(0, .ref a7), (1, .int p1)] := hl
  refine lv_aload_n hx hb dX7_tell_0 rfl (lv_at hl 0 rfl) ?_
  refine va_get (D := (dC, dI)) (ci := 6) (v := .int (gI S7 8)) (C := RX7) (T := TX7) (N := 49) hx hb hts inX7_ hown hK hP 0 rfl rfl 8 (by decide) (hts (.fieldLink RX7 141 "GateWheelModel" "token" "I") (List.mem_of_getElem? (i := 1) rfl)) (fun _ h9 => h9) rfl dX7_tell_1 ?_
  refine lv_iconst (v := 2) hx hb dX7_tell_4 (by decide) ?_
  refine W_abs (fun GW1 eG2 => ?_)
  obtain ⟨ov4, hr5, h⟩ := zB_spec h
  have jn3 : ∀ (s7_7 : SS) (HGW1 : Heap) (locs : List Loc) (ls : Array Slot), s7_7 = ov4 → va_P (dC, dI) vwCl (cX7 a7 h7 y s7_7) HGW1 → va_D A (cX7 a7 h7 y s7_7) → va_S A s.heap HGW1 locs → lv_has ls 3 [(0, .ref a7), (1, .int p1)] → GW1 HGW1 locs 0 0 (F0 m 21 ls []) := by
    intro s7_7 HGW1 locs ls hv hP hD hS hl
    subst hv
    refine (eG2 _ _ _ _ _).mpr ?_
    refine lv_aload_n hx hb dX7_tell_21 rfl (lv_at hl 0 rfl) ?_
    obtain ⟨r8, hc9, h⟩ := zB_spec h
    have hFc := zFree hD hS hA
    refine va_calli (va_runV (As := []) (rest := []) ⟨hx, hb, hml, hown, hts⟩ (m_X7_isGood l dC dI y a7 h7 s7_7 HGW1.size r8 hc9) (cwV 0 hts gX7_tell_X7_isGood rfl rfl rfl (by decide +kernel) ⟨Nat.le_of_ble_eq_true rfl, Nat.le_of_ble_eq_true rfl⟩) ⟨fun a U g mk q => by obtain ⟨q0, q1, qP, qK, qD⟩ := q; exact ⟨q0, q1, qP, va_K.moved (u := U) (U := U.calling g mk a) (Vm.Alike.refl U.vm) qK, qD⟩, va_recv hK hP (ci := 6) (q0 := 0) rfl rfl, fun U hU hW => ⟨rfl, by rw [hU], by rw [hU]; exact hP, va_K.moved hW.alike hK, hD.weaken (fun _ _ _ _ => trivial)⟩⟩ rfl rfl hl.1 rfl (lv_room (Nat.le_of_ble_eq_true rfl)) dX7_tell_22 ⟨Nat.le_of_ble_eq_true rfl, Nat.le_of_ble_eq_true rfl⟩) hS (fun q _ h => hFc q h) hFc (fun rr11 u t H10 locs ht hvm hw hB hz1 hk1 hS => ?_)
    obtain ⟨hP1, hK1, hD1⟩ := hB
    rw [ht] at hP1
    refine zTopi hw.symm ?_
    have hP := hP1
    have hD := hD1.weaken (fun _ q _ h => hFc q.1 h)
    have hP : va_P (dC, dI) vwCl (cX7 a7 h7 y s7_7) H10 := hP
    have hD : va_D A (cX7 a7 h7 y s7_7) := hD
    refine W_abs (fun GW12 eG13 => ?_)
    obtain ⟨ov15, hr16, h⟩ := zB_spec h
    have jn14 : ∀ (s7_18 : SS) (HGW12 : Heap) (locs : List Loc) (ls : Array Slot), s7_18 = ov15 → va_P (dC, dI) vwCl (cX7 a7 h7 y s7_18) HGW12 → va_D A (cX7 a7 h7 y s7_18) → va_S A s.heap HGW12 locs → lv_has ls 3 [(0, .ref a7), (1, .int p1)] → GW12 HGW12 locs 0 0 (F0 m 48 ls []) := by
      intro s7_18 HGW12 locs ls hv hP hD hS hl
      subst hv
      refine (eG13 _ _ _ _ _).mpr ?_
      refine lv_aload_n hx hb dX7_tell_48 rfl (lv_at hl 0 rfl) ?_
      obtain ⟨r19, hc20, h⟩ := zB_spec h
      have hFc := zFree hD hS hA
      refine va_calli (va_runV (As := []) (rest := []) ⟨hx, hb, hml, hown, hts⟩ (m_X7_isGood l dC dI y a7 h7 s7_18 HGW12.size r19 hc20) (cwV 0 hts gX7_tell_X7_isGood rfl rfl rfl (by decide +kernel) ⟨Nat.le_of_ble_eq_true rfl, Nat.le_of_ble_eq_true rfl⟩) ⟨fun a U g mk q => by obtain ⟨q0, q1, qP, qK, qD⟩ := q; exact ⟨q0, q1, qP, va_K.moved (u := U) (U := U.calling g mk a) (Vm.Alike.refl U.vm) qK, qD⟩, va_recv hK hP (ci := 6) (q0 := 0) rfl rfl, fun U hU hW => ⟨rfl, by rw [hU], by rw [hU]; exact hP, va_K.moved hW.alike hK, hD.weaken (fun _ _ _ _ => trivial)⟩⟩ rfl rfl hl.1 rfl (lv_room (Nat.le_of_ble_eq_true rfl)) dX7_tell_49 ⟨Nat.le_of_ble_eq_true rfl, Nat.le_of_ble_eq_true rfl⟩) hS (fun q _ h => hFc q h) hFc (fun rr22 u t H21 locs ht hvm hw hB hz1 hk1 hS => ?_)
      obtain ⟨hP1, hK1, hD1⟩ := hB
      rw [ht] at hP1
      refine zTopi hw.symm ?_
      have hP := hP1
      have hD := hD1.weaken (fun _ q _ h => hFc q.1 h)
      have hP : va_P (dC, dI) vwCl (cX7 a7 h7 y s7_18) H21 := hP
      have hD : va_D A (cX7 a7 h7 y s7_18) := hD
      refine lv_if_ne (tgt := 57) hx hb dX7_tell_52 (by decide) (fun c23 => ?_) (fun c23 => ?_)
      · have h := zN c23 h
        refine lv_bipush (v := 60) hx hb dX7_tell_57 (by decide) ?_
        refine lv_aload_n hx hb dX7_tell_59 rfl (lv_at hl 0 rfl) ?_
        refine va_get (D := (dC, dI)) (ci := 6) (v := .int (gI s7_18 30)) (C := RX7) (T := TX7) (N := 49) hx hb hts inX7_ hown hK hP 0 rfl rfl 30 (by decide) (hts (.fieldLink RX7 188 "GateWheelModel" "bank" "I") (List.mem_of_getElem? (i := 5) rfl)) (fun _ h9 => h9) rfl dX7_tell_60 ?_
        refine lv_imul hx hb dX7_tell_63 ?_
        refine lv_aload_n hx hb dX7_tell_64 rfl (lv_at hl 0 rfl) ?_
        refine va_get (D := (dC, dI)) (ci := 6) (v := .int (gI s7_18 26)) (C := RX7) (T := TX7) (N := 49) hx hb hts inX7_ hown hK hP 0 rfl rfl 26 (by decide) (hts (.fieldLink RX7 185 "GateWheelModel" "read" "I") (List.mem_of_getElem? (i := 2) rfl)) (fun _ h9 => h9) rfl dX7_tell_65 ?_
        refine lv_iadd hx hb dX7_tell_68 ?_
        obtain ⟨v24, ev24, h⟩ := zL_spec h
        refine zTopi ev24 ?_
        refine lv_istore_n (lv' := [(2, .int v24), (0, .ref a7), (1, .int p1)]) hx hb dX7_tell_69 rfl hl (by decide) rfl (fun ls hl => ?_)
        refine lv_aload_n hx hb dX7_tell_70 rfl (lv_at hl 1 rfl) ?_
        refine va_get (D := (dC, dI)) (ci := 6) (v := .ref (h7 11)) (C := RX7) (T := TX7) (N := 49) hx hb hts inX7_ hown hK hP 0 rfl rfl 11 (by decide) (hts (.fieldLink RX7 20 "GateWheelModel" "nName" "[J") (List.mem_of_getElem? (i := 6) rfl)) (fun _ h9 => h9) rfl dX7_tell_71 ?_
        refine lv_iload_n hx hb dX7_tell_74 rfl (lv_at hl 0 rfl) ?_
        refine lv_aload_n hx hb dX7_tell_75 rfl (lv_at hl 1 rfl) ?_
        refine va_get (D := (dC, dI)) (ci := 6) (v := .long (gL s7_18 10)) (C := RX7) (T := TX7) (N := 49) hx hb hts inX7_ hown hK hP 0 rfl rfl 10 (by decide) (hts (.fieldLink RX7 151 "GateWheelModel" "name" "J") (List.mem_of_getElem? (i := 3) rfl)) (fun _ h9 => h9) rfl dX7_tell_76 ?_
        obtain ⟨hi25, h⟩ := zG_spec h
        refine va_last hx hb hK hP hD hS 3 1 rfl rfl hi25 dX7_tell_79 (fun H26 locs hP hD hS => ?_)
        obtain ⟨s7_27, es7_27, h⟩ := zL_spec h
        have hP : va_P (dC, dI) vwCl (cX7 a7 h7 y s7_27) H26 := by rw [es7_27]; exact hP
        have hD : va_D A (cX7 a7 h7 y s7_27) := by rw [es7_27]; exact hD
        refine lv_aload_n hx hb dX7_tell_80 rfl (lv_at hl 1 rfl) ?_
        refine va_get (D := (dC, dI)) (ci := 6) (v := .ref (h7 12)) (C := RX7) (T := TX7) (N := 49) hx hb hts inX7_ hown hK hP 0 rfl rfl 12 (by decide) (hts (.fieldLink RX7 24 "GateWheelModel" "nKind" "[I") (List.mem_of_getElem? (i := 7) rfl)) (fun _ h9 => h9) rfl dX7_tell_81 ?_
        refine lv_iload_n hx hb dX7_tell_84 rfl (lv_at hl 0 rfl) ?_
        refine lv_iload_n hx hb dX7_tell_85 rfl (lv_at hl 2 rfl) ?_
        refine va_iast hx hb hK hP hD hS 4 0 rfl rfl hi25 dX7_tell_86 (fun H28 locs hP hD hS => ?_)
        obtain ⟨s7_29, es7_29, h⟩ := zL_spec h
        have hP : va_P (dC, dI) vwCl (cX7 a7 h7 y s7_29) H28 := by rw [es7_29]; exact hP
        have hD : va_D A (cX7 a7 h7 y s7_29) := by rw [es7_29]; exact hD
        refine lv_aload_n hx hb dX7_tell_87 rfl (lv_at hl 1 rfl) ?_
        refine va_get (D := (dC, dI)) (ci := 6) (v := .ref (h7 13)) (C := RX7) (T := TX7) (N := 49) hx hb hts inX7_ hown hK hP 0 rfl rfl 13 (by decide) (hts (.fieldLink RX7 28 "GateWheelModel" "nGate" "[I") (List.mem_of_getElem? (i := 8) rfl)) (fun _ h9 => h9) rfl dX7_tell_88 ?_
        refine lv_iload_n hx hb dX7_tell_91 rfl (lv_at hl 0 rfl) ?_
        refine lv_iconst (v := (-1)) hx hb dX7_tell_92 (by decide) ?_
        refine va_iast hx hb hK hP hD hS 5 0 rfl rfl hi25 dX7_tell_93 (fun H30 locs hP hD hS => ?_)
        obtain ⟨s7_31, es7_31, h⟩ := zL_spec h
        have hP : va_P (dC, dI) vwCl (cX7 a7 h7 y s7_31) H30 := by rw [es7_31]; exact hP
        have hD : va_D A (cX7 a7 h7 y s7_31) := by rw [es7_31]; exact hD
        refine lv_aload_n hx hb dX7_tell_94 rfl (lv_at hl 1 rfl) ?_
        refine va_get (D := (dC, dI)) (ci := 6) (v := .ref (h7 14)) (C := RX7) (T := TX7) (N := 49) hx hb hts inX7_ hown hK hP 0 rfl rfl 14 (by decide) (hts (.fieldLink RX7 31 "GateWheelModel" "nMany" "[I") (List.mem_of_getElem? (i := 9) rfl)) (fun _ h9 => h9) rfl dX7_tell_95 ?_
        refine lv_iload_n hx hb dX7_tell_98 rfl (lv_at hl 0 rfl) ?_
        refine lv_iconst (v := 0) hx hb dX7_tell_99 (by decide) ?_
        refine va_iast hx hb hK hP hD hS 6 0 rfl rfl hi25 dX7_tell_100 (fun H32 locs hP hD hS => ?_)
        obtain ⟨s7_33, es7_33, h⟩ := zL_spec h
        have hP : va_P (dC, dI) vwCl (cX7 a7 h7 y s7_33) H32 := by rw [es7_33]; exact hP
        have hD : va_D A (cX7 a7 h7 y s7_33) := by rw [es7_33]; exact hD
        refine lv_aload_n hx hb dX7_tell_101 rfl (lv_at hl 1 rfl) ?_
        refine va_get (D := (dC, dI)) (ci := 6) (v := .ref (h7 15)) (C := RX7) (T := TX7) (N := 49) hx hb hts inX7_ hown hK hP 0 rfl rfl 15 (by decide) (hts (.fieldLink RX7 34 "GateWheelModel" "nDelay" "[I") (List.mem_of_getElem? (i := 10) rfl)) (fun _ h9 => h9) rfl dX7_tell_102 ?_
        refine lv_iload_n hx hb dX7_tell_105 rfl (lv_at hl 0 rfl) ?_
        refine lv_iconst (v := 0) hx hb dX7_tell_106 (by decide) ?_
        refine va_iast hx hb hK hP hD hS 7 0 rfl rfl hi25 dX7_tell_107 (fun H34 locs hP hD hS => ?_)
        obtain ⟨s7_35, es7_35, h⟩ := zL_spec h
        have hP : va_P (dC, dI) vwCl (cX7 a7 h7 y s7_35) H34 := by rw [es7_35]; exact hP
        have hD : va_D A (cX7 a7 h7 y s7_35) := by rw [es7_35]; exact hD
        refine lv_aload_n hx hb dX7_tell_108 rfl (lv_at hl 1 rfl) ?_
        refine va_get (D := (dC, dI)) (ci := 6) (v := .ref (h7 18)) (C := RX7) (T := TX7) (N := 49) hx hb hts inX7_ hown hK hP 0 rfl rfl 18 (by decide) (hts (.fieldLink RX7 43 "GateWheelModel" "nAt" "[I") (List.mem_of_getElem? (i := 11) rfl)) (fun _ h9 => h9) rfl dX7_tell_109 ?_
        refine lv_aload_n hx hb dX7_tell_112 rfl (lv_at hl 1 rfl) ?_
        refine va_get (D := (dC, dI)) (ci := 6) (v := .int (gI s7_35 26)) (C := RX7) (T := TX7) (N := 49) hx hb hts inX7_ hown hK hP 0 rfl rfl 26 (by decide) (hts (.fieldLink RX7 185 "GateWheelModel" "read" "I") (List.mem_of_getElem? (i := 2) rfl)) (fun _ h9 => h9) rfl dX7_tell_113 ?_
        refine lv_aload_n hx hb dX7_tell_116 rfl (lv_at hl 1 rfl) ?_
        refine va_get (D := (dC, dI)) (ci := 6) (v := .int (gI s7_35 6)) (C := RX7) (T := TX7) (N := 49) hx hb hts inX7_ hown hK hP 0 rfl rfl 6 (by decide) (hts (.fieldLink RX7 134 "GateWheelModel" "at" "I") (List.mem_of_getElem? (i := 4) rfl)) (fun _ h9 => h9) rfl dX7_tell_117 ?_
        obtain ⟨hi36, h⟩ := zG_spec h
        refine va_iast hx hb hK hP hD hS 10 0 rfl rfl hi36 dX7_tell_120 (fun H37 locs hP hD hS => ?_)
        obtain ⟨s7_38, es7_38, h⟩ := zL_spec h
        have hP : va_P (dC, dI) vwCl (cX7 a7 h7 y s7_38) H37 := by rw [es7_38]; exact hP
        have hD : va_D A (cX7 a7 h7 y s7_38) := by rw [es7_38]; exact hD
        refine lv_aload_n hx hb dX7_tell_121 rfl (lv_at hl 1 rfl) ?_
        refine lv_dup hx hb dX7_tell_122 rfl ?_
        refine va_get (D := (dC, dI)) (ci := 6) (v := .int (gI s7_38 26)) (C := RX7) (T := TX7) (N := 49) hx hb hts inX7_ hown hK hP 0 rfl rfl 26 (by decide) (hts (.fieldLink RX7 185 "GateWheelModel" "read" "I") (List.mem_of_getElem? (i := 2) rfl)) (fun _ h9 => h9) rfl dX7_tell_123 ?_
        refine lv_iconst (v := 1) hx hb dX7_tell_126 (by decide) ?_
        refine lv_iadd hx hb dX7_tell_127 ?_
        refine va_put (D := (dC, dI)) (ci := 6) (v := .int ((gI s7_38 26) + (1 : Int32))) (ty := .int) (C := RX7) (T := TX7) (N := 49) hx hb hts inX7_ tyX7 tyX7_ok nmX7 hown hK hP hD hS 0 rfl rfl 26 (by decide) (hts (.fieldLink RX7 185 "GateWheelModel" "read" "I") (List.mem_of_getElem? (i := 2) rfl)) (fun _ h9 => h9) rfl (by decide +kernel) rfl rfl (Nat.le_of_ble_eq_true rfl) dX7_tell_128 (fun H39 locs hP hD hS => ?_)
        obtain ⟨s7_40, es7_40, h⟩ := zL_spec h
        have hP : va_P (dC, dI) vwCl (cX7 a7 h7 y s7_40) H39 := by rw [es7_40]; exact hP
        have hD : va_D A (cX7 a7 h7 y s7_40) := by rw [es7_40]; exact hD
        refine lv_aload_n hx hb dX7_tell_131 rfl (lv_at hl 1 rfl) ?_
        obtain ⟨s7_41, hc42, h⟩ := zB_spec h
        have hFc := zFree hD hS hA
        refine va_callv (va_runV (As := []) (rest := []) ⟨hx, hb, hml, hown, hts⟩ (m_X7_next l dC dI y a7 h7 s7_40 H39.size s7_41 hc42) (cwV 0 hts gX7_tell_X7_next rfl rfl rfl (by decide +kernel) ⟨Nat.le_of_ble_eq_true rfl, Nat.le_of_ble_eq_true rfl⟩) ⟨fun a U g mk q => by obtain ⟨q0, q1, qP, qK, qD⟩ := q; exact ⟨q0, q1, qP, va_K.moved (u := U) (U := U.calling g mk a) (Vm.Alike.refl U.vm) qK, qD⟩, va_recv hK hP (ci := 6) (q0 := 0) rfl rfl, fun U hU hW => ⟨rfl, by rw [hU], by rw [hU]; exact hP, va_K.moved hW.alike hK, hD.weaken (fun _ _ _ _ => trivial)⟩⟩ rfl rfl hl.1 rfl (lv_room (Nat.le_of_ble_eq_true rfl)) dX7_tell_132 ⟨Nat.le_of_ble_eq_true rfl, Nat.le_of_ble_eq_true rfl⟩) hS (fun q _ h => hFc q h) hFc (fun u t H43 locs ht hvm hw hB hz1 hk1 hS => ?_)
        obtain ⟨hP1, hK1, hD1⟩ := hB
        rw [ht] at hP1
        have hP := hP1
        have hD := hD1.weaken (fun _ q _ h => hFc q.1 h)
        have hP : va_P (dC, dI) vwCl (cX7 a7 h7 y s7_41) H43 := hP
        have hD : va_D A (cX7 a7 h7 y s7_41) := hD
        refine lv_iload_n hx hb dX7_tell_135 rfl (lv_at hl 0 rfl) ?_
        have ho0 : v24 = or_ := congrArg (fun z : Int32 × SS => z.1) (Option.some.inj h)
        have ho1 : s7_41 = o_7 := congrArg (fun z : Int32 × SS => z.2) (Option.some.inj h)
        exact W.iret (v := v24) hx hb hr (fun t ht hW => ⟨⟨v24, (), rfl, ho0, by rw [ht]; rw [← ho1]; exact hP, va_K.moved hW.alike hK, by rw [← ho1]; exact hD⟩, hS.F ht⟩) hS.2.2 dX7_tell_136
      · have h := zY c23 h
        refine lv_iconst (v := (-1)) hx hb dX7_tell_55 (by decide) ?_
        have ho0 : (-1 : Int32) = or_ := congrArg (fun z : Int32 × SS => z.1) (Option.some.inj h)
        have ho1 : s7_18 = o_7 := congrArg (fun z : Int32 × SS => z.2) (Option.some.inj h)
        exact W.iret (v := (-1)) hx hb hr (fun t ht hW => ⟨⟨(-1), (), rfl, ho0, by rw [ht]; rw [← ho1]; exact hP, va_K.moved hW.alike hK, by rw [← ho1]; exact hD⟩, hS.F ht⟩) hS.2.2 dX7_tell_56
    refine (eG13 _ _ _ _ _).mpr ?_
    have h := hr16
    refine lv_if_eq (tgt := 48) hx hb dX7_tell_25 (by decide) (fun c45 => ?_) (fun c45 => ?_)
    · have h := zY c45 h
      exact (eG13 _ _ _ _ _).mp (jn14 s7_7 _ _ _ (Option.some.inj h) hP hD hS (lv_sub hl [0, 1] rfl))
    · have h := zN c45 h
      refine lv_aload_n hx hb dX7_tell_28 rfl (lv_at hl 0 rfl) ?_
      refine lv_aload_n hx hb dX7_tell_29 rfl (lv_at hl 0 rfl) ?_
      refine va_get (D := (dC, dI)) (ci := 6) (v := .long (gL s7_7 10)) (C := RX7) (T := TX7) (N := 49) hx hb hts inX7_ hown hK hP 0 rfl rfl 10 (by decide) (hts (.fieldLink RX7 151 "GateWheelModel" "name" "J") (List.mem_of_getElem? (i := 3) rfl)) (fun _ h9 => h9) rfl dX7_tell_30 ?_
      obtain ⟨r46, hc47, h⟩ := zB_spec h
      have hFc := zFree hD hS hA
      refine va_calli (va_runV (As := [.long (gL s7_7 10)]) (rest := []) ⟨hx, hb, hml, hown, hts⟩ (m_X7_newOf l dC dI y a7 h7 s7_7 (gL s7_7 10) H10.size r46 hc47) (cwV 1 hts gX7_tell_X7_newOf rfl rfl rfl (by decide +kernel) ⟨Nat.le_of_ble_eq_true rfl, Nat.le_of_ble_eq_true rfl⟩) ⟨fun a U g mk q => by obtain ⟨q0, q1, qP, qK, qD⟩ := q; exact ⟨q0, q1, qP, va_K.moved (u := U) (U := U.calling g mk a) (Vm.Alike.refl U.vm) qK, qD⟩, va_recv hK hP (ci := 6) (q0 := 0) rfl rfl, fun U hU hW => ⟨rfl, by rw [hU], by rw [hU]; exact hP, va_K.moved hW.alike hK, hD.weaken (fun _ _ _ _ => trivial)⟩⟩ rfl rfl hl.1 rfl (lv_room (Nat.le_of_ble_eq_true rfl)) dX7_tell_33 ⟨Nat.le_of_ble_eq_true rfl, Nat.le_of_ble_eq_true rfl⟩) hS (fun q _ h => hFc q h) hFc (fun rr49 u t H48 locs ht hvm hw hB hz1 hk1 hS => ?_)
      obtain ⟨hP1, hK1, hD1⟩ := hB
      rw [ht] at hP1
      refine zTopi hw.symm ?_
      have hP := hP1
      have hD := hD1.weaken (fun _ q _ h => hFc q.1 h)
      have hP : va_P (dC, dI) vwCl (cX7 a7 h7 y s7_7) H48 := hP
      have hD : va_D A (cX7 a7 h7 y s7_7) := hD
      refine lv_if_lt (tgt := 48) hx hb dX7_tell_36 (by decide) (fun c50 => ?_) (fun c50 => ?_)
      · have h := zY c50 h
        exact (eG13 _ _ _ _ _).mp (jn14 s7_7 _ _ _ (Option.some.inj h) hP hD hS (lv_sub hl [0, 1] rfl))
      · have h := zN c50 h
        refine lv_aload_n hx hb dX7_tell_39 rfl (lv_at hl 0 rfl) ?_
        refine lv_iconst (v := 3) hx hb dX7_tell_40 (by decide) ?_
        refine lv_aload_n hx hb dX7_tell_41 rfl (lv_at hl 0 rfl) ?_
        refine va_get (D := (dC, dI)) (ci := 6) (v := .int (gI s7_7 6)) (C := RX7) (T := TX7) (N := 49) hx hb hts inX7_ hown hK hP 0 rfl rfl 6 (by decide) (hts (.fieldLink RX7 134 "GateWheelModel" "at" "I") (List.mem_of_getElem? (i := 4) rfl)) (fun _ h9 => h9) rfl dX7_tell_42 ?_
        obtain ⟨s7_51, hc52, h⟩ := zB_spec h
        have hFc := zFree hD hS hA
        refine va_callv (va_runV (As := [.int 3, .int (gI s7_7 6)]) (rest := []) ⟨hx, hb, hml, hown, hts⟩ (m_X7_fails l dC dI y a7 h7 s7_7 (3 : Int32) (gI s7_7 6) H48.size s7_51 hc52) (cwV 2 hts gX7_tell_X7_fails rfl rfl rfl (by decide +kernel) ⟨Nat.le_of_ble_eq_true rfl, Nat.le_of_ble_eq_true rfl⟩) ⟨fun a U g mk q => by obtain ⟨q0, q1, qP, qK, qD⟩ := q; exact ⟨q0, q1, qP, va_K.moved (u := U) (U := U.calling g mk a) (Vm.Alike.refl U.vm) qK, qD⟩, va_recv hK hP (ci := 6) (q0 := 0) rfl rfl, fun U hU hW => ⟨rfl, by rw [hU], by rw [hU]; exact hP, va_K.moved hW.alike hK, hD.weaken (fun _ _ _ _ => trivial)⟩⟩ rfl rfl hl.1 rfl (lv_room (Nat.le_of_ble_eq_true rfl)) dX7_tell_45 ⟨Nat.le_of_ble_eq_true rfl, Nat.le_of_ble_eq_true rfl⟩) hS (fun q _ h => hFc q h) hFc (fun u t H53 locs ht hvm hw hB hz1 hk1 hS => ?_)
        obtain ⟨hP1, hK1, hD1⟩ := hB
        rw [ht] at hP1
        have hP := hP1
        have hD := hD1.weaken (fun _ q _ h => hFc q.1 h)
        have hP : va_P (dC, dI) vwCl (cX7 a7 h7 y s7_51) H53 := hP
        have hD : va_D A (cX7 a7 h7 y s7_51) := hD
        exact (eG13 _ _ _ _ _).mp (jn14 s7_51 _ _ _ (Option.some.inj h) hP hD hS (lv_sub hl [0, 1] rfl))
  refine (eG2 _ _ _ _ _).mpr ?_
  have h := hr5
  refine lv_icmp_ne (tgt := 17) hx hb dX7_tell_5 (by decide) (fun c55 => ?_) (fun c55 => ?_)
  · have h := zN c55 h
    refine lv_aload_n hx hb dX7_tell_17 rfl (lv_at hl 0 rfl) ?_
    obtain ⟨s7_56, hc57, h⟩ := zB_spec h
    have hFc := zFree hD hS hA
    refine va_callv (va_runV (As := []) (rest := []) ⟨hx, hb, hml, hown, hts⟩ (m_X7_wrong l dC dI y a7 h7 S7 s.heap.size s7_56 hc57) (cwV 0 hts gX7_tell_X7_wrong rfl rfl rfl (by decide +kernel) ⟨Nat.le_of_ble_eq_true rfl, Nat.le_of_ble_eq_true rfl⟩) ⟨fun a U g mk q => by obtain ⟨q0, q1, qP, qK, qD⟩ := q; exact ⟨q0, q1, qP, va_K.moved (u := U) (U := U.calling g mk a) (Vm.Alike.refl U.vm) qK, qD⟩, va_recv hK hP (ci := 6) (q0 := 0) rfl rfl, fun U hU hW => ⟨rfl, by rw [hU], by rw [hU]; exact hP, va_K.moved hW.alike hK, hD.weaken (fun _ _ _ _ => trivial)⟩⟩ rfl rfl hl.1 rfl (lv_room (Nat.le_of_ble_eq_true rfl)) dX7_tell_18 ⟨Nat.le_of_ble_eq_true rfl, Nat.le_of_ble_eq_true rfl⟩) hS (fun q _ h => hFc q h) hFc (fun u t H58 locs ht hvm hw hB hz1 hk1 hS => ?_)
    obtain ⟨hP1, hK1, hD1⟩ := hB
    rw [ht] at hP1
    have hP := hP1
    have hD := hD1.weaken (fun _ q _ h => hFc q.1 h)
    have hP : va_P (dC, dI) vwCl (cX7 a7 h7 y s7_56) H58 := hP
    have hD : va_D A (cX7 a7 h7 y s7_56) := hD
    exact (eG2 _ _ _ _ _).mp (jn3 s7_56 _ _ _ (Option.some.inj h) hP hD hS (lv_sub hl [0, 1] rfl))
  · have h := zY c55 h
    refine lv_aload_n hx hb dX7_tell_8 rfl (lv_at hl 0 rfl) ?_
    refine va_get (D := (dC, dI)) (ci := 6) (v := .int (gI S7 26)) (C := RX7) (T := TX7) (N := 49) hx hb hts inX7_ hown hK hP 0 rfl rfl 26 (by decide) (hts (.fieldLink RX7 185 "GateWheelModel" "read" "I") (List.mem_of_getElem? (i := 2) rfl)) (fun _ h9 => h9) rfl dX7_tell_9 ?_
    refine lv_bipush (v := 60) hx hb dX7_tell_12 (by decide) ?_
    refine lv_icmp_ne (tgt := 21) hx hb dX7_tell_14 (by decide) (fun c60 => ?_) (fun c60 => ?_)
    · have h := zN c60 h
      exact (eG2 _ _ _ _ _).mp (jn3 S7 _ _ _ (Option.some.inj h) hP hD hS (lv_sub hl [0, 1] rfl))
    · have h := zY c60 h
      refine lv_aload_n hx hb dX7_tell_17 rfl (lv_at hl 0 rfl) ?_
      obtain ⟨s7_61, hc62, h⟩ := zB_spec h
      have hFc := zFree hD hS hA
      refine va_callv (va_runV (As := []) (rest := []) ⟨hx, hb, hml, hown, hts⟩ (m_X7_wrong l dC dI y a7 h7 S7 s.heap.size s7_61 hc62) (cwV 0 hts gX7_tell_X7_wrong rfl rfl rfl (by decide +kernel) ⟨Nat.le_of_ble_eq_true rfl, Nat.le_of_ble_eq_true rfl⟩) ⟨fun a U g mk q => by obtain ⟨q0, q1, qP, qK, qD⟩ := q; exact ⟨q0, q1, qP, va_K.moved (u := U) (U := U.calling g mk a) (Vm.Alike.refl U.vm) qK, qD⟩, va_recv hK hP (ci := 6) (q0 := 0) rfl rfl, fun U hU hW => ⟨rfl, by rw [hU], by rw [hU]; exact hP, va_K.moved hW.alike hK, hD.weaken (fun _ _ _ _ => trivial)⟩⟩ rfl rfl hl.1 rfl (lv_room (Nat.le_of_ble_eq_true rfl)) dX7_tell_18 ⟨Nat.le_of_ble_eq_true rfl, Nat.le_of_ble_eq_true rfl⟩) hS (fun q _ h => hFc q h) hFc (fun u t H63 locs ht hvm hw hB hz1 hk1 hS => ?_)
      obtain ⟨hP1, hK1, hD1⟩ := hB
      rw [ht] at hP1
      have hP := hP1
      have hD := hD1.weaken (fun _ q _ h => hFc q.1 h)
      have hP : va_P (dC, dI) vwCl (cX7 a7 h7 y s7_61) H63 := hP
      have hD : va_D A (cX7 a7 h7 y s7_61) := hD
      exact (eG2 _ _ _ _ _).mp (jn3 s7_61 _ _ _ (Option.some.inj h) hP hD hS (lv_sub hl [0, 1] rfl))

set_option maxHeartbeats 4000000 in
set_option maxRecDepth 100000 in
theorem m_X7_ask (l : Launch) (dC : Nat → ClassId) (dI : Nat → Nat → Nat) (y : Nat → ClassId) (a7 : Nat) (h7 : Nat → Nat) (S7 : SS) (p1 : Int32) (sz : Nat) (o_7 : SS) (h : f_X7_ask S7 p1 = some o_7) : Met l yX7_ask wsX7_ask ({ frames := 2, cells := 0, slots := 0, locals := 43 }) (va_Pc [.ref a7, .int p1] (fun U => U.heap.size = sz ∧ va_P (dC, dI) vwCl (cX7 a7 h7 y S7) U.heap ∧ va_K (dC, dI) vwCl [(y 0, .int), (y 1, .long), (y 2, .byte), (y 3, .boolean)] U ∧ va_D (fun _ => True) (cX7 a7 h7 y S7))) (va_Qv (fun (_ : Unit) => True) (fun (_ : Unit) (t : State) => va_P (dC, dI) vwCl (cX7 a7 h7 y o_7) t.heap ∧ va_K (dC, dI) vwCl [(y 0, .int), (y 1, .long), (y 2, .byte), (y 3, .boolean)] t ∧ va_D (va_A (cX7 a7 h7 y S7) sz) (cX7 a7 h7 y o_7)) (va_A (cX7 a7 h7 y S7) sz)) 0 0 (va_A (cX7 a7 h7 y S7) sz) := by
  refine Met.ofW (cc := cX7_ask) (maxL := 2) (ret := none) (by decide +kernel) rfl ?_
  intro p e s m args below meth c s₁ B hml hv
  obtain ⟨rfl, hsz, hP, hK, hD0⟩ := hv
  have hx := B.exec
  have hb := B.bytes
  have hr := B.returns
  have hts := atoms_spec (ws := wsX7_ask) B.pre
  have hown : s.vm.findClass RX7 = some m.cls := findClass_of_methodNamed B.named
  have hlocks := B.notSynchronized
  have inX7_ : ∀ w ∈ wsX70, w ∈ wsX7_ask := fun _ h => List.mem_cons_of_mem _ (List.mem_append_right _ h)
  subst hsz
  have hD := hD0.self (sz := s.heap.size)
  generalize hAe : va_A (cX7 a7 h7 y S7) s.heap.size = A at hD ⊢
  have hA : ∀ q : Nat, s.heap.size ≤ q → A q := fun q h => by rw [← hAe]; exact Or.inr h
  have hS : va_S A s.heap s.heap [] := va_S.rf
  have hP : va_P (dC, dI) vwCl (cX7 a7 h7 y S7) s.heap := hP
  have hl := lv_entry ([.ref a7, .int p1]) (n := 2) (Nat.le_of_ble_eq_true rfl)
  rw [lg_entry_eq]
  generalize (lg_sl ([.ref a7, .int p1]) ++ List.replicate (2 - (lg_sl ([.ref a7, .int p1])).length) Slot.unset).toArray = ls at hl ⊢
  have hl : lv_has ls 2 [(0, .ref a7), (1, .int p1)] := hl
  refine lv_aload_n hx hb dX7_ask_0 rfl (lv_at hl 0 rfl) ?_
  refine va_get (D := (dC, dI)) (ci := 6) (v := .int (gI S7 8)) (C := RX7) (T := TX7) (N := 49) hx hb hts inX7_ hown hK hP 0 rfl rfl 8 (by decide) (hts (.fieldLink RX7 141 "GateWheelModel" "token" "I") (List.mem_of_getElem? (i := 1) rfl)) (fun _ h9 => h9) rfl dX7_ask_1 ?_
  refine lv_iconst (v := 2) hx hb dX7_ask_4 (by decide) ?_
  refine W_abs (fun GW1 eG2 => ?_)
  obtain ⟨ov4, hr5, h⟩ := zB_spec h
  have jn3 : ∀ (s7_7 : SS) (HGW1 : Heap) (locs : List Loc) (ls : Array Slot), s7_7 = ov4 → va_P (dC, dI) vwCl (cX7 a7 h7 y s7_7) HGW1 → va_D A (cX7 a7 h7 y s7_7) → va_S A s.heap HGW1 locs → lv_has ls 2 [(0, .ref a7), (1, .int p1)] → GW1 HGW1 locs 0 0 (F0 m 12 ls []) := by
    intro s7_7 HGW1 locs ls hv hP hD hS hl
    subst hv
    refine (eG2 _ _ _ _ _).mpr ?_
    refine lv_aload_n hx hb dX7_ask_12 rfl (lv_at hl 0 rfl) ?_
    obtain ⟨r8, hc9, h⟩ := zB_spec h
    have hFc := zFree hD hS hA
    refine va_calli (va_runV (As := []) (rest := []) ⟨hx, hb, hml, hown, hts⟩ (m_X7_isGood l dC dI y a7 h7 s7_7 HGW1.size r8 hc9) (cwV 0 hts gX7_ask_X7_isGood rfl rfl rfl (by decide +kernel) ⟨Nat.le_of_ble_eq_true rfl, Nat.le_of_ble_eq_true rfl⟩) ⟨fun a U g mk q => by obtain ⟨q0, q1, qP, qK, qD⟩ := q; exact ⟨q0, q1, qP, va_K.moved (u := U) (U := U.calling g mk a) (Vm.Alike.refl U.vm) qK, qD⟩, va_recv hK hP (ci := 6) (q0 := 0) rfl rfl, fun U hU hW => ⟨rfl, by rw [hU], by rw [hU]; exact hP, va_K.moved hW.alike hK, hD.weaken (fun _ _ _ _ => trivial)⟩⟩ rfl rfl hl.1 rfl (lv_room (Nat.le_of_ble_eq_true rfl)) dX7_ask_13 ⟨Nat.le_of_ble_eq_true rfl, Nat.le_of_ble_eq_true rfl⟩) hS (fun q _ h => hFc q h) hFc (fun rr11 u t H10 locs ht hvm hw hB hz1 hk1 hS => ?_)
    obtain ⟨hP1, hK1, hD1⟩ := hB
    rw [ht] at hP1
    refine zTopi hw.symm ?_
    have hP := hP1
    have hD := hD1.weaken (fun _ q _ h => hFc q.1 h)
    have hP : va_P (dC, dI) vwCl (cX7 a7 h7 y s7_7) H10 := hP
    have hD : va_D A (cX7 a7 h7 y s7_7) := hD
    refine lv_if_ne (tgt := 20) hx hb dX7_ask_16 (by decide) (fun c12 => ?_) (fun c12 => ?_)
    · have h := zN c12 h
      refine lv_aload_n hx hb dX7_ask_20 rfl (lv_at hl 0 rfl) ?_
      refine va_get (D := (dC, dI)) (ci := 6) (v := .ref (h7 20)) (C := RX7) (T := TX7) (N := 49) hx hb hts inX7_ hown hK hP 0 rfl rfl 20 (by decide) (hts (.fieldLink RX7 50 "GateWheelModel" "aName" "[J") (List.mem_of_getElem? (i := 2) rfl)) (fun _ h9 => h9) rfl dX7_ask_21 ?_
      refine lv_aload_n hx hb dX7_ask_24 rfl (lv_at hl 0 rfl) ?_
      refine va_get (D := (dC, dI)) (ci := 6) (v := .int (gI s7_7 27)) (C := RX7) (T := TX7) (N := 49) hx hb hts inX7_ hown hK hP 0 rfl rfl 27 (by decide) (hts (.fieldLink RX7 198 "GateWheelModel" "asks" "I") (List.mem_of_getElem? (i := 3) rfl)) (fun _ h9 => h9) rfl dX7_ask_25 ?_
      refine lv_aload_n hx hb dX7_ask_28 rfl (lv_at hl 0 rfl) ?_
      refine va_get (D := (dC, dI)) (ci := 6) (v := .long (gL s7_7 10)) (C := RX7) (T := TX7) (N := 49) hx hb hts inX7_ hown hK hP 0 rfl rfl 10 (by decide) (hts (.fieldLink RX7 151 "GateWheelModel" "name" "J") (List.mem_of_getElem? (i := 4) rfl)) (fun _ h9 => h9) rfl dX7_ask_29 ?_
      obtain ⟨hi13, h⟩ := zG_spec h
      refine va_last hx hb hK hP hD hS 12 1 rfl rfl hi13 dX7_ask_32 (fun H14 locs hP hD hS => ?_)
      obtain ⟨s7_15, es7_15, h⟩ := zL_spec h
      have hP : va_P (dC, dI) vwCl (cX7 a7 h7 y s7_15) H14 := by rw [es7_15]; exact hP
      have hD : va_D A (cX7 a7 h7 y s7_15) := by rw [es7_15]; exact hD
      refine lv_aload_n hx hb dX7_ask_33 rfl (lv_at hl 0 rfl) ?_
      refine va_get (D := (dC, dI)) (ci := 6) (v := .ref (h7 21)) (C := RX7) (T := TX7) (N := 49) hx hb hts inX7_ hown hK hP 0 rfl rfl 21 (by decide) (hts (.fieldLink RX7 53 "GateWheelModel" "aPlace" "[I") (List.mem_of_getElem? (i := 5) rfl)) (fun _ h9 => h9) rfl dX7_ask_34 ?_
      refine lv_aload_n hx hb dX7_ask_37 rfl (lv_at hl 0 rfl) ?_
      refine va_get (D := (dC, dI)) (ci := 6) (v := .int (gI s7_15 27)) (C := RX7) (T := TX7) (N := 49) hx hb hts inX7_ hown hK hP 0 rfl rfl 27 (by decide) (hts (.fieldLink RX7 198 "GateWheelModel" "asks" "I") (List.mem_of_getElem? (i := 3) rfl)) (fun _ h9 => h9) rfl dX7_ask_38 ?_
      refine lv_aload_n hx hb dX7_ask_41 rfl (lv_at hl 0 rfl) ?_
      refine va_get (D := (dC, dI)) (ci := 6) (v := .int (gI s7_15 6)) (C := RX7) (T := TX7) (N := 49) hx hb hts inX7_ hown hK hP 0 rfl rfl 6 (by decide) (hts (.fieldLink RX7 134 "GateWheelModel" "at" "I") (List.mem_of_getElem? (i := 6) rfl)) (fun _ h9 => h9) rfl dX7_ask_42 ?_
      obtain ⟨hi16, h⟩ := zG_spec h
      refine va_iast hx hb hK hP hD hS 13 0 rfl rfl hi16 dX7_ask_45 (fun H17 locs hP hD hS => ?_)
      obtain ⟨s7_18, es7_18, h⟩ := zL_spec h
      have hP : va_P (dC, dI) vwCl (cX7 a7 h7 y s7_18) H17 := by rw [es7_18]; exact hP
      have hD : va_D A (cX7 a7 h7 y s7_18) := by rw [es7_18]; exact hD
      refine lv_aload_n hx hb dX7_ask_46 rfl (lv_at hl 0 rfl) ?_
      refine va_get (D := (dC, dI)) (ci := 6) (v := .ref (h7 22)) (C := RX7) (T := TX7) (N := 49) hx hb hts inX7_ hown hK hP 0 rfl rfl 22 (by decide) (hts (.fieldLink RX7 56 "GateWheelModel" "aRow" "[I") (List.mem_of_getElem? (i := 7) rfl)) (fun _ h9 => h9) rfl dX7_ask_47 ?_
      refine lv_aload_n hx hb dX7_ask_50 rfl (lv_at hl 0 rfl) ?_
      refine va_get (D := (dC, dI)) (ci := 6) (v := .int (gI s7_18 27)) (C := RX7) (T := TX7) (N := 49) hx hb hts inX7_ hown hK hP 0 rfl rfl 27 (by decide) (hts (.fieldLink RX7 198 "GateWheelModel" "asks" "I") (List.mem_of_getElem? (i := 3) rfl)) (fun _ h9 => h9) rfl dX7_ask_51 ?_
      refine lv_iload_n hx hb dX7_ask_54 rfl (lv_at hl 1 rfl) ?_
      obtain ⟨hi19, h⟩ := zG_spec h
      refine va_iast hx hb hK hP hD hS 14 0 rfl rfl hi19 dX7_ask_55 (fun H20 locs hP hD hS => ?_)
      obtain ⟨s7_21, es7_21, h⟩ := zL_spec h
      have hP : va_P (dC, dI) vwCl (cX7 a7 h7 y s7_21) H20 := by rw [es7_21]; exact hP
      have hD : va_D A (cX7 a7 h7 y s7_21) := by rw [es7_21]; exact hD
      refine lv_aload_n hx hb dX7_ask_56 rfl (lv_at hl 0 rfl) ?_
      refine lv_dup hx hb dX7_ask_57 rfl ?_
      refine va_get (D := (dC, dI)) (ci := 6) (v := .int (gI s7_21 27)) (C := RX7) (T := TX7) (N := 49) hx hb hts inX7_ hown hK hP 0 rfl rfl 27 (by decide) (hts (.fieldLink RX7 198 "GateWheelModel" "asks" "I") (List.mem_of_getElem? (i := 3) rfl)) (fun _ h9 => h9) rfl dX7_ask_58 ?_
      refine lv_iconst (v := 1) hx hb dX7_ask_61 (by decide) ?_
      refine lv_iadd hx hb dX7_ask_62 ?_
      refine va_put (D := (dC, dI)) (ci := 6) (v := .int ((gI s7_21 27) + (1 : Int32))) (ty := .int) (C := RX7) (T := TX7) (N := 49) hx hb hts inX7_ tyX7 tyX7_ok nmX7 hown hK hP hD hS 0 rfl rfl 27 (by decide) (hts (.fieldLink RX7 198 "GateWheelModel" "asks" "I") (List.mem_of_getElem? (i := 3) rfl)) (fun _ h9 => h9) rfl (by decide +kernel) rfl rfl (Nat.le_of_ble_eq_true rfl) dX7_ask_63 (fun H22 locs hP hD hS => ?_)
      obtain ⟨s7_23, es7_23, h⟩ := zL_spec h
      have hP : va_P (dC, dI) vwCl (cX7 a7 h7 y s7_23) H22 := by rw [es7_23]; exact hP
      have hD : va_D A (cX7 a7 h7 y s7_23) := by rw [es7_23]; exact hD
      refine lv_aload_n hx hb dX7_ask_66 rfl (lv_at hl 0 rfl) ?_
      obtain ⟨s7_24, hc25, h⟩ := zB_spec h
      have hFc := zFree hD hS hA
      refine va_callv (va_runV (As := []) (rest := []) ⟨hx, hb, hml, hown, hts⟩ (m_X7_next l dC dI y a7 h7 s7_23 H22.size s7_24 hc25) (cwV 0 hts gX7_ask_X7_next rfl rfl rfl (by decide +kernel) ⟨Nat.le_of_ble_eq_true rfl, Nat.le_of_ble_eq_true rfl⟩) ⟨fun a U g mk q => by obtain ⟨q0, q1, qP, qK, qD⟩ := q; exact ⟨q0, q1, qP, va_K.moved (u := U) (U := U.calling g mk a) (Vm.Alike.refl U.vm) qK, qD⟩, va_recv hK hP (ci := 6) (q0 := 0) rfl rfl, fun U hU hW => ⟨rfl, by rw [hU], by rw [hU]; exact hP, va_K.moved hW.alike hK, hD.weaken (fun _ _ _ _ => trivial)⟩⟩ rfl rfl hl.1 rfl (lv_room (Nat.le_of_ble_eq_true rfl)) dX7_ask_67 ⟨Nat.le_of_ble_eq_true rfl, Nat.le_of_ble_eq_true rfl⟩) hS (fun q _ h => hFc q h) hFc (fun u t H26 locs ht hvm hw hB hz1 hk1 hS => ?_)
      obtain ⟨hP1, hK1, hD1⟩ := hB
      rw [ht] at hP1
      have hP := hP1
      have hD := hD1.weaken (fun _ q _ h => hFc q.1 h)
      have hP : va_P (dC, dI) vwCl (cX7 a7 h7 y s7_24) H26 := hP
      have hD : va_D A (cX7 a7 h7 y s7_24) := hD
      have ho0 : s7_24 = o_7 := congrArg (fun z : SS => z) (Option.some.inj h)
      exact W.vret hx hb hr (fun t ht hW => ⟨⟨(), rfl, trivial, by rw [ht]; rw [← ho0]; exact hP, va_K.moved hW.alike hK, by rw [← ho0]; exact hD⟩, hS.F ht⟩) hS.2.2 dX7_ask_70
    · have h := zY c12 h
      have ho0 : s7_7 = o_7 := congrArg (fun z : SS => z) (Option.some.inj h)
      exact W.vret hx hb hr (fun t ht hW => ⟨⟨(), rfl, trivial, by rw [ht]; rw [← ho0]; exact hP, va_K.moved hW.alike hK, by rw [← ho0]; exact hD⟩, hS.F ht⟩) hS.2.2 dX7_ask_19
  refine (eG2 _ _ _ _ _).mpr ?_
  have h := hr5
  refine lv_icmp_eq (tgt := 12) hx hb dX7_ask_5 (by decide) (fun c28 => ?_) (fun c28 => ?_)
  · have h := zY c28 h
    exact (eG2 _ _ _ _ _).mp (jn3 S7 _ _ _ (Option.some.inj h) hP hD hS (lv_sub hl [0, 1] rfl))
  · have h := zN c28 h
    refine lv_aload_n hx hb dX7_ask_8 rfl (lv_at hl 0 rfl) ?_
    obtain ⟨s7_29, hc30, h⟩ := zB_spec h
    have hFc := zFree hD hS hA
    refine va_callv (va_runV (As := []) (rest := []) ⟨hx, hb, hml, hown, hts⟩ (m_X7_wrong l dC dI y a7 h7 S7 s.heap.size s7_29 hc30) (cwV 0 hts gX7_ask_X7_wrong rfl rfl rfl (by decide +kernel) ⟨Nat.le_of_ble_eq_true rfl, Nat.le_of_ble_eq_true rfl⟩) ⟨fun a U g mk q => by obtain ⟨q0, q1, qP, qK, qD⟩ := q; exact ⟨q0, q1, qP, va_K.moved (u := U) (U := U.calling g mk a) (Vm.Alike.refl U.vm) qK, qD⟩, va_recv hK hP (ci := 6) (q0 := 0) rfl rfl, fun U hU hW => ⟨rfl, by rw [hU], by rw [hU]; exact hP, va_K.moved hW.alike hK, hD.weaken (fun _ _ _ _ => trivial)⟩⟩ rfl rfl hl.1 rfl (lv_room (Nat.le_of_ble_eq_true rfl)) dX7_ask_9 ⟨Nat.le_of_ble_eq_true rfl, Nat.le_of_ble_eq_true rfl⟩) hS (fun q _ h => hFc q h) hFc (fun u t H31 locs ht hvm hw hB hz1 hk1 hS => ?_)
    obtain ⟨hP1, hK1, hD1⟩ := hB
    rw [ht] at hP1
    have hP := hP1
    have hD := hD1.weaken (fun _ q _ h => hFc q.1 h)
    have hP : va_P (dC, dI) vwCl (cX7 a7 h7 y s7_29) H31 := hP
    have hD : va_D A (cX7 a7 h7 y s7_29) := hD
    exact (eG2 _ _ _ _ _).mp (jn3 s7_29 _ _ _ (Option.some.inj h) hP hD hS (lv_sub hl [0, 1] rfl))

set_option maxHeartbeats 4000000 in
set_option maxRecDepth 100000 in
theorem m_X7_tellAll (l : Launch) (dC : Nat → ClassId) (dI : Nat → Nat → Nat) (y : Nat → ClassId) (a7 : Nat) (h7 : Nat → Nat) (S7 : SS) (p1 : Int32) (sz : Nat) (o_7 : SS) (h : f_X7_tellAll S7 p1 = some o_7) : Met l yX7_tellAll wsX7_tellAll ({ frames := 3, cells := 0, slots := 0, locals := 65 }) (va_Pc [.ref a7, .int p1] (fun U => U.heap.size = sz ∧ va_P (dC, dI) vwCl (cX7 a7 h7 y S7) U.heap ∧ va_K (dC, dI) vwCl [(y 0, .int), (y 1, .long), (y 2, .byte), (y 3, .boolean)] U ∧ va_D (fun _ => True) (cX7 a7 h7 y S7))) (va_Qv (fun (_ : Unit) => True) (fun (_ : Unit) (t : State) => va_P (dC, dI) vwCl (cX7 a7 h7 y o_7) t.heap ∧ va_K (dC, dI) vwCl [(y 0, .int), (y 1, .long), (y 2, .byte), (y 3, .boolean)] t ∧ va_D (va_A (cX7 a7 h7 y S7) sz) (cX7 a7 h7 y o_7)) (va_A (cX7 a7 h7 y S7) sz)) 0 0 (va_A (cX7 a7 h7 y S7) sz) := by
  refine Met.ofW (cc := cX7_tellAll) (maxL := 4) (ret := none) (by decide +kernel) rfl ?_
  intro p e s m args below meth c s₁ B hml hv
  obtain ⟨rfl, hsz, hP, hK, hD0⟩ := hv
  have hx := B.exec
  have hb := B.bytes
  have hr := B.returns
  have hts := atoms_spec (ws := wsX7_tellAll) B.pre
  have hown : s.vm.findClass RX7 = some m.cls := findClass_of_methodNamed B.named
  have hlocks := B.notSynchronized
  subst hsz
  have hD := hD0.self (sz := s.heap.size)
  generalize hAe : va_A (cX7 a7 h7 y S7) s.heap.size = A at hD ⊢
  have hA : ∀ q : Nat, s.heap.size ≤ q → A q := fun q h => by rw [← hAe]; exact Or.inr h
  have hS : va_S A s.heap s.heap [] := va_S.rf
  have hP : va_P (dC, dI) vwCl (cX7 a7 h7 y S7) s.heap := hP
  have hl := lv_entry ([.ref a7, .int p1]) (n := 4) (Nat.le_of_ble_eq_true rfl)
  rw [lg_entry_eq]
  generalize (lg_sl ([.ref a7, .int p1]) ++ List.replicate (4 - (lg_sl ([.ref a7, .int p1])).length) Slot.unset).toArray = ls at hl ⊢
  have hl : lv_has ls 4 [(0, .ref a7), (1, .int p1)] := hl
  refine lv_iconst (v := 1) hx hb dX7_tellAll_0 (by decide) ?_
  refine lv_istore_n (lv' := [(2, .int 1), (0, .ref a7), (1, .int p1)]) hx hb dX7_tellAll_1 rfl hl (by decide) rfl (fun ls hl => ?_)
  refine W_abs (fun GW1 eG2 => ?_)
  obtain ⟨ov5, hi6, h⟩ := zB_spec h
  have je3 : ∀ (s7_10 : SS) (HGW1e : Heap) (locs : List Loc) (ls : Array Slot), s7_10 = ov5 → va_P (dC, dI) vwCl (cX7 a7 h7 y s7_10) HGW1e → va_D A (cX7 a7 h7 y s7_10) → va_S A s.heap HGW1e locs → lv_has ls 4 [(0, .ref a7)] → GW1 HGW1e locs 0 0 (F0 m 48 ls []) := by
    intro s7_10 HGW1e locs ls hv hP hD hS hl
    subst hv
    refine (eG2 _ _ _ _ _).mpr ?_
    refine lv_aload_n hx hb dX7_tellAll_48 rfl (lv_at hl 0 rfl) ?_
    obtain ⟨r11, hc12, h⟩ := zB_spec h
    have hFc := zFree hD hS hA
    refine va_calli (va_runV (As := []) (rest := []) ⟨hx, hb, hml, hown, hts⟩ (m_X7_isGood l dC dI y a7 h7 s7_10 HGW1e.size r11 hc12) (cwV 0 hts gX7_tellAll_X7_isGood rfl rfl rfl (by decide +kernel) ⟨Nat.le_of_ble_eq_true rfl, Nat.le_of_ble_eq_true rfl⟩) ⟨fun a U g mk q => by obtain ⟨q0, q1, qP, qK, qD⟩ := q; exact ⟨q0, q1, qP, va_K.moved (u := U) (U := U.calling g mk a) (Vm.Alike.refl U.vm) qK, qD⟩, va_recv hK hP (ci := 6) (q0 := 0) rfl rfl, fun U hU hW => ⟨rfl, by rw [hU], by rw [hU]; exact hP, va_K.moved hW.alike hK, hD.weaken (fun _ _ _ _ => trivial)⟩⟩ rfl rfl hl.1 rfl (lv_room (Nat.le_of_ble_eq_true rfl)) dX7_tellAll_49 ⟨Nat.le_of_ble_eq_true rfl, Nat.le_of_ble_eq_true rfl⟩) hS (fun q _ h => hFc q h) hFc (fun rr14 u t H13 locs ht hvm hw hB hz1 hk1 hS => ?_)
    obtain ⟨hP1, hK1, hD1⟩ := hB
    rw [ht] at hP1
    refine zTopi hw.symm ?_
    have hP := hP1
    have hD := hD1.weaken (fun _ q _ h => hFc q.1 h)
    have hP : va_P (dC, dI) vwCl (cX7 a7 h7 y s7_10) H13 := hP
    have hD : va_D A (cX7 a7 h7 y s7_10) := hD
    refine lv_if_eq (tgt := 61) hx hb dX7_tellAll_52 (by decide) (fun c15 => ?_) (fun c15 => ?_)
    · have h := zY c15 h
      have ho0 : s7_10 = o_7 := congrArg (fun z : SS => z) (Option.some.inj h)
      exact W.vret hx hb hr (fun t ht hW => ⟨⟨(), rfl, trivial, by rw [ht]; rw [← ho0]; exact hP, va_K.moved hW.alike hK, by rw [← ho0]; exact hD⟩, hS.F ht⟩) hS.2.2 dX7_tellAll_61
    · have h := zN c15 h
      refine lv_aload_n hx hb dX7_tellAll_55 rfl (lv_at hl 0 rfl) ?_
      refine lv_bipush (v := 59) hx hb dX7_tellAll_56 (by decide) ?_
      obtain ⟨s7_16, hc17, h⟩ := zB_spec h
      have hFc := zFree hD hS hA
      refine va_callv (va_runV (As := [.int 59]) (rest := []) ⟨hx, hb, hml, hown, hts⟩ (m_X7_must l dC dI y a7 h7 s7_10 (59 : Int32) H13.size s7_16 hc17) (cwV 1 hts gX7_tellAll_X7_must rfl rfl rfl (by decide +kernel) ⟨Nat.le_of_ble_eq_true rfl, Nat.le_of_ble_eq_true rfl⟩) ⟨fun a U g mk q => by obtain ⟨q0, q1, qP, qK, qD⟩ := q; exact ⟨q0, q1, qP, va_K.moved (u := U) (U := U.calling g mk a) (Vm.Alike.refl U.vm) qK, qD⟩, va_recv hK hP (ci := 6) (q0 := 0) rfl rfl, fun U hU hW => ⟨rfl, by rw [hU], by rw [hU]; exact hP, va_K.moved hW.alike hK, hD.weaken (fun _ _ _ _ => trivial)⟩⟩ rfl rfl hl.1 rfl (lv_room (Nat.le_of_ble_eq_true rfl)) dX7_tellAll_58 ⟨Nat.le_of_ble_eq_true rfl, Nat.le_of_ble_eq_true rfl⟩) hS (fun q _ h => hFc q h) hFc (fun u t H18 locs ht hvm hw hB hz1 hk1 hS => ?_)
      obtain ⟨hP1, hK1, hD1⟩ := hB
      rw [ht] at hP1
      have hP := hP1
      have hD := hD1.weaken (fun _ q _ h => hFc q.1 h)
      have hP : va_P (dC, dI) vwCl (cX7 a7 h7 y s7_16) H18 := hP
      have hD : va_D A (cX7 a7 h7 y s7_16) := hD
      have ho0 : s7_16 = o_7 := congrArg (fun z : SS => z) (Option.some.inj h)
      exact W.vret hx hb hr (fun t ht hW => ⟨⟨(), rfl, trivial, by rw [ht]; rw [← ho0]; exact hP, va_K.moved hW.alike hK, by rw [← ho0]; exact hD⟩, hS.F ht⟩) hS.2.2 dX7_tellAll_61
  have lp4 : ∀ (n : Nat) (v20 : Int32) (s7_21 : SS) (HGW1 : Heap) (locs : List Loc) (ls : Array Slot), zI (b_X7_tellAll_2 p1) n (v20, s7_21) = some ov5 → va_P (dC, dI) vwCl (cX7 a7 h7 y s7_21) HGW1 → va_D A (cX7 a7 h7 y s7_21) → va_S A s.heap HGW1 locs → lv_has ls 4 [(0, .ref a7), (1, .int p1), (2, .int v20)] → GW1 HGW1 locs 0 0 (F0 m 2 ls []) := by
    intro n
    induction n with
    | zero =>
      intro v20 s7_21 HGW1 locs ls hi6 hP hD hS hl
      exact (zI_0 hi6).elim
    | succ n ihlp4 =>
      intro v20 s7_21 HGW1 locs ls hi6 hP hD hS hl
      refine (eG2 _ _ _ _ _).mpr ?_
      obtain ⟨xx9, h, hx8⟩ := zI_spec hi6
      refine lv_iload_n hx hb dX7_tellAll_2 rfl (lv_at hl 2 rfl) ?_
      refine lv_if_eq (tgt := 48) hx hb dX7_tellAll_3 (by decide) (fun c22 => ?_) (fun c22 => ?_)
      · have h := zY c22 h
        exact (eG2 _ _ _ _ _).mp (je3 s7_21 _ _ _ (zI_r h hx8) hP hD hS (lv_sub hl [0] rfl))
      · have h := zN c22 h
        refine lv_aload_n hx hb dX7_tellAll_6 rfl (lv_at hl 0 rfl) ?_
        obtain ⟨r23, hc24, h⟩ := zB_spec h
        have hFc := zFree hD hS hA
        refine va_calli (va_runV (As := []) (rest := []) ⟨hx, hb, hml, hown, hts⟩ (m_X7_isGood l dC dI y a7 h7 s7_21 HGW1.size r23 hc24) (cwV 0 hts gX7_tellAll_X7_isGood rfl rfl rfl (by decide +kernel) ⟨Nat.le_of_ble_eq_true rfl, Nat.le_of_ble_eq_true rfl⟩) ⟨fun a U g mk q => by obtain ⟨q0, q1, qP, qK, qD⟩ := q; exact ⟨q0, q1, qP, va_K.moved (u := U) (U := U.calling g mk a) (Vm.Alike.refl U.vm) qK, qD⟩, va_recv hK hP (ci := 6) (q0 := 0) rfl rfl, fun U hU hW => ⟨rfl, by rw [hU], by rw [hU]; exact hP, va_K.moved hW.alike hK, hD.weaken (fun _ _ _ _ => trivial)⟩⟩ rfl rfl hl.1 rfl (lv_room (Nat.le_of_ble_eq_true rfl)) dX7_tellAll_7 ⟨Nat.le_of_ble_eq_true rfl, Nat.le_of_ble_eq_true rfl⟩) hS (fun q _ h => hFc q h) hFc (fun rr26 u t H25 locs ht hvm hw hB hz1 hk1 hS => ?_)
        obtain ⟨hP1, hK1, hD1⟩ := hB
        rw [ht] at hP1
        refine zTopi hw.symm ?_
        have hP := hP1
        have hD := hD1.weaken (fun _ q _ h => hFc q.1 h)
        have hP : va_P (dC, dI) vwCl (cX7 a7 h7 y s7_21) H25 := hP
        have hD : va_D A (cX7 a7 h7 y s7_21) := hD
        refine lv_if_eq (tgt := 48) hx hb dX7_tellAll_10 (by decide) (fun c27 => ?_) (fun c27 => ?_)
        · have h := zY c27 h
          exact (eG2 _ _ _ _ _).mp (je3 s7_21 _ _ _ (zI_r h hx8) hP hD hS (lv_sub hl [0] rfl))
        · have h := zN c27 h
          refine lv_aload_n hx hb dX7_tellAll_13 rfl (lv_at hl 0 rfl) ?_
          obtain ⟨s7_28, hc29, h⟩ := zB_spec h
          have hFc := zFree hD hS hA
          refine va_callv (va_runV (As := []) (rest := []) ⟨hx, hb, hml, hown, hts⟩ (m_X7_next l dC dI y a7 h7 s7_21 H25.size s7_28 hc29) (cwV 0 hts gX7_tellAll_X7_next rfl rfl rfl (by decide +kernel) ⟨Nat.le_of_ble_eq_true rfl, Nat.le_of_ble_eq_true rfl⟩) ⟨fun a U g mk q => by obtain ⟨q0, q1, qP, qK, qD⟩ := q; exact ⟨q0, q1, qP, va_K.moved (u := U) (U := U.calling g mk a) (Vm.Alike.refl U.vm) qK, qD⟩, va_recv hK hP (ci := 6) (q0 := 0) rfl rfl, fun U hU hW => ⟨rfl, by rw [hU], by rw [hU]; exact hP, va_K.moved hW.alike hK, hD.weaken (fun _ _ _ _ => trivial)⟩⟩ rfl rfl hl.1 rfl (lv_room (Nat.le_of_ble_eq_true rfl)) dX7_tellAll_14 ⟨Nat.le_of_ble_eq_true rfl, Nat.le_of_ble_eq_true rfl⟩) hS (fun q _ h => hFc q h) hFc (fun u t H30 locs ht hvm hw hB hz1 hk1 hS => ?_)
          obtain ⟨hP1, hK1, hD1⟩ := hB
          rw [ht] at hP1
          have hP := hP1
          have hD := hD1.weaken (fun _ q _ h => hFc q.1 h)
          have hP : va_P (dC, dI) vwCl (cX7 a7 h7 y s7_28) H30 := hP
          have hD : va_D A (cX7 a7 h7 y s7_28) := hD
          refine lv_aload_n hx hb dX7_tellAll_17 rfl (lv_at hl 0 rfl) ?_
          refine lv_iload_n hx hb dX7_tellAll_18 rfl (lv_at hl 1 rfl) ?_
          obtain ⟨⟨r32, s7_33⟩, hc34, h⟩ := zB_spec h
          have hFc := zFree hD hS hA
          refine va_calli (va_runV (As := [.int p1]) (rest := []) ⟨hx, hb, hml, hown, hts⟩ (m_X7_tell l dC dI y a7 h7 s7_28 p1 H30.size r32 s7_33 hc34) (cwV 1 hts gX7_tellAll_X7_tell rfl rfl rfl (by decide +kernel) ⟨Nat.le_of_ble_eq_true rfl, Nat.le_of_ble_eq_true rfl⟩) ⟨fun a U g mk q => by obtain ⟨q0, q1, qP, qK, qD⟩ := q; exact ⟨q0, q1, qP, va_K.moved (u := U) (U := U.calling g mk a) (Vm.Alike.refl U.vm) qK, qD⟩, va_recv hK hP (ci := 6) (q0 := 0) rfl rfl, fun U hU hW => ⟨rfl, by rw [hU], by rw [hU]; exact hP, va_K.moved hW.alike hK, hD.weaken (fun _ _ _ _ => trivial)⟩⟩ rfl rfl hl.1 rfl (lv_room (Nat.le_of_ble_eq_true rfl)) dX7_tellAll_19 ⟨Nat.le_of_ble_eq_true rfl, Nat.le_of_ble_eq_true rfl⟩) hS (fun q _ h => hFc q h) hFc (fun rr36 u t H35 locs ht hvm hw hB hz1 hk1 hS => ?_)
          obtain ⟨hP1, hK1, hD1⟩ := hB
          rw [ht] at hP1
          refine zTopi hw.symm ?_
          have hP := hP1
          have hD := hD1.weaken (fun _ q _ h => hFc q.1 h)
          have hP : va_P (dC, dI) vwCl (cX7 a7 h7 y s7_33) H35 := hP
          have hD : va_D A (cX7 a7 h7 y s7_33) := hD
          refine lv_istore_n (lv' := [(3, .int r32), (0, .ref a7), (1, .int p1), (2, .int v20)]) hx hb dX7_tellAll_22 rfl hl (by decide) rfl (fun ls hl => ?_)
          refine lv_aload_n hx hb dX7_tellAll_23 rfl (lv_at hl 1 rfl) ?_
          obtain ⟨r37, hc38, h⟩ := zB_spec h
          have hFc := zFree hD hS hA
          refine va_calli (va_runV (As := []) (rest := []) ⟨hx, hb, hml, hown, hts⟩ (m_X7_isGood l dC dI y a7 h7 s7_33 H35.size r37 hc38) (cwV 0 hts gX7_tellAll_X7_isGood rfl rfl rfl (by decide +kernel) ⟨Nat.le_of_ble_eq_true rfl, Nat.le_of_ble_eq_true rfl⟩) ⟨fun a U g mk q => by obtain ⟨q0, q1, qP, qK, qD⟩ := q; exact ⟨q0, q1, qP, va_K.moved (u := U) (U := U.calling g mk a) (Vm.Alike.refl U.vm) qK, qD⟩, va_recv hK hP (ci := 6) (q0 := 0) rfl rfl, fun U hU hW => ⟨rfl, by rw [hU], by rw [hU]; exact hP, va_K.moved hW.alike hK, hD.weaken (fun _ _ _ _ => trivial)⟩⟩ rfl rfl hl.1 rfl (lv_room (Nat.le_of_ble_eq_true rfl)) dX7_tellAll_24 ⟨Nat.le_of_ble_eq_true rfl, Nat.le_of_ble_eq_true rfl⟩) hS (fun q _ h => hFc q h) hFc (fun rr40 u t H39 locs ht hvm hw hB hz1 hk1 hS => ?_)
          obtain ⟨hP1, hK1, hD1⟩ := hB
          rw [ht] at hP1
          refine zTopi hw.symm ?_
          have hP := hP1
          have hD := hD1.weaken (fun _ q _ h => hFc q.1 h)
          have hP : va_P (dC, dI) vwCl (cX7 a7 h7 y s7_33) H39 := hP
          have hD : va_D A (cX7 a7 h7 y s7_33) := hD
          refine lv_if_eq (tgt := 43) hx hb dX7_tellAll_27 (by decide) (fun c41 => ?_) (fun c41 => ?_)
          · have h := zY c41 h
            refine lv_iconst (v := 0) hx hb dX7_tellAll_43 (by decide) ?_
            refine lv_istore_n (lv' := [(2, .int 0), (3, .int r32), (0, .ref a7), (1, .int p1)]) hx hb dX7_tellAll_44 rfl hl (by decide) rfl (fun ls hl => ?_)
            refine lv_goto (tgt := 2) hx hb dX7_tellAll_45 (by decide) ?_
            have h := zI_l h hx8
            exact (eG2 _ _ _ _ _).mp (ihlp4 (0 : Int32) s7_33 _ _ _ h hP hD hS (lv_sub hl [2, 3, 0] rfl))
          · have h := zN c41 h
            refine lv_aload_n hx hb dX7_tellAll_30 rfl (lv_at hl 1 rfl) ?_
            refine lv_bipush (v := 44) hx hb dX7_tellAll_31 (by decide) ?_
            obtain ⟨r42, hc43, h⟩ := zB_spec h
            have hFc := zFree hD hS hA
            refine va_calli (va_runV (As := [.int 44]) (rest := []) ⟨hx, hb, hml, hown, hts⟩ (m_X7_is l dC dI y a7 h7 s7_33 (44 : Int32) H39.size r42 hc43) (cwV 1 hts gX7_tellAll_X7_is rfl rfl rfl (by decide +kernel) ⟨Nat.le_of_ble_eq_true rfl, Nat.le_of_ble_eq_true rfl⟩) ⟨fun a U g mk q => by obtain ⟨q0, q1, qP, qK, qD⟩ := q; exact ⟨q0, q1, qP, va_K.moved (u := U) (U := U.calling g mk a) (Vm.Alike.refl U.vm) qK, qD⟩, va_recv hK hP (ci := 6) (q0 := 0) rfl rfl, fun U hU hW => ⟨rfl, by rw [hU], by rw [hU]; exact hP, va_K.moved hW.alike hK, hD.weaken (fun _ _ _ _ => trivial)⟩⟩ rfl rfl hl.1 rfl (lv_room (Nat.le_of_ble_eq_true rfl)) dX7_tellAll_33 ⟨Nat.le_of_ble_eq_true rfl, Nat.le_of_ble_eq_true rfl⟩) hS (fun q _ h => hFc q h) hFc (fun rr45 u t H44 locs ht hvm hw hB hz1 hk1 hS => ?_)
            obtain ⟨hP1, hK1, hD1⟩ := hB
            rw [ht] at hP1
            refine zTopi hw.symm ?_
            have hP := hP1
            have hD := hD1.weaken (fun _ q _ h => hFc q.1 h)
            have hP : va_P (dC, dI) vwCl (cX7 a7 h7 y s7_33) H44 := hP
            have hD : va_D A (cX7 a7 h7 y s7_33) := hD
            refine lv_if_eq (tgt := 43) hx hb dX7_tellAll_36 (by decide) (fun c46 => ?_) (fun c46 => ?_)
            · have h := zY c46 h
              refine lv_iconst (v := 0) hx hb dX7_tellAll_43 (by decide) ?_
              refine lv_istore_n (lv' := [(2, .int 0), (3, .int r32), (0, .ref a7), (1, .int p1)]) hx hb dX7_tellAll_44 rfl hl (by decide) rfl (fun ls hl => ?_)
              refine lv_goto (tgt := 2) hx hb dX7_tellAll_45 (by decide) ?_
              have h := zI_l h hx8
              exact (eG2 _ _ _ _ _).mp (ihlp4 (0 : Int32) s7_33 _ _ _ h hP hD hS (lv_sub hl [2, 3, 0] rfl))
            · have h := zN c46 h
              refine lv_iconst (v := 1) hx hb dX7_tellAll_39 (by decide) ?_
              refine lv_goto (tgt := 44) hx hb dX7_tellAll_40 (by decide) ?_
              refine lv_istore_n (lv' := [(2, .int 1), (3, .int r32), (0, .ref a7), (1, .int p1)]) hx hb dX7_tellAll_44 rfl hl (by decide) rfl (fun ls hl => ?_)
              refine lv_goto (tgt := 2) hx hb dX7_tellAll_45 (by decide) ?_
              have h := zI_l h hx8
              exact (eG2 _ _ _ _ _).mp (ihlp4 (1 : Int32) s7_33 _ _ _ h hP hD hS (lv_sub hl [2, 3, 0] rfl))
  exact lp4 zF (1 : Int32) S7 _ _ _ hi6 hP hD hS (lv_sub hl [1, 2, 0] rfl)

set_option maxHeartbeats 4000000 in
set_option maxRecDepth 100000 in
theorem m_X7_readRegister (l : Launch) (dC : Nat → ClassId) (dI : Nat → Nat → Nat) (y : Nat → ClassId) (a7 : Nat) (h7 : Nat → Nat) (S7 : SS) (sz : Nat) (o_7 : SS) (h : f_X7_readRegister S7 = some o_7) : Met l yX7_readRegister wsX7_readRegister ({ frames := 3, cells := 0, slots := 0, locals := 65 }) (va_Pc [.ref a7] (fun U => U.heap.size = sz ∧ va_P (dC, dI) vwCl (cX7 a7 h7 y S7) U.heap ∧ va_K (dC, dI) vwCl [(y 0, .int), (y 1, .long), (y 2, .byte), (y 3, .boolean)] U ∧ va_D (fun _ => True) (cX7 a7 h7 y S7))) (va_Qv (fun (_ : Unit) => True) (fun (_ : Unit) (t : State) => va_P (dC, dI) vwCl (cX7 a7 h7 y o_7) t.heap ∧ va_K (dC, dI) vwCl [(y 0, .int), (y 1, .long), (y 2, .byte), (y 3, .boolean)] t ∧ va_D (va_A (cX7 a7 h7 y S7) sz) (cX7 a7 h7 y o_7)) (va_A (cX7 a7 h7 y S7) sz)) 0 0 (va_A (cX7 a7 h7 y S7) sz) := by
  refine Met.ofW (cc := cX7_readRegister) (maxL := 2) (ret := none) (by decide +kernel) rfl ?_
  intro p e s m args below meth c s₁ B hml hv
  obtain ⟨rfl, hsz, hP, hK, hD0⟩ := hv
  have hx := B.exec
  have hb := B.bytes
  have hr := B.returns
  have hts := atoms_spec (ws := wsX7_readRegister) B.pre
  have hown : s.vm.findClass RX7 = some m.cls := findClass_of_methodNamed B.named
  have hlocks := B.notSynchronized
  have inX7_ : ∀ w ∈ wsX70, w ∈ wsX7_readRegister := fun _ h => List.mem_cons_of_mem _ (List.mem_append_right _ h)
  subst hsz
  have hD := hD0.self (sz := s.heap.size)
  generalize hAe : va_A (cX7 a7 h7 y S7) s.heap.size = A at hD ⊢
  have hA : ∀ q : Nat, s.heap.size ≤ q → A q := fun q h => by rw [← hAe]; exact Or.inr h
  have hS : va_S A s.heap s.heap [] := va_S.rf
  have hP : va_P (dC, dI) vwCl (cX7 a7 h7 y S7) s.heap := hP
  have hl := lv_entry ([.ref a7]) (n := 2) (Nat.le_of_ble_eq_true rfl)
  rw [lg_entry_eq]
  generalize (lg_sl ([.ref a7]) ++ List.replicate (2 - (lg_sl ([.ref a7])).length) Slot.unset).toArray = ls at hl ⊢
  have hl : lv_has ls 2 [(0, .ref a7)] := hl
  refine lv_aload_n hx hb dX7_readRegister_0 rfl (lv_at hl 0 rfl) ?_
  obtain ⟨s7_1, hc2, h⟩ := zB_spec h
  have hFc := zFree hD hS hA
  refine va_callv (va_runV (As := []) (rest := []) ⟨hx, hb, hml, hown, hts⟩ (m_X7_next l dC dI y a7 h7 S7 s.heap.size s7_1 hc2) (cwV 0 hts gX7_readRegister_X7_next rfl rfl rfl (by decide +kernel) ⟨Nat.le_of_ble_eq_true rfl, Nat.le_of_ble_eq_true rfl⟩) ⟨fun a U g mk q => by obtain ⟨q0, q1, qP, qK, qD⟩ := q; exact ⟨q0, q1, qP, va_K.moved (u := U) (U := U.calling g mk a) (Vm.Alike.refl U.vm) qK, qD⟩, va_recv hK hP (ci := 6) (q0 := 0) rfl rfl, fun U hU hW => ⟨rfl, by rw [hU], by rw [hU]; exact hP, va_K.moved hW.alike hK, hD.weaken (fun _ _ _ _ => trivial)⟩⟩ rfl rfl hl.1 rfl (lv_room (Nat.le_of_ble_eq_true rfl)) dX7_readRegister_1 ⟨Nat.le_of_ble_eq_true rfl, Nat.le_of_ble_eq_true rfl⟩) hS (fun q _ h => hFc q h) hFc (fun u t H3 locs ht hvm hw hB hz1 hk1 hS => ?_)
  obtain ⟨hP1, hK1, hD1⟩ := hB
  rw [ht] at hP1
  have hP := hP1
  have hD := hD1.weaken (fun _ q _ h => hFc q.1 h)
  have hP : va_P (dC, dI) vwCl (cX7 a7 h7 y s7_1) H3 := hP
  have hD : va_D A (cX7 a7 h7 y s7_1) := hD
  refine lv_aload_n hx hb dX7_readRegister_4 rfl (lv_at hl 0 rfl) ?_
  refine lv_iconst (v := 3) hx hb dX7_readRegister_5 (by decide) ?_
  obtain ⟨⟨r5, s7_6⟩, hc7, h⟩ := zB_spec h
  have hFc := zFree hD hS hA
  refine va_calli (va_runV (As := [.int 3]) (rest := []) ⟨hx, hb, hml, hown, hts⟩ (m_X7_tell l dC dI y a7 h7 s7_1 (3 : Int32) H3.size r5 s7_6 hc7) (cwV 1 hts gX7_readRegister_X7_tell rfl rfl rfl (by decide +kernel) ⟨Nat.le_of_ble_eq_true rfl, Nat.le_of_ble_eq_true rfl⟩) ⟨fun a U g mk q => by obtain ⟨q0, q1, qP, qK, qD⟩ := q; exact ⟨q0, q1, qP, va_K.moved (u := U) (U := U.calling g mk a) (Vm.Alike.refl U.vm) qK, qD⟩, va_recv hK hP (ci := 6) (q0 := 0) rfl rfl, fun U hU hW => ⟨rfl, by rw [hU], by rw [hU]; exact hP, va_K.moved hW.alike hK, hD.weaken (fun _ _ _ _ => trivial)⟩⟩ rfl rfl hl.1 rfl (lv_room (Nat.le_of_ble_eq_true rfl)) dX7_readRegister_6 ⟨Nat.le_of_ble_eq_true rfl, Nat.le_of_ble_eq_true rfl⟩) hS (fun q _ h => hFc q h) hFc (fun rr9 u t H8 locs ht hvm hw hB hz1 hk1 hS => ?_)
  obtain ⟨hP1, hK1, hD1⟩ := hB
  rw [ht] at hP1
  refine zTopi hw.symm ?_
  have hP := hP1
  have hD := hD1.weaken (fun _ q _ h => hFc q.1 h)
  have hP : va_P (dC, dI) vwCl (cX7 a7 h7 y s7_6) H8 := hP
  have hD : va_D A (cX7 a7 h7 y s7_6) := hD
  refine lv_istore_n (lv' := [(1, .int r5), (0, .ref a7)]) hx hb dX7_readRegister_9 rfl hl (by decide) rfl (fun ls hl => ?_)
  refine lv_aload_n hx hb dX7_readRegister_10 rfl (lv_at hl 1 rfl) ?_
  obtain ⟨r10, hc11, h⟩ := zB_spec h
  have hFc := zFree hD hS hA
  refine va_calli (va_runV (As := []) (rest := []) ⟨hx, hb, hml, hown, hts⟩ (m_X7_isGood l dC dI y a7 h7 s7_6 H8.size r10 hc11) (cwV 0 hts gX7_readRegister_X7_isGood rfl rfl rfl (by decide +kernel) ⟨Nat.le_of_ble_eq_true rfl, Nat.le_of_ble_eq_true rfl⟩) ⟨fun a U g mk q => by obtain ⟨q0, q1, qP, qK, qD⟩ := q; exact ⟨q0, q1, qP, va_K.moved (u := U) (U := U.calling g mk a) (Vm.Alike.refl U.vm) qK, qD⟩, va_recv hK hP (ci := 6) (q0 := 0) rfl rfl, fun U hU hW => ⟨rfl, by rw [hU], by rw [hU]; exact hP, va_K.moved hW.alike hK, hD.weaken (fun _ _ _ _ => trivial)⟩⟩ rfl rfl hl.1 rfl (lv_room (Nat.le_of_ble_eq_true rfl)) dX7_readRegister_11 ⟨Nat.le_of_ble_eq_true rfl, Nat.le_of_ble_eq_true rfl⟩) hS (fun q _ h => hFc q h) hFc (fun rr13 u t H12 locs ht hvm hw hB hz1 hk1 hS => ?_)
  obtain ⟨hP1, hK1, hD1⟩ := hB
  rw [ht] at hP1
  refine zTopi hw.symm ?_
  have hP := hP1
  have hD := hD1.weaken (fun _ q _ h => hFc q.1 h)
  have hP : va_P (dC, dI) vwCl (cX7 a7 h7 y s7_6) H12 := hP
  have hD : va_D A (cX7 a7 h7 y s7_6) := hD
  refine W_abs (fun GW14 eG15 => ?_)
  obtain ⟨ov17, hr18, h⟩ := zB_spec h
  have jn16 : ∀ (s7_20 : SS) (HGW14 : Heap) (locs : List Loc) (ls : Array Slot), s7_20 = ov17 → va_P (dC, dI) vwCl (cX7 a7 h7 y s7_20) HGW14 → va_D A (cX7 a7 h7 y s7_20) → va_S A s.heap HGW14 locs → lv_has ls 2 [(1, .int r5), (0, .ref a7)] → GW14 HGW14 locs 0 0 (F0 m 23 ls []) := by
    intro s7_20 HGW14 locs ls hv hP hD hS hl
    subst hv
    refine (eG15 _ _ _ _ _).mpr ?_
    refine lv_aload_n hx hb dX7_readRegister_23 rfl (lv_at hl 1 rfl) ?_
    obtain ⟨r21, hc22, h⟩ := zB_spec h
    have hFc := zFree hD hS hA
    refine va_calli (va_runV (As := []) (rest := []) ⟨hx, hb, hml, hown, hts⟩ (m_X7_isGood l dC dI y a7 h7 s7_20 HGW14.size r21 hc22) (cwV 0 hts gX7_readRegister_X7_isGood rfl rfl rfl (by decide +kernel) ⟨Nat.le_of_ble_eq_true rfl, Nat.le_of_ble_eq_true rfl⟩) ⟨fun a U g mk q => by obtain ⟨q0, q1, qP, qK, qD⟩ := q; exact ⟨q0, q1, qP, va_K.moved (u := U) (U := U.calling g mk a) (Vm.Alike.refl U.vm) qK, qD⟩, va_recv hK hP (ci := 6) (q0 := 0) rfl rfl, fun U hU hW => ⟨rfl, by rw [hU], by rw [hU]; exact hP, va_K.moved hW.alike hK, hD.weaken (fun _ _ _ _ => trivial)⟩⟩ rfl rfl hl.1 rfl (lv_room (Nat.le_of_ble_eq_true rfl)) dX7_readRegister_24 ⟨Nat.le_of_ble_eq_true rfl, Nat.le_of_ble_eq_true rfl⟩) hS (fun q _ h => hFc q h) hFc (fun rr24 u t H23 locs ht hvm hw hB hz1 hk1 hS => ?_)
    obtain ⟨hP1, hK1, hD1⟩ := hB
    rw [ht] at hP1
    refine zTopi hw.symm ?_
    have hP := hP1
    have hD := hD1.weaken (fun _ q _ h => hFc q.1 h)
    have hP : va_P (dC, dI) vwCl (cX7 a7 h7 y s7_20) H23 := hP
    have hD : va_D A (cX7 a7 h7 y s7_20) := hD
    refine lv_if_ne (tgt := 31) hx hb dX7_readRegister_27 (by decide) (fun c25 => ?_) (fun c25 => ?_)
    · have h := zN c25 h
      refine lv_aload_n hx hb dX7_readRegister_31 rfl (lv_at hl 1 rfl) ?_
      refine lv_bipush (v := 12) hx hb dX7_readRegister_32 (by decide) ?_
      refine lv_iload_n hx hb dX7_readRegister_34 rfl (lv_at hl 0 rfl) ?_
      refine lv_imul hx hb dX7_readRegister_35 ?_
      obtain ⟨s7_26, hc27, h⟩ := zB_spec h
      have hFc := zFree hD hS hA
      refine va_callv (va_runV (As := [.int ((12 : Int32) * r5)]) (rest := []) ⟨hx, hb, hml, hown, hts⟩ (m_X7_ask l dC dI y a7 h7 s7_20 ((12 : Int32) * r5) H23.size s7_26 hc27) (cwV 1 hts gX7_readRegister_X7_ask rfl rfl rfl (by decide +kernel) ⟨Nat.le_of_ble_eq_true rfl, Nat.le_of_ble_eq_true rfl⟩) ⟨fun a U g mk q => by obtain ⟨q0, q1, qP, qK, qD⟩ := q; exact ⟨q0, q1, qP, va_K.moved (u := U) (U := U.calling g mk a) (Vm.Alike.refl U.vm) qK, qD⟩, va_recv hK hP (ci := 6) (q0 := 0) rfl rfl, fun U hU hW => ⟨rfl, by rw [hU], by rw [hU]; exact hP, va_K.moved hW.alike hK, hD.weaken (fun _ _ _ _ => trivial)⟩⟩ rfl rfl hl.1 rfl (lv_room (Nat.le_of_ble_eq_true rfl)) dX7_readRegister_36 ⟨Nat.le_of_ble_eq_true rfl, Nat.le_of_ble_eq_true rfl⟩) hS (fun q _ h => hFc q h) hFc (fun u t H28 locs ht hvm hw hB hz1 hk1 hS => ?_)
      obtain ⟨hP1, hK1, hD1⟩ := hB
      rw [ht] at hP1
      have hP := hP1
      have hD := hD1.weaken (fun _ q _ h => hFc q.1 h)
      have hP : va_P (dC, dI) vwCl (cX7 a7 h7 y s7_26) H28 := hP
      have hD : va_D A (cX7 a7 h7 y s7_26) := hD
      refine lv_aload_n hx hb dX7_readRegister_39 rfl (lv_at hl 1 rfl) ?_
      refine va_get (D := (dC, dI)) (ci := 6) (v := .ref (h7 14)) (C := RX7) (T := TX7) (N := 49) hx hb hts inX7_ hown hK hP 0 rfl rfl 14 (by decide) (hts (.fieldLink RX7 31 "GateWheelModel" "nMany" "[I") (List.mem_of_getElem? (i := 1) rfl)) (fun _ h9 => h9) rfl dX7_readRegister_40 ?_
      refine lv_iload_n hx hb dX7_readRegister_43 rfl (lv_at hl 0 rfl) ?_
      refine lv_iconst (v := 1) hx hb dX7_readRegister_44 (by decide) ?_
      obtain ⟨hi30, h⟩ := zG_spec h
      refine va_iast hx hb hK hP hD hS 6 0 rfl rfl hi30 dX7_readRegister_45 (fun H31 locs hP hD hS => ?_)
      obtain ⟨s7_32, es7_32, h⟩ := zL_spec h
      have hP : va_P (dC, dI) vwCl (cX7 a7 h7 y s7_32) H31 := by rw [es7_32]; exact hP
      have hD : va_D A (cX7 a7 h7 y s7_32) := by rw [es7_32]; exact hD
      refine lv_aload_n hx hb dX7_readRegister_46 rfl (lv_at hl 1 rfl) ?_
      obtain ⟨r33, hc34, h⟩ := zB_spec h
      have hFc := zFree hD hS hA
      refine va_calli (va_runV (As := []) (rest := []) ⟨hx, hb, hml, hown, hts⟩ (m_X7_isGood l dC dI y a7 h7 s7_32 H31.size r33 hc34) (cwV 0 hts gX7_readRegister_X7_isGood rfl rfl rfl (by decide +kernel) ⟨Nat.le_of_ble_eq_true rfl, Nat.le_of_ble_eq_true rfl⟩) ⟨fun a U g mk q => by obtain ⟨q0, q1, qP, qK, qD⟩ := q; exact ⟨q0, q1, qP, va_K.moved (u := U) (U := U.calling g mk a) (Vm.Alike.refl U.vm) qK, qD⟩, va_recv hK hP (ci := 6) (q0 := 0) rfl rfl, fun U hU hW => ⟨rfl, by rw [hU], by rw [hU]; exact hP, va_K.moved hW.alike hK, hD.weaken (fun _ _ _ _ => trivial)⟩⟩ rfl rfl hl.1 rfl (lv_room (Nat.le_of_ble_eq_true rfl)) dX7_readRegister_47 ⟨Nat.le_of_ble_eq_true rfl, Nat.le_of_ble_eq_true rfl⟩) hS (fun q _ h => hFc q h) hFc (fun rr36 u t H35 locs ht hvm hw hB hz1 hk1 hS => ?_)
      obtain ⟨hP1, hK1, hD1⟩ := hB
      rw [ht] at hP1
      refine zTopi hw.symm ?_
      have hP := hP1
      have hD := hD1.weaken (fun _ q _ h => hFc q.1 h)
      have hP : va_P (dC, dI) vwCl (cX7 a7 h7 y s7_32) H35 := hP
      have hD : va_D A (cX7 a7 h7 y s7_32) := hD
      refine W_abs (fun GW37 eG38 => ?_)
      obtain ⟨ov40, hr41, h⟩ := zB_spec h
      have jn39 : ∀ (s7_43 : SS) (HGW37 : Heap) (locs : List Loc) (ls : Array Slot), s7_43 = ov40 → va_P (dC, dI) vwCl (cX7 a7 h7 y s7_43) HGW37 → va_D A (cX7 a7 h7 y s7_43) → va_S A s.heap HGW37 locs → lv_has ls 2 [(0, .ref a7)] → GW37 HGW37 locs 0 0 (F0 m 83 ls []) := by
        intro s7_43 HGW37 locs ls hv hP hD hS hl
        subst hv
        refine (eG38 _ _ _ _ _).mpr ?_
        refine lv_aload_n hx hb dX7_readRegister_83 rfl (lv_at hl 0 rfl) ?_
        obtain ⟨r44, hc45, h⟩ := zB_spec h
        have hFc := zFree hD hS hA
        refine va_calli (va_runV (As := []) (rest := []) ⟨hx, hb, hml, hown, hts⟩ (m_X7_isGood l dC dI y a7 h7 s7_43 HGW37.size r44 hc45) (cwV 0 hts gX7_readRegister_X7_isGood rfl rfl rfl (by decide +kernel) ⟨Nat.le_of_ble_eq_true rfl, Nat.le_of_ble_eq_true rfl⟩) ⟨fun a U g mk q => by obtain ⟨q0, q1, qP, qK, qD⟩ := q; exact ⟨q0, q1, qP, va_K.moved (u := U) (U := U.calling g mk a) (Vm.Alike.refl U.vm) qK, qD⟩, va_recv hK hP (ci := 6) (q0 := 0) rfl rfl, fun U hU hW => ⟨rfl, by rw [hU], by rw [hU]; exact hP, va_K.moved hW.alike hK, hD.weaken (fun _ _ _ _ => trivial)⟩⟩ rfl rfl hl.1 rfl (lv_room (Nat.le_of_ble_eq_true rfl)) dX7_readRegister_84 ⟨Nat.le_of_ble_eq_true rfl, Nat.le_of_ble_eq_true rfl⟩) hS (fun q _ h => hFc q h) hFc (fun rr47 u t H46 locs ht hvm hw hB hz1 hk1 hS => ?_)
        obtain ⟨hP1, hK1, hD1⟩ := hB
        rw [ht] at hP1
        refine zTopi hw.symm ?_
        have hP := hP1
        have hD := hD1.weaken (fun _ q _ h => hFc q.1 h)
        have hP : va_P (dC, dI) vwCl (cX7 a7 h7 y s7_43) H46 := hP
        have hD : va_D A (cX7 a7 h7 y s7_43) := hD
        refine W_abs (fun GW48 eG49 => ?_)
        obtain ⟨ov51, hr52, h⟩ := zB_spec h
        have jn50 : ∀ (s7_54 : SS) (HGW48 : Heap) (locs : List Loc) (ls : Array Slot), s7_54 = ov51 → va_P (dC, dI) vwCl (cX7 a7 h7 y s7_54) HGW48 → va_D A (cX7 a7 h7 y s7_54) → va_S A s.heap HGW48 locs → lv_has ls 2 [(0, .ref a7)] → GW48 HGW48 locs 0 0 (F0 m 96 ls []) := by
          intro s7_54 HGW48 locs ls hv hP hD hS hl
          subst hv
          refine (eG49 _ _ _ _ _).mpr ?_
          refine lv_aload_n hx hb dX7_readRegister_96 rfl (lv_at hl 0 rfl) ?_
          obtain ⟨r55, hc56, h⟩ := zB_spec h
          have hFc := zFree hD hS hA
          refine va_calli (va_runV (As := []) (rest := []) ⟨hx, hb, hml, hown, hts⟩ (m_X7_isGood l dC dI y a7 h7 s7_54 HGW48.size r55 hc56) (cwV 0 hts gX7_readRegister_X7_isGood rfl rfl rfl (by decide +kernel) ⟨Nat.le_of_ble_eq_true rfl, Nat.le_of_ble_eq_true rfl⟩) ⟨fun a U g mk q => by obtain ⟨q0, q1, qP, qK, qD⟩ := q; exact ⟨q0, q1, qP, va_K.moved (u := U) (U := U.calling g mk a) (Vm.Alike.refl U.vm) qK, qD⟩, va_recv hK hP (ci := 6) (q0 := 0) rfl rfl, fun U hU hW => ⟨rfl, by rw [hU], by rw [hU]; exact hP, va_K.moved hW.alike hK, hD.weaken (fun _ _ _ _ => trivial)⟩⟩ rfl rfl hl.1 rfl (lv_room (Nat.le_of_ble_eq_true rfl)) dX7_readRegister_97 ⟨Nat.le_of_ble_eq_true rfl, Nat.le_of_ble_eq_true rfl⟩) hS (fun q _ h => hFc q h) hFc (fun rr58 u t H57 locs ht hvm hw hB hz1 hk1 hS => ?_)
          obtain ⟨hP1, hK1, hD1⟩ := hB
          rw [ht] at hP1
          refine zTopi hw.symm ?_
          have hP := hP1
          have hD := hD1.weaken (fun _ q _ h => hFc q.1 h)
          have hP : va_P (dC, dI) vwCl (cX7 a7 h7 y s7_54) H57 := hP
          have hD : va_D A (cX7 a7 h7 y s7_54) := hD
          refine lv_if_eq (tgt := 109) hx hb dX7_readRegister_100 (by decide) (fun c59 => ?_) (fun c59 => ?_)
          · have h := zY c59 h
            have ho0 : s7_54 = o_7 := congrArg (fun z : SS => z) (Option.some.inj h)
            exact W.vret hx hb hr (fun t ht hW => ⟨⟨(), rfl, trivial, by rw [ht]; rw [← ho0]; exact hP, va_K.moved hW.alike hK, by rw [← ho0]; exact hD⟩, hS.F ht⟩) hS.2.2 dX7_readRegister_109
          · have h := zN c59 h
            refine lv_aload_n hx hb dX7_readRegister_103 rfl (lv_at hl 0 rfl) ?_
            refine lv_bipush (v := 59) hx hb dX7_readRegister_104 (by decide) ?_
            obtain ⟨s7_60, hc61, h⟩ := zB_spec h
            have hFc := zFree hD hS hA
            refine va_callv (va_runV (As := [.int 59]) (rest := []) ⟨hx, hb, hml, hown, hts⟩ (m_X7_must l dC dI y a7 h7 s7_54 (59 : Int32) H57.size s7_60 hc61) (cwV 1 hts gX7_readRegister_X7_must rfl rfl rfl (by decide +kernel) ⟨Nat.le_of_ble_eq_true rfl, Nat.le_of_ble_eq_true rfl⟩) ⟨fun a U g mk q => by obtain ⟨q0, q1, qP, qK, qD⟩ := q; exact ⟨q0, q1, qP, va_K.moved (u := U) (U := U.calling g mk a) (Vm.Alike.refl U.vm) qK, qD⟩, va_recv hK hP (ci := 6) (q0 := 0) rfl rfl, fun U hU hW => ⟨rfl, by rw [hU], by rw [hU]; exact hP, va_K.moved hW.alike hK, hD.weaken (fun _ _ _ _ => trivial)⟩⟩ rfl rfl hl.1 rfl (lv_room (Nat.le_of_ble_eq_true rfl)) dX7_readRegister_106 ⟨Nat.le_of_ble_eq_true rfl, Nat.le_of_ble_eq_true rfl⟩) hS (fun q _ h => hFc q h) hFc (fun u t H62 locs ht hvm hw hB hz1 hk1 hS => ?_)
            obtain ⟨hP1, hK1, hD1⟩ := hB
            rw [ht] at hP1
            have hP := hP1
            have hD := hD1.weaken (fun _ q _ h => hFc q.1 h)
            have hP : va_P (dC, dI) vwCl (cX7 a7 h7 y s7_60) H62 := hP
            have hD : va_D A (cX7 a7 h7 y s7_60) := hD
            have ho0 : s7_60 = o_7 := congrArg (fun z : SS => z) (Option.some.inj h)
            exact W.vret hx hb hr (fun t ht hW => ⟨⟨(), rfl, trivial, by rw [ht]; rw [← ho0]; exact hP, va_K.moved hW.alike hK, by rw [← ho0]; exact hD⟩, hS.F ht⟩) hS.2.2 dX7_readRegister_109
        refine (eG49 _ _ _ _ _).mpr ?_
        have h := hr52
        refine lv_if_eq (tgt := 96) hx hb dX7_readRegister_87 (by decide) (fun c64 => ?_) (fun c64 => ?_)
        · have h := zY c64 h
          exact (eG49 _ _ _ _ _).mp (jn50 s7_43 _ _ _ (Option.some.inj h) hP hD hS (lv_sub hl [0] rfl))
        · have h := zN c64 h
          refine lv_aload_n hx hb dX7_readRegister_90 rfl (lv_at hl 0 rfl) ?_
          refine lv_bipush (v := 41) hx hb dX7_readRegister_91 (by decide) ?_
          obtain ⟨s7_65, hc66, h⟩ := zB_spec h
          have hFc := zFree hD hS hA
          refine va_callv (va_runV (As := [.int 41]) (rest := []) ⟨hx, hb, hml, hown, hts⟩ (m_X7_must l dC dI y a7 h7 s7_43 (41 : Int32) H46.size s7_65 hc66) (cwV 1 hts gX7_readRegister_X7_must rfl rfl rfl (by decide +kernel) ⟨Nat.le_of_ble_eq_true rfl, Nat.le_of_ble_eq_true rfl⟩) ⟨fun a U g mk q => by obtain ⟨q0, q1, qP, qK, qD⟩ := q; exact ⟨q0, q1, qP, va_K.moved (u := U) (U := U.calling g mk a) (Vm.Alike.refl U.vm) qK, qD⟩, va_recv hK hP (ci := 6) (q0 := 0) rfl rfl, fun U hU hW => ⟨rfl, by rw [hU], by rw [hU]; exact hP, va_K.moved hW.alike hK, hD.weaken (fun _ _ _ _ => trivial)⟩⟩ rfl rfl hl.1 rfl (lv_room (Nat.le_of_ble_eq_true rfl)) dX7_readRegister_93 ⟨Nat.le_of_ble_eq_true rfl, Nat.le_of_ble_eq_true rfl⟩) hS (fun q _ h => hFc q h) hFc (fun u t H67 locs ht hvm hw hB hz1 hk1 hS => ?_)
          obtain ⟨hP1, hK1, hD1⟩ := hB
          rw [ht] at hP1
          have hP := hP1
          have hD := hD1.weaken (fun _ q _ h => hFc q.1 h)
          have hP : va_P (dC, dI) vwCl (cX7 a7 h7 y s7_65) H67 := hP
          have hD : va_D A (cX7 a7 h7 y s7_65) := hD
          exact (eG49 _ _ _ _ _).mp (jn50 s7_65 _ _ _ (Option.some.inj h) hP hD hS (lv_sub hl [0] rfl))
      refine (eG38 _ _ _ _ _).mpr ?_
      have h := hr41
      refine lv_if_eq (tgt := 83) hx hb dX7_readRegister_50 (by decide) (fun c69 => ?_) (fun c69 => ?_)
      · have h := zY c69 h
        exact (eG38 _ _ _ _ _).mp (jn39 s7_32 _ _ _ (Option.some.inj h) hP hD hS (lv_sub hl [1] rfl))
      · have h := zN c69 h
        refine lv_aload_n hx hb dX7_readRegister_53 rfl (lv_at hl 1 rfl) ?_
        refine lv_bipush (v := 44) hx hb dX7_readRegister_54 (by decide) ?_
        obtain ⟨r70, hc71, h⟩ := zB_spec h
        have hFc := zFree hD hS hA
        refine va_calli (va_runV (As := [.int 44]) (rest := []) ⟨hx, hb, hml, hown, hts⟩ (m_X7_is l dC dI y a7 h7 s7_32 (44 : Int32) H35.size r70 hc71) (cwV 1 hts gX7_readRegister_X7_is rfl rfl rfl (by decide +kernel) ⟨Nat.le_of_ble_eq_true rfl, Nat.le_of_ble_eq_true rfl⟩) ⟨fun a U g mk q => by obtain ⟨q0, q1, qP, qK, qD⟩ := q; exact ⟨q0, q1, qP, va_K.moved (u := U) (U := U.calling g mk a) (Vm.Alike.refl U.vm) qK, qD⟩, va_recv hK hP (ci := 6) (q0 := 0) rfl rfl, fun U hU hW => ⟨rfl, by rw [hU], by rw [hU]; exact hP, va_K.moved hW.alike hK, hD.weaken (fun _ _ _ _ => trivial)⟩⟩ rfl rfl hl.1 rfl (lv_room (Nat.le_of_ble_eq_true rfl)) dX7_readRegister_56 ⟨Nat.le_of_ble_eq_true rfl, Nat.le_of_ble_eq_true rfl⟩) hS (fun q _ h => hFc q h) hFc (fun rr73 u t H72 locs ht hvm hw hB hz1 hk1 hS => ?_)
        obtain ⟨hP1, hK1, hD1⟩ := hB
        rw [ht] at hP1
        refine zTopi hw.symm ?_
        have hP := hP1
        have hD := hD1.weaken (fun _ q _ h => hFc q.1 h)
        have hP : va_P (dC, dI) vwCl (cX7 a7 h7 y s7_32) H72 := hP
        have hD : va_D A (cX7 a7 h7 y s7_32) := hD
        refine lv_if_eq (tgt := 83) hx hb dX7_readRegister_59 (by decide) (fun c74 => ?_) (fun c74 => ?_)
        · have h := zY c74 h
          exact (eG38 _ _ _ _ _).mp (jn39 s7_32 _ _ _ (Option.some.inj h) hP hD hS (lv_sub hl [1] rfl))
        · have h := zN c74 h
          refine lv_aload_n hx hb dX7_readRegister_62 rfl (lv_at hl 1 rfl) ?_
          obtain ⟨s7_75, hc76, h⟩ := zB_spec h
          have hFc := zFree hD hS hA
          refine va_callv (va_runV (As := []) (rest := []) ⟨hx, hb, hml, hown, hts⟩ (m_X7_next l dC dI y a7 h7 s7_32 H72.size s7_75 hc76) (cwV 0 hts gX7_readRegister_X7_next rfl rfl rfl (by decide +kernel) ⟨Nat.le_of_ble_eq_true rfl, Nat.le_of_ble_eq_true rfl⟩) ⟨fun a U g mk q => by obtain ⟨q0, q1, qP, qK, qD⟩ := q; exact ⟨q0, q1, qP, va_K.moved (u := U) (U := U.calling g mk a) (Vm.Alike.refl U.vm) qK, qD⟩, va_recv hK hP (ci := 6) (q0 := 0) rfl rfl, fun U hU hW => ⟨rfl, by rw [hU], by rw [hU]; exact hP, va_K.moved hW.alike hK, hD.weaken (fun _ _ _ _ => trivial)⟩⟩ rfl rfl hl.1 rfl (lv_room (Nat.le_of_ble_eq_true rfl)) dX7_readRegister_63 ⟨Nat.le_of_ble_eq_true rfl, Nat.le_of_ble_eq_true rfl⟩) hS (fun q _ h => hFc q h) hFc (fun u t H77 locs ht hvm hw hB hz1 hk1 hS => ?_)
          obtain ⟨hP1, hK1, hD1⟩ := hB
          rw [ht] at hP1
          have hP := hP1
          have hD := hD1.weaken (fun _ q _ h => hFc q.1 h)
          have hP : va_P (dC, dI) vwCl (cX7 a7 h7 y s7_75) H77 := hP
          have hD : va_D A (cX7 a7 h7 y s7_75) := hD
          refine lv_aload_n hx hb dX7_readRegister_66 rfl (lv_at hl 1 rfl) ?_
          refine lv_bipush (v := 12) hx hb dX7_readRegister_67 (by decide) ?_
          refine lv_iload_n hx hb dX7_readRegister_69 rfl (lv_at hl 0 rfl) ?_
          refine lv_imul hx hb dX7_readRegister_70 ?_
          refine lv_iconst (v := 1) hx hb dX7_readRegister_71 (by decide) ?_
          refine lv_iadd hx hb dX7_readRegister_72 ?_
          obtain ⟨s7_79, hc80, h⟩ := zB_spec h
          have hFc := zFree hD hS hA
          refine va_callv (va_runV (As := [.int (((12 : Int32) * r5) + (1 : Int32))]) (rest := []) ⟨hx, hb, hml, hown, hts⟩ (m_X7_ask l dC dI y a7 h7 s7_75 (((12 : Int32) * r5) + (1 : Int32)) H77.size s7_79 hc80) (cwV 1 hts gX7_readRegister_X7_ask rfl rfl rfl (by decide +kernel) ⟨Nat.le_of_ble_eq_true rfl, Nat.le_of_ble_eq_true rfl⟩) ⟨fun a U g mk q => by obtain ⟨q0, q1, qP, qK, qD⟩ := q; exact ⟨q0, q1, qP, va_K.moved (u := U) (U := U.calling g mk a) (Vm.Alike.refl U.vm) qK, qD⟩, va_recv hK hP (ci := 6) (q0 := 0) rfl rfl, fun U hU hW => ⟨rfl, by rw [hU], by rw [hU]; exact hP, va_K.moved hW.alike hK, hD.weaken (fun _ _ _ _ => trivial)⟩⟩ rfl rfl hl.1 rfl (lv_room (Nat.le_of_ble_eq_true rfl)) dX7_readRegister_73 ⟨Nat.le_of_ble_eq_true rfl, Nat.le_of_ble_eq_true rfl⟩) hS (fun q _ h => hFc q h) hFc (fun u t H81 locs ht hvm hw hB hz1 hk1 hS => ?_)
          obtain ⟨hP1, hK1, hD1⟩ := hB
          rw [ht] at hP1
          have hP := hP1
          have hD := hD1.weaken (fun _ q _ h => hFc q.1 h)
          have hP : va_P (dC, dI) vwCl (cX7 a7 h7 y s7_79) H81 := hP
          have hD : va_D A (cX7 a7 h7 y s7_79) := hD
          refine lv_aload_n hx hb dX7_readRegister_76 rfl (lv_at hl 1 rfl) ?_
          refine va_get (D := (dC, dI)) (ci := 6) (v := .ref (h7 14)) (C := RX7) (T := TX7) (N := 49) hx hb hts inX7_ hown hK hP 0 rfl rfl 14 (by decide) (hts (.fieldLink RX7 31 "GateWheelModel" "nMany" "[I") (List.mem_of_getElem? (i := 1) rfl)) (fun _ h9 => h9) rfl dX7_readRegister_77 ?_
          refine lv_iload_n hx hb dX7_readRegister_80 rfl (lv_at hl 0 rfl) ?_
          refine lv_iconst (v := 2) hx hb dX7_readRegister_81 (by decide) ?_
          refine va_iast hx hb hK hP hD hS 6 0 rfl rfl hi30 dX7_readRegister_82 (fun H83 locs hP hD hS => ?_)
          obtain ⟨s7_84, es7_84, h⟩ := zL_spec h
          have hP : va_P (dC, dI) vwCl (cX7 a7 h7 y s7_84) H83 := by rw [es7_84]; exact hP
          have hD : va_D A (cX7 a7 h7 y s7_84) := by rw [es7_84]; exact hD
          exact (eG38 _ _ _ _ _).mp (jn39 s7_84 _ _ _ (Option.some.inj h) hP hD hS (lv_sub hl [1] rfl))
    · have h := zY c25 h
      have ho0 : s7_20 = o_7 := congrArg (fun z : SS => z) (Option.some.inj h)
      exact W.vret hx hb hr (fun t ht hW => ⟨⟨(), rfl, trivial, by rw [ht]; rw [← ho0]; exact hP, va_K.moved hW.alike hK, by rw [← ho0]; exact hD⟩, hS.F ht⟩) hS.2.2 dX7_readRegister_30
  refine (eG15 _ _ _ _ _).mpr ?_
  have h := hr18
  refine lv_if_eq (tgt := 23) hx hb dX7_readRegister_14 (by decide) (fun c85 => ?_) (fun c85 => ?_)
  · have h := zY c85 h
    exact (eG15 _ _ _ _ _).mp (jn16 s7_6 _ _ _ (Option.some.inj h) hP hD hS (lv_sub hl [0, 1] rfl))
  · have h := zN c85 h
    refine lv_aload_n hx hb dX7_readRegister_17 rfl (lv_at hl 1 rfl) ?_
    refine lv_bipush (v := 40) hx hb dX7_readRegister_18 (by decide) ?_
    obtain ⟨s7_86, hc87, h⟩ := zB_spec h
    have hFc := zFree hD hS hA
    refine va_callv (va_runV (As := [.int 40]) (rest := []) ⟨hx, hb, hml, hown, hts⟩ (m_X7_must l dC dI y a7 h7 s7_6 (40 : Int32) H12.size s7_86 hc87) (cwV 1 hts gX7_readRegister_X7_must rfl rfl rfl (by decide +kernel) ⟨Nat.le_of_ble_eq_true rfl, Nat.le_of_ble_eq_true rfl⟩) ⟨fun a U g mk q => by obtain ⟨q0, q1, qP, qK, qD⟩ := q; exact ⟨q0, q1, qP, va_K.moved (u := U) (U := U.calling g mk a) (Vm.Alike.refl U.vm) qK, qD⟩, va_recv hK hP (ci := 6) (q0 := 0) rfl rfl, fun U hU hW => ⟨rfl, by rw [hU], by rw [hU]; exact hP, va_K.moved hW.alike hK, hD.weaken (fun _ _ _ _ => trivial)⟩⟩ rfl rfl hl.1 rfl (lv_room (Nat.le_of_ble_eq_true rfl)) dX7_readRegister_20 ⟨Nat.le_of_ble_eq_true rfl, Nat.le_of_ble_eq_true rfl⟩) hS (fun q _ h => hFc q h) hFc (fun u t H88 locs ht hvm hw hB hz1 hk1 hS => ?_)
    obtain ⟨hP1, hK1, hD1⟩ := hB
    rw [ht] at hP1
    have hP := hP1
    have hD := hD1.weaken (fun _ q _ h => hFc q.1 h)
    have hP : va_P (dC, dI) vwCl (cX7 a7 h7 y s7_86) H88 := hP
    have hD : va_D A (cX7 a7 h7 y s7_86) := hD
    exact (eG15 _ _ _ _ _).mp (jn16 s7_86 _ _ _ (Option.some.inj h) hP hD hS (lv_sub hl [0, 1] rfl))
