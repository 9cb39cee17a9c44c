noncomputable def b_X7_wheel_65 (v16 : Int32) : (Int32 × SS) → Option ((Int32 × SS) ⊕ (SS)) := fun (v39, s7_40) =>
  if (10 : Int32) ≤ v39 then some (Sum.inr s7_40)
  else zG (vp_in (((10 : Int32) * v16) + v39) 600) (
  zL (sA s7_40 42 (upd (gA s7_40 42) (((10 : Int32) * v16) + v39).toNatClampNeg (-1 : Int32))) (fun s7_44 =>
  zL (v39 + 1) (fun v45 =>
  some (Sum.inl (v45, s7_44)))))
noncomputable def b_X7_wheel_17 : (Int32 × SS) → Option ((Int32 × SS) ⊕ (Int32 × SS)) := fun (v16, s7_17) =>
  if (gI s7_17 29) ≤ v16 then some (Sum.inr ((1 : Int32), s7_17))
  else zG (vp_in v16 60) (
  zL (sA s7_17 40 (upd (gA s7_17 40) v16.toNatClampNeg (gA s7_17 34 v16.toNatClampNeg))) (fun s7_21 =>
  zL (sA s7_21 41 (upd (gA s7_21 41) v16.toNatClampNeg (gA s7_21 34 v16.toNatClampNeg))) (fun s7_23 =>
  zL (sA s7_23 45 (upd (gA s7_23 45) v16.toNatClampNeg (vp_nar .boolean (0 : Int32)))) (fun s7_25 =>
  zL (sA s7_25 44 (upd (gA s7_25 44) v16.toNatClampNeg (0 : Int32))) (fun s7_27 =>
  zB (zI (b_X7_wheel_65 v16) zF ((0 : Int32), s7_27)) (fun (s7_37 : SS) =>
  zL (v16 + 1) (fun v38 =>
  some (Sum.inl (v38, s7_37)))))))))
noncomputable def f_X7_wheel (S7 : SS) : Option (Int32 × SS) :=
  zL (sI S7 46 (1 : Int32)) (fun s7_2 =>
  zL (sI s7_2 47 (0 : Int32)) (fun s7_4 =>
  zL (sI s7_4 48 (0 : Int32)) (fun s7_6 =>
  zI (b_X7_wheel_17) zF ((0 : Int32), s7_6))))

noncomputable def f_X7_change (S7 : SS) (p1 : Int32) (p2 : Int32) : Option (SS) :=
  zG (vp_in p1 60) (
  zL (sA S7 40 (upd (gA S7 40) p1.toNatClampNeg p2)) (fun s7_3 =>
  zL (sA s7_3 45 (upd (gA s7_3 45) p1.toNatClampNeg (vp_nar .boolean (1 : Int32)))) (fun s7_5 =>
  zB (if (20 : Int32) ≤ (gA s7_5 44 p1.toNatClampNeg) then some s7_5
  else zG (vp_in (((20 : Int32) * p1) + (gA s7_5 44 p1.toNatClampNeg)) 1200) (
  zL (sA s7_5 43 (upd (gA s7_5 43) (((20 : Int32) * p1) + (gA s7_5 44 p1.toNatClampNeg)).toNatClampNeg (((4 : Int32) * (gI s7_5 47)) + p2))) (fun s7_18 =>
  some s7_18))) (fun (s7_12 : SS) =>
  zL (sA s7_12 44 (upd (gA s7_12 44) p1.toNatClampNeg ((gA s7_12 44 p1.toNatClampNeg) + (1 : Int32)))) (fun s7_14 =>
  some s7_14)))))

noncomputable def f_X7_put (S7 : SS) (p1 : Int32) (p2 : Int32) : Option (Int32 × SS) :=
  if (gI S7 46) = (0 : Int32) then some ((0 : Int32), S7)
  else zB (f_X7_isNode S7 p1) (fun (r2 : Int32) =>
  if r2 = (0 : Int32) then some ((0 : Int32), S7)
  else zB (f_X7_kind S7 p1) (fun (r7 : Int32) =>
  if r7 = (0 : Int32) then if p2 < (0 : Int32) then some ((0 : Int32), S7)
  else if p2 ≤ (3 : Int32) then zG (vp_in p1 60) (
  if (gA S7 40 p1.toNatClampNeg) = p2 then some ((1 : Int32), S7)
  else zB (f_X7_change S7 p1 p2) (fun (s7_16 : SS) =>
  some ((1 : Int32), s7_16)))
  else some ((0 : Int32), S7)
  else some ((0 : Int32), S7)))

noncomputable def b_X7_hasChanged_4 (S7 : SS) (p1 : Int32) : (Int32 × Int32) → Option ((Int32 × Int32) ⊕ (Int32)) := fun (v10, v11) =>
  zB (f_X7_hangs S7 (((60 : Int32) * (gI S7 30)) + p1)) (fun (r12 : Int32) =>
  if r12 ≤ v11 then zG (zb v10) (
  some (Sum.inr v10))
  else if v10 = (0 : Int32) then zB (f_X7_in S7 p1 v11) (fun (r20 : Int32) =>
  zG (vp_in r20 60) (
  if (gA S7 45 r20.toNatClampNeg) = (0 : Int32) then zL (v11 + 1) (fun v26 =>
  some (Sum.inl ((0 : Int32), v26)))
  else zL (v11 + 1) (fun v27 =>
  some (Sum.inl ((1 : Int32), v27)))))
  else zL (v11 + 1) (fun v19 =>
  some (Sum.inl ((1 : Int32), v19))))
noncomputable def f_X7_hasChanged (S7 : SS) (p1 : Int32) : Option (Int32) :=
  zI (b_X7_hasChanged_4 S7 p1) zF ((0 : Int32), (0 : Int32))

noncomputable def b_X7_looks_236 (v10 : Int32) : (Int32 × SS) → Option ((Int32 × SS) ⊕ (Int32 × SS)) := fun (v31, s7_32) =>
  if (gI s7_32 29) ≤ v31 then some (Sum.inr (v10, s7_32))
  else zG (vp_in v31 60) (
  zL (sA s7_32 45 (upd (gA s7_32 45) v31.toNatClampNeg (vp_nar .boolean (0 : Int32)))) (fun s7_36 =>
  zL (v31 + 1) (fun v37 =>
  some (Sum.inl (v37, s7_36)))))
noncomputable def b_X7_looks_109 : (Int32 × SS) → Option ((Int32 × SS) ⊕ (SS)) := fun (v38, s7_39) =>
  if (gI s7_39 29) ≤ v38 then some (Sum.inr s7_39)
  else zB (f_X7_kind s7_39 v38) (fun (r41 : Int32) =>
  if r41 = (2 : Int32) then zB (f_X7_hasChanged s7_39 v38) (fun (r47 : Int32) =>
  if r47 = (0 : Int32) then zL (v38 + 1) (fun v77 =>
  some (Sum.inl (v77, s7_39)))
  else zB (f_X7_gate s7_39 v38 40) (fun (r52 : Int32) =>
  zG (vp_in v38 60) (
  if r52 = (gA s7_39 41 v38.toNatClampNeg) then zL (v38 + 1) (fun v76 =>
  some (Sum.inl (v76, s7_39)))
  else zL (sA s7_39 41 (upd (gA s7_39 41) v38.toNatClampNeg r52)) (fun s7_59 =>
  zG (vp_in (((60 : Int32) * (gI s7_59 30)) + v38) 120) (
  zL (((10 : Int32) * v38) + (((gI s7_59 47) + (gA s7_59 15 (((60 : Int32) * (gI s7_59 30)) + v38).toNatClampNeg)) - ((gI s7_59 47) + (gA s7_59 15 (((60 : Int32) * (gI s7_59 30)) + v38).toNatClampNeg)) / (10 : Int32) * (10 : Int32))) (fun v61 =>
  zG (vp_in v61 600) (
  zB (if (0 : Int32) ≤ (gA s7_59 42 v61.toNatClampNeg) then some (0 : Int32)
  else some (1 : Int32)) (fun (v69 : Int32) =>
  zL (sI s7_59 48 ((gI s7_59 48) + v69)) (fun s7_71 =>
  zL (sA s7_71 42 (upd (gA s7_71 42) v61.toNatClampNeg r52)) (fun s7_73 =>
  zL (v38 + 1) (fun v74 =>
  some (Sum.inl (v74, s7_73)))))))))))))
  else zL (v38 + 1) (fun v46 =>
  some (Sum.inl (v46, s7_39))))
noncomputable def b_X7_looks_14 (v79 : Int32) : (Int32 × Int32 × SS) → Option ((Int32 × Int32 × SS) ⊕ (Int32 × SS)) := fun (v94, v95, s7_96) =>
  if (gI s7_96 29) ≤ v95 then some (Sum.inr (v94, s7_96))
  else zG (vp_in (((60 : Int32) * (gI s7_96 30)) + v95) 120) (
  if (gA s7_96 17 (((60 : Int32) * (gI s7_96 30)) + v95).toNatClampNeg) = v79 then zB (f_X7_kind s7_96 v95) (fun (r101 : Int32) =>
  if r101 = (1 : Int32) then zB (f_X7_bus s7_96 v95 40) (fun (r106 : Int32) =>
  zG (vp_in v95 60) (
  if r106 = (gA s7_96 40 v95.toNatClampNeg) then zL (v95 + 1) (fun v112 =>
  some (Sum.inl (v94, v112, s7_96)))
  else zB (f_X7_hasChanged s7_96 v95) (fun (r113 : Int32) =>
  if r113 = (0 : Int32) then zL (v95 + 1) (fun v124 =>
  some (Sum.inl (v94, v124, s7_96)))
  else zB (f_X7_change s7_96 v95 r106) (fun (s7_118 : SS) =>
  zL (v94 + 1) (fun v122 =>
  zL (v95 + 1) (fun v123 =>
  some (Sum.inl (v122, v123, s7_118))))))))
  else zL (v95 + 1) (fun v125 =>
  some (Sum.inl (v94, v125, s7_96))))
  else zL (v95 + 1) (fun v100 =>
  some (Sum.inl (v94, v100, s7_96))))
noncomputable def b_X7_looks_4 : (Int32 × Int32 × SS) → Option ((Int32 × Int32 × SS) ⊕ (Int32 × SS)) := fun (v78, v79, s7_80) =>
  if (gI s7_80 29) < v79 then some (Sum.inr (v78, s7_80))
  else zB (zI (b_X7_looks_14 v79) zF (v78, (0 : Int32), s7_80)) (fun ((v91, s7_92) : Int32 × SS) =>
  zL (v79 + 1) (fun v93 =>
  some (Sum.inl (v91, v93, s7_92))))
noncomputable def f_X7_looks (S7 : SS) : Option (Int32 × SS) :=
  zB (zI (b_X7_looks_4) zF ((0 : Int32), (0 : Int32), S7)) (fun ((v10, s7_11) : Int32 × SS) =>
  zB (zI (b_X7_looks_109) zF ((0 : Int32), s7_11)) (fun (s7_21 : SS) =>
  zI (b_X7_looks_236 v10) zF ((0 : Int32), s7_21)))

noncomputable def b_X7_run_45 : (Int32 × Int32 × SS) → Option ((Int32 × Int32 × SS) ⊕ (Int32 × SS)) := fun (v42, v43, s7_44) =>
  if (gI s7_44 29) ≤ v43 then some (Sum.inr (v42, s7_44))
  else zL (((10 : Int32) * v43) + ((gI s7_44 47) - (gI s7_44 47) / (10 : Int32) * (10 : Int32))) (fun v46 =>
  zG (vp_in v46 600) (
  if (0 : Int32) ≤ (gA s7_44 42 v46.toNatClampNeg) then zL (gA s7_44 42 v46.toNatClampNeg) (fun v49 =>
  zL (sA s7_44 42 (upd (gA s7_44 42) v46.toNatClampNeg (-1 : Int32))) (fun s7_51 =>
  zL (sI s7_51 48 ((gI s7_51 48) - (1 : Int32))) (fun s7_53 =>
  zG (vp_in v43 60) (
  if v49 = (gA s7_53 40 v43.toNatClampNeg) then zL (v43 + 1) (fun v62 =>
  some (Sum.inl (v42, v62, s7_53)))
  else zB (f_X7_change s7_53 v43 v49) (fun (s7_56 : SS) =>
  zL (v42 + 1) (fun v60 =>
  zL (v43 + 1) (fun v61 =>
  some (Sum.inl (v60, v61, s7_56)))))))))
  else zL (v43 + 1) (fun v63 =>
  some (Sum.inl (v42, v63, s7_44)))))
noncomputable def b_X7_run_27 (p1 : Int32) : (Int32 × Int32 × SS) → Option ((Int32 × Int32 × SS) ⊕ (Int32 × SS)) := fun (v18, v19, s7_20) =>
  if p1 ≤ v19 then some (Sum.inr (v18, s7_20))
  else zL (sI s7_20 47 ((gI s7_20 47) + (1 : Int32))) (fun s7_23 =>
  zB (zI (b_X7_run_45) zF (v18, (0 : Int32), s7_23)) (fun ((v33, s7_34) : Int32 × SS) =>
  zB (f_X7_looks s7_34) (fun ((r35, s7_36) : Int32 × SS) =>
  zL (v33 + r35) (fun v40 =>
  zL (v19 + 1) (fun v41 =>
  some (Sum.inl (v40, v41, s7_36)))))))
noncomputable def f_X7_run (S7 : SS) (p1 : Int32) : Option (Int32 × SS) :=
  if (gI S7 46) = (0 : Int32) then some ((-1 : Int32), S7)
  else if p1 < (0 : Int32) then some ((-1 : Int32), S7)
  else if p1 ≤ (1000 : Int32) then zB (f_X7_looks S7) (fun ((r4, s7_5) : Int32 × SS) =>
  zI (b_X7_run_27 p1) zF (r4, (0 : Int32), s7_5))
  else some ((-1 : Int32), S7)

noncomputable def f_X7_on (S7 : SS) (p1 : Int32) : Option (Int32) :=
  if (gI S7 46) = (0 : Int32) then some (-1 : Int32)
  else zB (f_X7_isNode S7 p1) (fun (r2 : Int32) =>
  if r2 = (0 : Int32) then some (-1 : Int32)
  else zG (vp_in p1 60) (
  some (gA S7 40 p1.toNatClampNeg)))

noncomputable def f_X7_wave (S7 : SS) (p1 : Int32) (p2 : Int32) : Option (Int32) :=
  if (gI S7 46) = (0 : Int32) then some (-1 : Int32)
  else zB (f_X7_isNode S7 p1) (fun (r2 : Int32) =>
  if r2 = (0 : Int32) then some (-1 : Int32)
  else if p2 < (0 : Int32) then some (-1 : Int32)
  else zG (vp_in p1 60) (
  if (gA S7 44 p1.toNatClampNeg) ≤ p2 then some (-1 : Int32)
  else if p2 < (20 : Int32) then zG (vp_in (((20 : Int32) * p1) + p2) 1200) (
  some (gA S7 43 (((20 : Int32) * p1) + p2).toNatClampNeg))
  else some (-1 : Int32)))

noncomputable def b_X7_isQuiet_15 (S7 : SS) : (Int32 × Int32) → Option ((Int32 × Int32) ⊕ (Int32)) := fun (v17, v18) =>
  if (gI S7 29) ≤ v18 then zG (zb v17) (
  some (Sum.inr v17))
  else if v17 = (0 : Int32) then zL (v18 + 1) (fun v22 =>
  some (Sum.inl ((0 : Int32), v22)))
  else zG (vp_in v18 60) (
  if (gA S7 45 v18.toNatClampNeg) = (0 : Int32) then zL (v18 + 1) (fun v26 =>
  some (Sum.inl ((1 : Int32), v26)))
  else zL (v18 + 1) (fun v25 =>
  some (Sum.inl ((0 : Int32), v25))))
noncomputable def f_X7_isQuiet (S7 : SS) : Option (Int32) :=
  zB (if (gI S7 48) = (0 : Int32) then some (1 : Int32)
  else some (0 : Int32)) (fun (v7 : Int32) =>
  zI (b_X7_isQuiet_15 S7) zF (v7, (0 : Int32)))

noncomputable def f_X7_about (S7 : SS) (p1 : Int32) : Option (Int32 × SS) :=
  zB (f_X7_find S7) (fun (s7_1 : SS) =>
  if p1 = (0 : Int32) then some ((gI s7_1 29), s7_1)
  else if p1 = (1 : Int32) then some ((gI s7_1 31), s7_1)
  else if p1 = (2 : Int32) then if (gI s7_1 46) = (0 : Int32) then some ((-1 : Int32), s7_1)
  else some ((gI s7_1 47), s7_1)
  else if p1 = (3 : Int32) then if (gI s7_1 46) = (0 : Int32) then some ((-1 : Int32), s7_1)
  else zB (f_X7_isQuiet s7_1) (fun (r11 : Int32) =>
  if r11 = (0 : Int32) then some ((0 : Int32), s7_1)
  else some ((1 : Int32), s7_1))
  else if p1 = (4 : Int32) then if (gI s7_1 46) = (0 : Int32) then some ((-1 : Int32), s7_1)
  else some ((gI s7_1 48), s7_1)
  else if p1 = (5 : Int32) then some ((gI s7_1 39), s7_1)
  else some ((-1 : Int32), s7_1))

noncomputable def b_X7_feed_18 (p1 : Int32) (p2 : Int32) (p3 : Int32) (p4 : Int32) (p5 : Int32) : (Int32 × SS) → Option ((Int32 × SS) ⊕ (SS)) := fun (v14, s7_15) =>
  if (20 : Int32) ≤ v14 then some (Sum.inr s7_15)
  else zB (if (4 : Int32) ≤ v14 then if (8 : Int32) ≤ v14 then if (12 : Int32) ≤ v14 then if (16 : Int32) ≤ v14 then some p5
  else some p4
  else some p3
  else some p2
  else some p1) (fun (v23 : Int32) =>
  zG (vp_in ((gI s7_15 2) + v14) 2020) (
  zL (sA s7_15 0 (upd (gA s7_15 0) ((gI s7_15 2) + v14).toNatClampNeg (vp_nar .byte (jB (v23 >>> (((24 : Int32) - ((8 : Int32) * (v14 &&& (3 : Int32)))) &&& 31)))))) (fun s7_26 =>
  zL (v14 + 1) (fun v27 =>
  some (Sum.inl (v27, s7_26))))))
noncomputable def f_X7_feed (S7 : SS) (p1 : Int32) (p2 : Int32) (p3 : Int32) (p4 : Int32) (p5 : Int32) : Option (Int32 × SS) :=
  if ((gI S7 2) + (20 : Int32)) ≤ (2000 : Int32) then zB (zI (b_X7_feed_18 p1 p2 p3 p4 p5) zF ((0 : Int32), S7)) (fun (s7_11 : SS) =>
  zL (sI s7_11 2 ((gI s7_11 2) + (20 : Int32))) (fun s7_13 =>
  some ((gI s7_13 2), s7_13)))
  else some ((-1 : Int32), S7)

noncomputable def f_X7_end (S7 : SS) (p1 : Int32) : Option (Int32 × SS) :=
  if p1 < (0 : Int32) then some ((-1 : Int32), S7)
  else if p1 ≤ (gI S7 2) then zL (sI S7 2 p1) (fun s7_4 =>
  some (p1, s7_4))
  else some ((-1 : Int32), S7)

set_option maxHeartbeats 4000000 in
set_option maxRecDepth 100000 in
theorem m_X7_wheel (l : Launch) (dC : Nat → ClassId) (dI : Nat → Nat → Nat) (y : Nat → ClassId) (a7 : Nat) (h7 : Nat → Nat) (S7 : SS) (sz : Nat) (or_ : Int32) (o_7 : SS) (h : f_X7_wheel S7 = some (or_, o_7)) : Met l yX7_wheel wsX7_wheel ({ frames := 0, cells := 0, slots := 0, locals := 0 }) (va_Pc [.ref a7] (fun U => U.heap.size = sz ∧ va_P (dC, dI) vwCl (cX7 a7 h7 y S7) U.heap ∧ va_K (dC, dI) vwCl [(y 0, .int), (y 1, .long), (y 2, .byte), (y 3, .boolean)] U ∧ va_D (fun _ => True) (cX7 a7 h7 y S7))) (va_Qi (fun (r : Int32) (_ : Unit) => r = or_) (fun (_ : Unit) (t : State) => va_P (dC, dI) vwCl (cX7 a7 h7 y o_7) t.heap ∧ va_K (dC, dI) vwCl [(y 0, .int), (y 1, .long), (y 2, .byte), (y 3, .boolean)] t ∧ va_D (va_A (cX7 a7 h7 y S7) sz) (cX7 a7 h7 y o_7)) (va_A (cX7 a7 h7 y S7) sz)) 0 0 (va_A (cX7 a7 h7 y S7) sz) := by
  refine Met.ofW (cc := cX7_wheel) (maxL := 3) (ret := (some .boolean)) (by decide +kernel) rfl ?_
  intro p e s m args below meth c s₁ B hml hv
  obtain ⟨rfl, hsz, hP, hK, hD0⟩ := hv
  have hx := B.exec
  have hb := B.bytes
  have hr := B.returns
  have hts := atoms_spec (ws := wsX7_wheel) B.pre
  have hown : s.vm.findClass RX7 = some m.cls := findClass_of_methodNamed B.named
  have hlocks := B.notSynchronized
  have inX7_ : ∀ w ∈ wsX70, w ∈ wsX7_wheel := fun _ h => List.mem_cons_of_mem _ (List.mem_append_right _ h)
  subst hsz
  have hD := hD0.self (sz := s.heap.size)
  generalize hAe : va_A (cX7 a7 h7 y S7) s.heap.size = A at hD ⊢
  have hA : ∀ q : Nat, s.heap.size ≤ q → A q := fun q h => by rw [← hAe]; exact Or.inr h
  have hS : va_S A s.heap s.heap [] := va_S.rf
  have hP : va_P (dC, dI) vwCl (cX7 a7 h7 y S7) s.heap := hP
  have hl := lv_entry ([.ref a7]) (n := 3) (Nat.le_of_ble_eq_true rfl)
  rw [lg_entry_eq]
  generalize (lg_sl ([.ref a7]) ++ List.replicate (3 - (lg_sl ([.ref a7])).length) Slot.unset).toArray = ls at hl ⊢
  have hl : lv_has ls 3 [(0, .ref a7)] := hl
  refine lv_aload_n hx hb dX7_wheel_0 rfl (lv_at hl 0 rfl) ?_
  refine lv_iconst (v := 1) hx hb dX7_wheel_1 (by decide) ?_
  refine va_put (D := (dC, dI)) (ci := 6) (v := .int 1) (ty := .boolean) (C := RX7) (T := TX7) (N := 49) hx hb hts inX7_ tyX7 tyX7_ok nmX7 hown hK hP hD hS 0 rfl rfl 46 (by decide) (hts (.fieldLink RX7 267 "GateWheelModel" "hasWheel" "Z") (List.mem_of_getElem? (i := 1) rfl)) (fun _ h9 => h9) rfl (by decide +kernel) (by decide) rfl (Nat.le_of_ble_eq_true rfl) dX7_wheel_2 (fun H1 locs hP hD hS => ?_)
  obtain ⟨s7_2, es7_2, h⟩ := zL_spec h
  have hP : va_P (dC, dI) vwCl (cX7 a7 h7 y s7_2) H1 := by rw [es7_2]; exact hP
  have hD : va_D A (cX7 a7 h7 y s7_2) := by rw [es7_2]; exact hD
  refine lv_aload_n hx hb dX7_wheel_5 rfl (lv_at hl 0 rfl) ?_
  refine lv_iconst (v := 0) hx hb dX7_wheel_6 (by decide) ?_
  refine va_put (D := (dC, dI)) (ci := 6) (v := .int 0) (ty := .int) (C := RX7) (T := TX7) (N := 49) hx hb hts inX7_ tyX7 tyX7_ok nmX7 hown hK hP hD hS 0 rfl rfl 47 (by decide) (hts (.fieldLink RX7 316 "GateWheelModel" "time" "I") (List.mem_of_getElem? (i := 2) rfl)) (fun _ h9 => h9) rfl (by decide +kernel) rfl rfl (Nat.le_of_ble_eq_true rfl) dX7_wheel_7 (fun H3 locs hP hD hS => ?_)
  obtain ⟨s7_4, es7_4, h⟩ := zL_spec h
  have hP : va_P (dC, dI) vwCl (cX7 a7 h7 y s7_4) H3 := by rw [es7_4]; exact hP
  have hD : va_D A (cX7 a7 h7 y s7_4) := by rw [es7_4]; exact hD
  refine lv_aload_n hx hb dX7_wheel_10 rfl (lv_at hl 0 rfl) ?_
  refine lv_iconst (v := 0) hx hb dX7_wheel_11 (by decide) ?_
  refine va_put (D := (dC, dI)) (ci := 6) (v := .int 0) (ty := .int) (C := RX7) (T := TX7) (N := 49) hx hb hts inX7_ tyX7 tyX7_ok nmX7 hown hK hP hD hS 0 rfl rfl 48 (by decide) (hts (.fieldLink RX7 319 "GateWheelModel" "coming" "I") (List.mem_of_getElem? (i := 3) rfl)) (fun _ h9 => h9) rfl (by decide +kernel) rfl rfl (Nat.le_of_ble_eq_true rfl) dX7_wheel_12 (fun H5 locs hP hD hS => ?_)
  obtain ⟨s7_6, es7_6, h⟩ := zL_spec h
  have hP : va_P (dC, dI) vwCl (cX7 a7 h7 y s7_6) H5 := by rw [es7_6]; exact hP
  have hD : va_D A (cX7 a7 h7 y s7_6) := by rw [es7_6]; exact hD
  refine lv_iconst (v := 0) hx hb dX7_wheel_15 (by decide) ?_
  refine lv_istore_n (lv' := [(1, .int 0), (0, .ref a7)]) hx hb dX7_wheel_16 rfl hl (by decide) rfl (fun ls hl => ?_)
  refine W_abs (fun GW7 eG8 => ?_)
  have hi12 := h
  have lp10 : ∀ (n : Nat) (v16 : Int32) (s7_17 : SS) (HGW7 : Heap) (locs : List Loc) (ls : Array Slot), zI (b_X7_wheel_17) n (v16, s7_17) = some (or_, o_7) → va_P (dC, dI) vwCl (cX7 a7 h7 y s7_17) HGW7 → va_D A (cX7 a7 h7 y s7_17) → va_S A s.heap HGW7 locs → lv_has ls 3 [(0, .ref a7), (1, .int v16)] → GW7 HGW7 locs 0 0 (F0 m 17 ls []) := by
    intro n
    induction n with
    | zero =>
      intro v16 s7_17 HGW7 locs ls hi12 hP hD hS hl
      exact (zI_0 hi12).elim
    | succ n ihlp10 =>
      intro v16 s7_17 HGW7 locs ls hi12 hP hD hS hl
      refine (eG8 _ _ _ _ _).mpr ?_
      obtain ⟨xx15, h, hx14⟩ := zI_spec hi12
      refine lv_iload_n hx hb dX7_wheel_17 rfl (lv_at hl 1 rfl) ?_
      refine lv_aload_n hx hb dX7_wheel_18 rfl (lv_at hl 0 rfl) ?_
      refine va_get (D := (dC, dI)) (ci := 6) (v := .int (gI s7_17 29)) (C := RX7) (T := TX7) (N := 49) hx hb hts inX7_ hown hK hP 0 rfl rfl 29 (by decide) (hts (.fieldLink RX7 261 "GateWheelModel" "nodes" "I") (List.mem_of_getElem? (i := 4) rfl)) (fun _ h9 => h9) rfl dX7_wheel_19 ?_
      refine lv_icmp_ge (tgt := 95) hx hb dX7_wheel_22 (by decide) (fun c18 => ?_) (fun c18 => ?_)
      · have h := zY c18 h
        refine lv_iconst (v := 1) hx hb dX7_wheel_95 (by decide) ?_
        have h := congrArg some (zI_r h hx14)
        have ho0 : (1 : Int32) = or_ := congrArg (fun z : Int32 × SS => z.1) (Option.some.inj h)
        have ho1 : s7_17 = o_7 := congrArg (fun z : Int32 × SS => z.2) (Option.some.inj h)
        exact W.zret (v := 1) hx hb hr (by decide) (fun t ht hW => ⟨⟨1, (), rfl, ho0, by rw [ht]; rw [← ho1]; exact hP, va_K.moved hW.alike hK, by rw [← ho1]; exact hD⟩, hS.F ht⟩) hS.2.2 dX7_wheel_96
      · have h := zN c18 h
        refine lv_aload_n hx hb dX7_wheel_25 rfl (lv_at hl 0 rfl) ?_
        refine va_get (D := (dC, dI)) (ci := 6) (v := .ref (h7 40)) (C := RX7) (T := TX7) (N := 49) hx hb hts inX7_ hown hK hP 0 rfl rfl 40 (by decide) (hts (.fieldLink RX7 89 "GateWheelModel" "on" "[I") (List.mem_of_getElem? (i := 5) rfl)) (fun _ h9 => h9) rfl dX7_wheel_26 ?_
        refine lv_iload_n hx hb dX7_wheel_29 rfl (lv_at hl 1 rfl) ?_
        refine lv_aload_n hx hb dX7_wheel_30 rfl (lv_at hl 0 rfl) ?_
        refine va_get (D := (dC, dI)) (ci := 6) (v := .ref (h7 34)) (C := RX7) (T := TX7) (N := 49) hx hb hts inX7_ hown hK hP 0 rfl rfl 34 (by decide) (hts (.fieldLink RX7 74 "GateWheelModel" "values" "[I") (List.mem_of_getElem? (i := 6) rfl)) (fun _ h9 => h9) rfl dX7_wheel_31 ?_
        refine lv_iload_n hx hb dX7_wheel_34 rfl (lv_at hl 1 rfl) ?_
        obtain ⟨hi19, h⟩ := zG_spec h
        refine va_iald hx hb hK hP 20 0 rfl rfl hi19 dX7_wheel_35 ?_
        refine va_iast hx hb hK hP hD hS 25 0 rfl rfl hi19 dX7_wheel_36 (fun H20 locs hP hD hS => ?_)
        obtain ⟨s7_21, es7_21, h⟩ := zL_spec h
        have hP : va_P (dC, dI) vwCl (cX7 a7 h7 y s7_21) H20 := by rw [es7_21]; exact hP
        have hD : va_D A (cX7 a7 h7 y s7_21) := by rw [es7_21]; exact hD
        refine lv_aload_n hx hb dX7_wheel_37 rfl (lv_at hl 0 rfl) ?_
        refine va_get (D := (dC, dI)) (ci := 6) (v := .ref (h7 41)) (C := RX7) (T := TX7) (N := 49) hx hb hts inX7_ hown hK hP 0 rfl rfl 41 (by decide) (hts (.fieldLink RX7 92 "GateWheelModel" "last" "[I") (List.mem_of_getElem? (i := 7) rfl)) (fun _ h9 => h9) rfl dX7_wheel_38 ?_
        refine lv_iload_n hx hb dX7_wheel_41 rfl (lv_at hl 1 rfl) ?_
        refine lv_aload_n hx hb dX7_wheel_42 rfl (lv_at hl 0 rfl) ?_
        refine va_get (D := (dC, dI)) (ci := 6) (v := .ref (h7 34)) (C := RX7) (T := TX7) (N := 49) hx hb hts inX7_ hown hK hP 0 rfl rfl 34 (by decide) (hts (.fieldLink RX7 74 "GateWheelModel" "values" "[I") (List.mem_of_getElem? (i := 6) rfl)) (fun _ h9 => h9) rfl dX7_wheel_43 ?_
        refine lv_iload_n hx hb dX7_wheel_46 rfl (lv_at hl 1 rfl) ?_
        refine va_iald hx hb hK hP 20 0 rfl rfl hi19 dX7_wheel_47 ?_
        refine va_iast hx hb hK hP hD hS 26 0 rfl rfl hi19 dX7_wheel_48 (fun H22 locs hP hD hS => ?_)
        obtain ⟨s7_23, es7_23, h⟩ := zL_spec h
        have hP : va_P (dC, dI) vwCl (cX7 a7 h7 y s7_23) H22 := by rw [es7_23]; exact hP
        have hD : va_D A (cX7 a7 h7 y s7_23) := by rw [es7_23]; exact hD
        refine lv_aload_n hx hb dX7_wheel_49 rfl (lv_at hl 0 rfl) ?_
        refine va_get (D := (dC, dI)) (ci := 6) (v := .ref (h7 45)) (C := RX7) (T := TX7) (N := 49) hx hb hts inX7_ hown hK hP 0 rfl rfl 45 (by decide) (hts (.fieldLink RX7 104 "GateWheelModel" "changed" "[Z") (List.mem_of_getElem? (i := 8) rfl)) (fun _ h9 => h9) rfl dX7_wheel_50 ?_
        refine lv_iload_n hx hb dX7_wheel_53 rfl (lv_at hl 1 rfl) ?_
        refine lv_iconst (v := 0) hx hb dX7_wheel_54 (by decide) ?_
        refine va_zast hx hb hK hP hD hS 30 3 rfl rfl hi19 dX7_wheel_55 (fun H24 locs hP hD hS => ?_)
        obtain ⟨s7_25, es7_25, h⟩ := zL_spec h
        have hP : va_P (dC, dI) vwCl (cX7 a7 h7 y s7_25) H24 := by rw [es7_25]; exact hP
        have hD : va_D A (cX7 a7 h7 y s7_25) := by rw [es7_25]; exact hD
        refine lv_aload_n hx hb dX7_wheel_56 rfl (lv_at hl 0 rfl) ?_
        refine va_get (D := (dC, dI)) (ci := 6) (v := .ref (h7 44)) (C := RX7) (T := TX7) (N := 49) hx hb hts inX7_ hown hK hP 0 rfl rfl 44 (by decide) (hts (.fieldLink RX7 101 "GateWheelModel" "waveMany" "[I") (List.mem_of_getElem? (i := 9) rfl)) (fun _ h9 => h9) rfl dX7_wheel_57 ?_
        refine lv_iload_n hx hb dX7_wheel_60 rfl (lv_at hl 1 rfl) ?_
        refine lv_iconst (v := 0) hx hb dX7_wheel_61 (by decide) ?_
        refine va_iast hx hb hK hP hD hS 29 0 rfl rfl hi19 dX7_wheel_62 (fun H26 locs hP hD hS => ?_)
        obtain ⟨s7_27, es7_27, h⟩ := zL_spec h
        have hP : va_P (dC, dI) vwCl (cX7 a7 h7 y s7_27) H26 := by rw [es7_27]; exact hP
        have hD : va_D A (cX7 a7 h7 y s7_27) := by rw [es7_27]; exact hD
        refine lv_iconst (v := 0) hx hb dX7_wheel_63 (by decide) ?_
        refine lv_istore_n (lv' := [(2, .int 0), (0, .ref a7), (1, .int v16)]) hx hb dX7_wheel_64 rfl hl (by decide) rfl (fun ls hl => ?_)
        refine W_abs (fun GW28 eG29 => ?_)
        obtain ⟨ov32, hi33, h⟩ := zB_spec h
        have je30 : ∀ (s7_37 : SS) (HGW28e : Heap) (locs : List Loc) (ls : Array Slot), s7_37 = ov32 → va_P (dC, dI) vwCl (cX7 a7 h7 y s7_37) HGW28e → va_D A (cX7 a7 h7 y s7_37) → va_S A s.heap HGW28e locs → lv_has ls 3 [(0, .ref a7), (1, .int v16)] → GW28 HGW28e locs 0 0 (F0 m 89 ls []) := by
          intro s7_37 HGW28e locs ls hv hP hD hS hl
          subst hv
          refine (eG29 _ _ _ _ _).mpr ?_
          obtain ⟨v38, ev38, h⟩ := zL_spec h
          refine lv_iinc (v := v38) (lv' := [(1, .int v38), (0, .ref a7)]) hx hb dX7_wheel_89 hl (k := 1) rfl (by rw [ev38]; rfl) (by decide) rfl (fun ls hl => ?_)
          refine lv_goto (tgt := 17) hx hb dX7_wheel_92 (by decide) ?_
          have h := zI_l h hx14
          exact (eG8 _ _ _ _ _).mp (ihlp10 v38 s7_37 _ _ _ h hP hD hS (lv_sub hl [1, 0] rfl))
        have lp31 : ∀ (n : Nat) (v39 : Int32) (s7_40 : SS) (HGW28 : Heap) (locs : List Loc) (ls : Array Slot), zI (b_X7_wheel_65 v16) n (v39, s7_40) = some ov32 → va_P (dC, dI) vwCl (cX7 a7 h7 y s7_40) HGW28 → va_D A (cX7 a7 h7 y s7_40) → va_S A s.heap HGW28 locs → lv_has ls 3 [(0, .ref a7), (1, .int v16), (2, .int v39)] → GW28 HGW28 locs 0 0 (F0 m 65 ls []) := by
          intro n
          induction n with
          | zero =>
            intro v39 s7_40 HGW28 locs ls hi33 hP hD hS hl
            exact (zI_0 hi33).elim
          | succ n ihlp31 =>
            intro v39 s7_40 HGW28 locs ls hi33 hP hD hS hl
            refine (eG29 _ _ _ _ _).mpr ?_
            obtain ⟨xx36, h, hx35⟩ := zI_spec hi33
            refine lv_iload_n hx hb dX7_wheel_65 rfl (lv_at hl 2 rfl) ?_
            refine lv_bipush (v := 10) hx hb dX7_wheel_66 (by decide) ?_
            refine lv_icmp_ge (tgt := 89) hx hb dX7_wheel_68 (by decide) (fun c41 => ?_) (fun c41 => ?_)
            · have h := zY c41 h
              exact (eG29 _ _ _ _ _).mp (je30 s7_40 _ _ _ (zI_r h hx35) hP hD hS (lv_sub hl [0, 1] rfl))
            · have h := zN c41 h
              refine lv_aload_n hx hb dX7_wheel_71 rfl (lv_at hl 0 rfl) ?_
              refine va_get (D := (dC, dI)) (ci := 6) (v := .ref (h7 42)) (C := RX7) (T := TX7) (N := 49) hx hb hts inX7_ hown hK hP 0 rfl rfl 42 (by decide) (hts (.fieldLink RX7 95 "GateWheelModel" "slots" "[I") (List.mem_of_getElem? (i := 10) rfl)) (fun _ h9 => h9) rfl dX7_wheel_72 ?_
              refine lv_bipush (v := 10) hx hb dX7_wheel_75 (by decide) ?_
              refine lv_iload_n hx hb dX7_wheel_77 rfl (lv_at hl 1 rfl) ?_
              refine lv_imul hx hb dX7_wheel_78 ?_
              refine lv_iload_n hx hb dX7_wheel_79 rfl (lv_at hl 2 rfl) ?_
              refine lv_iadd hx hb dX7_wheel_80 ?_
              refine lv_iconst (v := (-1)) hx hb dX7_wheel_81 (by decide) ?_
              obtain ⟨hi42, h⟩ := zG_spec h
              refine va_iast hx hb hK hP hD hS 27 0 rfl rfl hi42 dX7_wheel_82 (fun H43 locs hP hD hS => ?_)
              obtain ⟨s7_44, es7_44, h⟩ := zL_spec h
              have hP : va_P (dC, dI) vwCl (cX7 a7 h7 y s7_44) H43 := by rw [es7_44]; exact hP
              have hD : va_D A (cX7 a7 h7 y s7_44) := by rw [es7_44]; exact hD
              obtain ⟨v45, ev45, h⟩ := zL_spec h
              refine lv_iinc (v := v45) (lv' := [(2, .int v45), (0, .ref a7), (1, .int v16)]) hx hb dX7_wheel_83 hl (k := 2) rfl (by rw [ev45]; rfl) (by decide) rfl (fun ls hl => ?_)
              refine lv_goto (tgt := 65) hx hb dX7_wheel_86 (by decide) ?_
              have h := zI_l h hx35
              exact (eG29 _ _ _ _ _).mp (ihlp31 v45 s7_44 _ _ _ h hP hD hS (lv_sub hl [1, 2, 0] rfl))
        exact lp31 zF (0 : Int32) s7_27 _ _ _ hi33 hP hD hS (lv_sub hl [1, 2, 0] rfl)
  exact lp10 zF (0 : Int32) s7_6 _ _ _ hi12 hP hD hS (lv_sub hl [1, 0] rfl)

set_option maxHeartbeats 4000000 in
set_option maxRecDepth 100000 in
theorem m_X7_change (l : Launch) (dC : Nat → ClassId) (dI : Nat → Nat → Nat) (y : Nat → ClassId) (a7 : Nat) (h7 : Nat → Nat) (S7 : SS) (p1 : Int32) (p2 : Int32) (sz : Nat) (o_7 : SS) (h : f_X7_change S7 p1 p2 = some o_7) : Met l yX7_change wsX7_change ({ frames := 0, cells := 0, slots := 0, locals := 0 }) (va_Pc [.ref a7, .int p1, .int p2] (fun U => U.heap.size = sz ∧ va_P (dC, dI) vwCl (cX7 a7 h7 y S7) U.heap ∧ va_K (dC, dI) vwCl [(y 0, .int), (y 1, .long), (y 2, .byte), (y 3, .boolean)] U ∧ va_D (fun _ => True) (cX7 a7 h7 y S7))) (va_Qv (fun (_ : Unit) => True) (fun (_ : Unit) (t : State) => va_P (dC, dI) vwCl (cX7 a7 h7 y o_7) t.heap ∧ va_K (dC, dI) vwCl [(y 0, .int), (y 1, .long), (y 2, .byte), (y 3, .boolean)] t ∧ va_D (va_A (cX7 a7 h7 y S7) sz) (cX7 a7 h7 y o_7)) (va_A (cX7 a7 h7 y S7) sz)) 0 0 (va_A (cX7 a7 h7 y S7) sz) := by
  refine Met.ofW (cc := cX7_change) (maxL := 3) (ret := none) (by decide +kernel) rfl ?_
  intro p e s m args below meth c s₁ B hml hv
  obtain ⟨rfl, hsz, hP, hK, hD0⟩ := hv
  have hx := B.exec
  have hb := B.bytes
  have hr := B.returns
  have hts := atoms_spec (ws := wsX7_change) B.pre
  have hown : s.vm.findClass RX7 = some m.cls := findClass_of_methodNamed B.named
  have hlocks := B.notSynchronized
  have inX7_ : ∀ w ∈ wsX70, w ∈ wsX7_change := fun _ h => List.mem_cons_of_mem _ (List.mem_append_right _ h)
  subst hsz
  have hD := hD0.self (sz := s.heap.size)
  generalize hAe : va_A (cX7 a7 h7 y S7) s.heap.size = A at hD ⊢
  have hA : ∀ q : Nat, s.heap.size ≤ q → A q := fun q h => by rw [← hAe]; exact Or.inr h
  have hS : va_S A s.heap s.heap [] := va_S.rf
  have hP : va_P (dC, dI) vwCl (cX7 a7 h7 y S7) s.heap := hP
  have hl := lv_entry ([.ref a7, .int p1, .int p2]) (n := 3) (Nat.le_of_ble_eq_true rfl)
  rw [lg_entry_eq]
  generalize (lg_sl ([.ref a7, .int p1, .int p2]) ++ List.replicate (3 - (lg_sl ([.ref a7, .int p1, .int p2])).length) Slot.unset).toArray = ls at hl ⊢
  have hl : lv_has ls 3 [(0, .ref a7), (1, .int p1), (2, .int p2)] := hl
  refine lv_aload_n hx hb dX7_change_0 rfl (lv_at hl 0 rfl) ?_
  refine va_get (D := (dC, dI)) (ci := 6) (v := .ref (h7 40)) (C := RX7) (T := TX7) (N := 49) hx hb hts inX7_ hown hK hP 0 rfl rfl 40 (by decide) (hts (.fieldLink RX7 89 "GateWheelModel" "on" "[I") (List.mem_of_getElem? (i := 1) rfl)) (fun _ h9 => h9) rfl dX7_change_1 ?_
  refine lv_iload_n hx hb dX7_change_4 rfl (lv_at hl 1 rfl) ?_
  refine lv_iload_n hx hb dX7_change_5 rfl (lv_at hl 2 rfl) ?_
  obtain ⟨hi1, h⟩ := zG_spec h
  refine va_iast hx hb hK hP hD hS 25 0 rfl rfl hi1 dX7_change_6 (fun H2 locs hP hD hS => ?_)
  obtain ⟨s7_3, es7_3, h⟩ := zL_spec h
  have hP : va_P (dC, dI) vwCl (cX7 a7 h7 y s7_3) H2 := by rw [es7_3]; exact hP
  have hD : va_D A (cX7 a7 h7 y s7_3) := by rw [es7_3]; exact hD
  refine lv_aload_n hx hb dX7_change_7 rfl (lv_at hl 0 rfl) ?_
  refine va_get (D := (dC, dI)) (ci := 6) (v := .ref (h7 45)) (C := RX7) (T := TX7) (N := 49) hx hb hts inX7_ hown hK hP 0 rfl rfl 45 (by decide) (hts (.fieldLink RX7 104 "GateWheelModel" "changed" "[Z") (List.mem_of_getElem? (i := 2) rfl)) (fun _ h9 => h9) rfl dX7_change_8 ?_
  refine lv_iload_n hx hb dX7_change_11 rfl (lv_at hl 1 rfl) ?_
  refine lv_iconst (v := 1) hx hb dX7_change_12 (by decide) ?_
  refine va_zast hx hb hK hP hD hS 30 3 rfl rfl hi1 dX7_change_13 (fun H4 locs hP hD hS => ?_)
  obtain ⟨s7_5, es7_5, h⟩ := zL_spec h
  have hP : va_P (dC, dI) vwCl (cX7 a7 h7 y s7_5) H4 := by rw [es7_5]; exact hP
  have hD : va_D A (cX7 a7 h7 y s7_5) := by rw [es7_5]; exact hD
  refine lv_aload_n hx hb dX7_change_14 rfl (lv_at hl 0 rfl) ?_
  refine va_get (D := (dC, dI)) (ci := 6) (v := .ref (h7 44)) (C := RX7) (T := TX7) (N := 49) hx hb hts inX7_ hown hK hP 0 rfl rfl 44 (by decide) (hts (.fieldLink RX7 101 "GateWheelModel" "waveMany" "[I") (List.mem_of_getElem? (i := 3) rfl)) (fun _ h9 => h9) rfl dX7_change_15 ?_
  refine lv_iload_n hx hb dX7_change_18 rfl (lv_at hl 1 rfl) ?_
  refine va_iald hx hb hK hP 29 0 rfl rfl hi1 dX7_change_19 ?_
  refine lv_bipush (v := 20) hx hb dX7_change_20 (by decide) ?_
  refine W_abs (fun GW6 eG7 => ?_)
  obtain ⟨ov9, hr10, h⟩ := zB_spec h
  have jn8 : ∀ (s7_12 : SS) (HGW6 : Heap) (locs : List Loc) (ls : Array Slot), s7_12 = ov9 → va_P (dC, dI) vwCl (cX7 a7 h7 y s7_12) HGW6 → va_D A (cX7 a7 h7 y s7_12) → va_S A s.heap HGW6 locs → lv_has ls 3 [(0, .ref a7), (1, .int p1)] → GW6 HGW6 locs 0 0 (F0 m 49 ls []) := by
    intro s7_12 HGW6 locs ls hv hP hD hS hl
    subst hv
    refine (eG7 _ _ _ _ _).mpr ?_
    refine lv_aload_n hx hb dX7_change_49 rfl (lv_at hl 0 rfl) ?_
    refine va_get (D := (dC, dI)) (ci := 6) (v := .ref (h7 44)) (C := RX7) (T := TX7) (N := 49) hx hb hts inX7_ hown hK hP 0 rfl rfl 44 (by decide) (hts (.fieldLink RX7 101 "GateWheelModel" "waveMany" "[I") (List.mem_of_getElem? (i := 3) rfl)) (fun _ h9 => h9) rfl dX7_change_50 ?_
    refine lv_iload_n hx hb dX7_change_53 rfl (lv_at hl 1 rfl) ?_
    refine lv_dup2_11 hx hb dX7_change_54 rfl rfl ?_
    refine va_iald hx hb hK hP 29 0 rfl rfl hi1 dX7_change_55 ?_
    refine lv_iconst (v := 1) hx hb dX7_change_56 (by decide) ?_
    refine lv_iadd hx hb dX7_change_57 ?_
    refine va_iast hx hb hK hP hD hS 29 0 rfl rfl hi1 dX7_change_58 (fun H13 locs hP hD hS => ?_)
    obtain ⟨s7_14, es7_14, h⟩ := zL_spec h
    have hP : va_P (dC, dI) vwCl (cX7 a7 h7 y s7_14) H13 := by rw [es7_14]; exact hP
    have hD : va_D A (cX7 a7 h7 y s7_14) := by rw [es7_14]; exact hD
    have ho0 : s7_14 = o_7 := congrArg (fun z : SS => z) (Option.some.inj h)
    exact W.vret hx hb hr (fun t ht hW => ⟨⟨(), rfl, trivial, by rw [ht]; rw [← ho0]; exact hP, va_K.moved hW.alike hK, by rw [← ho0]; exact hD⟩, hS.F ht⟩) hS.2.2 dX7_change_59
  refine (eG7 _ _ _ _ _).mpr ?_
  have h := hr10
  refine lv_icmp_ge (tgt := 49) hx hb dX7_change_22 (by decide) (fun c15 => ?_) (fun c15 => ?_)
  · have h := zY c15 h
    exact (eG7 _ _ _ _ _).mp (jn8 s7_5 _ _ _ (Option.some.inj h) hP hD hS (lv_sub hl [0, 1] rfl))
  · have h := zN c15 h
    refine lv_aload_n hx hb dX7_change_25 rfl (lv_at hl 0 rfl) ?_
    refine va_get (D := (dC, dI)) (ci := 6) (v := .ref (h7 43)) (C := RX7) (T := TX7) (N := 49) hx hb hts inX7_ hown hK hP 0 rfl rfl 43 (by decide) (hts (.fieldLink RX7 98 "GateWheelModel" "waves" "[I") (List.mem_of_getElem? (i := 4) rfl)) (fun _ h9 => h9) rfl dX7_change_26 ?_
    refine lv_bipush (v := 20) hx hb dX7_change_29 (by decide) ?_
    refine lv_iload_n hx hb dX7_change_31 rfl (lv_at hl 1 rfl) ?_
    refine lv_imul hx hb dX7_change_32 ?_
    refine lv_aload_n hx hb dX7_change_33 rfl (lv_at hl 0 rfl) ?_
    refine va_get (D := (dC, dI)) (ci := 6) (v := .ref (h7 44)) (C := RX7) (T := TX7) (N := 49) hx hb hts inX7_ hown hK hP 0 rfl rfl 44 (by decide) (hts (.fieldLink RX7 101 "GateWheelModel" "waveMany" "[I") (List.mem_of_getElem? (i := 3) rfl)) (fun _ h9 => h9) rfl dX7_change_34 ?_
    refine lv_iload_n hx hb dX7_change_37 rfl (lv_at hl 1 rfl) ?_
    refine va_iald hx hb hK hP 29 0 rfl rfl hi1 dX7_change_38 ?_
    refine lv_iadd hx hb dX7_change_39 ?_
    refine lv_iconst (v := 4) hx hb dX7_change_40 (by decide) ?_
    refine lv_aload_n hx hb dX7_change_41 rfl (lv_at hl 0 rfl) ?_
    refine va_get (D := (dC, dI)) (ci := 6) (v := .int (gI s7_5 47)) (C := RX7) (T := TX7) (N := 49) hx hb hts inX7_ hown hK hP 0 rfl rfl 47 (by decide) (hts (.fieldLink RX7 316 "GateWheelModel" "time" "I") (List.mem_of_getElem? (i := 5) rfl)) (fun _ h9 => h9) rfl dX7_change_42 ?_
    refine lv_imul hx hb dX7_change_45 ?_
    refine lv_iload_n hx hb dX7_change_46 rfl (lv_at hl 2 rfl) ?_
    refine lv_iadd hx hb dX7_change_47 ?_
    obtain ⟨hi16, h⟩ := zG_spec h
    refine va_iast hx hb hK hP hD hS 28 0 rfl rfl hi16 dX7_change_48 (fun H17 locs hP hD hS => ?_)
    obtain ⟨s7_18, es7_18, h⟩ := zL_spec h
    have hP : va_P (dC, dI) vwCl (cX7 a7 h7 y s7_18) H17 := by rw [es7_18]; exact hP
    have hD : va_D A (cX7 a7 h7 y s7_18) := by rw [es7_18]; exact hD
    exact (eG7 _ _ _ _ _).mp (jn8 s7_18 _ _ _ (Option.some.inj h) hP hD hS (lv_sub hl [0, 1] rfl))

set_option maxHeartbeats 4000000 in
set_option maxRecDepth 100000 in
theorem m_X7_put (l : Launch) (dC : Nat → ClassId) (dI : Nat → Nat → Nat) (y : Nat → ClassId) (a7 : Nat) (h7 : Nat → Nat) (S7 : SS) (p1 : Int32) (p2 : Int32) (sz : Nat) (or_ : Int32) (o_7 : SS) (h : f_X7_put S7 p1 p2 = some (or_, o_7)) : Met l yX7_put wsX7_put ({ frames := 1, cells := 0, slots := 0, locals := 22 }) (va_Pc [.ref a7, .int p1, .int p2] (fun U => U.heap.size = sz ∧ va_P (dC, dI) vwCl (cX7 a7 h7 y S7) U.heap ∧ va_K (dC, dI) vwCl [(y 0, .int), (y 1, .long), (y 2, .byte), (y 3, .boolean)] U ∧ va_D (fun _ => True) (cX7 a7 h7 y S7))) (va_Qi (fun (r : Int32) (_ : Unit) => r = or_) (fun (_ : Unit) (t : State) => va_P (dC, dI) vwCl (cX7 a7 h7 y o_7) t.heap ∧ va_K (dC, dI) vwCl [(y 0, .int), (y 1, .long), (y 2, .byte), (y 3, .boolean)] t ∧ va_D (va_A (cX7 a7 h7 y S7) sz) (cX7 a7 h7 y o_7)) (va_A (cX7 a7 h7 y S7) sz)) 0 0 (va_A (cX7 a7 h7 y S7) sz) := by
  refine Met.ofW (cc := cX7_put) (maxL := 3) (ret := (some .boolean)) (by decide +kernel) rfl ?_
  intro p e s m args below meth c s₁ B hml hv
  obtain ⟨rfl, hsz, hP, hK, hD0⟩ := hv
  have hx := B.exec
  have hb := B.bytes
  have hr := B.returns
  have hts := atoms_spec (ws := wsX7_put) B.pre
  have hown : s.vm.findClass RX7 = some m.cls := findClass_of_methodNamed B.named
  have hlocks := B.notSynchronized
  have inX7_ : ∀ w ∈ wsX70, w ∈ wsX7_put := fun _ h => List.mem_cons_of_mem _ (List.mem_append_right _ h)
  subst hsz
  have hD := hD0.self (sz := s.heap.size)
  generalize hAe : va_A (cX7 a7 h7 y S7) s.heap.size = A at hD ⊢
  have hA : ∀ q : Nat, s.heap.size ≤ q → A q := fun q h => by rw [← hAe]; exact Or.inr h
  have hS : va_S A s.heap s.heap [] := va_S.rf
  have hP : va_P (dC, dI) vwCl (cX7 a7 h7 y S7) s.heap := hP
  have hl := lv_entry ([.ref a7, .int p1, .int p2]) (n := 3) (Nat.le_of_ble_eq_true rfl)
  rw [lg_entry_eq]
  generalize (lg_sl ([.ref a7, .int p1, .int p2]) ++ List.replicate (3 - (lg_sl ([.ref a7, .int p1, .int p2])).length) Slot.unset).toArray = ls at hl ⊢
  have hl : lv_has ls 3 [(0, .ref a7), (1, .int p1), (2, .int p2)] := hl
  refine lv_aload_n hx hb dX7_put_0 rfl (lv_at hl 0 rfl) ?_
  refine va_get (D := (dC, dI)) (ci := 6) (v := .int (gI S7 46)) (C := RX7) (T := TX7) (N := 49) hx hb hts inX7_ hown hK hP 0 rfl rfl 46 (by decide) (hts (.fieldLink RX7 267 "GateWheelModel" "hasWheel" "Z") (List.mem_of_getElem? (i := 1) rfl)) (fun _ h9 => h9) rfl dX7_put_1 ?_
  refine lv_if_eq (tgt := 32) hx hb dX7_put_4 (by decide) (fun c1 => ?_) (fun c1 => ?_)
  · have h := zY c1 h
    refine lv_iconst (v := 0) hx hb dX7_put_32 (by decide) ?_
    have ho0 : (0 : Int32) = or_ := congrArg (fun z : Int32 × SS => z.1) (Option.some.inj h)
    have ho1 : S7 = o_7 := congrArg (fun z : Int32 × SS => z.2) (Option.some.inj h)
    exact W.zret (v := 0) hx hb hr (by decide) (fun t ht hW => ⟨⟨0, (), rfl, ho0, by rw [ht]; rw [← ho1]; exact hP, va_K.moved hW.alike hK, by rw [← ho1]; exact hD⟩, hS.F ht⟩) hS.2.2 dX7_put_33
  · have h := zN c1 h
    refine lv_aload_n hx hb dX7_put_7 rfl (lv_at hl 0 rfl) ?_
    refine lv_iload_n hx hb dX7_put_8 rfl (lv_at hl 1 rfl) ?_
    obtain ⟨r2, hc3, h⟩ := zB_spec h
    have hFc := zFree hD hS hA
    refine va_calli (va_runV (As := [.int p1]) (rest := []) ⟨hx, hb, hml, hown, hts⟩ (m_X7_isNode l dC dI y a7 h7 S7 p1 s.heap.size r2 hc3) (cwV 1 hts gX7_put_X7_isNode rfl rfl rfl (by decide +kernel) ⟨Nat.le_of_ble_eq_true rfl, Nat.le_of_ble_eq_true rfl⟩) ⟨fun a U g mk q => by obtain ⟨q0, q1, qP, qK, qD⟩ := q; exact ⟨q0, q1, qP, va_K.moved (u := U) (U := U.calling g mk a) (Vm.Alike.refl U.vm) qK, qD⟩, va_recv hK hP (ci := 6) (q0 := 0) rfl rfl, fun U hU hW => ⟨rfl, by rw [hU], by rw [hU]; exact hP, va_K.moved hW.alike hK, hD.weaken (fun _ _ _ _ => trivial)⟩⟩ rfl rfl hl.1 rfl (lv_room (Nat.le_of_ble_eq_true rfl)) dX7_put_9 ⟨Nat.le_of_ble_eq_true rfl, Nat.le_of_ble_eq_true rfl⟩) hS (fun q _ h => hFc q h) hFc (fun rr5 u t H4 locs ht hvm hw hB hz1 hk1 hS => ?_)
    obtain ⟨hP1, hK1, hD1⟩ := hB
    rw [ht] at hP1
    refine zTopi hw.symm ?_
    have hP := hP1
    have hD := hD1.weaken (fun _ q _ h => hFc q.1 h)
    have hP : va_P (dC, dI) vwCl (cX7 a7 h7 y S7) H4 := hP
    have hD : va_D A (cX7 a7 h7 y S7) := hD
    refine lv_if_eq (tgt := 32) hx hb dX7_put_12 (by decide) (fun c6 => ?_) (fun c6 => ?_)
    · have h := zY c6 h
      refine lv_iconst (v := 0) hx hb dX7_put_32 (by decide) ?_
      have ho0 : (0 : Int32) = or_ := congrArg (fun z : Int32 × SS => z.1) (Option.some.inj h)
      have ho1 : S7 = o_7 := congrArg (fun z : Int32 × SS => z.2) (Option.some.inj h)
      exact W.zret (v := 0) hx hb hr (by decide) (fun t ht hW => ⟨⟨0, (), rfl, ho0, by rw [ht]; rw [← ho1]; exact hP, va_K.moved hW.alike hK, by rw [← ho1]; exact hD⟩, hS.F ht⟩) hS.2.2 dX7_put_33
    · have h := zN c6 h
      refine lv_aload_n hx hb dX7_put_15 rfl (lv_at hl 0 rfl) ?_
      refine lv_iload_n hx hb dX7_put_16 rfl (lv_at hl 1 rfl) ?_
      obtain ⟨r7, hc8, h⟩ := zB_spec h
      have hFc := zFree hD hS hA
      refine va_calli (va_runV (As := [.int p1]) (rest := []) ⟨hx, hb, hml, hown, hts⟩ (m_X7_kind l dC dI y a7 h7 S7 p1 H4.size r7 hc8) (cwV 1 hts gX7_put_X7_kind rfl rfl rfl (by decide +kernel) ⟨Nat.le_of_ble_eq_true rfl, Nat.le_of_ble_eq_true rfl⟩) ⟨fun a U g mk q => by obtain ⟨q0, q1, qP, qK, qD⟩ := q; exact ⟨q0, q1, qP, va_K.moved (u := U) (U := U.calling g mk a) (Vm.Alike.refl U.vm) qK, qD⟩, va_recv hK hP (ci := 6) (q0 := 0) rfl rfl, fun U hU hW => ⟨rfl, by rw [hU], by rw [hU]; exact hP, va_K.moved hW.alike hK, hD.weaken (fun _ _ _ _ => trivial)⟩⟩ rfl rfl hl.1 rfl (lv_room (Nat.le_of_ble_eq_true rfl)) dX7_put_17 ⟨Nat.le_of_ble_eq_true rfl, Nat.le_of_ble_eq_true rfl⟩) hS (fun q _ h => hFc q h) hFc (fun rr10 u t H9 locs ht hvm hw hB hz1 hk1 hS => ?_)
      obtain ⟨hP1, hK1, hD1⟩ := hB
      rw [ht] at hP1
      refine zTopi hw.symm ?_
      have hP := hP1
      have hD := hD1.weaken (fun _ q _ h => hFc q.1 h)
      have hP : va_P (dC, dI) vwCl (cX7 a7 h7 y S7) H9 := hP
      have hD : va_D A (cX7 a7 h7 y S7) := hD
      refine lv_if_ne (tgt := 32) hx hb dX7_put_20 (by decide) (fun c11 => ?_) (fun c11 => ?_)
      · have h := zN c11 h
        refine lv_iconst (v := 0) hx hb dX7_put_32 (by decide) ?_
        have ho0 : (0 : Int32) = or_ := congrArg (fun z : Int32 × SS => z.1) (Option.some.inj h)
        have ho1 : S7 = o_7 := congrArg (fun z : Int32 × SS => z.2) (Option.some.inj h)
        exact W.zret (v := 0) hx hb hr (by decide) (fun t ht hW => ⟨⟨0, (), rfl, ho0, by rw [ht]; rw [← ho1]; exact hP, va_K.moved hW.alike hK, by rw [← ho1]; exact hD⟩, hS.F ht⟩) hS.2.2 dX7_put_33
      · have h := zY c11 h
        refine lv_iload_n hx hb dX7_put_23 rfl (lv_at hl 2 rfl) ?_
        refine lv_if_lt (tgt := 32) hx hb dX7_put_24 (by decide) (fun c12 => ?_) (fun c12 => ?_)
        · have h := zY c12 h
          refine lv_iconst (v := 0) hx hb dX7_put_32 (by decide) ?_
          have ho0 : (0 : Int32) = or_ := congrArg (fun z : Int32 × SS => z.1) (Option.some.inj h)
          have ho1 : S7 = o_7 := congrArg (fun z : Int32 × SS => z.2) (Option.some.inj h)
          exact W.zret (v := 0) hx hb hr (by decide) (fun t ht hW => ⟨⟨0, (), rfl, ho0, by rw [ht]; rw [← ho1]; exact hP, va_K.moved hW.alike hK, by rw [← ho1]; exact hD⟩, hS.F ht⟩) hS.2.2 dX7_put_33
        · have h := zN c12 h
          refine lv_iload_n hx hb dX7_put_27 rfl (lv_at hl 2 rfl) ?_
          refine lv_iconst (v := 3) hx hb dX7_put_28 (by decide) ?_
          refine lv_icmp_le (tgt := 34) hx hb dX7_put_29 (by decide) (fun c13 => ?_) (fun c13 => ?_)
          · have h := zY c13 h
            refine lv_aload_n hx hb dX7_put_34 rfl (lv_at hl 0 rfl) ?_
            refine va_get (D := (dC, dI)) (ci := 6) (v := .ref (h7 40)) (C := RX7) (T := TX7) (N := 49) hx hb hts inX7_ hown hK hP 0 rfl rfl 40 (by decide) (hts (.fieldLink RX7 89 "GateWheelModel" "on" "[I") (List.mem_of_getElem? (i := 2) rfl)) (fun _ h9 => h9) rfl dX7_put_35 ?_
            refine lv_iload_n hx hb dX7_put_38 rfl (lv_at hl 1 rfl) ?_
            obtain ⟨hi14, h⟩ := zG_spec h
            refine va_iald hx hb hK hP 25 0 rfl rfl hi14 dX7_put_39 ?_
            refine lv_iload_n hx hb dX7_put_40 rfl (lv_at hl 2 rfl) ?_
            refine lv_icmp_eq (tgt := 50) hx hb dX7_put_41 (by decide) (fun c15 => ?_) (fun c15 => ?_)
            · have h := zY c15 h
              refine lv_iconst (v := 1) hx hb dX7_put_50 (by decide) ?_
              have ho0 : (1 : Int32) = or_ := congrArg (fun z : Int32 × SS => z.1) (Option.some.inj h)
              have ho1 : S7 = o_7 := congrArg (fun z : Int32 × SS => z.2) (Option.some.inj h)
              exact W.zret (v := 1) hx hb hr (by decide) (fun t ht hW => ⟨⟨1, (), rfl, ho0, by rw [ht]; rw [← ho1]; exact hP, va_K.moved hW.alike hK, by rw [← ho1]; exact hD⟩, hS.F ht⟩) hS.2.2 dX7_put_51
            · have h := zN c15 h
              refine lv_aload_n hx hb dX7_put_44 rfl (lv_at hl 0 rfl) ?_
              refine lv_iload_n hx hb dX7_put_45 rfl (lv_at hl 1 rfl) ?_
              refine lv_iload_n hx hb dX7_put_46 rfl (lv_at hl 2 rfl) ?_
              obtain ⟨s7_16, hc17, h⟩ := zB_spec h
              have hFc := zFree hD hS hA
              refine va_callv (va_runV (As := [.int p1, .int p2]) (rest := []) ⟨hx, hb, hml, hown, hts⟩ (m_X7_change l dC dI y a7 h7 S7 p1 p2 H9.size s7_16 hc17) (cwV 2 hts gX7_put_X7_change rfl rfl rfl (by decide +kernel) ⟨Nat.le_of_ble_eq_true rfl, Nat.le_of_ble_eq_true rfl⟩) ⟨fun a U g mk q => by obtain ⟨q0, q1, qP, qK, qD⟩ := q; exact ⟨q0, q1, qP, va_K.moved (u := U) (U := U.calling g mk a) (Vm.Alike.refl U.vm) qK, qD⟩, va_recv hK hP (ci := 6) (q0 := 0) rfl rfl, fun U hU hW => ⟨rfl, by rw [hU], by rw [hU]; exact hP, va_K.moved hW.alike hK, hD.weaken (fun _ _ _ _ => trivial)⟩⟩ rfl rfl hl.1 rfl (lv_room (Nat.le_of_ble_eq_true rfl)) dX7_put_47 ⟨Nat.le_of_ble_eq_true rfl, Nat.le_of_ble_eq_true rfl⟩) hS (fun q _ h => hFc q h) hFc (fun u t H18 locs ht hvm hw hB hz1 hk1 hS => ?_)
              obtain ⟨hP1, hK1, hD1⟩ := hB
              rw [ht] at hP1
              have hP := hP1
              have hD := hD1.weaken (fun _ q _ h => hFc q.1 h)
              have hP : va_P (dC, dI) vwCl (cX7 a7 h7 y s7_16) H18 := hP
              have hD : va_D A (cX7 a7 h7 y s7_16) := hD
              refine lv_iconst (v := 1) hx hb dX7_put_50 (by decide) ?_
              have ho0 : (1 : Int32) = or_ := congrArg (fun z : Int32 × SS => z.1) (Option.some.inj h)
              have ho1 : s7_16 = o_7 := congrArg (fun z : Int32 × SS => z.2) (Option.some.inj h)
              exact W.zret (v := 1) hx hb hr (by decide) (fun t ht hW => ⟨⟨1, (), rfl, ho0, by rw [ht]; rw [← ho1]; exact hP, va_K.moved hW.alike hK, by rw [← ho1]; exact hD⟩, hS.F ht⟩) hS.2.2 dX7_put_51
          · have h := zN c13 h
            refine lv_iconst (v := 0) hx hb dX7_put_32 (by decide) ?_
            have ho0 : (0 : Int32) = or_ := congrArg (fun z : Int32 × SS => z.1) (Option.some.inj h)
            have ho1 : S7 = o_7 := congrArg (fun z : Int32 × SS => z.2) (Option.some.inj h)
            exact W.zret (v := 0) hx hb hr (by decide) (fun t ht hW => ⟨⟨0, (), rfl, ho0, by rw [ht]; rw [← ho1]; exact hP, va_K.moved hW.alike hK, by rw [← ho1]; exact hD⟩, hS.F ht⟩) hS.2.2 dX7_put_33

set_option maxHeartbeats 4000000 in
set_option maxRecDepth 100000 in
theorem m_X7_hasChanged (l : Launch) (dC : Nat → ClassId) (dI : Nat → Nat → Nat) (y : Nat → ClassId) (a7 : Nat) (h7 : Nat → Nat) (S7 : SS) (p1 : Int32) (sz : Nat) (or_ : Int32) (h : f_X7_hasChanged S7 p1 = some or_) : Met l yX7_hasChanged wsX7_hasChanged ({ frames := 1, cells := 0, slots := 0, locals := 22 }) (va_Pc [.ref a7, .int p1] (fun U => U.heap.size = sz ∧ va_P (dC, dI) vwCl (cX7 a7 h7 y S7) U.heap ∧ va_K (dC, dI) vwCl [(y 0, .int), (y 1, .long), (y 2, .byte), (y 3, .boolean)] U ∧ va_D (fun _ => True) (cX7 a7 h7 y S7))) (va_Qi (fun (r : Int32) (_ : Unit) => r = or_) (fun (_ : Unit) (t : State) => va_P (dC, dI) vwCl (cX7 a7 h7 y S7) t.heap ∧ va_K (dC, dI) vwCl [(y 0, .int), (y 1, .long), (y 2, .byte), (y 3, .boolean)] t ∧ va_D (va_A (cX7 a7 h7 y S7) sz) (cX7 a7 h7 y S7)) (va_A (cX7 a7 h7 y S7) sz)) 0 0 (va_A (cX7 a7 h7 y S7) sz) := by
  refine Met.ofW (cc := cX7_hasChanged) (maxL := 4) (ret := (some .boolean)) (by decide +kernel) rfl ?_
  intro p e s m args below meth c s₁ B hml hv
  obtain ⟨rfl, hsz, hP, hK, hD0⟩ := hv
  have hx := B.exec
  have hb := B.bytes
  have hr := B.returns
  have hts := atoms_spec (ws := wsX7_hasChanged) B.pre
  have hown : s.vm.findClass RX7 = some m.cls := findClass_of_methodNamed B.named
  have hlocks := B.notSynchronized
  have inX7_ : ∀ w ∈ wsX70, w ∈ wsX7_hasChanged := fun _ h => List.mem_cons_of_mem _ (List.mem_append_right _ h)
  subst hsz
  have hD := hD0.self (sz := s.heap.size)
  generalize hAe : va_A (cX7 a7 h7 y S7) s.heap.size = A at hD ⊢
  have hA : ∀ q : Nat, s.heap.size ≤ q → A q := fun q h => by rw [← hAe]; exact Or.inr h
  have hS : va_S A s.heap s.heap [] := va_S.rf
  have hP : va_P (dC, dI) vwCl (cX7 a7 h7 y S7) s.heap := hP
  have hl := lv_entry ([.ref a7, .int p1]) (n := 4) (Nat.le_of_ble_eq_true rfl)
  rw [lg_entry_eq]
  generalize (lg_sl ([.ref a7, .int p1]) ++ List.replicate (4 - (lg_sl ([.ref a7, .int p1])).length) Slot.unset).toArray = ls at hl ⊢
  have hl : lv_has ls 4 [(0, .ref a7), (1, .int p1)] := hl
  refine lv_iconst (v := 0) hx hb dX7_hasChanged_0 (by decide) ?_
  refine lv_istore_n (lv' := [(2, .int 0), (0, .ref a7), (1, .int p1)]) hx hb dX7_hasChanged_1 rfl hl (by decide) rfl (fun ls hl => ?_)
  refine lv_iconst (v := 0) hx hb dX7_hasChanged_2 (by decide) ?_
  refine lv_istore_n (lv' := [(3, .int 0), (2, .int 0), (0, .ref a7), (1, .int p1)]) hx hb dX7_hasChanged_3 rfl hl (by decide) rfl (fun ls hl => ?_)
  refine W_abs (fun GW1 eG2 => ?_)
  have hi6 := h
  have lp4 : ∀ (n : Nat) (v10 : Int32) (v11 : Int32) (HGW1 : Heap) (locs : List Loc) (ls : Array Slot), zI (b_X7_hasChanged_4 S7 p1) n (v10, v11) = some or_ → va_P (dC, dI) vwCl (cX7 a7 h7 y S7) HGW1 → va_D A (cX7 a7 h7 y S7) → va_S A s.heap HGW1 locs → lv_has ls 4 [(0, .ref a7), (1, .int p1), (2, .int v10), (3, .int v11)] → GW1 HGW1 locs 0 0 (F0 m 4 ls []) := by
    intro n
    induction n with
    | zero =>
      intro v10 v11 HGW1 locs ls hi6 hP hD hS hl
      exact (zI_0 hi6).elim
    | succ n ihlp4 =>
      intro v10 v11 HGW1 locs ls hi6 hP hD hS hl
      refine (eG2 _ _ _ _ _).mpr ?_
      obtain ⟨xx9, h, hx8⟩ := zI_spec hi6
      refine lv_iload_n hx hb dX7_hasChanged_4 rfl (lv_at hl 3 rfl) ?_
      refine lv_aload_n hx hb dX7_hasChanged_5 rfl (lv_at hl 0 rfl) ?_
      refine lv_bipush (v := 60) hx hb dX7_hasChanged_6 (by decide) ?_
      refine lv_aload_n hx hb dX7_hasChanged_8 rfl (lv_at hl 0 rfl) ?_
      refine va_get (D := (dC, dI)) (ci := 6) (v := .int (gI S7 30)) (C := RX7) (T := TX7) (N := 49) hx hb hts inX7_ hown hK hP 0 rfl rfl 30 (by decide) (hts (.fieldLink RX7 188 "GateWheelModel" "bank" "I") (List.mem_of_getElem? (i := 1) rfl)) (fun _ h9 => h9) rfl dX7_hasChanged_9 ?_
      refine lv_imul hx hb dX7_hasChanged_12 ?_
      refine lv_iload_n hx hb dX7_hasChanged_13 rfl (lv_at hl 1 rfl) ?_
      refine lv_iadd hx hb dX7_hasChanged_14 ?_
      obtain ⟨r12, hc13, h⟩ := zB_spec h
      have hFc := zFree hD hS hA
      refine va_calli (va_runV (As := [.int (((60 : Int32) * (gI S7 30)) + p1)]) (rest := [.int v11]) ⟨hx, hb, hml, hown, hts⟩ (m_X7_hangs l dC dI y a7 h7 S7 (((60 : Int32) * (gI S7 30)) + p1) HGW1.size r12 hc13) (cwV 1 hts gX7_hasChanged_X7_hangs rfl rfl rfl (by decide +kernel) ⟨Nat.le_of_ble_eq_true rfl, Nat.le_of_ble_eq_true rfl⟩) ⟨fun a U g mk q => by obtain ⟨q0, q1, qP, qK, qD⟩ := q; exact ⟨q0, q1, qP, va_K.moved (u := U) (U := U.calling g mk a) (Vm.Alike.refl U.vm) qK, qD⟩, va_recv hK hP (ci := 6) (q0 := 0) rfl rfl, fun U hU hW => ⟨rfl, by rw [hU], by rw [hU]; exact hP, va_K.moved hW.alike hK, hD.weaken (fun _ _ _ _ => trivial)⟩⟩ rfl rfl hl.1 rfl (lv_room (Nat.le_of_ble_eq_true rfl)) dX7_hasChanged_15 ⟨Nat.le_of_ble_eq_true rfl, Nat.le_of_ble_eq_true rfl⟩) hS (fun q _ h => hFc q h) hFc (fun rr15 u t H14 locs ht hvm hw hB hz1 hk1 hS => ?_)
      obtain ⟨hP1, hK1, hD1⟩ := hB
      rw [ht] at hP1
      refine zTopi hw.symm ?_
      have hP := hP1
      have hD := hD1.weaken (fun _ q _ h => hFc q.1 h)
      have hP : va_P (dC, dI) vwCl (cX7 a7 h7 y S7) H14 := hP
      have hD : va_D A (cX7 a7 h7 y S7) := hD
      refine lv_icmp_ge (tgt := 51) hx hb dX7_hasChanged_18 (by decide) (fun c16 => ?_) (fun c16 => ?_)
      · have h := zY c16 h
        refine lv_iload_n hx hb dX7_hasChanged_51 rfl (lv_at hl 2 rfl) ?_
        obtain ⟨hz17, h⟩ := zG_spec h
        have h := congrArg some (zI_r h hx8)
        have ho0 : v10 = or_ := congrArg (fun z : Int32 => z) (Option.some.inj h)
        exact W.zret (v := v10) hx hb hr (zb_nar hz17) (fun t ht hW => ⟨⟨v10, (), rfl, ho0, by rw [ht]; exact hP, va_K.moved hW.alike hK, hD⟩, hS.F ht⟩) hS.2.2 dX7_hasChanged_52
      · have h := zN c16 h
        refine lv_iload_n hx hb dX7_hasChanged_21 rfl (lv_at hl 2 rfl) ?_
        refine lv_if_ne (tgt := 39) hx hb dX7_hasChanged_22 (by decide) (fun c18 => ?_) (fun c18 => ?_)
        · have h := zN c18 h
          refine lv_iconst (v := 1) hx hb dX7_hasChanged_39 (by decide) ?_
          refine lv_goto (tgt := 44) hx hb dX7_hasChanged_40 (by decide) ?_
          refine lv_istore_n (lv' := [(2, .int 1), (0, .ref a7), (1, .int p1), (3, .int v11)]) hx hb dX7_hasChanged_44 rfl hl (by decide) rfl (fun ls hl => ?_)
          obtain ⟨v19, ev19, h⟩ := zL_spec h
          refine lv_iinc (v := v19) (lv' := [(3, .int v19), (2, .int 1), (0, .ref a7), (1, .int p1)]) hx hb dX7_hasChanged_45 hl (k := 3) rfl (by rw [ev19]; rfl) (by decide) rfl (fun ls hl => ?_)
          refine lv_goto (tgt := 4) hx hb dX7_hasChanged_48 (by decide) ?_
          have h := zI_l h hx8
          exact (eG2 _ _ _ _ _).mp (ihlp4 (1 : Int32) v19 _ _ _ h hP hD hS (lv_sub hl [2, 3, 1, 0] rfl))
        · have h := zY c18 h
          refine lv_aload_n hx hb dX7_hasChanged_25 rfl (lv_at hl 0 rfl) ?_
          refine va_get (D := (dC, dI)) (ci := 6) (v := .ref (h7 45)) (C := RX7) (T := TX7) (N := 49) hx hb hts inX7_ hown hK hP 0 rfl rfl 45 (by decide) (hts (.fieldLink RX7 104 "GateWheelModel" "changed" "[Z") (List.mem_of_getElem? (i := 2) rfl)) (fun _ h9 => h9) rfl dX7_hasChanged_26 ?_
          refine lv_aload_n hx hb dX7_hasChanged_29 rfl (lv_at hl 0 rfl) ?_
          refine lv_iload_n hx hb dX7_hasChanged_30 rfl (lv_at hl 1 rfl) ?_
          refine lv_iload_n hx hb dX7_hasChanged_31 rfl (lv_at hl 3 rfl) ?_
          obtain ⟨r20, hc21, h⟩ := zB_spec h
          have hFc := zFree hD hS hA
          refine va_calli (va_runV (As := [.int p1, .int v11]) (rest := [.ref (h7 45)]) ⟨hx, hb, hml, hown, hts⟩ (m_X7_in l dC dI y a7 h7 S7 p1 v11 H14.size r20 hc21) (cwV 2 hts gX7_hasChanged_X7_in rfl rfl rfl (by decide +kernel) ⟨Nat.le_of_ble_eq_true rfl, Nat.le_of_ble_eq_true rfl⟩) ⟨fun a U g mk q => by obtain ⟨q0, q1, qP, qK, qD⟩ := q; exact ⟨q0, q1, qP, va_K.moved (u := U) (U := U.calling g mk a) (Vm.Alike.refl U.vm) qK, qD⟩, va_recv hK hP (ci := 6) (q0 := 0) rfl rfl, fun U hU hW => ⟨rfl, by rw [hU], by rw [hU]; exact hP, va_K.moved hW.alike hK, hD.weaken (fun _ _ _ _ => trivial)⟩⟩ rfl rfl hl.1 rfl (lv_room (Nat.le_of_ble_eq_true rfl)) dX7_hasChanged_32 ⟨Nat.le_of_ble_eq_true rfl, Nat.le_of_ble_eq_true rfl⟩) hS (fun q _ h => hFc q h) hFc (fun rr23 u t H22 locs ht hvm hw hB hz1 hk1 hS => ?_)
          obtain ⟨hP1, hK1, hD1⟩ := hB
          rw [ht] at hP1
          refine zTopi hw.symm ?_
          have hP := hP1
          have hD := hD1.weaken (fun _ q _ h => hFc q.1 h)
          have hP : va_P (dC, dI) vwCl (cX7 a7 h7 y S7) H22 := hP
          have hD : va_D A (cX7 a7 h7 y S7) := hD
          obtain ⟨hi24, h⟩ := zG_spec h
          refine va_zald hx hb hK hP 30 3 rfl rfl hi24 dX7_hasChanged_35 ?_
          refine lv_if_eq (tgt := 43) hx hb dX7_hasChanged_36 (by decide) (fun c25 => ?_) (fun c25 => ?_)
          · have h := zY c25 h
            refine lv_iconst (v := 0) hx hb dX7_hasChanged_43 (by decide) ?_
            refine lv_istore_n (lv' := [(2, .int 0), (0, .ref a7), (1, .int p1), (3, .int v11)]) hx hb dX7_hasChanged_44 rfl hl (by decide) rfl (fun ls hl => ?_)
            obtain ⟨v26, ev26, h⟩ := zL_spec h
            refine lv_iinc (v := v26) (lv' := [(3, .int v26), (2, .int 0), (0, .ref a7), (1, .int p1)]) hx hb dX7_hasChanged_45 hl (k := 3) rfl (by rw [ev26]; rfl) (by decide) rfl (fun ls hl => ?_)
            refine lv_goto (tgt := 4) hx hb dX7_hasChanged_48 (by decide) ?_
            have h := zI_l h hx8
            exact (eG2 _ _ _ _ _).mp (ihlp4 (0 : Int32) v26 _ _ _ h hP hD hS (lv_sub hl [2, 3, 1, 0] rfl))
          · have h := zN c25 h
            refine lv_iconst (v := 1) hx hb dX7_hasChanged_39 (by decide) ?_
            refine lv_goto (tgt := 44) hx hb dX7_hasChanged_40 (by decide) ?_
            refine lv_istore_n (lv' := [(2, .int 1), (0, .ref a7), (1, .int p1), (3, .int v11)]) hx hb dX7_hasChanged_44 rfl hl (by decide) rfl (fun ls hl => ?_)
            obtain ⟨v27, ev27, h⟩ := zL_spec h
            refine lv_iinc (v := v27) (lv' := [(3, .int v27), (2, .int 1), (0, .ref a7), (1, .int p1)]) hx hb dX7_hasChanged_45 hl (k := 3) rfl (by rw [ev27]; rfl) (by decide) rfl (fun ls hl => ?_)
            refine lv_goto (tgt := 4) hx hb dX7_hasChanged_48 (by decide) ?_
            have h := zI_l h hx8
            exact (eG2 _ _ _ _ _).mp (ihlp4 (1 : Int32) v27 _ _ _ h hP hD hS (lv_sub hl [2, 3, 1, 0] rfl))
  exact lp4 zF (0 : Int32) (0 : Int32) _ _ _ hi6 hP hD hS (lv_sub hl [2, 3, 1, 0] rfl)

set_option maxHeartbeats 4000000 in
set_option maxRecDepth 100000 in
theorem m_X7_looks (l : Launch) (dC : Nat → ClassId) (dI : Nat → Nat → Nat) (y : Nat → ClassId) (a7 : Nat) (h7 : Nat → Nat) (S7 : SS) (sz : Nat) (or_ : Int32) (o_7 : SS) (h : f_X7_looks S7 = some (or_, o_7)) : Met l yX7_looks wsX7_looks ({ frames := 2, cells := 0, slots := 0, locals := 50 }) (va_Pc [.ref a7] (fun U => U.heap.size = sz ∧ va_P (dC, dI) vwCl (cX7 a7 h7 y S7) U.heap ∧ va_K (dC, dI) vwCl [(y 0, .int), (y 1, .long), (y 2, .byte), (y 3, .boolean)] U ∧ va_D (fun _ => True) (cX7 a7 h7 y S7))) (va_Qi (fun (r : Int32) (_ : Unit) => r = or_) (fun (_ : Unit) (t : State) => va_P (dC, dI) vwCl (cX7 a7 h7 y o_7) t.heap ∧ va_K (dC, dI) vwCl [(y 0, .int), (y 1, .long), (y 2, .byte), (y 3, .boolean)] t ∧ va_D (va_A (cX7 a7 h7 y S7) sz) (cX7 a7 h7 y o_7)) (va_A (cX7 a7 h7 y S7) sz)) 0 0 (va_A (cX7 a7 h7 y S7) sz) := by
  refine Met.ofW (cc := cX7_looks) (maxL := 5) (ret := (some .int)) (by decide +kernel) rfl ?_
  intro p e s m args below meth c s₁ B hml hv
  obtain ⟨rfl, hsz, hP, hK, hD0⟩ := hv
  have hx := B.exec
  have hb := B.bytes
  have hr := B.returns
  have hts := atoms_spec (ws := wsX7_looks) B.pre
  have hown : s.vm.findClass RX7 = some m.cls := findClass_of_methodNamed B.named
  have hlocks := B.notSynchronized
  have inX7_ : ∀ w ∈ wsX70, w ∈ wsX7_looks := fun _ h => List.mem_cons_of_mem _ (List.mem_append_right _ h)
  subst hsz
  have hD := hD0.self (sz := s.heap.size)
  generalize hAe : va_A (cX7 a7 h7 y S7) s.heap.size = A at hD ⊢
  have hA : ∀ q : Nat, s.heap.size ≤ q → A q := fun q h => by rw [← hAe]; exact Or.inr h
  have hS : va_S A s.heap s.heap [] := va_S.rf
  have hP : va_P (dC, dI) vwCl (cX7 a7 h7 y S7) s.heap := hP
  have hl := lv_entry ([.ref a7]) (n := 5) (Nat.le_of_ble_eq_true rfl)
  rw [lg_entry_eq]
  generalize (lg_sl ([.ref a7]) ++ List.replicate (5 - (lg_sl ([.ref a7])).length) Slot.unset).toArray = ls at hl ⊢
  have hl : lv_has ls 5 [(0, .ref a7)] := hl
  refine lv_iconst (v := 0) hx hb dX7_looks_0 (by decide) ?_
  refine lv_istore_n (lv' := [(1, .int 0), (0, .ref a7)]) hx hb dX7_looks_1 rfl hl (by decide) rfl (fun ls hl => ?_)
  refine lv_iconst (v := 0) hx hb dX7_looks_2 (by decide) ?_
  refine lv_istore_n (lv' := [(2, .int 0), (1, .int 0), (0, .ref a7)]) hx hb dX7_looks_3 rfl hl (by decide) rfl (fun ls hl => ?_)
  refine W_abs (fun GW1 eG2 => ?_)
  obtain ⟨ov5, hi6, h⟩ := zB_spec h
  have je3 : ∀ (v10 : Int32) (s7_11 : SS) (HGW1e : Heap) (locs : List Loc) (ls : Array Slot), (v10, s7_11) = ov5 → va_P (dC, dI) vwCl (cX7 a7 h7 y s7_11) HGW1e → va_D A (cX7 a7 h7 y s7_11) → va_S A s.heap HGW1e locs → lv_has ls 5 [(0, .ref a7), (1, .int v10)] → GW1 HGW1e locs 0 0 (F0 m 107 ls []) := by
    intro v10 s7_11 HGW1e locs ls hv hP hD hS hl
    subst hv
    refine (eG2 _ _ _ _ _).mpr ?_
    refine lv_iconst (v := 0) hx hb dX7_looks_107 (by decide) ?_
    refine lv_istore_n (lv' := [(2, .int 0), (0, .ref a7), (1, .int v10)]) hx hb dX7_looks_108 rfl hl (by decide) rfl (fun ls hl => ?_)
    refine W_abs (fun GW12 eG13 => ?_)
    obtain ⟨ov16, hi17, h⟩ := zB_spec h
    have je14 : ∀ (s7_21 : SS) (HGW12e : Heap) (locs : List Loc) (ls : Array Slot), s7_21 = ov16 → va_P (dC, dI) vwCl (cX7 a7 h7 y s7_21) HGW12e → va_D A (cX7 a7 h7 y s7_21) → va_S A s.heap HGW12e locs → lv_has ls 5 [(0, .ref a7), (1, .int v10)] → GW12 HGW12e locs 0 0 (F0 m 234 ls []) := by
      intro s7_21 HGW12e locs ls hv hP hD hS hl
      subst hv
      refine (eG13 _ _ _ _ _).mpr ?_
      refine lv_iconst (v := 0) hx hb dX7_looks_234 (by decide) ?_
      refine lv_istore_n (lv' := [(2, .int 0), (0, .ref a7), (1, .int v10)]) hx hb dX7_looks_235 rfl hl (by decide) rfl (fun ls hl => ?_)
      refine W_abs (fun GW22 eG23 => ?_)
      have hi27 := h
      have lp25 : ∀ (n : Nat) (v31 : Int32) (s7_32 : SS) (HGW22 : Heap) (locs : List Loc) (ls : Array Slot), zI (b_X7_looks_236 v10) n (v31, s7_32) = some (or_, o_7) → va_P (dC, dI) vwCl (cX7 a7 h7 y s7_32) HGW22 → va_D A (cX7 a7 h7 y s7_32) → va_S A s.heap HGW22 locs → lv_has ls 5 [(0, .ref a7), (1, .int v10), (2, .int v31)] → GW22 HGW22 locs 0 0 (F0 m 236 ls []) := by
        intro n
        induction n with
        | zero =>
          intro v31 s7_32 HGW22 locs ls hi27 hP hD hS hl
          exact (zI_0 hi27).elim
        | succ n ihlp25 =>
          intro v31 s7_32 HGW22 locs ls hi27 hP hD hS hl
          refine (eG23 _ _ _ _ _).mpr ?_
          obtain ⟨xx30, h, hx29⟩ := zI_spec hi27
          refine lv_iload_n hx hb dX7_looks_236 rfl (lv_at hl 2 rfl) ?_
          refine lv_aload_n hx hb dX7_looks_237 rfl (lv_at hl 0 rfl) ?_
          refine va_get (D := (dC, dI)) (ci := 6) (v := .int (gI s7_32 29)) (C := RX7) (T := TX7) (N := 49) hx hb hts inX7_ hown hK hP 0 rfl rfl 29 (by decide) (hts (.fieldLink RX7 261 "GateWheelModel" "nodes" "I") (List.mem_of_getElem? (i := 1) rfl)) (fun _ h9 => h9) rfl dX7_looks_238 ?_
          refine lv_icmp_ge (tgt := 257) hx hb dX7_looks_241 (by decide) (fun c33 => ?_) (fun c33 => ?_)
          · have h := zY c33 h
            refine lv_iload_n hx hb dX7_looks_257 rfl (lv_at hl 1 rfl) ?_
            have h := congrArg some (zI_r h hx29)
            have ho0 : v10 = or_ := congrArg (fun z : Int32 × SS => z.1) (Option.some.inj h)
            have ho1 : s7_32 = o_7 := congrArg (fun z : Int32 × SS => z.2) (Option.some.inj h)
            exact W.iret (v := v10) hx hb hr (fun t ht hW => ⟨⟨v10, (), rfl, ho0, by rw [ht]; rw [← ho1]; exact hP, va_K.moved hW.alike hK, by rw [← ho1]; exact hD⟩, hS.F ht⟩) hS.2.2 dX7_looks_258
          · have h := zN c33 h
            refine lv_aload_n hx hb dX7_looks_244 rfl (lv_at hl 0 rfl) ?_
            refine va_get (D := (dC, dI)) (ci := 6) (v := .ref (h7 45)) (C := RX7) (T := TX7) (N := 49) hx hb hts inX7_ hown hK hP 0 rfl rfl 45 (by decide) (hts (.fieldLink RX7 104 "GateWheelModel" "changed" "[Z") (List.mem_of_getElem? (i := 10) rfl)) (fun _ h9 => h9) rfl dX7_looks_245 ?_
            refine lv_iload_n hx hb dX7_looks_248 rfl (lv_at hl 2 rfl) ?_
            refine lv_iconst (v := 0) hx hb dX7_looks_249 (by decide) ?_
            obtain ⟨hi34, h⟩ := zG_spec h
            refine va_zast hx hb hK hP hD hS 30 3 rfl rfl hi34 dX7_looks_250 (fun H35 locs hP hD hS => ?_)
            obtain ⟨s7_36, es7_36, h⟩ := zL_spec h
            have hP : va_P (dC, dI) vwCl (cX7 a7 h7 y s7_36) H35 := by rw [es7_36]; exact hP
            have hD : va_D A (cX7 a7 h7 y s7_36) := by rw [es7_36]; exact hD
            obtain ⟨v37, ev37, h⟩ := zL_spec h
            refine lv_iinc (v := v37) (lv' := [(2, .int v37), (0, .ref a7), (1, .int v10)]) hx hb dX7_looks_251 hl (k := 2) rfl (by rw [ev37]; rfl) (by decide) rfl (fun ls hl => ?_)
            refine lv_goto (tgt := 236) hx hb dX7_looks_254 (by decide) ?_
            have h := zI_l h hx29
            exact (eG23 _ _ _ _ _).mp (ihlp25 v37 s7_36 _ _ _ h hP hD hS (lv_sub hl [1, 2, 0] rfl))
      exact lp25 zF (0 : Int32) s7_21 _ _ _ hi27 hP hD hS (lv_sub hl [1, 2, 0] rfl)
    have lp15 : ∀ (n : Nat) (v38 : Int32) (s7_39 : SS) (HGW12 : Heap) (locs : List Loc) (ls : Array Slot), zI (b_X7_looks_109) n (v38, s7_39) = some ov16 → va_P (dC, dI) vwCl (cX7 a7 h7 y s7_39) HGW12 → va_D A (cX7 a7 h7 y s7_39) → va_S A s.heap HGW12 locs → lv_has ls 5 [(0, .ref a7), (1, .int v10), (2, .int v38)] → GW12 HGW12 locs 0 0 (F0 m 109 ls []) := by
      intro n
      induction n with
      | zero =>
        intro v38 s7_39 HGW12 locs ls hi17 hP hD hS hl
        exact (zI_0 hi17).elim
      | succ n ihlp15 =>
        intro v38 s7_39 HGW12 locs ls hi17 hP hD hS hl
        refine (eG13 _ _ _ _ _).mpr ?_
        obtain ⟨xx20, h, hx19⟩ := zI_spec hi17
        refine lv_iload_n hx hb dX7_looks_109 rfl (lv_at hl 2 rfl) ?_
        refine lv_aload_n hx hb dX7_looks_110 rfl (lv_at hl 0 rfl) ?_
        refine va_get (D := (dC, dI)) (ci := 6) (v := .int (gI s7_39 29)) (C := RX7) (T := TX7) (N := 49) hx hb hts inX7_ hown hK hP 0 rfl rfl 29 (by decide) (hts (.fieldLink RX7 261 "GateWheelModel" "nodes" "I") (List.mem_of_getElem? (i := 1) rfl)) (fun _ h9 => h9) rfl dX7_looks_111 ?_
        refine lv_icmp_ge (tgt := 234) hx hb dX7_looks_114 (by decide) (fun c40 => ?_) (fun c40 => ?_)
        · have h := zY c40 h
          exact (eG13 _ _ _ _ _).mp (je14 s7_39 _ _ _ (zI_r h hx19) hP hD hS (lv_sub hl [0, 1] rfl))
        · have h := zN c40 h
          refine lv_aload_n hx hb dX7_looks_117 rfl (lv_at hl 0 rfl) ?_
          refine lv_iload_n hx hb dX7_looks_118 rfl (lv_at hl 2 rfl) ?_
          obtain ⟨r41, hc42, h⟩ := zB_spec h
          have hFc := zFree hD hS hA
          refine va_calli (va_runV (As := [.int v38]) (rest := []) ⟨hx, hb, hml, hown, hts⟩ (m_X7_kind l dC dI y a7 h7 s7_39 v38 HGW12.size r41 hc42) (cwV 1 hts gX7_looks_X7_kind rfl rfl rfl (by decide +kernel) ⟨Nat.le_of_ble_eq_true rfl, Nat.le_of_ble_eq_true rfl⟩) ⟨fun a U g mk q => by obtain ⟨q0, q1, qP, qK, qD⟩ := q; exact ⟨q0, q1, qP, va_K.moved (u := U) (U := U.calling g mk a) (Vm.Alike.refl U.vm) qK, qD⟩, va_recv hK hP (ci := 6) (q0 := 0) rfl rfl, fun U hU hW => ⟨rfl, by rw [hU], by rw [hU]; exact hP, va_K.moved hW.alike hK, hD.weaken (fun _ _ _ _ => trivial)⟩⟩ rfl rfl hl.1 rfl (lv_room (Nat.le_of_ble_eq_true rfl)) dX7_looks_119 ⟨Nat.le_of_ble_eq_true rfl, Nat.le_of_ble_eq_true rfl⟩) hS (fun q _ h => hFc q h) hFc (fun rr44 u t H43 locs ht hvm hw hB hz1 hk1 hS => ?_)
          obtain ⟨hP1, hK1, hD1⟩ := hB
          rw [ht] at hP1
          refine zTopi hw.symm ?_
          have hP := hP1
          have hD := hD1.weaken (fun _ q _ h => hFc q.1 h)
          have hP : va_P (dC, dI) vwCl (cX7 a7 h7 y s7_39) H43 := hP
          have hD : va_D A (cX7 a7 h7 y s7_39) := hD
          refine lv_iconst (v := 2) hx hb dX7_looks_122 (by decide) ?_
          refine lv_icmp_ne (tgt := 228) hx hb dX7_looks_123 (by decide) (fun c45 => ?_) (fun c45 => ?_)
          · have h := zN c45 h
            obtain ⟨v46, ev46, h⟩ := zL_spec h
            refine lv_iinc (v := v46) (lv' := [(2, .int v46), (0, .ref a7), (1, .int v10)]) hx hb dX7_looks_228 hl (k := 2) rfl (by rw [ev46]; rfl) (by decide) rfl (fun ls hl => ?_)
            refine lv_goto (tgt := 109) hx hb dX7_looks_231 (by decide) ?_
            have h := zI_l h hx19
            exact (eG13 _ _ _ _ _).mp (ihlp15 v46 s7_39 _ _ _ h hP hD hS (lv_sub hl [1, 2, 0] rfl))
          · have h := zY c45 h
            refine lv_aload_n hx hb dX7_looks_126 rfl (lv_at hl 0 rfl) ?_
            refine lv_iload_n hx hb dX7_looks_127 rfl (lv_at hl 2 rfl) ?_
            obtain ⟨r47, hc48, h⟩ := zB_spec h
            have hFc := zFree hD hS hA
            refine va_calli (va_runV (As := [.int v38]) (rest := []) ⟨hx, hb, hml, hown, hts⟩ (m_X7_hasChanged l dC dI y a7 h7 s7_39 v38 H43.size r47 hc48) (cwV 1 hts gX7_looks_X7_hasChanged rfl rfl rfl (by decide +kernel) ⟨Nat.le_of_ble_eq_true rfl, Nat.le_of_ble_eq_true rfl⟩) ⟨fun a U g mk q => by obtain ⟨q0, q1, qP, qK, qD⟩ := q; exact ⟨q0, q1, qP, va_K.moved (u := U) (U := U.calling g mk a) (Vm.Alike.refl U.vm) qK, qD⟩, va_recv hK hP (ci := 6) (q0 := 0) rfl rfl, fun U hU hW => ⟨rfl, by rw [hU], by rw [hU]; exact hP, va_K.moved hW.alike hK, hD.weaken (fun _ _ _ _ => trivial)⟩⟩ rfl rfl hl.1 rfl (lv_room (Nat.le_of_ble_eq_true rfl)) dX7_looks_128 ⟨Nat.le_of_ble_eq_true rfl, Nat.le_of_ble_eq_true rfl⟩) hS (fun q _ h => hFc q h) hFc (fun rr50 u t H49 locs ht hvm hw hB hz1 hk1 hS => ?_)
            obtain ⟨hP1, hK1, hD1⟩ := hB
            rw [ht] at hP1
            refine zTopi hw.symm ?_
            have hP := hP1
            have hD := hD1.weaken (fun _ q _ h => hFc q.1 h)
            have hP : va_P (dC, dI) vwCl (cX7 a7 h7 y s7_39) H49 := hP
            have hD : va_D A (cX7 a7 h7 y s7_39) := hD
            refine lv_if_ne (tgt := 137) hx hb dX7_looks_131 (by decide) (fun c51 => ?_) (fun c51 => ?_)
            · have h := zN c51 h
              refine lv_aload_n hx hb dX7_looks_137 rfl (lv_at hl 0 rfl) ?_
              refine lv_iload_n hx hb dX7_looks_138 rfl (lv_at hl 2 rfl) ?_
              refine lv_aload_n hx hb dX7_looks_139 rfl (lv_at hl 0 rfl) ?_
              refine va_get (D := (dC, dI)) (ci := 6) (v := .ref (h7 40)) (C := RX7) (T := TX7) (N := 49) hx hb hts inX7_ hown hK hP 0 rfl rfl 40 (by decide) (hts (.fieldLink RX7 89 "GateWheelModel" "on" "[I") (List.mem_of_getElem? (i := 4) rfl)) (fun _ h9 => h9) rfl dX7_looks_140 ?_
              obtain ⟨r52, hc53, h⟩ := zB_spec h
              have hFc := zFree hD hS hA
              refine va_calli (va_runV (As := [.int v38, .ref (h7 40)]) (rest := []) ⟨hx, hb, hml, hown, hts⟩ (m_X7_gate l dC dI y a7 h7 s7_39 v38 40 25 ⟨fun _ => rfl, fun _ _ => rfl⟩ H49.size r52 hc53) (cwV 2 hts gX7_looks_X7_gate rfl rfl rfl (by decide +kernel) ⟨Nat.le_of_ble_eq_true rfl, Nat.le_of_ble_eq_true rfl⟩) ⟨fun a U g mk q => by obtain ⟨q0, q1, qP, qK, qD⟩ := q; exact ⟨q0, q1, qP, va_K.moved (u := U) (U := U.calling g mk a) (Vm.Alike.refl U.vm) qK, qD⟩, va_recv hK hP (ci := 6) (q0 := 0) rfl rfl, fun U hU hW => ⟨rfl, by rw [hU], by rw [hU]; exact hP, va_K.moved hW.alike hK, hD.weaken (fun _ _ _ _ => trivial)⟩⟩ rfl rfl hl.1 rfl (lv_room (Nat.le_of_ble_eq_true rfl)) dX7_looks_143 ⟨Nat.le_of_ble_eq_true rfl, Nat.le_of_ble_eq_true rfl⟩) hS (fun q _ h => hFc q h) hFc (fun rr55 u t H54 locs ht hvm hw hB hz1 hk1 hS => ?_)
              obtain ⟨hP1, hK1, hD1⟩ := hB
              rw [ht] at hP1
              refine zTopi hw.symm ?_
              have hP := hP1
              have hD := hD1.weaken (fun _ q _ h => hFc q.1 h)
              have hP : va_P (dC, dI) vwCl (cX7 a7 h7 y s7_39) H54 := hP
              have hD : va_D A (cX7 a7 h7 y s7_39) := hD
              refine lv_istore_n (lv' := [(3, .int r52), (0, .ref a7), (1, .int v10), (2, .int v38)]) hx hb dX7_looks_146 rfl hl (by decide) rfl (fun ls hl => ?_)
              refine lv_iload_n hx hb dX7_looks_147 rfl (lv_at hl 0 rfl) ?_
              refine lv_aload_n hx hb dX7_looks_148 rfl (lv_at hl 1 rfl) ?_
              refine va_get (D := (dC, dI)) (ci := 6) (v := .ref (h7 41)) (C := RX7) (T := TX7) (N := 49) hx hb hts inX7_ hown hK hP 0 rfl rfl 41 (by decide) (hts (.fieldLink RX7 92 "GateWheelModel" "last" "[I") (List.mem_of_getElem? (i := 5) rfl)) (fun _ h9 => h9) rfl dX7_looks_149 ?_
              refine lv_iload_n hx hb dX7_looks_152 rfl (lv_at hl 3 rfl) ?_
              obtain ⟨hi56, h⟩ := zG_spec h
              refine va_iald hx hb hK hP 26 0 rfl rfl hi56 dX7_looks_153 ?_
              refine lv_icmp_ne (tgt := 160) hx hb dX7_looks_154 (by decide) (fun c57 => ?_) (fun c57 => ?_)
              · have h := zN c57 h
                refine lv_aload_n hx hb dX7_looks_160 rfl (lv_at hl 1 rfl) ?_
                refine va_get (D := (dC, dI)) (ci := 6) (v := .ref (h7 41)) (C := RX7) (T := TX7) (N := 49) hx hb hts inX7_ hown hK hP 0 rfl rfl 41 (by decide) (hts (.fieldLink RX7 92 "GateWheelModel" "last" "[I") (List.mem_of_getElem? (i := 5) rfl)) (fun _ h9 => h9) rfl dX7_looks_161 ?_
                refine lv_iload_n hx hb dX7_looks_164 rfl (lv_at hl 3 rfl) ?_
                refine lv_iload_n hx hb dX7_looks_165 rfl (lv_at hl 0 rfl) ?_
                refine va_iast hx hb hK hP hD hS 26 0 rfl rfl hi56 dX7_looks_166 (fun H58 locs hP hD hS => ?_)
                obtain ⟨s7_59, es7_59, h⟩ := zL_spec h
                have hP : va_P (dC, dI) vwCl (cX7 a7 h7 y s7_59) H58 := by rw [es7_59]; exact hP
                have hD : va_D A (cX7 a7 h7 y s7_59) := by rw [es7_59]; exact hD
                refine lv_bipush (v := 10) hx hb dX7_looks_167 (by decide) ?_
                refine lv_iload_n hx hb dX7_looks_169 rfl (lv_at hl 3 rfl) ?_
                refine lv_imul hx hb dX7_looks_170 ?_
                refine lv_aload_n hx hb dX7_looks_171 rfl (lv_at hl 1 rfl) ?_
                refine va_get (D := (dC, dI)) (ci := 6) (v := .int (gI s7_59 47)) (C := RX7) (T := TX7) (N := 49) hx hb hts inX7_ hown hK hP 0 rfl rfl 47 (by decide) (hts (.fieldLink RX7 316 "GateWheelModel" "time" "I") (List.mem_of_getElem? (i := 6) rfl)) (fun _ h9 => h9) rfl dX7_looks_172 ?_
                refine lv_aload_n hx hb dX7_looks_175 rfl (lv_at hl 1 rfl) ?_
                refine va_get (D := (dC, dI)) (ci := 6) (v := .ref (h7 15)) (C := RX7) (T := TX7) (N := 49) hx hb hts inX7_ hown hK hP 0 rfl rfl 15 (by decide) (hts (.fieldLink RX7 34 "GateWheelModel" "nDelay" "[I") (List.mem_of_getElem? (i := 7) rfl)) (fun _ h9 => h9) rfl dX7_looks_176 ?_
                refine lv_bipush (v := 60) hx hb dX7_looks_179 (by decide) ?_
                refine lv_aload_n hx hb dX7_looks_181 rfl (lv_at hl 1 rfl) ?_
                refine va_get (D := (dC, dI)) (ci := 6) (v := .int (gI s7_59 30)) (C := RX7) (T := TX7) (N := 49) hx hb hts inX7_ hown hK hP 0 rfl rfl 30 (by decide) (hts (.fieldLink RX7 188 "GateWheelModel" "bank" "I") (List.mem_of_getElem? (i := 3) rfl)) (fun _ h9 => h9) rfl dX7_looks_182 ?_
                refine lv_imul hx hb dX7_looks_185 ?_
                refine lv_iload_n hx hb dX7_looks_186 rfl (lv_at hl 3 rfl) ?_
                refine lv_iadd hx hb dX7_looks_187 ?_
                obtain ⟨hi60, h⟩ := zG_spec h
                refine va_iald hx hb hK hP 7 0 rfl rfl hi60 dX7_looks_188 ?_
                refine lv_iadd hx hb dX7_looks_189 ?_
                refine lv_bipush (v := 10) hx hb dX7_looks_190 (by decide) ?_
                refine lv_irem hx hb dX7_looks_192 (by decide) ?_
                refine lv_iadd hx hb dX7_looks_193 ?_
                obtain ⟨v61, ev61, h⟩ := zL_spec h
                refine zTopi ev61 ?_
                refine lv_istore (lv' := [(4, .int v61), (3, .int r52), (0, .ref a7), (1, .int v10), (2, .int v38)]) hx hb dX7_looks_194 hl (by decide) rfl (fun ls hl => ?_)
                refine lv_aload_n hx hb dX7_looks_196 rfl (lv_at hl 2 rfl) ?_
                refine lv_dup hx hb dX7_looks_197 rfl ?_
                refine va_get (D := (dC, dI)) (ci := 6) (v := .int (gI s7_59 48)) (C := RX7) (T := TX7) (N := 49) hx hb hts inX7_ hown hK hP 0 rfl rfl 48 (by decide) (hts (.fieldLink RX7 319 "GateWheelModel" "coming" "I") (List.mem_of_getElem? (i := 8) rfl)) (fun _ h9 => h9) rfl dX7_looks_198 ?_
                refine lv_aload_n hx hb dX7_looks_201 rfl (lv_at hl 2 rfl) ?_
                refine va_get (D := (dC, dI)) (ci := 6) (v := .ref (h7 42)) (C := RX7) (T := TX7) (N := 49) hx hb hts inX7_ hown hK hP 0 rfl rfl 42 (by decide) (hts (.fieldLink RX7 95 "GateWheelModel" "slots" "[I") (List.mem_of_getElem? (i := 9) rfl)) (fun _ h9 => h9) rfl dX7_looks_202 ?_
                refine lv_iload hx hb dX7_looks_205 (lv_at hl 0 rfl) ?_
                obtain ⟨hi62, h⟩ := zG_spec h
                refine va_iald hx hb hK hP 27 0 rfl rfl hi62 dX7_looks_207 ?_
                refine W_abs (fun GW63 eG64 => ?_)
                obtain ⟨ov66, hr67, h⟩ := zB_spec h
                have jn65 : ∀ (v69 : Int32) (HGW63 : Heap) (locs : List Loc) (ls : Array Slot), v69 = ov66 → va_P (dC, dI) vwCl (cX7 a7 h7 y s7_59) HGW63 → va_D A (cX7 a7 h7 y s7_59) → va_S A s.heap HGW63 locs → lv_has ls 5 [(4, .int v61), (3, .int r52), (0, .ref a7), (1, .int v10), (2, .int v38)] → GW63 HGW63 locs 0 0 (F0 m 216 ls [.int v69, .int (gI s7_59 48), .ref a7]) := by
                  intro v69 HGW63 locs ls hv hP hD hS hl
                  subst hv
                  refine (eG64 _ _ _ _ _).mpr ?_
                  refine lv_iadd hx hb dX7_looks_216 ?_
                  refine va_put (D := (dC, dI)) (ci := 6) (v := .int ((gI s7_59 48) + v69)) (ty := .int) (C := RX7) (T := TX7) (N := 49) hx hb hts inX7_ tyX7 tyX7_ok nmX7 hown hK hP hD hS 0 rfl rfl 48 (by decide) (hts (.fieldLink RX7 319 "GateWheelModel" "coming" "I") (List.mem_of_getElem? (i := 8) rfl)) (fun _ h9 => h9) rfl (by decide +kernel) rfl rfl (Nat.le_of_ble_eq_true rfl) dX7_looks_217 (fun H70 locs hP hD hS => ?_)
                  obtain ⟨s7_71, es7_71, h⟩ := zL_spec h
                  have hP : va_P (dC, dI) vwCl (cX7 a7 h7 y s7_71) H70 := by rw [es7_71]; exact hP
                  have hD : va_D A (cX7 a7 h7 y s7_71) := by rw [es7_71]; exact hD
                  refine lv_aload_n hx hb dX7_looks_220 rfl (lv_at hl 2 rfl) ?_
                  refine va_get (D := (dC, dI)) (ci := 6) (v := .ref (h7 42)) (C := RX7) (T := TX7) (N := 49) hx hb hts inX7_ hown hK hP 0 rfl rfl 42 (by decide) (hts (.fieldLink RX7 95 "GateWheelModel" "slots" "[I") (List.mem_of_getElem? (i := 9) rfl)) (fun _ h9 => h9) rfl dX7_looks_221 ?_
                  refine lv_iload hx hb dX7_looks_224 (lv_at hl 0 rfl) ?_
                  refine lv_iload_n hx hb dX7_looks_226 rfl (lv_at hl 1 rfl) ?_
                  refine va_iast hx hb hK hP hD hS 27 0 rfl rfl hi62 dX7_looks_227 (fun H72 locs hP hD hS => ?_)
                  obtain ⟨s7_73, es7_73, h⟩ := zL_spec h
                  have hP : va_P (dC, dI) vwCl (cX7 a7 h7 y s7_73) H72 := by rw [es7_73]; exact hP
                  have hD : va_D A (cX7 a7 h7 y s7_73) := by rw [es7_73]; exact hD
                  obtain ⟨v74, ev74, h⟩ := zL_spec h
                  refine lv_iinc (v := v74) (lv' := [(2, .int v74), (4, .int v61), (3, .int r52), (0, .ref a7), (1, .int v10)]) hx hb dX7_looks_228 hl (k := 4) rfl (by rw [ev74]; rfl) (by decide) rfl (fun ls hl => ?_)
                  refine lv_goto (tgt := 109) hx hb dX7_looks_231 (by decide) ?_
                  have h := zI_l h hx19
                  exact (eG13 _ _ _ _ _).mp (ihlp15 v74 s7_73 _ _ _ h hP hD hS (lv_sub hl [3, 4, 0] rfl))
                refine (eG64 _ _ _ _ _).mpr ?_
                have h := hr67
                refine lv_if_ge (tgt := 215) hx hb dX7_looks_208 (by decide) (fun c75 => ?_) (fun c75 => ?_)
                · have h := zY c75 h
                  refine lv_iconst (v := 0) hx hb dX7_looks_215 (by decide) ?_
                  exact (eG64 _ _ _ _ _).mp (jn65 (0 : Int32) _ _ _ (Option.some.inj h) hP hD hS (lv_sub hl [0, 1, 2, 3, 4] rfl))
                · have h := zN c75 h
                  refine lv_iconst (v := 1) hx hb dX7_looks_211 (by decide) ?_
                  refine lv_goto (tgt := 216) hx hb dX7_looks_212 (by decide) ?_
                  exact (eG64 _ _ _ _ _).mp (jn65 (1 : Int32) _ _ _ (Option.some.inj h) hP hD hS (lv_sub hl [0, 1, 2, 3, 4] rfl))
              · have h := zY c57 h
                refine lv_goto (tgt := 228) hx hb dX7_looks_157 (by decide) ?_
                obtain ⟨v76, ev76, h⟩ := zL_spec h
                refine lv_iinc (v := v76) (lv' := [(2, .int v76), (3, .int r52), (0, .ref a7), (1, .int v10)]) hx hb dX7_looks_228 hl (k := 3) rfl (by rw [ev76]; rfl) (by decide) rfl (fun ls hl => ?_)
                refine lv_goto (tgt := 109) hx hb dX7_looks_231 (by decide) ?_
                have h := zI_l h hx19
                exact (eG13 _ _ _ _ _).mp (ihlp15 v76 s7_39 _ _ _ h hP hD hS (lv_sub hl [2, 3, 0] rfl))
            · have h := zY c51 h
              refine lv_goto (tgt := 228) hx hb dX7_looks_134 (by decide) ?_
              obtain ⟨v77, ev77, h⟩ := zL_spec h
              refine lv_iinc (v := v77) (lv' := [(2, .int v77), (0, .ref a7), (1, .int v10)]) hx hb dX7_looks_228 hl (k := 2) rfl (by rw [ev77]; rfl) (by decide) rfl (fun ls hl => ?_)
              refine lv_goto (tgt := 109) hx hb dX7_looks_231 (by decide) ?_
              have h := zI_l h hx19
              exact (eG13 _ _ _ _ _).mp (ihlp15 v77 s7_39 _ _ _ h hP hD hS (lv_sub hl [1, 2, 0] rfl))
    exact lp15 zF (0 : Int32) s7_11 _ _ _ hi17 hP hD hS (lv_sub hl [1, 2, 0] rfl)
  have lp4 : ∀ (n : Nat) (v78 : Int32) (v79 : Int32) (s7_80 : SS) (HGW1 : Heap) (locs : List Loc) (ls : Array Slot), zI (b_X7_looks_4) n (v78, v79, s7_80) = some ov5 → va_P (dC, dI) vwCl (cX7 a7 h7 y s7_80) HGW1 → va_D A (cX7 a7 h7 y s7_80) → va_S A s.heap HGW1 locs → lv_has ls 5 [(0, .ref a7), (1, .int v78), (2, .int v79)] → GW1 HGW1 locs 0 0 (F0 m 4 ls []) := by
    intro n
    induction n with
    | zero =>
      intro v78 v79 s7_80 HGW1 locs ls hi6 hP hD hS hl
      exact (zI_0 hi6).elim
    | succ n ihlp4 =>
      intro v78 v79 s7_80 HGW1 locs ls hi6 hP hD hS hl
      refine (eG2 _ _ _ _ _).mpr ?_
      obtain ⟨xx9, h, hx8⟩ := zI_spec hi6
      refine lv_iload_n hx hb dX7_looks_4 rfl (lv_at hl 2 rfl) ?_
      refine lv_aload_n hx hb dX7_looks_5 rfl (lv_at hl 0 rfl) ?_
      refine va_get (D := (dC, dI)) (ci := 6) (v := .int (gI s7_80 29)) (C := RX7) (T := TX7) (N := 49) hx hb hts inX7_ hown hK hP 0 rfl rfl 29 (by decide) (hts (.fieldLink RX7 261 "GateWheelModel" "nodes" "I") (List.mem_of_getElem? (i := 1) rfl)) (fun _ h9 => h9) rfl dX7_looks_6 ?_
      refine lv_icmp_gt (tgt := 107) hx hb dX7_looks_9 (by decide) (fun c81 => ?_) (fun c81 => ?_)
      · have h := zY c81 h
        exact (eG2 _ _ _ _ _).mp (je3 v78 s7_80 _ _ _ (zI_r h hx8) hP hD hS (lv_sub hl [0, 1] rfl))
      · have h := zN c81 h
        refine lv_iconst (v := 0) hx hb dX7_looks_12 (by decide) ?_
        refine lv_istore_n (lv' := [(3, .int 0), (0, .ref a7), (1, .int v78), (2, .int v79)]) hx hb dX7_looks_13 rfl hl (by decide) rfl (fun ls hl => ?_)
        refine W_abs (fun GW82 eG83 => ?_)
        obtain ⟨ov86, hi87, h⟩ := zB_spec h
        have je84 : ∀ (v91 : Int32) (s7_92 : SS) (HGW82e : Heap) (locs : List Loc) (ls : Array Slot), (v91, s7_92) = ov86 → va_P (dC, dI) vwCl (cX7 a7 h7 y s7_92) HGW82e → va_D A (cX7 a7 h7 y s7_92) → va_S A s.heap HGW82e locs → lv_has ls 5 [(0, .ref a7), (2, .int v79), (1, .int v91)] → GW82 HGW82e locs 0 0 (F0 m 101 ls []) := by
          intro v91 s7_92 HGW82e locs ls hv hP hD hS hl
          subst hv
          refine (eG83 _ _ _ _ _).mpr ?_
          obtain ⟨v93, ev93, h⟩ := zL_spec h
          refine lv_iinc (v := v93) (lv' := [(2, .int v93), (0, .ref a7), (1, .int v91)]) hx hb dX7_looks_101 hl (k := 1) rfl (by rw [ev93]; rfl) (by decide) rfl (fun ls hl => ?_)
          refine lv_goto (tgt := 4) hx hb dX7_looks_104 (by decide) ?_
          have h := zI_l h hx8
          exact (eG2 _ _ _ _ _).mp (ihlp4 v91 v93 s7_92 _ _ _ h hP hD hS (lv_sub hl [1, 2, 0] rfl))
        have lp85 : ∀ (n : Nat) (v94 : Int32) (v95 : Int32) (s7_96 : SS) (HGW82 : Heap) (locs : List Loc) (ls : Array Slot), zI (b_X7_looks_14 v79) n (v94, v95, s7_96) = some ov86 → va_P (dC, dI) vwCl (cX7 a7 h7 y s7_96) HGW82 → va_D A (cX7 a7 h7 y s7_96) → va_S A s.heap HGW82 locs → lv_has ls 5 [(0, .ref a7), (2, .int v79), (1, .int v94), (3, .int v95)] → GW82 HGW82 locs 0 0 (F0 m 14 ls []) := by
          intro n
          induction n with
          | zero =>
            intro v94 v95 s7_96 HGW82 locs ls hi87 hP hD hS hl
            exact (zI_0 hi87).elim
          | succ n ihlp85 =>
            intro v94 v95 s7_96 HGW82 locs ls hi87 hP hD hS hl
            refine (eG83 _ _ _ _ _).mpr ?_
            obtain ⟨xx90, h, hx89⟩ := zI_spec hi87
            refine lv_iload_n hx hb dX7_looks_14 rfl (lv_at hl 3 rfl) ?_
            refine lv_aload_n hx hb dX7_looks_15 rfl (lv_at hl 0 rfl) ?_
            refine va_get (D := (dC, dI)) (ci := 6) (v := .int (gI s7_96 29)) (C := RX7) (T := TX7) (N := 49) hx hb hts inX7_ hown hK hP 0 rfl rfl 29 (by decide) (hts (.fieldLink RX7 261 "GateWheelModel" "nodes" "I") (List.mem_of_getElem? (i := 1) rfl)) (fun _ h9 => h9) rfl dX7_looks_16 ?_
            refine lv_icmp_ge (tgt := 101) hx hb dX7_looks_19 (by decide) (fun c97 => ?_) (fun c97 => ?_)
            · have h := zY c97 h
              exact (eG83 _ _ _ _ _).mp (je84 v94 s7_96 _ _ _ (zI_r h hx89) hP hD hS (lv_sub hl [0, 1, 2] rfl))
            · have h := zN c97 h
              refine lv_aload_n hx hb dX7_looks_22 rfl (lv_at hl 0 rfl) ?_
              refine va_get (D := (dC, dI)) (ci := 6) (v := .ref (h7 17)) (C := RX7) (T := TX7) (N := 49) hx hb hts inX7_ hown hK hP 0 rfl rfl 17 (by decide) (hts (.fieldLink RX7 40 "GateWheelModel" "nLevel" "[I") (List.mem_of_getElem? (i := 2) rfl)) (fun _ h9 => h9) rfl dX7_looks_23 ?_
              refine lv_bipush (v := 60) hx hb dX7_looks_26 (by decide) ?_
              refine lv_aload_n hx hb dX7_looks_28 rfl (lv_at hl 0 rfl) ?_
              refine va_get (D := (dC, dI)) (ci := 6) (v := .int (gI s7_96 30)) (C := RX7) (T := TX7) (N := 49) hx hb hts inX7_ hown hK hP 0 rfl rfl 30 (by decide) (hts (.fieldLink RX7 188 "GateWheelModel" "bank" "I") (List.mem_of_getElem? (i := 3) rfl)) (fun _ h9 => h9) rfl dX7_looks_29 ?_
              refine lv_imul hx hb dX7_looks_32 ?_
              refine lv_iload_n hx hb dX7_looks_33 rfl (lv_at hl 3 rfl) ?_
              refine lv_iadd hx hb dX7_looks_34 ?_
              obtain ⟨hi98, h⟩ := zG_spec h
              refine va_iald hx hb hK hP 9 0 rfl rfl hi98 dX7_looks_35 ?_
              refine lv_iload_n hx hb dX7_looks_36 rfl (lv_at hl 1 rfl) ?_
              refine lv_icmp_ne (tgt := 95) hx hb dX7_looks_37 (by decide) (fun c99 => ?_) (fun c99 => ?_)
              · have h := zN c99 h
                obtain ⟨v100, ev100, h⟩ := zL_spec h
                refine lv_iinc (v := v100) (lv' := [(3, .int v100), (0, .ref a7), (2, .int v79), (1, .int v94)]) hx hb dX7_looks_95 hl (k := 3) rfl (by rw [ev100]; rfl) (by decide) rfl (fun ls hl => ?_)
                refine lv_goto (tgt := 14) hx hb dX7_looks_98 (by decide) ?_
                have h := zI_l h hx89
                exact (eG83 _ _ _ _ _).mp (ihlp85 v94 v100 s7_96 _ _ _ h hP hD hS (lv_sub hl [1, 2, 3, 0] rfl))
              · have h := zY c99 h
                refine lv_aload_n hx hb dX7_looks_40 rfl (lv_at hl 0 rfl) ?_
                refine lv_iload_n hx hb dX7_looks_41 rfl (lv_at hl 3 rfl) ?_
                obtain ⟨r101, hc102, h⟩ := zB_spec h
                have hFc := zFree hD hS hA
                refine va_calli (va_runV (As := [.int v95]) (rest := []) ⟨hx, hb, hml, hown, hts⟩ (m_X7_kind l dC dI y a7 h7 s7_96 v95 HGW82.size r101 hc102) (cwV 1 hts gX7_looks_X7_kind rfl rfl rfl (by decide +kernel) ⟨Nat.le_of_ble_eq_true rfl, Nat.le_of_ble_eq_true rfl⟩) ⟨fun a U g mk q => by obtain ⟨q0, q1, qP, qK, qD⟩ := q; exact ⟨q0, q1, qP, va_K.moved (u := U) (U := U.calling g mk a) (Vm.Alike.refl U.vm) qK, qD⟩, va_recv hK hP (ci := 6) (q0 := 0) rfl rfl, fun U hU hW => ⟨rfl, by rw [hU], by rw [hU]; exact hP, va_K.moved hW.alike hK, hD.weaken (fun _ _ _ _ => trivial)⟩⟩ rfl rfl hl.1 rfl (lv_room (Nat.le_of_ble_eq_true rfl)) dX7_looks_42 ⟨Nat.le_of_ble_eq_true rfl, Nat.le_of_ble_eq_true rfl⟩) hS (fun q _ h => hFc q h) hFc (fun rr104 u t H103 locs ht hvm hw hB hz1 hk1 hS => ?_)
                obtain ⟨hP1, hK1, hD1⟩ := hB
                rw [ht] at hP1
                refine zTopi hw.symm ?_
                have hP := hP1
                have hD := hD1.weaken (fun _ q _ h => hFc q.1 h)
                have hP : va_P (dC, dI) vwCl (cX7 a7 h7 y s7_96) H103 := hP
                have hD : va_D A (cX7 a7 h7 y s7_96) := hD
                refine lv_iconst (v := 1) hx hb dX7_looks_45 (by decide) ?_
                refine lv_icmp_eq (tgt := 52) hx hb dX7_looks_46 (by decide) (fun c105 => ?_) (fun c105 => ?_)
                · have h := zY c105 h
                  refine lv_aload_n hx hb dX7_looks_52 rfl (lv_at hl 0 rfl) ?_
                  refine lv_iload_n hx hb dX7_looks_53 rfl (lv_at hl 3 rfl) ?_
                  refine lv_aload_n hx hb dX7_looks_54 rfl (lv_at hl 0 rfl) ?_
                  refine va_get (D := (dC, dI)) (ci := 6) (v := .ref (h7 40)) (C := RX7) (T := TX7) (N := 49) hx hb hts inX7_ hown hK hP 0 rfl rfl 40 (by decide) (hts (.fieldLink RX7 89 "GateWheelModel" "on" "[I") (List.mem_of_getElem? (i := 4) rfl)) (fun _ h9 => h9) rfl dX7_looks_55 ?_
                  obtain ⟨r106, hc107, h⟩ := zB_spec h
                  have hFc := zFree hD hS hA
                  refine va_calli (va_runV (As := [.int v95, .ref (h7 40)]) (rest := []) ⟨hx, hb, hml, hown, hts⟩ (m_X7_bus l dC dI y a7 h7 s7_96 v95 40 25 ⟨fun _ => rfl, fun _ _ => rfl⟩ H103.size r106 hc107) (cwV 2 hts gX7_looks_X7_bus rfl rfl rfl (by decide +kernel) ⟨Nat.le_of_ble_eq_true rfl, Nat.le_of_ble_eq_true rfl⟩) ⟨fun a U g mk q => by obtain ⟨q0, q1, qP, qK, qD⟩ := q; exact ⟨q0, q1, qP, va_K.moved (u := U) (U := U.calling g mk a) (Vm.Alike.refl U.vm) qK, qD⟩, va_recv hK hP (ci := 6) (q0 := 0) rfl rfl, fun U hU hW => ⟨rfl, by rw [hU], by rw [hU]; exact hP, va_K.moved hW.alike hK, hD.weaken (fun _ _ _ _ => trivial)⟩⟩ rfl rfl hl.1 rfl (lv_room (Nat.le_of_ble_eq_true rfl)) dX7_looks_58 ⟨Nat.le_of_ble_eq_true rfl, Nat.le_of_ble_eq_true rfl⟩) hS (fun q _ h => hFc q h) hFc (fun rr109 u t H108 locs ht hvm hw hB hz1 hk1 hS => ?_)
                  obtain ⟨hP1, hK1, hD1⟩ := hB
                  rw [ht] at hP1
                  refine zTopi hw.symm ?_
                  have hP := hP1
                  have hD := hD1.weaken (fun _ q _ h => hFc q.1 h)
                  have hP : va_P (dC, dI) vwCl (cX7 a7 h7 y s7_96) H108 := hP
                  have hD : va_D A (cX7 a7 h7 y s7_96) := hD
                  refine lv_istore (lv' := [(4, .int r106), (0, .ref a7), (2, .int v79), (1, .int v94), (3, .int v95)]) hx hb dX7_looks_61 hl (by decide) rfl (fun ls hl => ?_)
                  refine lv_iload hx hb dX7_looks_63 (lv_at hl 0 rfl) ?_
                  refine lv_aload_n hx hb dX7_looks_65 rfl (lv_at hl 1 rfl) ?_
                  refine va_get (D := (dC, dI)) (ci := 6) (v := .ref (h7 40)) (C := RX7) (T := TX7) (N := 49) hx hb hts inX7_ hown hK hP 0 rfl rfl 40 (by decide) (hts (.fieldLink RX7 89 "GateWheelModel" "on" "[I") (List.mem_of_getElem? (i := 4) rfl)) (fun _ h9 => h9) rfl dX7_looks_66 ?_
                  refine lv_iload_n hx hb dX7_looks_69 rfl (lv_at hl 4 rfl) ?_
                  obtain ⟨hi110, h⟩ := zG_spec h
                  refine va_iald hx hb hK hP 25 0 rfl rfl hi110 dX7_looks_70 ?_
                  refine lv_icmp_eq (tgt := 95) hx hb dX7_looks_71 (by decide) (fun c111 => ?_) (fun c111 => ?_)
                  · have h := zY c111 h
                    obtain ⟨v112, ev112, h⟩ := zL_spec h
                    refine lv_iinc (v := v112) (lv' := [(3, .int v112), (4, .int r106), (0, .ref a7), (2, .int v79), (1, .int v94)]) hx hb dX7_looks_95 hl (k := 4) rfl (by rw [ev112]; rfl) (by decide) rfl (fun ls hl => ?_)
                    refine lv_goto (tgt := 14) hx hb dX7_looks_98 (by decide) ?_
                    have h := zI_l h hx89
                    exact (eG83 _ _ _ _ _).mp (ihlp85 v94 v112 s7_96 _ _ _ h hP hD hS (lv_sub hl [2, 3, 4, 0] rfl))
                  · have h := zN c111 h
                    refine lv_aload_n hx hb dX7_looks_74 rfl (lv_at hl 1 rfl) ?_
                    refine lv_iload_n hx hb dX7_looks_75 rfl (lv_at hl 4 rfl) ?_
                    obtain ⟨r113, hc114, h⟩ := zB_spec h
                    have hFc := zFree hD hS hA
                    refine va_calli (va_runV (As := [.int v95]) (rest := []) ⟨hx, hb, hml, hown, hts⟩ (m_X7_hasChanged l dC dI y a7 h7 s7_96 v95 H108.size r113 hc114) (cwV 1 hts gX7_looks_X7_hasChanged rfl rfl rfl (by decide +kernel) ⟨Nat.le_of_ble_eq_true rfl, Nat.le_of_ble_eq_true rfl⟩) ⟨fun a U g mk q => by obtain ⟨q0, q1, qP, qK, qD⟩ := q; exact ⟨q0, q1, qP, va_K.moved (u := U) (U := U.calling g mk a) (Vm.Alike.refl U.vm) qK, qD⟩, va_recv hK hP (ci := 6) (q0 := 0) rfl rfl, fun U hU hW => ⟨rfl, by rw [hU], by rw [hU]; exact hP, va_K.moved hW.alike hK, hD.weaken (fun _ _ _ _ => trivial)⟩⟩ rfl rfl hl.1 rfl (lv_room (Nat.le_of_ble_eq_true rfl)) dX7_looks_76 ⟨Nat.le_of_ble_eq_true rfl, Nat.le_of_ble_eq_true rfl⟩) hS (fun q _ h => hFc q h) hFc (fun rr116 u t H115 locs ht hvm hw hB hz1 hk1 hS => ?_)
                    obtain ⟨hP1, hK1, hD1⟩ := hB
                    rw [ht] at hP1
                    refine zTopi hw.symm ?_
                    have hP := hP1
                    have hD := hD1.weaken (fun _ q _ h => hFc q.1 h)
                    have hP : va_P (dC, dI) vwCl (cX7 a7 h7 y s7_96) H115 := hP
                    have hD : va_D A (cX7 a7 h7 y s7_96) := hD
                    refine lv_if_ne (tgt := 85) hx hb dX7_looks_79 (by decide) (fun c117 => ?_) (fun c117 => ?_)
                    · have h := zN c117 h
                      refine lv_aload_n hx hb dX7_looks_85 rfl (lv_at hl 1 rfl) ?_
                      refine lv_iload_n hx hb dX7_looks_86 rfl (lv_at hl 4 rfl) ?_
                      refine lv_iload hx hb dX7_looks_87 (lv_at hl 0 rfl) ?_
                      obtain ⟨s7_118, hc119, h⟩ := zB_spec h
                      have hFc := zFree hD hS hA
                      refine va_callv (va_runV (As := [.int v95, .int r106]) (rest := []) ⟨hx, hb, hml, hown, hts⟩ (m_X7_change l dC dI y a7 h7 s7_96 v95 r106 H115.size s7_118 hc119) (cwV 2 hts gX7_looks_X7_change rfl rfl rfl (by decide +kernel) ⟨Nat.le_of_ble_eq_true rfl, Nat.le_of_ble_eq_true rfl⟩) ⟨fun a U g mk q => by obtain ⟨q0, q1, qP, qK, qD⟩ := q; exact ⟨q0, q1, qP, va_K.moved (u := U) (U := U.calling g mk a) (Vm.Alike.refl U.vm) qK, qD⟩, va_recv hK hP (ci := 6) (q0 := 0) rfl rfl, fun U hU hW => ⟨rfl, by rw [hU], by rw [hU]; exact hP, va_K.moved hW.alike hK, hD.weaken (fun _ _ _ _ => trivial)⟩⟩ rfl rfl hl.1 rfl (lv_room (Nat.le_of_ble_eq_true rfl)) dX7_looks_89 ⟨Nat.le_of_ble_eq_true rfl, Nat.le_of_ble_eq_true rfl⟩) hS (fun q _ h => hFc q h) hFc (fun u t H120 locs ht hvm hw hB hz1 hk1 hS => ?_)
                      obtain ⟨hP1, hK1, hD1⟩ := hB
                      rw [ht] at hP1
                      have hP := hP1
                      have hD := hD1.weaken (fun _ q _ h => hFc q.1 h)
                      have hP : va_P (dC, dI) vwCl (cX7 a7 h7 y s7_118) H120 := hP
                      have hD : va_D A (cX7 a7 h7 y s7_118) := hD
                      obtain ⟨v122, ev122, h⟩ := zL_spec h
                      refine lv_iinc (v := v122) (lv' := [(1, .int v122), (4, .int r106), (0, .ref a7), (2, .int v79), (3, .int v95)]) hx hb dX7_looks_92 hl (k := 3) rfl (by rw [ev122]; rfl) (by decide) rfl (fun ls hl => ?_)
                      obtain ⟨v123, ev123, h⟩ := zL_spec h
                      refine lv_iinc (v := v123) (lv' := [(3, .int v123), (1, .int v122), (4, .int r106), (0, .ref a7), (2, .int v79)]) hx hb dX7_looks_95 hl (k := 4) rfl (by rw [ev123]; rfl) (by decide) rfl (fun ls hl => ?_)
                      refine lv_goto (tgt := 14) hx hb dX7_looks_98 (by decide) ?_
                      have h := zI_l h hx89
                      exact (eG83 _ _ _ _ _).mp (ihlp85 v122 v123 s7_118 _ _ _ h hP hD hS (lv_sub hl [3, 4, 1, 0] rfl))
                    · have h := zY c117 h
                      refine lv_goto (tgt := 95) hx hb dX7_looks_82 (by decide) ?_
                      obtain ⟨v124, ev124, h⟩ := zL_spec h
                      refine lv_iinc (v := v124) (lv' := [(3, .int v124), (4, .int r106), (0, .ref a7), (2, .int v79), (1, .int v94)]) hx hb dX7_looks_95 hl (k := 4) rfl (by rw [ev124]; rfl) (by decide) rfl (fun ls hl => ?_)
                      refine lv_goto (tgt := 14) hx hb dX7_looks_98 (by decide) ?_
                      have h := zI_l h hx89
                      exact (eG83 _ _ _ _ _).mp (ihlp85 v94 v124 s7_96 _ _ _ h hP hD hS (lv_sub hl [2, 3, 4, 0] rfl))
                · have h := zN c105 h
                  refine lv_goto (tgt := 95) hx hb dX7_looks_49 (by decide) ?_
                  obtain ⟨v125, ev125, h⟩ := zL_spec h
                  refine lv_iinc (v := v125) (lv' := [(3, .int v125), (0, .ref a7), (2, .int v79), (1, .int v94)]) hx hb dX7_looks_95 hl (k := 3) rfl (by rw [ev125]; rfl) (by decide) rfl (fun ls hl => ?_)
                  refine lv_goto (tgt := 14) hx hb dX7_looks_98 (by decide) ?_
                  have h := zI_l h hx89
                  exact (eG83 _ _ _ _ _).mp (ihlp85 v94 v125 s7_96 _ _ _ h hP hD hS (lv_sub hl [1, 2, 3, 0] rfl))
        exact lp85 zF v78 (0 : Int32) s7_80 _ _ _ hi87 hP hD hS (lv_sub hl [1, 3, 2, 0] rfl)
  exact lp4 zF (0 : Int32) (0 : Int32) S7 _ _ _ hi6 hP hD hS (lv_sub hl [2, 1, 0] rfl)

set_option maxHeartbeats 4000000 in
set_option maxRecDepth 100000 in
theorem m_X7_run (l : Launch) (dC : Nat → ClassId) (dI : Nat → Nat → Nat) (y : Nat → ClassId) (a7 : Nat) (h7 : Nat → Nat) (S7 : SS) (p1 : Int32) (sz : Nat) (or_ : Int32) (o_7 : SS) (h : f_X7_run S7 p1 = some (or_, o_7)) : Met l yX7_run wsX7_run ({ frames := 3, cells := 0, slots := 0, locals := 74 }) (va_Pc [.ref a7, .int p1] (fun U => U.heap.size = sz ∧ va_P (dC, dI) vwCl (cX7 a7 h7 y S7) U.heap ∧ va_K (dC, dI) vwCl [(y 0, .int), (y 1, .long), (y 2, .byte), (y 3, .boolean)] U ∧ va_D (fun _ => True) (cX7 a7 h7 y S7))) (va_Qi (fun (r : Int32) (_ : Unit) => r = or_) (fun (_ : Unit) (t : State) => va_P (dC, dI) vwCl (cX7 a7 h7 y o_7) t.heap ∧ va_K (dC, dI) vwCl [(y 0, .int), (y 1, .long), (y 2, .byte), (y 3, .boolean)] t ∧ va_D (va_A (cX7 a7 h7 y S7) sz) (cX7 a7 h7 y o_7)) (va_A (cX7 a7 h7 y S7) sz)) 0 0 (va_A (cX7 a7 h7 y S7) sz) := by
  refine Met.ofW (cc := cX7_run) (maxL := 7) (ret := (some .int)) (by decide +kernel) rfl ?_
  intro p e s m args below meth c s₁ B hml hv
  obtain ⟨rfl, hsz, hP, hK, hD0⟩ := hv
  have hx := B.exec
  have hb := B.bytes
  have hr := B.returns
  have hts := atoms_spec (ws := wsX7_run) B.pre
  have hown : s.vm.findClass RX7 = some m.cls := findClass_of_methodNamed B.named
  have hlocks := B.notSynchronized
  have inX7_ : ∀ w ∈ wsX70, w ∈ wsX7_run := fun _ h => List.mem_cons_of_mem _ (List.mem_append_right _ h)
  subst hsz
  have hD := hD0.self (sz := s.heap.size)
  generalize hAe : va_A (cX7 a7 h7 y S7) s.heap.size = A at hD ⊢
  have hA : ∀ q : Nat, s.heap.size ≤ q → A q := fun q h => by rw [← hAe]; exact Or.inr h
  have hS : va_S A s.heap s.heap [] := va_S.rf
  have hP : va_P (dC, dI) vwCl (cX7 a7 h7 y S7) s.heap := hP
  have hl := lv_entry ([.ref a7, .int p1]) (n := 7) (Nat.le_of_ble_eq_true rfl)
  rw [lg_entry_eq]
  generalize (lg_sl ([.ref a7, .int p1]) ++ List.replicate (7 - (lg_sl ([.ref a7, .int p1])).length) Slot.unset).toArray = ls at hl ⊢
  have hl : lv_has ls 7 [(0, .ref a7), (1, .int p1)] := hl
  refine lv_aload_n hx hb dX7_run_0 rfl (lv_at hl 0 rfl) ?_
  refine va_get (D := (dC, dI)) (ci := 6) (v := .int (gI S7 46)) (C := RX7) (T := TX7) (N := 49) hx hb hts inX7_ hown hK hP 0 rfl rfl 46 (by decide) (hts (.fieldLink RX7 267 "GateWheelModel" "hasWheel" "Z") (List.mem_of_getElem? (i := 1) rfl)) (fun _ h9 => h9) rfl dX7_run_1 ?_
  refine lv_if_eq (tgt := 18) hx hb dX7_run_4 (by decide) (fun c1 => ?_) (fun c1 => ?_)
  · have h := zY c1 h
    refine lv_iconst (v := (-1)) hx hb dX7_run_18 (by decide) ?_
    have ho0 : (-1 : Int32) = or_ := congrArg (fun z : Int32 × SS => z.1) (Option.some.inj h)
    have ho1 : S7 = o_7 := congrArg (fun z : Int32 × SS => z.2) (Option.some.inj h)
    exact W.iret (v := (-1)) hx hb hr (fun t ht hW => ⟨⟨(-1), (), rfl, ho0, by rw [ht]; rw [← ho1]; exact hP, va_K.moved hW.alike hK, by rw [← ho1]; exact hD⟩, hS.F ht⟩) hS.2.2 dX7_run_19
  · have h := zN c1 h
    refine lv_iload_n hx hb dX7_run_7 rfl (lv_at hl 1 rfl) ?_
    refine lv_if_lt (tgt := 18) hx hb dX7_run_8 (by decide) (fun c2 => ?_) (fun c2 => ?_)
    · have h := zY c2 h
      refine lv_iconst (v := (-1)) hx hb dX7_run_18 (by decide) ?_
      have ho0 : (-1 : Int32) = or_ := congrArg (fun z : Int32 × SS => z.1) (Option.some.inj h)
      have ho1 : S7 = o_7 := congrArg (fun z : Int32 × SS => z.2) (Option.some.inj h)
      exact W.iret (v := (-1)) hx hb hr (fun t ht hW => ⟨⟨(-1), (), rfl, ho0, by rw [ht]; rw [← ho1]; exact hP, va_K.moved hW.alike hK, by rw [← ho1]; exact hD⟩, hS.F ht⟩) hS.2.2 dX7_run_19
    · have h := zN c2 h
      refine lv_iload_n hx hb dX7_run_11 rfl (lv_at hl 1 rfl) ?_
      refine lv_sipush (v := 1000) hx hb dX7_run_12 (by decide) ?_
      refine lv_icmp_le (tgt := 20) hx hb dX7_run_15 (by decide) (fun c3 => ?_) (fun c3 => ?_)
      · have h := zY c3 h
        refine lv_aload_n hx hb dX7_run_20 rfl (lv_at hl 0 rfl) ?_
        obtain ⟨⟨r4, s7_5⟩, hc6, h⟩ := zB_spec h
        have hFc := zFree hD hS hA
        refine va_calli (va_runV (As := []) (rest := []) ⟨hx, hb, hml, hown, hts⟩ (m_X7_looks l dC dI y a7 h7 S7 s.heap.size r4 s7_5 hc6) (cwV 0 hts gX7_run_X7_looks rfl rfl rfl (by decide +kernel) ⟨Nat.le_of_ble_eq_true rfl, Nat.le_of_ble_eq_true rfl⟩) ⟨fun a U g mk q => by obtain ⟨q0, q1, qP, qK, qD⟩ := q; exact ⟨q0, q1, qP, va_K.moved (u := U) (U := U.calling g mk a) (Vm.Alike.refl U.vm) qK, qD⟩, va_recv hK hP (ci := 6) (q0 := 0) rfl rfl, fun U hU hW => ⟨rfl, by rw [hU], by rw [hU]; exact hP, va_K.moved hW.alike hK, hD.weaken (fun _ _ _ _ => trivial)⟩⟩ rfl rfl hl.1 rfl (lv_room (Nat.le_of_ble_eq_true rfl)) dX7_run_21 ⟨Nat.le_of_ble_eq_true rfl, Nat.le_of_ble_eq_true rfl⟩) hS (fun q _ h => hFc q h) hFc (fun rr8 u t H7 locs ht hvm hw hB hz1 hk1 hS => ?_)
        obtain ⟨hP1, hK1, hD1⟩ := hB
        rw [ht] at hP1
        refine zTopi hw.symm ?_
        have hP := hP1
        have hD := hD1.weaken (fun _ q _ h => hFc q.1 h)
        have hP : va_P (dC, dI) vwCl (cX7 a7 h7 y s7_5) H7 := hP
        have hD : va_D A (cX7 a7 h7 y s7_5) := hD
        refine lv_istore_n (lv' := [(2, .int r4), (0, .ref a7), (1, .int p1)]) hx hb dX7_run_24 rfl hl (by decide) rfl (fun ls hl => ?_)
        refine lv_iconst (v := 0) hx hb dX7_run_25 (by decide) ?_
        refine lv_istore_n (lv' := [(3, .int 0), (2, .int r4), (0, .ref a7), (1, .int p1)]) hx hb dX7_run_26 rfl hl (by decide) rfl (fun ls hl => ?_)
        refine W_abs (fun GW9 eG10 => ?_)
        have hi14 := h
        have lp12 : ∀ (n : Nat) (v18 : Int32) (v19 : Int32) (s7_20 : SS) (HGW9 : Heap) (locs : List Loc) (ls : Array Slot), zI (b_X7_run_27 p1) n (v18, v19, s7_20) = some (or_, o_7) → va_P (dC, dI) vwCl (cX7 a7 h7 y s7_20) HGW9 → va_D A (cX7 a7 h7 y s7_20) → va_S A s.heap HGW9 locs → lv_has ls 7 [(0, .ref a7), (1, .int p1), (2, .int v18), (3, .int v19)] → GW9 HGW9 locs 0 0 (F0 m 27 ls []) := by
          intro n
          induction n with
          | zero =>
            intro v18 v19 s7_20 HGW9 locs ls hi14 hP hD hS hl
            exact (zI_0 hi14).elim
          | succ n ihlp12 =>
            intro v18 v19 s7_20 HGW9 locs ls hi14 hP hD hS hl
            refine (eG10 _ _ _ _ _).mpr ?_
            obtain ⟨xx17, h, hx16⟩ := zI_spec hi14
            refine lv_iload_n hx hb dX7_run_27 rfl (lv_at hl 3 rfl) ?_
            refine lv_iload_n hx hb dX7_run_28 rfl (lv_at hl 1 rfl) ?_
            refine lv_icmp_ge (tgt := 154) hx hb dX7_run_29 (by decide) (fun c21 => ?_) (fun c21 => ?_)
            · have h := zY c21 h
              refine lv_iload_n hx hb dX7_run_154 rfl (lv_at hl 2 rfl) ?_
              have h := congrArg some (zI_r h hx16)
              have ho0 : v18 = or_ := congrArg (fun z : Int32 × SS => z.1) (Option.some.inj h)
              have ho1 : s7_20 = o_7 := congrArg (fun z : Int32 × SS => z.2) (Option.some.inj h)
              exact W.iret (v := v18) hx hb hr (fun t ht hW => ⟨⟨v18, (), rfl, ho0, by rw [ht]; rw [← ho1]; exact hP, va_K.moved hW.alike hK, by rw [← ho1]; exact hD⟩, hS.F ht⟩) hS.2.2 dX7_run_155
            · have h := zN c21 h
              refine lv_aload_n hx hb dX7_run_32 rfl (lv_at hl 0 rfl) ?_
              refine lv_dup hx hb dX7_run_33 rfl ?_
              refine va_get (D := (dC, dI)) (ci := 6) (v := .int (gI s7_20 47)) (C := RX7) (T := TX7) (N := 49) hx hb hts inX7_ hown hK hP 0 rfl rfl 47 (by decide) (hts (.fieldLink RX7 316 "GateWheelModel" "time" "I") (List.mem_of_getElem? (i := 2) rfl)) (fun _ h9 => h9) rfl dX7_run_34 ?_
              refine lv_iconst (v := 1) hx hb dX7_run_37 (by decide) ?_
              refine lv_iadd hx hb dX7_run_38 ?_
              refine va_put (D := (dC, dI)) (ci := 6) (v := .int ((gI s7_20 47) + (1 : Int32))) (ty := .int) (C := RX7) (T := TX7) (N := 49) hx hb hts inX7_ tyX7 tyX7_ok nmX7 hown hK hP hD hS 0 rfl rfl 47 (by decide) (hts (.fieldLink RX7 316 "GateWheelModel" "time" "I") (List.mem_of_getElem? (i := 2) rfl)) (fun _ h9 => h9) rfl (by decide +kernel) rfl rfl (Nat.le_of_ble_eq_true rfl) dX7_run_39 (fun H22 locs hP hD hS => ?_)
              obtain ⟨s7_23, es7_23, h⟩ := zL_spec h
              have hP : va_P (dC, dI) vwCl (cX7 a7 h7 y s7_23) H22 := by rw [es7_23]; exact hP
              have hD : va_D A (cX7 a7 h7 y s7_23) := by rw [es7_23]; exact hD
              refine lv_iconst (v := 0) hx hb dX7_run_42 (by decide) ?_
              refine lv_istore (lv' := [(4, .int 0), (0, .ref a7), (1, .int p1), (2, .int v18), (3, .int v19)]) hx hb dX7_run_43 hl (by decide) rfl (fun ls hl => ?_)
              refine W_abs (fun GW24 eG25 => ?_)
              obtain ⟨ov28, hi29, h⟩ := zB_spec h
              have je26 : ∀ (v33 : Int32) (s7_34 : SS) (HGW24e : Heap) (locs : List Loc) (ls : Array Slot), (v33, s7_34) = ov28 → va_P (dC, dI) vwCl (cX7 a7 h7 y s7_34) HGW24e → va_D A (cX7 a7 h7 y s7_34) → va_S A s.heap HGW24e locs → lv_has ls 7 [(0, .ref a7), (1, .int p1), (3, .int v19), (2, .int v33)] → GW24 HGW24e locs 0 0 (F0 m 141 ls []) := by
                intro v33 s7_34 HGW24e locs ls hv hP hD hS hl
                subst hv
                refine (eG25 _ _ _ _ _).mpr ?_
                refine lv_iload_n hx hb dX7_run_141 rfl (lv_at hl 3 rfl) ?_
                refine lv_aload_n hx hb dX7_run_142 rfl (lv_at hl 0 rfl) ?_
                obtain ⟨⟨r35, s7_36⟩, hc37, h⟩ := zB_spec h
                have hFc := zFree hD hS hA
                refine va_calli (va_runV (As := []) (rest := [.int v33]) ⟨hx, hb, hml, hown, hts⟩ (m_X7_looks l dC dI y a7 h7 s7_34 HGW24e.size r35 s7_36 hc37) (cwV 0 hts gX7_run_X7_looks rfl rfl rfl (by decide +kernel) ⟨Nat.le_of_ble_eq_true rfl, Nat.le_of_ble_eq_true rfl⟩) ⟨fun a U g mk q => by obtain ⟨q0, q1, qP, qK, qD⟩ := q; exact ⟨q0, q1, qP, va_K.moved (u := U) (U := U.calling g mk a) (Vm.Alike.refl U.vm) qK, qD⟩, va_recv hK hP (ci := 6) (q0 := 0) rfl rfl, fun U hU hW => ⟨rfl, by rw [hU], by rw [hU]; exact hP, va_K.moved hW.alike hK, hD.weaken (fun _ _ _ _ => trivial)⟩⟩ rfl rfl hl.1 rfl (lv_room (Nat.le_of_ble_eq_true rfl)) dX7_run_143 ⟨Nat.le_of_ble_eq_true rfl, Nat.le_of_ble_eq_true rfl⟩) hS (fun q _ h => hFc q h) hFc (fun rr39 u t H38 locs ht hvm hw hB hz1 hk1 hS => ?_)
                obtain ⟨hP1, hK1, hD1⟩ := hB
                rw [ht] at hP1
                refine zTopi hw.symm ?_
                have hP := hP1
                have hD := hD1.weaken (fun _ q _ h => hFc q.1 h)
                have hP : va_P (dC, dI) vwCl (cX7 a7 h7 y s7_36) H38 := hP
                have hD : va_D A (cX7 a7 h7 y s7_36) := hD
                refine lv_iadd hx hb dX7_run_146 ?_
                obtain ⟨v40, ev40, h⟩ := zL_spec h
                refine zTopi ev40 ?_
                refine lv_istore_n (lv' := [(2, .int v40), (0, .ref a7), (1, .int p1), (3, .int v19)]) hx hb dX7_run_147 rfl hl (by decide) rfl (fun ls hl => ?_)
                obtain ⟨v41, ev41, h⟩ := zL_spec h
                refine lv_iinc (v := v41) (lv' := [(3, .int v41), (2, .int v40), (0, .ref a7), (1, .int p1)]) hx hb dX7_run_148 hl (k := 3) rfl (by rw [ev41]; rfl) (by decide) rfl (fun ls hl => ?_)
                refine lv_goto (tgt := 27) hx hb dX7_run_151 (by decide) ?_
                have h := zI_l h hx16
                exact (eG10 _ _ _ _ _).mp (ihlp12 v40 v41 s7_36 _ _ _ h hP hD hS (lv_sub hl [2, 3, 1, 0] rfl))
              have lp27 : ∀ (n : Nat) (v42 : Int32) (v43 : Int32) (s7_44 : SS) (HGW24 : Heap) (locs : List Loc) (ls : Array Slot), zI (b_X7_run_45) n (v42, v43, s7_44) = some ov28 → va_P (dC, dI) vwCl (cX7 a7 h7 y s7_44) HGW24 → va_D A (cX7 a7 h7 y s7_44) → va_S A s.heap HGW24 locs → lv_has ls 7 [(0, .ref a7), (1, .int p1), (3, .int v19), (2, .int v42), (4, .int v43)] → GW24 HGW24 locs 0 0 (F0 m 45 ls []) := by
                intro n
                induction n with
                | zero =>
                  intro v42 v43 s7_44 HGW24 locs ls hi29 hP hD hS hl
                  exact (zI_0 hi29).elim
                | succ n ihlp27 =>
                  intro v42 v43 s7_44 HGW24 locs ls hi29 hP hD hS hl
                  refine (eG25 _ _ _ _ _).mpr ?_
                  obtain ⟨xx32, h, hx31⟩ := zI_spec hi29
                  refine lv_iload hx hb dX7_run_45 (lv_at hl 4 rfl) ?_
                  refine lv_aload_n hx hb dX7_run_47 rfl (lv_at hl 0 rfl) ?_
                  refine va_get (D := (dC, dI)) (ci := 6) (v := .int (gI s7_44 29)) (C := RX7) (T := TX7) (N := 49) hx hb hts inX7_ hown hK hP 0 rfl rfl 29 (by decide) (hts (.fieldLink RX7 261 "GateWheelModel" "nodes" "I") (List.mem_of_getElem? (i := 3) rfl)) (fun _ h9 => h9) rfl dX7_run_48 ?_
                  refine lv_icmp_ge (tgt := 141) hx hb dX7_run_51 (by decide) (fun c45 => ?_) (fun c45 => ?_)
                  · have h := zY c45 h
                    exact (eG25 _ _ _ _ _).mp (je26 v42 s7_44 _ _ _ (zI_r h hx31) hP hD hS (lv_sub hl [0, 1, 2, 3] rfl))
                  · have h := zN c45 h
                    refine lv_bipush (v := 10) hx hb dX7_run_54 (by decide) ?_
                    refine lv_iload hx hb dX7_run_56 (lv_at hl 4 rfl) ?_
                    refine lv_imul hx hb dX7_run_58 ?_
                    refine lv_aload_n hx hb dX7_run_59 rfl (lv_at hl 0 rfl) ?_
                    refine va_get (D := (dC, dI)) (ci := 6) (v := .int (gI s7_44 47)) (C := RX7) (T := TX7) (N := 49) hx hb hts inX7_ hown hK hP 0 rfl rfl 47 (by decide) (hts (.fieldLink RX7 316 "GateWheelModel" "time" "I") (List.mem_of_getElem? (i := 2) rfl)) (fun _ h9 => h9) rfl dX7_run_60 ?_
                    refine lv_bipush (v := 10) hx hb dX7_run_63 (by decide) ?_
                    refine lv_irem hx hb dX7_run_65 (by decide) ?_
                    refine lv_iadd hx hb dX7_run_66 ?_
                    obtain ⟨v46, ev46, h⟩ := zL_spec h
                    refine zTopi ev46 ?_
                    refine lv_istore (lv' := [(5, .int v46), (0, .ref a7), (1, .int p1), (3, .int v19), (2, .int v42), (4, .int v43)]) hx hb dX7_run_67 hl (by decide) rfl (fun ls hl => ?_)
                    refine lv_aload_n hx hb dX7_run_69 rfl (lv_at hl 1 rfl) ?_
                    refine va_get (D := (dC, dI)) (ci := 6) (v := .ref (h7 42)) (C := RX7) (T := TX7) (N := 49) hx hb hts inX7_ hown hK hP 0 rfl rfl 42 (by decide) (hts (.fieldLink RX7 95 "GateWheelModel" "slots" "[I") (List.mem_of_getElem? (i := 4) rfl)) (fun _ h9 => h9) rfl dX7_run_70 ?_
                    refine lv_iload hx hb dX7_run_73 (lv_at hl 0 rfl) ?_
                    obtain ⟨hi47, h⟩ := zG_spec h
                    refine va_iald hx hb hK hP 27 0 rfl rfl hi47 dX7_run_75 ?_
                    refine lv_if_ge (tgt := 82) hx hb dX7_run_76 (by decide) (fun c48 => ?_) (fun c48 => ?_)
                    · have h := zY c48 h
                      refine lv_aload_n hx hb dX7_run_82 rfl (lv_at hl 1 rfl) ?_
                      refine va_get (D := (dC, dI)) (ci := 6) (v := .ref (h7 42)) (C := RX7) (T := TX7) (N := 49) hx hb hts inX7_ hown hK hP 0 rfl rfl 42 (by decide) (hts (.fieldLink RX7 95 "GateWheelModel" "slots" "[I") (List.mem_of_getElem? (i := 4) rfl)) (fun _ h9 => h9) rfl dX7_run_83 ?_
                      refine lv_iload hx hb dX7_run_86 (lv_at hl 0 rfl) ?_
                      refine va_iald hx hb hK hP 27 0 rfl rfl hi47 dX7_run_88 ?_
                      obtain ⟨v49, ev49, h⟩ := zL_spec h
                      refine zTopi ev49 ?_
                      refine lv_istore (lv' := [(6, .int v49), (5, .int v46), (0, .ref a7), (1, .int p1), (3, .int v19), (2, .int v42), (4, .int v43)]) hx hb dX7_run_89 hl (by decide) rfl (fun ls hl => ?_)
                      refine lv_aload_n hx hb dX7_run_91 rfl (lv_at hl 2 rfl) ?_
                      refine va_get (D := (dC, dI)) (ci := 6) (v := .ref (h7 42)) (C := RX7) (T := TX7) (N := 49) hx hb hts inX7_ hown hK hP 0 rfl rfl 42 (by decide) (hts (.fieldLink RX7 95 "GateWheelModel" "slots" "[I") (List.mem_of_getElem? (i := 4) rfl)) (fun _ h9 => h9) rfl dX7_run_92 ?_
                      refine lv_iload hx hb dX7_run_95 (lv_at hl 1 rfl) ?_
                      refine lv_iconst (v := (-1)) hx hb dX7_run_97 (by decide) ?_
                      refine va_iast hx hb hK hP hD hS 27 0 rfl rfl hi47 dX7_run_98 (fun H50 locs hP hD hS => ?_)
                      obtain ⟨s7_51, es7_51, h⟩ := zL_spec h
                      have hP : va_P (dC, dI) vwCl (cX7 a7 h7 y s7_51) H50 := by rw [es7_51]; exact hP
                      have hD : va_D A (cX7 a7 h7 y s7_51) := by rw [es7_51]; exact hD
                      refine lv_aload_n hx hb dX7_run_99 rfl (lv_at hl 2 rfl) ?_
                      refine lv_dup hx hb dX7_run_100 rfl ?_
                      refine va_get (D := (dC, dI)) (ci := 6) (v := .int (gI s7_51 48)) (C := RX7) (T := TX7) (N := 49) hx hb hts inX7_ hown hK hP 0 rfl rfl 48 (by decide) (hts (.fieldLink RX7 319 "GateWheelModel" "coming" "I") (List.mem_of_getElem? (i := 5) rfl)) (fun _ h9 => h9) rfl dX7_run_101 ?_
                      refine lv_iconst (v := 1) hx hb dX7_run_104 (by decide) ?_
                      refine lv_isub hx hb dX7_run_105 ?_
                      refine va_put (D := (dC, dI)) (ci := 6) (v := .int ((gI s7_51 48) - (1 : Int32))) (ty := .int) (C := RX7) (T := TX7) (N := 49) hx hb hts inX7_ tyX7 tyX7_ok nmX7 hown hK hP hD hS 0 rfl rfl 48 (by decide) (hts (.fieldLink RX7 319 "GateWheelModel" "coming" "I") (List.mem_of_getElem? (i := 5) rfl)) (fun _ h9 => h9) rfl (by decide +kernel) rfl rfl (Nat.le_of_ble_eq_true rfl) dX7_run_106 (fun H52 locs hP hD hS => ?_)
                      obtain ⟨s7_53, es7_53, h⟩ := zL_spec h
                      have hP : va_P (dC, dI) vwCl (cX7 a7 h7 y s7_53) H52 := by rw [es7_53]; exact hP
                      have hD : va_D A (cX7 a7 h7 y s7_53) := by rw [es7_53]; exact hD
                      refine lv_iload hx hb dX7_run_109 (lv_at hl 0 rfl) ?_
                      refine lv_aload_n hx hb dX7_run_111 rfl (lv_at hl 2 rfl) ?_
                      refine va_get (D := (dC, dI)) (ci := 6) (v := .ref (h7 40)) (C := RX7) (T := TX7) (N := 49) hx hb hts inX7_ hown hK hP 0 rfl rfl 40 (by decide) (hts (.fieldLink RX7 89 "GateWheelModel" "on" "[I") (List.mem_of_getElem? (i := 6) rfl)) (fun _ h9 => h9) rfl dX7_run_112 ?_
                      refine lv_iload hx hb dX7_run_115 (lv_at hl 6 rfl) ?_
                      obtain ⟨hi54, h⟩ := zG_spec h
                      refine va_iald hx hb hK hP 25 0 rfl rfl hi54 dX7_run_117 ?_
                      refine lv_icmp_ne (tgt := 124) hx hb dX7_run_118 (by decide) (fun c55 => ?_) (fun c55 => ?_)
                      · have h := zN c55 h
                        refine lv_aload_n hx hb dX7_run_124 rfl (lv_at hl 2 rfl) ?_
                        refine lv_iload hx hb dX7_run_125 (lv_at hl 6 rfl) ?_
                        refine lv_iload hx hb dX7_run_127 (lv_at hl 0 rfl) ?_
                        obtain ⟨s7_56, hc57, h⟩ := zB_spec h
                        have hFc := zFree hD hS hA
                        refine va_callv (va_runV (As := [.int v43, .int v49]) (rest := []) ⟨hx, hb, hml, hown, hts⟩ (m_X7_change l dC dI y a7 h7 s7_53 v43 v49 H52.size s7_56 hc57) (cwV 2 hts gX7_run_X7_change rfl rfl rfl (by decide +kernel) ⟨Nat.le_of_ble_eq_true rfl, Nat.le_of_ble_eq_true rfl⟩) ⟨fun a U g mk q => by obtain ⟨q0, q1, qP, qK, qD⟩ := q; exact ⟨q0, q1, qP, va_K.moved (u := U) (U := U.calling g mk a) (Vm.Alike.refl U.vm) qK, qD⟩, va_recv hK hP (ci := 6) (q0 := 0) rfl rfl, fun U hU hW => ⟨rfl, by rw [hU], by rw [hU]; exact hP, va_K.moved hW.alike hK, hD.weaken (fun _ _ _ _ => trivial)⟩⟩ rfl rfl hl.1 rfl (lv_room (Nat.le_of_ble_eq_true rfl)) dX7_run_129 ⟨Nat.le_of_ble_eq_true rfl, Nat.le_of_ble_eq_true rfl⟩) hS (fun q _ h => hFc q h) hFc (fun u t H58 locs ht hvm hw hB hz1 hk1 hS => ?_)
                        obtain ⟨hP1, hK1, hD1⟩ := hB
                        rw [ht] at hP1
                        have hP := hP1
                        have hD := hD1.weaken (fun _ q _ h => hFc q.1 h)
                        have hP : va_P (dC, dI) vwCl (cX7 a7 h7 y s7_56) H58 := hP
                        have hD : va_D A (cX7 a7 h7 y s7_56) := hD
                        obtain ⟨v60, ev60, h⟩ := zL_spec h
                        refine lv_iinc (v := v60) (lv' := [(2, .int v60), (6, .int v49), (5, .int v46), (0, .ref a7), (1, .int p1), (3, .int v19), (4, .int v43)]) hx hb dX7_run_132 hl (k := 5) rfl (by rw [ev60]; rfl) (by decide) rfl (fun ls hl => ?_)
                        obtain ⟨v61, ev61, h⟩ := zL_spec h
                        refine lv_iinc (v := v61) (lv' := [(4, .int v61), (2, .int v60), (6, .int v49), (5, .int v46), (0, .ref a7), (1, .int p1), (3, .int v19)]) hx hb dX7_run_135 hl (k := 6) rfl (by rw [ev61]; rfl) (by decide) rfl (fun ls hl => ?_)
                        refine lv_goto (tgt := 45) hx hb dX7_run_138 (by decide) ?_
                        have h := zI_l h hx31
                        exact (eG25 _ _ _ _ _).mp (ihlp27 v60 v61 s7_56 _ _ _ h hP hD hS (lv_sub hl [4, 5, 6, 1, 0] rfl))
                      · have h := zY c55 h
                        refine lv_goto (tgt := 135) hx hb dX7_run_121 (by decide) ?_
                        obtain ⟨v62, ev62, h⟩ := zL_spec h
                        refine lv_iinc (v := v62) (lv' := [(4, .int v62), (6, .int v49), (5, .int v46), (0, .ref a7), (1, .int p1), (3, .int v19), (2, .int v42)]) hx hb dX7_run_135 hl (k := 6) rfl (by rw [ev62]; rfl) (by decide) rfl (fun ls hl => ?_)
                        refine lv_goto (tgt := 45) hx hb dX7_run_138 (by decide) ?_
                        have h := zI_l h hx31
                        exact (eG25 _ _ _ _ _).mp (ihlp27 v42 v62 s7_53 _ _ _ h hP hD hS (lv_sub hl [3, 4, 5, 6, 0] rfl))
                    · have h := zN c48 h
                      refine lv_goto (tgt := 135) hx hb dX7_run_79 (by decide) ?_
                      obtain ⟨v63, ev63, h⟩ := zL_spec h
                      refine lv_iinc (v := v63) (lv' := [(4, .int v63), (5, .int v46), (0, .ref a7), (1, .int p1), (3, .int v19), (2, .int v42)]) hx hb dX7_run_135 hl (k := 5) rfl (by rw [ev63]; rfl) (by decide) rfl (fun ls hl => ?_)
                      refine lv_goto (tgt := 45) hx hb dX7_run_138 (by decide) ?_
                      have h := zI_l h hx31
                      exact (eG25 _ _ _ _ _).mp (ihlp27 v42 v63 s7_44 _ _ _ h hP hD hS (lv_sub hl [2, 3, 4, 5, 0] rfl))
              exact lp27 zF v18 (0 : Int32) s7_23 _ _ _ hi29 hP hD hS (lv_sub hl [1, 2, 4, 3, 0] rfl)
        exact lp12 zF r4 (0 : Int32) s7_5 _ _ _ hi14 hP hD hS (lv_sub hl [2, 3, 1, 0] rfl)
      · have h := zN c3 h
        refine lv_iconst (v := (-1)) hx hb dX7_run_18 (by decide) ?_
        have ho0 : (-1 : Int32) = or_ := congrArg (fun z : Int32 × SS => z.1) (Option.some.inj h)
        have ho1 : S7 = o_7 := congrArg (fun z : Int32 × SS => z.2) (Option.some.inj h)
        exact W.iret (v := (-1)) hx hb hr (fun t ht hW => ⟨⟨(-1), (), rfl, ho0, by rw [ht]; rw [← ho1]; exact hP, va_K.moved hW.alike hK, by rw [← ho1]; exact hD⟩, hS.F ht⟩) hS.2.2 dX7_run_19

set_option maxHeartbeats 4000000 in
set_option maxRecDepth 100000 in
theorem m_X7_on (l : Launch) (dC : Nat → ClassId) (dI : Nat → Nat → Nat) (y : Nat → ClassId) (a7 : Nat) (h7 : Nat → Nat) (S7 : SS) (p1 : Int32) (sz : Nat) (or_ : Int32) (h : f_X7_on S7 p1 = some or_) : Met l yX7_on wsX7_on ({ frames := 1, cells := 0, slots := 0, locals := 21 }) (va_Pc [.ref a7, .int p1] (fun U => U.heap.size = sz ∧ va_P (dC, dI) vwCl (cX7 a7 h7 y S7) U.heap ∧ va_K (dC, dI) vwCl [(y 0, .int), (y 1, .long), (y 2, .byte), (y 3, .boolean)] U ∧ va_D (fun _ => True) (cX7 a7 h7 y S7))) (va_Qi (fun (r : Int32) (_ : Unit) => r = or_) (fun (_ : Unit) (t : State) => va_P (dC, dI) vwCl (cX7 a7 h7 y S7) t.heap ∧ va_K (dC, dI) vwCl [(y 0, .int), (y 1, .long), (y 2, .byte), (y 3, .boolean)] t ∧ va_D (va_A (cX7 a7 h7 y S7) sz) (cX7 a7 h7 y S7)) (va_A (cX7 a7 h7 y S7) sz)) 0 0 (va_A (cX7 a7 h7 y S7) sz) := by
  refine Met.ofW (cc := cX7_on) (maxL := 2) (ret := (some .int)) (by decide +kernel) rfl ?_
  intro p e s m args below meth c s₁ B hml hv
  obtain ⟨rfl, hsz, hP, hK, hD0⟩ := hv
  have hx := B.exec
  have hb := B.bytes
  have hr := B.returns
  have hts := atoms_spec (ws := wsX7_on) B.pre
  have hown : s.vm.findClass RX7 = some m.cls := findClass_of_methodNamed B.named
  have hlocks := B.notSynchronized
  have inX7_ : ∀ w ∈ wsX70, w ∈ wsX7_on := fun _ h => List.mem_cons_of_mem _ (List.mem_append_right _ h)
  subst hsz
  have hD := hD0.self (sz := s.heap.size)
  generalize hAe : va_A (cX7 a7 h7 y S7) s.heap.size = A at hD ⊢
  have hA : ∀ q : Nat, s.heap.size ≤ q → A q := fun q h => by rw [← hAe]; exact Or.inr h
  have hS : va_S A s.heap s.heap [] := va_S.rf
  have hP : va_P (dC, dI) vwCl (cX7 a7 h7 y S7) s.heap := hP
  have hl := lv_entry ([.ref a7, .int p1]) (n := 2) (Nat.le_of_ble_eq_true rfl)
  rw [lg_entry_eq]
  generalize (lg_sl ([.ref a7, .int p1]) ++ List.replicate (2 - (lg_sl ([.ref a7, .int p1])).length) Slot.unset).toArray = ls at hl ⊢
  have hl : lv_has ls 2 [(0, .ref a7), (1, .int p1)] := hl
  refine lv_aload_n hx hb dX7_on_0 rfl (lv_at hl 0 rfl) ?_
  refine va_get (D := (dC, dI)) (ci := 6) (v := .int (gI S7 46)) (C := RX7) (T := TX7) (N := 49) hx hb hts inX7_ hown hK hP 0 rfl rfl 46 (by decide) (hts (.fieldLink RX7 267 "GateWheelModel" "hasWheel" "Z") (List.mem_of_getElem? (i := 1) rfl)) (fun _ h9 => h9) rfl dX7_on_1 ?_
  refine lv_if_eq (tgt := 15) hx hb dX7_on_4 (by decide) (fun c1 => ?_) (fun c1 => ?_)
  · have h := zY c1 h
    refine lv_iconst (v := (-1)) hx hb dX7_on_15 (by decide) ?_
    refine lv_goto (tgt := 25) hx hb dX7_on_16 (by decide) ?_
    have ho0 : (-1 : Int32) = or_ := congrArg (fun z : Int32 => z) (Option.some.inj h)
    exact W.iret (v := (-1)) hx hb hr (fun t ht hW => ⟨⟨(-1), (), rfl, ho0, by rw [ht]; exact hP, va_K.moved hW.alike hK, hD⟩, hS.F ht⟩) hS.2.2 dX7_on_25
  · have h := zN c1 h
    refine lv_aload_n hx hb dX7_on_7 rfl (lv_at hl 0 rfl) ?_
    refine lv_iload_n hx hb dX7_on_8 rfl (lv_at hl 1 rfl) ?_
    obtain ⟨r2, hc3, h⟩ := zB_spec h
    have hFc := zFree hD hS hA
    refine va_calli (va_runV (As := [.int p1]) (rest := []) ⟨hx, hb, hml, hown, hts⟩ (m_X7_isNode l dC dI y a7 h7 S7 p1 s.heap.size r2 hc3) (cwV 1 hts gX7_on_X7_isNode rfl rfl rfl (by decide +kernel) ⟨Nat.le_of_ble_eq_true rfl, Nat.le_of_ble_eq_true rfl⟩) ⟨fun a U g mk q => by obtain ⟨q0, q1, qP, qK, qD⟩ := q; exact ⟨q0, q1, qP, va_K.moved (u := U) (U := U.calling g mk a) (Vm.Alike.refl U.vm) qK, qD⟩, va_recv hK hP (ci := 6) (q0 := 0) rfl rfl, fun U hU hW => ⟨rfl, by rw [hU], by rw [hU]; exact hP, va_K.moved hW.alike hK, hD.weaken (fun _ _ _ _ => trivial)⟩⟩ rfl rfl hl.1 rfl (lv_room (Nat.le_of_ble_eq_true rfl)) dX7_on_9 ⟨Nat.le_of_ble_eq_true rfl, Nat.le_of_ble_eq_true rfl⟩) hS (fun q _ h => hFc q h) hFc (fun rr5 u t H4 locs ht hvm hw hB hz1 hk1 hS => ?_)
    obtain ⟨hP1, hK1, hD1⟩ := hB
    rw [ht] at hP1
    refine zTopi hw.symm ?_
    have hP := hP1
    have hD := hD1.weaken (fun _ q _ h => hFc q.1 h)
    have hP : va_P (dC, dI) vwCl (cX7 a7 h7 y S7) H4 := hP
    have hD : va_D A (cX7 a7 h7 y S7) := hD
    refine lv_if_ne (tgt := 19) hx hb dX7_on_12 (by decide) (fun c6 => ?_) (fun c6 => ?_)
    · have h := zN c6 h
      refine lv_aload_n hx hb dX7_on_19 rfl (lv_at hl 0 rfl) ?_
      refine va_get (D := (dC, dI)) (ci := 6) (v := .ref (h7 40)) (C := RX7) (T := TX7) (N := 49) hx hb hts inX7_ hown hK hP 0 rfl rfl 40 (by decide) (hts (.fieldLink RX7 89 "GateWheelModel" "on" "[I") (List.mem_of_getElem? (i := 2) rfl)) (fun _ h9 => h9) rfl dX7_on_20 ?_
      refine lv_iload_n hx hb dX7_on_23 rfl (lv_at hl 1 rfl) ?_
      obtain ⟨hi7, h⟩ := zG_spec h
      refine va_iald hx hb hK hP 25 0 rfl rfl hi7 dX7_on_24 ?_
      have ho0 : (gA S7 40 p1.toNatClampNeg) = or_ := congrArg (fun z : Int32 => z) (Option.some.inj h)
      exact W.iret (v := (gA S7 40 p1.toNatClampNeg)) hx hb hr (fun t ht hW => ⟨⟨(gA S7 40 p1.toNatClampNeg), (), rfl, ho0, by rw [ht]; exact hP, va_K.moved hW.alike hK, hD⟩, hS.F ht⟩) hS.2.2 dX7_on_25
    · have h := zY c6 h
      refine lv_iconst (v := (-1)) hx hb dX7_on_15 (by decide) ?_
      refine lv_goto (tgt := 25) hx hb dX7_on_16 (by decide) ?_
      have ho0 : (-1 : Int32) = or_ := congrArg (fun z : Int32 => z) (Option.some.inj h)
      exact W.iret (v := (-1)) hx hb hr (fun t ht hW => ⟨⟨(-1), (), rfl, ho0, by rw [ht]; exact hP, va_K.moved hW.alike hK, hD⟩, hS.F ht⟩) hS.2.2 dX7_on_25

set_option maxHeartbeats 4000000 in
set_option maxRecDepth 100000 in
theorem m_X7_wave (l : Launch) (dC : Nat → ClassId) (dI : Nat → Nat → Nat) (y : Nat → ClassId) (a7 : Nat) (h7 : Nat → Nat) (S7 : SS) (p1 : Int32) (p2 : Int32) (sz : Nat) (or_ : Int32) (h : f_X7_wave S7 p1 p2 = some or_) : Met l yX7_wave wsX7_wave ({ frames := 1, cells := 0, slots := 0, locals := 21 }) (va_Pc [.ref a7, .int p1, .int p2] (fun U => U.heap.size = sz ∧ va_P (dC, dI) vwCl (cX7 a7 h7 y S7) U.heap ∧ va_K (dC, dI) vwCl [(y 0, .int), (y 1, .long), (y 2, .byte), (y 3, .boolean)] U ∧ va_D (fun _ => True) (cX7 a7 h7 y S7))) (va_Qi (fun (r : Int32) (_ : Unit) => r = or_) (fun (_ : Unit) (t : State) => va_P (dC, dI) vwCl (cX7 a7 h7 y S7) t.heap ∧ va_K (dC, dI) vwCl [(y 0, .int), (y 1, .long), (y 2, .byte), (y 3, .boolean)] t ∧ va_D (va_A (cX7 a7 h7 y S7) sz) (cX7 a7 h7 y S7)) (va_A (cX7 a7 h7 y S7) sz)) 0 0 (va_A (cX7 a7 h7 y S7) sz) := by
  refine Met.ofW (cc := cX7_wave) (maxL := 3) (ret := (some .int)) (by decide +kernel) rfl ?_
  intro p e s m args below meth c s₁ B hml hv
  obtain ⟨rfl, hsz, hP, hK, hD0⟩ := hv
  have hx := B.exec
  have hb := B.bytes
  have hr := B.returns
  have hts := atoms_spec (ws := wsX7_wave) B.pre
  have hown : s.vm.findClass RX7 = some m.cls := findClass_of_methodNamed B.named
  have hlocks := B.notSynchronized
  have inX7_ : ∀ w ∈ wsX70, w ∈ wsX7_wave := fun _ h => List.mem_cons_of_mem _ (List.mem_append_right _ h)
  subst hsz
  have hD := hD0.self (sz := s.heap.size)
  generalize hAe : va_A (cX7 a7 h7 y S7) s.heap.size = A at hD ⊢
  have hA : ∀ q : Nat, s.heap.size ≤ q → A q := fun q h => by rw [← hAe]; exact Or.inr h
  have hS : va_S A s.heap s.heap [] := va_S.rf
  have hP : va_P (dC, dI) vwCl (cX7 a7 h7 y S7) s.heap := hP
  have hl := lv_entry ([.ref a7, .int p1, .int p2]) (n := 3) (Nat.le_of_ble_eq_true rfl)
  rw [lg_entry_eq]
  generalize (lg_sl ([.ref a7, .int p1, .int p2]) ++ List.replicate (3 - (lg_sl ([.ref a7, .int p1, .int p2])).length) Slot.unset).toArray = ls at hl ⊢
  have hl : lv_has ls 3 [(0, .ref a7), (1, .int p1), (2, .int p2)] := hl
  refine lv_aload_n hx hb dX7_wave_0 rfl (lv_at hl 0 rfl) ?_
  refine va_get (D := (dC, dI)) (ci := 6) (v := .int (gI S7 46)) (C := RX7) (T := TX7) (N := 49) hx hb hts inX7_ hown hK hP 0 rfl rfl 46 (by decide) (hts (.fieldLink RX7 267 "GateWheelModel" "hasWheel" "Z") (List.mem_of_getElem? (i := 1) rfl)) (fun _ h9 => h9) rfl dX7_wave_1 ?_
  refine lv_if_eq (tgt := 35) hx hb dX7_wave_4 (by decide) (fun c1 => ?_) (fun c1 => ?_)
  · have h := zY c1 h
    refine lv_iconst (v := (-1)) hx hb dX7_wave_35 (by decide) ?_
    refine lv_goto (tgt := 50) hx hb dX7_wave_36 (by decide) ?_
    have ho0 : (-1 : Int32) = or_ := congrArg (fun z : Int32 => z) (Option.some.inj h)
    exact W.iret (v := (-1)) hx hb hr (fun t ht hW => ⟨⟨(-1), (), rfl, ho0, by rw [ht]; exact hP, va_K.moved hW.alike hK, hD⟩, hS.F ht⟩) hS.2.2 dX7_wave_50
  · have h := zN c1 h
    refine lv_aload_n hx hb dX7_wave_7 rfl (lv_at hl 0 rfl) ?_
    refine lv_iload_n hx hb dX7_wave_8 rfl (lv_at hl 1 rfl) ?_
    obtain ⟨r2, hc3, h⟩ := zB_spec h
    have hFc := zFree hD hS hA
    refine va_calli (va_runV (As := [.int p1]) (rest := []) ⟨hx, hb, hml, hown, hts⟩ (m_X7_isNode l dC dI y a7 h7 S7 p1 s.heap.size r2 hc3) (cwV 1 hts gX7_wave_X7_isNode rfl rfl rfl (by decide +kernel) ⟨Nat.le_of_ble_eq_true rfl, Nat.le_of_ble_eq_true rfl⟩) ⟨fun a U g mk q => by obtain ⟨q0, q1, qP, qK, qD⟩ := q; exact ⟨q0, q1, qP, va_K.moved (u := U) (U := U.calling g mk a) (Vm.Alike.refl U.vm) qK, qD⟩, va_recv hK hP (ci := 6) (q0 := 0) rfl rfl, fun U hU hW => ⟨rfl, by rw [hU], by rw [hU]; exact hP, va_K.moved hW.alike hK, hD.weaken (fun _ _ _ _ => trivial)⟩⟩ rfl rfl hl.1 rfl (lv_room (Nat.le_of_ble_eq_true rfl)) dX7_wave_9 ⟨Nat.le_of_ble_eq_true rfl, Nat.le_of_ble_eq_true rfl⟩) hS (fun q _ h => hFc q h) hFc (fun rr5 u t H4 locs ht hvm hw hB hz1 hk1 hS => ?_)
    obtain ⟨hP1, hK1, hD1⟩ := hB
    rw [ht] at hP1
    refine zTopi hw.symm ?_
    have hP := hP1
    have hD := hD1.weaken (fun _ q _ h => hFc q.1 h)
    have hP : va_P (dC, dI) vwCl (cX7 a7 h7 y S7) H4 := hP
    have hD : va_D A (cX7 a7 h7 y S7) := hD
    refine lv_if_eq (tgt := 35) hx hb dX7_wave_12 (by decide) (fun c6 => ?_) (fun c6 => ?_)
    · have h := zY c6 h
      refine lv_iconst (v := (-1)) hx hb dX7_wave_35 (by decide) ?_
      refine lv_goto (tgt := 50) hx hb dX7_wave_36 (by decide) ?_
      have ho0 : (-1 : Int32) = or_ := congrArg (fun z : Int32 => z) (Option.some.inj h)
      exact W.iret (v := (-1)) hx hb hr (fun t ht hW => ⟨⟨(-1), (), rfl, ho0, by rw [ht]; exact hP, va_K.moved hW.alike hK, hD⟩, hS.F ht⟩) hS.2.2 dX7_wave_50
    · have h := zN c6 h
      refine lv_iload_n hx hb dX7_wave_15 rfl (lv_at hl 2 rfl) ?_
      refine lv_if_lt (tgt := 35) hx hb dX7_wave_16 (by decide) (fun c7 => ?_) (fun c7 => ?_)
      · have h := zY c7 h
        refine lv_iconst (v := (-1)) hx hb dX7_wave_35 (by decide) ?_
        refine lv_goto (tgt := 50) hx hb dX7_wave_36 (by decide) ?_
        have ho0 : (-1 : Int32) = or_ := congrArg (fun z : Int32 => z) (Option.some.inj h)
        exact W.iret (v := (-1)) hx hb hr (fun t ht hW => ⟨⟨(-1), (), rfl, ho0, by rw [ht]; exact hP, va_K.moved hW.alike hK, hD⟩, hS.F ht⟩) hS.2.2 dX7_wave_50
      · have h := zN c7 h
        refine lv_iload_n hx hb dX7_wave_19 rfl (lv_at hl 2 rfl) ?_
        refine lv_aload_n hx hb dX7_wave_20 rfl (lv_at hl 0 rfl) ?_
        refine va_get (D := (dC, dI)) (ci := 6) (v := .ref (h7 44)) (C := RX7) (T := TX7) (N := 49) hx hb hts inX7_ hown hK hP 0 rfl rfl 44 (by decide) (hts (.fieldLink RX7 101 "GateWheelModel" "waveMany" "[I") (List.mem_of_getElem? (i := 2) rfl)) (fun _ h9 => h9) rfl dX7_wave_21 ?_
        refine lv_iload_n hx hb dX7_wave_24 rfl (lv_at hl 1 rfl) ?_
        obtain ⟨hi8, h⟩ := zG_spec h
        refine va_iald hx hb hK hP 29 0 rfl rfl hi8 dX7_wave_25 ?_
        refine lv_icmp_ge (tgt := 35) hx hb dX7_wave_26 (by decide) (fun c9 => ?_) (fun c9 => ?_)
        · have h := zY c9 h
          refine lv_iconst (v := (-1)) hx hb dX7_wave_35 (by decide) ?_
          refine lv_goto (tgt := 50) hx hb dX7_wave_36 (by decide) ?_
          have ho0 : (-1 : Int32) = or_ := congrArg (fun z : Int32 => z) (Option.some.inj h)
          exact W.iret (v := (-1)) hx hb hr (fun t ht hW => ⟨⟨(-1), (), rfl, ho0, by rw [ht]; exact hP, va_K.moved hW.alike hK, hD⟩, hS.F ht⟩) hS.2.2 dX7_wave_50
        · have h := zN c9 h
          refine lv_iload_n hx hb dX7_wave_29 rfl (lv_at hl 2 rfl) ?_
          refine lv_bipush (v := 20) hx hb dX7_wave_30 (by decide) ?_
          refine lv_icmp_lt (tgt := 39) hx hb dX7_wave_32 (by decide) (fun c10 => ?_) (fun c10 => ?_)
          · have h := zY c10 h
            refine lv_aload_n hx hb dX7_wave_39 rfl (lv_at hl 0 rfl) ?_
            refine va_get (D := (dC, dI)) (ci := 6) (v := .ref (h7 43)) (C := RX7) (T := TX7) (N := 49) hx hb hts inX7_ hown hK hP 0 rfl rfl 43 (by decide) (hts (.fieldLink RX7 98 "GateWheelModel" "waves" "[I") (List.mem_of_getElem? (i := 3) rfl)) (fun _ h9 => h9) rfl dX7_wave_40 ?_
            refine lv_bipush (v := 20) hx hb dX7_wave_43 (by decide) ?_
            refine lv_iload_n hx hb dX7_wave_45 rfl (lv_at hl 1 rfl) ?_
            refine lv_imul hx hb dX7_wave_46 ?_
            refine lv_iload_n hx hb dX7_wave_47 rfl (lv_at hl 2 rfl) ?_
            refine lv_iadd hx hb dX7_wave_48 ?_
            obtain ⟨hi11, h⟩ := zG_spec h
            refine va_iald hx hb hK hP 28 0 rfl rfl hi11 dX7_wave_49 ?_
            have ho0 : (gA S7 43 (((20 : Int32) * p1) + p2).toNatClampNeg) = or_ := congrArg (fun z : Int32 => z) (Option.some.inj h)
            exact W.iret (v := (gA S7 43 (((20 : Int32) * p1) + p2).toNatClampNeg)) hx hb hr (fun t ht hW => ⟨⟨(gA S7 43 (((20 : Int32) * p1) + p2).toNatClampNeg), (), rfl, ho0, by rw [ht]; exact hP, va_K.moved hW.alike hK, hD⟩, hS.F ht⟩) hS.2.2 dX7_wave_50
          · have h := zN c10 h
            refine lv_iconst (v := (-1)) hx hb dX7_wave_35 (by decide) ?_
            refine lv_goto (tgt := 50) hx hb dX7_wave_36 (by decide) ?_
            have ho0 : (-1 : Int32) = or_ := congrArg (fun z : Int32 => z) (Option.some.inj h)
            exact W.iret (v := (-1)) hx hb hr (fun t ht hW => ⟨⟨(-1), (), rfl, ho0, by rw [ht]; exact hP, va_K.moved hW.alike hK, hD⟩, hS.F ht⟩) hS.2.2 dX7_wave_50

set_option maxHeartbeats 4000000 in
set_option maxRecDepth 100000 in
theorem m_X7_isQuiet (l : Launch) (dC : Nat → ClassId) (dI : Nat → Nat → Nat) (y : Nat → ClassId) (a7 : Nat) (h7 : Nat → Nat) (S7 : SS) (sz : Nat) (or_ : Int32) (h : f_X7_isQuiet S7 = some or_) : Met l yX7_isQuiet wsX7_isQuiet ({ frames := 0, cells := 0, slots := 0, locals := 0 }) (va_Pc [.ref a7] (fun U => U.heap.size = sz ∧ va_P (dC, dI) vwCl (cX7 a7 h7 y S7) U.heap ∧ va_K (dC, dI) vwCl [(y 0, .int), (y 1, .long), (y 2, .byte), (y 3, .boolean)] U ∧ va_D (fun _ => True) (cX7 a7 h7 y S7))) (va_Qi (fun (r : Int32) (_ : Unit) => r = or_) (fun (_ : Unit) (t : State) => va_P (dC, dI) vwCl (cX7 a7 h7 y S7) t.heap ∧ va_K (dC, dI) vwCl [(y 0, .int), (y 1, .long), (y 2, .byte), (y 3, .boolean)] t ∧ va_D (va_A (cX7 a7 h7 y S7) sz) (cX7 a7 h7 y S7)) (va_A (cX7 a7 h7 y S7) sz)) 0 0 (va_A (cX7 a7 h7 y S7) sz) := by
  refine Met.ofW (cc := cX7_isQuiet) (maxL := 3) (ret := (some .boolean)) (by decide +kernel) rfl ?_
  intro p e s m args below meth c s₁ B hml hv
  obtain ⟨rfl, hsz, hP, hK, hD0⟩ := hv
  have hx := B.exec
  have hb := B.bytes
  have hr := B.returns
  have hts := atoms_spec (ws := wsX7_isQuiet) B.pre
  have hown : s.vm.findClass RX7 = some m.cls := findClass_of_methodNamed B.named
  have hlocks := B.notSynchronized
  have inX7_ : ∀ w ∈ wsX70, w ∈ wsX7_isQuiet := fun _ h => List.mem_cons_of_mem _ (List.mem_append_right _ h)
  subst hsz
  have hD := hD0.self (sz := s.heap.size)
  generalize hAe : va_A (cX7 a7 h7 y S7) s.heap.size = A at hD ⊢
  have hA : ∀ q : Nat, s.heap.size ≤ q → A q := fun q h => by rw [← hAe]; exact Or.inr h
  have hS : va_S A s.heap s.heap [] := va_S.rf
  have hP : va_P (dC, dI) vwCl (cX7 a7 h7 y S7) s.heap := hP
  have hl := lv_entry ([.ref a7]) (n := 3) (Nat.le_of_ble_eq_true rfl)
  rw [lg_entry_eq]
  generalize (lg_sl ([.ref a7]) ++ List.replicate (3 - (lg_sl ([.ref a7])).length) Slot.unset).toArray = ls at hl ⊢
  have hl : lv_has ls 3 [(0, .ref a7)] := hl
  refine lv_aload_n hx hb dX7_isQuiet_0 rfl (lv_at hl 0 rfl) ?_
  refine va_get (D := (dC, dI)) (ci := 6) (v := .int (gI S7 48)) (C := RX7) (T := TX7) (N := 49) hx hb hts inX7_ hown hK hP 0 rfl rfl 48 (by decide) (hts (.fieldLink RX7 319 "GateWheelModel" "coming" "I") (List.mem_of_getElem? (i := 1) rfl)) (fun _ h9 => h9) rfl dX7_isQuiet_1 ?_
  refine W_abs (fun GW1 eG2 => ?_)
  obtain ⟨ov4, hr5, h⟩ := zB_spec h
  have jn3 : ∀ (v7 : Int32) (HGW1 : Heap) (locs : List Loc) (ls : Array Slot), v7 = ov4 → va_P (dC, dI) vwCl (cX7 a7 h7 y S7) HGW1 → va_D A (cX7 a7 h7 y S7) → va_S A s.heap HGW1 locs → lv_has ls 3 [(0, .ref a7)] → GW1 HGW1 locs 0 0 (F0 m 12 ls [.int v7]) := by
    intro v7 HGW1 locs ls hv hP hD hS hl
    subst hv
    refine (eG2 _ _ _ _ _).mpr ?_
    refine lv_istore_n (lv' := [(1, .int v7), (0, .ref a7)]) hx hb dX7_isQuiet_12 rfl hl (by decide) rfl (fun ls hl => ?_)
    refine lv_iconst (v := 0) hx hb dX7_isQuiet_13 (by decide) ?_
    refine lv_istore_n (lv' := [(2, .int 0), (1, .int v7), (0, .ref a7)]) hx hb dX7_isQuiet_14 rfl hl (by decide) rfl (fun ls hl => ?_)
    refine W_abs (fun GW8 eG9 => ?_)
    have hi13 := h
    have lp11 : ∀ (n : Nat) (v17 : Int32) (v18 : Int32) (HGW8 : Heap) (locs : List Loc) (ls : Array Slot), zI (b_X7_isQuiet_15 S7) n (v17, v18) = some or_ → va_P (dC, dI) vwCl (cX7 a7 h7 y S7) HGW8 → va_D A (cX7 a7 h7 y S7) → va_S A s.heap HGW8 locs → lv_has ls 3 [(0, .ref a7), (1, .int v17), (2, .int v18)] → GW8 HGW8 locs 0 0 (F0 m 15 ls []) := by
      intro n
      induction n with
      | zero =>
        intro v17 v18 HGW8 locs ls hi13 hP hD hS hl
        exact (zI_0 hi13).elim
      | succ n ihlp11 =>
        intro v17 v18 HGW8 locs ls hi13 hP hD hS hl
        refine (eG9 _ _ _ _ _).mpr ?_
        obtain ⟨xx16, h, hx15⟩ := zI_spec hi13
        refine lv_iload_n hx hb dX7_isQuiet_15 rfl (lv_at hl 2 rfl) ?_
        refine lv_aload_n hx hb dX7_isQuiet_16 rfl (lv_at hl 0 rfl) ?_
        refine va_get (D := (dC, dI)) (ci := 6) (v := .int (gI S7 29)) (C := RX7) (T := TX7) (N := 49) hx hb hts inX7_ hown hK hP 0 rfl rfl 29 (by decide) (hts (.fieldLink RX7 261 "GateWheelModel" "nodes" "I") (List.mem_of_getElem? (i := 2) rfl)) (fun _ h9 => h9) rfl dX7_isQuiet_17 ?_
        refine lv_icmp_ge (tgt := 48) hx hb dX7_isQuiet_20 (by decide) (fun c19 => ?_) (fun c19 => ?_)
        · have h := zY c19 h
          refine lv_iload_n hx hb dX7_isQuiet_48 rfl (lv_at hl 1 rfl) ?_
          obtain ⟨hz20, h⟩ := zG_spec h
          have h := congrArg some (zI_r h hx15)
          have ho0 : v17 = or_ := congrArg (fun z : Int32 => z) (Option.some.inj h)
          exact W.zret (v := v17) hx hb hr (zb_nar hz20) (fun t ht hW => ⟨⟨v17, (), rfl, ho0, by rw [ht]; exact hP, va_K.moved hW.alike hK, hD⟩, hS.F ht⟩) hS.2.2 dX7_isQuiet_49
        · have h := zN c19 h
          refine lv_iload_n hx hb dX7_isQuiet_23 rfl (lv_at hl 1 rfl) ?_
          refine lv_if_eq (tgt := 40) hx hb dX7_isQuiet_24 (by decide) (fun c21 => ?_) (fun c21 => ?_)
          · have h := zY c21 h
            refine lv_iconst (v := 0) hx hb dX7_isQuiet_40 (by decide) ?_
            refine lv_istore_n (lv' := [(1, .int 0), (0, .ref a7), (2, .int v18)]) hx hb dX7_isQuiet_41 rfl hl (by decide) rfl (fun ls hl => ?_)
            obtain ⟨v22, ev22, h⟩ := zL_spec h
            refine lv_iinc (v := v22) (lv' := [(2, .int v22), (1, .int 0), (0, .ref a7)]) hx hb dX7_isQuiet_42 hl (k := 2) rfl (by rw [ev22]; rfl) (by decide) rfl (fun ls hl => ?_)
            refine lv_goto (tgt := 15) hx hb dX7_isQuiet_45 (by decide) ?_
            have h := zI_l h hx15
            exact (eG9 _ _ _ _ _).mp (ihlp11 (0 : Int32) v22 _ _ _ h hP hD hS (lv_sub hl [2, 1, 0] rfl))
          · have h := zN c21 h
            refine lv_aload_n hx hb dX7_isQuiet_27 rfl (lv_at hl 0 rfl) ?_
            refine va_get (D := (dC, dI)) (ci := 6) (v := .ref (h7 45)) (C := RX7) (T := TX7) (N := 49) hx hb hts inX7_ hown hK hP 0 rfl rfl 45 (by decide) (hts (.fieldLink RX7 104 "GateWheelModel" "changed" "[Z") (List.mem_of_getElem? (i := 3) rfl)) (fun _ h9 => h9) rfl dX7_isQuiet_28 ?_
            refine lv_iload_n hx hb dX7_isQuiet_31 rfl (lv_at hl 2 rfl) ?_
            obtain ⟨hi23, h⟩ := zG_spec h
            refine va_zald hx hb hK hP 30 3 rfl rfl hi23 dX7_isQuiet_32 ?_
            refine lv_if_ne (tgt := 40) hx hb dX7_isQuiet_33 (by decide) (fun c24 => ?_) (fun c24 => ?_)
            · have h := zN c24 h
              refine lv_iconst (v := 0) hx hb dX7_isQuiet_40 (by decide) ?_
              refine lv_istore_n (lv' := [(1, .int 0), (0, .ref a7), (2, .int v18)]) hx hb dX7_isQuiet_41 rfl hl (by decide) rfl (fun ls hl => ?_)
              obtain ⟨v25, ev25, h⟩ := zL_spec h
              refine lv_iinc (v := v25) (lv' := [(2, .int v25), (1, .int 0), (0, .ref a7)]) hx hb dX7_isQuiet_42 hl (k := 2) rfl (by rw [ev25]; rfl) (by decide) rfl (fun ls hl => ?_)
              refine lv_goto (tgt := 15) hx hb dX7_isQuiet_45 (by decide) ?_
              have h := zI_l h hx15
              exact (eG9 _ _ _ _ _).mp (ihlp11 (0 : Int32) v25 _ _ _ h hP hD hS (lv_sub hl [2, 1, 0] rfl))
            · have h := zY c24 h
              refine lv_iconst (v := 1) hx hb dX7_isQuiet_36 (by decide) ?_
              refine lv_goto (tgt := 41) hx hb dX7_isQuiet_37 (by decide) ?_
              refine lv_istore_n (lv' := [(1, .int 1), (0, .ref a7), (2, .int v18)]) hx hb dX7_isQuiet_41 rfl hl (by decide) rfl (fun ls hl => ?_)
              obtain ⟨v26, ev26, h⟩ := zL_spec h
              refine lv_iinc (v := v26) (lv' := [(2, .int v26), (1, .int 1), (0, .ref a7)]) hx hb dX7_isQuiet_42 hl (k := 2) rfl (by rw [ev26]; rfl) (by decide) rfl (fun ls hl => ?_)
              refine lv_goto (tgt := 15) hx hb dX7_isQuiet_45 (by decide) ?_
              have h := zI_l h hx15
              exact (eG9 _ _ _ _ _).mp (ihlp11 (1 : Int32) v26 _ _ _ h hP hD hS (lv_sub hl [2, 1, 0] rfl))
    exact lp11 zF v7 (0 : Int32) _ _ _ hi13 hP hD hS (lv_sub hl [2, 1, 0] rfl)
  refine (eG2 _ _ _ _ _).mpr ?_
  have h := hr5
  refine lv_if_ne (tgt := 11) hx hb dX7_isQuiet_4 (by decide) (fun c27 => ?_) (fun c27 => ?_)
  · have h := zN c27 h
    refine lv_iconst (v := 0) hx hb dX7_isQuiet_11 (by decide) ?_
    exact (eG2 _ _ _ _ _).mp (jn3 (0 : Int32) _ _ _ (Option.some.inj h) hP hD hS (lv_sub hl [0] rfl))
  · have h := zY c27 h
    refine lv_iconst (v := 1) hx hb dX7_isQuiet_7 (by decide) ?_
    refine lv_goto (tgt := 12) hx hb dX7_isQuiet_8 (by decide) ?_
    exact (eG2 _ _ _ _ _).mp (jn3 (1 : Int32) _ _ _ (Option.some.inj h) hP hD hS (lv_sub hl [0] rfl))

set_option maxHeartbeats 4000000 in
set_option maxRecDepth 100000 in
theorem m_X7_about (l : Launch) (dC : Nat → ClassId) (dI : Nat → Nat → Nat) (y : Nat → ClassId) (a7 : Nat) (h7 : Nat → Nat) (S7 : SS) (p1 : Int32) (sz : Nat) (or_ : Int32) (o_7 : SS) (h : f_X7_about S7 p1 = some (or_, o_7)) : Met l yX7_about wsX7_about ({ frames := 2, cells := 0, slots := 0, locals := 42 }) (va_Pc [.ref a7, .int p1] (fun U => U.heap.size = sz ∧ va_P (dC, dI) vwCl (cX7 a7 h7 y S7) U.heap ∧ va_K (dC, dI) vwCl [(y 0, .int), (y 1, .long), (y 2, .byte), (y 3, .boolean)] U ∧ va_D (fun _ => True) (cX7 a7 h7 y S7))) (va_Qi (fun (r : Int32) (_ : Unit) => r = or_) (fun (_ : Unit) (t : State) => va_P (dC, dI) vwCl (cX7 a7 h7 y o_7) t.heap ∧ va_K (dC, dI) vwCl [(y 0, .int), (y 1, .long), (y 2, .byte), (y 3, .boolean)] t ∧ va_D (va_A (cX7 a7 h7 y S7) sz) (cX7 a7 h7 y o_7)) (va_A (cX7 a7 h7 y S7) sz)) 0 0 (va_A (cX7 a7 h7 y S7) sz) := by
  refine Met.ofW (cc := cX7_about) (maxL := 2) (ret := (some .int)) (by decide +kernel) rfl ?_
  intro p e s m args below meth c s₁ B hml hv
  obtain ⟨rfl, hsz, hP, hK, hD0⟩ := hv
  have hx := B.exec
  have hb := B.bytes
  have hr := B.returns
  have hts := atoms_spec (ws := wsX7_about) B.pre
  have hown : s.vm.findClass RX7 = some m.cls := findClass_of_methodNamed B.named
  have hlocks := B.notSynchronized
  have inX7_ : ∀ w ∈ wsX70, w ∈ wsX7_about := fun _ h => List.mem_cons_of_mem _ (List.mem_append_right _ h)
  subst hsz
  have hD := hD0.self (sz := s.heap.size)
  generalize hAe : va_A (cX7 a7 h7 y S7) s.heap.size = A at hD ⊢
  have hA : ∀ q : Nat, s.heap.size ≤ q → A q := fun q h => by rw [← hAe]; exact Or.inr h
  have hS : va_S A s.heap s.heap [] := va_S.rf
  have hP : va_P (dC, dI) vwCl (cX7 a7 h7 y S7) s.heap := hP
  have hl := lv_entry ([.ref a7, .int p1]) (n := 2) (Nat.le_of_ble_eq_true rfl)
  rw [lg_entry_eq]
  generalize (lg_sl ([.ref a7, .int p1]) ++ List.replicate (2 - (lg_sl ([.ref a7, .int p1])).length) Slot.unset).toArray = ls at hl ⊢
  have hl : lv_has ls 2 [(0, .ref a7), (1, .int p1)] := hl
  refine lv_aload_n hx hb dX7_about_0 rfl (lv_at hl 0 rfl) ?_
  obtain ⟨s7_1, hc2, h⟩ := zB_spec h
  have hFc := zFree hD hS hA
  refine va_callv (va_runV (As := []) (rest := []) ⟨hx, hb, hml, hown, hts⟩ (m_X7_find l dC dI y a7 h7 S7 s.heap.size s7_1 hc2) (cwV 0 hts gX7_about_X7_find rfl rfl rfl (by decide +kernel) ⟨Nat.le_of_ble_eq_true rfl, Nat.le_of_ble_eq_true rfl⟩) ⟨fun a U g mk q => by obtain ⟨q0, q1, qP, qK, qD⟩ := q; exact ⟨q0, q1, qP, va_K.moved (u := U) (U := U.calling g mk a) (Vm.Alike.refl U.vm) qK, qD⟩, va_recv hK hP (ci := 6) (q0 := 0) rfl rfl, fun U hU hW => ⟨rfl, by rw [hU], by rw [hU]; exact hP, va_K.moved hW.alike hK, hD.weaken (fun _ _ _ _ => trivial)⟩⟩ rfl rfl hl.1 rfl (lv_room (Nat.le_of_ble_eq_true rfl)) dX7_about_1 ⟨Nat.le_of_ble_eq_true rfl, Nat.le_of_ble_eq_true rfl⟩) hS (fun q _ h => hFc q h) hFc (fun u t H3 locs ht hvm hw hB hz1 hk1 hS => ?_)
  obtain ⟨hP1, hK1, hD1⟩ := hB
  rw [ht] at hP1
  have hP := hP1
  have hD := hD1.weaken (fun _ q _ h => hFc q.1 h)
  have hP : va_P (dC, dI) vwCl (cX7 a7 h7 y s7_1) H3 := hP
  have hD : va_D A (cX7 a7 h7 y s7_1) := hD
  refine lv_iload_n hx hb dX7_about_4 rfl (lv_at hl 1 rfl) ?_
  by_cases k5 : p1 = 0
  · have h := zY k5 h
    refine lv_tableIn (off := 39) (tgt := 44) hx hb dX7_about_5 (by rw [k5]; decide) (by rw [k5]; decide) (by rw [k5]; rfl) (by decide) ?_
    refine lv_aload_n hx hb dX7_about_44 rfl (lv_at hl 0 rfl) ?_
    refine va_get (D := (dC, dI)) (ci := 6) (v := .int (gI s7_1 29)) (C := RX7) (T := TX7) (N := 49) hx hb hts inX7_ hown hK hP 0 rfl rfl 29 (by decide) (hts (.fieldLink RX7 261 "GateWheelModel" "nodes" "I") (List.mem_of_getElem? (i := 1) rfl)) (fun _ h9 => h9) rfl dX7_about_45 ?_
    have ho0 : (gI s7_1 29) = or_ := congrArg (fun z : Int32 × SS => z.1) (Option.some.inj h)
    have ho1 : s7_1 = o_7 := congrArg (fun z : Int32 × SS => z.2) (Option.some.inj h)
    exact W.iret (v := (gI s7_1 29)) hx hb hr (fun t ht hW => ⟨⟨(gI s7_1 29), (), rfl, ho0, by rw [ht]; rw [← ho1]; exact hP, va_K.moved hW.alike hK, by rw [← ho1]; exact hD⟩, hS.F ht⟩) hS.2.2 dX7_about_48
  replace h := zN k5 h
  by_cases k6 : p1 = 1
  · have h := zY k6 h
    refine lv_tableIn (off := 44) (tgt := 49) hx hb dX7_about_5 (by rw [k6]; decide) (by rw [k6]; decide) (by rw [k6]; rfl) (by decide) ?_
    refine lv_aload_n hx hb dX7_about_49 rfl (lv_at hl 0 rfl) ?_
    refine va_get (D := (dC, dI)) (ci := 6) (v := .int (gI s7_1 31)) (C := RX7) (T := TX7) (N := 49) hx hb hts inX7_ hown hK hP 0 rfl rfl 31 (by decide) (hts (.fieldLink RX7 264 "GateWheelModel" "registers" "I") (List.mem_of_getElem? (i := 2) rfl)) (fun _ h9 => h9) rfl dX7_about_50 ?_
    have ho0 : (gI s7_1 31) = or_ := congrArg (fun z : Int32 × SS => z.1) (Option.some.inj h)
    have ho1 : s7_1 = o_7 := congrArg (fun z : Int32 × SS => z.2) (Option.some.inj h)
    exact W.iret (v := (gI s7_1 31)) hx hb hr (fun t ht hW => ⟨⟨(gI s7_1 31), (), rfl, ho0, by rw [ht]; rw [← ho1]; exact hP, va_K.moved hW.alike hK, by rw [← ho1]; exact hD⟩, hS.F ht⟩) hS.2.2 dX7_about_53
  replace h := zN k6 h
  by_cases k7 : p1 = 2
  · have h := zY k7 h
    refine lv_tableIn (off := 49) (tgt := 54) hx hb dX7_about_5 (by rw [k7]; decide) (by rw [k7]; decide) (by rw [k7]; rfl) (by decide) ?_
    refine lv_aload_n hx hb dX7_about_54 rfl (lv_at hl 0 rfl) ?_
    refine va_get (D := (dC, dI)) (ci := 6) (v := .int (gI s7_1 46)) (C := RX7) (T := TX7) (N := 49) hx hb hts inX7_ hown hK hP 0 rfl rfl 46 (by decide) (hts (.fieldLink RX7 267 "GateWheelModel" "hasWheel" "Z") (List.mem_of_getElem? (i := 3) rfl)) (fun _ h9 => h9) rfl dX7_about_55 ?_
    refine lv_if_eq (tgt := 68) hx hb dX7_about_58 (by decide) (fun c8 => ?_) (fun c8 => ?_)
    · have h := zY c8 h
      refine lv_iconst (v := (-1)) hx hb dX7_about_68 (by decide) ?_
      have ho0 : (-1 : Int32) = or_ := congrArg (fun z : Int32 × SS => z.1) (Option.some.inj h)
      have ho1 : s7_1 = o_7 := congrArg (fun z : Int32 × SS => z.2) (Option.some.inj h)
      exact W.iret (v := (-1)) hx hb hr (fun t ht hW => ⟨⟨(-1), (), rfl, ho0, by rw [ht]; rw [← ho1]; exact hP, va_K.moved hW.alike hK, by rw [← ho1]; exact hD⟩, hS.F ht⟩) hS.2.2 dX7_about_69
    · have h := zN c8 h
      refine lv_aload_n hx hb dX7_about_61 rfl (lv_at hl 0 rfl) ?_
      refine va_get (D := (dC, dI)) (ci := 6) (v := .int (gI s7_1 47)) (C := RX7) (T := TX7) (N := 49) hx hb hts inX7_ hown hK hP 0 rfl rfl 47 (by decide) (hts (.fieldLink RX7 316 "GateWheelModel" "time" "I") (List.mem_of_getElem? (i := 4) rfl)) (fun _ h9 => h9) rfl dX7_about_62 ?_
      refine lv_goto (tgt := 69) hx hb dX7_about_65 (by decide) ?_
      have ho0 : (gI s7_1 47) = or_ := congrArg (fun z : Int32 × SS => z.1) (Option.some.inj h)
      have ho1 : s7_1 = o_7 := congrArg (fun z : Int32 × SS => z.2) (Option.some.inj h)
      exact W.iret (v := (gI s7_1 47)) hx hb hr (fun t ht hW => ⟨⟨(gI s7_1 47), (), rfl, ho0, by rw [ht]; rw [← ho1]; exact hP, va_K.moved hW.alike hK, by rw [← ho1]; exact hD⟩, hS.F ht⟩) hS.2.2 dX7_about_69
  replace h := zN k7 h
  by_cases k9 : p1 = 3
  · have h := zY k9 h
    refine lv_tableIn (off := 65) (tgt := 70) hx hb dX7_about_5 (by rw [k9]; decide) (by rw [k9]; decide) (by rw [k9]; rfl) (by decide) ?_
    refine lv_aload_n hx hb dX7_about_70 rfl (lv_at hl 0 rfl) ?_
    refine va_get (D := (dC, dI)) (ci := 6) (v := .int (gI s7_1 46)) (C := RX7) (T := TX7) (N := 49) hx hb hts inX7_ hown hK hP 0 rfl rfl 46 (by decide) (hts (.fieldLink RX7 267 "GateWheelModel" "hasWheel" "Z") (List.mem_of_getElem? (i := 3) rfl)) (fun _ h9 => h9) rfl dX7_about_71 ?_
    refine lv_if_ne (tgt := 81) hx hb dX7_about_74 (by decide) (fun c10 => ?_) (fun c10 => ?_)
    · have h := zN c10 h
      refine lv_aload_n hx hb dX7_about_81 rfl (lv_at hl 0 rfl) ?_
      obtain ⟨r11, hc12, h⟩ := zB_spec h
      have hFc := zFree hD hS hA
      refine va_calli (va_runV (As := []) (rest := []) ⟨hx, hb, hml, hown, hts⟩ (m_X7_isQuiet l dC dI y a7 h7 s7_1 H3.size r11 hc12) (cwV 0 hts gX7_about_X7_isQuiet rfl rfl rfl (by decide +kernel) ⟨Nat.le_of_ble_eq_true rfl, Nat.le_of_ble_eq_true rfl⟩) ⟨fun a U g mk q => by obtain ⟨q0, q1, qP, qK, qD⟩ := q; exact ⟨q0, q1, qP, va_K.moved (u := U) (U := U.calling g mk a) (Vm.Alike.refl U.vm) qK, qD⟩, va_recv hK hP (ci := 6) (q0 := 0) rfl rfl, fun U hU hW => ⟨rfl, by rw [hU], by rw [hU]; exact hP, va_K.moved hW.alike hK, hD.weaken (fun _ _ _ _ => trivial)⟩⟩ rfl rfl hl.1 rfl (lv_room (Nat.le_of_ble_eq_true rfl)) dX7_about_82 ⟨Nat.le_of_ble_eq_true rfl, Nat.le_of_ble_eq_true rfl⟩) hS (fun q _ h => hFc q h) hFc (fun rr14 u t H13 locs ht hvm hw hB hz1 hk1 hS => ?_)
      obtain ⟨hP1, hK1, hD1⟩ := hB
      rw [ht] at hP1
      refine zTopi hw.symm ?_
      have hP := hP1
      have hD := hD1.weaken (fun _ q _ h => hFc q.1 h)
      have hP : va_P (dC, dI) vwCl (cX7 a7 h7 y s7_1) H13 := hP
      have hD : va_D A (cX7 a7 h7 y s7_1) := hD
      refine lv_if_eq (tgt := 92) hx hb dX7_about_85 (by decide) (fun c15 => ?_) (fun c15 => ?_)
      · have h := zY c15 h
        refine lv_iconst (v := 0) hx hb dX7_about_92 (by decide) ?_
        have ho0 : (0 : Int32) = or_ := congrArg (fun z : Int32 × SS => z.1) (Option.some.inj h)
        have ho1 : s7_1 = o_7 := congrArg (fun z : Int32 × SS => z.2) (Option.some.inj h)
        exact W.iret (v := 0) hx hb hr (fun t ht hW => ⟨⟨0, (), rfl, ho0, by rw [ht]; rw [← ho1]; exact hP, va_K.moved hW.alike hK, by rw [← ho1]; exact hD⟩, hS.F ht⟩) hS.2.2 dX7_about_93
      · have h := zN c15 h
        refine lv_iconst (v := 1) hx hb dX7_about_88 (by decide) ?_
        refine lv_goto (tgt := 93) hx hb dX7_about_89 (by decide) ?_
        have ho0 : (1 : Int32) = or_ := congrArg (fun z : Int32 × SS => z.1) (Option.some.inj h)
        have ho1 : s7_1 = o_7 := congrArg (fun z : Int32 × SS => z.2) (Option.some.inj h)
        exact W.iret (v := 1) hx hb hr (fun t ht hW => ⟨⟨1, (), rfl, ho0, by rw [ht]; rw [← ho1]; exact hP, va_K.moved hW.alike hK, by rw [← ho1]; exact hD⟩, hS.F ht⟩) hS.2.2 dX7_about_93
    · have h := zY c10 h
      refine lv_iconst (v := (-1)) hx hb dX7_about_77 (by decide) ?_
      refine lv_goto (tgt := 93) hx hb dX7_about_78 (by decide) ?_
      have ho0 : (-1 : Int32) = or_ := congrArg (fun z : Int32 × SS => z.1) (Option.some.inj h)
      have ho1 : s7_1 = o_7 := congrArg (fun z : Int32 × SS => z.2) (Option.some.inj h)
      exact W.iret (v := (-1)) hx hb hr (fun t ht hW => ⟨⟨(-1), (), rfl, ho0, by rw [ht]; rw [← ho1]; exact hP, va_K.moved hW.alike hK, by rw [← ho1]; exact hD⟩, hS.F ht⟩) hS.2.2 dX7_about_93
  replace h := zN k9 h
  by_cases k16 : p1 = 4
  · have h := zY k16 h
    refine lv_tableIn (off := 89) (tgt := 94) hx hb dX7_about_5 (by rw [k16]; decide) (by rw [k16]; decide) (by rw [k16]; rfl) (by decide) ?_
    refine lv_aload_n hx hb dX7_about_94 rfl (lv_at hl 0 rfl) ?_
    refine va_get (D := (dC, dI)) (ci := 6) (v := .int (gI s7_1 46)) (C := RX7) (T := TX7) (N := 49) hx hb hts inX7_ hown hK hP 0 rfl rfl 46 (by decide) (hts (.fieldLink RX7 267 "GateWheelModel" "hasWheel" "Z") (List.mem_of_getElem? (i := 3) rfl)) (fun _ h9 => h9) rfl dX7_about_95 ?_
    refine lv_if_eq (tgt := 108) hx hb dX7_about_98 (by decide) (fun c17 => ?_) (fun c17 => ?_)
    · have h := zY c17 h
      refine lv_iconst (v := (-1)) hx hb dX7_about_108 (by decide) ?_
      have ho0 : (-1 : Int32) = or_ := congrArg (fun z : Int32 × SS => z.1) (Option.some.inj h)
      have ho1 : s7_1 = o_7 := congrArg (fun z : Int32 × SS => z.2) (Option.some.inj h)
      exact W.iret (v := (-1)) hx hb hr (fun t ht hW => ⟨⟨(-1), (), rfl, ho0, by rw [ht]; rw [← ho1]; exact hP, va_K.moved hW.alike hK, by rw [← ho1]; exact hD⟩, hS.F ht⟩) hS.2.2 dX7_about_109
    · have h := zN c17 h
      refine lv_aload_n hx hb dX7_about_101 rfl (lv_at hl 0 rfl) ?_
      refine va_get (D := (dC, dI)) (ci := 6) (v := .int (gI s7_1 48)) (C := RX7) (T := TX7) (N := 49) hx hb hts inX7_ hown hK hP 0 rfl rfl 48 (by decide) (hts (.fieldLink RX7 319 "GateWheelModel" "coming" "I") (List.mem_of_getElem? (i := 5) rfl)) (fun _ h9 => h9) rfl dX7_about_102 ?_
      refine lv_goto (tgt := 109) hx hb dX7_about_105 (by decide) ?_
      have ho0 : (gI s7_1 48) = or_ := congrArg (fun z : Int32 × SS => z.1) (Option.some.inj h)
      have ho1 : s7_1 = o_7 := congrArg (fun z : Int32 × SS => z.2) (Option.some.inj h)
      exact W.iret (v := (gI s7_1 48)) hx hb hr (fun t ht hW => ⟨⟨(gI s7_1 48), (), rfl, ho0, by rw [ht]; rw [← ho1]; exact hP, va_K.moved hW.alike hK, by rw [← ho1]; exact hD⟩, hS.F ht⟩) hS.2.2 dX7_about_109
  replace h := zN k16 h
  by_cases k18 : p1 = 5
  · have h := zY k18 h
    refine lv_tableIn (off := 105) (tgt := 110) hx hb dX7_about_5 (by rw [k18]; decide) (by rw [k18]; decide) (by rw [k18]; rfl) (by decide) ?_
    refine lv_aload_n hx hb dX7_about_110 rfl (lv_at hl 0 rfl) ?_
    refine va_get (D := (dC, dI)) (ci := 6) (v := .int (gI s7_1 39)) (C := RX7) (T := TX7) (N := 49) hx hb hts inX7_ hown hK hP 0 rfl rfl 39 (by decide) (hts (.fieldLink RX7 304 "GateWheelModel" "thems" "I") (List.mem_of_getElem? (i := 6) rfl)) (fun _ h9 => h9) rfl dX7_about_111 ?_
    have ho0 : (gI s7_1 39) = or_ := congrArg (fun z : Int32 × SS => z.1) (Option.some.inj h)
    have ho1 : s7_1 = o_7 := congrArg (fun z : Int32 × SS => z.2) (Option.some.inj h)
    exact W.iret (v := (gI s7_1 39)) hx hb hr (fun t ht hW => ⟨⟨(gI s7_1 39), (), rfl, ho0, by rw [ht]; rw [← ho1]; exact hP, va_K.moved hW.alike hK, by rw [← ho1]; exact hD⟩, hS.F ht⟩) hS.2.2 dX7_about_114
  replace h := zN k18 h
  have kd : p1.toInt < 0 ∨ 5 < p1.toInt := by
    have nk5 : ¬ p1.toInt = 0 := lv_neT k5 (by decide)
    have nk6 : ¬ p1.toInt = 1 := lv_neT k6 (by decide)
    have nk7 : ¬ p1.toInt = 2 := lv_neT k7 (by decide)
    have nk9 : ¬ p1.toInt = 3 := lv_neT k9 (by decide)
    have nk16 : ¬ p1.toInt = 4 := lv_neT k16 (by decide)
    have nk18 : ¬ p1.toInt = 5 := lv_neT k18 (by decide)
    omega
  refine lv_tableOut (tgt := 115) hx hb dX7_about_5 kd (by decide) ?_
  refine lv_iconst (v := (-1)) hx hb dX7_about_115 (by decide) ?_
  have ho0 : (-1 : Int32) = or_ := congrArg (fun z : Int32 × SS => z.1) (Option.some.inj h)
  have ho1 : s7_1 = o_7 := congrArg (fun z : Int32 × SS => z.2) (Option.some.inj h)
  exact W.iret (v := (-1)) hx hb hr (fun t ht hW => ⟨⟨(-1), (), rfl, ho0, by rw [ht]; rw [← ho1]; exact hP, va_K.moved hW.alike hK, by rw [← ho1]; exact hD⟩, hS.F ht⟩) hS.2.2 dX7_about_116

set_option maxHeartbeats 4000000 in
set_option maxRecDepth 100000 in
theorem m_X7_feed (l : Launch) (dC : Nat → ClassId) (dI : Nat → Nat → Nat) (y : Nat → ClassId) (a7 : Nat) (h7 : Nat → Nat) (S7 : SS) (p1 : Int32) (p2 : Int32) (p3 : Int32) (p4 : Int32) (p5 : Int32) (sz : Nat) (or_ : Int32) (o_7 : SS) (h : f_X7_feed S7 p1 p2 p3 p4 p5 = some (or_, o_7)) : Met l yX7_feed wsX7_feed ({ frames := 0, cells := 0, slots := 0, locals := 0 }) (va_Pc [.ref a7, .int p1, .int p2, .int p3, .int p4, .int p5] (fun U => U.heap.size = sz ∧ va_P (dC, dI) vwCl (cX7 a7 h7 y S7) U.heap ∧ va_K (dC, dI) vwCl [(y 0, .int), (y 1, .long), (y 2, .byte), (y 3, .boolean)] U ∧ va_D (fun _ => True) (cX7 a7 h7 y S7))) (va_Qi (fun (r : Int32) (_ : Unit) => r = or_) (fun (_ : Unit) (t : State) => va_P (dC, dI) vwCl (cX7 a7 h7 y o_7) t.heap ∧ va_K (dC, dI) vwCl [(y 0, .int), (y 1, .long), (y 2, .byte), (y 3, .boolean)] t ∧ va_D (va_A (cX7 a7 h7 y S7) sz) (cX7 a7 h7 y o_7)) (va_A (cX7 a7 h7 y S7) sz)) 0 0 (va_A (cX7 a7 h7 y S7) sz) := by
  refine Met.ofW (cc := cX7_feed) (maxL := 8) (ret := (some .int)) (by decide +kernel) rfl ?_
  intro p e s m args below meth c s₁ B hml hv
  obtain ⟨rfl, hsz, hP, hK, hD0⟩ := hv
  have hx := B.exec
  have hb := B.bytes
  have hr := B.returns
  have hts := atoms_spec (ws := wsX7_feed) B.pre
  have hown : s.vm.findClass RX7 = some m.cls := findClass_of_methodNamed B.named
  have hlocks := B.notSynchronized
  have inX7_ : ∀ w ∈ wsX70, w ∈ wsX7_feed := fun _ h => List.mem_cons_of_mem _ (List.mem_append_right _ h)
  subst hsz
  have hD := hD0.self (sz := s.heap.size)
  generalize hAe : va_A (cX7 a7 h7 y S7) s.heap.size = A at hD ⊢
  have hA : ∀ q : Nat, s.heap.size ≤ q → A q := fun q h => by rw [← hAe]; exact Or.inr h
  have hS : va_S A s.heap s.heap [] := va_S.rf
  have hP : va_P (dC, dI) vwCl (cX7 a7 h7 y S7) s.heap := hP
  have hl := lv_entry ([.ref a7, .int p1, .int p2, .int p3, .int p4, .int p5]) (n := 8) (Nat.le_of_ble_eq_true rfl)
  rw [lg_entry_eq]
  generalize (lg_sl ([.ref a7, .int p1, .int p2, .int p3, .int p4, .int p5]) ++ List.replicate (8 - (lg_sl ([.ref a7, .int p1, .int p2, .int p3, .int p4, .int p5])).length) Slot.unset).toArray = ls at hl ⊢
  have hl : lv_has ls 8 [(0, .ref a7), (1, .int p1), (2, .int p2), (3, .int p3), (4, .int p4), (5, .int p5)] := hl
  refine lv_aload_n hx hb dX7_feed_0 rfl (lv_at hl 0 rfl) ?_
  refine va_get (D := (dC, dI)) (ci := 6) (v := .int (gI S7 2)) (C := RX7) (T := TX7) (N := 49) hx hb hts inX7_ hown hK hP 0 rfl rfl 2 (by decide) (hts (.fieldLink RX7 249 "GateWheelModel" "taped" "I") (List.mem_of_getElem? (i := 1) rfl)) (fun _ h9 => h9) rfl dX7_feed_1 ?_
  refine lv_bipush (v := 20) hx hb dX7_feed_4 (by decide) ?_
  refine lv_iadd hx hb dX7_feed_6 ?_
  refine lv_sipush (v := 2000) hx hb dX7_feed_7 (by decide) ?_
  refine lv_icmp_le (tgt := 15) hx hb dX7_feed_10 (by decide) (fun c1 => ?_) (fun c1 => ?_)
  · have h := zY c1 h
    refine lv_iconst (v := 0) hx hb dX7_feed_15 (by decide) ?_
    refine lv_istore (lv' := [(6, .int 0), (0, .ref a7), (1, .int p1), (2, .int p2), (3, .int p3), (4, .int p4), (5, .int p5)]) hx hb dX7_feed_16 hl (by decide) rfl (fun ls hl => ?_)
    refine W_abs (fun GW2 eG3 => ?_)
    obtain ⟨ov6, hi7, h⟩ := zB_spec h
    have je4 : ∀ (s7_11 : SS) (HGW2e : Heap) (locs : List Loc) (ls : Array Slot), s7_11 = ov6 → va_P (dC, dI) vwCl (cX7 a7 h7 y s7_11) HGW2e → va_D A (cX7 a7 h7 y s7_11) → va_S A s.heap HGW2e locs → lv_has ls 8 [(0, .ref a7)] → GW2 HGW2e locs 0 0 (F0 m 105 ls []) := by
      intro s7_11 HGW2e locs ls hv hP hD hS hl
      subst hv
      refine (eG3 _ _ _ _ _).mpr ?_
      refine lv_aload_n hx hb dX7_feed_105 rfl (lv_at hl 0 rfl) ?_
      refine lv_dup hx hb dX7_feed_106 rfl ?_
      refine va_get (D := (dC, dI)) (ci := 6) (v := .int (gI s7_11 2)) (C := RX7) (T := TX7) (N := 49) hx hb hts inX7_ hown hK hP 0 rfl rfl 2 (by decide) (hts (.fieldLink RX7 249 "GateWheelModel" "taped" "I") (List.mem_of_getElem? (i := 1) rfl)) (fun _ h9 => h9) rfl dX7_feed_107 ?_
      refine lv_bipush (v := 20) hx hb dX7_feed_110 (by decide) ?_
      refine lv_iadd hx hb dX7_feed_112 ?_
      refine va_put (D := (dC, dI)) (ci := 6) (v := .int ((gI s7_11 2) + (20 : Int32))) (ty := .int) (C := RX7) (T := TX7) (N := 49) hx hb hts inX7_ tyX7 tyX7_ok nmX7 hown hK hP hD hS 0 rfl rfl 2 (by decide) (hts (.fieldLink RX7 249 "GateWheelModel" "taped" "I") (List.mem_of_getElem? (i := 1) rfl)) (fun _ h9 => h9) rfl (by decide +kernel) rfl rfl (Nat.le_of_ble_eq_true rfl) dX7_feed_113 (fun H12 locs hP hD hS => ?_)
      obtain ⟨s7_13, es7_13, h⟩ := zL_spec h
      have hP : va_P (dC, dI) vwCl (cX7 a7 h7 y s7_13) H12 := by rw [es7_13]; exact hP
      have hD : va_D A (cX7 a7 h7 y s7_13) := by rw [es7_13]; exact hD
      refine lv_aload_n hx hb dX7_feed_116 rfl (lv_at hl 0 rfl) ?_
      refine va_get (D := (dC, dI)) (ci := 6) (v := .int (gI s7_13 2)) (C := RX7) (T := TX7) (N := 49) hx hb hts inX7_ hown hK hP 0 rfl rfl 2 (by decide) (hts (.fieldLink RX7 249 "GateWheelModel" "taped" "I") (List.mem_of_getElem? (i := 1) rfl)) (fun _ h9 => h9) rfl dX7_feed_117 ?_
      have ho0 : (gI s7_13 2) = or_ := congrArg (fun z : Int32 × SS => z.1) (Option.some.inj h)
      have ho1 : s7_13 = o_7 := congrArg (fun z : Int32 × SS => z.2) (Option.some.inj h)
      exact W.iret (v := (gI s7_13 2)) hx hb hr (fun t ht hW => ⟨⟨(gI s7_13 2), (), rfl, ho0, by rw [ht]; rw [← ho1]; exact hP, va_K.moved hW.alike hK, by rw [← ho1]; exact hD⟩, hS.F ht⟩) hS.2.2 dX7_feed_120
    have lp5 : ∀ (n : Nat) (v14 : Int32) (s7_15 : SS) (HGW2 : Heap) (locs : List Loc) (ls : Array Slot), zI (b_X7_feed_18 p1 p2 p3 p4 p5) n (v14, s7_15) = some ov6 → va_P (dC, dI) vwCl (cX7 a7 h7 y s7_15) HGW2 → va_D A (cX7 a7 h7 y s7_15) → va_S A s.heap HGW2 locs → lv_has ls 8 [(0, .ref a7), (1, .int p1), (2, .int p2), (3, .int p3), (4, .int p4), (5, .int p5), (6, .int v14)] → GW2 HGW2 locs 0 0 (F0 m 18 ls []) := by
      intro n
      induction n with
      | zero =>
        intro v14 s7_15 HGW2 locs ls hi7 hP hD hS hl
        exact (zI_0 hi7).elim
      | succ n ihlp5 =>
        intro v14 s7_15 HGW2 locs ls hi7 hP hD hS hl
        refine (eG3 _ _ _ _ _).mpr ?_
        obtain ⟨xx10, h, hx9⟩ := zI_spec hi7
        refine lv_iload hx hb dX7_feed_18 (lv_at hl 6 rfl) ?_
        refine lv_bipush (v := 20) hx hb dX7_feed_20 (by decide) ?_
        refine lv_icmp_ge (tgt := 105) hx hb dX7_feed_22 (by decide) (fun c16 => ?_) (fun c16 => ?_)
        · have h := zY c16 h
          exact (eG3 _ _ _ _ _).mp (je4 s7_15 _ _ _ (zI_r h hx9) hP hD hS (lv_sub hl [0] rfl))
        · have h := zN c16 h
          refine lv_iload hx hb dX7_feed_25 (lv_at hl 6 rfl) ?_
          refine lv_iconst (v := 4) hx hb dX7_feed_27 (by decide) ?_
          refine W_abs (fun GW17 eG18 => ?_)
          obtain ⟨ov20, hr21, h⟩ := zB_spec h
          have jn19 : ∀ (v23 : Int32) (HGW17 : Heap) (locs : List Loc) (ls : Array Slot), v23 = ov20 → va_P (dC, dI) vwCl (cX7 a7 h7 y s7_15) HGW17 → va_D A (cX7 a7 h7 y s7_15) → va_S A s.heap HGW17 locs → lv_has ls 8 [(0, .ref a7), (1, .int p1), (2, .int p2), (3, .int p3), (4, .int p4), (5, .int p5), (6, .int v14)] → GW17 HGW17 locs 0 0 (F0 m 71 ls [.int v23]) := by
            intro v23 HGW17 locs ls hv hP hD hS hl
            subst hv
            refine (eG18 _ _ _ _ _).mpr ?_
            refine lv_istore (lv' := [(7, .int v23), (0, .ref a7), (1, .int p1), (2, .int p2), (3, .int p3), (4, .int p4), (5, .int p5), (6, .int v14)]) hx hb dX7_feed_71 hl (by decide) rfl (fun ls hl => ?_)
            refine lv_aload_n hx hb dX7_feed_73 rfl (lv_at hl 1 rfl) ?_
            refine va_get (D := (dC, dI)) (ci := 6) (v := .ref (h7 0)) (C := RX7) (T := TX7) (N := 49) hx hb hts inX7_ hown hK hP 0 rfl rfl 0 (by decide) (hts (.fieldLink RX7 7 "GateWheelModel" "tape" "[B") (List.mem_of_getElem? (i := 2) rfl)) (fun _ h9 => h9) rfl dX7_feed_74 ?_
            refine lv_aload_n hx hb dX7_feed_77 rfl (lv_at hl 1 rfl) ?_
            refine va_get (D := (dC, dI)) (ci := 6) (v := .int (gI s7_15 2)) (C := RX7) (T := TX7) (N := 49) hx hb hts inX7_ hown hK hP 0 rfl rfl 2 (by decide) (hts (.fieldLink RX7 249 "GateWheelModel" "taped" "I") (List.mem_of_getElem? (i := 1) rfl)) (fun _ h9 => h9) rfl dX7_feed_78 ?_
            refine lv_iload hx hb dX7_feed_81 (lv_at hl 7 rfl) ?_
            refine lv_iadd hx hb dX7_feed_83 ?_
            refine lv_iload hx hb dX7_feed_84 (lv_at hl 0 rfl) ?_
            refine lv_bipush (v := 24) hx hb dX7_feed_86 (by decide) ?_
            refine lv_bipush (v := 8) hx hb dX7_feed_88 (by decide) ?_
            refine lv_iload hx hb dX7_feed_90 (lv_at hl 7 rfl) ?_
            refine lv_iconst (v := 3) hx hb dX7_feed_92 (by decide) ?_
            refine lv_iand hx hb dX7_feed_93 ?_
            refine lv_imul hx hb dX7_feed_94 ?_
            refine lv_isub hx hb dX7_feed_95 ?_
            refine lv_ishr hx hb dX7_feed_96 ?_
            refine lv_i2b (v := (jB (v23 >>> (((24 : Int32) - ((8 : Int32) * (v14 &&& (3 : Int32)))) &&& 31)))) hx hb dX7_feed_97 rfl ?_
            obtain ⟨hi24, h⟩ := zG_spec h
            refine va_bast hx hb hK hP hD hS 1 2 rfl rfl hi24 dX7_feed_98 (fun H25 locs hP hD hS => ?_)
            obtain ⟨s7_26, es7_26, h⟩ := zL_spec h
            have hP : va_P (dC, dI) vwCl (cX7 a7 h7 y s7_26) H25 := by rw [es7_26]; exact hP
            have hD : va_D A (cX7 a7 h7 y s7_26) := by rw [es7_26]; exact hD
            obtain ⟨v27, ev27, h⟩ := zL_spec h
            refine lv_iinc (v := v27) (lv' := [(6, .int v27), (7, .int v23), (0, .ref a7), (1, .int p1), (2, .int p2), (3, .int p3), (4, .int p4), (5, .int p5)]) hx hb dX7_feed_99 hl (k := 7) rfl (by rw [ev27]; rfl) (by decide) rfl (fun ls hl => ?_)
            refine lv_goto (tgt := 18) hx hb dX7_feed_102 (by decide) ?_
            have h := zI_l h hx9
            exact (eG3 _ _ _ _ _).mp (ihlp5 v27 s7_26 _ _ _ h hP hD hS (lv_sub hl [2, 3, 4, 5, 6, 7, 0] rfl))
          refine (eG18 _ _ _ _ _).mpr ?_
          have h := hr21
          refine lv_icmp_ge (tgt := 35) hx hb dX7_feed_28 (by decide) (fun c28 => ?_) (fun c28 => ?_)
          · have h := zY c28 h
            refine lv_iload hx hb dX7_feed_35 (lv_at hl 6 rfl) ?_
            refine lv_bipush (v := 8) hx hb dX7_feed_37 (by decide) ?_
            refine lv_icmp_ge (tgt := 46) hx hb dX7_feed_39 (by decide) (fun c29 => ?_) (fun c29 => ?_)
            · have h := zY c29 h
              refine lv_iload hx hb dX7_feed_46 (lv_at hl 6 rfl) ?_
              refine lv_bipush (v := 12) hx hb dX7_feed_48 (by decide) ?_
              refine lv_icmp_ge (tgt := 57) hx hb dX7_feed_50 (by decide) (fun c30 => ?_) (fun c30 => ?_)
              · have h := zY c30 h
                refine lv_iload hx hb dX7_feed_57 (lv_at hl 6 rfl) ?_
                refine lv_bipush (v := 16) hx hb dX7_feed_59 (by decide) ?_
                refine lv_icmp_ge (tgt := 69) hx hb dX7_feed_61 (by decide) (fun c31 => ?_) (fun c31 => ?_)
                · have h := zY c31 h
                  refine lv_iload hx hb dX7_feed_69 (lv_at hl 5 rfl) ?_
                  exact (eG18 _ _ _ _ _).mp (jn19 p5 _ _ _ (Option.some.inj h) hP hD hS (lv_sub hl [0, 1, 2, 3, 4, 5, 6] rfl))
                · have h := zN c31 h
                  refine lv_iload hx hb dX7_feed_64 (lv_at hl 4 rfl) ?_
                  refine lv_goto (tgt := 71) hx hb dX7_feed_66 (by decide) ?_
                  exact (eG18 _ _ _ _ _).mp (jn19 p4 _ _ _ (Option.some.inj h) hP hD hS (lv_sub hl [0, 1, 2, 3, 4, 5, 6] rfl))
              · have h := zN c30 h
                refine lv_iload_n hx hb dX7_feed_53 rfl (lv_at hl 3 rfl) ?_
                refine lv_goto (tgt := 71) hx hb dX7_feed_54 (by decide) ?_
                exact (eG18 _ _ _ _ _).mp (jn19 p3 _ _ _ (Option.some.inj h) hP hD hS (lv_sub hl [0, 1, 2, 3, 4, 5, 6] rfl))
            · have h := zN c29 h
              refine lv_iload_n hx hb dX7_feed_42 rfl (lv_at hl 2 rfl) ?_
              refine lv_goto (tgt := 71) hx hb dX7_feed_43 (by decide) ?_
              exact (eG18 _ _ _ _ _).mp (jn19 p2 _ _ _ (Option.some.inj h) hP hD hS (lv_sub hl [0, 1, 2, 3, 4, 5, 6] rfl))
          · have h := zN c28 h
            refine lv_iload_n hx hb dX7_feed_31 rfl (lv_at hl 1 rfl) ?_
            refine lv_goto (tgt := 71) hx hb dX7_feed_32 (by decide) ?_
            exact (eG18 _ _ _ _ _).mp (jn19 p1 _ _ _ (Option.some.inj h) hP hD hS (lv_sub hl [0, 1, 2, 3, 4, 5, 6] rfl))
    exact lp5 zF (0 : Int32) S7 _ _ _ hi7 hP hD hS (lv_sub hl [1, 2, 3, 4, 5, 6, 0] rfl)
  · have h := zN c1 h
    refine lv_iconst (v := (-1)) hx hb dX7_feed_13 (by decide) ?_
    have ho0 : (-1 : Int32) = or_ := congrArg (fun z : Int32 × SS => z.1) (Option.some.inj h)
    have ho1 : S7 = o_7 := congrArg (fun z : Int32 × SS => z.2) (Option.some.inj h)
    exact W.iret (v := (-1)) hx hb hr (fun t ht hW => ⟨⟨(-1), (), rfl, ho0, by rw [ht]; rw [← ho1]; exact hP, va_K.moved hW.alike hK, by rw [← ho1]; exact hD⟩, hS.F ht⟩) hS.2.2 dX7_feed_14

set_option maxHeartbeats 4000000 in
set_option maxRecDepth 100000 in
theorem m_X7_end (l : Launch) (dC : Nat → ClassId) (dI : Nat → Nat → Nat) (y : Nat → ClassId) (a7 : Nat) (h7 : Nat → Nat) (S7 : SS) (p1 : Int32) (sz : Nat) (or_ : Int32) (o_7 : SS) (h : f_X7_end S7 p1 = some (or_, o_7)) : Met l yX7_end wsX7_end ({ frames := 0, cells := 0, slots := 0, locals := 0 }) (va_Pc [.ref a7, .int p1] (fun U => U.heap.size = sz ∧ va_P (dC, dI) vwCl (cX7 a7 h7 y S7) U.heap ∧ va_K (dC, dI) vwCl [(y 0, .int), (y 1, .long), (y 2, .byte), (y 3, .boolean)] U ∧ va_D (fun _ => True) (cX7 a7 h7 y S7))) (va_Qi (fun (r : Int32) (_ : Unit) => r = or_) (fun (_ : Unit) (t : State) => va_P (dC, dI) vwCl (cX7 a7 h7 y o_7) t.heap ∧ va_K (dC, dI) vwCl [(y 0, .int), (y 1, .long), (y 2, .byte), (y 3, .boolean)] t ∧ va_D (va_A (cX7 a7 h7 y S7) sz) (cX7 a7 h7 y o_7)) (va_A (cX7 a7 h7 y S7) sz)) 0 0 (va_A (cX7 a7 h7 y S7) sz) := by
  refine Met.ofW (cc := cX7_end) (maxL := 2) (ret := (some .int)) (by decide +kernel) rfl ?_
  intro p e s m args below meth c s₁ B hml hv
  obtain ⟨rfl, hsz, hP, hK, hD0⟩ := hv
  have hx := B.exec
  have hb := B.bytes
  have hr := B.returns
  have hts := atoms_spec (ws := wsX7_end) B.pre
  have hown : s.vm.findClass RX7 = some m.cls := findClass_of_methodNamed B.named
  have hlocks := B.notSynchronized
  have inX7_ : ∀ w ∈ wsX70, w ∈ wsX7_end := fun _ h => List.mem_cons_of_mem _ (List.mem_append_right _ h)
  subst hsz
  have hD := hD0.self (sz := s.heap.size)
  generalize hAe : va_A (cX7 a7 h7 y S7) s.heap.size = A at hD ⊢
  have hA : ∀ q : Nat, s.heap.size ≤ q → A q := fun q h => by rw [← hAe]; exact Or.inr h
  have hS : va_S A s.heap s.heap [] := va_S.rf
  have hP : va_P (dC, dI) vwCl (cX7 a7 h7 y S7) s.heap := hP
  have hl := lv_entry ([.ref a7, .int p1]) (n := 2) (Nat.le_of_ble_eq_true rfl)
  rw [lg_entry_eq]
  generalize (lg_sl ([.ref a7, .int p1]) ++ List.replicate (2 - (lg_sl ([.ref a7, .int p1])).length) Slot.unset).toArray = ls at hl ⊢
  have hl : lv_has ls 2 [(0, .ref a7), (1, .int p1)] := hl
  refine lv_iload_n hx hb dX7_end_0 rfl (lv_at hl 1 rfl) ?_
  refine lv_if_lt (tgt := 12) hx hb dX7_end_1 (by decide) (fun c1 => ?_) (fun c1 => ?_)
  · have h := zY c1 h
    refine lv_iconst (v := (-1)) hx hb dX7_end_12 (by decide) ?_
    have ho0 : (-1 : Int32) = or_ := congrArg (fun z : Int32 × SS => z.1) (Option.some.inj h)
    have ho1 : S7 = o_7 := congrArg (fun z : Int32 × SS => z.2) (Option.some.inj h)
    exact W.iret (v := (-1)) hx hb hr (fun t ht hW => ⟨⟨(-1), (), rfl, ho0, by rw [ht]; rw [← ho1]; exact hP, va_K.moved hW.alike hK, by rw [← ho1]; exact hD⟩, hS.F ht⟩) hS.2.2 dX7_end_13
  · have h := zN c1 h
    refine lv_iload_n hx hb dX7_end_4 rfl (lv_at hl 1 rfl) ?_
    refine lv_aload_n hx hb dX7_end_5 rfl (lv_at hl 0 rfl) ?_
    refine va_get (D := (dC, dI)) (ci := 6) (v := .int (gI S7 2)) (C := RX7) (T := TX7) (N := 49) hx hb hts inX7_ hown hK hP 0 rfl rfl 2 (by decide) (hts (.fieldLink RX7 249 "GateWheelModel" "taped" "I") (List.mem_of_getElem? (i := 1) rfl)) (fun _ h9 => h9) rfl dX7_end_6 ?_
    refine lv_icmp_le (tgt := 14) hx hb dX7_end_9 (by decide) (fun c2 => ?_) (fun c2 => ?_)
    · have h := zY c2 h
      refine lv_aload_n hx hb dX7_end_14 rfl (lv_at hl 0 rfl) ?_
      refine lv_iload_n hx hb dX7_end_15 rfl (lv_at hl 1 rfl) ?_
      refine va_put (D := (dC, dI)) (ci := 6) (v := .int p1) (ty := .int) (C := RX7) (T := TX7) (N := 49) hx hb hts inX7_ tyX7 tyX7_ok nmX7 hown hK hP hD hS 0 rfl rfl 2 (by decide) (hts (.fieldLink RX7 249 "GateWheelModel" "taped" "I") (List.mem_of_getElem? (i := 1) rfl)) (fun _ h9 => h9) rfl (by decide +kernel) rfl rfl (Nat.le_of_ble_eq_true rfl) dX7_end_16 (fun H3 locs hP hD hS => ?_)
      obtain ⟨s7_4, es7_4, h⟩ := zL_spec h
      have hP : va_P (dC, dI) vwCl (cX7 a7 h7 y s7_4) H3 := by rw [es7_4]; exact hP
      have hD : va_D A (cX7 a7 h7 y s7_4) := by rw [es7_4]; exact hD
      refine lv_iload_n hx hb dX7_end_19 rfl (lv_at hl 1 rfl) ?_
      have ho0 : p1 = or_ := congrArg (fun z : Int32 × SS => z.1) (Option.some.inj h)
      have ho1 : s7_4 = o_7 := congrArg (fun z : Int32 × SS => z.2) (Option.some.inj h)
      exact W.iret (v := p1) hx hb hr (fun t ht hW => ⟨⟨p1, (), rfl, ho0, by rw [ht]; rw [← ho1]; exact hP, va_K.moved hW.alike hK, by rw [← ho1]; exact hD⟩, hS.F ht⟩) hS.2.2 dX7_end_20
    · have h := zN c2 h
      refine lv_iconst (v := (-1)) hx hb dX7_end_12 (by decide) ?_
      have ho0 : (-1 : Int32) = or_ := congrArg (fun z : Int32 × SS => z.1) (Option.some.inj h)
      have ho1 : S7 = o_7 := congrArg (fun z : Int32 × SS => z.2) (Option.some.inj h)
      exact W.iret (v := (-1)) hx hb hr (fun t ht hW => ⟨⟨(-1), (), rfl, ho0, by rw [ht]; rw [← ho1]; exact hP, va_K.moved hW.alike hK, by rw [← ho1]; exact hD⟩, hS.F ht⟩) hS.2.2 dX7_end_13
