noncomputable def f_X7_fault (S7 : SS) (p1 : Int32) : Option (Int32) :=
  if p1 = (0 : Int32) then some (gI S7 4)
  else if p1 = (1 : Int32) then some (gI S7 5)
  else some (-1 : Int32)

noncomputable def f_X7_isNode (S7 : SS) (p1 : Int32) : Option (Int32) :=
  if p1 < (0 : Int32) then some (0 : Int32)
  else if (gI S7 29) ≤ p1 then some (0 : Int32)
  else some (1 : Int32)

noncomputable def b_X7_named_8 (S7 : SS) (r1 : Int64) : (Int32) → Option ((Int32) ⊕ (Int32)) := fun v14 =>
  if (gI S7 29) ≤ v14 then some (Sum.inr (-1 : Int32))
  else zG (vp_in (((60 : Int32) * (gI S7 30)) + v14) 120) (
  if (lg_cmp (gB S7 11 (((60 : Int32) * (gI S7 30)) + v14).toNatClampNeg) r1) = (0 : Int32) then some (Sum.inr v14)
  else zL (v14 + 1) (fun v18 =>
  some (Sum.inl v18)))
noncomputable def f_X7_named (S7 : SS) (p1 : Int64) : Option (Int32) :=
  zB (f_X7_plain p1) (fun (r1 : Int64) =>
  zI (b_X7_named_8 S7 r1) zF (0 : Int32))

noncomputable def f_X7_node (S7 : SS) (p1 : Int32) (p2 : Int32) : Option (Int32) :=
  zB (f_X7_isNode S7 p1) (fun (r1 : Int32) =>
  if r1 = (0 : Int32) then some (-1 : Int32)
  else zL (((60 : Int32) * (gI S7 30)) + p1) (fun v6 =>
  if p2 = (0 : Int32) then zG (vp_in v6 120) (
  some (gA S7 12 v6.toNatClampNeg))
  else if p2 = (1 : Int32) then zG (vp_in v6 120) (
  some (gA S7 14 v6.toNatClampNeg))
  else if p2 = (2 : Int32) then zG (vp_in v6 120) (
  some (gA S7 15 v6.toNatClampNeg))
  else if p2 = (3 : Int32) then zG (vp_in v6 120) (
  some (gA S7 17 v6.toNatClampNeg))
  else some (-1 : Int32)))

noncomputable def f_X7_set (S7 : SS) (p1 : Int32) (p2 : Int32) : Option (Int32 × SS) :=
  zB (f_X7_isNode S7 p1) (fun (r1 : Int32) =>
  if r1 = (0 : Int32) then some ((0 : Int32), S7)
  else zB (f_X7_kind S7 p1) (fun (r6 : Int32) =>
  if r6 = (0 : Int32) then if p2 < (0 : Int32) then some ((0 : Int32), S7)
  else if p2 ≤ (3 : Int32) then zG (vp_in p1 60) (
  zL (sA S7 33 (upd (gA S7 33) p1.toNatClampNeg p2)) (fun s7_15 =>
  zB (f_X7_settle s7_15) (fun (s7_16 : SS) =>
  some ((1 : Int32), s7_16))))
  else some ((0 : Int32), S7)
  else some ((0 : Int32), S7)))

noncomputable def f_X7_load (S7 : SS) (p1 : Int32) (p2 : Int32) : Option (Int32 × SS) :=
  zB (f_X7_isNode S7 p1) (fun (r1 : Int32) =>
  if r1 = (0 : Int32) then some ((0 : Int32), S7)
  else zB (f_X7_kind S7 p1) (fun (r6 : Int32) =>
  if r6 = (3 : Int32) then if p2 < (0 : Int32) then some ((0 : Int32), S7)
  else if p2 ≤ (2 : Int32) then zG (vp_in p1 60) (
  zL (sA S7 33 (upd (gA S7 33) p1.toNatClampNeg p2)) (fun s7_15 =>
  zB (f_X7_settle s7_15) (fun (s7_16 : SS) =>
  some ((1 : Int32), s7_16))))
  else some ((0 : Int32), S7)
  else some ((0 : Int32), S7)))

noncomputable def f_X7_value (S7 : SS) (p1 : Int32) : Option (Int32) :=
  zB (f_X7_isNode S7 p1) (fun (r1 : Int32) =>
  if r1 = (0 : Int32) then some (-1 : Int32)
  else zG (vp_in p1 60) (
  some (gA S7 34 p1.toNatClampNeg)))

noncomputable def b_X7_tick_4 : (Int32 × Int32 × SS) → Option ((Int32 × Int32 × SS) ⊕ (Int32 × SS)) := fun (v16, v17, s7_18) =>
  if (gI s7_18 29) ≤ v17 then some (Sum.inr (v16, s7_18))
  else zB (f_X7_kind s7_18 v17) (fun (r20 : Int32) =>
  if r20 = (3 : Int32) then zB (f_X7_in s7_18 v17 (0 : Int32)) (fun (r25 : Int32) =>
  zG (vp_in r25 60) (
  zB (f_X7_taken (gA s7_18 34 r25.toNatClampNeg)) (fun (r30 : Int32) =>
  zG (vp_in (((60 : Int32) * (gI s7_18 30)) + v17) 120) (
  zB (if (gA s7_18 14 (((60 : Int32) * (gI s7_18 30)) + v17).toNatClampNeg) = (1 : Int32) then some (1 : Int32)
  else zB (f_X7_in s7_18 v17 (1 : Int32)) (fun (r68 : Int32) =>
  zG (vp_in r68 60) (
  zB (f_X7_taken (gA s7_18 34 r68.toNatClampNeg)) (fun (r73 : Int32) =>
  some r73)))) (fun (v41 : Int32) =>
  zB (if v41 = (1 : Int32) then some r30
  else if v41 = (0 : Int32) then zG (vp_in v17 60) (
  some (gA s7_18 34 v17.toNatClampNeg))
  else zG (vp_in v17 60) (
  if r30 = (gA s7_18 34 v17.toNatClampNeg) then some (gA s7_18 34 v17.toNatClampNeg)
  else some (2 : Int32))) (fun (v48 : Int32) =>
  zG (vp_in v17 60) (
  zB (if v48 = (gA s7_18 34 v17.toNatClampNeg) then some (0 : Int32)
  else some (1 : Int32)) (fun (v56 : Int32) =>
  zL (v16 + v56) (fun v57 =>
  zL (sA s7_18 33 (upd (gA s7_18 33) v17.toNatClampNeg v48)) (fun s7_59 =>
  zL (v17 + 1) (fun v60 =>
  some (Sum.inl (v57, v60, s7_59)))))))))))))
  else zL (v17 + 1) (fun v77 =>
  some (Sum.inl (v16, v77, s7_18))))
noncomputable def f_X7_tick (S7 : SS) : Option (Int32 × SS) :=
  zB (zI (b_X7_tick_4) zF ((0 : Int32), (0 : Int32), S7)) (fun ((v10, s7_11) : Int32 × SS) =>
  zB (f_X7_settle s7_11) (fun (s7_12 : SS) =>
  some (v10, s7_12)))

noncomputable def b_X7_find_7 : (Int32 × SS) → Option ((Int32 × SS) ⊕ (SS)) := fun (v12, s7_13) =>
  if (gI s7_13 29) ≤ v12 then some (Sum.inr s7_13)
  else zB (f_X7_kind s7_13 v12) (fun (r15 : Int32) =>
  if r15 = (0 : Int32) then zG (vp_in v12 60) (
  if (2 : Int32) ≤ (gA s7_13 33 v12.toNatClampNeg) then zG (vp_in (gI s7_13 39) 60) (
  zL (sA s7_13 38 (upd (gA s7_13 38) (gI s7_13 39).toNatClampNeg v12)) (fun s7_24 =>
  zL (sI s7_24 39 ((gI s7_24 39) + (1 : Int32))) (fun s7_26 =>
  zL (v12 + 1) (fun v27 =>
  some (Sum.inl (v27, s7_26))))))
  else zL (v12 + 1) (fun v28 =>
  some (Sum.inl (v28, s7_13))))
  else zB (f_X7_kind s7_13 v12) (fun (r29 : Int32) =>
  if r29 = (3 : Int32) then zG (vp_in v12 60) (
  if (2 : Int32) ≤ (gA s7_13 33 v12.toNatClampNeg) then zG (vp_in (gI s7_13 39) 60) (
  zL (sA s7_13 38 (upd (gA s7_13 38) (gI s7_13 39).toNatClampNeg v12)) (fun s7_39 =>
  zL (sI s7_39 39 ((gI s7_39 39) + (1 : Int32))) (fun s7_41 =>
  zL (v12 + 1) (fun v42 =>
  some (Sum.inl (v42, s7_41))))))
  else zL (v12 + 1) (fun v43 =>
  some (Sum.inl (v43, s7_13))))
  else zL (v12 + 1) (fun v34 =>
  some (Sum.inl (v34, s7_13)))))
noncomputable def f_X7_find (S7 : SS) : Option (SS) :=
  zL (sI S7 39 (0 : Int32)) (fun s7_2 =>
  zI (b_X7_find_7) zF ((0 : Int32), s7_2))

noncomputable def b_X7_drives_15 (p1 : Int32) (v1 : Int32) : (Int32 × Int32 × SS) → Option ((Int32 × Int32 × SS) ⊕ (Int32 × SS)) := fun (v25, v26, s7_27) =>
  zG (vp_in v1 120) (
  if (gA s7_27 14 v1.toNatClampNeg) ≤ v26 then some (Sum.inr (v25, s7_27))
  else zB (f_X7_in s7_27 p1 (((2 : Int32) * v26) + (1 : Int32))) (fun (r30 : Int32) =>
  zG (vp_in r30 60) (
  zB (if (gA s7_27 35 r30.toNatClampNeg) = (1 : Int32) then some (1 : Int32)
  else some (0 : Int32)) (fun (v41 : Int32) =>
  zG (vp_in (((6 : Int32) * v1) + v26) 720) (
  if v41 = (gA s7_27 19 (((6 : Int32) * v1) + v26).toNatClampNeg) then zL (v25 + 1) (fun v44 =>
  zB (f_X7_in s7_27 p1 ((2 : Int32) * v26)) (fun (r45 : Int32) =>
  zG (vp_in r45 60) (
  zG (vp_in p1 60) (
  zL (sA s7_27 35 (upd (gA s7_27 35) p1.toNatClampNeg (gA s7_27 35 r45.toNatClampNeg))) (fun s7_52 =>
  zL (v26 + 1) (fun v53 =>
  some (Sum.inl (v44, v53, s7_52))))))))
  else zL (v26 + 1) (fun v54 =>
  some (Sum.inl (v25, v54, s7_27))))))))
noncomputable def f_X7_drives (S7 : SS) (p1 : Int32) : Option (Int32 × SS) :=
  zL (((60 : Int32) * (gI S7 30)) + p1) (fun v1 =>
  zB (zI (b_X7_drives_15 p1 v1) zF ((0 : Int32), (0 : Int32), S7)) (fun ((v11, s7_12) : Int32 × SS) =>
  zB (if v11 = (0 : Int32) then zG (vp_in p1 60) (
  zL (sA s7_12 35 (upd (gA s7_12 35) p1.toNatClampNeg (0 : Int32))) (fun s7_24 =>
  some s7_24))
  else some s7_12) (fun (s7_19 : SS) =>
  if v11 = (1 : Int32) then some ((1 : Int32), s7_19)
  else some ((0 : Int32), s7_19))))

noncomputable def b_X7_goes_79 (v31 : Int32) : (Int32 × Int32 × SS) → Option ((Int32 × Int32 × SS) ⊕ (Int32 × SS)) := fun (v49, v50, s7_51) =>
  if (gI s7_51 29) ≤ v50 then some (Sum.inr (v49, s7_51))
  else zG (vp_in (((60 : Int32) * (gI s7_51 30)) + v50) 120) (
  if (gA s7_51 17 (((60 : Int32) * (gI s7_51 30)) + v50).toNatClampNeg) = v31 then zB (f_X7_kind s7_51 v50) (fun (r55 : Int32) =>
  zB (if r55 = (2 : Int32) then zB (f_X7_gate s7_51 v50 35) (fun (r83 : Int32) =>
  zG (vp_in v50 60) (
  zL (sA s7_51 35 (upd (gA s7_51 35) v50.toNatClampNeg r83)) (fun s7_89 =>
  some s7_89)))
  else some s7_51) (fun (s7_65 : SS) =>
  zB (f_X7_kind s7_65 v50) (fun (r66 : Int32) =>
  if r66 = (1 : Int32) then if v49 = (0 : Int32) then zL (v50 + 1) (fun v73 =>
  some (Sum.inl ((0 : Int32), v73, s7_65)))
  else zB (f_X7_drives s7_65 v50) (fun ((r74, s7_75) : Int32 × SS) =>
  if r74 = (0 : Int32) then zL (v50 + 1) (fun v80 =>
  some (Sum.inl ((0 : Int32), v80, s7_75)))
  else zL (v50 + 1) (fun v81 =>
  some (Sum.inl ((1 : Int32), v81, s7_75))))
  else zL (v50 + 1) (fun v71 =>
  some (Sum.inl (v49, v71, s7_65))))))
  else zL (v50 + 1) (fun v90 =>
  some (Sum.inl (v49, v90, s7_51))))
noncomputable def b_X7_goes_64 : (Int32 × Int32 × SS) → Option ((Int32 × Int32 × SS) ⊕ (Int32 × SS)) := fun (v30, v31, s7_32) =>
  if (gI s7_32 29) < v31 then zG (zb v30) (
  some (Sum.inr (v30, s7_32)))
  else if v30 = (0 : Int32) then zG (zb v30) (
  some (Sum.inr (v30, s7_32)))
  else zB (zI (b_X7_goes_79 v31) zF (v30, (0 : Int32), s7_32)) (fun ((v46, s7_47) : Int32 × SS) =>
  zL (v31 + 1) (fun v48 =>
  some (Sum.inl (v46, v48, s7_47))))
noncomputable def b_X7_goes_30 (p1 : Int32) : (Int32 × SS) → Option ((Int32 × SS) ⊕ (SS)) := fun (v91, s7_92) =>
  if (gI s7_92 39) ≤ v91 then some (Sum.inr s7_92)
  else zG (vp_in v91 60) (
  zG (vp_in (gA s7_92 38 v91.toNatClampNeg) 60) (
  zL (sA s7_92 35 (upd (gA s7_92 35) (gA s7_92 38 v91.toNatClampNeg).toNatClampNeg ((p1 >>> (v91 &&& 31)) &&& (1 : Int32)))) (fun s7_97 =>
  zL (v91 + 1) (fun v98 =>
  some (Sum.inl (v98, s7_97))))))
noncomputable def b_X7_goes_2 : (Int32 × SS) → Option ((Int32 × SS) ⊕ (SS)) := fun (v99, s7_100) =>
  if (gI s7_100 29) ≤ v99 then some (Sum.inr s7_100)
  else zG (vp_in v99 60) (
  zL (sA s7_100 35 (upd (gA s7_100 35) v99.toNatClampNeg (gA s7_100 33 v99.toNatClampNeg))) (fun s7_104 =>
  zL (v99 + 1) (fun v105 =>
  some (Sum.inl (v105, s7_104)))))
noncomputable def f_X7_goes (S7 : SS) (p1 : Int32) : Option (Int32 × SS) :=
  zB (zI (b_X7_goes_2) zF ((0 : Int32), S7)) (fun (s7_10 : SS) =>
  zB (zI (b_X7_goes_30 p1) zF ((0 : Int32), s7_10)) (fun (s7_20 : SS) =>
  zI (b_X7_goes_64) zF ((1 : Int32), (0 : Int32), s7_20)))

noncomputable def f_X7_worlds (S7 : SS) : Option (Int32 × SS) :=
  zB (f_X7_find S7) (fun (s7_1 : SS) =>
  if (gI s7_1 39) ≤ (12 : Int32) then some (((1 : Int32) <<< ((gI s7_1 39) &&& 31)), s7_1)
  else some ((-2 : Int32), s7_1))

noncomputable def b_X7_legal_20 : (Int32 × Int32 × SS) → Option ((Int32 × Int32 × SS) ⊕ (Int32 × SS)) := fun (v15, v16, s7_17) =>
  if ((1 : Int32) <<< ((gI s7_17 39) &&& 31)) ≤ v16 then some (Sum.inr (v15, s7_17))
  else zB (f_X7_goes s7_17 v16) (fun ((r19, s7_20) : Int32 × SS) =>
  if r19 = (0 : Int32) then zL (v15 + (0 : Int32)) (fun v25 =>
  zL (v16 + 1) (fun v26 =>
  some (Sum.inl (v25, v26, s7_20))))
  else zL (v15 + (1 : Int32)) (fun v27 =>
  zL (v16 + 1) (fun v28 =>
  some (Sum.inl (v27, v28, s7_20)))))
noncomputable def f_X7_legal (S7 : SS) : Option (Int32 × SS) :=
  zB (f_X7_find S7) (fun (s7_1 : SS) =>
  if (gI s7_1 39) ≤ (12 : Int32) then zI (b_X7_legal_20) zF ((0 : Int32), (0 : Int32), s7_1)
  else some ((-2 : Int32), s7_1))

noncomputable def b_X7_sharp_30 (p1 : Int32) : (Int32 × Int32 × SS) → Option ((Int32 × Int32 × SS) ⊕ (Int32 × SS)) := fun (v20, v21, s7_22) =>
  if ((1 : Int32) <<< ((gI s7_22 39) &&& 31)) ≤ v21 then some (Sum.inr (v20, s7_22))
  else zB (f_X7_goes s7_22 v21) (fun ((r24, s7_25) : Int32 × SS) =>
  if r24 = (0 : Int32) then zL (v21 + 1) (fun v30 =>
  some (Sum.inl (v20, v30, s7_25)))
  else if v20 = (3 : Int32) then zG (vp_in p1 60) (
  zL (gA s7_25 35 p1.toNatClampNeg) (fun v33 =>
  zL (v21 + 1) (fun v34 =>
  some (Sum.inl (v33, v34, s7_25)))))
  else zG (vp_in p1 60) (
  if v20 = (gA s7_25 35 p1.toNatClampNeg) then zL (gA s7_25 35 p1.toNatClampNeg) (fun v38 =>
  zL (v21 + 1) (fun v39 =>
  some (Sum.inl (v38, v39, s7_25))))
  else zL (v21 + 1) (fun v37 =>
  some (Sum.inl ((2 : Int32), v37, s7_25)))))
noncomputable def f_X7_sharp (S7 : SS) (p1 : Int32) : Option (Int32 × SS) :=
  zB (f_X7_isNode S7 p1) (fun (r1 : Int32) =>
  if r1 = (0 : Int32) then some ((-1 : Int32), S7)
  else zB (f_X7_find S7) (fun (s7_6 : SS) =>
  if (gI s7_6 39) ≤ (12 : Int32) then zI (b_X7_sharp_30 p1) zF ((3 : Int32), (0 : Int32), s7_6)
  else some ((-2 : Int32), s7_6)))

noncomputable def b_X7_gainsaid_43 (s7_20 : SS) : (Int32 × Int32) → Option ((Int32 × Int32) ⊕ (Int32)) := fun (v36, v37) =>
  if (gI s7_20 29) ≤ v37 then some (Sum.inr v36)
  else zS (if v36 < (0 : Int32) then some (Sum.inr ())
  else if v36 ≤ v37 then some (Sum.inl (Sum.inr v36))
  else some (Sum.inr ())) (fun (_ : Unit) =>
  zG (vp_in v37 60) (
  if (2 : Int32) ≤ (gA s7_20 34 v37.toNatClampNeg) then zL (v37 + 1) (fun v47 =>
  some (Sum.inl (v36, v47)))
  else if (gA s7_20 35 v37.toNatClampNeg) = (gA s7_20 34 v37.toNatClampNeg) then zL (v37 + 1) (fun v49 =>
  some (Sum.inl (v36, v49)))
  else zL (v37 + 1) (fun v50 =>
  some (Sum.inl (v37, v50)))))
noncomputable def b_X7_gainsaid_20 : (Int32 × Int32 × SS) → Option ((Int32 × Int32 × SS) ⊕ (Int32 × SS)) := fun (v15, v16, s7_17) =>
  if ((1 : Int32) <<< ((gI s7_17 39) &&& 31)) ≤ v16 then some (Sum.inr (v15, s7_17))
  else zB (f_X7_goes s7_17 v16) (fun ((r19, s7_20) : Int32 × SS) =>
  if r19 = (0 : Int32) then zL (v16 + 1) (fun v53 =>
  some (Sum.inl (v15, v53, s7_20)))
  else zB (zI (b_X7_gainsaid_43 s7_20) zF (v15, (0 : Int32))) (fun (v34 : Int32) =>
  zL (v16 + 1) (fun v35 =>
  some (Sum.inl (v34, v35, s7_20)))))
noncomputable def f_X7_gainsaid (S7 : SS) : Option (Int32 × SS) :=
  zB (f_X7_find S7) (fun (s7_1 : SS) =>
  if (gI s7_1 39) ≤ (12 : Int32) then zI (b_X7_gainsaid_20) zF ((-1 : Int32), (0 : Int32), s7_1)
  else some ((-2 : Int32), s7_1))

noncomputable def b_X7_flicker_114 (s7_32 : SS) : (Int32 × Int32) → Option ((Int32 × Int32) ⊕ (Int32 × SS)) := fun (v45, v46) =>
  if (gI s7_32 29) ≤ v46 then some (Sum.inr ((-1 : Int32), s7_32))
  else zG (vp_in v46 60) (
  if (1 : Int32) < (gA s7_32 34 v46.toNatClampNeg) then zL (v46 + 1) (fun v50 =>
  some (Sum.inl (v45, v50)))
  else if (gA s7_32 34 v46.toNatClampNeg) = (gA s7_32 36 v46.toNatClampNeg) then if (gA s7_32 37 v46.toNatClampNeg) = (2 : Int32) then if v45 = (0 : Int32) then some (Sum.inr (v46, s7_32))
  else zL (v45 + Int32.ofInt (-1)) (fun v55 =>
  zL (v46 + 1) (fun v56 =>
  some (Sum.inl (v55, v56))))
  else zL (v46 + 1) (fun v57 =>
  some (Sum.inl (v45, v57)))
  else zL (v46 + 1) (fun v52 =>
  some (Sum.inl (v45, v52))))
noncomputable def b_X7_flicker_34 : (Int32 × SS) → Option ((Int32 × SS) ⊕ (SS)) := fun (v58, s7_59) =>
  if (gI s7_59 29) ≤ v58 then some (Sum.inr s7_59)
  else zG (vp_in v58 60) (
  zL (sA s7_59 36 (upd (gA s7_59 36) v58.toNatClampNeg (gA s7_59 33 v58.toNatClampNeg))) (fun s7_63 =>
  zL (sA s7_63 37 (upd (gA s7_63 37) v58.toNatClampNeg (gA s7_63 33 v58.toNatClampNeg))) (fun s7_65 =>
  zL (v58 + 1) (fun v66 =>
  some (Sum.inl (v66, s7_65))))))
noncomputable def f_X7_flicker (S7 : SS) (p1 : Int32) (p2 : Int32) : Option (Int32 × SS) :=
  zB (f_X7_isNode S7 p1) (fun (r1 : Int32) =>
  if r1 = (0 : Int32) then some ((-1 : Int32), S7)
  else zB (f_X7_kind S7 p1) (fun (r6 : Int32) =>
  if r6 = (0 : Int32) then zG (vp_in p1 60) (
  if (1 : Int32) < (gA S7 33 p1.toNatClampNeg) then some ((-1 : Int32), S7)
  else if (0 : Int32) ≤ p2 then zB (zI (b_X7_flicker_34) zF ((0 : Int32), S7)) (fun (s7_23 : SS) =>
  zL (sA s7_23 36 (upd (gA s7_23 36) p1.toNatClampNeg ((1 : Int32) - (gA s7_23 33 p1.toNatClampNeg)))) (fun s7_25 =>
  zL (sA s7_25 37 (upd (gA s7_25 37) p1.toNatClampNeg (2 : Int32))) (fun s7_27 =>
  zB (f_X7_follow s7_27 36) (fun (s7_28 : SS) =>
  zB (f_X7_follow s7_28 37) (fun (s7_32 : SS) =>
  zI (b_X7_flicker_114 s7_32) zF (p2, (0 : Int32)))))))
  else some ((-1 : Int32), S7))
  else some ((-1 : Int32), S7)))

set_option maxHeartbeats 4000000 in
set_option maxRecDepth 100000 in
theorem m_X7_fault (l : Launch) (dC : Nat → ClassId) (dI : Nat → Nat → Nat) (y : Nat → ClassId) (a7 : Nat) (h7 : Nat → Nat) (S7 : SS) (p1 : Int32) (sz : Nat) (or_ : Int32) (h : f_X7_fault S7 p1 = some or_) : Met l yX7_fault wsX7_fault ({ frames := 0, cells := 0, slots := 0, locals := 0 }) (va_Pc [.ref a7, .int p1] (fun U => U.heap.size = sz ∧ va_P (dC, dI) vwCl (cX7 a7 h7 y S7) U.heap ∧ va_K (dC, dI) vwCl [(y 0, .int), (y 1, .long), (y 2, .byte), (y 3, .boolean)] U ∧ va_D (fun _ => True) (cX7 a7 h7 y S7))) (va_Qi (fun (r : Int32) (_ : Unit) => r = or_) (fun (_ : Unit) (t : State) => va_P (dC, dI) vwCl (cX7 a7 h7 y S7) t.heap ∧ va_K (dC, dI) vwCl [(y 0, .int), (y 1, .long), (y 2, .byte), (y 3, .boolean)] t ∧ va_D (va_A (cX7 a7 h7 y S7) sz) (cX7 a7 h7 y S7)) (va_A (cX7 a7 h7 y S7) sz)) 0 0 (va_A (cX7 a7 h7 y S7) sz) := by
  refine Met.ofW (cc := cX7_fault) (maxL := 2) (ret := (some .int)) (by decide +kernel) rfl ?_
  intro p e s m args below meth c s₁ B hml hv
  obtain ⟨rfl, hsz, hP, hK, hD0⟩ := hv
  have hx := B.exec
  have hb := B.bytes
  have hr := B.returns
  have hts := atoms_spec (ws := wsX7_fault) B.pre
  have hown : s.vm.findClass RX7 = some m.cls := findClass_of_methodNamed B.named
  have hlocks := B.notSynchronized
  have inX7_ : ∀ w ∈ wsX70, w ∈ wsX7_fault := fun _ h => List.mem_cons_of_mem _ (List.mem_append_right _ h)
  subst hsz
  have hD := hD0.self (sz := s.heap.size)
  generalize hAe : va_A (cX7 a7 h7 y S7) s.heap.size = A at hD ⊢
  have hA : ∀ q : Nat, s.heap.size ≤ q → A q := fun q h => by rw [← hAe]; exact Or.inr h
  have hS : va_S A s.heap s.heap [] := va_S.rf
  have hP : va_P (dC, dI) vwCl (cX7 a7 h7 y S7) s.heap := hP
  have hl := lv_entry ([.ref a7, .int p1]) (n := 2) (Nat.le_of_ble_eq_true rfl)
  rw [lg_entry_eq]
  generalize (lg_sl ([.ref a7, .int p1]) ++ List.replicate (2 - (lg_sl ([.ref a7, .int p1])).length) Slot.unset).toArray = ls at hl ⊢
  have hl : lv_has ls 2 [(0, .ref a7), (1, .int p1)] := hl
  refine lv_iload_n hx hb dX7_fault_0 rfl (lv_at hl 1 rfl) ?_
  refine lv_if_ne (tgt := 11) hx hb dX7_fault_1 (by decide) (fun c1 => ?_) (fun c1 => ?_)
  · have h := zN c1 h
    refine lv_iload_n hx hb dX7_fault_11 rfl (lv_at hl 1 rfl) ?_
    refine lv_iconst (v := 1) hx hb dX7_fault_12 (by decide) ?_
    refine lv_icmp_ne (tgt := 23) hx hb dX7_fault_13 (by decide) (fun c2 => ?_) (fun c2 => ?_)
    · have h := zN c2 h
      refine lv_iconst (v := (-1)) hx hb dX7_fault_23 (by decide) ?_
      have ho0 : (-1 : Int32) = or_ := congrArg (fun z : Int32 => z) (Option.some.inj h)
      exact W.iret (v := (-1)) hx hb hr (fun t ht hW => ⟨⟨(-1), (), rfl, ho0, by rw [ht]; exact hP, va_K.moved hW.alike hK, hD⟩, hS.F ht⟩) hS.2.2 dX7_fault_24
    · have h := zY c2 h
      refine lv_aload_n hx hb dX7_fault_16 rfl (lv_at hl 0 rfl) ?_
      refine va_get (D := (dC, dI)) (ci := 6) (v := .int (gI S7 5)) (C := RX7) (T := TX7) (N := 49) hx hb hts inX7_ hown hK hP 0 rfl rfl 5 (by decide) (hts (.fieldLink RX7 16 "GateWheelModel" "faultPlace" "I") (List.mem_of_getElem? (i := 2) rfl)) (fun _ h9 => h9) rfl dX7_fault_17 ?_
      refine lv_goto (tgt := 24) hx hb dX7_fault_20 (by decide) ?_
      have ho0 : (gI S7 5) = or_ := congrArg (fun z : Int32 => z) (Option.some.inj h)
      exact W.iret (v := (gI S7 5)) hx hb hr (fun t ht hW => ⟨⟨(gI S7 5), (), rfl, ho0, by rw [ht]; exact hP, va_K.moved hW.alike hK, hD⟩, hS.F ht⟩) hS.2.2 dX7_fault_24
  · have h := zY c1 h
    refine lv_aload_n hx hb dX7_fault_4 rfl (lv_at hl 0 rfl) ?_
    refine va_get (D := (dC, dI)) (ci := 6) (v := .int (gI S7 4)) (C := RX7) (T := TX7) (N := 49) hx hb hts inX7_ hown hK hP 0 rfl rfl 4 (by decide) (hts (.fieldLink RX7 110 "GateWheelModel" "faultKind" "I") (List.mem_of_getElem? (i := 1) rfl)) (fun _ h9 => h9) rfl dX7_fault_5 ?_
    refine lv_goto (tgt := 24) hx hb dX7_fault_8 (by decide) ?_
    have ho0 : (gI S7 4) = or_ := congrArg (fun z : Int32 => z) (Option.some.inj h)
    exact W.iret (v := (gI S7 4)) hx hb hr (fun t ht hW => ⟨⟨(gI S7 4), (), rfl, ho0, by rw [ht]; exact hP, va_K.moved hW.alike hK, hD⟩, hS.F ht⟩) hS.2.2 dX7_fault_24

set_option maxHeartbeats 4000000 in
set_option maxRecDepth 100000 in
theorem m_X7_isNode (l : Launch) (dC : Nat → ClassId) (dI : Nat → Nat → Nat) (y : Nat → ClassId) (a7 : Nat) (h7 : Nat → Nat) (S7 : SS) (p1 : Int32) (sz : Nat) (or_ : Int32) (h : f_X7_isNode S7 p1 = some or_) : Met l yX7_isNode wsX7_isNode ({ frames := 0, cells := 0, slots := 0, locals := 0 }) (va_Pc [.ref a7, .int p1] (fun U => U.heap.size = sz ∧ va_P (dC, dI) vwCl (cX7 a7 h7 y S7) U.heap ∧ va_K (dC, dI) vwCl [(y 0, .int), (y 1, .long), (y 2, .byte), (y 3, .boolean)] U ∧ va_D (fun _ => True) (cX7 a7 h7 y S7))) (va_Qi (fun (r : Int32) (_ : Unit) => r = or_) (fun (_ : Unit) (t : State) => va_P (dC, dI) vwCl (cX7 a7 h7 y S7) t.heap ∧ va_K (dC, dI) vwCl [(y 0, .int), (y 1, .long), (y 2, .byte), (y 3, .boolean)] t ∧ va_D (va_A (cX7 a7 h7 y S7) sz) (cX7 a7 h7 y S7)) (va_A (cX7 a7 h7 y S7) sz)) 0 0 (va_A (cX7 a7 h7 y S7) sz) := by
  refine Met.ofW (cc := cX7_isNode) (maxL := 2) (ret := (some .boolean)) (by decide +kernel) rfl ?_
  intro p e s m args below meth c s₁ B hml hv
  obtain ⟨rfl, hsz, hP, hK, hD0⟩ := hv
  have hx := B.exec
  have hb := B.bytes
  have hr := B.returns
  have hts := atoms_spec (ws := wsX7_isNode) B.pre
  have hown : s.vm.findClass RX7 = some m.cls := findClass_of_methodNamed B.named
  have hlocks := B.notSynchronized
  have inX7_ : ∀ w ∈ wsX70, w ∈ wsX7_isNode := fun _ h => List.mem_cons_of_mem _ (List.mem_append_right _ h)
  subst hsz
  have hD := hD0.self (sz := s.heap.size)
  generalize hAe : va_A (cX7 a7 h7 y S7) s.heap.size = A at hD ⊢
  have hA : ∀ q : Nat, s.heap.size ≤ q → A q := fun q h => by rw [← hAe]; exact Or.inr h
  have hS : va_S A s.heap s.heap [] := va_S.rf
  have hP : va_P (dC, dI) vwCl (cX7 a7 h7 y S7) s.heap := hP
  have hl := lv_entry ([.ref a7, .int p1]) (n := 2) (Nat.le_of_ble_eq_true rfl)
  rw [lg_entry_eq]
  generalize (lg_sl ([.ref a7, .int p1]) ++ List.replicate (2 - (lg_sl ([.ref a7, .int p1])).length) Slot.unset).toArray = ls at hl ⊢
  have hl : lv_has ls 2 [(0, .ref a7), (1, .int p1)] := hl
  refine lv_iload_n hx hb dX7_isNode_0 rfl (lv_at hl 1 rfl) ?_
  refine lv_if_lt (tgt := 16) hx hb dX7_isNode_1 (by decide) (fun c1 => ?_) (fun c1 => ?_)
  · have h := zY c1 h
    refine lv_iconst (v := 0) hx hb dX7_isNode_16 (by decide) ?_
    have ho0 : (0 : Int32) = or_ := congrArg (fun z : Int32 => z) (Option.some.inj h)
    exact W.zret (v := 0) hx hb hr (by decide) (fun t ht hW => ⟨⟨0, (), rfl, ho0, by rw [ht]; exact hP, va_K.moved hW.alike hK, hD⟩, hS.F ht⟩) hS.2.2 dX7_isNode_17
  · have h := zN c1 h
    refine lv_iload_n hx hb dX7_isNode_4 rfl (lv_at hl 1 rfl) ?_
    refine lv_aload_n hx hb dX7_isNode_5 rfl (lv_at hl 0 rfl) ?_
    refine va_get (D := (dC, dI)) (ci := 6) (v := .int (gI S7 29)) (C := RX7) (T := TX7) (N := 49) hx hb hts inX7_ hown hK hP 0 rfl rfl 29 (by decide) (hts (.fieldLink RX7 261 "GateWheelModel" "nodes" "I") (List.mem_of_getElem? (i := 1) rfl)) (fun _ h9 => h9) rfl dX7_isNode_6 ?_
    refine lv_icmp_ge (tgt := 16) hx hb dX7_isNode_9 (by decide) (fun c2 => ?_) (fun c2 => ?_)
    · have h := zY c2 h
      refine lv_iconst (v := 0) hx hb dX7_isNode_16 (by decide) ?_
      have ho0 : (0 : Int32) = or_ := congrArg (fun z : Int32 => z) (Option.some.inj h)
      exact W.zret (v := 0) hx hb hr (by decide) (fun t ht hW => ⟨⟨0, (), rfl, ho0, by rw [ht]; exact hP, va_K.moved hW.alike hK, hD⟩, hS.F ht⟩) hS.2.2 dX7_isNode_17
    · have h := zN c2 h
      refine lv_iconst (v := 1) hx hb dX7_isNode_12 (by decide) ?_
      refine lv_goto (tgt := 17) hx hb dX7_isNode_13 (by decide) ?_
      have ho0 : (1 : Int32) = or_ := congrArg (fun z : Int32 => z) (Option.some.inj h)
      exact W.zret (v := 1) hx hb hr (by decide) (fun t ht hW => ⟨⟨1, (), rfl, ho0, by rw [ht]; exact hP, va_K.moved hW.alike hK, hD⟩, hS.F ht⟩) hS.2.2 dX7_isNode_17

set_option maxHeartbeats 4000000 in
set_option maxRecDepth 100000 in
theorem m_X7_named (l : Launch) (dC : Nat → ClassId) (dI : Nat → Nat → Nat) (y : Nat → ClassId) (a7 : Nat) (h7 : Nat → Nat) (S7 : SS) (p1 : Int64) (sz : Nat) (or_ : Int32) (h : f_X7_named S7 p1 = some or_) : Met l yX7_named wsX7_named ({ frames := 1, cells := 0, slots := 0, locals := 24 }) (va_Pc [.ref a7, .long p1] (fun U => U.heap.size = sz ∧ va_P (dC, dI) vwCl (cX7 a7 h7 y S7) U.heap ∧ va_K (dC, dI) vwCl [(y 0, .int), (y 1, .long), (y 2, .byte), (y 3, .boolean)] U ∧ va_D (fun _ => True) (cX7 a7 h7 y S7))) (va_Qi (fun (r : Int32) (_ : Unit) => r = or_) (fun (_ : Unit) (t : State) => va_P (dC, dI) vwCl (cX7 a7 h7 y S7) t.heap ∧ va_K (dC, dI) vwCl [(y 0, .int), (y 1, .long), (y 2, .byte), (y 3, .boolean)] t ∧ va_D (va_A (cX7 a7 h7 y S7) sz) (cX7 a7 h7 y S7)) (va_A (cX7 a7 h7 y S7) sz)) 0 0 (va_A (cX7 a7 h7 y S7) sz) := by
  refine Met.ofW (cc := cX7_named) (maxL := 6) (ret := (some .int)) (by decide +kernel) rfl ?_
  intro p e s m args below meth c s₁ B hml hv
  obtain ⟨rfl, hsz, hP, hK, hD0⟩ := hv
  have hx := B.exec
  have hb := B.bytes
  have hr := B.returns
  have hts := atoms_spec (ws := wsX7_named) B.pre
  have hown : s.vm.findClass RX7 = some m.cls := findClass_of_methodNamed B.named
  have hlocks := B.notSynchronized
  have inX7_ : ∀ w ∈ wsX70, w ∈ wsX7_named := fun _ h => List.mem_cons_of_mem _ (List.mem_append_right _ h)
  subst hsz
  have hD := hD0.self (sz := s.heap.size)
  generalize hAe : va_A (cX7 a7 h7 y S7) s.heap.size = A at hD ⊢
  have hA : ∀ q : Nat, s.heap.size ≤ q → A q := fun q h => by rw [← hAe]; exact Or.inr h
  have hS : va_S A s.heap s.heap [] := va_S.rf
  have hP : va_P (dC, dI) vwCl (cX7 a7 h7 y S7) s.heap := hP
  have hl := lv_entry ([.ref a7, .long p1]) (n := 6) (Nat.le_of_ble_eq_true rfl)
  rw [lg_entry_eq]
  generalize (lg_sl ([.ref a7, .long p1]) ++ List.replicate (6 - (lg_sl ([.ref a7, .long p1])).length) Slot.unset).toArray = ls at hl ⊢
  have hl : lv_has ls 6 [(0, .ref a7), (1, .long p1)] := hl
  refine lv_lload_n hx hb dX7_named_0 rfl (lv_at hl 1 rfl) ?_
  obtain ⟨r1, hc2, h⟩ := zB_spec h
  have hPc := hP.sub (ws' := []) [] rfl
  have hDc := hD.sub (ws' := []) [] (by decide) rfl
  have hFc := va_free (wc := []) hD hS hA [] rfl
  refine va_calll (va_runS (As := [.long p1]) (rest := []) ⟨hx, hb, hml, hown, hts⟩ (m_X7_plain l dC dI y p1 s.heap.size r1 hc2) (va_cwS 1 hts gX7_named_X7_plain rfl rfl rfl (by decide +kernel) ⟨Nat.le_of_ble_eq_true rfl, Nat.le_of_ble_eq_true rfl⟩) ⟨fun a U g mk q => by obtain ⟨q0, q1, qP, qK, qD⟩ := q; exact ⟨q0, q1, qP, va_K.moved (u := U) (U := U.calling g mk a) (Vm.Alike.refl U.vm) qK, qD⟩, fun U hU hW => ⟨rfl, by rw [hU], by rw [hU]; exact hPc, va_K.moved hW.alike hK, hDc.weaken (fun _ _ _ _ => trivial)⟩⟩ rfl rfl hl.1 rfl (lv_room (Nat.le_of_ble_eq_true rfl)) dX7_named_1 ⟨Nat.le_of_ble_eq_true rfl, Nat.le_of_ble_eq_true rfl⟩) hS (fun q _ h => hFc q h) hFc (fun rr4 u t H3 locs ht hvm hw hB hz1 hk1 hS => ?_)
  obtain ⟨hP1, hK1, hD1⟩ := hB
  rw [ht] at hP1
  refine zTopl hw.symm ?_
  obtain ⟨hP, hD⟩ := va_join (wr := [(oX7 a7 h7 S7), (h7 0, .inl (y 2, 2020, .inl (gA S7 0))), (h7 1, .inl (y 2, 2000, .inl (gA S7 1))), (h7 11, .inl (y 1, 120, .inr (.inl (gB S7 11)))), (h7 12, .inl (y 0, 120, .inl (gA S7 12))), (h7 13, .inl (y 0, 120, .inl (gA S7 13))), (h7 14, .inl (y 0, 120, .inl (gA S7 14))), (h7 15, .inl (y 0, 120, .inl (gA S7 15))), (h7 16, .inl (y 0, 1440, .inl (gA S7 16))), (h7 17, .inl (y 0, 120, .inl (gA S7 17))), (h7 18, .inl (y 0, 60, .inl (gA S7 18))), (h7 19, .inl (y 3, 720, .inl (gA S7 19))), (h7 20, .inl (y 1, 1000, .inr (.inl (gB S7 20)))), (h7 21, .inl (y 0, 1000, .inl (gA S7 21))), (h7 22, .inl (y 0, 1000, .inl (gA S7 22))), (h7 23, .inl (y 1, 200, .inr (.inl (gB S7 23)))), (h7 24, .inl (y 0, 200, .inl (gA S7 24))), (h7 25, .inl (y 3, 200, .inl (gA S7 25))), (h7 32, .inl (y 3, 60, .inl (gA S7 32))), (h7 33, .inl (y 0, 60, .inl (gA S7 33))), (h7 34, .inl (y 0, 60, .inl (gA S7 34))), (h7 35, .inl (y 0, 60, .inl (gA S7 35))), (h7 36, .inl (y 0, 60, .inl (gA S7 36))), (h7 37, .inl (y 0, 60, .inl (gA S7 37))), (h7 38, .inl (y 0, 60, .inl (gA S7 38))), (h7 40, .inl (y 0, 60, .inl (gA S7 40))), (h7 41, .inl (y 0, 60, .inl (gA S7 41))), (h7 42, .inl (y 0, 600, .inl (gA S7 42))), (h7 43, .inl (y 0, 1200, .inl (gA S7 43))), (h7 44, .inl (y 0, 60, .inl (gA S7 44))), (h7 45, .inl (y 3, 60, .inl (gA S7 45)))]) (w1 := []) hP hD [] [0, 1, 2, 3, 4, 5, 6, 7, 8, 9, 10, 11, 12, 13, 14, 15, 16, 17, 18, 19, 20, 21, 22, 23, 24, 25, 26, 27, 28, 29, 30] rfl rfl (by decide) (by decide) hk1 hFc hP1 hD1
  have hP : va_P (dC, dI) vwCl (cX7 a7 h7 y S7) H3 := hP.sub [0, 1, 2, 3, 4, 5, 6, 7, 8, 9, 10, 11, 12, 13, 14, 15, 16, 17, 18, 19, 20, 21, 22, 23, 24, 25, 26, 27, 28, 29, 30] rfl
  have hD : va_D A (cX7 a7 h7 y S7) := hD.sub [0, 1, 2, 3, 4, 5, 6, 7, 8, 9, 10, 11, 12, 13, 14, 15, 16, 17, 18, 19, 20, 21, 22, 23, 24, 25, 26, 27, 28, 29, 30] (by decide) rfl
  refine lv_lstore_n (lv' := [(3, .long r1), (0, .ref a7), (1, .long p1)]) hx hb dX7_named_4 rfl hl (by decide) rfl (fun ls hl => ?_)
  refine lv_iconst (v := 0) hx hb dX7_named_5 (by decide) ?_
  refine lv_istore (lv' := [(5, .int 0), (3, .long r1), (0, .ref a7), (1, .long p1)]) hx hb dX7_named_6 hl (by decide) rfl (fun ls hl => ?_)
  refine W_abs (fun GW5 eG6 => ?_)
  have hi10 := h
  have lp8 : ∀ (n : Nat) (v14 : Int32) (HGW5 : Heap) (locs : List Loc) (ls : Array Slot), zI (b_X7_named_8 S7 r1) n v14 = some or_ → va_P (dC, dI) vwCl (cX7 a7 h7 y S7) HGW5 → va_D A (cX7 a7 h7 y S7) → va_S A s.heap HGW5 locs → lv_has ls 6 [(3, .long r1), (0, .ref a7), (5, .int v14)] → GW5 HGW5 locs 0 0 (F0 m 8 ls []) := by
    intro n
    induction n with
    | zero =>
      intro v14 HGW5 locs ls hi10 hP hD hS hl
      exact (zI_0 hi10).elim
    | succ n ihlp8 =>
      intro v14 HGW5 locs ls hi10 hP hD hS hl
      refine (eG6 _ _ _ _ _).mpr ?_
      obtain ⟨xx13, h, hx12⟩ := zI_spec hi10
      refine lv_iload hx hb dX7_named_8 (lv_at hl 2 rfl) ?_
      refine lv_aload_n hx hb dX7_named_10 rfl (lv_at hl 1 rfl) ?_
      refine va_get (D := (dC, dI)) (ci := 6) (v := .int (gI S7 29)) (C := RX7) (T := TX7) (N := 49) hx hb hts inX7_ hown hK hP 0 rfl rfl 29 (by decide) (hts (.fieldLink RX7 261 "GateWheelModel" "nodes" "I") (List.mem_of_getElem? (i := 1) rfl)) (fun _ h9 => h9) rfl dX7_named_11 ?_
      refine lv_icmp_ge (tgt := 46) hx hb dX7_named_14 (by decide) (fun c15 => ?_) (fun c15 => ?_)
      · have h := zY c15 h
        refine lv_iconst (v := (-1)) hx hb dX7_named_46 (by decide) ?_
        have h := congrArg some (zI_r h hx12)
        have ho0 : (-1 : Int32) = or_ := congrArg (fun z : Int32 => z) (Option.some.inj h)
        exact W.iret (v := (-1)) hx hb hr (fun t ht hW => ⟨⟨(-1), (), rfl, ho0, by rw [ht]; exact hP, va_K.moved hW.alike hK, hD⟩, hS.F ht⟩) hS.2.2 dX7_named_47
      · have h := zN c15 h
        refine lv_aload_n hx hb dX7_named_17 rfl (lv_at hl 1 rfl) ?_
        refine va_get (D := (dC, dI)) (ci := 6) (v := .ref (h7 11)) (C := RX7) (T := TX7) (N := 49) hx hb hts inX7_ hown hK hP 0 rfl rfl 11 (by decide) (hts (.fieldLink RX7 20 "GateWheelModel" "nName" "[J") (List.mem_of_getElem? (i := 2) rfl)) (fun _ h9 => h9) rfl dX7_named_18 ?_
        refine lv_bipush (v := 60) hx hb dX7_named_21 (by decide) ?_
        refine lv_aload_n hx hb dX7_named_23 rfl (lv_at hl 1 rfl) ?_
        refine va_get (D := (dC, dI)) (ci := 6) (v := .int (gI S7 30)) (C := RX7) (T := TX7) (N := 49) hx hb hts inX7_ hown hK hP 0 rfl rfl 30 (by decide) (hts (.fieldLink RX7 188 "GateWheelModel" "bank" "I") (List.mem_of_getElem? (i := 3) rfl)) (fun _ h9 => h9) rfl dX7_named_24 ?_
        refine lv_imul hx hb dX7_named_27 ?_
        refine lv_iload hx hb dX7_named_28 (lv_at hl 2 rfl) ?_
        refine lv_iadd hx hb dX7_named_30 ?_
        obtain ⟨hi16, h⟩ := zG_spec h
        refine va_lald hx hb hK hP 3 1 rfl rfl hi16 dX7_named_31 ?_
        refine lv_lload_n hx hb dX7_named_32 rfl (lv_at hl 0 rfl) ?_
        refine W.lcmp hx hb dX7_named_33 ?_
        refine lv_if_ne (tgt := 40) hx hb dX7_named_34 (by decide) (fun c17 => ?_) (fun c17 => ?_)
        · have h := zN c17 h
          obtain ⟨v18, ev18, h⟩ := zL_spec h
          refine lv_iinc (v := v18) (lv' := [(5, .int v18), (3, .long r1), (0, .ref a7)]) hx hb dX7_named_40 hl (k := 2) rfl (by rw [ev18]; rfl) (by decide) rfl (fun ls hl => ?_)
          refine lv_goto (tgt := 8) hx hb dX7_named_43 (by decide) ?_
          have h := zI_l h hx12
          exact (eG6 _ _ _ _ _).mp (ihlp8 v18 _ _ _ h hP hD hS (lv_sub hl [1, 2, 0] rfl))
        · have h := zY c17 h
          refine lv_iload hx hb dX7_named_37 (lv_at hl 2 rfl) ?_
          have h := congrArg some (zI_r h hx12)
          have ho0 : v14 = or_ := congrArg (fun z : Int32 => z) (Option.some.inj h)
          exact W.iret (v := v14) hx hb hr (fun t ht hW => ⟨⟨v14, (), rfl, ho0, by rw [ht]; exact hP, va_K.moved hW.alike hK, hD⟩, hS.F ht⟩) hS.2.2 dX7_named_39
  exact lp8 zF (0 : Int32) _ _ _ hi10 hP hD hS (lv_sub hl [1, 2, 0] rfl)

set_option maxHeartbeats 4000000 in
set_option maxRecDepth 100000 in
theorem m_X7_node (l : Launch) (dC : Nat → ClassId) (dI : Nat → Nat → Nat) (y : Nat → ClassId) (a7 : Nat) (h7 : Nat → Nat) (S7 : SS) (p1 : Int32) (p2 : Int32) (sz : Nat) (or_ : Int32) (h : f_X7_node S7 p1 p2 = some or_) : Met l yX7_node wsX7_node ({ frames := 1, cells := 0, slots := 0, locals := 21 }) (va_Pc [.ref a7, .int p1, .int p2] (fun U => U.heap.size = sz ∧ va_P (dC, dI) vwCl (cX7 a7 h7 y S7) U.heap ∧ va_K (dC, dI) vwCl [(y 0, .int), (y 1, .long), (y 2, .byte), (y 3, .boolean)] U ∧ va_D (fun _ => True) (cX7 a7 h7 y S7))) (va_Qi (fun (r : Int32) (_ : Unit) => r = or_) (fun (_ : Unit) (t : State) => va_P (dC, dI) vwCl (cX7 a7 h7 y S7) t.heap ∧ va_K (dC, dI) vwCl [(y 0, .int), (y 1, .long), (y 2, .byte), (y 3, .boolean)] t ∧ va_D (va_A (cX7 a7 h7 y S7) sz) (cX7 a7 h7 y S7)) (va_A (cX7 a7 h7 y S7) sz)) 0 0 (va_A (cX7 a7 h7 y S7) sz) := by
  refine Met.ofW (cc := cX7_node) (maxL := 4) (ret := (some .int)) (by decide +kernel) rfl ?_
  intro p e s m args below meth c s₁ B hml hv
  obtain ⟨rfl, hsz, hP, hK, hD0⟩ := hv
  have hx := B.exec
  have hb := B.bytes
  have hr := B.returns
  have hts := atoms_spec (ws := wsX7_node) B.pre
  have hown : s.vm.findClass RX7 = some m.cls := findClass_of_methodNamed B.named
  have hlocks := B.notSynchronized
  have inX7_ : ∀ w ∈ wsX70, w ∈ wsX7_node := fun _ h => List.mem_cons_of_mem _ (List.mem_append_right _ h)
  subst hsz
  have hD := hD0.self (sz := s.heap.size)
  generalize hAe : va_A (cX7 a7 h7 y S7) s.heap.size = A at hD ⊢
  have hA : ∀ q : Nat, s.heap.size ≤ q → A q := fun q h => by rw [← hAe]; exact Or.inr h
  have hS : va_S A s.heap s.heap [] := va_S.rf
  have hP : va_P (dC, dI) vwCl (cX7 a7 h7 y S7) s.heap := hP
  have hl := lv_entry ([.ref a7, .int p1, .int p2]) (n := 4) (Nat.le_of_ble_eq_true rfl)
  rw [lg_entry_eq]
  generalize (lg_sl ([.ref a7, .int p1, .int p2]) ++ List.replicate (4 - (lg_sl ([.ref a7, .int p1, .int p2])).length) Slot.unset).toArray = ls at hl ⊢
  have hl : lv_has ls 4 [(0, .ref a7), (1, .int p1), (2, .int p2)] := hl
  refine lv_aload_n hx hb dX7_node_0 rfl (lv_at hl 0 rfl) ?_
  refine lv_iload_n hx hb dX7_node_1 rfl (lv_at hl 1 rfl) ?_
  obtain ⟨r1, hc2, h⟩ := zB_spec h
  have hFc := zFree hD hS hA
  refine va_calli (va_runV (As := [.int p1]) (rest := []) ⟨hx, hb, hml, hown, hts⟩ (m_X7_isNode l dC dI y a7 h7 S7 p1 s.heap.size r1 hc2) (cwV 1 hts gX7_node_X7_isNode rfl rfl rfl (by decide +kernel) ⟨Nat.le_of_ble_eq_true rfl, Nat.le_of_ble_eq_true rfl⟩) ⟨fun a U g mk q => by obtain ⟨q0, q1, qP, qK, qD⟩ := q; exact ⟨q0, q1, qP, va_K.moved (u := U) (U := U.calling g mk a) (Vm.Alike.refl U.vm) qK, qD⟩, va_recv hK hP (ci := 6) (q0 := 0) rfl rfl, fun U hU hW => ⟨rfl, by rw [hU], by rw [hU]; exact hP, va_K.moved hW.alike hK, hD.weaken (fun _ _ _ _ => trivial)⟩⟩ rfl rfl hl.1 rfl (lv_room (Nat.le_of_ble_eq_true rfl)) dX7_node_2 ⟨Nat.le_of_ble_eq_true rfl, Nat.le_of_ble_eq_true rfl⟩) hS (fun q _ h => hFc q h) hFc (fun rr4 u t H3 locs ht hvm hw hB hz1 hk1 hS => ?_)
  obtain ⟨hP1, hK1, hD1⟩ := hB
  rw [ht] at hP1
  refine zTopi hw.symm ?_
  have hP := hP1
  have hD := hD1.weaken (fun _ q _ h => hFc q.1 h)
  have hP : va_P (dC, dI) vwCl (cX7 a7 h7 y S7) H3 := hP
  have hD : va_D A (cX7 a7 h7 y S7) := hD
  refine lv_if_ne (tgt := 10) hx hb dX7_node_5 (by decide) (fun c5 => ?_) (fun c5 => ?_)
  · have h := zN c5 h
    refine lv_bipush (v := 60) hx hb dX7_node_10 (by decide) ?_
    refine lv_aload_n hx hb dX7_node_12 rfl (lv_at hl 0 rfl) ?_
    refine va_get (D := (dC, dI)) (ci := 6) (v := .int (gI S7 30)) (C := RX7) (T := TX7) (N := 49) hx hb hts inX7_ hown hK hP 0 rfl rfl 30 (by decide) (hts (.fieldLink RX7 188 "GateWheelModel" "bank" "I") (List.mem_of_getElem? (i := 1) rfl)) (fun _ h9 => h9) rfl dX7_node_13 ?_
    refine lv_imul hx hb dX7_node_16 ?_
    refine lv_iload_n hx hb dX7_node_17 rfl (lv_at hl 1 rfl) ?_
    refine lv_iadd hx hb dX7_node_18 ?_
    obtain ⟨v6, ev6, h⟩ := zL_spec h
    refine zTopi ev6 ?_
    refine lv_istore_n (lv' := [(3, .int v6), (0, .ref a7), (1, .int p1), (2, .int p2)]) hx hb dX7_node_19 rfl hl (by decide) rfl (fun ls hl => ?_)
    refine lv_iload_n hx hb dX7_node_20 rfl (lv_at hl 3 rfl) ?_
    refine lv_if_ne (tgt := 33) hx hb dX7_node_21 (by decide) (fun c7 => ?_) (fun c7 => ?_)
    · have h := zN c7 h
      refine lv_iload_n hx hb dX7_node_33 rfl (lv_at hl 3 rfl) ?_
      refine lv_iconst (v := 1) hx hb dX7_node_34 (by decide) ?_
      refine lv_icmp_ne (tgt := 47) hx hb dX7_node_35 (by decide) (fun c8 => ?_) (fun c8 => ?_)
      · have h := zN c8 h
        refine lv_iload_n hx hb dX7_node_47 rfl (lv_at hl 3 rfl) ?_
        refine lv_iconst (v := 2) hx hb dX7_node_48 (by decide) ?_
        refine lv_icmp_ne (tgt := 61) hx hb dX7_node_49 (by decide) (fun c9 => ?_) (fun c9 => ?_)
        · have h := zN c9 h
          refine lv_iload_n hx hb dX7_node_61 rfl (lv_at hl 3 rfl) ?_
          refine lv_iconst (v := 3) hx hb dX7_node_62 (by decide) ?_
          refine lv_icmp_ne (tgt := 75) hx hb dX7_node_63 (by decide) (fun c10 => ?_) (fun c10 => ?_)
          · have h := zN c10 h
            refine lv_iconst (v := (-1)) hx hb dX7_node_75 (by decide) ?_
            have ho0 : (-1 : Int32) = or_ := congrArg (fun z : Int32 => z) (Option.some.inj h)
            exact W.iret (v := (-1)) hx hb hr (fun t ht hW => ⟨⟨(-1), (), rfl, ho0, by rw [ht]; exact hP, va_K.moved hW.alike hK, hD⟩, hS.F ht⟩) hS.2.2 dX7_node_76
          · have h := zY c10 h
            refine lv_aload_n hx hb dX7_node_66 rfl (lv_at hl 1 rfl) ?_
            refine va_get (D := (dC, dI)) (ci := 6) (v := .ref (h7 17)) (C := RX7) (T := TX7) (N := 49) hx hb hts inX7_ hown hK hP 0 rfl rfl 17 (by decide) (hts (.fieldLink RX7 40 "GateWheelModel" "nLevel" "[I") (List.mem_of_getElem? (i := 5) rfl)) (fun _ h9 => h9) rfl dX7_node_67 ?_
            refine lv_iload_n hx hb dX7_node_70 rfl (lv_at hl 0 rfl) ?_
            obtain ⟨hi11, h⟩ := zG_spec h
            refine va_iald hx hb hK hP 9 0 rfl rfl hi11 dX7_node_71 ?_
            refine lv_goto (tgt := 76) hx hb dX7_node_72 (by decide) ?_
            have ho0 : (gA S7 17 v6.toNatClampNeg) = or_ := congrArg (fun z : Int32 => z) (Option.some.inj h)
            exact W.iret (v := (gA S7 17 v6.toNatClampNeg)) hx hb hr (fun t ht hW => ⟨⟨(gA S7 17 v6.toNatClampNeg), (), rfl, ho0, by rw [ht]; exact hP, va_K.moved hW.alike hK, hD⟩, hS.F ht⟩) hS.2.2 dX7_node_76
        · have h := zY c9 h
          refine lv_aload_n hx hb dX7_node_52 rfl (lv_at hl 1 rfl) ?_
          refine va_get (D := (dC, dI)) (ci := 6) (v := .ref (h7 15)) (C := RX7) (T := TX7) (N := 49) hx hb hts inX7_ hown hK hP 0 rfl rfl 15 (by decide) (hts (.fieldLink RX7 34 "GateWheelModel" "nDelay" "[I") (List.mem_of_getElem? (i := 4) rfl)) (fun _ h9 => h9) rfl dX7_node_53 ?_
          refine lv_iload_n hx hb dX7_node_56 rfl (lv_at hl 0 rfl) ?_
          obtain ⟨hi12, h⟩ := zG_spec h
          refine va_iald hx hb hK hP 7 0 rfl rfl hi12 dX7_node_57 ?_
          refine lv_goto (tgt := 76) hx hb dX7_node_58 (by decide) ?_
          have ho0 : (gA S7 15 v6.toNatClampNeg) = or_ := congrArg (fun z : Int32 => z) (Option.some.inj h)
          exact W.iret (v := (gA S7 15 v6.toNatClampNeg)) hx hb hr (fun t ht hW => ⟨⟨(gA S7 15 v6.toNatClampNeg), (), rfl, ho0, by rw [ht]; exact hP, va_K.moved hW.alike hK, hD⟩, hS.F ht⟩) hS.2.2 dX7_node_76
      · have h := zY c8 h
        refine lv_aload_n hx hb dX7_node_38 rfl (lv_at hl 1 rfl) ?_
        refine va_get (D := (dC, dI)) (ci := 6) (v := .ref (h7 14)) (C := RX7) (T := TX7) (N := 49) hx hb hts inX7_ hown hK hP 0 rfl rfl 14 (by decide) (hts (.fieldLink RX7 31 "GateWheelModel" "nMany" "[I") (List.mem_of_getElem? (i := 3) rfl)) (fun _ h9 => h9) rfl dX7_node_39 ?_
        refine lv_iload_n hx hb dX7_node_42 rfl (lv_at hl 0 rfl) ?_
        obtain ⟨hi13, h⟩ := zG_spec h
        refine va_iald hx hb hK hP 6 0 rfl rfl hi13 dX7_node_43 ?_
        refine lv_goto (tgt := 76) hx hb dX7_node_44 (by decide) ?_
        have ho0 : (gA S7 14 v6.toNatClampNeg) = or_ := congrArg (fun z : Int32 => z) (Option.some.inj h)
        exact W.iret (v := (gA S7 14 v6.toNatClampNeg)) hx hb hr (fun t ht hW => ⟨⟨(gA S7 14 v6.toNatClampNeg), (), rfl, ho0, by rw [ht]; exact hP, va_K.moved hW.alike hK, hD⟩, hS.F ht⟩) hS.2.2 dX7_node_76
    · have h := zY c7 h
      refine lv_aload_n hx hb dX7_node_24 rfl (lv_at hl 1 rfl) ?_
      refine va_get (D := (dC, dI)) (ci := 6) (v := .ref (h7 12)) (C := RX7) (T := TX7) (N := 49) hx hb hts inX7_ hown hK hP 0 rfl rfl 12 (by decide) (hts (.fieldLink RX7 24 "GateWheelModel" "nKind" "[I") (List.mem_of_getElem? (i := 2) rfl)) (fun _ h9 => h9) rfl dX7_node_25 ?_
      refine lv_iload_n hx hb dX7_node_28 rfl (lv_at hl 0 rfl) ?_
      obtain ⟨hi14, h⟩ := zG_spec h
      refine va_iald hx hb hK hP 4 0 rfl rfl hi14 dX7_node_29 ?_
      refine lv_goto (tgt := 76) hx hb dX7_node_30 (by decide) ?_
      have ho0 : (gA S7 12 v6.toNatClampNeg) = or_ := congrArg (fun z : Int32 => z) (Option.some.inj h)
      exact W.iret (v := (gA S7 12 v6.toNatClampNeg)) hx hb hr (fun t ht hW => ⟨⟨(gA S7 12 v6.toNatClampNeg), (), rfl, ho0, by rw [ht]; exact hP, va_K.moved hW.alike hK, hD⟩, hS.F ht⟩) hS.2.2 dX7_node_76
  · have h := zY c5 h
    refine lv_iconst (v := (-1)) hx hb dX7_node_8 (by decide) ?_
    have ho0 : (-1 : Int32) = or_ := congrArg (fun z : Int32 => z) (Option.some.inj h)
    exact W.iret (v := (-1)) hx hb hr (fun t ht hW => ⟨⟨(-1), (), rfl, ho0, by rw [ht]; exact hP, va_K.moved hW.alike hK, hD⟩, hS.F ht⟩) hS.2.2 dX7_node_9

set_option maxHeartbeats 4000000 in
set_option maxRecDepth 100000 in
theorem m_X7_set (l : Launch) (dC : Nat → ClassId) (dI : Nat → Nat → Nat) (y : Nat → ClassId) (a7 : Nat) (h7 : Nat → Nat) (S7 : SS) (p1 : Int32) (p2 : Int32) (sz : Nat) (or_ : Int32) (o_7 : SS) (h : f_X7_set S7 p1 p2 = some (or_, o_7)) : Met l yX7_set wsX7_set ({ frames := 4, cells := 0, slots := 0, locals := 94 }) (va_Pc [.ref a7, .int p1, .int p2] (fun U => U.heap.size = sz ∧ va_P (dC, dI) vwCl (cX7 a7 h7 y S7) U.heap ∧ va_K (dC, dI) vwCl [(y 0, .int), (y 1, .long), (y 2, .byte), (y 3, .boolean)] U ∧ va_D (fun _ => True) (cX7 a7 h7 y S7))) (va_Qi (fun (r : Int32) (_ : Unit) => r = or_) (fun (_ : Unit) (t : State) => va_P (dC, dI) vwCl (cX7 a7 h7 y o_7) t.heap ∧ va_K (dC, dI) vwCl [(y 0, .int), (y 1, .long), (y 2, .byte), (y 3, .boolean)] t ∧ va_D (va_A (cX7 a7 h7 y S7) sz) (cX7 a7 h7 y o_7)) (va_A (cX7 a7 h7 y S7) sz)) 0 0 (va_A (cX7 a7 h7 y S7) sz) := by
  refine Met.ofW (cc := cX7_set) (maxL := 3) (ret := (some .boolean)) (by decide +kernel) rfl ?_
  intro p e s m args below meth c s₁ B hml hv
  obtain ⟨rfl, hsz, hP, hK, hD0⟩ := hv
  have hx := B.exec
  have hb := B.bytes
  have hr := B.returns
  have hts := atoms_spec (ws := wsX7_set) B.pre
  have hown : s.vm.findClass RX7 = some m.cls := findClass_of_methodNamed B.named
  have hlocks := B.notSynchronized
  have inX7_ : ∀ w ∈ wsX70, w ∈ wsX7_set := fun _ h => List.mem_cons_of_mem _ (List.mem_append_right _ h)
  subst hsz
  have hD := hD0.self (sz := s.heap.size)
  generalize hAe : va_A (cX7 a7 h7 y S7) s.heap.size = A at hD ⊢
  have hA : ∀ q : Nat, s.heap.size ≤ q → A q := fun q h => by rw [← hAe]; exact Or.inr h
  have hS : va_S A s.heap s.heap [] := va_S.rf
  have hP : va_P (dC, dI) vwCl (cX7 a7 h7 y S7) s.heap := hP
  have hl := lv_entry ([.ref a7, .int p1, .int p2]) (n := 3) (Nat.le_of_ble_eq_true rfl)
  rw [lg_entry_eq]
  generalize (lg_sl ([.ref a7, .int p1, .int p2]) ++ List.replicate (3 - (lg_sl ([.ref a7, .int p1, .int p2])).length) Slot.unset).toArray = ls at hl ⊢
  have hl : lv_has ls 3 [(0, .ref a7), (1, .int p1), (2, .int p2)] := hl
  refine lv_aload_n hx hb dX7_set_0 rfl (lv_at hl 0 rfl) ?_
  refine lv_iload_n hx hb dX7_set_1 rfl (lv_at hl 1 rfl) ?_
  obtain ⟨r1, hc2, h⟩ := zB_spec h
  have hFc := zFree hD hS hA
  refine va_calli (va_runV (As := [.int p1]) (rest := []) ⟨hx, hb, hml, hown, hts⟩ (m_X7_isNode l dC dI y a7 h7 S7 p1 s.heap.size r1 hc2) (cwV 1 hts gX7_set_X7_isNode rfl rfl rfl (by decide +kernel) ⟨Nat.le_of_ble_eq_true rfl, Nat.le_of_ble_eq_true rfl⟩) ⟨fun a U g mk q => by obtain ⟨q0, q1, qP, qK, qD⟩ := q; exact ⟨q0, q1, qP, va_K.moved (u := U) (U := U.calling g mk a) (Vm.Alike.refl U.vm) qK, qD⟩, va_recv hK hP (ci := 6) (q0 := 0) rfl rfl, fun U hU hW => ⟨rfl, by rw [hU], by rw [hU]; exact hP, va_K.moved hW.alike hK, hD.weaken (fun _ _ _ _ => trivial)⟩⟩ rfl rfl hl.1 rfl (lv_room (Nat.le_of_ble_eq_true rfl)) dX7_set_2 ⟨Nat.le_of_ble_eq_true rfl, Nat.le_of_ble_eq_true rfl⟩) hS (fun q _ h => hFc q h) hFc (fun rr4 u t H3 locs ht hvm hw hB hz1 hk1 hS => ?_)
  obtain ⟨hP1, hK1, hD1⟩ := hB
  rw [ht] at hP1
  refine zTopi hw.symm ?_
  have hP := hP1
  have hD := hD1.weaken (fun _ q _ h => hFc q.1 h)
  have hP : va_P (dC, dI) vwCl (cX7 a7 h7 y S7) H3 := hP
  have hD : va_D A (cX7 a7 h7 y S7) := hD
  refine lv_if_eq (tgt := 25) hx hb dX7_set_5 (by decide) (fun c5 => ?_) (fun c5 => ?_)
  · have h := zY c5 h
    refine lv_iconst (v := 0) hx hb dX7_set_25 (by decide) ?_
    have ho0 : (0 : Int32) = or_ := congrArg (fun z : Int32 × SS => z.1) (Option.some.inj h)
    have ho1 : S7 = o_7 := congrArg (fun z : Int32 × SS => z.2) (Option.some.inj h)
    exact W.zret (v := 0) hx hb hr (by decide) (fun t ht hW => ⟨⟨0, (), rfl, ho0, by rw [ht]; rw [← ho1]; exact hP, va_K.moved hW.alike hK, by rw [← ho1]; exact hD⟩, hS.F ht⟩) hS.2.2 dX7_set_26
  · have h := zN c5 h
    refine lv_aload_n hx hb dX7_set_8 rfl (lv_at hl 0 rfl) ?_
    refine lv_iload_n hx hb dX7_set_9 rfl (lv_at hl 1 rfl) ?_
    obtain ⟨r6, hc7, h⟩ := zB_spec h
    have hFc := zFree hD hS hA
    refine va_calli (va_runV (As := [.int p1]) (rest := []) ⟨hx, hb, hml, hown, hts⟩ (m_X7_kind l dC dI y a7 h7 S7 p1 H3.size r6 hc7) (cwV 1 hts gX7_set_X7_kind rfl rfl rfl (by decide +kernel) ⟨Nat.le_of_ble_eq_true rfl, Nat.le_of_ble_eq_true rfl⟩) ⟨fun a U g mk q => by obtain ⟨q0, q1, qP, qK, qD⟩ := q; exact ⟨q0, q1, qP, va_K.moved (u := U) (U := U.calling g mk a) (Vm.Alike.refl U.vm) qK, qD⟩, va_recv hK hP (ci := 6) (q0 := 0) rfl rfl, fun U hU hW => ⟨rfl, by rw [hU], by rw [hU]; exact hP, va_K.moved hW.alike hK, hD.weaken (fun _ _ _ _ => trivial)⟩⟩ rfl rfl hl.1 rfl (lv_room (Nat.le_of_ble_eq_true rfl)) dX7_set_10 ⟨Nat.le_of_ble_eq_true rfl, Nat.le_of_ble_eq_true rfl⟩) hS (fun q _ h => hFc q h) hFc (fun rr9 u t H8 locs ht hvm hw hB hz1 hk1 hS => ?_)
    obtain ⟨hP1, hK1, hD1⟩ := hB
    rw [ht] at hP1
    refine zTopi hw.symm ?_
    have hP := hP1
    have hD := hD1.weaken (fun _ q _ h => hFc q.1 h)
    have hP : va_P (dC, dI) vwCl (cX7 a7 h7 y S7) H8 := hP
    have hD : va_D A (cX7 a7 h7 y S7) := hD
    refine lv_if_ne (tgt := 25) hx hb dX7_set_13 (by decide) (fun c10 => ?_) (fun c10 => ?_)
    · have h := zN c10 h
      refine lv_iconst (v := 0) hx hb dX7_set_25 (by decide) ?_
      have ho0 : (0 : Int32) = or_ := congrArg (fun z : Int32 × SS => z.1) (Option.some.inj h)
      have ho1 : S7 = o_7 := congrArg (fun z : Int32 × SS => z.2) (Option.some.inj h)
      exact W.zret (v := 0) hx hb hr (by decide) (fun t ht hW => ⟨⟨0, (), rfl, ho0, by rw [ht]; rw [← ho1]; exact hP, va_K.moved hW.alike hK, by rw [← ho1]; exact hD⟩, hS.F ht⟩) hS.2.2 dX7_set_26
    · have h := zY c10 h
      refine lv_iload_n hx hb dX7_set_16 rfl (lv_at hl 2 rfl) ?_
      refine lv_if_lt (tgt := 25) hx hb dX7_set_17 (by decide) (fun c11 => ?_) (fun c11 => ?_)
      · have h := zY c11 h
        refine lv_iconst (v := 0) hx hb dX7_set_25 (by decide) ?_
        have ho0 : (0 : Int32) = or_ := congrArg (fun z : Int32 × SS => z.1) (Option.some.inj h)
        have ho1 : S7 = o_7 := congrArg (fun z : Int32 × SS => z.2) (Option.some.inj h)
        exact W.zret (v := 0) hx hb hr (by decide) (fun t ht hW => ⟨⟨0, (), rfl, ho0, by rw [ht]; rw [← ho1]; exact hP, va_K.moved hW.alike hK, by rw [← ho1]; exact hD⟩, hS.F ht⟩) hS.2.2 dX7_set_26
      · have h := zN c11 h
        refine lv_iload_n hx hb dX7_set_20 rfl (lv_at hl 2 rfl) ?_
        refine lv_iconst (v := 3) hx hb dX7_set_21 (by decide) ?_
        refine lv_icmp_le (tgt := 27) hx hb dX7_set_22 (by decide) (fun c12 => ?_) (fun c12 => ?_)
        · have h := zY c12 h
          refine lv_aload_n hx hb dX7_set_27 rfl (lv_at hl 0 rfl) ?_
          refine va_get (D := (dC, dI)) (ci := 6) (v := .ref (h7 33)) (C := RX7) (T := TX7) (N := 49) hx hb hts inX7_ hown hK hP 0 rfl rfl 33 (by decide) (hts (.fieldLink RX7 71 "GateWheelModel" "source" "[I") (List.mem_of_getElem? (i := 1) rfl)) (fun _ h9 => h9) rfl dX7_set_28 ?_
          refine lv_iload_n hx hb dX7_set_31 rfl (lv_at hl 1 rfl) ?_
          refine lv_iload_n hx hb dX7_set_32 rfl (lv_at hl 2 rfl) ?_
          obtain ⟨hi13, h⟩ := zG_spec h
          refine va_iast hx hb hK hP hD hS 19 0 rfl rfl hi13 dX7_set_33 (fun H14 locs hP hD hS => ?_)
          obtain ⟨s7_15, es7_15, h⟩ := zL_spec h
          have hP : va_P (dC, dI) vwCl (cX7 a7 h7 y s7_15) H14 := by rw [es7_15]; exact hP
          have hD : va_D A (cX7 a7 h7 y s7_15) := by rw [es7_15]; exact hD
          refine lv_aload_n hx hb dX7_set_34 rfl (lv_at hl 0 rfl) ?_
          obtain ⟨s7_16, hc17, h⟩ := zB_spec h
          have hFc := zFree hD hS hA
          refine va_callv (va_runV (As := []) (rest := []) ⟨hx, hb, hml, hown, hts⟩ (m_X7_settle l dC dI y a7 h7 s7_15 H14.size s7_16 hc17) (cwV 0 hts gX7_set_X7_settle rfl rfl rfl (by decide +kernel) ⟨Nat.le_of_ble_eq_true rfl, Nat.le_of_ble_eq_true rfl⟩) ⟨fun a U g mk q => by obtain ⟨q0, q1, qP, qK, qD⟩ := q; exact ⟨q0, q1, qP, va_K.moved (u := U) (U := U.calling g mk a) (Vm.Alike.refl U.vm) qK, qD⟩, va_recv hK hP (ci := 6) (q0 := 0) rfl rfl, fun U hU hW => ⟨rfl, by rw [hU], by rw [hU]; exact hP, va_K.moved hW.alike hK, hD.weaken (fun _ _ _ _ => trivial)⟩⟩ rfl rfl hl.1 rfl (lv_room (Nat.le_of_ble_eq_true rfl)) dX7_set_35 ⟨Nat.le_of_ble_eq_true rfl, Nat.le_of_ble_eq_true rfl⟩) hS (fun q _ h => hFc q h) hFc (fun u t H18 locs ht hvm hw hB hz1 hk1 hS => ?_)
          obtain ⟨hP1, hK1, hD1⟩ := hB
          rw [ht] at hP1
          have hP := hP1
          have hD := hD1.weaken (fun _ q _ h => hFc q.1 h)
          have hP : va_P (dC, dI) vwCl (cX7 a7 h7 y s7_16) H18 := hP
          have hD : va_D A (cX7 a7 h7 y s7_16) := hD
          refine lv_iconst (v := 1) hx hb dX7_set_38 (by decide) ?_
          have ho0 : (1 : Int32) = or_ := congrArg (fun z : Int32 × SS => z.1) (Option.some.inj h)
          have ho1 : s7_16 = o_7 := congrArg (fun z : Int32 × SS => z.2) (Option.some.inj h)
          exact W.zret (v := 1) hx hb hr (by decide) (fun t ht hW => ⟨⟨1, (), rfl, ho0, by rw [ht]; rw [← ho1]; exact hP, va_K.moved hW.alike hK, by rw [← ho1]; exact hD⟩, hS.F ht⟩) hS.2.2 dX7_set_39
        · have h := zN c12 h
          refine lv_iconst (v := 0) hx hb dX7_set_25 (by decide) ?_
          have ho0 : (0 : Int32) = or_ := congrArg (fun z : Int32 × SS => z.1) (Option.some.inj h)
          have ho1 : S7 = o_7 := congrArg (fun z : Int32 × SS => z.2) (Option.some.inj h)
          exact W.zret (v := 0) hx hb hr (by decide) (fun t ht hW => ⟨⟨0, (), rfl, ho0, by rw [ht]; rw [← ho1]; exact hP, va_K.moved hW.alike hK, by rw [← ho1]; exact hD⟩, hS.F ht⟩) hS.2.2 dX7_set_26

set_option maxHeartbeats 4000000 in
set_option maxRecDepth 100000 in
theorem m_X7_load (l : Launch) (dC : Nat → ClassId) (dI : Nat → Nat → Nat) (y : Nat → ClassId) (a7 : Nat) (h7 : Nat → Nat) (S7 : SS) (p1 : Int32) (p2 : Int32) (sz : Nat) (or_ : Int32) (o_7 : SS) (h : f_X7_load S7 p1 p2 = some (or_, o_7)) : Met l yX7_load wsX7_load ({ frames := 4, cells := 0, slots := 0, locals := 94 }) (va_Pc [.ref a7, .int p1, .int p2] (fun U => U.heap.size = sz ∧ va_P (dC, dI) vwCl (cX7 a7 h7 y S7) U.heap ∧ va_K (dC, dI) vwCl [(y 0, .int), (y 1, .long), (y 2, .byte), (y 3, .boolean)] U ∧ va_D (fun _ => True) (cX7 a7 h7 y S7))) (va_Qi (fun (r : Int32) (_ : Unit) => r = or_) (fun (_ : Unit) (t : State) => va_P (dC, dI) vwCl (cX7 a7 h7 y o_7) t.heap ∧ va_K (dC, dI) vwCl [(y 0, .int), (y 1, .long), (y 2, .byte), (y 3, .boolean)] t ∧ va_D (va_A (cX7 a7 h7 y S7) sz) (cX7 a7 h7 y o_7)) (va_A (cX7 a7 h7 y S7) sz)) 0 0 (va_A (cX7 a7 h7 y S7) sz) := by
  refine Met.ofW (cc := cX7_load) (maxL := 3) (ret := (some .boolean)) (by decide +kernel) rfl ?_
  intro p e s m args below meth c s₁ B hml hv
  obtain ⟨rfl, hsz, hP, hK, hD0⟩ := hv
  have hx := B.exec
  have hb := B.bytes
  have hr := B.returns
  have hts := atoms_spec (ws := wsX7_load) B.pre
  have hown : s.vm.findClass RX7 = some m.cls := findClass_of_methodNamed B.named
  have hlocks := B.notSynchronized
  have inX7_ : ∀ w ∈ wsX70, w ∈ wsX7_load := fun _ h => List.mem_cons_of_mem _ (List.mem_append_right _ h)
  subst hsz
  have hD := hD0.self (sz := s.heap.size)
  generalize hAe : va_A (cX7 a7 h7 y S7) s.heap.size = A at hD ⊢
  have hA : ∀ q : Nat, s.heap.size ≤ q → A q := fun q h => by rw [← hAe]; exact Or.inr h
  have hS : va_S A s.heap s.heap [] := va_S.rf
  have hP : va_P (dC, dI) vwCl (cX7 a7 h7 y S7) s.heap := hP
  have hl := lv_entry ([.ref a7, .int p1, .int p2]) (n := 3) (Nat.le_of_ble_eq_true rfl)
  rw [lg_entry_eq]
  generalize (lg_sl ([.ref a7, .int p1, .int p2]) ++ List.replicate (3 - (lg_sl ([.ref a7, .int p1, .int p2])).length) Slot.unset).toArray = ls at hl ⊢
  have hl : lv_has ls 3 [(0, .ref a7), (1, .int p1), (2, .int p2)] := hl
  refine lv_aload_n hx hb dX7_load_0 rfl (lv_at hl 0 rfl) ?_
  refine lv_iload_n hx hb dX7_load_1 rfl (lv_at hl 1 rfl) ?_
  obtain ⟨r1, hc2, h⟩ := zB_spec h
  have hFc := zFree hD hS hA
  refine va_calli (va_runV (As := [.int p1]) (rest := []) ⟨hx, hb, hml, hown, hts⟩ (m_X7_isNode l dC dI y a7 h7 S7 p1 s.heap.size r1 hc2) (cwV 1 hts gX7_load_X7_isNode rfl rfl rfl (by decide +kernel) ⟨Nat.le_of_ble_eq_true rfl, Nat.le_of_ble_eq_true rfl⟩) ⟨fun a U g mk q => by obtain ⟨q0, q1, qP, qK, qD⟩ := q; exact ⟨q0, q1, qP, va_K.moved (u := U) (U := U.calling g mk a) (Vm.Alike.refl U.vm) qK, qD⟩, va_recv hK hP (ci := 6) (q0 := 0) rfl rfl, fun U hU hW => ⟨rfl, by rw [hU], by rw [hU]; exact hP, va_K.moved hW.alike hK, hD.weaken (fun _ _ _ _ => trivial)⟩⟩ rfl rfl hl.1 rfl (lv_room (Nat.le_of_ble_eq_true rfl)) dX7_load_2 ⟨Nat.le_of_ble_eq_true rfl, Nat.le_of_ble_eq_true rfl⟩) hS (fun q _ h => hFc q h) hFc (fun rr4 u t H3 locs ht hvm hw hB hz1 hk1 hS => ?_)
  obtain ⟨hP1, hK1, hD1⟩ := hB
  rw [ht] at hP1
  refine zTopi hw.symm ?_
  have hP := hP1
  have hD := hD1.weaken (fun _ q _ h => hFc q.1 h)
  have hP : va_P (dC, dI) vwCl (cX7 a7 h7 y S7) H3 := hP
  have hD : va_D A (cX7 a7 h7 y S7) := hD
  refine lv_if_eq (tgt := 26) hx hb dX7_load_5 (by decide) (fun c5 => ?_) (fun c5 => ?_)
  · have h := zY c5 h
    refine lv_iconst (v := 0) hx hb dX7_load_26 (by decide) ?_
    have ho0 : (0 : Int32) = or_ := congrArg (fun z : Int32 × SS => z.1) (Option.some.inj h)
    have ho1 : S7 = o_7 := congrArg (fun z : Int32 × SS => z.2) (Option.some.inj h)
    exact W.zret (v := 0) hx hb hr (by decide) (fun t ht hW => ⟨⟨0, (), rfl, ho0, by rw [ht]; rw [← ho1]; exact hP, va_K.moved hW.alike hK, by rw [← ho1]; exact hD⟩, hS.F ht⟩) hS.2.2 dX7_load_27
  · have h := zN c5 h
    refine lv_aload_n hx hb dX7_load_8 rfl (lv_at hl 0 rfl) ?_
    refine lv_iload_n hx hb dX7_load_9 rfl (lv_at hl 1 rfl) ?_
    obtain ⟨r6, hc7, h⟩ := zB_spec h
    have hFc := zFree hD hS hA
    refine va_calli (va_runV (As := [.int p1]) (rest := []) ⟨hx, hb, hml, hown, hts⟩ (m_X7_kind l dC dI y a7 h7 S7 p1 H3.size r6 hc7) (cwV 1 hts gX7_load_X7_kind rfl rfl rfl (by decide +kernel) ⟨Nat.le_of_ble_eq_true rfl, Nat.le_of_ble_eq_true rfl⟩) ⟨fun a U g mk q => by obtain ⟨q0, q1, qP, qK, qD⟩ := q; exact ⟨q0, q1, qP, va_K.moved (u := U) (U := U.calling g mk a) (Vm.Alike.refl U.vm) qK, qD⟩, va_recv hK hP (ci := 6) (q0 := 0) rfl rfl, fun U hU hW => ⟨rfl, by rw [hU], by rw [hU]; exact hP, va_K.moved hW.alike hK, hD.weaken (fun _ _ _ _ => trivial)⟩⟩ rfl rfl hl.1 rfl (lv_room (Nat.le_of_ble_eq_true rfl)) dX7_load_10 ⟨Nat.le_of_ble_eq_true rfl, Nat.le_of_ble_eq_true rfl⟩) hS (fun q _ h => hFc q h) hFc (fun rr9 u t H8 locs ht hvm hw hB hz1 hk1 hS => ?_)
    obtain ⟨hP1, hK1, hD1⟩ := hB
    rw [ht] at hP1
    refine zTopi hw.symm ?_
    have hP := hP1
    have hD := hD1.weaken (fun _ q _ h => hFc q.1 h)
    have hP : va_P (dC, dI) vwCl (cX7 a7 h7 y S7) H8 := hP
    have hD : va_D A (cX7 a7 h7 y S7) := hD
    refine lv_iconst (v := 3) hx hb dX7_load_13 (by decide) ?_
    refine lv_icmp_ne (tgt := 26) hx hb dX7_load_14 (by decide) (fun c10 => ?_) (fun c10 => ?_)
    · have h := zN c10 h
      refine lv_iconst (v := 0) hx hb dX7_load_26 (by decide) ?_
      have ho0 : (0 : Int32) = or_ := congrArg (fun z : Int32 × SS => z.1) (Option.some.inj h)
      have ho1 : S7 = o_7 := congrArg (fun z : Int32 × SS => z.2) (Option.some.inj h)
      exact W.zret (v := 0) hx hb hr (by decide) (fun t ht hW => ⟨⟨0, (), rfl, ho0, by rw [ht]; rw [← ho1]; exact hP, va_K.moved hW.alike hK, by rw [← ho1]; exact hD⟩, hS.F ht⟩) hS.2.2 dX7_load_27
    · have h := zY c10 h
      refine lv_iload_n hx hb dX7_load_17 rfl (lv_at hl 2 rfl) ?_
      refine lv_if_lt (tgt := 26) hx hb dX7_load_18 (by decide) (fun c11 => ?_) (fun c11 => ?_)
      · have h := zY c11 h
        refine lv_iconst (v := 0) hx hb dX7_load_26 (by decide) ?_
        have ho0 : (0 : Int32) = or_ := congrArg (fun z : Int32 × SS => z.1) (Option.some.inj h)
        have ho1 : S7 = o_7 := congrArg (fun z : Int32 × SS => z.2) (Option.some.inj h)
        exact W.zret (v := 0) hx hb hr (by decide) (fun t ht hW => ⟨⟨0, (), rfl, ho0, by rw [ht]; rw [← ho1]; exact hP, va_K.moved hW.alike hK, by rw [← ho1]; exact hD⟩, hS.F ht⟩) hS.2.2 dX7_load_27
      · have h := zN c11 h
        refine lv_iload_n hx hb dX7_load_21 rfl (lv_at hl 2 rfl) ?_
        refine lv_iconst (v := 2) hx hb dX7_load_22 (by decide) ?_
        refine lv_icmp_le (tgt := 28) hx hb dX7_load_23 (by decide) (fun c12 => ?_) (fun c12 => ?_)
        · have h := zY c12 h
          refine lv_aload_n hx hb dX7_load_28 rfl (lv_at hl 0 rfl) ?_
          refine va_get (D := (dC, dI)) (ci := 6) (v := .ref (h7 33)) (C := RX7) (T := TX7) (N := 49) hx hb hts inX7_ hown hK hP 0 rfl rfl 33 (by decide) (hts (.fieldLink RX7 71 "GateWheelModel" "source" "[I") (List.mem_of_getElem? (i := 1) rfl)) (fun _ h9 => h9) rfl dX7_load_29 ?_
          refine lv_iload_n hx hb dX7_load_32 rfl (lv_at hl 1 rfl) ?_
          refine lv_iload_n hx hb dX7_load_33 rfl (lv_at hl 2 rfl) ?_
          obtain ⟨hi13, h⟩ := zG_spec h
          refine va_iast hx hb hK hP hD hS 19 0 rfl rfl hi13 dX7_load_34 (fun H14 locs hP hD hS => ?_)
          obtain ⟨s7_15, es7_15, h⟩ := zL_spec h
          have hP : va_P (dC, dI) vwCl (cX7 a7 h7 y s7_15) H14 := by rw [es7_15]; exact hP
          have hD : va_D A (cX7 a7 h7 y s7_15) := by rw [es7_15]; exact hD
          refine lv_aload_n hx hb dX7_load_35 rfl (lv_at hl 0 rfl) ?_
          obtain ⟨s7_16, hc17, h⟩ := zB_spec h
          have hFc := zFree hD hS hA
          refine va_callv (va_runV (As := []) (rest := []) ⟨hx, hb, hml, hown, hts⟩ (m_X7_settle l dC dI y a7 h7 s7_15 H14.size s7_16 hc17) (cwV 0 hts gX7_load_X7_settle rfl rfl rfl (by decide +kernel) ⟨Nat.le_of_ble_eq_true rfl, Nat.le_of_ble_eq_true rfl⟩) ⟨fun a U g mk q => by obtain ⟨q0, q1, qP, qK, qD⟩ := q; exact ⟨q0, q1, qP, va_K.moved (u := U) (U := U.calling g mk a) (Vm.Alike.refl U.vm) qK, qD⟩, va_recv hK hP (ci := 6) (q0 := 0) rfl rfl, fun U hU hW => ⟨rfl, by rw [hU], by rw [hU]; exact hP, va_K.moved hW.alike hK, hD.weaken (fun _ _ _ _ => trivial)⟩⟩ rfl rfl hl.1 rfl (lv_room (Nat.le_of_ble_eq_true rfl)) dX7_load_36 ⟨Nat.le_of_ble_eq_true rfl, Nat.le_of_ble_eq_true rfl⟩) hS (fun q _ h => hFc q h) hFc (fun u t H18 locs ht hvm hw hB hz1 hk1 hS => ?_)
          obtain ⟨hP1, hK1, hD1⟩ := hB
          rw [ht] at hP1
          have hP := hP1
          have hD := hD1.weaken (fun _ q _ h => hFc q.1 h)
          have hP : va_P (dC, dI) vwCl (cX7 a7 h7 y s7_16) H18 := hP
          have hD : va_D A (cX7 a7 h7 y s7_16) := hD
          refine lv_iconst (v := 1) hx hb dX7_load_39 (by decide) ?_
          have ho0 : (1 : Int32) = or_ := congrArg (fun z : Int32 × SS => z.1) (Option.some.inj h)
          have ho1 : s7_16 = o_7 := congrArg (fun z : Int32 × SS => z.2) (Option.some.inj h)
          exact W.zret (v := 1) hx hb hr (by decide) (fun t ht hW => ⟨⟨1, (), rfl, ho0, by rw [ht]; rw [← ho1]; exact hP, va_K.moved hW.alike hK, by rw [← ho1]; exact hD⟩, hS.F ht⟩) hS.2.2 dX7_load_40
        · have h := zN c12 h
          refine lv_iconst (v := 0) hx hb dX7_load_26 (by decide) ?_
          have ho0 : (0 : Int32) = or_ := congrArg (fun z : Int32 × SS => z.1) (Option.some.inj h)
          have ho1 : S7 = o_7 := congrArg (fun z : Int32 × SS => z.2) (Option.some.inj h)
          exact W.zret (v := 0) hx hb hr (by decide) (fun t ht hW => ⟨⟨0, (), rfl, ho0, by rw [ht]; rw [← ho1]; exact hP, va_K.moved hW.alike hK, by rw [← ho1]; exact hD⟩, hS.F ht⟩) hS.2.2 dX7_load_27

set_option maxHeartbeats 4000000 in
set_option maxRecDepth 100000 in
theorem m_X7_value (l : Launch) (dC : Nat → ClassId) (dI : Nat → Nat → Nat) (y : Nat → ClassId) (a7 : Nat) (h7 : Nat → Nat) (S7 : SS) (p1 : Int32) (sz : Nat) (or_ : Int32) (h : f_X7_value S7 p1 = some or_) : Met l yX7_value wsX7_value ({ frames := 1, cells := 0, slots := 0, locals := 21 }) (va_Pc [.ref a7, .int p1] (fun U => U.heap.size = sz ∧ va_P (dC, dI) vwCl (cX7 a7 h7 y S7) U.heap ∧ va_K (dC, dI) vwCl [(y 0, .int), (y 1, .long), (y 2, .byte), (y 3, .boolean)] U ∧ va_D (fun _ => True) (cX7 a7 h7 y S7))) (va_Qi (fun (r : Int32) (_ : Unit) => r = or_) (fun (_ : Unit) (t : State) => va_P (dC, dI) vwCl (cX7 a7 h7 y S7) t.heap ∧ va_K (dC, dI) vwCl [(y 0, .int), (y 1, .long), (y 2, .byte), (y 3, .boolean)] t ∧ va_D (va_A (cX7 a7 h7 y S7) sz) (cX7 a7 h7 y S7)) (va_A (cX7 a7 h7 y S7) sz)) 0 0 (va_A (cX7 a7 h7 y S7) sz) := by
  refine Met.ofW (cc := cX7_value) (maxL := 2) (ret := (some .int)) (by decide +kernel) rfl ?_
  intro p e s m args below meth c s₁ B hml hv
  obtain ⟨rfl, hsz, hP, hK, hD0⟩ := hv
  have hx := B.exec
  have hb := B.bytes
  have hr := B.returns
  have hts := atoms_spec (ws := wsX7_value) B.pre
  have hown : s.vm.findClass RX7 = some m.cls := findClass_of_methodNamed B.named
  have hlocks := B.notSynchronized
  have inX7_ : ∀ w ∈ wsX70, w ∈ wsX7_value := fun _ h => List.mem_cons_of_mem _ (List.mem_append_right _ h)
  subst hsz
  have hD := hD0.self (sz := s.heap.size)
  generalize hAe : va_A (cX7 a7 h7 y S7) s.heap.size = A at hD ⊢
  have hA : ∀ q : Nat, s.heap.size ≤ q → A q := fun q h => by rw [← hAe]; exact Or.inr h
  have hS : va_S A s.heap s.heap [] := va_S.rf
  have hP : va_P (dC, dI) vwCl (cX7 a7 h7 y S7) s.heap := hP
  have hl := lv_entry ([.ref a7, .int p1]) (n := 2) (Nat.le_of_ble_eq_true rfl)
  rw [lg_entry_eq]
  generalize (lg_sl ([.ref a7, .int p1]) ++ List.replicate (2 - (lg_sl ([.ref a7, .int p1])).length) Slot.unset).toArray = ls at hl ⊢
  have hl : lv_has ls 2 [(0, .ref a7), (1, .int p1)] := hl
  refine lv_aload_n hx hb dX7_value_0 rfl (lv_at hl 0 rfl) ?_
  refine lv_iload_n hx hb dX7_value_1 rfl (lv_at hl 1 rfl) ?_
  obtain ⟨r1, hc2, h⟩ := zB_spec h
  have hFc := zFree hD hS hA
  refine va_calli (va_runV (As := [.int p1]) (rest := []) ⟨hx, hb, hml, hown, hts⟩ (m_X7_isNode l dC dI y a7 h7 S7 p1 s.heap.size r1 hc2) (cwV 1 hts gX7_value_X7_isNode rfl rfl rfl (by decide +kernel) ⟨Nat.le_of_ble_eq_true rfl, Nat.le_of_ble_eq_true rfl⟩) ⟨fun a U g mk q => by obtain ⟨q0, q1, qP, qK, qD⟩ := q; exact ⟨q0, q1, qP, va_K.moved (u := U) (U := U.calling g mk a) (Vm.Alike.refl U.vm) qK, qD⟩, va_recv hK hP (ci := 6) (q0 := 0) rfl rfl, fun U hU hW => ⟨rfl, by rw [hU], by rw [hU]; exact hP, va_K.moved hW.alike hK, hD.weaken (fun _ _ _ _ => trivial)⟩⟩ rfl rfl hl.1 rfl (lv_room (Nat.le_of_ble_eq_true rfl)) dX7_value_2 ⟨Nat.le_of_ble_eq_true rfl, Nat.le_of_ble_eq_true rfl⟩) hS (fun q _ h => hFc q h) hFc (fun rr4 u t H3 locs ht hvm hw hB hz1 hk1 hS => ?_)
  obtain ⟨hP1, hK1, hD1⟩ := hB
  rw [ht] at hP1
  refine zTopi hw.symm ?_
  have hP := hP1
  have hD := hD1.weaken (fun _ q _ h => hFc q.1 h)
  have hP : va_P (dC, dI) vwCl (cX7 a7 h7 y S7) H3 := hP
  have hD : va_D A (cX7 a7 h7 y S7) := hD
  refine lv_if_eq (tgt := 17) hx hb dX7_value_5 (by decide) (fun c5 => ?_) (fun c5 => ?_)
  · have h := zY c5 h
    refine lv_iconst (v := (-1)) hx hb dX7_value_17 (by decide) ?_
    have ho0 : (-1 : Int32) = or_ := congrArg (fun z : Int32 => z) (Option.some.inj h)
    exact W.iret (v := (-1)) hx hb hr (fun t ht hW => ⟨⟨(-1), (), rfl, ho0, by rw [ht]; exact hP, va_K.moved hW.alike hK, hD⟩, hS.F ht⟩) hS.2.2 dX7_value_18
  · have h := zN c5 h
    refine lv_aload_n hx hb dX7_value_8 rfl (lv_at hl 0 rfl) ?_
    refine va_get (D := (dC, dI)) (ci := 6) (v := .ref (h7 34)) (C := RX7) (T := TX7) (N := 49) hx hb hts inX7_ hown hK hP 0 rfl rfl 34 (by decide) (hts (.fieldLink RX7 74 "GateWheelModel" "values" "[I") (List.mem_of_getElem? (i := 1) rfl)) (fun _ h9 => h9) rfl dX7_value_9 ?_
    refine lv_iload_n hx hb dX7_value_12 rfl (lv_at hl 1 rfl) ?_
    obtain ⟨hi6, h⟩ := zG_spec h
    refine va_iald hx hb hK hP 20 0 rfl rfl hi6 dX7_value_13 ?_
    refine lv_goto (tgt := 18) hx hb dX7_value_14 (by decide) ?_
    have ho0 : (gA S7 34 p1.toNatClampNeg) = or_ := congrArg (fun z : Int32 => z) (Option.some.inj h)
    exact W.iret (v := (gA S7 34 p1.toNatClampNeg)) hx hb hr (fun t ht hW => ⟨⟨(gA S7 34 p1.toNatClampNeg), (), rfl, ho0, by rw [ht]; exact hP, va_K.moved hW.alike hK, hD⟩, hS.F ht⟩) hS.2.2 dX7_value_18

set_option maxHeartbeats 4000000 in
set_option maxRecDepth 100000 in
theorem m_X7_tick (l : Launch) (dC : Nat → ClassId) (dI : Nat → Nat → Nat) (y : Nat → ClassId) (a7 : Nat) (h7 : Nat → Nat) (S7 : SS) (sz : Nat) (or_ : Int32) (o_7 : SS) (h : f_X7_tick S7 = some (or_, o_7)) : Met l yX7_tick wsX7_tick ({ frames := 4, cells := 0, slots := 0, locals := 94 }) (va_Pc [.ref a7] (fun U => U.heap.size = sz ∧ va_P (dC, dI) vwCl (cX7 a7 h7 y S7) U.heap ∧ va_K (dC, dI) vwCl [(y 0, .int), (y 1, .long), (y 2, .byte), (y 3, .boolean)] U ∧ va_D (fun _ => True) (cX7 a7 h7 y S7))) (va_Qi (fun (r : Int32) (_ : Unit) => r = or_) (fun (_ : Unit) (t : State) => va_P (dC, dI) vwCl (cX7 a7 h7 y o_7) t.heap ∧ va_K (dC, dI) vwCl [(y 0, .int), (y 1, .long), (y 2, .byte), (y 3, .boolean)] t ∧ va_D (va_A (cX7 a7 h7 y S7) sz) (cX7 a7 h7 y o_7)) (va_A (cX7 a7 h7 y S7) sz)) 0 0 (va_A (cX7 a7 h7 y S7) sz) := by
  refine Met.ofW (cc := cX7_tick) (maxL := 6) (ret := (some .int)) (by decide +kernel) rfl ?_
  intro p e s m args below meth c s₁ B hml hv
  obtain ⟨rfl, hsz, hP, hK, hD0⟩ := hv
  have hx := B.exec
  have hb := B.bytes
  have hr := B.returns
  have hts := atoms_spec (ws := wsX7_tick) B.pre
  have hown : s.vm.findClass RX7 = some m.cls := findClass_of_methodNamed B.named
  have hlocks := B.notSynchronized
  have inX7_ : ∀ w ∈ wsX70, w ∈ wsX7_tick := fun _ h => List.mem_cons_of_mem _ (List.mem_append_right _ h)
  subst hsz
  have hD := hD0.self (sz := s.heap.size)
  generalize hAe : va_A (cX7 a7 h7 y S7) s.heap.size = A at hD ⊢
  have hA : ∀ q : Nat, s.heap.size ≤ q → A q := fun q h => by rw [← hAe]; exact Or.inr h
  have hS : va_S A s.heap s.heap [] := va_S.rf
  have hP : va_P (dC, dI) vwCl (cX7 a7 h7 y S7) s.heap := hP
  have hl := lv_entry ([.ref a7]) (n := 6) (Nat.le_of_ble_eq_true rfl)
  rw [lg_entry_eq]
  generalize (lg_sl ([.ref a7]) ++ List.replicate (6 - (lg_sl ([.ref a7])).length) Slot.unset).toArray = ls at hl ⊢
  have hl : lv_has ls 6 [(0, .ref a7)] := hl
  refine lv_iconst (v := 0) hx hb dX7_tick_0 (by decide) ?_
  refine lv_istore_n (lv' := [(1, .int 0), (0, .ref a7)]) hx hb dX7_tick_1 rfl hl (by decide) rfl (fun ls hl => ?_)
  refine lv_iconst (v := 0) hx hb dX7_tick_2 (by decide) ?_
  refine lv_istore_n (lv' := [(2, .int 0), (1, .int 0), (0, .ref a7)]) hx hb dX7_tick_3 rfl hl (by decide) rfl (fun ls hl => ?_)
  refine W_abs (fun GW1 eG2 => ?_)
  obtain ⟨ov5, hi6, h⟩ := zB_spec h
  have je3 : ∀ (v10 : Int32) (s7_11 : SS) (HGW1e : Heap) (locs : List Loc) (ls : Array Slot), (v10, s7_11) = ov5 → va_P (dC, dI) vwCl (cX7 a7 h7 y s7_11) HGW1e → va_D A (cX7 a7 h7 y s7_11) → va_S A s.heap HGW1e locs → lv_has ls 6 [(0, .ref a7), (1, .int v10)] → GW1 HGW1e locs 0 0 (F0 m 147 ls []) := by
    intro v10 s7_11 HGW1e locs ls hv hP hD hS hl
    subst hv
    refine (eG2 _ _ _ _ _).mpr ?_
    refine lv_aload_n hx hb dX7_tick_147 rfl (lv_at hl 0 rfl) ?_
    obtain ⟨s7_12, hc13, h⟩ := zB_spec h
    have hFc := zFree hD hS hA
    refine va_callv (va_runV (As := []) (rest := []) ⟨hx, hb, hml, hown, hts⟩ (m_X7_settle l dC dI y a7 h7 s7_11 HGW1e.size s7_12 hc13) (cwV 0 hts gX7_tick_X7_settle rfl rfl rfl (by decide +kernel) ⟨Nat.le_of_ble_eq_true rfl, Nat.le_of_ble_eq_true rfl⟩) ⟨fun a U g mk q => by obtain ⟨q0, q1, qP, qK, qD⟩ := q; exact ⟨q0, q1, qP, va_K.moved (u := U) (U := U.calling g mk a) (Vm.Alike.refl U.vm) qK, qD⟩, va_recv hK hP (ci := 6) (q0 := 0) rfl rfl, fun U hU hW => ⟨rfl, by rw [hU], by rw [hU]; exact hP, va_K.moved hW.alike hK, hD.weaken (fun _ _ _ _ => trivial)⟩⟩ rfl rfl hl.1 rfl (lv_room (Nat.le_of_ble_eq_true rfl)) dX7_tick_148 ⟨Nat.le_of_ble_eq_true rfl, Nat.le_of_ble_eq_true rfl⟩) hS (fun q _ h => hFc q h) hFc (fun u t H14 locs ht hvm hw hB hz1 hk1 hS => ?_)
    obtain ⟨hP1, hK1, hD1⟩ := hB
    rw [ht] at hP1
    have hP := hP1
    have hD := hD1.weaken (fun _ q _ h => hFc q.1 h)
    have hP : va_P (dC, dI) vwCl (cX7 a7 h7 y s7_12) H14 := hP
    have hD : va_D A (cX7 a7 h7 y s7_12) := hD
    refine lv_iload_n hx hb dX7_tick_151 rfl (lv_at hl 1 rfl) ?_
    have ho0 : v10 = or_ := congrArg (fun z : Int32 × SS => z.1) (Option.some.inj h)
    have ho1 : s7_12 = o_7 := congrArg (fun z : Int32 × SS => z.2) (Option.some.inj h)
    exact W.iret (v := v10) hx hb hr (fun t ht hW => ⟨⟨v10, (), rfl, ho0, by rw [ht]; rw [← ho1]; exact hP, va_K.moved hW.alike hK, by rw [← ho1]; exact hD⟩, hS.F ht⟩) hS.2.2 dX7_tick_152
  have lp4 : ∀ (n : Nat) (v16 : Int32) (v17 : Int32) (s7_18 : SS) (HGW1 : Heap) (locs : List Loc) (ls : Array Slot), zI (b_X7_tick_4) n (v16, v17, s7_18) = some ov5 → va_P (dC, dI) vwCl (cX7 a7 h7 y s7_18) HGW1 → va_D A (cX7 a7 h7 y s7_18) → va_S A s.heap HGW1 locs → lv_has ls 6 [(0, .ref a7), (1, .int v16), (2, .int v17)] → GW1 HGW1 locs 0 0 (F0 m 4 ls []) := by
    intro n
    induction n with
    | zero =>
      intro v16 v17 s7_18 HGW1 locs ls hi6 hP hD hS hl
      exact (zI_0 hi6).elim
    | succ n ihlp4 =>
      intro v16 v17 s7_18 HGW1 locs ls hi6 hP hD hS hl
      refine (eG2 _ _ _ _ _).mpr ?_
      obtain ⟨xx9, h, hx8⟩ := zI_spec hi6
      refine lv_iload_n hx hb dX7_tick_4 rfl (lv_at hl 2 rfl) ?_
      refine lv_aload_n hx hb dX7_tick_5 rfl (lv_at hl 0 rfl) ?_
      refine va_get (D := (dC, dI)) (ci := 6) (v := .int (gI s7_18 29)) (C := RX7) (T := TX7) (N := 49) hx hb hts inX7_ hown hK hP 0 rfl rfl 29 (by decide) (hts (.fieldLink RX7 261 "GateWheelModel" "nodes" "I") (List.mem_of_getElem? (i := 1) rfl)) (fun _ h9 => h9) rfl dX7_tick_6 ?_
      refine lv_icmp_ge (tgt := 147) hx hb dX7_tick_9 (by decide) (fun c19 => ?_) (fun c19 => ?_)
      · have h := zY c19 h
        exact (eG2 _ _ _ _ _).mp (je3 v16 s7_18 _ _ _ (zI_r h hx8) hP hD hS (lv_sub hl [0, 1] rfl))
      · have h := zN c19 h
        refine lv_aload_n hx hb dX7_tick_12 rfl (lv_at hl 0 rfl) ?_
        refine lv_iload_n hx hb dX7_tick_13 rfl (lv_at hl 2 rfl) ?_
        obtain ⟨r20, hc21, h⟩ := zB_spec h
        have hFc := zFree hD hS hA
        refine va_calli (va_runV (As := [.int v17]) (rest := []) ⟨hx, hb, hml, hown, hts⟩ (m_X7_kind l dC dI y a7 h7 s7_18 v17 HGW1.size r20 hc21) (cwV 1 hts gX7_tick_X7_kind rfl rfl rfl (by decide +kernel) ⟨Nat.le_of_ble_eq_true rfl, Nat.le_of_ble_eq_true rfl⟩) ⟨fun a U g mk q => by obtain ⟨q0, q1, qP, qK, qD⟩ := q; exact ⟨q0, q1, qP, va_K.moved (u := U) (U := U.calling g mk a) (Vm.Alike.refl U.vm) qK, qD⟩, va_recv hK hP (ci := 6) (q0 := 0) rfl rfl, fun U hU hW => ⟨rfl, by rw [hU], by rw [hU]; exact hP, va_K.moved hW.alike hK, hD.weaken (fun _ _ _ _ => trivial)⟩⟩ rfl rfl hl.1 rfl (lv_room (Nat.le_of_ble_eq_true rfl)) dX7_tick_14 ⟨Nat.le_of_ble_eq_true rfl, Nat.le_of_ble_eq_true rfl⟩) hS (fun q _ h => hFc q h) hFc (fun rr23 u t H22 locs ht hvm hw hB hz1 hk1 hS => ?_)
        obtain ⟨hP1, hK1, hD1⟩ := hB
        rw [ht] at hP1
        refine zTopi hw.symm ?_
        have hP := hP1
        have hD := hD1.weaken (fun _ q _ h => hFc q.1 h)
        have hP : va_P (dC, dI) vwCl (cX7 a7 h7 y s7_18) H22 := hP
        have hD : va_D A (cX7 a7 h7 y s7_18) := hD
        refine lv_iconst (v := 3) hx hb dX7_tick_17 (by decide) ?_
        refine lv_icmp_eq (tgt := 24) hx hb dX7_tick_18 (by decide) (fun c24 => ?_) (fun c24 => ?_)
        · have h := zY c24 h
          refine lv_aload_n hx hb dX7_tick_24 rfl (lv_at hl 0 rfl) ?_
          refine va_get (D := (dC, dI)) (ci := 6) (v := .ref (h7 34)) (C := RX7) (T := TX7) (N := 49) hx hb hts inX7_ hown hK hP 0 rfl rfl 34 (by decide) (hts (.fieldLink RX7 74 "GateWheelModel" "values" "[I") (List.mem_of_getElem? (i := 2) rfl)) (fun _ h9 => h9) rfl dX7_tick_25 ?_
          refine lv_aload_n hx hb dX7_tick_28 rfl (lv_at hl 0 rfl) ?_
          refine lv_iload_n hx hb dX7_tick_29 rfl (lv_at hl 2 rfl) ?_
          refine lv_iconst (v := 0) hx hb dX7_tick_30 (by decide) ?_
          obtain ⟨r25, hc26, h⟩ := zB_spec h
          have hFc := zFree hD hS hA
          refine va_calli (va_runV (As := [.int v17, .int 0]) (rest := [.ref (h7 34)]) ⟨hx, hb, hml, hown, hts⟩ (m_X7_in l dC dI y a7 h7 s7_18 v17 (0 : Int32) H22.size r25 hc26) (cwV 2 hts gX7_tick_X7_in rfl rfl rfl (by decide +kernel) ⟨Nat.le_of_ble_eq_true rfl, Nat.le_of_ble_eq_true rfl⟩) ⟨fun a U g mk q => by obtain ⟨q0, q1, qP, qK, qD⟩ := q; exact ⟨q0, q1, qP, va_K.moved (u := U) (U := U.calling g mk a) (Vm.Alike.refl U.vm) qK, qD⟩, va_recv hK hP (ci := 6) (q0 := 0) rfl rfl, fun U hU hW => ⟨rfl, by rw [hU], by rw [hU]; exact hP, va_K.moved hW.alike hK, hD.weaken (fun _ _ _ _ => trivial)⟩⟩ rfl rfl hl.1 rfl (lv_room (Nat.le_of_ble_eq_true rfl)) dX7_tick_31 ⟨Nat.le_of_ble_eq_true rfl, Nat.le_of_ble_eq_true rfl⟩) hS (fun q _ h => hFc q h) hFc (fun rr28 u t H27 locs ht hvm hw hB hz1 hk1 hS => ?_)
          obtain ⟨hP1, hK1, hD1⟩ := hB
          rw [ht] at hP1
          refine zTopi hw.symm ?_
          have hP := hP1
          have hD := hD1.weaken (fun _ q _ h => hFc q.1 h)
          have hP : va_P (dC, dI) vwCl (cX7 a7 h7 y s7_18) H27 := hP
          have hD : va_D A (cX7 a7 h7 y s7_18) := hD
          obtain ⟨hi29, h⟩ := zG_spec h
          refine va_iald hx hb hK hP 20 0 rfl rfl hi29 dX7_tick_34 ?_
          obtain ⟨r30, hc31, h⟩ := zB_spec h
          have hPc := hP.sub (ws' := []) [] rfl
          have hDc := hD.sub (ws' := []) [] (by decide) rfl
          have hFc := va_free (wc := []) hD hS hA [] rfl
          refine va_calli (va_runS (As := [.int (gA s7_18 34 r25.toNatClampNeg)]) (rest := []) ⟨hx, hb, hml, hown, hts⟩ (m_X7_taken l dC dI y (gA s7_18 34 r25.toNatClampNeg) H27.size r30 hc31) (va_cwS 1 hts gX7_tick_X7_taken rfl rfl rfl (by decide +kernel) ⟨Nat.le_of_ble_eq_true rfl, Nat.le_of_ble_eq_true rfl⟩) ⟨fun a U g mk q => by obtain ⟨q0, q1, qP, qK, qD⟩ := q; exact ⟨q0, q1, qP, va_K.moved (u := U) (U := U.calling g mk a) (Vm.Alike.refl U.vm) qK, qD⟩, fun U hU hW => ⟨rfl, by rw [hU], by rw [hU]; exact hPc, va_K.moved hW.alike hK, hDc.weaken (fun _ _ _ _ => trivial)⟩⟩ rfl rfl hl.1 rfl (lv_room (Nat.le_of_ble_eq_true rfl)) dX7_tick_35 ⟨Nat.le_of_ble_eq_true rfl, Nat.le_of_ble_eq_true rfl⟩) hS (fun q _ h => hFc q h) hFc (fun rr33 u t H32 locs ht hvm hw hB hz1 hk1 hS => ?_)
          obtain ⟨hP1, hK1, hD1⟩ := hB
          rw [ht] at hP1
          refine zTopi hw.symm ?_
          obtain ⟨hP, hD⟩ := va_join (wr := [(oX7 a7 h7 s7_18), (h7 0, .inl (y 2, 2020, .inl (gA s7_18 0))), (h7 1, .inl (y 2, 2000, .inl (gA s7_18 1))), (h7 11, .inl (y 1, 120, .inr (.inl (gB s7_18 11)))), (h7 12, .inl (y 0, 120, .inl (gA s7_18 12))), (h7 13, .inl (y 0, 120, .inl (gA s7_18 13))), (h7 14, .inl (y 0, 120, .inl (gA s7_18 14))), (h7 15, .inl (y 0, 120, .inl (gA s7_18 15))), (h7 16, .inl (y 0, 1440, .inl (gA s7_18 16))), (h7 17, .inl (y 0, 120, .inl (gA s7_18 17))), (h7 18, .inl (y 0, 60, .inl (gA s7_18 18))), (h7 19, .inl (y 3, 720, .inl (gA s7_18 19))), (h7 20, .inl (y 1, 1000, .inr (.inl (gB s7_18 20)))), (h7 21, .inl (y 0, 1000, .inl (gA s7_18 21))), (h7 22, .inl (y 0, 1000, .inl (gA s7_18 22))), (h7 23, .inl (y 1, 200, .inr (.inl (gB s7_18 23)))), (h7 24, .inl (y 0, 200, .inl (gA s7_18 24))), (h7 25, .inl (y 3, 200, .inl (gA s7_18 25))), (h7 32, .inl (y 3, 60, .inl (gA s7_18 32))), (h7 33, .inl (y 0, 60, .inl (gA s7_18 33))), (h7 34, .inl (y 0, 60, .inl (gA s7_18 34))), (h7 35, .inl (y 0, 60, .inl (gA s7_18 35))), (h7 36, .inl (y 0, 60, .inl (gA s7_18 36))), (h7 37, .inl (y 0, 60, .inl (gA s7_18 37))), (h7 38, .inl (y 0, 60, .inl (gA s7_18 38))), (h7 40, .inl (y 0, 60, .inl (gA s7_18 40))), (h7 41, .inl (y 0, 60, .inl (gA s7_18 41))), (h7 42, .inl (y 0, 600, .inl (gA s7_18 42))), (h7 43, .inl (y 0, 1200, .inl (gA s7_18 43))), (h7 44, .inl (y 0, 60, .inl (gA s7_18 44))), (h7 45, .inl (y 3, 60, .inl (gA s7_18 45)))]) (w1 := []) hP hD [] [0, 1, 2, 3, 4, 5, 6, 7, 8, 9, 10, 11, 12, 13, 14, 15, 16, 17, 18, 19, 20, 21, 22, 23, 24, 25, 26, 27, 28, 29, 30] rfl rfl (by decide) (by decide) hk1 hFc hP1 hD1
          have hP : va_P (dC, dI) vwCl (cX7 a7 h7 y s7_18) H32 := hP.sub [0, 1, 2, 3, 4, 5, 6, 7, 8, 9, 10, 11, 12, 13, 14, 15, 16, 17, 18, 19, 20, 21, 22, 23, 24, 25, 26, 27, 28, 29, 30] rfl
          have hD : va_D A (cX7 a7 h7 y s7_18) := hD.sub [0, 1, 2, 3, 4, 5, 6, 7, 8, 9, 10, 11, 12, 13, 14, 15, 16, 17, 18, 19, 20, 21, 22, 23, 24, 25, 26, 27, 28, 29, 30] (by decide) rfl
          refine lv_istore_n (lv' := [(3, .int r30), (0, .ref a7), (1, .int v16), (2, .int v17)]) hx hb dX7_tick_38 rfl hl (by decide) rfl (fun ls hl => ?_)
          refine lv_aload_n hx hb dX7_tick_39 rfl (lv_at hl 1 rfl) ?_
          refine va_get (D := (dC, dI)) (ci := 6) (v := .ref (h7 14)) (C := RX7) (T := TX7) (N := 49) hx hb hts inX7_ hown hK hP 0 rfl rfl 14 (by decide) (hts (.fieldLink RX7 31 "GateWheelModel" "nMany" "[I") (List.mem_of_getElem? (i := 3) rfl)) (fun _ h9 => h9) rfl dX7_tick_40 ?_
          refine lv_bipush (v := 60) hx hb dX7_tick_43 (by decide) ?_
          refine lv_aload_n hx hb dX7_tick_45 rfl (lv_at hl 1 rfl) ?_
          refine va_get (D := (dC, dI)) (ci := 6) (v := .int (gI s7_18 30)) (C := RX7) (T := TX7) (N := 49) hx hb hts inX7_ hown hK hP 0 rfl rfl 30 (by decide) (hts (.fieldLink RX7 188 "GateWheelModel" "bank" "I") (List.mem_of_getElem? (i := 4) rfl)) (fun _ h9 => h9) rfl dX7_tick_46 ?_
          refine lv_imul hx hb dX7_tick_49 ?_
          refine lv_iload_n hx hb dX7_tick_50 rfl (lv_at hl 3 rfl) ?_
          refine lv_iadd hx hb dX7_tick_51 ?_
          obtain ⟨hi34, h⟩ := zG_spec h
          refine va_iald hx hb hK hP 6 0 rfl rfl hi34 dX7_tick_52 ?_
          refine lv_iconst (v := 1) hx hb dX7_tick_53 (by decide) ?_
          refine W_abs (fun GW35 eG36 => ?_)
          obtain ⟨ov38, hr39, h⟩ := zB_spec h
          have jn37 : ∀ (v41 : Int32) (HGW35 : Heap) (locs : List Loc) (ls : Array Slot), v41 = ov38 → va_P (dC, dI) vwCl (cX7 a7 h7 y s7_18) HGW35 → va_D A (cX7 a7 h7 y s7_18) → va_S A s.heap HGW35 locs → lv_has ls 6 [(3, .int r30), (0, .ref a7), (1, .int v16), (2, .int v17)] → GW35 HGW35 locs 0 0 (F0 m 75 ls [.int v41]) := by
            intro v41 HGW35 locs ls hv hP hD hS hl
            subst hv
            refine (eG36 _ _ _ _ _).mpr ?_
            refine lv_istore (lv' := [(4, .int v41), (3, .int r30), (0, .ref a7), (1, .int v16), (2, .int v17)]) hx hb dX7_tick_75 hl (by decide) rfl (fun ls hl => ?_)
            refine lv_iload hx hb dX7_tick_77 (lv_at hl 0 rfl) ?_
            refine lv_iconst (v := 1) hx hb dX7_tick_79 (by decide) ?_
            refine W_abs (fun GW42 eG43 => ?_)
            obtain ⟨ov45, hr46, h⟩ := zB_spec h
            have jn44 : ∀ (v48 : Int32) (HGW42 : Heap) (locs : List Loc) (ls : Array Slot), v48 = ov45 → va_P (dC, dI) vwCl (cX7 a7 h7 y s7_18) HGW42 → va_D A (cX7 a7 h7 y s7_18) → va_S A s.heap HGW42 locs → lv_has ls 6 [(0, .ref a7), (1, .int v16), (2, .int v17)] → GW42 HGW42 locs 0 0 (F0 m 112 ls [.int v48]) := by
              intro v48 HGW42 locs ls hv hP hD hS hl
              subst hv
              refine (eG43 _ _ _ _ _).mpr ?_
              refine lv_istore (lv' := [(5, .int v48), (0, .ref a7), (1, .int v16), (2, .int v17)]) hx hb dX7_tick_112 hl (by decide) rfl (fun ls hl => ?_)
              refine lv_iload_n hx hb dX7_tick_114 rfl (lv_at hl 2 rfl) ?_
              refine lv_iload hx hb dX7_tick_115 (lv_at hl 0 rfl) ?_
              refine lv_aload_n hx hb dX7_tick_117 rfl (lv_at hl 1 rfl) ?_
              refine va_get (D := (dC, dI)) (ci := 6) (v := .ref (h7 34)) (C := RX7) (T := TX7) (N := 49) hx hb hts inX7_ hown hK hP 0 rfl rfl 34 (by decide) (hts (.fieldLink RX7 74 "GateWheelModel" "values" "[I") (List.mem_of_getElem? (i := 2) rfl)) (fun _ h9 => h9) rfl dX7_tick_118 ?_
              refine lv_iload_n hx hb dX7_tick_121 rfl (lv_at hl 3 rfl) ?_
              obtain ⟨hi49, h⟩ := zG_spec h
              refine va_iald hx hb hK hP 20 0 rfl rfl hi49 dX7_tick_122 ?_
              refine W_abs (fun GW50 eG51 => ?_)
              obtain ⟨ov53, hr54, h⟩ := zB_spec h
              have jn52 : ∀ (v56 : Int32) (HGW50 : Heap) (locs : List Loc) (ls : Array Slot), v56 = ov53 → va_P (dC, dI) vwCl (cX7 a7 h7 y s7_18) HGW50 → va_D A (cX7 a7 h7 y s7_18) → va_S A s.heap HGW50 locs → lv_has ls 6 [(5, .int v48), (0, .ref a7), (2, .int v17)] → GW50 HGW50 locs 0 0 (F0 m 131 ls [.int v56, .int v16]) := by
                intro v56 HGW50 locs ls hv hP hD hS hl
                subst hv
                refine (eG51 _ _ _ _ _).mpr ?_
                refine lv_iadd hx hb dX7_tick_131 ?_
                obtain ⟨v57, ev57, h⟩ := zL_spec h
                refine zTopi ev57 ?_
                refine lv_istore_n (lv' := [(1, .int v57), (5, .int v48), (0, .ref a7), (2, .int v17)]) hx hb dX7_tick_132 rfl hl (by decide) rfl (fun ls hl => ?_)
                refine lv_aload_n hx hb dX7_tick_133 rfl (lv_at hl 2 rfl) ?_
                refine va_get (D := (dC, dI)) (ci := 6) (v := .ref (h7 33)) (C := RX7) (T := TX7) (N := 49) hx hb hts inX7_ hown hK hP 0 rfl rfl 33 (by decide) (hts (.fieldLink RX7 71 "GateWheelModel" "source" "[I") (List.mem_of_getElem? (i := 5) rfl)) (fun _ h9 => h9) rfl dX7_tick_134 ?_
                refine lv_iload_n hx hb dX7_tick_137 rfl (lv_at hl 3 rfl) ?_
                refine lv_iload hx hb dX7_tick_138 (lv_at hl 1 rfl) ?_
                refine va_iast hx hb hK hP hD hS 19 0 rfl rfl hi49 dX7_tick_140 (fun H58 locs hP hD hS => ?_)
                obtain ⟨s7_59, es7_59, h⟩ := zL_spec h
                have hP : va_P (dC, dI) vwCl (cX7 a7 h7 y s7_59) H58 := by rw [es7_59]; exact hP
                have hD : va_D A (cX7 a7 h7 y s7_59) := by rw [es7_59]; exact hD
                obtain ⟨v60, ev60, h⟩ := zL_spec h
                refine lv_iinc (v := v60) (lv' := [(2, .int v60), (1, .int v57), (5, .int v48), (0, .ref a7)]) hx hb dX7_tick_141 hl (k := 3) rfl (by rw [ev60]; rfl) (by decide) rfl (fun ls hl => ?_)
                refine lv_goto (tgt := 4) hx hb dX7_tick_144 (by decide) ?_
                have h := zI_l h hx8
                exact (eG2 _ _ _ _ _).mp (ihlp4 v57 v60 s7_59 _ _ _ h hP hD hS (lv_sub hl [3, 1, 0] rfl))
              refine (eG51 _ _ _ _ _).mpr ?_
              have h := hr54
              refine lv_icmp_ne (tgt := 130) hx hb dX7_tick_123 (by decide) (fun c61 => ?_) (fun c61 => ?_)
              · have h := zN c61 h
                refine lv_iconst (v := 1) hx hb dX7_tick_130 (by decide) ?_
                exact (eG51 _ _ _ _ _).mp (jn52 (1 : Int32) _ _ _ (Option.some.inj h) hP hD hS (lv_sub hl [0, 1, 3] rfl))
              · have h := zY c61 h
                refine lv_iconst (v := 0) hx hb dX7_tick_126 (by decide) ?_
                refine lv_goto (tgt := 131) hx hb dX7_tick_127 (by decide) ?_
                exact (eG51 _ _ _ _ _).mp (jn52 (0 : Int32) _ _ _ (Option.some.inj h) hP hD hS (lv_sub hl [0, 1, 3] rfl))
            refine (eG43 _ _ _ _ _).mpr ?_
            have h := hr46
            refine lv_icmp_ne (tgt := 87) hx hb dX7_tick_80 (by decide) (fun c62 => ?_) (fun c62 => ?_)
            · have h := zN c62 h
              refine lv_iload hx hb dX7_tick_87 (lv_at hl 0 rfl) ?_
              refine lv_if_eq (tgt := 102) hx hb dX7_tick_89 (by decide) (fun c63 => ?_) (fun c63 => ?_)
              · have h := zY c63 h
                refine lv_aload_n hx hb dX7_tick_102 rfl (lv_at hl 2 rfl) ?_
                refine va_get (D := (dC, dI)) (ci := 6) (v := .ref (h7 34)) (C := RX7) (T := TX7) (N := 49) hx hb hts inX7_ hown hK hP 0 rfl rfl 34 (by decide) (hts (.fieldLink RX7 74 "GateWheelModel" "values" "[I") (List.mem_of_getElem? (i := 2) rfl)) (fun _ h9 => h9) rfl dX7_tick_103 ?_
                refine lv_iload_n hx hb dX7_tick_106 rfl (lv_at hl 4 rfl) ?_
                obtain ⟨hi64, h⟩ := zG_spec h
                refine va_iald hx hb hK hP 20 0 rfl rfl hi64 dX7_tick_107 ?_
                refine lv_goto (tgt := 112) hx hb dX7_tick_108 (by decide) ?_
                exact (eG43 _ _ _ _ _).mp (jn44 (gA s7_18 34 v17.toNatClampNeg) _ _ _ (Option.some.inj h) hP hD hS (lv_sub hl [2, 3, 4] rfl))
              · have h := zN c63 h
                refine lv_iload_n hx hb dX7_tick_92 rfl (lv_at hl 1 rfl) ?_
                refine lv_aload_n hx hb dX7_tick_93 rfl (lv_at hl 2 rfl) ?_
                refine va_get (D := (dC, dI)) (ci := 6) (v := .ref (h7 34)) (C := RX7) (T := TX7) (N := 49) hx hb hts inX7_ hown hK hP 0 rfl rfl 34 (by decide) (hts (.fieldLink RX7 74 "GateWheelModel" "values" "[I") (List.mem_of_getElem? (i := 2) rfl)) (fun _ h9 => h9) rfl dX7_tick_94 ?_
                refine lv_iload_n hx hb dX7_tick_97 rfl (lv_at hl 4 rfl) ?_
                obtain ⟨hi65, h⟩ := zG_spec h
                refine va_iald hx hb hK hP 20 0 rfl rfl hi65 dX7_tick_98 ?_
                refine lv_icmp_ne (tgt := 111) hx hb dX7_tick_99 (by decide) (fun c66 => ?_) (fun c66 => ?_)
                · have h := zN c66 h
                  refine lv_iconst (v := 2) hx hb dX7_tick_111 (by decide) ?_
                  exact (eG43 _ _ _ _ _).mp (jn44 (2 : Int32) _ _ _ (Option.some.inj h) hP hD hS (lv_sub hl [2, 3, 4] rfl))
                · have h := zY c66 h
                  refine lv_aload_n hx hb dX7_tick_102 rfl (lv_at hl 2 rfl) ?_
                  refine va_get (D := (dC, dI)) (ci := 6) (v := .ref (h7 34)) (C := RX7) (T := TX7) (N := 49) hx hb hts inX7_ hown hK hP 0 rfl rfl 34 (by decide) (hts (.fieldLink RX7 74 "GateWheelModel" "values" "[I") (List.mem_of_getElem? (i := 2) rfl)) (fun _ h9 => h9) rfl dX7_tick_103 ?_
                  refine lv_iload_n hx hb dX7_tick_106 rfl (lv_at hl 4 rfl) ?_
                  refine va_iald hx hb hK hP 20 0 rfl rfl hi65 dX7_tick_107 ?_
                  refine lv_goto (tgt := 112) hx hb dX7_tick_108 (by decide) ?_
                  exact (eG43 _ _ _ _ _).mp (jn44 (gA s7_18 34 v17.toNatClampNeg) _ _ _ (Option.some.inj h) hP hD hS (lv_sub hl [2, 3, 4] rfl))
            · have h := zY c62 h
              refine lv_iload_n hx hb dX7_tick_83 rfl (lv_at hl 1 rfl) ?_
              refine lv_goto (tgt := 112) hx hb dX7_tick_84 (by decide) ?_
              exact (eG43 _ _ _ _ _).mp (jn44 r30 _ _ _ (Option.some.inj h) hP hD hS (lv_sub hl [2, 3, 4] rfl))
          refine (eG36 _ _ _ _ _).mpr ?_
          have h := hr39
          refine lv_icmp_ne (tgt := 61) hx hb dX7_tick_54 (by decide) (fun c67 => ?_) (fun c67 => ?_)
          · have h := zN c67 h
            refine lv_aload_n hx hb dX7_tick_61 rfl (lv_at hl 1 rfl) ?_
            refine va_get (D := (dC, dI)) (ci := 6) (v := .ref (h7 34)) (C := RX7) (T := TX7) (N := 49) hx hb hts inX7_ hown hK hP 0 rfl rfl 34 (by decide) (hts (.fieldLink RX7 74 "GateWheelModel" "values" "[I") (List.mem_of_getElem? (i := 2) rfl)) (fun _ h9 => h9) rfl dX7_tick_62 ?_
            refine lv_aload_n hx hb dX7_tick_65 rfl (lv_at hl 1 rfl) ?_
            refine lv_iload_n hx hb dX7_tick_66 rfl (lv_at hl 3 rfl) ?_
            refine lv_iconst (v := 1) hx hb dX7_tick_67 (by decide) ?_
            obtain ⟨r68, hc69, h⟩ := zB_spec h
            have hFc := zFree hD hS hA
            refine va_calli (va_runV (As := [.int v17, .int 1]) (rest := [.ref (h7 34)]) ⟨hx, hb, hml, hown, hts⟩ (m_X7_in l dC dI y a7 h7 s7_18 v17 (1 : Int32) H32.size r68 hc69) (cwV 2 hts gX7_tick_X7_in rfl rfl rfl (by decide +kernel) ⟨Nat.le_of_ble_eq_true rfl, Nat.le_of_ble_eq_true rfl⟩) ⟨fun a U g mk q => by obtain ⟨q0, q1, qP, qK, qD⟩ := q; exact ⟨q0, q1, qP, va_K.moved (u := U) (U := U.calling g mk a) (Vm.Alike.refl U.vm) qK, qD⟩, va_recv hK hP (ci := 6) (q0 := 0) rfl rfl, fun U hU hW => ⟨rfl, by rw [hU], by rw [hU]; exact hP, va_K.moved hW.alike hK, hD.weaken (fun _ _ _ _ => trivial)⟩⟩ rfl rfl hl.1 rfl (lv_room (Nat.le_of_ble_eq_true rfl)) dX7_tick_68 ⟨Nat.le_of_ble_eq_true rfl, Nat.le_of_ble_eq_true rfl⟩) hS (fun q _ h => hFc q h) hFc (fun rr71 u t H70 locs ht hvm hw hB hz1 hk1 hS => ?_)
            obtain ⟨hP1, hK1, hD1⟩ := hB
            rw [ht] at hP1
            refine zTopi hw.symm ?_
            have hP := hP1
            have hD := hD1.weaken (fun _ q _ h => hFc q.1 h)
            have hP : va_P (dC, dI) vwCl (cX7 a7 h7 y s7_18) H70 := hP
            have hD : va_D A (cX7 a7 h7 y s7_18) := hD
            obtain ⟨hi72, h⟩ := zG_spec h
            refine va_iald hx hb hK hP 20 0 rfl rfl hi72 dX7_tick_71 ?_
            obtain ⟨r73, hc74, h⟩ := zB_spec h
            have hPc := hP.sub (ws' := []) [] rfl
            have hDc := hD.sub (ws' := []) [] (by decide) rfl
            have hFc := va_free (wc := []) hD hS hA [] rfl
            refine va_calli (va_runS (As := [.int (gA s7_18 34 r68.toNatClampNeg)]) (rest := []) ⟨hx, hb, hml, hown, hts⟩ (m_X7_taken l dC dI y (gA s7_18 34 r68.toNatClampNeg) H70.size r73 hc74) (va_cwS 1 hts gX7_tick_X7_taken rfl rfl rfl (by decide +kernel) ⟨Nat.le_of_ble_eq_true rfl, Nat.le_of_ble_eq_true rfl⟩) ⟨fun a U g mk q => by obtain ⟨q0, q1, qP, qK, qD⟩ := q; exact ⟨q0, q1, qP, va_K.moved (u := U) (U := U.calling g mk a) (Vm.Alike.refl U.vm) qK, qD⟩, fun U hU hW => ⟨rfl, by rw [hU], by rw [hU]; exact hPc, va_K.moved hW.alike hK, hDc.weaken (fun _ _ _ _ => trivial)⟩⟩ rfl rfl hl.1 rfl (lv_room (Nat.le_of_ble_eq_true rfl)) dX7_tick_72 ⟨Nat.le_of_ble_eq_true rfl, Nat.le_of_ble_eq_true rfl⟩) hS (fun q _ h => hFc q h) hFc (fun rr76 u t H75 locs ht hvm hw hB hz1 hk1 hS => ?_)
            obtain ⟨hP1, hK1, hD1⟩ := hB
            rw [ht] at hP1
            refine zTopi hw.symm ?_
            obtain ⟨hP, hD⟩ := va_join (wr := [(oX7 a7 h7 s7_18), (h7 0, .inl (y 2, 2020, .inl (gA s7_18 0))), (h7 1, .inl (y 2, 2000, .inl (gA s7_18 1))), (h7 11, .inl (y 1, 120, .inr (.inl (gB s7_18 11)))), (h7 12, .inl (y 0, 120, .inl (gA s7_18 12))), (h7 13, .inl (y 0, 120, .inl (gA s7_18 13))), (h7 14, .inl (y 0, 120, .inl (gA s7_18 14))), (h7 15, .inl (y 0, 120, .inl (gA s7_18 15))), (h7 16, .inl (y 0, 1440, .inl (gA s7_18 16))), (h7 17, .inl (y 0, 120, .inl (gA s7_18 17))), (h7 18, .inl (y 0, 60, .inl (gA s7_18 18))), (h7 19, .inl (y 3, 720, .inl (gA s7_18 19))), (h7 20, .inl (y 1, 1000, .inr (.inl (gB s7_18 20)))), (h7 21, .inl (y 0, 1000, .inl (gA s7_18 21))), (h7 22, .inl (y 0, 1000, .inl (gA s7_18 22))), (h7 23, .inl (y 1, 200, .inr (.inl (gB s7_18 23)))), (h7 24, .inl (y 0, 200, .inl (gA s7_18 24))), (h7 25, .inl (y 3, 200, .inl (gA s7_18 25))), (h7 32, .inl (y 3, 60, .inl (gA s7_18 32))), (h7 33, .inl (y 0, 60, .inl (gA s7_18 33))), (h7 34, .inl (y 0, 60, .inl (gA s7_18 34))), (h7 35, .inl (y 0, 60, .inl (gA s7_18 35))), (h7 36, .inl (y 0, 60, .inl (gA s7_18 36))), (h7 37, .inl (y 0, 60, .inl (gA s7_18 37))), (h7 38, .inl (y 0, 60, .inl (gA s7_18 38))), (h7 40, .inl (y 0, 60, .inl (gA s7_18 40))), (h7 41, .inl (y 0, 60, .inl (gA s7_18 41))), (h7 42, .inl (y 0, 600, .inl (gA s7_18 42))), (h7 43, .inl (y 0, 1200, .inl (gA s7_18 43))), (h7 44, .inl (y 0, 60, .inl (gA s7_18 44))), (h7 45, .inl (y 3, 60, .inl (gA s7_18 45)))]) (w1 := []) hP hD [] [0, 1, 2, 3, 4, 5, 6, 7, 8, 9, 10, 11, 12, 13, 14, 15, 16, 17, 18, 19, 20, 21, 22, 23, 24, 25, 26, 27, 28, 29, 30] rfl rfl (by decide) (by decide) hk1 hFc hP1 hD1
            have hP : va_P (dC, dI) vwCl (cX7 a7 h7 y s7_18) H75 := hP.sub [0, 1, 2, 3, 4, 5, 6, 7, 8, 9, 10, 11, 12, 13, 14, 15, 16, 17, 18, 19, 20, 21, 22, 23, 24, 25, 26, 27, 28, 29, 30] rfl
            have hD : va_D A (cX7 a7 h7 y s7_18) := hD.sub [0, 1, 2, 3, 4, 5, 6, 7, 8, 9, 10, 11, 12, 13, 14, 15, 16, 17, 18, 19, 20, 21, 22, 23, 24, 25, 26, 27, 28, 29, 30] (by decide) rfl
            exact (eG36 _ _ _ _ _).mp (jn37 r73 _ _ _ (Option.some.inj h) hP hD hS (lv_sub hl [0, 1, 2, 3] rfl))
          · have h := zY c67 h
            refine lv_iconst (v := 1) hx hb dX7_tick_57 (by decide) ?_
            refine lv_goto (tgt := 75) hx hb dX7_tick_58 (by decide) ?_
            exact (eG36 _ _ _ _ _).mp (jn37 (1 : Int32) _ _ _ (Option.some.inj h) hP hD hS (lv_sub hl [0, 1, 2, 3] rfl))
        · have h := zN c24 h
          refine lv_goto (tgt := 141) hx hb dX7_tick_21 (by decide) ?_
          obtain ⟨v77, ev77, h⟩ := zL_spec h
          refine lv_iinc (v := v77) (lv' := [(2, .int v77), (0, .ref a7), (1, .int v16)]) hx hb dX7_tick_141 hl (k := 2) rfl (by rw [ev77]; rfl) (by decide) rfl (fun ls hl => ?_)
          refine lv_goto (tgt := 4) hx hb dX7_tick_144 (by decide) ?_
          have h := zI_l h hx8
          exact (eG2 _ _ _ _ _).mp (ihlp4 v16 v77 s7_18 _ _ _ h hP hD hS (lv_sub hl [1, 2, 0] rfl))
  exact lp4 zF (0 : Int32) (0 : Int32) S7 _ _ _ hi6 hP hD hS (lv_sub hl [2, 1, 0] rfl)

set_option maxHeartbeats 4000000 in
set_option maxRecDepth 100000 in
theorem m_X7_find (l : Launch) (dC : Nat → ClassId) (dI : Nat → Nat → Nat) (y : Nat → ClassId) (a7 : Nat) (h7 : Nat → Nat) (S7 : SS) (sz : Nat) (o_7 : SS) (h : f_X7_find S7 = some o_7) : Met l yX7_find wsX7_find ({ frames := 1, cells := 0, slots := 0, locals := 21 }) (va_Pc [.ref a7] (fun U => U.heap.size = sz ∧ va_P (dC, dI) vwCl (cX7 a7 h7 y S7) U.heap ∧ va_K (dC, dI) vwCl [(y 0, .int), (y 1, .long), (y 2, .byte), (y 3, .boolean)] U ∧ va_D (fun _ => True) (cX7 a7 h7 y S7))) (va_Qv (fun (_ : Unit) => True) (fun (_ : Unit) (t : State) => va_P (dC, dI) vwCl (cX7 a7 h7 y o_7) t.heap ∧ va_K (dC, dI) vwCl [(y 0, .int), (y 1, .long), (y 2, .byte), (y 3, .boolean)] t ∧ va_D (va_A (cX7 a7 h7 y S7) sz) (cX7 a7 h7 y o_7)) (va_A (cX7 a7 h7 y S7) sz)) 0 0 (va_A (cX7 a7 h7 y S7) sz) := by
  refine Met.ofW (cc := cX7_find) (maxL := 2) (ret := none) (by decide +kernel) rfl ?_
  intro p e s m args below meth c s₁ B hml hv
  obtain ⟨rfl, hsz, hP, hK, hD0⟩ := hv
  have hx := B.exec
  have hb := B.bytes
  have hr := B.returns
  have hts := atoms_spec (ws := wsX7_find) B.pre
  have hown : s.vm.findClass RX7 = some m.cls := findClass_of_methodNamed B.named
  have hlocks := B.notSynchronized
  have inX7_ : ∀ w ∈ wsX70, w ∈ wsX7_find := fun _ h => List.mem_cons_of_mem _ (List.mem_append_right _ h)
  subst hsz
  have hD := hD0.self (sz := s.heap.size)
  generalize hAe : va_A (cX7 a7 h7 y S7) s.heap.size = A at hD ⊢
  have hA : ∀ q : Nat, s.heap.size ≤ q → A q := fun q h => by rw [← hAe]; exact Or.inr h
  have hS : va_S A s.heap s.heap [] := va_S.rf
  have hP : va_P (dC, dI) vwCl (cX7 a7 h7 y S7) s.heap := hP
  have hl := lv_entry ([.ref a7]) (n := 2) (Nat.le_of_ble_eq_true rfl)
  rw [lg_entry_eq]
  generalize (lg_sl ([.ref a7]) ++ List.replicate (2 - (lg_sl ([.ref a7])).length) Slot.unset).toArray = ls at hl ⊢
  have hl : lv_has ls 2 [(0, .ref a7)] := hl
  refine lv_aload_n hx hb dX7_find_0 rfl (lv_at hl 0 rfl) ?_
  refine lv_iconst (v := 0) hx hb dX7_find_1 (by decide) ?_
  refine va_put (D := (dC, dI)) (ci := 6) (v := .int 0) (ty := .int) (C := RX7) (T := TX7) (N := 49) hx hb hts inX7_ tyX7 tyX7_ok nmX7 hown hK hP hD hS 0 rfl rfl 39 (by decide) (hts (.fieldLink RX7 304 "GateWheelModel" "thems" "I") (List.mem_of_getElem? (i := 1) rfl)) (fun _ h9 => h9) rfl (by decide +kernel) rfl rfl (Nat.le_of_ble_eq_true rfl) dX7_find_2 (fun H1 locs hP hD hS => ?_)
  obtain ⟨s7_2, es7_2, h⟩ := zL_spec h
  have hP : va_P (dC, dI) vwCl (cX7 a7 h7 y s7_2) H1 := by rw [es7_2]; exact hP
  have hD : va_D A (cX7 a7 h7 y s7_2) := by rw [es7_2]; exact hD
  refine lv_iconst (v := 0) hx hb dX7_find_5 (by decide) ?_
  refine lv_istore_n (lv' := [(1, .int 0), (0, .ref a7)]) hx hb dX7_find_6 rfl hl (by decide) rfl (fun ls hl => ?_)
  refine W_abs (fun GW3 eG4 => ?_)
  have hi8 := h
  have lp6 : ∀ (n : Nat) (v12 : Int32) (s7_13 : SS) (HGW3 : Heap) (locs : List Loc) (ls : Array Slot), zI (b_X7_find_7) n (v12, s7_13) = some o_7 → va_P (dC, dI) vwCl (cX7 a7 h7 y s7_13) HGW3 → va_D A (cX7 a7 h7 y s7_13) → va_S A s.heap HGW3 locs → lv_has ls 2 [(0, .ref a7), (1, .int v12)] → GW3 HGW3 locs 0 0 (F0 m 7 ls []) := by
    intro n
    induction n with
    | zero =>
      intro v12 s7_13 HGW3 locs ls hi8 hP hD hS hl
      exact (zI_0 hi8).elim
    | succ n ihlp6 =>
      intro v12 s7_13 HGW3 locs ls hi8 hP hD hS hl
      refine (eG4 _ _ _ _ _).mpr ?_
      obtain ⟨xx11, h, hx10⟩ := zI_spec hi8
      refine lv_iload_n hx hb dX7_find_7 rfl (lv_at hl 1 rfl) ?_
      refine lv_aload_n hx hb dX7_find_8 rfl (lv_at hl 0 rfl) ?_
      refine va_get (D := (dC, dI)) (ci := 6) (v := .int (gI s7_13 29)) (C := RX7) (T := TX7) (N := 49) hx hb hts inX7_ hown hK hP 0 rfl rfl 29 (by decide) (hts (.fieldLink RX7 261 "GateWheelModel" "nodes" "I") (List.mem_of_getElem? (i := 2) rfl)) (fun _ h9 => h9) rfl dX7_find_9 ?_
      refine lv_icmp_ge (tgt := 71) hx hb dX7_find_12 (by decide) (fun c14 => ?_) (fun c14 => ?_)
      · have h := zY c14 h
        have h := congrArg some (zI_r h hx10)
        have ho0 : s7_13 = o_7 := congrArg (fun z : SS => z) (Option.some.inj h)
        exact W.vret hx hb hr (fun t ht hW => ⟨⟨(), rfl, trivial, by rw [ht]; rw [← ho0]; exact hP, va_K.moved hW.alike hK, by rw [← ho0]; exact hD⟩, hS.F ht⟩) hS.2.2 dX7_find_71
      · have h := zN c14 h
        refine lv_aload_n hx hb dX7_find_15 rfl (lv_at hl 0 rfl) ?_
        refine lv_iload_n hx hb dX7_find_16 rfl (lv_at hl 1 rfl) ?_
        obtain ⟨r15, hc16, h⟩ := zB_spec h
        have hFc := zFree hD hS hA
        refine va_calli (va_runV (As := [.int v12]) (rest := []) ⟨hx, hb, hml, hown, hts⟩ (m_X7_kind l dC dI y a7 h7 s7_13 v12 HGW3.size r15 hc16) (cwV 1 hts gX7_find_X7_kind rfl rfl rfl (by decide +kernel) ⟨Nat.le_of_ble_eq_true rfl, Nat.le_of_ble_eq_true rfl⟩) ⟨fun a U g mk q => by obtain ⟨q0, q1, qP, qK, qD⟩ := q; exact ⟨q0, q1, qP, va_K.moved (u := U) (U := U.calling g mk a) (Vm.Alike.refl U.vm) qK, qD⟩, va_recv hK hP (ci := 6) (q0 := 0) rfl rfl, fun U hU hW => ⟨rfl, by rw [hU], by rw [hU]; exact hP, va_K.moved hW.alike hK, hD.weaken (fun _ _ _ _ => trivial)⟩⟩ rfl rfl hl.1 rfl (lv_room (Nat.le_of_ble_eq_true rfl)) dX7_find_17 ⟨Nat.le_of_ble_eq_true rfl, Nat.le_of_ble_eq_true rfl⟩) hS (fun q _ h => hFc q h) hFc (fun rr18 u t H17 locs ht hvm hw hB hz1 hk1 hS => ?_)
        obtain ⟨hP1, hK1, hD1⟩ := hB
        rw [ht] at hP1
        refine zTopi hw.symm ?_
        have hP := hP1
        have hD := hD1.weaken (fun _ q _ h => hFc q.1 h)
        have hP : va_P (dC, dI) vwCl (cX7 a7 h7 y s7_13) H17 := hP
        have hD : va_D A (cX7 a7 h7 y s7_13) := hD
        refine lv_if_eq (tgt := 32) hx hb dX7_find_20 (by decide) (fun c19 => ?_) (fun c19 => ?_)
        · have h := zY c19 h
          refine lv_aload_n hx hb dX7_find_32 rfl (lv_at hl 0 rfl) ?_
          refine va_get (D := (dC, dI)) (ci := 6) (v := .ref (h7 33)) (C := RX7) (T := TX7) (N := 49) hx hb hts inX7_ hown hK hP 0 rfl rfl 33 (by decide) (hts (.fieldLink RX7 71 "GateWheelModel" "source" "[I") (List.mem_of_getElem? (i := 3) rfl)) (fun _ h9 => h9) rfl dX7_find_33 ?_
          refine lv_iload_n hx hb dX7_find_36 rfl (lv_at hl 1 rfl) ?_
          obtain ⟨hi20, h⟩ := zG_spec h
          refine va_iald hx hb hK hP 19 0 rfl rfl hi20 dX7_find_37 ?_
          refine lv_iconst (v := 2) hx hb dX7_find_38 (by decide) ?_
          refine lv_icmp_ge (tgt := 45) hx hb dX7_find_39 (by decide) (fun c21 => ?_) (fun c21 => ?_)
          · have h := zY c21 h
            refine lv_aload_n hx hb dX7_find_45 rfl (lv_at hl 0 rfl) ?_
            refine va_get (D := (dC, dI)) (ci := 6) (v := .ref (h7 38)) (C := RX7) (T := TX7) (N := 49) hx hb hts inX7_ hown hK hP 0 rfl rfl 38 (by decide) (hts (.fieldLink RX7 86 "GateWheelModel" "them" "[I") (List.mem_of_getElem? (i := 4) rfl)) (fun _ h9 => h9) rfl dX7_find_46 ?_
            refine lv_aload_n hx hb dX7_find_49 rfl (lv_at hl 0 rfl) ?_
            refine va_get (D := (dC, dI)) (ci := 6) (v := .int (gI s7_13 39)) (C := RX7) (T := TX7) (N := 49) hx hb hts inX7_ hown hK hP 0 rfl rfl 39 (by decide) (hts (.fieldLink RX7 304 "GateWheelModel" "thems" "I") (List.mem_of_getElem? (i := 1) rfl)) (fun _ h9 => h9) rfl dX7_find_50 ?_
            refine lv_iload_n hx hb dX7_find_53 rfl (lv_at hl 1 rfl) ?_
            obtain ⟨hi22, h⟩ := zG_spec h
            refine va_iast hx hb hK hP hD hS 24 0 rfl rfl hi22 dX7_find_54 (fun H23 locs hP hD hS => ?_)
            obtain ⟨s7_24, es7_24, h⟩ := zL_spec h
            have hP : va_P (dC, dI) vwCl (cX7 a7 h7 y s7_24) H23 := by rw [es7_24]; exact hP
            have hD : va_D A (cX7 a7 h7 y s7_24) := by rw [es7_24]; exact hD
            refine lv_aload_n hx hb dX7_find_55 rfl (lv_at hl 0 rfl) ?_
            refine lv_dup hx hb dX7_find_56 rfl ?_
            refine va_get (D := (dC, dI)) (ci := 6) (v := .int (gI s7_24 39)) (C := RX7) (T := TX7) (N := 49) hx hb hts inX7_ hown hK hP 0 rfl rfl 39 (by decide) (hts (.fieldLink RX7 304 "GateWheelModel" "thems" "I") (List.mem_of_getElem? (i := 1) rfl)) (fun _ h9 => h9) rfl dX7_find_57 ?_
            refine lv_iconst (v := 1) hx hb dX7_find_60 (by decide) ?_
            refine lv_iadd hx hb dX7_find_61 ?_
            refine va_put (D := (dC, dI)) (ci := 6) (v := .int ((gI s7_24 39) + (1 : Int32))) (ty := .int) (C := RX7) (T := TX7) (N := 49) hx hb hts inX7_ tyX7 tyX7_ok nmX7 hown hK hP hD hS 0 rfl rfl 39 (by decide) (hts (.fieldLink RX7 304 "GateWheelModel" "thems" "I") (List.mem_of_getElem? (i := 1) rfl)) (fun _ h9 => h9) rfl (by decide +kernel) rfl rfl (Nat.le_of_ble_eq_true rfl) dX7_find_62 (fun H25 locs hP hD hS => ?_)
            obtain ⟨s7_26, es7_26, h⟩ := zL_spec h
            have hP : va_P (dC, dI) vwCl (cX7 a7 h7 y s7_26) H25 := by rw [es7_26]; exact hP
            have hD : va_D A (cX7 a7 h7 y s7_26) := by rw [es7_26]; exact hD
            obtain ⟨v27, ev27, h⟩ := zL_spec h
            refine lv_iinc (v := v27) (lv' := [(1, .int v27), (0, .ref a7)]) hx hb dX7_find_65 hl (k := 1) rfl (by rw [ev27]; rfl) (by decide) rfl (fun ls hl => ?_)
            refine lv_goto (tgt := 7) hx hb dX7_find_68 (by decide) ?_
            have h := zI_l h hx10
            exact (eG4 _ _ _ _ _).mp (ihlp6 v27 s7_26 _ _ _ h hP hD hS (lv_sub hl [1, 0] rfl))
          · have h := zN c21 h
            refine lv_goto (tgt := 65) hx hb dX7_find_42 (by decide) ?_
            obtain ⟨v28, ev28, h⟩ := zL_spec h
            refine lv_iinc (v := v28) (lv' := [(1, .int v28), (0, .ref a7)]) hx hb dX7_find_65 hl (k := 1) rfl (by rw [ev28]; rfl) (by decide) rfl (fun ls hl => ?_)
            refine lv_goto (tgt := 7) hx hb dX7_find_68 (by decide) ?_
            have h := zI_l h hx10
            exact (eG4 _ _ _ _ _).mp (ihlp6 v28 s7_13 _ _ _ h hP hD hS (lv_sub hl [1, 0] rfl))
        · have h := zN c19 h
          refine lv_aload_n hx hb dX7_find_23 rfl (lv_at hl 0 rfl) ?_
          refine lv_iload_n hx hb dX7_find_24 rfl (lv_at hl 1 rfl) ?_
          obtain ⟨r29, hc30, h⟩ := zB_spec h
          have hFc := zFree hD hS hA
          refine va_calli (va_runV (As := [.int v12]) (rest := []) ⟨hx, hb, hml, hown, hts⟩ (m_X7_kind l dC dI y a7 h7 s7_13 v12 H17.size r29 hc30) (cwV 1 hts gX7_find_X7_kind rfl rfl rfl (by decide +kernel) ⟨Nat.le_of_ble_eq_true rfl, Nat.le_of_ble_eq_true rfl⟩) ⟨fun a U g mk q => by obtain ⟨q0, q1, qP, qK, qD⟩ := q; exact ⟨q0, q1, qP, va_K.moved (u := U) (U := U.calling g mk a) (Vm.Alike.refl U.vm) qK, qD⟩, va_recv hK hP (ci := 6) (q0 := 0) rfl rfl, fun U hU hW => ⟨rfl, by rw [hU], by rw [hU]; exact hP, va_K.moved hW.alike hK, hD.weaken (fun _ _ _ _ => trivial)⟩⟩ rfl rfl hl.1 rfl (lv_room (Nat.le_of_ble_eq_true rfl)) dX7_find_25 ⟨Nat.le_of_ble_eq_true rfl, Nat.le_of_ble_eq_true rfl⟩) hS (fun q _ h => hFc q h) hFc (fun rr32 u t H31 locs ht hvm hw hB hz1 hk1 hS => ?_)
          obtain ⟨hP1, hK1, hD1⟩ := hB
          rw [ht] at hP1
          refine zTopi hw.symm ?_
          have hP := hP1
          have hD := hD1.weaken (fun _ q _ h => hFc q.1 h)
          have hP : va_P (dC, dI) vwCl (cX7 a7 h7 y s7_13) H31 := hP
          have hD : va_D A (cX7 a7 h7 y s7_13) := hD
          refine lv_iconst (v := 3) hx hb dX7_find_28 (by decide) ?_
          refine lv_icmp_ne (tgt := 65) hx hb dX7_find_29 (by decide) (fun c33 => ?_) (fun c33 => ?_)
          · have h := zN c33 h
            obtain ⟨v34, ev34, h⟩ := zL_spec h
            refine lv_iinc (v := v34) (lv' := [(1, .int v34), (0, .ref a7)]) hx hb dX7_find_65 hl (k := 1) rfl (by rw [ev34]; rfl) (by decide) rfl (fun ls hl => ?_)
            refine lv_goto (tgt := 7) hx hb dX7_find_68 (by decide) ?_
            have h := zI_l h hx10
            exact (eG4 _ _ _ _ _).mp (ihlp6 v34 s7_13 _ _ _ h hP hD hS (lv_sub hl [1, 0] rfl))
          · have h := zY c33 h
            refine lv_aload_n hx hb dX7_find_32 rfl (lv_at hl 0 rfl) ?_
            refine va_get (D := (dC, dI)) (ci := 6) (v := .ref (h7 33)) (C := RX7) (T := TX7) (N := 49) hx hb hts inX7_ hown hK hP 0 rfl rfl 33 (by decide) (hts (.fieldLink RX7 71 "GateWheelModel" "source" "[I") (List.mem_of_getElem? (i := 3) rfl)) (fun _ h9 => h9) rfl dX7_find_33 ?_
            refine lv_iload_n hx hb dX7_find_36 rfl (lv_at hl 1 rfl) ?_
            obtain ⟨hi35, h⟩ := zG_spec h
            refine va_iald hx hb hK hP 19 0 rfl rfl hi35 dX7_find_37 ?_
            refine lv_iconst (v := 2) hx hb dX7_find_38 (by decide) ?_
            refine lv_icmp_ge (tgt := 45) hx hb dX7_find_39 (by decide) (fun c36 => ?_) (fun c36 => ?_)
            · have h := zY c36 h
              refine lv_aload_n hx hb dX7_find_45 rfl (lv_at hl 0 rfl) ?_
              refine va_get (D := (dC, dI)) (ci := 6) (v := .ref (h7 38)) (C := RX7) (T := TX7) (N := 49) hx hb hts inX7_ hown hK hP 0 rfl rfl 38 (by decide) (hts (.fieldLink RX7 86 "GateWheelModel" "them" "[I") (List.mem_of_getElem? (i := 4) rfl)) (fun _ h9 => h9) rfl dX7_find_46 ?_
              refine lv_aload_n hx hb dX7_find_49 rfl (lv_at hl 0 rfl) ?_
              refine va_get (D := (dC, dI)) (ci := 6) (v := .int (gI s7_13 39)) (C := RX7) (T := TX7) (N := 49) hx hb hts inX7_ hown hK hP 0 rfl rfl 39 (by decide) (hts (.fieldLink RX7 304 "GateWheelModel" "thems" "I") (List.mem_of_getElem? (i := 1) rfl)) (fun _ h9 => h9) rfl dX7_find_50 ?_
              refine lv_iload_n hx hb dX7_find_53 rfl (lv_at hl 1 rfl) ?_
              obtain ⟨hi37, h⟩ := zG_spec h
              refine va_iast hx hb hK hP hD hS 24 0 rfl rfl hi37 dX7_find_54 (fun H38 locs hP hD hS => ?_)
              obtain ⟨s7_39, es7_39, h⟩ := zL_spec h
              have hP : va_P (dC, dI) vwCl (cX7 a7 h7 y s7_39) H38 := by rw [es7_39]; exact hP
              have hD : va_D A (cX7 a7 h7 y s7_39) := by rw [es7_39]; exact hD
              refine lv_aload_n hx hb dX7_find_55 rfl (lv_at hl 0 rfl) ?_
              refine lv_dup hx hb dX7_find_56 rfl ?_
              refine va_get (D := (dC, dI)) (ci := 6) (v := .int (gI s7_39 39)) (C := RX7) (T := TX7) (N := 49) hx hb hts inX7_ hown hK hP 0 rfl rfl 39 (by decide) (hts (.fieldLink RX7 304 "GateWheelModel" "thems" "I") (List.mem_of_getElem? (i := 1) rfl)) (fun _ h9 => h9) rfl dX7_find_57 ?_
              refine lv_iconst (v := 1) hx hb dX7_find_60 (by decide) ?_
              refine lv_iadd hx hb dX7_find_61 ?_
              refine va_put (D := (dC, dI)) (ci := 6) (v := .int ((gI s7_39 39) + (1 : Int32))) (ty := .int) (C := RX7) (T := TX7) (N := 49) hx hb hts inX7_ tyX7 tyX7_ok nmX7 hown hK hP hD hS 0 rfl rfl 39 (by decide) (hts (.fieldLink RX7 304 "GateWheelModel" "thems" "I") (List.mem_of_getElem? (i := 1) rfl)) (fun _ h9 => h9) rfl (by decide +kernel) rfl rfl (Nat.le_of_ble_eq_true rfl) dX7_find_62 (fun H40 locs hP hD hS => ?_)
              obtain ⟨s7_41, es7_41, h⟩ := zL_spec h
              have hP : va_P (dC, dI) vwCl (cX7 a7 h7 y s7_41) H40 := by rw [es7_41]; exact hP
              have hD : va_D A (cX7 a7 h7 y s7_41) := by rw [es7_41]; exact hD
              obtain ⟨v42, ev42, h⟩ := zL_spec h
              refine lv_iinc (v := v42) (lv' := [(1, .int v42), (0, .ref a7)]) hx hb dX7_find_65 hl (k := 1) rfl (by rw [ev42]; rfl) (by decide) rfl (fun ls hl => ?_)
              refine lv_goto (tgt := 7) hx hb dX7_find_68 (by decide) ?_
              have h := zI_l h hx10
              exact (eG4 _ _ _ _ _).mp (ihlp6 v42 s7_41 _ _ _ h hP hD hS (lv_sub hl [1, 0] rfl))
            · have h := zN c36 h
              refine lv_goto (tgt := 65) hx hb dX7_find_42 (by decide) ?_
              obtain ⟨v43, ev43, h⟩ := zL_spec h
              refine lv_iinc (v := v43) (lv' := [(1, .int v43), (0, .ref a7)]) hx hb dX7_find_65 hl (k := 1) rfl (by rw [ev43]; rfl) (by decide) rfl (fun ls hl => ?_)
              refine lv_goto (tgt := 7) hx hb dX7_find_68 (by decide) ?_
              have h := zI_l h hx10
              exact (eG4 _ _ _ _ _).mp (ihlp6 v43 s7_13 _ _ _ h hP hD hS (lv_sub hl [1, 0] rfl))
  exact lp6 zF (0 : Int32) s7_2 _ _ _ hi8 hP hD hS (lv_sub hl [1, 0] rfl)

set_option maxHeartbeats 4000000 in
set_option maxRecDepth 100000 in
theorem m_X7_drives (l : Launch) (dC : Nat → ClassId) (dI : Nat → Nat → Nat) (y : Nat → ClassId) (a7 : Nat) (h7 : Nat → Nat) (S7 : SS) (p1 : Int32) (sz : Nat) (or_ : Int32) (o_7 : SS) (h : f_X7_drives S7 p1 = some (or_, o_7)) : Met l yX7_drives wsX7_drives ({ frames := 1, cells := 0, slots := 0, locals := 22 }) (va_Pc [.ref a7, .int p1] (fun U => U.heap.size = sz ∧ va_P (dC, dI) vwCl (cX7 a7 h7 y S7) U.heap ∧ va_K (dC, dI) vwCl [(y 0, .int), (y 1, .long), (y 2, .byte), (y 3, .boolean)] U ∧ va_D (fun _ => True) (cX7 a7 h7 y S7))) (va_Qi (fun (r : Int32) (_ : Unit) => r = or_) (fun (_ : Unit) (t : State) => va_P (dC, dI) vwCl (cX7 a7 h7 y o_7) t.heap ∧ va_K (dC, dI) vwCl [(y 0, .int), (y 1, .long), (y 2, .byte), (y 3, .boolean)] t ∧ va_D (va_A (cX7 a7 h7 y S7) sz) (cX7 a7 h7 y o_7)) (va_A (cX7 a7 h7 y S7) sz)) 0 0 (va_A (cX7 a7 h7 y S7) sz) := by
  refine Met.ofW (cc := cX7_drives) (maxL := 5) (ret := (some .boolean)) (by decide +kernel) rfl ?_
  intro p e s m args below meth c s₁ B hml hv
  obtain ⟨rfl, hsz, hP, hK, hD0⟩ := hv
  have hx := B.exec
  have hb := B.bytes
  have hr := B.returns
  have hts := atoms_spec (ws := wsX7_drives) B.pre
  have hown : s.vm.findClass RX7 = some m.cls := findClass_of_methodNamed B.named
  have hlocks := B.notSynchronized
  have inX7_ : ∀ w ∈ wsX70, w ∈ wsX7_drives := fun _ h => List.mem_cons_of_mem _ (List.mem_append_right _ h)
  subst hsz
  have hD := hD0.self (sz := s.heap.size)
  generalize hAe : va_A (cX7 a7 h7 y S7) s.heap.size = A at hD ⊢
  have hA : ∀ q : Nat, s.heap.size ≤ q → A q := fun q h => by rw [← hAe]; exact Or.inr h
  have hS : va_S A s.heap s.heap [] := va_S.rf
  have hP : va_P (dC, dI) vwCl (cX7 a7 h7 y S7) s.heap := hP
  have hl := lv_entry ([.ref a7, .int p1]) (n := 5) (Nat.le_of_ble_eq_true rfl)
  rw [lg_entry_eq]
  generalize (lg_sl ([.ref a7, .int p1]) ++ List.replicate (5 - (lg_sl ([.ref a7, .int p1])).length) Slot.unset).toArray = ls at hl ⊢
  have hl : lv_has ls 5 [(0, .ref a7), (1, .int p1)] := hl
  refine lv_bipush (v := 60) hx hb dX7_drives_0 (by decide) ?_
  refine lv_aload_n hx hb dX7_drives_2 rfl (lv_at hl 0 rfl) ?_
  refine va_get (D := (dC, dI)) (ci := 6) (v := .int (gI S7 30)) (C := RX7) (T := TX7) (N := 49) hx hb hts inX7_ hown hK hP 0 rfl rfl 30 (by decide) (hts (.fieldLink RX7 188 "GateWheelModel" "bank" "I") (List.mem_of_getElem? (i := 1) rfl)) (fun _ h9 => h9) rfl dX7_drives_3 ?_
  refine lv_imul hx hb dX7_drives_6 ?_
  refine lv_iload_n hx hb dX7_drives_7 rfl (lv_at hl 1 rfl) ?_
  refine lv_iadd hx hb dX7_drives_8 ?_
  obtain ⟨v1, ev1, h⟩ := zL_spec h
  refine zTopi ev1 ?_
  refine lv_istore_n (lv' := [(2, .int v1), (0, .ref a7), (1, .int p1)]) hx hb dX7_drives_9 rfl hl (by decide) rfl (fun ls hl => ?_)
  refine lv_iconst (v := 0) hx hb dX7_drives_10 (by decide) ?_
  refine lv_istore_n (lv' := [(3, .int 0), (2, .int v1), (0, .ref a7), (1, .int p1)]) hx hb dX7_drives_11 rfl hl (by decide) rfl (fun ls hl => ?_)
  refine lv_iconst (v := 0) hx hb dX7_drives_12 (by decide) ?_
  refine lv_istore (lv' := [(4, .int 0), (3, .int 0), (2, .int v1), (0, .ref a7), (1, .int p1)]) hx hb dX7_drives_13 hl (by decide) rfl (fun ls hl => ?_)
  refine W_abs (fun GW2 eG3 => ?_)
  obtain ⟨ov6, hi7, h⟩ := zB_spec h
  have je4 : ∀ (v11 : Int32) (s7_12 : SS) (HGW2e : Heap) (locs : List Loc) (ls : Array Slot), (v11, s7_12) = ov6 → va_P (dC, dI) vwCl (cX7 a7 h7 y s7_12) HGW2e → va_D A (cX7 a7 h7 y s7_12) → va_S A s.heap HGW2e locs → lv_has ls 5 [(0, .ref a7), (1, .int p1), (3, .int v11)] → GW2 HGW2e locs 0 0 (F0 m 98 ls []) := by
    intro v11 s7_12 HGW2e locs ls hv hP hD hS hl
    subst hv
    refine (eG3 _ _ _ _ _).mpr ?_
    refine lv_iload_n hx hb dX7_drives_98 rfl (lv_at hl 2 rfl) ?_
    refine W_abs (fun GW13 eG14 => ?_)
    obtain ⟨ov16, hr17, h⟩ := zB_spec h
    have jn15 : ∀ (s7_19 : SS) (HGW13 : Heap) (locs : List Loc) (ls : Array Slot), s7_19 = ov16 → va_P (dC, dI) vwCl (cX7 a7 h7 y s7_19) HGW13 → va_D A (cX7 a7 h7 y s7_19) → va_S A s.heap HGW13 locs → lv_has ls 5 [(3, .int v11)] → GW13 HGW13 locs 0 0 (F0 m 109 ls []) := by
      intro s7_19 HGW13 locs ls hv hP hD hS hl
      subst hv
      refine (eG14 _ _ _ _ _).mpr ?_
      refine lv_iload_n hx hb dX7_drives_109 rfl (lv_at hl 0 rfl) ?_
      refine lv_iconst (v := 1) hx hb dX7_drives_110 (by decide) ?_
      refine lv_icmp_ne (tgt := 118) hx hb dX7_drives_111 (by decide) (fun c20 => ?_) (fun c20 => ?_)
      · have h := zN c20 h
        refine lv_iconst (v := 0) hx hb dX7_drives_118 (by decide) ?_
        have ho0 : (0 : Int32) = or_ := congrArg (fun z : Int32 × SS => z.1) (Option.some.inj h)
        have ho1 : s7_19 = o_7 := congrArg (fun z : Int32 × SS => z.2) (Option.some.inj h)
        exact W.zret (v := 0) hx hb hr (by decide) (fun t ht hW => ⟨⟨0, (), rfl, ho0, by rw [ht]; rw [← ho1]; exact hP, va_K.moved hW.alike hK, by rw [← ho1]; exact hD⟩, hS.F ht⟩) hS.2.2 dX7_drives_119
      · have h := zY c20 h
        refine lv_iconst (v := 1) hx hb dX7_drives_114 (by decide) ?_
        refine lv_goto (tgt := 119) hx hb dX7_drives_115 (by decide) ?_
        have ho0 : (1 : Int32) = or_ := congrArg (fun z : Int32 × SS => z.1) (Option.some.inj h)
        have ho1 : s7_19 = o_7 := congrArg (fun z : Int32 × SS => z.2) (Option.some.inj h)
        exact W.zret (v := 1) hx hb hr (by decide) (fun t ht hW => ⟨⟨1, (), rfl, ho0, by rw [ht]; rw [← ho1]; exact hP, va_K.moved hW.alike hK, by rw [← ho1]; exact hD⟩, hS.F ht⟩) hS.2.2 dX7_drives_119
    refine (eG14 _ _ _ _ _).mpr ?_
    have h := hr17
    refine lv_if_ne (tgt := 109) hx hb dX7_drives_99 (by decide) (fun c21 => ?_) (fun c21 => ?_)
    · have h := zN c21 h
      exact (eG14 _ _ _ _ _).mp (jn15 s7_12 _ _ _ (Option.some.inj h) hP hD hS (lv_sub hl [2] rfl))
    · have h := zY c21 h
      refine lv_aload_n hx hb dX7_drives_102 rfl (lv_at hl 0 rfl) ?_
      refine va_get (D := (dC, dI)) (ci := 6) (v := .ref (h7 35)) (C := RX7) (T := TX7) (N := 49) hx hb hts inX7_ hown hK hP 0 rfl rfl 35 (by decide) (hts (.fieldLink RX7 77 "GateWheelModel" "world" "[I") (List.mem_of_getElem? (i := 3) rfl)) (fun _ h9 => h9) rfl dX7_drives_103 ?_
      refine lv_iload_n hx hb dX7_drives_106 rfl (lv_at hl 1 rfl) ?_
      refine lv_iconst (v := 0) hx hb dX7_drives_107 (by decide) ?_
      obtain ⟨hi22, h⟩ := zG_spec h
      refine va_iast hx hb hK hP hD hS 21 0 rfl rfl hi22 dX7_drives_108 (fun H23 locs hP hD hS => ?_)
      obtain ⟨s7_24, es7_24, h⟩ := zL_spec h
      have hP : va_P (dC, dI) vwCl (cX7 a7 h7 y s7_24) H23 := by rw [es7_24]; exact hP
      have hD : va_D A (cX7 a7 h7 y s7_24) := by rw [es7_24]; exact hD
      exact (eG14 _ _ _ _ _).mp (jn15 s7_24 _ _ _ (Option.some.inj h) hP hD hS (lv_sub hl [2] rfl))
  have lp5 : ∀ (n : Nat) (v25 : Int32) (v26 : Int32) (s7_27 : SS) (HGW2 : Heap) (locs : List Loc) (ls : Array Slot), zI (b_X7_drives_15 p1 v1) n (v25, v26, s7_27) = some ov6 → va_P (dC, dI) vwCl (cX7 a7 h7 y s7_27) HGW2 → va_D A (cX7 a7 h7 y s7_27) → va_S A s.heap HGW2 locs → lv_has ls 5 [(2, .int v1), (0, .ref a7), (1, .int p1), (3, .int v25), (4, .int v26)] → GW2 HGW2 locs 0 0 (F0 m 15 ls []) := by
    intro n
    induction n with
    | zero =>
      intro v25 v26 s7_27 HGW2 locs ls hi7 hP hD hS hl
      exact (zI_0 hi7).elim
    | succ n ihlp5 =>
      intro v25 v26 s7_27 HGW2 locs ls hi7 hP hD hS hl
      refine (eG3 _ _ _ _ _).mpr ?_
      obtain ⟨xx10, h, hx9⟩ := zI_spec hi7
      refine lv_iload hx hb dX7_drives_15 (lv_at hl 4 rfl) ?_
      refine lv_aload_n hx hb dX7_drives_17 rfl (lv_at hl 1 rfl) ?_
      refine va_get (D := (dC, dI)) (ci := 6) (v := .ref (h7 14)) (C := RX7) (T := TX7) (N := 49) hx hb hts inX7_ hown hK hP 0 rfl rfl 14 (by decide) (hts (.fieldLink RX7 31 "GateWheelModel" "nMany" "[I") (List.mem_of_getElem? (i := 2) rfl)) (fun _ h9 => h9) rfl dX7_drives_18 ?_
      refine lv_iload_n hx hb dX7_drives_21 rfl (lv_at hl 0 rfl) ?_
      obtain ⟨hi28, h⟩ := zG_spec h
      refine va_iald hx hb hK hP 6 0 rfl rfl hi28 dX7_drives_22 ?_
      refine lv_icmp_ge (tgt := 98) hx hb dX7_drives_23 (by decide) (fun c29 => ?_) (fun c29 => ?_)
      · have h := zY c29 h
        exact (eG3 _ _ _ _ _).mp (je4 v25 s7_27 _ _ _ (zI_r h hx9) hP hD hS (lv_sub hl [1, 2, 3] rfl))
      · have h := zN c29 h
        refine lv_aload_n hx hb dX7_drives_26 rfl (lv_at hl 1 rfl) ?_
        refine va_get (D := (dC, dI)) (ci := 6) (v := .ref (h7 35)) (C := RX7) (T := TX7) (N := 49) hx hb hts inX7_ hown hK hP 0 rfl rfl 35 (by decide) (hts (.fieldLink RX7 77 "GateWheelModel" "world" "[I") (List.mem_of_getElem? (i := 3) rfl)) (fun _ h9 => h9) rfl dX7_drives_27 ?_
        refine lv_aload_n hx hb dX7_drives_30 rfl (lv_at hl 1 rfl) ?_
        refine lv_iload_n hx hb dX7_drives_31 rfl (lv_at hl 2 rfl) ?_
        refine lv_iconst (v := 2) hx hb dX7_drives_32 (by decide) ?_
        refine lv_iload hx hb dX7_drives_33 (lv_at hl 4 rfl) ?_
        refine lv_imul hx hb dX7_drives_35 ?_
        refine lv_iconst (v := 1) hx hb dX7_drives_36 (by decide) ?_
        refine lv_iadd hx hb dX7_drives_37 ?_
        obtain ⟨r30, hc31, h⟩ := zB_spec h
        have hFc := zFree hD hS hA
        refine va_calli (va_runV (As := [.int p1, .int (((2 : Int32) * v26) + (1 : Int32))]) (rest := [.ref (h7 35)]) ⟨hx, hb, hml, hown, hts⟩ (m_X7_in l dC dI y a7 h7 s7_27 p1 (((2 : Int32) * v26) + (1 : Int32)) HGW2.size r30 hc31) (cwV 2 hts gX7_drives_X7_in rfl rfl rfl (by decide +kernel) ⟨Nat.le_of_ble_eq_true rfl, Nat.le_of_ble_eq_true rfl⟩) ⟨fun a U g mk q => by obtain ⟨q0, q1, qP, qK, qD⟩ := q; exact ⟨q0, q1, qP, va_K.moved (u := U) (U := U.calling g mk a) (Vm.Alike.refl U.vm) qK, qD⟩, va_recv hK hP (ci := 6) (q0 := 0) rfl rfl, fun U hU hW => ⟨rfl, by rw [hU], by rw [hU]; exact hP, va_K.moved hW.alike hK, hD.weaken (fun _ _ _ _ => trivial)⟩⟩ rfl rfl hl.1 rfl (lv_room (Nat.le_of_ble_eq_true rfl)) dX7_drives_38 ⟨Nat.le_of_ble_eq_true rfl, Nat.le_of_ble_eq_true rfl⟩) hS (fun q _ h => hFc q h) hFc (fun rr33 u t H32 locs ht hvm hw hB hz1 hk1 hS => ?_)
        obtain ⟨hP1, hK1, hD1⟩ := hB
        rw [ht] at hP1
        refine zTopi hw.symm ?_
        have hP := hP1
        have hD := hD1.weaken (fun _ q _ h => hFc q.1 h)
        have hP : va_P (dC, dI) vwCl (cX7 a7 h7 y s7_27) H32 := hP
        have hD : va_D A (cX7 a7 h7 y s7_27) := hD
        obtain ⟨hi34, h⟩ := zG_spec h
        refine va_iald hx hb hK hP 21 0 rfl rfl hi34 dX7_drives_41 ?_
        refine lv_iconst (v := 1) hx hb dX7_drives_42 (by decide) ?_
        refine W_abs (fun GW35 eG36 => ?_)
        obtain ⟨ov38, hr39, h⟩ := zB_spec h
        have jn37 : ∀ (v41 : Int32) (HGW35 : Heap) (locs : List Loc) (ls : Array Slot), v41 = ov38 → va_P (dC, dI) vwCl (cX7 a7 h7 y s7_27) HGW35 → va_D A (cX7 a7 h7 y s7_27) → va_S A s.heap HGW35 locs → lv_has ls 5 [(2, .int v1), (0, .ref a7), (1, .int p1), (3, .int v25), (4, .int v26)] → GW35 HGW35 locs 0 0 (F0 m 51 ls [.int v41]) := by
          intro v41 HGW35 locs ls hv hP hD hS hl
          subst hv
          refine (eG36 _ _ _ _ _).mpr ?_
          refine lv_aload_n hx hb dX7_drives_51 rfl (lv_at hl 1 rfl) ?_
          refine va_get (D := (dC, dI)) (ci := 6) (v := .ref (h7 19)) (C := RX7) (T := TX7) (N := 49) hx hb hts inX7_ hown hK hP 0 rfl rfl 19 (by decide) (hts (.fieldLink RX7 46 "GateWheelModel" "isIf1" "[Z") (List.mem_of_getElem? (i := 4) rfl)) (fun _ h9 => h9) rfl dX7_drives_52 ?_
          refine lv_bipush (v := 6) hx hb dX7_drives_55 (by decide) ?_
          refine lv_iload_n hx hb dX7_drives_57 rfl (lv_at hl 0 rfl) ?_
          refine lv_imul hx hb dX7_drives_58 ?_
          refine lv_iload hx hb dX7_drives_59 (lv_at hl 4 rfl) ?_
          refine lv_iadd hx hb dX7_drives_61 ?_
          obtain ⟨hi42, h⟩ := zG_spec h
          refine va_zald hx hb hK hP 11 3 rfl rfl hi42 dX7_drives_62 ?_
          refine lv_icmp_eq (tgt := 69) hx hb dX7_drives_63 (by decide) (fun c43 => ?_) (fun c43 => ?_)
          · have h := zY c43 h
            obtain ⟨v44, ev44, h⟩ := zL_spec h
            refine lv_iinc (v := v44) (lv' := [(3, .int v44), (2, .int v1), (0, .ref a7), (1, .int p1), (4, .int v26)]) hx hb dX7_drives_69 hl (k := 3) rfl (by rw [ev44]; rfl) (by decide) rfl (fun ls hl => ?_)
            refine lv_aload_n hx hb dX7_drives_72 rfl (lv_at hl 2 rfl) ?_
            refine va_get (D := (dC, dI)) (ci := 6) (v := .ref (h7 35)) (C := RX7) (T := TX7) (N := 49) hx hb hts inX7_ hown hK hP 0 rfl rfl 35 (by decide) (hts (.fieldLink RX7 77 "GateWheelModel" "world" "[I") (List.mem_of_getElem? (i := 3) rfl)) (fun _ h9 => h9) rfl dX7_drives_73 ?_
            refine lv_iload_n hx hb dX7_drives_76 rfl (lv_at hl 3 rfl) ?_
            refine lv_aload_n hx hb dX7_drives_77 rfl (lv_at hl 2 rfl) ?_
            refine va_get (D := (dC, dI)) (ci := 6) (v := .ref (h7 35)) (C := RX7) (T := TX7) (N := 49) hx hb hts inX7_ hown hK hP 0 rfl rfl 35 (by decide) (hts (.fieldLink RX7 77 "GateWheelModel" "world" "[I") (List.mem_of_getElem? (i := 3) rfl)) (fun _ h9 => h9) rfl dX7_drives_78 ?_
            refine lv_aload_n hx hb dX7_drives_81 rfl (lv_at hl 2 rfl) ?_
            refine lv_iload_n hx hb dX7_drives_82 rfl (lv_at hl 3 rfl) ?_
            refine lv_iconst (v := 2) hx hb dX7_drives_83 (by decide) ?_
            refine lv_iload hx hb dX7_drives_84 (lv_at hl 4 rfl) ?_
            refine lv_imul hx hb dX7_drives_86 ?_
            obtain ⟨r45, hc46, h⟩ := zB_spec h
            have hFc := zFree hD hS hA
            refine va_calli (va_runV (As := [.int p1, .int ((2 : Int32) * v26)]) (rest := [.ref (h7 35), .int p1, .ref (h7 35)]) ⟨hx, hb, hml, hown, hts⟩ (m_X7_in l dC dI y a7 h7 s7_27 p1 ((2 : Int32) * v26) HGW35.size r45 hc46) (cwV 2 hts gX7_drives_X7_in rfl rfl rfl (by decide +kernel) ⟨Nat.le_of_ble_eq_true rfl, Nat.le_of_ble_eq_true rfl⟩) ⟨fun a U g mk q => by obtain ⟨q0, q1, qP, qK, qD⟩ := q; exact ⟨q0, q1, qP, va_K.moved (u := U) (U := U.calling g mk a) (Vm.Alike.refl U.vm) qK, qD⟩, va_recv hK hP (ci := 6) (q0 := 0) rfl rfl, fun U hU hW => ⟨rfl, by rw [hU], by rw [hU]; exact hP, va_K.moved hW.alike hK, hD.weaken (fun _ _ _ _ => trivial)⟩⟩ rfl rfl hl.1 rfl (lv_room (Nat.le_of_ble_eq_true rfl)) dX7_drives_87 ⟨Nat.le_of_ble_eq_true rfl, Nat.le_of_ble_eq_true rfl⟩) hS (fun q _ h => hFc q h) hFc (fun rr48 u t H47 locs ht hvm hw hB hz1 hk1 hS => ?_)
            obtain ⟨hP1, hK1, hD1⟩ := hB
            rw [ht] at hP1
            refine zTopi hw.symm ?_
            have hP := hP1
            have hD := hD1.weaken (fun _ q _ h => hFc q.1 h)
            have hP : va_P (dC, dI) vwCl (cX7 a7 h7 y s7_27) H47 := hP
            have hD : va_D A (cX7 a7 h7 y s7_27) := hD
            obtain ⟨hi49, h⟩ := zG_spec h
            refine va_iald hx hb hK hP 21 0 rfl rfl hi49 dX7_drives_90 ?_
            obtain ⟨hi50, h⟩ := zG_spec h
            refine va_iast hx hb hK hP hD hS 21 0 rfl rfl hi50 dX7_drives_91 (fun H51 locs hP hD hS => ?_)
            obtain ⟨s7_52, es7_52, h⟩ := zL_spec h
            have hP : va_P (dC, dI) vwCl (cX7 a7 h7 y s7_52) H51 := by rw [es7_52]; exact hP
            have hD : va_D A (cX7 a7 h7 y s7_52) := by rw [es7_52]; exact hD
            obtain ⟨v53, ev53, h⟩ := zL_spec h
            refine lv_iinc (v := v53) (lv' := [(4, .int v53), (3, .int v44), (2, .int v1), (0, .ref a7), (1, .int p1)]) hx hb dX7_drives_92 hl (k := 4) rfl (by rw [ev53]; rfl) (by decide) rfl (fun ls hl => ?_)
            refine lv_goto (tgt := 15) hx hb dX7_drives_95 (by decide) ?_
            have h := zI_l h hx9
            exact (eG3 _ _ _ _ _).mp (ihlp5 v44 v53 s7_52 _ _ _ h hP hD hS (lv_sub hl [2, 3, 4, 1, 0] rfl))
          · have h := zN c43 h
            refine lv_goto (tgt := 92) hx hb dX7_drives_66 (by decide) ?_
            obtain ⟨v54, ev54, h⟩ := zL_spec h
            refine lv_iinc (v := v54) (lv' := [(4, .int v54), (2, .int v1), (0, .ref a7), (1, .int p1), (3, .int v25)]) hx hb dX7_drives_92 hl (k := 4) rfl (by rw [ev54]; rfl) (by decide) rfl (fun ls hl => ?_)
            refine lv_goto (tgt := 15) hx hb dX7_drives_95 (by decide) ?_
            have h := zI_l h hx9
            exact (eG3 _ _ _ _ _).mp (ihlp5 v25 v54 s7_27 _ _ _ h hP hD hS (lv_sub hl [1, 2, 3, 4, 0] rfl))
        refine (eG36 _ _ _ _ _).mpr ?_
        have h := hr39
        refine lv_icmp_ne (tgt := 50) hx hb dX7_drives_43 (by decide) (fun c55 => ?_) (fun c55 => ?_)
        · have h := zN c55 h
          refine lv_iconst (v := 0) hx hb dX7_drives_50 (by decide) ?_
          exact (eG36 _ _ _ _ _).mp (jn37 (0 : Int32) _ _ _ (Option.some.inj h) hP hD hS (lv_sub hl [0, 1, 2, 3, 4] rfl))
        · have h := zY c55 h
          refine lv_iconst (v := 1) hx hb dX7_drives_46 (by decide) ?_
          refine lv_goto (tgt := 51) hx hb dX7_drives_47 (by decide) ?_
          exact (eG36 _ _ _ _ _).mp (jn37 (1 : Int32) _ _ _ (Option.some.inj h) hP hD hS (lv_sub hl [0, 1, 2, 3, 4] rfl))
  exact lp5 zF (0 : Int32) (0 : Int32) S7 _ _ _ hi7 hP hD hS (lv_sub hl [2, 3, 4, 1, 0] rfl)

set_option maxHeartbeats 4000000 in
set_option maxRecDepth 100000 in
theorem m_X7_goes (l : Launch) (dC : Nat → ClassId) (dI : Nat → Nat → Nat) (y : Nat → ClassId) (a7 : Nat) (h7 : Nat → Nat) (S7 : SS) (p1 : Int32) (sz : Nat) (or_ : Int32) (o_7 : SS) (h : f_X7_goes S7 p1 = some (or_, o_7)) : Met l yX7_goes wsX7_goes ({ frames := 2, cells := 0, slots := 0, locals := 50 }) (va_Pc [.ref a7, .int p1] (fun U => U.heap.size = sz ∧ va_P (dC, dI) vwCl (cX7 a7 h7 y S7) U.heap ∧ va_K (dC, dI) vwCl [(y 0, .int), (y 1, .long), (y 2, .byte), (y 3, .boolean)] U ∧ va_D (fun _ => True) (cX7 a7 h7 y S7))) (va_Qi (fun (r : Int32) (_ : Unit) => r = or_) (fun (_ : Unit) (t : State) => va_P (dC, dI) vwCl (cX7 a7 h7 y o_7) t.heap ∧ va_K (dC, dI) vwCl [(y 0, .int), (y 1, .long), (y 2, .byte), (y 3, .boolean)] t ∧ va_D (va_A (cX7 a7 h7 y S7) sz) (cX7 a7 h7 y o_7)) (va_A (cX7 a7 h7 y S7) sz)) 0 0 (va_A (cX7 a7 h7 y S7) sz) := by
  refine Met.ofW (cc := cX7_goes) (maxL := 5) (ret := (some .boolean)) (by decide +kernel) rfl ?_
  intro p e s m args below meth c s₁ B hml hv
  obtain ⟨rfl, hsz, hP, hK, hD0⟩ := hv
  have hx := B.exec
  have hb := B.bytes
  have hr := B.returns
  have hts := atoms_spec (ws := wsX7_goes) B.pre
  have hown : s.vm.findClass RX7 = some m.cls := findClass_of_methodNamed B.named
  have hlocks := B.notSynchronized
  have inX7_ : ∀ w ∈ wsX70, w ∈ wsX7_goes := fun _ h => List.mem_cons_of_mem _ (List.mem_append_right _ h)
  subst hsz
  have hD := hD0.self (sz := s.heap.size)
  generalize hAe : va_A (cX7 a7 h7 y S7) s.heap.size = A at hD ⊢
  have hA : ∀ q : Nat, s.heap.size ≤ q → A q := fun q h => by rw [← hAe]; exact Or.inr h
  have hS : va_S A s.heap s.heap [] := va_S.rf
  have hP : va_P (dC, dI) vwCl (cX7 a7 h7 y S7) s.heap := hP
  have hl := lv_entry ([.ref a7, .int p1]) (n := 5) (Nat.le_of_ble_eq_true rfl)
  rw [lg_entry_eq]
  generalize (lg_sl ([.ref a7, .int p1]) ++ List.replicate (5 - (lg_sl ([.ref a7, .int p1])).length) Slot.unset).toArray = ls at hl ⊢
  have hl : lv_has ls 5 [(0, .ref a7), (1, .int p1)] := hl
  refine lv_iconst (v := 0) hx hb dX7_goes_0 (by decide) ?_
  refine lv_istore_n (lv' := [(2, .int 0), (0, .ref a7), (1, .int p1)]) hx hb dX7_goes_1 rfl hl (by decide) rfl (fun ls hl => ?_)
  refine W_abs (fun GW1 eG2 => ?_)
  obtain ⟨ov5, hi6, h⟩ := zB_spec h
  have je3 : ∀ (s7_10 : SS) (HGW1e : Heap) (locs : List Loc) (ls : Array Slot), s7_10 = ov5 → va_P (dC, dI) vwCl (cX7 a7 h7 y s7_10) HGW1e → va_D A (cX7 a7 h7 y s7_10) → va_S A s.heap HGW1e locs → lv_has ls 5 [(0, .ref a7), (1, .int p1)] → GW1 HGW1e locs 0 0 (F0 m 28 ls []) := by
    intro s7_10 HGW1e locs ls hv hP hD hS hl
    subst hv
    refine (eG2 _ _ _ _ _).mpr ?_
    refine lv_iconst (v := 0) hx hb dX7_goes_28 (by decide) ?_
    refine lv_istore_n (lv' := [(2, .int 0), (0, .ref a7), (1, .int p1)]) hx hb dX7_goes_29 rfl hl (by decide) rfl (fun ls hl => ?_)
    refine W_abs (fun GW11 eG12 => ?_)
    obtain ⟨ov15, hi16, h⟩ := zB_spec h
    have je13 : ∀ (s7_20 : SS) (HGW11e : Heap) (locs : List Loc) (ls : Array Slot), s7_20 = ov15 → va_P (dC, dI) vwCl (cX7 a7 h7 y s7_20) HGW11e → va_D A (cX7 a7 h7 y s7_20) → va_S A s.heap HGW11e locs → lv_has ls 5 [(0, .ref a7)] → GW11 HGW11e locs 0 0 (F0 m 60 ls []) := by
      intro s7_20 HGW11e locs ls hv hP hD hS hl
      subst hv
      refine (eG12 _ _ _ _ _).mpr ?_
      refine lv_iconst (v := 1) hx hb dX7_goes_60 (by decide) ?_
      refine lv_istore_n (lv' := [(2, .int 1), (0, .ref a7)]) hx hb dX7_goes_61 rfl hl (by decide) rfl (fun ls hl => ?_)
      refine lv_iconst (v := 0) hx hb dX7_goes_62 (by decide) ?_
      refine lv_istore_n (lv' := [(3, .int 0), (2, .int 1), (0, .ref a7)]) hx hb dX7_goes_63 rfl hl (by decide) rfl (fun ls hl => ?_)
      refine W_abs (fun GW21 eG22 => ?_)
      have hi26 := h
      have lp24 : ∀ (n : Nat) (v30 : Int32) (v31 : Int32) (s7_32 : SS) (HGW21 : Heap) (locs : List Loc) (ls : Array Slot), zI (b_X7_goes_64) n (v30, v31, s7_32) = some (or_, o_7) → va_P (dC, dI) vwCl (cX7 a7 h7 y s7_32) HGW21 → va_D A (cX7 a7 h7 y s7_32) → va_S A s.heap HGW21 locs → lv_has ls 5 [(0, .ref a7), (2, .int v30), (3, .int v31)] → GW21 HGW21 locs 0 0 (F0 m 64 ls []) := by
        intro n
        induction n with
        | zero =>
          intro v30 v31 s7_32 HGW21 locs ls hi26 hP hD hS hl
          exact (zI_0 hi26).elim
        | succ n ihlp24 =>
          intro v30 v31 s7_32 HGW21 locs ls hi26 hP hD hS hl
          refine (eG22 _ _ _ _ _).mpr ?_
          obtain ⟨xx29, h, hx28⟩ := zI_spec hi26
          refine lv_iload_n hx hb dX7_goes_64 rfl (lv_at hl 2 rfl) ?_
          refine lv_aload_n hx hb dX7_goes_65 rfl (lv_at hl 0 rfl) ?_
          refine va_get (D := (dC, dI)) (ci := 6) (v := .int (gI s7_32 29)) (C := RX7) (T := TX7) (N := 49) hx hb hts inX7_ hown hK hP 0 rfl rfl 29 (by decide) (hts (.fieldLink RX7 261 "GateWheelModel" "nodes" "I") (List.mem_of_getElem? (i := 1) rfl)) (fun _ h9 => h9) rfl dX7_goes_66 ?_
          refine lv_icmp_gt (tgt := 178) hx hb dX7_goes_69 (by decide) (fun c33 => ?_) (fun c33 => ?_)
          · have h := zY c33 h
            refine lv_iload_n hx hb dX7_goes_178 rfl (lv_at hl 1 rfl) ?_
            obtain ⟨hz34, h⟩ := zG_spec h
            have h := congrArg some (zI_r h hx28)
            have ho0 : v30 = or_ := congrArg (fun z : Int32 × SS => z.1) (Option.some.inj h)
            have ho1 : s7_32 = o_7 := congrArg (fun z : Int32 × SS => z.2) (Option.some.inj h)
            exact W.zret (v := v30) hx hb hr (zb_nar hz34) (fun t ht hW => ⟨⟨v30, (), rfl, ho0, by rw [ht]; rw [← ho1]; exact hP, va_K.moved hW.alike hK, by rw [← ho1]; exact hD⟩, hS.F ht⟩) hS.2.2 dX7_goes_179
          · have h := zN c33 h
            refine lv_iload_n hx hb dX7_goes_72 rfl (lv_at hl 1 rfl) ?_
            refine lv_if_eq (tgt := 178) hx hb dX7_goes_73 (by decide) (fun c35 => ?_) (fun c35 => ?_)
            · have h := zY c35 h
              refine lv_iload_n hx hb dX7_goes_178 rfl (lv_at hl 1 rfl) ?_
              obtain ⟨hz36, h⟩ := zG_spec h
              have h := congrArg some (zI_r h hx28)
              have ho0 : v30 = or_ := congrArg (fun z : Int32 × SS => z.1) (Option.some.inj h)
              have ho1 : s7_32 = o_7 := congrArg (fun z : Int32 × SS => z.2) (Option.some.inj h)
              exact W.zret (v := v30) hx hb hr (zb_nar hz36) (fun t ht hW => ⟨⟨v30, (), rfl, ho0, by rw [ht]; rw [← ho1]; exact hP, va_K.moved hW.alike hK, by rw [← ho1]; exact hD⟩, hS.F ht⟩) hS.2.2 dX7_goes_179
            · have h := zN c35 h
              refine lv_iconst (v := 0) hx hb dX7_goes_76 (by decide) ?_
              refine lv_istore (lv' := [(4, .int 0), (0, .ref a7), (2, .int v30), (3, .int v31)]) hx hb dX7_goes_77 hl (by decide) rfl (fun ls hl => ?_)
              refine W_abs (fun GW37 eG38 => ?_)
              obtain ⟨ov41, hi42, h⟩ := zB_spec h
              have je39 : ∀ (v46 : Int32) (s7_47 : SS) (HGW37e : Heap) (locs : List Loc) (ls : Array Slot), (v46, s7_47) = ov41 → va_P (dC, dI) vwCl (cX7 a7 h7 y s7_47) HGW37e → va_D A (cX7 a7 h7 y s7_47) → va_S A s.heap HGW37e locs → lv_has ls 5 [(0, .ref a7), (3, .int v31), (2, .int v46)] → GW37 HGW37e locs 0 0 (F0 m 172 ls []) := by
                intro v46 s7_47 HGW37e locs ls hv hP hD hS hl
                subst hv
                refine (eG38 _ _ _ _ _).mpr ?_
                obtain ⟨v48, ev48, h⟩ := zL_spec h
                refine lv_iinc (v := v48) (lv' := [(3, .int v48), (0, .ref a7), (2, .int v46)]) hx hb dX7_goes_172 hl (k := 1) rfl (by rw [ev48]; rfl) (by decide) rfl (fun ls hl => ?_)
                refine lv_goto (tgt := 64) hx hb dX7_goes_175 (by decide) ?_
                have h := zI_l h hx28
                exact (eG22 _ _ _ _ _).mp (ihlp24 v46 v48 s7_47 _ _ _ h hP hD hS (lv_sub hl [1, 2, 0] rfl))
              have lp40 : ∀ (n : Nat) (v49 : Int32) (v50 : Int32) (s7_51 : SS) (HGW37 : Heap) (locs : List Loc) (ls : Array Slot), zI (b_X7_goes_79 v31) n (v49, v50, s7_51) = some ov41 → va_P (dC, dI) vwCl (cX7 a7 h7 y s7_51) HGW37 → va_D A (cX7 a7 h7 y s7_51) → va_S A s.heap HGW37 locs → lv_has ls 5 [(0, .ref a7), (3, .int v31), (2, .int v49), (4, .int v50)] → GW37 HGW37 locs 0 0 (F0 m 79 ls []) := by
                intro n
                induction n with
                | zero =>
                  intro v49 v50 s7_51 HGW37 locs ls hi42 hP hD hS hl
                  exact (zI_0 hi42).elim
                | succ n ihlp40 =>
                  intro v49 v50 s7_51 HGW37 locs ls hi42 hP hD hS hl
                  refine (eG38 _ _ _ _ _).mpr ?_
                  obtain ⟨xx45, h, hx44⟩ := zI_spec hi42
                  refine lv_iload hx hb dX7_goes_79 (lv_at hl 3 rfl) ?_
                  refine lv_aload_n hx hb dX7_goes_81 rfl (lv_at hl 0 rfl) ?_
                  refine va_get (D := (dC, dI)) (ci := 6) (v := .int (gI s7_51 29)) (C := RX7) (T := TX7) (N := 49) hx hb hts inX7_ hown hK hP 0 rfl rfl 29 (by decide) (hts (.fieldLink RX7 261 "GateWheelModel" "nodes" "I") (List.mem_of_getElem? (i := 1) rfl)) (fun _ h9 => h9) rfl dX7_goes_82 ?_
                  refine lv_icmp_ge (tgt := 172) hx hb dX7_goes_85 (by decide) (fun c52 => ?_) (fun c52 => ?_)
                  · have h := zY c52 h
                    exact (eG38 _ _ _ _ _).mp (je39 v49 s7_51 _ _ _ (zI_r h hx44) hP hD hS (lv_sub hl [0, 1, 2] rfl))
                  · have h := zN c52 h
                    refine lv_aload_n hx hb dX7_goes_88 rfl (lv_at hl 0 rfl) ?_
                    refine va_get (D := (dC, dI)) (ci := 6) (v := .ref (h7 17)) (C := RX7) (T := TX7) (N := 49) hx hb hts inX7_ hown hK hP 0 rfl rfl 17 (by decide) (hts (.fieldLink RX7 40 "GateWheelModel" "nLevel" "[I") (List.mem_of_getElem? (i := 6) rfl)) (fun _ h9 => h9) rfl dX7_goes_89 ?_
                    refine lv_bipush (v := 60) hx hb dX7_goes_92 (by decide) ?_
                    refine lv_aload_n hx hb dX7_goes_94 rfl (lv_at hl 0 rfl) ?_
                    refine va_get (D := (dC, dI)) (ci := 6) (v := .int (gI s7_51 30)) (C := RX7) (T := TX7) (N := 49) hx hb hts inX7_ hown hK hP 0 rfl rfl 30 (by decide) (hts (.fieldLink RX7 188 "GateWheelModel" "bank" "I") (List.mem_of_getElem? (i := 7) rfl)) (fun _ h9 => h9) rfl dX7_goes_95 ?_
                    refine lv_imul hx hb dX7_goes_98 ?_
                    refine lv_iload hx hb dX7_goes_99 (lv_at hl 3 rfl) ?_
                    refine lv_iadd hx hb dX7_goes_101 ?_
                    obtain ⟨hi53, h⟩ := zG_spec h
                    refine va_iald hx hb hK hP 9 0 rfl rfl hi53 dX7_goes_102 ?_
                    refine lv_iload_n hx hb dX7_goes_103 rfl (lv_at hl 1 rfl) ?_
                    refine lv_icmp_eq (tgt := 110) hx hb dX7_goes_104 (by decide) (fun c54 => ?_) (fun c54 => ?_)
                    · have h := zY c54 h
                      refine lv_aload_n hx hb dX7_goes_110 rfl (lv_at hl 0 rfl) ?_
                      refine lv_iload hx hb dX7_goes_111 (lv_at hl 3 rfl) ?_
                      obtain ⟨r55, hc56, h⟩ := zB_spec h
                      have hFc := zFree hD hS hA
                      refine va_calli (va_runV (As := [.int v50]) (rest := []) ⟨hx, hb, hml, hown, hts⟩ (m_X7_kind l dC dI y a7 h7 s7_51 v50 HGW37.size r55 hc56) (cwV 1 hts gX7_goes_X7_kind rfl rfl rfl (by decide +kernel) ⟨Nat.le_of_ble_eq_true rfl, Nat.le_of_ble_eq_true rfl⟩) ⟨fun a U g mk q => by obtain ⟨q0, q1, qP, qK, qD⟩ := q; exact ⟨q0, q1, qP, va_K.moved (u := U) (U := U.calling g mk a) (Vm.Alike.refl U.vm) qK, qD⟩, va_recv hK hP (ci := 6) (q0 := 0) rfl rfl, fun U hU hW => ⟨rfl, by rw [hU], by rw [hU]; exact hP, va_K.moved hW.alike hK, hD.weaken (fun _ _ _ _ => trivial)⟩⟩ rfl rfl hl.1 rfl (lv_room (Nat.le_of_ble_eq_true rfl)) dX7_goes_113 ⟨Nat.le_of_ble_eq_true rfl, Nat.le_of_ble_eq_true rfl⟩) hS (fun q _ h => hFc q h) hFc (fun rr58 u t H57 locs ht hvm hw hB hz1 hk1 hS => ?_)
                      obtain ⟨hP1, hK1, hD1⟩ := hB
                      rw [ht] at hP1
                      refine zTopi hw.symm ?_
                      have hP := hP1
                      have hD := hD1.weaken (fun _ q _ h => hFc q.1 h)
                      have hP : va_P (dC, dI) vwCl (cX7 a7 h7 y s7_51) H57 := hP
                      have hD : va_D A (cX7 a7 h7 y s7_51) := hD
                      refine lv_iconst (v := 2) hx hb dX7_goes_116 (by decide) ?_
                      refine W_abs (fun GW59 eG60 => ?_)
                      obtain ⟨ov62, hr63, h⟩ := zB_spec h
                      have jn61 : ∀ (s7_65 : SS) (HGW59 : Heap) (locs : List Loc) (ls : Array Slot), s7_65 = ov62 → va_P (dC, dI) vwCl (cX7 a7 h7 y s7_65) HGW59 → va_D A (cX7 a7 h7 y s7_65) → va_S A s.heap HGW59 locs → lv_has ls 5 [(0, .ref a7), (3, .int v31), (2, .int v49), (4, .int v50)] → GW59 HGW59 locs 0 0 (F0 m 137 ls []) := by
                        intro s7_65 HGW59 locs ls hv hP hD hS hl
                        subst hv
                        refine (eG60 _ _ _ _ _).mpr ?_
                        refine lv_aload_n hx hb dX7_goes_137 rfl (lv_at hl 0 rfl) ?_
                        refine lv_iload hx hb dX7_goes_138 (lv_at hl 3 rfl) ?_
                        obtain ⟨r66, hc67, h⟩ := zB_spec h
                        have hFc := zFree hD hS hA
                        refine va_calli (va_runV (As := [.int v50]) (rest := []) ⟨hx, hb, hml, hown, hts⟩ (m_X7_kind l dC dI y a7 h7 s7_65 v50 HGW59.size r66 hc67) (cwV 1 hts gX7_goes_X7_kind rfl rfl rfl (by decide +kernel) ⟨Nat.le_of_ble_eq_true rfl, Nat.le_of_ble_eq_true rfl⟩) ⟨fun a U g mk q => by obtain ⟨q0, q1, qP, qK, qD⟩ := q; exact ⟨q0, q1, qP, va_K.moved (u := U) (U := U.calling g mk a) (Vm.Alike.refl U.vm) qK, qD⟩, va_recv hK hP (ci := 6) (q0 := 0) rfl rfl, fun U hU hW => ⟨rfl, by rw [hU], by rw [hU]; exact hP, va_K.moved hW.alike hK, hD.weaken (fun _ _ _ _ => trivial)⟩⟩ rfl rfl hl.1 rfl (lv_room (Nat.le_of_ble_eq_true rfl)) dX7_goes_140 ⟨Nat.le_of_ble_eq_true rfl, Nat.le_of_ble_eq_true rfl⟩) hS (fun q _ h => hFc q h) hFc (fun rr69 u t H68 locs ht hvm hw hB hz1 hk1 hS => ?_)
                        obtain ⟨hP1, hK1, hD1⟩ := hB
                        rw [ht] at hP1
                        refine zTopi hw.symm ?_
                        have hP := hP1
                        have hD := hD1.weaken (fun _ q _ h => hFc q.1 h)
                        have hP : va_P (dC, dI) vwCl (cX7 a7 h7 y s7_65) H68 := hP
                        have hD : va_D A (cX7 a7 h7 y s7_65) := hD
                        refine lv_iconst (v := 1) hx hb dX7_goes_143 (by decide) ?_
                        refine lv_icmp_ne (tgt := 166) hx hb dX7_goes_144 (by decide) (fun c70 => ?_) (fun c70 => ?_)
                        · have h := zN c70 h
                          obtain ⟨v71, ev71, h⟩ := zL_spec h
                          refine lv_iinc (v := v71) (lv' := [(4, .int v71), (0, .ref a7), (3, .int v31), (2, .int v49)]) hx hb dX7_goes_166 hl (k := 3) rfl (by rw [ev71]; rfl) (by decide) rfl (fun ls hl => ?_)
                          refine lv_goto (tgt := 79) hx hb dX7_goes_169 (by decide) ?_
                          have h := zI_l h hx44
                          exact (eG38 _ _ _ _ _).mp (ihlp40 v49 v71 s7_65 _ _ _ h hP hD hS (lv_sub hl [1, 2, 3, 0] rfl))
                        · have h := zY c70 h
                          refine lv_iload_n hx hb dX7_goes_147 rfl (lv_at hl 2 rfl) ?_
                          refine lv_if_eq (tgt := 164) hx hb dX7_goes_148 (by decide) (fun c72 => ?_) (fun c72 => ?_)
                          · have h := zY c72 h
                            refine lv_iconst (v := 0) hx hb dX7_goes_164 (by decide) ?_
                            refine lv_istore_n (lv' := [(2, .int 0), (0, .ref a7), (3, .int v31), (4, .int v50)]) hx hb dX7_goes_165 rfl hl (by decide) rfl (fun ls hl => ?_)
                            obtain ⟨v73, ev73, h⟩ := zL_spec h
                            refine lv_iinc (v := v73) (lv' := [(4, .int v73), (2, .int 0), (0, .ref a7), (3, .int v31)]) hx hb dX7_goes_166 hl (k := 3) rfl (by rw [ev73]; rfl) (by decide) rfl (fun ls hl => ?_)
                            refine lv_goto (tgt := 79) hx hb dX7_goes_169 (by decide) ?_
                            have h := zI_l h hx44
                            exact (eG38 _ _ _ _ _).mp (ihlp40 (0 : Int32) v73 s7_65 _ _ _ h hP hD hS (lv_sub hl [2, 3, 1, 0] rfl))
                          · have h := zN c72 h
                            refine lv_aload_n hx hb dX7_goes_151 rfl (lv_at hl 0 rfl) ?_
                            refine lv_iload hx hb dX7_goes_152 (lv_at hl 3 rfl) ?_
                            obtain ⟨⟨r74, s7_75⟩, hc76, h⟩ := zB_spec h
                            have hFc := zFree hD hS hA
                            refine va_calli (va_runV (As := [.int v50]) (rest := []) ⟨hx, hb, hml, hown, hts⟩ (m_X7_drives l dC dI y a7 h7 s7_65 v50 H68.size r74 s7_75 hc76) (cwV 1 hts gX7_goes_X7_drives rfl rfl rfl (by decide +kernel) ⟨Nat.le_of_ble_eq_true rfl, Nat.le_of_ble_eq_true rfl⟩) ⟨fun a U g mk q => by obtain ⟨q0, q1, qP, qK, qD⟩ := q; exact ⟨q0, q1, qP, va_K.moved (u := U) (U := U.calling g mk a) (Vm.Alike.refl U.vm) qK, qD⟩, va_recv hK hP (ci := 6) (q0 := 0) rfl rfl, fun U hU hW => ⟨rfl, by rw [hU], by rw [hU]; exact hP, va_K.moved hW.alike hK, hD.weaken (fun _ _ _ _ => trivial)⟩⟩ rfl rfl hl.1 rfl (lv_room (Nat.le_of_ble_eq_true rfl)) dX7_goes_154 ⟨Nat.le_of_ble_eq_true rfl, Nat.le_of_ble_eq_true rfl⟩) hS (fun q _ h => hFc q h) hFc (fun rr78 u t H77 locs ht hvm hw hB hz1 hk1 hS => ?_)
                            obtain ⟨hP1, hK1, hD1⟩ := hB
                            rw [ht] at hP1
                            refine zTopi hw.symm ?_
                            have hP := hP1
                            have hD := hD1.weaken (fun _ q _ h => hFc q.1 h)
                            have hP : va_P (dC, dI) vwCl (cX7 a7 h7 y s7_75) H77 := hP
                            have hD : va_D A (cX7 a7 h7 y s7_75) := hD
                            refine lv_if_eq (tgt := 164) hx hb dX7_goes_157 (by decide) (fun c79 => ?_) (fun c79 => ?_)
                            · have h := zY c79 h
                              refine lv_iconst (v := 0) hx hb dX7_goes_164 (by decide) ?_
                              refine lv_istore_n (lv' := [(2, .int 0), (0, .ref a7), (3, .int v31), (4, .int v50)]) hx hb dX7_goes_165 rfl hl (by decide) rfl (fun ls hl => ?_)
                              obtain ⟨v80, ev80, h⟩ := zL_spec h
                              refine lv_iinc (v := v80) (lv' := [(4, .int v80), (2, .int 0), (0, .ref a7), (3, .int v31)]) hx hb dX7_goes_166 hl (k := 3) rfl (by rw [ev80]; rfl) (by decide) rfl (fun ls hl => ?_)
                              refine lv_goto (tgt := 79) hx hb dX7_goes_169 (by decide) ?_
                              have h := zI_l h hx44
                              exact (eG38 _ _ _ _ _).mp (ihlp40 (0 : Int32) v80 s7_75 _ _ _ h hP hD hS (lv_sub hl [2, 3, 1, 0] rfl))
                            · have h := zN c79 h
                              refine lv_iconst (v := 1) hx hb dX7_goes_160 (by decide) ?_
                              refine lv_goto (tgt := 165) hx hb dX7_goes_161 (by decide) ?_
                              refine lv_istore_n (lv' := [(2, .int 1), (0, .ref a7), (3, .int v31), (4, .int v50)]) hx hb dX7_goes_165 rfl hl (by decide) rfl (fun ls hl => ?_)
                              obtain ⟨v81, ev81, h⟩ := zL_spec h
                              refine lv_iinc (v := v81) (lv' := [(4, .int v81), (2, .int 1), (0, .ref a7), (3, .int v31)]) hx hb dX7_goes_166 hl (k := 3) rfl (by rw [ev81]; rfl) (by decide) rfl (fun ls hl => ?_)
                              refine lv_goto (tgt := 79) hx hb dX7_goes_169 (by decide) ?_
                              have h := zI_l h hx44
                              exact (eG38 _ _ _ _ _).mp (ihlp40 (1 : Int32) v81 s7_75 _ _ _ h hP hD hS (lv_sub hl [2, 3, 1, 0] rfl))
                      refine (eG60 _ _ _ _ _).mpr ?_
                      have h := hr63
                      refine lv_icmp_ne (tgt := 137) hx hb dX7_goes_117 (by decide) (fun c82 => ?_) (fun c82 => ?_)
                      · have h := zN c82 h
                        exact (eG60 _ _ _ _ _).mp (jn61 s7_51 _ _ _ (Option.some.inj h) hP hD hS (lv_sub hl [0, 1, 2, 3] rfl))
                      · have h := zY c82 h
                        refine lv_aload_n hx hb dX7_goes_120 rfl (lv_at hl 0 rfl) ?_
                        refine va_get (D := (dC, dI)) (ci := 6) (v := .ref (h7 35)) (C := RX7) (T := TX7) (N := 49) hx hb hts inX7_ hown hK hP 0 rfl rfl 35 (by decide) (hts (.fieldLink RX7 77 "GateWheelModel" "world" "[I") (List.mem_of_getElem? (i := 2) rfl)) (fun _ h9 => h9) rfl dX7_goes_121 ?_
                        refine lv_iload hx hb dX7_goes_124 (lv_at hl 3 rfl) ?_
                        refine lv_aload_n hx hb dX7_goes_126 rfl (lv_at hl 0 rfl) ?_
                        refine lv_iload hx hb dX7_goes_127 (lv_at hl 3 rfl) ?_
                        refine lv_aload_n hx hb dX7_goes_129 rfl (lv_at hl 0 rfl) ?_
                        refine va_get (D := (dC, dI)) (ci := 6) (v := .ref (h7 35)) (C := RX7) (T := TX7) (N := 49) hx hb hts inX7_ hown hK hP 0 rfl rfl 35 (by decide) (hts (.fieldLink RX7 77 "GateWheelModel" "world" "[I") (List.mem_of_getElem? (i := 2) rfl)) (fun _ h9 => h9) rfl dX7_goes_130 ?_
                        obtain ⟨r83, hc84, h⟩ := zB_spec h
                        have hFc := zFree hD hS hA
                        refine va_calli (va_runV (As := [.int v50, .ref (h7 35)]) (rest := [.int v50, .ref (h7 35)]) ⟨hx, hb, hml, hown, hts⟩ (m_X7_gate l dC dI y a7 h7 s7_51 v50 35 21 ⟨fun _ => rfl, fun _ _ => rfl⟩ H57.size r83 hc84) (cwV 2 hts gX7_goes_X7_gate rfl rfl rfl (by decide +kernel) ⟨Nat.le_of_ble_eq_true rfl, Nat.le_of_ble_eq_true rfl⟩) ⟨fun a U g mk q => by obtain ⟨q0, q1, qP, qK, qD⟩ := q; exact ⟨q0, q1, qP, va_K.moved (u := U) (U := U.calling g mk a) (Vm.Alike.refl U.vm) qK, qD⟩, va_recv hK hP (ci := 6) (q0 := 0) rfl rfl, fun U hU hW => ⟨rfl, by rw [hU], by rw [hU]; exact hP, va_K.moved hW.alike hK, hD.weaken (fun _ _ _ _ => trivial)⟩⟩ rfl rfl hl.1 rfl (lv_room (Nat.le_of_ble_eq_true rfl)) dX7_goes_133 ⟨Nat.le_of_ble_eq_true rfl, Nat.le_of_ble_eq_true rfl⟩) hS (fun q _ h => hFc q h) hFc (fun rr86 u t H85 locs ht hvm hw hB hz1 hk1 hS => ?_)
                        obtain ⟨hP1, hK1, hD1⟩ := hB
                        rw [ht] at hP1
                        refine zTopi hw.symm ?_
                        have hP := hP1
                        have hD := hD1.weaken (fun _ q _ h => hFc q.1 h)
                        have hP : va_P (dC, dI) vwCl (cX7 a7 h7 y s7_51) H85 := hP
                        have hD : va_D A (cX7 a7 h7 y s7_51) := hD
                        obtain ⟨hi87, h⟩ := zG_spec h
                        refine va_iast hx hb hK hP hD hS 21 0 rfl rfl hi87 dX7_goes_136 (fun H88 locs hP hD hS => ?_)
                        obtain ⟨s7_89, es7_89, h⟩ := zL_spec h
                        have hP : va_P (dC, dI) vwCl (cX7 a7 h7 y s7_89) H88 := by rw [es7_89]; exact hP
                        have hD : va_D A (cX7 a7 h7 y s7_89) := by rw [es7_89]; exact hD
                        exact (eG60 _ _ _ _ _).mp (jn61 s7_89 _ _ _ (Option.some.inj h) hP hD hS (lv_sub hl [0, 1, 2, 3] rfl))
                    · have h := zN c54 h
                      refine lv_goto (tgt := 166) hx hb dX7_goes_107 (by decide) ?_
                      obtain ⟨v90, ev90, h⟩ := zL_spec h
                      refine lv_iinc (v := v90) (lv' := [(4, .int v90), (0, .ref a7), (3, .int v31), (2, .int v49)]) hx hb dX7_goes_166 hl (k := 3) rfl (by rw [ev90]; rfl) (by decide) rfl (fun ls hl => ?_)
                      refine lv_goto (tgt := 79) hx hb dX7_goes_169 (by decide) ?_
                      have h := zI_l h hx44
                      exact (eG38 _ _ _ _ _).mp (ihlp40 v49 v90 s7_51 _ _ _ h hP hD hS (lv_sub hl [1, 2, 3, 0] rfl))
              exact lp40 zF v30 (0 : Int32) s7_32 _ _ _ hi42 hP hD hS (lv_sub hl [1, 3, 2, 0] rfl)
      exact lp24 zF (1 : Int32) (0 : Int32) s7_20 _ _ _ hi26 hP hD hS (lv_sub hl [2, 1, 0] rfl)
    have lp14 : ∀ (n : Nat) (v91 : Int32) (s7_92 : SS) (HGW11 : Heap) (locs : List Loc) (ls : Array Slot), zI (b_X7_goes_30 p1) n (v91, s7_92) = some ov15 → va_P (dC, dI) vwCl (cX7 a7 h7 y s7_92) HGW11 → va_D A (cX7 a7 h7 y s7_92) → va_S A s.heap HGW11 locs → lv_has ls 5 [(0, .ref a7), (1, .int p1), (2, .int v91)] → GW11 HGW11 locs 0 0 (F0 m 30 ls []) := by
      intro n
      induction n with
      | zero =>
        intro v91 s7_92 HGW11 locs ls hi16 hP hD hS hl
        exact (zI_0 hi16).elim
      | succ n ihlp14 =>
        intro v91 s7_92 HGW11 locs ls hi16 hP hD hS hl
        refine (eG12 _ _ _ _ _).mpr ?_
        obtain ⟨xx19, h, hx18⟩ := zI_spec hi16
        refine lv_iload_n hx hb dX7_goes_30 rfl (lv_at hl 2 rfl) ?_
        refine lv_aload_n hx hb dX7_goes_31 rfl (lv_at hl 0 rfl) ?_
        refine va_get (D := (dC, dI)) (ci := 6) (v := .int (gI s7_92 39)) (C := RX7) (T := TX7) (N := 49) hx hb hts inX7_ hown hK hP 0 rfl rfl 39 (by decide) (hts (.fieldLink RX7 304 "GateWheelModel" "thems" "I") (List.mem_of_getElem? (i := 4) rfl)) (fun _ h9 => h9) rfl dX7_goes_32 ?_
        refine lv_icmp_ge (tgt := 60) hx hb dX7_goes_35 (by decide) (fun c93 => ?_) (fun c93 => ?_)
        · have h := zY c93 h
          exact (eG12 _ _ _ _ _).mp (je13 s7_92 _ _ _ (zI_r h hx18) hP hD hS (lv_sub hl [0] rfl))
        · have h := zN c93 h
          refine lv_aload_n hx hb dX7_goes_38 rfl (lv_at hl 0 rfl) ?_
          refine va_get (D := (dC, dI)) (ci := 6) (v := .ref (h7 35)) (C := RX7) (T := TX7) (N := 49) hx hb hts inX7_ hown hK hP 0 rfl rfl 35 (by decide) (hts (.fieldLink RX7 77 "GateWheelModel" "world" "[I") (List.mem_of_getElem? (i := 2) rfl)) (fun _ h9 => h9) rfl dX7_goes_39 ?_
          refine lv_aload_n hx hb dX7_goes_42 rfl (lv_at hl 0 rfl) ?_
          refine va_get (D := (dC, dI)) (ci := 6) (v := .ref (h7 38)) (C := RX7) (T := TX7) (N := 49) hx hb hts inX7_ hown hK hP 0 rfl rfl 38 (by decide) (hts (.fieldLink RX7 86 "GateWheelModel" "them" "[I") (List.mem_of_getElem? (i := 5) rfl)) (fun _ h9 => h9) rfl dX7_goes_43 ?_
          refine lv_iload_n hx hb dX7_goes_46 rfl (lv_at hl 2 rfl) ?_
          obtain ⟨hi94, h⟩ := zG_spec h
          refine va_iald hx hb hK hP 24 0 rfl rfl hi94 dX7_goes_47 ?_
          refine lv_iload_n hx hb dX7_goes_48 rfl (lv_at hl 1 rfl) ?_
          refine lv_iload_n hx hb dX7_goes_49 rfl (lv_at hl 2 rfl) ?_
          refine lv_ishr hx hb dX7_goes_50 ?_
          refine lv_iconst (v := 1) hx hb dX7_goes_51 (by decide) ?_
          refine lv_iand hx hb dX7_goes_52 ?_
          obtain ⟨hi95, h⟩ := zG_spec h
          refine va_iast hx hb hK hP hD hS 21 0 rfl rfl hi95 dX7_goes_53 (fun H96 locs hP hD hS => ?_)
          obtain ⟨s7_97, es7_97, h⟩ := zL_spec h
          have hP : va_P (dC, dI) vwCl (cX7 a7 h7 y s7_97) H96 := by rw [es7_97]; exact hP
          have hD : va_D A (cX7 a7 h7 y s7_97) := by rw [es7_97]; exact hD
          obtain ⟨v98, ev98, h⟩ := zL_spec h
          refine lv_iinc (v := v98) (lv' := [(2, .int v98), (0, .ref a7), (1, .int p1)]) hx hb dX7_goes_54 hl (k := 2) rfl (by rw [ev98]; rfl) (by decide) rfl (fun ls hl => ?_)
          refine lv_goto (tgt := 30) hx hb dX7_goes_57 (by decide) ?_
          have h := zI_l h hx18
          exact (eG12 _ _ _ _ _).mp (ihlp14 v98 s7_97 _ _ _ h hP hD hS (lv_sub hl [1, 2, 0] rfl))
    exact lp14 zF (0 : Int32) s7_10 _ _ _ hi16 hP hD hS (lv_sub hl [1, 2, 0] rfl)
  have lp4 : ∀ (n : Nat) (v99 : Int32) (s7_100 : SS) (HGW1 : Heap) (locs : List Loc) (ls : Array Slot), zI (b_X7_goes_2) n (v99, s7_100) = some ov5 → va_P (dC, dI) vwCl (cX7 a7 h7 y s7_100) HGW1 → va_D A (cX7 a7 h7 y s7_100) → va_S A s.heap HGW1 locs → lv_has ls 5 [(0, .ref a7), (1, .int p1), (2, .int v99)] → GW1 HGW1 locs 0 0 (F0 m 2 ls []) := by
    intro n
    induction n with
    | zero =>
      intro v99 s7_100 HGW1 locs ls hi6 hP hD hS hl
      exact (zI_0 hi6).elim
    | succ n ihlp4 =>
      intro v99 s7_100 HGW1 locs ls hi6 hP hD hS hl
      refine (eG2 _ _ _ _ _).mpr ?_
      obtain ⟨xx9, h, hx8⟩ := zI_spec hi6
      refine lv_iload_n hx hb dX7_goes_2 rfl (lv_at hl 2 rfl) ?_
      refine lv_aload_n hx hb dX7_goes_3 rfl (lv_at hl 0 rfl) ?_
      refine va_get (D := (dC, dI)) (ci := 6) (v := .int (gI s7_100 29)) (C := RX7) (T := TX7) (N := 49) hx hb hts inX7_ hown hK hP 0 rfl rfl 29 (by decide) (hts (.fieldLink RX7 261 "GateWheelModel" "nodes" "I") (List.mem_of_getElem? (i := 1) rfl)) (fun _ h9 => h9) rfl dX7_goes_4 ?_
      refine lv_icmp_ge (tgt := 28) hx hb dX7_goes_7 (by decide) (fun c101 => ?_) (fun c101 => ?_)
      · have h := zY c101 h
        exact (eG2 _ _ _ _ _).mp (je3 s7_100 _ _ _ (zI_r h hx8) hP hD hS (lv_sub hl [0, 1] rfl))
      · have h := zN c101 h
        refine lv_aload_n hx hb dX7_goes_10 rfl (lv_at hl 0 rfl) ?_
        refine va_get (D := (dC, dI)) (ci := 6) (v := .ref (h7 35)) (C := RX7) (T := TX7) (N := 49) hx hb hts inX7_ hown hK hP 0 rfl rfl 35 (by decide) (hts (.fieldLink RX7 77 "GateWheelModel" "world" "[I") (List.mem_of_getElem? (i := 2) rfl)) (fun _ h9 => h9) rfl dX7_goes_11 ?_
        refine lv_iload_n hx hb dX7_goes_14 rfl (lv_at hl 2 rfl) ?_
        refine lv_aload_n hx hb dX7_goes_15 rfl (lv_at hl 0 rfl) ?_
        refine va_get (D := (dC, dI)) (ci := 6) (v := .ref (h7 33)) (C := RX7) (T := TX7) (N := 49) hx hb hts inX7_ hown hK hP 0 rfl rfl 33 (by decide) (hts (.fieldLink RX7 71 "GateWheelModel" "source" "[I") (List.mem_of_getElem? (i := 3) rfl)) (fun _ h9 => h9) rfl dX7_goes_16 ?_
        refine lv_iload_n hx hb dX7_goes_19 rfl (lv_at hl 2 rfl) ?_
        obtain ⟨hi102, h⟩ := zG_spec h
        refine va_iald hx hb hK hP 19 0 rfl rfl hi102 dX7_goes_20 ?_
        refine va_iast hx hb hK hP hD hS 21 0 rfl rfl hi102 dX7_goes_21 (fun H103 locs hP hD hS => ?_)
        obtain ⟨s7_104, es7_104, h⟩ := zL_spec h
        have hP : va_P (dC, dI) vwCl (cX7 a7 h7 y s7_104) H103 := by rw [es7_104]; exact hP
        have hD : va_D A (cX7 a7 h7 y s7_104) := by rw [es7_104]; exact hD
        obtain ⟨v105, ev105, h⟩ := zL_spec h
        refine lv_iinc (v := v105) (lv' := [(2, .int v105), (0, .ref a7), (1, .int p1)]) hx hb dX7_goes_22 hl (k := 2) rfl (by rw [ev105]; rfl) (by decide) rfl (fun ls hl => ?_)
        refine lv_goto (tgt := 2) hx hb dX7_goes_25 (by decide) ?_
        have h := zI_l h hx8
        exact (eG2 _ _ _ _ _).mp (ihlp4 v105 s7_104 _ _ _ h hP hD hS (lv_sub hl [1, 2, 0] rfl))
  exact lp4 zF (0 : Int32) S7 _ _ _ hi6 hP hD hS (lv_sub hl [1, 2, 0] rfl)

set_option maxHeartbeats 4000000 in
set_option maxRecDepth 100000 in
theorem m_X7_worlds (l : Launch) (dC : Nat → ClassId) (dI : Nat → Nat → Nat) (y : Nat → ClassId) (a7 : Nat) (h7 : Nat → Nat) (S7 : SS) (sz : Nat) (or_ : Int32) (o_7 : SS) (h : f_X7_worlds S7 = some (or_, o_7)) : Met l yX7_worlds wsX7_worlds ({ frames := 2, cells := 0, slots := 0, locals := 42 }) (va_Pc [.ref a7] (fun U => U.heap.size = sz ∧ va_P (dC, dI) vwCl (cX7 a7 h7 y S7) U.heap ∧ va_K (dC, dI) vwCl [(y 0, .int), (y 1, .long), (y 2, .byte), (y 3, .boolean)] U ∧ va_D (fun _ => True) (cX7 a7 h7 y S7))) (va_Qi (fun (r : Int32) (_ : Unit) => r = or_) (fun (_ : Unit) (t : State) => va_P (dC, dI) vwCl (cX7 a7 h7 y o_7) t.heap ∧ va_K (dC, dI) vwCl [(y 0, .int), (y 1, .long), (y 2, .byte), (y 3, .boolean)] t ∧ va_D (va_A (cX7 a7 h7 y S7) sz) (cX7 a7 h7 y o_7)) (va_A (cX7 a7 h7 y S7) sz)) 0 0 (va_A (cX7 a7 h7 y S7) sz) := by
  refine Met.ofW (cc := cX7_worlds) (maxL := 1) (ret := (some .int)) (by decide +kernel) rfl ?_
  intro p e s m args below meth c s₁ B hml hv
  obtain ⟨rfl, hsz, hP, hK, hD0⟩ := hv
  have hx := B.exec
  have hb := B.bytes
  have hr := B.returns
  have hts := atoms_spec (ws := wsX7_worlds) B.pre
  have hown : s.vm.findClass RX7 = some m.cls := findClass_of_methodNamed B.named
  have hlocks := B.notSynchronized
  have inX7_ : ∀ w ∈ wsX70, w ∈ wsX7_worlds := fun _ h => List.mem_cons_of_mem _ (List.mem_append_right _ h)
  subst hsz
  have hD := hD0.self (sz := s.heap.size)
  generalize hAe : va_A (cX7 a7 h7 y S7) s.heap.size = A at hD ⊢
  have hA : ∀ q : Nat, s.heap.size ≤ q → A q := fun q h => by rw [← hAe]; exact Or.inr h
  have hS : va_S A s.heap s.heap [] := va_S.rf
  have hP : va_P (dC, dI) vwCl (cX7 a7 h7 y S7) s.heap := hP
  have hl := lv_entry ([.ref a7]) (n := 1) (Nat.le_of_ble_eq_true rfl)
  rw [lg_entry_eq]
  generalize (lg_sl ([.ref a7]) ++ List.replicate (1 - (lg_sl ([.ref a7])).length) Slot.unset).toArray = ls at hl ⊢
  have hl : lv_has ls 1 [(0, .ref a7)] := hl
  refine lv_aload_n hx hb dX7_worlds_0 rfl (lv_at hl 0 rfl) ?_
  obtain ⟨s7_1, hc2, h⟩ := zB_spec h
  have hFc := zFree hD hS hA
  refine va_callv (va_runV (As := []) (rest := []) ⟨hx, hb, hml, hown, hts⟩ (m_X7_find l dC dI y a7 h7 S7 s.heap.size s7_1 hc2) (cwV 0 hts gX7_worlds_X7_find rfl rfl rfl (by decide +kernel) ⟨Nat.le_of_ble_eq_true rfl, Nat.le_of_ble_eq_true rfl⟩) ⟨fun a U g mk q => by obtain ⟨q0, q1, qP, qK, qD⟩ := q; exact ⟨q0, q1, qP, va_K.moved (u := U) (U := U.calling g mk a) (Vm.Alike.refl U.vm) qK, qD⟩, va_recv hK hP (ci := 6) (q0 := 0) rfl rfl, fun U hU hW => ⟨rfl, by rw [hU], by rw [hU]; exact hP, va_K.moved hW.alike hK, hD.weaken (fun _ _ _ _ => trivial)⟩⟩ rfl rfl hl.1 rfl (lv_room (Nat.le_of_ble_eq_true rfl)) dX7_worlds_1 ⟨Nat.le_of_ble_eq_true rfl, Nat.le_of_ble_eq_true rfl⟩) hS (fun q _ h => hFc q h) hFc (fun u t H3 locs ht hvm hw hB hz1 hk1 hS => ?_)
  obtain ⟨hP1, hK1, hD1⟩ := hB
  rw [ht] at hP1
  have hP := hP1
  have hD := hD1.weaken (fun _ q _ h => hFc q.1 h)
  have hP : va_P (dC, dI) vwCl (cX7 a7 h7 y s7_1) H3 := hP
  have hD : va_D A (cX7 a7 h7 y s7_1) := hD
  refine lv_aload_n hx hb dX7_worlds_4 rfl (lv_at hl 0 rfl) ?_
  refine va_get (D := (dC, dI)) (ci := 6) (v := .int (gI s7_1 39)) (C := RX7) (T := TX7) (N := 49) hx hb hts inX7_ hown hK hP 0 rfl rfl 39 (by decide) (hts (.fieldLink RX7 304 "GateWheelModel" "thems" "I") (List.mem_of_getElem? (i := 1) rfl)) (fun _ h9 => h9) rfl dX7_worlds_5 ?_
  refine lv_bipush (v := 12) hx hb dX7_worlds_8 (by decide) ?_
  refine lv_icmp_le (tgt := 18) hx hb dX7_worlds_10 (by decide) (fun c5 => ?_) (fun c5 => ?_)
  · have h := zY c5 h
    refine lv_iconst (v := 1) hx hb dX7_worlds_18 (by decide) ?_
    refine lv_aload_n hx hb dX7_worlds_19 rfl (lv_at hl 0 rfl) ?_
    refine va_get (D := (dC, dI)) (ci := 6) (v := .int (gI s7_1 39)) (C := RX7) (T := TX7) (N := 49) hx hb hts inX7_ hown hK hP 0 rfl rfl 39 (by decide) (hts (.fieldLink RX7 304 "GateWheelModel" "thems" "I") (List.mem_of_getElem? (i := 1) rfl)) (fun _ h9 => h9) rfl dX7_worlds_20 ?_
    refine lv_ishl hx hb dX7_worlds_23 ?_
    have ho0 : ((1 : Int32) <<< ((gI s7_1 39) &&& 31)) = or_ := congrArg (fun z : Int32 × SS => z.1) (Option.some.inj h)
    have ho1 : s7_1 = o_7 := congrArg (fun z : Int32 × SS => z.2) (Option.some.inj h)
    exact W.iret (v := ((1 : Int32) <<< ((gI s7_1 39) &&& 31))) hx hb hr (fun t ht hW => ⟨⟨((1 : Int32) <<< ((gI s7_1 39) &&& 31)), (), rfl, ho0, by rw [ht]; rw [← ho1]; exact hP, va_K.moved hW.alike hK, by rw [← ho1]; exact hD⟩, hS.F ht⟩) hS.2.2 dX7_worlds_24
  · have h := zN c5 h
    refine lv_bipush (v := (-2)) hx hb dX7_worlds_13 (by decide) ?_
    refine lv_goto (tgt := 24) hx hb dX7_worlds_15 (by decide) ?_
    have ho0 : (-2 : Int32) = or_ := congrArg (fun z : Int32 × SS => z.1) (Option.some.inj h)
    have ho1 : s7_1 = o_7 := congrArg (fun z : Int32 × SS => z.2) (Option.some.inj h)
    exact W.iret (v := (-2)) hx hb hr (fun t ht hW => ⟨⟨(-2), (), rfl, ho0, by rw [ht]; rw [← ho1]; exact hP, va_K.moved hW.alike hK, by rw [← ho1]; exact hD⟩, hS.F ht⟩) hS.2.2 dX7_worlds_24

set_option maxHeartbeats 4000000 in
set_option maxRecDepth 100000 in
theorem m_X7_legal (l : Launch) (dC : Nat → ClassId) (dI : Nat → Nat → Nat) (y : Nat → ClassId) (a7 : Nat) (h7 : Nat → Nat) (S7 : SS) (sz : Nat) (or_ : Int32) (o_7 : SS) (h : f_X7_legal S7 = some (or_, o_7)) : Met l yX7_legal wsX7_legal ({ frames := 3, cells := 0, slots := 0, locals := 74 }) (va_Pc [.ref a7] (fun U => U.heap.size = sz ∧ va_P (dC, dI) vwCl (cX7 a7 h7 y S7) U.heap ∧ va_K (dC, dI) vwCl [(y 0, .int), (y 1, .long), (y 2, .byte), (y 3, .boolean)] U ∧ va_D (fun _ => True) (cX7 a7 h7 y S7))) (va_Qi (fun (r : Int32) (_ : Unit) => r = or_) (fun (_ : Unit) (t : State) => va_P (dC, dI) vwCl (cX7 a7 h7 y o_7) t.heap ∧ va_K (dC, dI) vwCl [(y 0, .int), (y 1, .long), (y 2, .byte), (y 3, .boolean)] t ∧ va_D (va_A (cX7 a7 h7 y S7) sz) (cX7 a7 h7 y o_7)) (va_A (cX7 a7 h7 y S7) sz)) 0 0 (va_A (cX7 a7 h7 y S7) sz) := by
  refine Met.ofW (cc := cX7_legal) (maxL := 3) (ret := (some .int)) (by decide +kernel) rfl ?_
  intro p e s m args below meth c s₁ B hml hv
  obtain ⟨rfl, hsz, hP, hK, hD0⟩ := hv
  have hx := B.exec
  have hb := B.bytes
  have hr := B.returns
  have hts := atoms_spec (ws := wsX7_legal) B.pre
  have hown : s.vm.findClass RX7 = some m.cls := findClass_of_methodNamed B.named
  have hlocks := B.notSynchronized
  have inX7_ : ∀ w ∈ wsX70, w ∈ wsX7_legal := fun _ h => List.mem_cons_of_mem _ (List.mem_append_right _ h)
  subst hsz
  have hD := hD0.self (sz := s.heap.size)
  generalize hAe : va_A (cX7 a7 h7 y S7) s.heap.size = A at hD ⊢
  have hA : ∀ q : Nat, s.heap.size ≤ q → A q := fun q h => by rw [← hAe]; exact Or.inr h
  have hS : va_S A s.heap s.heap [] := va_S.rf
  have hP : va_P (dC, dI) vwCl (cX7 a7 h7 y S7) s.heap := hP
  have hl := lv_entry ([.ref a7]) (n := 3) (Nat.le_of_ble_eq_true rfl)
  rw [lg_entry_eq]
  generalize (lg_sl ([.ref a7]) ++ List.replicate (3 - (lg_sl ([.ref a7])).length) Slot.unset).toArray = ls at hl ⊢
  have hl : lv_has ls 3 [(0, .ref a7)] := hl
  refine lv_aload_n hx hb dX7_legal_0 rfl (lv_at hl 0 rfl) ?_
  obtain ⟨s7_1, hc2, h⟩ := zB_spec h
  have hFc := zFree hD hS hA
  refine va_callv (va_runV (As := []) (rest := []) ⟨hx, hb, hml, hown, hts⟩ (m_X7_find l dC dI y a7 h7 S7 s.heap.size s7_1 hc2) (cwV 0 hts gX7_legal_X7_find rfl rfl rfl (by decide +kernel) ⟨Nat.le_of_ble_eq_true rfl, Nat.le_of_ble_eq_true rfl⟩) ⟨fun a U g mk q => by obtain ⟨q0, q1, qP, qK, qD⟩ := q; exact ⟨q0, q1, qP, va_K.moved (u := U) (U := U.calling g mk a) (Vm.Alike.refl U.vm) qK, qD⟩, va_recv hK hP (ci := 6) (q0 := 0) rfl rfl, fun U hU hW => ⟨rfl, by rw [hU], by rw [hU]; exact hP, va_K.moved hW.alike hK, hD.weaken (fun _ _ _ _ => trivial)⟩⟩ rfl rfl hl.1 rfl (lv_room (Nat.le_of_ble_eq_true rfl)) dX7_legal_1 ⟨Nat.le_of_ble_eq_true rfl, Nat.le_of_ble_eq_true rfl⟩) hS (fun q _ h => hFc q h) hFc (fun u t H3 locs ht hvm hw hB hz1 hk1 hS => ?_)
  obtain ⟨hP1, hK1, hD1⟩ := hB
  rw [ht] at hP1
  have hP := hP1
  have hD := hD1.weaken (fun _ q _ h => hFc q.1 h)
  have hP : va_P (dC, dI) vwCl (cX7 a7 h7 y s7_1) H3 := hP
  have hD : va_D A (cX7 a7 h7 y s7_1) := hD
  refine lv_aload_n hx hb dX7_legal_4 rfl (lv_at hl 0 rfl) ?_
  refine va_get (D := (dC, dI)) (ci := 6) (v := .int (gI s7_1 39)) (C := RX7) (T := TX7) (N := 49) hx hb hts inX7_ hown hK hP 0 rfl rfl 39 (by decide) (hts (.fieldLink RX7 304 "GateWheelModel" "thems" "I") (List.mem_of_getElem? (i := 1) rfl)) (fun _ h9 => h9) rfl dX7_legal_5 ?_
  refine lv_bipush (v := 12) hx hb dX7_legal_8 (by decide) ?_
  refine lv_icmp_le (tgt := 16) hx hb dX7_legal_10 (by decide) (fun c5 => ?_) (fun c5 => ?_)
  · have h := zY c5 h
    refine lv_iconst (v := 0) hx hb dX7_legal_16 (by decide) ?_
    refine lv_istore_n (lv' := [(1, .int 0), (0, .ref a7)]) hx hb dX7_legal_17 rfl hl (by decide) rfl (fun ls hl => ?_)
    refine lv_iconst (v := 0) hx hb dX7_legal_18 (by decide) ?_
    refine lv_istore_n (lv' := [(2, .int 0), (1, .int 0), (0, .ref a7)]) hx hb dX7_legal_19 rfl hl (by decide) rfl (fun ls hl => ?_)
    refine W_abs (fun GW6 eG7 => ?_)
    have hi11 := h
    have lp9 : ∀ (n : Nat) (v15 : Int32) (v16 : Int32) (s7_17 : SS) (HGW6 : Heap) (locs : List Loc) (ls : Array Slot), zI (b_X7_legal_20) n (v15, v16, s7_17) = some (or_, o_7) → va_P (dC, dI) vwCl (cX7 a7 h7 y s7_17) HGW6 → va_D A (cX7 a7 h7 y s7_17) → va_S A s.heap HGW6 locs → lv_has ls 3 [(0, .ref a7), (1, .int v15), (2, .int v16)] → GW6 HGW6 locs 0 0 (F0 m 20 ls []) := by
      intro n
      induction n with
      | zero =>
        intro v15 v16 s7_17 HGW6 locs ls hi11 hP hD hS hl
        exact (zI_0 hi11).elim
      | succ n ihlp9 =>
        intro v15 v16 s7_17 HGW6 locs ls hi11 hP hD hS hl
        refine (eG7 _ _ _ _ _).mpr ?_
        obtain ⟨xx14, h, hx13⟩ := zI_spec hi11
        refine lv_iload_n hx hb dX7_legal_20 rfl (lv_at hl 2 rfl) ?_
        refine lv_iconst (v := 1) hx hb dX7_legal_21 (by decide) ?_
        refine lv_aload_n hx hb dX7_legal_22 rfl (lv_at hl 0 rfl) ?_
        refine va_get (D := (dC, dI)) (ci := 6) (v := .int (gI s7_17 39)) (C := RX7) (T := TX7) (N := 49) hx hb hts inX7_ hown hK hP 0 rfl rfl 39 (by decide) (hts (.fieldLink RX7 304 "GateWheelModel" "thems" "I") (List.mem_of_getElem? (i := 1) rfl)) (fun _ h9 => h9) rfl dX7_legal_23 ?_
        refine lv_ishl hx hb dX7_legal_26 ?_
        refine lv_icmp_ge (tgt := 52) hx hb dX7_legal_27 (by decide) (fun c18 => ?_) (fun c18 => ?_)
        · have h := zY c18 h
          refine lv_iload_n hx hb dX7_legal_52 rfl (lv_at hl 1 rfl) ?_
          have h := congrArg some (zI_r h hx13)
          have ho0 : v15 = or_ := congrArg (fun z : Int32 × SS => z.1) (Option.some.inj h)
          have ho1 : s7_17 = o_7 := congrArg (fun z : Int32 × SS => z.2) (Option.some.inj h)
          exact W.iret (v := v15) hx hb hr (fun t ht hW => ⟨⟨v15, (), rfl, ho0, by rw [ht]; rw [← ho1]; exact hP, va_K.moved hW.alike hK, by rw [← ho1]; exact hD⟩, hS.F ht⟩) hS.2.2 dX7_legal_53
        · have h := zN c18 h
          refine lv_iload_n hx hb dX7_legal_30 rfl (lv_at hl 1 rfl) ?_
          refine lv_aload_n hx hb dX7_legal_31 rfl (lv_at hl 0 rfl) ?_
          refine lv_iload_n hx hb dX7_legal_32 rfl (lv_at hl 2 rfl) ?_
          obtain ⟨⟨r19, s7_20⟩, hc21, h⟩ := zB_spec h
          have hFc := zFree hD hS hA
          refine va_calli (va_runV (As := [.int v16]) (rest := [.int v15]) ⟨hx, hb, hml, hown, hts⟩ (m_X7_goes l dC dI y a7 h7 s7_17 v16 HGW6.size r19 s7_20 hc21) (cwV 1 hts gX7_legal_X7_goes rfl rfl rfl (by decide +kernel) ⟨Nat.le_of_ble_eq_true rfl, Nat.le_of_ble_eq_true rfl⟩) ⟨fun a U g mk q => by obtain ⟨q0, q1, qP, qK, qD⟩ := q; exact ⟨q0, q1, qP, va_K.moved (u := U) (U := U.calling g mk a) (Vm.Alike.refl U.vm) qK, qD⟩, va_recv hK hP (ci := 6) (q0 := 0) rfl rfl, fun U hU hW => ⟨rfl, by rw [hU], by rw [hU]; exact hP, va_K.moved hW.alike hK, hD.weaken (fun _ _ _ _ => trivial)⟩⟩ rfl rfl hl.1 rfl (lv_room (Nat.le_of_ble_eq_true rfl)) dX7_legal_33 ⟨Nat.le_of_ble_eq_true rfl, Nat.le_of_ble_eq_true rfl⟩) hS (fun q _ h => hFc q h) hFc (fun rr23 u t H22 locs ht hvm hw hB hz1 hk1 hS => ?_)
          obtain ⟨hP1, hK1, hD1⟩ := hB
          rw [ht] at hP1
          refine zTopi hw.symm ?_
          have hP := hP1
          have hD := hD1.weaken (fun _ q _ h => hFc q.1 h)
          have hP : va_P (dC, dI) vwCl (cX7 a7 h7 y s7_20) H22 := hP
          have hD : va_D A (cX7 a7 h7 y s7_20) := hD
          refine lv_if_eq (tgt := 43) hx hb dX7_legal_36 (by decide) (fun c24 => ?_) (fun c24 => ?_)
          · have h := zY c24 h
            refine lv_iconst (v := 0) hx hb dX7_legal_43 (by decide) ?_
            refine lv_iadd hx hb dX7_legal_44 ?_
            obtain ⟨v25, ev25, h⟩ := zL_spec h
            refine zTopi ev25 ?_
            refine lv_istore_n (lv' := [(1, .int v25), (0, .ref a7), (2, .int v16)]) hx hb dX7_legal_45 rfl hl (by decide) rfl (fun ls hl => ?_)
            obtain ⟨v26, ev26, h⟩ := zL_spec h
            refine lv_iinc (v := v26) (lv' := [(2, .int v26), (1, .int v25), (0, .ref a7)]) hx hb dX7_legal_46 hl (k := 2) rfl (by rw [ev26]; rfl) (by decide) rfl (fun ls hl => ?_)
            refine lv_goto (tgt := 20) hx hb dX7_legal_49 (by decide) ?_
            have h := zI_l h hx13
            exact (eG7 _ _ _ _ _).mp (ihlp9 v25 v26 s7_20 _ _ _ h hP hD hS (lv_sub hl [2, 1, 0] rfl))
          · have h := zN c24 h
            refine lv_iconst (v := 1) hx hb dX7_legal_39 (by decide) ?_
            refine lv_goto (tgt := 44) hx hb dX7_legal_40 (by decide) ?_
            refine lv_iadd hx hb dX7_legal_44 ?_
            obtain ⟨v27, ev27, h⟩ := zL_spec h
            refine zTopi ev27 ?_
            refine lv_istore_n (lv' := [(1, .int v27), (0, .ref a7), (2, .int v16)]) hx hb dX7_legal_45 rfl hl (by decide) rfl (fun ls hl => ?_)
            obtain ⟨v28, ev28, h⟩ := zL_spec h
            refine lv_iinc (v := v28) (lv' := [(2, .int v28), (1, .int v27), (0, .ref a7)]) hx hb dX7_legal_46 hl (k := 2) rfl (by rw [ev28]; rfl) (by decide) rfl (fun ls hl => ?_)
            refine lv_goto (tgt := 20) hx hb dX7_legal_49 (by decide) ?_
            have h := zI_l h hx13
            exact (eG7 _ _ _ _ _).mp (ihlp9 v27 v28 s7_20 _ _ _ h hP hD hS (lv_sub hl [2, 1, 0] rfl))
    exact lp9 zF (0 : Int32) (0 : Int32) s7_1 _ _ _ hi11 hP hD hS (lv_sub hl [2, 1, 0] rfl)
  · have h := zN c5 h
    refine lv_bipush (v := (-2)) hx hb dX7_legal_13 (by decide) ?_
    have ho0 : (-2 : Int32) = or_ := congrArg (fun z : Int32 × SS => z.1) (Option.some.inj h)
    have ho1 : s7_1 = o_7 := congrArg (fun z : Int32 × SS => z.2) (Option.some.inj h)
    exact W.iret (v := (-2)) hx hb hr (fun t ht hW => ⟨⟨(-2), (), rfl, ho0, by rw [ht]; rw [← ho1]; exact hP, va_K.moved hW.alike hK, by rw [← ho1]; exact hD⟩, hS.F ht⟩) hS.2.2 dX7_legal_15

set_option maxHeartbeats 4000000 in
set_option maxRecDepth 100000 in
theorem m_X7_sharp (l : Launch) (dC : Nat → ClassId) (dI : Nat → Nat → Nat) (y : Nat → ClassId) (a7 : Nat) (h7 : Nat → Nat) (S7 : SS) (p1 : Int32) (sz : Nat) (or_ : Int32) (o_7 : SS) (h : f_X7_sharp S7 p1 = some (or_, o_7)) : Met l yX7_sharp wsX7_sharp ({ frames := 3, cells := 0, slots := 0, locals := 74 }) (va_Pc [.ref a7, .int p1] (fun U => U.heap.size = sz ∧ va_P (dC, dI) vwCl (cX7 a7 h7 y S7) U.heap ∧ va_K (dC, dI) vwCl [(y 0, .int), (y 1, .long), (y 2, .byte), (y 3, .boolean)] U ∧ va_D (fun _ => True) (cX7 a7 h7 y S7))) (va_Qi (fun (r : Int32) (_ : Unit) => r = or_) (fun (_ : Unit) (t : State) => va_P (dC, dI) vwCl (cX7 a7 h7 y o_7) t.heap ∧ va_K (dC, dI) vwCl [(y 0, .int), (y 1, .long), (y 2, .byte), (y 3, .boolean)] t ∧ va_D (va_A (cX7 a7 h7 y S7) sz) (cX7 a7 h7 y o_7)) (va_A (cX7 a7 h7 y S7) sz)) 0 0 (va_A (cX7 a7 h7 y S7) sz) := by
  refine Met.ofW (cc := cX7_sharp) (maxL := 4) (ret := (some .int)) (by decide +kernel) rfl ?_
  intro p e s m args below meth c s₁ B hml hv
  obtain ⟨rfl, hsz, hP, hK, hD0⟩ := hv
  have hx := B.exec
  have hb := B.bytes
  have hr := B.returns
  have hts := atoms_spec (ws := wsX7_sharp) B.pre
  have hown : s.vm.findClass RX7 = some m.cls := findClass_of_methodNamed B.named
  have hlocks := B.notSynchronized
  have inX7_ : ∀ w ∈ wsX70, w ∈ wsX7_sharp := fun _ h => List.mem_cons_of_mem _ (List.mem_append_right _ h)
  subst hsz
  have hD := hD0.self (sz := s.heap.size)
  generalize hAe : va_A (cX7 a7 h7 y S7) s.heap.size = A at hD ⊢
  have hA : ∀ q : Nat, s.heap.size ≤ q → A q := fun q h => by rw [← hAe]; exact Or.inr h
  have hS : va_S A s.heap s.heap [] := va_S.rf
  have hP : va_P (dC, dI) vwCl (cX7 a7 h7 y S7) s.heap := hP
  have hl := lv_entry ([.ref a7, .int p1]) (n := 4) (Nat.le_of_ble_eq_true rfl)
  rw [lg_entry_eq]
  generalize (lg_sl ([.ref a7, .int p1]) ++ List.replicate (4 - (lg_sl ([.ref a7, .int p1])).length) Slot.unset).toArray = ls at hl ⊢
  have hl : lv_has ls 4 [(0, .ref a7), (1, .int p1)] := hl
  refine lv_aload_n hx hb dX7_sharp_0 rfl (lv_at hl 0 rfl) ?_
  refine lv_iload_n hx hb dX7_sharp_1 rfl (lv_at hl 1 rfl) ?_
  obtain ⟨r1, hc2, h⟩ := zB_spec h
  have hFc := zFree hD hS hA
  refine va_calli (va_runV (As := [.int p1]) (rest := []) ⟨hx, hb, hml, hown, hts⟩ (m_X7_isNode l dC dI y a7 h7 S7 p1 s.heap.size r1 hc2) (cwV 1 hts gX7_sharp_X7_isNode rfl rfl rfl (by decide +kernel) ⟨Nat.le_of_ble_eq_true rfl, Nat.le_of_ble_eq_true rfl⟩) ⟨fun a U g mk q => by obtain ⟨q0, q1, qP, qK, qD⟩ := q; exact ⟨q0, q1, qP, va_K.moved (u := U) (U := U.calling g mk a) (Vm.Alike.refl U.vm) qK, qD⟩, va_recv hK hP (ci := 6) (q0 := 0) rfl rfl, fun U hU hW => ⟨rfl, by rw [hU], by rw [hU]; exact hP, va_K.moved hW.alike hK, hD.weaken (fun _ _ _ _ => trivial)⟩⟩ rfl rfl hl.1 rfl (lv_room (Nat.le_of_ble_eq_true rfl)) dX7_sharp_2 ⟨Nat.le_of_ble_eq_true rfl, Nat.le_of_ble_eq_true rfl⟩) hS (fun q _ h => hFc q h) hFc (fun rr4 u t H3 locs ht hvm hw hB hz1 hk1 hS => ?_)
  obtain ⟨hP1, hK1, hD1⟩ := hB
  rw [ht] at hP1
  refine zTopi hw.symm ?_
  have hP := hP1
  have hD := hD1.weaken (fun _ q _ h => hFc q.1 h)
  have hP : va_P (dC, dI) vwCl (cX7 a7 h7 y S7) H3 := hP
  have hD : va_D A (cX7 a7 h7 y S7) := hD
  refine lv_if_ne (tgt := 10) hx hb dX7_sharp_5 (by decide) (fun c5 => ?_) (fun c5 => ?_)
  · have h := zN c5 h
    refine lv_aload_n hx hb dX7_sharp_10 rfl (lv_at hl 0 rfl) ?_
    obtain ⟨s7_6, hc7, h⟩ := zB_spec h
    have hFc := zFree hD hS hA
    refine va_callv (va_runV (As := []) (rest := []) ⟨hx, hb, hml, hown, hts⟩ (m_X7_find l dC dI y a7 h7 S7 H3.size s7_6 hc7) (cwV 0 hts gX7_sharp_X7_find rfl rfl rfl (by decide +kernel) ⟨Nat.le_of_ble_eq_true rfl, Nat.le_of_ble_eq_true rfl⟩) ⟨fun a U g mk q => by obtain ⟨q0, q1, qP, qK, qD⟩ := q; exact ⟨q0, q1, qP, va_K.moved (u := U) (U := U.calling g mk a) (Vm.Alike.refl U.vm) qK, qD⟩, va_recv hK hP (ci := 6) (q0 := 0) rfl rfl, fun U hU hW => ⟨rfl, by rw [hU], by rw [hU]; exact hP, va_K.moved hW.alike hK, hD.weaken (fun _ _ _ _ => trivial)⟩⟩ rfl rfl hl.1 rfl (lv_room (Nat.le_of_ble_eq_true rfl)) dX7_sharp_11 ⟨Nat.le_of_ble_eq_true rfl, Nat.le_of_ble_eq_true rfl⟩) hS (fun q _ h => hFc q h) hFc (fun u t H8 locs ht hvm hw hB hz1 hk1 hS => ?_)
    obtain ⟨hP1, hK1, hD1⟩ := hB
    rw [ht] at hP1
    have hP := hP1
    have hD := hD1.weaken (fun _ q _ h => hFc q.1 h)
    have hP : va_P (dC, dI) vwCl (cX7 a7 h7 y s7_6) H8 := hP
    have hD : va_D A (cX7 a7 h7 y s7_6) := hD
    refine lv_aload_n hx hb dX7_sharp_14 rfl (lv_at hl 0 rfl) ?_
    refine va_get (D := (dC, dI)) (ci := 6) (v := .int (gI s7_6 39)) (C := RX7) (T := TX7) (N := 49) hx hb hts inX7_ hown hK hP 0 rfl rfl 39 (by decide) (hts (.fieldLink RX7 304 "GateWheelModel" "thems" "I") (List.mem_of_getElem? (i := 1) rfl)) (fun _ h9 => h9) rfl dX7_sharp_15 ?_
    refine lv_bipush (v := 12) hx hb dX7_sharp_18 (by decide) ?_
    refine lv_icmp_le (tgt := 26) hx hb dX7_sharp_20 (by decide) (fun c10 => ?_) (fun c10 => ?_)
    · have h := zY c10 h
      refine lv_iconst (v := 3) hx hb dX7_sharp_26 (by decide) ?_
      refine lv_istore_n (lv' := [(2, .int 3), (0, .ref a7), (1, .int p1)]) hx hb dX7_sharp_27 rfl hl (by decide) rfl (fun ls hl => ?_)
      refine lv_iconst (v := 0) hx hb dX7_sharp_28 (by decide) ?_
      refine lv_istore_n (lv' := [(3, .int 0), (2, .int 3), (0, .ref a7), (1, .int p1)]) hx hb dX7_sharp_29 rfl hl (by decide) rfl (fun ls hl => ?_)
      refine W_abs (fun GW11 eG12 => ?_)
      have hi16 := h
      have lp14 : ∀ (n : Nat) (v20 : Int32) (v21 : Int32) (s7_22 : SS) (HGW11 : Heap) (locs : List Loc) (ls : Array Slot), zI (b_X7_sharp_30 p1) n (v20, v21, s7_22) = some (or_, o_7) → va_P (dC, dI) vwCl (cX7 a7 h7 y s7_22) HGW11 → va_D A (cX7 a7 h7 y s7_22) → va_S A s.heap HGW11 locs → lv_has ls 4 [(0, .ref a7), (1, .int p1), (2, .int v20), (3, .int v21)] → GW11 HGW11 locs 0 0 (F0 m 30 ls []) := by
        intro n
        induction n with
        | zero =>
          intro v20 v21 s7_22 HGW11 locs ls hi16 hP hD hS hl
          exact (zI_0 hi16).elim
        | succ n ihlp14 =>
          intro v20 v21 s7_22 HGW11 locs ls hi16 hP hD hS hl
          refine (eG12 _ _ _ _ _).mpr ?_
          obtain ⟨xx19, h, hx18⟩ := zI_spec hi16
          refine lv_iload_n hx hb dX7_sharp_30 rfl (lv_at hl 3 rfl) ?_
          refine lv_iconst (v := 1) hx hb dX7_sharp_31 (by decide) ?_
          refine lv_aload_n hx hb dX7_sharp_32 rfl (lv_at hl 0 rfl) ?_
          refine va_get (D := (dC, dI)) (ci := 6) (v := .int (gI s7_22 39)) (C := RX7) (T := TX7) (N := 49) hx hb hts inX7_ hown hK hP 0 rfl rfl 39 (by decide) (hts (.fieldLink RX7 304 "GateWheelModel" "thems" "I") (List.mem_of_getElem? (i := 1) rfl)) (fun _ h9 => h9) rfl dX7_sharp_33 ?_
          refine lv_ishl hx hb dX7_sharp_36 ?_
          refine lv_icmp_ge (tgt := 80) hx hb dX7_sharp_37 (by decide) (fun c23 => ?_) (fun c23 => ?_)
          · have h := zY c23 h
            refine lv_iload_n hx hb dX7_sharp_80 rfl (lv_at hl 2 rfl) ?_
            have h := congrArg some (zI_r h hx18)
            have ho0 : v20 = or_ := congrArg (fun z : Int32 × SS => z.1) (Option.some.inj h)
            have ho1 : s7_22 = o_7 := congrArg (fun z : Int32 × SS => z.2) (Option.some.inj h)
            exact W.iret (v := v20) hx hb hr (fun t ht hW => ⟨⟨v20, (), rfl, ho0, by rw [ht]; rw [← ho1]; exact hP, va_K.moved hW.alike hK, by rw [← ho1]; exact hD⟩, hS.F ht⟩) hS.2.2 dX7_sharp_81
          · have h := zN c23 h
            refine lv_aload_n hx hb dX7_sharp_40 rfl (lv_at hl 0 rfl) ?_
            refine lv_iload_n hx hb dX7_sharp_41 rfl (lv_at hl 3 rfl) ?_
            obtain ⟨⟨r24, s7_25⟩, hc26, h⟩ := zB_spec h
            have hFc := zFree hD hS hA
            refine va_calli (va_runV (As := [.int v21]) (rest := []) ⟨hx, hb, hml, hown, hts⟩ (m_X7_goes l dC dI y a7 h7 s7_22 v21 HGW11.size r24 s7_25 hc26) (cwV 1 hts gX7_sharp_X7_goes rfl rfl rfl (by decide +kernel) ⟨Nat.le_of_ble_eq_true rfl, Nat.le_of_ble_eq_true rfl⟩) ⟨fun a U g mk q => by obtain ⟨q0, q1, qP, qK, qD⟩ := q; exact ⟨q0, q1, qP, va_K.moved (u := U) (U := U.calling g mk a) (Vm.Alike.refl U.vm) qK, qD⟩, va_recv hK hP (ci := 6) (q0 := 0) rfl rfl, fun U hU hW => ⟨rfl, by rw [hU], by rw [hU]; exact hP, va_K.moved hW.alike hK, hD.weaken (fun _ _ _ _ => trivial)⟩⟩ rfl rfl hl.1 rfl (lv_room (Nat.le_of_ble_eq_true rfl)) dX7_sharp_42 ⟨Nat.le_of_ble_eq_true rfl, Nat.le_of_ble_eq_true rfl⟩) hS (fun q _ h => hFc q h) hFc (fun rr28 u t H27 locs ht hvm hw hB hz1 hk1 hS => ?_)
            obtain ⟨hP1, hK1, hD1⟩ := hB
            rw [ht] at hP1
            refine zTopi hw.symm ?_
            have hP := hP1
            have hD := hD1.weaken (fun _ q _ h => hFc q.1 h)
            have hP : va_P (dC, dI) vwCl (cX7 a7 h7 y s7_25) H27 := hP
            have hD : va_D A (cX7 a7 h7 y s7_25) := hD
            refine lv_if_eq (tgt := 74) hx hb dX7_sharp_45 (by decide) (fun c29 => ?_) (fun c29 => ?_)
            · have h := zY c29 h
              obtain ⟨v30, ev30, h⟩ := zL_spec h
              refine lv_iinc (v := v30) (lv' := [(3, .int v30), (0, .ref a7), (1, .int p1), (2, .int v20)]) hx hb dX7_sharp_74 hl (k := 3) rfl (by rw [ev30]; rfl) (by decide) rfl (fun ls hl => ?_)
              refine lv_goto (tgt := 30) hx hb dX7_sharp_77 (by decide) ?_
              have h := zI_l h hx18
              exact (eG12 _ _ _ _ _).mp (ihlp14 v20 v30 s7_25 _ _ _ h hP hD hS (lv_sub hl [1, 2, 3, 0] rfl))
            · have h := zN c29 h
              refine lv_iload_n hx hb dX7_sharp_48 rfl (lv_at hl 2 rfl) ?_
              refine lv_iconst (v := 3) hx hb dX7_sharp_49 (by decide) ?_
              refine lv_icmp_eq (tgt := 63) hx hb dX7_sharp_50 (by decide) (fun c31 => ?_) (fun c31 => ?_)
              · have h := zY c31 h
                refine lv_aload_n hx hb dX7_sharp_63 rfl (lv_at hl 0 rfl) ?_
                refine va_get (D := (dC, dI)) (ci := 6) (v := .ref (h7 35)) (C := RX7) (T := TX7) (N := 49) hx hb hts inX7_ hown hK hP 0 rfl rfl 35 (by decide) (hts (.fieldLink RX7 77 "GateWheelModel" "world" "[I") (List.mem_of_getElem? (i := 2) rfl)) (fun _ h9 => h9) rfl dX7_sharp_64 ?_
                refine lv_iload_n hx hb dX7_sharp_67 rfl (lv_at hl 1 rfl) ?_
                obtain ⟨hi32, h⟩ := zG_spec h
                refine va_iald hx hb hK hP 21 0 rfl rfl hi32 dX7_sharp_68 ?_
                refine lv_goto (tgt := 73) hx hb dX7_sharp_69 (by decide) ?_
                obtain ⟨v33, ev33, h⟩ := zL_spec h
                refine zTopi ev33 ?_
                refine lv_istore_n (lv' := [(2, .int v33), (0, .ref a7), (1, .int p1), (3, .int v21)]) hx hb dX7_sharp_73 rfl hl (by decide) rfl (fun ls hl => ?_)
                obtain ⟨v34, ev34, h⟩ := zL_spec h
                refine lv_iinc (v := v34) (lv' := [(3, .int v34), (2, .int v33), (0, .ref a7), (1, .int p1)]) hx hb dX7_sharp_74 hl (k := 3) rfl (by rw [ev34]; rfl) (by decide) rfl (fun ls hl => ?_)
                refine lv_goto (tgt := 30) hx hb dX7_sharp_77 (by decide) ?_
                have h := zI_l h hx18
                exact (eG12 _ _ _ _ _).mp (ihlp14 v33 v34 s7_25 _ _ _ h hP hD hS (lv_sub hl [2, 3, 1, 0] rfl))
              · have h := zN c31 h
                refine lv_iload_n hx hb dX7_sharp_53 rfl (lv_at hl 2 rfl) ?_
                refine lv_aload_n hx hb dX7_sharp_54 rfl (lv_at hl 0 rfl) ?_
                refine va_get (D := (dC, dI)) (ci := 6) (v := .ref (h7 35)) (C := RX7) (T := TX7) (N := 49) hx hb hts inX7_ hown hK hP 0 rfl rfl 35 (by decide) (hts (.fieldLink RX7 77 "GateWheelModel" "world" "[I") (List.mem_of_getElem? (i := 2) rfl)) (fun _ h9 => h9) rfl dX7_sharp_55 ?_
                refine lv_iload_n hx hb dX7_sharp_58 rfl (lv_at hl 1 rfl) ?_
                obtain ⟨hi35, h⟩ := zG_spec h
                refine va_iald hx hb hK hP 21 0 rfl rfl hi35 dX7_sharp_59 ?_
                refine lv_icmp_ne (tgt := 72) hx hb dX7_sharp_60 (by decide) (fun c36 => ?_) (fun c36 => ?_)
                · have h := zN c36 h
                  refine lv_iconst (v := 2) hx hb dX7_sharp_72 (by decide) ?_
                  refine lv_istore_n (lv' := [(2, .int 2), (0, .ref a7), (1, .int p1), (3, .int v21)]) hx hb dX7_sharp_73 rfl hl (by decide) rfl (fun ls hl => ?_)
                  obtain ⟨v37, ev37, h⟩ := zL_spec h
                  refine lv_iinc (v := v37) (lv' := [(3, .int v37), (2, .int 2), (0, .ref a7), (1, .int p1)]) hx hb dX7_sharp_74 hl (k := 3) rfl (by rw [ev37]; rfl) (by decide) rfl (fun ls hl => ?_)
                  refine lv_goto (tgt := 30) hx hb dX7_sharp_77 (by decide) ?_
                  have h := zI_l h hx18
                  exact (eG12 _ _ _ _ _).mp (ihlp14 (2 : Int32) v37 s7_25 _ _ _ h hP hD hS (lv_sub hl [2, 3, 1, 0] rfl))
                · have h := zY c36 h
                  refine lv_aload_n hx hb dX7_sharp_63 rfl (lv_at hl 0 rfl) ?_
                  refine va_get (D := (dC, dI)) (ci := 6) (v := .ref (h7 35)) (C := RX7) (T := TX7) (N := 49) hx hb hts inX7_ hown hK hP 0 rfl rfl 35 (by decide) (hts (.fieldLink RX7 77 "GateWheelModel" "world" "[I") (List.mem_of_getElem? (i := 2) rfl)) (fun _ h9 => h9) rfl dX7_sharp_64 ?_
                  refine lv_iload_n hx hb dX7_sharp_67 rfl (lv_at hl 1 rfl) ?_
                  refine va_iald hx hb hK hP 21 0 rfl rfl hi35 dX7_sharp_68 ?_
                  refine lv_goto (tgt := 73) hx hb dX7_sharp_69 (by decide) ?_
                  obtain ⟨v38, ev38, h⟩ := zL_spec h
                  refine zTopi ev38 ?_
                  refine lv_istore_n (lv' := [(2, .int v38), (0, .ref a7), (1, .int p1), (3, .int v21)]) hx hb dX7_sharp_73 rfl hl (by decide) rfl (fun ls hl => ?_)
                  obtain ⟨v39, ev39, h⟩ := zL_spec h
                  refine lv_iinc (v := v39) (lv' := [(3, .int v39), (2, .int v38), (0, .ref a7), (1, .int p1)]) hx hb dX7_sharp_74 hl (k := 3) rfl (by rw [ev39]; rfl) (by decide) rfl (fun ls hl => ?_)
                  refine lv_goto (tgt := 30) hx hb dX7_sharp_77 (by decide) ?_
                  have h := zI_l h hx18
                  exact (eG12 _ _ _ _ _).mp (ihlp14 v38 v39 s7_25 _ _ _ h hP hD hS (lv_sub hl [2, 3, 1, 0] rfl))
      exact lp14 zF (3 : Int32) (0 : Int32) s7_6 _ _ _ hi16 hP hD hS (lv_sub hl [2, 3, 1, 0] rfl)
    · have h := zN c10 h
      refine lv_bipush (v := (-2)) hx hb dX7_sharp_23 (by decide) ?_
      have ho0 : (-2 : Int32) = or_ := congrArg (fun z : Int32 × SS => z.1) (Option.some.inj h)
      have ho1 : s7_6 = o_7 := congrArg (fun z : Int32 × SS => z.2) (Option.some.inj h)
      exact W.iret (v := (-2)) hx hb hr (fun t ht hW => ⟨⟨(-2), (), rfl, ho0, by rw [ht]; rw [← ho1]; exact hP, va_K.moved hW.alike hK, by rw [← ho1]; exact hD⟩, hS.F ht⟩) hS.2.2 dX7_sharp_25
  · have h := zY c5 h
    refine lv_iconst (v := (-1)) hx hb dX7_sharp_8 (by decide) ?_
    have ho0 : (-1 : Int32) = or_ := congrArg (fun z : Int32 × SS => z.1) (Option.some.inj h)
    have ho1 : S7 = o_7 := congrArg (fun z : Int32 × SS => z.2) (Option.some.inj h)
    exact W.iret (v := (-1)) hx hb hr (fun t ht hW => ⟨⟨(-1), (), rfl, ho0, by rw [ht]; rw [← ho1]; exact hP, va_K.moved hW.alike hK, by rw [← ho1]; exact hD⟩, hS.F ht⟩) hS.2.2 dX7_sharp_9

set_option maxHeartbeats 4000000 in
set_option maxRecDepth 100000 in
theorem m_X7_gainsaid (l : Launch) (dC : Nat → ClassId) (dI : Nat → Nat → Nat) (y : Nat → ClassId) (a7 : Nat) (h7 : Nat → Nat) (S7 : SS) (sz : Nat) (or_ : Int32) (o_7 : SS) (h : f_X7_gainsaid S7 = some (or_, o_7)) : Met l yX7_gainsaid wsX7_gainsaid ({ frames := 3, cells := 0, slots := 0, locals := 74 }) (va_Pc [.ref a7] (fun U => U.heap.size = sz ∧ va_P (dC, dI) vwCl (cX7 a7 h7 y S7) U.heap ∧ va_K (dC, dI) vwCl [(y 0, .int), (y 1, .long), (y 2, .byte), (y 3, .boolean)] U ∧ va_D (fun _ => True) (cX7 a7 h7 y S7))) (va_Qi (fun (r : Int32) (_ : Unit) => r = or_) (fun (_ : Unit) (t : State) => va_P (dC, dI) vwCl (cX7 a7 h7 y o_7) t.heap ∧ va_K (dC, dI) vwCl [(y 0, .int), (y 1, .long), (y 2, .byte), (y 3, .boolean)] t ∧ va_D (va_A (cX7 a7 h7 y S7) sz) (cX7 a7 h7 y o_7)) (va_A (cX7 a7 h7 y S7) sz)) 0 0 (va_A (cX7 a7 h7 y S7) sz) := by
  refine Met.ofW (cc := cX7_gainsaid) (maxL := 4) (ret := (some .int)) (by decide +kernel) rfl ?_
  intro p e s m args below meth c s₁ B hml hv
  obtain ⟨rfl, hsz, hP, hK, hD0⟩ := hv
  have hx := B.exec
  have hb := B.bytes
  have hr := B.returns
  have hts := atoms_spec (ws := wsX7_gainsaid) B.pre
  have hown : s.vm.findClass RX7 = some m.cls := findClass_of_methodNamed B.named
  have hlocks := B.notSynchronized
  have inX7_ : ∀ w ∈ wsX70, w ∈ wsX7_gainsaid := fun _ h => List.mem_cons_of_mem _ (List.mem_append_right _ h)
  subst hsz
  have hD := hD0.self (sz := s.heap.size)
  generalize hAe : va_A (cX7 a7 h7 y S7) s.heap.size = A at hD ⊢
  have hA : ∀ q : Nat, s.heap.size ≤ q → A q := fun q h => by rw [← hAe]; exact Or.inr h
  have hS : va_S A s.heap s.heap [] := va_S.rf
  have hP : va_P (dC, dI) vwCl (cX7 a7 h7 y S7) s.heap := hP
  have hl := lv_entry ([.ref a7]) (n := 4) (Nat.le_of_ble_eq_true rfl)
  rw [lg_entry_eq]
  generalize (lg_sl ([.ref a7]) ++ List.replicate (4 - (lg_sl ([.ref a7])).length) Slot.unset).toArray = ls at hl ⊢
  have hl : lv_has ls 4 [(0, .ref a7)] := hl
  refine lv_aload_n hx hb dX7_gainsaid_0 rfl (lv_at hl 0 rfl) ?_
  obtain ⟨s7_1, hc2, h⟩ := zB_spec h
  have hFc := zFree hD hS hA
  refine va_callv (va_runV (As := []) (rest := []) ⟨hx, hb, hml, hown, hts⟩ (m_X7_find l dC dI y a7 h7 S7 s.heap.size s7_1 hc2) (cwV 0 hts gX7_gainsaid_X7_find rfl rfl rfl (by decide +kernel) ⟨Nat.le_of_ble_eq_true rfl, Nat.le_of_ble_eq_true rfl⟩) ⟨fun a U g mk q => by obtain ⟨q0, q1, qP, qK, qD⟩ := q; exact ⟨q0, q1, qP, va_K.moved (u := U) (U := U.calling g mk a) (Vm.Alike.refl U.vm) qK, qD⟩, va_recv hK hP (ci := 6) (q0 := 0) rfl rfl, fun U hU hW => ⟨rfl, by rw [hU], by rw [hU]; exact hP, va_K.moved hW.alike hK, hD.weaken (fun _ _ _ _ => trivial)⟩⟩ rfl rfl hl.1 rfl (lv_room (Nat.le_of_ble_eq_true rfl)) dX7_gainsaid_1 ⟨Nat.le_of_ble_eq_true rfl, Nat.le_of_ble_eq_true rfl⟩) hS (fun q _ h => hFc q h) hFc (fun u t H3 locs ht hvm hw hB hz1 hk1 hS => ?_)
  obtain ⟨hP1, hK1, hD1⟩ := hB
  rw [ht] at hP1
  have hP := hP1
  have hD := hD1.weaken (fun _ q _ h => hFc q.1 h)
  have hP : va_P (dC, dI) vwCl (cX7 a7 h7 y s7_1) H3 := hP
  have hD : va_D A (cX7 a7 h7 y s7_1) := hD
  refine lv_aload_n hx hb dX7_gainsaid_4 rfl (lv_at hl 0 rfl) ?_
  refine va_get (D := (dC, dI)) (ci := 6) (v := .int (gI s7_1 39)) (C := RX7) (T := TX7) (N := 49) hx hb hts inX7_ hown hK hP 0 rfl rfl 39 (by decide) (hts (.fieldLink RX7 304 "GateWheelModel" "thems" "I") (List.mem_of_getElem? (i := 1) rfl)) (fun _ h9 => h9) rfl dX7_gainsaid_5 ?_
  refine lv_bipush (v := 12) hx hb dX7_gainsaid_8 (by decide) ?_
  refine lv_icmp_le (tgt := 16) hx hb dX7_gainsaid_10 (by decide) (fun c5 => ?_) (fun c5 => ?_)
  · have h := zY c5 h
    refine lv_iconst (v := (-1)) hx hb dX7_gainsaid_16 (by decide) ?_
    refine lv_istore_n (lv' := [(1, .int (-1)), (0, .ref a7)]) hx hb dX7_gainsaid_17 rfl hl (by decide) rfl (fun ls hl => ?_)
    refine lv_iconst (v := 0) hx hb dX7_gainsaid_18 (by decide) ?_
    refine lv_istore_n (lv' := [(2, .int 0), (1, .int (-1)), (0, .ref a7)]) hx hb dX7_gainsaid_19 rfl hl (by decide) rfl (fun ls hl => ?_)
    refine W_abs (fun GW6 eG7 => ?_)
    have hi11 := h
    have lp9 : ∀ (n : Nat) (v15 : Int32) (v16 : Int32) (s7_17 : SS) (HGW6 : Heap) (locs : List Loc) (ls : Array Slot), zI (b_X7_gainsaid_20) n (v15, v16, s7_17) = some (or_, o_7) → va_P (dC, dI) vwCl (cX7 a7 h7 y s7_17) HGW6 → va_D A (cX7 a7 h7 y s7_17) → va_S A s.heap HGW6 locs → lv_has ls 4 [(0, .ref a7), (1, .int v15), (2, .int v16)] → GW6 HGW6 locs 0 0 (F0 m 20 ls []) := by
      intro n
      induction n with
      | zero =>
        intro v15 v16 s7_17 HGW6 locs ls hi11 hP hD hS hl
        exact (zI_0 hi11).elim
      | succ n ihlp9 =>
        intro v15 v16 s7_17 HGW6 locs ls hi11 hP hD hS hl
        refine (eG7 _ _ _ _ _).mpr ?_
        obtain ⟨xx14, h, hx13⟩ := zI_spec hi11
        refine lv_iload_n hx hb dX7_gainsaid_20 rfl (lv_at hl 2 rfl) ?_
        refine lv_iconst (v := 1) hx hb dX7_gainsaid_21 (by decide) ?_
        refine lv_aload_n hx hb dX7_gainsaid_22 rfl (lv_at hl 0 rfl) ?_
        refine va_get (D := (dC, dI)) (ci := 6) (v := .int (gI s7_17 39)) (C := RX7) (T := TX7) (N := 49) hx hb hts inX7_ hown hK hP 0 rfl rfl 39 (by decide) (hts (.fieldLink RX7 304 "GateWheelModel" "thems" "I") (List.mem_of_getElem? (i := 1) rfl)) (fun _ h9 => h9) rfl dX7_gainsaid_23 ?_
        refine lv_ishl hx hb dX7_gainsaid_26 ?_
        refine lv_icmp_ge (tgt := 99) hx hb dX7_gainsaid_27 (by decide) (fun c18 => ?_) (fun c18 => ?_)
        · have h := zY c18 h
          refine lv_iload_n hx hb dX7_gainsaid_99 rfl (lv_at hl 1 rfl) ?_
          have h := congrArg some (zI_r h hx13)
          have ho0 : v15 = or_ := congrArg (fun z : Int32 × SS => z.1) (Option.some.inj h)
          have ho1 : s7_17 = o_7 := congrArg (fun z : Int32 × SS => z.2) (Option.some.inj h)
          exact W.iret (v := v15) hx hb hr (fun t ht hW => ⟨⟨v15, (), rfl, ho0, by rw [ht]; rw [← ho1]; exact hP, va_K.moved hW.alike hK, by rw [← ho1]; exact hD⟩, hS.F ht⟩) hS.2.2 dX7_gainsaid_100
        · have h := zN c18 h
          refine lv_aload_n hx hb dX7_gainsaid_30 rfl (lv_at hl 0 rfl) ?_
          refine lv_iload_n hx hb dX7_gainsaid_31 rfl (lv_at hl 2 rfl) ?_
          obtain ⟨⟨r19, s7_20⟩, hc21, h⟩ := zB_spec h
          have hFc := zFree hD hS hA
          refine va_calli (va_runV (As := [.int v16]) (rest := []) ⟨hx, hb, hml, hown, hts⟩ (m_X7_goes l dC dI y a7 h7 s7_17 v16 HGW6.size r19 s7_20 hc21) (cwV 1 hts gX7_gainsaid_X7_goes rfl rfl rfl (by decide +kernel) ⟨Nat.le_of_ble_eq_true rfl, Nat.le_of_ble_eq_true rfl⟩) ⟨fun a U g mk q => by obtain ⟨q0, q1, qP, qK, qD⟩ := q; exact ⟨q0, q1, qP, va_K.moved (u := U) (U := U.calling g mk a) (Vm.Alike.refl U.vm) qK, qD⟩, va_recv hK hP (ci := 6) (q0 := 0) rfl rfl, fun U hU hW => ⟨rfl, by rw [hU], by rw [hU]; exact hP, va_K.moved hW.alike hK, hD.weaken (fun _ _ _ _ => trivial)⟩⟩ rfl rfl hl.1 rfl (lv_room (Nat.le_of_ble_eq_true rfl)) dX7_gainsaid_32 ⟨Nat.le_of_ble_eq_true rfl, Nat.le_of_ble_eq_true rfl⟩) hS (fun q _ h => hFc q h) hFc (fun rr23 u t H22 locs ht hvm hw hB hz1 hk1 hS => ?_)
          obtain ⟨hP1, hK1, hD1⟩ := hB
          rw [ht] at hP1
          refine zTopi hw.symm ?_
          have hP := hP1
          have hD := hD1.weaken (fun _ q _ h => hFc q.1 h)
          have hP : va_P (dC, dI) vwCl (cX7 a7 h7 y s7_20) H22 := hP
          have hD : va_D A (cX7 a7 h7 y s7_20) := hD
          refine lv_if_ne (tgt := 41) hx hb dX7_gainsaid_35 (by decide) (fun c24 => ?_) (fun c24 => ?_)
          · have h := zN c24 h
            refine lv_iconst (v := 0) hx hb dX7_gainsaid_41 (by decide) ?_
            refine lv_istore_n (lv' := [(3, .int 0), (0, .ref a7), (1, .int v15), (2, .int v16)]) hx hb dX7_gainsaid_42 rfl hl (by decide) rfl (fun ls hl => ?_)
            refine W_abs (fun GW25 eG26 => ?_)
            obtain ⟨ov29, hi30, h⟩ := zB_spec h
            have je27 : ∀ (v34 : Int32) (HGW25e : Heap) (locs : List Loc) (ls : Array Slot), v34 = ov29 → va_P (dC, dI) vwCl (cX7 a7 h7 y s7_20) HGW25e → va_D A (cX7 a7 h7 y s7_20) → va_S A s.heap HGW25e locs → lv_has ls 4 [(0, .ref a7), (2, .int v16), (1, .int v34)] → GW25 HGW25e locs 0 0 (F0 m 93 ls []) := by
              intro v34 HGW25e locs ls hv hP hD hS hl
              subst hv
              refine (eG26 _ _ _ _ _).mpr ?_
              obtain ⟨v35, ev35, h⟩ := zL_spec h
              refine lv_iinc (v := v35) (lv' := [(2, .int v35), (0, .ref a7), (1, .int v34)]) hx hb dX7_gainsaid_93 hl (k := 1) rfl (by rw [ev35]; rfl) (by decide) rfl (fun ls hl => ?_)
              refine lv_goto (tgt := 20) hx hb dX7_gainsaid_96 (by decide) ?_
              have h := zI_l h hx13
              exact (eG7 _ _ _ _ _).mp (ihlp9 v34 v35 s7_20 _ _ _ h hP hD hS (lv_sub hl [1, 2, 0] rfl))
            have lp28 : ∀ (n : Nat) (v36 : Int32) (v37 : Int32) (HGW25 : Heap) (locs : List Loc) (ls : Array Slot), zI (b_X7_gainsaid_43 s7_20) n (v36, v37) = some ov29 → va_P (dC, dI) vwCl (cX7 a7 h7 y s7_20) HGW25 → va_D A (cX7 a7 h7 y s7_20) → va_S A s.heap HGW25 locs → lv_has ls 4 [(0, .ref a7), (2, .int v16), (1, .int v36), (3, .int v37)] → GW25 HGW25 locs 0 0 (F0 m 43 ls []) := by
              intro n
              induction n with
              | zero =>
                intro v36 v37 HGW25 locs ls hi30 hP hD hS hl
                exact (zI_0 hi30).elim
              | succ n ihlp28 =>
                intro v36 v37 HGW25 locs ls hi30 hP hD hS hl
                refine (eG26 _ _ _ _ _).mpr ?_
                obtain ⟨xx33, h, hx32⟩ := zI_spec hi30
                refine lv_iload_n hx hb dX7_gainsaid_43 rfl (lv_at hl 3 rfl) ?_
                refine lv_aload_n hx hb dX7_gainsaid_44 rfl (lv_at hl 0 rfl) ?_
                refine va_get (D := (dC, dI)) (ci := 6) (v := .int (gI s7_20 29)) (C := RX7) (T := TX7) (N := 49) hx hb hts inX7_ hown hK hP 0 rfl rfl 29 (by decide) (hts (.fieldLink RX7 261 "GateWheelModel" "nodes" "I") (List.mem_of_getElem? (i := 2) rfl)) (fun _ h9 => h9) rfl dX7_gainsaid_45 ?_
                refine lv_icmp_ge (tgt := 93) hx hb dX7_gainsaid_48 (by decide) (fun c38 => ?_) (fun c38 => ?_)
                · have h := zY c38 h
                  exact (eG26 _ _ _ _ _).mp (je27 v36 _ _ _ (zI_r h hx32) hP hD hS (lv_sub hl [0, 1, 2] rfl))
                · have h := zN c38 h
                  refine lv_iload_n hx hb dX7_gainsaid_51 rfl (lv_at hl 2 rfl) ?_
                  refine W_abs (fun GW39 eG40 => ?_)
                  obtain ⟨ov42, hr43, hk44⟩ := zS_spec h
                  have jn41 : ∀ (HGW39 : Heap) (locs : List Loc) (ls : Array Slot), Sum.inr () = ov42 → va_P (dC, dI) vwCl (cX7 a7 h7 y s7_20) HGW39 → va_D A (cX7 a7 h7 y s7_20) → va_S A s.heap HGW39 locs → lv_has ls 4 [(0, .ref a7), (2, .int v16), (1, .int v36), (3, .int v37)] → GW39 HGW39 locs 0 0 (F0 m 60 ls []) := by
                    intro HGW39 locs ls hv hP hD hS hl
                    subst hv
                    have h := zS_r hk44
                    refine (eG40 _ _ _ _ _).mpr ?_
                    refine lv_aload_n hx hb dX7_gainsaid_60 rfl (lv_at hl 0 rfl) ?_
                    refine va_get (D := (dC, dI)) (ci := 6) (v := .ref (h7 34)) (C := RX7) (T := TX7) (N := 49) hx hb hts inX7_ hown hK hP 0 rfl rfl 34 (by decide) (hts (.fieldLink RX7 74 "GateWheelModel" "values" "[I") (List.mem_of_getElem? (i := 3) rfl)) (fun _ h9 => h9) rfl dX7_gainsaid_61 ?_
                    refine lv_iload_n hx hb dX7_gainsaid_64 rfl (lv_at hl 3 rfl) ?_
                    obtain ⟨hi45, h⟩ := zG_spec h
                    refine va_iald hx hb hK hP 20 0 rfl rfl hi45 dX7_gainsaid_65 ?_
                    refine lv_iconst (v := 2) hx hb dX7_gainsaid_66 (by decide) ?_
                    refine lv_icmp_ge (tgt := 87) hx hb dX7_gainsaid_67 (by decide) (fun c46 => ?_) (fun c46 => ?_)
                    · have h := zY c46 h
                      obtain ⟨v47, ev47, h⟩ := zL_spec h
                      refine lv_iinc (v := v47) (lv' := [(3, .int v47), (0, .ref a7), (2, .int v16), (1, .int v36)]) hx hb dX7_gainsaid_87 hl (k := 3) rfl (by rw [ev47]; rfl) (by decide) rfl (fun ls hl => ?_)
                      refine lv_goto (tgt := 43) hx hb dX7_gainsaid_90 (by decide) ?_
                      have h := zI_l h hx32
                      exact (eG26 _ _ _ _ _).mp (ihlp28 v36 v47 _ _ _ h hP hD hS (lv_sub hl [1, 2, 3, 0] rfl))
                    · have h := zN c46 h
                      refine lv_aload_n hx hb dX7_gainsaid_70 rfl (lv_at hl 0 rfl) ?_
                      refine va_get (D := (dC, dI)) (ci := 6) (v := .ref (h7 35)) (C := RX7) (T := TX7) (N := 49) hx hb hts inX7_ hown hK hP 0 rfl rfl 35 (by decide) (hts (.fieldLink RX7 77 "GateWheelModel" "world" "[I") (List.mem_of_getElem? (i := 4) rfl)) (fun _ h9 => h9) rfl dX7_gainsaid_71 ?_
                      refine lv_iload_n hx hb dX7_gainsaid_74 rfl (lv_at hl 3 rfl) ?_
                      refine va_iald hx hb hK hP 21 0 rfl rfl hi45 dX7_gainsaid_75 ?_
                      refine lv_aload_n hx hb dX7_gainsaid_76 rfl (lv_at hl 0 rfl) ?_
                      refine va_get (D := (dC, dI)) (ci := 6) (v := .ref (h7 34)) (C := RX7) (T := TX7) (N := 49) hx hb hts inX7_ hown hK hP 0 rfl rfl 34 (by decide) (hts (.fieldLink RX7 74 "GateWheelModel" "values" "[I") (List.mem_of_getElem? (i := 3) rfl)) (fun _ h9 => h9) rfl dX7_gainsaid_77 ?_
                      refine lv_iload_n hx hb dX7_gainsaid_80 rfl (lv_at hl 3 rfl) ?_
                      refine va_iald hx hb hK hP 20 0 rfl rfl hi45 dX7_gainsaid_81 ?_
                      refine lv_icmp_eq (tgt := 87) hx hb dX7_gainsaid_82 (by decide) (fun c48 => ?_) (fun c48 => ?_)
                      · have h := zY c48 h
                        obtain ⟨v49, ev49, h⟩ := zL_spec h
                        refine lv_iinc (v := v49) (lv' := [(3, .int v49), (0, .ref a7), (2, .int v16), (1, .int v36)]) hx hb dX7_gainsaid_87 hl (k := 3) rfl (by rw [ev49]; rfl) (by decide) rfl (fun ls hl => ?_)
                        refine lv_goto (tgt := 43) hx hb dX7_gainsaid_90 (by decide) ?_
                        have h := zI_l h hx32
                        exact (eG26 _ _ _ _ _).mp (ihlp28 v36 v49 _ _ _ h hP hD hS (lv_sub hl [1, 2, 3, 0] rfl))
                      · have h := zN c48 h
                        refine lv_iload_n hx hb dX7_gainsaid_85 rfl (lv_at hl 3 rfl) ?_
                        refine lv_istore_n (lv' := [(1, .int v37), (0, .ref a7), (2, .int v16), (3, .int v37)]) hx hb dX7_gainsaid_86 rfl hl (by decide) rfl (fun ls hl => ?_)
                        obtain ⟨v50, ev50, h⟩ := zL_spec h
                        refine lv_iinc (v := v50) (lv' := [(3, .int v50), (1, .int v37), (0, .ref a7), (2, .int v16)]) hx hb dX7_gainsaid_87 hl (k := 3) rfl (by rw [ev50]; rfl) (by decide) rfl (fun ls hl => ?_)
                        refine lv_goto (tgt := 43) hx hb dX7_gainsaid_90 (by decide) ?_
                        have h := zI_l h hx32
                        exact (eG26 _ _ _ _ _).mp (ihlp28 v37 v50 _ _ _ h hP hD hS (lv_sub hl [2, 3, 1, 0] rfl))
                  refine (eG40 _ _ _ _ _).mpr ?_
                  have h := hr43
                  refine lv_if_lt (tgt := 60) hx hb dX7_gainsaid_52 (by decide) (fun c51 => ?_) (fun c51 => ?_)
                  · have h := zY c51 h
                    exact (eG40 _ _ _ _ _).mp (jn41 _ _ _ (Option.some.inj h) hP hD hS (lv_sub hl [0, 1, 2, 3] rfl))
                  · have h := zN c51 h
                    refine lv_iload_n hx hb dX7_gainsaid_55 rfl (lv_at hl 3 rfl) ?_
                    refine lv_iload_n hx hb dX7_gainsaid_56 rfl (lv_at hl 2 rfl) ?_
                    refine lv_icmp_ge (tgt := 93) hx hb dX7_gainsaid_57 (by decide) (fun c52 => ?_) (fun c52 => ?_)
                    · have h := zY c52 h
                      have h := zS_l (Option.some.inj h) hk44
                      exact (eG26 _ _ _ _ _).mp (je27 v36 _ _ _ (zI_r h hx32) hP hD hS (lv_sub hl [0, 1, 2] rfl))
                    · have h := zN c52 h
                      exact (eG40 _ _ _ _ _).mp (jn41 _ _ _ (Option.some.inj h) hP hD hS (lv_sub hl [0, 1, 2, 3] rfl))
            exact lp28 zF v15 (0 : Int32) _ _ _ hi30 hP hD hS (lv_sub hl [1, 3, 2, 0] rfl)
          · have h := zY c24 h
            refine lv_goto (tgt := 93) hx hb dX7_gainsaid_38 (by decide) ?_
            obtain ⟨v53, ev53, h⟩ := zL_spec h
            refine lv_iinc (v := v53) (lv' := [(2, .int v53), (0, .ref a7), (1, .int v15)]) hx hb dX7_gainsaid_93 hl (k := 2) rfl (by rw [ev53]; rfl) (by decide) rfl (fun ls hl => ?_)
            refine lv_goto (tgt := 20) hx hb dX7_gainsaid_96 (by decide) ?_
            have h := zI_l h hx13
            exact (eG7 _ _ _ _ _).mp (ihlp9 v15 v53 s7_20 _ _ _ h hP hD hS (lv_sub hl [1, 2, 0] rfl))
    exact lp9 zF (-1 : Int32) (0 : Int32) s7_1 _ _ _ hi11 hP hD hS (lv_sub hl [2, 1, 0] rfl)
  · have h := zN c5 h
    refine lv_bipush (v := (-2)) hx hb dX7_gainsaid_13 (by decide) ?_
    have ho0 : (-2 : Int32) = or_ := congrArg (fun z : Int32 × SS => z.1) (Option.some.inj h)
    have ho1 : s7_1 = o_7 := congrArg (fun z : Int32 × SS => z.2) (Option.some.inj h)
    exact W.iret (v := (-2)) hx hb hr (fun t ht hW => ⟨⟨(-2), (), rfl, ho0, by rw [ht]; rw [← ho1]; exact hP, va_K.moved hW.alike hK, by rw [← ho1]; exact hD⟩, hS.F ht⟩) hS.2.2 dX7_gainsaid_15

set_option maxHeartbeats 4000000 in
set_option maxRecDepth 100000 in
theorem m_X7_flicker (l : Launch) (dC : Nat → ClassId) (dI : Nat → Nat → Nat) (y : Nat → ClassId) (a7 : Nat) (h7 : Nat → Nat) (S7 : SS) (p1 : Int32) (p2 : Int32) (sz : Nat) (or_ : Int32) (o_7 : SS) (h : f_X7_flicker S7 p1 p2 = some (or_, o_7)) : Met l yX7_flicker wsX7_flicker ({ frames := 3, cells := 0, slots := 0, locals := 73 }) (va_Pc [.ref a7, .int p1, .int p2] (fun U => U.heap.size = sz ∧ va_P (dC, dI) vwCl (cX7 a7 h7 y S7) U.heap ∧ va_K (dC, dI) vwCl [(y 0, .int), (y 1, .long), (y 2, .byte), (y 3, .boolean)] U ∧ va_D (fun _ => True) (cX7 a7 h7 y S7))) (va_Qi (fun (r : Int32) (_ : Unit) => r = or_) (fun (_ : Unit) (t : State) => va_P (dC, dI) vwCl (cX7 a7 h7 y o_7) t.heap ∧ va_K (dC, dI) vwCl [(y 0, .int), (y 1, .long), (y 2, .byte), (y 3, .boolean)] t ∧ va_D (va_A (cX7 a7 h7 y S7) sz) (cX7 a7 h7 y o_7)) (va_A (cX7 a7 h7 y S7) sz)) 0 0 (va_A (cX7 a7 h7 y S7) sz) := by
  refine Met.ofW (cc := cX7_flicker) (maxL := 5) (ret := (some .int)) (by decide +kernel) rfl ?_
  intro p e s m args below meth c s₁ B hml hv
  obtain ⟨rfl, hsz, hP, hK, hD0⟩ := hv
  have hx := B.exec
  have hb := B.bytes
  have hr := B.returns
  have hts := atoms_spec (ws := wsX7_flicker) B.pre
  have hown : s.vm.findClass RX7 = some m.cls := findClass_of_methodNamed B.named
  have hlocks := B.notSynchronized
  have inX7_ : ∀ w ∈ wsX70, w ∈ wsX7_flicker := fun _ h => List.mem_cons_of_mem _ (List.mem_append_right _ h)
  subst hsz
  have hD := hD0.self (sz := s.heap.size)
  generalize hAe : va_A (cX7 a7 h7 y S7) s.heap.size = A at hD ⊢
  have hA : ∀ q : Nat, s.heap.size ≤ q → A q := fun q h => by rw [← hAe]; exact Or.inr h
  have hS : va_S A s.heap s.heap [] := va_S.rf
  have hP : va_P (dC, dI) vwCl (cX7 a7 h7 y S7) s.heap := hP
  have hl := lv_entry ([.ref a7, .int p1, .int p2]) (n := 5) (Nat.le_of_ble_eq_true rfl)
  rw [lg_entry_eq]
  generalize (lg_sl ([.ref a7, .int p1, .int p2]) ++ List.replicate (5 - (lg_sl ([.ref a7, .int p1, .int p2])).length) Slot.unset).toArray = ls at hl ⊢
  have hl : lv_has ls 5 [(0, .ref a7), (1, .int p1), (2, .int p2)] := hl
  refine lv_aload_n hx hb dX7_flicker_0 rfl (lv_at hl 0 rfl) ?_
  refine lv_iload_n hx hb dX7_flicker_1 rfl (lv_at hl 1 rfl) ?_
  obtain ⟨r1, hc2, h⟩ := zB_spec h
  have hFc := zFree hD hS hA
  refine va_calli (va_runV (As := [.int p1]) (rest := []) ⟨hx, hb, hml, hown, hts⟩ (m_X7_isNode l dC dI y a7 h7 S7 p1 s.heap.size r1 hc2) (cwV 1 hts gX7_flicker_X7_isNode rfl rfl rfl (by decide +kernel) ⟨Nat.le_of_ble_eq_true rfl, Nat.le_of_ble_eq_true rfl⟩) ⟨fun a U g mk q => by obtain ⟨q0, q1, qP, qK, qD⟩ := q; exact ⟨q0, q1, qP, va_K.moved (u := U) (U := U.calling g mk a) (Vm.Alike.refl U.vm) qK, qD⟩, va_recv hK hP (ci := 6) (q0 := 0) rfl rfl, fun U hU hW => ⟨rfl, by rw [hU], by rw [hU]; exact hP, va_K.moved hW.alike hK, hD.weaken (fun _ _ _ _ => trivial)⟩⟩ rfl rfl hl.1 rfl (lv_room (Nat.le_of_ble_eq_true rfl)) dX7_flicker_2 ⟨Nat.le_of_ble_eq_true rfl, Nat.le_of_ble_eq_true rfl⟩) hS (fun q _ h => hFc q h) hFc (fun rr4 u t H3 locs ht hvm hw hB hz1 hk1 hS => ?_)
  obtain ⟨hP1, hK1, hD1⟩ := hB
  rw [ht] at hP1
  refine zTopi hw.symm ?_
  have hP := hP1
  have hD := hD1.weaken (fun _ q _ h => hFc q.1 h)
  have hP : va_P (dC, dI) vwCl (cX7 a7 h7 y S7) H3 := hP
  have hD : va_D A (cX7 a7 h7 y S7) := hD
  refine lv_if_eq (tgt := 30) hx hb dX7_flicker_5 (by decide) (fun c5 => ?_) (fun c5 => ?_)
  · have h := zY c5 h
    refine lv_iconst (v := (-1)) hx hb dX7_flicker_30 (by decide) ?_
    have ho0 : (-1 : Int32) = or_ := congrArg (fun z : Int32 × SS => z.1) (Option.some.inj h)
    have ho1 : S7 = o_7 := congrArg (fun z : Int32 × SS => z.2) (Option.some.inj h)
    exact W.iret (v := (-1)) hx hb hr (fun t ht hW => ⟨⟨(-1), (), rfl, ho0, by rw [ht]; rw [← ho1]; exact hP, va_K.moved hW.alike hK, by rw [← ho1]; exact hD⟩, hS.F ht⟩) hS.2.2 dX7_flicker_31
  · have h := zN c5 h
    refine lv_aload_n hx hb dX7_flicker_8 rfl (lv_at hl 0 rfl) ?_
    refine lv_iload_n hx hb dX7_flicker_9 rfl (lv_at hl 1 rfl) ?_
    obtain ⟨r6, hc7, h⟩ := zB_spec h
    have hFc := zFree hD hS hA
    refine va_calli (va_runV (As := [.int p1]) (rest := []) ⟨hx, hb, hml, hown, hts⟩ (m_X7_kind l dC dI y a7 h7 S7 p1 H3.size r6 hc7) (cwV 1 hts gX7_flicker_X7_kind rfl rfl rfl (by decide +kernel) ⟨Nat.le_of_ble_eq_true rfl, Nat.le_of_ble_eq_true rfl⟩) ⟨fun a U g mk q => by obtain ⟨q0, q1, qP, qK, qD⟩ := q; exact ⟨q0, q1, qP, va_K.moved (u := U) (U := U.calling g mk a) (Vm.Alike.refl U.vm) qK, qD⟩, va_recv hK hP (ci := 6) (q0 := 0) rfl rfl, fun U hU hW => ⟨rfl, by rw [hU], by rw [hU]; exact hP, va_K.moved hW.alike hK, hD.weaken (fun _ _ _ _ => trivial)⟩⟩ rfl rfl hl.1 rfl (lv_room (Nat.le_of_ble_eq_true rfl)) dX7_flicker_10 ⟨Nat.le_of_ble_eq_true rfl, Nat.le_of_ble_eq_true rfl⟩) hS (fun q _ h => hFc q h) hFc (fun rr9 u t H8 locs ht hvm hw hB hz1 hk1 hS => ?_)
    obtain ⟨hP1, hK1, hD1⟩ := hB
    rw [ht] at hP1
    refine zTopi hw.symm ?_
    have hP := hP1
    have hD := hD1.weaken (fun _ q _ h => hFc q.1 h)
    have hP : va_P (dC, dI) vwCl (cX7 a7 h7 y S7) H8 := hP
    have hD : va_D A (cX7 a7 h7 y S7) := hD
    refine lv_if_ne (tgt := 30) hx hb dX7_flicker_13 (by decide) (fun c10 => ?_) (fun c10 => ?_)
    · have h := zN c10 h
      refine lv_iconst (v := (-1)) hx hb dX7_flicker_30 (by decide) ?_
      have ho0 : (-1 : Int32) = or_ := congrArg (fun z : Int32 × SS => z.1) (Option.some.inj h)
      have ho1 : S7 = o_7 := congrArg (fun z : Int32 × SS => z.2) (Option.some.inj h)
      exact W.iret (v := (-1)) hx hb hr (fun t ht hW => ⟨⟨(-1), (), rfl, ho0, by rw [ht]; rw [← ho1]; exact hP, va_K.moved hW.alike hK, by rw [← ho1]; exact hD⟩, hS.F ht⟩) hS.2.2 dX7_flicker_31
    · have h := zY c10 h
      refine lv_aload_n hx hb dX7_flicker_16 rfl (lv_at hl 0 rfl) ?_
      refine va_get (D := (dC, dI)) (ci := 6) (v := .ref (h7 33)) (C := RX7) (T := TX7) (N := 49) hx hb hts inX7_ hown hK hP 0 rfl rfl 33 (by decide) (hts (.fieldLink RX7 71 "GateWheelModel" "source" "[I") (List.mem_of_getElem? (i := 1) rfl)) (fun _ h9 => h9) rfl dX7_flicker_17 ?_
      refine lv_iload_n hx hb dX7_flicker_20 rfl (lv_at hl 1 rfl) ?_
      obtain ⟨hi11, h⟩ := zG_spec h
      refine va_iald hx hb hK hP 19 0 rfl rfl hi11 dX7_flicker_21 ?_
      refine lv_iconst (v := 1) hx hb dX7_flicker_22 (by decide) ?_
      refine lv_icmp_gt (tgt := 30) hx hb dX7_flicker_23 (by decide) (fun c12 => ?_) (fun c12 => ?_)
      · have h := zY c12 h
        refine lv_iconst (v := (-1)) hx hb dX7_flicker_30 (by decide) ?_
        have ho0 : (-1 : Int32) = or_ := congrArg (fun z : Int32 × SS => z.1) (Option.some.inj h)
        have ho1 : S7 = o_7 := congrArg (fun z : Int32 × SS => z.2) (Option.some.inj h)
        exact W.iret (v := (-1)) hx hb hr (fun t ht hW => ⟨⟨(-1), (), rfl, ho0, by rw [ht]; rw [← ho1]; exact hP, va_K.moved hW.alike hK, by rw [← ho1]; exact hD⟩, hS.F ht⟩) hS.2.2 dX7_flicker_31
      · have h := zN c12 h
        refine lv_iload_n hx hb dX7_flicker_26 rfl (lv_at hl 2 rfl) ?_
        refine lv_if_ge (tgt := 32) hx hb dX7_flicker_27 (by decide) (fun c13 => ?_) (fun c13 => ?_)
        · have h := zY c13 h
          refine lv_iconst (v := 0) hx hb dX7_flicker_32 (by decide) ?_
          refine lv_istore_n (lv' := [(3, .int 0), (0, .ref a7), (1, .int p1), (2, .int p2)]) hx hb dX7_flicker_33 rfl hl (by decide) rfl (fun ls hl => ?_)
          refine W_abs (fun GW14 eG15 => ?_)
          obtain ⟨ov18, hi19, h⟩ := zB_spec h
          have je16 : ∀ (s7_23 : SS) (HGW14e : Heap) (locs : List Loc) (ls : Array Slot), s7_23 = ov18 → va_P (dC, dI) vwCl (cX7 a7 h7 y s7_23) HGW14e → va_D A (cX7 a7 h7 y s7_23) → va_S A s.heap HGW14e locs → lv_has ls 5 [(0, .ref a7), (1, .int p1), (2, .int p2)] → GW14 HGW14e locs 0 0 (F0 m 72 ls []) := by
            intro s7_23 HGW14e locs ls hv hP hD hS hl
            subst hv
            refine (eG15 _ _ _ _ _).mpr ?_
            refine lv_aload_n hx hb dX7_flicker_72 rfl (lv_at hl 0 rfl) ?_
            refine va_get (D := (dC, dI)) (ci := 6) (v := .ref (h7 36)) (C := RX7) (T := TX7) (N := 49) hx hb hts inX7_ hown hK hP 0 rfl rfl 36 (by decide) (hts (.fieldLink RX7 80 "GateWheelModel" "other" "[I") (List.mem_of_getElem? (i := 3) rfl)) (fun _ h9 => h9) rfl dX7_flicker_73 ?_
            refine lv_iload_n hx hb dX7_flicker_76 rfl (lv_at hl 1 rfl) ?_
            refine lv_iconst (v := 1) hx hb dX7_flicker_77 (by decide) ?_
            refine lv_aload_n hx hb dX7_flicker_78 rfl (lv_at hl 0 rfl) ?_
            refine va_get (D := (dC, dI)) (ci := 6) (v := .ref (h7 33)) (C := RX7) (T := TX7) (N := 49) hx hb hts inX7_ hown hK hP 0 rfl rfl 33 (by decide) (hts (.fieldLink RX7 71 "GateWheelModel" "source" "[I") (List.mem_of_getElem? (i := 1) rfl)) (fun _ h9 => h9) rfl dX7_flicker_79 ?_
            refine lv_iload_n hx hb dX7_flicker_82 rfl (lv_at hl 1 rfl) ?_
            refine va_iald hx hb hK hP 19 0 rfl rfl hi11 dX7_flicker_83 ?_
            refine lv_isub hx hb dX7_flicker_84 ?_
            refine va_iast hx hb hK hP hD hS 22 0 rfl rfl hi11 dX7_flicker_85 (fun H24 locs hP hD hS => ?_)
            obtain ⟨s7_25, es7_25, h⟩ := zL_spec h
            have hP : va_P (dC, dI) vwCl (cX7 a7 h7 y s7_25) H24 := by rw [es7_25]; exact hP
            have hD : va_D A (cX7 a7 h7 y s7_25) := by rw [es7_25]; exact hD
            refine lv_aload_n hx hb dX7_flicker_86 rfl (lv_at hl 0 rfl) ?_
            refine va_get (D := (dC, dI)) (ci := 6) (v := .ref (h7 37)) (C := RX7) (T := TX7) (N := 49) hx hb hts inX7_ hown hK hP 0 rfl rfl 37 (by decide) (hts (.fieldLink RX7 83 "GateWheelModel" "third" "[I") (List.mem_of_getElem? (i := 4) rfl)) (fun _ h9 => h9) rfl dX7_flicker_87 ?_
            refine lv_iload_n hx hb dX7_flicker_90 rfl (lv_at hl 1 rfl) ?_
            refine lv_iconst (v := 2) hx hb dX7_flicker_91 (by decide) ?_
            refine va_iast hx hb hK hP hD hS 23 0 rfl rfl hi11 dX7_flicker_92 (fun H26 locs hP hD hS => ?_)
            obtain ⟨s7_27, es7_27, h⟩ := zL_spec h
            have hP : va_P (dC, dI) vwCl (cX7 a7 h7 y s7_27) H26 := by rw [es7_27]; exact hP
            have hD : va_D A (cX7 a7 h7 y s7_27) := by rw [es7_27]; exact hD
            refine lv_aload_n hx hb dX7_flicker_93 rfl (lv_at hl 0 rfl) ?_
            refine lv_aload_n hx hb dX7_flicker_94 rfl (lv_at hl 0 rfl) ?_
            refine va_get (D := (dC, dI)) (ci := 6) (v := .ref (h7 36)) (C := RX7) (T := TX7) (N := 49) hx hb hts inX7_ hown hK hP 0 rfl rfl 36 (by decide) (hts (.fieldLink RX7 80 "GateWheelModel" "other" "[I") (List.mem_of_getElem? (i := 3) rfl)) (fun _ h9 => h9) rfl dX7_flicker_95 ?_
            obtain ⟨s7_28, hc29, h⟩ := zB_spec h
            have hFc := zFree hD hS hA
            refine va_callv (va_runV (As := [.ref (h7 36)]) (rest := []) ⟨hx, hb, hml, hown, hts⟩ (m_X7_follow l dC dI y a7 h7 s7_27 36 22 ⟨fun _ => rfl, fun _ _ => rfl⟩ H26.size s7_28 hc29) (cwV 1 hts gX7_flicker_X7_follow rfl rfl rfl (by decide +kernel) ⟨Nat.le_of_ble_eq_true rfl, Nat.le_of_ble_eq_true rfl⟩) ⟨fun a U g mk q => by obtain ⟨q0, q1, qP, qK, qD⟩ := q; exact ⟨q0, q1, qP, va_K.moved (u := U) (U := U.calling g mk a) (Vm.Alike.refl U.vm) qK, qD⟩, va_recv hK hP (ci := 6) (q0 := 0) rfl rfl, fun U hU hW => ⟨rfl, by rw [hU], by rw [hU]; exact hP, va_K.moved hW.alike hK, hD.weaken (fun _ _ _ _ => trivial)⟩⟩ rfl rfl hl.1 rfl (lv_room (Nat.le_of_ble_eq_true rfl)) dX7_flicker_98 ⟨Nat.le_of_ble_eq_true rfl, Nat.le_of_ble_eq_true rfl⟩) hS (fun q _ h => hFc q h) hFc (fun u t H30 locs ht hvm hw hB hz1 hk1 hS => ?_)
            obtain ⟨hP1, hK1, hD1⟩ := hB
            rw [ht] at hP1
            have hP := hP1
            have hD := hD1.weaken (fun _ q _ h => hFc q.1 h)
            have hP : va_P (dC, dI) vwCl (cX7 a7 h7 y s7_28) H30 := hP
            have hD : va_D A (cX7 a7 h7 y s7_28) := hD
            refine lv_aload_n hx hb dX7_flicker_101 rfl (lv_at hl 0 rfl) ?_
            refine lv_aload_n hx hb dX7_flicker_102 rfl (lv_at hl 0 rfl) ?_
            refine va_get (D := (dC, dI)) (ci := 6) (v := .ref (h7 37)) (C := RX7) (T := TX7) (N := 49) hx hb hts inX7_ hown hK hP 0 rfl rfl 37 (by decide) (hts (.fieldLink RX7 83 "GateWheelModel" "third" "[I") (List.mem_of_getElem? (i := 4) rfl)) (fun _ h9 => h9) rfl dX7_flicker_103 ?_
            obtain ⟨s7_32, hc33, h⟩ := zB_spec h
            have hFc := zFree hD hS hA
            refine va_callv (va_runV (As := [.ref (h7 37)]) (rest := []) ⟨hx, hb, hml, hown, hts⟩ (m_X7_follow l dC dI y a7 h7 s7_28 37 23 ⟨fun _ => rfl, fun _ _ => rfl⟩ H30.size s7_32 hc33) (cwV 1 hts gX7_flicker_X7_follow rfl rfl rfl (by decide +kernel) ⟨Nat.le_of_ble_eq_true rfl, Nat.le_of_ble_eq_true rfl⟩) ⟨fun a U g mk q => by obtain ⟨q0, q1, qP, qK, qD⟩ := q; exact ⟨q0, q1, qP, va_K.moved (u := U) (U := U.calling g mk a) (Vm.Alike.refl U.vm) qK, qD⟩, va_recv hK hP (ci := 6) (q0 := 0) rfl rfl, fun U hU hW => ⟨rfl, by rw [hU], by rw [hU]; exact hP, va_K.moved hW.alike hK, hD.weaken (fun _ _ _ _ => trivial)⟩⟩ rfl rfl hl.1 rfl (lv_room (Nat.le_of_ble_eq_true rfl)) dX7_flicker_106 ⟨Nat.le_of_ble_eq_true rfl, Nat.le_of_ble_eq_true rfl⟩) hS (fun q _ h => hFc q h) hFc (fun u t H34 locs ht hvm hw hB hz1 hk1 hS => ?_)
            obtain ⟨hP1, hK1, hD1⟩ := hB
            rw [ht] at hP1
            have hP := hP1
            have hD := hD1.weaken (fun _ q _ h => hFc q.1 h)
            have hP : va_P (dC, dI) vwCl (cX7 a7 h7 y s7_32) H34 := hP
            have hD : va_D A (cX7 a7 h7 y s7_32) := hD
            refine lv_iload_n hx hb dX7_flicker_109 rfl (lv_at hl 2 rfl) ?_
            refine lv_istore_n (lv' := [(3, .int p2), (0, .ref a7), (1, .int p1), (2, .int p2)]) hx hb dX7_flicker_110 rfl hl (by decide) rfl (fun ls hl => ?_)
            refine lv_iconst (v := 0) hx hb dX7_flicker_111 (by decide) ?_
            refine lv_istore (lv' := [(4, .int 0), (3, .int p2), (0, .ref a7), (1, .int p1), (2, .int p2)]) hx hb dX7_flicker_112 hl (by decide) rfl (fun ls hl => ?_)
            refine W_abs (fun GW36 eG37 => ?_)
            have hi41 := h
            have lp39 : ∀ (n : Nat) (v45 : Int32) (v46 : Int32) (HGW36 : Heap) (locs : List Loc) (ls : Array Slot), zI (b_X7_flicker_114 s7_32) n (v45, v46) = some (or_, o_7) → va_P (dC, dI) vwCl (cX7 a7 h7 y s7_32) HGW36 → va_D A (cX7 a7 h7 y s7_32) → va_S A s.heap HGW36 locs → lv_has ls 5 [(0, .ref a7), (3, .int v45), (4, .int v46)] → GW36 HGW36 locs 0 0 (F0 m 114 ls []) := by
              intro n
              induction n with
              | zero =>
                intro v45 v46 HGW36 locs ls hi41 hP hD hS hl
                exact (zI_0 hi41).elim
              | succ n ihlp39 =>
                intro v45 v46 HGW36 locs ls hi41 hP hD hS hl
                refine (eG37 _ _ _ _ _).mpr ?_
                obtain ⟨xx44, h, hx43⟩ := zI_spec hi41
                refine lv_iload hx hb dX7_flicker_114 (lv_at hl 2 rfl) ?_
                refine lv_aload_n hx hb dX7_flicker_116 rfl (lv_at hl 0 rfl) ?_
                refine va_get (D := (dC, dI)) (ci := 6) (v := .int (gI s7_32 29)) (C := RX7) (T := TX7) (N := 49) hx hb hts inX7_ hown hK hP 0 rfl rfl 29 (by decide) (hts (.fieldLink RX7 261 "GateWheelModel" "nodes" "I") (List.mem_of_getElem? (i := 2) rfl)) (fun _ h9 => h9) rfl dX7_flicker_117 ?_
                refine lv_icmp_ge (tgt := 181) hx hb dX7_flicker_120 (by decide) (fun c47 => ?_) (fun c47 => ?_)
                · have h := zY c47 h
                  refine lv_iconst (v := (-1)) hx hb dX7_flicker_181 (by decide) ?_
                  have h := congrArg some (zI_r h hx43)
                  have ho0 : (-1 : Int32) = or_ := congrArg (fun z : Int32 × SS => z.1) (Option.some.inj h)
                  have ho1 : s7_32 = o_7 := congrArg (fun z : Int32 × SS => z.2) (Option.some.inj h)
                  exact W.iret (v := (-1)) hx hb hr (fun t ht hW => ⟨⟨(-1), (), rfl, ho0, by rw [ht]; rw [← ho1]; exact hP, va_K.moved hW.alike hK, by rw [← ho1]; exact hD⟩, hS.F ht⟩) hS.2.2 dX7_flicker_182
                · have h := zN c47 h
                  refine lv_aload_n hx hb dX7_flicker_123 rfl (lv_at hl 0 rfl) ?_
                  refine va_get (D := (dC, dI)) (ci := 6) (v := .ref (h7 34)) (C := RX7) (T := TX7) (N := 49) hx hb hts inX7_ hown hK hP 0 rfl rfl 34 (by decide) (hts (.fieldLink RX7 74 "GateWheelModel" "values" "[I") (List.mem_of_getElem? (i := 5) rfl)) (fun _ h9 => h9) rfl dX7_flicker_124 ?_
                  refine lv_iload hx hb dX7_flicker_127 (lv_at hl 2 rfl) ?_
                  obtain ⟨hi48, h⟩ := zG_spec h
                  refine va_iald hx hb hK hP 20 0 rfl rfl hi48 dX7_flicker_129 ?_
                  refine lv_iconst (v := 1) hx hb dX7_flicker_130 (by decide) ?_
                  refine lv_icmp_gt (tgt := 175) hx hb dX7_flicker_131 (by decide) (fun c49 => ?_) (fun c49 => ?_)
                  · have h := zY c49 h
                    obtain ⟨v50, ev50, h⟩ := zL_spec h
                    refine lv_iinc (v := v50) (lv' := [(4, .int v50), (0, .ref a7), (3, .int v45)]) hx hb dX7_flicker_175 hl (k := 2) rfl (by rw [ev50]; rfl) (by decide) rfl (fun ls hl => ?_)
                    refine lv_goto (tgt := 114) hx hb dX7_flicker_178 (by decide) ?_
                    have h := zI_l h hx43
                    exact (eG37 _ _ _ _ _).mp (ihlp39 v45 v50 _ _ _ h hP hD hS (lv_sub hl [1, 2, 0] rfl))
                  · have h := zN c49 h
                    refine lv_aload_n hx hb dX7_flicker_134 rfl (lv_at hl 0 rfl) ?_
                    refine va_get (D := (dC, dI)) (ci := 6) (v := .ref (h7 34)) (C := RX7) (T := TX7) (N := 49) hx hb hts inX7_ hown hK hP 0 rfl rfl 34 (by decide) (hts (.fieldLink RX7 74 "GateWheelModel" "values" "[I") (List.mem_of_getElem? (i := 5) rfl)) (fun _ h9 => h9) rfl dX7_flicker_135 ?_
                    refine lv_iload hx hb dX7_flicker_138 (lv_at hl 2 rfl) ?_
                    refine va_iald hx hb hK hP 20 0 rfl rfl hi48 dX7_flicker_140 ?_
                    refine lv_aload_n hx hb dX7_flicker_141 rfl (lv_at hl 0 rfl) ?_
                    refine va_get (D := (dC, dI)) (ci := 6) (v := .ref (h7 36)) (C := RX7) (T := TX7) (N := 49) hx hb hts inX7_ hown hK hP 0 rfl rfl 36 (by decide) (hts (.fieldLink RX7 80 "GateWheelModel" "other" "[I") (List.mem_of_getElem? (i := 3) rfl)) (fun _ h9 => h9) rfl dX7_flicker_142 ?_
                    refine lv_iload hx hb dX7_flicker_145 (lv_at hl 2 rfl) ?_
                    refine va_iald hx hb hK hP 22 0 rfl rfl hi48 dX7_flicker_147 ?_
                    refine lv_icmp_ne (tgt := 175) hx hb dX7_flicker_148 (by decide) (fun c51 => ?_) (fun c51 => ?_)
                    · have h := zN c51 h
                      obtain ⟨v52, ev52, h⟩ := zL_spec h
                      refine lv_iinc (v := v52) (lv' := [(4, .int v52), (0, .ref a7), (3, .int v45)]) hx hb dX7_flicker_175 hl (k := 2) rfl (by rw [ev52]; rfl) (by decide) rfl (fun ls hl => ?_)
                      refine lv_goto (tgt := 114) hx hb dX7_flicker_178 (by decide) ?_
                      have h := zI_l h hx43
                      exact (eG37 _ _ _ _ _).mp (ihlp39 v45 v52 _ _ _ h hP hD hS (lv_sub hl [1, 2, 0] rfl))
                    · have h := zY c51 h
                      refine lv_aload_n hx hb dX7_flicker_151 rfl (lv_at hl 0 rfl) ?_
                      refine va_get (D := (dC, dI)) (ci := 6) (v := .ref (h7 37)) (C := RX7) (T := TX7) (N := 49) hx hb hts inX7_ hown hK hP 0 rfl rfl 37 (by decide) (hts (.fieldLink RX7 83 "GateWheelModel" "third" "[I") (List.mem_of_getElem? (i := 4) rfl)) (fun _ h9 => h9) rfl dX7_flicker_152 ?_
                      refine lv_iload hx hb dX7_flicker_155 (lv_at hl 2 rfl) ?_
                      refine va_iald hx hb hK hP 23 0 rfl rfl hi48 dX7_flicker_157 ?_
                      refine lv_iconst (v := 2) hx hb dX7_flicker_158 (by decide) ?_
                      refine lv_icmp_eq (tgt := 165) hx hb dX7_flicker_159 (by decide) (fun c53 => ?_) (fun c53 => ?_)
                      · have h := zY c53 h
                        refine lv_iload_n hx hb dX7_flicker_165 rfl (lv_at hl 1 rfl) ?_
                        refine lv_if_ne (tgt := 172) hx hb dX7_flicker_166 (by decide) (fun c54 => ?_) (fun c54 => ?_)
                        · have h := zN c54 h
                          obtain ⟨v55, ev55, h⟩ := zL_spec h
                          refine lv_iinc (v := v55) (lv' := [(3, .int v55), (0, .ref a7), (4, .int v46)]) hx hb dX7_flicker_172 hl (k := 1) rfl ev55.symm (by decide) rfl (fun ls hl => ?_)
                          obtain ⟨v56, ev56, h⟩ := zL_spec h
                          refine lv_iinc (v := v56) (lv' := [(4, .int v56), (3, .int v55), (0, .ref a7)]) hx hb dX7_flicker_175 hl (k := 2) rfl (by rw [ev56]; rfl) (by decide) rfl (fun ls hl => ?_)
                          refine lv_goto (tgt := 114) hx hb dX7_flicker_178 (by decide) ?_
                          have h := zI_l h hx43
                          exact (eG37 _ _ _ _ _).mp (ihlp39 v55 v56 _ _ _ h hP hD hS (lv_sub hl [2, 1, 0] rfl))
                        · have h := zY c54 h
                          refine lv_iload hx hb dX7_flicker_169 (lv_at hl 2 rfl) ?_
                          have h := congrArg some (zI_r h hx43)
                          have ho0 : v46 = or_ := congrArg (fun z : Int32 × SS => z.1) (Option.some.inj h)
                          have ho1 : s7_32 = o_7 := congrArg (fun z : Int32 × SS => z.2) (Option.some.inj h)
                          exact W.iret (v := v46) hx hb hr (fun t ht hW => ⟨⟨v46, (), rfl, ho0, by rw [ht]; rw [← ho1]; exact hP, va_K.moved hW.alike hK, by rw [← ho1]; exact hD⟩, hS.F ht⟩) hS.2.2 dX7_flicker_171
                      · have h := zN c53 h
                        refine lv_goto (tgt := 175) hx hb dX7_flicker_162 (by decide) ?_
                        obtain ⟨v57, ev57, h⟩ := zL_spec h
                        refine lv_iinc (v := v57) (lv' := [(4, .int v57), (0, .ref a7), (3, .int v45)]) hx hb dX7_flicker_175 hl (k := 2) rfl (by rw [ev57]; rfl) (by decide) rfl (fun ls hl => ?_)
                        refine lv_goto (tgt := 114) hx hb dX7_flicker_178 (by decide) ?_
                        have h := zI_l h hx43
                        exact (eG37 _ _ _ _ _).mp (ihlp39 v45 v57 _ _ _ h hP hD hS (lv_sub hl [1, 2, 0] rfl))
            exact lp39 zF p2 (0 : Int32) _ _ _ hi41 hP hD hS (lv_sub hl [2, 1, 0] rfl)
          have lp17 : ∀ (n : Nat) (v58 : Int32) (s7_59 : SS) (HGW14 : Heap) (locs : List Loc) (ls : Array Slot), zI (b_X7_flicker_34) n (v58, s7_59) = some ov18 → va_P (dC, dI) vwCl (cX7 a7 h7 y s7_59) HGW14 → va_D A (cX7 a7 h7 y s7_59) → va_S A s.heap HGW14 locs → lv_has ls 5 [(0, .ref a7), (1, .int p1), (2, .int p2), (3, .int v58)] → GW14 HGW14 locs 0 0 (F0 m 34 ls []) := by
            intro n
            induction n with
            | zero =>
              intro v58 s7_59 HGW14 locs ls hi19 hP hD hS hl
              exact (zI_0 hi19).elim
            | succ n ihlp17 =>
              intro v58 s7_59 HGW14 locs ls hi19 hP hD hS hl
              refine (eG15 _ _ _ _ _).mpr ?_
              obtain ⟨xx22, h, hx21⟩ := zI_spec hi19
              refine lv_iload_n hx hb dX7_flicker_34 rfl (lv_at hl 3 rfl) ?_
              refine lv_aload_n hx hb dX7_flicker_35 rfl (lv_at hl 0 rfl) ?_
              refine va_get (D := (dC, dI)) (ci := 6) (v := .int (gI s7_59 29)) (C := RX7) (T := TX7) (N := 49) hx hb hts inX7_ hown hK hP 0 rfl rfl 29 (by decide) (hts (.fieldLink RX7 261 "GateWheelModel" "nodes" "I") (List.mem_of_getElem? (i := 2) rfl)) (fun _ h9 => h9) rfl dX7_flicker_36 ?_
              refine lv_icmp_ge (tgt := 72) hx hb dX7_flicker_39 (by decide) (fun c60 => ?_) (fun c60 => ?_)
              · have h := zY c60 h
                exact (eG15 _ _ _ _ _).mp (je16 s7_59 _ _ _ (zI_r h hx21) hP hD hS (lv_sub hl [0, 1, 2] rfl))
              · have h := zN c60 h
                refine lv_aload_n hx hb dX7_flicker_42 rfl (lv_at hl 0 rfl) ?_
                refine va_get (D := (dC, dI)) (ci := 6) (v := .ref (h7 36)) (C := RX7) (T := TX7) (N := 49) hx hb hts inX7_ hown hK hP 0 rfl rfl 36 (by decide) (hts (.fieldLink RX7 80 "GateWheelModel" "other" "[I") (List.mem_of_getElem? (i := 3) rfl)) (fun _ h9 => h9) rfl dX7_flicker_43 ?_
                refine lv_iload_n hx hb dX7_flicker_46 rfl (lv_at hl 3 rfl) ?_
                refine lv_aload_n hx hb dX7_flicker_47 rfl (lv_at hl 0 rfl) ?_
                refine va_get (D := (dC, dI)) (ci := 6) (v := .ref (h7 33)) (C := RX7) (T := TX7) (N := 49) hx hb hts inX7_ hown hK hP 0 rfl rfl 33 (by decide) (hts (.fieldLink RX7 71 "GateWheelModel" "source" "[I") (List.mem_of_getElem? (i := 1) rfl)) (fun _ h9 => h9) rfl dX7_flicker_48 ?_
                refine lv_iload_n hx hb dX7_flicker_51 rfl (lv_at hl 3 rfl) ?_
                obtain ⟨hi61, h⟩ := zG_spec h
                refine va_iald hx hb hK hP 19 0 rfl rfl hi61 dX7_flicker_52 ?_
                refine va_iast hx hb hK hP hD hS 22 0 rfl rfl hi61 dX7_flicker_53 (fun H62 locs hP hD hS => ?_)
                obtain ⟨s7_63, es7_63, h⟩ := zL_spec h
                have hP : va_P (dC, dI) vwCl (cX7 a7 h7 y s7_63) H62 := by rw [es7_63]; exact hP
                have hD : va_D A (cX7 a7 h7 y s7_63) := by rw [es7_63]; exact hD
                refine lv_aload_n hx hb dX7_flicker_54 rfl (lv_at hl 0 rfl) ?_
                refine va_get (D := (dC, dI)) (ci := 6) (v := .ref (h7 37)) (C := RX7) (T := TX7) (N := 49) hx hb hts inX7_ hown hK hP 0 rfl rfl 37 (by decide) (hts (.fieldLink RX7 83 "GateWheelModel" "third" "[I") (List.mem_of_getElem? (i := 4) rfl)) (fun _ h9 => h9) rfl dX7_flicker_55 ?_
                refine lv_iload_n hx hb dX7_flicker_58 rfl (lv_at hl 3 rfl) ?_
                refine lv_aload_n hx hb dX7_flicker_59 rfl (lv_at hl 0 rfl) ?_
                refine va_get (D := (dC, dI)) (ci := 6) (v := .ref (h7 33)) (C := RX7) (T := TX7) (N := 49) hx hb hts inX7_ hown hK hP 0 rfl rfl 33 (by decide) (hts (.fieldLink RX7 71 "GateWheelModel" "source" "[I") (List.mem_of_getElem? (i := 1) rfl)) (fun _ h9 => h9) rfl dX7_flicker_60 ?_
                refine lv_iload_n hx hb dX7_flicker_63 rfl (lv_at hl 3 rfl) ?_
                refine va_iald hx hb hK hP 19 0 rfl rfl hi61 dX7_flicker_64 ?_
                refine va_iast hx hb hK hP hD hS 23 0 rfl rfl hi61 dX7_flicker_65 (fun H64 locs hP hD hS => ?_)
                obtain ⟨s7_65, es7_65, h⟩ := zL_spec h
                have hP : va_P (dC, dI) vwCl (cX7 a7 h7 y s7_65) H64 := by rw [es7_65]; exact hP
                have hD : va_D A (cX7 a7 h7 y s7_65) := by rw [es7_65]; exact hD
                obtain ⟨v66, ev66, h⟩ := zL_spec h
                refine lv_iinc (v := v66) (lv' := [(3, .int v66), (0, .ref a7), (1, .int p1), (2, .int p2)]) hx hb dX7_flicker_66 hl (k := 3) rfl (by rw [ev66]; rfl) (by decide) rfl (fun ls hl => ?_)
                refine lv_goto (tgt := 34) hx hb dX7_flicker_69 (by decide) ?_
                have h := zI_l h hx21
                exact (eG15 _ _ _ _ _).mp (ihlp17 v66 s7_65 _ _ _ h hP hD hS (lv_sub hl [1, 2, 3, 0] rfl))
          exact lp17 zF (0 : Int32) S7 _ _ _ hi19 hP hD hS (lv_sub hl [1, 2, 3, 0] rfl)
        · have h := zN c13 h
          refine lv_iconst (v := (-1)) hx hb dX7_flicker_30 (by decide) ?_
          have ho0 : (-1 : Int32) = or_ := congrArg (fun z : Int32 × SS => z.1) (Option.some.inj h)
          have ho1 : S7 = o_7 := congrArg (fun z : Int32 × SS => z.2) (Option.some.inj h)
          exact W.iret (v := (-1)) hx hb hr (fun t ht hW => ⟨⟨(-1), (), rfl, ho0, by rw [ht]; rw [← ho1]; exact hP, va_K.moved hW.alike hK, by rw [← ho1]; exact hD⟩, hS.F ht⟩) hS.2.2 dX7_flicker_31
