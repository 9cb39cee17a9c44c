noncomputable def f_X7_hangs (S7 : SS) (p1 : Int32) : Option (Int32) :=
  zG (vp_in p1 120) (
  if (gA S7 12 p1.toNatClampNeg) = (2 : Int32) then some (gA S7 14 p1.toNatClampNeg)
  else if (gA S7 12 p1.toNatClampNeg) = (1 : Int32) then some ((2 : Int32) * (gA S7 14 p1.toNatClampNeg))
  else some (0 : Int32))

noncomputable def b_X7_lead_12 (v1 : Int32) : (Int32 × SS) → Option ((Int32 × SS) ⊕ (SS)) := fun (v11, s7_12) =>
  zB (f_X7_hangs s7_12 v1) (fun (r13 : Int32) =>
  if r13 ≤ v11 then some (Sum.inr s7_12)
  else zG (vp_in (((12 : Int32) * v1) + v11) 1440) (
  zG (vp_in (gA s7_12 16 (((12 : Int32) * v1) + v11).toNatClampNeg) 60) (
  zL (sA s7_12 32 (upd (gA s7_12 32) (gA s7_12 16 (((12 : Int32) * v1) + v11).toNatClampNeg).toNatClampNeg (vp_nar .boolean (1 : Int32)))) (fun s7_21 =>
  zL (v11 + 1) (fun v22 =>
  some (Sum.inl (v22, s7_21)))))))
noncomputable def f_X7_lead (S7 : SS) (p1 : Int32) : Option (SS) :=
  zL (((60 : Int32) * (gI S7 30)) + p1) (fun v1 =>
  zI (b_X7_lead_12 v1) zF ((0 : Int32), S7))

noncomputable def b_X7_hangsOnItself_40 : (Int32 × SS) → Option ((Int32 × SS) ⊕ (SS)) := fun (v40, s7_41) =>
  if (gI s7_41 26) ≤ v40 then some (Sum.inr s7_41)
  else zG (vp_in v40 60) (
  if (gA s7_41 32 v40.toNatClampNeg) = (0 : Int32) then zL (v40 + 1) (fun v45 =>
  some (Sum.inl (v45, s7_41)))
  else zB (f_X7_lead s7_41 v40) (fun (s7_46 : SS) =>
  zL (v40 + 1) (fun v50 =>
  some (Sum.inl (v50, s7_46)))))
noncomputable def b_X7_hangsOnItself_30 (p1 : Int32) : (Int32 × SS) → Option ((Int32 × SS) ⊕ (Int32 × SS)) := fun (v24, s7_25) =>
  if (gI s7_25 26) ≤ v24 then zG (vp_in p1 60) (
  zG (zb (gA s7_25 32 p1.toNatClampNeg)) (
  some (Sum.inr ((gA s7_25 32 p1.toNatClampNeg), s7_25))))
  else zB (zI (b_X7_hangsOnItself_40) zF ((0 : Int32), s7_25)) (fun (s7_38 : SS) =>
  zL (v24 + 1) (fun v39 =>
  some (Sum.inl (v39, s7_38))))
noncomputable def b_X7_hangsOnItself_2 : (Int32 × SS) → Option ((Int32 × SS) ⊕ (SS)) := fun (v51, s7_52) =>
  if (gI s7_52 26) ≤ v51 then some (Sum.inr s7_52)
  else zG (vp_in v51 60) (
  zL (sA s7_52 32 (upd (gA s7_52 32) v51.toNatClampNeg (vp_nar .boolean (0 : Int32)))) (fun s7_56 =>
  zL (v51 + 1) (fun v57 =>
  some (Sum.inl (v57, s7_56)))))
noncomputable def f_X7_hangsOnItself (S7 : SS) (p1 : Int32) : Option (Int32 × SS) :=
  zB (zI (b_X7_hangsOnItself_2) zF ((0 : Int32), S7)) (fun (s7_10 : SS) =>
  zB (f_X7_lead s7_10 p1) (fun (s7_11 : SS) =>
  zI (b_X7_hangsOnItself_30 p1) zF ((0 : Int32), s7_11)))

noncomputable def b_X7_levels_178 : (Int32 × SS) → Option ((Int32 × SS) ⊕ (SS)) := fun (v30, s7_31) =>
  if (gI s7_31 26) ≤ v30 then some (Sum.inr s7_31)
  else zB (f_X7_isGood s7_31) (fun (r33 : Int32) =>
  if r33 = (0 : Int32) then some (Sum.inr s7_31)
  else zG (vp_in (((60 : Int32) * (gI s7_31 30)) + v30) 120) (
  if (0 : Int32) ≤ (gA s7_31 17 (((60 : Int32) * (gI s7_31 30)) + v30).toNatClampNeg) then zL (v30 + 1) (fun v40 =>
  some (Sum.inl (v40, s7_31)))
  else zB (f_X7_hangsOnItself s7_31 v30) (fun ((r41, s7_42) : Int32 × SS) =>
  if r41 = (0 : Int32) then zL (v30 + 1) (fun v47 =>
  some (Sum.inl (v47, s7_42)))
  else zG (vp_in v30 60) (
  zB (f_X7_fails s7_42 (5 : Int32) (gA s7_42 18 v30.toNatClampNeg)) (fun (s7_49 : SS) =>
  zL (v30 + 1) (fun v53 =>
  some (Sum.inl (v53, s7_49))))))))
noncomputable def b_X7_levels_79 (s7_69 : SS) (v71 : Int32) : (Int32 × Int32) → Option ((Int32 × Int32) ⊕ (Int32)) := fun (v87, v88) =>
  zB (f_X7_hangs s7_69 v71) (fun (r89 : Int32) =>
  if r89 ≤ v88 then some (Sum.inr v87)
  else if v87 < (0 : Int32) then some (Sum.inr v87)
  else zG (vp_in (((12 : Int32) * v71) + v88) 1440) (
  zG (vp_in (((60 : Int32) * (gI s7_69 30)) + (gA s7_69 16 (((12 : Int32) * v71) + v88).toNatClampNeg)) 120) (
  zL (gA s7_69 17 (((60 : Int32) * (gI s7_69 30)) + (gA s7_69 16 (((12 : Int32) * v71) + v88).toNatClampNeg)).toNatClampNeg) (fun v97 =>
  if (0 : Int32) ≤ v97 then if (v97 + (1 : Int32)) ≤ v87 then zL (v88 + 1) (fun v100 =>
  some (Sum.inl (v87, v100)))
  else zL (v97 + (1 : Int32)) (fun v101 =>
  zL (v88 + 1) (fun v102 =>
  some (Sum.inl (v101, v102))))
  else zL (v88 + 1) (fun v103 =>
  some (Sum.inl ((-1 : Int32), v103)))))))
noncomputable def b_X7_levels_43 : (Int32 × SS) → Option ((Int32 × SS) ⊕ (SS)) := fun (v68, s7_69) =>
  if (gI s7_69 26) ≤ v68 then some (Sum.inr s7_69)
  else zL (((60 : Int32) * (gI s7_69 30)) + v68) (fun v71 =>
  zG (vp_in v71 120) (
  if (gA s7_69 17 v71.toNatClampNeg) < (0 : Int32) then zB (zI (b_X7_levels_79 s7_69 v71) zF ((0 : Int32), (0 : Int32))) (fun (v83 : Int32) =>
  zL (sA s7_69 17 (upd (gA s7_69 17) v71.toNatClampNeg v83)) (fun s7_85 =>
  zL (v68 + 1) (fun v86 =>
  some (Sum.inl (v86, s7_85)))))
  else zL (v68 + 1) (fun v104 =>
  some (Sum.inl (v104, s7_69)))))
noncomputable def b_X7_levels_33 : (Int32 × SS) → Option ((Int32 × SS) ⊕ (SS)) := fun (v54, s7_55) =>
  if (gI s7_55 26) < v54 then some (Sum.inr s7_55)
  else zB (zI (b_X7_levels_43) zF ((0 : Int32), s7_55)) (fun (s7_66 : SS) =>
  zL (v54 + 1) (fun v67 =>
  some (Sum.inl (v67, s7_66))))
noncomputable def b_X7_levels_2 : (Int32 × SS) → Option ((Int32 × SS) ⊕ (SS)) := fun (v105, s7_106) =>
  if (gI s7_106 26) ≤ v105 then some (Sum.inr s7_106)
  else zG (vp_in (((60 : Int32) * (gI s7_106 30)) + v105) 120) (
  zL (sA s7_106 17 (upd (gA s7_106 17) (((60 : Int32) * (gI s7_106 30)) + v105).toNatClampNeg (-1 : Int32))) (fun s7_110 =>
  zL (v105 + 1) (fun v111 =>
  some (Sum.inl (v111, s7_110)))))
noncomputable def f_X7_levels (S7 : SS) : Option (SS) :=
  zB (zI (b_X7_levels_2) zF ((0 : Int32), S7)) (fun (s7_10 : SS) =>
  zB (zI (b_X7_levels_33) zF ((0 : Int32), s7_10)) (fun (s7_20 : SS) =>
  zI (b_X7_levels_178) zF ((0 : Int32), s7_20)))

noncomputable def f_X7_kind (S7 : SS) (p1 : Int32) : Option (Int32) :=
  zG (vp_in (((60 : Int32) * (gI S7 30)) + p1) 120) (
  some (gA S7 12 (((60 : Int32) * (gI S7 30)) + p1).toNatClampNeg))

noncomputable def f_X7_in (S7 : SS) (p1 : Int32) (p2 : Int32) : Option (Int32) :=
  zG (vp_in (((12 : Int32) * (((60 : Int32) * (gI S7 30)) + p1)) + p2) 1440) (
  some (gA S7 16 (((12 : Int32) * (((60 : Int32) * (gI S7 30)) + p1)) + p2).toNatClampNeg))

noncomputable def b_X7_gate_108 (S7 : SS) (p1 : Int32) (q : Nat) (v1 : Int32) : (Int32 × Int32 × Int32) → Option ((Int32 × Int32 × Int32) ⊕ (Int32 × Int32)) := fun (v49, v50, v51) =>
  if (gA S7 14 v1.toNatClampNeg) ≤ v51 then some (Sum.inr (v49, v50))
  else zB (f_X7_in S7 p1 v51) (fun (r53 : Int32) =>
  zG (vp_in r53 60) (
  zB (f_X7_taken (gA S7 q r53.toNatClampNeg)) (fun (r58 : Int32) =>
  zB (if r58 = (1 : Int32) then some (1 : Int32)
  else some (0 : Int32)) (fun (v68 : Int32) =>
  zL (v49 + v68) (fun v69 =>
  if r58 = (0 : Int32) then zL (v50 + (1 : Int32)) (fun v73 =>
  zL (v51 + 1) (fun v74 =>
  some (Sum.inl (v69, v73, v74))))
  else zL (v50 + (0 : Int32)) (fun v71 =>
  zL (v51 + 1) (fun v72 =>
  some (Sum.inl (v69, v71, v72)))))))))
noncomputable def f_X7_gate (S7 : SS) (p1 : Int32) (q : Nat) : Option (Int32) :=
  zL (((60 : Int32) * (gI S7 30)) + p1) (fun v1 =>
  zG (vp_in v1 120) (
  zL (gA S7 13 v1.toNatClampNeg) (fun v3 =>
  if v3 = (8 : Int32) then zB (f_X7_in S7 p1 (0 : Int32)) (fun (r76 : Int32) =>
  zG (vp_in r76 60) (
  zB (f_X7_taken (gA S7 q r76.toNatClampNeg)) (fun (r81 : Int32) =>
  zB (f_X7_in S7 p1 (1 : Int32)) (fun (r85 : Int32) =>
  zG (vp_in r85 60) (
  zB (f_X7_taken (gA S7 q r85.toNatClampNeg)) (fun (r90 : Int32) =>
  zB (f_X7_in S7 p1 (2 : Int32)) (fun (r94 : Int32) =>
  zG (vp_in r94 60) (
  zB (f_X7_taken (gA S7 q r94.toNatClampNeg)) (fun (r99 : Int32) =>
  if r81 = (0 : Int32) then some r90
  else if r81 = (1 : Int32) then some r99
  else if r90 = r99 then some r90
  else some (2 : Int32))))))))))
  else zB (zI (b_X7_gate_108 S7 p1 q v1) zF ((0 : Int32), (0 : Int32), (0 : Int32))) (fun ((v14, v15) : Int32 × Int32) =>
  zB (if (v14 + v15) = (gA S7 14 v1.toNatClampNeg) then some (1 : Int32)
  else some (0 : Int32)) (fun (v22 : Int32) =>
  zB (if v3 = (0 : Int32) then if v15 ≤ (0 : Int32) then if v22 = (0 : Int32) then some (2 : Int32)
  else some (1 : Int32)
  else some (0 : Int32)
  else if v3 = (2 : Int32) then if v15 ≤ (0 : Int32) then if v22 = (0 : Int32) then some (2 : Int32)
  else some (1 : Int32)
  else some (0 : Int32)
  else if v3 = (1 : Int32) then if v14 ≤ (0 : Int32) then if v22 = (0 : Int32) then some (2 : Int32)
  else some (0 : Int32)
  else some (1 : Int32)
  else if v3 = (3 : Int32) then if v14 ≤ (0 : Int32) then if v22 = (0 : Int32) then some (2 : Int32)
  else some (0 : Int32)
  else some (1 : Int32)
  else if v22 = (0 : Int32) then some (2 : Int32)
  else some (v14 - v14 / (2 : Int32) * (2 : Int32))) (fun (v29 : Int32) =>
  if v29 = (2 : Int32) then some v29
  else if v3 = (0 : Int32) then some v29
  else if v3 = (1 : Int32) then some v29
  else if v3 = (4 : Int32) then some v29
  else if v3 = (7 : Int32) then some v29
  else some ((1 : Int32) - v29)))))))

noncomputable def b_X7_bus_16 (S7 : SS) (p1 : Int32) (q : Nat) (v1 : Int32) : (Int32 × Int32) → Option ((Int32 × Int32) ⊕ (Int32)) := fun (v11, v12) =>
  zG (vp_in v1 120) (
  if (gA S7 14 v1.toNatClampNeg) ≤ v12 then some (Sum.inr v11)
  else zB (f_X7_in S7 p1 (((2 : Int32) * v12) + (1 : Int32))) (fun (r15 : Int32) =>
  zG (vp_in r15 60) (
  zB (f_X7_taken (gA S7 q r15.toNatClampNeg)) (fun (r20 : Int32) =>
  zB (if r20 = (2 : Int32) then some (2 : Int32)
  else zB (if r20 = (1 : Int32) then some (1 : Int32)
  else some (0 : Int32)) (fun (v45 : Int32) =>
  zG (vp_in (((6 : Int32) * v1) + v12) 720) (
  if v45 = (gA S7 19 (((6 : Int32) * v1) + v12).toNatClampNeg) then zB (f_X7_in S7 p1 ((2 : Int32) * v12)) (fun (r48 : Int32) =>
  zG (vp_in r48 60) (
  zB (f_X7_taken (gA S7 q r48.toNatClampNeg)) (fun (r53 : Int32) =>
  some r53)))
  else some (3 : Int32)))) (fun (v30 : Int32) =>
  if v30 = (3 : Int32) then zL (v12 + 1) (fun v37 =>
  some (Sum.inl (v11, v37)))
  else if v11 = (3 : Int32) then zL (v12 + 1) (fun v33 =>
  some (Sum.inl (v30, v33)))
  else if v11 = v30 then zL (v12 + 1) (fun v36 =>
  some (Sum.inl (v30, v36)))
  else zL (v12 + 1) (fun v35 =>
  some (Sum.inl ((2 : Int32), v35))))))))
noncomputable def f_X7_bus (S7 : SS) (p1 : Int32) (q : Nat) : Option (Int32) :=
  zL (((60 : Int32) * (gI S7 30)) + p1) (fun v1 =>
  zI (b_X7_bus_16 S7 p1 q v1) zF ((3 : Int32), (0 : Int32)))

noncomputable def b_X7_follow_12 (q : Nat) (v10 : Int32) : (Int32 × SS) → Option ((Int32 × SS) ⊕ (SS)) := fun (v24, s7_25) =>
  if (gI s7_25 29) ≤ v24 then some (Sum.inr s7_25)
  else zG (vp_in (((60 : Int32) * (gI s7_25 30)) + v24) 120) (
  if (gA s7_25 17 (((60 : Int32) * (gI s7_25 30)) + v24).toNatClampNeg) = v10 then zB (f_X7_kind s7_25 v24) (fun (r30 : Int32) =>
  if r30 = (2 : Int32) then zB (f_X7_kind s7_25 v24) (fun (r35 : Int32) =>
  zB (if r35 = (2 : Int32) then zB (f_X7_gate s7_25 v24 q) (fun (r55 : Int32) =>
  some r55)
  else zB (f_X7_bus s7_25 v24 q) (fun (r51 : Int32) =>
  some r51)) (fun (v45 : Int32) =>
  zG (vp_in v24 60) (
  zL (sA s7_25 q (upd (gA s7_25 q) v24.toNatClampNeg v45)) (fun s7_48 =>
  zL (v24 + 1) (fun v49 =>
  some (Sum.inl (v49, s7_48)))))))
  else zB (f_X7_kind s7_25 v24) (fun (r59 : Int32) =>
  if r59 = (1 : Int32) then zB (f_X7_kind s7_25 v24) (fun (r65 : Int32) =>
  zB (if r65 = (2 : Int32) then zB (f_X7_gate s7_25 v24 q) (fun (r85 : Int32) =>
  some r85)
  else zB (f_X7_bus s7_25 v24 q) (fun (r81 : Int32) =>
  some r81)) (fun (v75 : Int32) =>
  zG (vp_in v24 60) (
  zL (sA s7_25 q (upd (gA s7_25 q) v24.toNatClampNeg v75)) (fun s7_78 =>
  zL (v24 + 1) (fun v79 =>
  some (Sum.inl (v79, s7_78)))))))
  else zL (v24 + 1) (fun v64 =>
  some (Sum.inl (v64, s7_25)))))
  else zL (v24 + 1) (fun v29 =>
  some (Sum.inl (v29, s7_25))))
noncomputable def b_X7_follow_2 (q : Nat) : (Int32 × SS) → Option ((Int32 × SS) ⊕ (SS)) := fun (v10, s7_11) =>
  if (gI s7_11 29) < v10 then some (Sum.inr s7_11)
  else zB (zI (b_X7_follow_12 q v10) zF ((0 : Int32), s7_11)) (fun (s7_22 : SS) =>
  zL (v10 + 1) (fun v23 =>
  some (Sum.inl (v23, s7_22))))
noncomputable def f_X7_follow (S7 : SS) (q : Nat) : Option (SS) :=
  zI (b_X7_follow_2 q) zF ((0 : Int32), S7)

noncomputable def b_X7_settle_2 : (Int32 × SS) → Option ((Int32 × SS) ⊕ (SS)) := fun (v15, s7_16) =>
  if (gI s7_16 29) ≤ v15 then some (Sum.inr s7_16)
  else zG (vp_in v15 60) (
  zL (sA s7_16 34 (upd (gA s7_16 34) v15.toNatClampNeg (gA s7_16 33 v15.toNatClampNeg))) (fun s7_20 =>
  zL (v15 + 1) (fun v21 =>
  some (Sum.inl (v21, s7_20)))))
noncomputable def f_X7_settle (S7 : SS) : Option (SS) :=
  zB (zI (b_X7_settle_2) zF ((0 : Int32), S7)) (fun (s7_10 : SS) =>
  zB (f_X7_follow s7_10 34) (fun (s7_11 : SS) =>
  some s7_11))

noncomputable def b_X7_read_167 : (Int32 × SS) → Option ((Int32 × SS) ⊕ (SS)) := fun (v90, s7_91) =>
  if (gI s7_91 29) ≤ v90 then some (Sum.inr s7_91)
  else zB (f_X7_kind s7_91 v90) (fun (r93 : Int32) =>
  zB (if r93 = (3 : Int32) then some (1 : Int32)
  else some (0 : Int32)) (fun (v103 : Int32) =>
  zL (sI s7_91 31 ((gI s7_91 31) + v103)) (fun s7_105 =>
  zG (vp_in v90 60) (
  zL (sA s7_105 33 (upd (gA s7_105 33) v90.toNatClampNeg (2 : Int32))) (fun s7_108 =>
  zL (v90 + 1) (fun v109 =>
  some (Sum.inl (v109, s7_108))))))))
noncomputable def b_X7_read_85 : (SS) → Option ((SS) ⊕ (SS)) := fun s7_123 =>
  zB (f_X7_isGood s7_123) (fun (r124 : Int32) =>
  if r124 = (0 : Int32) then some (Sum.inr s7_123)
  else if (gI s7_123 8) = (0 : Int32) then some (Sum.inr s7_123)
  else zB (f_X7_readLine s7_123) (fun (s7_130 : SS) =>
  some (Sum.inl s7_130)))
noncomputable def b_X7_read_20 : (Int32 × SS) → Option ((Int32 × SS) ⊕ (SS)) := fun (v134, s7_135) =>
  if (gI s7_135 3) ≤ v134 then some (Sum.inr s7_135)
  else zG (vp_in v134 2020) (
  zG (vp_in v134 2000) (
  zL (sA s7_135 1 (upd (gA s7_135 1) v134.toNatClampNeg (vp_nar .byte (gA s7_135 0 v134.toNatClampNeg)))) (fun s7_140 =>
  zL (v134 + 1) (fun v141 =>
  some (Sum.inl (v141, s7_140))))))
noncomputable def f_X7_read (S7 : SS) : Option (Int32 × SS) :=
  zL (sI S7 4 (0 : Int32)) (fun s7_2 =>
  zL (sI s7_2 5 (-1 : Int32)) (fun s7_4 =>
  zL (sI s7_4 3 (gI s7_4 2)) (fun s7_6 =>
  zB (zI (b_X7_read_20) zF ((0 : Int32), s7_6)) (fun (s7_16 : SS) =>
  zL (sI s7_16 2 (0 : Int32)) (fun s7_18 =>
  zL (sI s7_18 7 (0 : Int32)) (fun s7_20 =>
  zL (sI s7_20 30 ((1 : Int32) - (gI s7_20 30))) (fun s7_22 =>
  zL (sI s7_22 26 (0 : Int32)) (fun s7_24 =>
  zL (sI s7_24 27 (0 : Int32)) (fun s7_26 =>
  zL (sI s7_26 28 (0 : Int32)) (fun s7_28 =>
  zB (f_X7_next s7_28) (fun (s7_29 : SS) =>
  zB (zI (b_X7_read_85) zF s7_29) (fun (s7_42 : SS) =>
  zB (f_X7_isGood s7_42) (fun (r43 : Int32) =>
  zB (if r43 = (0 : Int32) then some s7_42
  else zB (f_X7_resolve s7_42) (fun (s7_119 : SS) =>
  some s7_119)) (fun (s7_53 : SS) =>
  zB (f_X7_isGood s7_53) (fun (r54 : Int32) =>
  zB (if r54 = (0 : Int32) then some s7_53
  else zB (f_X7_levels s7_53) (fun (s7_114 : SS) =>
  some s7_114)) (fun (s7_64 : SS) =>
  zB (f_X7_isGood s7_64) (fun (r65 : Int32) =>
  if r65 = (0 : Int32) then zL (sI s7_64 30 ((1 : Int32) - (gI s7_64 30))) (fun s7_112 =>
  some ((-1 : Int32), s7_112))
  else zL (sI s7_64 29 (gI s7_64 26)) (fun s7_71 =>
  zL (sI s7_71 31 (0 : Int32)) (fun s7_73 =>
  zL (sI s7_73 46 (0 : Int32)) (fun s7_75 =>
  zB (zI (b_X7_read_167) zF ((0 : Int32), s7_75)) (fun (s7_85 : SS) =>
  zB (f_X7_settle s7_85) (fun (s7_86 : SS) =>
  some ((gI s7_86 29), s7_86)))))))))))))))))))))))

set_option maxHeartbeats 4000000 in
set_option maxRecDepth 100000 in
theorem m_X7_hangs (l : Launch) (dC : Nat → ClassId) (dI : Nat → Nat → Nat) (y : Nat → ClassId) (a7 : Nat) (h7 : Nat → Nat) (S7 : SS) (p1 : Int32) (sz : Nat) (or_ : Int32) (h : f_X7_hangs S7 p1 = some or_) : Met l yX7_hangs wsX7_hangs ({ frames := 0, cells := 0, slots := 0, locals := 0 }) (va_Pc [.ref a7, .int p1] (fun U => U.heap.size = sz ∧ va_P (dC, dI) vwCl (cX7 a7 h7 y S7) U.heap ∧ va_K (dC, dI) vwCl [(y 0, .int), (y 1, .long), (y 2, .byte), (y 3, .boolean)] U ∧ va_D (fun _ => True) (cX7 a7 h7 y S7))) (va_Qi (fun (r : Int32) (_ : Unit) => r = or_) (fun (_ : Unit) (t : State) => va_P (dC, dI) vwCl (cX7 a7 h7 y S7) t.heap ∧ va_K (dC, dI) vwCl [(y 0, .int), (y 1, .long), (y 2, .byte), (y 3, .boolean)] t ∧ va_D (va_A (cX7 a7 h7 y S7) sz) (cX7 a7 h7 y S7)) (va_A (cX7 a7 h7 y S7) sz)) 0 0 (va_A (cX7 a7 h7 y S7) sz) := by
  refine Met.ofW (cc := cX7_hangs) (maxL := 2) (ret := (some .int)) (by decide +kernel) rfl ?_
  intro p e s m args below meth c s₁ B hml hv
  obtain ⟨rfl, hsz, hP, hK, hD0⟩ := hv
  have hx := B.exec
  have hb := B.bytes
  have hr := B.returns
  have hts := atoms_spec (ws := wsX7_hangs) B.pre
  have hown : s.vm.findClass RX7 = some m.cls := findClass_of_methodNamed B.named
  have hlocks := B.notSynchronized
  have inX7_ : ∀ w ∈ wsX70, w ∈ wsX7_hangs := fun _ h => List.mem_cons_of_mem _ (List.mem_append_right _ h)
  subst hsz
  have hD := hD0.self (sz := s.heap.size)
  generalize hAe : va_A (cX7 a7 h7 y S7) s.heap.size = A at hD ⊢
  have hA : ∀ q : Nat, s.heap.size ≤ q → A q := fun q h => by rw [← hAe]; exact Or.inr h
  have hS : va_S A s.heap s.heap [] := va_S.rf
  have hP : va_P (dC, dI) vwCl (cX7 a7 h7 y S7) s.heap := hP
  have hl := lv_entry ([.ref a7, .int p1]) (n := 2) (Nat.le_of_ble_eq_true rfl)
  rw [lg_entry_eq]
  generalize (lg_sl ([.ref a7, .int p1]) ++ List.replicate (2 - (lg_sl ([.ref a7, .int p1])).length) Slot.unset).toArray = ls at hl ⊢
  have hl : lv_has ls 2 [(0, .ref a7), (1, .int p1)] := hl
  refine lv_aload_n hx hb dX7_hangs_0 rfl (lv_at hl 0 rfl) ?_
  refine va_get (D := (dC, dI)) (ci := 6) (v := .ref (h7 12)) (C := RX7) (T := TX7) (N := 49) hx hb hts inX7_ hown hK hP 0 rfl rfl 12 (by decide) (hts (.fieldLink RX7 24 "GateWheelModel" "nKind" "[I") (List.mem_of_getElem? (i := 1) rfl)) (fun _ h9 => h9) rfl dX7_hangs_1 ?_
  refine lv_iload_n hx hb dX7_hangs_4 rfl (lv_at hl 1 rfl) ?_
  obtain ⟨hi1, h⟩ := zG_spec h
  refine va_iald hx hb hK hP 4 0 rfl rfl hi1 dX7_hangs_5 ?_
  refine lv_iconst (v := 2) hx hb dX7_hangs_6 (by decide) ?_
  refine lv_icmp_ne (tgt := 19) hx hb dX7_hangs_7 (by decide) (fun c2 => ?_) (fun c2 => ?_)
  · have h := zN c2 h
    refine lv_aload_n hx hb dX7_hangs_19 rfl (lv_at hl 0 rfl) ?_
    refine va_get (D := (dC, dI)) (ci := 6) (v := .ref (h7 12)) (C := RX7) (T := TX7) (N := 49) hx hb hts inX7_ hown hK hP 0 rfl rfl 12 (by decide) (hts (.fieldLink RX7 24 "GateWheelModel" "nKind" "[I") (List.mem_of_getElem? (i := 1) rfl)) (fun _ h9 => h9) rfl dX7_hangs_20 ?_
    refine lv_iload_n hx hb dX7_hangs_23 rfl (lv_at hl 1 rfl) ?_
    refine va_iald hx hb hK hP 4 0 rfl rfl hi1 dX7_hangs_24 ?_
    refine lv_iconst (v := 1) hx hb dX7_hangs_25 (by decide) ?_
    refine lv_icmp_ne (tgt := 40) hx hb dX7_hangs_26 (by decide) (fun c3 => ?_) (fun c3 => ?_)
    · have h := zN c3 h
      refine lv_iconst (v := 0) hx hb dX7_hangs_40 (by decide) ?_
      have ho0 : (0 : Int32) = or_ := congrArg (fun z : Int32 => z) (Option.some.inj h)
      exact W.iret (v := 0) hx hb hr (fun t ht hW => ⟨⟨0, (), rfl, ho0, by rw [ht]; exact hP, va_K.moved hW.alike hK, hD⟩, hS.F ht⟩) hS.2.2 dX7_hangs_41
    · have h := zY c3 h
      refine lv_iconst (v := 2) hx hb dX7_hangs_29 (by decide) ?_
      refine lv_aload_n hx hb dX7_hangs_30 rfl (lv_at hl 0 rfl) ?_
      refine va_get (D := (dC, dI)) (ci := 6) (v := .ref (h7 14)) (C := RX7) (T := TX7) (N := 49) hx hb hts inX7_ hown hK hP 0 rfl rfl 14 (by decide) (hts (.fieldLink RX7 31 "GateWheelModel" "nMany" "[I") (List.mem_of_getElem? (i := 2) rfl)) (fun _ h9 => h9) rfl dX7_hangs_31 ?_
      refine lv_iload_n hx hb dX7_hangs_34 rfl (lv_at hl 1 rfl) ?_
      refine va_iald hx hb hK hP 6 0 rfl rfl hi1 dX7_hangs_35 ?_
      refine lv_imul hx hb dX7_hangs_36 ?_
      refine lv_goto (tgt := 41) hx hb dX7_hangs_37 (by decide) ?_
      have ho0 : ((2 : Int32) * (gA S7 14 p1.toNatClampNeg)) = or_ := congrArg (fun z : Int32 => z) (Option.some.inj h)
      exact W.iret (v := ((2 : Int32) * (gA S7 14 p1.toNatClampNeg))) hx hb hr (fun t ht hW => ⟨⟨((2 : Int32) * (gA S7 14 p1.toNatClampNeg)), (), rfl, ho0, by rw [ht]; exact hP, va_K.moved hW.alike hK, hD⟩, hS.F ht⟩) hS.2.2 dX7_hangs_41
  · have h := zY c2 h
    refine lv_aload_n hx hb dX7_hangs_10 rfl (lv_at hl 0 rfl) ?_
    refine va_get (D := (dC, dI)) (ci := 6) (v := .ref (h7 14)) (C := RX7) (T := TX7) (N := 49) hx hb hts inX7_ hown hK hP 0 rfl rfl 14 (by decide) (hts (.fieldLink RX7 31 "GateWheelModel" "nMany" "[I") (List.mem_of_getElem? (i := 2) rfl)) (fun _ h9 => h9) rfl dX7_hangs_11 ?_
    refine lv_iload_n hx hb dX7_hangs_14 rfl (lv_at hl 1 rfl) ?_
    refine va_iald hx hb hK hP 6 0 rfl rfl hi1 dX7_hangs_15 ?_
    refine lv_goto (tgt := 41) hx hb dX7_hangs_16 (by decide) ?_
    have ho0 : (gA S7 14 p1.toNatClampNeg) = or_ := congrArg (fun z : Int32 => z) (Option.some.inj h)
    exact W.iret (v := (gA S7 14 p1.toNatClampNeg)) hx hb hr (fun t ht hW => ⟨⟨(gA S7 14 p1.toNatClampNeg), (), rfl, ho0, by rw [ht]; exact hP, va_K.moved hW.alike hK, hD⟩, hS.F ht⟩) hS.2.2 dX7_hangs_41

set_option maxHeartbeats 4000000 in
set_option maxRecDepth 100000 in
theorem m_X7_lead (l : Launch) (dC : Nat → ClassId) (dI : Nat → Nat → Nat) (y : Nat → ClassId) (a7 : Nat) (h7 : Nat → Nat) (S7 : SS) (p1 : Int32) (sz : Nat) (o_7 : SS) (h : f_X7_lead S7 p1 = some o_7) : Met l yX7_lead wsX7_lead ({ frames := 1, cells := 0, slots := 0, locals := 21 }) (va_Pc [.ref a7, .int p1] (fun U => U.heap.size = sz ∧ va_P (dC, dI) vwCl (cX7 a7 h7 y S7) U.heap ∧ va_K (dC, dI) vwCl [(y 0, .int), (y 1, .long), (y 2, .byte), (y 3, .boolean)] U ∧ va_D (fun _ => True) (cX7 a7 h7 y S7))) (va_Qv (fun (_ : Unit) => True) (fun (_ : Unit) (t : State) => va_P (dC, dI) vwCl (cX7 a7 h7 y o_7) t.heap ∧ va_K (dC, dI) vwCl [(y 0, .int), (y 1, .long), (y 2, .byte), (y 3, .boolean)] t ∧ va_D (va_A (cX7 a7 h7 y S7) sz) (cX7 a7 h7 y o_7)) (va_A (cX7 a7 h7 y S7) sz)) 0 0 (va_A (cX7 a7 h7 y S7) sz) := by
  refine Met.ofW (cc := cX7_lead) (maxL := 4) (ret := none) (by decide +kernel) rfl ?_
  intro p e s m args below meth c s₁ B hml hv
  obtain ⟨rfl, hsz, hP, hK, hD0⟩ := hv
  have hx := B.exec
  have hb := B.bytes
  have hr := B.returns
  have hts := atoms_spec (ws := wsX7_lead) B.pre
  have hown : s.vm.findClass RX7 = some m.cls := findClass_of_methodNamed B.named
  have hlocks := B.notSynchronized
  have inX7_ : ∀ w ∈ wsX70, w ∈ wsX7_lead := fun _ h => List.mem_cons_of_mem _ (List.mem_append_right _ h)
  subst hsz
  have hD := hD0.self (sz := s.heap.size)
  generalize hAe : va_A (cX7 a7 h7 y S7) s.heap.size = A at hD ⊢
  have hA : ∀ q : Nat, s.heap.size ≤ q → A q := fun q h => by rw [← hAe]; exact Or.inr h
  have hS : va_S A s.heap s.heap [] := va_S.rf
  have hP : va_P (dC, dI) vwCl (cX7 a7 h7 y S7) s.heap := hP
  have hl := lv_entry ([.ref a7, .int p1]) (n := 4) (Nat.le_of_ble_eq_true rfl)
  rw [lg_entry_eq]
  generalize (lg_sl ([.ref a7, .int p1]) ++ List.replicate (4 - (lg_sl ([.ref a7, .int p1])).length) Slot.unset).toArray = ls at hl ⊢
  have hl : lv_has ls 4 [(0, .ref a7), (1, .int p1)] := hl
  refine lv_bipush (v := 60) hx hb dX7_lead_0 (by decide) ?_
  refine lv_aload_n hx hb dX7_lead_2 rfl (lv_at hl 0 rfl) ?_
  refine va_get (D := (dC, dI)) (ci := 6) (v := .int (gI S7 30)) (C := RX7) (T := TX7) (N := 49) hx hb hts inX7_ hown hK hP 0 rfl rfl 30 (by decide) (hts (.fieldLink RX7 188 "GateWheelModel" "bank" "I") (List.mem_of_getElem? (i := 1) rfl)) (fun _ h9 => h9) rfl dX7_lead_3 ?_
  refine lv_imul hx hb dX7_lead_6 ?_
  refine lv_iload_n hx hb dX7_lead_7 rfl (lv_at hl 1 rfl) ?_
  refine lv_iadd hx hb dX7_lead_8 ?_
  obtain ⟨v1, ev1, h⟩ := zL_spec h
  refine zTopi ev1 ?_
  refine lv_istore_n (lv' := [(2, .int v1), (0, .ref a7), (1, .int p1)]) hx hb dX7_lead_9 rfl hl (by decide) rfl (fun ls hl => ?_)
  refine lv_iconst (v := 0) hx hb dX7_lead_10 (by decide) ?_
  refine lv_istore_n (lv' := [(3, .int 0), (2, .int v1), (0, .ref a7), (1, .int p1)]) hx hb dX7_lead_11 rfl hl (by decide) rfl (fun ls hl => ?_)
  refine W_abs (fun GW2 eG3 => ?_)
  have hi7 := h
  have lp5 : ∀ (n : Nat) (v11 : Int32) (s7_12 : SS) (HGW2 : Heap) (locs : List Loc) (ls : Array Slot), zI (b_X7_lead_12 v1) n (v11, s7_12) = some o_7 → va_P (dC, dI) vwCl (cX7 a7 h7 y s7_12) HGW2 → va_D A (cX7 a7 h7 y s7_12) → va_S A s.heap HGW2 locs → lv_has ls 4 [(2, .int v1), (0, .ref a7), (3, .int v11)] → GW2 HGW2 locs 0 0 (F0 m 12 ls []) := by
    intro n
    induction n with
    | zero =>
      intro v11 s7_12 HGW2 locs ls hi7 hP hD hS hl
      exact (zI_0 hi7).elim
    | succ n ihlp5 =>
      intro v11 s7_12 HGW2 locs ls hi7 hP hD hS hl
      refine (eG3 _ _ _ _ _).mpr ?_
      obtain ⟨xx10, h, hx9⟩ := zI_spec hi7
      refine lv_iload_n hx hb dX7_lead_12 rfl (lv_at hl 2 rfl) ?_
      refine lv_aload_n hx hb dX7_lead_13 rfl (lv_at hl 1 rfl) ?_
      refine lv_iload_n hx hb dX7_lead_14 rfl (lv_at hl 0 rfl) ?_
      obtain ⟨r13, hc14, h⟩ := zB_spec h
      have hFc := zFree hD hS hA
      refine va_calli (va_runV (As := [.int v1]) (rest := [.int v11]) ⟨hx, hb, hml, hown, hts⟩ (m_X7_hangs l dC dI y a7 h7 s7_12 v1 HGW2.size r13 hc14) (cwV 1 hts gX7_lead_X7_hangs rfl rfl rfl (by decide +kernel) ⟨Nat.le_of_ble_eq_true rfl, Nat.le_of_ble_eq_true rfl⟩) ⟨fun a U g mk q => by obtain ⟨q0, q1, qP, qK, qD⟩ := q; exact ⟨q0, q1, qP, va_K.moved (u := U) (U := U.calling g mk a) (Vm.Alike.refl U.vm) qK, qD⟩, va_recv hK hP (ci := 6) (q0 := 0) rfl rfl, fun U hU hW => ⟨rfl, by rw [hU], by rw [hU]; exact hP, va_K.moved hW.alike hK, hD.weaken (fun _ _ _ _ => trivial)⟩⟩ rfl rfl hl.1 rfl (lv_room (Nat.le_of_ble_eq_true rfl)) dX7_lead_15 ⟨Nat.le_of_ble_eq_true rfl, Nat.le_of_ble_eq_true rfl⟩) hS (fun q _ h => hFc q h) hFc (fun rr16 u t H15 locs ht hvm hw hB hz1 hk1 hS => ?_)
      obtain ⟨hP1, hK1, hD1⟩ := hB
      rw [ht] at hP1
      refine zTopi hw.symm ?_
      have hP := hP1
      have hD := hD1.weaken (fun _ q _ h => hFc q.1 h)
      have hP : va_P (dC, dI) vwCl (cX7 a7 h7 y s7_12) H15 := hP
      have hD : va_D A (cX7 a7 h7 y s7_12) := hD
      refine lv_icmp_ge (tgt := 44) hx hb dX7_lead_18 (by decide) (fun c17 => ?_) (fun c17 => ?_)
      · have h := zY c17 h
        have h := congrArg some (zI_r h hx9)
        have ho0 : s7_12 = o_7 := congrArg (fun z : SS => z) (Option.some.inj h)
        exact W.vret hx hb hr (fun t ht hW => ⟨⟨(), rfl, trivial, by rw [ht]; rw [← ho0]; exact hP, va_K.moved hW.alike hK, by rw [← ho0]; exact hD⟩, hS.F ht⟩) hS.2.2 dX7_lead_44
      · have h := zN c17 h
        refine lv_aload_n hx hb dX7_lead_21 rfl (lv_at hl 1 rfl) ?_
        refine va_get (D := (dC, dI)) (ci := 6) (v := .ref (h7 32)) (C := RX7) (T := TX7) (N := 49) hx hb hts inX7_ hown hK hP 0 rfl rfl 32 (by decide) (hts (.fieldLink RX7 68 "GateWheelModel" "isLed" "[Z") (List.mem_of_getElem? (i := 2) rfl)) (fun _ h9 => h9) rfl dX7_lead_22 ?_
        refine lv_aload_n hx hb dX7_lead_25 rfl (lv_at hl 1 rfl) ?_
        refine va_get (D := (dC, dI)) (ci := 6) (v := .ref (h7 16)) (C := RX7) (T := TX7) (N := 49) hx hb hts inX7_ hown hK hP 0 rfl rfl 16 (by decide) (hts (.fieldLink RX7 37 "GateWheelModel" "nIn" "[I") (List.mem_of_getElem? (i := 3) rfl)) (fun _ h9 => h9) rfl dX7_lead_26 ?_
        refine lv_bipush (v := 12) hx hb dX7_lead_29 (by decide) ?_
        refine lv_iload_n hx hb dX7_lead_31 rfl (lv_at hl 0 rfl) ?_
        refine lv_imul hx hb dX7_lead_32 ?_
        refine lv_iload_n hx hb dX7_lead_33 rfl (lv_at hl 2 rfl) ?_
        refine lv_iadd hx hb dX7_lead_34 ?_
        obtain ⟨hi18, h⟩ := zG_spec h
        refine va_iald hx hb hK hP 8 0 rfl rfl hi18 dX7_lead_35 ?_
        refine lv_iconst (v := 1) hx hb dX7_lead_36 (by decide) ?_
        obtain ⟨hi19, h⟩ := zG_spec h
        refine va_zast hx hb hK hP hD hS 18 3 rfl rfl hi19 dX7_lead_37 (fun H20 locs hP hD hS => ?_)
        obtain ⟨s7_21, es7_21, h⟩ := zL_spec h
        have hP : va_P (dC, dI) vwCl (cX7 a7 h7 y s7_21) H20 := by rw [es7_21]; exact hP
        have hD : va_D A (cX7 a7 h7 y s7_21) := by rw [es7_21]; exact hD
        obtain ⟨v22, ev22, h⟩ := zL_spec h
        refine lv_iinc (v := v22) (lv' := [(3, .int v22), (2, .int v1), (0, .ref a7)]) hx hb dX7_lead_38 hl (k := 2) rfl (by rw [ev22]; rfl) (by decide) rfl (fun ls hl => ?_)
        refine lv_goto (tgt := 12) hx hb dX7_lead_41 (by decide) ?_
        have h := zI_l h hx9
        exact (eG3 _ _ _ _ _).mp (ihlp5 v22 s7_21 _ _ _ h hP hD hS (lv_sub hl [1, 2, 0] rfl))
  exact lp5 zF (0 : Int32) S7 _ _ _ hi7 hP hD hS (lv_sub hl [1, 2, 0] rfl)

set_option maxHeartbeats 4000000 in
set_option maxRecDepth 100000 in
theorem m_X7_hangsOnItself (l : Launch) (dC : Nat → ClassId) (dI : Nat → Nat → Nat) (y : Nat → ClassId) (a7 : Nat) (h7 : Nat → Nat) (S7 : SS) (p1 : Int32) (sz : Nat) (or_ : Int32) (o_7 : SS) (h : f_X7_hangsOnItself S7 p1 = some (or_, o_7)) : Met l yX7_hangsOnItself wsX7_hangsOnItself ({ frames := 2, cells := 0, slots := 0, locals := 44 }) (va_Pc [.ref a7, .int p1] (fun U => U.heap.size = sz ∧ va_P (dC, dI) vwCl (cX7 a7 h7 y S7) U.heap ∧ va_K (dC, dI) vwCl [(y 0, .int), (y 1, .long), (y 2, .byte), (y 3, .boolean)] U ∧ va_D (fun _ => True) (cX7 a7 h7 y S7))) (va_Qi (fun (r : Int32) (_ : Unit) => r = or_) (fun (_ : Unit) (t : State) => va_P (dC, dI) vwCl (cX7 a7 h7 y o_7) t.heap ∧ va_K (dC, dI) vwCl [(y 0, .int), (y 1, .long), (y 2, .byte), (y 3, .boolean)] t ∧ va_D (va_A (cX7 a7 h7 y S7) sz) (cX7 a7 h7 y o_7)) (va_A (cX7 a7 h7 y S7) sz)) 0 0 (va_A (cX7 a7 h7 y S7) sz) := by
  refine Met.ofW (cc := cX7_hangsOnItself) (maxL := 4) (ret := (some .boolean)) (by decide +kernel) rfl ?_
  intro p e s m args below meth c s₁ B hml hv
  obtain ⟨rfl, hsz, hP, hK, hD0⟩ := hv
  have hx := B.exec
  have hb := B.bytes
  have hr := B.returns
  have hts := atoms_spec (ws := wsX7_hangsOnItself) B.pre
  have hown : s.vm.findClass RX7 = some m.cls := findClass_of_methodNamed B.named
  have hlocks := B.notSynchronized
  have inX7_ : ∀ w ∈ wsX70, w ∈ wsX7_hangsOnItself := fun _ h => List.mem_cons_of_mem _ (List.mem_append_right _ h)
  subst hsz
  have hD := hD0.self (sz := s.heap.size)
  generalize hAe : va_A (cX7 a7 h7 y S7) s.heap.size = A at hD ⊢
  have hA : ∀ q : Nat, s.heap.size ≤ q → A q := fun q h => by rw [← hAe]; exact Or.inr h
  have hS : va_S A s.heap s.heap [] := va_S.rf
  have hP : va_P (dC, dI) vwCl (cX7 a7 h7 y S7) s.heap := hP
  have hl := lv_entry ([.ref a7, .int p1]) (n := 4) (Nat.le_of_ble_eq_true rfl)
  rw [lg_entry_eq]
  generalize (lg_sl ([.ref a7, .int p1]) ++ List.replicate (4 - (lg_sl ([.ref a7, .int p1])).length) Slot.unset).toArray = ls at hl ⊢
  have hl : lv_has ls 4 [(0, .ref a7), (1, .int p1)] := hl
  refine lv_iconst (v := 0) hx hb dX7_hangsOnItself_0 (by decide) ?_
  refine lv_istore_n (lv' := [(2, .int 0), (0, .ref a7), (1, .int p1)]) hx hb dX7_hangsOnItself_1 rfl hl (by decide) rfl (fun ls hl => ?_)
  refine W_abs (fun GW1 eG2 => ?_)
  obtain ⟨ov5, hi6, h⟩ := zB_spec h
  have je3 : ∀ (s7_10 : SS) (HGW1e : Heap) (locs : List Loc) (ls : Array Slot), s7_10 = ov5 → va_P (dC, dI) vwCl (cX7 a7 h7 y s7_10) HGW1e → va_D A (cX7 a7 h7 y s7_10) → va_S A s.heap HGW1e locs → lv_has ls 4 [(0, .ref a7), (1, .int p1)] → GW1 HGW1e locs 0 0 (F0 m 23 ls []) := by
    intro s7_10 HGW1e locs ls hv hP hD hS hl
    subst hv
    refine (eG2 _ _ _ _ _).mpr ?_
    refine lv_aload_n hx hb dX7_hangsOnItself_23 rfl (lv_at hl 0 rfl) ?_
    refine lv_iload_n hx hb dX7_hangsOnItself_24 rfl (lv_at hl 1 rfl) ?_
    obtain ⟨s7_11, hc12, h⟩ := zB_spec h
    have hFc := zFree hD hS hA
    refine va_callv (va_runV (As := [.int p1]) (rest := []) ⟨hx, hb, hml, hown, hts⟩ (m_X7_lead l dC dI y a7 h7 s7_10 p1 HGW1e.size s7_11 hc12) (cwV 1 hts gX7_hangsOnItself_X7_lead rfl rfl rfl (by decide +kernel) ⟨Nat.le_of_ble_eq_true rfl, Nat.le_of_ble_eq_true rfl⟩) ⟨fun a U g mk q => by obtain ⟨q0, q1, qP, qK, qD⟩ := q; exact ⟨q0, q1, qP, va_K.moved (u := U) (U := U.calling g mk a) (Vm.Alike.refl U.vm) qK, qD⟩, va_recv hK hP (ci := 6) (q0 := 0) rfl rfl, fun U hU hW => ⟨rfl, by rw [hU], by rw [hU]; exact hP, va_K.moved hW.alike hK, hD.weaken (fun _ _ _ _ => trivial)⟩⟩ rfl rfl hl.1 rfl (lv_room (Nat.le_of_ble_eq_true rfl)) dX7_hangsOnItself_25 ⟨Nat.le_of_ble_eq_true rfl, Nat.le_of_ble_eq_true rfl⟩) hS (fun q _ h => hFc q h) hFc (fun u t H13 locs ht hvm hw hB hz1 hk1 hS => ?_)
    obtain ⟨hP1, hK1, hD1⟩ := hB
    rw [ht] at hP1
    have hP := hP1
    have hD := hD1.weaken (fun _ q _ h => hFc q.1 h)
    have hP : va_P (dC, dI) vwCl (cX7 a7 h7 y s7_11) H13 := hP
    have hD : va_D A (cX7 a7 h7 y s7_11) := hD
    refine lv_iconst (v := 0) hx hb dX7_hangsOnItself_28 (by decide) ?_
    refine lv_istore_n (lv' := [(2, .int 0), (0, .ref a7), (1, .int p1)]) hx hb dX7_hangsOnItself_29 rfl hl (by decide) rfl (fun ls hl => ?_)
    refine W_abs (fun GW15 eG16 => ?_)
    have hi20 := h
    have lp18 : ∀ (n : Nat) (v24 : Int32) (s7_25 : SS) (HGW15 : Heap) (locs : List Loc) (ls : Array Slot), zI (b_X7_hangsOnItself_30 p1) n (v24, s7_25) = some (or_, o_7) → va_P (dC, dI) vwCl (cX7 a7 h7 y s7_25) HGW15 → va_D A (cX7 a7 h7 y s7_25) → va_S A s.heap HGW15 locs → lv_has ls 4 [(0, .ref a7), (1, .int p1), (2, .int v24)] → GW15 HGW15 locs 0 0 (F0 m 30 ls []) := by
      intro n
      induction n with
      | zero =>
        intro v24 s7_25 HGW15 locs ls hi20 hP hD hS hl
        exact (zI_0 hi20).elim
      | succ n ihlp18 =>
        intro v24 s7_25 HGW15 locs ls hi20 hP hD hS hl
        refine (eG16 _ _ _ _ _).mpr ?_
        obtain ⟨xx23, h, hx22⟩ := zI_spec hi20
        refine lv_iload_n hx hb dX7_hangsOnItself_30 rfl (lv_at hl 2 rfl) ?_
        refine lv_aload_n hx hb dX7_hangsOnItself_31 rfl (lv_at hl 0 rfl) ?_
        refine va_get (D := (dC, dI)) (ci := 6) (v := .int (gI s7_25 26)) (C := RX7) (T := TX7) (N := 49) hx hb hts inX7_ hown hK hP 0 rfl rfl 26 (by decide) (hts (.fieldLink RX7 185 "GateWheelModel" "read" "I") (List.mem_of_getElem? (i := 1) rfl)) (fun _ h9 => h9) rfl dX7_hangsOnItself_32 ?_
        refine lv_icmp_ge (tgt := 74) hx hb dX7_hangsOnItself_35 (by decide) (fun c26 => ?_) (fun c26 => ?_)
        · have h := zY c26 h
          refine lv_aload_n hx hb dX7_hangsOnItself_74 rfl (lv_at hl 0 rfl) ?_
          refine va_get (D := (dC, dI)) (ci := 6) (v := .ref (h7 32)) (C := RX7) (T := TX7) (N := 49) hx hb hts inX7_ hown hK hP 0 rfl rfl 32 (by decide) (hts (.fieldLink RX7 68 "GateWheelModel" "isLed" "[Z") (List.mem_of_getElem? (i := 2) rfl)) (fun _ h9 => h9) rfl dX7_hangsOnItself_75 ?_
          refine lv_iload_n hx hb dX7_hangsOnItself_78 rfl (lv_at hl 1 rfl) ?_
          obtain ⟨hi27, h⟩ := zG_spec h
          refine va_zald hx hb hK hP 18 3 rfl rfl hi27 dX7_hangsOnItself_79 ?_
          obtain ⟨hz28, h⟩ := zG_spec h
          have h := congrArg some (zI_r h hx22)
          have ho0 : (gA s7_25 32 p1.toNatClampNeg) = or_ := congrArg (fun z : Int32 × SS => z.1) (Option.some.inj h)
          have ho1 : s7_25 = o_7 := congrArg (fun z : Int32 × SS => z.2) (Option.some.inj h)
          exact W.zret (v := (gA s7_25 32 p1.toNatClampNeg)) hx hb hr (zb_nar hz28) (fun t ht hW => ⟨⟨(gA s7_25 32 p1.toNatClampNeg), (), rfl, ho0, by rw [ht]; rw [← ho1]; exact hP, va_K.moved hW.alike hK, by rw [← ho1]; exact hD⟩, hS.F ht⟩) hS.2.2 dX7_hangsOnItself_80
        · have h := zN c26 h
          refine lv_iconst (v := 0) hx hb dX7_hangsOnItself_38 (by decide) ?_
          refine lv_istore_n (lv' := [(3, .int 0), (0, .ref a7), (1, .int p1), (2, .int v24)]) hx hb dX7_hangsOnItself_39 rfl hl (by decide) rfl (fun ls hl => ?_)
          refine W_abs (fun GW29 eG30 => ?_)
          obtain ⟨ov33, hi34, h⟩ := zB_spec h
          have je31 : ∀ (s7_38 : SS) (HGW29e : Heap) (locs : List Loc) (ls : Array Slot), s7_38 = ov33 → va_P (dC, dI) vwCl (cX7 a7 h7 y s7_38) HGW29e → va_D A (cX7 a7 h7 y s7_38) → va_S A s.heap HGW29e locs → lv_has ls 4 [(0, .ref a7), (1, .int p1), (2, .int v24)] → GW29 HGW29e locs 0 0 (F0 m 68 ls []) := by
            intro s7_38 HGW29e locs ls hv hP hD hS hl
            subst hv
            refine (eG30 _ _ _ _ _).mpr ?_
            obtain ⟨v39, ev39, h⟩ := zL_spec h
            refine lv_iinc (v := v39) (lv' := [(2, .int v39), (0, .ref a7), (1, .int p1)]) hx hb dX7_hangsOnItself_68 hl (k := 2) rfl (by rw [ev39]; rfl) (by decide) rfl (fun ls hl => ?_)
            refine lv_goto (tgt := 30) hx hb dX7_hangsOnItself_71 (by decide) ?_
            have h := zI_l h hx22
            exact (eG16 _ _ _ _ _).mp (ihlp18 v39 s7_38 _ _ _ h hP hD hS (lv_sub hl [1, 2, 0] rfl))
          have lp32 : ∀ (n : Nat) (v40 : Int32) (s7_41 : SS) (HGW29 : Heap) (locs : List Loc) (ls : Array Slot), zI (b_X7_hangsOnItself_40) n (v40, s7_41) = some ov33 → va_P (dC, dI) vwCl (cX7 a7 h7 y s7_41) HGW29 → va_D A (cX7 a7 h7 y s7_41) → va_S A s.heap HGW29 locs → lv_has ls 4 [(0, .ref a7), (1, .int p1), (2, .int v24), (3, .int v40)] → GW29 HGW29 locs 0 0 (F0 m 40 ls []) := by
            intro n
            induction n with
            | zero =>
              intro v40 s7_41 HGW29 locs ls hi34 hP hD hS hl
              exact (zI_0 hi34).elim
            | succ n ihlp32 =>
              intro v40 s7_41 HGW29 locs ls hi34 hP hD hS hl
              refine (eG30 _ _ _ _ _).mpr ?_
              obtain ⟨xx37, h, hx36⟩ := zI_spec hi34
              refine lv_iload_n hx hb dX7_hangsOnItself_40 rfl (lv_at hl 3 rfl) ?_
              refine lv_aload_n hx hb dX7_hangsOnItself_41 rfl (lv_at hl 0 rfl) ?_
              refine va_get (D := (dC, dI)) (ci := 6) (v := .int (gI s7_41 26)) (C := RX7) (T := TX7) (N := 49) hx hb hts inX7_ hown hK hP 0 rfl rfl 26 (by decide) (hts (.fieldLink RX7 185 "GateWheelModel" "read" "I") (List.mem_of_getElem? (i := 1) rfl)) (fun _ h9 => h9) rfl dX7_hangsOnItself_42 ?_
              refine lv_icmp_ge (tgt := 68) hx hb dX7_hangsOnItself_45 (by decide) (fun c42 => ?_) (fun c42 => ?_)
              · have h := zY c42 h
                exact (eG30 _ _ _ _ _).mp (je31 s7_41 _ _ _ (zI_r h hx36) hP hD hS (lv_sub hl [0, 1, 2] rfl))
              · have h := zN c42 h
                refine lv_aload_n hx hb dX7_hangsOnItself_48 rfl (lv_at hl 0 rfl) ?_
                refine va_get (D := (dC, dI)) (ci := 6) (v := .ref (h7 32)) (C := RX7) (T := TX7) (N := 49) hx hb hts inX7_ hown hK hP 0 rfl rfl 32 (by decide) (hts (.fieldLink RX7 68 "GateWheelModel" "isLed" "[Z") (List.mem_of_getElem? (i := 2) rfl)) (fun _ h9 => h9) rfl dX7_hangsOnItself_49 ?_
                refine lv_iload_n hx hb dX7_hangsOnItself_52 rfl (lv_at hl 3 rfl) ?_
                obtain ⟨hi43, h⟩ := zG_spec h
                refine va_zald hx hb hK hP 18 3 rfl rfl hi43 dX7_hangsOnItself_53 ?_
                refine lv_if_eq (tgt := 62) hx hb dX7_hangsOnItself_54 (by decide) (fun c44 => ?_) (fun c44 => ?_)
                · have h := zY c44 h
                  obtain ⟨v45, ev45, h⟩ := zL_spec h
                  refine lv_iinc (v := v45) (lv' := [(3, .int v45), (0, .ref a7), (1, .int p1), (2, .int v24)]) hx hb dX7_hangsOnItself_62 hl (k := 3) rfl (by rw [ev45]; rfl) (by decide) rfl (fun ls hl => ?_)
                  refine lv_goto (tgt := 40) hx hb dX7_hangsOnItself_65 (by decide) ?_
                  have h := zI_l h hx36
                  exact (eG30 _ _ _ _ _).mp (ihlp32 v45 s7_41 _ _ _ h hP hD hS (lv_sub hl [1, 2, 3, 0] rfl))
                · have h := zN c44 h
                  refine lv_aload_n hx hb dX7_hangsOnItself_57 rfl (lv_at hl 0 rfl) ?_
                  refine lv_iload_n hx hb dX7_hangsOnItself_58 rfl (lv_at hl 3 rfl) ?_
                  obtain ⟨s7_46, hc47, h⟩ := zB_spec h
                  have hFc := zFree hD hS hA
                  refine va_callv (va_runV (As := [.int v40]) (rest := []) ⟨hx, hb, hml, hown, hts⟩ (m_X7_lead l dC dI y a7 h7 s7_41 v40 HGW29.size s7_46 hc47) (cwV 1 hts gX7_hangsOnItself_X7_lead rfl rfl rfl (by decide +kernel) ⟨Nat.le_of_ble_eq_true rfl, Nat.le_of_ble_eq_true rfl⟩) ⟨fun a U g mk q => by obtain ⟨q0, q1, qP, qK, qD⟩ := q; exact ⟨q0, q1, qP, va_K.moved (u := U) (U := U.calling g mk a) (Vm.Alike.refl U.vm) qK, qD⟩, va_recv hK hP (ci := 6) (q0 := 0) rfl rfl, fun U hU hW => ⟨rfl, by rw [hU], by rw [hU]; exact hP, va_K.moved hW.alike hK, hD.weaken (fun _ _ _ _ => trivial)⟩⟩ rfl rfl hl.1 rfl (lv_room (Nat.le_of_ble_eq_true rfl)) dX7_hangsOnItself_59 ⟨Nat.le_of_ble_eq_true rfl, Nat.le_of_ble_eq_true rfl⟩) hS (fun q _ h => hFc q h) hFc (fun u t H48 locs ht hvm hw hB hz1 hk1 hS => ?_)
                  obtain ⟨hP1, hK1, hD1⟩ := hB
                  rw [ht] at hP1
                  have hP := hP1
                  have hD := hD1.weaken (fun _ q _ h => hFc q.1 h)
                  have hP : va_P (dC, dI) vwCl (cX7 a7 h7 y s7_46) H48 := hP
                  have hD : va_D A (cX7 a7 h7 y s7_46) := hD
                  obtain ⟨v50, ev50, h⟩ := zL_spec h
                  refine lv_iinc (v := v50) (lv' := [(3, .int v50), (0, .ref a7), (1, .int p1), (2, .int v24)]) hx hb dX7_hangsOnItself_62 hl (k := 3) rfl (by rw [ev50]; rfl) (by decide) rfl (fun ls hl => ?_)
                  refine lv_goto (tgt := 40) hx hb dX7_hangsOnItself_65 (by decide) ?_
                  have h := zI_l h hx36
                  exact (eG30 _ _ _ _ _).mp (ihlp32 v50 s7_46 _ _ _ h hP hD hS (lv_sub hl [1, 2, 3, 0] rfl))
          exact lp32 zF (0 : Int32) s7_25 _ _ _ hi34 hP hD hS (lv_sub hl [1, 2, 3, 0] rfl)
    exact lp18 zF (0 : Int32) s7_11 _ _ _ hi20 hP hD hS (lv_sub hl [1, 2, 0] rfl)
  have lp4 : ∀ (n : Nat) (v51 : Int32) (s7_52 : SS) (HGW1 : Heap) (locs : List Loc) (ls : Array Slot), zI (b_X7_hangsOnItself_2) n (v51, s7_52) = some ov5 → va_P (dC, dI) vwCl (cX7 a7 h7 y s7_52) HGW1 → va_D A (cX7 a7 h7 y s7_52) → va_S A s.heap HGW1 locs → lv_has ls 4 [(0, .ref a7), (1, .int p1), (2, .int v51)] → GW1 HGW1 locs 0 0 (F0 m 2 ls []) := by
    intro n
    induction n with
    | zero =>
      intro v51 s7_52 HGW1 locs ls hi6 hP hD hS hl
      exact (zI_0 hi6).elim
    | succ n ihlp4 =>
      intro v51 s7_52 HGW1 locs ls hi6 hP hD hS hl
      refine (eG2 _ _ _ _ _).mpr ?_
      obtain ⟨xx9, h, hx8⟩ := zI_spec hi6
      refine lv_iload_n hx hb dX7_hangsOnItself_2 rfl (lv_at hl 2 rfl) ?_
      refine lv_aload_n hx hb dX7_hangsOnItself_3 rfl (lv_at hl 0 rfl) ?_
      refine va_get (D := (dC, dI)) (ci := 6) (v := .int (gI s7_52 26)) (C := RX7) (T := TX7) (N := 49) hx hb hts inX7_ hown hK hP 0 rfl rfl 26 (by decide) (hts (.fieldLink RX7 185 "GateWheelModel" "read" "I") (List.mem_of_getElem? (i := 1) rfl)) (fun _ h9 => h9) rfl dX7_hangsOnItself_4 ?_
      refine lv_icmp_ge (tgt := 23) hx hb dX7_hangsOnItself_7 (by decide) (fun c53 => ?_) (fun c53 => ?_)
      · have h := zY c53 h
        exact (eG2 _ _ _ _ _).mp (je3 s7_52 _ _ _ (zI_r h hx8) hP hD hS (lv_sub hl [0, 1] rfl))
      · have h := zN c53 h
        refine lv_aload_n hx hb dX7_hangsOnItself_10 rfl (lv_at hl 0 rfl) ?_
        refine va_get (D := (dC, dI)) (ci := 6) (v := .ref (h7 32)) (C := RX7) (T := TX7) (N := 49) hx hb hts inX7_ hown hK hP 0 rfl rfl 32 (by decide) (hts (.fieldLink RX7 68 "GateWheelModel" "isLed" "[Z") (List.mem_of_getElem? (i := 2) rfl)) (fun _ h9 => h9) rfl dX7_hangsOnItself_11 ?_
        refine lv_iload_n hx hb dX7_hangsOnItself_14 rfl (lv_at hl 2 rfl) ?_
        refine lv_iconst (v := 0) hx hb dX7_hangsOnItself_15 (by decide) ?_
        obtain ⟨hi54, h⟩ := zG_spec h
        refine va_zast hx hb hK hP hD hS 18 3 rfl rfl hi54 dX7_hangsOnItself_16 (fun H55 locs hP hD hS => ?_)
        obtain ⟨s7_56, es7_56, h⟩ := zL_spec h
        have hP : va_P (dC, dI) vwCl (cX7 a7 h7 y s7_56) H55 := by rw [es7_56]; exact hP
        have hD : va_D A (cX7 a7 h7 y s7_56) := by rw [es7_56]; exact hD
        obtain ⟨v57, ev57, h⟩ := zL_spec h
        refine lv_iinc (v := v57) (lv' := [(2, .int v57), (0, .ref a7), (1, .int p1)]) hx hb dX7_hangsOnItself_17 hl (k := 2) rfl (by rw [ev57]; rfl) (by decide) rfl (fun ls hl => ?_)
        refine lv_goto (tgt := 2) hx hb dX7_hangsOnItself_20 (by decide) ?_
        have h := zI_l h hx8
        exact (eG2 _ _ _ _ _).mp (ihlp4 v57 s7_56 _ _ _ h hP hD hS (lv_sub hl [1, 2, 0] rfl))
  exact lp4 zF (0 : Int32) S7 _ _ _ hi6 hP hD hS (lv_sub hl [1, 2, 0] rfl)

set_option maxHeartbeats 4000000 in
set_option maxRecDepth 100000 in
theorem m_X7_levels (l : Launch) (dC : Nat → ClassId) (dI : Nat → Nat → Nat) (y : Nat → ClassId) (a7 : Nat) (h7 : Nat → Nat) (S7 : SS) (sz : Nat) (o_7 : SS) (h : f_X7_levels S7 = some o_7) : Met l yX7_levels wsX7_levels ({ frames := 3, cells := 0, slots := 0, locals := 67 }) (va_Pc [.ref a7] (fun U => U.heap.size = sz ∧ va_P (dC, dI) vwCl (cX7 a7 h7 y S7) U.heap ∧ va_K (dC, dI) vwCl [(y 0, .int), (y 1, .long), (y 2, .byte), (y 3, .boolean)] U ∧ va_D (fun _ => True) (cX7 a7 h7 y S7))) (va_Qv (fun (_ : Unit) => True) (fun (_ : Unit) (t : State) => va_P (dC, dI) vwCl (cX7 a7 h7 y o_7) t.heap ∧ va_K (dC, dI) vwCl [(y 0, .int), (y 1, .long), (y 2, .byte), (y 3, .boolean)] t ∧ va_D (va_A (cX7 a7 h7 y S7) sz) (cX7 a7 h7 y o_7)) (va_A (cX7 a7 h7 y S7) sz)) 0 0 (va_A (cX7 a7 h7 y S7) sz) := by
  refine Met.ofW (cc := cX7_levels) (maxL := 7) (ret := none) (by decide +kernel) rfl ?_
  intro p e s m args below meth c s₁ B hml hv
  obtain ⟨rfl, hsz, hP, hK, hD0⟩ := hv
  have hx := B.exec
  have hb := B.bytes
  have hr := B.returns
  have hts := atoms_spec (ws := wsX7_levels) B.pre
  have hown : s.vm.findClass RX7 = some m.cls := findClass_of_methodNamed B.named
  have hlocks := B.notSynchronized
  have inX7_ : ∀ w ∈ wsX70, w ∈ wsX7_levels := fun _ h => List.mem_cons_of_mem _ (List.mem_append_right _ h)
  subst hsz
  have hD := hD0.self (sz := s.heap.size)
  generalize hAe : va_A (cX7 a7 h7 y S7) s.heap.size = A at hD ⊢
  have hA : ∀ q : Nat, s.heap.size ≤ q → A q := fun q h => by rw [← hAe]; exact Or.inr h
  have hS : va_S A s.heap s.heap [] := va_S.rf
  have hP : va_P (dC, dI) vwCl (cX7 a7 h7 y S7) s.heap := hP
  have hl := lv_entry ([.ref a7]) (n := 7) (Nat.le_of_ble_eq_true rfl)
  rw [lg_entry_eq]
  generalize (lg_sl ([.ref a7]) ++ List.replicate (7 - (lg_sl ([.ref a7])).length) Slot.unset).toArray = ls at hl ⊢
  have hl : lv_has ls 7 [(0, .ref a7)] := hl
  refine lv_iconst (v := 0) hx hb dX7_levels_0 (by decide) ?_
  refine lv_istore_n (lv' := [(1, .int 0), (0, .ref a7)]) hx hb dX7_levels_1 rfl hl (by decide) rfl (fun ls hl => ?_)
  refine W_abs (fun GW1 eG2 => ?_)
  obtain ⟨ov5, hi6, h⟩ := zB_spec h
  have je3 : ∀ (s7_10 : SS) (HGW1e : Heap) (locs : List Loc) (ls : Array Slot), s7_10 = ov5 → va_P (dC, dI) vwCl (cX7 a7 h7 y s7_10) HGW1e → va_D A (cX7 a7 h7 y s7_10) → va_S A s.heap HGW1e locs → lv_has ls 7 [(0, .ref a7)] → GW1 HGW1e locs 0 0 (F0 m 31 ls []) := by
    intro s7_10 HGW1e locs ls hv hP hD hS hl
    subst hv
    refine (eG2 _ _ _ _ _).mpr ?_
    refine lv_iconst (v := 0) hx hb dX7_levels_31 (by decide) ?_
    refine lv_istore_n (lv' := [(1, .int 0), (0, .ref a7)]) hx hb dX7_levels_32 rfl hl (by decide) rfl (fun ls hl => ?_)
    refine W_abs (fun GW11 eG12 => ?_)
    obtain ⟨ov15, hi16, h⟩ := zB_spec h
    have je13 : ∀ (s7_20 : SS) (HGW11e : Heap) (locs : List Loc) (ls : Array Slot), s7_20 = ov15 → va_P (dC, dI) vwCl (cX7 a7 h7 y s7_20) HGW11e → va_D A (cX7 a7 h7 y s7_20) → va_S A s.heap HGW11e locs → lv_has ls 7 [(0, .ref a7)] → GW11 HGW11e locs 0 0 (F0 m 176 ls []) := by
      intro s7_20 HGW11e locs ls hv hP hD hS hl
      subst hv
      refine (eG12 _ _ _ _ _).mpr ?_
      refine lv_iconst (v := 0) hx hb dX7_levels_176 (by decide) ?_
      refine lv_istore_n (lv' := [(1, .int 0), (0, .ref a7)]) hx hb dX7_levels_177 rfl hl (by decide) rfl (fun ls hl => ?_)
      refine W_abs (fun GW21 eG22 => ?_)
      have hi26 := h
      have lp24 : ∀ (n : Nat) (v30 : Int32) (s7_31 : SS) (HGW21 : Heap) (locs : List Loc) (ls : Array Slot), zI (b_X7_levels_178) n (v30, s7_31) = some o_7 → va_P (dC, dI) vwCl (cX7 a7 h7 y s7_31) HGW21 → va_D A (cX7 a7 h7 y s7_31) → va_S A s.heap HGW21 locs → lv_has ls 7 [(0, .ref a7), (1, .int v30)] → GW21 HGW21 locs 0 0 (F0 m 178 ls []) := by
        intro n
        induction n with
        | zero =>
          intro v30 s7_31 HGW21 locs ls hi26 hP hD hS hl
          exact (zI_0 hi26).elim
        | succ n ihlp24 =>
          intro v30 s7_31 HGW21 locs ls hi26 hP hD hS hl
          refine (eG22 _ _ _ _ _).mpr ?_
          obtain ⟨xx29, h, hx28⟩ := zI_spec hi26
          refine lv_iload_n hx hb dX7_levels_178 rfl (lv_at hl 1 rfl) ?_
          refine lv_aload_n hx hb dX7_levels_179 rfl (lv_at hl 0 rfl) ?_
          refine va_get (D := (dC, dI)) (ci := 6) (v := .int (gI s7_31 26)) (C := RX7) (T := TX7) (N := 49) hx hb hts inX7_ hown hK hP 0 rfl rfl 26 (by decide) (hts (.fieldLink RX7 185 "GateWheelModel" "read" "I") (List.mem_of_getElem? (i := 1) rfl)) (fun _ h9 => h9) rfl dX7_levels_180 ?_
          refine lv_icmp_ge (tgt := 235) hx hb dX7_levels_183 (by decide) (fun c32 => ?_) (fun c32 => ?_)
          · have h := zY c32 h
            have h := congrArg some (zI_r h hx28)
            have ho0 : s7_31 = o_7 := congrArg (fun z : SS => z) (Option.some.inj h)
            exact W.vret hx hb hr (fun t ht hW => ⟨⟨(), rfl, trivial, by rw [ht]; rw [← ho0]; exact hP, va_K.moved hW.alike hK, by rw [← ho0]; exact hD⟩, hS.F ht⟩) hS.2.2 dX7_levels_235
          · have h := zN c32 h
            refine lv_aload_n hx hb dX7_levels_186 rfl (lv_at hl 0 rfl) ?_
            obtain ⟨r33, hc34, h⟩ := zB_spec h
            have hFc := zFree hD hS hA
            refine va_calli (va_runV (As := []) (rest := []) ⟨hx, hb, hml, hown, hts⟩ (m_X7_isGood l dC dI y a7 h7 s7_31 HGW21.size r33 hc34) (cwV 0 hts gX7_levels_X7_isGood rfl rfl rfl (by decide +kernel) ⟨Nat.le_of_ble_eq_true rfl, Nat.le_of_ble_eq_true rfl⟩) ⟨fun a U g mk q => by obtain ⟨q0, q1, qP, qK, qD⟩ := q; exact ⟨q0, q1, qP, va_K.moved (u := U) (U := U.calling g mk a) (Vm.Alike.refl U.vm) qK, qD⟩, va_recv hK hP (ci := 6) (q0 := 0) rfl rfl, fun U hU hW => ⟨rfl, by rw [hU], by rw [hU]; exact hP, va_K.moved hW.alike hK, hD.weaken (fun _ _ _ _ => trivial)⟩⟩ rfl rfl hl.1 rfl (lv_room (Nat.le_of_ble_eq_true rfl)) dX7_levels_187 ⟨Nat.le_of_ble_eq_true rfl, Nat.le_of_ble_eq_true rfl⟩) hS (fun q _ h => hFc q h) hFc (fun rr36 u t H35 locs ht hvm hw hB hz1 hk1 hS => ?_)
            obtain ⟨hP1, hK1, hD1⟩ := hB
            rw [ht] at hP1
            refine zTopi hw.symm ?_
            have hP := hP1
            have hD := hD1.weaken (fun _ q _ h => hFc q.1 h)
            have hP : va_P (dC, dI) vwCl (cX7 a7 h7 y s7_31) H35 := hP
            have hD : va_D A (cX7 a7 h7 y s7_31) := hD
            refine lv_if_eq (tgt := 235) hx hb dX7_levels_190 (by decide) (fun c37 => ?_) (fun c37 => ?_)
            · have h := zY c37 h
              have h := congrArg some (zI_r h hx28)
              have ho0 : s7_31 = o_7 := congrArg (fun z : SS => z) (Option.some.inj h)
              exact W.vret hx hb hr (fun t ht hW => ⟨⟨(), rfl, trivial, by rw [ht]; rw [← ho0]; exact hP, va_K.moved hW.alike hK, by rw [← ho0]; exact hD⟩, hS.F ht⟩) hS.2.2 dX7_levels_235
            · have h := zN c37 h
              refine lv_aload_n hx hb dX7_levels_193 rfl (lv_at hl 0 rfl) ?_
              refine va_get (D := (dC, dI)) (ci := 6) (v := .ref (h7 17)) (C := RX7) (T := TX7) (N := 49) hx hb hts inX7_ hown hK hP 0 rfl rfl 17 (by decide) (hts (.fieldLink RX7 40 "GateWheelModel" "nLevel" "[I") (List.mem_of_getElem? (i := 2) rfl)) (fun _ h9 => h9) rfl dX7_levels_194 ?_
              refine lv_bipush (v := 60) hx hb dX7_levels_197 (by decide) ?_
              refine lv_aload_n hx hb dX7_levels_199 rfl (lv_at hl 0 rfl) ?_
              refine va_get (D := (dC, dI)) (ci := 6) (v := .int (gI s7_31 30)) (C := RX7) (T := TX7) (N := 49) hx hb hts inX7_ hown hK hP 0 rfl rfl 30 (by decide) (hts (.fieldLink RX7 188 "GateWheelModel" "bank" "I") (List.mem_of_getElem? (i := 3) rfl)) (fun _ h9 => h9) rfl dX7_levels_200 ?_
              refine lv_imul hx hb dX7_levels_203 ?_
              refine lv_iload_n hx hb dX7_levels_204 rfl (lv_at hl 1 rfl) ?_
              refine lv_iadd hx hb dX7_levels_205 ?_
              obtain ⟨hi38, h⟩ := zG_spec h
              refine va_iald hx hb hK hP 9 0 rfl rfl hi38 dX7_levels_206 ?_
              refine lv_if_ge (tgt := 229) hx hb dX7_levels_207 (by decide) (fun c39 => ?_) (fun c39 => ?_)
              · have h := zY c39 h
                obtain ⟨v40, ev40, h⟩ := zL_spec h
                refine lv_iinc (v := v40) (lv' := [(1, .int v40), (0, .ref a7)]) hx hb dX7_levels_229 hl (k := 1) rfl (by rw [ev40]; rfl) (by decide) rfl (fun ls hl => ?_)
                refine lv_goto (tgt := 178) hx hb dX7_levels_232 (by decide) ?_
                have h := zI_l h hx28
                exact (eG22 _ _ _ _ _).mp (ihlp24 v40 s7_31 _ _ _ h hP hD hS (lv_sub hl [1, 0] rfl))
              · have h := zN c39 h
                refine lv_aload_n hx hb dX7_levels_210 rfl (lv_at hl 0 rfl) ?_
                refine lv_iload_n hx hb dX7_levels_211 rfl (lv_at hl 1 rfl) ?_
                obtain ⟨⟨r41, s7_42⟩, hc43, h⟩ := zB_spec h
                have hFc := zFree hD hS hA
                refine va_calli (va_runV (As := [.int v30]) (rest := []) ⟨hx, hb, hml, hown, hts⟩ (m_X7_hangsOnItself l dC dI y a7 h7 s7_31 v30 H35.size r41 s7_42 hc43) (cwV 1 hts gX7_levels_X7_hangsOnItself rfl rfl rfl (by decide +kernel) ⟨Nat.le_of_ble_eq_true rfl, Nat.le_of_ble_eq_true rfl⟩) ⟨fun a U g mk q => by obtain ⟨q0, q1, qP, qK, qD⟩ := q; exact ⟨q0, q1, qP, va_K.moved (u := U) (U := U.calling g mk a) (Vm.Alike.refl U.vm) qK, qD⟩, va_recv hK hP (ci := 6) (q0 := 0) rfl rfl, fun U hU hW => ⟨rfl, by rw [hU], by rw [hU]; exact hP, va_K.moved hW.alike hK, hD.weaken (fun _ _ _ _ => trivial)⟩⟩ rfl rfl hl.1 rfl (lv_room (Nat.le_of_ble_eq_true rfl)) dX7_levels_212 ⟨Nat.le_of_ble_eq_true rfl, Nat.le_of_ble_eq_true rfl⟩) hS (fun q _ h => hFc q h) hFc (fun rr45 u t H44 locs ht hvm hw hB hz1 hk1 hS => ?_)
                obtain ⟨hP1, hK1, hD1⟩ := hB
                rw [ht] at hP1
                refine zTopi hw.symm ?_
                have hP := hP1
                have hD := hD1.weaken (fun _ q _ h => hFc q.1 h)
                have hP : va_P (dC, dI) vwCl (cX7 a7 h7 y s7_42) H44 := hP
                have hD : va_D A (cX7 a7 h7 y s7_42) := hD
                refine lv_if_eq (tgt := 229) hx hb dX7_levels_215 (by decide) (fun c46 => ?_) (fun c46 => ?_)
                · have h := zY c46 h
                  obtain ⟨v47, ev47, h⟩ := zL_spec h
                  refine lv_iinc (v := v47) (lv' := [(1, .int v47), (0, .ref a7)]) hx hb dX7_levels_229 hl (k := 1) rfl (by rw [ev47]; rfl) (by decide) rfl (fun ls hl => ?_)
                  refine lv_goto (tgt := 178) hx hb dX7_levels_232 (by decide) ?_
                  have h := zI_l h hx28
                  exact (eG22 _ _ _ _ _).mp (ihlp24 v47 s7_42 _ _ _ h hP hD hS (lv_sub hl [1, 0] rfl))
                · have h := zN c46 h
                  refine lv_aload_n hx hb dX7_levels_218 rfl (lv_at hl 0 rfl) ?_
                  refine lv_iconst (v := 5) hx hb dX7_levels_219 (by decide) ?_
                  refine lv_aload_n hx hb dX7_levels_220 rfl (lv_at hl 0 rfl) ?_
                  refine va_get (D := (dC, dI)) (ci := 6) (v := .ref (h7 18)) (C := RX7) (T := TX7) (N := 49) hx hb hts inX7_ hown hK hP 0 rfl rfl 18 (by decide) (hts (.fieldLink RX7 43 "GateWheelModel" "nAt" "[I") (List.mem_of_getElem? (i := 5) rfl)) (fun _ h9 => h9) rfl dX7_levels_221 ?_
                  refine lv_iload_n hx hb dX7_levels_224 rfl (lv_at hl 1 rfl) ?_
                  obtain ⟨hi48, h⟩ := zG_spec h
                  refine va_iald hx hb hK hP 10 0 rfl rfl hi48 dX7_levels_225 ?_
                  obtain ⟨s7_49, hc50, h⟩ := zB_spec h
                  have hFc := zFree hD hS hA
                  refine va_callv (va_runV (As := [.int 5, .int (gA s7_42 18 v30.toNatClampNeg)]) (rest := []) ⟨hx, hb, hml, hown, hts⟩ (m_X7_fails l dC dI y a7 h7 s7_42 (5 : Int32) (gA s7_42 18 v30.toNatClampNeg) H44.size s7_49 hc50) (cwV 2 hts gX7_levels_X7_fails rfl rfl rfl (by decide +kernel) ⟨Nat.le_of_ble_eq_true rfl, Nat.le_of_ble_eq_true rfl⟩) ⟨fun a U g mk q => by obtain ⟨q0, q1, qP, qK, qD⟩ := q; exact ⟨q0, q1, qP, va_K.moved (u := U) (U := U.calling g mk a) (Vm.Alike.refl U.vm) qK, qD⟩, va_recv hK hP (ci := 6) (q0 := 0) rfl rfl, fun U hU hW => ⟨rfl, by rw [hU], by rw [hU]; exact hP, va_K.moved hW.alike hK, hD.weaken (fun _ _ _ _ => trivial)⟩⟩ rfl rfl hl.1 rfl (lv_room (Nat.le_of_ble_eq_true rfl)) dX7_levels_226 ⟨Nat.le_of_ble_eq_true rfl, Nat.le_of_ble_eq_true rfl⟩) hS (fun q _ h => hFc q h) hFc (fun u t H51 locs ht hvm hw hB hz1 hk1 hS => ?_)
                  obtain ⟨hP1, hK1, hD1⟩ := hB
                  rw [ht] at hP1
                  have hP := hP1
                  have hD := hD1.weaken (fun _ q _ h => hFc q.1 h)
                  have hP : va_P (dC, dI) vwCl (cX7 a7 h7 y s7_49) H51 := hP
                  have hD : va_D A (cX7 a7 h7 y s7_49) := hD
                  obtain ⟨v53, ev53, h⟩ := zL_spec h
                  refine lv_iinc (v := v53) (lv' := [(1, .int v53), (0, .ref a7)]) hx hb dX7_levels_229 hl (k := 1) rfl (by rw [ev53]; rfl) (by decide) rfl (fun ls hl => ?_)
                  refine lv_goto (tgt := 178) hx hb dX7_levels_232 (by decide) ?_
                  have h := zI_l h hx28
                  exact (eG22 _ _ _ _ _).mp (ihlp24 v53 s7_49 _ _ _ h hP hD hS (lv_sub hl [1, 0] rfl))
      exact lp24 zF (0 : Int32) s7_20 _ _ _ hi26 hP hD hS (lv_sub hl [1, 0] rfl)
    have lp14 : ∀ (n : Nat) (v54 : Int32) (s7_55 : SS) (HGW11 : Heap) (locs : List Loc) (ls : Array Slot), zI (b_X7_levels_33) n (v54, s7_55) = some ov15 → va_P (dC, dI) vwCl (cX7 a7 h7 y s7_55) HGW11 → va_D A (cX7 a7 h7 y s7_55) → va_S A s.heap HGW11 locs → lv_has ls 7 [(0, .ref a7), (1, .int v54)] → GW11 HGW11 locs 0 0 (F0 m 33 ls []) := by
      intro n
      induction n with
      | zero =>
        intro v54 s7_55 HGW11 locs ls hi16 hP hD hS hl
        exact (zI_0 hi16).elim
      | succ n ihlp14 =>
        intro v54 s7_55 HGW11 locs ls hi16 hP hD hS hl
        refine (eG12 _ _ _ _ _).mpr ?_
        obtain ⟨xx19, h, hx18⟩ := zI_spec hi16
        refine lv_iload_n hx hb dX7_levels_33 rfl (lv_at hl 1 rfl) ?_
        refine lv_aload_n hx hb dX7_levels_34 rfl (lv_at hl 0 rfl) ?_
        refine va_get (D := (dC, dI)) (ci := 6) (v := .int (gI s7_55 26)) (C := RX7) (T := TX7) (N := 49) hx hb hts inX7_ hown hK hP 0 rfl rfl 26 (by decide) (hts (.fieldLink RX7 185 "GateWheelModel" "read" "I") (List.mem_of_getElem? (i := 1) rfl)) (fun _ h9 => h9) rfl dX7_levels_35 ?_
        refine lv_icmp_gt (tgt := 176) hx hb dX7_levels_38 (by decide) (fun c56 => ?_) (fun c56 => ?_)
        · have h := zY c56 h
          exact (eG12 _ _ _ _ _).mp (je13 s7_55 _ _ _ (zI_r h hx18) hP hD hS (lv_sub hl [0] rfl))
        · have h := zN c56 h
          refine lv_iconst (v := 0) hx hb dX7_levels_41 (by decide) ?_
          refine lv_istore_n (lv' := [(2, .int 0), (0, .ref a7), (1, .int v54)]) hx hb dX7_levels_42 rfl hl (by decide) rfl (fun ls hl => ?_)
          refine W_abs (fun GW57 eG58 => ?_)
          obtain ⟨ov61, hi62, h⟩ := zB_spec h
          have je59 : ∀ (s7_66 : SS) (HGW57e : Heap) (locs : List Loc) (ls : Array Slot), s7_66 = ov61 → va_P (dC, dI) vwCl (cX7 a7 h7 y s7_66) HGW57e → va_D A (cX7 a7 h7 y s7_66) → va_S A s.heap HGW57e locs → lv_has ls 7 [(0, .ref a7), (1, .int v54)] → GW57 HGW57e locs 0 0 (F0 m 170 ls []) := by
            intro s7_66 HGW57e locs ls hv hP hD hS hl
            subst hv
            refine (eG58 _ _ _ _ _).mpr ?_
            obtain ⟨v67, ev67, h⟩ := zL_spec h
            refine lv_iinc (v := v67) (lv' := [(1, .int v67), (0, .ref a7)]) hx hb dX7_levels_170 hl (k := 1) rfl (by rw [ev67]; rfl) (by decide) rfl (fun ls hl => ?_)
            refine lv_goto (tgt := 33) hx hb dX7_levels_173 (by decide) ?_
            have h := zI_l h hx18
            exact (eG12 _ _ _ _ _).mp (ihlp14 v67 s7_66 _ _ _ h hP hD hS (lv_sub hl [1, 0] rfl))
          have lp60 : ∀ (n : Nat) (v68 : Int32) (s7_69 : SS) (HGW57 : Heap) (locs : List Loc) (ls : Array Slot), zI (b_X7_levels_43) n (v68, s7_69) = some ov61 → va_P (dC, dI) vwCl (cX7 a7 h7 y s7_69) HGW57 → va_D A (cX7 a7 h7 y s7_69) → va_S A s.heap HGW57 locs → lv_has ls 7 [(0, .ref a7), (1, .int v54), (2, .int v68)] → GW57 HGW57 locs 0 0 (F0 m 43 ls []) := by
            intro n
            induction n with
            | zero =>
              intro v68 s7_69 HGW57 locs ls hi62 hP hD hS hl
              exact (zI_0 hi62).elim
            | succ n ihlp60 =>
              intro v68 s7_69 HGW57 locs ls hi62 hP hD hS hl
              refine (eG58 _ _ _ _ _).mpr ?_
              obtain ⟨xx65, h, hx64⟩ := zI_spec hi62
              refine lv_iload_n hx hb dX7_levels_43 rfl (lv_at hl 2 rfl) ?_
              refine lv_aload_n hx hb dX7_levels_44 rfl (lv_at hl 0 rfl) ?_
              refine va_get (D := (dC, dI)) (ci := 6) (v := .int (gI s7_69 26)) (C := RX7) (T := TX7) (N := 49) hx hb hts inX7_ hown hK hP 0 rfl rfl 26 (by decide) (hts (.fieldLink RX7 185 "GateWheelModel" "read" "I") (List.mem_of_getElem? (i := 1) rfl)) (fun _ h9 => h9) rfl dX7_levels_45 ?_
              refine lv_icmp_ge (tgt := 170) hx hb dX7_levels_48 (by decide) (fun c70 => ?_) (fun c70 => ?_)
              · have h := zY c70 h
                exact (eG58 _ _ _ _ _).mp (je59 s7_69 _ _ _ (zI_r h hx64) hP hD hS (lv_sub hl [0, 1] rfl))
              · have h := zN c70 h
                refine lv_bipush (v := 60) hx hb dX7_levels_51 (by decide) ?_
                refine lv_aload_n hx hb dX7_levels_53 rfl (lv_at hl 0 rfl) ?_
                refine va_get (D := (dC, dI)) (ci := 6) (v := .int (gI s7_69 30)) (C := RX7) (T := TX7) (N := 49) hx hb hts inX7_ hown hK hP 0 rfl rfl 30 (by decide) (hts (.fieldLink RX7 188 "GateWheelModel" "bank" "I") (List.mem_of_getElem? (i := 3) rfl)) (fun _ h9 => h9) rfl dX7_levels_54 ?_
                refine lv_imul hx hb dX7_levels_57 ?_
                refine lv_iload_n hx hb dX7_levels_58 rfl (lv_at hl 2 rfl) ?_
                refine lv_iadd hx hb dX7_levels_59 ?_
                obtain ⟨v71, ev71, h⟩ := zL_spec h
                refine zTopi ev71 ?_
                refine lv_istore_n (lv' := [(3, .int v71), (0, .ref a7), (1, .int v54), (2, .int v68)]) hx hb dX7_levels_60 rfl hl (by decide) rfl (fun ls hl => ?_)
                refine lv_aload_n hx hb dX7_levels_61 rfl (lv_at hl 1 rfl) ?_
                refine va_get (D := (dC, dI)) (ci := 6) (v := .ref (h7 17)) (C := RX7) (T := TX7) (N := 49) hx hb hts inX7_ hown hK hP 0 rfl rfl 17 (by decide) (hts (.fieldLink RX7 40 "GateWheelModel" "nLevel" "[I") (List.mem_of_getElem? (i := 2) rfl)) (fun _ h9 => h9) rfl dX7_levels_62 ?_
                refine lv_iload_n hx hb dX7_levels_65 rfl (lv_at hl 0 rfl) ?_
                obtain ⟨hi72, h⟩ := zG_spec h
                refine va_iald hx hb hK hP 9 0 rfl rfl hi72 dX7_levels_66 ?_
                refine lv_if_lt (tgt := 73) hx hb dX7_levels_67 (by decide) (fun c73 => ?_) (fun c73 => ?_)
                · have h := zY c73 h
                  refine lv_iconst (v := 0) hx hb dX7_levels_73 (by decide) ?_
                  refine lv_istore (lv' := [(4, .int 0), (3, .int v71), (0, .ref a7), (1, .int v54), (2, .int v68)]) hx hb dX7_levels_74 hl (by decide) rfl (fun ls hl => ?_)
                  refine lv_iconst (v := 0) hx hb dX7_levels_76 (by decide) ?_
                  refine lv_istore (lv' := [(5, .int 0), (4, .int 0), (3, .int v71), (0, .ref a7), (1, .int v54), (2, .int v68)]) hx hb dX7_levels_77 hl (by decide) rfl (fun ls hl => ?_)
                  refine W_abs (fun GW74 eG75 => ?_)
                  obtain ⟨ov78, hi79, h⟩ := zB_spec h
                  have je76 : ∀ (v83 : Int32) (HGW74e : Heap) (locs : List Loc) (ls : Array Slot), v83 = ov78 → va_P (dC, dI) vwCl (cX7 a7 h7 y s7_69) HGW74e → va_D A (cX7 a7 h7 y s7_69) → va_S A s.heap HGW74e locs → lv_has ls 7 [(3, .int v71), (0, .ref a7), (1, .int v54), (2, .int v68), (4, .int v83)] → GW74 HGW74e locs 0 0 (F0 m 156 ls []) := by
                    intro v83 HGW74e locs ls hv hP hD hS hl
                    subst hv
                    refine (eG75 _ _ _ _ _).mpr ?_
                    refine lv_aload_n hx hb dX7_levels_156 rfl (lv_at hl 1 rfl) ?_
                    refine va_get (D := (dC, dI)) (ci := 6) (v := .ref (h7 17)) (C := RX7) (T := TX7) (N := 49) hx hb hts inX7_ hown hK hP 0 rfl rfl 17 (by decide) (hts (.fieldLink RX7 40 "GateWheelModel" "nLevel" "[I") (List.mem_of_getElem? (i := 2) rfl)) (fun _ h9 => h9) rfl dX7_levels_157 ?_
                    refine lv_iload_n hx hb dX7_levels_160 rfl (lv_at hl 0 rfl) ?_
                    refine lv_iload hx hb dX7_levels_161 (lv_at hl 4 rfl) ?_
                    refine va_iast hx hb hK hP hD hS 9 0 rfl rfl hi72 dX7_levels_163 (fun H84 locs hP hD hS => ?_)
                    obtain ⟨s7_85, es7_85, h⟩ := zL_spec h
                    have hP : va_P (dC, dI) vwCl (cX7 a7 h7 y s7_85) H84 := by rw [es7_85]; exact hP
                    have hD : va_D A (cX7 a7 h7 y s7_85) := by rw [es7_85]; exact hD
                    obtain ⟨v86, ev86, h⟩ := zL_spec h
                    refine lv_iinc (v := v86) (lv' := [(2, .int v86), (3, .int v71), (0, .ref a7), (1, .int v54), (4, .int v83)]) hx hb dX7_levels_164 hl (k := 3) rfl (by rw [ev86]; rfl) (by decide) rfl (fun ls hl => ?_)
                    refine lv_goto (tgt := 43) hx hb dX7_levels_167 (by decide) ?_
                    have h := zI_l h hx64
                    exact (eG58 _ _ _ _ _).mp (ihlp60 v86 s7_85 _ _ _ h hP hD hS (lv_sub hl [2, 3, 0] rfl))
                  have lp77 : ∀ (n : Nat) (v87 : Int32) (v88 : Int32) (HGW74 : Heap) (locs : List Loc) (ls : Array Slot), zI (b_X7_levels_79 s7_69 v71) n (v87, v88) = some ov78 → va_P (dC, dI) vwCl (cX7 a7 h7 y s7_69) HGW74 → va_D A (cX7 a7 h7 y s7_69) → va_S A s.heap HGW74 locs → lv_has ls 7 [(3, .int v71), (0, .ref a7), (1, .int v54), (2, .int v68), (4, .int v87), (5, .int v88)] → GW74 HGW74 locs 0 0 (F0 m 79 ls []) := by
                    intro n
                    induction n with
                    | zero =>
                      intro v87 v88 HGW74 locs ls hi79 hP hD hS hl
                      exact (zI_0 hi79).elim
                    | succ n ihlp77 =>
                      intro v87 v88 HGW74 locs ls hi79 hP hD hS hl
                      refine (eG75 _ _ _ _ _).mpr ?_
                      obtain ⟨xx82, h, hx81⟩ := zI_spec hi79
                      refine lv_iload hx hb dX7_levels_79 (lv_at hl 5 rfl) ?_
                      refine lv_aload_n hx hb dX7_levels_81 rfl (lv_at hl 1 rfl) ?_
                      refine lv_iload_n hx hb dX7_levels_82 rfl (lv_at hl 0 rfl) ?_
                      obtain ⟨r89, hc90, h⟩ := zB_spec h
                      have hFc := zFree hD hS hA
                      refine va_calli (va_runV (As := [.int v71]) (rest := [.int v88]) ⟨hx, hb, hml, hown, hts⟩ (m_X7_hangs l dC dI y a7 h7 s7_69 v71 HGW74.size r89 hc90) (cwV 1 hts gX7_levels_X7_hangs rfl rfl rfl (by decide +kernel) ⟨Nat.le_of_ble_eq_true rfl, Nat.le_of_ble_eq_true rfl⟩) ⟨fun a U g mk q => by obtain ⟨q0, q1, qP, qK, qD⟩ := q; exact ⟨q0, q1, qP, va_K.moved (u := U) (U := U.calling g mk a) (Vm.Alike.refl U.vm) qK, qD⟩, va_recv hK hP (ci := 6) (q0 := 0) rfl rfl, fun U hU hW => ⟨rfl, by rw [hU], by rw [hU]; exact hP, va_K.moved hW.alike hK, hD.weaken (fun _ _ _ _ => trivial)⟩⟩ rfl rfl hl.1 rfl (lv_room (Nat.le_of_ble_eq_true rfl)) dX7_levels_83 ⟨Nat.le_of_ble_eq_true rfl, Nat.le_of_ble_eq_true rfl⟩) hS (fun q _ h => hFc q h) hFc (fun rr92 u t H91 locs ht hvm hw hB hz1 hk1 hS => ?_)
                      obtain ⟨hP1, hK1, hD1⟩ := hB
                      rw [ht] at hP1
                      refine zTopi hw.symm ?_
                      have hP := hP1
                      have hD := hD1.weaken (fun _ q _ h => hFc q.1 h)
                      have hP : va_P (dC, dI) vwCl (cX7 a7 h7 y s7_69) H91 := hP
                      have hD : va_D A (cX7 a7 h7 y s7_69) := hD
                      refine lv_icmp_ge (tgt := 156) hx hb dX7_levels_86 (by decide) (fun c93 => ?_) (fun c93 => ?_)
                      · have h := zY c93 h
                        exact (eG75 _ _ _ _ _).mp (je76 v87 _ _ _ (zI_r h hx81) hP hD hS (lv_sub hl [0, 1, 2, 3, 4] rfl))
                      · have h := zN c93 h
                        refine lv_iload hx hb dX7_levels_89 (lv_at hl 4 rfl) ?_
                        refine lv_if_lt (tgt := 156) hx hb dX7_levels_91 (by decide) (fun c94 => ?_) (fun c94 => ?_)
                        · have h := zY c94 h
                          exact (eG75 _ _ _ _ _).mp (je76 v87 _ _ _ (zI_r h hx81) hP hD hS (lv_sub hl [0, 1, 2, 3, 4] rfl))
                        · have h := zN c94 h
                          refine lv_aload_n hx hb dX7_levels_94 rfl (lv_at hl 1 rfl) ?_
                          refine va_get (D := (dC, dI)) (ci := 6) (v := .ref (h7 17)) (C := RX7) (T := TX7) (N := 49) hx hb hts inX7_ hown hK hP 0 rfl rfl 17 (by decide) (hts (.fieldLink RX7 40 "GateWheelModel" "nLevel" "[I") (List.mem_of_getElem? (i := 2) rfl)) (fun _ h9 => h9) rfl dX7_levels_95 ?_
                          refine lv_bipush (v := 60) hx hb dX7_levels_98 (by decide) ?_
                          refine lv_aload_n hx hb dX7_levels_100 rfl (lv_at hl 1 rfl) ?_
                          refine va_get (D := (dC, dI)) (ci := 6) (v := .int (gI s7_69 30)) (C := RX7) (T := TX7) (N := 49) hx hb hts inX7_ hown hK hP 0 rfl rfl 30 (by decide) (hts (.fieldLink RX7 188 "GateWheelModel" "bank" "I") (List.mem_of_getElem? (i := 3) rfl)) (fun _ h9 => h9) rfl dX7_levels_101 ?_
                          refine lv_imul hx hb dX7_levels_104 ?_
                          refine lv_aload_n hx hb dX7_levels_105 rfl (lv_at hl 1 rfl) ?_
                          refine va_get (D := (dC, dI)) (ci := 6) (v := .ref (h7 16)) (C := RX7) (T := TX7) (N := 49) hx hb hts inX7_ hown hK hP 0 rfl rfl 16 (by decide) (hts (.fieldLink RX7 37 "GateWheelModel" "nIn" "[I") (List.mem_of_getElem? (i := 4) rfl)) (fun _ h9 => h9) rfl dX7_levels_106 ?_
                          refine lv_bipush (v := 12) hx hb dX7_levels_109 (by decide) ?_
                          refine lv_iload_n hx hb dX7_levels_111 rfl (lv_at hl 0 rfl) ?_
                          refine lv_imul hx hb dX7_levels_112 ?_
                          refine lv_iload hx hb dX7_levels_113 (lv_at hl 5 rfl) ?_
                          refine lv_iadd hx hb dX7_levels_115 ?_
                          obtain ⟨hi95, h⟩ := zG_spec h
                          refine va_iald hx hb hK hP 8 0 rfl rfl hi95 dX7_levels_116 ?_
                          refine lv_iadd hx hb dX7_levels_117 ?_
                          obtain ⟨hi96, h⟩ := zG_spec h
                          refine va_iald hx hb hK hP 9 0 rfl rfl hi96 dX7_levels_118 ?_
                          obtain ⟨v97, ev97, h⟩ := zL_spec h
                          refine zTopi ev97 ?_
                          refine lv_istore (lv' := [(6, .int v97), (3, .int v71), (0, .ref a7), (1, .int v54), (2, .int v68), (4, .int v87), (5, .int v88)]) hx hb dX7_levels_119 hl (by decide) rfl (fun ls hl => ?_)
                          refine lv_iload hx hb dX7_levels_121 (lv_at hl 0 rfl) ?_
                          refine lv_if_ge (tgt := 130) hx hb dX7_levels_123 (by decide) (fun c98 => ?_) (fun c98 => ?_)
                          · have h := zY c98 h
                            refine lv_iload hx hb dX7_levels_130 (lv_at hl 0 rfl) ?_
                            refine lv_iconst (v := 1) hx hb dX7_levels_132 (by decide) ?_
                            refine lv_iadd hx hb dX7_levels_133 ?_
                            refine lv_iload hx hb dX7_levels_134 (lv_at hl 5 rfl) ?_
                            refine lv_icmp_le (tgt := 146) hx hb dX7_levels_136 (by decide) (fun c99 => ?_) (fun c99 => ?_)
                            · have h := zY c99 h
                              refine lv_iload hx hb dX7_levels_146 (lv_at hl 5 rfl) ?_
                              refine lv_istore (lv' := [(4, .int v87), (6, .int v97), (3, .int v71), (0, .ref a7), (1, .int v54), (2, .int v68), (5, .int v88)]) hx hb dX7_levels_148 hl (by decide) rfl (fun ls hl => ?_)
                              obtain ⟨v100, ev100, h⟩ := zL_spec h
                              refine lv_iinc (v := v100) (lv' := [(5, .int v100), (4, .int v87), (6, .int v97), (3, .int v71), (0, .ref a7), (1, .int v54), (2, .int v68)]) hx hb dX7_levels_150 hl (k := 6) rfl (by rw [ev100]; rfl) (by decide) rfl (fun ls hl => ?_)
                              refine lv_goto (tgt := 79) hx hb dX7_levels_153 (by decide) ?_
                              have h := zI_l h hx81
                              exact (eG75 _ _ _ _ _).mp (ihlp77 v87 v100 _ _ _ h hP hD hS (lv_sub hl [3, 4, 5, 6, 1, 0] rfl))
                            · have h := zN c99 h
                              refine lv_iload hx hb dX7_levels_139 (lv_at hl 0 rfl) ?_
                              refine lv_iconst (v := 1) hx hb dX7_levels_141 (by decide) ?_
                              refine lv_iadd hx hb dX7_levels_142 ?_
                              refine lv_goto (tgt := 148) hx hb dX7_levels_143 (by decide) ?_
                              obtain ⟨v101, ev101, h⟩ := zL_spec h
                              refine zTopi ev101 ?_
                              refine lv_istore (lv' := [(4, .int v101), (6, .int v97), (3, .int v71), (0, .ref a7), (1, .int v54), (2, .int v68), (5, .int v88)]) hx hb dX7_levels_148 hl (by decide) rfl (fun ls hl => ?_)
                              obtain ⟨v102, ev102, h⟩ := zL_spec h
                              refine lv_iinc (v := v102) (lv' := [(5, .int v102), (4, .int v101), (6, .int v97), (3, .int v71), (0, .ref a7), (1, .int v54), (2, .int v68)]) hx hb dX7_levels_150 hl (k := 6) rfl (by rw [ev102]; rfl) (by decide) rfl (fun ls hl => ?_)
                              refine lv_goto (tgt := 79) hx hb dX7_levels_153 (by decide) ?_
                              have h := zI_l h hx81
                              exact (eG75 _ _ _ _ _).mp (ihlp77 v101 v102 _ _ _ h hP hD hS (lv_sub hl [3, 4, 5, 6, 1, 0] rfl))
                          · have h := zN c98 h
                            refine lv_iconst (v := (-1)) hx hb dX7_levels_126 (by decide) ?_
                            refine lv_goto (tgt := 148) hx hb dX7_levels_127 (by decide) ?_
                            refine lv_istore (lv' := [(4, .int (-1)), (6, .int v97), (3, .int v71), (0, .ref a7), (1, .int v54), (2, .int v68), (5, .int v88)]) hx hb dX7_levels_148 hl (by decide) rfl (fun ls hl => ?_)
                            obtain ⟨v103, ev103, h⟩ := zL_spec h
                            refine lv_iinc (v := v103) (lv' := [(5, .int v103), (4, .int (-1)), (6, .int v97), (3, .int v71), (0, .ref a7), (1, .int v54), (2, .int v68)]) hx hb dX7_levels_150 hl (k := 6) rfl (by rw [ev103]; rfl) (by decide) rfl (fun ls hl => ?_)
                            refine lv_goto (tgt := 79) hx hb dX7_levels_153 (by decide) ?_
                            have h := zI_l h hx81
                            exact (eG75 _ _ _ _ _).mp (ihlp77 (-1 : Int32) v103 _ _ _ h hP hD hS (lv_sub hl [3, 4, 5, 6, 1, 0] rfl))
                  exact lp77 zF (0 : Int32) (0 : Int32) _ _ _ hi79 hP hD hS (lv_sub hl [2, 3, 4, 5, 1, 0] rfl)
                · have h := zN c73 h
                  refine lv_goto (tgt := 164) hx hb dX7_levels_70 (by decide) ?_
                  obtain ⟨v104, ev104, h⟩ := zL_spec h
                  refine lv_iinc (v := v104) (lv' := [(2, .int v104), (3, .int v71), (0, .ref a7), (1, .int v54)]) hx hb dX7_levels_164 hl (k := 3) rfl (by rw [ev104]; rfl) (by decide) rfl (fun ls hl => ?_)
                  refine lv_goto (tgt := 43) hx hb dX7_levels_167 (by decide) ?_
                  have h := zI_l h hx64
                  exact (eG58 _ _ _ _ _).mp (ihlp60 v104 s7_69 _ _ _ h hP hD hS (lv_sub hl [2, 3, 0] rfl))
          exact lp60 zF (0 : Int32) s7_55 _ _ _ hi62 hP hD hS (lv_sub hl [1, 2, 0] rfl)
    exact lp14 zF (0 : Int32) s7_10 _ _ _ hi16 hP hD hS (lv_sub hl [1, 0] rfl)
  have lp4 : ∀ (n : Nat) (v105 : Int32) (s7_106 : SS) (HGW1 : Heap) (locs : List Loc) (ls : Array Slot), zI (b_X7_levels_2) n (v105, s7_106) = some ov5 → va_P (dC, dI) vwCl (cX7 a7 h7 y s7_106) HGW1 → va_D A (cX7 a7 h7 y s7_106) → va_S A s.heap HGW1 locs → lv_has ls 7 [(0, .ref a7), (1, .int v105)] → GW1 HGW1 locs 0 0 (F0 m 2 ls []) := by
    intro n
    induction n with
    | zero =>
      intro v105 s7_106 HGW1 locs ls hi6 hP hD hS hl
      exact (zI_0 hi6).elim
    | succ n ihlp4 =>
      intro v105 s7_106 HGW1 locs ls hi6 hP hD hS hl
      refine (eG2 _ _ _ _ _).mpr ?_
      obtain ⟨xx9, h, hx8⟩ := zI_spec hi6
      refine lv_iload_n hx hb dX7_levels_2 rfl (lv_at hl 1 rfl) ?_
      refine lv_aload_n hx hb dX7_levels_3 rfl (lv_at hl 0 rfl) ?_
      refine va_get (D := (dC, dI)) (ci := 6) (v := .int (gI s7_106 26)) (C := RX7) (T := TX7) (N := 49) hx hb hts inX7_ hown hK hP 0 rfl rfl 26 (by decide) (hts (.fieldLink RX7 185 "GateWheelModel" "read" "I") (List.mem_of_getElem? (i := 1) rfl)) (fun _ h9 => h9) rfl dX7_levels_4 ?_
      refine lv_icmp_ge (tgt := 31) hx hb dX7_levels_7 (by decide) (fun c107 => ?_) (fun c107 => ?_)
      · have h := zY c107 h
        exact (eG2 _ _ _ _ _).mp (je3 s7_106 _ _ _ (zI_r h hx8) hP hD hS (lv_sub hl [0] rfl))
      · have h := zN c107 h
        refine lv_aload_n hx hb dX7_levels_10 rfl (lv_at hl 0 rfl) ?_
        refine va_get (D := (dC, dI)) (ci := 6) (v := .ref (h7 17)) (C := RX7) (T := TX7) (N := 49) hx hb hts inX7_ hown hK hP 0 rfl rfl 17 (by decide) (hts (.fieldLink RX7 40 "GateWheelModel" "nLevel" "[I") (List.mem_of_getElem? (i := 2) rfl)) (fun _ h9 => h9) rfl dX7_levels_11 ?_
        refine lv_bipush (v := 60) hx hb dX7_levels_14 (by decide) ?_
        refine lv_aload_n hx hb dX7_levels_16 rfl (lv_at hl 0 rfl) ?_
        refine va_get (D := (dC, dI)) (ci := 6) (v := .int (gI s7_106 30)) (C := RX7) (T := TX7) (N := 49) hx hb hts inX7_ hown hK hP 0 rfl rfl 30 (by decide) (hts (.fieldLink RX7 188 "GateWheelModel" "bank" "I") (List.mem_of_getElem? (i := 3) rfl)) (fun _ h9 => h9) rfl dX7_levels_17 ?_
        refine lv_imul hx hb dX7_levels_20 ?_
        refine lv_iload_n hx hb dX7_levels_21 rfl (lv_at hl 1 rfl) ?_
        refine lv_iadd hx hb dX7_levels_22 ?_
        refine lv_iconst (v := (-1)) hx hb dX7_levels_23 (by decide) ?_
        obtain ⟨hi108, h⟩ := zG_spec h
        refine va_iast hx hb hK hP hD hS 9 0 rfl rfl hi108 dX7_levels_24 (fun H109 locs hP hD hS => ?_)
        obtain ⟨s7_110, es7_110, h⟩ := zL_spec h
        have hP : va_P (dC, dI) vwCl (cX7 a7 h7 y s7_110) H109 := by rw [es7_110]; exact hP
        have hD : va_D A (cX7 a7 h7 y s7_110) := by rw [es7_110]; exact hD
        obtain ⟨v111, ev111, h⟩ := zL_spec h
        refine lv_iinc (v := v111) (lv' := [(1, .int v111), (0, .ref a7)]) hx hb dX7_levels_25 hl (k := 1) rfl (by rw [ev111]; rfl) (by decide) rfl (fun ls hl => ?_)
        refine lv_goto (tgt := 2) hx hb dX7_levels_28 (by decide) ?_
        have h := zI_l h hx8
        exact (eG2 _ _ _ _ _).mp (ihlp4 v111 s7_110 _ _ _ h hP hD hS (lv_sub hl [1, 0] rfl))
  exact lp4 zF (0 : Int32) S7 _ _ _ hi6 hP hD hS (lv_sub hl [1, 0] rfl)

set_option maxHeartbeats 4000000 in
set_option maxRecDepth 100000 in
theorem m_X7_kind (l : Launch) (dC : Nat → ClassId) (dI : Nat → Nat → Nat) (y : Nat → ClassId) (a7 : Nat) (h7 : Nat → Nat) (S7 : SS) (p1 : Int32) (sz : Nat) (or_ : Int32) (h : f_X7_kind S7 p1 = some or_) : Met l yX7_kind wsX7_kind ({ frames := 0, cells := 0, slots := 0, locals := 0 }) (va_Pc [.ref a7, .int p1] (fun U => U.heap.size = sz ∧ va_P (dC, dI) vwCl (cX7 a7 h7 y S7) U.heap ∧ va_K (dC, dI) vwCl [(y 0, .int), (y 1, .long), (y 2, .byte), (y 3, .boolean)] U ∧ va_D (fun _ => True) (cX7 a7 h7 y S7))) (va_Qi (fun (r : Int32) (_ : Unit) => r = or_) (fun (_ : Unit) (t : State) => va_P (dC, dI) vwCl (cX7 a7 h7 y S7) t.heap ∧ va_K (dC, dI) vwCl [(y 0, .int), (y 1, .long), (y 2, .byte), (y 3, .boolean)] t ∧ va_D (va_A (cX7 a7 h7 y S7) sz) (cX7 a7 h7 y S7)) (va_A (cX7 a7 h7 y S7) sz)) 0 0 (va_A (cX7 a7 h7 y S7) sz) := by
  refine Met.ofW (cc := cX7_kind) (maxL := 2) (ret := (some .int)) (by decide +kernel) rfl ?_
  intro p e s m args below meth c s₁ B hml hv
  obtain ⟨rfl, hsz, hP, hK, hD0⟩ := hv
  have hx := B.exec
  have hb := B.bytes
  have hr := B.returns
  have hts := atoms_spec (ws := wsX7_kind) B.pre
  have hown : s.vm.findClass RX7 = some m.cls := findClass_of_methodNamed B.named
  have hlocks := B.notSynchronized
  have inX7_ : ∀ w ∈ wsX70, w ∈ wsX7_kind := fun _ h => List.mem_cons_of_mem _ (List.mem_append_right _ h)
  subst hsz
  have hD := hD0.self (sz := s.heap.size)
  generalize hAe : va_A (cX7 a7 h7 y S7) s.heap.size = A at hD ⊢
  have hA : ∀ q : Nat, s.heap.size ≤ q → A q := fun q h => by rw [← hAe]; exact Or.inr h
  have hS : va_S A s.heap s.heap [] := va_S.rf
  have hP : va_P (dC, dI) vwCl (cX7 a7 h7 y S7) s.heap := hP
  have hl := lv_entry ([.ref a7, .int p1]) (n := 2) (Nat.le_of_ble_eq_true rfl)
  rw [lg_entry_eq]
  generalize (lg_sl ([.ref a7, .int p1]) ++ List.replicate (2 - (lg_sl ([.ref a7, .int p1])).length) Slot.unset).toArray = ls at hl ⊢
  have hl : lv_has ls 2 [(0, .ref a7), (1, .int p1)] := hl
  refine lv_aload_n hx hb dX7_kind_0 rfl (lv_at hl 0 rfl) ?_
  refine va_get (D := (dC, dI)) (ci := 6) (v := .ref (h7 12)) (C := RX7) (T := TX7) (N := 49) hx hb hts inX7_ hown hK hP 0 rfl rfl 12 (by decide) (hts (.fieldLink RX7 24 "GateWheelModel" "nKind" "[I") (List.mem_of_getElem? (i := 1) rfl)) (fun _ h9 => h9) rfl dX7_kind_1 ?_
  refine lv_bipush (v := 60) hx hb dX7_kind_4 (by decide) ?_
  refine lv_aload_n hx hb dX7_kind_6 rfl (lv_at hl 0 rfl) ?_
  refine va_get (D := (dC, dI)) (ci := 6) (v := .int (gI S7 30)) (C := RX7) (T := TX7) (N := 49) hx hb hts inX7_ hown hK hP 0 rfl rfl 30 (by decide) (hts (.fieldLink RX7 188 "GateWheelModel" "bank" "I") (List.mem_of_getElem? (i := 2) rfl)) (fun _ h9 => h9) rfl dX7_kind_7 ?_
  refine lv_imul hx hb dX7_kind_10 ?_
  refine lv_iload_n hx hb dX7_kind_11 rfl (lv_at hl 1 rfl) ?_
  refine lv_iadd hx hb dX7_kind_12 ?_
  obtain ⟨hi1, h⟩ := zG_spec h
  refine va_iald hx hb hK hP 4 0 rfl rfl hi1 dX7_kind_13 ?_
  have ho0 : (gA S7 12 (((60 : Int32) * (gI S7 30)) + p1).toNatClampNeg) = or_ := congrArg (fun z : Int32 => z) (Option.some.inj h)
  exact W.iret (v := (gA S7 12 (((60 : Int32) * (gI S7 30)) + p1).toNatClampNeg)) hx hb hr (fun t ht hW => ⟨⟨(gA S7 12 (((60 : Int32) * (gI S7 30)) + p1).toNatClampNeg), (), rfl, ho0, by rw [ht]; exact hP, va_K.moved hW.alike hK, hD⟩, hS.F ht⟩) hS.2.2 dX7_kind_14

set_option maxHeartbeats 4000000 in
set_option maxRecDepth 100000 in
theorem m_X7_in (l : Launch) (dC : Nat → ClassId) (dI : Nat → Nat → Nat) (y : Nat → ClassId) (a7 : Nat) (h7 : Nat → Nat) (S7 : SS) (p1 : Int32) (p2 : Int32) (sz : Nat) (or_ : Int32) (h : f_X7_in S7 p1 p2 = some or_) : Met l yX7_in wsX7_in ({ frames := 0, cells := 0, slots := 0, locals := 0 }) (va_Pc [.ref a7, .int p1, .int p2] (fun U => U.heap.size = sz ∧ va_P (dC, dI) vwCl (cX7 a7 h7 y S7) U.heap ∧ va_K (dC, dI) vwCl [(y 0, .int), (y 1, .long), (y 2, .byte), (y 3, .boolean)] U ∧ va_D (fun _ => True) (cX7 a7 h7 y S7))) (va_Qi (fun (r : Int32) (_ : Unit) => r = or_) (fun (_ : Unit) (t : State) => va_P (dC, dI) vwCl (cX7 a7 h7 y S7) t.heap ∧ va_K (dC, dI) vwCl [(y 0, .int), (y 1, .long), (y 2, .byte), (y 3, .boolean)] t ∧ va_D (va_A (cX7 a7 h7 y S7) sz) (cX7 a7 h7 y S7)) (va_A (cX7 a7 h7 y S7) sz)) 0 0 (va_A (cX7 a7 h7 y S7) sz) := by
  refine Met.ofW (cc := cX7_in) (maxL := 3) (ret := (some .int)) (by decide +kernel) rfl ?_
  intro p e s m args below meth c s₁ B hml hv
  obtain ⟨rfl, hsz, hP, hK, hD0⟩ := hv
  have hx := B.exec
  have hb := B.bytes
  have hr := B.returns
  have hts := atoms_spec (ws := wsX7_in) B.pre
  have hown : s.vm.findClass RX7 = some m.cls := findClass_of_methodNamed B.named
  have hlocks := B.notSynchronized
  have inX7_ : ∀ w ∈ wsX70, w ∈ wsX7_in := fun _ h => List.mem_cons_of_mem _ (List.mem_append_right _ h)
  subst hsz
  have hD := hD0.self (sz := s.heap.size)
  generalize hAe : va_A (cX7 a7 h7 y S7) s.heap.size = A at hD ⊢
  have hA : ∀ q : Nat, s.heap.size ≤ q → A q := fun q h => by rw [← hAe]; exact Or.inr h
  have hS : va_S A s.heap s.heap [] := va_S.rf
  have hP : va_P (dC, dI) vwCl (cX7 a7 h7 y S7) s.heap := hP
  have hl := lv_entry ([.ref a7, .int p1, .int p2]) (n := 3) (Nat.le_of_ble_eq_true rfl)
  rw [lg_entry_eq]
  generalize (lg_sl ([.ref a7, .int p1, .int p2]) ++ List.replicate (3 - (lg_sl ([.ref a7, .int p1, .int p2])).length) Slot.unset).toArray = ls at hl ⊢
  have hl : lv_has ls 3 [(0, .ref a7), (1, .int p1), (2, .int p2)] := hl
  refine lv_aload_n hx hb dX7_in_0 rfl (lv_at hl 0 rfl) ?_
  refine va_get (D := (dC, dI)) (ci := 6) (v := .ref (h7 16)) (C := RX7) (T := TX7) (N := 49) hx hb hts inX7_ hown hK hP 0 rfl rfl 16 (by decide) (hts (.fieldLink RX7 37 "GateWheelModel" "nIn" "[I") (List.mem_of_getElem? (i := 1) rfl)) (fun _ h9 => h9) rfl dX7_in_1 ?_
  refine lv_bipush (v := 12) hx hb dX7_in_4 (by decide) ?_
  refine lv_bipush (v := 60) hx hb dX7_in_6 (by decide) ?_
  refine lv_aload_n hx hb dX7_in_8 rfl (lv_at hl 0 rfl) ?_
  refine va_get (D := (dC, dI)) (ci := 6) (v := .int (gI S7 30)) (C := RX7) (T := TX7) (N := 49) hx hb hts inX7_ hown hK hP 0 rfl rfl 30 (by decide) (hts (.fieldLink RX7 188 "GateWheelModel" "bank" "I") (List.mem_of_getElem? (i := 2) rfl)) (fun _ h9 => h9) rfl dX7_in_9 ?_
  refine lv_imul hx hb dX7_in_12 ?_
  refine lv_iload_n hx hb dX7_in_13 rfl (lv_at hl 1 rfl) ?_
  refine lv_iadd hx hb dX7_in_14 ?_
  refine lv_imul hx hb dX7_in_15 ?_
  refine lv_iload_n hx hb dX7_in_16 rfl (lv_at hl 2 rfl) ?_
  refine lv_iadd hx hb dX7_in_17 ?_
  obtain ⟨hi1, h⟩ := zG_spec h
  refine va_iald hx hb hK hP 8 0 rfl rfl hi1 dX7_in_18 ?_
  have ho0 : (gA S7 16 (((12 : Int32) * (((60 : Int32) * (gI S7 30)) + p1)) + p2).toNatClampNeg) = or_ := congrArg (fun z : Int32 => z) (Option.some.inj h)
  exact W.iret (v := (gA S7 16 (((12 : Int32) * (((60 : Int32) * (gI S7 30)) + p1)) + p2).toNatClampNeg)) hx hb hr (fun t ht hW => ⟨⟨(gA S7 16 (((12 : Int32) * (((60 : Int32) * (gI S7 30)) + p1)) + p2).toNatClampNeg), (), rfl, ho0, by rw [ht]; exact hP, va_K.moved hW.alike hK, hD⟩, hS.F ht⟩) hS.2.2 dX7_in_19

set_option maxHeartbeats 4000000 in
set_option maxRecDepth 100000 in
theorem m_X7_gate (l : Launch) (dC : Nat → ClassId) (dI : Nat → Nat → Nat) (y : Nat → ClassId) (a7 : Nat) (h7 : Nat → Nat) (S7 : SS) (p1 : Int32) (q : Nat) (pq : Nat) (hq : SQ a7 h7 y q pq) (sz : Nat) (or_ : Int32) (h : f_X7_gate S7 p1 q = some or_) : Met l yX7_gate wsX7_gate ({ frames := 1, cells := 0, slots := 0, locals := 22 }) (va_Pc [.ref a7, .int p1, .ref (h7 q)] (fun U => U.heap.size = sz ∧ va_P (dC, dI) vwCl (cX7 a7 h7 y S7) U.heap ∧ va_K (dC, dI) vwCl [(y 0, .int), (y 1, .long), (y 2, .byte), (y 3, .boolean)] U ∧ va_D (fun _ => True) (cX7 a7 h7 y S7))) (va_Qi (fun (r : Int32) (_ : Unit) => r = or_) (fun (_ : Unit) (t : State) => va_P (dC, dI) vwCl (cX7 a7 h7 y S7) t.heap ∧ va_K (dC, dI) vwCl [(y 0, .int), (y 1, .long), (y 2, .byte), (y 3, .boolean)] t ∧ va_D (va_A (cX7 a7 h7 y S7) sz) (cX7 a7 h7 y S7)) (va_A (cX7 a7 h7 y S7) sz)) 0 0 (va_A (cX7 a7 h7 y S7) sz) := by
  refine Met.ofW (cc := cX7_gate) (maxL := 9) (ret := (some .int)) (by decide +kernel) rfl ?_
  intro p e s m args below meth c s₁ B hml hv
  obtain ⟨rfl, hsz, hP, hK, hD0⟩ := hv
  have hx := B.exec
  have hb := B.bytes
  have hr := B.returns
  have hts := atoms_spec (ws := wsX7_gate) B.pre
  have hown : s.vm.findClass RX7 = some m.cls := findClass_of_methodNamed B.named
  have hlocks := B.notSynchronized
  have inX7_ : ∀ w ∈ wsX70, w ∈ wsX7_gate := fun _ h => List.mem_cons_of_mem _ (List.mem_append_right _ h)
  subst hsz
  have hD := hD0.self (sz := s.heap.size)
  generalize hAe : va_A (cX7 a7 h7 y S7) s.heap.size = A at hD ⊢
  have hA : ∀ q : Nat, s.heap.size ≤ q → A q := fun q h => by rw [← hAe]; exact Or.inr h
  have hS : va_S A s.heap s.heap [] := va_S.rf
  have hP : va_P (dC, dI) vwCl (cX7 a7 h7 y S7) s.heap := hP
  have hl := lv_entry ([.ref a7, .int p1, .ref (h7 q)]) (n := 9) (Nat.le_of_ble_eq_true rfl)
  rw [lg_entry_eq]
  generalize (lg_sl ([.ref a7, .int p1, .ref (h7 q)]) ++ List.replicate (9 - (lg_sl ([.ref a7, .int p1, .ref (h7 q)])).length) Slot.unset).toArray = ls at hl ⊢
  have hl : lv_has ls 9 [(0, .ref a7), (1, .int p1), (2, .ref (h7 q))] := hl
  refine lv_bipush (v := 60) hx hb dX7_gate_0 (by decide) ?_
  refine lv_aload_n hx hb dX7_gate_2 rfl (lv_at hl 0 rfl) ?_
  refine va_get (D := (dC, dI)) (ci := 6) (v := .int (gI S7 30)) (C := RX7) (T := TX7) (N := 49) hx hb hts inX7_ hown hK hP 0 rfl rfl 30 (by decide) (hts (.fieldLink RX7 188 "GateWheelModel" "bank" "I") (List.mem_of_getElem? (i := 1) rfl)) (fun _ h9 => h9) rfl dX7_gate_3 ?_
  refine lv_imul hx hb dX7_gate_6 ?_
  refine lv_iload_n hx hb dX7_gate_7 rfl (lv_at hl 1 rfl) ?_
  refine lv_iadd hx hb dX7_gate_8 ?_
  obtain ⟨v1, ev1, h⟩ := zL_spec h
  refine zTopi ev1 ?_
  refine lv_istore_n (lv' := [(3, .int v1), (0, .ref a7), (1, .int p1), (2, .ref (h7 q))]) hx hb dX7_gate_9 rfl hl (by decide) rfl (fun ls hl => ?_)
  refine lv_aload_n hx hb dX7_gate_10 rfl (lv_at hl 1 rfl) ?_
  refine va_get (D := (dC, dI)) (ci := 6) (v := .ref (h7 13)) (C := RX7) (T := TX7) (N := 49) hx hb hts inX7_ hown hK hP 0 rfl rfl 13 (by decide) (hts (.fieldLink RX7 28 "GateWheelModel" "nGate" "[I") (List.mem_of_getElem? (i := 2) rfl)) (fun _ h9 => h9) rfl dX7_gate_11 ?_
  refine lv_iload_n hx hb dX7_gate_14 rfl (lv_at hl 0 rfl) ?_
  obtain ⟨hi2, h⟩ := zG_spec h
  refine va_iald hx hb hK hP 5 0 rfl rfl hi2 dX7_gate_15 ?_
  obtain ⟨v3, ev3, h⟩ := zL_spec h
  refine zTopi ev3 ?_
  refine lv_istore (lv' := [(4, .int v3), (3, .int v1), (0, .ref a7), (1, .int p1), (2, .ref (h7 q))]) hx hb dX7_gate_16 hl (by decide) rfl (fun ls hl => ?_)
  refine lv_iload hx hb dX7_gate_18 (lv_at hl 0 rfl) ?_
  refine lv_bipush (v := 8) hx hb dX7_gate_20 (by decide) ?_
  refine lv_icmp_ne (tgt := 99) hx hb dX7_gate_22 (by decide) (fun c4 => ?_) (fun c4 => ?_)
  · have h := zN c4 h
    refine lv_iconst (v := 0) hx hb dX7_gate_99 (by decide) ?_
    refine lv_istore (lv' := [(5, .int 0), (4, .int v3), (3, .int v1), (0, .ref a7), (1, .int p1), (2, .ref (h7 q))]) hx hb dX7_gate_100 hl (by decide) rfl (fun ls hl => ?_)
    refine lv_iconst (v := 0) hx hb dX7_gate_102 (by decide) ?_
    refine lv_istore (lv' := [(6, .int 0), (5, .int 0), (4, .int v3), (3, .int v1), (0, .ref a7), (1, .int p1), (2, .ref (h7 q))]) hx hb dX7_gate_103 hl (by decide) rfl (fun ls hl => ?_)
    refine lv_iconst (v := 0) hx hb dX7_gate_105 (by decide) ?_
    refine lv_istore (lv' := [(7, .int 0), (6, .int 0), (5, .int 0), (4, .int v3), (3, .int v1), (0, .ref a7), (1, .int p1), (2, .ref (h7 q))]) hx hb dX7_gate_106 hl (by decide) rfl (fun ls hl => ?_)
    refine W_abs (fun GW5 eG6 => ?_)
    obtain ⟨ov9, hi10, h⟩ := zB_spec h
    have je7 : ∀ (v14 : Int32) (v15 : Int32) (HGW5e : Heap) (locs : List Loc) (ls : Array Slot), (v14, v15) = ov9 → va_P (dC, dI) vwCl (cX7 a7 h7 y S7) HGW5e → va_D A (cX7 a7 h7 y S7) → va_S A s.heap HGW5e locs → lv_has ls 9 [(4, .int v3), (3, .int v1), (0, .ref a7), (5, .int v14), (6, .int v15)] → GW5 HGW5e locs 0 0 (F0 m 170 ls []) := by
      intro v14 v15 HGW5e locs ls hv hP hD hS hl
      subst hv
      refine (eG6 _ _ _ _ _).mpr ?_
      refine lv_iload hx hb dX7_gate_170 (lv_at hl 3 rfl) ?_
      refine lv_iload hx hb dX7_gate_172 (lv_at hl 4 rfl) ?_
      refine lv_iadd hx hb dX7_gate_174 ?_
      refine lv_aload_n hx hb dX7_gate_175 rfl (lv_at hl 2 rfl) ?_
      refine va_get (D := (dC, dI)) (ci := 6) (v := .ref (h7 14)) (C := RX7) (T := TX7) (N := 49) hx hb hts inX7_ hown hK hP 0 rfl rfl 14 (by decide) (hts (.fieldLink RX7 31 "GateWheelModel" "nMany" "[I") (List.mem_of_getElem? (i := 3) rfl)) (fun _ h9 => h9) rfl dX7_gate_176 ?_
      refine lv_iload_n hx hb dX7_gate_179 rfl (lv_at hl 1 rfl) ?_
      refine va_iald hx hb hK hP 6 0 rfl rfl hi2 dX7_gate_180 ?_
      refine W_abs (fun GW16 eG17 => ?_)
      obtain ⟨ov19, hr20, h⟩ := zB_spec h
      have jn18 : ∀ (v22 : Int32) (HGW16 : Heap) (locs : List Loc) (ls : Array Slot), v22 = ov19 → va_P (dC, dI) vwCl (cX7 a7 h7 y S7) HGW16 → va_D A (cX7 a7 h7 y S7) → va_S A s.heap HGW16 locs → lv_has ls 9 [(4, .int v3), (5, .int v14), (6, .int v15)] → GW16 HGW16 locs 0 0 (F0 m 189 ls [.int v22]) := by
        intro v22 HGW16 locs ls hv hP hD hS hl
        subst hv
        refine (eG17 _ _ _ _ _).mpr ?_
        refine lv_istore (lv' := [(7, .int v22), (4, .int v3), (5, .int v14), (6, .int v15)]) hx hb dX7_gate_189 hl (by decide) rfl (fun ls hl => ?_)
        refine lv_iload hx hb dX7_gate_191 (lv_at hl 1 rfl) ?_
        refine W_abs (fun GW23 eG24 => ?_)
        obtain ⟨ov26, hr27, h⟩ := zB_spec h
        have jn25 : ∀ (v29 : Int32) (HGW23 : Heap) (locs : List Loc) (ls : Array Slot), v29 = ov26 → va_P (dC, dI) vwCl (cX7 a7 h7 y S7) HGW23 → va_D A (cX7 a7 h7 y S7) → va_S A s.heap HGW23 locs → lv_has ls 9 [(4, .int v3)] → GW23 HGW23 locs 0 0 (F0 m 271 ls [.int v29]) := by
          intro v29 HGW23 locs ls hv hP hD hS hl
          subst hv
          refine (eG24 _ _ _ _ _).mpr ?_
          refine lv_istore (lv' := [(8, .int v29), (4, .int v3)]) hx hb dX7_gate_271 hl (by decide) rfl (fun ls hl => ?_)
          refine lv_iload hx hb dX7_gate_273 (lv_at hl 0 rfl) ?_
          refine lv_iconst (v := 2) hx hb dX7_gate_275 (by decide) ?_
          refine lv_icmp_eq (tgt := 303) hx hb dX7_gate_276 (by decide) (fun c30 => ?_) (fun c30 => ?_)
          · have h := zY c30 h
            refine lv_iload hx hb dX7_gate_303 (lv_at hl 0 rfl) ?_
            refine lv_goto (tgt := 312) hx hb dX7_gate_305 (by decide) ?_
            have ho0 : v29 = or_ := congrArg (fun z : Int32 => z) (Option.some.inj h)
            exact W.iret (v := v29) hx hb hr (fun t ht hW => ⟨⟨v29, (), rfl, ho0, by rw [ht]; exact hP, va_K.moved hW.alike hK, hD⟩, hS.F ht⟩) hS.2.2 dX7_gate_312
          · have h := zN c30 h
            refine lv_iload hx hb dX7_gate_279 (lv_at hl 1 rfl) ?_
            refine lv_if_eq (tgt := 303) hx hb dX7_gate_281 (by decide) (fun c31 => ?_) (fun c31 => ?_)
            · have h := zY c31 h
              refine lv_iload hx hb dX7_gate_303 (lv_at hl 0 rfl) ?_
              refine lv_goto (tgt := 312) hx hb dX7_gate_305 (by decide) ?_
              have ho0 : v29 = or_ := congrArg (fun z : Int32 => z) (Option.some.inj h)
              exact W.iret (v := v29) hx hb hr (fun t ht hW => ⟨⟨v29, (), rfl, ho0, by rw [ht]; exact hP, va_K.moved hW.alike hK, hD⟩, hS.F ht⟩) hS.2.2 dX7_gate_312
            · have h := zN c31 h
              refine lv_iload hx hb dX7_gate_284 (lv_at hl 1 rfl) ?_
              refine lv_iconst (v := 1) hx hb dX7_gate_286 (by decide) ?_
              refine lv_icmp_eq (tgt := 303) hx hb dX7_gate_287 (by decide) (fun c32 => ?_) (fun c32 => ?_)
              · have h := zY c32 h
                refine lv_iload hx hb dX7_gate_303 (lv_at hl 0 rfl) ?_
                refine lv_goto (tgt := 312) hx hb dX7_gate_305 (by decide) ?_
                have ho0 : v29 = or_ := congrArg (fun z : Int32 => z) (Option.some.inj h)
                exact W.iret (v := v29) hx hb hr (fun t ht hW => ⟨⟨v29, (), rfl, ho0, by rw [ht]; exact hP, va_K.moved hW.alike hK, hD⟩, hS.F ht⟩) hS.2.2 dX7_gate_312
              · have h := zN c32 h
                refine lv_iload hx hb dX7_gate_290 (lv_at hl 1 rfl) ?_
                refine lv_iconst (v := 4) hx hb dX7_gate_292 (by decide) ?_
                refine lv_icmp_eq (tgt := 303) hx hb dX7_gate_293 (by decide) (fun c33 => ?_) (fun c33 => ?_)
                · have h := zY c33 h
                  refine lv_iload hx hb dX7_gate_303 (lv_at hl 0 rfl) ?_
                  refine lv_goto (tgt := 312) hx hb dX7_gate_305 (by decide) ?_
                  have ho0 : v29 = or_ := congrArg (fun z : Int32 => z) (Option.some.inj h)
                  exact W.iret (v := v29) hx hb hr (fun t ht hW => ⟨⟨v29, (), rfl, ho0, by rw [ht]; exact hP, va_K.moved hW.alike hK, hD⟩, hS.F ht⟩) hS.2.2 dX7_gate_312
                · have h := zN c33 h
                  refine lv_iload hx hb dX7_gate_296 (lv_at hl 1 rfl) ?_
                  refine lv_bipush (v := 7) hx hb dX7_gate_298 (by decide) ?_
                  refine lv_icmp_ne (tgt := 308) hx hb dX7_gate_300 (by decide) (fun c34 => ?_) (fun c34 => ?_)
                  · have h := zN c34 h
                    refine lv_iconst (v := 1) hx hb dX7_gate_308 (by decide) ?_
                    refine lv_iload hx hb dX7_gate_309 (lv_at hl 0 rfl) ?_
                    refine lv_isub hx hb dX7_gate_311 ?_
                    have ho0 : ((1 : Int32) - v29) = or_ := congrArg (fun z : Int32 => z) (Option.some.inj h)
                    exact W.iret (v := ((1 : Int32) - v29)) hx hb hr (fun t ht hW => ⟨⟨((1 : Int32) - v29), (), rfl, ho0, by rw [ht]; exact hP, va_K.moved hW.alike hK, hD⟩, hS.F ht⟩) hS.2.2 dX7_gate_312
                  · have h := zY c34 h
                    refine lv_iload hx hb dX7_gate_303 (lv_at hl 0 rfl) ?_
                    refine lv_goto (tgt := 312) hx hb dX7_gate_305 (by decide) ?_
                    have ho0 : v29 = or_ := congrArg (fun z : Int32 => z) (Option.some.inj h)
                    exact W.iret (v := v29) hx hb hr (fun t ht hW => ⟨⟨v29, (), rfl, ho0, by rw [ht]; exact hP, va_K.moved hW.alike hK, hD⟩, hS.F ht⟩) hS.2.2 dX7_gate_312
        refine (eG24 _ _ _ _ _).mpr ?_
        have h := hr27
        refine lv_if_eq (tgt := 202) hx hb dX7_gate_193 (by decide) (fun c35 => ?_) (fun c35 => ?_)
        · have h := zY c35 h
          refine lv_iload hx hb dX7_gate_202 (lv_at hl 3 rfl) ?_
          refine lv_if_le (tgt := 211) hx hb dX7_gate_204 (by decide) (fun c36 => ?_) (fun c36 => ?_)
          · have h := zY c36 h
            refine lv_iload hx hb dX7_gate_211 (lv_at hl 0 rfl) ?_
            refine lv_if_eq (tgt := 220) hx hb dX7_gate_213 (by decide) (fun c37 => ?_) (fun c37 => ?_)
            · have h := zY c37 h
              refine lv_iconst (v := 2) hx hb dX7_gate_220 (by decide) ?_
              refine lv_goto (tgt := 271) hx hb dX7_gate_221 (by decide) ?_
              exact (eG24 _ _ _ _ _).mp (jn25 (2 : Int32) _ _ _ (Option.some.inj h) hP hD hS (lv_sub hl [1] rfl))
            · have h := zN c37 h
              refine lv_iconst (v := 1) hx hb dX7_gate_216 (by decide) ?_
              refine lv_goto (tgt := 271) hx hb dX7_gate_217 (by decide) ?_
              exact (eG24 _ _ _ _ _).mp (jn25 (1 : Int32) _ _ _ (Option.some.inj h) hP hD hS (lv_sub hl [1] rfl))
          · have h := zN c36 h
            refine lv_iconst (v := 0) hx hb dX7_gate_207 (by decide) ?_
            refine lv_goto (tgt := 271) hx hb dX7_gate_208 (by decide) ?_
            exact (eG24 _ _ _ _ _).mp (jn25 (0 : Int32) _ _ _ (Option.some.inj h) hP hD hS (lv_sub hl [1] rfl))
        · have h := zN c35 h
          refine lv_iload hx hb dX7_gate_196 (lv_at hl 1 rfl) ?_
          refine lv_iconst (v := 2) hx hb dX7_gate_198 (by decide) ?_
          refine lv_icmp_ne (tgt := 224) hx hb dX7_gate_199 (by decide) (fun c38 => ?_) (fun c38 => ?_)
          · have h := zN c38 h
            refine lv_iload hx hb dX7_gate_224 (lv_at hl 1 rfl) ?_
            refine lv_iconst (v := 1) hx hb dX7_gate_226 (by decide) ?_
            refine lv_icmp_eq (tgt := 236) hx hb dX7_gate_227 (by decide) (fun c39 => ?_) (fun c39 => ?_)
            · have h := zY c39 h
              refine lv_iload hx hb dX7_gate_236 (lv_at hl 2 rfl) ?_
              refine lv_if_le (tgt := 245) hx hb dX7_gate_238 (by decide) (fun c40 => ?_) (fun c40 => ?_)
              · have h := zY c40 h
                refine lv_iload hx hb dX7_gate_245 (lv_at hl 0 rfl) ?_
                refine lv_if_eq (tgt := 254) hx hb dX7_gate_247 (by decide) (fun c41 => ?_) (fun c41 => ?_)
                · have h := zY c41 h
                  refine lv_iconst (v := 2) hx hb dX7_gate_254 (by decide) ?_
                  refine lv_goto (tgt := 271) hx hb dX7_gate_255 (by decide) ?_
                  exact (eG24 _ _ _ _ _).mp (jn25 (2 : Int32) _ _ _ (Option.some.inj h) hP hD hS (lv_sub hl [1] rfl))
                · have h := zN c41 h
                  refine lv_iconst (v := 0) hx hb dX7_gate_250 (by decide) ?_
                  refine lv_goto (tgt := 271) hx hb dX7_gate_251 (by decide) ?_
                  exact (eG24 _ _ _ _ _).mp (jn25 (0 : Int32) _ _ _ (Option.some.inj h) hP hD hS (lv_sub hl [1] rfl))
              · have h := zN c40 h
                refine lv_iconst (v := 1) hx hb dX7_gate_241 (by decide) ?_
                refine lv_goto (tgt := 271) hx hb dX7_gate_242 (by decide) ?_
                exact (eG24 _ _ _ _ _).mp (jn25 (1 : Int32) _ _ _ (Option.some.inj h) hP hD hS (lv_sub hl [1] rfl))
            · have h := zN c39 h
              refine lv_iload hx hb dX7_gate_230 (lv_at hl 1 rfl) ?_
              refine lv_iconst (v := 3) hx hb dX7_gate_232 (by decide) ?_
              refine lv_icmp_ne (tgt := 258) hx hb dX7_gate_233 (by decide) (fun c42 => ?_) (fun c42 => ?_)
              · have h := zN c42 h
                refine lv_iload hx hb dX7_gate_258 (lv_at hl 0 rfl) ?_
                refine lv_if_eq (tgt := 270) hx hb dX7_gate_260 (by decide) (fun c43 => ?_) (fun c43 => ?_)
                · have h := zY c43 h
                  refine lv_iconst (v := 2) hx hb dX7_gate_270 (by decide) ?_
                  exact (eG24 _ _ _ _ _).mp (jn25 (2 : Int32) _ _ _ (Option.some.inj h) hP hD hS (lv_sub hl [1] rfl))
                · have h := zN c43 h
                  refine lv_iload hx hb dX7_gate_263 (lv_at hl 2 rfl) ?_
                  refine lv_iconst (v := 2) hx hb dX7_gate_265 (by decide) ?_
                  refine lv_irem hx hb dX7_gate_266 (by decide) ?_
                  refine lv_goto (tgt := 271) hx hb dX7_gate_267 (by decide) ?_
                  exact (eG24 _ _ _ _ _).mp (jn25 (v14 - v14 / (2 : Int32) * (2 : Int32)) _ _ _ (Option.some.inj h) hP hD hS (lv_sub hl [1] rfl))
              · have h := zY c42 h
                refine lv_iload hx hb dX7_gate_236 (lv_at hl 2 rfl) ?_
                refine lv_if_le (tgt := 245) hx hb dX7_gate_238 (by decide) (fun c44 => ?_) (fun c44 => ?_)
                · have h := zY c44 h
                  refine lv_iload hx hb dX7_gate_245 (lv_at hl 0 rfl) ?_
                  refine lv_if_eq (tgt := 254) hx hb dX7_gate_247 (by decide) (fun c45 => ?_) (fun c45 => ?_)
                  · have h := zY c45 h
                    refine lv_iconst (v := 2) hx hb dX7_gate_254 (by decide) ?_
                    refine lv_goto (tgt := 271) hx hb dX7_gate_255 (by decide) ?_
                    exact (eG24 _ _ _ _ _).mp (jn25 (2 : Int32) _ _ _ (Option.some.inj h) hP hD hS (lv_sub hl [1] rfl))
                  · have h := zN c45 h
                    refine lv_iconst (v := 0) hx hb dX7_gate_250 (by decide) ?_
                    refine lv_goto (tgt := 271) hx hb dX7_gate_251 (by decide) ?_
                    exact (eG24 _ _ _ _ _).mp (jn25 (0 : Int32) _ _ _ (Option.some.inj h) hP hD hS (lv_sub hl [1] rfl))
                · have h := zN c44 h
                  refine lv_iconst (v := 1) hx hb dX7_gate_241 (by decide) ?_
                  refine lv_goto (tgt := 271) hx hb dX7_gate_242 (by decide) ?_
                  exact (eG24 _ _ _ _ _).mp (jn25 (1 : Int32) _ _ _ (Option.some.inj h) hP hD hS (lv_sub hl [1] rfl))
          · have h := zY c38 h
            refine lv_iload hx hb dX7_gate_202 (lv_at hl 3 rfl) ?_
            refine lv_if_le (tgt := 211) hx hb dX7_gate_204 (by decide) (fun c46 => ?_) (fun c46 => ?_)
            · have h := zY c46 h
              refine lv_iload hx hb dX7_gate_211 (lv_at hl 0 rfl) ?_
              refine lv_if_eq (tgt := 220) hx hb dX7_gate_213 (by decide) (fun c47 => ?_) (fun c47 => ?_)
              · have h := zY c47 h
                refine lv_iconst (v := 2) hx hb dX7_gate_220 (by decide) ?_
                refine lv_goto (tgt := 271) hx hb dX7_gate_221 (by decide) ?_
                exact (eG24 _ _ _ _ _).mp (jn25 (2 : Int32) _ _ _ (Option.some.inj h) hP hD hS (lv_sub hl [1] rfl))
              · have h := zN c47 h
                refine lv_iconst (v := 1) hx hb dX7_gate_216 (by decide) ?_
                refine lv_goto (tgt := 271) hx hb dX7_gate_217 (by decide) ?_
                exact (eG24 _ _ _ _ _).mp (jn25 (1 : Int32) _ _ _ (Option.some.inj h) hP hD hS (lv_sub hl [1] rfl))
            · have h := zN c46 h
              refine lv_iconst (v := 0) hx hb dX7_gate_207 (by decide) ?_
              refine lv_goto (tgt := 271) hx hb dX7_gate_208 (by decide) ?_
              exact (eG24 _ _ _ _ _).mp (jn25 (0 : Int32) _ _ _ (Option.some.inj h) hP hD hS (lv_sub hl [1] rfl))
      refine (eG17 _ _ _ _ _).mpr ?_
      have h := hr20
      refine lv_icmp_ne (tgt := 188) hx hb dX7_gate_181 (by decide) (fun c48 => ?_) (fun c48 => ?_)
      · have h := zN c48 h
        refine lv_iconst (v := 0) hx hb dX7_gate_188 (by decide) ?_
        exact (eG17 _ _ _ _ _).mp (jn18 (0 : Int32) _ _ _ (Option.some.inj h) hP hD hS (lv_sub hl [0, 3, 4] rfl))
      · have h := zY c48 h
        refine lv_iconst (v := 1) hx hb dX7_gate_184 (by decide) ?_
        refine lv_goto (tgt := 189) hx hb dX7_gate_185 (by decide) ?_
        exact (eG17 _ _ _ _ _).mp (jn18 (1 : Int32) _ _ _ (Option.some.inj h) hP hD hS (lv_sub hl [0, 3, 4] rfl))
    have lp8 : ∀ (n : Nat) (v49 : Int32) (v50 : Int32) (v51 : Int32) (HGW5 : Heap) (locs : List Loc) (ls : Array Slot), zI (b_X7_gate_108 S7 p1 q v1) n (v49, v50, v51) = some ov9 → va_P (dC, dI) vwCl (cX7 a7 h7 y S7) HGW5 → va_D A (cX7 a7 h7 y S7) → va_S A s.heap HGW5 locs → lv_has ls 9 [(4, .int v3), (3, .int v1), (0, .ref a7), (1, .int p1), (2, .ref (h7 q)), (5, .int v49), (6, .int v50), (7, .int v51)] → GW5 HGW5 locs 0 0 (F0 m 108 ls []) := by
      intro n
      induction n with
      | zero =>
        intro v49 v50 v51 HGW5 locs ls hi10 hP hD hS hl
        exact (zI_0 hi10).elim
      | succ n ihlp8 =>
        intro v49 v50 v51 HGW5 locs ls hi10 hP hD hS hl
        refine (eG6 _ _ _ _ _).mpr ?_
        obtain ⟨xx13, h, hx12⟩ := zI_spec hi10
        refine lv_iload hx hb dX7_gate_108 (lv_at hl 7 rfl) ?_
        refine lv_aload_n hx hb dX7_gate_110 rfl (lv_at hl 2 rfl) ?_
        refine va_get (D := (dC, dI)) (ci := 6) (v := .ref (h7 14)) (C := RX7) (T := TX7) (N := 49) hx hb hts inX7_ hown hK hP 0 rfl rfl 14 (by decide) (hts (.fieldLink RX7 31 "GateWheelModel" "nMany" "[I") (List.mem_of_getElem? (i := 3) rfl)) (fun _ h9 => h9) rfl dX7_gate_111 ?_
        refine lv_iload_n hx hb dX7_gate_114 rfl (lv_at hl 1 rfl) ?_
        refine va_iald hx hb hK hP 6 0 rfl rfl hi2 dX7_gate_115 ?_
        refine lv_icmp_ge (tgt := 170) hx hb dX7_gate_116 (by decide) (fun c52 => ?_) (fun c52 => ?_)
        · have h := zY c52 h
          exact (eG6 _ _ _ _ _).mp (je7 v49 v50 _ _ _ (zI_r h hx12) hP hD hS (lv_sub hl [0, 1, 2, 5, 6] rfl))
        · have h := zN c52 h
          refine lv_aload_n hx hb dX7_gate_119 rfl (lv_at hl 4 rfl) ?_
          refine lv_aload_n hx hb dX7_gate_120 rfl (lv_at hl 2 rfl) ?_
          refine lv_iload_n hx hb dX7_gate_121 rfl (lv_at hl 3 rfl) ?_
          refine lv_iload hx hb dX7_gate_122 (lv_at hl 7 rfl) ?_
          obtain ⟨r53, hc54, h⟩ := zB_spec h
          have hFc := zFree hD hS hA
          refine va_calli (va_runV (As := [.int p1, .int v51]) (rest := [.ref (h7 q)]) ⟨hx, hb, hml, hown, hts⟩ (m_X7_in l dC dI y a7 h7 S7 p1 v51 HGW5.size r53 hc54) (cwV 2 hts gX7_gate_X7_in rfl rfl rfl (by decide +kernel) ⟨Nat.le_of_ble_eq_true rfl, Nat.le_of_ble_eq_true rfl⟩) ⟨fun a U g mk q => by obtain ⟨q0, q1, qP, qK, qD⟩ := q; exact ⟨q0, q1, qP, va_K.moved (u := U) (U := U.calling g mk a) (Vm.Alike.refl U.vm) qK, qD⟩, va_recv hK hP (ci := 6) (q0 := 0) rfl rfl, fun U hU hW => ⟨rfl, by rw [hU], by rw [hU]; exact hP, va_K.moved hW.alike hK, hD.weaken (fun _ _ _ _ => trivial)⟩⟩ rfl rfl hl.1 rfl (lv_room (Nat.le_of_ble_eq_true rfl)) dX7_gate_124 ⟨Nat.le_of_ble_eq_true rfl, Nat.le_of_ble_eq_true rfl⟩) hS (fun q _ h => hFc q h) hFc (fun rr56 u t H55 locs ht hvm hw hB hz1 hk1 hS => ?_)
          obtain ⟨hP1, hK1, hD1⟩ := hB
          rw [ht] at hP1
          refine zTopi hw.symm ?_
          have hP := hP1
          have hD := hD1.weaken (fun _ q _ h => hFc q.1 h)
          have hP : va_P (dC, dI) vwCl (cX7 a7 h7 y S7) H55 := hP
          have hD : va_D A (cX7 a7 h7 y S7) := hD
          obtain ⟨hi57, h⟩ := zG_spec h
          refine va_iald hx hb hK hP pq 0 (hq.1 _) rfl hi57 dX7_gate_127 ?_
          obtain ⟨r58, hc59, h⟩ := zB_spec h
          have hPc := hP.sub (ws' := []) [] rfl
          have hDc := hD.sub (ws' := []) [] (by decide) rfl
          have hFc := va_free (wc := []) hD hS hA [] rfl
          refine va_calli (va_runS (As := [.int (gA S7 q r53.toNatClampNeg)]) (rest := []) ⟨hx, hb, hml, hown, hts⟩ (m_X7_taken l dC dI y (gA S7 q r53.toNatClampNeg) H55.size r58 hc59) (va_cwS 1 hts gX7_gate_X7_taken rfl rfl rfl (by decide +kernel) ⟨Nat.le_of_ble_eq_true rfl, Nat.le_of_ble_eq_true rfl⟩) ⟨fun a U g mk q => by obtain ⟨q0, q1, qP, qK, qD⟩ := q; exact ⟨q0, q1, qP, va_K.moved (u := U) (U := U.calling g mk a) (Vm.Alike.refl U.vm) qK, qD⟩, fun U hU hW => ⟨rfl, by rw [hU], by rw [hU]; exact hPc, va_K.moved hW.alike hK, hDc.weaken (fun _ _ _ _ => trivial)⟩⟩ rfl rfl hl.1 rfl (lv_room (Nat.le_of_ble_eq_true rfl)) dX7_gate_128 ⟨Nat.le_of_ble_eq_true rfl, Nat.le_of_ble_eq_true rfl⟩) hS (fun q _ h => hFc q h) hFc (fun rr61 u t H60 locs ht hvm hw hB hz1 hk1 hS => ?_)
          obtain ⟨hP1, hK1, hD1⟩ := hB
          rw [ht] at hP1
          refine zTopi hw.symm ?_
          obtain ⟨hP, hD⟩ := va_join (wr := [(oX7 a7 h7 S7), (h7 0, .inl (y 2, 2020, .inl (gA S7 0))), (h7 1, .inl (y 2, 2000, .inl (gA S7 1))), (h7 11, .inl (y 1, 120, .inr (.inl (gB S7 11)))), (h7 12, .inl (y 0, 120, .inl (gA S7 12))), (h7 13, .inl (y 0, 120, .inl (gA S7 13))), (h7 14, .inl (y 0, 120, .inl (gA S7 14))), (h7 15, .inl (y 0, 120, .inl (gA S7 15))), (h7 16, .inl (y 0, 1440, .inl (gA S7 16))), (h7 17, .inl (y 0, 120, .inl (gA S7 17))), (h7 18, .inl (y 0, 60, .inl (gA S7 18))), (h7 19, .inl (y 3, 720, .inl (gA S7 19))), (h7 20, .inl (y 1, 1000, .inr (.inl (gB S7 20)))), (h7 21, .inl (y 0, 1000, .inl (gA S7 21))), (h7 22, .inl (y 0, 1000, .inl (gA S7 22))), (h7 23, .inl (y 1, 200, .inr (.inl (gB S7 23)))), (h7 24, .inl (y 0, 200, .inl (gA S7 24))), (h7 25, .inl (y 3, 200, .inl (gA S7 25))), (h7 32, .inl (y 3, 60, .inl (gA S7 32))), (h7 33, .inl (y 0, 60, .inl (gA S7 33))), (h7 34, .inl (y 0, 60, .inl (gA S7 34))), (h7 35, .inl (y 0, 60, .inl (gA S7 35))), (h7 36, .inl (y 0, 60, .inl (gA S7 36))), (h7 37, .inl (y 0, 60, .inl (gA S7 37))), (h7 38, .inl (y 0, 60, .inl (gA S7 38))), (h7 40, .inl (y 0, 60, .inl (gA S7 40))), (h7 41, .inl (y 0, 60, .inl (gA S7 41))), (h7 42, .inl (y 0, 600, .inl (gA S7 42))), (h7 43, .inl (y 0, 1200, .inl (gA S7 43))), (h7 44, .inl (y 0, 60, .inl (gA S7 44))), (h7 45, .inl (y 3, 60, .inl (gA S7 45)))]) (w1 := []) hP hD [] [0, 1, 2, 3, 4, 5, 6, 7, 8, 9, 10, 11, 12, 13, 14, 15, 16, 17, 18, 19, 20, 21, 22, 23, 24, 25, 26, 27, 28, 29, 30] rfl rfl (by decide) (by decide) hk1 hFc hP1 hD1
          have hP : va_P (dC, dI) vwCl (cX7 a7 h7 y S7) H60 := hP.sub [0, 1, 2, 3, 4, 5, 6, 7, 8, 9, 10, 11, 12, 13, 14, 15, 16, 17, 18, 19, 20, 21, 22, 23, 24, 25, 26, 27, 28, 29, 30] rfl
          have hD : va_D A (cX7 a7 h7 y S7) := hD.sub [0, 1, 2, 3, 4, 5, 6, 7, 8, 9, 10, 11, 12, 13, 14, 15, 16, 17, 18, 19, 20, 21, 22, 23, 24, 25, 26, 27, 28, 29, 30] (by decide) rfl
          refine lv_istore (lv' := [(8, .int r58), (4, .int v3), (3, .int v1), (0, .ref a7), (1, .int p1), (2, .ref (h7 q)), (5, .int v49), (6, .int v50), (7, .int v51)]) hx hb dX7_gate_131 hl (by decide) rfl (fun ls hl => ?_)
          refine lv_iload hx hb dX7_gate_133 (lv_at hl 6 rfl) ?_
          refine lv_iload hx hb dX7_gate_135 (lv_at hl 0 rfl) ?_
          refine lv_iconst (v := 1) hx hb dX7_gate_137 (by decide) ?_
          refine W_abs (fun GW62 eG63 => ?_)
          obtain ⟨ov65, hr66, h⟩ := zB_spec h
          have jn64 : ∀ (v68 : Int32) (HGW62 : Heap) (locs : List Loc) (ls : Array Slot), v68 = ov65 → va_P (dC, dI) vwCl (cX7 a7 h7 y S7) HGW62 → va_D A (cX7 a7 h7 y S7) → va_S A s.heap HGW62 locs → lv_has ls 9 [(8, .int r58), (4, .int v3), (3, .int v1), (0, .ref a7), (1, .int p1), (2, .ref (h7 q)), (6, .int v50), (7, .int v51)] → GW62 HGW62 locs 0 0 (F0 m 146 ls [.int v68, .int v49]) := by
            intro v68 HGW62 locs ls hv hP hD hS hl
            subst hv
            refine (eG63 _ _ _ _ _).mpr ?_
            refine lv_iadd hx hb dX7_gate_146 ?_
            obtain ⟨v69, ev69, h⟩ := zL_spec h
            refine zTopi ev69 ?_
            refine lv_istore (lv' := [(5, .int v69), (8, .int r58), (4, .int v3), (3, .int v1), (0, .ref a7), (1, .int p1), (2, .ref (h7 q)), (6, .int v50), (7, .int v51)]) hx hb dX7_gate_147 hl (by decide) rfl (fun ls hl => ?_)
            refine lv_iload hx hb dX7_gate_149 (lv_at hl 7 rfl) ?_
            refine lv_iload hx hb dX7_gate_151 (lv_at hl 1 rfl) ?_
            refine lv_if_ne (tgt := 160) hx hb dX7_gate_153 (by decide) (fun c70 => ?_) (fun c70 => ?_)
            · have h := zN c70 h
              refine lv_iconst (v := 0) hx hb dX7_gate_160 (by decide) ?_
              refine lv_iadd hx hb dX7_gate_161 ?_
              obtain ⟨v71, ev71, h⟩ := zL_spec h
              refine zTopi ev71 ?_
              refine lv_istore (lv' := [(6, .int v71), (5, .int v69), (8, .int r58), (4, .int v3), (3, .int v1), (0, .ref a7), (1, .int p1), (2, .ref (h7 q)), (7, .int v51)]) hx hb dX7_gate_162 hl (by decide) rfl (fun ls hl => ?_)
              obtain ⟨v72, ev72, h⟩ := zL_spec h
              refine lv_iinc (v := v72) (lv' := [(7, .int v72), (6, .int v71), (5, .int v69), (8, .int r58), (4, .int v3), (3, .int v1), (0, .ref a7), (1, .int p1), (2, .ref (h7 q))]) hx hb dX7_gate_164 hl (k := 8) rfl (by rw [ev72]; rfl) (by decide) rfl (fun ls hl => ?_)
              refine lv_goto (tgt := 108) hx hb dX7_gate_167 (by decide) ?_
              have h := zI_l h hx12
              exact (eG6 _ _ _ _ _).mp (ihlp8 v69 v71 v72 _ _ _ h hP hD hS (lv_sub hl [4, 5, 6, 7, 8, 2, 1, 0] rfl))
            · have h := zY c70 h
              refine lv_iconst (v := 1) hx hb dX7_gate_156 (by decide) ?_
              refine lv_goto (tgt := 161) hx hb dX7_gate_157 (by decide) ?_
              refine lv_iadd hx hb dX7_gate_161 ?_
              obtain ⟨v73, ev73, h⟩ := zL_spec h
              refine zTopi ev73 ?_
              refine lv_istore (lv' := [(6, .int v73), (5, .int v69), (8, .int r58), (4, .int v3), (3, .int v1), (0, .ref a7), (1, .int p1), (2, .ref (h7 q)), (7, .int v51)]) hx hb dX7_gate_162 hl (by decide) rfl (fun ls hl => ?_)
              obtain ⟨v74, ev74, h⟩ := zL_spec h
              refine lv_iinc (v := v74) (lv' := [(7, .int v74), (6, .int v73), (5, .int v69), (8, .int r58), (4, .int v3), (3, .int v1), (0, .ref a7), (1, .int p1), (2, .ref (h7 q))]) hx hb dX7_gate_164 hl (k := 8) rfl (by rw [ev74]; rfl) (by decide) rfl (fun ls hl => ?_)
              refine lv_goto (tgt := 108) hx hb dX7_gate_167 (by decide) ?_
              have h := zI_l h hx12
              exact (eG6 _ _ _ _ _).mp (ihlp8 v69 v73 v74 _ _ _ h hP hD hS (lv_sub hl [4, 5, 6, 7, 8, 2, 1, 0] rfl))
          refine (eG63 _ _ _ _ _).mpr ?_
          have h := hr66
          refine lv_icmp_ne (tgt := 145) hx hb dX7_gate_138 (by decide) (fun c75 => ?_) (fun c75 => ?_)
          · have h := zN c75 h
            refine lv_iconst (v := 0) hx hb dX7_gate_145 (by decide) ?_
            exact (eG63 _ _ _ _ _).mp (jn64 (0 : Int32) _ _ _ (Option.some.inj h) hP hD hS (lv_sub hl [0, 1, 2, 3, 4, 5, 7, 8] rfl))
          · have h := zY c75 h
            refine lv_iconst (v := 1) hx hb dX7_gate_141 (by decide) ?_
            refine lv_goto (tgt := 146) hx hb dX7_gate_142 (by decide) ?_
            exact (eG63 _ _ _ _ _).mp (jn64 (1 : Int32) _ _ _ (Option.some.inj h) hP hD hS (lv_sub hl [0, 1, 2, 3, 4, 5, 7, 8] rfl))
    exact lp8 zF (0 : Int32) (0 : Int32) (0 : Int32) _ _ _ hi10 hP hD hS (lv_sub hl [3, 4, 5, 6, 7, 2, 1, 0] rfl)
  · have h := zY c4 h
    refine lv_aload_n hx hb dX7_gate_25 rfl (lv_at hl 4 rfl) ?_
    refine lv_aload_n hx hb dX7_gate_26 rfl (lv_at hl 2 rfl) ?_
    refine lv_iload_n hx hb dX7_gate_27 rfl (lv_at hl 3 rfl) ?_
    refine lv_iconst (v := 0) hx hb dX7_gate_28 (by decide) ?_
    obtain ⟨r76, hc77, h⟩ := zB_spec h
    have hFc := zFree hD hS hA
    refine va_calli (va_runV (As := [.int p1, .int 0]) (rest := [.ref (h7 q)]) ⟨hx, hb, hml, hown, hts⟩ (m_X7_in l dC dI y a7 h7 S7 p1 (0 : Int32) s.heap.size r76 hc77) (cwV 2 hts gX7_gate_X7_in rfl rfl rfl (by decide +kernel) ⟨Nat.le_of_ble_eq_true rfl, Nat.le_of_ble_eq_true rfl⟩) ⟨fun a U g mk q => by obtain ⟨q0, q1, qP, qK, qD⟩ := q; exact ⟨q0, q1, qP, va_K.moved (u := U) (U := U.calling g mk a) (Vm.Alike.refl U.vm) qK, qD⟩, va_recv hK hP (ci := 6) (q0 := 0) rfl rfl, fun U hU hW => ⟨rfl, by rw [hU], by rw [hU]; exact hP, va_K.moved hW.alike hK, hD.weaken (fun _ _ _ _ => trivial)⟩⟩ rfl rfl hl.1 rfl (lv_room (Nat.le_of_ble_eq_true rfl)) dX7_gate_29 ⟨Nat.le_of_ble_eq_true rfl, Nat.le_of_ble_eq_true rfl⟩) hS (fun q _ h => hFc q h) hFc (fun rr79 u t H78 locs ht hvm hw hB hz1 hk1 hS => ?_)
    obtain ⟨hP1, hK1, hD1⟩ := hB
    rw [ht] at hP1
    refine zTopi hw.symm ?_
    have hP := hP1
    have hD := hD1.weaken (fun _ q _ h => hFc q.1 h)
    have hP : va_P (dC, dI) vwCl (cX7 a7 h7 y S7) H78 := hP
    have hD : va_D A (cX7 a7 h7 y S7) := hD
    obtain ⟨hi80, h⟩ := zG_spec h
    refine va_iald hx hb hK hP pq 0 (hq.1 _) rfl hi80 dX7_gate_32 ?_
    obtain ⟨r81, hc82, h⟩ := zB_spec h
    have hPc := hP.sub (ws' := []) [] rfl
    have hDc := hD.sub (ws' := []) [] (by decide) rfl
    have hFc := va_free (wc := []) hD hS hA [] rfl
    refine va_calli (va_runS (As := [.int (gA S7 q r76.toNatClampNeg)]) (rest := []) ⟨hx, hb, hml, hown, hts⟩ (m_X7_taken l dC dI y (gA S7 q r76.toNatClampNeg) H78.size r81 hc82) (va_cwS 1 hts gX7_gate_X7_taken rfl rfl rfl (by decide +kernel) ⟨Nat.le_of_ble_eq_true rfl, Nat.le_of_ble_eq_true rfl⟩) ⟨fun a U g mk q => by obtain ⟨q0, q1, qP, qK, qD⟩ := q; exact ⟨q0, q1, qP, va_K.moved (u := U) (U := U.calling g mk a) (Vm.Alike.refl U.vm) qK, qD⟩, fun U hU hW => ⟨rfl, by rw [hU], by rw [hU]; exact hPc, va_K.moved hW.alike hK, hDc.weaken (fun _ _ _ _ => trivial)⟩⟩ rfl rfl hl.1 rfl (lv_room (Nat.le_of_ble_eq_true rfl)) dX7_gate_33 ⟨Nat.le_of_ble_eq_true rfl, Nat.le_of_ble_eq_true rfl⟩) hS (fun q _ h => hFc q h) hFc (fun rr84 u t H83 locs ht hvm hw hB hz1 hk1 hS => ?_)
    obtain ⟨hP1, hK1, hD1⟩ := hB
    rw [ht] at hP1
    refine zTopi hw.symm ?_
    obtain ⟨hP, hD⟩ := va_join (wr := [(oX7 a7 h7 S7), (h7 0, .inl (y 2, 2020, .inl (gA S7 0))), (h7 1, .inl (y 2, 2000, .inl (gA S7 1))), (h7 11, .inl (y 1, 120, .inr (.inl (gB S7 11)))), (h7 12, .inl (y 0, 120, .inl (gA S7 12))), (h7 13, .inl (y 0, 120, .inl (gA S7 13))), (h7 14, .inl (y 0, 120, .inl (gA S7 14))), (h7 15, .inl (y 0, 120, .inl (gA S7 15))), (h7 16, .inl (y 0, 1440, .inl (gA S7 16))), (h7 17, .inl (y 0, 120, .inl (gA S7 17))), (h7 18, .inl (y 0, 60, .inl (gA S7 18))), (h7 19, .inl (y 3, 720, .inl (gA S7 19))), (h7 20, .inl (y 1, 1000, .inr (.inl (gB S7 20)))), (h7 21, .inl (y 0, 1000, .inl (gA S7 21))), (h7 22, .inl (y 0, 1000, .inl (gA S7 22))), (h7 23, .inl (y 1, 200, .inr (.inl (gB S7 23)))), (h7 24, .inl (y 0, 200, .inl (gA S7 24))), (h7 25, .inl (y 3, 200, .inl (gA S7 25))), (h7 32, .inl (y 3, 60, .inl (gA S7 32))), (h7 33, .inl (y 0, 60, .inl (gA S7 33))), (h7 34, .inl (y 0, 60, .inl (gA S7 34))), (h7 35, .inl (y 0, 60, .inl (gA S7 35))), (h7 36, .inl (y 0, 60, .inl (gA S7 36))), (h7 37, .inl (y 0, 60, .inl (gA S7 37))), (h7 38, .inl (y 0, 60, .inl (gA S7 38))), (h7 40, .inl (y 0, 60, .inl (gA S7 40))), (h7 41, .inl (y 0, 60, .inl (gA S7 41))), (h7 42, .inl (y 0, 600, .inl (gA S7 42))), (h7 43, .inl (y 0, 1200, .inl (gA S7 43))), (h7 44, .inl (y 0, 60, .inl (gA S7 44))), (h7 45, .inl (y 3, 60, .inl (gA S7 45)))]) (w1 := []) hP hD [] [0, 1, 2, 3, 4, 5, 6, 7, 8, 9, 10, 11, 12, 13, 14, 15, 16, 17, 18, 19, 20, 21, 22, 23, 24, 25, 26, 27, 28, 29, 30] rfl rfl (by decide) (by decide) hk1 hFc hP1 hD1
    have hP : va_P (dC, dI) vwCl (cX7 a7 h7 y S7) H83 := hP.sub [0, 1, 2, 3, 4, 5, 6, 7, 8, 9, 10, 11, 12, 13, 14, 15, 16, 17, 18, 19, 20, 21, 22, 23, 24, 25, 26, 27, 28, 29, 30] rfl
    have hD : va_D A (cX7 a7 h7 y S7) := hD.sub [0, 1, 2, 3, 4, 5, 6, 7, 8, 9, 10, 11, 12, 13, 14, 15, 16, 17, 18, 19, 20, 21, 22, 23, 24, 25, 26, 27, 28, 29, 30] (by decide) rfl
    refine lv_istore (lv' := [(5, .int r81), (4, .int v3), (3, .int v1), (0, .ref a7), (1, .int p1), (2, .ref (h7 q))]) hx hb dX7_gate_36 hl (by decide) rfl (fun ls hl => ?_)
    refine lv_aload_n hx hb dX7_gate_38 rfl (lv_at hl 5 rfl) ?_
    refine lv_aload_n hx hb dX7_gate_39 rfl (lv_at hl 3 rfl) ?_
    refine lv_iload_n hx hb dX7_gate_40 rfl (lv_at hl 4 rfl) ?_
    refine lv_iconst (v := 1) hx hb dX7_gate_41 (by decide) ?_
    obtain ⟨r85, hc86, h⟩ := zB_spec h
    have hFc := zFree hD hS hA
    refine va_calli (va_runV (As := [.int p1, .int 1]) (rest := [.ref (h7 q)]) ⟨hx, hb, hml, hown, hts⟩ (m_X7_in l dC dI y a7 h7 S7 p1 (1 : Int32) H83.size r85 hc86) (cwV 2 hts gX7_gate_X7_in rfl rfl rfl (by decide +kernel) ⟨Nat.le_of_ble_eq_true rfl, Nat.le_of_ble_eq_true rfl⟩) ⟨fun a U g mk q => by obtain ⟨q0, q1, qP, qK, qD⟩ := q; exact ⟨q0, q1, qP, va_K.moved (u := U) (U := U.calling g mk a) (Vm.Alike.refl U.vm) qK, qD⟩, va_recv hK hP (ci := 6) (q0 := 0) rfl rfl, fun U hU hW => ⟨rfl, by rw [hU], by rw [hU]; exact hP, va_K.moved hW.alike hK, hD.weaken (fun _ _ _ _ => trivial)⟩⟩ rfl rfl hl.1 rfl (lv_room (Nat.le_of_ble_eq_true rfl)) dX7_gate_42 ⟨Nat.le_of_ble_eq_true rfl, Nat.le_of_ble_eq_true rfl⟩) hS (fun q _ h => hFc q h) hFc (fun rr88 u t H87 locs ht hvm hw hB hz1 hk1 hS => ?_)
    obtain ⟨hP1, hK1, hD1⟩ := hB
    rw [ht] at hP1
    refine zTopi hw.symm ?_
    have hP := hP1
    have hD := hD1.weaken (fun _ q _ h => hFc q.1 h)
    have hP : va_P (dC, dI) vwCl (cX7 a7 h7 y S7) H87 := hP
    have hD : va_D A (cX7 a7 h7 y S7) := hD
    obtain ⟨hi89, h⟩ := zG_spec h
    refine va_iald hx hb hK hP pq 0 (hq.1 _) rfl hi89 dX7_gate_45 ?_
    obtain ⟨r90, hc91, h⟩ := zB_spec h
    have hPc := hP.sub (ws' := []) [] rfl
    have hDc := hD.sub (ws' := []) [] (by decide) rfl
    have hFc := va_free (wc := []) hD hS hA [] rfl
    refine va_calli (va_runS (As := [.int (gA S7 q r85.toNatClampNeg)]) (rest := []) ⟨hx, hb, hml, hown, hts⟩ (m_X7_taken l dC dI y (gA S7 q r85.toNatClampNeg) H87.size r90 hc91) (va_cwS 1 hts gX7_gate_X7_taken rfl rfl rfl (by decide +kernel) ⟨Nat.le_of_ble_eq_true rfl, Nat.le_of_ble_eq_true rfl⟩) ⟨fun a U g mk q => by obtain ⟨q0, q1, qP, qK, qD⟩ := q; exact ⟨q0, q1, qP, va_K.moved (u := U) (U := U.calling g mk a) (Vm.Alike.refl U.vm) qK, qD⟩, fun U hU hW => ⟨rfl, by rw [hU], by rw [hU]; exact hPc, va_K.moved hW.alike hK, hDc.weaken (fun _ _ _ _ => trivial)⟩⟩ rfl rfl hl.1 rfl (lv_room (Nat.le_of_ble_eq_true rfl)) dX7_gate_46 ⟨Nat.le_of_ble_eq_true rfl, Nat.le_of_ble_eq_true rfl⟩) hS (fun q _ h => hFc q h) hFc (fun rr93 u t H92 locs ht hvm hw hB hz1 hk1 hS => ?_)
    obtain ⟨hP1, hK1, hD1⟩ := hB
    rw [ht] at hP1
    refine zTopi hw.symm ?_
    obtain ⟨hP, hD⟩ := va_join (wr := [(oX7 a7 h7 S7), (h7 0, .inl (y 2, 2020, .inl (gA S7 0))), (h7 1, .inl (y 2, 2000, .inl (gA S7 1))), (h7 11, .inl (y 1, 120, .inr (.inl (gB S7 11)))), (h7 12, .inl (y 0, 120, .inl (gA S7 12))), (h7 13, .inl (y 0, 120, .inl (gA S7 13))), (h7 14, .inl (y 0, 120, .inl (gA S7 14))), (h7 15, .inl (y 0, 120, .inl (gA S7 15))), (h7 16, .inl (y 0, 1440, .inl (gA S7 16))), (h7 17, .inl (y 0, 120, .inl (gA S7 17))), (h7 18, .inl (y 0, 60, .inl (gA S7 18))), (h7 19, .inl (y 3, 720, .inl (gA S7 19))), (h7 20, .inl (y 1, 1000, .inr (.inl (gB S7 20)))), (h7 21, .inl (y 0, 1000, .inl (gA S7 21))), (h7 22, .inl (y 0, 1000, .inl (gA S7 22))), (h7 23, .inl (y 1, 200, .inr (.inl (gB S7 23)))), (h7 24, .inl (y 0, 200, .inl (gA S7 24))), (h7 25, .inl (y 3, 200, .inl (gA S7 25))), (h7 32, .inl (y 3, 60, .inl (gA S7 32))), (h7 33, .inl (y 0, 60, .inl (gA S7 33))), (h7 34, .inl (y 0, 60, .inl (gA S7 34))), (h7 35, .inl (y 0, 60, .inl (gA S7 35))), (h7 36, .inl (y 0, 60, .inl (gA S7 36))), (h7 37, .inl (y 0, 60, .inl (gA S7 37))), (h7 38, .inl (y 0, 60, .inl (gA S7 38))), (h7 40, .inl (y 0, 60, .inl (gA S7 40))), (h7 41, .inl (y 0, 60, .inl (gA S7 41))), (h7 42, .inl (y 0, 600, .inl (gA S7 42))), (h7 43, .inl (y 0, 1200, .inl (gA S7 43))), (h7 44, .inl (y 0, 60, .inl (gA S7 44))), (h7 45, .inl (y 3, 60, .inl (gA S7 45)))]) (w1 := []) hP hD [] [0, 1, 2, 3, 4, 5, 6, 7, 8, 9, 10, 11, 12, 13, 14, 15, 16, 17, 18, 19, 20, 21, 22, 23, 24, 25, 26, 27, 28, 29, 30] rfl rfl (by decide) (by decide) hk1 hFc hP1 hD1
    have hP : va_P (dC, dI) vwCl (cX7 a7 h7 y S7) H92 := hP.sub [0, 1, 2, 3, 4, 5, 6, 7, 8, 9, 10, 11, 12, 13, 14, 15, 16, 17, 18, 19, 20, 21, 22, 23, 24, 25, 26, 27, 28, 29, 30] rfl
    have hD : va_D A (cX7 a7 h7 y S7) := hD.sub [0, 1, 2, 3, 4, 5, 6, 7, 8, 9, 10, 11, 12, 13, 14, 15, 16, 17, 18, 19, 20, 21, 22, 23, 24, 25, 26, 27, 28, 29, 30] (by decide) rfl
    refine lv_istore (lv' := [(6, .int r90), (5, .int r81), (4, .int v3), (3, .int v1), (0, .ref a7), (1, .int p1), (2, .ref (h7 q))]) hx hb dX7_gate_49 hl (by decide) rfl (fun ls hl => ?_)
    refine lv_aload_n hx hb dX7_gate_51 rfl (lv_at hl 6 rfl) ?_
    refine lv_aload_n hx hb dX7_gate_52 rfl (lv_at hl 4 rfl) ?_
    refine lv_iload_n hx hb dX7_gate_53 rfl (lv_at hl 5 rfl) ?_
    refine lv_iconst (v := 2) hx hb dX7_gate_54 (by decide) ?_
    obtain ⟨r94, hc95, h⟩ := zB_spec h
    have hFc := zFree hD hS hA
    refine va_calli (va_runV (As := [.int p1, .int 2]) (rest := [.ref (h7 q)]) ⟨hx, hb, hml, hown, hts⟩ (m_X7_in l dC dI y a7 h7 S7 p1 (2 : Int32) H92.size r94 hc95) (cwV 2 hts gX7_gate_X7_in rfl rfl rfl (by decide +kernel) ⟨Nat.le_of_ble_eq_true rfl, Nat.le_of_ble_eq_true rfl⟩) ⟨fun a U g mk q => by obtain ⟨q0, q1, qP, qK, qD⟩ := q; exact ⟨q0, q1, qP, va_K.moved (u := U) (U := U.calling g mk a) (Vm.Alike.refl U.vm) qK, qD⟩, va_recv hK hP (ci := 6) (q0 := 0) rfl rfl, fun U hU hW => ⟨rfl, by rw [hU], by rw [hU]; exact hP, va_K.moved hW.alike hK, hD.weaken (fun _ _ _ _ => trivial)⟩⟩ rfl rfl hl.1 rfl (lv_room (Nat.le_of_ble_eq_true rfl)) dX7_gate_55 ⟨Nat.le_of_ble_eq_true rfl, Nat.le_of_ble_eq_true rfl⟩) hS (fun q _ h => hFc q h) hFc (fun rr97 u t H96 locs ht hvm hw hB hz1 hk1 hS => ?_)
    obtain ⟨hP1, hK1, hD1⟩ := hB
    rw [ht] at hP1
    refine zTopi hw.symm ?_
    have hP := hP1
    have hD := hD1.weaken (fun _ q _ h => hFc q.1 h)
    have hP : va_P (dC, dI) vwCl (cX7 a7 h7 y S7) H96 := hP
    have hD : va_D A (cX7 a7 h7 y S7) := hD
    obtain ⟨hi98, h⟩ := zG_spec h
    refine va_iald hx hb hK hP pq 0 (hq.1 _) rfl hi98 dX7_gate_58 ?_
    obtain ⟨r99, hc100, h⟩ := zB_spec h
    have hPc := hP.sub (ws' := []) [] rfl
    have hDc := hD.sub (ws' := []) [] (by decide) rfl
    have hFc := va_free (wc := []) hD hS hA [] rfl
    refine va_calli (va_runS (As := [.int (gA S7 q r94.toNatClampNeg)]) (rest := []) ⟨hx, hb, hml, hown, hts⟩ (m_X7_taken l dC dI y (gA S7 q r94.toNatClampNeg) H96.size r99 hc100) (va_cwS 1 hts gX7_gate_X7_taken rfl rfl rfl (by decide +kernel) ⟨Nat.le_of_ble_eq_true rfl, Nat.le_of_ble_eq_true rfl⟩) ⟨fun a U g mk q => by obtain ⟨q0, q1, qP, qK, qD⟩ := q; exact ⟨q0, q1, qP, va_K.moved (u := U) (U := U.calling g mk a) (Vm.Alike.refl U.vm) qK, qD⟩, fun U hU hW => ⟨rfl, by rw [hU], by rw [hU]; exact hPc, va_K.moved hW.alike hK, hDc.weaken (fun _ _ _ _ => trivial)⟩⟩ rfl rfl hl.1 rfl (lv_room (Nat.le_of_ble_eq_true rfl)) dX7_gate_59 ⟨Nat.le_of_ble_eq_true rfl, Nat.le_of_ble_eq_true rfl⟩) hS (fun q _ h => hFc q h) hFc (fun rr102 u t H101 locs ht hvm hw hB hz1 hk1 hS => ?_)
    obtain ⟨hP1, hK1, hD1⟩ := hB
    rw [ht] at hP1
    refine zTopi hw.symm ?_
    obtain ⟨hP, hD⟩ := va_join (wr := [(oX7 a7 h7 S7), (h7 0, .inl (y 2, 2020, .inl (gA S7 0))), (h7 1, .inl (y 2, 2000, .inl (gA S7 1))), (h7 11, .inl (y 1, 120, .inr (.inl (gB S7 11)))), (h7 12, .inl (y 0, 120, .inl (gA S7 12))), (h7 13, .inl (y 0, 120, .inl (gA S7 13))), (h7 14, .inl (y 0, 120, .inl (gA S7 14))), (h7 15, .inl (y 0, 120, .inl (gA S7 15))), (h7 16, .inl (y 0, 1440, .inl (gA S7 16))), (h7 17, .inl (y 0, 120, .inl (gA S7 17))), (h7 18, .inl (y 0, 60, .inl (gA S7 18))), (h7 19, .inl (y 3, 720, .inl (gA S7 19))), (h7 20, .inl (y 1, 1000, .inr (.inl (gB S7 20)))), (h7 21, .inl (y 0, 1000, .inl (gA S7 21))), (h7 22, .inl (y 0, 1000, .inl (gA S7 22))), (h7 23, .inl (y 1, 200, .inr (.inl (gB S7 23)))), (h7 24, .inl (y 0, 200, .inl (gA S7 24))), (h7 25, .inl (y 3, 200, .inl (gA S7 25))), (h7 32, .inl (y 3, 60, .inl (gA S7 32))), (h7 33, .inl (y 0, 60, .inl (gA S7 33))), (h7 34, .inl (y 0, 60, .inl (gA S7 34))), (h7 35, .inl (y 0, 60, .inl (gA S7 35))), (h7 36, .inl (y 0, 60, .inl (gA S7 36))), (h7 37, .inl (y 0, 60, .inl (gA S7 37))), (h7 38, .inl (y 0, 60, .inl (gA S7 38))), (h7 40, .inl (y 0, 60, .inl (gA S7 40))), (h7 41, .inl (y 0, 60, .inl (gA S7 41))), (h7 42, .inl (y 0, 600, .inl (gA S7 42))), (h7 43, .inl (y 0, 1200, .inl (gA S7 43))), (h7 44, .inl (y 0, 60, .inl (gA S7 44))), (h7 45, .inl (y 3, 60, .inl (gA S7 45)))]) (w1 := []) hP hD [] [0, 1, 2, 3, 4, 5, 6, 7, 8, 9, 10, 11, 12, 13, 14, 15, 16, 17, 18, 19, 20, 21, 22, 23, 24, 25, 26, 27, 28, 29, 30] rfl rfl (by decide) (by decide) hk1 hFc hP1 hD1
    have hP : va_P (dC, dI) vwCl (cX7 a7 h7 y S7) H101 := hP.sub [0, 1, 2, 3, 4, 5, 6, 7, 8, 9, 10, 11, 12, 13, 14, 15, 16, 17, 18, 19, 20, 21, 22, 23, 24, 25, 26, 27, 28, 29, 30] rfl
    have hD : va_D A (cX7 a7 h7 y S7) := hD.sub [0, 1, 2, 3, 4, 5, 6, 7, 8, 9, 10, 11, 12, 13, 14, 15, 16, 17, 18, 19, 20, 21, 22, 23, 24, 25, 26, 27, 28, 29, 30] (by decide) rfl
    refine lv_istore (lv' := [(7, .int r99), (6, .int r90), (5, .int r81), (4, .int v3), (3, .int v1), (0, .ref a7), (1, .int p1), (2, .ref (h7 q))]) hx hb dX7_gate_62 hl (by decide) rfl (fun ls hl => ?_)
    refine lv_iload hx hb dX7_gate_64 (lv_at hl 2 rfl) ?_
    refine lv_if_ne (tgt := 74) hx hb dX7_gate_66 (by decide) (fun c103 => ?_) (fun c103 => ?_)
    · have h := zN c103 h
      refine lv_iload hx hb dX7_gate_74 (lv_at hl 2 rfl) ?_
      refine lv_iconst (v := 1) hx hb dX7_gate_76 (by decide) ?_
      refine lv_icmp_ne (tgt := 85) hx hb dX7_gate_77 (by decide) (fun c104 => ?_) (fun c104 => ?_)
      · have h := zN c104 h
        refine lv_iload hx hb dX7_gate_85 (lv_at hl 1 rfl) ?_
        refine lv_iload hx hb dX7_gate_87 (lv_at hl 0 rfl) ?_
        refine lv_icmp_ne (tgt := 97) hx hb dX7_gate_89 (by decide) (fun c105 => ?_) (fun c105 => ?_)
        · have h := zN c105 h
          refine lv_iconst (v := 2) hx hb dX7_gate_97 (by decide) ?_
          have ho0 : (2 : Int32) = or_ := congrArg (fun z : Int32 => z) (Option.some.inj h)
          exact W.iret (v := 2) hx hb hr (fun t ht hW => ⟨⟨2, (), rfl, ho0, by rw [ht]; exact hP, va_K.moved hW.alike hK, hD⟩, hS.F ht⟩) hS.2.2 dX7_gate_98
        · have h := zY c105 h
          refine lv_iload hx hb dX7_gate_92 (lv_at hl 1 rfl) ?_
          refine lv_goto (tgt := 98) hx hb dX7_gate_94 (by decide) ?_
          have ho0 : r90 = or_ := congrArg (fun z : Int32 => z) (Option.some.inj h)
          exact W.iret (v := r90) hx hb hr (fun t ht hW => ⟨⟨r90, (), rfl, ho0, by rw [ht]; exact hP, va_K.moved hW.alike hK, hD⟩, hS.F ht⟩) hS.2.2 dX7_gate_98
      · have h := zY c104 h
        refine lv_iload hx hb dX7_gate_80 (lv_at hl 0 rfl) ?_
        refine lv_goto (tgt := 98) hx hb dX7_gate_82 (by decide) ?_
        have ho0 : r99 = or_ := congrArg (fun z : Int32 => z) (Option.some.inj h)
        exact W.iret (v := r99) hx hb hr (fun t ht hW => ⟨⟨r99, (), rfl, ho0, by rw [ht]; exact hP, va_K.moved hW.alike hK, hD⟩, hS.F ht⟩) hS.2.2 dX7_gate_98
    · have h := zY c103 h
      refine lv_iload hx hb dX7_gate_69 (lv_at hl 1 rfl) ?_
      refine lv_goto (tgt := 98) hx hb dX7_gate_71 (by decide) ?_
      have ho0 : r90 = or_ := congrArg (fun z : Int32 => z) (Option.some.inj h)
      exact W.iret (v := r90) hx hb hr (fun t ht hW => ⟨⟨r90, (), rfl, ho0, by rw [ht]; exact hP, va_K.moved hW.alike hK, hD⟩, hS.F ht⟩) hS.2.2 dX7_gate_98

set_option maxHeartbeats 4000000 in
set_option maxRecDepth 100000 in
theorem m_X7_bus (l : Launch) (dC : Nat → ClassId) (dI : Nat → Nat → Nat) (y : Nat → ClassId) (a7 : Nat) (h7 : Nat → Nat) (S7 : SS) (p1 : Int32) (q : Nat) (pq : Nat) (hq : SQ a7 h7 y q pq) (sz : Nat) (or_ : Int32) (h : f_X7_bus S7 p1 q = some or_) : Met l yX7_bus wsX7_bus ({ frames := 1, cells := 0, slots := 0, locals := 22 }) (va_Pc [.ref a7, .int p1, .ref (h7 q)] (fun U => U.heap.size = sz ∧ va_P (dC, dI) vwCl (cX7 a7 h7 y S7) U.heap ∧ va_K (dC, dI) vwCl [(y 0, .int), (y 1, .long), (y 2, .byte), (y 3, .boolean)] U ∧ va_D (fun _ => True) (cX7 a7 h7 y S7))) (va_Qi (fun (r : Int32) (_ : Unit) => r = or_) (fun (_ : Unit) (t : State) => va_P (dC, dI) vwCl (cX7 a7 h7 y S7) t.heap ∧ va_K (dC, dI) vwCl [(y 0, .int), (y 1, .long), (y 2, .byte), (y 3, .boolean)] t ∧ va_D (va_A (cX7 a7 h7 y S7) sz) (cX7 a7 h7 y S7)) (va_A (cX7 a7 h7 y S7) sz)) 0 0 (va_A (cX7 a7 h7 y S7) sz) := by
  refine Met.ofW (cc := cX7_bus) (maxL := 8) (ret := (some .int)) (by decide +kernel) rfl ?_
  intro p e s m args below meth c s₁ B hml hv
  obtain ⟨rfl, hsz, hP, hK, hD0⟩ := hv
  have hx := B.exec
  have hb := B.bytes
  have hr := B.returns
  have hts := atoms_spec (ws := wsX7_bus) B.pre
  have hown : s.vm.findClass RX7 = some m.cls := findClass_of_methodNamed B.named
  have hlocks := B.notSynchronized
  have inX7_ : ∀ w ∈ wsX70, w ∈ wsX7_bus := fun _ h => List.mem_cons_of_mem _ (List.mem_append_right _ h)
  subst hsz
  have hD := hD0.self (sz := s.heap.size)
  generalize hAe : va_A (cX7 a7 h7 y S7) s.heap.size = A at hD ⊢
  have hA : ∀ q : Nat, s.heap.size ≤ q → A q := fun q h => by rw [← hAe]; exact Or.inr h
  have hS : va_S A s.heap s.heap [] := va_S.rf
  have hP : va_P (dC, dI) vwCl (cX7 a7 h7 y S7) s.heap := hP
  have hl := lv_entry ([.ref a7, .int p1, .ref (h7 q)]) (n := 8) (Nat.le_of_ble_eq_true rfl)
  rw [lg_entry_eq]
  generalize (lg_sl ([.ref a7, .int p1, .ref (h7 q)]) ++ List.replicate (8 - (lg_sl ([.ref a7, .int p1, .ref (h7 q)])).length) Slot.unset).toArray = ls at hl ⊢
  have hl : lv_has ls 8 [(0, .ref a7), (1, .int p1), (2, .ref (h7 q))] := hl
  refine lv_bipush (v := 60) hx hb dX7_bus_0 (by decide) ?_
  refine lv_aload_n hx hb dX7_bus_2 rfl (lv_at hl 0 rfl) ?_
  refine va_get (D := (dC, dI)) (ci := 6) (v := .int (gI S7 30)) (C := RX7) (T := TX7) (N := 49) hx hb hts inX7_ hown hK hP 0 rfl rfl 30 (by decide) (hts (.fieldLink RX7 188 "GateWheelModel" "bank" "I") (List.mem_of_getElem? (i := 1) rfl)) (fun _ h9 => h9) rfl dX7_bus_3 ?_
  refine lv_imul hx hb dX7_bus_6 ?_
  refine lv_iload_n hx hb dX7_bus_7 rfl (lv_at hl 1 rfl) ?_
  refine lv_iadd hx hb dX7_bus_8 ?_
  obtain ⟨v1, ev1, h⟩ := zL_spec h
  refine zTopi ev1 ?_
  refine lv_istore_n (lv' := [(3, .int v1), (0, .ref a7), (1, .int p1), (2, .ref (h7 q))]) hx hb dX7_bus_9 rfl hl (by decide) rfl (fun ls hl => ?_)
  refine lv_iconst (v := 3) hx hb dX7_bus_10 (by decide) ?_
  refine lv_istore (lv' := [(4, .int 3), (3, .int v1), (0, .ref a7), (1, .int p1), (2, .ref (h7 q))]) hx hb dX7_bus_11 hl (by decide) rfl (fun ls hl => ?_)
  refine lv_iconst (v := 0) hx hb dX7_bus_13 (by decide) ?_
  refine lv_istore (lv' := [(5, .int 0), (4, .int 3), (3, .int v1), (0, .ref a7), (1, .int p1), (2, .ref (h7 q))]) hx hb dX7_bus_14 hl (by decide) rfl (fun ls hl => ?_)
  refine W_abs (fun GW2 eG3 => ?_)
  have hi7 := h
  have lp5 : ∀ (n : Nat) (v11 : Int32) (v12 : Int32) (HGW2 : Heap) (locs : List Loc) (ls : Array Slot), zI (b_X7_bus_16 S7 p1 q v1) n (v11, v12) = some or_ → va_P (dC, dI) vwCl (cX7 a7 h7 y S7) HGW2 → va_D A (cX7 a7 h7 y S7) → va_S A s.heap HGW2 locs → lv_has ls 8 [(3, .int v1), (0, .ref a7), (1, .int p1), (2, .ref (h7 q)), (4, .int v11), (5, .int v12)] → GW2 HGW2 locs 0 0 (F0 m 16 ls []) := by
    intro n
    induction n with
    | zero =>
      intro v11 v12 HGW2 locs ls hi7 hP hD hS hl
      exact (zI_0 hi7).elim
    | succ n ihlp5 =>
      intro v11 v12 HGW2 locs ls hi7 hP hD hS hl
      refine (eG3 _ _ _ _ _).mpr ?_
      obtain ⟨xx10, h, hx9⟩ := zI_spec hi7
      refine lv_iload hx hb dX7_bus_16 (lv_at hl 5 rfl) ?_
      refine lv_aload_n hx hb dX7_bus_18 rfl (lv_at hl 1 rfl) ?_
      refine va_get (D := (dC, dI)) (ci := 6) (v := .ref (h7 14)) (C := RX7) (T := TX7) (N := 49) hx hb hts inX7_ hown hK hP 0 rfl rfl 14 (by decide) (hts (.fieldLink RX7 31 "GateWheelModel" "nMany" "[I") (List.mem_of_getElem? (i := 2) rfl)) (fun _ h9 => h9) rfl dX7_bus_19 ?_
      refine lv_iload_n hx hb dX7_bus_22 rfl (lv_at hl 0 rfl) ?_
      obtain ⟨hi13, h⟩ := zG_spec h
      refine va_iald hx hb hK hP 6 0 rfl rfl hi13 dX7_bus_23 ?_
      refine lv_icmp_ge (tgt := 139) hx hb dX7_bus_24 (by decide) (fun c14 => ?_) (fun c14 => ?_)
      · have h := zY c14 h
        refine lv_iload hx hb dX7_bus_139 (lv_at hl 4 rfl) ?_
        have h := congrArg some (zI_r h hx9)
        have ho0 : v11 = or_ := congrArg (fun z : Int32 => z) (Option.some.inj h)
        exact W.iret (v := v11) hx hb hr (fun t ht hW => ⟨⟨v11, (), rfl, ho0, by rw [ht]; exact hP, va_K.moved hW.alike hK, hD⟩, hS.F ht⟩) hS.2.2 dX7_bus_141
      · have h := zN c14 h
        refine lv_aload_n hx hb dX7_bus_27 rfl (lv_at hl 3 rfl) ?_
        refine lv_aload_n hx hb dX7_bus_28 rfl (lv_at hl 1 rfl) ?_
        refine lv_iload_n hx hb dX7_bus_29 rfl (lv_at hl 2 rfl) ?_
        refine lv_iconst (v := 2) hx hb dX7_bus_30 (by decide) ?_
        refine lv_iload hx hb dX7_bus_31 (lv_at hl 5 rfl) ?_
        refine lv_imul hx hb dX7_bus_33 ?_
        refine lv_iconst (v := 1) hx hb dX7_bus_34 (by decide) ?_
        refine lv_iadd hx hb dX7_bus_35 ?_
        obtain ⟨r15, hc16, h⟩ := zB_spec h
        have hFc := zFree hD hS hA
        refine va_calli (va_runV (As := [.int p1, .int (((2 : Int32) * v12) + (1 : Int32))]) (rest := [.ref (h7 q)]) ⟨hx, hb, hml, hown, hts⟩ (m_X7_in l dC dI y a7 h7 S7 p1 (((2 : Int32) * v12) + (1 : Int32)) HGW2.size r15 hc16) (cwV 2 hts gX7_bus_X7_in rfl rfl rfl (by decide +kernel) ⟨Nat.le_of_ble_eq_true rfl, Nat.le_of_ble_eq_true rfl⟩) ⟨fun a U g mk q => by obtain ⟨q0, q1, qP, qK, qD⟩ := q; exact ⟨q0, q1, qP, va_K.moved (u := U) (U := U.calling g mk a) (Vm.Alike.refl U.vm) qK, qD⟩, va_recv hK hP (ci := 6) (q0 := 0) rfl rfl, fun U hU hW => ⟨rfl, by rw [hU], by rw [hU]; exact hP, va_K.moved hW.alike hK, hD.weaken (fun _ _ _ _ => trivial)⟩⟩ rfl rfl hl.1 rfl (lv_room (Nat.le_of_ble_eq_true rfl)) dX7_bus_36 ⟨Nat.le_of_ble_eq_true rfl, Nat.le_of_ble_eq_true rfl⟩) hS (fun q _ h => hFc q h) hFc (fun rr18 u t H17 locs ht hvm hw hB hz1 hk1 hS => ?_)
        obtain ⟨hP1, hK1, hD1⟩ := hB
        rw [ht] at hP1
        refine zTopi hw.symm ?_
        have hP := hP1
        have hD := hD1.weaken (fun _ q _ h => hFc q.1 h)
        have hP : va_P (dC, dI) vwCl (cX7 a7 h7 y S7) H17 := hP
        have hD : va_D A (cX7 a7 h7 y S7) := hD
        obtain ⟨hi19, h⟩ := zG_spec h
        refine va_iald hx hb hK hP pq 0 (hq.1 _) rfl hi19 dX7_bus_39 ?_
        obtain ⟨r20, hc21, h⟩ := zB_spec h
        have hPc := hP.sub (ws' := []) [] rfl
        have hDc := hD.sub (ws' := []) [] (by decide) rfl
        have hFc := va_free (wc := []) hD hS hA [] rfl
        refine va_calli (va_runS (As := [.int (gA S7 q r15.toNatClampNeg)]) (rest := []) ⟨hx, hb, hml, hown, hts⟩ (m_X7_taken l dC dI y (gA S7 q r15.toNatClampNeg) H17.size r20 hc21) (va_cwS 1 hts gX7_bus_X7_taken rfl rfl rfl (by decide +kernel) ⟨Nat.le_of_ble_eq_true rfl, Nat.le_of_ble_eq_true rfl⟩) ⟨fun a U g mk q => by obtain ⟨q0, q1, qP, qK, qD⟩ := q; exact ⟨q0, q1, qP, va_K.moved (u := U) (U := U.calling g mk a) (Vm.Alike.refl U.vm) qK, qD⟩, fun U hU hW => ⟨rfl, by rw [hU], by rw [hU]; exact hPc, va_K.moved hW.alike hK, hDc.weaken (fun _ _ _ _ => trivial)⟩⟩ rfl rfl hl.1 rfl (lv_room (Nat.le_of_ble_eq_true rfl)) dX7_bus_40 ⟨Nat.le_of_ble_eq_true rfl, Nat.le_of_ble_eq_true rfl⟩) hS (fun q _ h => hFc q h) hFc (fun rr23 u t H22 locs ht hvm hw hB hz1 hk1 hS => ?_)
        obtain ⟨hP1, hK1, hD1⟩ := hB
        rw [ht] at hP1
        refine zTopi hw.symm ?_
        obtain ⟨hP, hD⟩ := va_join (wr := [(oX7 a7 h7 S7), (h7 0, .inl (y 2, 2020, .inl (gA S7 0))), (h7 1, .inl (y 2, 2000, .inl (gA S7 1))), (h7 11, .inl (y 1, 120, .inr (.inl (gB S7 11)))), (h7 12, .inl (y 0, 120, .inl (gA S7 12))), (h7 13, .inl (y 0, 120, .inl (gA S7 13))), (h7 14, .inl (y 0, 120, .inl (gA S7 14))), (h7 15, .inl (y 0, 120, .inl (gA S7 15))), (h7 16, .inl (y 0, 1440, .inl (gA S7 16))), (h7 17, .inl (y 0, 120, .inl (gA S7 17))), (h7 18, .inl (y 0, 60, .inl (gA S7 18))), (h7 19, .inl (y 3, 720, .inl (gA S7 19))), (h7 20, .inl (y 1, 1000, .inr (.inl (gB S7 20)))), (h7 21, .inl (y 0, 1000, .inl (gA S7 21))), (h7 22, .inl (y 0, 1000, .inl (gA S7 22))), (h7 23, .inl (y 1, 200, .inr (.inl (gB S7 23)))), (h7 24, .inl (y 0, 200, .inl (gA S7 24))), (h7 25, .inl (y 3, 200, .inl (gA S7 25))), (h7 32, .inl (y 3, 60, .inl (gA S7 32))), (h7 33, .inl (y 0, 60, .inl (gA S7 33))), (h7 34, .inl (y 0, 60, .inl (gA S7 34))), (h7 35, .inl (y 0, 60, .inl (gA S7 35))), (h7 36, .inl (y 0, 60, .inl (gA S7 36))), (h7 37, .inl (y 0, 60, .inl (gA S7 37))), (h7 38, .inl (y 0, 60, .inl (gA S7 38))), (h7 40, .inl (y 0, 60, .inl (gA S7 40))), (h7 41, .inl (y 0, 60, .inl (gA S7 41))), (h7 42, .inl (y 0, 600, .inl (gA S7 42))), (h7 43, .inl (y 0, 1200, .inl (gA S7 43))), (h7 44, .inl (y 0, 60, .inl (gA S7 44))), (h7 45, .inl (y 3, 60, .inl (gA S7 45)))]) (w1 := []) hP hD [] [0, 1, 2, 3, 4, 5, 6, 7, 8, 9, 10, 11, 12, 13, 14, 15, 16, 17, 18, 19, 20, 21, 22, 23, 24, 25, 26, 27, 28, 29, 30] rfl rfl (by decide) (by decide) hk1 hFc hP1 hD1
        have hP : va_P (dC, dI) vwCl (cX7 a7 h7 y S7) H22 := hP.sub [0, 1, 2, 3, 4, 5, 6, 7, 8, 9, 10, 11, 12, 13, 14, 15, 16, 17, 18, 19, 20, 21, 22, 23, 24, 25, 26, 27, 28, 29, 30] rfl
        have hD : va_D A (cX7 a7 h7 y S7) := hD.sub [0, 1, 2, 3, 4, 5, 6, 7, 8, 9, 10, 11, 12, 13, 14, 15, 16, 17, 18, 19, 20, 21, 22, 23, 24, 25, 26, 27, 28, 29, 30] (by decide) rfl
        refine lv_istore (lv' := [(6, .int r20), (3, .int v1), (0, .ref a7), (1, .int p1), (2, .ref (h7 q)), (4, .int v11), (5, .int v12)]) hx hb dX7_bus_43 hl (by decide) rfl (fun ls hl => ?_)
        refine lv_iload hx hb dX7_bus_45 (lv_at hl 0 rfl) ?_
        refine lv_iconst (v := 2) hx hb dX7_bus_47 (by decide) ?_
        refine W_abs (fun GW24 eG25 => ?_)
        obtain ⟨ov27, hr28, h⟩ := zB_spec h
        have jn26 : ∀ (v30 : Int32) (HGW24 : Heap) (locs : List Loc) (ls : Array Slot), v30 = ov27 → va_P (dC, dI) vwCl (cX7 a7 h7 y S7) HGW24 → va_D A (cX7 a7 h7 y S7) → va_S A s.heap HGW24 locs → lv_has ls 8 [(3, .int v1), (0, .ref a7), (1, .int p1), (2, .ref (h7 q)), (4, .int v11), (5, .int v12)] → GW24 HGW24 locs 0 0 (F0 m 99 ls [.int v30]) := by
          intro v30 HGW24 locs ls hv hP hD hS hl
          subst hv
          refine (eG25 _ _ _ _ _).mpr ?_
          refine lv_istore (lv' := [(7, .int v30), (3, .int v1), (0, .ref a7), (1, .int p1), (2, .ref (h7 q)), (4, .int v11), (5, .int v12)]) hx hb dX7_bus_99 hl (by decide) rfl (fun ls hl => ?_)
          refine lv_iload hx hb dX7_bus_101 (lv_at hl 0 rfl) ?_
          refine lv_iconst (v := 3) hx hb dX7_bus_103 (by decide) ?_
          refine lv_icmp_ne (tgt := 112) hx hb dX7_bus_104 (by decide) (fun c31 => ?_) (fun c31 => ?_)
          · have h := zN c31 h
            refine lv_iload hx hb dX7_bus_112 (lv_at hl 5 rfl) ?_
            refine lv_iconst (v := 3) hx hb dX7_bus_114 (by decide) ?_
            refine lv_icmp_eq (tgt := 125) hx hb dX7_bus_115 (by decide) (fun c32 => ?_) (fun c32 => ?_)
            · have h := zY c32 h
              refine lv_iload hx hb dX7_bus_125 (lv_at hl 0 rfl) ?_
              refine lv_goto (tgt := 131) hx hb dX7_bus_127 (by decide) ?_
              refine lv_istore (lv' := [(4, .int v30), (7, .int v30), (3, .int v1), (0, .ref a7), (1, .int p1), (2, .ref (h7 q)), (5, .int v12)]) hx hb dX7_bus_131 hl (by decide) rfl (fun ls hl => ?_)
              obtain ⟨v33, ev33, h⟩ := zL_spec h
              refine lv_iinc (v := v33) (lv' := [(5, .int v33), (4, .int v30), (7, .int v30), (3, .int v1), (0, .ref a7), (1, .int p1), (2, .ref (h7 q))]) hx hb dX7_bus_133 hl (k := 6) rfl (by rw [ev33]; rfl) (by decide) rfl (fun ls hl => ?_)
              refine lv_goto (tgt := 16) hx hb dX7_bus_136 (by decide) ?_
              have h := zI_l h hx9
              exact (eG3 _ _ _ _ _).mp (ihlp5 v30 v33 _ _ _ h hP hD hS (lv_sub hl [3, 4, 5, 6, 1, 0] rfl))
            · have h := zN c32 h
              refine lv_iload hx hb dX7_bus_118 (lv_at hl 5 rfl) ?_
              refine lv_iload hx hb dX7_bus_120 (lv_at hl 0 rfl) ?_
              refine lv_icmp_ne (tgt := 130) hx hb dX7_bus_122 (by decide) (fun c34 => ?_) (fun c34 => ?_)
              · have h := zN c34 h
                refine lv_iconst (v := 2) hx hb dX7_bus_130 (by decide) ?_
                refine lv_istore (lv' := [(4, .int 2), (7, .int v30), (3, .int v1), (0, .ref a7), (1, .int p1), (2, .ref (h7 q)), (5, .int v12)]) hx hb dX7_bus_131 hl (by decide) rfl (fun ls hl => ?_)
                obtain ⟨v35, ev35, h⟩ := zL_spec h
                refine lv_iinc (v := v35) (lv' := [(5, .int v35), (4, .int 2), (7, .int v30), (3, .int v1), (0, .ref a7), (1, .int p1), (2, .ref (h7 q))]) hx hb dX7_bus_133 hl (k := 6) rfl (by rw [ev35]; rfl) (by decide) rfl (fun ls hl => ?_)
                refine lv_goto (tgt := 16) hx hb dX7_bus_136 (by decide) ?_
                have h := zI_l h hx9
                exact (eG3 _ _ _ _ _).mp (ihlp5 (2 : Int32) v35 _ _ _ h hP hD hS (lv_sub hl [3, 4, 5, 6, 1, 0] rfl))
              · have h := zY c34 h
                refine lv_iload hx hb dX7_bus_125 (lv_at hl 0 rfl) ?_
                refine lv_goto (tgt := 131) hx hb dX7_bus_127 (by decide) ?_
                refine lv_istore (lv' := [(4, .int v30), (7, .int v30), (3, .int v1), (0, .ref a7), (1, .int p1), (2, .ref (h7 q)), (5, .int v12)]) hx hb dX7_bus_131 hl (by decide) rfl (fun ls hl => ?_)
                obtain ⟨v36, ev36, h⟩ := zL_spec h
                refine lv_iinc (v := v36) (lv' := [(5, .int v36), (4, .int v30), (7, .int v30), (3, .int v1), (0, .ref a7), (1, .int p1), (2, .ref (h7 q))]) hx hb dX7_bus_133 hl (k := 6) rfl (by rw [ev36]; rfl) (by decide) rfl (fun ls hl => ?_)
                refine lv_goto (tgt := 16) hx hb dX7_bus_136 (by decide) ?_
                have h := zI_l h hx9
                exact (eG3 _ _ _ _ _).mp (ihlp5 v30 v36 _ _ _ h hP hD hS (lv_sub hl [3, 4, 5, 6, 1, 0] rfl))
          · have h := zY c31 h
            refine lv_iload hx hb dX7_bus_107 (lv_at hl 5 rfl) ?_
            refine lv_goto (tgt := 131) hx hb dX7_bus_109 (by decide) ?_
            refine lv_istore (lv' := [(4, .int v11), (7, .int v30), (3, .int v1), (0, .ref a7), (1, .int p1), (2, .ref (h7 q)), (5, .int v12)]) hx hb dX7_bus_131 hl (by decide) rfl (fun ls hl => ?_)
            obtain ⟨v37, ev37, h⟩ := zL_spec h
            refine lv_iinc (v := v37) (lv' := [(5, .int v37), (4, .int v11), (7, .int v30), (3, .int v1), (0, .ref a7), (1, .int p1), (2, .ref (h7 q))]) hx hb dX7_bus_133 hl (k := 6) rfl (by rw [ev37]; rfl) (by decide) rfl (fun ls hl => ?_)
            refine lv_goto (tgt := 16) hx hb dX7_bus_136 (by decide) ?_
            have h := zI_l h hx9
            exact (eG3 _ _ _ _ _).mp (ihlp5 v11 v37 _ _ _ h hP hD hS (lv_sub hl [3, 4, 5, 6, 1, 0] rfl))
        refine (eG25 _ _ _ _ _).mpr ?_
        have h := hr28
        refine lv_icmp_ne (tgt := 55) hx hb dX7_bus_48 (by decide) (fun c38 => ?_) (fun c38 => ?_)
        · have h := zN c38 h
          refine lv_iload hx hb dX7_bus_55 (lv_at hl 0 rfl) ?_
          refine lv_iconst (v := 1) hx hb dX7_bus_57 (by decide) ?_
          refine W_abs (fun GW39 eG40 => ?_)
          obtain ⟨ov42, hr43, h⟩ := zB_spec h
          have jn41 : ∀ (v45 : Int32) (HGW39 : Heap) (locs : List Loc) (ls : Array Slot), v45 = ov42 → va_P (dC, dI) vwCl (cX7 a7 h7 y S7) HGW39 → va_D A (cX7 a7 h7 y S7) → va_S A s.heap HGW39 locs → lv_has ls 8 [(3, .int v1), (0, .ref a7), (1, .int p1), (2, .ref (h7 q)), (4, .int v11), (5, .int v12)] → GW39 HGW39 locs 0 0 (F0 m 66 ls [.int v45]) := by
            intro v45 HGW39 locs ls hv hP hD hS hl
            subst hv
            refine (eG40 _ _ _ _ _).mpr ?_
            refine lv_aload_n hx hb dX7_bus_66 rfl (lv_at hl 1 rfl) ?_
            refine va_get (D := (dC, dI)) (ci := 6) (v := .ref (h7 19)) (C := RX7) (T := TX7) (N := 49) hx hb hts inX7_ hown hK hP 0 rfl rfl 19 (by decide) (hts (.fieldLink RX7 46 "GateWheelModel" "isIf1" "[Z") (List.mem_of_getElem? (i := 3) rfl)) (fun _ h9 => h9) rfl dX7_bus_67 ?_
            refine lv_bipush (v := 6) hx hb dX7_bus_70 (by decide) ?_
            refine lv_iload_n hx hb dX7_bus_72 rfl (lv_at hl 0 rfl) ?_
            refine lv_imul hx hb dX7_bus_73 ?_
            refine lv_iload hx hb dX7_bus_74 (lv_at hl 5 rfl) ?_
            refine lv_iadd hx hb dX7_bus_76 ?_
            obtain ⟨hi46, h⟩ := zG_spec h
            refine va_zald hx hb hK hP 11 3 rfl rfl hi46 dX7_bus_77 ?_
            refine lv_icmp_ne (tgt := 98) hx hb dX7_bus_78 (by decide) (fun c47 => ?_) (fun c47 => ?_)
            · have h := zN c47 h
              refine lv_iconst (v := 3) hx hb dX7_bus_98 (by decide) ?_
              exact (eG25 _ _ _ _ _).mp (jn26 (3 : Int32) _ _ _ (Option.some.inj h) hP hD hS (lv_sub hl [0, 1, 2, 3, 4, 5] rfl))
            · have h := zY c47 h
              refine lv_aload_n hx hb dX7_bus_81 rfl (lv_at hl 3 rfl) ?_
              refine lv_aload_n hx hb dX7_bus_82 rfl (lv_at hl 1 rfl) ?_
              refine lv_iload_n hx hb dX7_bus_83 rfl (lv_at hl 2 rfl) ?_
              refine lv_iconst (v := 2) hx hb dX7_bus_84 (by decide) ?_
              refine lv_iload hx hb dX7_bus_85 (lv_at hl 5 rfl) ?_
              refine lv_imul hx hb dX7_bus_87 ?_
              obtain ⟨r48, hc49, h⟩ := zB_spec h
              have hFc := zFree hD hS hA
              refine va_calli (va_runV (As := [.int p1, .int ((2 : Int32) * v12)]) (rest := [.ref (h7 q)]) ⟨hx, hb, hml, hown, hts⟩ (m_X7_in l dC dI y a7 h7 S7 p1 ((2 : Int32) * v12) HGW39.size r48 hc49) (cwV 2 hts gX7_bus_X7_in rfl rfl rfl (by decide +kernel) ⟨Nat.le_of_ble_eq_true rfl, Nat.le_of_ble_eq_true rfl⟩) ⟨fun a U g mk q => by obtain ⟨q0, q1, qP, qK, qD⟩ := q; exact ⟨q0, q1, qP, va_K.moved (u := U) (U := U.calling g mk a) (Vm.Alike.refl U.vm) qK, qD⟩, va_recv hK hP (ci := 6) (q0 := 0) rfl rfl, fun U hU hW => ⟨rfl, by rw [hU], by rw [hU]; exact hP, va_K.moved hW.alike hK, hD.weaken (fun _ _ _ _ => trivial)⟩⟩ rfl rfl hl.1 rfl (lv_room (Nat.le_of_ble_eq_true rfl)) dX7_bus_88 ⟨Nat.le_of_ble_eq_true rfl, Nat.le_of_ble_eq_true rfl⟩) hS (fun q _ h => hFc q h) hFc (fun rr51 u t H50 locs ht hvm hw hB hz1 hk1 hS => ?_)
              obtain ⟨hP1, hK1, hD1⟩ := hB
              rw [ht] at hP1
              refine zTopi hw.symm ?_
              have hP := hP1
              have hD := hD1.weaken (fun _ q _ h => hFc q.1 h)
              have hP : va_P (dC, dI) vwCl (cX7 a7 h7 y S7) H50 := hP
              have hD : va_D A (cX7 a7 h7 y S7) := hD
              obtain ⟨hi52, h⟩ := zG_spec h
              refine va_iald hx hb hK hP pq 0 (hq.1 _) rfl hi52 dX7_bus_91 ?_
              obtain ⟨r53, hc54, h⟩ := zB_spec h
              have hPc := hP.sub (ws' := []) [] rfl
              have hDc := hD.sub (ws' := []) [] (by decide) rfl
              have hFc := va_free (wc := []) hD hS hA [] rfl
              refine va_calli (va_runS (As := [.int (gA S7 q r48.toNatClampNeg)]) (rest := []) ⟨hx, hb, hml, hown, hts⟩ (m_X7_taken l dC dI y (gA S7 q r48.toNatClampNeg) H50.size r53 hc54) (va_cwS 1 hts gX7_bus_X7_taken rfl rfl rfl (by decide +kernel) ⟨Nat.le_of_ble_eq_true rfl, Nat.le_of_ble_eq_true rfl⟩) ⟨fun a U g mk q => by obtain ⟨q0, q1, qP, qK, qD⟩ := q; exact ⟨q0, q1, qP, va_K.moved (u := U) (U := U.calling g mk a) (Vm.Alike.refl U.vm) qK, qD⟩, fun U hU hW => ⟨rfl, by rw [hU], by rw [hU]; exact hPc, va_K.moved hW.alike hK, hDc.weaken (fun _ _ _ _ => trivial)⟩⟩ rfl rfl hl.1 rfl (lv_room (Nat.le_of_ble_eq_true rfl)) dX7_bus_92 ⟨Nat.le_of_ble_eq_true rfl, Nat.le_of_ble_eq_true rfl⟩) hS (fun q _ h => hFc q h) hFc (fun rr56 u t H55 locs ht hvm hw hB hz1 hk1 hS => ?_)
              obtain ⟨hP1, hK1, hD1⟩ := hB
              rw [ht] at hP1
              refine zTopi hw.symm ?_
              obtain ⟨hP, hD⟩ := va_join (wr := [(oX7 a7 h7 S7), (h7 0, .inl (y 2, 2020, .inl (gA S7 0))), (h7 1, .inl (y 2, 2000, .inl (gA S7 1))), (h7 11, .inl (y 1, 120, .inr (.inl (gB S7 11)))), (h7 12, .inl (y 0, 120, .inl (gA S7 12))), (h7 13, .inl (y 0, 120, .inl (gA S7 13))), (h7 14, .inl (y 0, 120, .inl (gA S7 14))), (h7 15, .inl (y 0, 120, .inl (gA S7 15))), (h7 16, .inl (y 0, 1440, .inl (gA S7 16))), (h7 17, .inl (y 0, 120, .inl (gA S7 17))), (h7 18, .inl (y 0, 60, .inl (gA S7 18))), (h7 19, .inl (y 3, 720, .inl (gA S7 19))), (h7 20, .inl (y 1, 1000, .inr (.inl (gB S7 20)))), (h7 21, .inl (y 0, 1000, .inl (gA S7 21))), (h7 22, .inl (y 0, 1000, .inl (gA S7 22))), (h7 23, .inl (y 1, 200, .inr (.inl (gB S7 23)))), (h7 24, .inl (y 0, 200, .inl (gA S7 24))), (h7 25, .inl (y 3, 200, .inl (gA S7 25))), (h7 32, .inl (y 3, 60, .inl (gA S7 32))), (h7 33, .inl (y 0, 60, .inl (gA S7 33))), (h7 34, .inl (y 0, 60, .inl (gA S7 34))), (h7 35, .inl (y 0, 60, .inl (gA S7 35))), (h7 36, .inl (y 0, 60, .inl (gA S7 36))), (h7 37, .inl (y 0, 60, .inl (gA S7 37))), (h7 38, .inl (y 0, 60, .inl (gA S7 38))), (h7 40, .inl (y 0, 60, .inl (gA S7 40))), (h7 41, .inl (y 0, 60, .inl (gA S7 41))), (h7 42, .inl (y 0, 600, .inl (gA S7 42))), (h7 43, .inl (y 0, 1200, .inl (gA S7 43))), (h7 44, .inl (y 0, 60, .inl (gA S7 44))), (h7 45, .inl (y 3, 60, .inl (gA S7 45)))]) (w1 := []) hP hD [] [0, 1, 2, 3, 4, 5, 6, 7, 8, 9, 10, 11, 12, 13, 14, 15, 16, 17, 18, 19, 20, 21, 22, 23, 24, 25, 26, 27, 28, 29, 30] rfl rfl (by decide) (by decide) hk1 hFc hP1 hD1
              have hP : va_P (dC, dI) vwCl (cX7 a7 h7 y S7) H55 := hP.sub [0, 1, 2, 3, 4, 5, 6, 7, 8, 9, 10, 11, 12, 13, 14, 15, 16, 17, 18, 19, 20, 21, 22, 23, 24, 25, 26, 27, 28, 29, 30] rfl
              have hD : va_D A (cX7 a7 h7 y S7) := hD.sub [0, 1, 2, 3, 4, 5, 6, 7, 8, 9, 10, 11, 12, 13, 14, 15, 16, 17, 18, 19, 20, 21, 22, 23, 24, 25, 26, 27, 28, 29, 30] (by decide) rfl
              refine lv_goto (tgt := 99) hx hb dX7_bus_95 (by decide) ?_
              exact (eG25 _ _ _ _ _).mp (jn26 r53 _ _ _ (Option.some.inj h) hP hD hS (lv_sub hl [0, 1, 2, 3, 4, 5] rfl))
          refine (eG40 _ _ _ _ _).mpr ?_
          have h := hr43
          refine lv_icmp_ne (tgt := 65) hx hb dX7_bus_58 (by decide) (fun c57 => ?_) (fun c57 => ?_)
          · have h := zN c57 h
            refine lv_iconst (v := 0) hx hb dX7_bus_65 (by decide) ?_
            exact (eG40 _ _ _ _ _).mp (jn41 (0 : Int32) _ _ _ (Option.some.inj h) hP hD hS (lv_sub hl [1, 2, 3, 4, 5, 6] rfl))
          · have h := zY c57 h
            refine lv_iconst (v := 1) hx hb dX7_bus_61 (by decide) ?_
            refine lv_goto (tgt := 66) hx hb dX7_bus_62 (by decide) ?_
            exact (eG40 _ _ _ _ _).mp (jn41 (1 : Int32) _ _ _ (Option.some.inj h) hP hD hS (lv_sub hl [1, 2, 3, 4, 5, 6] rfl))
        · have h := zY c38 h
          refine lv_iconst (v := 2) hx hb dX7_bus_51 (by decide) ?_
          refine lv_goto (tgt := 99) hx hb dX7_bus_52 (by decide) ?_
          exact (eG25 _ _ _ _ _).mp (jn26 (2 : Int32) _ _ _ (Option.some.inj h) hP hD hS (lv_sub hl [1, 2, 3, 4, 5, 6] rfl))
  exact lp5 zF (3 : Int32) (0 : Int32) _ _ _ hi7 hP hD hS (lv_sub hl [2, 3, 4, 5, 1, 0] rfl)

set_option maxHeartbeats 4000000 in
set_option maxRecDepth 100000 in
theorem m_X7_follow (l : Launch) (dC : Nat → ClassId) (dI : Nat → Nat → Nat) (y : Nat → ClassId) (a7 : Nat) (h7 : Nat → Nat) (S7 : SS) (q : Nat) (pq : Nat) (hq : SQ a7 h7 y q pq) (sz : Nat) (o_7 : SS) (h : f_X7_follow S7 q = some o_7) : Met l yX7_follow wsX7_follow ({ frames := 2, cells := 0, slots := 0, locals := 50 }) (va_Pc [.ref a7, .ref (h7 q)] (fun U => U.heap.size = sz ∧ va_P (dC, dI) vwCl (cX7 a7 h7 y S7) U.heap ∧ va_K (dC, dI) vwCl [(y 0, .int), (y 1, .long), (y 2, .byte), (y 3, .boolean)] U ∧ va_D (fun _ => True) (cX7 a7 h7 y S7))) (va_Qv (fun (_ : Unit) => True) (fun (_ : Unit) (t : State) => va_P (dC, dI) vwCl (cX7 a7 h7 y o_7) t.heap ∧ va_K (dC, dI) vwCl [(y 0, .int), (y 1, .long), (y 2, .byte), (y 3, .boolean)] t ∧ va_D (va_A (cX7 a7 h7 y S7) sz) (cX7 a7 h7 y o_7)) (va_A (cX7 a7 h7 y S7) sz)) 0 0 (va_A (cX7 a7 h7 y S7) sz) := by
  refine Met.ofW (cc := cX7_follow) (maxL := 4) (ret := none) (by decide +kernel) rfl ?_
  intro p e s m args below meth c s₁ B hml hv
  obtain ⟨rfl, hsz, hP, hK, hD0⟩ := hv
  have hx := B.exec
  have hb := B.bytes
  have hr := B.returns
  have hts := atoms_spec (ws := wsX7_follow) B.pre
  have hown : s.vm.findClass RX7 = some m.cls := findClass_of_methodNamed B.named
  have hlocks := B.notSynchronized
  have inX7_ : ∀ w ∈ wsX70, w ∈ wsX7_follow := fun _ h => List.mem_cons_of_mem _ (List.mem_append_right _ h)
  subst hsz
  have hD := hD0.self (sz := s.heap.size)
  generalize hAe : va_A (cX7 a7 h7 y S7) s.heap.size = A at hD ⊢
  have hA : ∀ q : Nat, s.heap.size ≤ q → A q := fun q h => by rw [← hAe]; exact Or.inr h
  have hS : va_S A s.heap s.heap [] := va_S.rf
  have hP : va_P (dC, dI) vwCl (cX7 a7 h7 y S7) s.heap := hP
  have hl := lv_entry ([.ref a7, .ref (h7 q)]) (n := 4) (Nat.le_of_ble_eq_true rfl)
  rw [lg_entry_eq]
  generalize (lg_sl ([.ref a7, .ref (h7 q)]) ++ List.replicate (4 - (lg_sl ([.ref a7, .ref (h7 q)])).length) Slot.unset).toArray = ls at hl ⊢
  have hl : lv_has ls 4 [(0, .ref a7), (1, .ref (h7 q))] := hl
  refine lv_iconst (v := 0) hx hb dX7_follow_0 (by decide) ?_
  refine lv_istore_n (lv' := [(2, .int 0), (0, .ref a7), (1, .ref (h7 q))]) hx hb dX7_follow_1 rfl hl (by decide) rfl (fun ls hl => ?_)
  refine W_abs (fun GW1 eG2 => ?_)
  have hi6 := h
  have lp4 : ∀ (n : Nat) (v10 : Int32) (s7_11 : SS) (HGW1 : Heap) (locs : List Loc) (ls : Array Slot), zI (b_X7_follow_2 q) n (v10, s7_11) = some o_7 → va_P (dC, dI) vwCl (cX7 a7 h7 y s7_11) HGW1 → va_D A (cX7 a7 h7 y s7_11) → va_S A s.heap HGW1 locs → lv_has ls 4 [(0, .ref a7), (1, .ref (h7 q)), (2, .int v10)] → GW1 HGW1 locs 0 0 (F0 m 2 ls []) := by
    intro n
    induction n with
    | zero =>
      intro v10 s7_11 HGW1 locs ls hi6 hP hD hS hl
      exact (zI_0 hi6).elim
    | succ n ihlp4 =>
      intro v10 s7_11 HGW1 locs ls hi6 hP hD hS hl
      refine (eG2 _ _ _ _ _).mpr ?_
      obtain ⟨xx9, h, hx8⟩ := zI_spec hi6
      refine lv_iload_n hx hb dX7_follow_2 rfl (lv_at hl 2 rfl) ?_
      refine lv_aload_n hx hb dX7_follow_3 rfl (lv_at hl 0 rfl) ?_
      refine va_get (D := (dC, dI)) (ci := 6) (v := .int (gI s7_11 29)) (C := RX7) (T := TX7) (N := 49) hx hb hts inX7_ hown hK hP 0 rfl rfl 29 (by decide) (hts (.fieldLink RX7 261 "GateWheelModel" "nodes" "I") (List.mem_of_getElem? (i := 1) rfl)) (fun _ h9 => h9) rfl dX7_follow_4 ?_
      refine lv_icmp_gt (tgt := 95) hx hb dX7_follow_7 (by decide) (fun c12 => ?_) (fun c12 => ?_)
      · have h := zY c12 h
        have h := congrArg some (zI_r h hx8)
        have ho0 : s7_11 = o_7 := congrArg (fun z : SS => z) (Option.some.inj h)
        exact W.vret hx hb hr (fun t ht hW => ⟨⟨(), rfl, trivial, by rw [ht]; rw [← ho0]; exact hP, va_K.moved hW.alike hK, by rw [← ho0]; exact hD⟩, hS.F ht⟩) hS.2.2 dX7_follow_95
      · have h := zN c12 h
        refine lv_iconst (v := 0) hx hb dX7_follow_10 (by decide) ?_
        refine lv_istore_n (lv' := [(3, .int 0), (0, .ref a7), (1, .ref (h7 q)), (2, .int v10)]) hx hb dX7_follow_11 rfl hl (by decide) rfl (fun ls hl => ?_)
        refine W_abs (fun GW13 eG14 => ?_)
        obtain ⟨ov17, hi18, h⟩ := zB_spec h
        have je15 : ∀ (s7_22 : SS) (HGW13e : Heap) (locs : List Loc) (ls : Array Slot), s7_22 = ov17 → va_P (dC, dI) vwCl (cX7 a7 h7 y s7_22) HGW13e → va_D A (cX7 a7 h7 y s7_22) → va_S A s.heap HGW13e locs → lv_has ls 4 [(0, .ref a7), (1, .ref (h7 q)), (2, .int v10)] → GW13 HGW13e locs 0 0 (F0 m 89 ls []) := by
          intro s7_22 HGW13e locs ls hv hP hD hS hl
          subst hv
          refine (eG14 _ _ _ _ _).mpr ?_
          obtain ⟨v23, ev23, h⟩ := zL_spec h
          refine lv_iinc (v := v23) (lv' := [(2, .int v23), (0, .ref a7), (1, .ref (h7 q))]) hx hb dX7_follow_89 hl (k := 2) rfl (by rw [ev23]; rfl) (by decide) rfl (fun ls hl => ?_)
          refine lv_goto (tgt := 2) hx hb dX7_follow_92 (by decide) ?_
          have h := zI_l h hx8
          exact (eG2 _ _ _ _ _).mp (ihlp4 v23 s7_22 _ _ _ h hP hD hS (lv_sub hl [1, 2, 0] rfl))
        have lp16 : ∀ (n : Nat) (v24 : Int32) (s7_25 : SS) (HGW13 : Heap) (locs : List Loc) (ls : Array Slot), zI (b_X7_follow_12 q v10) n (v24, s7_25) = some ov17 → va_P (dC, dI) vwCl (cX7 a7 h7 y s7_25) HGW13 → va_D A (cX7 a7 h7 y s7_25) → va_S A s.heap HGW13 locs → lv_has ls 4 [(0, .ref a7), (1, .ref (h7 q)), (2, .int v10), (3, .int v24)] → GW13 HGW13 locs 0 0 (F0 m 12 ls []) := by
          intro n
          induction n with
          | zero =>
            intro v24 s7_25 HGW13 locs ls hi18 hP hD hS hl
            exact (zI_0 hi18).elim
          | succ n ihlp16 =>
            intro v24 s7_25 HGW13 locs ls hi18 hP hD hS hl
            refine (eG14 _ _ _ _ _).mpr ?_
            obtain ⟨xx21, h, hx20⟩ := zI_spec hi18
            refine lv_iload_n hx hb dX7_follow_12 rfl (lv_at hl 3 rfl) ?_
            refine lv_aload_n hx hb dX7_follow_13 rfl (lv_at hl 0 rfl) ?_
            refine va_get (D := (dC, dI)) (ci := 6) (v := .int (gI s7_25 29)) (C := RX7) (T := TX7) (N := 49) hx hb hts inX7_ hown hK hP 0 rfl rfl 29 (by decide) (hts (.fieldLink RX7 261 "GateWheelModel" "nodes" "I") (List.mem_of_getElem? (i := 1) rfl)) (fun _ h9 => h9) rfl dX7_follow_14 ?_
            refine lv_icmp_ge (tgt := 89) hx hb dX7_follow_17 (by decide) (fun c26 => ?_) (fun c26 => ?_)
            · have h := zY c26 h
              exact (eG14 _ _ _ _ _).mp (je15 s7_25 _ _ _ (zI_r h hx20) hP hD hS (lv_sub hl [0, 1, 2] rfl))
            · have h := zN c26 h
              refine lv_aload_n hx hb dX7_follow_20 rfl (lv_at hl 0 rfl) ?_
              refine va_get (D := (dC, dI)) (ci := 6) (v := .ref (h7 17)) (C := RX7) (T := TX7) (N := 49) hx hb hts inX7_ hown hK hP 0 rfl rfl 17 (by decide) (hts (.fieldLink RX7 40 "GateWheelModel" "nLevel" "[I") (List.mem_of_getElem? (i := 2) rfl)) (fun _ h9 => h9) rfl dX7_follow_21 ?_
              refine lv_bipush (v := 60) hx hb dX7_follow_24 (by decide) ?_
              refine lv_aload_n hx hb dX7_follow_26 rfl (lv_at hl 0 rfl) ?_
              refine va_get (D := (dC, dI)) (ci := 6) (v := .int (gI s7_25 30)) (C := RX7) (T := TX7) (N := 49) hx hb hts inX7_ hown hK hP 0 rfl rfl 30 (by decide) (hts (.fieldLink RX7 188 "GateWheelModel" "bank" "I") (List.mem_of_getElem? (i := 3) rfl)) (fun _ h9 => h9) rfl dX7_follow_27 ?_
              refine lv_imul hx hb dX7_follow_30 ?_
              refine lv_iload_n hx hb dX7_follow_31 rfl (lv_at hl 3 rfl) ?_
              refine lv_iadd hx hb dX7_follow_32 ?_
              obtain ⟨hi27, h⟩ := zG_spec h
              refine va_iald hx hb hK hP 9 0 rfl rfl hi27 dX7_follow_33 ?_
              refine lv_iload_n hx hb dX7_follow_34 rfl (lv_at hl 2 rfl) ?_
              refine lv_icmp_ne (tgt := 83) hx hb dX7_follow_35 (by decide) (fun c28 => ?_) (fun c28 => ?_)
              · have h := zN c28 h
                obtain ⟨v29, ev29, h⟩ := zL_spec h
                refine lv_iinc (v := v29) (lv' := [(3, .int v29), (0, .ref a7), (1, .ref (h7 q)), (2, .int v10)]) hx hb dX7_follow_83 hl (k := 3) rfl (by rw [ev29]; rfl) (by decide) rfl (fun ls hl => ?_)
                refine lv_goto (tgt := 12) hx hb dX7_follow_86 (by decide) ?_
                have h := zI_l h hx20
                exact (eG14 _ _ _ _ _).mp (ihlp16 v29 s7_25 _ _ _ h hP hD hS (lv_sub hl [1, 2, 3, 0] rfl))
              · have h := zY c28 h
                refine lv_aload_n hx hb dX7_follow_38 rfl (lv_at hl 0 rfl) ?_
                refine lv_iload_n hx hb dX7_follow_39 rfl (lv_at hl 3 rfl) ?_
                obtain ⟨r30, hc31, h⟩ := zB_spec h
                have hFc := zFree hD hS hA
                refine va_calli (va_runV (As := [.int v24]) (rest := []) ⟨hx, hb, hml, hown, hts⟩ (m_X7_kind l dC dI y a7 h7 s7_25 v24 HGW13.size r30 hc31) (cwV 1 hts gX7_follow_X7_kind rfl rfl rfl (by decide +kernel) ⟨Nat.le_of_ble_eq_true rfl, Nat.le_of_ble_eq_true rfl⟩) ⟨fun a U g mk q => by obtain ⟨q0, q1, qP, qK, qD⟩ := q; exact ⟨q0, q1, qP, va_K.moved (u := U) (U := U.calling g mk a) (Vm.Alike.refl U.vm) qK, qD⟩, va_recv hK hP (ci := 6) (q0 := 0) rfl rfl, fun U hU hW => ⟨rfl, by rw [hU], by rw [hU]; exact hP, va_K.moved hW.alike hK, hD.weaken (fun _ _ _ _ => trivial)⟩⟩ rfl rfl hl.1 rfl (lv_room (Nat.le_of_ble_eq_true rfl)) dX7_follow_40 ⟨Nat.le_of_ble_eq_true rfl, Nat.le_of_ble_eq_true rfl⟩) hS (fun q _ h => hFc q h) hFc (fun rr33 u t H32 locs ht hvm hw hB hz1 hk1 hS => ?_)
                obtain ⟨hP1, hK1, hD1⟩ := hB
                rw [ht] at hP1
                refine zTopi hw.symm ?_
                have hP := hP1
                have hD := hD1.weaken (fun _ q _ h => hFc q.1 h)
                have hP : va_P (dC, dI) vwCl (cX7 a7 h7 y s7_25) H32 := hP
                have hD : va_D A (cX7 a7 h7 y s7_25) := hD
                refine lv_iconst (v := 2) hx hb dX7_follow_43 (by decide) ?_
                refine lv_icmp_eq (tgt := 56) hx hb dX7_follow_44 (by decide) (fun c34 => ?_) (fun c34 => ?_)
                · have h := zY c34 h
                  refine lv_aload_n hx hb dX7_follow_56 rfl (lv_at hl 1 rfl) ?_
                  refine lv_iload_n hx hb dX7_follow_57 rfl (lv_at hl 3 rfl) ?_
                  refine lv_aload_n hx hb dX7_follow_58 rfl (lv_at hl 0 rfl) ?_
                  refine lv_iload_n hx hb dX7_follow_59 rfl (lv_at hl 3 rfl) ?_
                  obtain ⟨r35, hc36, h⟩ := zB_spec h
                  have hFc := zFree hD hS hA
                  refine va_calli (va_runV (As := [.int v24]) (rest := [.int v24, .ref (h7 q)]) ⟨hx, hb, hml, hown, hts⟩ (m_X7_kind l dC dI y a7 h7 s7_25 v24 H32.size r35 hc36) (cwV 1 hts gX7_follow_X7_kind rfl rfl rfl (by decide +kernel) ⟨Nat.le_of_ble_eq_true rfl, Nat.le_of_ble_eq_true rfl⟩) ⟨fun a U g mk q => by obtain ⟨q0, q1, qP, qK, qD⟩ := q; exact ⟨q0, q1, qP, va_K.moved (u := U) (U := U.calling g mk a) (Vm.Alike.refl U.vm) qK, qD⟩, va_recv hK hP (ci := 6) (q0 := 0) rfl rfl, fun U hU hW => ⟨rfl, by rw [hU], by rw [hU]; exact hP, va_K.moved hW.alike hK, hD.weaken (fun _ _ _ _ => trivial)⟩⟩ rfl rfl hl.1 rfl (lv_room (Nat.le_of_ble_eq_true rfl)) dX7_follow_60 ⟨Nat.le_of_ble_eq_true rfl, Nat.le_of_ble_eq_true rfl⟩) hS (fun q _ h => hFc q h) hFc (fun rr38 u t H37 locs ht hvm hw hB hz1 hk1 hS => ?_)
                  obtain ⟨hP1, hK1, hD1⟩ := hB
                  rw [ht] at hP1
                  refine zTopi hw.symm ?_
                  have hP := hP1
                  have hD := hD1.weaken (fun _ q _ h => hFc q.1 h)
                  have hP : va_P (dC, dI) vwCl (cX7 a7 h7 y s7_25) H37 := hP
                  have hD : va_D A (cX7 a7 h7 y s7_25) := hD
                  refine lv_iconst (v := 2) hx hb dX7_follow_63 (by decide) ?_
                  refine W_abs (fun GW39 eG40 => ?_)
                  obtain ⟨ov42, hr43, h⟩ := zB_spec h
                  have jn41 : ∀ (v45 : Int32) (HGW39 : Heap) (locs : List Loc) (ls : Array Slot), v45 = ov42 → va_P (dC, dI) vwCl (cX7 a7 h7 y s7_25) HGW39 → va_D A (cX7 a7 h7 y s7_25) → va_S A s.heap HGW39 locs → lv_has ls 4 [(0, .ref a7), (1, .ref (h7 q)), (2, .int v10), (3, .int v24)] → GW39 HGW39 locs 0 0 (F0 m 82 ls [.int v45, .int v24, .ref (h7 q)]) := by
                    intro v45 HGW39 locs ls hv hP hD hS hl
                    subst hv
                    refine (eG40 _ _ _ _ _).mpr ?_
                    obtain ⟨hi46, h⟩ := zG_spec h
                    refine va_iast hx hb hK hP hD hS pq 0 (hq.1 _) rfl hi46 dX7_follow_82 (fun H47 locs hP hD hS => ?_)
                    rw [hq.2] at hP hD
                    obtain ⟨s7_48, es7_48, h⟩ := zL_spec h
                    have hP : va_P (dC, dI) vwCl (cX7 a7 h7 y s7_48) H47 := by rw [es7_48]; exact hP
                    have hD : va_D A (cX7 a7 h7 y s7_48) := by rw [es7_48]; exact hD
                    obtain ⟨v49, ev49, h⟩ := zL_spec h
                    refine lv_iinc (v := v49) (lv' := [(3, .int v49), (0, .ref a7), (1, .ref (h7 q)), (2, .int v10)]) hx hb dX7_follow_83 hl (k := 3) rfl (by rw [ev49]; rfl) (by decide) rfl (fun ls hl => ?_)
                    refine lv_goto (tgt := 12) hx hb dX7_follow_86 (by decide) ?_
                    have h := zI_l h hx20
                    exact (eG14 _ _ _ _ _).mp (ihlp16 v49 s7_48 _ _ _ h hP hD hS (lv_sub hl [1, 2, 3, 0] rfl))
                  refine (eG40 _ _ _ _ _).mpr ?_
                  have h := hr43
                  refine lv_icmp_ne (tgt := 76) hx hb dX7_follow_64 (by decide) (fun c50 => ?_) (fun c50 => ?_)
                  · have h := zN c50 h
                    refine lv_aload_n hx hb dX7_follow_76 rfl (lv_at hl 0 rfl) ?_
                    refine lv_iload_n hx hb dX7_follow_77 rfl (lv_at hl 3 rfl) ?_
                    refine lv_aload_n hx hb dX7_follow_78 rfl (lv_at hl 1 rfl) ?_
                    obtain ⟨r51, hc52, h⟩ := zB_spec h
                    have hFc := zFree hD hS hA
                    refine va_calli (va_runV (As := [.int v24, .ref (h7 q)]) (rest := [.int v24, .ref (h7 q)]) ⟨hx, hb, hml, hown, hts⟩ (m_X7_bus l dC dI y a7 h7 s7_25 v24 q pq hq H37.size r51 hc52) (cwV 2 hts gX7_follow_X7_bus rfl rfl rfl (by decide +kernel) ⟨Nat.le_of_ble_eq_true rfl, Nat.le_of_ble_eq_true rfl⟩) ⟨fun a U g mk q => by obtain ⟨q0, q1, qP, qK, qD⟩ := q; exact ⟨q0, q1, qP, va_K.moved (u := U) (U := U.calling g mk a) (Vm.Alike.refl U.vm) qK, qD⟩, va_recv hK hP (ci := 6) (q0 := 0) rfl rfl, fun U hU hW => ⟨rfl, by rw [hU], by rw [hU]; exact hP, va_K.moved hW.alike hK, hD.weaken (fun _ _ _ _ => trivial)⟩⟩ rfl rfl hl.1 rfl (lv_room (Nat.le_of_ble_eq_true rfl)) dX7_follow_79 ⟨Nat.le_of_ble_eq_true rfl, Nat.le_of_ble_eq_true rfl⟩) hS (fun q _ h => hFc q h) hFc (fun rr54 u t H53 locs ht hvm hw hB hz1 hk1 hS => ?_)
                    obtain ⟨hP1, hK1, hD1⟩ := hB
                    rw [ht] at hP1
                    refine zTopi hw.symm ?_
                    have hP := hP1
                    have hD := hD1.weaken (fun _ q _ h => hFc q.1 h)
                    have hP : va_P (dC, dI) vwCl (cX7 a7 h7 y s7_25) H53 := hP
                    have hD : va_D A (cX7 a7 h7 y s7_25) := hD
                    exact (eG40 _ _ _ _ _).mp (jn41 r51 _ _ _ (Option.some.inj h) hP hD hS (lv_sub hl [0, 1, 2, 3] rfl))
                  · have h := zY c50 h
                    refine lv_aload_n hx hb dX7_follow_67 rfl (lv_at hl 0 rfl) ?_
                    refine lv_iload_n hx hb dX7_follow_68 rfl (lv_at hl 3 rfl) ?_
                    refine lv_aload_n hx hb dX7_follow_69 rfl (lv_at hl 1 rfl) ?_
                    obtain ⟨r55, hc56, h⟩ := zB_spec h
                    have hFc := zFree hD hS hA
                    refine va_calli (va_runV (As := [.int v24, .ref (h7 q)]) (rest := [.int v24, .ref (h7 q)]) ⟨hx, hb, hml, hown, hts⟩ (m_X7_gate l dC dI y a7 h7 s7_25 v24 q pq hq H37.size r55 hc56) (cwV 2 hts gX7_follow_X7_gate rfl rfl rfl (by decide +kernel) ⟨Nat.le_of_ble_eq_true rfl, Nat.le_of_ble_eq_true rfl⟩) ⟨fun a U g mk q => by obtain ⟨q0, q1, qP, qK, qD⟩ := q; exact ⟨q0, q1, qP, va_K.moved (u := U) (U := U.calling g mk a) (Vm.Alike.refl U.vm) qK, qD⟩, va_recv hK hP (ci := 6) (q0 := 0) rfl rfl, fun U hU hW => ⟨rfl, by rw [hU], by rw [hU]; exact hP, va_K.moved hW.alike hK, hD.weaken (fun _ _ _ _ => trivial)⟩⟩ rfl rfl hl.1 rfl (lv_room (Nat.le_of_ble_eq_true rfl)) dX7_follow_70 ⟨Nat.le_of_ble_eq_true rfl, Nat.le_of_ble_eq_true rfl⟩) hS (fun q _ h => hFc q h) hFc (fun rr58 u t H57 locs ht hvm hw hB hz1 hk1 hS => ?_)
                    obtain ⟨hP1, hK1, hD1⟩ := hB
                    rw [ht] at hP1
                    refine zTopi hw.symm ?_
                    have hP := hP1
                    have hD := hD1.weaken (fun _ q _ h => hFc q.1 h)
                    have hP : va_P (dC, dI) vwCl (cX7 a7 h7 y s7_25) H57 := hP
                    have hD : va_D A (cX7 a7 h7 y s7_25) := hD
                    refine lv_goto (tgt := 82) hx hb dX7_follow_73 (by decide) ?_
                    exact (eG40 _ _ _ _ _).mp (jn41 r55 _ _ _ (Option.some.inj h) hP hD hS (lv_sub hl [0, 1, 2, 3] rfl))
                · have h := zN c34 h
                  refine lv_aload_n hx hb dX7_follow_47 rfl (lv_at hl 0 rfl) ?_
                  refine lv_iload_n hx hb dX7_follow_48 rfl (lv_at hl 3 rfl) ?_
                  obtain ⟨r59, hc60, h⟩ := zB_spec h
                  have hFc := zFree hD hS hA
                  refine va_calli (va_runV (As := [.int v24]) (rest := []) ⟨hx, hb, hml, hown, hts⟩ (m_X7_kind l dC dI y a7 h7 s7_25 v24 H32.size r59 hc60) (cwV 1 hts gX7_follow_X7_kind rfl rfl rfl (by decide +kernel) ⟨Nat.le_of_ble_eq_true rfl, Nat.le_of_ble_eq_true rfl⟩) ⟨fun a U g mk q => by obtain ⟨q0, q1, qP, qK, qD⟩ := q; exact ⟨q0, q1, qP, va_K.moved (u := U) (U := U.calling g mk a) (Vm.Alike.refl U.vm) qK, qD⟩, va_recv hK hP (ci := 6) (q0 := 0) rfl rfl, fun U hU hW => ⟨rfl, by rw [hU], by rw [hU]; exact hP, va_K.moved hW.alike hK, hD.weaken (fun _ _ _ _ => trivial)⟩⟩ rfl rfl hl.1 rfl (lv_room (Nat.le_of_ble_eq_true rfl)) dX7_follow_49 ⟨Nat.le_of_ble_eq_true rfl, Nat.le_of_ble_eq_true rfl⟩) hS (fun q _ h => hFc q h) hFc (fun rr62 u t H61 locs ht hvm hw hB hz1 hk1 hS => ?_)
                  obtain ⟨hP1, hK1, hD1⟩ := hB
                  rw [ht] at hP1
                  refine zTopi hw.symm ?_
                  have hP := hP1
                  have hD := hD1.weaken (fun _ q _ h => hFc q.1 h)
                  have hP : va_P (dC, dI) vwCl (cX7 a7 h7 y s7_25) H61 := hP
                  have hD : va_D A (cX7 a7 h7 y s7_25) := hD
                  refine lv_iconst (v := 1) hx hb dX7_follow_52 (by decide) ?_
                  refine lv_icmp_ne (tgt := 83) hx hb dX7_follow_53 (by decide) (fun c63 => ?_) (fun c63 => ?_)
                  · have h := zN c63 h
                    obtain ⟨v64, ev64, h⟩ := zL_spec h
                    refine lv_iinc (v := v64) (lv' := [(3, .int v64), (0, .ref a7), (1, .ref (h7 q)), (2, .int v10)]) hx hb dX7_follow_83 hl (k := 3) rfl (by rw [ev64]; rfl) (by decide) rfl (fun ls hl => ?_)
                    refine lv_goto (tgt := 12) hx hb dX7_follow_86 (by decide) ?_
                    have h := zI_l h hx20
                    exact (eG14 _ _ _ _ _).mp (ihlp16 v64 s7_25 _ _ _ h hP hD hS (lv_sub hl [1, 2, 3, 0] rfl))
                  · have h := zY c63 h
                    refine lv_aload_n hx hb dX7_follow_56 rfl (lv_at hl 1 rfl) ?_
                    refine lv_iload_n hx hb dX7_follow_57 rfl (lv_at hl 3 rfl) ?_
                    refine lv_aload_n hx hb dX7_follow_58 rfl (lv_at hl 0 rfl) ?_
                    refine lv_iload_n hx hb dX7_follow_59 rfl (lv_at hl 3 rfl) ?_
                    obtain ⟨r65, hc66, h⟩ := zB_spec h
                    have hFc := zFree hD hS hA
                    refine va_calli (va_runV (As := [.int v24]) (rest := [.int v24, .ref (h7 q)]) ⟨hx, hb, hml, hown, hts⟩ (m_X7_kind l dC dI y a7 h7 s7_25 v24 H61.size r65 hc66) (cwV 1 hts gX7_follow_X7_kind rfl rfl rfl (by decide +kernel) ⟨Nat.le_of_ble_eq_true rfl, Nat.le_of_ble_eq_true rfl⟩) ⟨fun a U g mk q => by obtain ⟨q0, q1, qP, qK, qD⟩ := q; exact ⟨q0, q1, qP, va_K.moved (u := U) (U := U.calling g mk a) (Vm.Alike.refl U.vm) qK, qD⟩, va_recv hK hP (ci := 6) (q0 := 0) rfl rfl, fun U hU hW => ⟨rfl, by rw [hU], by rw [hU]; exact hP, va_K.moved hW.alike hK, hD.weaken (fun _ _ _ _ => trivial)⟩⟩ rfl rfl hl.1 rfl (lv_room (Nat.le_of_ble_eq_true rfl)) dX7_follow_60 ⟨Nat.le_of_ble_eq_true rfl, Nat.le_of_ble_eq_true rfl⟩) hS (fun q _ h => hFc q h) hFc (fun rr68 u t H67 locs ht hvm hw hB hz1 hk1 hS => ?_)
                    obtain ⟨hP1, hK1, hD1⟩ := hB
                    rw [ht] at hP1
                    refine zTopi hw.symm ?_
                    have hP := hP1
                    have hD := hD1.weaken (fun _ q _ h => hFc q.1 h)
                    have hP : va_P (dC, dI) vwCl (cX7 a7 h7 y s7_25) H67 := hP
                    have hD : va_D A (cX7 a7 h7 y s7_25) := hD
                    refine lv_iconst (v := 2) hx hb dX7_follow_63 (by decide) ?_
                    refine W_abs (fun GW69 eG70 => ?_)
                    obtain ⟨ov72, hr73, h⟩ := zB_spec h
                    have jn71 : ∀ (v75 : Int32) (HGW69 : Heap) (locs : List Loc) (ls : Array Slot), v75 = ov72 → va_P (dC, dI) vwCl (cX7 a7 h7 y s7_25) HGW69 → va_D A (cX7 a7 h7 y s7_25) → va_S A s.heap HGW69 locs → lv_has ls 4 [(0, .ref a7), (1, .ref (h7 q)), (2, .int v10), (3, .int v24)] → GW69 HGW69 locs 0 0 (F0 m 82 ls [.int v75, .int v24, .ref (h7 q)]) := by
                      intro v75 HGW69 locs ls hv hP hD hS hl
                      subst hv
                      refine (eG70 _ _ _ _ _).mpr ?_
                      obtain ⟨hi76, h⟩ := zG_spec h
                      refine va_iast hx hb hK hP hD hS pq 0 (hq.1 _) rfl hi76 dX7_follow_82 (fun H77 locs hP hD hS => ?_)
                      rw [hq.2] at hP hD
                      obtain ⟨s7_78, es7_78, h⟩ := zL_spec h
                      have hP : va_P (dC, dI) vwCl (cX7 a7 h7 y s7_78) H77 := by rw [es7_78]; exact hP
                      have hD : va_D A (cX7 a7 h7 y s7_78) := by rw [es7_78]; exact hD
                      obtain ⟨v79, ev79, h⟩ := zL_spec h
                      refine lv_iinc (v := v79) (lv' := [(3, .int v79), (0, .ref a7), (1, .ref (h7 q)), (2, .int v10)]) hx hb dX7_follow_83 hl (k := 3) rfl (by rw [ev79]; rfl) (by decide) rfl (fun ls hl => ?_)
                      refine lv_goto (tgt := 12) hx hb dX7_follow_86 (by decide) ?_
                      have h := zI_l h hx20
                      exact (eG14 _ _ _ _ _).mp (ihlp16 v79 s7_78 _ _ _ h hP hD hS (lv_sub hl [1, 2, 3, 0] rfl))
                    refine (eG70 _ _ _ _ _).mpr ?_
                    have h := hr73
                    refine lv_icmp_ne (tgt := 76) hx hb dX7_follow_64 (by decide) (fun c80 => ?_) (fun c80 => ?_)
                    · have h := zN c80 h
                      refine lv_aload_n hx hb dX7_follow_76 rfl (lv_at hl 0 rfl) ?_
                      refine lv_iload_n hx hb dX7_follow_77 rfl (lv_at hl 3 rfl) ?_
                      refine lv_aload_n hx hb dX7_follow_78 rfl (lv_at hl 1 rfl) ?_
                      obtain ⟨r81, hc82, h⟩ := zB_spec h
                      have hFc := zFree hD hS hA
                      refine va_calli (va_runV (As := [.int v24, .ref (h7 q)]) (rest := [.int v24, .ref (h7 q)]) ⟨hx, hb, hml, hown, hts⟩ (m_X7_bus l dC dI y a7 h7 s7_25 v24 q pq hq H67.size r81 hc82) (cwV 2 hts gX7_follow_X7_bus rfl rfl rfl (by decide +kernel) ⟨Nat.le_of_ble_eq_true rfl, Nat.le_of_ble_eq_true rfl⟩) ⟨fun a U g mk q => by obtain ⟨q0, q1, qP, qK, qD⟩ := q; exact ⟨q0, q1, qP, va_K.moved (u := U) (U := U.calling g mk a) (Vm.Alike.refl U.vm) qK, qD⟩, va_recv hK hP (ci := 6) (q0 := 0) rfl rfl, fun U hU hW => ⟨rfl, by rw [hU], by rw [hU]; exact hP, va_K.moved hW.alike hK, hD.weaken (fun _ _ _ _ => trivial)⟩⟩ rfl rfl hl.1 rfl (lv_room (Nat.le_of_ble_eq_true rfl)) dX7_follow_79 ⟨Nat.le_of_ble_eq_true rfl, Nat.le_of_ble_eq_true rfl⟩) hS (fun q _ h => hFc q h) hFc (fun rr84 u t H83 locs ht hvm hw hB hz1 hk1 hS => ?_)
                      obtain ⟨hP1, hK1, hD1⟩ := hB
                      rw [ht] at hP1
                      refine zTopi hw.symm ?_
                      have hP := hP1
                      have hD := hD1.weaken (fun _ q _ h => hFc q.1 h)
                      have hP : va_P (dC, dI) vwCl (cX7 a7 h7 y s7_25) H83 := hP
                      have hD : va_D A (cX7 a7 h7 y s7_25) := hD
                      exact (eG70 _ _ _ _ _).mp (jn71 r81 _ _ _ (Option.some.inj h) hP hD hS (lv_sub hl [0, 1, 2, 3] rfl))
                    · have h := zY c80 h
                      refine lv_aload_n hx hb dX7_follow_67 rfl (lv_at hl 0 rfl) ?_
                      refine lv_iload_n hx hb dX7_follow_68 rfl (lv_at hl 3 rfl) ?_
                      refine lv_aload_n hx hb dX7_follow_69 rfl (lv_at hl 1 rfl) ?_
                      obtain ⟨r85, hc86, h⟩ := zB_spec h
                      have hFc := zFree hD hS hA
                      refine va_calli (va_runV (As := [.int v24, .ref (h7 q)]) (rest := [.int v24, .ref (h7 q)]) ⟨hx, hb, hml, hown, hts⟩ (m_X7_gate l dC dI y a7 h7 s7_25 v24 q pq hq H67.size r85 hc86) (cwV 2 hts gX7_follow_X7_gate rfl rfl rfl (by decide +kernel) ⟨Nat.le_of_ble_eq_true rfl, Nat.le_of_ble_eq_true rfl⟩) ⟨fun a U g mk q => by obtain ⟨q0, q1, qP, qK, qD⟩ := q; exact ⟨q0, q1, qP, va_K.moved (u := U) (U := U.calling g mk a) (Vm.Alike.refl U.vm) qK, qD⟩, va_recv hK hP (ci := 6) (q0 := 0) rfl rfl, fun U hU hW => ⟨rfl, by rw [hU], by rw [hU]; exact hP, va_K.moved hW.alike hK, hD.weaken (fun _ _ _ _ => trivial)⟩⟩ rfl rfl hl.1 rfl (lv_room (Nat.le_of_ble_eq_true rfl)) dX7_follow_70 ⟨Nat.le_of_ble_eq_true rfl, Nat.le_of_ble_eq_true rfl⟩) hS (fun q _ h => hFc q h) hFc (fun rr88 u t H87 locs ht hvm hw hB hz1 hk1 hS => ?_)
                      obtain ⟨hP1, hK1, hD1⟩ := hB
                      rw [ht] at hP1
                      refine zTopi hw.symm ?_
                      have hP := hP1
                      have hD := hD1.weaken (fun _ q _ h => hFc q.1 h)
                      have hP : va_P (dC, dI) vwCl (cX7 a7 h7 y s7_25) H87 := hP
                      have hD : va_D A (cX7 a7 h7 y s7_25) := hD
                      refine lv_goto (tgt := 82) hx hb dX7_follow_73 (by decide) ?_
                      exact (eG70 _ _ _ _ _).mp (jn71 r85 _ _ _ (Option.some.inj h) hP hD hS (lv_sub hl [0, 1, 2, 3] rfl))
        exact lp16 zF (0 : Int32) s7_11 _ _ _ hi18 hP hD hS (lv_sub hl [1, 2, 3, 0] rfl)
  exact lp4 zF (0 : Int32) S7 _ _ _ hi6 hP hD hS (lv_sub hl [1, 2, 0] rfl)

set_option maxHeartbeats 4000000 in
set_option maxRecDepth 100000 in
theorem m_X7_settle (l : Launch) (dC : Nat → ClassId) (dI : Nat → Nat → Nat) (y : Nat → ClassId) (a7 : Nat) (h7 : Nat → Nat) (S7 : SS) (sz : Nat) (o_7 : SS) (h : f_X7_settle S7 = some o_7) : Met l yX7_settle wsX7_settle ({ frames := 3, cells := 0, slots := 0, locals := 73 }) (va_Pc [.ref a7] (fun U => U.heap.size = sz ∧ va_P (dC, dI) vwCl (cX7 a7 h7 y S7) U.heap ∧ va_K (dC, dI) vwCl [(y 0, .int), (y 1, .long), (y 2, .byte), (y 3, .boolean)] U ∧ va_D (fun _ => True) (cX7 a7 h7 y S7))) (va_Qv (fun (_ : Unit) => True) (fun (_ : Unit) (t : State) => va_P (dC, dI) vwCl (cX7 a7 h7 y o_7) t.heap ∧ va_K (dC, dI) vwCl [(y 0, .int), (y 1, .long), (y 2, .byte), (y 3, .boolean)] t ∧ va_D (va_A (cX7 a7 h7 y S7) sz) (cX7 a7 h7 y o_7)) (va_A (cX7 a7 h7 y S7) sz)) 0 0 (va_A (cX7 a7 h7 y S7) sz) := by
  refine Met.ofW (cc := cX7_settle) (maxL := 2) (ret := none) (by decide +kernel) rfl ?_
  intro p e s m args below meth c s₁ B hml hv
  obtain ⟨rfl, hsz, hP, hK, hD0⟩ := hv
  have hx := B.exec
  have hb := B.bytes
  have hr := B.returns
  have hts := atoms_spec (ws := wsX7_settle) B.pre
  have hown : s.vm.findClass RX7 = some m.cls := findClass_of_methodNamed B.named
  have hlocks := B.notSynchronized
  have inX7_ : ∀ w ∈ wsX70, w ∈ wsX7_settle := fun _ h => List.mem_cons_of_mem _ (List.mem_append_right _ h)
  subst hsz
  have hD := hD0.self (sz := s.heap.size)
  generalize hAe : va_A (cX7 a7 h7 y S7) s.heap.size = A at hD ⊢
  have hA : ∀ q : Nat, s.heap.size ≤ q → A q := fun q h => by rw [← hAe]; exact Or.inr h
  have hS : va_S A s.heap s.heap [] := va_S.rf
  have hP : va_P (dC, dI) vwCl (cX7 a7 h7 y S7) s.heap := hP
  have hl := lv_entry ([.ref a7]) (n := 2) (Nat.le_of_ble_eq_true rfl)
  rw [lg_entry_eq]
  generalize (lg_sl ([.ref a7]) ++ List.replicate (2 - (lg_sl ([.ref a7])).length) Slot.unset).toArray = ls at hl ⊢
  have hl : lv_has ls 2 [(0, .ref a7)] := hl
  refine lv_iconst (v := 0) hx hb dX7_settle_0 (by decide) ?_
  refine lv_istore_n (lv' := [(1, .int 0), (0, .ref a7)]) hx hb dX7_settle_1 rfl hl (by decide) rfl (fun ls hl => ?_)
  refine W_abs (fun GW1 eG2 => ?_)
  obtain ⟨ov5, hi6, h⟩ := zB_spec h
  have je3 : ∀ (s7_10 : SS) (HGW1e : Heap) (locs : List Loc) (ls : Array Slot), s7_10 = ov5 → va_P (dC, dI) vwCl (cX7 a7 h7 y s7_10) HGW1e → va_D A (cX7 a7 h7 y s7_10) → va_S A s.heap HGW1e locs → lv_has ls 2 [(0, .ref a7)] → GW1 HGW1e locs 0 0 (F0 m 28 ls []) := by
    intro s7_10 HGW1e locs ls hv hP hD hS hl
    subst hv
    refine (eG2 _ _ _ _ _).mpr ?_
    refine lv_aload_n hx hb dX7_settle_28 rfl (lv_at hl 0 rfl) ?_
    refine lv_aload_n hx hb dX7_settle_29 rfl (lv_at hl 0 rfl) ?_
    refine va_get (D := (dC, dI)) (ci := 6) (v := .ref (h7 34)) (C := RX7) (T := TX7) (N := 49) hx hb hts inX7_ hown hK hP 0 rfl rfl 34 (by decide) (hts (.fieldLink RX7 74 "GateWheelModel" "values" "[I") (List.mem_of_getElem? (i := 2) rfl)) (fun _ h9 => h9) rfl dX7_settle_30 ?_
    obtain ⟨s7_11, hc12, h⟩ := zB_spec h
    have hFc := zFree hD hS hA
    refine va_callv (va_runV (As := [.ref (h7 34)]) (rest := []) ⟨hx, hb, hml, hown, hts⟩ (m_X7_follow l dC dI y a7 h7 s7_10 34 20 ⟨fun _ => rfl, fun _ _ => rfl⟩ HGW1e.size s7_11 hc12) (cwV 1 hts gX7_settle_X7_follow rfl rfl rfl (by decide +kernel) ⟨Nat.le_of_ble_eq_true rfl, Nat.le_of_ble_eq_true rfl⟩) ⟨fun a U g mk q => by obtain ⟨q0, q1, qP, qK, qD⟩ := q; exact ⟨q0, q1, qP, va_K.moved (u := U) (U := U.calling g mk a) (Vm.Alike.refl U.vm) qK, qD⟩, va_recv hK hP (ci := 6) (q0 := 0) rfl rfl, fun U hU hW => ⟨rfl, by rw [hU], by rw [hU]; exact hP, va_K.moved hW.alike hK, hD.weaken (fun _ _ _ _ => trivial)⟩⟩ rfl rfl hl.1 rfl (lv_room (Nat.le_of_ble_eq_true rfl)) dX7_settle_33 ⟨Nat.le_of_ble_eq_true rfl, Nat.le_of_ble_eq_true rfl⟩) hS (fun q _ h => hFc q h) hFc (fun u t H13 locs ht hvm hw hB hz1 hk1 hS => ?_)
    obtain ⟨hP1, hK1, hD1⟩ := hB
    rw [ht] at hP1
    have hP := hP1
    have hD := hD1.weaken (fun _ q _ h => hFc q.1 h)
    have hP : va_P (dC, dI) vwCl (cX7 a7 h7 y s7_11) H13 := hP
    have hD : va_D A (cX7 a7 h7 y s7_11) := hD
    have ho0 : s7_11 = o_7 := congrArg (fun z : SS => z) (Option.some.inj h)
    exact W.vret hx hb hr (fun t ht hW => ⟨⟨(), rfl, trivial, by rw [ht]; rw [← ho0]; exact hP, va_K.moved hW.alike hK, by rw [← ho0]; exact hD⟩, hS.F ht⟩) hS.2.2 dX7_settle_36
  have lp4 : ∀ (n : Nat) (v15 : Int32) (s7_16 : SS) (HGW1 : Heap) (locs : List Loc) (ls : Array Slot), zI (b_X7_settle_2) n (v15, s7_16) = some ov5 → va_P (dC, dI) vwCl (cX7 a7 h7 y s7_16) HGW1 → va_D A (cX7 a7 h7 y s7_16) → va_S A s.heap HGW1 locs → lv_has ls 2 [(0, .ref a7), (1, .int v15)] → GW1 HGW1 locs 0 0 (F0 m 2 ls []) := by
    intro n
    induction n with
    | zero =>
      intro v15 s7_16 HGW1 locs ls hi6 hP hD hS hl
      exact (zI_0 hi6).elim
    | succ n ihlp4 =>
      intro v15 s7_16 HGW1 locs ls hi6 hP hD hS hl
      refine (eG2 _ _ _ _ _).mpr ?_
      obtain ⟨xx9, h, hx8⟩ := zI_spec hi6
      refine lv_iload_n hx hb dX7_settle_2 rfl (lv_at hl 1 rfl) ?_
      refine lv_aload_n hx hb dX7_settle_3 rfl (lv_at hl 0 rfl) ?_
      refine va_get (D := (dC, dI)) (ci := 6) (v := .int (gI s7_16 29)) (C := RX7) (T := TX7) (N := 49) hx hb hts inX7_ hown hK hP 0 rfl rfl 29 (by decide) (hts (.fieldLink RX7 261 "GateWheelModel" "nodes" "I") (List.mem_of_getElem? (i := 1) rfl)) (fun _ h9 => h9) rfl dX7_settle_4 ?_
      refine lv_icmp_ge (tgt := 28) hx hb dX7_settle_7 (by decide) (fun c17 => ?_) (fun c17 => ?_)
      · have h := zY c17 h
        exact (eG2 _ _ _ _ _).mp (je3 s7_16 _ _ _ (zI_r h hx8) hP hD hS (lv_sub hl [0] rfl))
      · have h := zN c17 h
        refine lv_aload_n hx hb dX7_settle_10 rfl (lv_at hl 0 rfl) ?_
        refine va_get (D := (dC, dI)) (ci := 6) (v := .ref (h7 34)) (C := RX7) (T := TX7) (N := 49) hx hb hts inX7_ hown hK hP 0 rfl rfl 34 (by decide) (hts (.fieldLink RX7 74 "GateWheelModel" "values" "[I") (List.mem_of_getElem? (i := 2) rfl)) (fun _ h9 => h9) rfl dX7_settle_11 ?_
        refine lv_iload_n hx hb dX7_settle_14 rfl (lv_at hl 1 rfl) ?_
        refine lv_aload_n hx hb dX7_settle_15 rfl (lv_at hl 0 rfl) ?_
        refine va_get (D := (dC, dI)) (ci := 6) (v := .ref (h7 33)) (C := RX7) (T := TX7) (N := 49) hx hb hts inX7_ hown hK hP 0 rfl rfl 33 (by decide) (hts (.fieldLink RX7 71 "GateWheelModel" "source" "[I") (List.mem_of_getElem? (i := 3) rfl)) (fun _ h9 => h9) rfl dX7_settle_16 ?_
        refine lv_iload_n hx hb dX7_settle_19 rfl (lv_at hl 1 rfl) ?_
        obtain ⟨hi18, h⟩ := zG_spec h
        refine va_iald hx hb hK hP 19 0 rfl rfl hi18 dX7_settle_20 ?_
        refine va_iast hx hb hK hP hD hS 20 0 rfl rfl hi18 dX7_settle_21 (fun H19 locs hP hD hS => ?_)
        obtain ⟨s7_20, es7_20, h⟩ := zL_spec h
        have hP : va_P (dC, dI) vwCl (cX7 a7 h7 y s7_20) H19 := by rw [es7_20]; exact hP
        have hD : va_D A (cX7 a7 h7 y s7_20) := by rw [es7_20]; exact hD
        obtain ⟨v21, ev21, h⟩ := zL_spec h
        refine lv_iinc (v := v21) (lv' := [(1, .int v21), (0, .ref a7)]) hx hb dX7_settle_22 hl (k := 1) rfl (by rw [ev21]; rfl) (by decide) rfl (fun ls hl => ?_)
        refine lv_goto (tgt := 2) hx hb dX7_settle_25 (by decide) ?_
        have h := zI_l h hx8
        exact (eG2 _ _ _ _ _).mp (ihlp4 v21 s7_20 _ _ _ h hP hD hS (lv_sub hl [1, 0] rfl))
  exact lp4 zF (0 : Int32) S7 _ _ _ hi6 hP hD hS (lv_sub hl [1, 0] rfl)

set_option maxHeartbeats 4000000 in
set_option maxRecDepth 100000 in
theorem m_X7_read (l : Launch) (dC : Nat → ClassId) (dI : Nat → Nat → Nat) (y : Nat → ClassId) (a7 : Nat) (h7 : Nat → Nat) (S7 : SS) (sz : Nat) (or_ : Int32) (o_7 : SS) (h : f_X7_read S7 = some (or_, o_7)) : Met l yX7_read wsX7_read ({ frames := 5, cells := 0, slots := 0, locals := 113 }) (va_Pc [.ref a7] (fun U => U.heap.size = sz ∧ va_P (dC, dI) vwCl (cX7 a7 h7 y S7) U.heap ∧ va_K (dC, dI) vwCl [(y 0, .int), (y 1, .long), (y 2, .byte), (y 3, .boolean)] U ∧ va_D (fun _ => True) (cX7 a7 h7 y S7))) (va_Qi (fun (r : Int32) (_ : Unit) => r = or_) (fun (_ : Unit) (t : State) => va_P (dC, dI) vwCl (cX7 a7 h7 y o_7) t.heap ∧ va_K (dC, dI) vwCl [(y 0, .int), (y 1, .long), (y 2, .byte), (y 3, .boolean)] t ∧ va_D (va_A (cX7 a7 h7 y S7) sz) (cX7 a7 h7 y o_7)) (va_A (cX7 a7 h7 y S7) sz)) 0 0 (va_A (cX7 a7 h7 y S7) sz) := by
  refine Met.ofW (cc := cX7_read) (maxL := 2) (ret := (some .int)) (by decide +kernel) rfl ?_
  intro p e s m args below meth c s₁ B hml hv
  obtain ⟨rfl, hsz, hP, hK, hD0⟩ := hv
  have hx := B.exec
  have hb := B.bytes
  have hr := B.returns
  have hts := atoms_spec (ws := wsX7_read) B.pre
  have hown : s.vm.findClass RX7 = some m.cls := findClass_of_methodNamed B.named
  have hlocks := B.notSynchronized
  have inX7_ : ∀ w ∈ wsX70, w ∈ wsX7_read := fun _ h => List.mem_cons_of_mem _ (List.mem_append_right _ h)
  subst hsz
  have hD := hD0.self (sz := s.heap.size)
  generalize hAe : va_A (cX7 a7 h7 y S7) s.heap.size = A at hD ⊢
  have hA : ∀ q : Nat, s.heap.size ≤ q → A q := fun q h => by rw [← hAe]; exact Or.inr h
  have hS : va_S A s.heap s.heap [] := va_S.rf
  have hP : va_P (dC, dI) vwCl (cX7 a7 h7 y S7) s.heap := hP
  have hl := lv_entry ([.ref a7]) (n := 2) (Nat.le_of_ble_eq_true rfl)
  rw [lg_entry_eq]
  generalize (lg_sl ([.ref a7]) ++ List.replicate (2 - (lg_sl ([.ref a7])).length) Slot.unset).toArray = ls at hl ⊢
  have hl : lv_has ls 2 [(0, .ref a7)] := hl
  refine lv_aload_n hx hb dX7_read_0 rfl (lv_at hl 0 rfl) ?_
  refine lv_iconst (v := 0) hx hb dX7_read_1 (by decide) ?_
  refine va_put (D := (dC, dI)) (ci := 6) (v := .int 0) (ty := .int) (C := RX7) (T := TX7) (N := 49) hx hb hts inX7_ tyX7 tyX7_ok nmX7 hown hK hP hD hS 0 rfl rfl 4 (by decide) (hts (.fieldLink RX7 110 "GateWheelModel" "faultKind" "I") (List.mem_of_getElem? (i := 1) rfl)) (fun _ h9 => h9) rfl (by decide +kernel) rfl rfl (Nat.le_of_ble_eq_true rfl) dX7_read_2 (fun H1 locs hP hD hS => ?_)
  obtain ⟨s7_2, es7_2, h⟩ := zL_spec h
  have hP : va_P (dC, dI) vwCl (cX7 a7 h7 y s7_2) H1 := by rw [es7_2]; exact hP
  have hD : va_D A (cX7 a7 h7 y s7_2) := by rw [es7_2]; exact hD
  refine lv_aload_n hx hb dX7_read_5 rfl (lv_at hl 0 rfl) ?_
  refine lv_iconst (v := (-1)) hx hb dX7_read_6 (by decide) ?_
  refine va_put (D := (dC, dI)) (ci := 6) (v := .int (-1)) (ty := .int) (C := RX7) (T := TX7) (N := 49) hx hb hts inX7_ tyX7 tyX7_ok nmX7 hown hK hP hD hS 0 rfl rfl 5 (by decide) (hts (.fieldLink RX7 16 "GateWheelModel" "faultPlace" "I") (List.mem_of_getElem? (i := 2) rfl)) (fun _ h9 => h9) rfl (by decide +kernel) rfl rfl (Nat.le_of_ble_eq_true rfl) dX7_read_7 (fun H3 locs hP hD hS => ?_)
  obtain ⟨s7_4, es7_4, h⟩ := zL_spec h
  have hP : va_P (dC, dI) vwCl (cX7 a7 h7 y s7_4) H3 := by rw [es7_4]; exact hP
  have hD : va_D A (cX7 a7 h7 y s7_4) := by rw [es7_4]; exact hD
  refine lv_aload_n hx hb dX7_read_10 rfl (lv_at hl 0 rfl) ?_
  refine lv_aload_n hx hb dX7_read_11 rfl (lv_at hl 0 rfl) ?_
  refine va_get (D := (dC, dI)) (ci := 6) (v := .int (gI s7_4 2)) (C := RX7) (T := TX7) (N := 49) hx hb hts inX7_ hown hK hP 0 rfl rfl 2 (by decide) (hts (.fieldLink RX7 249 "GateWheelModel" "taped" "I") (List.mem_of_getElem? (i := 3) rfl)) (fun _ h9 => h9) rfl dX7_read_12 ?_
  refine va_put (D := (dC, dI)) (ci := 6) (v := .int (gI s7_4 2)) (ty := .int) (C := RX7) (T := TX7) (N := 49) hx hb hts inX7_ tyX7 tyX7_ok nmX7 hown hK hP hD hS 0 rfl rfl 3 (by decide) (hts (.fieldLink RX7 107 "GateWheelModel" "size" "I") (List.mem_of_getElem? (i := 4) rfl)) (fun _ h9 => h9) rfl (by decide +kernel) rfl rfl (Nat.le_of_ble_eq_true rfl) dX7_read_15 (fun H5 locs hP hD hS => ?_)
  obtain ⟨s7_6, es7_6, h⟩ := zL_spec h
  have hP : va_P (dC, dI) vwCl (cX7 a7 h7 y s7_6) H5 := by rw [es7_6]; exact hP
  have hD : va_D A (cX7 a7 h7 y s7_6) := by rw [es7_6]; exact hD
  refine lv_iconst (v := 0) hx hb dX7_read_18 (by decide) ?_
  refine lv_istore_n (lv' := [(1, .int 0), (0, .ref a7)]) hx hb dX7_read_19 rfl hl (by decide) rfl (fun ls hl => ?_)
  refine W_abs (fun GW7 eG8 => ?_)
  obtain ⟨ov11, hi12, h⟩ := zB_spec h
  have je9 : ∀ (s7_16 : SS) (HGW7e : Heap) (locs : List Loc) (ls : Array Slot), s7_16 = ov11 → va_P (dC, dI) vwCl (cX7 a7 h7 y s7_16) HGW7e → va_D A (cX7 a7 h7 y s7_16) → va_S A s.heap HGW7e locs → lv_has ls 2 [(0, .ref a7)] → GW7 HGW7e locs 0 0 (F0 m 46 ls []) := by
    intro s7_16 HGW7e locs ls hv hP hD hS hl
    subst hv
    refine (eG8 _ _ _ _ _).mpr ?_
    refine lv_aload_n hx hb dX7_read_46 rfl (lv_at hl 0 rfl) ?_
    refine lv_iconst (v := 0) hx hb dX7_read_47 (by decide) ?_
    refine va_put (D := (dC, dI)) (ci := 6) (v := .int 0) (ty := .int) (C := RX7) (T := TX7) (N := 49) hx hb hts inX7_ tyX7 tyX7_ok nmX7 hown hK hP hD hS 0 rfl rfl 2 (by decide) (hts (.fieldLink RX7 249 "GateWheelModel" "taped" "I") (List.mem_of_getElem? (i := 3) rfl)) (fun _ h9 => h9) rfl (by decide +kernel) rfl rfl (Nat.le_of_ble_eq_true rfl) dX7_read_48 (fun H17 locs hP hD hS => ?_)
    obtain ⟨s7_18, es7_18, h⟩ := zL_spec h
    have hP : va_P (dC, dI) vwCl (cX7 a7 h7 y s7_18) H17 := by rw [es7_18]; exact hP
    have hD : va_D A (cX7 a7 h7 y s7_18) := by rw [es7_18]; exact hD
    refine lv_aload_n hx hb dX7_read_51 rfl (lv_at hl 0 rfl) ?_
    refine lv_iconst (v := 0) hx hb dX7_read_52 (by decide) ?_
    refine va_put (D := (dC, dI)) (ci := 6) (v := .int 0) (ty := .int) (C := RX7) (T := TX7) (N := 49) hx hb hts inX7_ tyX7 tyX7_ok nmX7 hown hK hP hD hS 0 rfl rfl 7 (by decide) (hts (.fieldLink RX7 131 "GateWheelModel" "end" "I") (List.mem_of_getElem? (i := 7) rfl)) (fun _ h9 => h9) rfl (by decide +kernel) rfl rfl (Nat.le_of_ble_eq_true rfl) dX7_read_53 (fun H19 locs hP hD hS => ?_)
    obtain ⟨s7_20, es7_20, h⟩ := zL_spec h
    have hP : va_P (dC, dI) vwCl (cX7 a7 h7 y s7_20) H19 := by rw [es7_20]; exact hP
    have hD : va_D A (cX7 a7 h7 y s7_20) := by rw [es7_20]; exact hD
    refine lv_aload_n hx hb dX7_read_56 rfl (lv_at hl 0 rfl) ?_
    refine lv_iconst (v := 1) hx hb dX7_read_57 (by decide) ?_
    refine lv_aload_n hx hb dX7_read_58 rfl (lv_at hl 0 rfl) ?_
    refine va_get (D := (dC, dI)) (ci := 6) (v := .int (gI s7_20 30)) (C := RX7) (T := TX7) (N := 49) hx hb hts inX7_ hown hK hP 0 rfl rfl 30 (by decide) (hts (.fieldLink RX7 188 "GateWheelModel" "bank" "I") (List.mem_of_getElem? (i := 8) rfl)) (fun _ h9 => h9) rfl dX7_read_59 ?_
    refine lv_isub hx hb dX7_read_62 ?_
    refine va_put (D := (dC, dI)) (ci := 6) (v := .int ((1 : Int32) - (gI s7_20 30))) (ty := .int) (C := RX7) (T := TX7) (N := 49) hx hb hts inX7_ tyX7 tyX7_ok nmX7 hown hK hP hD hS 0 rfl rfl 30 (by decide) (hts (.fieldLink RX7 188 "GateWheelModel" "bank" "I") (List.mem_of_getElem? (i := 8) rfl)) (fun _ h9 => h9) rfl (by decide +kernel) rfl rfl (Nat.le_of_ble_eq_true rfl) dX7_read_63 (fun H21 locs hP hD hS => ?_)
    obtain ⟨s7_22, es7_22, h⟩ := zL_spec h
    have hP : va_P (dC, dI) vwCl (cX7 a7 h7 y s7_22) H21 := by rw [es7_22]; exact hP
    have hD : va_D A (cX7 a7 h7 y s7_22) := by rw [es7_22]; exact hD
    refine lv_aload_n hx hb dX7_read_66 rfl (lv_at hl 0 rfl) ?_
    refine lv_iconst (v := 0) hx hb dX7_read_67 (by decide) ?_
    refine va_put (D := (dC, dI)) (ci := 6) (v := .int 0) (ty := .int) (C := RX7) (T := TX7) (N := 49) hx hb hts inX7_ tyX7 tyX7_ok nmX7 hown hK hP hD hS 0 rfl rfl 26 (by decide) (hts (.fieldLink RX7 185 "GateWheelModel" "read" "I") (List.mem_of_getElem? (i := 9) rfl)) (fun _ h9 => h9) rfl (by decide +kernel) rfl rfl (Nat.le_of_ble_eq_true rfl) dX7_read_68 (fun H23 locs hP hD hS => ?_)
    obtain ⟨s7_24, es7_24, h⟩ := zL_spec h
    have hP : va_P (dC, dI) vwCl (cX7 a7 h7 y s7_24) H23 := by rw [es7_24]; exact hP
    have hD : va_D A (cX7 a7 h7 y s7_24) := by rw [es7_24]; exact hD
    refine lv_aload_n hx hb dX7_read_71 rfl (lv_at hl 0 rfl) ?_
    refine lv_iconst (v := 0) hx hb dX7_read_72 (by decide) ?_
    refine va_put (D := (dC, dI)) (ci := 6) (v := .int 0) (ty := .int) (C := RX7) (T := TX7) (N := 49) hx hb hts inX7_ tyX7 tyX7_ok nmX7 hown hK hP hD hS 0 rfl rfl 27 (by decide) (hts (.fieldLink RX7 198 "GateWheelModel" "asks" "I") (List.mem_of_getElem? (i := 10) rfl)) (fun _ h9 => h9) rfl (by decide +kernel) rfl rfl (Nat.le_of_ble_eq_true rfl) dX7_read_73 (fun H25 locs hP hD hS => ?_)
    obtain ⟨s7_26, es7_26, h⟩ := zL_spec h
    have hP : va_P (dC, dI) vwCl (cX7 a7 h7 y s7_26) H25 := by rw [es7_26]; exact hP
    have hD : va_D A (cX7 a7 h7 y s7_26) := by rw [es7_26]; exact hD
    refine lv_aload_n hx hb dX7_read_76 rfl (lv_at hl 0 rfl) ?_
    refine lv_iconst (v := 0) hx hb dX7_read_77 (by decide) ?_
    refine va_put (D := (dC, dI)) (ci := 6) (v := .int 0) (ty := .int) (C := RX7) (T := TX7) (N := 49) hx hb hts inX7_ tyX7 tyX7_ok nmX7 hown hK hP hD hS 0 rfl rfl 28 (by decide) (hts (.fieldLink RX7 217 "GateWheelModel" "drivers" "I") (List.mem_of_getElem? (i := 11) rfl)) (fun _ h9 => h9) rfl (by decide +kernel) rfl rfl (Nat.le_of_ble_eq_true rfl) dX7_read_78 (fun H27 locs hP hD hS => ?_)
    obtain ⟨s7_28, es7_28, h⟩ := zL_spec h
    have hP : va_P (dC, dI) vwCl (cX7 a7 h7 y s7_28) H27 := by rw [es7_28]; exact hP
    have hD : va_D A (cX7 a7 h7 y s7_28) := by rw [es7_28]; exact hD
    refine lv_aload_n hx hb dX7_read_81 rfl (lv_at hl 0 rfl) ?_
    obtain ⟨s7_29, hc30, h⟩ := zB_spec h
    have hFc := zFree hD hS hA
    refine va_callv (va_runV (As := []) (rest := []) ⟨hx, hb, hml, hown, hts⟩ (m_X7_next l dC dI y a7 h7 s7_28 H27.size s7_29 hc30) (cwV 0 hts gX7_read_X7_next rfl rfl rfl (by decide +kernel) ⟨Nat.le_of_ble_eq_true rfl, Nat.le_of_ble_eq_true rfl⟩) ⟨fun a U g mk q => by obtain ⟨q0, q1, qP, qK, qD⟩ := q; exact ⟨q0, q1, qP, va_K.moved (u := U) (U := U.calling g mk a) (Vm.Alike.refl U.vm) qK, qD⟩, va_recv hK hP (ci := 6) (q0 := 0) rfl rfl, fun U hU hW => ⟨rfl, by rw [hU], by rw [hU]; exact hP, va_K.moved hW.alike hK, hD.weaken (fun _ _ _ _ => trivial)⟩⟩ rfl rfl hl.1 rfl (lv_room (Nat.le_of_ble_eq_true rfl)) dX7_read_82 ⟨Nat.le_of_ble_eq_true rfl, Nat.le_of_ble_eq_true rfl⟩) hS (fun q _ h => hFc q h) hFc (fun u t H31 locs ht hvm hw hB hz1 hk1 hS => ?_)
    obtain ⟨hP1, hK1, hD1⟩ := hB
    rw [ht] at hP1
    have hP := hP1
    have hD := hD1.weaken (fun _ q _ h => hFc q.1 h)
    have hP : va_P (dC, dI) vwCl (cX7 a7 h7 y s7_29) H31 := hP
    have hD : va_D A (cX7 a7 h7 y s7_29) := hD
    refine W_abs (fun GW33 eG34 => ?_)
    obtain ⟨ov37, hi38, h⟩ := zB_spec h
    have je35 : ∀ (s7_42 : SS) (HGW33e : Heap) (locs : List Loc) (ls : Array Slot), s7_42 = ov37 → va_P (dC, dI) vwCl (cX7 a7 h7 y s7_42) HGW33e → va_D A (cX7 a7 h7 y s7_42) → va_S A s.heap HGW33e locs → lv_has ls 2 [(0, .ref a7)] → GW33 HGW33e locs 0 0 (F0 m 106 ls []) := by
      intro s7_42 HGW33e locs ls hv hP hD hS hl
      subst hv
      refine (eG34 _ _ _ _ _).mpr ?_
      refine lv_aload_n hx hb dX7_read_106 rfl (lv_at hl 0 rfl) ?_
      obtain ⟨r43, hc44, h⟩ := zB_spec h
      have hFc := zFree hD hS hA
      refine va_calli (va_runV (As := []) (rest := []) ⟨hx, hb, hml, hown, hts⟩ (m_X7_isGood l dC dI y a7 h7 s7_42 HGW33e.size r43 hc44) (cwV 0 hts gX7_read_X7_isGood rfl rfl rfl (by decide +kernel) ⟨Nat.le_of_ble_eq_true rfl, Nat.le_of_ble_eq_true rfl⟩) ⟨fun a U g mk q => by obtain ⟨q0, q1, qP, qK, qD⟩ := q; exact ⟨q0, q1, qP, va_K.moved (u := U) (U := U.calling g mk a) (Vm.Alike.refl U.vm) qK, qD⟩, va_recv hK hP (ci := 6) (q0 := 0) rfl rfl, fun U hU hW => ⟨rfl, by rw [hU], by rw [hU]; exact hP, va_K.moved hW.alike hK, hD.weaken (fun _ _ _ _ => trivial)⟩⟩ rfl rfl hl.1 rfl (lv_room (Nat.le_of_ble_eq_true rfl)) dX7_read_107 ⟨Nat.le_of_ble_eq_true rfl, Nat.le_of_ble_eq_true rfl⟩) hS (fun q _ h => hFc q h) hFc (fun rr46 u t H45 locs ht hvm hw hB hz1 hk1 hS => ?_)
      obtain ⟨hP1, hK1, hD1⟩ := hB
      rw [ht] at hP1
      refine zTopi hw.symm ?_
      have hP := hP1
      have hD := hD1.weaken (fun _ q _ h => hFc q.1 h)
      have hP : va_P (dC, dI) vwCl (cX7 a7 h7 y s7_42) H45 := hP
      have hD : va_D A (cX7 a7 h7 y s7_42) := hD
      refine W_abs (fun GW47 eG48 => ?_)
      obtain ⟨ov50, hr51, h⟩ := zB_spec h
      have jn49 : ∀ (s7_53 : SS) (HGW47 : Heap) (locs : List Loc) (ls : Array Slot), s7_53 = ov50 → va_P (dC, dI) vwCl (cX7 a7 h7 y s7_53) HGW47 → va_D A (cX7 a7 h7 y s7_53) → va_S A s.heap HGW47 locs → lv_has ls 2 [(0, .ref a7)] → GW47 HGW47 locs 0 0 (F0 m 117 ls []) := by
        intro s7_53 HGW47 locs ls hv hP hD hS hl
        subst hv
        refine (eG48 _ _ _ _ _).mpr ?_
        refine lv_aload_n hx hb dX7_read_117 rfl (lv_at hl 0 rfl) ?_
        obtain ⟨r54, hc55, h⟩ := zB_spec h
        have hFc := zFree hD hS hA
        refine va_calli (va_runV (As := []) (rest := []) ⟨hx, hb, hml, hown, hts⟩ (m_X7_isGood l dC dI y a7 h7 s7_53 HGW47.size r54 hc55) (cwV 0 hts gX7_read_X7_isGood rfl rfl rfl (by decide +kernel) ⟨Nat.le_of_ble_eq_true rfl, Nat.le_of_ble_eq_true rfl⟩) ⟨fun a U g mk q => by obtain ⟨q0, q1, qP, qK, qD⟩ := q; exact ⟨q0, q1, qP, va_K.moved (u := U) (U := U.calling g mk a) (Vm.Alike.refl U.vm) qK, qD⟩, va_recv hK hP (ci := 6) (q0 := 0) rfl rfl, fun U hU hW => ⟨rfl, by rw [hU], by rw [hU]; exact hP, va_K.moved hW.alike hK, hD.weaken (fun _ _ _ _ => trivial)⟩⟩ rfl rfl hl.1 rfl (lv_room (Nat.le_of_ble_eq_true rfl)) dX7_read_118 ⟨Nat.le_of_ble_eq_true rfl, Nat.le_of_ble_eq_true rfl⟩) hS (fun q _ h => hFc q h) hFc (fun rr57 u t H56 locs ht hvm hw hB hz1 hk1 hS => ?_)
        obtain ⟨hP1, hK1, hD1⟩ := hB
        rw [ht] at hP1
        refine zTopi hw.symm ?_
        have hP := hP1
        have hD := hD1.weaken (fun _ q _ h => hFc q.1 h)
        have hP : va_P (dC, dI) vwCl (cX7 a7 h7 y s7_53) H56 := hP
        have hD : va_D A (cX7 a7 h7 y s7_53) := hD
        refine W_abs (fun GW58 eG59 => ?_)
        obtain ⟨ov61, hr62, h⟩ := zB_spec h
        have jn60 : ∀ (s7_64 : SS) (HGW58 : Heap) (locs : List Loc) (ls : Array Slot), s7_64 = ov61 → va_P (dC, dI) vwCl (cX7 a7 h7 y s7_64) HGW58 → va_D A (cX7 a7 h7 y s7_64) → va_S A s.heap HGW58 locs → lv_has ls 2 [(0, .ref a7)] → GW58 HGW58 locs 0 0 (F0 m 128 ls []) := by
          intro s7_64 HGW58 locs ls hv hP hD hS hl
          subst hv
          refine (eG59 _ _ _ _ _).mpr ?_
          refine lv_aload_n hx hb dX7_read_128 rfl (lv_at hl 0 rfl) ?_
          obtain ⟨r65, hc66, h⟩ := zB_spec h
          have hFc := zFree hD hS hA
          refine va_calli (va_runV (As := []) (rest := []) ⟨hx, hb, hml, hown, hts⟩ (m_X7_isGood l dC dI y a7 h7 s7_64 HGW58.size r65 hc66) (cwV 0 hts gX7_read_X7_isGood rfl rfl rfl (by decide +kernel) ⟨Nat.le_of_ble_eq_true rfl, Nat.le_of_ble_eq_true rfl⟩) ⟨fun a U g mk q => by obtain ⟨q0, q1, qP, qK, qD⟩ := q; exact ⟨q0, q1, qP, va_K.moved (u := U) (U := U.calling g mk a) (Vm.Alike.refl U.vm) qK, qD⟩, va_recv hK hP (ci := 6) (q0 := 0) rfl rfl, fun U hU hW => ⟨rfl, by rw [hU], by rw [hU]; exact hP, va_K.moved hW.alike hK, hD.weaken (fun _ _ _ _ => trivial)⟩⟩ rfl rfl hl.1 rfl (lv_room (Nat.le_of_ble_eq_true rfl)) dX7_read_129 ⟨Nat.le_of_ble_eq_true rfl, Nat.le_of_ble_eq_true rfl⟩) hS (fun q _ h => hFc q h) hFc (fun rr68 u t H67 locs ht hvm hw hB hz1 hk1 hS => ?_)
          obtain ⟨hP1, hK1, hD1⟩ := hB
          rw [ht] at hP1
          refine zTopi hw.symm ?_
          have hP := hP1
          have hD := hD1.weaken (fun _ q _ h => hFc q.1 h)
          have hP : va_P (dC, dI) vwCl (cX7 a7 h7 y s7_64) H67 := hP
          have hD : va_D A (cX7 a7 h7 y s7_64) := hD
          refine lv_if_ne (tgt := 147) hx hb dX7_read_132 (by decide) (fun c69 => ?_) (fun c69 => ?_)
          · have h := zN c69 h
            refine lv_aload_n hx hb dX7_read_147 rfl (lv_at hl 0 rfl) ?_
            refine lv_aload_n hx hb dX7_read_148 rfl (lv_at hl 0 rfl) ?_
            refine va_get (D := (dC, dI)) (ci := 6) (v := .int (gI s7_64 26)) (C := RX7) (T := TX7) (N := 49) hx hb hts inX7_ hown hK hP 0 rfl rfl 26 (by decide) (hts (.fieldLink RX7 185 "GateWheelModel" "read" "I") (List.mem_of_getElem? (i := 9) rfl)) (fun _ h9 => h9) rfl dX7_read_149 ?_
            refine va_put (D := (dC, dI)) (ci := 6) (v := .int (gI s7_64 26)) (ty := .int) (C := RX7) (T := TX7) (N := 49) hx hb hts inX7_ tyX7 tyX7_ok nmX7 hown hK hP hD hS 0 rfl rfl 29 (by decide) (hts (.fieldLink RX7 261 "GateWheelModel" "nodes" "I") (List.mem_of_getElem? (i := 13) rfl)) (fun _ h9 => h9) rfl (by decide +kernel) rfl rfl (Nat.le_of_ble_eq_true rfl) dX7_read_152 (fun H70 locs hP hD hS => ?_)
            obtain ⟨s7_71, es7_71, h⟩ := zL_spec h
            have hP : va_P (dC, dI) vwCl (cX7 a7 h7 y s7_71) H70 := by rw [es7_71]; exact hP
            have hD : va_D A (cX7 a7 h7 y s7_71) := by rw [es7_71]; exact hD
            refine lv_aload_n hx hb dX7_read_155 rfl (lv_at hl 0 rfl) ?_
            refine lv_iconst (v := 0) hx hb dX7_read_156 (by decide) ?_
            refine va_put (D := (dC, dI)) (ci := 6) (v := .int 0) (ty := .int) (C := RX7) (T := TX7) (N := 49) hx hb hts inX7_ tyX7 tyX7_ok nmX7 hown hK hP hD hS 0 rfl rfl 31 (by decide) (hts (.fieldLink RX7 264 "GateWheelModel" "registers" "I") (List.mem_of_getElem? (i := 14) rfl)) (fun _ h9 => h9) rfl (by decide +kernel) rfl rfl (Nat.le_of_ble_eq_true rfl) dX7_read_157 (fun H72 locs hP hD hS => ?_)
            obtain ⟨s7_73, es7_73, h⟩ := zL_spec h
            have hP : va_P (dC, dI) vwCl (cX7 a7 h7 y s7_73) H72 := by rw [es7_73]; exact hP
            have hD : va_D A (cX7 a7 h7 y s7_73) := by rw [es7_73]; exact hD
            refine lv_aload_n hx hb dX7_read_160 rfl (lv_at hl 0 rfl) ?_
            refine lv_iconst (v := 0) hx hb dX7_read_161 (by decide) ?_
            refine va_put (D := (dC, dI)) (ci := 6) (v := .int 0) (ty := .boolean) (C := RX7) (T := TX7) (N := 49) hx hb hts inX7_ tyX7 tyX7_ok nmX7 hown hK hP hD hS 0 rfl rfl 46 (by decide) (hts (.fieldLink RX7 267 "GateWheelModel" "hasWheel" "Z") (List.mem_of_getElem? (i := 15) rfl)) (fun _ h9 => h9) rfl (by decide +kernel) (by decide) rfl (Nat.le_of_ble_eq_true rfl) dX7_read_162 (fun H74 locs hP hD hS => ?_)
            obtain ⟨s7_75, es7_75, h⟩ := zL_spec h
            have hP : va_P (dC, dI) vwCl (cX7 a7 h7 y s7_75) H74 := by rw [es7_75]; exact hP
            have hD : va_D A (cX7 a7 h7 y s7_75) := by rw [es7_75]; exact hD
            refine lv_iconst (v := 0) hx hb dX7_read_165 (by decide) ?_
            refine lv_istore_n (lv' := [(1, .int 0), (0, .ref a7)]) hx hb dX7_read_166 rfl hl (by decide) rfl (fun ls hl => ?_)
            refine W_abs (fun GW76 eG77 => ?_)
            obtain ⟨ov80, hi81, h⟩ := zB_spec h
            have je78 : ∀ (s7_85 : SS) (HGW76e : Heap) (locs : List Loc) (ls : Array Slot), s7_85 = ov80 → va_P (dC, dI) vwCl (cX7 a7 h7 y s7_85) HGW76e → va_D A (cX7 a7 h7 y s7_85) → va_S A s.heap HGW76e locs → lv_has ls 2 [(0, .ref a7)] → GW76 HGW76e locs 0 0 (F0 m 211 ls []) := by
              intro s7_85 HGW76e locs ls hv hP hD hS hl
              subst hv
              refine (eG77 _ _ _ _ _).mpr ?_
              refine lv_aload_n hx hb dX7_read_211 rfl (lv_at hl 0 rfl) ?_
              obtain ⟨s7_86, hc87, h⟩ := zB_spec h
              have hFc := zFree hD hS hA
              refine va_callv (va_runV (As := []) (rest := []) ⟨hx, hb, hml, hown, hts⟩ (m_X7_settle l dC dI y a7 h7 s7_85 HGW76e.size s7_86 hc87) (cwV 0 hts gX7_read_X7_settle rfl rfl rfl (by decide +kernel) ⟨Nat.le_of_ble_eq_true rfl, Nat.le_of_ble_eq_true rfl⟩) ⟨fun a U g mk q => by obtain ⟨q0, q1, qP, qK, qD⟩ := q; exact ⟨q0, q1, qP, va_K.moved (u := U) (U := U.calling g mk a) (Vm.Alike.refl U.vm) qK, qD⟩, va_recv hK hP (ci := 6) (q0 := 0) rfl rfl, fun U hU hW => ⟨rfl, by rw [hU], by rw [hU]; exact hP, va_K.moved hW.alike hK, hD.weaken (fun _ _ _ _ => trivial)⟩⟩ rfl rfl hl.1 rfl (lv_room (Nat.le_of_ble_eq_true rfl)) dX7_read_212 ⟨Nat.le_of_ble_eq_true rfl, Nat.le_of_ble_eq_true rfl⟩) hS (fun q _ h => hFc q h) hFc (fun u t H88 locs ht hvm hw hB hz1 hk1 hS => ?_)
              obtain ⟨hP1, hK1, hD1⟩ := hB
              rw [ht] at hP1
              have hP := hP1
              have hD := hD1.weaken (fun _ q _ h => hFc q.1 h)
              have hP : va_P (dC, dI) vwCl (cX7 a7 h7 y s7_86) H88 := hP
              have hD : va_D A (cX7 a7 h7 y s7_86) := hD
              refine lv_aload_n hx hb dX7_read_215 rfl (lv_at hl 0 rfl) ?_
              refine va_get (D := (dC, dI)) (ci := 6) (v := .int (gI s7_86 29)) (C := RX7) (T := TX7) (N := 49) hx hb hts inX7_ hown hK hP 0 rfl rfl 29 (by decide) (hts (.fieldLink RX7 261 "GateWheelModel" "nodes" "I") (List.mem_of_getElem? (i := 13) rfl)) (fun _ h9 => h9) rfl dX7_read_216 ?_
              have ho0 : (gI s7_86 29) = or_ := congrArg (fun z : Int32 × SS => z.1) (Option.some.inj h)
              have ho1 : s7_86 = o_7 := congrArg (fun z : Int32 × SS => z.2) (Option.some.inj h)
              exact W.iret (v := (gI s7_86 29)) hx hb hr (fun t ht hW => ⟨⟨(gI s7_86 29), (), rfl, ho0, by rw [ht]; rw [← ho1]; exact hP, va_K.moved hW.alike hK, by rw [← ho1]; exact hD⟩, hS.F ht⟩) hS.2.2 dX7_read_219
            have lp79 : ∀ (n : Nat) (v90 : Int32) (s7_91 : SS) (HGW76 : Heap) (locs : List Loc) (ls : Array Slot), zI (b_X7_read_167) n (v90, s7_91) = some ov80 → va_P (dC, dI) vwCl (cX7 a7 h7 y s7_91) HGW76 → va_D A (cX7 a7 h7 y s7_91) → va_S A s.heap HGW76 locs → lv_has ls 2 [(0, .ref a7), (1, .int v90)] → GW76 HGW76 locs 0 0 (F0 m 167 ls []) := by
              intro n
              induction n with
              | zero =>
                intro v90 s7_91 HGW76 locs ls hi81 hP hD hS hl
                exact (zI_0 hi81).elim
              | succ n ihlp79 =>
                intro v90 s7_91 HGW76 locs ls hi81 hP hD hS hl
                refine (eG77 _ _ _ _ _).mpr ?_
                obtain ⟨xx84, h, hx83⟩ := zI_spec hi81
                refine lv_iload_n hx hb dX7_read_167 rfl (lv_at hl 1 rfl) ?_
                refine lv_aload_n hx hb dX7_read_168 rfl (lv_at hl 0 rfl) ?_
                refine va_get (D := (dC, dI)) (ci := 6) (v := .int (gI s7_91 29)) (C := RX7) (T := TX7) (N := 49) hx hb hts inX7_ hown hK hP 0 rfl rfl 29 (by decide) (hts (.fieldLink RX7 261 "GateWheelModel" "nodes" "I") (List.mem_of_getElem? (i := 13) rfl)) (fun _ h9 => h9) rfl dX7_read_169 ?_
                refine lv_icmp_ge (tgt := 211) hx hb dX7_read_172 (by decide) (fun c92 => ?_) (fun c92 => ?_)
                · have h := zY c92 h
                  exact (eG77 _ _ _ _ _).mp (je78 s7_91 _ _ _ (zI_r h hx83) hP hD hS (lv_sub hl [0] rfl))
                · have h := zN c92 h
                  refine lv_aload_n hx hb dX7_read_175 rfl (lv_at hl 0 rfl) ?_
                  refine lv_dup hx hb dX7_read_176 rfl ?_
                  refine va_get (D := (dC, dI)) (ci := 6) (v := .int (gI s7_91 31)) (C := RX7) (T := TX7) (N := 49) hx hb hts inX7_ hown hK hP 0 rfl rfl 31 (by decide) (hts (.fieldLink RX7 264 "GateWheelModel" "registers" "I") (List.mem_of_getElem? (i := 14) rfl)) (fun _ h9 => h9) rfl dX7_read_177 ?_
                  refine lv_aload_n hx hb dX7_read_180 rfl (lv_at hl 0 rfl) ?_
                  refine lv_iload_n hx hb dX7_read_181 rfl (lv_at hl 1 rfl) ?_
                  obtain ⟨r93, hc94, h⟩ := zB_spec h
                  have hFc := zFree hD hS hA
                  refine va_calli (va_runV (As := [.int v90]) (rest := [.int (gI s7_91 31), .ref a7]) ⟨hx, hb, hml, hown, hts⟩ (m_X7_kind l dC dI y a7 h7 s7_91 v90 HGW76.size r93 hc94) (cwV 1 hts gX7_read_X7_kind rfl rfl rfl (by decide +kernel) ⟨Nat.le_of_ble_eq_true rfl, Nat.le_of_ble_eq_true rfl⟩) ⟨fun a U g mk q => by obtain ⟨q0, q1, qP, qK, qD⟩ := q; exact ⟨q0, q1, qP, va_K.moved (u := U) (U := U.calling g mk a) (Vm.Alike.refl U.vm) qK, qD⟩, va_recv hK hP (ci := 6) (q0 := 0) rfl rfl, fun U hU hW => ⟨rfl, by rw [hU], by rw [hU]; exact hP, va_K.moved hW.alike hK, hD.weaken (fun _ _ _ _ => trivial)⟩⟩ rfl rfl hl.1 rfl (lv_room (Nat.le_of_ble_eq_true rfl)) dX7_read_182 ⟨Nat.le_of_ble_eq_true rfl, Nat.le_of_ble_eq_true rfl⟩) hS (fun q _ h => hFc q h) hFc (fun rr96 u t H95 locs ht hvm hw hB hz1 hk1 hS => ?_)
                  obtain ⟨hP1, hK1, hD1⟩ := hB
                  rw [ht] at hP1
                  refine zTopi hw.symm ?_
                  have hP := hP1
                  have hD := hD1.weaken (fun _ q _ h => hFc q.1 h)
                  have hP : va_P (dC, dI) vwCl (cX7 a7 h7 y s7_91) H95 := hP
                  have hD : va_D A (cX7 a7 h7 y s7_91) := hD
                  refine lv_iconst (v := 3) hx hb dX7_read_185 (by decide) ?_
                  refine W_abs (fun GW97 eG98 => ?_)
                  obtain ⟨ov100, hr101, h⟩ := zB_spec h
                  have jn99 : ∀ (v103 : Int32) (HGW97 : Heap) (locs : List Loc) (ls : Array Slot), v103 = ov100 → va_P (dC, dI) vwCl (cX7 a7 h7 y s7_91) HGW97 → va_D A (cX7 a7 h7 y s7_91) → va_S A s.heap HGW97 locs → lv_has ls 2 [(0, .ref a7), (1, .int v90)] → GW97 HGW97 locs 0 0 (F0 m 194 ls [.int v103, .int (gI s7_91 31), .ref a7]) := by
                    intro v103 HGW97 locs ls hv hP hD hS hl
                    subst hv
                    refine (eG98 _ _ _ _ _).mpr ?_
                    refine lv_iadd hx hb dX7_read_194 ?_
                    refine va_put (D := (dC, dI)) (ci := 6) (v := .int ((gI s7_91 31) + v103)) (ty := .int) (C := RX7) (T := TX7) (N := 49) hx hb hts inX7_ tyX7 tyX7_ok nmX7 hown hK hP hD hS 0 rfl rfl 31 (by decide) (hts (.fieldLink RX7 264 "GateWheelModel" "registers" "I") (List.mem_of_getElem? (i := 14) rfl)) (fun _ h9 => h9) rfl (by decide +kernel) rfl rfl (Nat.le_of_ble_eq_true rfl) dX7_read_195 (fun H104 locs hP hD hS => ?_)
                    obtain ⟨s7_105, es7_105, h⟩ := zL_spec h
                    have hP : va_P (dC, dI) vwCl (cX7 a7 h7 y s7_105) H104 := by rw [es7_105]; exact hP
                    have hD : va_D A (cX7 a7 h7 y s7_105) := by rw [es7_105]; exact hD
                    refine lv_aload_n hx hb dX7_read_198 rfl (lv_at hl 0 rfl) ?_
                    refine va_get (D := (dC, dI)) (ci := 6) (v := .ref (h7 33)) (C := RX7) (T := TX7) (N := 49) hx hb hts inX7_ hown hK hP 0 rfl rfl 33 (by decide) (hts (.fieldLink RX7 71 "GateWheelModel" "source" "[I") (List.mem_of_getElem? (i := 16) rfl)) (fun _ h9 => h9) rfl dX7_read_199 ?_
                    refine lv_iload_n hx hb dX7_read_202 rfl (lv_at hl 1 rfl) ?_
                    refine lv_iconst (v := 2) hx hb dX7_read_203 (by decide) ?_
                    obtain ⟨hi106, h⟩ := zG_spec h
                    refine va_iast hx hb hK hP hD hS 19 0 rfl rfl hi106 dX7_read_204 (fun H107 locs hP hD hS => ?_)
                    obtain ⟨s7_108, es7_108, h⟩ := zL_spec h
                    have hP : va_P (dC, dI) vwCl (cX7 a7 h7 y s7_108) H107 := by rw [es7_108]; exact hP
                    have hD : va_D A (cX7 a7 h7 y s7_108) := by rw [es7_108]; exact hD
                    obtain ⟨v109, ev109, h⟩ := zL_spec h
                    refine lv_iinc (v := v109) (lv' := [(1, .int v109), (0, .ref a7)]) hx hb dX7_read_205 hl (k := 1) rfl (by rw [ev109]; rfl) (by decide) rfl (fun ls hl => ?_)
                    refine lv_goto (tgt := 167) hx hb dX7_read_208 (by decide) ?_
                    have h := zI_l h hx83
                    exact (eG77 _ _ _ _ _).mp (ihlp79 v109 s7_108 _ _ _ h hP hD hS (lv_sub hl [1, 0] rfl))
                  refine (eG98 _ _ _ _ _).mpr ?_
                  have h := hr101
                  refine lv_icmp_ne (tgt := 193) hx hb dX7_read_186 (by decide) (fun c110 => ?_) (fun c110 => ?_)
                  · have h := zN c110 h
                    refine lv_iconst (v := 0) hx hb dX7_read_193 (by decide) ?_
                    exact (eG98 _ _ _ _ _).mp (jn99 (0 : Int32) _ _ _ (Option.some.inj h) hP hD hS (lv_sub hl [0, 1] rfl))
                  · have h := zY c110 h
                    refine lv_iconst (v := 1) hx hb dX7_read_189 (by decide) ?_
                    refine lv_goto (tgt := 194) hx hb dX7_read_190 (by decide) ?_
                    exact (eG98 _ _ _ _ _).mp (jn99 (1 : Int32) _ _ _ (Option.some.inj h) hP hD hS (lv_sub hl [0, 1] rfl))
            exact lp79 zF (0 : Int32) s7_75 _ _ _ hi81 hP hD hS (lv_sub hl [1, 0] rfl)
          · have h := zY c69 h
            refine lv_aload_n hx hb dX7_read_135 rfl (lv_at hl 0 rfl) ?_
            refine lv_iconst (v := 1) hx hb dX7_read_136 (by decide) ?_
            refine lv_aload_n hx hb dX7_read_137 rfl (lv_at hl 0 rfl) ?_
            refine va_get (D := (dC, dI)) (ci := 6) (v := .int (gI s7_64 30)) (C := RX7) (T := TX7) (N := 49) hx hb hts inX7_ hown hK hP 0 rfl rfl 30 (by decide) (hts (.fieldLink RX7 188 "GateWheelModel" "bank" "I") (List.mem_of_getElem? (i := 8) rfl)) (fun _ h9 => h9) rfl dX7_read_138 ?_
            refine lv_isub hx hb dX7_read_141 ?_
            refine va_put (D := (dC, dI)) (ci := 6) (v := .int ((1 : Int32) - (gI s7_64 30))) (ty := .int) (C := RX7) (T := TX7) (N := 49) hx hb hts inX7_ tyX7 tyX7_ok nmX7 hown hK hP hD hS 0 rfl rfl 30 (by decide) (hts (.fieldLink RX7 188 "GateWheelModel" "bank" "I") (List.mem_of_getElem? (i := 8) rfl)) (fun _ h9 => h9) rfl (by decide +kernel) rfl rfl (Nat.le_of_ble_eq_true rfl) dX7_read_142 (fun H111 locs hP hD hS => ?_)
            obtain ⟨s7_112, es7_112, h⟩ := zL_spec h
            have hP : va_P (dC, dI) vwCl (cX7 a7 h7 y s7_112) H111 := by rw [es7_112]; exact hP
            have hD : va_D A (cX7 a7 h7 y s7_112) := by rw [es7_112]; exact hD
            refine lv_iconst (v := (-1)) hx hb dX7_read_145 (by decide) ?_
            have ho0 : (-1 : Int32) = or_ := congrArg (fun z : Int32 × SS => z.1) (Option.some.inj h)
            have ho1 : s7_112 = o_7 := congrArg (fun z : Int32 × SS => z.2) (Option.some.inj h)
            exact W.iret (v := (-1)) hx hb hr (fun t ht hW => ⟨⟨(-1), (), rfl, ho0, by rw [ht]; rw [← ho1]; exact hP, va_K.moved hW.alike hK, by rw [← ho1]; exact hD⟩, hS.F ht⟩) hS.2.2 dX7_read_146
        refine (eG59 _ _ _ _ _).mpr ?_
        have h := hr62
        refine lv_if_eq (tgt := 128) hx hb dX7_read_121 (by decide) (fun c113 => ?_) (fun c113 => ?_)
        · have h := zY c113 h
          exact (eG59 _ _ _ _ _).mp (jn60 s7_53 _ _ _ (Option.some.inj h) hP hD hS (lv_sub hl [0] rfl))
        · have h := zN c113 h
          refine lv_aload_n hx hb dX7_read_124 rfl (lv_at hl 0 rfl) ?_
          obtain ⟨s7_114, hc115, h⟩ := zB_spec h
          have hFc := zFree hD hS hA
          refine va_callv (va_runV (As := []) (rest := []) ⟨hx, hb, hml, hown, hts⟩ (m_X7_levels l dC dI y a7 h7 s7_53 H56.size s7_114 hc115) (cwV 0 hts gX7_read_X7_levels rfl rfl rfl (by decide +kernel) ⟨Nat.le_of_ble_eq_true rfl, Nat.le_of_ble_eq_true rfl⟩) ⟨fun a U g mk q => by obtain ⟨q0, q1, qP, qK, qD⟩ := q; exact ⟨q0, q1, qP, va_K.moved (u := U) (U := U.calling g mk a) (Vm.Alike.refl U.vm) qK, qD⟩, va_recv hK hP (ci := 6) (q0 := 0) rfl rfl, fun U hU hW => ⟨rfl, by rw [hU], by rw [hU]; exact hP, va_K.moved hW.alike hK, hD.weaken (fun _ _ _ _ => trivial)⟩⟩ rfl rfl hl.1 rfl (lv_room (Nat.le_of_ble_eq_true rfl)) dX7_read_125 ⟨Nat.le_of_ble_eq_true rfl, Nat.le_of_ble_eq_true rfl⟩) hS (fun q _ h => hFc q h) hFc (fun u t H116 locs ht hvm hw hB hz1 hk1 hS => ?_)
          obtain ⟨hP1, hK1, hD1⟩ := hB
          rw [ht] at hP1
          have hP := hP1
          have hD := hD1.weaken (fun _ q _ h => hFc q.1 h)
          have hP : va_P (dC, dI) vwCl (cX7 a7 h7 y s7_114) H116 := hP
          have hD : va_D A (cX7 a7 h7 y s7_114) := hD
          exact (eG59 _ _ _ _ _).mp (jn60 s7_114 _ _ _ (Option.some.inj h) hP hD hS (lv_sub hl [0] rfl))
      refine (eG48 _ _ _ _ _).mpr ?_
      have h := hr51
      refine lv_if_eq (tgt := 117) hx hb dX7_read_110 (by decide) (fun c118 => ?_) (fun c118 => ?_)
      · have h := zY c118 h
        exact (eG48 _ _ _ _ _).mp (jn49 s7_42 _ _ _ (Option.some.inj h) hP hD hS (lv_sub hl [0] rfl))
      · have h := zN c118 h
        refine lv_aload_n hx hb dX7_read_113 rfl (lv_at hl 0 rfl) ?_
        obtain ⟨s7_119, hc120, h⟩ := zB_spec h
        have hFc := zFree hD hS hA
        refine va_callv (va_runV (As := []) (rest := []) ⟨hx, hb, hml, hown, hts⟩ (m_X7_resolve l dC dI y a7 h7 s7_42 H45.size s7_119 hc120) (cwV 0 hts gX7_read_X7_resolve rfl rfl rfl (by decide +kernel) ⟨Nat.le_of_ble_eq_true rfl, Nat.le_of_ble_eq_true rfl⟩) ⟨fun a U g mk q => by obtain ⟨q0, q1, qP, qK, qD⟩ := q; exact ⟨q0, q1, qP, va_K.moved (u := U) (U := U.calling g mk a) (Vm.Alike.refl U.vm) qK, qD⟩, va_recv hK hP (ci := 6) (q0 := 0) rfl rfl, fun U hU hW => ⟨rfl, by rw [hU], by rw [hU]; exact hP, va_K.moved hW.alike hK, hD.weaken (fun _ _ _ _ => trivial)⟩⟩ rfl rfl hl.1 rfl (lv_room (Nat.le_of_ble_eq_true rfl)) dX7_read_114 ⟨Nat.le_of_ble_eq_true rfl, Nat.le_of_ble_eq_true rfl⟩) hS (fun q _ h => hFc q h) hFc (fun u t H121 locs ht hvm hw hB hz1 hk1 hS => ?_)
        obtain ⟨hP1, hK1, hD1⟩ := hB
        rw [ht] at hP1
        have hP := hP1
        have hD := hD1.weaken (fun _ q _ h => hFc q.1 h)
        have hP : va_P (dC, dI) vwCl (cX7 a7 h7 y s7_119) H121 := hP
        have hD : va_D A (cX7 a7 h7 y s7_119) := hD
        exact (eG48 _ _ _ _ _).mp (jn49 s7_119 _ _ _ (Option.some.inj h) hP hD hS (lv_sub hl [0] rfl))
    have lp36 : ∀ (n : Nat) (s7_123 : SS) (HGW33 : Heap) (locs : List Loc) (ls : Array Slot), zI (b_X7_read_85) n s7_123 = some ov37 → va_P (dC, dI) vwCl (cX7 a7 h7 y s7_123) HGW33 → va_D A (cX7 a7 h7 y s7_123) → va_S A s.heap HGW33 locs → lv_has ls 2 [(0, .ref a7)] → GW33 HGW33 locs 0 0 (F0 m 85 ls []) := by
      intro n
      induction n with
      | zero =>
        intro s7_123 HGW33 locs ls hi38 hP hD hS hl
        exact (zI_0 hi38).elim
      | succ n ihlp36 =>
        intro s7_123 HGW33 locs ls hi38 hP hD hS hl
        refine (eG34 _ _ _ _ _).mpr ?_
        obtain ⟨xx41, h, hx40⟩ := zI_spec hi38
        refine lv_aload_n hx hb dX7_read_85 rfl (lv_at hl 0 rfl) ?_
        obtain ⟨r124, hc125, h⟩ := zB_spec h
        have hFc := zFree hD hS hA
        refine va_calli (va_runV (As := []) (rest := []) ⟨hx, hb, hml, hown, hts⟩ (m_X7_isGood l dC dI y a7 h7 s7_123 HGW33.size r124 hc125) (cwV 0 hts gX7_read_X7_isGood rfl rfl rfl (by decide +kernel) ⟨Nat.le_of_ble_eq_true rfl, Nat.le_of_ble_eq_true rfl⟩) ⟨fun a U g mk q => by obtain ⟨q0, q1, qP, qK, qD⟩ := q; exact ⟨q0, q1, qP, va_K.moved (u := U) (U := U.calling g mk a) (Vm.Alike.refl U.vm) qK, qD⟩, va_recv hK hP (ci := 6) (q0 := 0) rfl rfl, fun U hU hW => ⟨rfl, by rw [hU], by rw [hU]; exact hP, va_K.moved hW.alike hK, hD.weaken (fun _ _ _ _ => trivial)⟩⟩ rfl rfl hl.1 rfl (lv_room (Nat.le_of_ble_eq_true rfl)) dX7_read_86 ⟨Nat.le_of_ble_eq_true rfl, Nat.le_of_ble_eq_true rfl⟩) hS (fun q _ h => hFc q h) hFc (fun rr127 u t H126 locs ht hvm hw hB hz1 hk1 hS => ?_)
        obtain ⟨hP1, hK1, hD1⟩ := hB
        rw [ht] at hP1
        refine zTopi hw.symm ?_
        have hP := hP1
        have hD := hD1.weaken (fun _ q _ h => hFc q.1 h)
        have hP : va_P (dC, dI) vwCl (cX7 a7 h7 y s7_123) H126 := hP
        have hD : va_D A (cX7 a7 h7 y s7_123) := hD
        refine lv_if_eq (tgt := 106) hx hb dX7_read_89 (by decide) (fun c128 => ?_) (fun c128 => ?_)
        · have h := zY c128 h
          exact (eG34 _ _ _ _ _).mp (je35 s7_123 _ _ _ (zI_r h hx40) hP hD hS (lv_sub hl [0] rfl))
        · have h := zN c128 h
          refine lv_aload_n hx hb dX7_read_92 rfl (lv_at hl 0 rfl) ?_
          refine va_get (D := (dC, dI)) (ci := 6) (v := .int (gI s7_123 8)) (C := RX7) (T := TX7) (N := 49) hx hb hts inX7_ hown hK hP 0 rfl rfl 8 (by decide) (hts (.fieldLink RX7 141 "GateWheelModel" "token" "I") (List.mem_of_getElem? (i := 12) rfl)) (fun _ h9 => h9) rfl dX7_read_93 ?_
          refine lv_if_eq (tgt := 106) hx hb dX7_read_96 (by decide) (fun c129 => ?_) (fun c129 => ?_)
          · have h := zY c129 h
            exact (eG34 _ _ _ _ _).mp (je35 s7_123 _ _ _ (zI_r h hx40) hP hD hS (lv_sub hl [0] rfl))
          · have h := zN c129 h
            refine lv_aload_n hx hb dX7_read_99 rfl (lv_at hl 0 rfl) ?_
            obtain ⟨s7_130, hc131, h⟩ := zB_spec h
            have hFc := zFree hD hS hA
            refine va_callv (va_runV (As := []) (rest := []) ⟨hx, hb, hml, hown, hts⟩ (m_X7_readLine l dC dI y a7 h7 s7_123 H126.size s7_130 hc131) (cwV 0 hts gX7_read_X7_readLine rfl rfl rfl (by decide +kernel) ⟨Nat.le_of_ble_eq_true rfl, Nat.le_of_ble_eq_true rfl⟩) ⟨fun a U g mk q => by obtain ⟨q0, q1, qP, qK, qD⟩ := q; exact ⟨q0, q1, qP, va_K.moved (u := U) (U := U.calling g mk a) (Vm.Alike.refl U.vm) qK, qD⟩, va_recv hK hP (ci := 6) (q0 := 0) rfl rfl, fun U hU hW => ⟨rfl, by rw [hU], by rw [hU]; exact hP, va_K.moved hW.alike hK, hD.weaken (fun _ _ _ _ => trivial)⟩⟩ rfl rfl hl.1 rfl (lv_room (Nat.le_of_ble_eq_true rfl)) dX7_read_100 ⟨Nat.le_of_ble_eq_true rfl, Nat.le_of_ble_eq_true rfl⟩) hS (fun q _ h => hFc q h) hFc (fun u t H132 locs ht hvm hw hB hz1 hk1 hS => ?_)
            obtain ⟨hP1, hK1, hD1⟩ := hB
            rw [ht] at hP1
            have hP := hP1
            have hD := hD1.weaken (fun _ q _ h => hFc q.1 h)
            have hP : va_P (dC, dI) vwCl (cX7 a7 h7 y s7_130) H132 := hP
            have hD : va_D A (cX7 a7 h7 y s7_130) := hD
            refine lv_goto (tgt := 85) hx hb dX7_read_103 (by decide) ?_
            have h := zI_l h hx40
            exact (eG34 _ _ _ _ _).mp (ihlp36 s7_130 _ _ _ h hP hD hS (lv_sub hl [0] rfl))
    exact lp36 zF s7_29 _ _ _ hi38 hP hD hS (lv_sub hl [0] rfl)
  have lp10 : ∀ (n : Nat) (v134 : Int32) (s7_135 : SS) (HGW7 : Heap) (locs : List Loc) (ls : Array Slot), zI (b_X7_read_20) n (v134, s7_135) = some ov11 → va_P (dC, dI) vwCl (cX7 a7 h7 y s7_135) HGW7 → va_D A (cX7 a7 h7 y s7_135) → va_S A s.heap HGW7 locs → lv_has ls 2 [(0, .ref a7), (1, .int v134)] → GW7 HGW7 locs 0 0 (F0 m 20 ls []) := by
    intro n
    induction n with
    | zero =>
      intro v134 s7_135 HGW7 locs ls hi12 hP hD hS hl
      exact (zI_0 hi12).elim
    | succ n ihlp10 =>
      intro v134 s7_135 HGW7 locs ls hi12 hP hD hS hl
      refine (eG8 _ _ _ _ _).mpr ?_
      obtain ⟨xx15, h, hx14⟩ := zI_spec hi12
      refine lv_iload_n hx hb dX7_read_20 rfl (lv_at hl 1 rfl) ?_
      refine lv_aload_n hx hb dX7_read_21 rfl (lv_at hl 0 rfl) ?_
      refine va_get (D := (dC, dI)) (ci := 6) (v := .int (gI s7_135 3)) (C := RX7) (T := TX7) (N := 49) hx hb hts inX7_ hown hK hP 0 rfl rfl 3 (by decide) (hts (.fieldLink RX7 107 "GateWheelModel" "size" "I") (List.mem_of_getElem? (i := 4) rfl)) (fun _ h9 => h9) rfl dX7_read_22 ?_
      refine lv_icmp_ge (tgt := 46) hx hb dX7_read_25 (by decide) (fun c136 => ?_) (fun c136 => ?_)
      · have h := zY c136 h
        exact (eG8 _ _ _ _ _).mp (je9 s7_135 _ _ _ (zI_r h hx14) hP hD hS (lv_sub hl [0] rfl))
      · have h := zN c136 h
        refine lv_aload_n hx hb dX7_read_28 rfl (lv_at hl 0 rfl) ?_
        refine va_get (D := (dC, dI)) (ci := 6) (v := .ref (h7 1)) (C := RX7) (T := TX7) (N := 49) hx hb hts inX7_ hown hK hP 0 rfl rfl 1 (by decide) (hts (.fieldLink RX7 13 "GateWheelModel" "text" "[B") (List.mem_of_getElem? (i := 5) rfl)) (fun _ h9 => h9) rfl dX7_read_29 ?_
        refine lv_iload_n hx hb dX7_read_32 rfl (lv_at hl 1 rfl) ?_
        refine lv_aload_n hx hb dX7_read_33 rfl (lv_at hl 0 rfl) ?_
        refine va_get (D := (dC, dI)) (ci := 6) (v := .ref (h7 0)) (C := RX7) (T := TX7) (N := 49) hx hb hts inX7_ hown hK hP 0 rfl rfl 0 (by decide) (hts (.fieldLink RX7 7 "GateWheelModel" "tape" "[B") (List.mem_of_getElem? (i := 6) rfl)) (fun _ h9 => h9) rfl dX7_read_34 ?_
        refine lv_iload_n hx hb dX7_read_37 rfl (lv_at hl 1 rfl) ?_
        obtain ⟨hi137, h⟩ := zG_spec h
        refine va_bald hx hb hK hP 1 2 rfl rfl hi137 dX7_read_38 ?_
        obtain ⟨hi138, h⟩ := zG_spec h
        refine va_bast hx hb hK hP hD hS 2 2 rfl rfl hi138 dX7_read_39 (fun H139 locs hP hD hS => ?_)
        obtain ⟨s7_140, es7_140, h⟩ := zL_spec h
        have hP : va_P (dC, dI) vwCl (cX7 a7 h7 y s7_140) H139 := by rw [es7_140]; exact hP
        have hD : va_D A (cX7 a7 h7 y s7_140) := by rw [es7_140]; exact hD
        obtain ⟨v141, ev141, h⟩ := zL_spec h
        refine lv_iinc (v := v141) (lv' := [(1, .int v141), (0, .ref a7)]) hx hb dX7_read_40 hl (k := 1) rfl (by rw [ev141]; rfl) (by decide) rfl (fun ls hl => ?_)
        refine lv_goto (tgt := 20) hx hb dX7_read_43 (by decide) ?_
        have h := zI_l h hx14
        exact (eG8 _ _ _ _ _).mp (ihlp10 v141 s7_140 _ _ _ h hP hD hS (lv_sub hl [1, 0] rfl))
  exact lp10 zF (0 : Int32) s7_6 _ _ _ hi12 hP hD hS (lv_sub hl [1, 0] rfl)
