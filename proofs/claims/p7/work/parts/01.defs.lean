noncomputable def f_X0_clear (S0 : SS) : Option (SS) :=
  zL (sI S0 0 (0 : Int32)) (fun s0_2 =>
  zL (sI s0_2 1 (0 : Int32)) (fun s0_4 =>
  some s0_4))

noncomputable def f_X0_has (S0 : SS) (p1 : Int32) : Option (Int32) :=
  if p1 < (0 : Int32) then some (0 : Int32)
  else if (gI S0 0) ≤ p1 then some (0 : Int32)
  else some (1 : Int32)

noncomputable def f_X0_isKind (S0 : SS) (p1 : Int32) (p2 : Int32) : Option (Int32) :=
  zB (f_X0_has S0 p1) (fun (r1 : Int32) =>
  if r1 = (0 : Int32) then some (0 : Int32)
  else zG (vp_in p1 60) (
  if (gA S0 4 p1.toNatClampNeg) = p2 then some (1 : Int32)
  else some (0 : Int32)))

noncomputable def f_X0_isSource (S0 : SS) (p1 : Int32) : Option (Int32) :=
  zB (f_X0_isKind S0 p1 (0 : Int32)) (fun (r1 : Int32) =>
  if r1 = (0 : Int32) then zB (f_X0_isKind S0 p1 (3 : Int32)) (fun (r6 : Int32) =>
  if r6 = (0 : Int32) then some (0 : Int32)
  else some (1 : Int32))
  else some (1 : Int32))

noncomputable def b_X0_find_2 (S0 : SS) (p1 : Int64) : (Int32) → Option ((Int32) ⊕ (Int32)) := fun v10 =>
  if (gI S0 0) ≤ v10 then some (Sum.inr (-1 : Int32))
  else zG (vp_in v10 60) (
  if (lg_cmp (gB S0 2 v10.toNatClampNeg) p1) = (0 : Int32) then some (Sum.inr v10)
  else zL (v10 + 1) (fun v14 =>
  some (Sum.inl v14)))
noncomputable def f_X0_find (S0 : SS) (p1 : Int64) : Option (Int32) :=
  zI (b_X0_find_2 S0 p1) zF (0 : Int32)

noncomputable def f_X0_add (S0 : SS) (p1 : Int64) (p2 : Int32) (p3 : Int32) : Option (SS) :=
  if (gI S0 0) < (60 : Int32) then zG (vp_in (gI S0 0) 60) (
  zL (sB S0 2 (vp_updL (gB S0 2) (gI S0 0).toNatClampNeg p1)) (fun s0_4 =>
  zG (vp_in (gI s0_4 0) 60) (
  zL (sA s0_4 3 (upd (gA s0_4 3) (gI s0_4 0).toNatClampNeg p2)) (fun s0_7 =>
  zG (vp_in (gI s0_7 0) 60) (
  zL (sA s0_7 4 (upd (gA s0_7 4) (gI s0_7 0).toNatClampNeg p3)) (fun s0_10 =>
  zG (vp_in (gI s0_10 0) 60) (
  zL (sA s0_10 5 (upd (gA s0_10 5) (gI s0_10 0).toNatClampNeg (0 : Int32))) (fun s0_13 =>
  zB (if p3 = (2 : Int32) then some (1 : Int32)
  else some (0 : Int32)) (fun (v20 : Int32) =>
  zG (vp_in (gI s0_13 0) 60) (
  zL (sA s0_13 6 (upd (gA s0_13 6) (gI s0_13 0).toNatClampNeg v20)) (fun s0_23 =>
  zG (vp_in (gI s0_23 0) 60) (
  zL (sA s0_23 8 (upd (gA s0_23 8) (gI s0_23 0).toNatClampNeg (0 : Int32))) (fun s0_26 =>
  zG (vp_in (gI s0_26 0) 60) (
  zL (sA s0_26 9 (upd (gA s0_26 9) (gI s0_26 0).toNatClampNeg (0 : Int32))) (fun s0_29 =>
  zG (vp_in (gI s0_29 0) 60) (
  zL (sB s0_29 10 (vp_updL (gB s0_29 10) (gI s0_29 0).toNatClampNeg (0 : Int64))) (fun s0_32 =>
  zG (vp_in (gI s0_32 0) 60) (
  zL (sA s0_32 11 (upd (gA s0_32 11) (gI s0_32 0).toNatClampNeg (0 : Int32))) (fun s0_35 =>
  zB (if p3 = (3 : Int32) then zL (sI s0_35 1 ((gI s0_35 1) + (1 : Int32))) (fun s0_47 =>
  some s0_47)
  else some s0_35) (fun (s0_42 : SS) =>
  zL (sI s0_42 0 ((gI s0_42 0) + (1 : Int32))) (fun s0_44 =>
  some s0_44)))))))))))))))))))))
  else some S0

noncomputable def f_X0_addPart (S0 : SS) (p1 : Int32) (p2 : Int32) : Option (SS) :=
  zB (f_X0_has S0 p1) (fun (r1 : Int32) =>
  if r1 = (0 : Int32) then some S0
  else zB (f_X0_has S0 p2) (fun (r6 : Int32) =>
  if r6 = (0 : Int32) then some S0
  else zG (vp_in p1 60) (
  if (gA S0 8 p1.toNatClampNeg) < (12 : Int32) then zG (vp_in ((p1 * (12 : Int32)) + (gA S0 8 p1.toNatClampNeg)) 720) (
  zL (sA S0 7 (upd (gA S0 7) ((p1 * (12 : Int32)) + (gA S0 8 p1.toNatClampNeg)).toNatClampNeg p2)) (fun s0_15 =>
  zL (sA s0_15 8 (upd (gA s0_15 8) p1.toNatClampNeg ((gA s0_15 8 p1.toNatClampNeg) + (1 : Int32)))) (fun s0_17 =>
  if (gA s0_17 4 p1.toNatClampNeg) = (3 : Int32) then some s0_17
  else zL (sB s0_17 10 (vp_updL (gB s0_17 10) p1.toNatClampNeg ((gB s0_17 10 p1.toNatClampNeg) ||| (jLs (1 : Int64) p2)))) (fun s0_20 =>
  some s0_20))))
  else some S0)))

noncomputable def f_X0_size (S0 : SS) (p1 : Int32) : Option (Int32) :=
  zG (vp_in p1 60) (
  if (gA S0 4 p1.toNatClampNeg) = (1 : Int32) then some ((gA S0 8 p1.toNatClampNeg) / (2 : Int32))
  else some (gA S0 8 p1.toNatClampNeg))

noncomputable def f_X0_beginDriver (S0 : SS) (p1 : Int32) (p2 : Int32) : Option (SS) :=
  zB (f_X0_has S0 p1) (fun (r1 : Int32) =>
  if r1 = (0 : Int32) then some S0
  else if p2 = (0 : Int32) then some S0
  else zG (vp_in p1 60) (
  zB (f_X0_size S0 p1) (fun (r8 : Int32) =>
  zL (sA S0 9 (upd (gA S0 9) p1.toNatClampNeg ((gA S0 9 p1.toNatClampNeg) ||| ((1 : Int32) <<< (r8 &&& 31))))) (fun s0_13 =>
  some s0_13))))

noncomputable def f_X0_part (S0 : SS) (p1 : Int32) (p2 : Int32) : Option (Int32) :=
  zG (vp_in ((p1 * (12 : Int32)) + p2) 720) (
  some (gA S0 7 ((p1 * (12 : Int32)) + p2).toNatClampNeg))

noncomputable def f_X0_isLow (S0 : SS) (p1 : Int32) (p2 : Int32) : Option (Int32) :=
  zG (vp_in p1 60) (
  if (((gA S0 9 p1.toNatClampNeg) >>> (p2 &&& 31)) &&& (1 : Int32)) = (1 : Int32) then some (1 : Int32)
  else some (0 : Int32))

noncomputable def f_X0_dependsOn (S0 : SS) (p1 : Int32) (p2 : Int64) : Option (Int32) :=
  zG (vp_in p1 60) (
  if (lg_cmp ((gB S0 10 p1.toNatClampNeg) &&& p2) (0 : Int64)) = (0 : Int32) then some (0 : Int32)
  else some (1 : Int32))

noncomputable def b_X0_levelAbove_5 (S0 : SS) (p1 : Int64) : (Int32 × Int32) → Option ((Int32 × Int32) ⊕ (Int32)) := fun (v10, v11) =>
  if (gI S0 0) ≤ v11 then some (Sum.inr v10)
  else if (lg_cmp ((jLu p1 v11) &&& (1 : Int64)) (1 : Int64)) = (0 : Int32) then zG (vp_in v11 60) (
  zL (if v10 < ((gA S0 11 v11.toNatClampNeg) + (1 : Int32)) then ((gA S0 11 v11.toNatClampNeg) + (1 : Int32)) else v10) (fun v16 =>
  zL (v11 + 1) (fun v17 =>
  some (Sum.inl (v16, v17)))))
  else zL (v11 + 1) (fun v14 =>
  some (Sum.inl (v10, v14)))
noncomputable def f_X0_levelAbove (S0 : SS) (p1 : Int64) : Option (Int32) :=
  zI (b_X0_levelAbove_5 S0 p1) zF ((0 : Int32), (0 : Int32))

noncomputable def b_X0_arrange_27 : (Int64 × Int32 × Int32 × SS) → Option ((Int64 × Int32 × Int32 × SS) ⊕ (Int64 × Int32 × SS)) := fun (v29, v30, v31, s0_32) =>
  if (gI s0_32 0) ≤ v31 then some (Sum.inr (v29, v30, s0_32))
  else if (gI s0_32 0) ≤ v30 then some (Sum.inr (v29, v30, s0_32))
  else zB (if (lg_cmp ((jLu v29 v31) &&& (1 : Int64)) (1 : Int64)) = (0 : Int32) then some (1 : Int32)
  else some (0 : Int32)) (fun (v41 : Int32) =>
  if v41 = (0 : Int32) then zB (f_X0_dependsOn s0_32 v31 (v29 ^^^ (-1 : Int64))) (fun (r44 : Int32) =>
  if r44 = (0 : Int32) then zG (vp_in v30 60) (
  zL (sA s0_32 12 (upd (gA s0_32 12) v30.toNatClampNeg v31)) (fun s0_52 =>
  zL (v30 + 1) (fun v53 =>
  zL (v29 ||| (jLs (1 : Int64) v31)) (fun v54 =>
  zG (vp_in v31 60) (
  zB (f_X0_levelAbove s0_52 (gB s0_52 10 v31.toNatClampNeg)) (fun (r56 : Int32) =>
  zL (sA s0_52 11 (upd (gA s0_52 11) v31.toNatClampNeg r56)) (fun s0_61 =>
  zL (v31 + 1) (fun v62 =>
  some (Sum.inl (v54, v53, v62, s0_61))))))))))
  else zL (v31 + 1) (fun v49 =>
  some (Sum.inl (v29, v30, v49, s0_32))))
  else zL (v31 + 1) (fun v43 =>
  some (Sum.inl (v29, v30, v43, s0_32))))
noncomputable def b_X0_arrange_7 : (Int64 × Int32 × Int32 × SS) → Option ((Int64 × Int32 × Int32 × SS) ⊕ (SS)) := fun (v10, v11, v12, s0_13) =>
  if (gI s0_13 0) ≤ v12 then some (Sum.inr s0_13)
  else if (gI s0_13 0) ≤ v11 then some (Sum.inr s0_13)
  else zB (zI (b_X0_arrange_27) zF (v10, v11, (0 : Int32), s0_13)) (fun ((v25, v26, s0_27) : Int64 × Int32 × SS) =>
  zL (v12 + 1) (fun v28 =>
  some (Sum.inl (v25, v26, v28, s0_27))))
noncomputable def f_X0_arrange (S0 : SS) : Option (SS) :=
  zI (b_X0_arrange_7) zF ((0 : Int64), (0 : Int32), (0 : Int32), S0)

noncomputable def f_X1_isBlank (p1 : Int32) : Option (Int32) :=
  if p1 = (32 : Int32) then some (1 : Int32)
  else if p1 = (10 : Int32) then some (1 : Int32)
  else some (0 : Int32)

noncomputable def f_X1_isLetter (p1 : Int32) : Option (Int32) :=
  if p1 < (97 : Int32) then some (0 : Int32)
  else if (122 : Int32) < p1 then some (0 : Int32)
  else some (1 : Int32)

noncomputable def f_X1_isDigit (p1 : Int32) : Option (Int32) :=
  if p1 < (48 : Int32) then some (0 : Int32)
  else if (57 : Int32) < p1 then some (0 : Int32)
  else some (1 : Int32)

noncomputable def f_X1_isLetterOrDigit (p1 : Int32) : Option (Int32) :=
  zB (f_X1_isLetter p1) (fun (r1 : Int32) =>
  if r1 = (0 : Int32) then zB (f_X1_isDigit p1) (fun (r6 : Int32) =>
  if r6 = (0 : Int32) then some (0 : Int32)
  else some (1 : Int32))
  else some (1 : Int32))

noncomputable def f_X1_isSign (p1 : Int32) : Option (Int32) :=
  if p1 = (44 : Int32) then some (1 : Int32)
  else if p1 = (59 : Int32) then some (1 : Int32)
  else if p1 = (61 : Int32) then some (1 : Int32)
  else if p1 = (40 : Int32) then some (1 : Int32)
  else if p1 = (41 : Int32) then some (1 : Int32)
  else if p1 = (60 : Int32) then some (1 : Int32)
  else some (0 : Int32)

noncomputable def f_X1_begin (S1 : SS) (ft : Nat → Int32) (p2 : Int32) : Option (SS) :=
  zL (sI S1 1 (if (2000 : Int32) < p2 then (2000 : Int32) else p2)) (fun s1_3 =>
  zL (sI s1_3 2 (0 : Int32)) (fun s1_5 =>
  some s1_5))

noncomputable def f_X1_takeDigit (S1 : SS) (ft : Nat → Int32) : Option (SS) :=
  zG (vp_in (gI S1 2) 2000) (
  zL (sI S1 6 ((ft (gI S1 2).toNatClampNeg) - (48 : Int32))) (fun s1_3 =>
  zL (sI s1_3 2 ((gI s1_3 2) + (1 : Int32))) (fun s1_5 =>
  zB (if (gI s1_5 1) ≤ (gI s1_5 2) then some (1 : Int32)
  else zG (vp_in (gI s1_5 2) 2000) (
  zB (f_X1_isLetterOrDigit (ft (gI s1_5 2).toNatClampNeg)) (fun (r26 : Int32) =>
  if r26 = (0 : Int32) then some (1 : Int32)
  else some (0 : Int32)))) (fun (v12 : Int32) =>
  zB (if v12 = (0 : Int32) then some (0 : Int32)
  else if (gI s1_5 6) ≤ (0 : Int32) then some (0 : Int32)
  else some (3 : Int32)) (fun (v19 : Int32) =>
  zL (sI s1_5 3 v19) (fun s1_21 =>
  some s1_21))))))

noncomputable def b_X1_takeWord_5 (ft : Nat → Int32) : (SS) → Option ((SS) ⊕ (SS)) := fun s1_23 =>
  if (gI s1_23 1) ≤ (gI s1_23 2) then some (Sum.inr s1_23)
  else zG (vp_in (gI s1_23 2) 2000) (
  zB (f_X1_isLetterOrDigit (ft (gI s1_23 2).toNatClampNeg)) (fun (r26 : Int32) =>
  if r26 = (0 : Int32) then some (Sum.inr s1_23)
  else zL (sL s1_23 5 ((jLs (gL s1_23 5) (8 : Int32)) ||| (jIL (ft (gI s1_23 2).toNatClampNeg)))) (fun s1_32 =>
  zL (sI s1_32 2 ((gI s1_32 2) + (1 : Int32))) (fun s1_34 =>
  some (Sum.inl s1_34)))))
noncomputable def f_X1_takeWord (S1 : SS) (ft : Nat → Int32) : Option (SS) :=
  zL (sL S1 5 (0 : Int64)) (fun s1_2 =>
  zB (zI (b_X1_takeWord_5 ft) zF s1_2) (fun (s1_12 : SS) =>
  zB (if ((gI s1_12 2) - (gI s1_12 4)) ≤ (8 : Int32) then some (2 : Int32)
  else some (0 : Int32)) (fun (v19 : Int32) =>
  zL (sI s1_12 3 v19) (fun s1_21 =>
  some s1_21))))

noncomputable def b_X1_advance_0 (ft : Nat → Int32) : (SS) → Option ((SS) ⊕ (SS)) := fun s1_52 =>
  if (gI s1_52 1) ≤ (gI s1_52 2) then some (Sum.inr s1_52)
  else zG (vp_in (gI s1_52 2) 2000) (
  zB (f_X1_isBlank (ft (gI s1_52 2).toNatClampNeg)) (fun (r55 : Int32) =>
  if r55 = (0 : Int32) then some (Sum.inr s1_52)
  else zL (sI s1_52 2 ((gI s1_52 2) + (1 : Int32))) (fun s1_61 =>
  some (Sum.inl s1_61))))
noncomputable def f_X1_advance (S1 : SS) (ft : Nat → Int32) : Option (SS) :=
  zB (zI (b_X1_advance_0 ft) zF S1) (fun (s1_10 : SS) =>
  zL (sI s1_10 4 (gI s1_10 2)) (fun s1_12 =>
  if (gI s1_12 2) < (gI s1_12 1) then zG (vp_in (gI s1_12 2) 2000) (
  zL (ft (gI s1_12 2).toNatClampNeg) (fun v15 =>
  zB (f_X1_isLetter v15) (fun (r16 : Int32) =>
  if r16 = (0 : Int32) then zB (f_X1_isDigit v15) (fun (r21 : Int32) =>
  if r21 = (0 : Int32) then zB (f_X1_isSign v15) (fun (r26 : Int32) =>
  zB (if r26 = (0 : Int32) then some (0 : Int32)
  else some v15) (fun (v36 : Int32) =>
  zL (sI s1_12 3 v36) (fun s1_38 =>
  zL (sI s1_38 2 ((gI s1_38 2) + (1 : Int32))) (fun s1_40 =>
  some s1_40))))
  else zB (f_X1_takeDigit s1_12 ft) (fun (s1_42 : SS) =>
  some s1_42))
  else zB (f_X1_takeWord s1_12 ft) (fun (s1_46 : SS) =>
  some s1_46))))
  else zL (sI s1_12 3 (1 : Int32)) (fun s1_51 =>
  some s1_51)))

noncomputable def f_X2_takenIn (p1 : Int32) : Option (Int32) :=
  if p1 = (3 : Int32) then some (2 : Int32)
  else some p1

noncomputable def f_X2_isTurned (p1 : Int32) : Option (Int32) :=
  if (p1 &&& (1 : Int32)) = (1 : Int32) then some (1 : Int32)
  else some (0 : Int32)

noncomputable def f_X2_plainValue (p1 : Int32) (p2 : Int32) (p3 : Int32) (p4 : Int32) : Option (Int32) :=
  zB (if (p2 + p3) = p4 then some (1 : Int32)
  else some (0 : Int32)) (fun (v7 : Int32) =>
  if p1 = (2 : Int32) then if p3 ≤ (0 : Int32) then if v7 = (0 : Int32) then some (2 : Int32)
  else some (0 : Int32)
  else some (1 : Int32)
  else if p1 = (4 : Int32) then if v7 = (0 : Int32) then some (2 : Int32)
  else some (p3 &&& (1 : Int32))
  else if p2 ≤ (0 : Int32) then if v7 = (0 : Int32) then some (2 : Int32)
  else some (1 : Int32)
  else some (0 : Int32))

noncomputable def f_X2_muxValue (S0 : SS) (fw : Nat → Int32) (p1 : Int32) : Option (Int32) :=
  zB (f_X0_part S0 p1 (0 : Int32)) (fun (r1 : Int32) =>
  zG (vp_in r1 60) (
  zL (fw r1.toNatClampNeg) (fun v6 =>
  zB (f_X0_part S0 p1 (1 : Int32)) (fun (r7 : Int32) =>
  zG (vp_in r7 60) (
  zB (f_X2_takenIn (fw r7.toNatClampNeg)) (fun (r12 : Int32) =>
  zB (f_X0_part S0 p1 (2 : Int32)) (fun (r16 : Int32) =>
  zG (vp_in r16 60) (
  zB (f_X2_takenIn (fw r16.toNatClampNeg)) (fun (r21 : Int32) =>
  if v6 = (0 : Int32) then some r12
  else if v6 = (1 : Int32) then some r21
  else if r12 = r21 then some r12
  else some (2 : Int32))))))))))

noncomputable def b_X2_gateValue_36 (S0 : SS) (fw : Nat → Int32) (p1 : Int32) (r4 : Int32) : (Int32 × Int32 × Int32) → Option ((Int32 × Int32 × Int32) ⊕ (Int32 × Int32)) := fun (v29, v30, v31) =>
  if r4 ≤ v31 then some (Sum.inr (v29, v30))
  else zB (f_X0_part S0 p1 v31) (fun (r33 : Int32) =>
  zG (vp_in r33 60) (
  zL (fw r33.toNatClampNeg) (fun v38 =>
  zB (if v38 = (0 : Int32) then some (1 : Int32)
  else some (0 : Int32)) (fun (v45 : Int32) =>
  zL (v29 + v45) (fun v46 =>
  if v38 = (1 : Int32) then zL (v30 + (1 : Int32)) (fun v50 =>
  zL (v31 + 1) (fun v51 =>
  some (Sum.inl (v46, v50, v51))))
  else zL (v30 + (0 : Int32)) (fun v48 =>
  zL (v31 + 1) (fun v49 =>
  some (Sum.inl (v46, v48, v49)))))))))
noncomputable def f_X2_gateValue (S0 : SS) (fw : Nat → Int32) (p1 : Int32) : Option (Int32) :=
  zG (vp_in p1 60) (
  zL (gA S0 5 p1.toNatClampNeg) (fun v2 =>
  if v2 = (8 : Int32) then zB (f_X2_muxValue S0 fw p1) (fun (r53 : Int32) =>
  some r53)
  else zB (f_X0_size S0 p1) (fun (r4 : Int32) =>
  zB (zI (b_X2_gateValue_36 S0 fw p1 r4) zF ((0 : Int32), (0 : Int32), (0 : Int32))) (fun ((v17, v18) : Int32 × Int32) =>
  zB (f_X2_plainValue (v2 &&& (-2 : Int32)) v17 v18 r4) (fun (r19 : Int32) =>
  zB (f_X2_isTurned v2) (fun (r23 : Int32) =>
  if r23 = (0 : Int32) then some r19
  else if (2 : Int32) ≤ r19 then some r19
  else some ((1 : Int32) - r19)))))))

noncomputable def f_X2_driverValue (S0 : SS) (fw : Nat → Int32) (p1 : Int32) (p2 : Int32) : Option (Int32) :=
  zB (f_X0_part S0 p1 ((2 : Int32) * p2)) (fun (r1 : Int32) =>
  zG (vp_in r1 60) (
  zL (fw r1.toNatClampNeg) (fun v6 =>
  zB (f_X0_part S0 p1 (((2 : Int32) * p2) + (1 : Int32))) (fun (r7 : Int32) =>
  zG (vp_in r7 60) (
  zL (fw r7.toNatClampNeg) (fun v12 =>
  if v12 < (2 : Int32) then zB (f_X0_isLow S0 p1 p2) (fun (r14 : Int32) =>
  zB (if r14 = (0 : Int32) then some (1 : Int32)
  else some (0 : Int32)) (fun (v24 : Int32) =>
  if v12 = v24 then zB (f_X2_takenIn v6) (fun (r26 : Int32) =>
  some r26)
  else some (3 : Int32)))
  else some (2 : Int32)))))))

noncomputable def b_X2_busValue_12 (S0 : SS) (fw : Nat → Int32) (p1 : Int32) (r1 : Int32) : (Int32 × Int32) → Option ((Int32 × Int32) ⊕ (Int32)) := fun (v14, v15) =>
  if r1 ≤ v15 then some (Sum.inr v14)
  else zB (f_X2_driverValue S0 fw p1 v15) (fun (r17 : Int32) =>
  if v14 = (3 : Int32) then zL (v15 + 1) (fun v27 =>
  some (Sum.inl (r17, v27)))
  else if r17 = (3 : Int32) then zL (v15 + 1) (fun v23 =>
  some (Sum.inl (v14, v23)))
  else if r17 = v14 then zL (v15 + 1) (fun v25 =>
  some (Sum.inl (v14, v25)))
  else zL (v15 + 1) (fun v26 =>
  some (Sum.inl ((2 : Int32), v26))))
noncomputable def f_X2_busValue (S0 : SS) (fw : Nat → Int32) (p1 : Int32) : Option (Int32) :=
  zB (f_X0_size S0 p1) (fun (r1 : Int32) =>
  zI (b_X2_busValue_12 S0 fw p1 r1) zF ((3 : Int32), (0 : Int32)))

noncomputable def b_X2_settle_2 (S0 : SS) : (Int32 × (Nat → Int32)) → Option ((Int32 × (Nat → Int32)) ⊕ ((Nat → Int32))) := fun (v10, sw_11) =>
  if (gI S0 0) ≤ v10 then some (Sum.inr sw_11)
  else zG (vp_in v10 60) (
  zL (gA S0 12 v10.toNatClampNeg) (fun v14 =>
  zG (vp_in v14 60) (
  if (gA S0 4 v14.toNatClampNeg) = (2 : Int32) then zB (f_X2_gateValue S0 sw_11 v14) (fun (r26 : Int32) =>
  zL (upd sw_11 v14.toNatClampNeg r26) (fun sw_31 =>
  zL (v10 + 1) (fun v32 =>
  some (Sum.inl (v32, sw_31)))))
  else if (gA S0 4 v14.toNatClampNeg) = (1 : Int32) then zB (f_X2_busValue S0 sw_11 v14) (fun (r19 : Int32) =>
  zL (upd sw_11 v14.toNatClampNeg r19) (fun sw_24 =>
  zL (v10 + 1) (fun v25 =>
  some (Sum.inl (v25, sw_24)))))
  else zL (v10 + 1) (fun v18 =>
  some (Sum.inl (v18, sw_11))))))
noncomputable def f_X2_settle (S0 : SS) (fw : Nat → Int32) : Option ((Nat → Int32)) :=
  zI (b_X2_settle_2 S0) zF ((0 : Int32), fw)

noncomputable def f_X2_afterTick (S0 : SS) (fw : Nat → Int32) (p1 : Int32) : Option (Int32) :=
  zG (vp_in p1 60) (
  zL (fw p1.toNatClampNeg) (fun v2 =>
  zB (f_X0_part S0 p1 (0 : Int32)) (fun (r3 : Int32) =>
  zG (vp_in r3 60) (
  zB (f_X2_takenIn (fw r3.toNatClampNeg)) (fun (r8 : Int32) =>
  zB (f_X0_size S0 p1) (fun (r12 : Int32) =>
  zB (if r12 ≤ (1 : Int32) then some (1 : Int32)
  else zB (f_X0_part S0 p1 (1 : Int32)) (fun (r27 : Int32) =>
  zG (vp_in r27 60) (
  some (fw r27.toNatClampNeg)))) (fun (v22 : Int32) =>
  if v22 = (1 : Int32) then some r8
  else if v22 = (0 : Int32) then some v2
  else if r8 = v2 then some v2
  else some (2 : Int32))))))))

noncomputable def f_X5_freeRow (p1 : Int32) (p2 : Int32) : Option (Int64) :=
  if (6 : Int32) ≤ p1 then if ((p2 >>> ((p1 - (6 : Int32)) &&& 31)) &&& (1 : Int32)) = (1 : Int32) then some (-1 : Int64)
  else some (0 : Int64)
  else zG (vp_in p1 6) (
  some (sp_f p1.toNatClampNeg))

noncomputable def f_X5_join (p1 : Int32) (p2 : Int64) (p3 : Int64) : Option (Int64) :=
  if p1 = (2 : Int32) then some (p2 ||| p3)
  else if p1 = (4 : Int32) then some (p2 ^^^ p3)
  else some (p2 &&& p3)

noncomputable def f_J13_bitCount_95d88 (p1 : Int64) : Option (Int32) :=
  zL (p1 - ((jLu p1 (1 : Int32)) &&& (6148914691236517205 : Int64))) (fun v1 =>
  zL ((v1 &&& (3689348814741910323 : Int64)) + ((jLu v1 (2 : Int32)) &&& (3689348814741910323 : Int64))) (fun v2 =>
  zL ((v2 + (jLu v2 (4 : Int32))) &&& (1085102592571150095 : Int64)) (fun v3 =>
  zL (v3 + (jLu v3 (8 : Int32))) (fun v4 =>
  zL (v4 + (jLu v4 (16 : Int32))) (fun v5 =>
  zL (v5 + (jLu v5 (32 : Int32))) (fun v6 =>
  some ((jLI v6) &&& (127 : Int32))))))))

noncomputable def b_X5_fillSources_6 (S0 : SS) (fw : Nat → Int32) (p3 : Int32) : (Int32 × Int32 × SS) → Option ((Int32 × Int32 × SS) ⊕ (SS)) := fun (v10, v11, s5_12) =>
  if (gI S0 0) ≤ v11 then some (Sum.inr s5_12)
  else zB (f_X0_isSource S0 v11) (fun (r14 : Int32) =>
  if r14 = (0 : Int32) then zL (v11 + 1) (fun v40 =>
  some (Sum.inl (v10, v40, s5_12)))
  else zG (vp_in v11 60) (
  if (fw v11.toNatClampNeg) < (2 : Int32) then zB (if (fw v11.toNatClampNeg) = (1 : Int32) then some (-1 : Int64)
  else some (0 : Int64)) (fun (v27 : Int64) =>
  zL (sB s5_12 3 (vp_updL (gB s5_12 3) v11.toNatClampNeg v27)) (fun s5_29 =>
  zL (v11 + 1) (fun v30 =>
  some (Sum.inl (v10, v30, s5_29)))))
  else zB (f_X5_freeRow v10 p3) (fun (r32 : Int64) =>
  zL (sB s5_12 3 (vp_updL (gB s5_12 3) v11.toNatClampNeg r32)) (fun s5_37 =>
  zL (v10 + 1) (fun v38 =>
  zL (v11 + 1) (fun v39 =>
  some (Sum.inl (v38, v39, s5_37))))))))
noncomputable def f_X5_fillSources (S5 : SS) (S0 : SS) (fw : Nat → Int32) (p3 : Int32) : Option (SS) :=
  zI (b_X5_fillSources_6 S0 fw p3) zF ((0 : Int32), (0 : Int32), S5)

noncomputable def b_X5_gateRow_70 (S5 : SS) (S0 : SS) (p2 : Int32) (v2 : Int32) (r10 : Int32) : (Int64 × Int32) → Option ((Int64 × Int32) ⊕ (Int64)) := fun (v29, v30) =>
  if r10 ≤ v30 then some (Sum.inr v29)
  else zB (f_X0_part S0 p2 v30) (fun (r32 : Int32) =>
  zG (vp_in r32 60) (
  zB (f_X5_join (v2 &&& (-2 : Int32)) v29 (gB S5 3 r32.toNatClampNeg)) (fun (r37 : Int64) =>
  zL (v30 + 1) (fun v41 =>
  some (Sum.inl (r37, v41))))))
noncomputable def f_X5_gateRow (S5 : SS) (S0 : SS) (p2 : Int32) : Option (Int64) :=
  zG (vp_in p2 60) (
  zL (gA S0 5 p2.toNatClampNeg) (fun v2 =>
  zB (f_X0_part S0 p2 (0 : Int32)) (fun (r3 : Int32) =>
  zG (vp_in r3 60) (
  zL (gB S5 3 r3.toNatClampNeg) (fun v8 =>
  if v2 = (8 : Int32) then zB (f_X0_part S0 p2 (1 : Int32)) (fun (r42 : Int32) =>
  zG (vp_in r42 60) (
  zB (f_X0_part S0 p2 (2 : Int32)) (fun (r47 : Int32) =>
  zG (vp_in r47 60) (
  some (((v8 ^^^ (-1 : Int64)) &&& (gB S5 3 r42.toNatClampNeg)) ||| (v8 &&& (gB S5 3 r47.toNatClampNeg)))))))
  else zB (f_X0_size S0 p2) (fun (r10 : Int32) =>
  zB (zI (b_X5_gateRow_70 S5 S0 p2 v2 r10) zF (v8, (1 : Int32))) (fun (v23 : Int64) =>
  zB (f_X2_isTurned v2) (fun (r24 : Int32) =>
  if r24 = (0 : Int32) then some v23
  else some (v23 ^^^ (-1 : Int64))))))))))

noncomputable def b_X5_busRow_18 (S5 : SS) (S0 : SS) (p2 : Int32) (r1 : Int32) : (Int64 × Int64 × Int64 × Int32) → Option ((Int64 × Int64 × Int64 × Int32) ⊕ (Int64 × Int64 × Int64)) := fun (v19, v20, v21, v22) =>
  if r1 ≤ v22 then some (Sum.inr (v19, v20, v21))
  else zB (f_X0_part S0 p2 (((2 : Int32) * v22) + (1 : Int32))) (fun (r24 : Int32) =>
  zG (vp_in r24 60) (
  zL (gB S5 3 r24.toNatClampNeg) (fun v29 =>
  zB (f_X0_isLow S0 p2 v22) (fun (r30 : Int32) =>
  zB (if r30 = (0 : Int32) then some v29
  else some (v29 ^^^ (-1 : Int64))) (fun (v40 : Int64) =>
  zB (f_X0_part S0 p2 ((2 : Int32) * v22)) (fun (r41 : Int32) =>
  zG (vp_in r41 60) (
  zL (v19 ||| (v40 &&& (gB S5 3 r41.toNatClampNeg))) (fun v46 =>
  zL (v21 ||| (v20 &&& v40)) (fun v47 =>
  zL (v20 ||| v40) (fun v48 =>
  zL (v22 + 1) (fun v49 =>
  some (Sum.inl (v46, v48, v47, v49)))))))))))))
noncomputable def f_X5_busRow (S5 : SS) (S0 : SS) (p2 : Int32) : Option (Int64 × SS) :=
  zB (f_X0_size S0 p2) (fun (r1 : Int32) =>
  zB (zI (b_X5_busRow_18 S5 S0 p2 r1) zF ((0 : Int64), (0 : Int64), (0 : Int64), (0 : Int32))) (fun ((v14, v15, v16) : Int64 × Int64 × Int64) =>
  zL (sL S5 4 ((gL S5 4) &&& (v15 &&& (v16 ^^^ (-1 : Int64))))) (fun s5_18 =>
  some (v14, s5_18))))

noncomputable def b_X5_followOthers_2 (S0 : SS) : (Int32 × SS) → Option ((Int32 × SS) ⊕ (SS)) := fun (v10, s5_11) =>
  if (gI S0 0) ≤ v10 then some (Sum.inr s5_11)
  else zG (vp_in v10 60) (
  zL (gA S0 12 v10.toNatClampNeg) (fun v14 =>
  zG (vp_in v14 60) (
  if (gA S0 4 v14.toNatClampNeg) = (2 : Int32) then zB (f_X5_gateRow s5_11 S0 v14) (fun (r27 : Int64) =>
  zL (sB s5_11 3 (vp_updL (gB s5_11 3) v14.toNatClampNeg r27)) (fun s5_32 =>
  zL (v10 + 1) (fun v33 =>
  some (Sum.inl (v33, s5_32)))))
  else if (gA S0 4 v14.toNatClampNeg) = (1 : Int32) then zB (f_X5_busRow s5_11 S0 v14) (fun ((r19, s5_20) : Int64 × SS) =>
  zL (sB s5_20 3 (vp_updL (gB s5_20 3) v14.toNatClampNeg r19)) (fun s5_25 =>
  zL (v10 + 1) (fun v26 =>
  some (Sum.inl (v26, s5_25)))))
  else zL (v10 + 1) (fun v18 =>
  some (Sum.inl (v18, s5_11))))))
noncomputable def f_X5_followOthers (S5 : SS) (S0 : SS) : Option (SS) :=
  zI (b_X5_followOthers_2 S0) zF ((0 : Int32), S5)

noncomputable def b_X5_collect_18 (S0 : SS) : (Int32 × SS) → Option ((Int32 × SS) ⊕ (SS)) := fun (v16, s5_17) =>
  if (gI S0 0) ≤ v16 then some (Sum.inr s5_17)
  else zG (vp_in v16 60) (
  zB (if (lg_cmp ((gB s5_17 3 v16.toNatClampNeg) &&& (gL s5_17 4)) (0 : Int64)) = (0 : Int32) then some s5_17
  else zL (sL s5_17 2 ((gL s5_17 2) ||| (jLs (1 : Int64) v16))) (fun s5_34 =>
  some s5_34)) (fun (s5_26 : SS) =>
  if (lg_cmp (((gB s5_26 3 v16.toNatClampNeg) ^^^ (-1 : Int64)) &&& (gL s5_26 4)) (0 : Int64)) = (0 : Int32) then zL (v16 + 1) (fun v28 =>
  some (Sum.inl (v28, s5_26)))
  else zL (sL s5_26 1 ((gL s5_26 1) ||| (jLs (1 : Int64) v16))) (fun s5_30 =>
  zL (v16 + 1) (fun v31 =>
  some (Sum.inl (v31, s5_30))))))
noncomputable def f_X5_collect (S5 : SS) (S0 : SS) : Option (SS) :=
  zB (f_J13_bitCount_95d88 (gL S5 4)) (fun (r1 : Int32) =>
  zL (sI S5 0 ((gI S5 0) + r1)) (fun s5_6 =>
  zI (b_X5_collect_18 S0) zF ((0 : Int32), s5_6)))

noncomputable def b_X5_goThrough_57 (S0 : SS) (fw : Nat → Int32) (v13 : Int32) (v20 : Int64) : (Int32 × SS) → Option ((Int32 × SS) ⊕ (SS)) := fun (v30, s5_31) =>
  if v13 ≤ v30 then some (Sum.inr s5_31)
  else zL (sL s5_31 4 v20) (fun s5_34 =>
  zB (f_X5_fillSources s5_34 S0 fw v30) (fun (s5_35 : SS) =>
  zB (f_X5_followOthers s5_35 S0) (fun (s5_39 : SS) =>
  zB (f_X5_collect s5_39 S0) (fun (s5_43 : SS) =>
  zL (v30 + 1) (fun v47 =>
  some (Sum.inl (v47, s5_43)))))))
noncomputable def f_X5_goThrough (S5 : SS) (S0 : SS) (fw : Nat → Int32) (p3 : Int32) : Option (SS) :=
  zL (sI S5 0 (0 : Int32)) (fun s5_2 =>
  zL (sL s5_2 1 (0 : Int64)) (fun s5_4 =>
  zL (sL s5_4 2 (0 : Int64)) (fun s5_6 =>
  zB (if p3 ≤ (6 : Int32) then some (1 : Int32)
  else some ((1 : Int32) <<< ((p3 - (6 : Int32)) &&& 31))) (fun (v13 : Int32) =>
  zB (if p3 < (6 : Int32) then some ((jLs (1 : Int64) ((1 : Int32) <<< (p3 &&& 31))) - (1 : Int64))
  else some (-1 : Int64)) (fun (v20 : Int64) =>
  zI (b_X5_goThrough_57 S0 fw v13 v20) zF ((0 : Int32), s5_6))))))

noncomputable def f_X5_isEver (S5 : SS) (p1 : Int32) (p2 : Int32) : Option (Int32) :=
  zB (if p2 = (0 : Int32) then some (gL S5 1)
  else some (gL S5 2)) (fun (v7 : Int64) =>
  if (lg_cmp ((jLu v7 p1) &&& (1 : Int64)) (1 : Int64)) = (0 : Int32) then some (1 : Int32)
  else some (0 : Int32))

noncomputable def f_X5_sharpValue (S5 : SS) (p1 : Int32) : Option (Int32) :=
  if (gI S5 0) = (0 : Int32) then some (3 : Int32)
  else zB (f_X5_isEver S5 p1 (0 : Int32)) (fun (r2 : Int32) =>
  if r2 = (0 : Int32) then some (1 : Int32)
  else zB (f_X5_isEver S5 p1 (1 : Int32)) (fun (r7 : Int32) =>
  if r7 = (0 : Int32) then some (0 : Int32)
  else some (2 : Int32)))

noncomputable def f_J9_floorMod_7cf53 (p1 : Int32) (p2 : Int32) : Option (Int32) :=
  zG (¬ p2 = 0) (
  zL (p1 - p1 / p2 * p2) (fun v2 =>
  if (0 : Int32) ≤ (p1 ^^^ p2) then some v2
  else if v2 = (0 : Int32) then some v2
  else some (v2 + p2)))

noncomputable def f_X4_slotAt (p1 : Int32) (p2 : Int32) : Option (Int32) :=
  zB (f_J9_floorMod_7cf53 p2 (10 : Int32)) (fun (r1 : Int32) =>
  some ((p1 * (10 : Int32)) + r1))

noncomputable def b_X4_begin_58 (S0 : SS) : (Int32 × SS) → Option ((Int32 × SS) ⊕ (SS)) := fun (v26, s4_27) =>
  if ((gI S0 0) * (10 : Int32)) ≤ v26 then some (Sum.inr s4_27)
  else zG (vp_in v26 600) (
  zL (sA s4_27 4 (upd (gA s4_27 4) v26.toNatClampNeg (-1 : Int32))) (fun s4_31 =>
  zL (v26 + 1) (fun v32 =>
  some (Sum.inl (v32, s4_31)))))
noncomputable def b_X4_begin_17 (S0 : SS) (fw : Nat → Int32) : (Int32 × SS) → Option ((Int32 × SS) ⊕ (SS)) := fun (v33, s4_34) =>
  if (gI S0 0) ≤ v33 then some (Sum.inr s4_34)
  else zG (vp_in v33 60) (
  zL (sA s4_34 2 (upd (gA s4_34 2) v33.toNatClampNeg (fw v33.toNatClampNeg))) (fun s4_38 =>
  zL (sA s4_38 3 (upd (gA s4_38 3) v33.toNatClampNeg (fw v33.toNatClampNeg))) (fun s4_40 =>
  zL (sA s4_40 6 (upd (gA s4_40 6) v33.toNatClampNeg (0 : Int32))) (fun s4_42 =>
  zL (v33 + 1) (fun v43 =>
  some (Sum.inl (v43, s4_42)))))))
noncomputable def f_X4_begin (S4 : SS) (S0 : SS) (fw : Nat → Int32) : Option (SS) :=
  zL (sI S4 0 (0 : Int32)) (fun s4_2 =>
  zL (sI s4_2 1 (0 : Int32)) (fun s4_4 =>
  zL (sL s4_4 7 (0 : Int64)) (fun s4_6 =>
  zB (zI (b_X4_begin_17 S0 fw) zF ((0 : Int32), s4_6)) (fun (s4_16 : SS) =>
  zI (b_X4_begin_58 S0) zF ((0 : Int32), s4_16)))))

noncomputable def f_X4_change (S4 : SS) (p1 : Int32) (p2 : Int32) : Option (Int32 × SS) :=
  zG (vp_in p1 60) (
  if (gA S4 2 p1.toNatClampNeg) = p2 then some ((0 : Int32), S4)
  else zL (sA S4 2 (upd (gA S4 2) p1.toNatClampNeg p2)) (fun s4_4 =>
  zL (sL s4_4 7 ((gL s4_4 7) ||| (jLs (1 : Int64) p1))) (fun s4_6 =>
  if (20 : Int32) ≤ (gA s4_6 6 p1.toNatClampNeg) then some ((1 : Int32), s4_6)
  else zG (vp_in ((p1 * (20 : Int32)) + (gA s4_6 6 p1.toNatClampNeg)) 1200) (
  zL (sA s4_6 5 (upd (gA s4_6 5) ((p1 * (20 : Int32)) + (gA s4_6 6 p1.toNatClampNeg)).toNatClampNeg (((4 : Int32) * (gI s4_6 0)) + p2))) (fun s4_10 =>
  zL (sA s4_10 6 (upd (gA s4_10 6) p1.toNatClampNeg ((gA s4_10 6 p1.toNatClampNeg) + (1 : Int32)))) (fun s4_12 =>
  some ((1 : Int32), s4_12)))))))

noncomputable def f_X4_quiet (S4 : SS) : Option (Int32) :=
  if (gI S4 1) = (0 : Int32) then if (lg_cmp (gL S4 7) (0 : Int64)) = (0 : Int32) then some (1 : Int32)
  else some (0 : Int32)
  else some (0 : Int32)

noncomputable def f_X4_changeOf (S4 : SS) (p1 : Int32) (p2 : Int32) : Option (Int32) :=
  if p2 < (0 : Int32) then some (-1 : Int32)
  else zG (vp_in p1 60) (
  if (gA S4 6 p1.toNatClampNeg) ≤ p2 then some (-1 : Int32)
  else zG (vp_in ((p1 * (20 : Int32)) + p2) 1200) (
  some (gA S4 5 ((p1 * (20 : Int32)) + p2).toNatClampNeg)))

noncomputable def b_X4_changeBuses_4 (S0 : SS) : (Int32 × Int32 × SS) → Option ((Int32 × Int32 × SS) ⊕ (Int32 × SS)) := fun (v10, v11, s4_12) =>
  if (gI S0 0) ≤ v11 then some (Sum.inr (v10, s4_12))
  else zG (vp_in v11 60) (
  zL (gA S0 12 v11.toNatClampNeg) (fun v15 =>
  zG (vp_in v15 60) (
  if (gA S0 4 v15.toNatClampNeg) = (1 : Int32) then zB (f_X2_busValue S0 (gA s4_12 2) v15) (fun (r19 : Int32) =>
  zB (f_X4_change s4_12 v15 r19) (fun ((r23, s4_24) : Int32 × SS) =>
  zL (v10 + r23) (fun v28 =>
  zL (v11 + 1) (fun v29 =>
  some (Sum.inl (v28, v29, s4_24))))))
  else zL (v11 + 1) (fun v18 =>
  some (Sum.inl (v10, v18, s4_12))))))
noncomputable def f_X4_changeBuses (S4 : SS) (S0 : SS) : Option (Int32 × SS) :=
  zI (b_X4_changeBuses_4 S0) zF ((0 : Int32), (0 : Int32), S4)

noncomputable def f_X4_lookAt (S4 : SS) (S0 : SS) (p2 : Int32) : Option (SS) :=
  zB (f_X2_gateValue S0 (gA S4 2) p2) (fun (r1 : Int32) =>
  zG (vp_in p2 60) (
  if r1 = (gA S4 3 p2.toNatClampNeg) then some S4
  else zL (sA S4 3 (upd (gA S4 3) p2.toNatClampNeg r1)) (fun s4_8 =>
  zB (f_X4_slotAt p2 ((gI s4_8 0) + (gA S0 6 p2.toNatClampNeg))) (fun (r9 : Int32) =>
  zG (vp_in r9 600) (
  zB (if (gA s4_8 4 r9.toNatClampNeg) = (-1 : Int32) then zL (sI s4_8 1 ((gI s4_8 1) + (1 : Int32))) (fun s4_25 =>
  some s4_25)
  else some s4_8) (fun (s4_20 : SS) =>
  zL (sA s4_20 4 (upd (gA s4_20 4) r9.toNatClampNeg r1)) (fun s4_22 =>
  some s4_22)))))))

noncomputable def b_X4_follow_19 (S0 : SS) : (Int32 × SS) → Option ((Int32 × SS) ⊕ (SS)) := fun (v19, s4_20) =>
  if (gI S0 0) ≤ v19 then some (Sum.inr s4_20)
  else zG (vp_in v19 60) (
  if (gA S0 4 v19.toNatClampNeg) = (2 : Int32) then zB (f_X0_dependsOn S0 v19 (gL s4_20 7)) (fun (r25 : Int32) =>
  if r25 = (0 : Int32) then zL (v19 + 1) (fun v30 =>
  some (Sum.inl (v30, s4_20)))
  else zB (f_X4_lookAt s4_20 S0 v19) (fun (s4_31 : SS) =>
  zL (v19 + 1) (fun v35 =>
  some (Sum.inl (v35, s4_31)))))
  else zL (v19 + 1) (fun v24 =>
  some (Sum.inl (v24, s4_20))))
noncomputable def f_X4_follow (S4 : SS) (S0 : SS) : Option (Int32 × SS) :=
  if (lg_cmp (gL S4 7) (0 : Int64)) = (0 : Int32) then some ((0 : Int32), S4)
  else zB (f_X4_changeBuses S4 S0) (fun ((r2, s4_3) : Int32 × SS) =>
  zB (zI (b_X4_follow_19 S0) zF ((0 : Int32), s4_3)) (fun (s4_16 : SS) =>
  zL (sL s4_16 7 (0 : Int64)) (fun s4_18 =>
  some (r2, s4_18))))

noncomputable def b_X4_arrive_4 (S0 : SS) : (Int32 × Int32 × SS) → Option ((Int32 × Int32 × SS) ⊕ (Int32 × SS)) := fun (v10, v11, s4_12) =>
  if (gI S0 0) ≤ v11 then some (Sum.inr (v10, s4_12))
  else zB (f_X4_slotAt v11 (gI s4_12 0)) (fun (r14 : Int32) =>
  zG (vp_in r14 600) (
  if (gA s4_12 4 r14.toNatClampNeg) = (-1 : Int32) then zL (v11 + 1) (fun v20 =>
  some (Sum.inl (v10, v20, s4_12)))
  else zB (f_X4_change s4_12 v11 (gA s4_12 4 r14.toNatClampNeg)) (fun ((r21, s4_22) : Int32 × SS) =>
  zL (v10 + r21) (fun v26 =>
  zL (sA s4_22 4 (upd (gA s4_22 4) r14.toNatClampNeg (-1 : Int32))) (fun s4_28 =>
  zL (sI s4_28 1 ((gI s4_28 1) - (1 : Int32))) (fun s4_30 =>
  zL (v11 + 1) (fun v31 =>
  some (Sum.inl (v26, v31, s4_30)))))))))
noncomputable def f_X4_arrive (S4 : SS) (S0 : SS) : Option (Int32 × SS) :=
  zI (b_X4_arrive_4 S0) zF ((0 : Int32), (0 : Int32), S4)

noncomputable def b_X4_turn_17 (S0 : SS) (p2 : Int32) : (Int32 × Int32 × SS) → Option ((Int32 × Int32 × SS) ⊕ (Int32 × SS)) := fun (v20, v21, s4_22) =>
  if p2 ≤ v21 then some (Sum.inr (v20, s4_22))
  else if (gI s4_22 1) ≤ (0 : Int32) then some (Sum.inr (v20, s4_22))
  else zL (sI s4_22 0 ((gI s4_22 0) + (1 : Int32))) (fun s4_26 =>
  zB (f_X4_arrive s4_26 S0) (fun ((r27, s4_28) : Int32 × SS) =>
  zL (v20 + r27) (fun v32 =>
  zB (f_X4_follow s4_28 S0) (fun ((r33, s4_34) : Int32 × SS) =>
  zL (v32 + r33) (fun v38 =>
  zL (v21 + 1) (fun v39 =>
  some (Sum.inl (v38, v39, s4_34))))))))
noncomputable def f_X4_turn (S4 : SS) (S0 : SS) (p2 : Int32) : Option (Int32 × SS) :=
  zL ((gI S4 0) + p2) (fun v1 =>
  zB (f_X4_follow S4 S0) (fun ((r2, s4_3) : Int32 × SS) =>
  zB (zI (b_X4_turn_17 S0 p2) zF (r2, (0 : Int32), s4_3)) (fun ((v16, s4_17) : Int32 × SS) =>
  zL (sI s4_17 0 v1) (fun s4_19 =>
  some (v16, s4_19)))))

noncomputable def f_X3_isHead (p1 : Int32) : Option (Int32) :=
  if p1 = (-1 : Int32) then some (1 : Int32)
  else if p1 = (-2 : Int32) then some (1 : Int32)
  else some (0 : Int32)

noncomputable def f_X3_go (S3 : SS) (p1 : Int32) : Option (Int32 × SS) :=
  zL (sI S3 4 p1) (fun s3_2 =>
  some ((1 : Int32), s3_2))

noncomputable def f_X3_beginTelling (S3 : SS) (p1 : Int32) : Option (Int32 × SS) :=
  zL (sI S3 5 p1) (fun s3_2 =>
  zB (f_X3_go s3_2 (1 : Int32)) (fun ((r3, s3_4) : Int32 × SS) =>
  zG (zb r3) (
  some (r3, s3_4))))

noncomputable def f_X3_failAt (S3 : SS) (p1 : Int32) (p2 : Int32) : Option (Int32 × SS) :=
  zL (sI S3 0 p1) (fun s3_2 =>
  zL (sI s3_2 1 p2) (fun s3_4 =>
  some ((0 : Int32), s3_4)))

noncomputable def f_X3_beginParts (S3 : SS) (p1 : Int32) (p2 : Int32) (p3 : Int32) : Option (Int32 × SS) :=
  zL (sI S3 8 p1) (fun s3_2 =>
  zL (sI s3_2 10 p2) (fun s3_4 =>
  zL (sI s3_4 11 p3) (fun s3_6 =>
  zL (sI s3_6 9 (0 : Int32)) (fun s3_8 =>
  zB (f_X3_go s3_8 (6 : Int32)) (fun ((r9, s3_10) : Int32 × SS) =>
  zG (zb r9) (
  some (r9, s3_10)))))))

noncomputable def f_X3_addUse (S3 : SS) (p1 : Int64) (p2 : Int32) (p3 : Int32) : Option (SS) :=
  if (gI S3 15) < (667 : Int32) then zG (vp_in (gI S3 15) 667) (
  zL (sB S3 12 (vp_updL (gB S3 12) (gI S3 15).toNatClampNeg p1)) (fun s3_4 =>
  zG (vp_in (gI s3_4 15) 667) (
  zL (sA s3_4 13 (upd (gA s3_4 13) (gI s3_4 15).toNatClampNeg p2)) (fun s3_7 =>
  zG (vp_in (gI s3_7 15) 667) (
  zL (sA s3_7 14 (upd (gA s3_7 14) (gI s3_7 15).toNatClampNeg p3)) (fun s3_10 =>
  zL (sI s3_10 15 ((gI s3_10 15) + (1 : Int32))) (fun s3_12 =>
  some s3_12)))))))
  else some S3

noncomputable def f_X3_isWord (S3 : SS) (S1 : SS) (p1 : Int64) : Option (Int32) :=
  if (gI S1 3) = (2 : Int32) then if (lg_cmp (gL S1 5) p1) = (0 : Int32) then some (1 : Int32)
  else some (0 : Int32)
  else some (0 : Int32)

noncomputable def b_X3_gateHere_2 (S1 : SS) : (Int32) → Option ((Int32) ⊕ (Int32)) := fun v10 =>
  if (9 : Int32) ≤ v10 then some (Sum.inr (-1 : Int32))
  else if (gI S1 3) = (2 : Int32) then zG (vp_in v10 9) (
  if (lg_cmp (gL S1 5) (sg_f v10.toNatClampNeg)) = (0 : Int32) then some (Sum.inr v10)
  else zL (v10 + 1) (fun v15 =>
  some (Sum.inl v15)))
  else some (Sum.inr (-1 : Int32))
noncomputable def f_X3_gateHere (S3 : SS) (S1 : SS) : Option (Int32) :=
  zI (b_X3_gateHere_2 S1) zF (0 : Int32)

noncomputable def f_X3_isName (S3 : SS) (S1 : SS) : Option (Int32) :=
  if (gI S1 3) = (2 : Int32) then zB (f_X3_gateHere S3 S1) (fun (r2 : Int32) =>
  if r2 = (-1 : Int32) then zL (gL S1 5) (fun v7 =>
  if (lg_cmp v7 (26990 : Int64)) = (0 : Int32) then some (0 : Int32)
  else if (lg_cmp v7 (6452595 : Int64)) = (0 : Int32) then some (0 : Int32)
  else if (lg_cmp v7 (7497063 : Int64)) = (0 : Int32) then some (0 : Int32)
  else if (lg_cmp v7 (6907441 : Int64)) = (0 : Int32) then some (0 : Int32)
  else if (lg_cmp v7 (6907440 : Int64)) = (0 : Int32) then some (0 : Int32)
  else some (1 : Int32))
  else some (0 : Int32))
  else some (0 : Int32)

noncomputable def f_X3_refuse (S3 : SS) (S1 : SS) : Option (Int32 × SS) :=
  zB (if (gI S1 3) = (0 : Int32) then some (1 : Int32)
  else some (2 : Int32)) (fun (v7 : Int32) =>
  zB (f_X3_failAt S3 v7 (gI S1 4)) (fun ((r8, s3_9) : Int32 × SS) =>
  zG (zb r8) (
  some (r8, s3_9))))

noncomputable def f_X3_endLine (S3 : SS) (S1 : SS) : Option (Int32 × SS) :=
  if (gI S1 3) = (59 : Int32) then zB (f_X3_go S3 (0 : Int32)) (fun ((r8, s3_9) : Int32 × SS) =>
  zG (zb r8) (
  some (r8, s3_9)))
  else zB (f_X3_refuse S3 S1) (fun ((r2, s3_3) : Int32 × SS) =>
  zG (zb r2) (
  some (r2, s3_3)))

noncomputable def f_X3_beginLine (S3 : SS) (S1 : SS) : Option (Int32 × SS) :=
  zB (f_X3_isWord S3 S1 (26990 : Int64)) (fun (r1 : Int32) =>
  if r1 = (0 : Int32) then zB (f_X3_isWord S3 S1 (6452595 : Int64)) (fun (r6 : Int32) =>
  if r6 = (0 : Int32) then zB (f_X3_isWord S3 S1 (7497063 : Int64)) (fun (r11 : Int32) =>
  if r11 = (0 : Int32) then zB (f_X3_isName S3 S1) (fun (r16 : Int32) =>
  if r16 = (0 : Int32) then zB (f_X3_refuse S3 S1) (fun ((r31, s3_32) : Int32 × SS) =>
  zG (zb r31) (
  some (r31, s3_32)))
  else zL (sL S3 6 (gL S1 5)) (fun s3_22 =>
  zL (sI s3_22 7 (gI S1 4)) (fun s3_24 =>
  zB (f_X3_go s3_24 (3 : Int32)) (fun ((r25, s3_26) : Int32 × SS) =>
  zG (zb r25) (
  some (r25, s3_26))))))
  else zB (f_X3_beginTelling S3 (3 : Int32)) (fun ((r37, s3_38) : Int32 × SS) =>
  zG (zb r37) (
  some (r37, s3_38))))
  else zB (f_X3_beginTelling S3 (1 : Int32)) (fun ((r43, s3_44) : Int32 × SS) =>
  zG (zb r43) (
  some (r43, s3_44))))
  else zB (f_X3_beginTelling S3 (0 : Int32)) (fun ((r49, s3_50) : Int32 × SS) =>
  zG (zb r49) (
  some (r49, s3_50))))

noncomputable def f_X3_takeDriver (S3 : SS) (S1 : SS) : Option (Int32 × SS) :=
  zB (f_X3_isWord S3 S1 (6907441 : Int64)) (fun (r1 : Int32) =>
  if r1 = (0 : Int32) then zB (f_X3_isWord S3 S1 (6907440 : Int64)) (fun (r28 : Int32) =>
  if r28 = (0 : Int32) then zB (f_X3_refuse S3 S1) (fun ((r55, s3_56) : Int32 × SS) =>
  zG (zb r55) (
  some (r55, s3_56)))
  else zB (f_X3_isWord S3 S1 (6907440 : Int64)) (fun (r33 : Int32) =>
  zB (if r33 = (0 : Int32) then some (-1 : Int32)
  else some (-2 : Int32)) (fun (v43 : Int32) =>
  zB (f_X3_addUse S3 (gL S3 6) (gI S3 7) v43) (fun (s3_44 : SS) =>
  zB (f_X3_beginParts s3_44 (-3 : Int32) (2 : Int32) (2 : Int32)) (fun ((r48, s3_49) : Int32 × SS) =>
  zG (zb r48) (
  some (r48, s3_49)))))))
  else zB (f_X3_isWord S3 S1 (6907440 : Int64)) (fun (r6 : Int32) =>
  zB (if r6 = (0 : Int32) then some (-1 : Int32)
  else some (-2 : Int32)) (fun (v16 : Int32) =>
  zB (f_X3_addUse S3 (gL S3 6) (gI S3 7) v16) (fun (s3_17 : SS) =>
  zB (f_X3_beginParts s3_17 (-3 : Int32) (2 : Int32) (2 : Int32)) (fun ((r21, s3_22) : Int32 × SS) =>
  zG (zb r21) (
  some (r21, s3_22)))))))

noncomputable def f_X3_takePart (S3 : SS) (S1 : SS) : Option (Int32 × SS) :=
  zB (f_X3_isName S3 S1) (fun (r1 : Int32) =>
  if r1 = (0 : Int32) then zB (f_X3_refuse S3 S1) (fun ((r6, s3_7) : Int32 × SS) =>
  zG (zb r6) (
  some (r6, s3_7)))
  else if (gI S3 9) < (gI S3 11) then zB (f_X3_addUse S3 (gL S1 5) (gI S1 4) (gI S3 8)) (fun (s3_13 : SS) =>
  zL (sI s3_13 9 ((gI s3_13 9) + (1 : Int32))) (fun s3_18 =>
  zB (f_X3_go s3_18 (8 : Int32)) (fun ((r19, s3_20) : Int32 × SS) =>
  zG (zb r19) (
  some (r19, s3_20)))))
  else zB (f_X3_refuse S3 S1) (fun ((r25, s3_26) : Int32 × SS) =>
  zG (zb r25) (
  some (r25, s3_26))))

noncomputable def f_X3_behindPart (S3 : SS) (S1 : SS) : Option (Int32 × SS) :=
  if (gI S1 3) = (44 : Int32) then if (gI S3 5) = (2 : Int32) then zB (f_X3_go S3 (7 : Int32)) (fun ((r31, s3_32) : Int32 × SS) =>
  zG (zb r31) (
  some (r31, s3_32)))
  else if (gI S3 11) ≤ (gI S3 9) then if (gI S1 3) = (41 : Int32) then if (gI S3 9) < (gI S3 10) then zB (f_X3_refuse S3 S1) (fun ((r46, s3_47) : Int32 × SS) =>
  zG (zb r46) (
  some (r46, s3_47)))
  else zB (if (gI S3 5) = (2 : Int32) then some (9 : Int32)
  else some (10 : Int32)) (fun (v58 : Int32) =>
  zB (f_X3_go S3 v58) (fun ((r59, s3_60) : Int32 × SS) =>
  zG (zb r59) (
  some (r59, s3_60))))
  else zB (f_X3_refuse S3 S1) (fun ((r39, s3_40) : Int32 × SS) =>
  zG (zb r39) (
  some (r39, s3_40)))
  else zB (f_X3_go S3 (7 : Int32)) (fun ((r66, s3_67) : Int32 × SS) =>
  zG (zb r66) (
  some (r66, s3_67)))
  else if (gI S1 3) = (41 : Int32) then if (gI S3 9) < (gI S3 10) then zB (f_X3_refuse S3 S1) (fun ((r10, s3_11) : Int32 × SS) =>
  zG (zb r10) (
  some (r10, s3_11)))
  else zB (if (gI S3 5) = (2 : Int32) then some (9 : Int32)
  else some (10 : Int32)) (fun (v22 : Int32) =>
  zB (f_X3_go S3 v22) (fun ((r23, s3_24) : Int32 × SS) =>
  zG (zb r23) (
  some (r23, s3_24))))
  else zB (f_X3_refuse S3 S1) (fun ((r3, s3_4) : Int32 × SS) =>
  zG (zb r3) (
  some (r3, s3_4)))

noncomputable def f_X3_tell (S3 : SS) (S0 : SS) (p1 : Int64) (p2 : Int32) (p3 : Int32) : Option (Int32 × SS × SS) :=
  if (gI S0 0) < (60 : Int32) then zB (f_X0_find S0 p1) (fun (r2 : Int32) =>
  if r2 = (-1 : Int32) then zB (f_X0_add S0 p1 p2 p3) (fun (s0_7 : SS) =>
  some ((1 : Int32), S3, s0_7))
  else zB (f_X3_failAt S3 (3 : Int32) p2) (fun ((r11, s3_12) : Int32 × SS) =>
  zG (zb r11) (
  some (r11, s3_12, S0))))
  else zB (f_X3_failAt S3 (2 : Int32) p2) (fun ((r17, s3_18) : Int32 × SS) =>
  zG (zb r17) (
  some (r17, s3_18, S0)))

noncomputable def b_X3_checkDrivers_4 (S3 : SS) : (Int32 × Int32) → Option ((Int32 × Int32) ⊕ (Int32)) := fun (v18, v19) =>
  if (gI S3 15) ≤ v19 then some (Sum.inr v18)
  else zG (vp_in v19 667) (
  zB (f_X3_isHead (gA S3 14 v19.toNatClampNeg)) (fun (r22 : Int32) =>
  if r22 = (0 : Int32) then zL (v19 + 1) (fun v27 =>
  some (Sum.inl (v18, v27)))
  else if (lg_cmp (gB S3 12 v19.toNatClampNeg) (gL S3 6)) = (0 : Int32) then zL (v18 + 1) (fun v30 =>
  zL (v19 + 1) (fun v31 =>
  some (Sum.inl (v30, v31))))
  else zL (v19 + 1) (fun v29 =>
  some (Sum.inl (v18, v29)))))
noncomputable def f_X3_checkDrivers (S3 : SS) : Option (Int32 × SS) :=
  zB (zI (b_X3_checkDrivers_4 S3) zF ((0 : Int32), (0 : Int32))) (fun (v10 : Int32) =>
  if v10 < (6 : Int32) then some ((1 : Int32), S3)
  else zB (f_X3_failAt S3 (2 : Int32) (gI S3 7)) (fun ((r12, s3_13) : Int32 × SS) =>
  if r12 = (0 : Int32) then some ((0 : Int32), s3_13)
  else some ((1 : Int32), s3_13)))

noncomputable def f_X3_tellHere (S3 : SS) (S1 : SS) (S0 : SS) : Option (Int32 × SS × SS) :=
  zB (f_X3_isName S3 S1) (fun (r1 : Int32) =>
  if r1 = (0 : Int32) then zB (f_X3_refuse S3 S1) (fun ((r26, s3_27) : Int32 × SS) =>
  zG (zb r26) (
  some (r26, s3_27, S0)))
  else zB (f_X3_tell S3 S0 (gL S1 5) (gI S1 4) (gI S3 5)) (fun ((r6, s3_7, s0_8) : Int32 × SS × SS) =>
  if r6 = (0 : Int32) then some ((0 : Int32), s3_7, s0_8)
  else if (gI s3_7 5) = (3 : Int32) then zB (f_X3_beginParts s3_7 ((gI s0_8 0) - (1 : Int32)) (1 : Int32) (2 : Int32)) (fun ((r20, s3_21) : Int32 × SS) =>
  zG (zb r20) (
  some (r20, s3_21, s0_8)))
  else zB (f_X3_go s3_7 (2 : Int32)) (fun ((r14, s3_15) : Int32 × SS) =>
  zG (zb r14) (
  some (r14, s3_15, s0_8)))))

noncomputable def f_X3_tellOrDrive (S3 : SS) (S1 : SS) (S0 : SS) : Option (Int32 × SS × SS) :=
  if (gI S1 3) = (61 : Int32) then zL (sI S3 5 (2 : Int32)) (fun s3_24 =>
  zB (f_X3_tell s3_24 S0 (gL s3_24 6) (gI s3_24 7) (2 : Int32)) (fun ((r25, s3_26, s0_27) : Int32 × SS × SS) =>
  if r25 = (0 : Int32) then some ((0 : Int32), s3_26, s0_27)
  else zB (f_X3_go s3_26 (4 : Int32)) (fun ((r32, s3_33) : Int32 × SS) =>
  if r32 = (0 : Int32) then some ((0 : Int32), s3_33, s0_27)
  else some ((1 : Int32), s3_33, s0_27))))
  else if (gI S1 3) = (60 : Int32) then zL (sI S3 5 (4 : Int32)) (fun s3_10 =>
  zB (f_X3_checkDrivers s3_10) (fun ((r11, s3_12) : Int32 × SS) =>
  if r11 = (0 : Int32) then some ((0 : Int32), s3_12, S0)
  else zB (f_X3_go s3_12 (5 : Int32)) (fun ((r17, s3_18) : Int32 × SS) =>
  if r17 = (0 : Int32) then some ((0 : Int32), s3_18, S0)
  else some ((1 : Int32), s3_18, S0))))
  else zB (f_X3_refuse S3 S1) (fun ((r3, s3_4) : Int32 × SS) =>
  zG (zb r3) (
  some (r3, s3_4, S0)))

noncomputable def f_X3_takeGate (S3 : SS) (S1 : SS) (S0 : SS) : Option (Int32 × SS × SS) :=
  zL ((gI S0 0) - (1 : Int32)) (fun v1 =>
  zB (f_X3_gateHere S3 S1) (fun (r2 : Int32) =>
  if r2 = (-1 : Int32) then zB (f_X3_refuse S3 S1) (fun ((r7, s3_8) : Int32 × SS) =>
  zG (zb r7) (
  some (r7, s3_8, S0)))
  else zB (f_X0_has S0 v1) (fun (r13 : Int32) =>
  if r13 = (0 : Int32) then zB (f_X3_refuse S3 S1) (fun ((r28, s3_29) : Int32 × SS) =>
  zG (zb r28) (
  some (r28, s3_29, S0)))
  else zG (vp_in v1 60) (
  zL (sA S0 5 (upd (gA S0 5) v1.toNatClampNeg r2)) (fun s0_20 =>
  zG (vp_in r2 9) (
  zB (f_X3_beginParts S3 v1 (sl_f r2.toNatClampNeg) (sm_f r2.toNatClampNeg)) (fun ((r22, s3_23) : Int32 × SS) =>
  zG (zb r22) (
  some (r22, s3_23, s0_20)))))))))

noncomputable def f_X3_takeDelay (S3 : SS) (S1 : SS) (S0 : SS) : Option (Int32 × SS × SS) :=
  zB (f_X0_has S0 (gI S3 8)) (fun (r1 : Int32) =>
  zB (if r1 = (0 : Int32) then some S0
  else zG (vp_in (gI S3 8) 60) (
  zL (sA S0 6 (upd (gA S0 6) (gI S3 8).toNatClampNeg (gI S1 6))) (fun s0_21 =>
  some s0_21))) (fun (s0_11 : SS) =>
  zB (f_X3_go S3 (10 : Int32)) (fun ((r12, s3_13) : Int32 × SS) =>
  zG (zb r12) (
  some (r12, s3_13, s0_11)))))

noncomputable def f_X3_step (S3 : SS) (S1 : SS) (S0 : SS) : Option (Int32 × SS × SS) :=
  zL (gI S3 4) (fun v1 =>
  if v1 = (0 : Int32) then zB (f_X3_beginLine S3 S1) (fun ((r3, s3_4) : Int32 × SS) =>
  zG (zb r3) (
  some (r3, s3_4, S0)))
  else if v1 = (1 : Int32) then zB (f_X3_tellHere S3 S1 S0) (fun ((r10, s3_11, s0_12) : Int32 × SS × SS) =>
  zG (zb r10) (
  some (r10, s3_11, s0_12)))
  else if v1 = (2 : Int32) then if (gI S1 3) = (44 : Int32) then zB (f_X3_go S3 (1 : Int32)) (fun ((r25, s3_26) : Int32 × SS) =>
  zG (zb r25) (
  some (r25, s3_26, S0)))
  else zB (f_X3_endLine S3 S1) (fun ((r19, s3_20) : Int32 × SS) =>
  zG (zb r19) (
  some (r19, s3_20, S0)))
  else if v1 = (3 : Int32) then zB (f_X3_tellOrDrive S3 S1 S0) (fun ((r32, s3_33, s0_34) : Int32 × SS × SS) =>
  zG (zb r32) (
  some (r32, s3_33, s0_34)))
  else if v1 = (4 : Int32) then zB (f_X3_takeGate S3 S1 S0) (fun ((r40, s3_41, s0_42) : Int32 × SS × SS) =>
  zG (zb r40) (
  some (r40, s3_41, s0_42)))
  else if v1 = (5 : Int32) then zB (f_X3_takeDriver S3 S1) (fun ((r48, s3_49) : Int32 × SS) =>
  zG (zb r48) (
  some (r48, s3_49, S0)))
  else if v1 = (6 : Int32) then if (gI S1 3) = (40 : Int32) then zB (f_X3_go S3 (7 : Int32)) (fun ((r62, s3_63) : Int32 × SS) =>
  zG (zb r62) (
  some (r62, s3_63, S0)))
  else zB (f_X3_refuse S3 S1) (fun ((r56, s3_57) : Int32 × SS) =>
  zG (zb r56) (
  some (r56, s3_57, S0)))
  else if v1 = (7 : Int32) then zB (f_X3_takePart S3 S1) (fun ((r69, s3_70) : Int32 × SS) =>
  zG (zb r69) (
  some (r69, s3_70, S0)))
  else if v1 = (8 : Int32) then zB (f_X3_behindPart S3 S1) (fun ((r76, s3_77) : Int32 × SS) =>
  zG (zb r76) (
  some (r76, s3_77, S0)))
  else if v1 = (9 : Int32) then if (gI S1 3) = (3 : Int32) then zB (f_X3_takeDelay S3 S1 S0) (fun ((r90, s3_91, s0_92) : Int32 × SS × SS) =>
  zG (zb r90) (
  some (r90, s3_91, s0_92)))
  else zB (f_X3_endLine S3 S1) (fun ((r84, s3_85) : Int32 × SS) =>
  zG (zb r84) (
  some (r84, s3_85, S0)))
  else zB (f_X3_endLine S3 S1) (fun ((r97, s3_98) : Int32 × SS) =>
  zG (zb r97) (
  some (r97, s3_98, S0))))

noncomputable def b_X3_linkUses_4 (S3 : SS) : (Int32 × Int32 × SS) → Option ((Int32 × Int32 × SS) ⊕ (Int32 × SS × SS)) := fun (v10, v11, s0_12) =>
  if (gI S3 15) ≤ v11 then some (Sum.inr ((1 : Int32), S3, s0_12))
  else zG (vp_in v11 667) (
  zB (f_X0_find s0_12 (gB S3 12 v11.toNatClampNeg)) (fun (r15 : Int32) =>
  zB (f_X3_isHead (gA S3 14 v11.toNatClampNeg)) (fun (r19 : Int32) =>
  if r15 = (-1 : Int32) then zB (f_X3_failAt S3 (4 : Int32) (gA S3 13 v11.toNatClampNeg)) (fun ((r24, s3_25) : Int32 × SS) =>
  zG (zb r24) (
  some (Sum.inr (r24, s3_25, s0_12))))
  else if r19 = (0 : Int32) then if r19 = (0 : Int32) then zB (if (gA S3 14 v11.toNatClampNeg) = (-3 : Int32) then some v10
  else some (gA S3 14 v11.toNatClampNeg)) (fun (v38 : Int32) =>
  zB (f_X0_addPart s0_12 v38 r15) (fun (s0_39 : SS) =>
  zL (v11 + 1) (fun v43 =>
  some (Sum.inl (v10, v43, s0_39)))))
  else zB (if (gA S3 14 v11.toNatClampNeg) = (-2 : Int32) then some (1 : Int32)
  else some (0 : Int32)) (fun (v51 : Int32) =>
  zB (f_X0_beginDriver s0_12 r15 v51) (fun (s0_52 : SS) =>
  zL (v11 + 1) (fun v56 =>
  some (Sum.inl (r15, v56, s0_52)))))
  else zB (f_X0_isKind s0_12 r15 (1 : Int32)) (fun (r58 : Int32) =>
  if r58 = (0 : Int32) then zB (f_X3_failAt S3 (4 : Int32) (gA S3 13 v11.toNatClampNeg)) (fun ((r90, s3_91) : Int32 × SS) =>
  zG (zb r90) (
  some (Sum.inr (r90, s3_91, s0_12))))
  else if r19 = (0 : Int32) then zB (if (gA S3 14 v11.toNatClampNeg) = (-3 : Int32) then some v10
  else some (gA S3 14 v11.toNatClampNeg)) (fun (v70 : Int32) =>
  zB (f_X0_addPart s0_12 v70 r15) (fun (s0_71 : SS) =>
  zL (v11 + 1) (fun v75 =>
  some (Sum.inl (v10, v75, s0_71)))))
  else zB (if (gA S3 14 v11.toNatClampNeg) = (-2 : Int32) then some (1 : Int32)
  else some (0 : Int32)) (fun (v83 : Int32) =>
  zB (f_X0_beginDriver s0_12 r15 v83) (fun (s0_84 : SS) =>
  zL (v11 + 1) (fun v88 =>
  some (Sum.inl (r15, v88, s0_84)))))))))
noncomputable def f_X3_linkUses (S3 : SS) (S0 : SS) : Option (Int32 × SS × SS) :=
  zI (b_X3_linkUses_4 S3) zF ((-1 : Int32), (0 : Int32), S0)

noncomputable def b_X3_checkLoops_84 (S0 : SS) (v1 : Int32) (s3_13 : SS) : (Int32) → Option ((Int32) ⊕ (Int32 × SS)) := fun v23 =>
  if v1 ≤ v23 then some (Sum.inr ((1 : Int32), s3_13))
  else zG (vp_in v23 60) (
  if (lg_cmp ((jLu (gB s3_13 16 v23.toNatClampNeg) v23) &&& (1 : Int64)) (1 : Int64)) = (0 : Int32) then zB (f_X3_failAt s3_13 (5 : Int32) (gA S0 3 v23.toNatClampNeg)) (fun ((r28, s3_29) : Int32 × SS) =>
  zG (zb r28) (
  some (Sum.inr (r28, s3_29))))
  else zL (v23 + 1) (fun v27 =>
  some (Sum.inl v27)))
noncomputable def b_X3_checkLoops_35 (v1 : Int32) (v34 : Int32) : (Int32 × SS) → Option ((Int32 × SS) ⊕ (SS)) := fun (v48, s3_49) =>
  if v1 ≤ v48 then some (Sum.inr s3_49)
  else zG (vp_in v48 60) (
  if (lg_cmp ((jLu (gB s3_49 16 v48.toNatClampNeg) v34) &&& (1 : Int64)) (1 : Int64)) = (0 : Int32) then zG (vp_in v34 60) (
  zL (sB s3_49 16 (vp_updL (gB s3_49 16) v48.toNatClampNeg ((gB s3_49 16 v48.toNatClampNeg) ||| (gB s3_49 16 v34.toNatClampNeg)))) (fun s3_56 =>
  zL (v48 + 1) (fun v57 =>
  some (Sum.inl (v57, s3_56)))))
  else zL (v48 + 1) (fun v53 =>
  some (Sum.inl (v53, s3_49))))
noncomputable def b_X3_checkLoops_28 (v1 : Int32) : (Int32 × SS) → Option ((Int32 × SS) ⊕ (SS)) := fun (v34, s3_35) =>
  if v1 ≤ v34 then some (Sum.inr s3_35)
  else zB (zI (b_X3_checkLoops_35 v1 v34) zF ((0 : Int32), s3_35)) (fun (s3_46 : SS) =>
  zL (v34 + 1) (fun v47 =>
  some (Sum.inl (v47, s3_46))))
noncomputable def f_X3_checkLoops (S3 : SS) (S0 : SS) : Option (Int32 × SS) :=
  zL (gI S0 0) (fun v1 =>
  zL (sB S3 16 (va_cpy (gB S0 10) (gB S3 16) (0 : Int32).toNatClampNeg (0 : Int32).toNatClampNeg (60 : Int32).toNatClampNeg)) (fun s3_3 =>
  zB (zI (b_X3_checkLoops_28 v1) zF ((0 : Int32), s3_3)) (fun (s3_13 : SS) =>
  zI (b_X3_checkLoops_84 S0 v1 s3_13) zF (0 : Int32))))

noncomputable def b_X3_takeTokens_14 (ft : Nat → Int32) : (Int32 × SS × SS × SS) → Option ((Int32 × SS × SS × SS) ⊕ ((Int32 × SS × SS × SS) ⊕ (SS × SS × SS))) := fun (v26, s3_27, s1_28, s0_29) =>
  if (2000 : Int32) ≤ v26 then some (Sum.inr (Sum.inr (s3_27, s1_28, s0_29)))
  else if (gI s1_28 3) = (1 : Int32) then some (Sum.inr (Sum.inr (s3_27, s1_28, s0_29)))
  else zB (f_X3_step s3_27 s1_28 s0_29) (fun ((r32, s3_33, s0_34) : Int32 × SS × SS) =>
  if r32 = (0 : Int32) then some (Sum.inr (Sum.inl ((0 : Int32), s3_33, s1_28, s0_34)))
  else zB (f_X1_advance s1_28 ft) (fun (s1_39 : SS) =>
  zL (v26 + 1) (fun v43 =>
  some (Sum.inl (v43, s3_33, s1_39, s0_34)))))
noncomputable def f_X3_takeTokens (S3 : SS) (S1 : SS) (ft : Nat → Int32) (S0 : SS) : Option (Int32 × SS × SS × SS) :=
  zL (sI S3 4 (0 : Int32)) (fun s3_2 =>
  zB (f_X1_advance S1 ft) (fun (s1_3 : SS) =>
  zS (zI (b_X3_takeTokens_14 ft) zF ((0 : Int32), s3_2, s1_3, S0)) (fun ((s3_16, s1_17, s0_18) : SS × SS × SS) =>
  if (gI s3_16 4) = (0 : Int32) then some ((1 : Int32), s3_16, s1_17, s0_18)
  else zB (f_X3_refuse s3_16 s1_17) (fun ((r20, s3_21) : Int32 × SS) =>
  if r20 = (0 : Int32) then some ((0 : Int32), s3_21, s1_17, s0_18)
  else some ((1 : Int32), s3_21, s1_17, s0_18)))))

noncomputable def f_X3_readInto (S3 : SS) (S1 : SS) (ft : Nat → Int32) (S0 : SS) (p3 : Int32) : Option (Int32 × SS × SS × SS) :=
  zB (f_X0_clear S0) (fun (s0_2 : SS) =>
  zL (sI S3 0 (0 : Int32)) (fun s3_7 =>
  zL (sI s3_7 1 (-1 : Int32)) (fun s3_9 =>
  zL (sI s3_9 15 (0 : Int32)) (fun s3_11 =>
  zB (f_X1_begin S1 ft p3) (fun (s1_12 : SS) =>
  zB (f_X3_takeTokens s3_11 s1_12 ft s0_2) (fun ((r16, s3_17, s1_18, s0_19) : Int32 × SS × SS × SS) =>
  if r16 = (0 : Int32) then some ((0 : Int32), s3_17, s1_18, s0_19)
  else zB (f_X3_linkUses s3_17 s0_19) (fun ((r24, s3_25, s0_26) : Int32 × SS × SS) =>
  if r24 = (0 : Int32) then some ((0 : Int32), s3_25, s1_18, s0_26)
  else zB (f_X3_checkLoops s3_25 s0_26) (fun ((r31, s3_32) : Int32 × SS) =>
  if r31 = (0 : Int32) then some ((0 : Int32), s3_32, s1_18, s0_26)
  else zB (f_X0_arrange s0_26) (fun (s0_37 : SS) =>
  some ((1 : Int32), s3_32, s1_18, s0_37))))))))))

noncomputable def b_X6_addToTape_3 (p1 : Int32) : (Int32 × SS) → Option ((Int32 × SS) ⊕ (SS)) := fun (v10, s6_11) =>
  if v10 < (0 : Int32) then some (Sum.inr s6_11)
  else if (2000 : Int32) ≤ (gI s6_11 1) then some (Sum.inr s6_11)
  else zG (vp_in (gI s6_11 1) 2000) (
  zL (sA s6_11 0 (upd (gA s6_11 0) (gI s6_11 1).toNatClampNeg (vp_nar .byte (jB (jIu p1 v10))))) (fun s6_16 =>
  zL (sI s6_16 1 ((gI s6_16 1) + (1 : Int32))) (fun s6_18 =>
  zL (v10 + Int32.ofInt (-8)) (fun v19 =>
  some (Sum.inl (v19, s6_18))))))
noncomputable def f_X6_addToTape (S6 : SS) (p1 : Int32) : Option (SS) :=
  zI (b_X6_addToTape_3 p1) zF ((24 : Int32), S6)

noncomputable def f_X6_feed (S6 : SS) (p1 : Int32) (p2 : Int32) (p3 : Int32) (p4 : Int32) (p5 : Int32) : Option (Int32 × SS) :=
  if ((gI S6 1) + (20 : Int32)) ≤ (2000 : Int32) then zB (f_X6_addToTape S6 p1) (fun (s6_2 : SS) =>
  zB (f_X6_addToTape s6_2 p2) (fun (s6_6 : SS) =>
  zB (f_X6_addToTape s6_6 p3) (fun (s6_10 : SS) =>
  zB (f_X6_addToTape s6_10 p4) (fun (s6_14 : SS) =>
  zB (f_X6_addToTape s6_14 p5) (fun (s6_18 : SS) =>
  some ((gI s6_18 1), s6_18))))))
  else some ((-1 : Int32), S6)

noncomputable def f_X6_end (S6 : SS) (p1 : Int32) : Option (Int32 × SS) :=
  if p1 < (0 : Int32) then some ((-1 : Int32), S6)
  else if p1 ≤ (gI S6 1) then zL (sI S6 1 p1) (fun s6_4 =>
  some (p1, s6_4))
  else some ((-1 : Int32), S6)

noncomputable def f_X6_fault (S6 : SS) (S3 : SS) (p1 : Int32) : Option (Int32) :=
  if p1 = (0 : Int32) then some (gI S3 0)
  else if p1 = (1 : Int32) then some (gI S3 1)
  else some (-1 : Int32)

noncomputable def f_X6_settleValues (S6 : SS) (S0 : SS) : Option (SS) :=
  zB (f_X2_settle S0 (gA S6 5)) (fun (sa_1 : (Nat → Int32)) =>
  zL (sA S6 5 sa_1) (fun s6_5 =>
  zL (sI s6_5 9 (0 : Int32)) (fun s6_7 =>
  some s6_7)))

noncomputable def b_X6_named_6 (p1 : Int64) : (Int64 × Int32) → Option ((Int64 × Int32) ⊕ (Int64)) := fun (v15, v16) =>
  if v16 < (0 : Int32) then some (Sum.inr v15)
  else zL ((jLu p1 v16) &&& (255 : Int64)) (fun v18 =>
  if (lg_cmp v18 (0 : Int64)) = (0 : Int32) then zL (v16 + Int32.ofInt (-8)) (fun v20 =>
  some (Sum.inl (v15, v20)))
  else zL ((jLs v15 (8 : Int32)) ||| v18) (fun v21 =>
  zL (v16 + Int32.ofInt (-8)) (fun v22 =>
  some (Sum.inl (v21, v22)))))
noncomputable def f_X6_named (S6 : SS) (S0 : SS) (p1 : Int64) : Option (Int32) :=
  zB (zI (b_X6_named_6 p1) zF ((0 : Int64), (56 : Int32))) (fun (v10 : Int64) =>
  zB (f_X0_find S0 v10) (fun (r11 : Int32) =>
  some r11))

noncomputable def f_X6_node (S6 : SS) (S0 : SS) (p1 : Int32) (p2 : Int32) : Option (Int32) :=
  zB (f_X0_has S0 p1) (fun (r1 : Int32) =>
  if r1 = (0 : Int32) then some (-1 : Int32)
  else if p2 = (0 : Int32) then zG (vp_in p1 60) (
  some (gA S0 4 p1.toNatClampNeg))
  else if p2 = (1 : Int32) then zB (f_X0_size S0 p1) (fun (r9 : Int32) =>
  some r9)
  else if p2 = (2 : Int32) then zG (vp_in p1 60) (
  some (gA S0 6 p1.toNatClampNeg))
  else if p2 = (3 : Int32) then zG (vp_in p1 60) (
  some (gA S0 11 p1.toNatClampNeg))
  else some (-1 : Int32))

noncomputable def f_X6_set (S6 : SS) (S0 : SS) (p1 : Int32) (p2 : Int32) : Option (Int32 × SS) :=
  zB (f_X0_isKind S0 p1 (0 : Int32)) (fun (r1 : Int32) =>
  if r1 = (0 : Int32) then some ((0 : Int32), S6)
  else if p2 < (0 : Int32) then some ((0 : Int32), S6)
  else if p2 ≤ (3 : Int32) then zG (vp_in p1 60) (
  zL (sA S6 5 (upd (gA S6 5) p1.toNatClampNeg p2)) (fun s6_10 =>
  zB (f_X6_settleValues s6_10 S0) (fun (s6_11 : SS) =>
  some ((1 : Int32), s6_11))))
  else some ((0 : Int32), S6))

noncomputable def f_X6_load (S6 : SS) (S0 : SS) (p1 : Int32) (p2 : Int32) : Option (Int32 × SS) :=
  zB (f_X0_isKind S0 p1 (3 : Int32)) (fun (r1 : Int32) =>
  if r1 = (0 : Int32) then some ((0 : Int32), S6)
  else if p2 < (0 : Int32) then some ((0 : Int32), S6)
  else if p2 ≤ (2 : Int32) then zG (vp_in p1 60) (
  zL (sA S6 5 (upd (gA S6 5) p1.toNatClampNeg p2)) (fun s6_10 =>
  zB (f_X6_settleValues s6_10 S0) (fun (s6_11 : SS) =>
  some ((1 : Int32), s6_11))))
  else some ((0 : Int32), S6))

noncomputable def f_X6_value (S6 : SS) (S0 : SS) (p1 : Int32) : Option (Int32) :=
  zB (f_X0_has S0 p1) (fun (r1 : Int32) =>
  if r1 = (0 : Int32) then some (-1 : Int32)
  else zG (vp_in p1 60) (
  some (gA S6 5 p1.toNatClampNeg)))

noncomputable def b_X6_tick_63 (S0 : SS) : (Int32 × Int32 × SS) → Option ((Int32 × Int32 × SS) ⊕ (Int32 × SS)) := fun (v26, v27, s6_28) =>
  if (gI S0 0) ≤ v27 then some (Sum.inr (v26, s6_28))
  else zG (vp_in v27 60) (
  if (gA s6_28 6 v27.toNatClampNeg) = (gA s6_28 5 v27.toNatClampNeg) then zL (v27 + 1) (fun v32 =>
  some (Sum.inl (v26, v32, s6_28)))
  else zL (v26 + 1) (fun v33 =>
  zL (sA s6_28 5 (upd (gA s6_28 5) v27.toNatClampNeg (gA s6_28 6 v27.toNatClampNeg))) (fun s6_35 =>
  zL (v27 + 1) (fun v36 =>
  some (Sum.inl (v33, v36, s6_35))))))
noncomputable def b_X6_tick_2 (S0 : SS) : (Int32 × SS) → Option ((Int32 × SS) ⊕ (SS)) := fun (v37, s6_38) =>
  if (gI S0 0) ≤ v37 then some (Sum.inr s6_38)
  else zG (vp_in v37 60) (
  zB (if (gA S0 4 v37.toNatClampNeg) = (3 : Int32) then zB (f_X2_afterTick S0 (gA s6_38 5) v37) (fun (r52 : Int32) =>
  some r52)
  else some (gA s6_38 5 v37.toNatClampNeg)) (fun (v47 : Int32) =>
  zL (sA s6_38 6 (upd (gA s6_38 6) v37.toNatClampNeg v47)) (fun s6_49 =>
  zL (v37 + 1) (fun v50 =>
  some (Sum.inl (v50, s6_49))))))
noncomputable def f_X6_tick (S6 : SS) (S0 : SS) : Option (Int32 × SS) :=
  zB (zI (b_X6_tick_2 S0) zF ((0 : Int32), S6)) (fun (s6_10 : SS) =>
  zB (zI (b_X6_tick_63 S0) zF ((0 : Int32), (0 : Int32), s6_10)) (fun ((v20, s6_21) : Int32 × SS) =>
  zB (f_X6_settleValues s6_21 S0) (fun (s6_22 : SS) =>
  some (v20, s6_22))))

noncomputable def b_X6_countFree_4 (S6 : SS) (S0 : SS) : (Int32 × Int32) → Option ((Int32 × Int32) ⊕ (Int32)) := fun (v10, v11) =>
  if (gI S0 0) ≤ v11 then some (Sum.inr v10)
  else zB (f_X0_isSource S0 v11) (fun (r13 : Int32) =>
  if r13 = (0 : Int32) then zL (v11 + 1) (fun v18 =>
  some (Sum.inl (v10, v18)))
  else zG (vp_in v11 60) (
  if (gA S6 5 v11.toNatClampNeg) < (2 : Int32) then zL (v11 + 1) (fun v21 =>
  some (Sum.inl (v10, v21)))
  else zL (v10 + 1) (fun v22 =>
  zL (v11 + 1) (fun v23 =>
  some (Sum.inl (v22, v23))))))
noncomputable def f_X6_countFree (S6 : SS) (S0 : SS) : Option (Int32) :=
  zI (b_X6_countFree_4 S6 S0) zF ((0 : Int32), (0 : Int32))

noncomputable def f_X6_worlds (S6 : SS) (S0 : SS) : Option (Int32) :=
  zB (f_X6_countFree S6 S0) (fun (r1 : Int32) =>
  if r1 ≤ (12 : Int32) then some ((1 : Int32) <<< (r1 &&& 31))
  else some (-2 : Int32))

noncomputable def f_X6_settleWith6 (S6 : SS) (S0 : SS) (p2 : Int32) (p3 : Int32) : Option (SS) :=
  zL (sA S6 6 (va_cpy (gA S6 5) (gA S6 6) (0 : Int32).toNatClampNeg (0 : Int32).toNatClampNeg (60 : Int32).toNatClampNeg)) (fun s6_2 =>
  zG (vp_in p2 60) (
  zL (sA s6_2 6 (upd (gA s6_2 6) p2.toNatClampNeg p3)) (fun s6_5 =>
  zB (f_X2_settle S0 (gA s6_5 6)) (fun (sa_6 : (Nat → Int32)) =>
  zL (sA s6_5 6 sa_6) (fun s6_10 =>
  some s6_10)))))

noncomputable def f_X6_settleWith7 (S6 : SS) (S0 : SS) (p2 : Int32) (p3 : Int32) : Option (SS) :=
  zL (sA S6 7 (va_cpy (gA S6 5) (gA S6 7) (0 : Int32).toNatClampNeg (0 : Int32).toNatClampNeg (60 : Int32).toNatClampNeg)) (fun s6_2 =>
  zG (vp_in p2 60) (
  zL (sA s6_2 7 (upd (gA s6_2 7) p2.toNatClampNeg p3)) (fun s6_5 =>
  zB (f_X2_settle S0 (gA s6_5 7)) (fun (sa_6 : (Nat → Int32)) =>
  zL (sA s6_5 7 sa_6) (fun s6_10 =>
  some s6_10)))))

noncomputable def b_X6_flicker_60 (S0 : SS) (s6_13 : SS) : (Int32 × Int32) → Option ((Int32 × Int32) ⊕ (Int32 × SS)) := fun (v26, v27) =>
  if (gI S0 0) ≤ v27 then some (Sum.inr ((-1 : Int32), s6_13))
  else zG (vp_in v27 60) (
  if (2 : Int32) ≤ (gA s6_13 5 v27.toNatClampNeg) then zL (v27 + 1) (fun v31 =>
  some (Sum.inl (v26, v31)))
  else if (gA s6_13 6 v27.toNatClampNeg) = (gA s6_13 5 v27.toNatClampNeg) then if (gA s6_13 7 v27.toNatClampNeg) = (2 : Int32) then if v26 = (0 : Int32) then some (Sum.inr (v27, s6_13))
  else zL (v26 + Int32.ofInt (-1)) (fun v37 =>
  zL (v27 + 1) (fun v38 =>
  some (Sum.inl (v37, v38))))
  else zL (v27 + 1) (fun v35 =>
  some (Sum.inl (v26, v35)))
  else zL (v27 + 1) (fun v33 =>
  some (Sum.inl (v26, v33))))
noncomputable def f_X6_flicker (S6 : SS) (S0 : SS) (p1 : Int32) (p2 : Int32) : Option (Int32 × SS) :=
  zB (f_X0_isKind S0 p1 (0 : Int32)) (fun (r1 : Int32) =>
  if r1 = (0 : Int32) then some ((-1 : Int32), S6)
  else zG (vp_in p1 60) (
  if (2 : Int32) ≤ (gA S6 5 p1.toNatClampNeg) then some ((-1 : Int32), S6)
  else if (0 : Int32) ≤ p2 then zB (f_X6_settleWith6 S6 S0 p1 ((1 : Int32) - (gA S6 5 p1.toNatClampNeg))) (fun (s6_9 : SS) =>
  zB (f_X6_settleWith7 s6_9 S0 p1 (2 : Int32)) (fun (s6_13 : SS) =>
  zI (b_X6_flicker_60 S0 s6_13) zF (p2, (0 : Int32))))
  else some ((-1 : Int32), S6)))

noncomputable def f_X6_goThroughWorlds (S6 : SS) (S0 : SS) (S5 : SS) : Option (Int32 × SS × SS) :=
  zB (f_X6_countFree S6 S0) (fun (r1 : Int32) =>
  if r1 ≤ (12 : Int32) then if (gI S6 9) = (0 : Int32) then zB (f_X5_goThrough S5 S0 (gA S6 5) r1) (fun (s5_7 : SS) =>
  zL (sI S6 9 (1 : Int32)) (fun s6_12 =>
  some ((1 : Int32), s6_12, s5_7)))
  else some ((1 : Int32), S6, S5)
  else some ((0 : Int32), S6, S5))

noncomputable def f_X6_legal (S6 : SS) (S0 : SS) (S5 : SS) : Option (Int32 × SS × SS) :=
  zB (f_X6_goThroughWorlds S6 S0 S5) (fun ((r1, s6_2, s5_3) : Int32 × SS × SS) =>
  if r1 = (0 : Int32) then some ((-2 : Int32), s6_2, s5_3)
  else some ((gI s5_3 0), s6_2, s5_3))

noncomputable def f_X6_sharp (S6 : SS) (S0 : SS) (S5 : SS) (p1 : Int32) : Option (Int32 × SS × SS) :=
  zB (f_X6_goThroughWorlds S6 S0 S5) (fun ((r1, s6_2, s5_3) : Int32 × SS × SS) =>
  if r1 = (0 : Int32) then some ((-2 : Int32), s6_2, s5_3)
  else zB (f_X0_has S0 p1) (fun (r8 : Int32) =>
  if r8 = (0 : Int32) then some ((-1 : Int32), s6_2, s5_3)
  else zB (f_X5_sharpValue s5_3 p1) (fun (r13 : Int32) =>
  some (r13, s6_2, s5_3))))

noncomputable def b_X6_gainsaid_12 (S0 : SS) (s6_2 : SS) (s5_3 : SS) : (Int32) → Option ((Int32) ⊕ (Int32 × SS × SS)) := fun v17 =>
  if (gI S0 0) ≤ v17 then some (Sum.inr ((-1 : Int32), s6_2, s5_3))
  else zG (vp_in v17 60) (
  if (2 : Int32) ≤ (gA s6_2 5 v17.toNatClampNeg) then zL (v17 + 1) (fun v21 =>
  some (Sum.inl v21))
  else zB (f_X5_isEver s5_3 v17 ((1 : Int32) - (gA s6_2 5 v17.toNatClampNeg))) (fun (r22 : Int32) =>
  if r22 = (0 : Int32) then zL (v17 + 1) (fun v27 =>
  some (Sum.inl v27))
  else some (Sum.inr (v17, s6_2, s5_3))))
noncomputable def f_X6_gainsaid (S6 : SS) (S0 : SS) (S5 : SS) : Option (Int32 × SS × SS) :=
  zB (f_X6_goThroughWorlds S6 S0 S5) (fun ((r1, s6_2, s5_3) : Int32 × SS × SS) =>
  if r1 = (0 : Int32) then some ((-2 : Int32), s6_2, s5_3)
  else zI (b_X6_gainsaid_12 S0 s6_2 s5_3) zF (0 : Int32))

noncomputable def f_X6_wheel (S6 : SS) (S0 : SS) (S4 : SS) : Option (Int32 × SS × SS) :=
  zB (f_X4_begin S4 S0 (gA S6 5)) (fun (s4_1 : SS) =>
  zL (sI S6 11 (1 : Int32)) (fun s6_6 =>
  some ((1 : Int32), s6_6, s4_1)))

noncomputable def f_X6_put (S6 : SS) (S0 : SS) (S4 : SS) (p1 : Int32) (p2 : Int32) : Option (Int32 × SS) :=
  if (gI S6 11) = (0 : Int32) then some ((0 : Int32), S4)
  else zB (f_X0_isKind S0 p1 (0 : Int32)) (fun (r2 : Int32) =>
  if r2 = (0 : Int32) then some ((0 : Int32), S4)
  else if p2 < (0 : Int32) then some ((0 : Int32), S4)
  else if p2 ≤ (3 : Int32) then zB (f_X4_change S4 p1 p2) (fun ((r9, s4_10) : Int32 × SS) =>
  some ((1 : Int32), s4_10))
  else some ((0 : Int32), S4))

noncomputable def f_X6_run (S6 : SS) (S0 : SS) (S4 : SS) (p1 : Int32) : Option (Int32 × SS) :=
  if (gI S6 11) = (0 : Int32) then some ((-1 : Int32), S4)
  else if p1 < (0 : Int32) then some ((-1 : Int32), S4)
  else if p1 ≤ (1000 : Int32) then zB (f_X4_turn S4 S0 p1) (fun ((r4, s4_5) : Int32 × SS) =>
  some (r4, s4_5))
  else some ((-1 : Int32), S4)

noncomputable def f_X6_on (S6 : SS) (S0 : SS) (S4 : SS) (p1 : Int32) : Option (Int32) :=
  if (gI S6 11) = (0 : Int32) then some (-1 : Int32)
  else zB (f_X0_has S0 p1) (fun (r2 : Int32) =>
  if r2 = (0 : Int32) then some (-1 : Int32)
  else zG (vp_in p1 60) (
  some (gA S4 2 p1.toNatClampNeg)))

noncomputable def f_X6_wave (S6 : SS) (S0 : SS) (S4 : SS) (p1 : Int32) (p2 : Int32) : Option (Int32) :=
  if (gI S6 11) = (0 : Int32) then some (-1 : Int32)
  else zB (f_X0_has S0 p1) (fun (r2 : Int32) =>
  if r2 = (0 : Int32) then some (-1 : Int32)
  else zB (f_X4_changeOf S4 p1 p2) (fun (r7 : Int32) =>
  some r7))

noncomputable def f_X6_about (S6 : SS) (S0 : SS) (S4 : SS) (p1 : Int32) : Option (Int32) :=
  if p1 = (0 : Int32) then some (gI S0 0)
  else if p1 = (1 : Int32) then some (gI S0 1)
  else if p1 = (2 : Int32) then if (gI S6 11) = (0 : Int32) then some (-1 : Int32)
  else some (gI S4 0)
  else if p1 = (3 : Int32) then if (gI S6 11) = (0 : Int32) then some (-1 : Int32)
  else zB (f_X4_quiet S4) (fun (r7 : Int32) =>
  some r7)
  else if p1 = (4 : Int32) then if (gI S6 11) = (0 : Int32) then some (-1 : Int32)
  else some (gI S4 1)
  else if p1 = (5 : Int32) then zB (f_X6_countFree S6 S0) (fun (r14 : Int32) =>
  some r14)
  else some (-1 : Int32)

noncomputable def b_X6_read_51 (s8_7 : SS) : (Int32 × SS) → Option ((Int32 × SS) ⊕ (SS)) := fun (v30, s6_31) =>
  if (gI s8_7 0) ≤ v30 then some (Sum.inr s6_31)
  else zG (vp_in v30 60) (
  zL (sA s6_31 5 (upd (gA s6_31 5) v30.toNatClampNeg (2 : Int32))) (fun s6_35 =>
  zL (v30 + 1) (fun v36 =>
  some (Sum.inl (v36, s6_35)))))
noncomputable def f_X6_read (S6 : SS) (S3 : SS) (S1 : SS) (S0 : SS) (S8 : SS) : Option (Int32 × Bool × SS × SS × SS × SS) :=
  zL (gI S6 1) (fun v1 =>
  zL (sI S6 1 (0 : Int32)) (fun s6_3 =>
  zB (f_X3_readInto S3 S1 (gA s6_3 0) S8 v1) (fun ((r4, s3_5, s1_6, s8_7) : Int32 × SS × SS × SS) =>
  if r4 = (0 : Int32) then some ((-1 : Int32), false, s6_3, s3_5, s1_6, s8_7)
  else zB (zI (b_X6_read_51 s8_7) zF ((0 : Int32), s6_3)) (fun (s6_23 : SS) =>
  zL (sI s6_23 11 (0 : Int32)) (fun s6_25 =>
  zB (f_X6_settleValues s6_25 s8_7) (fun (s6_26 : SS) =>
  some ((gI s8_7 0), true, s6_26, s3_5, s1_6, s8_7)))))))

noncomputable def f_X7_isLetter (p1 : Int32) : Option (Int32) :=
  if p1 < (97 : Int32) then some (0 : Int32)
  else if (122 : Int32) < p1 then some (0 : Int32)
  else some (1 : Int32)

noncomputable def f_X7_isDigit (p1 : Int32) : Option (Int32) :=
  if p1 < (48 : Int32) then some (0 : Int32)
  else if (57 : Int32) < p1 then some (0 : Int32)
  else some (1 : Int32)

noncomputable def f_X7_gateOf (p1 : Int64) : Option (Int32) :=
  if (lg_cmp p1 (6385252 : Int64)) = (0 : Int32) then some (0 : Int32)
  else if (lg_cmp p1 (28530 : Int64)) = (0 : Int32) then some (1 : Int32)
  else if (lg_cmp p1 (1851879012 : Int64)) = (0 : Int32) then some (2 : Int32)
  else if (lg_cmp p1 (7237490 : Int64)) = (0 : Int32) then some (3 : Int32)
  else if (lg_cmp p1 (7892850 : Int64)) = (0 : Int32) then some (4 : Int32)
  else if (lg_cmp p1 (2020503410 : Int64)) = (0 : Int32) then some (5 : Int32)
  else if (lg_cmp p1 (7237492 : Int64)) = (0 : Int32) then some (6 : Int32)
  else if (lg_cmp p1 (6452582 : Int64)) = (0 : Int32) then some (7 : Int32)
  else if (lg_cmp p1 (7173496 : Int64)) = (0 : Int32) then some (8 : Int32)
  else some (-1 : Int32)

noncomputable def f_X7_mostOf (p1 : Int32) : Option (Int32) :=
  if p1 = (6 : Int32) then some (1 : Int32)
  else if p1 = (7 : Int32) then some (1 : Int32)
  else if p1 = (8 : Int32) then some (3 : Int32)
  else some (6 : Int32)

noncomputable def f_X7_leastOf (p1 : Int32) : Option (Int32) :=
  if p1 = (6 : Int32) then some (1 : Int32)
  else if p1 = (7 : Int32) then some (1 : Int32)
  else if p1 = (8 : Int32) then some (3 : Int32)
  else some (2 : Int32)

noncomputable def f_X7_taken (p1 : Int32) : Option (Int32) :=
  if p1 = (3 : Int32) then some (2 : Int32)
  else some p1

noncomputable def b_X7_plain_6 (p1 : Int64) : (Int64 × Int32) → Option ((Int64 × Int32) ⊕ (Int64)) := fun (v10, v11) =>
  if v11 < (0 : Int32) then some (Sum.inr v10)
  else if (lg_cmp ((jLr p1 v11) &&& (255 : Int64)) (0 : Int64)) = (0 : Int32) then zL (v11 + Int32.ofInt (-8)) (fun v14 =>
  some (Sum.inl (v10, v14)))
  else zL ((jLs v10 (8 : Int32)) ||| ((jLr p1 v11) &&& (255 : Int64))) (fun v15 =>
  zL (v11 + Int32.ofInt (-8)) (fun v16 =>
  some (Sum.inl (v15, v16))))
noncomputable def f_X7_plain (p1 : Int64) : Option (Int64) :=
  zI (b_X7_plain_6 p1) zF ((0 : Int64), (56 : Int32))

noncomputable def f_X7_sign (S7 : SS) (p1 : Int32) : Option (Int32) :=
  if (gI S7 3) ≤ p1 then some (0 : Int32)
  else zG (vp_in p1 2000) (
  some ((gA S7 1 p1.toNatClampNeg) &&& (255 : Int32)))

noncomputable def f_X7_fails (S7 : SS) (p1 : Int32) (p2 : Int32) : Option (SS) :=
  if (gI S7 4) ≤ (0 : Int32) then zL (sI S7 4 p1) (fun s7_3 =>
  zL (sI s7_3 5 p2) (fun s7_5 =>
  some s7_5))
  else some S7

noncomputable def f_X7_isGood (S7 : SS) : Option (Int32) :=
  if (gI S7 4) = (0 : Int32) then some (1 : Int32)
  else some (0 : Int32)

noncomputable def b_X7_next_170 : (Int32 × SS) → Option ((Int32 × SS) ⊕ (SS)) := fun (v126, s7_127) =>
  if (gI s7_127 7) ≤ v126 then some (Sum.inr s7_127)
  else if ((gI s7_127 6) + (8 : Int32)) ≤ v126 then some (Sum.inr s7_127)
  else zB (f_X7_sign s7_127 v126) (fun (r130 : Int32) =>
  zL (sL s7_127 10 ((jLs (gL s7_127 10) (8 : Int32)) ||| (jIL r130))) (fun s7_135 =>
  zL (v126 + 1) (fun v136 =>
  some (Sum.inl (v136, s7_135)))))
noncomputable def b_X7_next_119 : (SS) → Option ((SS) ⊕ (SS)) := fun s7_137 =>
  zB (f_X7_sign s7_137 (gI s7_137 7)) (fun (r138 : Int32) =>
  zB (f_X7_isLetter r138) (fun (r142 : Int32) =>
  zS (if r142 = (0 : Int32) then zB (f_X7_sign s7_137 (gI s7_137 7)) (fun (r155 : Int32) =>
  zB (f_X7_isDigit r155) (fun (r159 : Int32) =>
  if r159 = (0 : Int32) then some (Sum.inl (Sum.inr s7_137))
  else some (Sum.inr ())))
  else some (Sum.inr ())) (fun (_ : Unit) =>
  zL (sI s7_137 7 ((gI s7_137 7) + (1 : Int32))) (fun s7_153 =>
  some (Sum.inl s7_153)))))
noncomputable def b_X7_next_8 : (SS) → Option ((SS) ⊕ (SS)) := fun s7_170 =>
  if (gI s7_170 3) ≤ (gI s7_170 6) then some (Sum.inr s7_170)
  else zB (f_X7_sign s7_170 (gI s7_170 6)) (fun (r172 : Int32) =>
  zS (if r172 = (32 : Int32) then some (Sum.inr ())
  else zB (f_X7_sign s7_170 (gI s7_170 6)) (fun (r185 : Int32) =>
  if r185 = (10 : Int32) then some (Sum.inr ())
  else some (Sum.inl (Sum.inr s7_170)))) (fun (_ : Unit) =>
  zL (sI s7_170 6 ((gI s7_170 6) + (1 : Int32))) (fun s7_183 =>
  some (Sum.inl s7_183))))
noncomputable def f_X7_next (S7 : SS) : Option (SS) :=
  zL (sI S7 6 (gI S7 7)) (fun s7_2 =>
  zB (zI (b_X7_next_8) zF s7_2) (fun (s7_12 : SS) =>
  zB (f_X7_sign s7_12 (gI s7_12 6)) (fun (r13 : Int32) =>
  zL (sI s7_12 7 ((gI s7_12 6) + (1 : Int32))) (fun s7_18 =>
  if (gI s7_18 6) < (gI s7_18 3) then zB (f_X7_isLetter r13) (fun (r20 : Int32) =>
  if r20 = (0 : Int32) then zB (f_X7_isDigit r13) (fun (r25 : Int32) =>
  if r25 = (0 : Int32) then zB (if r13 = (44 : Int32) then some (5 : Int32)
  else if r13 = (59 : Int32) then some (5 : Int32)
  else if r13 = (61 : Int32) then some (5 : Int32)
  else if r13 = (40 : Int32) then some (5 : Int32)
  else if r13 = (41 : Int32) then some (5 : Int32)
  else if r13 = (60 : Int32) then some (5 : Int32)
  else some (1 : Int32)) (fun (v36 : Int32) =>
  zL (sI s7_18 8 v36) (fun s7_38 =>
  some s7_38))
  else zL (sI s7_18 9 (r13 - (48 : Int32))) (fun s7_46 =>
  zB (if r13 = (48 : Int32) then some (1 : Int32)
  else zB (f_X7_sign s7_46 (gI s7_46 7)) (fun (r57 : Int32) =>
  zB (f_X7_isLetter r57) (fun (r61 : Int32) =>
  if r61 = (0 : Int32) then zB (f_X7_sign s7_46 (gI s7_46 7)) (fun (r66 : Int32) =>
  zB (f_X7_isDigit r66) (fun (r70 : Int32) =>
  if r70 = (0 : Int32) then some (4 : Int32)
  else some (1 : Int32)))
  else some (1 : Int32)))) (fun (v53 : Int32) =>
  zL (sI s7_46 8 v53) (fun s7_55 =>
  some s7_55))))
  else zB (zI (b_X7_next_119) zF s7_18) (fun (s7_84 : SS) =>
  zL (sL s7_84 10 (0 : Int64)) (fun s7_86 =>
  zL (gI s7_86 6) (fun v87 =>
  zB (zI (b_X7_next_170) zF (v87, s7_86)) (fun (s7_97 : SS) =>
  zB (f_X7_gateOf (gL s7_97 10)) (fun (r98 : Int32) =>
  zB (if (0 : Int32) ≤ r98 then some (1 : Int32)
  else if (lg_cmp (gL s7_97 10) (26990 : Int64)) = (0 : Int32) then some (1 : Int32)
  else if (lg_cmp (gL s7_97 10) (6452595 : Int64)) = (0 : Int32) then some (1 : Int32)
  else if (lg_cmp (gL s7_97 10) (7497063 : Int64)) = (0 : Int32) then some (1 : Int32)
  else if (lg_cmp (gL s7_97 10) (6907441 : Int64)) = (0 : Int32) then some (1 : Int32)
  else if (lg_cmp (gL s7_97 10) (6907440 : Int64)) = (0 : Int32) then some (1 : Int32)
  else some (0 : Int32)) (fun (v108 : Int32) =>
  zB (if ((gI s7_97 7) - (gI s7_97 6)) ≤ (8 : Int32) then if v108 = (0 : Int32) then some (2 : Int32)
  else some (3 : Int32)
  else some (1 : Int32)) (fun (v115 : Int32) =>
  zL (sI s7_97 8 v115) (fun s7_117 =>
  some s7_117)))))))))
  else zL (sI s7_18 8 (0 : Int32)) (fun s7_165 =>
  zL (sI s7_165 6 (gI s7_165 3)) (fun s7_167 =>
  zL (sI s7_167 7 (gI s7_167 3)) (fun s7_169 =>
  some s7_169)))))))

noncomputable def f_X7_is (S7 : SS) (p1 : Int32) : Option (Int32) :=
  if (gI S7 8) = (5 : Int32) then zB (f_X7_sign S7 (gI S7 6)) (fun (r2 : Int32) =>
  if r2 = p1 then some (1 : Int32)
  else some (0 : Int32))
  else some (0 : Int32)

noncomputable def f_X7_isWord (S7 : SS) (p1 : Int64) : Option (Int32) :=
  if (gI S7 8) = (3 : Int32) then if (lg_cmp (gL S7 10) p1) = (0 : Int32) then some (1 : Int32)
  else some (0 : Int32)
  else some (0 : Int32)

noncomputable def f_X7_wrong (S7 : SS) : Option (SS) :=
  zB (if (gI S7 8) = (1 : Int32) then some (1 : Int32)
  else some (2 : Int32)) (fun (v7 : Int32) =>
  zB (f_X7_fails S7 v7 (gI S7 6)) (fun (s7_8 : SS) =>
  some s7_8))

noncomputable def f_X7_must (S7 : SS) (p1 : Int32) : Option (SS) :=
  zB (f_X7_is S7 p1) (fun (r1 : Int32) =>
  if r1 = (0 : Int32) then zB (f_X7_wrong S7) (fun (s7_6 : SS) =>
  some s7_6)
  else zB (f_X7_next S7) (fun (s7_10 : SS) =>
  some s7_10))

noncomputable def b_X7_newOf_2 (S7 : SS) (p1 : Int64) : (Int32) → Option ((Int32) ⊕ (Int32)) := fun v10 =>
  if (gI S7 26) ≤ v10 then some (Sum.inr (-1 : Int32))
  else zG (vp_in (((60 : Int32) * (gI S7 30)) + v10) 120) (
  if (lg_cmp (gB S7 11 (((60 : Int32) * (gI S7 30)) + v10).toNatClampNeg) p1) = (0 : Int32) then some (Sum.inr v10)
  else zL (v10 + 1) (fun v14 =>
  some (Sum.inl v14)))
noncomputable def f_X7_newOf (S7 : SS) (p1 : Int64) : Option (Int32) :=
  zI (b_X7_newOf_2 S7 p1) zF (0 : Int32)

noncomputable def f_X7_tell (S7 : SS) (p1 : Int32) : Option (Int32 × SS) :=
  zB (if (gI S7 8) = (2 : Int32) then if (gI S7 26) = (60 : Int32) then zB (f_X7_wrong S7) (fun (s7_61 : SS) =>
  some s7_61)
  else some S7
  else zB (f_X7_wrong S7) (fun (s7_56 : SS) =>
  some s7_56)) (fun (s7_7 : SS) =>
  zB (f_X7_isGood s7_7) (fun (r8 : Int32) =>
  zB (if r8 = (0 : Int32) then some s7_7
  else zB (f_X7_newOf s7_7 (gL s7_7 10)) (fun (r46 : Int32) =>
  if r46 < (0 : Int32) then some s7_7
  else zB (f_X7_fails s7_7 (3 : Int32) (gI s7_7 6)) (fun (s7_51 : SS) =>
  some s7_51))) (fun (s7_18 : SS) =>
  zB (f_X7_isGood s7_18) (fun (r19 : Int32) =>
  if r19 = (0 : Int32) then some ((-1 : Int32), s7_18)
  else zL (((60 : Int32) * (gI s7_18 30)) + (gI s7_18 26)) (fun v24 =>
  zG (vp_in v24 120) (
  zL (sB s7_18 11 (vp_updL (gB s7_18 11) v24.toNatClampNeg (gL s7_18 10))) (fun s7_27 =>
  zL (sA s7_27 12 (upd (gA s7_27 12) v24.toNatClampNeg p1)) (fun s7_29 =>
  zL (sA s7_29 13 (upd (gA s7_29 13) v24.toNatClampNeg (-1 : Int32))) (fun s7_31 =>
  zL (sA s7_31 14 (upd (gA s7_31 14) v24.toNatClampNeg (0 : Int32))) (fun s7_33 =>
  zL (sA s7_33 15 (upd (gA s7_33 15) v24.toNatClampNeg (0 : Int32))) (fun s7_35 =>
  zG (vp_in (gI s7_35 26) 60) (
  zL (sA s7_35 18 (upd (gA s7_35 18) (gI s7_35 26).toNatClampNeg (gI s7_35 6))) (fun s7_38 =>
  zL (sI s7_38 26 ((gI s7_38 26) + (1 : Int32))) (fun s7_40 =>
  zB (f_X7_next s7_40) (fun (s7_41 : SS) =>
  some (v24, s7_41))))))))))))))))

noncomputable def f_X7_ask (S7 : SS) (p1 : Int32) : Option (SS) :=
  zB (if (gI S7 8) = (2 : Int32) then some S7
  else zB (f_X7_wrong S7) (fun (s7_29 : SS) =>
  some s7_29)) (fun (s7_7 : SS) =>
  zB (f_X7_isGood s7_7) (fun (r8 : Int32) =>
  if r8 = (0 : Int32) then some s7_7
  else zG (vp_in (gI s7_7 27) 1000) (
  zL (sB s7_7 20 (vp_updL (gB s7_7 20) (gI s7_7 27).toNatClampNeg (gL s7_7 10))) (fun s7_15 =>
  zG (vp_in (gI s7_15 27) 1000) (
  zL (sA s7_15 21 (upd (gA s7_15 21) (gI s7_15 27).toNatClampNeg (gI s7_15 6))) (fun s7_18 =>
  zG (vp_in (gI s7_18 27) 1000) (
  zL (sA s7_18 22 (upd (gA s7_18 22) (gI s7_18 27).toNatClampNeg p1)) (fun s7_21 =>
  zL (sI s7_21 27 ((gI s7_21 27) + (1 : Int32))) (fun s7_23 =>
  zB (f_X7_next s7_23) (fun (s7_24 : SS) =>
  some s7_24))))))))))

noncomputable def b_X7_tellAll_2 (p1 : Int32) : (Int32 × SS) → Option ((Int32 × SS) ⊕ (SS)) := fun (v20, s7_21) =>
  if v20 = (0 : Int32) then some (Sum.inr s7_21)
  else zB (f_X7_isGood s7_21) (fun (r23 : Int32) =>
  if r23 = (0 : Int32) then some (Sum.inr s7_21)
  else zB (f_X7_next s7_21) (fun (s7_28 : SS) =>
  zB (f_X7_tell s7_28 p1) (fun ((r32, s7_33) : Int32 × SS) =>
  zB (f_X7_isGood s7_33) (fun (r37 : Int32) =>
  if r37 = (0 : Int32) then some (Sum.inl ((0 : Int32), s7_33))
  else zB (f_X7_is s7_33 (44 : Int32)) (fun (r42 : Int32) =>
  if r42 = (0 : Int32) then some (Sum.inl ((0 : Int32), s7_33))
  else some (Sum.inl ((1 : Int32), s7_33)))))))
noncomputable def f_X7_tellAll (S7 : SS) (p1 : Int32) : Option (SS) :=
  zB (zI (b_X7_tellAll_2 p1) zF ((1 : Int32), S7)) (fun (s7_10 : SS) =>
  zB (f_X7_isGood s7_10) (fun (r11 : Int32) =>
  if r11 = (0 : Int32) then some s7_10
  else zB (f_X7_must s7_10 (59 : Int32)) (fun (s7_16 : SS) =>
  some s7_16)))

noncomputable def f_X7_readRegister (S7 : SS) : Option (SS) :=
  zB (f_X7_next S7) (fun (s7_1 : SS) =>
  zB (f_X7_tell s7_1 (3 : Int32)) (fun ((r5, s7_6) : Int32 × SS) =>
  zB (f_X7_isGood s7_6) (fun (r10 : Int32) =>
  zB (if r10 = (0 : Int32) then some s7_6
  else zB (f_X7_must s7_6 (40 : Int32)) (fun (s7_86 : SS) =>
  some s7_86)) (fun (s7_20 : SS) =>
  zB (f_X7_isGood s7_20) (fun (r21 : Int32) =>
  if r21 = (0 : Int32) then some s7_20
  else zB (f_X7_ask s7_20 ((12 : Int32) * r5)) (fun (s7_26 : SS) =>
  zG (vp_in r5 120) (
  zL (sA s7_26 14 (upd (gA s7_26 14) r5.toNatClampNeg (1 : Int32))) (fun s7_32 =>
  zB (f_X7_isGood s7_32) (fun (r33 : Int32) =>
  zB (if r33 = (0 : Int32) then some s7_32
  else zB (f_X7_is s7_32 (44 : Int32)) (fun (r70 : Int32) =>
  if r70 = (0 : Int32) then some s7_32
  else zB (f_X7_next s7_32) (fun (s7_75 : SS) =>
  zB (f_X7_ask s7_75 (((12 : Int32) * r5) + (1 : Int32))) (fun (s7_79 : SS) =>
  zL (sA s7_79 14 (upd (gA s7_79 14) r5.toNatClampNeg (2 : Int32))) (fun s7_84 =>
  some s7_84))))) (fun (s7_43 : SS) =>
  zB (f_X7_isGood s7_43) (fun (r44 : Int32) =>
  zB (if r44 = (0 : Int32) then some s7_43
  else zB (f_X7_must s7_43 (41 : Int32)) (fun (s7_65 : SS) =>
  some s7_65)) (fun (s7_54 : SS) =>
  zB (f_X7_isGood s7_54) (fun (r55 : Int32) =>
  if r55 = (0 : Int32) then some s7_54
  else zB (f_X7_must s7_54 (59 : Int32)) (fun (s7_60 : SS) =>
  some s7_60))))))))))))))

noncomputable def b_X7_readGate_174 (v24 : Int32) (v49 : Int32) : (Int32 × SS) → Option ((Int32 × SS) ⊕ ((SS) ⊕ (SS))) := fun (v159, s7_160) =>
  if v159 = (0 : Int32) then some (Sum.inr (Sum.inr s7_160))
  else zB (f_X7_isGood s7_160) (fun (r162 : Int32) =>
  if r162 = (0 : Int32) then some (Sum.inr (Sum.inr s7_160))
  else zB (f_X7_next s7_160) (fun (s7_167 : SS) =>
  zB (if (gI s7_167 8) = (2 : Int32) then zB (f_X7_mostOf v49) (fun (r200 : Int32) =>
  if (gA s7_167 14 v24.toNatClampNeg) = r200 then zB (f_X7_wrong s7_167) (fun (s7_205 : SS) =>
  some s7_205)
  else some s7_167)
  else some s7_167) (fun (s7_177 : SS) =>
  zB (f_X7_isGood s7_177) (fun (r178 : Int32) =>
  if r178 = (0 : Int32) then some (Sum.inr (Sum.inl s7_177))
  else zB (f_X7_ask s7_177 (((12 : Int32) * v24) + (gA s7_177 14 v24.toNatClampNeg))) (fun (s7_183 : SS) =>
  zL (sA s7_183 14 (upd (gA s7_183 14) v24.toNatClampNeg ((gA s7_183 14 v24.toNatClampNeg) + (1 : Int32)))) (fun s7_188 =>
  zB (f_X7_isGood s7_188) (fun (r189 : Int32) =>
  if r189 = (0 : Int32) then some (Sum.inl ((0 : Int32), s7_188))
  else zB (f_X7_is s7_188 (44 : Int32)) (fun (r194 : Int32) =>
  if r194 = (0 : Int32) then some (Sum.inl ((0 : Int32), s7_188))
  else some (Sum.inl ((1 : Int32), s7_188))))))))))
noncomputable def f_X7_readGate (S7 : SS) (p1 : Int64) (p2 : Int32) : Option (SS) :=
  zB (if (gI S7 26) = (60 : Int32) then zB (f_X7_fails S7 (2 : Int32) p2) (fun (s7_230 : SS) =>
  some s7_230)
  else some S7) (fun (s7_7 : SS) =>
  zB (f_X7_newOf s7_7 p1) (fun (r8 : Int32) =>
  zB (if r8 < (0 : Int32) then some s7_7
  else zB (f_X7_fails s7_7 (3 : Int32) p2) (fun (s7_225 : SS) =>
  some s7_225)) (fun (s7_18 : SS) =>
  zB (f_X7_isGood s7_18) (fun (r19 : Int32) =>
  if r19 = (0 : Int32) then some s7_18
  else zL (((60 : Int32) * (gI s7_18 30)) + (gI s7_18 26)) (fun v24 =>
  zG (vp_in v24 120) (
  zL (sB s7_18 11 (vp_updL (gB s7_18 11) v24.toNatClampNeg p1)) (fun s7_27 =>
  zL (sA s7_27 12 (upd (gA s7_27 12) v24.toNatClampNeg (2 : Int32))) (fun s7_29 =>
  zL (sA s7_29 14 (upd (gA s7_29 14) v24.toNatClampNeg (0 : Int32))) (fun s7_31 =>
  zL (sA s7_31 15 (upd (gA s7_31 15) v24.toNatClampNeg (1 : Int32))) (fun s7_33 =>
  zG (vp_in (gI s7_33 26) 60) (
  zL (sA s7_33 18 (upd (gA s7_33 18) (gI s7_33 26).toNatClampNeg p2)) (fun s7_36 =>
  zL (sI s7_36 26 ((gI s7_36 26) + (1 : Int32))) (fun s7_38 =>
  zB (f_X7_next s7_38) (fun (s7_39 : SS) =>
  zB (if (gI s7_39 8) = (3 : Int32) then zB (f_X7_gateOf (gL s7_39 10)) (fun (r220 : Int32) =>
  some r220)
  else some (-1 : Int32)) (fun (v49 : Int32) =>
  zB (if (0 : Int32) ≤ v49 then some s7_39
  else zB (f_X7_wrong s7_39) (fun (s7_215 : SS) =>
  some s7_215)) (fun (s7_56 : SS) =>
  zB (f_X7_isGood s7_56) (fun (r57 : Int32) =>
  if r57 = (0 : Int32) then some s7_56
  else zL (sA s7_56 13 (upd (gA s7_56 13) v24.toNatClampNeg v49)) (fun s7_63 =>
  zB (f_X7_next s7_63) (fun (s7_64 : SS) =>
  zB (f_X7_is s7_64 (40 : Int32)) (fun (r68 : Int32) =>
  zB (if r68 = (0 : Int32) then zB (f_X7_wrong s7_64) (fun (s7_210 : SS) =>
  some s7_210)
  else some s7_64) (fun (s7_78 : SS) =>
  zS (zI (b_X7_readGate_174 v24 v49) zF ((1 : Int32), s7_78)) (fun (s7_88 : SS) =>
  zB (f_X7_isGood s7_88) (fun (r89 : Int32) =>
  zB (if r89 = (0 : Int32) then some s7_88
  else zB (f_X7_is s7_88 (41 : Int32)) (fun (r145 : Int32) =>
  if r145 = (0 : Int32) then some s7_88
  else zB (f_X7_leastOf v49) (fun (r150 : Int32) =>
  if r150 ≤ (gA s7_88 14 v24.toNatClampNeg) then some s7_88
  else zB (f_X7_wrong s7_88) (fun (s7_155 : SS) =>
  some s7_155)))) (fun (s7_99 : SS) =>
  zB (f_X7_isGood s7_99) (fun (r100 : Int32) =>
  zB (if r100 = (0 : Int32) then some s7_99
  else zB (f_X7_must s7_99 (41 : Int32)) (fun (s7_140 : SS) =>
  some s7_140)) (fun (s7_110 : SS) =>
  zB (f_X7_isGood s7_110) (fun (r111 : Int32) =>
  zB (if r111 = (0 : Int32) then some s7_110
  else if (gI s7_110 8) = (4 : Int32) then zL (sA s7_110 15 (upd (gA s7_110 15) v24.toNatClampNeg (gI s7_110 9))) (fun s7_134 =>
  zB (f_X7_next s7_134) (fun (s7_135 : SS) =>
  some s7_135))
  else some s7_110) (fun (s7_121 : SS) =>
  zB (f_X7_isGood s7_121) (fun (r122 : Int32) =>
  if r122 = (0 : Int32) then some s7_121
  else zB (f_X7_must s7_121 (59 : Int32)) (fun (s7_127 : SS) =>
  some s7_127))))))))))))))))))))))))))))))

noncomputable def b_X7_readDriver_6 (S7 : SS) (p1 : Int64) : (Int32 × Int32) → Option ((Int32 × Int32) ⊕ (Int32)) := fun (v165, v166) =>
  if (gI S7 28) ≤ v166 then some (Sum.inr v165)
  else zG (vp_in v166 200) (
  if (lg_cmp (gB S7 23 v166.toNatClampNeg) p1) = (0 : Int32) then zL (v165 + (1 : Int32)) (fun v172 =>
  zL (v166 + 1) (fun v173 =>
  some (Sum.inl (v172, v173))))
  else zL (v165 + (0 : Int32)) (fun v170 =>
  zL (v166 + 1) (fun v171 =>
  some (Sum.inl (v170, v171)))))
noncomputable def f_X7_readDriver (S7 : SS) (p1 : Int64) (p2 : Int32) : Option (SS) :=
  zB (zI (b_X7_readDriver_6 S7 p1) zF ((0 : Int32), (0 : Int32))) (fun (v10 : Int32) =>
  zB (if v10 = (6 : Int32) then zB (f_X7_fails S7 (2 : Int32) p2) (fun (s7_161 : SS) =>
  some s7_161)
  else some S7) (fun (s7_17 : SS) =>
  zB (f_X7_isGood s7_17) (fun (r18 : Int32) =>
  if r18 = (0 : Int32) then some s7_17
  else zG (vp_in (gI s7_17 27) 1000) (
  zL (sB s7_17 20 (vp_updL (gB s7_17 20) (gI s7_17 27).toNatClampNeg p1)) (fun s7_25 =>
  zG (vp_in (gI s7_25 27) 1000) (
  zL (sA s7_25 21 (upd (gA s7_25 21) (gI s7_25 27).toNatClampNeg p2)) (fun s7_28 =>
  zG (vp_in (gI s7_28 27) 1000) (
  zL (sA s7_28 22 (upd (gA s7_28 22) (gI s7_28 27).toNatClampNeg (-1 : Int32))) (fun s7_31 =>
  zG (vp_in (gI s7_31 28) 200) (
  zL (sB s7_31 23 (vp_updL (gB s7_31 23) (gI s7_31 28).toNatClampNeg p1)) (fun s7_34 =>
  zG (vp_in (gI s7_34 28) 200) (
  zL (sA s7_34 24 (upd (gA s7_34 24) (gI s7_34 28).toNatClampNeg (gI s7_34 27))) (fun s7_37 =>
  zL (sI s7_37 27 ((gI s7_37 27) + (1 : Int32))) (fun s7_39 =>
  zB (f_X7_next s7_39) (fun (s7_40 : SS) =>
  zB (f_X7_isWord s7_40 (6907441 : Int64)) (fun (r44 : Int32) =>
  zB (if r44 = (0 : Int32) then zB (f_X7_isWord s7_40 (6907440 : Int64)) (fun (r151 : Int32) =>
  if r151 = (0 : Int32) then zB (f_X7_wrong s7_40) (fun (s7_156 : SS) =>
  some s7_156)
  else some s7_40)
  else some s7_40) (fun (s7_54 : SS) =>
  zB (f_X7_isGood s7_54) (fun (r55 : Int32) =>
  if r55 = (0 : Int32) then some s7_54
  else zB (f_X7_isWord s7_54 (6907441 : Int64)) (fun (r60 : Int32) =>
  zG (vp_in (gI s7_54 28) 200) (
  zL (sA s7_54 25 (upd (gA s7_54 25) (gI s7_54 28).toNatClampNeg (vp_nar .boolean r60))) (fun s7_66 =>
  zL (sI s7_66 28 ((gI s7_66 28) + (1 : Int32))) (fun s7_68 =>
  zB (f_X7_next s7_68) (fun (s7_69 : SS) =>
  zB (f_X7_must s7_69 (40 : Int32)) (fun (s7_73 : SS) =>
  zB (f_X7_isGood s7_73) (fun (r77 : Int32) =>
  zB (if r77 = (0 : Int32) then some s7_73
  else zB (f_X7_ask s7_73 (0 : Int32)) (fun (s7_146 : SS) =>
  some s7_146)) (fun (s7_87 : SS) =>
  zB (f_X7_isGood s7_87) (fun (r88 : Int32) =>
  zB (if r88 = (0 : Int32) then some s7_87
  else zB (f_X7_must s7_87 (44 : Int32)) (fun (s7_141 : SS) =>
  some s7_141)) (fun (s7_98 : SS) =>
  zB (f_X7_isGood s7_98) (fun (r99 : Int32) =>
  zB (if r99 = (0 : Int32) then some s7_98
  else zB (f_X7_ask s7_98 (0 : Int32)) (fun (s7_136 : SS) =>
  some s7_136)) (fun (s7_109 : SS) =>
  zB (f_X7_isGood s7_109) (fun (r110 : Int32) =>
  zB (if r110 = (0 : Int32) then some s7_109
  else zB (f_X7_must s7_109 (41 : Int32)) (fun (s7_131 : SS) =>
  some s7_131)) (fun (s7_120 : SS) =>
  zB (f_X7_isGood s7_120) (fun (r121 : Int32) =>
  if r121 = (0 : Int32) then some s7_120
  else zB (f_X7_must s7_120 (59 : Int32)) (fun (s7_126 : SS) =>
  some s7_126))))))))))))))))))))))))))))))))))

noncomputable def f_X7_readLine (S7 : SS) : Option (SS) :=
  zB (f_X7_isWord S7 (26990 : Int64)) (fun (r1 : Int32) =>
  if r1 = (0 : Int32) then zB (f_X7_isWord S7 (6452595 : Int64)) (fun (r6 : Int32) =>
  if r6 = (0 : Int32) then zB (f_X7_isWord S7 (7497063 : Int64)) (fun (r11 : Int32) =>
  if r11 = (0 : Int32) then if (gI S7 8) = (2 : Int32) then zL (gL S7 10) (fun v21 =>
  zL (gI S7 6) (fun v22 =>
  zB (f_X7_next S7) (fun (s7_23 : SS) =>
  zB (f_X7_is s7_23 (61 : Int32)) (fun (r27 : Int32) =>
  if r27 = (0 : Int32) then zB (f_X7_is s7_23 (60 : Int32)) (fun (r32 : Int32) =>
  if r32 = (0 : Int32) then zB (f_X7_wrong s7_23) (fun (s7_37 : SS) =>
  some s7_37)
  else zB (f_X7_readDriver s7_23 v21 v22) (fun (s7_41 : SS) =>
  some s7_41))
  else zB (f_X7_readGate s7_23 v21 v22) (fun (s7_45 : SS) =>
  some s7_45)))))
  else zB (f_X7_wrong S7) (fun (s7_17 : SS) =>
  some s7_17)
  else zB (f_X7_readRegister S7) (fun (s7_49 : SS) =>
  some s7_49))
  else zB (f_X7_tellAll S7 (1 : Int32)) (fun (s7_53 : SS) =>
  some s7_53))
  else zB (f_X7_tellAll S7 (0 : Int32)) (fun (s7_57 : SS) =>
  some s7_57))

noncomputable def b_X7_isOfDriver_4 (S7 : SS) (p1 : Int32) : (Int32 × Int32) → Option ((Int32 × Int32) ⊕ (Int32)) := fun (v10, v11) =>
  if (gI S7 28) ≤ v11 then zG (zb v10) (
  some (Sum.inr v10))
  else if v10 = (0 : Int32) then zG (vp_in v11 200) (
  if p1 = ((gA S7 24 v11.toNatClampNeg) + (1 : Int32)) then zL (v11 + 1) (fun v18 =>
  some (Sum.inl ((1 : Int32), v18)))
  else if p1 = ((gA S7 24 v11.toNatClampNeg) + (2 : Int32)) then zL (v11 + 1) (fun v21 =>
  some (Sum.inl ((1 : Int32), v21)))
  else zL (v11 + 1) (fun v20 =>
  some (Sum.inl ((0 : Int32), v20))))
  else zL (v11 + 1) (fun v15 =>
  some (Sum.inl ((1 : Int32), v15)))
noncomputable def f_X7_isOfDriver (S7 : SS) (p1 : Int32) : Option (Int32) :=
  zI (b_X7_isOfDriver_4 S7 p1) zF ((0 : Int32), (0 : Int32))

noncomputable def b_X7_resolve_142 : (Int32 × SS) → Option ((Int32 × SS) ⊕ (SS)) := fun (v35, s7_36) =>
  if (gI s7_36 28) ≤ v35 then some (Sum.inr s7_36)
  else zG (vp_in v35 200) (
  zB (f_X7_newOf s7_36 (gB s7_36 23 v35.toNatClampNeg)) (fun (r39 : Int32) =>
  zL (((60 : Int32) * (gI s7_36 30)) + r39) (fun v43 =>
  zG (vp_in v43 120) (
  zG (vp_in (((6 : Int32) * v43) + (gA s7_36 14 v43.toNatClampNeg)) 720) (
  zL (sA s7_36 19 (upd (gA s7_36 19) (((6 : Int32) * v43) + (gA s7_36 14 v43.toNatClampNeg)).toNatClampNeg (vp_nar .boolean (gA s7_36 25 v35.toNatClampNeg)))) (fun s7_47 =>
  zG (vp_in ((gA s7_47 24 v35.toNatClampNeg) + (1 : Int32)) 1000) (
  zB (f_X7_newOf s7_47 (gB s7_47 20 ((gA s7_47 24 v35.toNatClampNeg) + (1 : Int32)).toNatClampNeg)) (fun (r49 : Int32) =>
  zG (vp_in (((12 : Int32) * v43) + ((2 : Int32) * (gA s7_47 14 v43.toNatClampNeg))) 1440) (
  zL (sA s7_47 16 (upd (gA s7_47 16) (((12 : Int32) * v43) + ((2 : Int32) * (gA s7_47 14 v43.toNatClampNeg))).toNatClampNeg r49)) (fun s7_55 =>
  zG (vp_in ((gA s7_55 24 v35.toNatClampNeg) + (2 : Int32)) 1000) (
  zB (f_X7_newOf s7_55 (gB s7_55 20 ((gA s7_55 24 v35.toNatClampNeg) + (2 : Int32)).toNatClampNeg)) (fun (r57 : Int32) =>
  zG (vp_in ((((12 : Int32) * v43) + ((2 : Int32) * (gA s7_55 14 v43.toNatClampNeg))) + (1 : Int32)) 1440) (
  zL (sA s7_55 16 (upd (gA s7_55 16) ((((12 : Int32) * v43) + ((2 : Int32) * (gA s7_55 14 v43.toNatClampNeg))) + (1 : Int32)).toNatClampNeg r57)) (fun s7_63 =>
  zL (sA s7_63 14 (upd (gA s7_63 14) v43.toNatClampNeg ((gA s7_63 14 v43.toNatClampNeg) + (1 : Int32)))) (fun s7_65 =>
  zL (v35 + 1) (fun v66 =>
  some (Sum.inl (v66, s7_65))))))))))))))))))
noncomputable def b_X7_resolve_87 : (Int32 × SS) → Option ((Int32 × SS) ⊕ (SS)) := fun (v67, s7_68) =>
  if (gI s7_68 27) ≤ v67 then some (Sum.inr s7_68)
  else zG (vp_in v67 1000) (
  if (gA s7_68 22 v67.toNatClampNeg) = (-1 : Int32) then zL (v67 + 1) (fun v72 =>
  some (Sum.inl (v72, s7_68)))
  else zB (f_X7_isOfDriver s7_68 v67) (fun (r73 : Int32) =>
  if r73 = (0 : Int32) then zB (f_X7_newOf s7_68 (gB s7_68 20 v67.toNatClampNeg)) (fun (r79 : Int32) =>
  zG (vp_in (gA s7_68 22 v67.toNatClampNeg) 1440) (
  zL (sA s7_68 16 (upd (gA s7_68 16) (gA s7_68 22 v67.toNatClampNeg).toNatClampNeg r79)) (fun s7_85 =>
  zL (v67 + 1) (fun v86 =>
  some (Sum.inl (v86, s7_85))))))
  else zL (v67 + 1) (fun v78 =>
  some (Sum.inl (v78, s7_68)))))
noncomputable def b_X7_resolve_2 : (Int32 × SS) → Option ((Int32 × SS) ⊕ (SS)) := fun (v87, s7_88) =>
  if (gI s7_88 27) ≤ v87 then some (Sum.inr s7_88)
  else zB (f_X7_isGood s7_88) (fun (r90 : Int32) =>
  if r90 = (0 : Int32) then some (Sum.inr s7_88)
  else zG (vp_in v87 1000) (
  zB (f_X7_newOf s7_88 (gB s7_88 20 v87.toNatClampNeg)) (fun (r96 : Int32) =>
  if r96 < (0 : Int32) then zB (f_X7_fails s7_88 (4 : Int32) (gA s7_88 21 v87.toNatClampNeg)) (fun (s7_101 : SS) =>
  zL (v87 + 1) (fun v105 =>
  some (Sum.inl (v105, s7_101))))
  else if (gA s7_88 22 v87.toNatClampNeg) = (-1 : Int32) then zG (vp_in (((60 : Int32) * (gI s7_88 30)) + r96) 120) (
  if (gA s7_88 12 (((60 : Int32) * (gI s7_88 30)) + r96).toNatClampNeg) = (1 : Int32) then zL (v87 + 1) (fun v110 =>
  some (Sum.inl (v110, s7_88)))
  else zB (f_X7_fails s7_88 (4 : Int32) (gA s7_88 21 v87.toNatClampNeg)) (fun (s7_111 : SS) =>
  zL (v87 + 1) (fun v115 =>
  some (Sum.inl (v115, s7_111)))))
  else zL (v87 + 1) (fun v107 =>
  some (Sum.inl (v107, s7_88))))))
noncomputable def f_X7_resolve (S7 : SS) : Option (SS) :=
  zB (zI (b_X7_resolve_2) zF ((0 : Int32), S7)) (fun (s7_10 : SS) =>
  zB (f_X7_isGood s7_10) (fun (r11 : Int32) =>
  if r11 = (0 : Int32) then some s7_10
  else zB (zI (b_X7_resolve_87) zF ((0 : Int32), s7_10)) (fun (s7_25 : SS) =>
  zI (b_X7_resolve_142) zF ((0 : Int32), s7_25))))

noncomputable def f_X7_hangs (S7 : SS) (p1 : Int32) : Option (Int32) :=
  zG (vp_in p1 120) (
  if (gA S7 12 p1.toNatClampNeg) = (2 : Int32) then some (gA S7 14 p1.toNatClampNeg)
  else if (gA S7 12 p1.toNatClampNeg) = (1 : Int32) then some ((2 : Int32) * (gA S7 14 p1.toNatClampNeg))
  else some (0 : Int32))

noncomputable def b_X7_lead_12 (v1 : Int32) : (Int32 × SS) → Option ((Int32 × SS) ⊕ (SS)) := fun (v11, s7_12) =>
  zB (f_X7_hangs s7_12 v1) (fun (r13 : Int32) =>
  if r13 ≤ v11 then some (Sum.inr s7_12)
  else zG (vp_in (((12 : Int32) * v1) + v11) 1440) (
  zG (vp_in (gA s7_12 16 (((12 : Int32) * v1) + v11).toNatClampNeg) 60) (
  zL (sA s7_12 32 (upd (gA s7_12 32) (gA s7_12 16 (((12 : Int32) * v1) + v11).toNatClampNeg).toNatClampNeg (vp_nar .boolean (1 : Int32)))) (fun s7_21 =>
  zL (v11 + 1) (fun v22 =>
  some (Sum.inl (v22, s7_21)))))))
noncomputable def f_X7_lead (S7 : SS) (p1 : Int32) : Option (SS) :=
  zL (((60 : Int32) * (gI S7 30)) + p1) (fun v1 =>
  zI (b_X7_lead_12 v1) zF ((0 : Int32), S7))

noncomputable def b_X7_hangsOnItself_40 : (Int32 × SS) → Option ((Int32 × SS) ⊕ (SS)) := fun (v40, s7_41) =>
  if (gI s7_41 26) ≤ v40 then some (Sum.inr s7_41)
  else zG (vp_in v40 60) (
  if (gA s7_41 32 v40.toNatClampNeg) = (0 : Int32) then zL (v40 + 1) (fun v45 =>
  some (Sum.inl (v45, s7_41)))
  else zB (f_X7_lead s7_41 v40) (fun (s7_46 : SS) =>
  zL (v40 + 1) (fun v50 =>
  some (Sum.inl (v50, s7_46)))))
noncomputable def b_X7_hangsOnItself_30 (p1 : Int32) : (Int32 × SS) → Option ((Int32 × SS) ⊕ (Int32 × SS)) := fun (v24, s7_25) =>
  if (gI s7_25 26) ≤ v24 then zG (vp_in p1 60) (
  zG (zb (gA s7_25 32 p1.toNatClampNeg)) (
  some (Sum.inr ((gA s7_25 32 p1.toNatClampNeg), s7_25))))
  else zB (zI (b_X7_hangsOnItself_40) zF ((0 : Int32), s7_25)) (fun (s7_38 : SS) =>
  zL (v24 + 1) (fun v39 =>
  some (Sum.inl (v39, s7_38))))
noncomputable def b_X7_hangsOnItself_2 : (Int32 × SS) → Option ((Int32 × SS) ⊕ (SS)) := fun (v51, s7_52) =>
  if (gI s7_52 26) ≤ v51 then some (Sum.inr s7_52)
  else zG (vp_in v51 60) (
  zL (sA s7_52 32 (upd (gA s7_52 32) v51.toNatClampNeg (vp_nar .boolean (0 : Int32)))) (fun s7_56 =>
  zL (v51 + 1) (fun v57 =>
  some (Sum.inl (v57, s7_56)))))
noncomputable def f_X7_hangsOnItself (S7 : SS) (p1 : Int32) : Option (Int32 × SS) :=
  zB (zI (b_X7_hangsOnItself_2) zF ((0 : Int32), S7)) (fun (s7_10 : SS) =>
  zB (f_X7_lead s7_10 p1) (fun (s7_11 : SS) =>
  zI (b_X7_hangsOnItself_30 p1) zF ((0 : Int32), s7_11)))

noncomputable def b_X7_levels_178 : (Int32 × SS) → Option ((Int32 × SS) ⊕ (SS)) := fun (v30, s7_31) =>
  if (gI s7_31 26) ≤ v30 then some (Sum.inr s7_31)
  else zB (f_X7_isGood s7_31) (fun (r33 : Int32) =>
  if r33 = (0 : Int32) then some (Sum.inr s7_31)
  else zG (vp_in (((60 : Int32) * (gI s7_31 30)) + v30) 120) (
  if (0 : Int32) ≤ (gA s7_31 17 (((60 : Int32) * (gI s7_31 30)) + v30).toNatClampNeg) then zL (v30 + 1) (fun v40 =>
  some (Sum.inl (v40, s7_31)))
  else zB (f_X7_hangsOnItself s7_31 v30) (fun ((r41, s7_42) : Int32 × SS) =>
  if r41 = (0 : Int32) then zL (v30 + 1) (fun v47 =>
  some (Sum.inl (v47, s7_42)))
  else zG (vp_in v30 60) (
  zB (f_X7_fails s7_42 (5 : Int32) (gA s7_42 18 v30.toNatClampNeg)) (fun (s7_49 : SS) =>
  zL (v30 + 1) (fun v53 =>
  some (Sum.inl (v53, s7_49))))))))
noncomputable def b_X7_levels_79 (s7_69 : SS) (v71 : Int32) : (Int32 × Int32) → Option ((Int32 × Int32) ⊕ (Int32)) := fun (v87, v88) =>
  zB (f_X7_hangs s7_69 v71) (fun (r89 : Int32) =>
  if r89 ≤ v88 then some (Sum.inr v87)
  else if v87 < (0 : Int32) then some (Sum.inr v87)
  else zG (vp_in (((12 : Int32) * v71) + v88) 1440) (
  zG (vp_in (((60 : Int32) * (gI s7_69 30)) + (gA s7_69 16 (((12 : Int32) * v71) + v88).toNatClampNeg)) 120) (
  zL (gA s7_69 17 (((60 : Int32) * (gI s7_69 30)) + (gA s7_69 16 (((12 : Int32) * v71) + v88).toNatClampNeg)).toNatClampNeg) (fun v97 =>
  if (0 : Int32) ≤ v97 then if (v97 + (1 : Int32)) ≤ v87 then zL (v88 + 1) (fun v100 =>
  some (Sum.inl (v87, v100)))
  else zL (v97 + (1 : Int32)) (fun v101 =>
  zL (v88 + 1) (fun v102 =>
  some (Sum.inl (v101, v102))))
  else zL (v88 + 1) (fun v103 =>
  some (Sum.inl ((-1 : Int32), v103)))))))
noncomputable def b_X7_levels_43 : (Int32 × SS) → Option ((Int32 × SS) ⊕ (SS)) := fun (v68, s7_69) =>
  if (gI s7_69 26) ≤ v68 then some (Sum.inr s7_69)
  else zL (((60 : Int32) * (gI s7_69 30)) + v68) (fun v71 =>
  zG (vp_in v71 120) (
  if (gA s7_69 17 v71.toNatClampNeg) < (0 : Int32) then zB (zI (b_X7_levels_79 s7_69 v71) zF ((0 : Int32), (0 : Int32))) (fun (v83 : Int32) =>
  zL (sA s7_69 17 (upd (gA s7_69 17) v71.toNatClampNeg v83)) (fun s7_85 =>
  zL (v68 + 1) (fun v86 =>
  some (Sum.inl (v86, s7_85)))))
  else zL (v68 + 1) (fun v104 =>
  some (Sum.inl (v104, s7_69)))))
noncomputable def b_X7_levels_33 : (Int32 × SS) → Option ((Int32 × SS) ⊕ (SS)) := fun (v54, s7_55) =>
  if (gI s7_55 26) < v54 then some (Sum.inr s7_55)
  else zB (zI (b_X7_levels_43) zF ((0 : Int32), s7_55)) (fun (s7_66 : SS) =>
  zL (v54 + 1) (fun v67 =>
  some (Sum.inl (v67, s7_66))))
noncomputable def b_X7_levels_2 : (Int32 × SS) → Option ((Int32 × SS) ⊕ (SS)) := fun (v105, s7_106) =>
  if (gI s7_106 26) ≤ v105 then some (Sum.inr s7_106)
  else zG (vp_in (((60 : Int32) * (gI s7_106 30)) + v105) 120) (
  zL (sA s7_106 17 (upd (gA s7_106 17) (((60 : Int32) * (gI s7_106 30)) + v105).toNatClampNeg (-1 : Int32))) (fun s7_110 =>
  zL (v105 + 1) (fun v111 =>
  some (Sum.inl (v111, s7_110)))))
noncomputable def f_X7_levels (S7 : SS) : Option (SS) :=
  zB (zI (b_X7_levels_2) zF ((0 : Int32), S7)) (fun (s7_10 : SS) =>
  zB (zI (b_X7_levels_33) zF ((0 : Int32), s7_10)) (fun (s7_20 : SS) =>
  zI (b_X7_levels_178) zF ((0 : Int32), s7_20)))

noncomputable def f_X7_kind (S7 : SS) (p1 : Int32) : Option (Int32) :=
  zG (vp_in (((60 : Int32) * (gI S7 30)) + p1) 120) (
  some (gA S7 12 (((60 : Int32) * (gI S7 30)) + p1).toNatClampNeg))

noncomputable def f_X7_in (S7 : SS) (p1 : Int32) (p2 : Int32) : Option (Int32) :=
  zG (vp_in (((12 : Int32) * (((60 : Int32) * (gI S7 30)) + p1)) + p2) 1440) (
  some (gA S7 16 (((12 : Int32) * (((60 : Int32) * (gI S7 30)) + p1)) + p2).toNatClampNeg))

noncomputable def b_X7_gate_108 (S7 : SS) (p1 : Int32) (q : Nat) (v1 : Int32) : (Int32 × Int32 × Int32) → Option ((Int32 × Int32 × Int32) ⊕ (Int32 × Int32)) := fun (v49, v50, v51) =>
  if (gA S7 14 v1.toNatClampNeg) ≤ v51 then some (Sum.inr (v49, v50))
  else zB (f_X7_in S7 p1 v51) (fun (r53 : Int32) =>
  zG (vp_in r53 60) (
  zB (f_X7_taken (gA S7 q r53.toNatClampNeg)) (fun (r58 : Int32) =>
  zB (if r58 = (1 : Int32) then some (1 : Int32)
  else some (0 : Int32)) (fun (v68 : Int32) =>
  zL (v49 + v68) (fun v69 =>
  if r58 = (0 : Int32) then zL (v50 + (1 : Int32)) (fun v73 =>
  zL (v51 + 1) (fun v74 =>
  some (Sum.inl (v69, v73, v74))))
  else zL (v50 + (0 : Int32)) (fun v71 =>
  zL (v51 + 1) (fun v72 =>
  some (Sum.inl (v69, v71, v72)))))))))
noncomputable def f_X7_gate (S7 : SS) (p1 : Int32) (q : Nat) : Option (Int32) :=
  zL (((60 : Int32) * (gI S7 30)) + p1) (fun v1 =>
  zG (vp_in v1 120) (
  zL (gA S7 13 v1.toNatClampNeg) (fun v3 =>
  if v3 = (8 : Int32) then zB (f_X7_in S7 p1 (0 : Int32)) (fun (r76 : Int32) =>
  zG (vp_in r76 60) (
  zB (f_X7_taken (gA S7 q r76.toNatClampNeg)) (fun (r81 : Int32) =>
  zB (f_X7_in S7 p1 (1 : Int32)) (fun (r85 : Int32) =>
  zG (vp_in r85 60) (
  zB (f_X7_taken (gA S7 q r85.toNatClampNeg)) (fun (r90 : Int32) =>
  zB (f_X7_in S7 p1 (2 : Int32)) (fun (r94 : Int32) =>
  zG (vp_in r94 60) (
  zB (f_X7_taken (gA S7 q r94.toNatClampNeg)) (fun (r99 : Int32) =>
  if r81 = (0 : Int32) then some r90
  else if r81 = (1 : Int32) then some r99
  else if r90 = r99 then some r90
  else some (2 : Int32))))))))))
  else zB (zI (b_X7_gate_108 S7 p1 q v1) zF ((0 : Int32), (0 : Int32), (0 : Int32))) (fun ((v14, v15) : Int32 × Int32) =>
  zB (if (v14 + v15) = (gA S7 14 v1.toNatClampNeg) then some (1 : Int32)
  else some (0 : Int32)) (fun (v22 : Int32) =>
  zB (if v3 = (0 : Int32) then if v15 ≤ (0 : Int32) then if v22 = (0 : Int32) then some (2 : Int32)
  else some (1 : Int32)
  else some (0 : Int32)
  else if v3 = (2 : Int32) then if v15 ≤ (0 : Int32) then if v22 = (0 : Int32) then some (2 : Int32)
  else some (1 : Int32)
  else some (0 : Int32)
  else if v3 = (1 : Int32) then if v14 ≤ (0 : Int32) then if v22 = (0 : Int32) then some (2 : Int32)
  else some (0 : Int32)
  else some (1 : Int32)
  else if v3 = (3 : Int32) then if v14 ≤ (0 : Int32) then if v22 = (0 : Int32) then some (2 : Int32)
  else some (0 : Int32)
  else some (1 : Int32)
  else if v22 = (0 : Int32) then some (2 : Int32)
  else some (v14 - v14 / (2 : Int32) * (2 : Int32))) (fun (v29 : Int32) =>
  if v29 = (2 : Int32) then some v29
  else if v3 = (0 : Int32) then some v29
  else if v3 = (1 : Int32) then some v29
  else if v3 = (4 : Int32) then some v29
  else if v3 = (7 : Int32) then some v29
  else some ((1 : Int32) - v29)))))))

noncomputable def b_X7_bus_16 (S7 : SS) (p1 : Int32) (q : Nat) (v1 : Int32) : (Int32 × Int32) → Option ((Int32 × Int32) ⊕ (Int32)) := fun (v11, v12) =>
  zG (vp_in v1 120) (
  if (gA S7 14 v1.toNatClampNeg) ≤ v12 then some (Sum.inr v11)
  else zB (f_X7_in S7 p1 (((2 : Int32) * v12) + (1 : Int32))) (fun (r15 : Int32) =>
  zG (vp_in r15 60) (
  zB (f_X7_taken (gA S7 q r15.toNatClampNeg)) (fun (r20 : Int32) =>
  zB (if r20 = (2 : Int32) then some (2 : Int32)
  else zB (if r20 = (1 : Int32) then some (1 : Int32)
  else some (0 : Int32)) (fun (v45 : Int32) =>
  zG (vp_in (((6 : Int32) * v1) + v12) 720) (
  if v45 = (gA S7 19 (((6 : Int32) * v1) + v12).toNatClampNeg) then zB (f_X7_in S7 p1 ((2 : Int32) * v12)) (fun (r48 : Int32) =>
  zG (vp_in r48 60) (
  zB (f_X7_taken (gA S7 q r48.toNatClampNeg)) (fun (r53 : Int32) =>
  some r53)))
  else some (3 : Int32)))) (fun (v30 : Int32) =>
  if v30 = (3 : Int32) then zL (v12 + 1) (fun v37 =>
  some (Sum.inl (v11, v37)))
  else if v11 = (3 : Int32) then zL (v12 + 1) (fun v33 =>
  some (Sum.inl (v30, v33)))
  else if v11 = v30 then zL (v12 + 1) (fun v36 =>
  some (Sum.inl (v30, v36)))
  else zL (v12 + 1) (fun v35 =>
  some (Sum.inl ((2 : Int32), v35))))))))
noncomputable def f_X7_bus (S7 : SS) (p1 : Int32) (q : Nat) : Option (Int32) :=
  zL (((60 : Int32) * (gI S7 30)) + p1) (fun v1 =>
  zI (b_X7_bus_16 S7 p1 q v1) zF ((3 : Int32), (0 : Int32)))

noncomputable def b_X7_follow_12 (q : Nat) (v10 : Int32) : (Int32 × SS) → Option ((Int32 × SS) ⊕ (SS)) := fun (v24, s7_25) =>
  if (gI s7_25 29) ≤ v24 then some (Sum.inr s7_25)
  else zG (vp_in (((60 : Int32) * (gI s7_25 30)) + v24) 120) (
  if (gA s7_25 17 (((60 : Int32) * (gI s7_25 30)) + v24).toNatClampNeg) = v10 then zB (f_X7_kind s7_25 v24) (fun (r30 : Int32) =>
  if r30 = (2 : Int32) then zB (f_X7_kind s7_25 v24) (fun (r35 : Int32) =>
  zB (if r35 = (2 : Int32) then zB (f_X7_gate s7_25 v24 q) (fun (r55 : Int32) =>
  some r55)
  else zB (f_X7_bus s7_25 v24 q) (fun (r51 : Int32) =>
  some r51)) (fun (v45 : Int32) =>
  zG (vp_in v24 60) (
  zL (sA s7_25 q (upd (gA s7_25 q) v24.toNatClampNeg v45)) (fun s7_48 =>
  zL (v24 + 1) (fun v49 =>
  some (Sum.inl (v49, s7_48)))))))
  else zB (f_X7_kind s7_25 v24) (fun (r59 : Int32) =>
  if r59 = (1 : Int32) then zB (f_X7_kind s7_25 v24) (fun (r65 : Int32) =>
  zB (if r65 = (2 : Int32) then zB (f_X7_gate s7_25 v24 q) (fun (r85 : Int32) =>
  some r85)
  else zB (f_X7_bus s7_25 v24 q) (fun (r81 : Int32) =>
  some r81)) (fun (v75 : Int32) =>
  zG (vp_in v24 60) (
  zL (sA s7_25 q (upd (gA s7_25 q) v24.toNatClampNeg v75)) (fun s7_78 =>
  zL (v24 + 1) (fun v79 =>
  some (Sum.inl (v79, s7_78)))))))
  else zL (v24 + 1) (fun v64 =>
  some (Sum.inl (v64, s7_25)))))
  else zL (v24 + 1) (fun v29 =>
  some (Sum.inl (v29, s7_25))))
noncomputable def b_X7_follow_2 (q : Nat) : (Int32 × SS) → Option ((Int32 × SS) ⊕ (SS)) := fun (v10, s7_11) =>
  if (gI s7_11 29) < v10 then some (Sum.inr s7_11)
  else zB (zI (b_X7_follow_12 q v10) zF ((0 : Int32), s7_11)) (fun (s7_22 : SS) =>
  zL (v10 + 1) (fun v23 =>
  some (Sum.inl (v23, s7_22))))
noncomputable def f_X7_follow (S7 : SS) (q : Nat) : Option (SS) :=
  zI (b_X7_follow_2 q) zF ((0 : Int32), S7)

noncomputable def b_X7_settle_2 : (Int32 × SS) → Option ((Int32 × SS) ⊕ (SS)) := fun (v15, s7_16) =>
  if (gI s7_16 29) ≤ v15 then some (Sum.inr s7_16)
  else zG (vp_in v15 60) (
  zL (sA s7_16 34 (upd (gA s7_16 34) v15.toNatClampNeg (gA s7_16 33 v15.toNatClampNeg))) (fun s7_20 =>
  zL (v15 + 1) (fun v21 =>
  some (Sum.inl (v21, s7_20)))))
noncomputable def f_X7_settle (S7 : SS) : Option (SS) :=
  zB (zI (b_X7_settle_2) zF ((0 : Int32), S7)) (fun (s7_10 : SS) =>
  zB (f_X7_follow s7_10 34) (fun (s7_11 : SS) =>
  some s7_11))

noncomputable def b_X7_read_167 : (Int32 × SS) → Option ((Int32 × SS) ⊕ (SS)) := fun (v90, s7_91) =>
  if (gI s7_91 29) ≤ v90 then some (Sum.inr s7_91)
  else zB (f_X7_kind s7_91 v90) (fun (r93 : Int32) =>
  zB (if r93 = (3 : Int32) then some (1 : Int32)
  else some (0 : Int32)) (fun (v103 : Int32) =>
  zL (sI s7_91 31 ((gI s7_91 31) + v103)) (fun s7_105 =>
  zG (vp_in v90 60) (
  zL (sA s7_105 33 (upd (gA s7_105 33) v90.toNatClampNeg (2 : Int32))) (fun s7_108 =>
  zL (v90 + 1) (fun v109 =>
  some (Sum.inl (v109, s7_108))))))))
noncomputable def b_X7_read_85 : (SS) → Option ((SS) ⊕ (SS)) := fun s7_123 =>
  zB (f_X7_isGood s7_123) (fun (r124 : Int32) =>
  if r124 = (0 : Int32) then some (Sum.inr s7_123)
  else if (gI s7_123 8) = (0 : Int32) then some (Sum.inr s7_123)
  else zB (f_X7_readLine s7_123) (fun (s7_130 : SS) =>
  some (Sum.inl s7_130)))
noncomputable def b_X7_read_20 : (Int32 × SS) → Option ((Int32 × SS) ⊕ (SS)) := fun (v134, s7_135) =>
  if (gI s7_135 3) ≤ v134 then some (Sum.inr s7_135)
  else zG (vp_in v134 2020) (
  zG (vp_in v134 2000) (
  zL (sA s7_135 1 (upd (gA s7_135 1) v134.toNatClampNeg (vp_nar .byte (gA s7_135 0 v134.toNatClampNeg)))) (fun s7_140 =>
  zL (v134 + 1) (fun v141 =>
  some (Sum.inl (v141, s7_140))))))
noncomputable def f_X7_read (S7 : SS) : Option (Int32 × SS) :=
  zL (sI S7 4 (0 : Int32)) (fun s7_2 =>
  zL (sI s7_2 5 (-1 : Int32)) (fun s7_4 =>
  zL (sI s7_4 3 (gI s7_4 2)) (fun s7_6 =>
  zB (zI (b_X7_read_20) zF ((0 : Int32), s7_6)) (fun (s7_16 : SS) =>
  zL (sI s7_16 2 (0 : Int32)) (fun s7_18 =>
  zL (sI s7_18 7 (0 : Int32)) (fun s7_20 =>
  zL (sI s7_20 30 ((1 : Int32) - (gI s7_20 30))) (fun s7_22 =>
  zL (sI s7_22 26 (0 : Int32)) (fun s7_24 =>
  zL (sI s7_24 27 (0 : Int32)) (fun s7_26 =>
  zL (sI s7_26 28 (0 : Int32)) (fun s7_28 =>
  zB (f_X7_next s7_28) (fun (s7_29 : SS) =>
  zB (zI (b_X7_read_85) zF s7_29) (fun (s7_42 : SS) =>
  zB (f_X7_isGood s7_42) (fun (r43 : Int32) =>
  zB (if r43 = (0 : Int32) then some s7_42
  else zB (f_X7_resolve s7_42) (fun (s7_119 : SS) =>
  some s7_119)) (fun (s7_53 : SS) =>
  zB (f_X7_isGood s7_53) (fun (r54 : Int32) =>
  zB (if r54 = (0 : Int32) then some s7_53
  else zB (f_X7_levels s7_53) (fun (s7_114 : SS) =>
  some s7_114)) (fun (s7_64 : SS) =>
  zB (f_X7_isGood s7_64) (fun (r65 : Int32) =>
  if r65 = (0 : Int32) then zL (sI s7_64 30 ((1 : Int32) - (gI s7_64 30))) (fun s7_112 =>
  some ((-1 : Int32), s7_112))
  else zL (sI s7_64 29 (gI s7_64 26)) (fun s7_71 =>
  zL (sI s7_71 31 (0 : Int32)) (fun s7_73 =>
  zL (sI s7_73 46 (0 : Int32)) (fun s7_75 =>
  zB (zI (b_X7_read_167) zF ((0 : Int32), s7_75)) (fun (s7_85 : SS) =>
  zB (f_X7_settle s7_85) (fun (s7_86 : SS) =>
  some ((gI s7_86 29), s7_86)))))))))))))))))))))))

noncomputable def f_X7_fault (S7 : SS) (p1 : Int32) : Option (Int32) :=
  if p1 = (0 : Int32) then some (gI S7 4)
  else if p1 = (1 : Int32) then some (gI S7 5)
  else some (-1 : Int32)

noncomputable def f_X7_isNode (S7 : SS) (p1 : Int32) : Option (Int32) :=
  if p1 < (0 : Int32) then some (0 : Int32)
  else if (gI S7 29) ≤ p1 then some (0 : Int32)
  else some (1 : Int32)

noncomputable def b_X7_named_8 (S7 : SS) (r1 : Int64) : (Int32) → Option ((Int32) ⊕ (Int32)) := fun v14 =>
  if (gI S7 29) ≤ v14 then some (Sum.inr (-1 : Int32))
  else zG (vp_in (((60 : Int32) * (gI S7 30)) + v14) 120) (
  if (lg_cmp (gB S7 11 (((60 : Int32) * (gI S7 30)) + v14).toNatClampNeg) r1) = (0 : Int32) then some (Sum.inr v14)
  else zL (v14 + 1) (fun v18 =>
  some (Sum.inl v18)))
noncomputable def f_X7_named (S7 : SS) (p1 : Int64) : Option (Int32) :=
  zB (f_X7_plain p1) (fun (r1 : Int64) =>
  zI (b_X7_named_8 S7 r1) zF (0 : Int32))

noncomputable def f_X7_node (S7 : SS) (p1 : Int32) (p2 : Int32) : Option (Int32) :=
  zB (f_X7_isNode S7 p1) (fun (r1 : Int32) =>
  if r1 = (0 : Int32) then some (-1 : Int32)
  else zL (((60 : Int32) * (gI S7 30)) + p1) (fun v6 =>
  if p2 = (0 : Int32) then zG (vp_in v6 120) (
  some (gA S7 12 v6.toNatClampNeg))
  else if p2 = (1 : Int32) then zG (vp_in v6 120) (
  some (gA S7 14 v6.toNatClampNeg))
  else if p2 = (2 : Int32) then zG (vp_in v6 120) (
  some (gA S7 15 v6.toNatClampNeg))
  else if p2 = (3 : Int32) then zG (vp_in v6 120) (
  some (gA S7 17 v6.toNatClampNeg))
  else some (-1 : Int32)))

noncomputable def f_X7_set (S7 : SS) (p1 : Int32) (p2 : Int32) : Option (Int32 × SS) :=
  zB (f_X7_isNode S7 p1) (fun (r1 : Int32) =>
  if r1 = (0 : Int32) then some ((0 : Int32), S7)
  else zB (f_X7_kind S7 p1) (fun (r6 : Int32) =>
  if r6 = (0 : Int32) then if p2 < (0 : Int32) then some ((0 : Int32), S7)
  else if p2 ≤ (3 : Int32) then zG (vp_in p1 60) (
  zL (sA S7 33 (upd (gA S7 33) p1.toNatClampNeg p2)) (fun s7_15 =>
  zB (f_X7_settle s7_15) (fun (s7_16 : SS) =>
  some ((1 : Int32), s7_16))))
  else some ((0 : Int32), S7)
  else some ((0 : Int32), S7)))

noncomputable def f_X7_load (S7 : SS) (p1 : Int32) (p2 : Int32) : Option (Int32 × SS) :=
  zB (f_X7_isNode S7 p1) (fun (r1 : Int32) =>
  if r1 = (0 : Int32) then some ((0 : Int32), S7)
  else zB (f_X7_kind S7 p1) (fun (r6 : Int32) =>
  if r6 = (3 : Int32) then if p2 < (0 : Int32) then some ((0 : Int32), S7)
  else if p2 ≤ (2 : Int32) then zG (vp_in p1 60) (
  zL (sA S7 33 (upd (gA S7 33) p1.toNatClampNeg p2)) (fun s7_15 =>
  zB (f_X7_settle s7_15) (fun (s7_16 : SS) =>
  some ((1 : Int32), s7_16))))
  else some ((0 : Int32), S7)
  else some ((0 : Int32), S7)))

noncomputable def f_X7_value (S7 : SS) (p1 : Int32) : Option (Int32) :=
  zB (f_X7_isNode S7 p1) (fun (r1 : Int32) =>
  if r1 = (0 : Int32) then some (-1 : Int32)
  else zG (vp_in p1 60) (
  some (gA S7 34 p1.toNatClampNeg)))

noncomputable def b_X7_tick_4 : (Int32 × Int32 × SS) → Option ((Int32 × Int32 × SS) ⊕ (Int32 × SS)) := fun (v16, v17, s7_18) =>
  if (gI s7_18 29) ≤ v17 then some (Sum.inr (v16, s7_18))
  else zB (f_X7_kind s7_18 v17) (fun (r20 : Int32) =>
  if r20 = (3 : Int32) then zB (f_X7_in s7_18 v17 (0 : Int32)) (fun (r25 : Int32) =>
  zG (vp_in r25 60) (
  zB (f_X7_taken (gA s7_18 34 r25.toNatClampNeg)) (fun (r30 : Int32) =>
  zG (vp_in (((60 : Int32) * (gI s7_18 30)) + v17) 120) (
  zB (if (gA s7_18 14 (((60 : Int32) * (gI s7_18 30)) + v17).toNatClampNeg) = (1 : Int32) then some (1 : Int32)
  else zB (f_X7_in s7_18 v17 (1 : Int32)) (fun (r68 : Int32) =>
  zG (vp_in r68 60) (
  zB (f_X7_taken (gA s7_18 34 r68.toNatClampNeg)) (fun (r73 : Int32) =>
  some r73)))) (fun (v41 : Int32) =>
  zB (if v41 = (1 : Int32) then some r30
  else if v41 = (0 : Int32) then zG (vp_in v17 60) (
  some (gA s7_18 34 v17.toNatClampNeg))
  else zG (vp_in v17 60) (
  if r30 = (gA s7_18 34 v17.toNatClampNeg) then some (gA s7_18 34 v17.toNatClampNeg)
  else some (2 : Int32))) (fun (v48 : Int32) =>
  zG (vp_in v17 60) (
  zB (if v48 = (gA s7_18 34 v17.toNatClampNeg) then some (0 : Int32)
  else some (1 : Int32)) (fun (v56 : Int32) =>
  zL (v16 + v56) (fun v57 =>
  zL (sA s7_18 33 (upd (gA s7_18 33) v17.toNatClampNeg v48)) (fun s7_59 =>
  zL (v17 + 1) (fun v60 =>
  some (Sum.inl (v57, v60, s7_59)))))))))))))
  else zL (v17 + 1) (fun v77 =>
  some (Sum.inl (v16, v77, s7_18))))
noncomputable def f_X7_tick (S7 : SS) : Option (Int32 × SS) :=
  zB (zI (b_X7_tick_4) zF ((0 : Int32), (0 : Int32), S7)) (fun ((v10, s7_11) : Int32 × SS) =>
  zB (f_X7_settle s7_11) (fun (s7_12 : SS) =>
  some (v10, s7_12)))

noncomputable def b_X7_find_7 : (Int32 × SS) → Option ((Int32 × SS) ⊕ (SS)) := fun (v12, s7_13) =>
  if (gI s7_13 29) ≤ v12 then some (Sum.inr s7_13)
  else zB (f_X7_kind s7_13 v12) (fun (r15 : Int32) =>
  if r15 = (0 : Int32) then zG (vp_in v12 60) (
  if (2 : Int32) ≤ (gA s7_13 33 v12.toNatClampNeg) then zG (vp_in (gI s7_13 39) 60) (
  zL (sA s7_13 38 (upd (gA s7_13 38) (gI s7_13 39).toNatClampNeg v12)) (fun s7_24 =>
  zL (sI s7_24 39 ((gI s7_24 39) + (1 : Int32))) (fun s7_26 =>
  zL (v12 + 1) (fun v27 =>
  some (Sum.inl (v27, s7_26))))))
  else zL (v12 + 1) (fun v28 =>
  some (Sum.inl (v28, s7_13))))
  else zB (f_X7_kind s7_13 v12) (fun (r29 : Int32) =>
  if r29 = (3 : Int32) then zG (vp_in v12 60) (
  if (2 : Int32) ≤ (gA s7_13 33 v12.toNatClampNeg) then zG (vp_in (gI s7_13 39) 60) (
  zL (sA s7_13 38 (upd (gA s7_13 38) (gI s7_13 39).toNatClampNeg v12)) (fun s7_39 =>
  zL (sI s7_39 39 ((gI s7_39 39) + (1 : Int32))) (fun s7_41 =>
  zL (v12 + 1) (fun v42 =>
  some (Sum.inl (v42, s7_41))))))
  else zL (v12 + 1) (fun v43 =>
  some (Sum.inl (v43, s7_13))))
  else zL (v12 + 1) (fun v34 =>
  some (Sum.inl (v34, s7_13)))))
noncomputable def f_X7_find (S7 : SS) : Option (SS) :=
  zL (sI S7 39 (0 : Int32)) (fun s7_2 =>
  zI (b_X7_find_7) zF ((0 : Int32), s7_2))

noncomputable def b_X7_drives_15 (p1 : Int32) (v1 : Int32) : (Int32 × Int32 × SS) → Option ((Int32 × Int32 × SS) ⊕ (Int32 × SS)) := fun (v25, v26, s7_27) =>
  zG (vp_in v1 120) (
  if (gA s7_27 14 v1.toNatClampNeg) ≤ v26 then some (Sum.inr (v25, s7_27))
  else zB (f_X7_in s7_27 p1 (((2 : Int32) * v26) + (1 : Int32))) (fun (r30 : Int32) =>
  zG (vp_in r30 60) (
  zB (if (gA s7_27 35 r30.toNatClampNeg) = (1 : Int32) then some (1 : Int32)
  else some (0 : Int32)) (fun (v41 : Int32) =>
  zG (vp_in (((6 : Int32) * v1) + v26) 720) (
  if v41 = (gA s7_27 19 (((6 : Int32) * v1) + v26).toNatClampNeg) then zL (v25 + 1) (fun v44 =>
  zB (f_X7_in s7_27 p1 ((2 : Int32) * v26)) (fun (r45 : Int32) =>
  zG (vp_in r45 60) (
  zG (vp_in p1 60) (
  zL (sA s7_27 35 (upd (gA s7_27 35) p1.toNatClampNeg (gA s7_27 35 r45.toNatClampNeg))) (fun s7_52 =>
  zL (v26 + 1) (fun v53 =>
  some (Sum.inl (v44, v53, s7_52))))))))
  else zL (v26 + 1) (fun v54 =>
  some (Sum.inl (v25, v54, s7_27))))))))
noncomputable def f_X7_drives (S7 : SS) (p1 : Int32) : Option (Int32 × SS) :=
  zL (((60 : Int32) * (gI S7 30)) + p1) (fun v1 =>
  zB (zI (b_X7_drives_15 p1 v1) zF ((0 : Int32), (0 : Int32), S7)) (fun ((v11, s7_12) : Int32 × SS) =>
  zB (if v11 = (0 : Int32) then zG (vp_in p1 60) (
  zL (sA s7_12 35 (upd (gA s7_12 35) p1.toNatClampNeg (0 : Int32))) (fun s7_24 =>
  some s7_24))
  else some s7_12) (fun (s7_19 : SS) =>
  if v11 = (1 : Int32) then some ((1 : Int32), s7_19)
  else some ((0 : Int32), s7_19))))

noncomputable def b_X7_goes_79 (v31 : Int32) : (Int32 × Int32 × SS) → Option ((Int32 × Int32 × SS) ⊕ (Int32 × SS)) := fun (v49, v50, s7_51) =>
  if (gI s7_51 29) ≤ v50 then some (Sum.inr (v49, s7_51))
  else zG (vp_in (((60 : Int32) * (gI s7_51 30)) + v50) 120) (
  if (gA s7_51 17 (((60 : Int32) * (gI s7_51 30)) + v50).toNatClampNeg) = v31 then zB (f_X7_kind s7_51 v50) (fun (r55 : Int32) =>
  zB (if r55 = (2 : Int32) then zB (f_X7_gate s7_51 v50 35) (fun (r83 : Int32) =>
  zG (vp_in v50 60) (
  zL (sA s7_51 35 (upd (gA s7_51 35) v50.toNatClampNeg r83)) (fun s7_89 =>
  some s7_89)))
  else some s7_51) (fun (s7_65 : SS) =>
  zB (f_X7_kind s7_65 v50) (fun (r66 : Int32) =>
  if r66 = (1 : Int32) then if v49 = (0 : Int32) then zL (v50 + 1) (fun v73 =>
  some (Sum.inl ((0 : Int32), v73, s7_65)))
  else zB (f_X7_drives s7_65 v50) (fun ((r74, s7_75) : Int32 × SS) =>
  if r74 = (0 : Int32) then zL (v50 + 1) (fun v80 =>
  some (Sum.inl ((0 : Int32), v80, s7_75)))
  else zL (v50 + 1) (fun v81 =>
  some (Sum.inl ((1 : Int32), v81, s7_75))))
  else zL (v50 + 1) (fun v71 =>
  some (Sum.inl (v49, v71, s7_65))))))
  else zL (v50 + 1) (fun v90 =>
  some (Sum.inl (v49, v90, s7_51))))
noncomputable def b_X7_goes_64 : (Int32 × Int32 × SS) → Option ((Int32 × Int32 × SS) ⊕ (Int32 × SS)) := fun (v30, v31, s7_32) =>
  if (gI s7_32 29) < v31 then zG (zb v30) (
  some (Sum.inr (v30, s7_32)))
  else if v30 = (0 : Int32) then zG (zb v30) (
  some (Sum.inr (v30, s7_32)))
  else zB (zI (b_X7_goes_79 v31) zF (v30, (0 : Int32), s7_32)) (fun ((v46, s7_47) : Int32 × SS) =>
  zL (v31 + 1) (fun v48 =>
  some (Sum.inl (v46, v48, s7_47))))
noncomputable def b_X7_goes_30 (p1 : Int32) : (Int32 × SS) → Option ((Int32 × SS) ⊕ (SS)) := fun (v91, s7_92) =>
  if (gI s7_92 39) ≤ v91 then some (Sum.inr s7_92)
  else zG (vp_in v91 60) (
  zG (vp_in (gA s7_92 38 v91.toNatClampNeg) 60) (
  zL (sA s7_92 35 (upd (gA s7_92 35) (gA s7_92 38 v91.toNatClampNeg).toNatClampNeg ((p1 >>> (v91 &&& 31)) &&& (1 : Int32)))) (fun s7_97 =>
  zL (v91 + 1) (fun v98 =>
  some (Sum.inl (v98, s7_97))))))
noncomputable def b_X7_goes_2 : (Int32 × SS) → Option ((Int32 × SS) ⊕ (SS)) := fun (v99, s7_100) =>
  if (gI s7_100 29) ≤ v99 then some (Sum.inr s7_100)
  else zG (vp_in v99 60) (
  zL (sA s7_100 35 (upd (gA s7_100 35) v99.toNatClampNeg (gA s7_100 33 v99.toNatClampNeg))) (fun s7_104 =>
  zL (v99 + 1) (fun v105 =>
  some (Sum.inl (v105, s7_104)))))
noncomputable def f_X7_goes (S7 : SS) (p1 : Int32) : Option (Int32 × SS) :=
  zB (zI (b_X7_goes_2) zF ((0 : Int32), S7)) (fun (s7_10 : SS) =>
  zB (zI (b_X7_goes_30 p1) zF ((0 : Int32), s7_10)) (fun (s7_20 : SS) =>
  zI (b_X7_goes_64) zF ((1 : Int32), (0 : Int32), s7_20)))

noncomputable def f_X7_worlds (S7 : SS) : Option (Int32 × SS) :=
  zB (f_X7_find S7) (fun (s7_1 : SS) =>
  if (gI s7_1 39) ≤ (12 : Int32) then some (((1 : Int32) <<< ((gI s7_1 39) &&& 31)), s7_1)
  else some ((-2 : Int32), s7_1))

noncomputable def b_X7_legal_20 : (Int32 × Int32 × SS) → Option ((Int32 × Int32 × SS) ⊕ (Int32 × SS)) := fun (v15, v16, s7_17) =>
  if ((1 : Int32) <<< ((gI s7_17 39) &&& 31)) ≤ v16 then some (Sum.inr (v15, s7_17))
  else zB (f_X7_goes s7_17 v16) (fun ((r19, s7_20) : Int32 × SS) =>
  if r19 = (0 : Int32) then zL (v15 + (0 : Int32)) (fun v25 =>
  zL (v16 + 1) (fun v26 =>
  some (Sum.inl (v25, v26, s7_20))))
  else zL (v15 + (1 : Int32)) (fun v27 =>
  zL (v16 + 1) (fun v28 =>
  some (Sum.inl (v27, v28, s7_20)))))
noncomputable def f_X7_legal (S7 : SS) : Option (Int32 × SS) :=
  zB (f_X7_find S7) (fun (s7_1 : SS) =>
  if (gI s7_1 39) ≤ (12 : Int32) then zI (b_X7_legal_20) zF ((0 : Int32), (0 : Int32), s7_1)
  else some ((-2 : Int32), s7_1))

noncomputable def b_X7_sharp_30 (p1 : Int32) : (Int32 × Int32 × SS) → Option ((Int32 × Int32 × SS) ⊕ (Int32 × SS)) := fun (v20, v21, s7_22) =>
  if ((1 : Int32) <<< ((gI s7_22 39) &&& 31)) ≤ v21 then some (Sum.inr (v20, s7_22))
  else zB (f_X7_goes s7_22 v21) (fun ((r24, s7_25) : Int32 × SS) =>
  if r24 = (0 : Int32) then zL (v21 + 1) (fun v30 =>
  some (Sum.inl (v20, v30, s7_25)))
  else if v20 = (3 : Int32) then zG (vp_in p1 60) (
  zL (gA s7_25 35 p1.toNatClampNeg) (fun v33 =>
  zL (v21 + 1) (fun v34 =>
  some (Sum.inl (v33, v34, s7_25)))))
  else zG (vp_in p1 60) (
  if v20 = (gA s7_25 35 p1.toNatClampNeg) then zL (gA s7_25 35 p1.toNatClampNeg) (fun v38 =>
  zL (v21 + 1) (fun v39 =>
  some (Sum.inl (v38, v39, s7_25))))
  else zL (v21 + 1) (fun v37 =>
  some (Sum.inl ((2 : Int32), v37, s7_25)))))
noncomputable def f_X7_sharp (S7 : SS) (p1 : Int32) : Option (Int32 × SS) :=
  zB (f_X7_isNode S7 p1) (fun (r1 : Int32) =>
  if r1 = (0 : Int32) then some ((-1 : Int32), S7)
  else zB (f_X7_find S7) (fun (s7_6 : SS) =>
  if (gI s7_6 39) ≤ (12 : Int32) then zI (b_X7_sharp_30 p1) zF ((3 : Int32), (0 : Int32), s7_6)
  else some ((-2 : Int32), s7_6)))

noncomputable def b_X7_gainsaid_43 (s7_20 : SS) : (Int32 × Int32) → Option ((Int32 × Int32) ⊕ (Int32)) := fun (v36, v37) =>
  if (gI s7_20 29) ≤ v37 then some (Sum.inr v36)
  else zS (if v36 < (0 : Int32) then some (Sum.inr ())
  else if v36 ≤ v37 then some (Sum.inl (Sum.inr v36))
  else some (Sum.inr ())) (fun (_ : Unit) =>
  zG (vp_in v37 60) (
  if (2 : Int32) ≤ (gA s7_20 34 v37.toNatClampNeg) then zL (v37 + 1) (fun v47 =>
  some (Sum.inl (v36, v47)))
  else if (gA s7_20 35 v37.toNatClampNeg) = (gA s7_20 34 v37.toNatClampNeg) then zL (v37 + 1) (fun v49 =>
  some (Sum.inl (v36, v49)))
  else zL (v37 + 1) (fun v50 =>
  some (Sum.inl (v37, v50)))))
noncomputable def b_X7_gainsaid_20 : (Int32 × Int32 × SS) → Option ((Int32 × Int32 × SS) ⊕ (Int32 × SS)) := fun (v15, v16, s7_17) =>
  if ((1 : Int32) <<< ((gI s7_17 39) &&& 31)) ≤ v16 then some (Sum.inr (v15, s7_17))
  else zB (f_X7_goes s7_17 v16) (fun ((r19, s7_20) : Int32 × SS) =>
  if r19 = (0 : Int32) then zL (v16 + 1) (fun v53 =>
  some (Sum.inl (v15, v53, s7_20)))
  else zB (zI (b_X7_gainsaid_43 s7_20) zF (v15, (0 : Int32))) (fun (v34 : Int32) =>
  zL (v16 + 1) (fun v35 =>
  some (Sum.inl (v34, v35, s7_20)))))
noncomputable def f_X7_gainsaid (S7 : SS) : Option (Int32 × SS) :=
  zB (f_X7_find S7) (fun (s7_1 : SS) =>
  if (gI s7_1 39) ≤ (12 : Int32) then zI (b_X7_gainsaid_20) zF ((-1 : Int32), (0 : Int32), s7_1)
  else some ((-2 : Int32), s7_1))

noncomputable def b_X7_flicker_114 (s7_32 : SS) : (Int32 × Int32) → Option ((Int32 × Int32) ⊕ (Int32 × SS)) := fun (v45, v46) =>
  if (gI s7_32 29) ≤ v46 then some (Sum.inr ((-1 : Int32), s7_32))
  else zG (vp_in v46 60) (
  if (1 : Int32) < (gA s7_32 34 v46.toNatClampNeg) then zL (v46 + 1) (fun v50 =>
  some (Sum.inl (v45, v50)))
  else if (gA s7_32 34 v46.toNatClampNeg) = (gA s7_32 36 v46.toNatClampNeg) then if (gA s7_32 37 v46.toNatClampNeg) = (2 : Int32) then if v45 = (0 : Int32) then some (Sum.inr (v46, s7_32))
  else zL (v45 + Int32.ofInt (-1)) (fun v55 =>
  zL (v46 + 1) (fun v56 =>
  some (Sum.inl (v55, v56))))
  else zL (v46 + 1) (fun v57 =>
  some (Sum.inl (v45, v57)))
  else zL (v46 + 1) (fun v52 =>
  some (Sum.inl (v45, v52))))
noncomputable def b_X7_flicker_34 : (Int32 × SS) → Option ((Int32 × SS) ⊕ (SS)) := fun (v58, s7_59) =>
  if (gI s7_59 29) ≤ v58 then some (Sum.inr s7_59)
  else zG (vp_in v58 60) (
  zL (sA s7_59 36 (upd (gA s7_59 36) v58.toNatClampNeg (gA s7_59 33 v58.toNatClampNeg))) (fun s7_63 =>
  zL (sA s7_63 37 (upd (gA s7_63 37) v58.toNatClampNeg (gA s7_63 33 v58.toNatClampNeg))) (fun s7_65 =>
  zL (v58 + 1) (fun v66 =>
  some (Sum.inl (v66, s7_65))))))
noncomputable def f_X7_flicker (S7 : SS) (p1 : Int32) (p2 : Int32) : Option (Int32 × SS) :=
  zB (f_X7_isNode S7 p1) (fun (r1 : Int32) =>
  if r1 = (0 : Int32) then some ((-1 : Int32), S7)
  else zB (f_X7_kind S7 p1) (fun (r6 : Int32) =>
  if r6 = (0 : Int32) then zG (vp_in p1 60) (
  if (1 : Int32) < (gA S7 33 p1.toNatClampNeg) then some ((-1 : Int32), S7)
  else if (0 : Int32) ≤ p2 then zB (zI (b_X7_flicker_34) zF ((0 : Int32), S7)) (fun (s7_23 : SS) =>
  zL (sA s7_23 36 (upd (gA s7_23 36) p1.toNatClampNeg ((1 : Int32) - (gA s7_23 33 p1.toNatClampNeg)))) (fun s7_25 =>
  zL (sA s7_25 37 (upd (gA s7_25 37) p1.toNatClampNeg (2 : Int32))) (fun s7_27 =>
  zB (f_X7_follow s7_27 36) (fun (s7_28 : SS) =>
  zB (f_X7_follow s7_28 37) (fun (s7_32 : SS) =>
  zI (b_X7_flicker_114 s7_32) zF (p2, (0 : Int32)))))))
  else some ((-1 : Int32), S7))
  else some ((-1 : Int32), S7)))

noncomputable def b_X7_wheel_65 (v16 : Int32) : (Int32 × SS) → Option ((Int32 × SS) ⊕ (SS)) := fun (v39, s7_40) =>
  if (10 : Int32) ≤ v39 then some (Sum.inr s7_40)
  else zG (vp_in (((10 : Int32) * v16) + v39) 600) (
  zL (sA s7_40 42 (upd (gA s7_40 42) (((10 : Int32) * v16) + v39).toNatClampNeg (-1 : Int32))) (fun s7_44 =>
  zL (v39 + 1) (fun v45 =>
  some (Sum.inl (v45, s7_44)))))
noncomputable def b_X7_wheel_17 : (Int32 × SS) → Option ((Int32 × SS) ⊕ (Int32 × SS)) := fun (v16, s7_17) =>
  if (gI s7_17 29) ≤ v16 then some (Sum.inr ((1 : Int32), s7_17))
  else zG (vp_in v16 60) (
  zL (sA s7_17 40 (upd (gA s7_17 40) v16.toNatClampNeg (gA s7_17 34 v16.toNatClampNeg))) (fun s7_21 =>
  zL (sA s7_21 41 (upd (gA s7_21 41) v16.toNatClampNeg (gA s7_21 34 v16.toNatClampNeg))) (fun s7_23 =>
  zL (sA s7_23 45 (upd (gA s7_23 45) v16.toNatClampNeg (vp_nar .boolean (0 : Int32)))) (fun s7_25 =>
  zL (sA s7_25 44 (upd (gA s7_25 44) v16.toNatClampNeg (0 : Int32))) (fun s7_27 =>
  zB (zI (b_X7_wheel_65 v16) zF ((0 : Int32), s7_27)) (fun (s7_37 : SS) =>
  zL (v16 + 1) (fun v38 =>
  some (Sum.inl (v38, s7_37)))))))))
noncomputable def f_X7_wheel (S7 : SS) : Option (Int32 × SS) :=
  zL (sI S7 46 (1 : Int32)) (fun s7_2 =>
  zL (sI s7_2 47 (0 : Int32)) (fun s7_4 =>
  zL (sI s7_4 48 (0 : Int32)) (fun s7_6 =>
  zI (b_X7_wheel_17) zF ((0 : Int32), s7_6))))

noncomputable def f_X7_change (S7 : SS) (p1 : Int32) (p2 : Int32) : Option (SS) :=
  zG (vp_in p1 60) (
  zL (sA S7 40 (upd (gA S7 40) p1.toNatClampNeg p2)) (fun s7_3 =>
  zL (sA s7_3 45 (upd (gA s7_3 45) p1.toNatClampNeg (vp_nar .boolean (1 : Int32)))) (fun s7_5 =>
  zB (if (20 : Int32) ≤ (gA s7_5 44 p1.toNatClampNeg) then some s7_5
  else zG (vp_in (((20 : Int32) * p1) + (gA s7_5 44 p1.toNatClampNeg)) 1200) (
  zL (sA s7_5 43 (upd (gA s7_5 43) (((20 : Int32) * p1) + (gA s7_5 44 p1.toNatClampNeg)).toNatClampNeg (((4 : Int32) * (gI s7_5 47)) + p2))) (fun s7_18 =>
  some s7_18))) (fun (s7_12 : SS) =>
  zL (sA s7_12 44 (upd (gA s7_12 44) p1.toNatClampNeg ((gA s7_12 44 p1.toNatClampNeg) + (1 : Int32)))) (fun s7_14 =>
  some s7_14)))))

noncomputable def f_X7_put (S7 : SS) (p1 : Int32) (p2 : Int32) : Option (Int32 × SS) :=
  if (gI S7 46) = (0 : Int32) then some ((0 : Int32), S7)
  else zB (f_X7_isNode S7 p1) (fun (r2 : Int32) =>
  if r2 = (0 : Int32) then some ((0 : Int32), S7)
  else zB (f_X7_kind S7 p1) (fun (r7 : Int32) =>
  if r7 = (0 : Int32) then if p2 < (0 : Int32) then some ((0 : Int32), S7)
  else if p2 ≤ (3 : Int32) then zG (vp_in p1 60) (
  if (gA S7 40 p1.toNatClampNeg) = p2 then some ((1 : Int32), S7)
  else zB (f_X7_change S7 p1 p2) (fun (s7_16 : SS) =>
  some ((1 : Int32), s7_16)))
  else some ((0 : Int32), S7)
  else some ((0 : Int32), S7)))

noncomputable def b_X7_hasChanged_4 (S7 : SS) (p1 : Int32) : (Int32 × Int32) → Option ((Int32 × Int32) ⊕ (Int32)) := fun (v10, v11) =>
  zB (f_X7_hangs S7 (((60 : Int32) * (gI S7 30)) + p1)) (fun (r12 : Int32) =>
  if r12 ≤ v11 then zG (zb v10) (
  some (Sum.inr v10))
  else if v10 = (0 : Int32) then zB (f_X7_in S7 p1 v11) (fun (r20 : Int32) =>
  zG (vp_in r20 60) (
  if (gA S7 45 r20.toNatClampNeg) = (0 : Int32) then zL (v11 + 1) (fun v26 =>
  some (Sum.inl ((0 : Int32), v26)))
  else zL (v11 + 1) (fun v27 =>
  some (Sum.inl ((1 : Int32), v27)))))
  else zL (v11 + 1) (fun v19 =>
  some (Sum.inl ((1 : Int32), v19))))
noncomputable def f_X7_hasChanged (S7 : SS) (p1 : Int32) : Option (Int32) :=
  zI (b_X7_hasChanged_4 S7 p1) zF ((0 : Int32), (0 : Int32))

noncomputable def b_X7_looks_236 (v10 : Int32) : (Int32 × SS) → Option ((Int32 × SS) ⊕ (Int32 × SS)) := fun (v31, s7_32) =>
  if (gI s7_32 29) ≤ v31 then some (Sum.inr (v10, s7_32))
  else zG (vp_in v31 60) (
  zL (sA s7_32 45 (upd (gA s7_32 45) v31.toNatClampNeg (vp_nar .boolean (0 : Int32)))) (fun s7_36 =>
  zL (v31 + 1) (fun v37 =>
  some (Sum.inl (v37, s7_36)))))
noncomputable def b_X7_looks_109 : (Int32 × SS) → Option ((Int32 × SS) ⊕ (SS)) := fun (v38, s7_39) =>
  if (gI s7_39 29) ≤ v38 then some (Sum.inr s7_39)
  else zB (f_X7_kind s7_39 v38) (fun (r41 : Int32) =>
  if r41 = (2 : Int32) then zB (f_X7_hasChanged s7_39 v38) (fun (r47 : Int32) =>
  if r47 = (0 : Int32) then zL (v38 + 1) (fun v77 =>
  some (Sum.inl (v77, s7_39)))
  else zB (f_X7_gate s7_39 v38 40) (fun (r52 : Int32) =>
  zG (vp_in v38 60) (
  if r52 = (gA s7_39 41 v38.toNatClampNeg) then zL (v38 + 1) (fun v76 =>
  some (Sum.inl (v76, s7_39)))
  else zL (sA s7_39 41 (upd (gA s7_39 41) v38.toNatClampNeg r52)) (fun s7_59 =>
  zG (vp_in (((60 : Int32) * (gI s7_59 30)) + v38) 120) (
  zL (((10 : Int32) * v38) + (((gI s7_59 47) + (gA s7_59 15 (((60 : Int32) * (gI s7_59 30)) + v38).toNatClampNeg)) - ((gI s7_59 47) + (gA s7_59 15 (((60 : Int32) * (gI s7_59 30)) + v38).toNatClampNeg)) / (10 : Int32) * (10 : Int32))) (fun v61 =>
  zG (vp_in v61 600) (
  zB (if (0 : Int32) ≤ (gA s7_59 42 v61.toNatClampNeg) then some (0 : Int32)
  else some (1 : Int32)) (fun (v69 : Int32) =>
  zL (sI s7_59 48 ((gI s7_59 48) + v69)) (fun s7_71 =>
  zL (sA s7_71 42 (upd (gA s7_71 42) v61.toNatClampNeg r52)) (fun s7_73 =>
  zL (v38 + 1) (fun v74 =>
  some (Sum.inl (v74, s7_73)))))))))))))
  else zL (v38 + 1) (fun v46 =>
  some (Sum.inl (v46, s7_39))))
noncomputable def b_X7_looks_14 (v79 : Int32) : (Int32 × Int32 × SS) → Option ((Int32 × Int32 × SS) ⊕ (Int32 × SS)) := fun (v94, v95, s7_96) =>
  if (gI s7_96 29) ≤ v95 then some (Sum.inr (v94, s7_96))
  else zG (vp_in (((60 : Int32) * (gI s7_96 30)) + v95) 120) (
  if (gA s7_96 17 (((60 : Int32) * (gI s7_96 30)) + v95).toNatClampNeg) = v79 then zB (f_X7_kind s7_96 v95) (fun (r101 : Int32) =>
  if r101 = (1 : Int32) then zB (f_X7_bus s7_96 v95 40) (fun (r106 : Int32) =>
  zG (vp_in v95 60) (
  if r106 = (gA s7_96 40 v95.toNatClampNeg) then zL (v95 + 1) (fun v112 =>
  some (Sum.inl (v94, v112, s7_96)))
  else zB (f_X7_hasChanged s7_96 v95) (fun (r113 : Int32) =>
  if r113 = (0 : Int32) then zL (v95 + 1) (fun v124 =>
  some (Sum.inl (v94, v124, s7_96)))
  else zB (f_X7_change s7_96 v95 r106) (fun (s7_118 : SS) =>
  zL (v94 + 1) (fun v122 =>
  zL (v95 + 1) (fun v123 =>
  some (Sum.inl (v122, v123, s7_118))))))))
  else zL (v95 + 1) (fun v125 =>
  some (Sum.inl (v94, v125, s7_96))))
  else zL (v95 + 1) (fun v100 =>
  some (Sum.inl (v94, v100, s7_96))))
noncomputable def b_X7_looks_4 : (Int32 × Int32 × SS) → Option ((Int32 × Int32 × SS) ⊕ (Int32 × SS)) := fun (v78, v79, s7_80) =>
  if (gI s7_80 29) < v79 then some (Sum.inr (v78, s7_80))
  else zB (zI (b_X7_looks_14 v79) zF (v78, (0 : Int32), s7_80)) (fun ((v91, s7_92) : Int32 × SS) =>
  zL (v79 + 1) (fun v93 =>
  some (Sum.inl (v91, v93, s7_92))))
noncomputable def f_X7_looks (S7 : SS) : Option (Int32 × SS) :=
  zB (zI (b_X7_looks_4) zF ((0 : Int32), (0 : Int32), S7)) (fun ((v10, s7_11) : Int32 × SS) =>
  zB (zI (b_X7_looks_109) zF ((0 : Int32), s7_11)) (fun (s7_21 : SS) =>
  zI (b_X7_looks_236 v10) zF ((0 : Int32), s7_21)))

noncomputable def b_X7_run_45 : (Int32 × Int32 × SS) → Option ((Int32 × Int32 × SS) ⊕ (Int32 × SS)) := fun (v42, v43, s7_44) =>
  if (gI s7_44 29) ≤ v43 then some (Sum.inr (v42, s7_44))
  else zL (((10 : Int32) * v43) + ((gI s7_44 47) - (gI s7_44 47) / (10 : Int32) * (10 : Int32))) (fun v46 =>
  zG (vp_in v46 600) (
  if (0 : Int32) ≤ (gA s7_44 42 v46.toNatClampNeg) then zL (gA s7_44 42 v46.toNatClampNeg) (fun v49 =>
  zL (sA s7_44 42 (upd (gA s7_44 42) v46.toNatClampNeg (-1 : Int32))) (fun s7_51 =>
  zL (sI s7_51 48 ((gI s7_51 48) - (1 : Int32))) (fun s7_53 =>
  zG (vp_in v43 60) (
  if v49 = (gA s7_53 40 v43.toNatClampNeg) then zL (v43 + 1) (fun v62 =>
  some (Sum.inl (v42, v62, s7_53)))
  else zB (f_X7_change s7_53 v43 v49) (fun (s7_56 : SS) =>
  zL (v42 + 1) (fun v60 =>
  zL (v43 + 1) (fun v61 =>
  some (Sum.inl (v60, v61, s7_56)))))))))
  else zL (v43 + 1) (fun v63 =>
  some (Sum.inl (v42, v63, s7_44)))))
noncomputable def b_X7_run_27 (p1 : Int32) : (Int32 × Int32 × SS) → Option ((Int32 × Int32 × SS) ⊕ (Int32 × SS)) := fun (v18, v19, s7_20) =>
  if p1 ≤ v19 then some (Sum.inr (v18, s7_20))
  else zL (sI s7_20 47 ((gI s7_20 47) + (1 : Int32))) (fun s7_23 =>
  zB (zI (b_X7_run_45) zF (v18, (0 : Int32), s7_23)) (fun ((v33, s7_34) : Int32 × SS) =>
  zB (f_X7_looks s7_34) (fun ((r35, s7_36) : Int32 × SS) =>
  zL (v33 + r35) (fun v40 =>
  zL (v19 + 1) (fun v41 =>
  some (Sum.inl (v40, v41, s7_36)))))))
noncomputable def f_X7_run (S7 : SS) (p1 : Int32) : Option (Int32 × SS) :=
  if (gI S7 46) = (0 : Int32) then some ((-1 : Int32), S7)
  else if p1 < (0 : Int32) then some ((-1 : Int32), S7)
  else if p1 ≤ (1000 : Int32) then zB (f_X7_looks S7) (fun ((r4, s7_5) : Int32 × SS) =>
  zI (b_X7_run_27 p1) zF (r4, (0 : Int32), s7_5))
  else some ((-1 : Int32), S7)

noncomputable def f_X7_on (S7 : SS) (p1 : Int32) : Option (Int32) :=
  if (gI S7 46) = (0 : Int32) then some (-1 : Int32)
  else zB (f_X7_isNode S7 p1) (fun (r2 : Int32) =>
  if r2 = (0 : Int32) then some (-1 : Int32)
  else zG (vp_in p1 60) (
  some (gA S7 40 p1.toNatClampNeg)))

noncomputable def f_X7_wave (S7 : SS) (p1 : Int32) (p2 : Int32) : Option (Int32) :=
  if (gI S7 46) = (0 : Int32) then some (-1 : Int32)
  else zB (f_X7_isNode S7 p1) (fun (r2 : Int32) =>
  if r2 = (0 : Int32) then some (-1 : Int32)
  else if p2 < (0 : Int32) then some (-1 : Int32)
  else zG (vp_in p1 60) (
  if (gA S7 44 p1.toNatClampNeg) ≤ p2 then some (-1 : Int32)
  else if p2 < (20 : Int32) then zG (vp_in (((20 : Int32) * p1) + p2) 1200) (
  some (gA S7 43 (((20 : Int32) * p1) + p2).toNatClampNeg))
  else some (-1 : Int32)))

noncomputable def b_X7_isQuiet_15 (S7 : SS) : (Int32 × Int32) → Option ((Int32 × Int32) ⊕ (Int32)) := fun (v17, v18) =>
  if (gI S7 29) ≤ v18 then zG (zb v17) (
  some (Sum.inr v17))
  else if v17 = (0 : Int32) then zL (v18 + 1) (fun v22 =>
  some (Sum.inl ((0 : Int32), v22)))
  else zG (vp_in v18 60) (
  if (gA S7 45 v18.toNatClampNeg) = (0 : Int32) then zL (v18 + 1) (fun v26 =>
  some (Sum.inl ((1 : Int32), v26)))
  else zL (v18 + 1) (fun v25 =>
  some (Sum.inl ((0 : Int32), v25))))
noncomputable def f_X7_isQuiet (S7 : SS) : Option (Int32) :=
  zB (if (gI S7 48) = (0 : Int32) then some (1 : Int32)
  else some (0 : Int32)) (fun (v7 : Int32) =>
  zI (b_X7_isQuiet_15 S7) zF (v7, (0 : Int32)))

noncomputable def f_X7_about (S7 : SS) (p1 : Int32) : Option (Int32 × SS) :=
  zB (f_X7_find S7) (fun (s7_1 : SS) =>
  if p1 = (0 : Int32) then some ((gI s7_1 29), s7_1)
  else if p1 = (1 : Int32) then some ((gI s7_1 31), s7_1)
  else if p1 = (2 : Int32) then if (gI s7_1 46) = (0 : Int32) then some ((-1 : Int32), s7_1)
  else some ((gI s7_1 47), s7_1)
  else if p1 = (3 : Int32) then if (gI s7_1 46) = (0 : Int32) then some ((-1 : Int32), s7_1)
  else zB (f_X7_isQuiet s7_1) (fun (r11 : Int32) =>
  if r11 = (0 : Int32) then some ((0 : Int32), s7_1)
  else some ((1 : Int32), s7_1))
  else if p1 = (4 : Int32) then if (gI s7_1 46) = (0 : Int32) then some ((-1 : Int32), s7_1)
  else some ((gI s7_1 48), s7_1)
  else if p1 = (5 : Int32) then some ((gI s7_1 39), s7_1)
  else some ((-1 : Int32), s7_1))

noncomputable def b_X7_feed_18 (p1 : Int32) (p2 : Int32) (p3 : Int32) (p4 : Int32) (p5 : Int32) : (Int32 × SS) → Option ((Int32 × SS) ⊕ (SS)) := fun (v14, s7_15) =>
  if (20 : Int32) ≤ v14 then some (Sum.inr s7_15)
  else zB (if (4 : Int32) ≤ v14 then if (8 : Int32) ≤ v14 then if (12 : Int32) ≤ v14 then if (16 : Int32) ≤ v14 then some p5
  else some p4
  else some p3
  else some p2
  else some p1) (fun (v23 : Int32) =>
  zG (vp_in ((gI s7_15 2) + v14) 2020) (
  zL (sA s7_15 0 (upd (gA s7_15 0) ((gI s7_15 2) + v14).toNatClampNeg (vp_nar .byte (jB (v23 >>> (((24 : Int32) - ((8 : Int32) * (v14 &&& (3 : Int32)))) &&& 31)))))) (fun s7_26 =>
  zL (v14 + 1) (fun v27 =>
  some (Sum.inl (v27, s7_26))))))
noncomputable def f_X7_feed (S7 : SS) (p1 : Int32) (p2 : Int32) (p3 : Int32) (p4 : Int32) (p5 : Int32) : Option (Int32 × SS) :=
  if ((gI S7 2) + (20 : Int32)) ≤ (2000 : Int32) then zB (zI (b_X7_feed_18 p1 p2 p3 p4 p5) zF ((0 : Int32), S7)) (fun (s7_11 : SS) =>
  zL (sI s7_11 2 ((gI s7_11 2) + (20 : Int32))) (fun s7_13 =>
  some ((gI s7_13 2), s7_13)))
  else some ((-1 : Int32), S7)

noncomputable def f_X7_end (S7 : SS) (p1 : Int32) : Option (Int32 × SS) :=
  if p1 < (0 : Int32) then some ((-1 : Int32), S7)
  else if p1 ≤ (gI S7 2) then zL (sI S7 2 p1) (fun s7_4 =>
  some (p1, s7_4))
  else some ((-1 : Int32), S7)

