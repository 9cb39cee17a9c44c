noncomputable def f_X3_isHead (p1 : Int32) : Option (Int32) :=
  if p1 = (-1 : Int32) then some (1 : Int32)
  else if p1 = (-2 : Int32) then some (1 : Int32)
  else some (0 : Int32)

noncomputable def f_X3_go (S3 : SS) (p1 : Int32) : Option (Int32 × SS) :=
  zL (sI S3 4 p1) (fun s3_2 =>
  some ((1 : Int32), s3_2))

noncomputable def f_X3_beginTelling (S3 : SS) (p1 : Int32) : Option (Int32 × SS) :=
  zL (sI S3 5 p1) (fun s3_2 =>
  zB (f_X3_go s3_2 (1 : Int32)) (fun ((r3, s3_4) : Int32 × SS) =>
  zG (zb r3) (
  some (r3, s3_4))))

noncomputable def f_X3_failAt (S3 : SS) (p1 : Int32) (p2 : Int32) : Option (Int32 × SS) :=
  zL (sI S3 0 p1) (fun s3_2 =>
  zL (sI s3_2 1 p2) (fun s3_4 =>
  some ((0 : Int32), s3_4)))

noncomputable def f_X3_beginParts (S3 : SS) (p1 : Int32) (p2 : Int32) (p3 : Int32) : Option (Int32 × SS) :=
  zL (sI S3 8 p1) (fun s3_2 =>
  zL (sI s3_2 10 p2) (fun s3_4 =>
  zL (sI s3_4 11 p3) (fun s3_6 =>
  zL (sI s3_6 9 (0 : Int32)) (fun s3_8 =>
  zB (f_X3_go s3_8 (6 : Int32)) (fun ((r9, s3_10) : Int32 × SS) =>
  zG (zb r9) (
  some (r9, s3_10)))))))

noncomputable def f_X3_addUse (S3 : SS) (p1 : Int64) (p2 : Int32) (p3 : Int32) : Option (SS) :=
  if (gI S3 15) < (667 : Int32) then zG (vp_in (gI S3 15) 667) (
  zL (sB S3 12 (vp_updL (gB S3 12) (gI S3 15).toNatClampNeg p1)) (fun s3_4 =>
  zG (vp_in (gI s3_4 15) 667) (
  zL (sA s3_4 13 (upd (gA s3_4 13) (gI s3_4 15).toNatClampNeg p2)) (fun s3_7 =>
  zG (vp_in (gI s3_7 15) 667) (
  zL (sA s3_7 14 (upd (gA s3_7 14) (gI s3_7 15).toNatClampNeg p3)) (fun s3_10 =>
  zL (sI s3_10 15 ((gI s3_10 15) + (1 : Int32))) (fun s3_12 =>
  some s3_12)))))))
  else some S3

noncomputable def f_X3_isWord (S3 : SS) (S1 : SS) (p1 : Int64) : Option (Int32) :=
  if (gI S1 3) = (2 : Int32) then if (lg_cmp (gL S1 5) p1) = (0 : Int32) then some (1 : Int32)
  else some (0 : Int32)
  else some (0 : Int32)

noncomputable def b_X3_gateHere_2 (S1 : SS) : (Int32) → Option ((Int32) ⊕ (Int32)) := fun v10 =>
  if (9 : Int32) ≤ v10 then some (Sum.inr (-1 : Int32))
  else if (gI S1 3) = (2 : Int32) then zG (vp_in v10 9) (
  if (lg_cmp (gL S1 5) (sg_f v10.toNatClampNeg)) = (0 : Int32) then some (Sum.inr v10)
  else zL (v10 + 1) (fun v15 =>
  some (Sum.inl v15)))
  else some (Sum.inr (-1 : Int32))
noncomputable def f_X3_gateHere (S3 : SS) (S1 : SS) : Option (Int32) :=
  zI (b_X3_gateHere_2 S1) zF (0 : Int32)

noncomputable def f_X3_isName (S3 : SS) (S1 : SS) : Option (Int32) :=
  if (gI S1 3) = (2 : Int32) then zB (f_X3_gateHere S3 S1) (fun (r2 : Int32) =>
  if r2 = (-1 : Int32) then zL (gL S1 5) (fun v7 =>
  if (lg_cmp v7 (26990 : Int64)) = (0 : Int32) then some (0 : Int32)
  else if (lg_cmp v7 (6452595 : Int64)) = (0 : Int32) then some (0 : Int32)
  else if (lg_cmp v7 (7497063 : Int64)) = (0 : Int32) then some (0 : Int32)
  else if (lg_cmp v7 (6907441 : Int64)) = (0 : Int32) then some (0 : Int32)
  else if (lg_cmp v7 (6907440 : Int64)) = (0 : Int32) then some (0 : Int32)
  else some (1 : Int32))
  else some (0 : Int32))
  else some (0 : Int32)

noncomputable def f_X3_refuse (S3 : SS) (S1 : SS) : Option (Int32 × SS) :=
  zB (if (gI S1 3) = (0 : Int32) then some (1 : Int32)
  else some (2 : Int32)) (fun (v7 : Int32) =>
  zB (f_X3_failAt S3 v7 (gI S1 4)) (fun ((r8, s3_9) : Int32 × SS) =>
  zG (zb r8) (
  some (r8, s3_9))))

noncomputable def f_X3_endLine (S3 : SS) (S1 : SS) : Option (Int32 × SS) :=
  if (gI S1 3) = (59 : Int32) then zB (f_X3_go S3 (0 : Int32)) (fun ((r8, s3_9) : Int32 × SS) =>
  zG (zb r8) (
  some (r8, s3_9)))
  else zB (f_X3_refuse S3 S1) (fun ((r2, s3_3) : Int32 × SS) =>
  zG (zb r2) (
  some (r2, s3_3)))

noncomputable def f_X3_beginLine (S3 : SS) (S1 : SS) : Option (Int32 × SS) :=
  zB (f_X3_isWord S3 S1 (26990 : Int64)) (fun (r1 : Int32) =>
  if r1 = (0 : Int32) then zB (f_X3_isWord S3 S1 (6452595 : Int64)) (fun (r6 : Int32) =>
  if r6 = (0 : Int32) then zB (f_X3_isWord S3 S1 (7497063 : Int64)) (fun (r11 : Int32) =>
  if r11 = (0 : Int32) then zB (f_X3_isName S3 S1) (fun (r16 : Int32) =>
  if r16 = (0 : Int32) then zB (f_X3_refuse S3 S1) (fun ((r31, s3_32) : Int32 × SS) =>
  zG (zb r31) (
  some (r31, s3_32)))
  else zL (sL S3 6 (gL S1 5)) (fun s3_22 =>
  zL (sI s3_22 7 (gI S1 4)) (fun s3_24 =>
  zB (f_X3_go s3_24 (3 : Int32)) (fun ((r25, s3_26) : Int32 × SS) =>
  zG (zb r25) (
  some (r25, s3_26))))))
  else zB (f_X3_beginTelling S3 (3 : Int32)) (fun ((r37, s3_38) : Int32 × SS) =>
  zG (zb r37) (
  some (r37, s3_38))))
  else zB (f_X3_beginTelling S3 (1 : Int32)) (fun ((r43, s3_44) : Int32 × SS) =>
  zG (zb r43) (
  some (r43, s3_44))))
  else zB (f_X3_beginTelling S3 (0 : Int32)) (fun ((r49, s3_50) : Int32 × SS) =>
  zG (zb r49) (
  some (r49, s3_50))))

noncomputable def f_X3_takeDriver (S3 : SS) (S1 : SS) : Option (Int32 × SS) :=
  zB (f_X3_isWord S3 S1 (6907441 : Int64)) (fun (r1 : Int32) =>
  if r1 = (0 : Int32) then zB (f_X3_isWord S3 S1 (6907440 : Int64)) (fun (r28 : Int32) =>
  if r28 = (0 : Int32) then zB (f_X3_refuse S3 S1) (fun ((r55, s3_56) : Int32 × SS) =>
  zG (zb r55) (
  some (r55, s3_56)))
  else zB (f_X3_isWord S3 S1 (6907440 : Int64)) (fun (r33 : Int32) =>
  zB (if r33 = (0 : Int32) then some (-1 : Int32)
  else some (-2 : Int32)) (fun (v43 : Int32) =>
  zB (f_X3_addUse S3 (gL S3 6) (gI S3 7) v43) (fun (s3_44 : SS) =>
  zB (f_X3_beginParts s3_44 (-3 : Int32) (2 : Int32) (2 : Int32)) (fun ((r48, s3_49) : Int32 × SS) =>
  zG (zb r48) (
  some (r48, s3_49)))))))
  else zB (f_X3_isWord S3 S1 (6907440 : Int64)) (fun (r6 : Int32) =>
  zB (if r6 = (0 : Int32) then some (-1 : Int32)
  else some (-2 : Int32)) (fun (v16 : Int32) =>
  zB (f_X3_addUse S3 (gL S3 6) (gI S3 7) v16) (fun (s3_17 : SS) =>
  zB (f_X3_beginParts s3_17 (-3 : Int32) (2 : Int32) (2 : Int32)) (fun ((r21, s3_22) : Int32 × SS) =>
  zG (zb r21) (
  some (r21, s3_22)))))))

noncomputable def f_X3_takePart (S3 : SS) (S1 : SS) : Option (Int32 × SS) :=
  zB (f_X3_isName S3 S1) (fun (r1 : Int32) =>
  if r1 = (0 : Int32) then zB (f_X3_refuse S3 S1) (fun ((r6, s3_7) : Int32 × SS) =>
  zG (zb r6) (
  some (r6, s3_7)))
  else if (gI S3 9) < (gI S3 11) then zB (f_X3_addUse S3 (gL S1 5) (gI S1 4) (gI S3 8)) (fun (s3_13 : SS) =>
  zL (sI s3_13 9 ((gI s3_13 9) + (1 : Int32))) (fun s3_18 =>
  zB (f_X3_go s3_18 (8 : Int32)) (fun ((r19, s3_20) : Int32 × SS) =>
  zG (zb r19) (
  some (r19, s3_20)))))
  else zB (f_X3_refuse S3 S1) (fun ((r25, s3_26) : Int32 × SS) =>
  zG (zb r25) (
  some (r25, s3_26))))

noncomputable def f_X3_behindPart (S3 : SS) (S1 : SS) : Option (Int32 × SS) :=
  if (gI S1 3) = (44 : Int32) then if (gI S3 5) = (2 : Int32) then zB (f_X3_go S3 (7 : Int32)) (fun ((r31, s3_32) : Int32 × SS) =>
  zG (zb r31) (
  some (r31, s3_32)))
  else if (gI S3 11) ≤ (gI S3 9) then if (gI S1 3) = (41 : Int32) then if (gI S3 9) < (gI S3 10) then zB (f_X3_refuse S3 S1) (fun ((r46, s3_47) : Int32 × SS) =>
  zG (zb r46) (
  some (r46, s3_47)))
  else zB (if (gI S3 5) = (2 : Int32) then some (9 : Int32)
  else some (10 : Int32)) (fun (v58 : Int32) =>
  zB (f_X3_go S3 v58) (fun ((r59, s3_60) : Int32 × SS) =>
  zG (zb r59) (
  some (r59, s3_60))))
  else zB (f_X3_refuse S3 S1) (fun ((r39, s3_40) : Int32 × SS) =>
  zG (zb r39) (
  some (r39, s3_40)))
  else zB (f_X3_go S3 (7 : Int32)) (fun ((r66, s3_67) : Int32 × SS) =>
  zG (zb r66) (
  some (r66, s3_67)))
  else if (gI S1 3) = (41 : Int32) then if (gI S3 9) < (gI S3 10) then zB (f_X3_refuse S3 S1) (fun ((r10, s3_11) : Int32 × SS) =>
  zG (zb r10) (
  some (r10, s3_11)))
  else zB (if (gI S3 5) = (2 : Int32) then some (9 : Int32)
  else some (10 : Int32)) (fun (v22 : Int32) =>
  zB (f_X3_go S3 v22) (fun ((r23, s3_24) : Int32 × SS) =>
  zG (zb r23) (
  some (r23, s3_24))))
  else zB (f_X3_refuse S3 S1) (fun ((r3, s3_4) : Int32 × SS) =>
  zG (zb r3) (
  some (r3, s3_4)))

noncomputable def f_X3_tell (S3 : SS) (S0 : SS) (p1 : Int64) (p2 : Int32) (p3 : Int32) : Option (Int32 × SS × SS) :=
  if (gI S0 0) < (60 : Int32) then zB (f_X0_find S0 p1) (fun (r2 : Int32) =>
  if r2 = (-1 : Int32) then zB (f_X0_add S0 p1 p2 p3) (fun (s0_7 : SS) =>
  some ((1 : Int32), S3, s0_7))
  else zB (f_X3_failAt S3 (3 : Int32) p2) (fun ((r11, s3_12) : Int32 × SS) =>
  zG (zb r11) (
  some (r11, s3_12, S0))))
  else zB (f_X3_failAt S3 (2 : Int32) p2) (fun ((r17, s3_18) : Int32 × SS) =>
  zG (zb r17) (
  some (r17, s3_18, S0)))

noncomputable def b_X3_checkDrivers_4 (S3 : SS) : (Int32 × Int32) → Option ((Int32 × Int32) ⊕ (Int32)) := fun (v18, v19) =>
  if (gI S3 15) ≤ v19 then some (Sum.inr v18)
  else zG (vp_in v19 667) (
  zB (f_X3_isHead (gA S3 14 v19.toNatClampNeg)) (fun (r22 : Int32) =>
  if r22 = (0 : Int32) then zL (v19 + 1) (fun v27 =>
  some (Sum.inl (v18, v27)))
  else if (lg_cmp (gB S3 12 v19.toNatClampNeg) (gL S3 6)) = (0 : Int32) then zL (v18 + 1) (fun v30 =>
  zL (v19 + 1) (fun v31 =>
  some (Sum.inl (v30, v31))))
  else zL (v19 + 1) (fun v29 =>
  some (Sum.inl (v18, v29)))))
noncomputable def f_X3_checkDrivers (S3 : SS) : Option (Int32 × SS) :=
  zB (zI (b_X3_checkDrivers_4 S3) zF ((0 : Int32), (0 : Int32))) (fun (v10 : Int32) =>
  if v10 < (6 : Int32) then some ((1 : Int32), S3)
  else zB (f_X3_failAt S3 (2 : Int32) (gI S3 7)) (fun ((r12, s3_13) : Int32 × SS) =>
  if r12 = (0 : Int32) then some ((0 : Int32), s3_13)
  else some ((1 : Int32), s3_13)))

noncomputable def f_X3_tellHere (S3 : SS) (S1 : SS) (S0 : SS) : Option (Int32 × SS × SS) :=
  zB (f_X3_isName S3 S1) (fun (r1 : Int32) =>
  if r1 = (0 : Int32) then zB (f_X3_refuse S3 S1) (fun ((r26, s3_27) : Int32 × SS) =>
  zG (zb r26) (
  some (r26, s3_27, S0)))
  else zB (f_X3_tell S3 S0 (gL S1 5) (gI S1 4) (gI S3 5)) (fun ((r6, s3_7, s0_8) : Int32 × SS × SS) =>
  if r6 = (0 : Int32) then some ((0 : Int32), s3_7, s0_8)
  else if (gI s3_7 5) = (3 : Int32) then zB (f_X3_beginParts s3_7 ((gI s0_8 0) - (1 : Int32)) (1 : Int32) (2 : Int32)) (fun ((r20, s3_21) : Int32 × SS) =>
  zG (zb r20) (
  some (r20, s3_21, s0_8)))
  else zB (f_X3_go s3_7 (2 : Int32)) (fun ((r14, s3_15) : Int32 × SS) =>
  zG (zb r14) (
  some (r14, s3_15, s0_8)))))

noncomputable def f_X3_tellOrDrive (S3 : SS) (S1 : SS) (S0 : SS) : Option (Int32 × SS × SS) :=
  if (gI S1 3) = (61 : Int32) then zL (sI S3 5 (2 : Int32)) (fun s3_24 =>
  zB (f_X3_tell s3_24 S0 (gL s3_24 6) (gI s3_24 7) (2 : Int32)) (fun ((r25, s3_26, s0_27) : Int32 × SS × SS) =>
  if r25 = (0 : Int32) then some ((0 : Int32), s3_26, s0_27)
  else zB (f_X3_go s3_26 (4 : Int32)) (fun ((r32, s3_33) : Int32 × SS) =>
  if r32 = (0 : Int32) then some ((0 : Int32), s3_33, s0_27)
  else some ((1 : Int32), s3_33, s0_27))))
  else if (gI S1 3) = (60 : Int32) then zL (sI S3 5 (4 : Int32)) (fun s3_10 =>
  zB (f_X3_checkDrivers s3_10) (fun ((r11, s3_12) : Int32 × SS) =>
  if r11 = (0 : Int32) then some ((0 : Int32), s3_12, S0)
  else zB (f_X3_go s3_12 (5 : Int32)) (fun ((r17, s3_18) : Int32 × SS) =>
  if r17 = (0 : Int32) then some ((0 : Int32), s3_18, S0)
  else some ((1 : Int32), s3_18, S0))))
  else zB (f_X3_refuse S3 S1) (fun ((r3, s3_4) : Int32 × SS) =>
  zG (zb r3) (
  some (r3, s3_4, S0)))

noncomputable def f_X3_takeGate (S3 : SS) (S1 : SS) (S0 : SS) : Option (Int32 × SS × SS) :=
  zL ((gI S0 0) - (1 : Int32)) (fun v1 =>
  zB (f_X3_gateHere S3 S1) (fun (r2 : Int32) =>
  if r2 = (-1 : Int32) then zB (f_X3_refuse S3 S1) (fun ((r7, s3_8) : Int32 × SS) =>
  zG (zb r7) (
  some (r7, s3_8, S0)))
  else zB (f_X0_has S0 v1) (fun (r13 : Int32) =>
  if r13 = (0 : Int32) then zB (f_X3_refuse S3 S1) (fun ((r28, s3_29) : Int32 × SS) =>
  zG (zb r28) (
  some (r28, s3_29, S0)))
  else zG (vp_in v1 60) (
  zL (sA S0 5 (upd (gA S0 5) v1.toNatClampNeg r2)) (fun s0_20 =>
  zG (vp_in r2 9) (
  zB (f_X3_beginParts S3 v1 (sl_f r2.toNatClampNeg) (sm_f r2.toNatClampNeg)) (fun ((r22, s3_23) : Int32 × SS) =>
  zG (zb r22) (
  some (r22, s3_23, s0_20)))))))))

noncomputable def f_X3_takeDelay (S3 : SS) (S1 : SS) (S0 : SS) : Option (Int32 × SS × SS) :=
  zB (f_X0_has S0 (gI S3 8)) (fun (r1 : Int32) =>
  zB (if r1 = (0 : Int32) then some S0
  else zG (vp_in (gI S3 8) 60) (
  zL (sA S0 6 (upd (gA S0 6) (gI S3 8).toNatClampNeg (gI S1 6))) (fun s0_21 =>
  some s0_21))) (fun (s0_11 : SS) =>
  zB (f_X3_go S3 (10 : Int32)) (fun ((r12, s3_13) : Int32 × SS) =>
  zG (zb r12) (
  some (r12, s3_13, s0_11)))))

noncomputable def f_X3_step (S3 : SS) (S1 : SS) (S0 : SS) : Option (Int32 × SS × SS) :=
  zL (gI S3 4) (fun v1 =>
  if v1 = (0 : Int32) then zB (f_X3_beginLine S3 S1) (fun ((r3, s3_4) : Int32 × SS) =>
  zG (zb r3) (
  some (r3, s3_4, S0)))
  else if v1 = (1 : Int32) then zB (f_X3_tellHere S3 S1 S0) (fun ((r10, s3_11, s0_12) : Int32 × SS × SS) =>
  zG (zb r10) (
  some (r10, s3_11, s0_12)))
  else if v1 = (2 : Int32) then if (gI S1 3) = (44 : Int32) then zB (f_X3_go S3 (1 : Int32)) (fun ((r25, s3_26) : Int32 × SS) =>
  zG (zb r25) (
  some (r25, s3_26, S0)))
  else zB (f_X3_endLine S3 S1) (fun ((r19, s3_20) : Int32 × SS) =>
  zG (zb r19) (
  some (r19, s3_20, S0)))
  else if v1 = (3 : Int32) then zB (f_X3_tellOrDrive S3 S1 S0) (fun ((r32, s3_33, s0_34) : Int32 × SS × SS) =>
  zG (zb r32) (
  some (r32, s3_33, s0_34)))
  else if v1 = (4 : Int32) then zB (f_X3_takeGate S3 S1 S0) (fun ((r40, s3_41, s0_42) : Int32 × SS × SS) =>
  zG (zb r40) (
  some (r40, s3_41, s0_42)))
  else if v1 = (5 : Int32) then zB (f_X3_takeDriver S3 S1) (fun ((r48, s3_49) : Int32 × SS) =>
  zG (zb r48) (
  some (r48, s3_49, S0)))
  else if v1 = (6 : Int32) then if (gI S1 3) = (40 : Int32) then zB (f_X3_go S3 (7 : Int32)) (fun ((r62, s3_63) : Int32 × SS) =>
  zG (zb r62) (
  some (r62, s3_63, S0)))
  else zB (f_X3_refuse S3 S1) (fun ((r56, s3_57) : Int32 × SS) =>
  zG (zb r56) (
  some (r56, s3_57, S0)))
  else if v1 = (7 : Int32) then zB (f_X3_takePart S3 S1) (fun ((r69, s3_70) : Int32 × SS) =>
  zG (zb r69) (
  some (r69, s3_70, S0)))
  else if v1 = (8 : Int32) then zB (f_X3_behindPart S3 S1) (fun ((r76, s3_77) : Int32 × SS) =>
  zG (zb r76) (
  some (r76, s3_77, S0)))
  else if v1 = (9 : Int32) then if (gI S1 3) = (3 : Int32) then zB (f_X3_takeDelay S3 S1 S0) (fun ((r90, s3_91, s0_92) : Int32 × SS × SS) =>
  zG (zb r90) (
  some (r90, s3_91, s0_92)))
  else zB (f_X3_endLine S3 S1) (fun ((r84, s3_85) : Int32 × SS) =>
  zG (zb r84) (
  some (r84, s3_85, S0)))
  else zB (f_X3_endLine S3 S1) (fun ((r97, s3_98) : Int32 × SS) =>
  zG (zb r97) (
  some (r97, s3_98, S0))))

set_option maxHeartbeats 4000000 in
set_option maxRecDepth 100000 in
theorem m_X3_isHead (l : Launch) (dC : Nat → ClassId) (dI : Nat → Nat → Nat) (y : Nat → ClassId) (p1 : Int32) (sz : Nat) (or_ : Int32) (h : f_X3_isHead p1 = some or_) : Met l yX3_isHead wsX3_isHead ({ frames := 0, cells := 0, slots := 0, locals := 0 }) (va_Pc [.int p1] (fun U => U.heap.size = sz ∧ va_P (dC, dI) vwCl [] U.heap ∧ va_K (dC, dI) vwCl [(y 0, .int), (y 1, .long), (y 2, .byte), (y 3, .boolean)] U ∧ va_D (fun _ => True) [])) (va_Qi (fun (r : Int32) (_ : Unit) => r = or_) (fun (_ : Unit) (t : State) => va_P (dC, dI) vwCl [] t.heap ∧ va_K (dC, dI) vwCl [(y 0, .int), (y 1, .long), (y 2, .byte), (y 3, .boolean)] t ∧ va_D (va_A [] sz) []) (va_A [] sz)) 0 0 (va_A [] sz) := by
  refine Met.ofW (cc := cX3_isHead) (maxL := 1) (ret := (some .boolean)) (by decide +kernel) rfl ?_
  intro p e s m args below meth c s₁ B hml hv
  obtain ⟨rfl, hsz, hP, hK, hD0⟩ := hv
  have hx := B.exec
  have hb := B.bytes
  have hr := B.returns
  have hts := atoms_spec (ws := wsX3_isHead) B.pre
  have hown : s.vm.findClass RX3 = some m.cls := findClass_of_methodNamed B.named
  have hlocks := B.notSynchronized
  subst hsz
  have hD := hD0.self (sz := s.heap.size)
  generalize hAe : va_A [] s.heap.size = A at hD ⊢
  have hA : ∀ q : Nat, s.heap.size ≤ q → A q := fun q h => by rw [← hAe]; exact Or.inr h
  have hS : va_S A s.heap s.heap [] := va_S.rf
  have hP : va_P (dC, dI) vwCl [] s.heap := hP
  have hl := lv_entry ([.int p1]) (n := 1) (Nat.le_of_ble_eq_true rfl)
  rw [lg_entry_eq]
  generalize (lg_sl ([.int p1]) ++ List.replicate (1 - (lg_sl ([.int p1])).length) Slot.unset).toArray = ls at hl ⊢
  have hl : lv_has ls 1 [(0, .int p1)] := hl
  refine lv_iload_n hx hb dX3_isHead_0 rfl (lv_at hl 0 rfl) ?_
  refine lv_iconst (v := (-1)) hx hb dX3_isHead_1 (by decide) ?_
  refine lv_icmp_eq (tgt := 11) hx hb dX3_isHead_2 (by decide) (fun c1 => ?_) (fun c1 => ?_)
  · have h := zY c1 h
    refine lv_iconst (v := 1) hx hb dX3_isHead_11 (by decide) ?_
    refine lv_goto (tgt := 16) hx hb dX3_isHead_12 (by decide) ?_
    have ho0 : (1 : Int32) = or_ := congrArg (fun z : Int32 => z) (Option.some.inj h)
    exact W.zret (v := 1) hx hb hr (by decide) (fun t ht hW => ⟨⟨1, (), rfl, ho0, by rw [ht]; exact hP, va_K.moved hW.alike hK, hD⟩, hS.F ht⟩) hS.2.2 dX3_isHead_16
  · have h := zN c1 h
    refine lv_iload_n hx hb dX3_isHead_5 rfl (lv_at hl 0 rfl) ?_
    refine lv_bipush (v := (-2)) hx hb dX3_isHead_6 (by decide) ?_
    refine lv_icmp_ne (tgt := 15) hx hb dX3_isHead_8 (by decide) (fun c2 => ?_) (fun c2 => ?_)
    · have h := zN c2 h
      refine lv_iconst (v := 0) hx hb dX3_isHead_15 (by decide) ?_
      have ho0 : (0 : Int32) = or_ := congrArg (fun z : Int32 => z) (Option.some.inj h)
      exact W.zret (v := 0) hx hb hr (by decide) (fun t ht hW => ⟨⟨0, (), rfl, ho0, by rw [ht]; exact hP, va_K.moved hW.alike hK, hD⟩, hS.F ht⟩) hS.2.2 dX3_isHead_16
    · have h := zY c2 h
      refine lv_iconst (v := 1) hx hb dX3_isHead_11 (by decide) ?_
      refine lv_goto (tgt := 16) hx hb dX3_isHead_12 (by decide) ?_
      have ho0 : (1 : Int32) = or_ := congrArg (fun z : Int32 => z) (Option.some.inj h)
      exact W.zret (v := 1) hx hb hr (by decide) (fun t ht hW => ⟨⟨1, (), rfl, ho0, by rw [ht]; exact hP, va_K.moved hW.alike hK, hD⟩, hS.F ht⟩) hS.2.2 dX3_isHead_16

set_option maxHeartbeats 4000000 in
set_option maxRecDepth 100000 in
theorem m_X3_go (l : Launch) (dC : Nat → ClassId) (dI : Nat → Nat → Nat) (y : Nat → ClassId) (a3 : Nat) (h3 : Nat → Nat) (S3 : SS) (lxa : Nat) (cv : Value) (p1 : Int32) (sz : Nat) (or_ : Int32) (o_3 : SS) (h : f_X3_go S3 p1 = some (or_, o_3)) : Met l yX3_go wsX3_go ({ frames := 0, cells := 0, slots := 0, locals := 0 }) (va_Pc [.ref a3, .int p1] (fun U => U.heap.size = sz ∧ va_P (dC, dI) vwCl (cX3 a3 h3 lxa cv y S3) U.heap ∧ va_K (dC, dI) vwCl [(y 0, .int), (y 1, .long), (y 2, .byte), (y 3, .boolean)] U ∧ va_D (fun _ => True) (cX3 a3 h3 lxa cv y S3))) (va_Qi (fun (r : Int32) (_ : Unit) => r = or_) (fun (_ : Unit) (t : State) => va_P (dC, dI) vwCl (cX3 a3 h3 lxa cv y o_3) t.heap ∧ va_K (dC, dI) vwCl [(y 0, .int), (y 1, .long), (y 2, .byte), (y 3, .boolean)] t ∧ va_D (va_A (cX3 a3 h3 lxa cv y S3) sz) (cX3 a3 h3 lxa cv y o_3)) (va_A (cX3 a3 h3 lxa cv y S3) sz)) 0 0 (va_A (cX3 a3 h3 lxa cv y S3) sz) := by
  refine Met.ofW (cc := cX3_go) (maxL := 2) (ret := (some .boolean)) (by decide +kernel) rfl ?_
  intro p e s m args below meth c s₁ B hml hv
  obtain ⟨rfl, hsz, hP, hK, hD0⟩ := hv
  have hx := B.exec
  have hb := B.bytes
  have hr := B.returns
  have hts := atoms_spec (ws := wsX3_go) B.pre
  have hown : s.vm.findClass RX3 = some m.cls := findClass_of_methodNamed B.named
  have hlocks := B.notSynchronized
  have inX3_ : ∀ w ∈ wsX30, w ∈ wsX3_go := fun _ h => List.mem_cons_of_mem _ (List.mem_append_right _ h)
  subst hsz
  have hD := hD0.self (sz := s.heap.size)
  generalize hAe : va_A (cX3 a3 h3 lxa cv y S3) s.heap.size = A at hD ⊢
  have hA : ∀ q : Nat, s.heap.size ≤ q → A q := fun q h => by rw [← hAe]; exact Or.inr h
  have hS : va_S A s.heap s.heap [] := va_S.rf
  have hP : va_P (dC, dI) vwCl (cX3 a3 h3 lxa cv y S3) s.heap := hP
  have hl := lv_entry ([.ref a3, .int p1]) (n := 2) (Nat.le_of_ble_eq_true rfl)
  rw [lg_entry_eq]
  generalize (lg_sl ([.ref a3, .int p1]) ++ List.replicate (2 - (lg_sl ([.ref a3, .int p1])).length) Slot.unset).toArray = ls at hl ⊢
  have hl : lv_has ls 2 [(0, .ref a3), (1, .int p1)] := hl
  refine lv_aload_n hx hb dX3_go_0 rfl (lv_at hl 0 rfl) ?_
  refine lv_iload_n hx hb dX3_go_1 rfl (lv_at hl 1 rfl) ?_
  refine va_put (D := (dC, dI)) (ci := 2) (v := .int p1) (ty := .int) (C := RX3) (T := TX3) (N := 17) hx hb hts inX3_ tyX3 tyX3_ok nmX3 hown hK hP hD hS 0 rfl rfl 4 (by decide) (hts (.fieldLink RX3 68 "GateWheel$Reader" "state" "I") (List.mem_of_getElem? (i := 1) rfl)) (fun _ h9 => h9) rfl (by decide +kernel) rfl rfl (Nat.le_of_ble_eq_true rfl) dX3_go_2 (fun H1 locs hP hD hS => ?_)
  obtain ⟨s3_2, es3_2, h⟩ := zL_spec h
  have hP : va_P (dC, dI) vwCl (cX3 a3 h3 lxa cv y s3_2) H1 := by rw [es3_2]; exact hP
  have hD : va_D A (cX3 a3 h3 lxa cv y s3_2) := by rw [es3_2]; exact hD
  refine lv_iconst (v := 1) hx hb dX3_go_5 (by decide) ?_
  have ho0 : (1 : Int32) = or_ := congrArg (fun z : Int32 × SS => z.1) (Option.some.inj h)
  have ho1 : s3_2 = o_3 := congrArg (fun z : Int32 × SS => z.2) (Option.some.inj h)
  exact W.zret (v := 1) hx hb hr (by decide) (fun t ht hW => ⟨⟨1, (), rfl, ho0, by rw [ht]; rw [← ho1]; exact hP, va_K.moved hW.alike hK, by rw [← ho1]; exact hD⟩, hS.F ht⟩) hS.2.2 dX3_go_6

set_option maxHeartbeats 4000000 in
set_option maxRecDepth 100000 in
theorem m_X3_beginTelling (l : Launch) (dC : Nat → ClassId) (dI : Nat → Nat → Nat) (y : Nat → ClassId) (a3 : Nat) (h3 : Nat → Nat) (S3 : SS) (lxa : Nat) (cv : Value) (p1 : Int32) (sz : Nat) (or_ : Int32) (o_3 : SS) (h : f_X3_beginTelling S3 p1 = some (or_, o_3)) : Met l yX3_beginTelling wsX3_beginTelling ({ frames := 1, cells := 0, slots := 0, locals := 21 }) (va_Pc [.ref a3, .int p1] (fun U => U.heap.size = sz ∧ va_P (dC, dI) vwCl (cX3 a3 h3 lxa cv y S3) U.heap ∧ va_K (dC, dI) vwCl [(y 0, .int), (y 1, .long), (y 2, .byte), (y 3, .boolean)] U ∧ va_D (fun _ => True) (cX3 a3 h3 lxa cv y S3))) (va_Qi (fun (r : Int32) (_ : Unit) => r = or_) (fun (_ : Unit) (t : State) => va_P (dC, dI) vwCl (cX3 a3 h3 lxa cv y o_3) t.heap ∧ va_K (dC, dI) vwCl [(y 0, .int), (y 1, .long), (y 2, .byte), (y 3, .boolean)] t ∧ va_D (va_A (cX3 a3 h3 lxa cv y S3) sz) (cX3 a3 h3 lxa cv y o_3)) (va_A (cX3 a3 h3 lxa cv y S3) sz)) 0 0 (va_A (cX3 a3 h3 lxa cv y S3) sz) := by
  refine Met.ofW (cc := cX3_beginTelling) (maxL := 2) (ret := (some .boolean)) (by decide +kernel) rfl ?_
  intro p e s m args below meth c s₁ B hml hv
  obtain ⟨rfl, hsz, hP, hK, hD0⟩ := hv
  have hx := B.exec
  have hb := B.bytes
  have hr := B.returns
  have hts := atoms_spec (ws := wsX3_beginTelling) B.pre
  have hown : s.vm.findClass RX3 = some m.cls := findClass_of_methodNamed B.named
  have hlocks := B.notSynchronized
  have inX3_ : ∀ w ∈ wsX30, w ∈ wsX3_beginTelling := fun _ h => List.mem_cons_of_mem _ (List.mem_append_right _ h)
  subst hsz
  have hD := hD0.self (sz := s.heap.size)
  generalize hAe : va_A (cX3 a3 h3 lxa cv y S3) s.heap.size = A at hD ⊢
  have hA : ∀ q : Nat, s.heap.size ≤ q → A q := fun q h => by rw [← hAe]; exact Or.inr h
  have hS : va_S A s.heap s.heap [] := va_S.rf
  have hP : va_P (dC, dI) vwCl (cX3 a3 h3 lxa cv y S3) s.heap := hP
  have hl := lv_entry ([.ref a3, .int p1]) (n := 2) (Nat.le_of_ble_eq_true rfl)
  rw [lg_entry_eq]
  generalize (lg_sl ([.ref a3, .int p1]) ++ List.replicate (2 - (lg_sl ([.ref a3, .int p1])).length) Slot.unset).toArray = ls at hl ⊢
  have hl : lv_has ls 2 [(0, .ref a3), (1, .int p1)] := hl
  refine lv_aload_n hx hb dX3_beginTelling_0 rfl (lv_at hl 0 rfl) ?_
  refine lv_iload_n hx hb dX3_beginTelling_1 rfl (lv_at hl 1 rfl) ?_
  refine va_put (D := (dC, dI)) (ci := 2) (v := .int p1) (ty := .int) (C := RX3) (T := TX3) (N := 17) hx hb hts inX3_ tyX3 tyX3_ok nmX3 hown hK hP hD hS 0 rfl rfl 5 (by decide) (hts (.fieldLink RX3 147 "GateWheel$Reader" "sort" "I") (List.mem_of_getElem? (i := 1) rfl)) (fun _ h9 => h9) rfl (by decide +kernel) rfl rfl (Nat.le_of_ble_eq_true rfl) dX3_beginTelling_2 (fun H1 locs hP hD hS => ?_)
  obtain ⟨s3_2, es3_2, h⟩ := zL_spec h
  have hP : va_P (dC, dI) vwCl (cX3 a3 h3 lxa cv y s3_2) H1 := by rw [es3_2]; exact hP
  have hD : va_D A (cX3 a3 h3 lxa cv y s3_2) := by rw [es3_2]; exact hD
  refine lv_aload_n hx hb dX3_beginTelling_5 rfl (lv_at hl 0 rfl) ?_
  refine lv_iconst (v := 1) hx hb dX3_beginTelling_6 (by decide) ?_
  obtain ⟨⟨r3, s3_4⟩, hc5, h⟩ := zB_spec h
  have hFc := zFree hD hS hA
  refine va_calli (va_runV (As := [.int 1]) (rest := []) ⟨hx, hb, hml, hown, hts⟩ (m_X3_go l dC dI y a3 h3 s3_2 lxa cv (1 : Int32) H1.size r3 s3_4 hc5) (cwV 1 hts gX3_beginTelling_X3_go rfl rfl rfl (by decide +kernel) ⟨Nat.le_of_ble_eq_true rfl, Nat.le_of_ble_eq_true rfl⟩) ⟨fun a U g mk q => by obtain ⟨q0, q1, qP, qK, qD⟩ := q; exact ⟨q0, q1, qP, va_K.moved (u := U) (U := U.calling g mk a) (Vm.Alike.refl U.vm) qK, qD⟩, va_recv hK hP (ci := 2) (q0 := 0) rfl rfl, fun U hU hW => ⟨rfl, by rw [hU], by rw [hU]; exact hP, va_K.moved hW.alike hK, hD.weaken (fun _ _ _ _ => trivial)⟩⟩ rfl rfl hl.1 rfl (lv_room (Nat.le_of_ble_eq_true rfl)) dX3_beginTelling_7 ⟨Nat.le_of_ble_eq_true rfl, Nat.le_of_ble_eq_true rfl⟩) hS (fun q _ h => hFc q h) hFc (fun rr7 u t H6 locs ht hvm hw hB hz1 hk1 hS => ?_)
  obtain ⟨hP1, hK1, hD1⟩ := hB
  rw [ht] at hP1
  refine zTopi hw.symm ?_
  have hP := hP1
  have hD := hD1.weaken (fun _ q _ h => hFc q.1 h)
  have hP : va_P (dC, dI) vwCl (cX3 a3 h3 lxa cv y s3_4) H6 := hP
  have hD : va_D A (cX3 a3 h3 lxa cv y s3_4) := hD
  obtain ⟨hz8, h⟩ := zG_spec h
  have ho0 : r3 = or_ := congrArg (fun z : Int32 × SS => z.1) (Option.some.inj h)
  have ho1 : s3_4 = o_3 := congrArg (fun z : Int32 × SS => z.2) (Option.some.inj h)
  exact W.zret (v := r3) hx hb hr (zb_nar hz8) (fun t ht hW => ⟨⟨r3, (), rfl, ho0, by rw [ht]; rw [← ho1]; exact hP, va_K.moved hW.alike hK, by rw [← ho1]; exact hD⟩, hS.F ht⟩) hS.2.2 dX3_beginTelling_10

set_option maxHeartbeats 4000000 in
set_option maxRecDepth 100000 in
theorem m_X3_failAt (l : Launch) (dC : Nat → ClassId) (dI : Nat → Nat → Nat) (y : Nat → ClassId) (a3 : Nat) (h3 : Nat → Nat) (S3 : SS) (lxa : Nat) (cv : Value) (p1 : Int32) (p2 : Int32) (sz : Nat) (or_ : Int32) (o_3 : SS) (h : f_X3_failAt S3 p1 p2 = some (or_, o_3)) : Met l yX3_failAt wsX3_failAt ({ frames := 0, cells := 0, slots := 0, locals := 0 }) (va_Pc [.ref a3, .int p1, .int p2] (fun U => U.heap.size = sz ∧ va_P (dC, dI) vwCl (cX3 a3 h3 lxa cv y S3) U.heap ∧ va_K (dC, dI) vwCl [(y 0, .int), (y 1, .long), (y 2, .byte), (y 3, .boolean)] U ∧ va_D (fun _ => True) (cX3 a3 h3 lxa cv y S3))) (va_Qi (fun (r : Int32) (_ : Unit) => r = or_) (fun (_ : Unit) (t : State) => va_P (dC, dI) vwCl (cX3 a3 h3 lxa cv y o_3) t.heap ∧ va_K (dC, dI) vwCl [(y 0, .int), (y 1, .long), (y 2, .byte), (y 3, .boolean)] t ∧ va_D (va_A (cX3 a3 h3 lxa cv y S3) sz) (cX3 a3 h3 lxa cv y o_3)) (va_A (cX3 a3 h3 lxa cv y S3) sz)) 0 0 (va_A (cX3 a3 h3 lxa cv y S3) sz) := by
  refine Met.ofW (cc := cX3_failAt) (maxL := 3) (ret := (some .boolean)) (by decide +kernel) rfl ?_
  intro p e s m args below meth c s₁ B hml hv
  obtain ⟨rfl, hsz, hP, hK, hD0⟩ := hv
  have hx := B.exec
  have hb := B.bytes
  have hr := B.returns
  have hts := atoms_spec (ws := wsX3_failAt) B.pre
  have hown : s.vm.findClass RX3 = some m.cls := findClass_of_methodNamed B.named
  have hlocks := B.notSynchronized
  have inX3_ : ∀ w ∈ wsX30, w ∈ wsX3_failAt := fun _ h => List.mem_cons_of_mem _ (List.mem_append_right _ h)
  subst hsz
  have hD := hD0.self (sz := s.heap.size)
  generalize hAe : va_A (cX3 a3 h3 lxa cv y S3) s.heap.size = A at hD ⊢
  have hA : ∀ q : Nat, s.heap.size ≤ q → A q := fun q h => by rw [← hAe]; exact Or.inr h
  have hS : va_S A s.heap s.heap [] := va_S.rf
  have hP : va_P (dC, dI) vwCl (cX3 a3 h3 lxa cv y S3) s.heap := hP
  have hl := lv_entry ([.ref a3, .int p1, .int p2]) (n := 3) (Nat.le_of_ble_eq_true rfl)
  rw [lg_entry_eq]
  generalize (lg_sl ([.ref a3, .int p1, .int p2]) ++ List.replicate (3 - (lg_sl ([.ref a3, .int p1, .int p2])).length) Slot.unset).toArray = ls at hl ⊢
  have hl : lv_has ls 3 [(0, .ref a3), (1, .int p1), (2, .int p2)] := hl
  refine lv_aload_n hx hb dX3_failAt_0 rfl (lv_at hl 0 rfl) ?_
  refine lv_iload_n hx hb dX3_failAt_1 rfl (lv_at hl 1 rfl) ?_
  refine va_put (D := (dC, dI)) (ci := 2) (v := .int p1) (ty := .int) (C := RX3) (T := TX3) (N := 17) hx hb hts inX3_ tyX3 tyX3_ok nmX3 hown hK hP hD hS 0 rfl rfl 0 (by decide) (hts (.fieldLink RX3 45 "GateWheel$Reader" "fault" "I") (List.mem_of_getElem? (i := 1) rfl)) (fun _ h9 => h9) rfl (by decide +kernel) rfl rfl (Nat.le_of_ble_eq_true rfl) dX3_failAt_2 (fun H1 locs hP hD hS => ?_)
  obtain ⟨s3_2, es3_2, h⟩ := zL_spec h
  have hP : va_P (dC, dI) vwCl (cX3 a3 h3 lxa cv y s3_2) H1 := by rw [es3_2]; exact hP
  have hD : va_D A (cX3 a3 h3 lxa cv y s3_2) := by rw [es3_2]; exact hD
  refine lv_aload_n hx hb dX3_failAt_5 rfl (lv_at hl 0 rfl) ?_
  refine lv_iload_n hx hb dX3_failAt_6 rfl (lv_at hl 2 rfl) ?_
  refine va_put (D := (dC, dI)) (ci := 2) (v := .int p2) (ty := .int) (C := RX3) (T := TX3) (N := 17) hx hb hts inX3_ tyX3 tyX3_ok nmX3 hown hK hP hD hS 0 rfl rfl 1 (by decide) (hts (.fieldLink RX3 9 "GateWheel$Reader" "faultPlace" "I") (List.mem_of_getElem? (i := 2) rfl)) (fun _ h9 => h9) rfl (by decide +kernel) rfl rfl (Nat.le_of_ble_eq_true rfl) dX3_failAt_7 (fun H3 locs hP hD hS => ?_)
  obtain ⟨s3_4, es3_4, h⟩ := zL_spec h
  have hP : va_P (dC, dI) vwCl (cX3 a3 h3 lxa cv y s3_4) H3 := by rw [es3_4]; exact hP
  have hD : va_D A (cX3 a3 h3 lxa cv y s3_4) := by rw [es3_4]; exact hD
  refine lv_iconst (v := 0) hx hb dX3_failAt_10 (by decide) ?_
  have ho0 : (0 : Int32) = or_ := congrArg (fun z : Int32 × SS => z.1) (Option.some.inj h)
  have ho1 : s3_4 = o_3 := congrArg (fun z : Int32 × SS => z.2) (Option.some.inj h)
  exact W.zret (v := 0) hx hb hr (by decide) (fun t ht hW => ⟨⟨0, (), rfl, ho0, by rw [ht]; rw [← ho1]; exact hP, va_K.moved hW.alike hK, by rw [← ho1]; exact hD⟩, hS.F ht⟩) hS.2.2 dX3_failAt_11

set_option maxHeartbeats 4000000 in
set_option maxRecDepth 100000 in
theorem m_X3_beginParts (l : Launch) (dC : Nat → ClassId) (dI : Nat → Nat → Nat) (y : Nat → ClassId) (a3 : Nat) (h3 : Nat → Nat) (S3 : SS) (lxa : Nat) (cv : Value) (p1 : Int32) (p2 : Int32) (p3 : Int32) (sz : Nat) (or_ : Int32) (o_3 : SS) (h : f_X3_beginParts S3 p1 p2 p3 = some (or_, o_3)) : Met l yX3_beginParts wsX3_beginParts ({ frames := 1, cells := 0, slots := 0, locals := 21 }) (va_Pc [.ref a3, .int p1, .int p2, .int p3] (fun U => U.heap.size = sz ∧ va_P (dC, dI) vwCl (cX3 a3 h3 lxa cv y S3) U.heap ∧ va_K (dC, dI) vwCl [(y 0, .int), (y 1, .long), (y 2, .byte), (y 3, .boolean)] U ∧ va_D (fun _ => True) (cX3 a3 h3 lxa cv y S3))) (va_Qi (fun (r : Int32) (_ : Unit) => r = or_) (fun (_ : Unit) (t : State) => va_P (dC, dI) vwCl (cX3 a3 h3 lxa cv y o_3) t.heap ∧ va_K (dC, dI) vwCl [(y 0, .int), (y 1, .long), (y 2, .byte), (y 3, .boolean)] t ∧ va_D (va_A (cX3 a3 h3 lxa cv y S3) sz) (cX3 a3 h3 lxa cv y o_3)) (va_A (cX3 a3 h3 lxa cv y S3) sz)) 0 0 (va_A (cX3 a3 h3 lxa cv y S3) sz) := by
  refine Met.ofW (cc := cX3_beginParts) (maxL := 4) (ret := (some .boolean)) (by decide +kernel) rfl ?_
  intro p e s m args below meth c s₁ B hml hv
  obtain ⟨rfl, hsz, hP, hK, hD0⟩ := hv
  have hx := B.exec
  have hb := B.bytes
  have hr := B.returns
  have hts := atoms_spec (ws := wsX3_beginParts) B.pre
  have hown : s.vm.findClass RX3 = some m.cls := findClass_of_methodNamed B.named
  have hlocks := B.notSynchronized
  have inX3_ : ∀ w ∈ wsX30, w ∈ wsX3_beginParts := fun _ h => List.mem_cons_of_mem _ (List.mem_append_right _ h)
  subst hsz
  have hD := hD0.self (sz := s.heap.size)
  generalize hAe : va_A (cX3 a3 h3 lxa cv y S3) s.heap.size = A at hD ⊢
  have hA : ∀ q : Nat, s.heap.size ≤ q → A q := fun q h => by rw [← hAe]; exact Or.inr h
  have hS : va_S A s.heap s.heap [] := va_S.rf
  have hP : va_P (dC, dI) vwCl (cX3 a3 h3 lxa cv y S3) s.heap := hP
  have hl := lv_entry ([.ref a3, .int p1, .int p2, .int p3]) (n := 4) (Nat.le_of_ble_eq_true rfl)
  rw [lg_entry_eq]
  generalize (lg_sl ([.ref a3, .int p1, .int p2, .int p3]) ++ List.replicate (4 - (lg_sl ([.ref a3, .int p1, .int p2, .int p3])).length) Slot.unset).toArray = ls at hl ⊢
  have hl : lv_has ls 4 [(0, .ref a3), (1, .int p1), (2, .int p2), (3, .int p3)] := hl
  refine lv_aload_n hx hb dX3_beginParts_0 rfl (lv_at hl 0 rfl) ?_
  refine lv_iload_n hx hb dX3_beginParts_1 rfl (lv_at hl 1 rfl) ?_
  refine va_put (D := (dC, dI)) (ci := 2) (v := .int p1) (ty := .int) (C := RX3) (T := TX3) (N := 17) hx hb hts inX3_ tyX3 tyX3_ok nmX3 hown hK hP hD hS 0 rfl rfl 8 (by decide) (hts (.fieldLink RX3 198 "GateWheel$Reader" "role" "I") (List.mem_of_getElem? (i := 1) rfl)) (fun _ h9 => h9) rfl (by decide +kernel) rfl rfl (Nat.le_of_ble_eq_true rfl) dX3_beginParts_2 (fun H1 locs hP hD hS => ?_)
  obtain ⟨s3_2, es3_2, h⟩ := zL_spec h
  have hP : va_P (dC, dI) vwCl (cX3 a3 h3 lxa cv y s3_2) H1 := by rw [es3_2]; exact hP
  have hD : va_D A (cX3 a3 h3 lxa cv y s3_2) := by rw [es3_2]; exact hD
  refine lv_aload_n hx hb dX3_beginParts_5 rfl (lv_at hl 0 rfl) ?_
  refine lv_iload_n hx hb dX3_beginParts_6 rfl (lv_at hl 2 rfl) ?_
  refine va_put (D := (dC, dI)) (ci := 2) (v := .int p2) (ty := .int) (C := RX3) (T := TX3) (N := 17) hx hb hts inX3_ tyX3 tyX3_ok nmX3 hown hK hP hD hS 0 rfl rfl 10 (by decide) (hts (.fieldLink RX3 201 "GateWheel$Reader" "least" "I") (List.mem_of_getElem? (i := 2) rfl)) (fun _ h9 => h9) rfl (by decide +kernel) rfl rfl (Nat.le_of_ble_eq_true rfl) dX3_beginParts_7 (fun H3 locs hP hD hS => ?_)
  obtain ⟨s3_4, es3_4, h⟩ := zL_spec h
  have hP : va_P (dC, dI) vwCl (cX3 a3 h3 lxa cv y s3_4) H3 := by rw [es3_4]; exact hP
  have hD : va_D A (cX3 a3 h3 lxa cv y s3_4) := by rw [es3_4]; exact hD
  refine lv_aload_n hx hb dX3_beginParts_10 rfl (lv_at hl 0 rfl) ?_
  refine lv_iload_n hx hb dX3_beginParts_11 rfl (lv_at hl 3 rfl) ?_
  refine va_put (D := (dC, dI)) (ci := 2) (v := .int p3) (ty := .int) (C := RX3) (T := TX3) (N := 17) hx hb hts inX3_ tyX3 tyX3_ok nmX3 hown hK hP hD hS 0 rfl rfl 11 (by decide) (hts (.fieldLink RX3 204 "GateWheel$Reader" "most" "I") (List.mem_of_getElem? (i := 3) rfl)) (fun _ h9 => h9) rfl (by decide +kernel) rfl rfl (Nat.le_of_ble_eq_true rfl) dX3_beginParts_12 (fun H5 locs hP hD hS => ?_)
  obtain ⟨s3_6, es3_6, h⟩ := zL_spec h
  have hP : va_P (dC, dI) vwCl (cX3 a3 h3 lxa cv y s3_6) H5 := by rw [es3_6]; exact hP
  have hD : va_D A (cX3 a3 h3 lxa cv y s3_6) := by rw [es3_6]; exact hD
  refine lv_aload_n hx hb dX3_beginParts_15 rfl (lv_at hl 0 rfl) ?_
  refine lv_iconst (v := 0) hx hb dX3_beginParts_16 (by decide) ?_
  refine va_put (D := (dC, dI)) (ci := 2) (v := .int 0) (ty := .int) (C := RX3) (T := TX3) (N := 17) hx hb hts inX3_ tyX3 tyX3_ok nmX3 hown hK hP hD hS 0 rfl rfl 9 (by decide) (hts (.fieldLink RX3 207 "GateWheel$Reader" "taken" "I") (List.mem_of_getElem? (i := 4) rfl)) (fun _ h9 => h9) rfl (by decide +kernel) rfl rfl (Nat.le_of_ble_eq_true rfl) dX3_beginParts_17 (fun H7 locs hP hD hS => ?_)
  obtain ⟨s3_8, es3_8, h⟩ := zL_spec h
  have hP : va_P (dC, dI) vwCl (cX3 a3 h3 lxa cv y s3_8) H7 := by rw [es3_8]; exact hP
  have hD : va_D A (cX3 a3 h3 lxa cv y s3_8) := by rw [es3_8]; exact hD
  refine lv_aload_n hx hb dX3_beginParts_20 rfl (lv_at hl 0 rfl) ?_
  refine lv_bipush (v := 6) hx hb dX3_beginParts_21 (by decide) ?_
  obtain ⟨⟨r9, s3_10⟩, hc11, h⟩ := zB_spec h
  have hFc := zFree hD hS hA
  refine va_calli (va_runV (As := [.int 6]) (rest := []) ⟨hx, hb, hml, hown, hts⟩ (m_X3_go l dC dI y a3 h3 s3_8 lxa cv (6 : Int32) H7.size r9 s3_10 hc11) (cwV 1 hts gX3_beginParts_X3_go rfl rfl rfl (by decide +kernel) ⟨Nat.le_of_ble_eq_true rfl, Nat.le_of_ble_eq_true rfl⟩) ⟨fun a U g mk q => by obtain ⟨q0, q1, qP, qK, qD⟩ := q; exact ⟨q0, q1, qP, va_K.moved (u := U) (U := U.calling g mk a) (Vm.Alike.refl U.vm) qK, qD⟩, va_recv hK hP (ci := 2) (q0 := 0) rfl rfl, fun U hU hW => ⟨rfl, by rw [hU], by rw [hU]; exact hP, va_K.moved hW.alike hK, hD.weaken (fun _ _ _ _ => trivial)⟩⟩ rfl rfl hl.1 rfl (lv_room (Nat.le_of_ble_eq_true rfl)) dX3_beginParts_23 ⟨Nat.le_of_ble_eq_true rfl, Nat.le_of_ble_eq_true rfl⟩) hS (fun q _ h => hFc q h) hFc (fun rr13 u t H12 locs ht hvm hw hB hz1 hk1 hS => ?_)
  obtain ⟨hP1, hK1, hD1⟩ := hB
  rw [ht] at hP1
  refine zTopi hw.symm ?_
  have hP := hP1
  have hD := hD1.weaken (fun _ q _ h => hFc q.1 h)
  have hP : va_P (dC, dI) vwCl (cX3 a3 h3 lxa cv y s3_10) H12 := hP
  have hD : va_D A (cX3 a3 h3 lxa cv y s3_10) := hD
  obtain ⟨hz14, h⟩ := zG_spec h
  have ho0 : r9 = or_ := congrArg (fun z : Int32 × SS => z.1) (Option.some.inj h)
  have ho1 : s3_10 = o_3 := congrArg (fun z : Int32 × SS => z.2) (Option.some.inj h)
  exact W.zret (v := r9) hx hb hr (zb_nar hz14) (fun t ht hW => ⟨⟨r9, (), rfl, ho0, by rw [ht]; rw [← ho1]; exact hP, va_K.moved hW.alike hK, by rw [← ho1]; exact hD⟩, hS.F ht⟩) hS.2.2 dX3_beginParts_26

set_option maxHeartbeats 4000000 in
set_option maxRecDepth 100000 in
theorem m_X3_addUse (l : Launch) (dC : Nat → ClassId) (dI : Nat → Nat → Nat) (y : Nat → ClassId) (a3 : Nat) (h3 : Nat → Nat) (S3 : SS) (lxa : Nat) (cv : Value) (p1 : Int64) (p2 : Int32) (p3 : Int32) (sz : Nat) (o_3 : SS) (h : f_X3_addUse S3 p1 p2 p3 = some o_3) : Met l yX3_addUse wsX3_addUse ({ frames := 0, cells := 0, slots := 0, locals := 0 }) (va_Pc [.ref a3, .long p1, .int p2, .int p3] (fun U => U.heap.size = sz ∧ va_P (dC, dI) vwCl (cX3 a3 h3 lxa cv y S3) U.heap ∧ va_K (dC, dI) vwCl [(y 0, .int), (y 1, .long), (y 2, .byte), (y 3, .boolean)] U ∧ va_D (fun _ => True) (cX3 a3 h3 lxa cv y S3))) (va_Qv (fun (_ : Unit) => True) (fun (_ : Unit) (t : State) => va_P (dC, dI) vwCl (cX3 a3 h3 lxa cv y o_3) t.heap ∧ va_K (dC, dI) vwCl [(y 0, .int), (y 1, .long), (y 2, .byte), (y 3, .boolean)] t ∧ va_D (va_A (cX3 a3 h3 lxa cv y S3) sz) (cX3 a3 h3 lxa cv y o_3)) (va_A (cX3 a3 h3 lxa cv y S3) sz)) 0 0 (va_A (cX3 a3 h3 lxa cv y S3) sz) := by
  refine Met.ofW (cc := cX3_addUse) (maxL := 5) (ret := none) (by decide +kernel) rfl ?_
  intro p e s m args below meth c s₁ B hml hv
  obtain ⟨rfl, hsz, hP, hK, hD0⟩ := hv
  have hx := B.exec
  have hb := B.bytes
  have hr := B.returns
  have hts := atoms_spec (ws := wsX3_addUse) B.pre
  have hown : s.vm.findClass RX3 = some m.cls := findClass_of_methodNamed B.named
  have hlocks := B.notSynchronized
  have inX3_ : ∀ w ∈ wsX30, w ∈ wsX3_addUse := fun _ h => List.mem_cons_of_mem _ (List.mem_append_right _ h)
  subst hsz
  have hD := hD0.self (sz := s.heap.size)
  generalize hAe : va_A (cX3 a3 h3 lxa cv y S3) s.heap.size = A at hD ⊢
  have hA : ∀ q : Nat, s.heap.size ≤ q → A q := fun q h => by rw [← hAe]; exact Or.inr h
  have hS : va_S A s.heap s.heap [] := va_S.rf
  have hP : va_P (dC, dI) vwCl (cX3 a3 h3 lxa cv y S3) s.heap := hP
  have hl := lv_entry ([.ref a3, .long p1, .int p2, .int p3]) (n := 5) (Nat.le_of_ble_eq_true rfl)
  rw [lg_entry_eq]
  generalize (lg_sl ([.ref a3, .long p1, .int p2, .int p3]) ++ List.replicate (5 - (lg_sl ([.ref a3, .long p1, .int p2, .int p3])).length) Slot.unset).toArray = ls at hl ⊢
  have hl : lv_has ls 5 [(0, .ref a3), (1, .long p1), (3, .int p2), (4, .int p3)] := hl
  refine lv_aload_n hx hb dX3_addUse_0 rfl (lv_at hl 0 rfl) ?_
  refine va_get (D := (dC, dI)) (ci := 2) (v := .int (gI S3 15)) (C := RX3) (T := TX3) (N := 17) hx hb hts inX3_ hown hK hP 0 rfl rfl 15 (by decide) (hts (.fieldLink RX3 48 "GateWheel$Reader" "uses" "I") (List.mem_of_getElem? (i := 1) rfl)) (fun _ h9 => h9) rfl dX3_addUse_1 ?_
  refine lv_sipush (v := 667) hx hb dX3_addUse_4 (by decide) ?_
  refine lv_icmp_lt (tgt := 11) hx hb dX3_addUse_7 (by decide) (fun c1 => ?_) (fun c1 => ?_)
  · have h := zY c1 h
    refine lv_aload_n hx hb dX3_addUse_11 rfl (lv_at hl 0 rfl) ?_
    refine va_get (D := (dC, dI)) (ci := 2) (v := .ref (h3 12)) (C := RX3) (T := TX3) (N := 17) hx hb hts inX3_ hown hK hP 0 rfl rfl 12 (by decide) (hts (.fieldLink RX3 22 "GateWheel$Reader" "useNames" "[J") (List.mem_of_getElem? (i := 2) rfl)) (fun _ h9 => h9) rfl dX3_addUse_12 ?_
    refine lv_aload_n hx hb dX3_addUse_15 rfl (lv_at hl 0 rfl) ?_
    refine va_get (D := (dC, dI)) (ci := 2) (v := .int (gI S3 15)) (C := RX3) (T := TX3) (N := 17) hx hb hts inX3_ hown hK hP 0 rfl rfl 15 (by decide) (hts (.fieldLink RX3 48 "GateWheel$Reader" "uses" "I") (List.mem_of_getElem? (i := 1) rfl)) (fun _ h9 => h9) rfl dX3_addUse_16 ?_
    refine lv_lload_n hx hb dX3_addUse_19 rfl (lv_at hl 1 rfl) ?_
    obtain ⟨hi2, h⟩ := zG_spec h
    refine va_last hx hb hK hP hD hS 1 1 rfl rfl hi2 dX3_addUse_20 (fun H3 locs hP hD hS => ?_)
    obtain ⟨s3_4, es3_4, h⟩ := zL_spec h
    have hP : va_P (dC, dI) vwCl (cX3 a3 h3 lxa cv y s3_4) H3 := by rw [es3_4]; exact hP
    have hD : va_D A (cX3 a3 h3 lxa cv y s3_4) := by rw [es3_4]; exact hD
    refine lv_aload_n hx hb dX3_addUse_21 rfl (lv_at hl 0 rfl) ?_
    refine va_get (D := (dC, dI)) (ci := 2) (v := .ref (h3 13)) (C := RX3) (T := TX3) (N := 17) hx hb hts inX3_ hown hK hP 0 rfl rfl 13 (by decide) (hts (.fieldLink RX3 26 "GateWheel$Reader" "usePlaces" "[I") (List.mem_of_getElem? (i := 3) rfl)) (fun _ h9 => h9) rfl dX3_addUse_22 ?_
    refine lv_aload_n hx hb dX3_addUse_25 rfl (lv_at hl 0 rfl) ?_
    refine va_get (D := (dC, dI)) (ci := 2) (v := .int (gI s3_4 15)) (C := RX3) (T := TX3) (N := 17) hx hb hts inX3_ hown hK hP 0 rfl rfl 15 (by decide) (hts (.fieldLink RX3 48 "GateWheel$Reader" "uses" "I") (List.mem_of_getElem? (i := 1) rfl)) (fun _ h9 => h9) rfl dX3_addUse_26 ?_
    refine lv_iload_n hx hb dX3_addUse_29 rfl (lv_at hl 2 rfl) ?_
    obtain ⟨hi5, h⟩ := zG_spec h
    refine va_iast hx hb hK hP hD hS 2 0 rfl rfl hi5 dX3_addUse_30 (fun H6 locs hP hD hS => ?_)
    obtain ⟨s3_7, es3_7, h⟩ := zL_spec h
    have hP : va_P (dC, dI) vwCl (cX3 a3 h3 lxa cv y s3_7) H6 := by rw [es3_7]; exact hP
    have hD : va_D A (cX3 a3 h3 lxa cv y s3_7) := by rw [es3_7]; exact hD
    refine lv_aload_n hx hb dX3_addUse_31 rfl (lv_at hl 0 rfl) ?_
    refine va_get (D := (dC, dI)) (ci := 2) (v := .ref (h3 14)) (C := RX3) (T := TX3) (N := 17) hx hb hts inX3_ hown hK hP 0 rfl rfl 14 (by decide) (hts (.fieldLink RX3 30 "GateWheel$Reader" "useRoles" "[I") (List.mem_of_getElem? (i := 4) rfl)) (fun _ h9 => h9) rfl dX3_addUse_32 ?_
    refine lv_aload_n hx hb dX3_addUse_35 rfl (lv_at hl 0 rfl) ?_
    refine va_get (D := (dC, dI)) (ci := 2) (v := .int (gI s3_7 15)) (C := RX3) (T := TX3) (N := 17) hx hb hts inX3_ hown hK hP 0 rfl rfl 15 (by decide) (hts (.fieldLink RX3 48 "GateWheel$Reader" "uses" "I") (List.mem_of_getElem? (i := 1) rfl)) (fun _ h9 => h9) rfl dX3_addUse_36 ?_
    refine lv_iload hx hb dX3_addUse_39 (lv_at hl 3 rfl) ?_
    obtain ⟨hi8, h⟩ := zG_spec h
    refine va_iast hx hb hK hP hD hS 3 0 rfl rfl hi8 dX3_addUse_41 (fun H9 locs hP hD hS => ?_)
    obtain ⟨s3_10, es3_10, h⟩ := zL_spec h
    have hP : va_P (dC, dI) vwCl (cX3 a3 h3 lxa cv y s3_10) H9 := by rw [es3_10]; exact hP
    have hD : va_D A (cX3 a3 h3 lxa cv y s3_10) := by rw [es3_10]; exact hD
    refine lv_aload_n hx hb dX3_addUse_42 rfl (lv_at hl 0 rfl) ?_
    refine lv_dup hx hb dX3_addUse_43 rfl ?_
    refine va_get (D := (dC, dI)) (ci := 2) (v := .int (gI s3_10 15)) (C := RX3) (T := TX3) (N := 17) hx hb hts inX3_ hown hK hP 0 rfl rfl 15 (by decide) (hts (.fieldLink RX3 48 "GateWheel$Reader" "uses" "I") (List.mem_of_getElem? (i := 1) rfl)) (fun _ h9 => h9) rfl dX3_addUse_44 ?_
    refine lv_iconst (v := 1) hx hb dX3_addUse_47 (by decide) ?_
    refine lv_iadd hx hb dX3_addUse_48 ?_
    refine va_put (D := (dC, dI)) (ci := 2) (v := .int ((gI s3_10 15) + (1 : Int32))) (ty := .int) (C := RX3) (T := TX3) (N := 17) hx hb hts inX3_ tyX3 tyX3_ok nmX3 hown hK hP hD hS 0 rfl rfl 15 (by decide) (hts (.fieldLink RX3 48 "GateWheel$Reader" "uses" "I") (List.mem_of_getElem? (i := 1) rfl)) (fun _ h9 => h9) rfl (by decide +kernel) rfl rfl (Nat.le_of_ble_eq_true rfl) dX3_addUse_49 (fun H11 locs hP hD hS => ?_)
    obtain ⟨s3_12, es3_12, h⟩ := zL_spec h
    have hP : va_P (dC, dI) vwCl (cX3 a3 h3 lxa cv y s3_12) H11 := by rw [es3_12]; exact hP
    have hD : va_D A (cX3 a3 h3 lxa cv y s3_12) := by rw [es3_12]; exact hD
    have ho0 : s3_12 = o_3 := congrArg (fun z : SS => z) (Option.some.inj h)
    exact W.vret hx hb hr (fun t ht hW => ⟨⟨(), rfl, trivial, by rw [ht]; rw [← ho0]; exact hP, va_K.moved hW.alike hK, by rw [← ho0]; exact hD⟩, hS.F ht⟩) hS.2.2 dX3_addUse_52
  · have h := zN c1 h
    have ho0 : S3 = o_3 := congrArg (fun z : SS => z) (Option.some.inj h)
    exact W.vret hx hb hr (fun t ht hW => ⟨⟨(), rfl, trivial, by rw [ht]; rw [← ho0]; exact hP, va_K.moved hW.alike hK, by rw [← ho0]; exact hD⟩, hS.F ht⟩) hS.2.2 dX3_addUse_10

set_option maxHeartbeats 4000000 in
set_option maxRecDepth 100000 in
theorem m_X3_isWord (l : Launch) (dC : Nat → ClassId) (dI : Nat → Nat → Nat) (y : Nat → ClassId) (a3 : Nat) (h3 : Nat → Nat) (S3 : SS) (a1 : Nat) (h1 : Nat → Nat) (S1 : SS) (cv : Value) (tv : Value) (p1 : Int64) (sz : Nat) (or_ : Int32) (h : f_X3_isWord S3 S1 p1 = some or_) : Met l yX3_isWord wsX3_isWord ({ frames := 0, cells := 0, slots := 0, locals := 0 }) (va_Pc [.ref a3, .long p1] (fun U => U.heap.size = sz ∧ va_P (dC, dI) vwCl ((cX3 a3 h3 a1 cv y S3) ++ (cX1 a1 h1 tv y S1)) U.heap ∧ va_K (dC, dI) vwCl [(y 0, .int), (y 1, .long), (y 2, .byte), (y 3, .boolean)] U ∧ va_D (fun _ => True) ((cX3 a3 h3 a1 cv y S3) ++ (cX1 a1 h1 tv y S1)))) (va_Qi (fun (r : Int32) (_ : Unit) => r = or_) (fun (_ : Unit) (t : State) => va_P (dC, dI) vwCl ((cX3 a3 h3 a1 cv y S3) ++ (cX1 a1 h1 tv y S1)) t.heap ∧ va_K (dC, dI) vwCl [(y 0, .int), (y 1, .long), (y 2, .byte), (y 3, .boolean)] t ∧ va_D (va_A ((cX3 a3 h3 a1 cv y S3) ++ (cX1 a1 h1 tv y S1)) sz) ((cX3 a3 h3 a1 cv y S3) ++ (cX1 a1 h1 tv y S1))) (va_A ((cX3 a3 h3 a1 cv y S3) ++ (cX1 a1 h1 tv y S1)) sz)) 0 0 (va_A ((cX3 a3 h3 a1 cv y S3) ++ (cX1 a1 h1 tv y S1)) sz) := by
  refine Met.ofW (cc := cX3_isWord) (maxL := 3) (ret := (some .boolean)) (by decide +kernel) rfl ?_
  intro p e s m args below meth c s₁ B hml hv
  obtain ⟨rfl, hsz, hP, hK, hD0⟩ := hv
  have hx := B.exec
  have hb := B.bytes
  have hr := B.returns
  have hts := atoms_spec (ws := wsX3_isWord) B.pre
  have hown : s.vm.findClass RX3 = some m.cls := findClass_of_methodNamed B.named
  have hlocks := B.notSynchronized
  have inX1_ : ∀ w ∈ wsX10, w ∈ wsX3_isWord := fun _ h => List.mem_cons_of_mem _ (List.mem_append_right _ h)
  have inX3_ : ∀ w ∈ wsX30, w ∈ wsX3_isWord := fun _ h => List.mem_cons_of_mem _ (List.mem_append_left _ (List.mem_append_right _ h))
  subst hsz
  have hD := hD0.self (sz := s.heap.size)
  generalize hAe : va_A ((cX3 a3 h3 a1 cv y S3) ++ (cX1 a1 h1 tv y S1)) s.heap.size = A at hD ⊢
  have hA : ∀ q : Nat, s.heap.size ≤ q → A q := fun q h => by rw [← hAe]; exact Or.inr h
  have hS : va_S A s.heap s.heap [] := va_S.rf
  have hP : va_P (dC, dI) vwCl ((cX3 a3 h3 a1 cv y S3) ++ (cX1 a1 h1 tv y S1)) s.heap := hP
  have hl := lv_entry ([.ref a3, .long p1]) (n := 3) (Nat.le_of_ble_eq_true rfl)
  rw [lg_entry_eq]
  generalize (lg_sl ([.ref a3, .long p1]) ++ List.replicate (3 - (lg_sl ([.ref a3, .long p1])).length) Slot.unset).toArray = ls at hl ⊢
  have hl : lv_has ls 3 [(0, .ref a3), (1, .long p1)] := hl
  refine lv_aload_n hx hb dX3_isWord_0 rfl (lv_at hl 0 rfl) ?_
  refine va_get (D := (dC, dI)) (ci := 2) (v := .ref a1) (C := RX3) (T := TX3) (N := 17) hx hb hts inX3_ hown hK hP 0 rfl rfl 2 (by decide) (hts (.fieldLink RX3 18 "GateWheel$Reader" "lexer" "LGateWheel$Lexer;") (List.mem_of_getElem? (i := 1) rfl)) (fun _ h9 => h9) rfl dX3_isWord_1 ?_
  refine va_get (D := (dC, dI)) (ci := 1) (v := .int (gI S1 3)) (C := RX1) (T := TX1) (N := 7) hx hb hts inX1_ hown hK hP 5 rfl rfl 3 (by decide) (hts (.fieldLink RX3 74 "GateWheel$Lexer" "kind" "I") (List.mem_of_getElem? (i := 2) rfl)) (fun _ h9 => h9) rfl dX3_isWord_4 ?_
  refine lv_iconst (v := 2) hx hb dX3_isWord_7 (by decide) ?_
  refine lv_icmp_ne (tgt := 27) hx hb dX3_isWord_8 (by decide) (fun c1 => ?_) (fun c1 => ?_)
  · have h := zN c1 h
    refine lv_iconst (v := 0) hx hb dX3_isWord_27 (by decide) ?_
    have ho0 : (0 : Int32) = or_ := congrArg (fun z : Int32 => z) (Option.some.inj h)
    exact W.zret (v := 0) hx hb hr (by decide) (fun t ht hW => ⟨⟨0, (), rfl, ho0, by rw [ht]; exact hP, va_K.moved hW.alike hK, hD⟩, hS.F ht⟩) hS.2.2 dX3_isWord_28
  · have h := zY c1 h
    refine lv_aload_n hx hb dX3_isWord_11 rfl (lv_at hl 0 rfl) ?_
    refine va_get (D := (dC, dI)) (ci := 2) (v := .ref a1) (C := RX3) (T := TX3) (N := 17) hx hb hts inX3_ hown hK hP 0 rfl rfl 2 (by decide) (hts (.fieldLink RX3 18 "GateWheel$Reader" "lexer" "LGateWheel$Lexer;") (List.mem_of_getElem? (i := 1) rfl)) (fun _ h9 => h9) rfl dX3_isWord_12 ?_
    refine va_get (D := (dC, dI)) (ci := 1) (v := .long (gL S1 5)) (C := RX1) (T := TX1) (N := 7) hx hb hts inX1_ hown hK hP 5 rfl rfl 5 (by decide) (hts (.fieldLink RX3 137 "GateWheel$Lexer" "word" "J") (List.mem_of_getElem? (i := 3) rfl)) (fun _ h9 => h9) rfl dX3_isWord_15 ?_
    refine lv_lload_n hx hb dX3_isWord_18 rfl (lv_at hl 1 rfl) ?_
    refine W.lcmp hx hb dX3_isWord_19 ?_
    refine lv_if_ne (tgt := 27) hx hb dX3_isWord_20 (by decide) (fun c2 => ?_) (fun c2 => ?_)
    · have h := zN c2 h
      refine lv_iconst (v := 0) hx hb dX3_isWord_27 (by decide) ?_
      have ho0 : (0 : Int32) = or_ := congrArg (fun z : Int32 => z) (Option.some.inj h)
      exact W.zret (v := 0) hx hb hr (by decide) (fun t ht hW => ⟨⟨0, (), rfl, ho0, by rw [ht]; exact hP, va_K.moved hW.alike hK, hD⟩, hS.F ht⟩) hS.2.2 dX3_isWord_28
    · have h := zY c2 h
      refine lv_iconst (v := 1) hx hb dX3_isWord_23 (by decide) ?_
      refine lv_goto (tgt := 28) hx hb dX3_isWord_24 (by decide) ?_
      have ho0 : (1 : Int32) = or_ := congrArg (fun z : Int32 => z) (Option.some.inj h)
      exact W.zret (v := 1) hx hb hr (by decide) (fun t ht hW => ⟨⟨1, (), rfl, ho0, by rw [ht]; exact hP, va_K.moved hW.alike hK, hD⟩, hS.F ht⟩) hS.2.2 dX3_isWord_28

set_option maxHeartbeats 4000000 in
set_option maxRecDepth 100000 in
theorem m_X3_gateHere (l : Launch) (dC : Nat → ClassId) (dI : Nat → Nat → Nat) (y : Nat → ClassId) (a3 : Nat) (h3 : Nat → Nat) (S3 : SS) (a1 : Nat) (h1 : Nat → Nat) (S1 : SS) (cv : Value) (tv : Value) (tg : Nat × Nat × Nat × Nat) (sz : Nat) (or_ : Int32) (h : f_X3_gateHere S3 S1 = some or_) : Met l yX3_gateHere wsX3_gateHere ({ frames := 0, cells := 0, slots := 0, locals := 0 }) (va_Pc [.ref a3] (fun U => U.heap.size = sz ∧ va_P (dC, dI) vwCl ((cX3 a3 h3 a1 cv y S3) ++ (cX1 a1 h1 tv y S1)) U.heap ∧ va_K (dC, dI) vwCl [(y 0, .int), (y 1, .long), (y 2, .byte), (y 3, .boolean)] U ∧ va_D (fun _ => True) ((cX3 a3 h3 a1 cv y S3) ++ (cX1 a1 h1 tv y S1)) ∧ STG tg (va_A ((cX3 a3 h3 a1 cv y S3) ++ (cX1 a1 h1 tv y S1)) sz) U U.heap)) (va_Qi (fun (r : Int32) (_ : Unit) => r = or_) (fun (_ : Unit) (t : State) => va_P (dC, dI) vwCl ((cX3 a3 h3 a1 cv y S3) ++ (cX1 a1 h1 tv y S1)) t.heap ∧ va_K (dC, dI) vwCl [(y 0, .int), (y 1, .long), (y 2, .byte), (y 3, .boolean)] t ∧ va_D (va_A ((cX3 a3 h3 a1 cv y S3) ++ (cX1 a1 h1 tv y S1)) sz) ((cX3 a3 h3 a1 cv y S3) ++ (cX1 a1 h1 tv y S1))) (va_A ((cX3 a3 h3 a1 cv y S3) ++ (cX1 a1 h1 tv y S1)) sz)) 0 0 (va_A ((cX3 a3 h3 a1 cv y S3) ++ (cX1 a1 h1 tv y S1)) sz) := by
  refine Met.ofW (cc := cX3_gateHere) (maxL := 2) (ret := (some .int)) (by decide +kernel) rfl ?_
  intro p e s m args below meth c s₁ B hml hv
  obtain ⟨rfl, hsz, hP, hK, hD0, hST⟩ := hv
  have hx := B.exec
  have hb := B.bytes
  have hr := B.returns
  have hts := atoms_spec (ws := wsX3_gateHere) B.pre
  have hown : s.vm.findClass RX3 = some m.cls := findClass_of_methodNamed B.named
  have hlocks := B.notSynchronized
  have inX1_ : ∀ w ∈ wsX10, w ∈ wsX3_gateHere := fun _ h => List.mem_cons_of_mem _ (List.mem_append_right _ h)
  have inX3_ : ∀ w ∈ wsX30, w ∈ wsX3_gateHere := fun _ h => List.mem_cons_of_mem _ (List.mem_append_left _ (List.mem_append_right _ h))
  subst hsz
  have hD := hD0.self (sz := s.heap.size)
  generalize hAe : va_A ((cX3 a3 h3 a1 cv y S3) ++ (cX1 a1 h1 tv y S1)) s.heap.size = A at hD hST ⊢
  have hA : ∀ q : Nat, s.heap.size ≤ q → A q := fun q h => by rw [← hAe]; exact Or.inr h
  have hS : va_S A s.heap s.heap [] := va_S.rf
  have hP : va_P (dC, dI) vwCl ((cX3 a3 h3 a1 cv y S3) ++ (cX1 a1 h1 tv y S1)) s.heap := hP
  have hl := lv_entry ([.ref a3]) (n := 2) (Nat.le_of_ble_eq_true rfl)
  rw [lg_entry_eq]
  generalize (lg_sl ([.ref a3]) ++ List.replicate (2 - (lg_sl ([.ref a3])).length) Slot.unset).toArray = ls at hl ⊢
  have hl : lv_has ls 2 [(0, .ref a3)] := hl
  refine lv_iconst (v := 0) hx hb dX3_gateHere_0 (by decide) ?_
  refine lv_istore_n (lv' := [(1, .int 0), (0, .ref a3)]) hx hb dX3_gateHere_1 rfl hl (by decide) rfl (fun ls hl => ?_)
  refine W_abs (fun GW1 eG2 => ?_)
  have hi6 := h
  have lp4 : ∀ (n : Nat) (v10 : Int32) (HGW1 : Heap) (locs : List Loc) (ls : Array Slot), zI (b_X3_gateHere_2 S1) n v10 = some or_ → va_P (dC, dI) vwCl ((cX3 a3 h3 a1 cv y S3) ++ (cX1 a1 h1 tv y S1)) HGW1 → va_D A ((cX3 a3 h3 a1 cv y S3) ++ (cX1 a1 h1 tv y S1)) → va_S A s.heap HGW1 locs → lv_has ls 2 [(0, .ref a3), (1, .int v10)] → GW1 HGW1 locs 0 0 (F0 m 2 ls []) := by
    intro n
    induction n with
    | zero =>
      intro v10 HGW1 locs ls hi6 hP hD hS hl
      exact (zI_0 hi6).elim
    | succ n ihlp4 =>
      intro v10 HGW1 locs ls hi6 hP hD hS hl
      refine (eG2 _ _ _ _ _).mpr ?_
      obtain ⟨xx9, h, hx8⟩ := zI_spec hi6
      refine lv_iload_n hx hb dX3_gateHere_2 rfl (lv_at hl 1 rfl) ?_
      refine va_gets hx hb (sg_Z hST) hS hown (hts (.fieldLink RX3 216 "GateWheel$Reader" "GATE_WORDS" "[J") (List.mem_of_getElem? (i := 1) rfl)) (fun _ h9 => h9) dX3_gateHere_3 ?_
      refine va_tlen (v := 9) hx hb (sg_T hST) hS rfl dX3_gateHere_6 ?_
      refine lv_icmp_ge (tgt := 45) hx hb dX3_gateHere_7 (by decide) (fun c11 => ?_) (fun c11 => ?_)
      · have h := zY c11 h
        refine lv_iconst (v := (-1)) hx hb dX3_gateHere_45 (by decide) ?_
        have h := congrArg some (zI_r h hx8)
        have ho0 : (-1 : Int32) = or_ := congrArg (fun z : Int32 => z) (Option.some.inj h)
        exact W.iret (v := (-1)) hx hb hr (fun t ht hW => ⟨⟨(-1), (), rfl, ho0, by rw [ht]; exact hP, va_K.moved hW.alike hK, hD⟩, hS.F ht⟩) hS.2.2 dX3_gateHere_46
      · have h := zN c11 h
        refine lv_aload_n hx hb dX3_gateHere_10 rfl (lv_at hl 0 rfl) ?_
        refine va_get (D := (dC, dI)) (ci := 2) (v := .ref a1) (C := RX3) (T := TX3) (N := 17) hx hb hts inX3_ hown hK hP 0 rfl rfl 2 (by decide) (hts (.fieldLink RX3 18 "GateWheel$Reader" "lexer" "LGateWheel$Lexer;") (List.mem_of_getElem? (i := 2) rfl)) (fun _ h9 => h9) rfl dX3_gateHere_11 ?_
        refine va_get (D := (dC, dI)) (ci := 1) (v := .int (gI S1 3)) (C := RX1) (T := TX1) (N := 7) hx hb hts inX1_ hown hK hP 5 rfl rfl 3 (by decide) (hts (.fieldLink RX3 74 "GateWheel$Lexer" "kind" "I") (List.mem_of_getElem? (i := 3) rfl)) (fun _ h9 => h9) rfl dX3_gateHere_14 ?_
        refine lv_iconst (v := 2) hx hb dX3_gateHere_17 (by decide) ?_
        refine lv_icmp_ne (tgt := 45) hx hb dX3_gateHere_18 (by decide) (fun c12 => ?_) (fun c12 => ?_)
        · have h := zN c12 h
          refine lv_iconst (v := (-1)) hx hb dX3_gateHere_45 (by decide) ?_
          have h := congrArg some (zI_r h hx8)
          have ho0 : (-1 : Int32) = or_ := congrArg (fun z : Int32 => z) (Option.some.inj h)
          exact W.iret (v := (-1)) hx hb hr (fun t ht hW => ⟨⟨(-1), (), rfl, ho0, by rw [ht]; exact hP, va_K.moved hW.alike hK, hD⟩, hS.F ht⟩) hS.2.2 dX3_gateHere_46
        · have h := zY c12 h
          refine lv_aload_n hx hb dX3_gateHere_21 rfl (lv_at hl 0 rfl) ?_
          refine va_get (D := (dC, dI)) (ci := 2) (v := .ref a1) (C := RX3) (T := TX3) (N := 17) hx hb hts inX3_ hown hK hP 0 rfl rfl 2 (by decide) (hts (.fieldLink RX3 18 "GateWheel$Reader" "lexer" "LGateWheel$Lexer;") (List.mem_of_getElem? (i := 2) rfl)) (fun _ h9 => h9) rfl dX3_gateHere_22 ?_
          refine va_get (D := (dC, dI)) (ci := 1) (v := .long (gL S1 5)) (C := RX1) (T := TX1) (N := 7) hx hb hts inX1_ hown hK hP 5 rfl rfl 5 (by decide) (hts (.fieldLink RX3 137 "GateWheel$Lexer" "word" "J") (List.mem_of_getElem? (i := 4) rfl)) (fun _ h9 => h9) rfl dX3_gateHere_25 ?_
          refine va_gets hx hb (sg_Z hST) hS hown (hts (.fieldLink RX3 216 "GateWheel$Reader" "GATE_WORDS" "[J") (List.mem_of_getElem? (i := 1) rfl)) (fun _ h9 => h9) dX3_gateHere_28 ?_
          refine lv_iload_n hx hb dX3_gateHere_31 rfl (lv_at hl 1 rfl) ?_
          obtain ⟨hi13, h⟩ := zG_spec h
          refine va_tl (v := .long (sg_f v10.toNatClampNeg)) hx hb (sg_T hST) hS hi13 rfl dX3_gateHere_32 ?_
          refine W.lcmp hx hb dX3_gateHere_33 ?_
          refine lv_if_ne (tgt := 39) hx hb dX3_gateHere_34 (by decide) (fun c14 => ?_) (fun c14 => ?_)
          · have h := zN c14 h
            obtain ⟨v15, ev15, h⟩ := zL_spec h
            refine lv_iinc (v := v15) (lv' := [(1, .int v15), (0, .ref a3)]) hx hb dX3_gateHere_39 hl (k := 1) rfl (by rw [ev15]; rfl) (by decide) rfl (fun ls hl => ?_)
            refine lv_goto (tgt := 2) hx hb dX3_gateHere_42 (by decide) ?_
            have h := zI_l h hx8
            exact (eG2 _ _ _ _ _).mp (ihlp4 v15 _ _ _ h hP hD hS (lv_sub hl [1, 0] rfl))
          · have h := zY c14 h
            refine lv_iload_n hx hb dX3_gateHere_37 rfl (lv_at hl 1 rfl) ?_
            have h := congrArg some (zI_r h hx8)
            have ho0 : v10 = or_ := congrArg (fun z : Int32 => z) (Option.some.inj h)
            exact W.iret (v := v10) hx hb hr (fun t ht hW => ⟨⟨v10, (), rfl, ho0, by rw [ht]; exact hP, va_K.moved hW.alike hK, hD⟩, hS.F ht⟩) hS.2.2 dX3_gateHere_38
  exact lp4 zF (0 : Int32) _ _ _ hi6 hP hD hS (lv_sub hl [1, 0] rfl)

set_option maxHeartbeats 4000000 in
set_option maxRecDepth 100000 in
theorem m_X3_isName (l : Launch) (dC : Nat → ClassId) (dI : Nat → Nat → Nat) (y : Nat → ClassId) (a3 : Nat) (h3 : Nat → Nat) (S3 : SS) (a1 : Nat) (h1 : Nat → Nat) (S1 : SS) (cv : Value) (tv : Value) (tg : Nat × Nat × Nat × Nat) (sz : Nat) (or_ : Int32) (h : f_X3_isName S3 S1 = some or_) : Met l yX3_isName wsX3_isName ({ frames := 1, cells := 0, slots := 0, locals := 21 }) (va_Pc [.ref a3] (fun U => U.heap.size = sz ∧ va_P (dC, dI) vwCl ((cX3 a3 h3 a1 cv y S3) ++ (cX1 a1 h1 tv y S1)) U.heap ∧ va_K (dC, dI) vwCl [(y 0, .int), (y 1, .long), (y 2, .byte), (y 3, .boolean)] U ∧ va_D (fun _ => True) ((cX3 a3 h3 a1 cv y S3) ++ (cX1 a1 h1 tv y S1)) ∧ STG tg (va_A ((cX3 a3 h3 a1 cv y S3) ++ (cX1 a1 h1 tv y S1)) sz) U U.heap)) (va_Qi (fun (r : Int32) (_ : Unit) => r = or_) (fun (_ : Unit) (t : State) => va_P (dC, dI) vwCl ((cX3 a3 h3 a1 cv y S3) ++ (cX1 a1 h1 tv y S1)) t.heap ∧ va_K (dC, dI) vwCl [(y 0, .int), (y 1, .long), (y 2, .byte), (y 3, .boolean)] t ∧ va_D (va_A ((cX3 a3 h3 a1 cv y S3) ++ (cX1 a1 h1 tv y S1)) sz) ((cX3 a3 h3 a1 cv y S3) ++ (cX1 a1 h1 tv y S1))) (va_A ((cX3 a3 h3 a1 cv y S3) ++ (cX1 a1 h1 tv y S1)) sz)) 0 0 (va_A ((cX3 a3 h3 a1 cv y S3) ++ (cX1 a1 h1 tv y S1)) sz) := by
  refine Met.ofW (cc := cX3_isName) (maxL := 3) (ret := (some .boolean)) (by decide +kernel) rfl ?_
  intro p e s m args below meth c s₁ B hml hv
  obtain ⟨rfl, hsz, hP, hK, hD0, hST⟩ := hv
  have hx := B.exec
  have hb := B.bytes
  have hr := B.returns
  have hts := atoms_spec (ws := wsX3_isName) B.pre
  have hown : s.vm.findClass RX3 = some m.cls := findClass_of_methodNamed B.named
  have hlocks := B.notSynchronized
  have inX1_ : ∀ w ∈ wsX10, w ∈ wsX3_isName := fun _ h => List.mem_cons_of_mem _ (List.mem_append_right _ h)
  have inX3_ : ∀ w ∈ wsX30, w ∈ wsX3_isName := fun _ h => List.mem_cons_of_mem _ (List.mem_append_left _ (List.mem_append_right _ h))
  subst hsz
  have hD := hD0.self (sz := s.heap.size)
  generalize hAe : va_A ((cX3 a3 h3 a1 cv y S3) ++ (cX1 a1 h1 tv y S1)) s.heap.size = A at hD hST ⊢
  have hA : ∀ q : Nat, s.heap.size ≤ q → A q := fun q h => by rw [← hAe]; exact Or.inr h
  have hS : va_S A s.heap s.heap [] := va_S.rf
  have hP : va_P (dC, dI) vwCl ((cX3 a3 h3 a1 cv y S3) ++ (cX1 a1 h1 tv y S1)) s.heap := hP
  have hl := lv_entry ([.ref a3]) (n := 3) (Nat.le_of_ble_eq_true rfl)
  rw [lg_entry_eq]
  generalize (lg_sl ([.ref a3]) ++ List.replicate (3 - (lg_sl ([.ref a3])).length) Slot.unset).toArray = ls at hl ⊢
  have hl : lv_has ls 3 [(0, .ref a3)] := hl
  refine lv_aload_n hx hb dX3_isName_0 rfl (lv_at hl 0 rfl) ?_
  refine va_get (D := (dC, dI)) (ci := 2) (v := .ref a1) (C := RX3) (T := TX3) (N := 17) hx hb hts inX3_ hown hK hP 0 rfl rfl 2 (by decide) (hts (.fieldLink RX3 18 "GateWheel$Reader" "lexer" "LGateWheel$Lexer;") (List.mem_of_getElem? (i := 1) rfl)) (fun _ h9 => h9) rfl dX3_isName_1 ?_
  refine va_get (D := (dC, dI)) (ci := 1) (v := .int (gI S1 3)) (C := RX1) (T := TX1) (N := 7) hx hb hts inX1_ hown hK hP 5 rfl rfl 3 (by decide) (hts (.fieldLink RX3 74 "GateWheel$Lexer" "kind" "I") (List.mem_of_getElem? (i := 2) rfl)) (fun _ h9 => h9) rfl dX3_isName_4 ?_
  refine lv_iconst (v := 2) hx hb dX3_isName_7 (by decide) ?_
  refine lv_icmp_ne (tgt := 19) hx hb dX3_isName_8 (by decide) (fun c1 => ?_) (fun c1 => ?_)
  · have h := zN c1 h
    refine lv_iconst (v := 0) hx hb dX3_isName_19 (by decide) ?_
    have ho0 : (0 : Int32) = or_ := congrArg (fun z : Int32 => z) (Option.some.inj h)
    exact W.zret (v := 0) hx hb hr (by decide) (fun t ht hW => ⟨⟨0, (), rfl, ho0, by rw [ht]; exact hP, va_K.moved hW.alike hK, hD⟩, hS.F ht⟩) hS.2.2 dX3_isName_20
  · have h := zY c1 h
    refine lv_aload_n hx hb dX3_isName_11 rfl (lv_at hl 0 rfl) ?_
    obtain ⟨r2, hc3, h⟩ := zB_spec h
    have hFc := zFree hD hS hA
    refine va_calli (va_runV (As := []) (rest := []) ⟨hx, hb, hml, hown, hts⟩ (m_X3_gateHere l dC dI y a3 h3 S3 a1 h1 S1 cv tv tg s.heap.size r2 hc3) (cwV 0 hts gX3_isName_X3_gateHere rfl rfl rfl (by decide +kernel) ⟨Nat.le_of_ble_eq_true rfl, Nat.le_of_ble_eq_true rfl⟩) ⟨fun a U g mk q => by obtain ⟨q0, q1, qP, qK, qD, qT⟩ := q; exact ⟨q0, q1, qP, va_K.moved (u := U) (U := U.calling g mk a) (Vm.Alike.refl U.vm) qK, qD, STG_moved (u := U) (U := U.calling g mk a) (Vm.Alike.refl U.vm) qT⟩, va_recv hK hP (ci := 2) (q0 := 0) rfl rfl, fun U hU hW => ⟨rfl, by rw [hU], by rw [hU]; exact hP, va_K.moved hW.alike hK, hD.weaken (fun _ _ _ _ => trivial), by rw [hU]; exact STG_moved hW.alike (STG_narrow (STG_kept hST hS.2.1) hFc)⟩⟩ rfl rfl hl.1 rfl (lv_room (Nat.le_of_ble_eq_true rfl)) dX3_isName_12 ⟨Nat.le_of_ble_eq_true rfl, Nat.le_of_ble_eq_true rfl⟩) hS (fun q _ h => hFc q h) hFc (fun rr5 u t H4 locs ht hvm hw hB hz1 hk1 hS => ?_)
    obtain ⟨hP1, hK1, hD1⟩ := hB
    rw [ht] at hP1
    refine zTopi hw.symm ?_
    have hP := hP1
    have hD := hD1.weaken (fun _ q _ h => hFc q.1 h)
    have hP : va_P (dC, dI) vwCl ((cX3 a3 h3 a1 cv y S3) ++ (cX1 a1 h1 tv y S1)) H4 := hP
    have hD : va_D A ((cX3 a3 h3 a1 cv y S3) ++ (cX1 a1 h1 tv y S1)) := hD
    refine lv_iconst (v := (-1)) hx hb dX3_isName_15 (by decide) ?_
    refine lv_icmp_eq (tgt := 21) hx hb dX3_isName_16 (by decide) (fun c6 => ?_) (fun c6 => ?_)
    · have h := zY c6 h
      refine lv_aload_n hx hb dX3_isName_21 rfl (lv_at hl 0 rfl) ?_
      refine va_get (D := (dC, dI)) (ci := 2) (v := .ref a1) (C := RX3) (T := TX3) (N := 17) hx hb hts inX3_ hown hK hP 0 rfl rfl 2 (by decide) (hts (.fieldLink RX3 18 "GateWheel$Reader" "lexer" "LGateWheel$Lexer;") (List.mem_of_getElem? (i := 1) rfl)) (fun _ h9 => h9) rfl dX3_isName_22 ?_
      refine va_get (D := (dC, dI)) (ci := 1) (v := .long (gL S1 5)) (C := RX1) (T := TX1) (N := 7) hx hb hts inX1_ hown hK hP 5 rfl rfl 5 (by decide) (hts (.fieldLink RX3 137 "GateWheel$Lexer" "word" "J") (List.mem_of_getElem? (i := 3) rfl)) (fun _ h9 => h9) rfl dX3_isName_25 ?_
      obtain ⟨v7, ev7, h⟩ := zL_spec h
      refine zTopl ev7 ?_
      refine lv_lstore_n (lv' := [(1, .long v7), (0, .ref a3)]) hx hb dX3_isName_28 rfl hl (by decide) rfl (fun ls hl => ?_)
      refine lv_lload_n hx hb dX3_isName_29 rfl (lv_at hl 0 rfl) ?_
      refine lv_ldc2 hx hb hown (hts (.constantLong RX3 121 (26990)) (List.mem_of_getElem? (i := 4) rfl)) dX3_isName_30 ?_
      refine W.lcmp hx hb dX3_isName_33 ?_
      refine lv_if_eq (tgt := 73) hx hb dX3_isName_34 (by decide) (fun c8 => ?_) (fun c8 => ?_)
      · have h := zY c8 h
        refine lv_iconst (v := 0) hx hb dX3_isName_73 (by decide) ?_
        have ho0 : (0 : Int32) = or_ := congrArg (fun z : Int32 => z) (Option.some.inj h)
        exact W.zret (v := 0) hx hb hr (by decide) (fun t ht hW => ⟨⟨0, (), rfl, ho0, by rw [ht]; exact hP, va_K.moved hW.alike hK, hD⟩, hS.F ht⟩) hS.2.2 dX3_isName_74
      · have h := zN c8 h
        refine lv_lload_n hx hb dX3_isName_37 rfl (lv_at hl 0 rfl) ?_
        refine lv_ldc2 hx hb hown (hts (.constantLong RX3 130 (6452595)) (List.mem_of_getElem? (i := 5) rfl)) dX3_isName_38 ?_
        refine W.lcmp hx hb dX3_isName_41 ?_
        refine lv_if_eq (tgt := 73) hx hb dX3_isName_42 (by decide) (fun c9 => ?_) (fun c9 => ?_)
        · have h := zY c9 h
          refine lv_iconst (v := 0) hx hb dX3_isName_73 (by decide) ?_
          have ho0 : (0 : Int32) = or_ := congrArg (fun z : Int32 => z) (Option.some.inj h)
          exact W.zret (v := 0) hx hb hr (by decide) (fun t ht hW => ⟨⟨0, (), rfl, ho0, by rw [ht]; exact hP, va_K.moved hW.alike hK, hD⟩, hS.F ht⟩) hS.2.2 dX3_isName_74
        · have h := zN c9 h
          refine lv_lload_n hx hb dX3_isName_45 rfl (lv_at hl 0 rfl) ?_
          refine lv_ldc2 hx hb hown (hts (.constantLong RX3 132 (7497063)) (List.mem_of_getElem? (i := 6) rfl)) dX3_isName_46 ?_
          refine W.lcmp hx hb dX3_isName_49 ?_
          refine lv_if_eq (tgt := 73) hx hb dX3_isName_50 (by decide) (fun c10 => ?_) (fun c10 => ?_)
          · have h := zY c10 h
            refine lv_iconst (v := 0) hx hb dX3_isName_73 (by decide) ?_
            have ho0 : (0 : Int32) = or_ := congrArg (fun z : Int32 => z) (Option.some.inj h)
            exact W.zret (v := 0) hx hb hr (by decide) (fun t ht hW => ⟨⟨0, (), rfl, ho0, by rw [ht]; exact hP, va_K.moved hW.alike hK, hD⟩, hS.F ht⟩) hS.2.2 dX3_isName_74
          · have h := zN c10 h
            refine lv_lload_n hx hb dX3_isName_53 rfl (lv_at hl 0 rfl) ?_
            refine lv_ldc2 hx hb hown (hts (.constantLong RX3 191 (6907441)) (List.mem_of_getElem? (i := 7) rfl)) dX3_isName_54 ?_
            refine W.lcmp hx hb dX3_isName_57 ?_
            refine lv_if_eq (tgt := 73) hx hb dX3_isName_58 (by decide) (fun c11 => ?_) (fun c11 => ?_)
            · have h := zY c11 h
              refine lv_iconst (v := 0) hx hb dX3_isName_73 (by decide) ?_
              have ho0 : (0 : Int32) = or_ := congrArg (fun z : Int32 => z) (Option.some.inj h)
              exact W.zret (v := 0) hx hb hr (by decide) (fun t ht hW => ⟨⟨0, (), rfl, ho0, by rw [ht]; exact hP, va_K.moved hW.alike hK, hD⟩, hS.F ht⟩) hS.2.2 dX3_isName_74
            · have h := zN c11 h
              refine lv_lload_n hx hb dX3_isName_61 rfl (lv_at hl 0 rfl) ?_
              refine lv_ldc2 hx hb hown (hts (.constantLong RX3 193 (6907440)) (List.mem_of_getElem? (i := 8) rfl)) dX3_isName_62 ?_
              refine W.lcmp hx hb dX3_isName_65 ?_
              refine lv_if_eq (tgt := 73) hx hb dX3_isName_66 (by decide) (fun c12 => ?_) (fun c12 => ?_)
              · have h := zY c12 h
                refine lv_iconst (v := 0) hx hb dX3_isName_73 (by decide) ?_
                have ho0 : (0 : Int32) = or_ := congrArg (fun z : Int32 => z) (Option.some.inj h)
                exact W.zret (v := 0) hx hb hr (by decide) (fun t ht hW => ⟨⟨0, (), rfl, ho0, by rw [ht]; exact hP, va_K.moved hW.alike hK, hD⟩, hS.F ht⟩) hS.2.2 dX3_isName_74
              · have h := zN c12 h
                refine lv_iconst (v := 1) hx hb dX3_isName_69 (by decide) ?_
                refine lv_goto (tgt := 74) hx hb dX3_isName_70 (by decide) ?_
                have ho0 : (1 : Int32) = or_ := congrArg (fun z : Int32 => z) (Option.some.inj h)
                exact W.zret (v := 1) hx hb hr (by decide) (fun t ht hW => ⟨⟨1, (), rfl, ho0, by rw [ht]; exact hP, va_K.moved hW.alike hK, hD⟩, hS.F ht⟩) hS.2.2 dX3_isName_74
    · have h := zN c6 h
      refine lv_iconst (v := 0) hx hb dX3_isName_19 (by decide) ?_
      have ho0 : (0 : Int32) = or_ := congrArg (fun z : Int32 => z) (Option.some.inj h)
      exact W.zret (v := 0) hx hb hr (by decide) (fun t ht hW => ⟨⟨0, (), rfl, ho0, by rw [ht]; exact hP, va_K.moved hW.alike hK, hD⟩, hS.F ht⟩) hS.2.2 dX3_isName_20

set_option maxHeartbeats 4000000 in
set_option maxRecDepth 100000 in
theorem m_X3_refuse (l : Launch) (dC : Nat → ClassId) (dI : Nat → Nat → Nat) (y : Nat → ClassId) (a3 : Nat) (h3 : Nat → Nat) (S3 : SS) (a1 : Nat) (h1 : Nat → Nat) (S1 : SS) (cv : Value) (tv : Value) (sz : Nat) (or_ : Int32) (o_3 : SS) (h : f_X3_refuse S3 S1 = some (or_, o_3)) : Met l yX3_refuse wsX3_refuse ({ frames := 1, cells := 0, slots := 0, locals := 22 }) (va_Pc [.ref a3] (fun U => U.heap.size = sz ∧ va_P (dC, dI) vwCl ((cX3 a3 h3 a1 cv y S3) ++ (cX1 a1 h1 tv y S1)) U.heap ∧ va_K (dC, dI) vwCl [(y 0, .int), (y 1, .long), (y 2, .byte), (y 3, .boolean)] U ∧ va_D (fun _ => True) ((cX3 a3 h3 a1 cv y S3) ++ (cX1 a1 h1 tv y S1)))) (va_Qi (fun (r : Int32) (_ : Unit) => r = or_) (fun (_ : Unit) (t : State) => va_P (dC, dI) vwCl ((cX3 a3 h3 a1 cv y o_3) ++ (cX1 a1 h1 tv y S1)) t.heap ∧ va_K (dC, dI) vwCl [(y 0, .int), (y 1, .long), (y 2, .byte), (y 3, .boolean)] t ∧ va_D (va_A ((cX3 a3 h3 a1 cv y S3) ++ (cX1 a1 h1 tv y S1)) sz) ((cX3 a3 h3 a1 cv y o_3) ++ (cX1 a1 h1 tv y S1))) (va_A ((cX3 a3 h3 a1 cv y S3) ++ (cX1 a1 h1 tv y S1)) sz)) 0 0 (va_A ((cX3 a3 h3 a1 cv y S3) ++ (cX1 a1 h1 tv y S1)) sz) := by
  refine Met.ofW (cc := cX3_refuse) (maxL := 1) (ret := (some .boolean)) (by decide +kernel) rfl ?_
  intro p e s m args below meth c s₁ B hml hv
  obtain ⟨rfl, hsz, hP, hK, hD0⟩ := hv
  have hx := B.exec
  have hb := B.bytes
  have hr := B.returns
  have hts := atoms_spec (ws := wsX3_refuse) B.pre
  have hown : s.vm.findClass RX3 = some m.cls := findClass_of_methodNamed B.named
  have hlocks := B.notSynchronized
  have inX1_ : ∀ w ∈ wsX10, w ∈ wsX3_refuse := fun _ h => List.mem_cons_of_mem _ (List.mem_append_right _ h)
  have inX3_ : ∀ w ∈ wsX30, w ∈ wsX3_refuse := fun _ h => List.mem_cons_of_mem _ (List.mem_append_left _ (List.mem_append_right _ h))
  subst hsz
  have hD := hD0.self (sz := s.heap.size)
  generalize hAe : va_A ((cX3 a3 h3 a1 cv y S3) ++ (cX1 a1 h1 tv y S1)) s.heap.size = A at hD ⊢
  have hA : ∀ q : Nat, s.heap.size ≤ q → A q := fun q h => by rw [← hAe]; exact Or.inr h
  have hS : va_S A s.heap s.heap [] := va_S.rf
  have hP : va_P (dC, dI) vwCl ((cX3 a3 h3 a1 cv y S3) ++ (cX1 a1 h1 tv y S1)) s.heap := hP
  have hl := lv_entry ([.ref a3]) (n := 1) (Nat.le_of_ble_eq_true rfl)
  rw [lg_entry_eq]
  generalize (lg_sl ([.ref a3]) ++ List.replicate (1 - (lg_sl ([.ref a3])).length) Slot.unset).toArray = ls at hl ⊢
  have hl : lv_has ls 1 [(0, .ref a3)] := hl
  refine lv_aload_n hx hb dX3_refuse_0 rfl (lv_at hl 0 rfl) ?_
  refine lv_aload_n hx hb dX3_refuse_1 rfl (lv_at hl 0 rfl) ?_
  refine va_get (D := (dC, dI)) (ci := 2) (v := .ref a1) (C := RX3) (T := TX3) (N := 17) hx hb hts inX3_ hown hK hP 0 rfl rfl 2 (by decide) (hts (.fieldLink RX3 18 "GateWheel$Reader" "lexer" "LGateWheel$Lexer;") (List.mem_of_getElem? (i := 1) rfl)) (fun _ h9 => h9) rfl dX3_refuse_2 ?_
  refine va_get (D := (dC, dI)) (ci := 1) (v := .int (gI S1 3)) (C := RX1) (T := TX1) (N := 7) hx hb hts inX1_ hown hK hP 5 rfl rfl 3 (by decide) (hts (.fieldLink RX3 74 "GateWheel$Lexer" "kind" "I") (List.mem_of_getElem? (i := 2) rfl)) (fun _ h9 => h9) rfl dX3_refuse_5 ?_
  refine W_abs (fun GW1 eG2 => ?_)
  obtain ⟨ov4, hr5, h⟩ := zB_spec h
  have jn3 : ∀ (v7 : Int32) (HGW1 : Heap) (locs : List Loc) (ls : Array Slot), v7 = ov4 → va_P (dC, dI) vwCl ((cX3 a3 h3 a1 cv y S3) ++ (cX1 a1 h1 tv y S1)) HGW1 → va_D A ((cX3 a3 h3 a1 cv y S3) ++ (cX1 a1 h1 tv y S1)) → va_S A s.heap HGW1 locs → lv_has ls 1 [(0, .ref a3)] → GW1 HGW1 locs 0 0 (F0 m 16 ls [.int v7, .ref a3]) := by
    intro v7 HGW1 locs ls hv hP hD hS hl
    subst hv
    refine (eG2 _ _ _ _ _).mpr ?_
    refine lv_aload_n hx hb dX3_refuse_16 rfl (lv_at hl 0 rfl) ?_
    refine va_get (D := (dC, dI)) (ci := 2) (v := .ref a1) (C := RX3) (T := TX3) (N := 17) hx hb hts inX3_ hown hK hP 0 rfl rfl 2 (by decide) (hts (.fieldLink RX3 18 "GateWheel$Reader" "lexer" "LGateWheel$Lexer;") (List.mem_of_getElem? (i := 1) rfl)) (fun _ h9 => h9) rfl dX3_refuse_17 ?_
    refine va_get (D := (dC, dI)) (ci := 1) (v := .int (gI S1 4)) (C := RX1) (T := TX1) (N := 7) hx hb hts inX1_ hown hK hP 5 rfl rfl 4 (by decide) (hts (.fieldLink RX3 114 "GateWheel$Lexer" "start" "I") (List.mem_of_getElem? (i := 3) rfl)) (fun _ h9 => h9) rfl dX3_refuse_20 ?_
    obtain ⟨⟨r8, s3_9⟩, hc10, h⟩ := zB_spec h
    have hPc := hP.sub (ws' := (cX3 a3 h3 a1 cv y S3)) [0, 1, 2, 3, 4] rfl
    have hDc := hD.sub (ws' := (cX3 a3 h3 a1 cv y S3)) [0, 1, 2, 3, 4] (by decide) rfl
    have hFc := va_free (wc := (cX3 a3 h3 a1 cv y S3)) hD hS hA [0, 1, 2, 3, 4] rfl
    refine va_calli (va_runV (As := [.int v7, .int (gI S1 4)]) (rest := []) ⟨hx, hb, hml, hown, hts⟩ (m_X3_failAt l dC dI y a3 h3 S3 a1 cv v7 (gI S1 4) HGW1.size r8 s3_9 hc10) (cwV 2 hts gX3_refuse_X3_failAt rfl rfl rfl (by decide +kernel) ⟨Nat.le_of_ble_eq_true rfl, Nat.le_of_ble_eq_true rfl⟩) ⟨fun a U g mk q => by obtain ⟨q0, q1, qP, qK, qD⟩ := q; exact ⟨q0, q1, qP, va_K.moved (u := U) (U := U.calling g mk a) (Vm.Alike.refl U.vm) qK, qD⟩, va_recv hK hPc (ci := 2) (q0 := 0) rfl rfl, fun U hU hW => ⟨rfl, by rw [hU], by rw [hU]; exact hPc, va_K.moved hW.alike hK, hDc.weaken (fun _ _ _ _ => trivial)⟩⟩ rfl rfl hl.1 rfl (lv_room (Nat.le_of_ble_eq_true rfl)) dX3_refuse_23 ⟨Nat.le_of_ble_eq_true rfl, Nat.le_of_ble_eq_true rfl⟩) hS (fun q _ h => hFc q h) hFc (fun rr12 u t H11 locs ht hvm hw hB hz1 hk1 hS => ?_)
    obtain ⟨hP1, hK1, hD1⟩ := hB
    rw [ht] at hP1
    refine zTopi hw.symm ?_
    obtain ⟨hP, hD⟩ := va_join (wr := [(oX1 a1 h1 tv S1)]) (w1 := (cX3 a3 h3 a1 cv y s3_9)) hP hD [0, 1, 2, 3, 4] [5] rfl rfl (by decide) (by decide) hk1 hFc hP1 hD1
    have hP : va_P (dC, dI) vwCl ((cX3 a3 h3 a1 cv y s3_9) ++ (cX1 a1 h1 tv y S1)) H11 := hP.sub [1, 2, 3, 4, 5, 0] rfl
    have hD : va_D A ((cX3 a3 h3 a1 cv y s3_9) ++ (cX1 a1 h1 tv y S1)) := hD.sub [1, 2, 3, 4, 5, 0] (by decide) rfl
    obtain ⟨hz13, h⟩ := zG_spec h
    have ho0 : r8 = or_ := congrArg (fun z : Int32 × SS => z.1) (Option.some.inj h)
    have ho1 : s3_9 = o_3 := congrArg (fun z : Int32 × SS => z.2) (Option.some.inj h)
    exact W.zret (v := r8) hx hb hr (zb_nar hz13) (fun t ht hW => ⟨⟨r8, (), rfl, ho0, by rw [ht]; rw [← ho1]; exact hP, va_K.moved hW.alike hK, by rw [← ho1]; exact hD⟩, hS.F ht⟩) hS.2.2 dX3_refuse_26
  refine (eG2 _ _ _ _ _).mpr ?_
  have h := hr5
  refine lv_if_ne (tgt := 15) hx hb dX3_refuse_8 (by decide) (fun c14 => ?_) (fun c14 => ?_)
  · have h := zN c14 h
    refine lv_iconst (v := 2) hx hb dX3_refuse_15 (by decide) ?_
    exact (eG2 _ _ _ _ _).mp (jn3 (2 : Int32) _ _ _ (Option.some.inj h) hP hD hS (lv_sub hl [0] rfl))
  · have h := zY c14 h
    refine lv_iconst (v := 1) hx hb dX3_refuse_11 (by decide) ?_
    refine lv_goto (tgt := 16) hx hb dX3_refuse_12 (by decide) ?_
    exact (eG2 _ _ _ _ _).mp (jn3 (1 : Int32) _ _ _ (Option.some.inj h) hP hD hS (lv_sub hl [0] rfl))

set_option maxHeartbeats 4000000 in
set_option maxRecDepth 100000 in
theorem m_X3_endLine (l : Launch) (dC : Nat → ClassId) (dI : Nat → Nat → Nat) (y : Nat → ClassId) (a3 : Nat) (h3 : Nat → Nat) (S3 : SS) (a1 : Nat) (h1 : Nat → Nat) (S1 : SS) (cv : Value) (tv : Value) (sz : Nat) (or_ : Int32) (o_3 : SS) (h : f_X3_endLine S3 S1 = some (or_, o_3)) : Met l yX3_endLine wsX3_endLine ({ frames := 2, cells := 0, slots := 0, locals := 42 }) (va_Pc [.ref a3] (fun U => U.heap.size = sz ∧ va_P (dC, dI) vwCl ((cX3 a3 h3 a1 cv y S3) ++ (cX1 a1 h1 tv y S1)) U.heap ∧ va_K (dC, dI) vwCl [(y 0, .int), (y 1, .long), (y 2, .byte), (y 3, .boolean)] U ∧ va_D (fun _ => True) ((cX3 a3 h3 a1 cv y S3) ++ (cX1 a1 h1 tv y S1)))) (va_Qi (fun (r : Int32) (_ : Unit) => r = or_) (fun (_ : Unit) (t : State) => va_P (dC, dI) vwCl ((cX3 a3 h3 a1 cv y o_3) ++ (cX1 a1 h1 tv y S1)) t.heap ∧ va_K (dC, dI) vwCl [(y 0, .int), (y 1, .long), (y 2, .byte), (y 3, .boolean)] t ∧ va_D (va_A ((cX3 a3 h3 a1 cv y S3) ++ (cX1 a1 h1 tv y S1)) sz) ((cX3 a3 h3 a1 cv y o_3) ++ (cX1 a1 h1 tv y S1))) (va_A ((cX3 a3 h3 a1 cv y S3) ++ (cX1 a1 h1 tv y S1)) sz)) 0 0 (va_A ((cX3 a3 h3 a1 cv y S3) ++ (cX1 a1 h1 tv y S1)) sz) := by
  refine Met.ofW (cc := cX3_endLine) (maxL := 1) (ret := (some .boolean)) (by decide +kernel) rfl ?_
  intro p e s m args below meth c s₁ B hml hv
  obtain ⟨rfl, hsz, hP, hK, hD0⟩ := hv
  have hx := B.exec
  have hb := B.bytes
  have hr := B.returns
  have hts := atoms_spec (ws := wsX3_endLine) B.pre
  have hown : s.vm.findClass RX3 = some m.cls := findClass_of_methodNamed B.named
  have hlocks := B.notSynchronized
  have inX1_ : ∀ w ∈ wsX10, w ∈ wsX3_endLine := fun _ h => List.mem_cons_of_mem _ (List.mem_append_right _ h)
  have inX3_ : ∀ w ∈ wsX30, w ∈ wsX3_endLine := fun _ h => List.mem_cons_of_mem _ (List.mem_append_left _ (List.mem_append_right _ h))
  subst hsz
  have hD := hD0.self (sz := s.heap.size)
  generalize hAe : va_A ((cX3 a3 h3 a1 cv y S3) ++ (cX1 a1 h1 tv y S1)) s.heap.size = A at hD ⊢
  have hA : ∀ q : Nat, s.heap.size ≤ q → A q := fun q h => by rw [← hAe]; exact Or.inr h
  have hS : va_S A s.heap s.heap [] := va_S.rf
  have hP : va_P (dC, dI) vwCl ((cX3 a3 h3 a1 cv y S3) ++ (cX1 a1 h1 tv y S1)) s.heap := hP
  have hl := lv_entry ([.ref a3]) (n := 1) (Nat.le_of_ble_eq_true rfl)
  rw [lg_entry_eq]
  generalize (lg_sl ([.ref a3]) ++ List.replicate (1 - (lg_sl ([.ref a3])).length) Slot.unset).toArray = ls at hl ⊢
  have hl : lv_has ls 1 [(0, .ref a3)] := hl
  refine lv_aload_n hx hb dX3_endLine_0 rfl (lv_at hl 0 rfl) ?_
  refine va_get (D := (dC, dI)) (ci := 2) (v := .ref a1) (C := RX3) (T := TX3) (N := 17) hx hb hts inX3_ hown hK hP 0 rfl rfl 2 (by decide) (hts (.fieldLink RX3 18 "GateWheel$Reader" "lexer" "LGateWheel$Lexer;") (List.mem_of_getElem? (i := 1) rfl)) (fun _ h9 => h9) rfl dX3_endLine_1 ?_
  refine va_get (D := (dC, dI)) (ci := 1) (v := .int (gI S1 3)) (C := RX1) (T := TX1) (N := 7) hx hb hts inX1_ hown hK hP 5 rfl rfl 3 (by decide) (hts (.fieldLink RX3 74 "GateWheel$Lexer" "kind" "I") (List.mem_of_getElem? (i := 2) rfl)) (fun _ h9 => h9) rfl dX3_endLine_4 ?_
  refine lv_bipush (v := 59) hx hb dX3_endLine_7 (by decide) ?_
  refine lv_icmp_ne (tgt := 20) hx hb dX3_endLine_9 (by decide) (fun c1 => ?_) (fun c1 => ?_)
  · have h := zN c1 h
    refine lv_aload_n hx hb dX3_endLine_20 rfl (lv_at hl 0 rfl) ?_
    obtain ⟨⟨r2, s3_3⟩, hc4, h⟩ := zB_spec h
    have hFc := zFree hD hS hA
    refine va_calli (va_runV (As := []) (rest := []) ⟨hx, hb, hml, hown, hts⟩ (m_X3_refuse l dC dI y a3 h3 S3 a1 h1 S1 cv tv s.heap.size r2 s3_3 hc4) (cwV 0 hts gX3_endLine_X3_refuse rfl rfl rfl (by decide +kernel) ⟨Nat.le_of_ble_eq_true rfl, Nat.le_of_ble_eq_true rfl⟩) ⟨fun a U g mk q => by obtain ⟨q0, q1, qP, qK, qD⟩ := q; exact ⟨q0, q1, qP, va_K.moved (u := U) (U := U.calling g mk a) (Vm.Alike.refl U.vm) qK, qD⟩, va_recv hK hP (ci := 2) (q0 := 0) rfl rfl, fun U hU hW => ⟨rfl, by rw [hU], by rw [hU]; exact hP, va_K.moved hW.alike hK, hD.weaken (fun _ _ _ _ => trivial)⟩⟩ rfl rfl hl.1 rfl (lv_room (Nat.le_of_ble_eq_true rfl)) dX3_endLine_21 ⟨Nat.le_of_ble_eq_true rfl, Nat.le_of_ble_eq_true rfl⟩) hS (fun q _ h => hFc q h) hFc (fun rr6 u t H5 locs ht hvm hw hB hz1 hk1 hS => ?_)
    obtain ⟨hP1, hK1, hD1⟩ := hB
    rw [ht] at hP1
    refine zTopi hw.symm ?_
    have hP := hP1
    have hD := hD1.weaken (fun _ q _ h => hFc q.1 h)
    have hP : va_P (dC, dI) vwCl ((cX3 a3 h3 a1 cv y s3_3) ++ (cX1 a1 h1 tv y S1)) H5 := hP
    have hD : va_D A ((cX3 a3 h3 a1 cv y s3_3) ++ (cX1 a1 h1 tv y S1)) := hD
    obtain ⟨hz7, h⟩ := zG_spec h
    have ho0 : r2 = or_ := congrArg (fun z : Int32 × SS => z.1) (Option.some.inj h)
    have ho1 : s3_3 = o_3 := congrArg (fun z : Int32 × SS => z.2) (Option.some.inj h)
    exact W.zret (v := r2) hx hb hr (zb_nar hz7) (fun t ht hW => ⟨⟨r2, (), rfl, ho0, by rw [ht]; rw [← ho1]; exact hP, va_K.moved hW.alike hK, by rw [← ho1]; exact hD⟩, hS.F ht⟩) hS.2.2 dX3_endLine_24
  · have h := zY c1 h
    refine lv_aload_n hx hb dX3_endLine_12 rfl (lv_at hl 0 rfl) ?_
    refine lv_iconst (v := 0) hx hb dX3_endLine_13 (by decide) ?_
    obtain ⟨⟨r8, s3_9⟩, hc10, h⟩ := zB_spec h
    have hPc := hP.sub (ws' := (cX3 a3 h3 a1 cv y S3)) [0, 1, 2, 3, 4] rfl
    have hDc := hD.sub (ws' := (cX3 a3 h3 a1 cv y S3)) [0, 1, 2, 3, 4] (by decide) rfl
    have hFc := va_free (wc := (cX3 a3 h3 a1 cv y S3)) hD hS hA [0, 1, 2, 3, 4] rfl
    refine va_calli (va_runV (As := [.int 0]) (rest := []) ⟨hx, hb, hml, hown, hts⟩ (m_X3_go l dC dI y a3 h3 S3 a1 cv (0 : Int32) s.heap.size r8 s3_9 hc10) (cwV 1 hts gX3_endLine_X3_go rfl rfl rfl (by decide +kernel) ⟨Nat.le_of_ble_eq_true rfl, Nat.le_of_ble_eq_true rfl⟩) ⟨fun a U g mk q => by obtain ⟨q0, q1, qP, qK, qD⟩ := q; exact ⟨q0, q1, qP, va_K.moved (u := U) (U := U.calling g mk a) (Vm.Alike.refl U.vm) qK, qD⟩, va_recv hK hPc (ci := 2) (q0 := 0) rfl rfl, fun U hU hW => ⟨rfl, by rw [hU], by rw [hU]; exact hPc, va_K.moved hW.alike hK, hDc.weaken (fun _ _ _ _ => trivial)⟩⟩ rfl rfl hl.1 rfl (lv_room (Nat.le_of_ble_eq_true rfl)) dX3_endLine_14 ⟨Nat.le_of_ble_eq_true rfl, Nat.le_of_ble_eq_true rfl⟩) hS (fun q _ h => hFc q h) hFc (fun rr12 u t H11 locs ht hvm hw hB hz1 hk1 hS => ?_)
    obtain ⟨hP1, hK1, hD1⟩ := hB
    rw [ht] at hP1
    refine zTopi hw.symm ?_
    obtain ⟨hP, hD⟩ := va_join (wr := [(oX1 a1 h1 tv S1)]) (w1 := (cX3 a3 h3 a1 cv y s3_9)) hP hD [0, 1, 2, 3, 4] [5] rfl rfl (by decide) (by decide) hk1 hFc hP1 hD1
    have hP : va_P (dC, dI) vwCl ((cX3 a3 h3 a1 cv y s3_9) ++ (cX1 a1 h1 tv y S1)) H11 := hP.sub [1, 2, 3, 4, 5, 0] rfl
    have hD : va_D A ((cX3 a3 h3 a1 cv y s3_9) ++ (cX1 a1 h1 tv y S1)) := hD.sub [1, 2, 3, 4, 5, 0] (by decide) rfl
    refine lv_goto (tgt := 24) hx hb dX3_endLine_17 (by decide) ?_
    obtain ⟨hz13, h⟩ := zG_spec h
    have ho0 : r8 = or_ := congrArg (fun z : Int32 × SS => z.1) (Option.some.inj h)
    have ho1 : s3_9 = o_3 := congrArg (fun z : Int32 × SS => z.2) (Option.some.inj h)
    exact W.zret (v := r8) hx hb hr (zb_nar hz13) (fun t ht hW => ⟨⟨r8, (), rfl, ho0, by rw [ht]; rw [← ho1]; exact hP, va_K.moved hW.alike hK, by rw [← ho1]; exact hD⟩, hS.F ht⟩) hS.2.2 dX3_endLine_24

set_option maxHeartbeats 4000000 in
set_option maxRecDepth 100000 in
theorem m_X3_beginLine (l : Launch) (dC : Nat → ClassId) (dI : Nat → Nat → Nat) (y : Nat → ClassId) (a3 : Nat) (h3 : Nat → Nat) (S3 : SS) (a1 : Nat) (h1 : Nat → Nat) (S1 : SS) (cv : Value) (tv : Value) (tg : Nat × Nat × Nat × Nat) (sz : Nat) (or_ : Int32) (o_3 : SS) (h : f_X3_beginLine S3 S1 = some (or_, o_3)) : Met l yX3_beginLine wsX3_beginLine ({ frames := 2, cells := 0, slots := 0, locals := 43 }) (va_Pc [.ref a3] (fun U => U.heap.size = sz ∧ va_P (dC, dI) vwCl ((cX3 a3 h3 a1 cv y S3) ++ (cX1 a1 h1 tv y S1)) U.heap ∧ va_K (dC, dI) vwCl [(y 0, .int), (y 1, .long), (y 2, .byte), (y 3, .boolean)] U ∧ va_D (fun _ => True) ((cX3 a3 h3 a1 cv y S3) ++ (cX1 a1 h1 tv y S1)) ∧ STG tg (va_A ((cX3 a3 h3 a1 cv y S3) ++ (cX1 a1 h1 tv y S1)) sz) U U.heap)) (va_Qi (fun (r : Int32) (_ : Unit) => r = or_) (fun (_ : Unit) (t : State) => va_P (dC, dI) vwCl ((cX3 a3 h3 a1 cv y o_3) ++ (cX1 a1 h1 tv y S1)) t.heap ∧ va_K (dC, dI) vwCl [(y 0, .int), (y 1, .long), (y 2, .byte), (y 3, .boolean)] t ∧ va_D (va_A ((cX3 a3 h3 a1 cv y S3) ++ (cX1 a1 h1 tv y S1)) sz) ((cX3 a3 h3 a1 cv y o_3) ++ (cX1 a1 h1 tv y S1))) (va_A ((cX3 a3 h3 a1 cv y S3) ++ (cX1 a1 h1 tv y S1)) sz)) 0 0 (va_A ((cX3 a3 h3 a1 cv y S3) ++ (cX1 a1 h1 tv y S1)) sz) := by
  refine Met.ofW (cc := cX3_beginLine) (maxL := 1) (ret := (some .boolean)) (by decide +kernel) rfl ?_
  intro p e s m args below meth c s₁ B hml hv
  obtain ⟨rfl, hsz, hP, hK, hD0, hST⟩ := hv
  have hx := B.exec
  have hb := B.bytes
  have hr := B.returns
  have hts := atoms_spec (ws := wsX3_beginLine) B.pre
  have hown : s.vm.findClass RX3 = some m.cls := findClass_of_methodNamed B.named
  have hlocks := B.notSynchronized
  have inX1_ : ∀ w ∈ wsX10, w ∈ wsX3_beginLine := fun _ h => List.mem_cons_of_mem _ (List.mem_append_right _ h)
  have inX3_ : ∀ w ∈ wsX30, w ∈ wsX3_beginLine := fun _ h => List.mem_cons_of_mem _ (List.mem_append_left _ (List.mem_append_right _ h))
  subst hsz
  have hD := hD0.self (sz := s.heap.size)
  generalize hAe : va_A ((cX3 a3 h3 a1 cv y S3) ++ (cX1 a1 h1 tv y S1)) s.heap.size = A at hD hST ⊢
  have hA : ∀ q : Nat, s.heap.size ≤ q → A q := fun q h => by rw [← hAe]; exact Or.inr h
  have hS : va_S A s.heap s.heap [] := va_S.rf
  have hP : va_P (dC, dI) vwCl ((cX3 a3 h3 a1 cv y S3) ++ (cX1 a1 h1 tv y S1)) s.heap := hP
  have hl := lv_entry ([.ref a3]) (n := 1) (Nat.le_of_ble_eq_true rfl)
  rw [lg_entry_eq]
  generalize (lg_sl ([.ref a3]) ++ List.replicate (1 - (lg_sl ([.ref a3])).length) Slot.unset).toArray = ls at hl ⊢
  have hl : lv_has ls 1 [(0, .ref a3)] := hl
  refine lv_aload_n hx hb dX3_beginLine_0 rfl (lv_at hl 0 rfl) ?_
  refine lv_ldc2 hx hb hown (hts (.constantLong RX3 121 (26990)) (List.mem_of_getElem? (i := 1) rfl)) dX3_beginLine_1 ?_
  obtain ⟨r1, hc2, h⟩ := zB_spec h
  have hFc := zFree hD hS hA
  refine va_calli (va_runV (As := [.long 26990]) (rest := []) ⟨hx, hb, hml, hown, hts⟩ (m_X3_isWord l dC dI y a3 h3 S3 a1 h1 S1 cv tv (26990 : Int64) s.heap.size r1 hc2) (cwV 1 hts gX3_beginLine_X3_isWord rfl rfl rfl (by decide +kernel) ⟨Nat.le_of_ble_eq_true rfl, Nat.le_of_ble_eq_true rfl⟩) ⟨fun a U g mk q => by obtain ⟨q0, q1, qP, qK, qD⟩ := q; exact ⟨q0, q1, qP, va_K.moved (u := U) (U := U.calling g mk a) (Vm.Alike.refl U.vm) qK, qD⟩, va_recv hK hP (ci := 2) (q0 := 0) rfl rfl, fun U hU hW => ⟨rfl, by rw [hU], by rw [hU]; exact hP, va_K.moved hW.alike hK, hD.weaken (fun _ _ _ _ => trivial)⟩⟩ rfl rfl hl.1 rfl (lv_room (Nat.le_of_ble_eq_true rfl)) dX3_beginLine_4 ⟨Nat.le_of_ble_eq_true rfl, Nat.le_of_ble_eq_true rfl⟩) hS (fun q _ h => hFc q h) hFc (fun rr4 u t H3 locs ht hvm hw hB hz1 hk1 hS => ?_)
  obtain ⟨hP1, hK1, hD1⟩ := hB
  rw [ht] at hP1
  refine zTopi hw.symm ?_
  have hP := hP1
  have hD := hD1.weaken (fun _ q _ h => hFc q.1 h)
  have hP : va_P (dC, dI) vwCl ((cX3 a3 h3 a1 cv y S3) ++ (cX1 a1 h1 tv y S1)) H3 := hP
  have hD : va_D A ((cX3 a3 h3 a1 cv y S3) ++ (cX1 a1 h1 tv y S1)) := hD
  refine lv_if_eq (tgt := 16) hx hb dX3_beginLine_7 (by decide) (fun c5 => ?_) (fun c5 => ?_)
  · have h := zY c5 h
    refine lv_aload_n hx hb dX3_beginLine_16 rfl (lv_at hl 0 rfl) ?_
    refine lv_ldc2 hx hb hown (hts (.constantLong RX3 130 (6452595)) (List.mem_of_getElem? (i := 2) rfl)) dX3_beginLine_17 ?_
    obtain ⟨r6, hc7, h⟩ := zB_spec h
    have hFc := zFree hD hS hA
    refine va_calli (va_runV (As := [.long 6452595]) (rest := []) ⟨hx, hb, hml, hown, hts⟩ (m_X3_isWord l dC dI y a3 h3 S3 a1 h1 S1 cv tv (6452595 : Int64) H3.size r6 hc7) (cwV 1 hts gX3_beginLine_X3_isWord rfl rfl rfl (by decide +kernel) ⟨Nat.le_of_ble_eq_true rfl, Nat.le_of_ble_eq_true rfl⟩) ⟨fun a U g mk q => by obtain ⟨q0, q1, qP, qK, qD⟩ := q; exact ⟨q0, q1, qP, va_K.moved (u := U) (U := U.calling g mk a) (Vm.Alike.refl U.vm) qK, qD⟩, va_recv hK hP (ci := 2) (q0 := 0) rfl rfl, fun U hU hW => ⟨rfl, by rw [hU], by rw [hU]; exact hP, va_K.moved hW.alike hK, hD.weaken (fun _ _ _ _ => trivial)⟩⟩ rfl rfl hl.1 rfl (lv_room (Nat.le_of_ble_eq_true rfl)) dX3_beginLine_20 ⟨Nat.le_of_ble_eq_true rfl, Nat.le_of_ble_eq_true rfl⟩) hS (fun q _ h => hFc q h) hFc (fun rr9 u t H8 locs ht hvm hw hB hz1 hk1 hS => ?_)
    obtain ⟨hP1, hK1, hD1⟩ := hB
    rw [ht] at hP1
    refine zTopi hw.symm ?_
    have hP := hP1
    have hD := hD1.weaken (fun _ q _ h => hFc q.1 h)
    have hP : va_P (dC, dI) vwCl ((cX3 a3 h3 a1 cv y S3) ++ (cX1 a1 h1 tv y S1)) H8 := hP
    have hD : va_D A ((cX3 a3 h3 a1 cv y S3) ++ (cX1 a1 h1 tv y S1)) := hD
    refine lv_if_eq (tgt := 32) hx hb dX3_beginLine_23 (by decide) (fun c10 => ?_) (fun c10 => ?_)
    · have h := zY c10 h
      refine lv_aload_n hx hb dX3_beginLine_32 rfl (lv_at hl 0 rfl) ?_
      refine lv_ldc2 hx hb hown (hts (.constantLong RX3 132 (7497063)) (List.mem_of_getElem? (i := 3) rfl)) dX3_beginLine_33 ?_
      obtain ⟨r11, hc12, h⟩ := zB_spec h
      have hFc := zFree hD hS hA
      refine va_calli (va_runV (As := [.long 7497063]) (rest := []) ⟨hx, hb, hml, hown, hts⟩ (m_X3_isWord l dC dI y a3 h3 S3 a1 h1 S1 cv tv (7497063 : Int64) H8.size r11 hc12) (cwV 1 hts gX3_beginLine_X3_isWord rfl rfl rfl (by decide +kernel) ⟨Nat.le_of_ble_eq_true rfl, Nat.le_of_ble_eq_true rfl⟩) ⟨fun a U g mk q => by obtain ⟨q0, q1, qP, qK, qD⟩ := q; exact ⟨q0, q1, qP, va_K.moved (u := U) (U := U.calling g mk a) (Vm.Alike.refl U.vm) qK, qD⟩, va_recv hK hP (ci := 2) (q0 := 0) rfl rfl, fun U hU hW => ⟨rfl, by rw [hU], by rw [hU]; exact hP, va_K.moved hW.alike hK, hD.weaken (fun _ _ _ _ => trivial)⟩⟩ rfl rfl hl.1 rfl (lv_room (Nat.le_of_ble_eq_true rfl)) dX3_beginLine_36 ⟨Nat.le_of_ble_eq_true rfl, Nat.le_of_ble_eq_true rfl⟩) hS (fun q _ h => hFc q h) hFc (fun rr14 u t H13 locs ht hvm hw hB hz1 hk1 hS => ?_)
      obtain ⟨hP1, hK1, hD1⟩ := hB
      rw [ht] at hP1
      refine zTopi hw.symm ?_
      have hP := hP1
      have hD := hD1.weaken (fun _ q _ h => hFc q.1 h)
      have hP : va_P (dC, dI) vwCl ((cX3 a3 h3 a1 cv y S3) ++ (cX1 a1 h1 tv y S1)) H13 := hP
      have hD : va_D A ((cX3 a3 h3 a1 cv y S3) ++ (cX1 a1 h1 tv y S1)) := hD
      refine lv_if_eq (tgt := 48) hx hb dX3_beginLine_39 (by decide) (fun c15 => ?_) (fun c15 => ?_)
      · have h := zY c15 h
        refine lv_aload_n hx hb dX3_beginLine_48 rfl (lv_at hl 0 rfl) ?_
        obtain ⟨r16, hc17, h⟩ := zB_spec h
        have hFc := zFree hD hS hA
        refine va_calli (va_runV (As := []) (rest := []) ⟨hx, hb, hml, hown, hts⟩ (m_X3_isName l dC dI y a3 h3 S3 a1 h1 S1 cv tv tg H13.size r16 hc17) (cwV 0 hts gX3_beginLine_X3_isName rfl rfl rfl (by decide +kernel) ⟨Nat.le_of_ble_eq_true rfl, Nat.le_of_ble_eq_true rfl⟩) ⟨fun a U g mk q => by obtain ⟨q0, q1, qP, qK, qD, qT⟩ := q; exact ⟨q0, q1, qP, va_K.moved (u := U) (U := U.calling g mk a) (Vm.Alike.refl U.vm) qK, qD, STG_moved (u := U) (U := U.calling g mk a) (Vm.Alike.refl U.vm) qT⟩, va_recv hK hP (ci := 2) (q0 := 0) rfl rfl, fun U hU hW => ⟨rfl, by rw [hU], by rw [hU]; exact hP, va_K.moved hW.alike hK, hD.weaken (fun _ _ _ _ => trivial), by rw [hU]; exact STG_moved hW.alike (STG_narrow (STG_kept hST hS.2.1) hFc)⟩⟩ rfl rfl hl.1 rfl (lv_room (Nat.le_of_ble_eq_true rfl)) dX3_beginLine_49 ⟨Nat.le_of_ble_eq_true rfl, Nat.le_of_ble_eq_true rfl⟩) hS (fun q _ h => hFc q h) hFc (fun rr19 u t H18 locs ht hvm hw hB hz1 hk1 hS => ?_)
        obtain ⟨hP1, hK1, hD1⟩ := hB
        rw [ht] at hP1
        refine zTopi hw.symm ?_
        have hP := hP1
        have hD := hD1.weaken (fun _ q _ h => hFc q.1 h)
        have hP : va_P (dC, dI) vwCl ((cX3 a3 h3 a1 cv y S3) ++ (cX1 a1 h1 tv y S1)) H18 := hP
        have hD : va_D A ((cX3 a3 h3 a1 cv y S3) ++ (cX1 a1 h1 tv y S1)) := hD
        refine lv_if_ne (tgt := 60) hx hb dX3_beginLine_52 (by decide) (fun c20 => ?_) (fun c20 => ?_)
        · have h := zN c20 h
          refine lv_aload_n hx hb dX3_beginLine_60 rfl (lv_at hl 0 rfl) ?_
          refine lv_aload_n hx hb dX3_beginLine_61 rfl (lv_at hl 0 rfl) ?_
          refine va_get (D := (dC, dI)) (ci := 2) (v := .ref a1) (C := RX3) (T := TX3) (N := 17) hx hb hts inX3_ hown hK hP 0 rfl rfl 2 (by decide) (hts (.fieldLink RX3 18 "GateWheel$Reader" "lexer" "LGateWheel$Lexer;") (List.mem_of_getElem? (i := 4) rfl)) (fun _ h9 => h9) rfl dX3_beginLine_62 ?_
          refine va_get (D := (dC, dI)) (ci := 1) (v := .long (gL S1 5)) (C := RX1) (T := TX1) (N := 7) hx hb hts inX1_ hown hK hP 5 rfl rfl 5 (by decide) (hts (.fieldLink RX3 137 "GateWheel$Lexer" "word" "J") (List.mem_of_getElem? (i := 5) rfl)) (fun _ h9 => h9) rfl dX3_beginLine_65 ?_
          refine va_put (D := (dC, dI)) (ci := 2) (v := .long (gL S1 5)) (ty := .long) (C := RX3) (T := TX3) (N := 17) hx hb hts inX3_ tyX3 tyX3_ok nmX3 hown hK hP hD hS 0 rfl rfl 6 (by decide) (hts (.fieldLink RX3 141 "GateWheel$Reader" "lineName" "J") (List.mem_of_getElem? (i := 6) rfl)) (fun _ h9 => h9) rfl (by decide +kernel) rfl rfl (Nat.le_of_ble_eq_true rfl) dX3_beginLine_68 (fun H21 locs hP hD hS => ?_)
          obtain ⟨s3_22, es3_22, h⟩ := zL_spec h
          have hP : va_P (dC, dI) vwCl ((cX3 a3 h3 a1 cv y s3_22) ++ (cX1 a1 h1 tv y S1)) H21 := by rw [es3_22]; exact hP
          have hD : va_D A ((cX3 a3 h3 a1 cv y s3_22) ++ (cX1 a1 h1 tv y S1)) := by rw [es3_22]; exact hD
          refine lv_aload_n hx hb dX3_beginLine_71 rfl (lv_at hl 0 rfl) ?_
          refine lv_aload_n hx hb dX3_beginLine_72 rfl (lv_at hl 0 rfl) ?_
          refine va_get (D := (dC, dI)) (ci := 2) (v := .ref a1) (C := RX3) (T := TX3) (N := 17) hx hb hts inX3_ hown hK hP 0 rfl rfl 2 (by decide) (hts (.fieldLink RX3 18 "GateWheel$Reader" "lexer" "LGateWheel$Lexer;") (List.mem_of_getElem? (i := 4) rfl)) (fun _ h9 => h9) rfl dX3_beginLine_73 ?_
          refine va_get (D := (dC, dI)) (ci := 1) (v := .int (gI S1 4)) (C := RX1) (T := TX1) (N := 7) hx hb hts inX1_ hown hK hP 5 rfl rfl 4 (by decide) (hts (.fieldLink RX3 114 "GateWheel$Lexer" "start" "I") (List.mem_of_getElem? (i := 7) rfl)) (fun _ h9 => h9) rfl dX3_beginLine_76 ?_
          refine va_put (D := (dC, dI)) (ci := 2) (v := .int (gI S1 4)) (ty := .int) (C := RX3) (T := TX3) (N := 17) hx hb hts inX3_ tyX3 tyX3_ok nmX3 hown hK hP hD hS 0 rfl rfl 7 (by decide) (hts (.fieldLink RX3 144 "GateWheel$Reader" "linePlace" "I") (List.mem_of_getElem? (i := 8) rfl)) (fun _ h9 => h9) rfl (by decide +kernel) rfl rfl (Nat.le_of_ble_eq_true rfl) dX3_beginLine_79 (fun H23 locs hP hD hS => ?_)
          obtain ⟨s3_24, es3_24, h⟩ := zL_spec h
          have hP : va_P (dC, dI) vwCl ((cX3 a3 h3 a1 cv y s3_24) ++ (cX1 a1 h1 tv y S1)) H23 := by rw [es3_24]; exact hP
          have hD : va_D A ((cX3 a3 h3 a1 cv y s3_24) ++ (cX1 a1 h1 tv y S1)) := by rw [es3_24]; exact hD
          refine lv_aload_n hx hb dX3_beginLine_82 rfl (lv_at hl 0 rfl) ?_
          refine lv_iconst (v := 3) hx hb dX3_beginLine_83 (by decide) ?_
          obtain ⟨⟨r25, s3_26⟩, hc27, h⟩ := zB_spec h
          have hPc := hP.sub (ws' := (cX3 a3 h3 a1 cv y s3_24)) [0, 1, 2, 3, 4] rfl
          have hDc := hD.sub (ws' := (cX3 a3 h3 a1 cv y s3_24)) [0, 1, 2, 3, 4] (by decide) rfl
          have hFc := va_free (wc := (cX3 a3 h3 a1 cv y s3_24)) hD hS hA [0, 1, 2, 3, 4] rfl
          refine va_calli (va_runV (As := [.int 3]) (rest := []) ⟨hx, hb, hml, hown, hts⟩ (m_X3_go l dC dI y a3 h3 s3_24 a1 cv (3 : Int32) H23.size r25 s3_26 hc27) (cwV 1 hts gX3_beginLine_X3_go rfl rfl rfl (by decide +kernel) ⟨Nat.le_of_ble_eq_true rfl, Nat.le_of_ble_eq_true rfl⟩) ⟨fun a U g mk q => by obtain ⟨q0, q1, qP, qK, qD⟩ := q; exact ⟨q0, q1, qP, va_K.moved (u := U) (U := U.calling g mk a) (Vm.Alike.refl U.vm) qK, qD⟩, va_recv hK hPc (ci := 2) (q0 := 0) rfl rfl, fun U hU hW => ⟨rfl, by rw [hU], by rw [hU]; exact hPc, va_K.moved hW.alike hK, hDc.weaken (fun _ _ _ _ => trivial)⟩⟩ rfl rfl hl.1 rfl (lv_room (Nat.le_of_ble_eq_true rfl)) dX3_beginLine_84 ⟨Nat.le_of_ble_eq_true rfl, Nat.le_of_ble_eq_true rfl⟩) hS (fun q _ h => hFc q h) hFc (fun rr29 u t H28 locs ht hvm hw hB hz1 hk1 hS => ?_)
          obtain ⟨hP1, hK1, hD1⟩ := hB
          rw [ht] at hP1
          refine zTopi hw.symm ?_
          obtain ⟨hP, hD⟩ := va_join (wr := [(oX1 a1 h1 tv S1)]) (w1 := (cX3 a3 h3 a1 cv y s3_26)) hP hD [0, 1, 2, 3, 4] [5] rfl rfl (by decide) (by decide) hk1 hFc hP1 hD1
          have hP : va_P (dC, dI) vwCl ((cX3 a3 h3 a1 cv y s3_26) ++ (cX1 a1 h1 tv y S1)) H28 := hP.sub [1, 2, 3, 4, 5, 0] rfl
          have hD : va_D A ((cX3 a3 h3 a1 cv y s3_26) ++ (cX1 a1 h1 tv y S1)) := hD.sub [1, 2, 3, 4, 5, 0] (by decide) rfl
          obtain ⟨hz30, h⟩ := zG_spec h
          have ho0 : r25 = or_ := congrArg (fun z : Int32 × SS => z.1) (Option.some.inj h)
          have ho1 : s3_26 = o_3 := congrArg (fun z : Int32 × SS => z.2) (Option.some.inj h)
          exact W.zret (v := r25) hx hb hr (zb_nar hz30) (fun t ht hW => ⟨⟨r25, (), rfl, ho0, by rw [ht]; rw [← ho1]; exact hP, va_K.moved hW.alike hK, by rw [← ho1]; exact hD⟩, hS.F ht⟩) hS.2.2 dX3_beginLine_87
        · have h := zY c20 h
          refine lv_aload_n hx hb dX3_beginLine_55 rfl (lv_at hl 0 rfl) ?_
          obtain ⟨⟨r31, s3_32⟩, hc33, h⟩ := zB_spec h
          have hFc := zFree hD hS hA
          refine va_calli (va_runV (As := []) (rest := []) ⟨hx, hb, hml, hown, hts⟩ (m_X3_refuse l dC dI y a3 h3 S3 a1 h1 S1 cv tv H18.size r31 s3_32 hc33) (cwV 0 hts gX3_beginLine_X3_refuse rfl rfl rfl (by decide +kernel) ⟨Nat.le_of_ble_eq_true rfl, Nat.le_of_ble_eq_true rfl⟩) ⟨fun a U g mk q => by obtain ⟨q0, q1, qP, qK, qD⟩ := q; exact ⟨q0, q1, qP, va_K.moved (u := U) (U := U.calling g mk a) (Vm.Alike.refl U.vm) qK, qD⟩, va_recv hK hP (ci := 2) (q0 := 0) rfl rfl, fun U hU hW => ⟨rfl, by rw [hU], by rw [hU]; exact hP, va_K.moved hW.alike hK, hD.weaken (fun _ _ _ _ => trivial)⟩⟩ rfl rfl hl.1 rfl (lv_room (Nat.le_of_ble_eq_true rfl)) dX3_beginLine_56 ⟨Nat.le_of_ble_eq_true rfl, Nat.le_of_ble_eq_true rfl⟩) hS (fun q _ h => hFc q h) hFc (fun rr35 u t H34 locs ht hvm hw hB hz1 hk1 hS => ?_)
          obtain ⟨hP1, hK1, hD1⟩ := hB
          rw [ht] at hP1
          refine zTopi hw.symm ?_
          have hP := hP1
          have hD := hD1.weaken (fun _ q _ h => hFc q.1 h)
          have hP : va_P (dC, dI) vwCl ((cX3 a3 h3 a1 cv y s3_32) ++ (cX1 a1 h1 tv y S1)) H34 := hP
          have hD : va_D A ((cX3 a3 h3 a1 cv y s3_32) ++ (cX1 a1 h1 tv y S1)) := hD
          obtain ⟨hz36, h⟩ := zG_spec h
          have ho0 : r31 = or_ := congrArg (fun z : Int32 × SS => z.1) (Option.some.inj h)
          have ho1 : s3_32 = o_3 := congrArg (fun z : Int32 × SS => z.2) (Option.some.inj h)
          exact W.zret (v := r31) hx hb hr (zb_nar hz36) (fun t ht hW => ⟨⟨r31, (), rfl, ho0, by rw [ht]; rw [← ho1]; exact hP, va_K.moved hW.alike hK, by rw [← ho1]; exact hD⟩, hS.F ht⟩) hS.2.2 dX3_beginLine_59
      · have h := zN c15 h
        refine lv_aload_n hx hb dX3_beginLine_42 rfl (lv_at hl 0 rfl) ?_
        refine lv_iconst (v := 3) hx hb dX3_beginLine_43 (by decide) ?_
        obtain ⟨⟨r37, s3_38⟩, hc39, h⟩ := zB_spec h
        have hPc := hP.sub (ws' := (cX3 a3 h3 a1 cv y S3)) [0, 1, 2, 3, 4] rfl
        have hDc := hD.sub (ws' := (cX3 a3 h3 a1 cv y S3)) [0, 1, 2, 3, 4] (by decide) rfl
        have hFc := va_free (wc := (cX3 a3 h3 a1 cv y S3)) hD hS hA [0, 1, 2, 3, 4] rfl
        refine va_calli (va_runV (As := [.int 3]) (rest := []) ⟨hx, hb, hml, hown, hts⟩ (m_X3_beginTelling l dC dI y a3 h3 S3 a1 cv (3 : Int32) H13.size r37 s3_38 hc39) (cwV 1 hts gX3_beginLine_X3_beginTelling rfl rfl rfl (by decide +kernel) ⟨Nat.le_of_ble_eq_true rfl, Nat.le_of_ble_eq_true rfl⟩) ⟨fun a U g mk q => by obtain ⟨q0, q1, qP, qK, qD⟩ := q; exact ⟨q0, q1, qP, va_K.moved (u := U) (U := U.calling g mk a) (Vm.Alike.refl U.vm) qK, qD⟩, va_recv hK hPc (ci := 2) (q0 := 0) rfl rfl, fun U hU hW => ⟨rfl, by rw [hU], by rw [hU]; exact hPc, va_K.moved hW.alike hK, hDc.weaken (fun _ _ _ _ => trivial)⟩⟩ rfl rfl hl.1 rfl (lv_room (Nat.le_of_ble_eq_true rfl)) dX3_beginLine_44 ⟨Nat.le_of_ble_eq_true rfl, Nat.le_of_ble_eq_true rfl⟩) hS (fun q _ h => hFc q h) hFc (fun rr41 u t H40 locs ht hvm hw hB hz1 hk1 hS => ?_)
        obtain ⟨hP1, hK1, hD1⟩ := hB
        rw [ht] at hP1
        refine zTopi hw.symm ?_
        obtain ⟨hP, hD⟩ := va_join (wr := [(oX1 a1 h1 tv S1)]) (w1 := (cX3 a3 h3 a1 cv y s3_38)) hP hD [0, 1, 2, 3, 4] [5] rfl rfl (by decide) (by decide) hk1 hFc hP1 hD1
        have hP : va_P (dC, dI) vwCl ((cX3 a3 h3 a1 cv y s3_38) ++ (cX1 a1 h1 tv y S1)) H40 := hP.sub [1, 2, 3, 4, 5, 0] rfl
        have hD : va_D A ((cX3 a3 h3 a1 cv y s3_38) ++ (cX1 a1 h1 tv y S1)) := hD.sub [1, 2, 3, 4, 5, 0] (by decide) rfl
        obtain ⟨hz42, h⟩ := zG_spec h
        have ho0 : r37 = or_ := congrArg (fun z : Int32 × SS => z.1) (Option.some.inj h)
        have ho1 : s3_38 = o_3 := congrArg (fun z : Int32 × SS => z.2) (Option.some.inj h)
        exact W.zret (v := r37) hx hb hr (zb_nar hz42) (fun t ht hW => ⟨⟨r37, (), rfl, ho0, by rw [ht]; rw [← ho1]; exact hP, va_K.moved hW.alike hK, by rw [← ho1]; exact hD⟩, hS.F ht⟩) hS.2.2 dX3_beginLine_47
    · have h := zN c10 h
      refine lv_aload_n hx hb dX3_beginLine_26 rfl (lv_at hl 0 rfl) ?_
      refine lv_iconst (v := 1) hx hb dX3_beginLine_27 (by decide) ?_
      obtain ⟨⟨r43, s3_44⟩, hc45, h⟩ := zB_spec h
      have hPc := hP.sub (ws' := (cX3 a3 h3 a1 cv y S3)) [0, 1, 2, 3, 4] rfl
      have hDc := hD.sub (ws' := (cX3 a3 h3 a1 cv y S3)) [0, 1, 2, 3, 4] (by decide) rfl
      have hFc := va_free (wc := (cX3 a3 h3 a1 cv y S3)) hD hS hA [0, 1, 2, 3, 4] rfl
      refine va_calli (va_runV (As := [.int 1]) (rest := []) ⟨hx, hb, hml, hown, hts⟩ (m_X3_beginTelling l dC dI y a3 h3 S3 a1 cv (1 : Int32) H8.size r43 s3_44 hc45) (cwV 1 hts gX3_beginLine_X3_beginTelling rfl rfl rfl (by decide +kernel) ⟨Nat.le_of_ble_eq_true rfl, Nat.le_of_ble_eq_true rfl⟩) ⟨fun a U g mk q => by obtain ⟨q0, q1, qP, qK, qD⟩ := q; exact ⟨q0, q1, qP, va_K.moved (u := U) (U := U.calling g mk a) (Vm.Alike.refl U.vm) qK, qD⟩, va_recv hK hPc (ci := 2) (q0 := 0) rfl rfl, fun U hU hW => ⟨rfl, by rw [hU], by rw [hU]; exact hPc, va_K.moved hW.alike hK, hDc.weaken (fun _ _ _ _ => trivial)⟩⟩ rfl rfl hl.1 rfl (lv_room (Nat.le_of_ble_eq_true rfl)) dX3_beginLine_28 ⟨Nat.le_of_ble_eq_true rfl, Nat.le_of_ble_eq_true rfl⟩) hS (fun q _ h => hFc q h) hFc (fun rr47 u t H46 locs ht hvm hw hB hz1 hk1 hS => ?_)
      obtain ⟨hP1, hK1, hD1⟩ := hB
      rw [ht] at hP1
      refine zTopi hw.symm ?_
      obtain ⟨hP, hD⟩ := va_join (wr := [(oX1 a1 h1 tv S1)]) (w1 := (cX3 a3 h3 a1 cv y s3_44)) hP hD [0, 1, 2, 3, 4] [5] rfl rfl (by decide) (by decide) hk1 hFc hP1 hD1
      have hP : va_P (dC, dI) vwCl ((cX3 a3 h3 a1 cv y s3_44) ++ (cX1 a1 h1 tv y S1)) H46 := hP.sub [1, 2, 3, 4, 5, 0] rfl
      have hD : va_D A ((cX3 a3 h3 a1 cv y s3_44) ++ (cX1 a1 h1 tv y S1)) := hD.sub [1, 2, 3, 4, 5, 0] (by decide) rfl
      obtain ⟨hz48, h⟩ := zG_spec h
      have ho0 : r43 = or_ := congrArg (fun z : Int32 × SS => z.1) (Option.some.inj h)
      have ho1 : s3_44 = o_3 := congrArg (fun z : Int32 × SS => z.2) (Option.some.inj h)
      exact W.zret (v := r43) hx hb hr (zb_nar hz48) (fun t ht hW => ⟨⟨r43, (), rfl, ho0, by rw [ht]; rw [← ho1]; exact hP, va_K.moved hW.alike hK, by rw [← ho1]; exact hD⟩, hS.F ht⟩) hS.2.2 dX3_beginLine_31
  · have h := zN c5 h
    refine lv_aload_n hx hb dX3_beginLine_10 rfl (lv_at hl 0 rfl) ?_
    refine lv_iconst (v := 0) hx hb dX3_beginLine_11 (by decide) ?_
    obtain ⟨⟨r49, s3_50⟩, hc51, h⟩ := zB_spec h
    have hPc := hP.sub (ws' := (cX3 a3 h3 a1 cv y S3)) [0, 1, 2, 3, 4] rfl
    have hDc := hD.sub (ws' := (cX3 a3 h3 a1 cv y S3)) [0, 1, 2, 3, 4] (by decide) rfl
    have hFc := va_free (wc := (cX3 a3 h3 a1 cv y S3)) hD hS hA [0, 1, 2, 3, 4] rfl
    refine va_calli (va_runV (As := [.int 0]) (rest := []) ⟨hx, hb, hml, hown, hts⟩ (m_X3_beginTelling l dC dI y a3 h3 S3 a1 cv (0 : Int32) H3.size r49 s3_50 hc51) (cwV 1 hts gX3_beginLine_X3_beginTelling rfl rfl rfl (by decide +kernel) ⟨Nat.le_of_ble_eq_true rfl, Nat.le_of_ble_eq_true rfl⟩) ⟨fun a U g mk q => by obtain ⟨q0, q1, qP, qK, qD⟩ := q; exact ⟨q0, q1, qP, va_K.moved (u := U) (U := U.calling g mk a) (Vm.Alike.refl U.vm) qK, qD⟩, va_recv hK hPc (ci := 2) (q0 := 0) rfl rfl, fun U hU hW => ⟨rfl, by rw [hU], by rw [hU]; exact hPc, va_K.moved hW.alike hK, hDc.weaken (fun _ _ _ _ => trivial)⟩⟩ rfl rfl hl.1 rfl (lv_room (Nat.le_of_ble_eq_true rfl)) dX3_beginLine_12 ⟨Nat.le_of_ble_eq_true rfl, Nat.le_of_ble_eq_true rfl⟩) hS (fun q _ h => hFc q h) hFc (fun rr53 u t H52 locs ht hvm hw hB hz1 hk1 hS => ?_)
    obtain ⟨hP1, hK1, hD1⟩ := hB
    rw [ht] at hP1
    refine zTopi hw.symm ?_
    obtain ⟨hP, hD⟩ := va_join (wr := [(oX1 a1 h1 tv S1)]) (w1 := (cX3 a3 h3 a1 cv y s3_50)) hP hD [0, 1, 2, 3, 4] [5] rfl rfl (by decide) (by decide) hk1 hFc hP1 hD1
    have hP : va_P (dC, dI) vwCl ((cX3 a3 h3 a1 cv y s3_50) ++ (cX1 a1 h1 tv y S1)) H52 := hP.sub [1, 2, 3, 4, 5, 0] rfl
    have hD : va_D A ((cX3 a3 h3 a1 cv y s3_50) ++ (cX1 a1 h1 tv y S1)) := hD.sub [1, 2, 3, 4, 5, 0] (by decide) rfl
    obtain ⟨hz54, h⟩ := zG_spec h
    have ho0 : r49 = or_ := congrArg (fun z : Int32 × SS => z.1) (Option.some.inj h)
    have ho1 : s3_50 = o_3 := congrArg (fun z : Int32 × SS => z.2) (Option.some.inj h)
    exact W.zret (v := r49) hx hb hr (zb_nar hz54) (fun t ht hW => ⟨⟨r49, (), rfl, ho0, by rw [ht]; rw [← ho1]; exact hP, va_K.moved hW.alike hK, by rw [← ho1]; exact hD⟩, hS.F ht⟩) hS.2.2 dX3_beginLine_15

set_option maxHeartbeats 4000000 in
set_option maxRecDepth 100000 in
theorem m_X3_takeDriver (l : Launch) (dC : Nat → ClassId) (dI : Nat → Nat → Nat) (y : Nat → ClassId) (a3 : Nat) (h3 : Nat → Nat) (S3 : SS) (a1 : Nat) (h1 : Nat → Nat) (S1 : SS) (cv : Value) (tv : Value) (sz : Nat) (or_ : Int32) (o_3 : SS) (h : f_X3_takeDriver S3 S1 = some (or_, o_3)) : Met l yX3_takeDriver wsX3_takeDriver ({ frames := 2, cells := 0, slots := 0, locals := 44 }) (va_Pc [.ref a3] (fun U => U.heap.size = sz ∧ va_P (dC, dI) vwCl ((cX3 a3 h3 a1 cv y S3) ++ (cX1 a1 h1 tv y S1)) U.heap ∧ va_K (dC, dI) vwCl [(y 0, .int), (y 1, .long), (y 2, .byte), (y 3, .boolean)] U ∧ va_D (fun _ => True) ((cX3 a3 h3 a1 cv y S3) ++ (cX1 a1 h1 tv y S1)))) (va_Qi (fun (r : Int32) (_ : Unit) => r = or_) (fun (_ : Unit) (t : State) => va_P (dC, dI) vwCl ((cX3 a3 h3 a1 cv y o_3) ++ (cX1 a1 h1 tv y S1)) t.heap ∧ va_K (dC, dI) vwCl [(y 0, .int), (y 1, .long), (y 2, .byte), (y 3, .boolean)] t ∧ va_D (va_A ((cX3 a3 h3 a1 cv y S3) ++ (cX1 a1 h1 tv y S1)) sz) ((cX3 a3 h3 a1 cv y o_3) ++ (cX1 a1 h1 tv y S1))) (va_A ((cX3 a3 h3 a1 cv y S3) ++ (cX1 a1 h1 tv y S1)) sz)) 0 0 (va_A ((cX3 a3 h3 a1 cv y S3) ++ (cX1 a1 h1 tv y S1)) sz) := by
  refine Met.ofW (cc := cX3_takeDriver) (maxL := 1) (ret := (some .boolean)) (by decide +kernel) rfl ?_
  intro p e s m args below meth c s₁ B hml hv
  obtain ⟨rfl, hsz, hP, hK, hD0⟩ := hv
  have hx := B.exec
  have hb := B.bytes
  have hr := B.returns
  have hts := atoms_spec (ws := wsX3_takeDriver) B.pre
  have hown : s.vm.findClass RX3 = some m.cls := findClass_of_methodNamed B.named
  have hlocks := B.notSynchronized
  have inX3_ : ∀ w ∈ wsX30, w ∈ wsX3_takeDriver := fun _ h => List.mem_cons_of_mem _ (List.mem_append_left _ (List.mem_append_right _ h))
  subst hsz
  have hD := hD0.self (sz := s.heap.size)
  generalize hAe : va_A ((cX3 a3 h3 a1 cv y S3) ++ (cX1 a1 h1 tv y S1)) s.heap.size = A at hD ⊢
  have hA : ∀ q : Nat, s.heap.size ≤ q → A q := fun q h => by rw [← hAe]; exact Or.inr h
  have hS : va_S A s.heap s.heap [] := va_S.rf
  have hP : va_P (dC, dI) vwCl ((cX3 a3 h3 a1 cv y S3) ++ (cX1 a1 h1 tv y S1)) s.heap := hP
  have hl := lv_entry ([.ref a3]) (n := 1) (Nat.le_of_ble_eq_true rfl)
  rw [lg_entry_eq]
  generalize (lg_sl ([.ref a3]) ++ List.replicate (1 - (lg_sl ([.ref a3])).length) Slot.unset).toArray = ls at hl ⊢
  have hl : lv_has ls 1 [(0, .ref a3)] := hl
  refine lv_aload_n hx hb dX3_takeDriver_0 rfl (lv_at hl 0 rfl) ?_
  refine lv_ldc2 hx hb hown (hts (.constantLong RX3 191 (6907441)) (List.mem_of_getElem? (i := 1) rfl)) dX3_takeDriver_1 ?_
  obtain ⟨r1, hc2, h⟩ := zB_spec h
  have hFc := zFree hD hS hA
  refine va_calli (va_runV (As := [.long 6907441]) (rest := []) ⟨hx, hb, hml, hown, hts⟩ (m_X3_isWord l dC dI y a3 h3 S3 a1 h1 S1 cv tv (6907441 : Int64) s.heap.size r1 hc2) (cwV 1 hts gX3_takeDriver_X3_isWord rfl rfl rfl (by decide +kernel) ⟨Nat.le_of_ble_eq_true rfl, Nat.le_of_ble_eq_true rfl⟩) ⟨fun a U g mk q => by obtain ⟨q0, q1, qP, qK, qD⟩ := q; exact ⟨q0, q1, qP, va_K.moved (u := U) (U := U.calling g mk a) (Vm.Alike.refl U.vm) qK, qD⟩, va_recv hK hP (ci := 2) (q0 := 0) rfl rfl, fun U hU hW => ⟨rfl, by rw [hU], by rw [hU]; exact hP, va_K.moved hW.alike hK, hD.weaken (fun _ _ _ _ => trivial)⟩⟩ rfl rfl hl.1 rfl (lv_room (Nat.le_of_ble_eq_true rfl)) dX3_takeDriver_4 ⟨Nat.le_of_ble_eq_true rfl, Nat.le_of_ble_eq_true rfl⟩) hS (fun q _ h => hFc q h) hFc (fun rr4 u t H3 locs ht hvm hw hB hz1 hk1 hS => ?_)
  obtain ⟨hP1, hK1, hD1⟩ := hB
  rw [ht] at hP1
  refine zTopi hw.symm ?_
  have hP := hP1
  have hD := hD1.weaken (fun _ q _ h => hFc q.1 h)
  have hP : va_P (dC, dI) vwCl ((cX3 a3 h3 a1 cv y S3) ++ (cX1 a1 h1 tv y S1)) H3 := hP
  have hD : va_D A ((cX3 a3 h3 a1 cv y S3) ++ (cX1 a1 h1 tv y S1)) := hD
  refine lv_if_ne (tgt := 25) hx hb dX3_takeDriver_7 (by decide) (fun c5 => ?_) (fun c5 => ?_)
  · have h := zN c5 h
    refine lv_aload_n hx hb dX3_takeDriver_25 rfl (lv_at hl 0 rfl) ?_
    refine lv_aload_n hx hb dX3_takeDriver_26 rfl (lv_at hl 0 rfl) ?_
    refine va_get (D := (dC, dI)) (ci := 2) (v := .long (gL S3 6)) (C := RX3) (T := TX3) (N := 17) hx hb hts inX3_ hown hK hP 0 rfl rfl 6 (by decide) (hts (.fieldLink RX3 141 "GateWheel$Reader" "lineName" "J") (List.mem_of_getElem? (i := 3) rfl)) (fun _ h9 => h9) rfl dX3_takeDriver_27 ?_
    refine lv_aload_n hx hb dX3_takeDriver_30 rfl (lv_at hl 0 rfl) ?_
    refine va_get (D := (dC, dI)) (ci := 2) (v := .int (gI S3 7)) (C := RX3) (T := TX3) (N := 17) hx hb hts inX3_ hown hK hP 0 rfl rfl 7 (by decide) (hts (.fieldLink RX3 144 "GateWheel$Reader" "linePlace" "I") (List.mem_of_getElem? (i := 4) rfl)) (fun _ h9 => h9) rfl dX3_takeDriver_31 ?_
    refine lv_aload_n hx hb dX3_takeDriver_34 rfl (lv_at hl 0 rfl) ?_
    refine lv_ldc2 hx hb hown (hts (.constantLong RX3 193 (6907440)) (List.mem_of_getElem? (i := 2) rfl)) dX3_takeDriver_35 ?_
    obtain ⟨r6, hc7, h⟩ := zB_spec h
    have hFc := zFree hD hS hA
    refine va_calli (va_runV (As := [.long 6907440]) (rest := [.int (gI S3 7), .long (gL S3 6), .ref a3]) ⟨hx, hb, hml, hown, hts⟩ (m_X3_isWord l dC dI y a3 h3 S3 a1 h1 S1 cv tv (6907440 : Int64) H3.size r6 hc7) (cwV 1 hts gX3_takeDriver_X3_isWord rfl rfl rfl (by decide +kernel) ⟨Nat.le_of_ble_eq_true rfl, Nat.le_of_ble_eq_true rfl⟩) ⟨fun a U g mk q => by obtain ⟨q0, q1, qP, qK, qD⟩ := q; exact ⟨q0, q1, qP, va_K.moved (u := U) (U := U.calling g mk a) (Vm.Alike.refl U.vm) qK, qD⟩, va_recv hK hP (ci := 2) (q0 := 0) rfl rfl, fun U hU hW => ⟨rfl, by rw [hU], by rw [hU]; exact hP, va_K.moved hW.alike hK, hD.weaken (fun _ _ _ _ => trivial)⟩⟩ rfl rfl hl.1 rfl (lv_room (Nat.le_of_ble_eq_true rfl)) dX3_takeDriver_38 ⟨Nat.le_of_ble_eq_true rfl, Nat.le_of_ble_eq_true rfl⟩) hS (fun q _ h => hFc q h) hFc (fun rr9 u t H8 locs ht hvm hw hB hz1 hk1 hS => ?_)
    obtain ⟨hP1, hK1, hD1⟩ := hB
    rw [ht] at hP1
    refine zTopi hw.symm ?_
    have hP := hP1
    have hD := hD1.weaken (fun _ q _ h => hFc q.1 h)
    have hP : va_P (dC, dI) vwCl ((cX3 a3 h3 a1 cv y S3) ++ (cX1 a1 h1 tv y S1)) H8 := hP
    have hD : va_D A ((cX3 a3 h3 a1 cv y S3) ++ (cX1 a1 h1 tv y S1)) := hD
    refine W_abs (fun GW10 eG11 => ?_)
    obtain ⟨ov13, hr14, h⟩ := zB_spec h
    have jn12 : ∀ (v16 : Int32) (HGW10 : Heap) (locs : List Loc) (ls : Array Slot), v16 = ov13 → va_P (dC, dI) vwCl ((cX3 a3 h3 a1 cv y S3) ++ (cX1 a1 h1 tv y S1)) HGW10 → va_D A ((cX3 a3 h3 a1 cv y S3) ++ (cX1 a1 h1 tv y S1)) → va_S A s.heap HGW10 locs → lv_has ls 1 [(0, .ref a3)] → GW10 HGW10 locs 0 0 (F0 m 50 ls [.int v16, .int (gI S3 7), .long (gL S3 6), .ref a3]) := by
      intro v16 HGW10 locs ls hv hP hD hS hl
      subst hv
      refine (eG11 _ _ _ _ _).mpr ?_
      obtain ⟨s3_17, hc18, h⟩ := zB_spec h
      have hPc := hP.sub (ws' := (cX3 a3 h3 a1 cv y S3)) [0, 1, 2, 3, 4] rfl
      have hDc := hD.sub (ws' := (cX3 a3 h3 a1 cv y S3)) [0, 1, 2, 3, 4] (by decide) rfl
      have hFc := va_free (wc := (cX3 a3 h3 a1 cv y S3)) hD hS hA [0, 1, 2, 3, 4] rfl
      refine va_callv (va_runV (As := [.long (gL S3 6), .int (gI S3 7), .int v16]) (rest := []) ⟨hx, hb, hml, hown, hts⟩ (m_X3_addUse l dC dI y a3 h3 S3 a1 cv (gL S3 6) (gI S3 7) v16 HGW10.size s3_17 hc18) (cwV 3 hts gX3_takeDriver_X3_addUse rfl rfl rfl (by decide +kernel) ⟨Nat.le_of_ble_eq_true rfl, Nat.le_of_ble_eq_true rfl⟩) ⟨fun a U g mk q => by obtain ⟨q0, q1, qP, qK, qD⟩ := q; exact ⟨q0, q1, qP, va_K.moved (u := U) (U := U.calling g mk a) (Vm.Alike.refl U.vm) qK, qD⟩, va_recv hK hPc (ci := 2) (q0 := 0) rfl rfl, fun U hU hW => ⟨rfl, by rw [hU], by rw [hU]; exact hPc, va_K.moved hW.alike hK, hDc.weaken (fun _ _ _ _ => trivial)⟩⟩ rfl rfl hl.1 rfl (lv_room (Nat.le_of_ble_eq_true rfl)) dX3_takeDriver_50 ⟨Nat.le_of_ble_eq_true rfl, Nat.le_of_ble_eq_true rfl⟩) hS (fun q _ h => hFc q h) hFc (fun u t H19 locs ht hvm hw hB hz1 hk1 hS => ?_)
      obtain ⟨hP1, hK1, hD1⟩ := hB
      rw [ht] at hP1
      obtain ⟨hP, hD⟩ := va_join (wr := [(oX1 a1 h1 tv S1)]) (w1 := (cX3 a3 h3 a1 cv y s3_17)) hP hD [0, 1, 2, 3, 4] [5] rfl rfl (by decide) (by decide) hk1 hFc hP1 hD1
      have hP : va_P (dC, dI) vwCl ((cX3 a3 h3 a1 cv y s3_17) ++ (cX1 a1 h1 tv y S1)) H19 := hP.sub [1, 2, 3, 4, 5, 0] rfl
      have hD : va_D A ((cX3 a3 h3 a1 cv y s3_17) ++ (cX1 a1 h1 tv y S1)) := hD.sub [1, 2, 3, 4, 5, 0] (by decide) rfl
      refine lv_aload_n hx hb dX3_takeDriver_53 rfl (lv_at hl 0 rfl) ?_
      refine lv_bipush (v := (-3)) hx hb dX3_takeDriver_54 (by decide) ?_
      refine lv_iconst (v := 2) hx hb dX3_takeDriver_56 (by decide) ?_
      refine lv_iconst (v := 2) hx hb dX3_takeDriver_57 (by decide) ?_
      obtain ⟨⟨r21, s3_22⟩, hc23, h⟩ := zB_spec h
      have hPc := hP.sub (ws' := (cX3 a3 h3 a1 cv y s3_17)) [0, 1, 2, 3, 4] rfl
      have hDc := hD.sub (ws' := (cX3 a3 h3 a1 cv y s3_17)) [0, 1, 2, 3, 4] (by decide) rfl
      have hFc := va_free (wc := (cX3 a3 h3 a1 cv y s3_17)) hD hS hA [0, 1, 2, 3, 4] rfl
      refine va_calli (va_runV (As := [.int (-3), .int 2, .int 2]) (rest := []) ⟨hx, hb, hml, hown, hts⟩ (m_X3_beginParts l dC dI y a3 h3 s3_17 a1 cv (-3 : Int32) (2 : Int32) (2 : Int32) H19.size r21 s3_22 hc23) (cwV 3 hts gX3_takeDriver_X3_beginParts rfl rfl rfl (by decide +kernel) ⟨Nat.le_of_ble_eq_true rfl, Nat.le_of_ble_eq_true rfl⟩) ⟨fun a U g mk q => by obtain ⟨q0, q1, qP, qK, qD⟩ := q; exact ⟨q0, q1, qP, va_K.moved (u := U) (U := U.calling g mk a) (Vm.Alike.refl U.vm) qK, qD⟩, va_recv hK hPc (ci := 2) (q0 := 0) rfl rfl, fun U hU hW => ⟨rfl, by rw [hU], by rw [hU]; exact hPc, va_K.moved hW.alike hK, hDc.weaken (fun _ _ _ _ => trivial)⟩⟩ rfl rfl hl.1 rfl (lv_room (Nat.le_of_ble_eq_true rfl)) dX3_takeDriver_58 ⟨Nat.le_of_ble_eq_true rfl, Nat.le_of_ble_eq_true rfl⟩) hS (fun q _ h => hFc q h) hFc (fun rr25 u t H24 locs ht hvm hw hB hz1 hk1 hS => ?_)
      obtain ⟨hP1, hK1, hD1⟩ := hB
      rw [ht] at hP1
      refine zTopi hw.symm ?_
      obtain ⟨hP, hD⟩ := va_join (wr := [(oX1 a1 h1 tv S1)]) (w1 := (cX3 a3 h3 a1 cv y s3_22)) hP hD [0, 1, 2, 3, 4] [5] rfl rfl (by decide) (by decide) hk1 hFc hP1 hD1
      have hP : va_P (dC, dI) vwCl ((cX3 a3 h3 a1 cv y s3_22) ++ (cX1 a1 h1 tv y S1)) H24 := hP.sub [1, 2, 3, 4, 5, 0] rfl
      have hD : va_D A ((cX3 a3 h3 a1 cv y s3_22) ++ (cX1 a1 h1 tv y S1)) := hD.sub [1, 2, 3, 4, 5, 0] (by decide) rfl
      obtain ⟨hz26, h⟩ := zG_spec h
      have ho0 : r21 = or_ := congrArg (fun z : Int32 × SS => z.1) (Option.some.inj h)
      have ho1 : s3_22 = o_3 := congrArg (fun z : Int32 × SS => z.2) (Option.some.inj h)
      exact W.zret (v := r21) hx hb hr (zb_nar hz26) (fun t ht hW => ⟨⟨r21, (), rfl, ho0, by rw [ht]; rw [← ho1]; exact hP, va_K.moved hW.alike hK, by rw [← ho1]; exact hD⟩, hS.F ht⟩) hS.2.2 dX3_takeDriver_61
    refine (eG11 _ _ _ _ _).mpr ?_
    have h := hr14
    refine lv_if_eq (tgt := 49) hx hb dX3_takeDriver_41 (by decide) (fun c27 => ?_) (fun c27 => ?_)
    · have h := zY c27 h
      refine lv_iconst (v := (-1)) hx hb dX3_takeDriver_49 (by decide) ?_
      exact (eG11 _ _ _ _ _).mp (jn12 (-1 : Int32) _ _ _ (Option.some.inj h) hP hD hS (lv_sub hl [0] rfl))
    · have h := zN c27 h
      refine lv_bipush (v := (-2)) hx hb dX3_takeDriver_44 (by decide) ?_
      refine lv_goto (tgt := 50) hx hb dX3_takeDriver_46 (by decide) ?_
      exact (eG11 _ _ _ _ _).mp (jn12 (-2 : Int32) _ _ _ (Option.some.inj h) hP hD hS (lv_sub hl [0] rfl))
  · have h := zY c5 h
    refine lv_aload_n hx hb dX3_takeDriver_10 rfl (lv_at hl 0 rfl) ?_
    refine lv_ldc2 hx hb hown (hts (.constantLong RX3 193 (6907440)) (List.mem_of_getElem? (i := 2) rfl)) dX3_takeDriver_11 ?_
    obtain ⟨r28, hc29, h⟩ := zB_spec h
    have hFc := zFree hD hS hA
    refine va_calli (va_runV (As := [.long 6907440]) (rest := []) ⟨hx, hb, hml, hown, hts⟩ (m_X3_isWord l dC dI y a3 h3 S3 a1 h1 S1 cv tv (6907440 : Int64) H3.size r28 hc29) (cwV 1 hts gX3_takeDriver_X3_isWord rfl rfl rfl (by decide +kernel) ⟨Nat.le_of_ble_eq_true rfl, Nat.le_of_ble_eq_true rfl⟩) ⟨fun a U g mk q => by obtain ⟨q0, q1, qP, qK, qD⟩ := q; exact ⟨q0, q1, qP, va_K.moved (u := U) (U := U.calling g mk a) (Vm.Alike.refl U.vm) qK, qD⟩, va_recv hK hP (ci := 2) (q0 := 0) rfl rfl, fun U hU hW => ⟨rfl, by rw [hU], by rw [hU]; exact hP, va_K.moved hW.alike hK, hD.weaken (fun _ _ _ _ => trivial)⟩⟩ rfl rfl hl.1 rfl (lv_room (Nat.le_of_ble_eq_true rfl)) dX3_takeDriver_14 ⟨Nat.le_of_ble_eq_true rfl, Nat.le_of_ble_eq_true rfl⟩) hS (fun q _ h => hFc q h) hFc (fun rr31 u t H30 locs ht hvm hw hB hz1 hk1 hS => ?_)
    obtain ⟨hP1, hK1, hD1⟩ := hB
    rw [ht] at hP1
    refine zTopi hw.symm ?_
    have hP := hP1
    have hD := hD1.weaken (fun _ q _ h => hFc q.1 h)
    have hP : va_P (dC, dI) vwCl ((cX3 a3 h3 a1 cv y S3) ++ (cX1 a1 h1 tv y S1)) H30 := hP
    have hD : va_D A ((cX3 a3 h3 a1 cv y S3) ++ (cX1 a1 h1 tv y S1)) := hD
    refine lv_if_ne (tgt := 25) hx hb dX3_takeDriver_17 (by decide) (fun c32 => ?_) (fun c32 => ?_)
    · have h := zN c32 h
      refine lv_aload_n hx hb dX3_takeDriver_25 rfl (lv_at hl 0 rfl) ?_
      refine lv_aload_n hx hb dX3_takeDriver_26 rfl (lv_at hl 0 rfl) ?_
      refine va_get (D := (dC, dI)) (ci := 2) (v := .long (gL S3 6)) (C := RX3) (T := TX3) (N := 17) hx hb hts inX3_ hown hK hP 0 rfl rfl 6 (by decide) (hts (.fieldLink RX3 141 "GateWheel$Reader" "lineName" "J") (List.mem_of_getElem? (i := 3) rfl)) (fun _ h9 => h9) rfl dX3_takeDriver_27 ?_
      refine lv_aload_n hx hb dX3_takeDriver_30 rfl (lv_at hl 0 rfl) ?_
      refine va_get (D := (dC, dI)) (ci := 2) (v := .int (gI S3 7)) (C := RX3) (T := TX3) (N := 17) hx hb hts inX3_ hown hK hP 0 rfl rfl 7 (by decide) (hts (.fieldLink RX3 144 "GateWheel$Reader" "linePlace" "I") (List.mem_of_getElem? (i := 4) rfl)) (fun _ h9 => h9) rfl dX3_takeDriver_31 ?_
      refine lv_aload_n hx hb dX3_takeDriver_34 rfl (lv_at hl 0 rfl) ?_
      refine lv_ldc2 hx hb hown (hts (.constantLong RX3 193 (6907440)) (List.mem_of_getElem? (i := 2) rfl)) dX3_takeDriver_35 ?_
      obtain ⟨r33, hc34, h⟩ := zB_spec h
      have hFc := zFree hD hS hA
      refine va_calli (va_runV (As := [.long 6907440]) (rest := [.int (gI S3 7), .long (gL S3 6), .ref a3]) ⟨hx, hb, hml, hown, hts⟩ (m_X3_isWord l dC dI y a3 h3 S3 a1 h1 S1 cv tv (6907440 : Int64) H30.size r33 hc34) (cwV 1 hts gX3_takeDriver_X3_isWord rfl rfl rfl (by decide +kernel) ⟨Nat.le_of_ble_eq_true rfl, Nat.le_of_ble_eq_true rfl⟩) ⟨fun a U g mk q => by obtain ⟨q0, q1, qP, qK, qD⟩ := q; exact ⟨q0, q1, qP, va_K.moved (u := U) (U := U.calling g mk a) (Vm.Alike.refl U.vm) qK, qD⟩, va_recv hK hP (ci := 2) (q0 := 0) rfl rfl, fun U hU hW => ⟨rfl, by rw [hU], by rw [hU]; exact hP, va_K.moved hW.alike hK, hD.weaken (fun _ _ _ _ => trivial)⟩⟩ rfl rfl hl.1 rfl (lv_room (Nat.le_of_ble_eq_true rfl)) dX3_takeDriver_38 ⟨Nat.le_of_ble_eq_true rfl, Nat.le_of_ble_eq_true rfl⟩) hS (fun q _ h => hFc q h) hFc (fun rr36 u t H35 locs ht hvm hw hB hz1 hk1 hS => ?_)
      obtain ⟨hP1, hK1, hD1⟩ := hB
      rw [ht] at hP1
      refine zTopi hw.symm ?_
      have hP := hP1
      have hD := hD1.weaken (fun _ q _ h => hFc q.1 h)
      have hP : va_P (dC, dI) vwCl ((cX3 a3 h3 a1 cv y S3) ++ (cX1 a1 h1 tv y S1)) H35 := hP
      have hD : va_D A ((cX3 a3 h3 a1 cv y S3) ++ (cX1 a1 h1 tv y S1)) := hD
      refine W_abs (fun GW37 eG38 => ?_)
      obtain ⟨ov40, hr41, h⟩ := zB_spec h
      have jn39 : ∀ (v43 : Int32) (HGW37 : Heap) (locs : List Loc) (ls : Array Slot), v43 = ov40 → va_P (dC, dI) vwCl ((cX3 a3 h3 a1 cv y S3) ++ (cX1 a1 h1 tv y S1)) HGW37 → va_D A ((cX3 a3 h3 a1 cv y S3) ++ (cX1 a1 h1 tv y S1)) → va_S A s.heap HGW37 locs → lv_has ls 1 [(0, .ref a3)] → GW37 HGW37 locs 0 0 (F0 m 50 ls [.int v43, .int (gI S3 7), .long (gL S3 6), .ref a3]) := by
        intro v43 HGW37 locs ls hv hP hD hS hl
        subst hv
        refine (eG38 _ _ _ _ _).mpr ?_
        obtain ⟨s3_44, hc45, h⟩ := zB_spec h
        have hPc := hP.sub (ws' := (cX3 a3 h3 a1 cv y S3)) [0, 1, 2, 3, 4] rfl
        have hDc := hD.sub (ws' := (cX3 a3 h3 a1 cv y S3)) [0, 1, 2, 3, 4] (by decide) rfl
        have hFc := va_free (wc := (cX3 a3 h3 a1 cv y S3)) hD hS hA [0, 1, 2, 3, 4] rfl
        refine va_callv (va_runV (As := [.long (gL S3 6), .int (gI S3 7), .int v43]) (rest := []) ⟨hx, hb, hml, hown, hts⟩ (m_X3_addUse l dC dI y a3 h3 S3 a1 cv (gL S3 6) (gI S3 7) v43 HGW37.size s3_44 hc45) (cwV 3 hts gX3_takeDriver_X3_addUse rfl rfl rfl (by decide +kernel) ⟨Nat.le_of_ble_eq_true rfl, Nat.le_of_ble_eq_true rfl⟩) ⟨fun a U g mk q => by obtain ⟨q0, q1, qP, qK, qD⟩ := q; exact ⟨q0, q1, qP, va_K.moved (u := U) (U := U.calling g mk a) (Vm.Alike.refl U.vm) qK, qD⟩, va_recv hK hPc (ci := 2) (q0 := 0) rfl rfl, fun U hU hW => ⟨rfl, by rw [hU], by rw [hU]; exact hPc, va_K.moved hW.alike hK, hDc.weaken (fun _ _ _ _ => trivial)⟩⟩ rfl rfl hl.1 rfl (lv_room (Nat.le_of_ble_eq_true rfl)) dX3_takeDriver_50 ⟨Nat.le_of_ble_eq_true rfl, Nat.le_of_ble_eq_true rfl⟩) hS (fun q _ h => hFc q h) hFc (fun u t H46 locs ht hvm hw hB hz1 hk1 hS => ?_)
        obtain ⟨hP1, hK1, hD1⟩ := hB
        rw [ht] at hP1
        obtain ⟨hP, hD⟩ := va_join (wr := [(oX1 a1 h1 tv S1)]) (w1 := (cX3 a3 h3 a1 cv y s3_44)) hP hD [0, 1, 2, 3, 4] [5] rfl rfl (by decide) (by decide) hk1 hFc hP1 hD1
        have hP : va_P (dC, dI) vwCl ((cX3 a3 h3 a1 cv y s3_44) ++ (cX1 a1 h1 tv y S1)) H46 := hP.sub [1, 2, 3, 4, 5, 0] rfl
        have hD : va_D A ((cX3 a3 h3 a1 cv y s3_44) ++ (cX1 a1 h1 tv y S1)) := hD.sub [1, 2, 3, 4, 5, 0] (by decide) rfl
        refine lv_aload_n hx hb dX3_takeDriver_53 rfl (lv_at hl 0 rfl) ?_
        refine lv_bipush (v := (-3)) hx hb dX3_takeDriver_54 (by decide) ?_
        refine lv_iconst (v := 2) hx hb dX3_takeDriver_56 (by decide) ?_
        refine lv_iconst (v := 2) hx hb dX3_takeDriver_57 (by decide) ?_
        obtain ⟨⟨r48, s3_49⟩, hc50, h⟩ := zB_spec h
        have hPc := hP.sub (ws' := (cX3 a3 h3 a1 cv y s3_44)) [0, 1, 2, 3, 4] rfl
        have hDc := hD.sub (ws' := (cX3 a3 h3 a1 cv y s3_44)) [0, 1, 2, 3, 4] (by decide) rfl
        have hFc := va_free (wc := (cX3 a3 h3 a1 cv y s3_44)) hD hS hA [0, 1, 2, 3, 4] rfl
        refine va_calli (va_runV (As := [.int (-3), .int 2, .int 2]) (rest := []) ⟨hx, hb, hml, hown, hts⟩ (m_X3_beginParts l dC dI y a3 h3 s3_44 a1 cv (-3 : Int32) (2 : Int32) (2 : Int32) H46.size r48 s3_49 hc50) (cwV 3 hts gX3_takeDriver_X3_beginParts rfl rfl rfl (by decide +kernel) ⟨Nat.le_of_ble_eq_true rfl, Nat.le_of_ble_eq_true rfl⟩) ⟨fun a U g mk q => by obtain ⟨q0, q1, qP, qK, qD⟩ := q; exact ⟨q0, q1, qP, va_K.moved (u := U) (U := U.calling g mk a) (Vm.Alike.refl U.vm) qK, qD⟩, va_recv hK hPc (ci := 2) (q0 := 0) rfl rfl, fun U hU hW => ⟨rfl, by rw [hU], by rw [hU]; exact hPc, va_K.moved hW.alike hK, hDc.weaken (fun _ _ _ _ => trivial)⟩⟩ rfl rfl hl.1 rfl (lv_room (Nat.le_of_ble_eq_true rfl)) dX3_takeDriver_58 ⟨Nat.le_of_ble_eq_true rfl, Nat.le_of_ble_eq_true rfl⟩) hS (fun q _ h => hFc q h) hFc (fun rr52 u t H51 locs ht hvm hw hB hz1 hk1 hS => ?_)
        obtain ⟨hP1, hK1, hD1⟩ := hB
        rw [ht] at hP1
        refine zTopi hw.symm ?_
        obtain ⟨hP, hD⟩ := va_join (wr := [(oX1 a1 h1 tv S1)]) (w1 := (cX3 a3 h3 a1 cv y s3_49)) hP hD [0, 1, 2, 3, 4] [5] rfl rfl (by decide) (by decide) hk1 hFc hP1 hD1
        have hP : va_P (dC, dI) vwCl ((cX3 a3 h3 a1 cv y s3_49) ++ (cX1 a1 h1 tv y S1)) H51 := hP.sub [1, 2, 3, 4, 5, 0] rfl
        have hD : va_D A ((cX3 a3 h3 a1 cv y s3_49) ++ (cX1 a1 h1 tv y S1)) := hD.sub [1, 2, 3, 4, 5, 0] (by decide) rfl
        obtain ⟨hz53, h⟩ := zG_spec h
        have ho0 : r48 = or_ := congrArg (fun z : Int32 × SS => z.1) (Option.some.inj h)
        have ho1 : s3_49 = o_3 := congrArg (fun z : Int32 × SS => z.2) (Option.some.inj h)
        exact W.zret (v := r48) hx hb hr (zb_nar hz53) (fun t ht hW => ⟨⟨r48, (), rfl, ho0, by rw [ht]; rw [← ho1]; exact hP, va_K.moved hW.alike hK, by rw [← ho1]; exact hD⟩, hS.F ht⟩) hS.2.2 dX3_takeDriver_61
      refine (eG38 _ _ _ _ _).mpr ?_
      have h := hr41
      refine lv_if_eq (tgt := 49) hx hb dX3_takeDriver_41 (by decide) (fun c54 => ?_) (fun c54 => ?_)
      · have h := zY c54 h
        refine lv_iconst (v := (-1)) hx hb dX3_takeDriver_49 (by decide) ?_
        exact (eG38 _ _ _ _ _).mp (jn39 (-1 : Int32) _ _ _ (Option.some.inj h) hP hD hS (lv_sub hl [0] rfl))
      · have h := zN c54 h
        refine lv_bipush (v := (-2)) hx hb dX3_takeDriver_44 (by decide) ?_
        refine lv_goto (tgt := 50) hx hb dX3_takeDriver_46 (by decide) ?_
        exact (eG38 _ _ _ _ _).mp (jn39 (-2 : Int32) _ _ _ (Option.some.inj h) hP hD hS (lv_sub hl [0] rfl))
    · have h := zY c32 h
      refine lv_aload_n hx hb dX3_takeDriver_20 rfl (lv_at hl 0 rfl) ?_
      obtain ⟨⟨r55, s3_56⟩, hc57, h⟩ := zB_spec h
      have hFc := zFree hD hS hA
      refine va_calli (va_runV (As := []) (rest := []) ⟨hx, hb, hml, hown, hts⟩ (m_X3_refuse l dC dI y a3 h3 S3 a1 h1 S1 cv tv H30.size r55 s3_56 hc57) (cwV 0 hts gX3_takeDriver_X3_refuse rfl rfl rfl (by decide +kernel) ⟨Nat.le_of_ble_eq_true rfl, Nat.le_of_ble_eq_true rfl⟩) ⟨fun a U g mk q => by obtain ⟨q0, q1, qP, qK, qD⟩ := q; exact ⟨q0, q1, qP, va_K.moved (u := U) (U := U.calling g mk a) (Vm.Alike.refl U.vm) qK, qD⟩, va_recv hK hP (ci := 2) (q0 := 0) rfl rfl, fun U hU hW => ⟨rfl, by rw [hU], by rw [hU]; exact hP, va_K.moved hW.alike hK, hD.weaken (fun _ _ _ _ => trivial)⟩⟩ rfl rfl hl.1 rfl (lv_room (Nat.le_of_ble_eq_true rfl)) dX3_takeDriver_21 ⟨Nat.le_of_ble_eq_true rfl, Nat.le_of_ble_eq_true rfl⟩) hS (fun q _ h => hFc q h) hFc (fun rr59 u t H58 locs ht hvm hw hB hz1 hk1 hS => ?_)
      obtain ⟨hP1, hK1, hD1⟩ := hB
      rw [ht] at hP1
      refine zTopi hw.symm ?_
      have hP := hP1
      have hD := hD1.weaken (fun _ q _ h => hFc q.1 h)
      have hP : va_P (dC, dI) vwCl ((cX3 a3 h3 a1 cv y s3_56) ++ (cX1 a1 h1 tv y S1)) H58 := hP
      have hD : va_D A ((cX3 a3 h3 a1 cv y s3_56) ++ (cX1 a1 h1 tv y S1)) := hD
      obtain ⟨hz60, h⟩ := zG_spec h
      have ho0 : r55 = or_ := congrArg (fun z : Int32 × SS => z.1) (Option.some.inj h)
      have ho1 : s3_56 = o_3 := congrArg (fun z : Int32 × SS => z.2) (Option.some.inj h)
      exact W.zret (v := r55) hx hb hr (zb_nar hz60) (fun t ht hW => ⟨⟨r55, (), rfl, ho0, by rw [ht]; rw [← ho1]; exact hP, va_K.moved hW.alike hK, by rw [← ho1]; exact hD⟩, hS.F ht⟩) hS.2.2 dX3_takeDriver_24

set_option maxHeartbeats 4000000 in
set_option maxRecDepth 100000 in
theorem m_X3_takePart (l : Launch) (dC : Nat → ClassId) (dI : Nat → Nat → Nat) (y : Nat → ClassId) (a3 : Nat) (h3 : Nat → Nat) (S3 : SS) (a1 : Nat) (h1 : Nat → Nat) (S1 : SS) (cv : Value) (tv : Value) (tg : Nat × Nat × Nat × Nat) (sz : Nat) (or_ : Int32) (o_3 : SS) (h : f_X3_takePart S3 S1 = some (or_, o_3)) : Met l yX3_takePart wsX3_takePart ({ frames := 2, cells := 0, slots := 0, locals := 43 }) (va_Pc [.ref a3] (fun U => U.heap.size = sz ∧ va_P (dC, dI) vwCl ((cX3 a3 h3 a1 cv y S3) ++ (cX1 a1 h1 tv y S1)) U.heap ∧ va_K (dC, dI) vwCl [(y 0, .int), (y 1, .long), (y 2, .byte), (y 3, .boolean)] U ∧ va_D (fun _ => True) ((cX3 a3 h3 a1 cv y S3) ++ (cX1 a1 h1 tv y S1)) ∧ STG tg (va_A ((cX3 a3 h3 a1 cv y S3) ++ (cX1 a1 h1 tv y S1)) sz) U U.heap)) (va_Qi (fun (r : Int32) (_ : Unit) => r = or_) (fun (_ : Unit) (t : State) => va_P (dC, dI) vwCl ((cX3 a3 h3 a1 cv y o_3) ++ (cX1 a1 h1 tv y S1)) t.heap ∧ va_K (dC, dI) vwCl [(y 0, .int), (y 1, .long), (y 2, .byte), (y 3, .boolean)] t ∧ va_D (va_A ((cX3 a3 h3 a1 cv y S3) ++ (cX1 a1 h1 tv y S1)) sz) ((cX3 a3 h3 a1 cv y o_3) ++ (cX1 a1 h1 tv y S1))) (va_A ((cX3 a3 h3 a1 cv y S3) ++ (cX1 a1 h1 tv y S1)) sz)) 0 0 (va_A ((cX3 a3 h3 a1 cv y S3) ++ (cX1 a1 h1 tv y S1)) sz) := by
  refine Met.ofW (cc := cX3_takePart) (maxL := 1) (ret := (some .boolean)) (by decide +kernel) rfl ?_
  intro p e s m args below meth c s₁ B hml hv
  obtain ⟨rfl, hsz, hP, hK, hD0, hST⟩ := hv
  have hx := B.exec
  have hb := B.bytes
  have hr := B.returns
  have hts := atoms_spec (ws := wsX3_takePart) B.pre
  have hown : s.vm.findClass RX3 = some m.cls := findClass_of_methodNamed B.named
  have hlocks := B.notSynchronized
  have inX1_ : ∀ w ∈ wsX10, w ∈ wsX3_takePart := fun _ h => List.mem_cons_of_mem _ (List.mem_append_right _ h)
  have inX3_ : ∀ w ∈ wsX30, w ∈ wsX3_takePart := fun _ h => List.mem_cons_of_mem _ (List.mem_append_left _ (List.mem_append_right _ h))
  subst hsz
  have hD := hD0.self (sz := s.heap.size)
  generalize hAe : va_A ((cX3 a3 h3 a1 cv y S3) ++ (cX1 a1 h1 tv y S1)) s.heap.size = A at hD hST ⊢
  have hA : ∀ q : Nat, s.heap.size ≤ q → A q := fun q h => by rw [← hAe]; exact Or.inr h
  have hS : va_S A s.heap s.heap [] := va_S.rf
  have hP : va_P (dC, dI) vwCl ((cX3 a3 h3 a1 cv y S3) ++ (cX1 a1 h1 tv y S1)) s.heap := hP
  have hl := lv_entry ([.ref a3]) (n := 1) (Nat.le_of_ble_eq_true rfl)
  rw [lg_entry_eq]
  generalize (lg_sl ([.ref a3]) ++ List.replicate (1 - (lg_sl ([.ref a3])).length) Slot.unset).toArray = ls at hl ⊢
  have hl : lv_has ls 1 [(0, .ref a3)] := hl
  refine lv_aload_n hx hb dX3_takePart_0 rfl (lv_at hl 0 rfl) ?_
  obtain ⟨r1, hc2, h⟩ := zB_spec h
  have hFc := zFree hD hS hA
  refine va_calli (va_runV (As := []) (rest := []) ⟨hx, hb, hml, hown, hts⟩ (m_X3_isName l dC dI y a3 h3 S3 a1 h1 S1 cv tv tg s.heap.size r1 hc2) (cwV 0 hts gX3_takePart_X3_isName rfl rfl rfl (by decide +kernel) ⟨Nat.le_of_ble_eq_true rfl, Nat.le_of_ble_eq_true rfl⟩) ⟨fun a U g mk q => by obtain ⟨q0, q1, qP, qK, qD, qT⟩ := q; exact ⟨q0, q1, qP, va_K.moved (u := U) (U := U.calling g mk a) (Vm.Alike.refl U.vm) qK, qD, STG_moved (u := U) (U := U.calling g mk a) (Vm.Alike.refl U.vm) qT⟩, va_recv hK hP (ci := 2) (q0 := 0) rfl rfl, fun U hU hW => ⟨rfl, by rw [hU], by rw [hU]; exact hP, va_K.moved hW.alike hK, hD.weaken (fun _ _ _ _ => trivial), by rw [hU]; exact STG_moved hW.alike (STG_narrow (STG_kept hST hS.2.1) hFc)⟩⟩ rfl rfl hl.1 rfl (lv_room (Nat.le_of_ble_eq_true rfl)) dX3_takePart_1 ⟨Nat.le_of_ble_eq_true rfl, Nat.le_of_ble_eq_true rfl⟩) hS (fun q _ h => hFc q h) hFc (fun rr4 u t H3 locs ht hvm hw hB hz1 hk1 hS => ?_)
  obtain ⟨hP1, hK1, hD1⟩ := hB
  rw [ht] at hP1
  refine zTopi hw.symm ?_
  have hP := hP1
  have hD := hD1.weaken (fun _ q _ h => hFc q.1 h)
  have hP : va_P (dC, dI) vwCl ((cX3 a3 h3 a1 cv y S3) ++ (cX1 a1 h1 tv y S1)) H3 := hP
  have hD : va_D A ((cX3 a3 h3 a1 cv y S3) ++ (cX1 a1 h1 tv y S1)) := hD
  refine lv_if_eq (tgt := 18) hx hb dX3_takePart_4 (by decide) (fun c5 => ?_) (fun c5 => ?_)
  · have h := zY c5 h
    refine lv_aload_n hx hb dX3_takePart_18 rfl (lv_at hl 0 rfl) ?_
    obtain ⟨⟨r6, s3_7⟩, hc8, h⟩ := zB_spec h
    have hFc := zFree hD hS hA
    refine va_calli (va_runV (As := []) (rest := []) ⟨hx, hb, hml, hown, hts⟩ (m_X3_refuse l dC dI y a3 h3 S3 a1 h1 S1 cv tv H3.size r6 s3_7 hc8) (cwV 0 hts gX3_takePart_X3_refuse rfl rfl rfl (by decide +kernel) ⟨Nat.le_of_ble_eq_true rfl, Nat.le_of_ble_eq_true rfl⟩) ⟨fun a U g mk q => by obtain ⟨q0, q1, qP, qK, qD⟩ := q; exact ⟨q0, q1, qP, va_K.moved (u := U) (U := U.calling g mk a) (Vm.Alike.refl U.vm) qK, qD⟩, va_recv hK hP (ci := 2) (q0 := 0) rfl rfl, fun U hU hW => ⟨rfl, by rw [hU], by rw [hU]; exact hP, va_K.moved hW.alike hK, hD.weaken (fun _ _ _ _ => trivial)⟩⟩ rfl rfl hl.1 rfl (lv_room (Nat.le_of_ble_eq_true rfl)) dX3_takePart_19 ⟨Nat.le_of_ble_eq_true rfl, Nat.le_of_ble_eq_true rfl⟩) hS (fun q _ h => hFc q h) hFc (fun rr10 u t H9 locs ht hvm hw hB hz1 hk1 hS => ?_)
    obtain ⟨hP1, hK1, hD1⟩ := hB
    rw [ht] at hP1
    refine zTopi hw.symm ?_
    have hP := hP1
    have hD := hD1.weaken (fun _ q _ h => hFc q.1 h)
    have hP : va_P (dC, dI) vwCl ((cX3 a3 h3 a1 cv y s3_7) ++ (cX1 a1 h1 tv y S1)) H9 := hP
    have hD : va_D A ((cX3 a3 h3 a1 cv y s3_7) ++ (cX1 a1 h1 tv y S1)) := hD
    obtain ⟨hz11, h⟩ := zG_spec h
    have ho0 : r6 = or_ := congrArg (fun z : Int32 × SS => z.1) (Option.some.inj h)
    have ho1 : s3_7 = o_3 := congrArg (fun z : Int32 × SS => z.2) (Option.some.inj h)
    exact W.zret (v := r6) hx hb hr (zb_nar hz11) (fun t ht hW => ⟨⟨r6, (), rfl, ho0, by rw [ht]; rw [← ho1]; exact hP, va_K.moved hW.alike hK, by rw [← ho1]; exact hD⟩, hS.F ht⟩) hS.2.2 dX3_takePart_22
  · have h := zN c5 h
    refine lv_aload_n hx hb dX3_takePart_7 rfl (lv_at hl 0 rfl) ?_
    refine va_get (D := (dC, dI)) (ci := 2) (v := .int (gI S3 9)) (C := RX3) (T := TX3) (N := 17) hx hb hts inX3_ hown hK hP 0 rfl rfl 9 (by decide) (hts (.fieldLink RX3 207 "GateWheel$Reader" "taken" "I") (List.mem_of_getElem? (i := 1) rfl)) (fun _ h9 => h9) rfl dX3_takePart_8 ?_
    refine lv_aload_n hx hb dX3_takePart_11 rfl (lv_at hl 0 rfl) ?_
    refine va_get (D := (dC, dI)) (ci := 2) (v := .int (gI S3 11)) (C := RX3) (T := TX3) (N := 17) hx hb hts inX3_ hown hK hP 0 rfl rfl 11 (by decide) (hts (.fieldLink RX3 204 "GateWheel$Reader" "most" "I") (List.mem_of_getElem? (i := 2) rfl)) (fun _ h9 => h9) rfl dX3_takePart_12 ?_
    refine lv_icmp_lt (tgt := 23) hx hb dX3_takePart_15 (by decide) (fun c12 => ?_) (fun c12 => ?_)
    · have h := zY c12 h
      refine lv_aload_n hx hb dX3_takePart_23 rfl (lv_at hl 0 rfl) ?_
      refine lv_aload_n hx hb dX3_takePart_24 rfl (lv_at hl 0 rfl) ?_
      refine va_get (D := (dC, dI)) (ci := 2) (v := .ref a1) (C := RX3) (T := TX3) (N := 17) hx hb hts inX3_ hown hK hP 0 rfl rfl 2 (by decide) (hts (.fieldLink RX3 18 "GateWheel$Reader" "lexer" "LGateWheel$Lexer;") (List.mem_of_getElem? (i := 3) rfl)) (fun _ h9 => h9) rfl dX3_takePart_25 ?_
      refine va_get (D := (dC, dI)) (ci := 1) (v := .long (gL S1 5)) (C := RX1) (T := TX1) (N := 7) hx hb hts inX1_ hown hK hP 5 rfl rfl 5 (by decide) (hts (.fieldLink RX3 137 "GateWheel$Lexer" "word" "J") (List.mem_of_getElem? (i := 4) rfl)) (fun _ h9 => h9) rfl dX3_takePart_28 ?_
      refine lv_aload_n hx hb dX3_takePart_31 rfl (lv_at hl 0 rfl) ?_
      refine va_get (D := (dC, dI)) (ci := 2) (v := .ref a1) (C := RX3) (T := TX3) (N := 17) hx hb hts inX3_ hown hK hP 0 rfl rfl 2 (by decide) (hts (.fieldLink RX3 18 "GateWheel$Reader" "lexer" "LGateWheel$Lexer;") (List.mem_of_getElem? (i := 3) rfl)) (fun _ h9 => h9) rfl dX3_takePart_32 ?_
      refine va_get (D := (dC, dI)) (ci := 1) (v := .int (gI S1 4)) (C := RX1) (T := TX1) (N := 7) hx hb hts inX1_ hown hK hP 5 rfl rfl 4 (by decide) (hts (.fieldLink RX3 114 "GateWheel$Lexer" "start" "I") (List.mem_of_getElem? (i := 5) rfl)) (fun _ h9 => h9) rfl dX3_takePart_35 ?_
      refine lv_aload_n hx hb dX3_takePart_38 rfl (lv_at hl 0 rfl) ?_
      refine va_get (D := (dC, dI)) (ci := 2) (v := .int (gI S3 8)) (C := RX3) (T := TX3) (N := 17) hx hb hts inX3_ hown hK hP 0 rfl rfl 8 (by decide) (hts (.fieldLink RX3 198 "GateWheel$Reader" "role" "I") (List.mem_of_getElem? (i := 6) rfl)) (fun _ h9 => h9) rfl dX3_takePart_39 ?_
      obtain ⟨s3_13, hc14, h⟩ := zB_spec h
      have hPc := hP.sub (ws' := (cX3 a3 h3 a1 cv y S3)) [0, 1, 2, 3, 4] rfl
      have hDc := hD.sub (ws' := (cX3 a3 h3 a1 cv y S3)) [0, 1, 2, 3, 4] (by decide) rfl
      have hFc := va_free (wc := (cX3 a3 h3 a1 cv y S3)) hD hS hA [0, 1, 2, 3, 4] rfl
      refine va_callv (va_runV (As := [.long (gL S1 5), .int (gI S1 4), .int (gI S3 8)]) (rest := []) ⟨hx, hb, hml, hown, hts⟩ (m_X3_addUse l dC dI y a3 h3 S3 a1 cv (gL S1 5) (gI S1 4) (gI S3 8) H3.size s3_13 hc14) (cwV 3 hts gX3_takePart_X3_addUse rfl rfl rfl (by decide +kernel) ⟨Nat.le_of_ble_eq_true rfl, Nat.le_of_ble_eq_true rfl⟩) ⟨fun a U g mk q => by obtain ⟨q0, q1, qP, qK, qD⟩ := q; exact ⟨q0, q1, qP, va_K.moved (u := U) (U := U.calling g mk a) (Vm.Alike.refl U.vm) qK, qD⟩, va_recv hK hPc (ci := 2) (q0 := 0) rfl rfl, fun U hU hW => ⟨rfl, by rw [hU], by rw [hU]; exact hPc, va_K.moved hW.alike hK, hDc.weaken (fun _ _ _ _ => trivial)⟩⟩ rfl rfl hl.1 rfl (lv_room (Nat.le_of_ble_eq_true rfl)) dX3_takePart_42 ⟨Nat.le_of_ble_eq_true rfl, Nat.le_of_ble_eq_true rfl⟩) hS (fun q _ h => hFc q h) hFc (fun u t H15 locs ht hvm hw hB hz1 hk1 hS => ?_)
      obtain ⟨hP1, hK1, hD1⟩ := hB
      rw [ht] at hP1
      obtain ⟨hP, hD⟩ := va_join (wr := [(oX1 a1 h1 tv S1)]) (w1 := (cX3 a3 h3 a1 cv y s3_13)) hP hD [0, 1, 2, 3, 4] [5] rfl rfl (by decide) (by decide) hk1 hFc hP1 hD1
      have hP : va_P (dC, dI) vwCl ((cX3 a3 h3 a1 cv y s3_13) ++ (cX1 a1 h1 tv y S1)) H15 := hP.sub [1, 2, 3, 4, 5, 0] rfl
      have hD : va_D A ((cX3 a3 h3 a1 cv y s3_13) ++ (cX1 a1 h1 tv y S1)) := hD.sub [1, 2, 3, 4, 5, 0] (by decide) rfl
      refine lv_aload_n hx hb dX3_takePart_45 rfl (lv_at hl 0 rfl) ?_
      refine lv_dup hx hb dX3_takePart_46 rfl ?_
      refine va_get (D := (dC, dI)) (ci := 2) (v := .int (gI s3_13 9)) (C := RX3) (T := TX3) (N := 17) hx hb hts inX3_ hown hK hP 0 rfl rfl 9 (by decide) (hts (.fieldLink RX3 207 "GateWheel$Reader" "taken" "I") (List.mem_of_getElem? (i := 1) rfl)) (fun _ h9 => h9) rfl dX3_takePart_47 ?_
      refine lv_iconst (v := 1) hx hb dX3_takePart_50 (by decide) ?_
      refine lv_iadd hx hb dX3_takePart_51 ?_
      refine va_put (D := (dC, dI)) (ci := 2) (v := .int ((gI s3_13 9) + (1 : Int32))) (ty := .int) (C := RX3) (T := TX3) (N := 17) hx hb hts inX3_ tyX3 tyX3_ok nmX3 hown hK hP hD hS 0 rfl rfl 9 (by decide) (hts (.fieldLink RX3 207 "GateWheel$Reader" "taken" "I") (List.mem_of_getElem? (i := 1) rfl)) (fun _ h9 => h9) rfl (by decide +kernel) rfl rfl (Nat.le_of_ble_eq_true rfl) dX3_takePart_52 (fun H17 locs hP hD hS => ?_)
      obtain ⟨s3_18, es3_18, h⟩ := zL_spec h
      have hP : va_P (dC, dI) vwCl ((cX3 a3 h3 a1 cv y s3_18) ++ (cX1 a1 h1 tv y S1)) H17 := by rw [es3_18]; exact hP
      have hD : va_D A ((cX3 a3 h3 a1 cv y s3_18) ++ (cX1 a1 h1 tv y S1)) := by rw [es3_18]; exact hD
      refine lv_aload_n hx hb dX3_takePart_55 rfl (lv_at hl 0 rfl) ?_
      refine lv_bipush (v := 8) hx hb dX3_takePart_56 (by decide) ?_
      obtain ⟨⟨r19, s3_20⟩, hc21, h⟩ := zB_spec h
      have hPc := hP.sub (ws' := (cX3 a3 h3 a1 cv y s3_18)) [0, 1, 2, 3, 4] rfl
      have hDc := hD.sub (ws' := (cX3 a3 h3 a1 cv y s3_18)) [0, 1, 2, 3, 4] (by decide) rfl
      have hFc := va_free (wc := (cX3 a3 h3 a1 cv y s3_18)) hD hS hA [0, 1, 2, 3, 4] rfl
      refine va_calli (va_runV (As := [.int 8]) (rest := []) ⟨hx, hb, hml, hown, hts⟩ (m_X3_go l dC dI y a3 h3 s3_18 a1 cv (8 : Int32) H17.size r19 s3_20 hc21) (cwV 1 hts gX3_takePart_X3_go rfl rfl rfl (by decide +kernel) ⟨Nat.le_of_ble_eq_true rfl, Nat.le_of_ble_eq_true rfl⟩) ⟨fun a U g mk q => by obtain ⟨q0, q1, qP, qK, qD⟩ := q; exact ⟨q0, q1, qP, va_K.moved (u := U) (U := U.calling g mk a) (Vm.Alike.refl U.vm) qK, qD⟩, va_recv hK hPc (ci := 2) (q0 := 0) rfl rfl, fun U hU hW => ⟨rfl, by rw [hU], by rw [hU]; exact hPc, va_K.moved hW.alike hK, hDc.weaken (fun _ _ _ _ => trivial)⟩⟩ rfl rfl hl.1 rfl (lv_room (Nat.le_of_ble_eq_true rfl)) dX3_takePart_58 ⟨Nat.le_of_ble_eq_true rfl, Nat.le_of_ble_eq_true rfl⟩) hS (fun q _ h => hFc q h) hFc (fun rr23 u t H22 locs ht hvm hw hB hz1 hk1 hS => ?_)
      obtain ⟨hP1, hK1, hD1⟩ := hB
      rw [ht] at hP1
      refine zTopi hw.symm ?_
      obtain ⟨hP, hD⟩ := va_join (wr := [(oX1 a1 h1 tv S1)]) (w1 := (cX3 a3 h3 a1 cv y s3_20)) hP hD [0, 1, 2, 3, 4] [5] rfl rfl (by decide) (by decide) hk1 hFc hP1 hD1
      have hP : va_P (dC, dI) vwCl ((cX3 a3 h3 a1 cv y s3_20) ++ (cX1 a1 h1 tv y S1)) H22 := hP.sub [1, 2, 3, 4, 5, 0] rfl
      have hD : va_D A ((cX3 a3 h3 a1 cv y s3_20) ++ (cX1 a1 h1 tv y S1)) := hD.sub [1, 2, 3, 4, 5, 0] (by decide) rfl
      obtain ⟨hz24, h⟩ := zG_spec h
      have ho0 : r19 = or_ := congrArg (fun z : Int32 × SS => z.1) (Option.some.inj h)
      have ho1 : s3_20 = o_3 := congrArg (fun z : Int32 × SS => z.2) (Option.some.inj h)
      exact W.zret (v := r19) hx hb hr (zb_nar hz24) (fun t ht hW => ⟨⟨r19, (), rfl, ho0, by rw [ht]; rw [← ho1]; exact hP, va_K.moved hW.alike hK, by rw [← ho1]; exact hD⟩, hS.F ht⟩) hS.2.2 dX3_takePart_61
    · have h := zN c12 h
      refine lv_aload_n hx hb dX3_takePart_18 rfl (lv_at hl 0 rfl) ?_
      obtain ⟨⟨r25, s3_26⟩, hc27, h⟩ := zB_spec h
      have hFc := zFree hD hS hA
      refine va_calli (va_runV (As := []) (rest := []) ⟨hx, hb, hml, hown, hts⟩ (m_X3_refuse l dC dI y a3 h3 S3 a1 h1 S1 cv tv H3.size r25 s3_26 hc27) (cwV 0 hts gX3_takePart_X3_refuse rfl rfl rfl (by decide +kernel) ⟨Nat.le_of_ble_eq_true rfl, Nat.le_of_ble_eq_true rfl⟩) ⟨fun a U g mk q => by obtain ⟨q0, q1, qP, qK, qD⟩ := q; exact ⟨q0, q1, qP, va_K.moved (u := U) (U := U.calling g mk a) (Vm.Alike.refl U.vm) qK, qD⟩, va_recv hK hP (ci := 2) (q0 := 0) rfl rfl, fun U hU hW => ⟨rfl, by rw [hU], by rw [hU]; exact hP, va_K.moved hW.alike hK, hD.weaken (fun _ _ _ _ => trivial)⟩⟩ rfl rfl hl.1 rfl (lv_room (Nat.le_of_ble_eq_true rfl)) dX3_takePart_19 ⟨Nat.le_of_ble_eq_true rfl, Nat.le_of_ble_eq_true rfl⟩) hS (fun q _ h => hFc q h) hFc (fun rr29 u t H28 locs ht hvm hw hB hz1 hk1 hS => ?_)
      obtain ⟨hP1, hK1, hD1⟩ := hB
      rw [ht] at hP1
      refine zTopi hw.symm ?_
      have hP := hP1
      have hD := hD1.weaken (fun _ q _ h => hFc q.1 h)
      have hP : va_P (dC, dI) vwCl ((cX3 a3 h3 a1 cv y s3_26) ++ (cX1 a1 h1 tv y S1)) H28 := hP
      have hD : va_D A ((cX3 a3 h3 a1 cv y s3_26) ++ (cX1 a1 h1 tv y S1)) := hD
      obtain ⟨hz30, h⟩ := zG_spec h
      have ho0 : r25 = or_ := congrArg (fun z : Int32 × SS => z.1) (Option.some.inj h)
      have ho1 : s3_26 = o_3 := congrArg (fun z : Int32 × SS => z.2) (Option.some.inj h)
      exact W.zret (v := r25) hx hb hr (zb_nar hz30) (fun t ht hW => ⟨⟨r25, (), rfl, ho0, by rw [ht]; rw [← ho1]; exact hP, va_K.moved hW.alike hK, by rw [← ho1]; exact hD⟩, hS.F ht⟩) hS.2.2 dX3_takePart_22

set_option maxHeartbeats 4000000 in
set_option maxRecDepth 100000 in
theorem m_X3_behindPart (l : Launch) (dC : Nat → ClassId) (dI : Nat → Nat → Nat) (y : Nat → ClassId) (a3 : Nat) (h3 : Nat → Nat) (S3 : SS) (a1 : Nat) (h1 : Nat → Nat) (S1 : SS) (cv : Value) (tv : Value) (sz : Nat) (or_ : Int32) (o_3 : SS) (h : f_X3_behindPart S3 S1 = some (or_, o_3)) : Met l yX3_behindPart wsX3_behindPart ({ frames := 2, cells := 0, slots := 0, locals := 42 }) (va_Pc [.ref a3] (fun U => U.heap.size = sz ∧ va_P (dC, dI) vwCl ((cX3 a3 h3 a1 cv y S3) ++ (cX1 a1 h1 tv y S1)) U.heap ∧ va_K (dC, dI) vwCl [(y 0, .int), (y 1, .long), (y 2, .byte), (y 3, .boolean)] U ∧ va_D (fun _ => True) ((cX3 a3 h3 a1 cv y S3) ++ (cX1 a1 h1 tv y S1)))) (va_Qi (fun (r : Int32) (_ : Unit) => r = or_) (fun (_ : Unit) (t : State) => va_P (dC, dI) vwCl ((cX3 a3 h3 a1 cv y o_3) ++ (cX1 a1 h1 tv y S1)) t.heap ∧ va_K (dC, dI) vwCl [(y 0, .int), (y 1, .long), (y 2, .byte), (y 3, .boolean)] t ∧ va_D (va_A ((cX3 a3 h3 a1 cv y S3) ++ (cX1 a1 h1 tv y S1)) sz) ((cX3 a3 h3 a1 cv y o_3) ++ (cX1 a1 h1 tv y S1))) (va_A ((cX3 a3 h3 a1 cv y S3) ++ (cX1 a1 h1 tv y S1)) sz)) 0 0 (va_A ((cX3 a3 h3 a1 cv y S3) ++ (cX1 a1 h1 tv y S1)) sz) := by
  refine Met.ofW (cc := cX3_behindPart) (maxL := 1) (ret := (some .boolean)) (by decide +kernel) rfl ?_
  intro p e s m args below meth c s₁ B hml hv
  obtain ⟨rfl, hsz, hP, hK, hD0⟩ := hv
  have hx := B.exec
  have hb := B.bytes
  have hr := B.returns
  have hts := atoms_spec (ws := wsX3_behindPart) B.pre
  have hown : s.vm.findClass RX3 = some m.cls := findClass_of_methodNamed B.named
  have hlocks := B.notSynchronized
  have inX1_ : ∀ w ∈ wsX10, w ∈ wsX3_behindPart := fun _ h => List.mem_cons_of_mem _ (List.mem_append_right _ h)
  have inX3_ : ∀ w ∈ wsX30, w ∈ wsX3_behindPart := fun _ h => List.mem_cons_of_mem _ (List.mem_append_left _ (List.mem_append_right _ h))
  subst hsz
  have hD := hD0.self (sz := s.heap.size)
  generalize hAe : va_A ((cX3 a3 h3 a1 cv y S3) ++ (cX1 a1 h1 tv y S1)) s.heap.size = A at hD ⊢
  have hA : ∀ q : Nat, s.heap.size ≤ q → A q := fun q h => by rw [← hAe]; exact Or.inr h
  have hS : va_S A s.heap s.heap [] := va_S.rf
  have hP : va_P (dC, dI) vwCl ((cX3 a3 h3 a1 cv y S3) ++ (cX1 a1 h1 tv y S1)) s.heap := hP
  have hl := lv_entry ([.ref a3]) (n := 1) (Nat.le_of_ble_eq_true rfl)
  rw [lg_entry_eq]
  generalize (lg_sl ([.ref a3]) ++ List.replicate (1 - (lg_sl ([.ref a3])).length) Slot.unset).toArray = ls at hl ⊢
  have hl : lv_has ls 1 [(0, .ref a3)] := hl
  refine lv_aload_n hx hb dX3_behindPart_0 rfl (lv_at hl 0 rfl) ?_
  refine va_get (D := (dC, dI)) (ci := 2) (v := .ref a1) (C := RX3) (T := TX3) (N := 17) hx hb hts inX3_ hown hK hP 0 rfl rfl 2 (by decide) (hts (.fieldLink RX3 18 "GateWheel$Reader" "lexer" "LGateWheel$Lexer;") (List.mem_of_getElem? (i := 1) rfl)) (fun _ h9 => h9) rfl dX3_behindPart_1 ?_
  refine va_get (D := (dC, dI)) (ci := 1) (v := .int (gI S1 3)) (C := RX1) (T := TX1) (N := 7) hx hb hts inX1_ hown hK hP 5 rfl rfl 3 (by decide) (hts (.fieldLink RX3 74 "GateWheel$Lexer" "kind" "I") (List.mem_of_getElem? (i := 2) rfl)) (fun _ h9 => h9) rfl dX3_behindPart_4 ?_
  refine lv_bipush (v := 44) hx hb dX3_behindPart_7 (by decide) ?_
  refine lv_icmp_ne (tgt := 38) hx hb dX3_behindPart_9 (by decide) (fun c1 => ?_) (fun c1 => ?_)
  · have h := zN c1 h
    refine lv_aload_n hx hb dX3_behindPart_38 rfl (lv_at hl 0 rfl) ?_
    refine va_get (D := (dC, dI)) (ci := 2) (v := .ref a1) (C := RX3) (T := TX3) (N := 17) hx hb hts inX3_ hown hK hP 0 rfl rfl 2 (by decide) (hts (.fieldLink RX3 18 "GateWheel$Reader" "lexer" "LGateWheel$Lexer;") (List.mem_of_getElem? (i := 1) rfl)) (fun _ h9 => h9) rfl dX3_behindPart_39 ?_
    refine va_get (D := (dC, dI)) (ci := 1) (v := .int (gI S1 3)) (C := RX1) (T := TX1) (N := 7) hx hb hts inX1_ hown hK hP 5 rfl rfl 3 (by decide) (hts (.fieldLink RX3 74 "GateWheel$Lexer" "kind" "I") (List.mem_of_getElem? (i := 2) rfl)) (fun _ h9 => h9) rfl dX3_behindPart_42 ?_
    refine lv_bipush (v := 41) hx hb dX3_behindPart_45 (by decide) ?_
    refine lv_icmp_ne (tgt := 81) hx hb dX3_behindPart_47 (by decide) (fun c2 => ?_) (fun c2 => ?_)
    · have h := zN c2 h
      refine lv_aload_n hx hb dX3_behindPart_81 rfl (lv_at hl 0 rfl) ?_
      obtain ⟨⟨r3, s3_4⟩, hc5, h⟩ := zB_spec h
      have hFc := zFree hD hS hA
      refine va_calli (va_runV (As := []) (rest := []) ⟨hx, hb, hml, hown, hts⟩ (m_X3_refuse l dC dI y a3 h3 S3 a1 h1 S1 cv tv s.heap.size r3 s3_4 hc5) (cwV 0 hts gX3_behindPart_X3_refuse rfl rfl rfl (by decide +kernel) ⟨Nat.le_of_ble_eq_true rfl, Nat.le_of_ble_eq_true rfl⟩) ⟨fun a U g mk q => by obtain ⟨q0, q1, qP, qK, qD⟩ := q; exact ⟨q0, q1, qP, va_K.moved (u := U) (U := U.calling g mk a) (Vm.Alike.refl U.vm) qK, qD⟩, va_recv hK hP (ci := 2) (q0 := 0) rfl rfl, fun U hU hW => ⟨rfl, by rw [hU], by rw [hU]; exact hP, va_K.moved hW.alike hK, hD.weaken (fun _ _ _ _ => trivial)⟩⟩ rfl rfl hl.1 rfl (lv_room (Nat.le_of_ble_eq_true rfl)) dX3_behindPart_82 ⟨Nat.le_of_ble_eq_true rfl, Nat.le_of_ble_eq_true rfl⟩) hS (fun q _ h => hFc q h) hFc (fun rr7 u t H6 locs ht hvm hw hB hz1 hk1 hS => ?_)
      obtain ⟨hP1, hK1, hD1⟩ := hB
      rw [ht] at hP1
      refine zTopi hw.symm ?_
      have hP := hP1
      have hD := hD1.weaken (fun _ q _ h => hFc q.1 h)
      have hP : va_P (dC, dI) vwCl ((cX3 a3 h3 a1 cv y s3_4) ++ (cX1 a1 h1 tv y S1)) H6 := hP
      have hD : va_D A ((cX3 a3 h3 a1 cv y s3_4) ++ (cX1 a1 h1 tv y S1)) := hD
      obtain ⟨hz8, h⟩ := zG_spec h
      have ho0 : r3 = or_ := congrArg (fun z : Int32 × SS => z.1) (Option.some.inj h)
      have ho1 : s3_4 = o_3 := congrArg (fun z : Int32 × SS => z.2) (Option.some.inj h)
      exact W.zret (v := r3) hx hb hr (zb_nar hz8) (fun t ht hW => ⟨⟨r3, (), rfl, ho0, by rw [ht]; rw [← ho1]; exact hP, va_K.moved hW.alike hK, by rw [← ho1]; exact hD⟩, hS.F ht⟩) hS.2.2 dX3_behindPart_85
    · have h := zY c2 h
      refine lv_aload_n hx hb dX3_behindPart_50 rfl (lv_at hl 0 rfl) ?_
      refine va_get (D := (dC, dI)) (ci := 2) (v := .int (gI S3 9)) (C := RX3) (T := TX3) (N := 17) hx hb hts inX3_ hown hK hP 0 rfl rfl 9 (by decide) (hts (.fieldLink RX3 207 "GateWheel$Reader" "taken" "I") (List.mem_of_getElem? (i := 4) rfl)) (fun _ h9 => h9) rfl dX3_behindPart_51 ?_
      refine lv_aload_n hx hb dX3_behindPart_54 rfl (lv_at hl 0 rfl) ?_
      refine va_get (D := (dC, dI)) (ci := 2) (v := .int (gI S3 10)) (C := RX3) (T := TX3) (N := 17) hx hb hts inX3_ hown hK hP 0 rfl rfl 10 (by decide) (hts (.fieldLink RX3 201 "GateWheel$Reader" "least" "I") (List.mem_of_getElem? (i := 6) rfl)) (fun _ h9 => h9) rfl dX3_behindPart_55 ?_
      refine lv_icmp_lt (tgt := 81) hx hb dX3_behindPart_58 (by decide) (fun c9 => ?_) (fun c9 => ?_)
      · have h := zY c9 h
        refine lv_aload_n hx hb dX3_behindPart_81 rfl (lv_at hl 0 rfl) ?_
        obtain ⟨⟨r10, s3_11⟩, hc12, h⟩ := zB_spec h
        have hFc := zFree hD hS hA
        refine va_calli (va_runV (As := []) (rest := []) ⟨hx, hb, hml, hown, hts⟩ (m_X3_refuse l dC dI y a3 h3 S3 a1 h1 S1 cv tv s.heap.size r10 s3_11 hc12) (cwV 0 hts gX3_behindPart_X3_refuse rfl rfl rfl (by decide +kernel) ⟨Nat.le_of_ble_eq_true rfl, Nat.le_of_ble_eq_true rfl⟩) ⟨fun a U g mk q => by obtain ⟨q0, q1, qP, qK, qD⟩ := q; exact ⟨q0, q1, qP, va_K.moved (u := U) (U := U.calling g mk a) (Vm.Alike.refl U.vm) qK, qD⟩, va_recv hK hP (ci := 2) (q0 := 0) rfl rfl, fun U hU hW => ⟨rfl, by rw [hU], by rw [hU]; exact hP, va_K.moved hW.alike hK, hD.weaken (fun _ _ _ _ => trivial)⟩⟩ rfl rfl hl.1 rfl (lv_room (Nat.le_of_ble_eq_true rfl)) dX3_behindPart_82 ⟨Nat.le_of_ble_eq_true rfl, Nat.le_of_ble_eq_true rfl⟩) hS (fun q _ h => hFc q h) hFc (fun rr14 u t H13 locs ht hvm hw hB hz1 hk1 hS => ?_)
        obtain ⟨hP1, hK1, hD1⟩ := hB
        rw [ht] at hP1
        refine zTopi hw.symm ?_
        have hP := hP1
        have hD := hD1.weaken (fun _ q _ h => hFc q.1 h)
        have hP : va_P (dC, dI) vwCl ((cX3 a3 h3 a1 cv y s3_11) ++ (cX1 a1 h1 tv y S1)) H13 := hP
        have hD : va_D A ((cX3 a3 h3 a1 cv y s3_11) ++ (cX1 a1 h1 tv y S1)) := hD
        obtain ⟨hz15, h⟩ := zG_spec h
        have ho0 : r10 = or_ := congrArg (fun z : Int32 × SS => z.1) (Option.some.inj h)
        have ho1 : s3_11 = o_3 := congrArg (fun z : Int32 × SS => z.2) (Option.some.inj h)
        exact W.zret (v := r10) hx hb hr (zb_nar hz15) (fun t ht hW => ⟨⟨r10, (), rfl, ho0, by rw [ht]; rw [← ho1]; exact hP, va_K.moved hW.alike hK, by rw [← ho1]; exact hD⟩, hS.F ht⟩) hS.2.2 dX3_behindPart_85
      · have h := zN c9 h
        refine lv_aload_n hx hb dX3_behindPart_61 rfl (lv_at hl 0 rfl) ?_
        refine lv_aload_n hx hb dX3_behindPart_62 rfl (lv_at hl 0 rfl) ?_
        refine va_get (D := (dC, dI)) (ci := 2) (v := .int (gI S3 5)) (C := RX3) (T := TX3) (N := 17) hx hb hts inX3_ hown hK hP 0 rfl rfl 5 (by decide) (hts (.fieldLink RX3 147 "GateWheel$Reader" "sort" "I") (List.mem_of_getElem? (i := 3) rfl)) (fun _ h9 => h9) rfl dX3_behindPart_63 ?_
        refine lv_iconst (v := 2) hx hb dX3_behindPart_66 (by decide) ?_
        refine W_abs (fun GW16 eG17 => ?_)
        obtain ⟨ov19, hr20, h⟩ := zB_spec h
        have jn18 : ∀ (v22 : Int32) (HGW16 : Heap) (locs : List Loc) (ls : Array Slot), v22 = ov19 → va_P (dC, dI) vwCl ((cX3 a3 h3 a1 cv y S3) ++ (cX1 a1 h1 tv y S1)) HGW16 → va_D A ((cX3 a3 h3 a1 cv y S3) ++ (cX1 a1 h1 tv y S1)) → va_S A s.heap HGW16 locs → lv_has ls 1 [] → GW16 HGW16 locs 0 0 (F0 m 77 ls [.int v22, .ref a3]) := by
          intro v22 HGW16 locs ls hv hP hD hS hl
          subst hv
          refine (eG17 _ _ _ _ _).mpr ?_
          obtain ⟨⟨r23, s3_24⟩, hc25, h⟩ := zB_spec h
          have hPc := hP.sub (ws' := (cX3 a3 h3 a1 cv y S3)) [0, 1, 2, 3, 4] rfl
          have hDc := hD.sub (ws' := (cX3 a3 h3 a1 cv y S3)) [0, 1, 2, 3, 4] (by decide) rfl
          have hFc := va_free (wc := (cX3 a3 h3 a1 cv y S3)) hD hS hA [0, 1, 2, 3, 4] rfl
          refine va_calli (va_runV (As := [.int v22]) (rest := []) ⟨hx, hb, hml, hown, hts⟩ (m_X3_go l dC dI y a3 h3 S3 a1 cv v22 HGW16.size r23 s3_24 hc25) (cwV 1 hts gX3_behindPart_X3_go rfl rfl rfl (by decide +kernel) ⟨Nat.le_of_ble_eq_true rfl, Nat.le_of_ble_eq_true rfl⟩) ⟨fun a U g mk q => by obtain ⟨q0, q1, qP, qK, qD⟩ := q; exact ⟨q0, q1, qP, va_K.moved (u := U) (U := U.calling g mk a) (Vm.Alike.refl U.vm) qK, qD⟩, va_recv hK hPc (ci := 2) (q0 := 0) rfl rfl, fun U hU hW => ⟨rfl, by rw [hU], by rw [hU]; exact hPc, va_K.moved hW.alike hK, hDc.weaken (fun _ _ _ _ => trivial)⟩⟩ rfl rfl hl.1 rfl (lv_room (Nat.le_of_ble_eq_true rfl)) dX3_behindPart_77 ⟨Nat.le_of_ble_eq_true rfl, Nat.le_of_ble_eq_true rfl⟩) hS (fun q _ h => hFc q h) hFc (fun rr27 u t H26 locs ht hvm hw hB hz1 hk1 hS => ?_)
          obtain ⟨hP1, hK1, hD1⟩ := hB
          rw [ht] at hP1
          refine zTopi hw.symm ?_
          obtain ⟨hP, hD⟩ := va_join (wr := [(oX1 a1 h1 tv S1)]) (w1 := (cX3 a3 h3 a1 cv y s3_24)) hP hD [0, 1, 2, 3, 4] [5] rfl rfl (by decide) (by decide) hk1 hFc hP1 hD1
          have hP : va_P (dC, dI) vwCl ((cX3 a3 h3 a1 cv y s3_24) ++ (cX1 a1 h1 tv y S1)) H26 := hP.sub [1, 2, 3, 4, 5, 0] rfl
          have hD : va_D A ((cX3 a3 h3 a1 cv y s3_24) ++ (cX1 a1 h1 tv y S1)) := hD.sub [1, 2, 3, 4, 5, 0] (by decide) rfl
          obtain ⟨hz28, h⟩ := zG_spec h
          have ho0 : r23 = or_ := congrArg (fun z : Int32 × SS => z.1) (Option.some.inj h)
          have ho1 : s3_24 = o_3 := congrArg (fun z : Int32 × SS => z.2) (Option.some.inj h)
          exact W.zret (v := r23) hx hb hr (zb_nar hz28) (fun t ht hW => ⟨⟨r23, (), rfl, ho0, by rw [ht]; rw [← ho1]; exact hP, va_K.moved hW.alike hK, by rw [← ho1]; exact hD⟩, hS.F ht⟩) hS.2.2 dX3_behindPart_80
        refine (eG17 _ _ _ _ _).mpr ?_
        have h := hr20
        refine lv_icmp_ne (tgt := 75) hx hb dX3_behindPart_67 (by decide) (fun c29 => ?_) (fun c29 => ?_)
        · have h := zN c29 h
          refine lv_bipush (v := 10) hx hb dX3_behindPart_75 (by decide) ?_
          exact (eG17 _ _ _ _ _).mp (jn18 (10 : Int32) _ _ _ (Option.some.inj h) hP hD hS (lv_sub hl [] rfl))
        · have h := zY c29 h
          refine lv_bipush (v := 9) hx hb dX3_behindPart_70 (by decide) ?_
          refine lv_goto (tgt := 77) hx hb dX3_behindPart_72 (by decide) ?_
          exact (eG17 _ _ _ _ _).mp (jn18 (9 : Int32) _ _ _ (Option.some.inj h) hP hD hS (lv_sub hl [] rfl))
  · have h := zY c1 h
    refine lv_aload_n hx hb dX3_behindPart_12 rfl (lv_at hl 0 rfl) ?_
    refine va_get (D := (dC, dI)) (ci := 2) (v := .int (gI S3 5)) (C := RX3) (T := TX3) (N := 17) hx hb hts inX3_ hown hK hP 0 rfl rfl 5 (by decide) (hts (.fieldLink RX3 147 "GateWheel$Reader" "sort" "I") (List.mem_of_getElem? (i := 3) rfl)) (fun _ h9 => h9) rfl dX3_behindPart_13 ?_
    refine lv_iconst (v := 2) hx hb dX3_behindPart_16 (by decide) ?_
    refine lv_icmp_eq (tgt := 31) hx hb dX3_behindPart_17 (by decide) (fun c30 => ?_) (fun c30 => ?_)
    · have h := zY c30 h
      refine lv_aload_n hx hb dX3_behindPart_31 rfl (lv_at hl 0 rfl) ?_
      refine lv_bipush (v := 7) hx hb dX3_behindPart_32 (by decide) ?_
      obtain ⟨⟨r31, s3_32⟩, hc33, h⟩ := zB_spec h
      have hPc := hP.sub (ws' := (cX3 a3 h3 a1 cv y S3)) [0, 1, 2, 3, 4] rfl
      have hDc := hD.sub (ws' := (cX3 a3 h3 a1 cv y S3)) [0, 1, 2, 3, 4] (by decide) rfl
      have hFc := va_free (wc := (cX3 a3 h3 a1 cv y S3)) hD hS hA [0, 1, 2, 3, 4] rfl
      refine va_calli (va_runV (As := [.int 7]) (rest := []) ⟨hx, hb, hml, hown, hts⟩ (m_X3_go l dC dI y a3 h3 S3 a1 cv (7 : Int32) s.heap.size r31 s3_32 hc33) (cwV 1 hts gX3_behindPart_X3_go rfl rfl rfl (by decide +kernel) ⟨Nat.le_of_ble_eq_true rfl, Nat.le_of_ble_eq_true rfl⟩) ⟨fun a U g mk q => by obtain ⟨q0, q1, qP, qK, qD⟩ := q; exact ⟨q0, q1, qP, va_K.moved (u := U) (U := U.calling g mk a) (Vm.Alike.refl U.vm) qK, qD⟩, va_recv hK hPc (ci := 2) (q0 := 0) rfl rfl, fun U hU hW => ⟨rfl, by rw [hU], by rw [hU]; exact hPc, va_K.moved hW.alike hK, hDc.weaken (fun _ _ _ _ => trivial)⟩⟩ rfl rfl hl.1 rfl (lv_room (Nat.le_of_ble_eq_true rfl)) dX3_behindPart_34 ⟨Nat.le_of_ble_eq_true rfl, Nat.le_of_ble_eq_true rfl⟩) hS (fun q _ h => hFc q h) hFc (fun rr35 u t H34 locs ht hvm hw hB hz1 hk1 hS => ?_)
      obtain ⟨hP1, hK1, hD1⟩ := hB
      rw [ht] at hP1
      refine zTopi hw.symm ?_
      obtain ⟨hP, hD⟩ := va_join (wr := [(oX1 a1 h1 tv S1)]) (w1 := (cX3 a3 h3 a1 cv y s3_32)) hP hD [0, 1, 2, 3, 4] [5] rfl rfl (by decide) (by decide) hk1 hFc hP1 hD1
      have hP : va_P (dC, dI) vwCl ((cX3 a3 h3 a1 cv y s3_32) ++ (cX1 a1 h1 tv y S1)) H34 := hP.sub [1, 2, 3, 4, 5, 0] rfl
      have hD : va_D A ((cX3 a3 h3 a1 cv y s3_32) ++ (cX1 a1 h1 tv y S1)) := hD.sub [1, 2, 3, 4, 5, 0] (by decide) rfl
      obtain ⟨hz36, h⟩ := zG_spec h
      have ho0 : r31 = or_ := congrArg (fun z : Int32 × SS => z.1) (Option.some.inj h)
      have ho1 : s3_32 = o_3 := congrArg (fun z : Int32 × SS => z.2) (Option.some.inj h)
      exact W.zret (v := r31) hx hb hr (zb_nar hz36) (fun t ht hW => ⟨⟨r31, (), rfl, ho0, by rw [ht]; rw [← ho1]; exact hP, va_K.moved hW.alike hK, by rw [← ho1]; exact hD⟩, hS.F ht⟩) hS.2.2 dX3_behindPart_37
    · have h := zN c30 h
      refine lv_aload_n hx hb dX3_behindPart_20 rfl (lv_at hl 0 rfl) ?_
      refine va_get (D := (dC, dI)) (ci := 2) (v := .int (gI S3 9)) (C := RX3) (T := TX3) (N := 17) hx hb hts inX3_ hown hK hP 0 rfl rfl 9 (by decide) (hts (.fieldLink RX3 207 "GateWheel$Reader" "taken" "I") (List.mem_of_getElem? (i := 4) rfl)) (fun _ h9 => h9) rfl dX3_behindPart_21 ?_
      refine lv_aload_n hx hb dX3_behindPart_24 rfl (lv_at hl 0 rfl) ?_
      refine va_get (D := (dC, dI)) (ci := 2) (v := .int (gI S3 11)) (C := RX3) (T := TX3) (N := 17) hx hb hts inX3_ hown hK hP 0 rfl rfl 11 (by decide) (hts (.fieldLink RX3 204 "GateWheel$Reader" "most" "I") (List.mem_of_getElem? (i := 5) rfl)) (fun _ h9 => h9) rfl dX3_behindPart_25 ?_
      refine lv_icmp_ge (tgt := 38) hx hb dX3_behindPart_28 (by decide) (fun c37 => ?_) (fun c37 => ?_)
      · have h := zY c37 h
        refine lv_aload_n hx hb dX3_behindPart_38 rfl (lv_at hl 0 rfl) ?_
        refine va_get (D := (dC, dI)) (ci := 2) (v := .ref a1) (C := RX3) (T := TX3) (N := 17) hx hb hts inX3_ hown hK hP 0 rfl rfl 2 (by decide) (hts (.fieldLink RX3 18 "GateWheel$Reader" "lexer" "LGateWheel$Lexer;") (List.mem_of_getElem? (i := 1) rfl)) (fun _ h9 => h9) rfl dX3_behindPart_39 ?_
        refine va_get (D := (dC, dI)) (ci := 1) (v := .int (gI S1 3)) (C := RX1) (T := TX1) (N := 7) hx hb hts inX1_ hown hK hP 5 rfl rfl 3 (by decide) (hts (.fieldLink RX3 74 "GateWheel$Lexer" "kind" "I") (List.mem_of_getElem? (i := 2) rfl)) (fun _ h9 => h9) rfl dX3_behindPart_42 ?_
        refine lv_bipush (v := 41) hx hb dX3_behindPart_45 (by decide) ?_
        refine lv_icmp_ne (tgt := 81) hx hb dX3_behindPart_47 (by decide) (fun c38 => ?_) (fun c38 => ?_)
        · have h := zN c38 h
          refine lv_aload_n hx hb dX3_behindPart_81 rfl (lv_at hl 0 rfl) ?_
          obtain ⟨⟨r39, s3_40⟩, hc41, h⟩ := zB_spec h
          have hFc := zFree hD hS hA
          refine va_calli (va_runV (As := []) (rest := []) ⟨hx, hb, hml, hown, hts⟩ (m_X3_refuse l dC dI y a3 h3 S3 a1 h1 S1 cv tv s.heap.size r39 s3_40 hc41) (cwV 0 hts gX3_behindPart_X3_refuse rfl rfl rfl (by decide +kernel) ⟨Nat.le_of_ble_eq_true rfl, Nat.le_of_ble_eq_true rfl⟩) ⟨fun a U g mk q => by obtain ⟨q0, q1, qP, qK, qD⟩ := q; exact ⟨q0, q1, qP, va_K.moved (u := U) (U := U.calling g mk a) (Vm.Alike.refl U.vm) qK, qD⟩, va_recv hK hP (ci := 2) (q0 := 0) rfl rfl, fun U hU hW => ⟨rfl, by rw [hU], by rw [hU]; exact hP, va_K.moved hW.alike hK, hD.weaken (fun _ _ _ _ => trivial)⟩⟩ rfl rfl hl.1 rfl (lv_room (Nat.le_of_ble_eq_true rfl)) dX3_behindPart_82 ⟨Nat.le_of_ble_eq_true rfl, Nat.le_of_ble_eq_true rfl⟩) hS (fun q _ h => hFc q h) hFc (fun rr43 u t H42 locs ht hvm hw hB hz1 hk1 hS => ?_)
          obtain ⟨hP1, hK1, hD1⟩ := hB
          rw [ht] at hP1
          refine zTopi hw.symm ?_
          have hP := hP1
          have hD := hD1.weaken (fun _ q _ h => hFc q.1 h)
          have hP : va_P (dC, dI) vwCl ((cX3 a3 h3 a1 cv y s3_40) ++ (cX1 a1 h1 tv y S1)) H42 := hP
          have hD : va_D A ((cX3 a3 h3 a1 cv y s3_40) ++ (cX1 a1 h1 tv y S1)) := hD
          obtain ⟨hz44, h⟩ := zG_spec h
          have ho0 : r39 = or_ := congrArg (fun z : Int32 × SS => z.1) (Option.some.inj h)
          have ho1 : s3_40 = o_3 := congrArg (fun z : Int32 × SS => z.2) (Option.some.inj h)
          exact W.zret (v := r39) hx hb hr (zb_nar hz44) (fun t ht hW => ⟨⟨r39, (), rfl, ho0, by rw [ht]; rw [← ho1]; exact hP, va_K.moved hW.alike hK, by rw [← ho1]; exact hD⟩, hS.F ht⟩) hS.2.2 dX3_behindPart_85
        · have h := zY c38 h
          refine lv_aload_n hx hb dX3_behindPart_50 rfl (lv_at hl 0 rfl) ?_
          refine va_get (D := (dC, dI)) (ci := 2) (v := .int (gI S3 9)) (C := RX3) (T := TX3) (N := 17) hx hb hts inX3_ hown hK hP 0 rfl rfl 9 (by decide) (hts (.fieldLink RX3 207 "GateWheel$Reader" "taken" "I") (List.mem_of_getElem? (i := 4) rfl)) (fun _ h9 => h9) rfl dX3_behindPart_51 ?_
          refine lv_aload_n hx hb dX3_behindPart_54 rfl (lv_at hl 0 rfl) ?_
          refine va_get (D := (dC, dI)) (ci := 2) (v := .int (gI S3 10)) (C := RX3) (T := TX3) (N := 17) hx hb hts inX3_ hown hK hP 0 rfl rfl 10 (by decide) (hts (.fieldLink RX3 201 "GateWheel$Reader" "least" "I") (List.mem_of_getElem? (i := 6) rfl)) (fun _ h9 => h9) rfl dX3_behindPart_55 ?_
          refine lv_icmp_lt (tgt := 81) hx hb dX3_behindPart_58 (by decide) (fun c45 => ?_) (fun c45 => ?_)
          · have h := zY c45 h
            refine lv_aload_n hx hb dX3_behindPart_81 rfl (lv_at hl 0 rfl) ?_
            obtain ⟨⟨r46, s3_47⟩, hc48, h⟩ := zB_spec h
            have hFc := zFree hD hS hA
            refine va_calli (va_runV (As := []) (rest := []) ⟨hx, hb, hml, hown, hts⟩ (m_X3_refuse l dC dI y a3 h3 S3 a1 h1 S1 cv tv s.heap.size r46 s3_47 hc48) (cwV 0 hts gX3_behindPart_X3_refuse rfl rfl rfl (by decide +kernel) ⟨Nat.le_of_ble_eq_true rfl, Nat.le_of_ble_eq_true rfl⟩) ⟨fun a U g mk q => by obtain ⟨q0, q1, qP, qK, qD⟩ := q; exact ⟨q0, q1, qP, va_K.moved (u := U) (U := U.calling g mk a) (Vm.Alike.refl U.vm) qK, qD⟩, va_recv hK hP (ci := 2) (q0 := 0) rfl rfl, fun U hU hW => ⟨rfl, by rw [hU], by rw [hU]; exact hP, va_K.moved hW.alike hK, hD.weaken (fun _ _ _ _ => trivial)⟩⟩ rfl rfl hl.1 rfl (lv_room (Nat.le_of_ble_eq_true rfl)) dX3_behindPart_82 ⟨Nat.le_of_ble_eq_true rfl, Nat.le_of_ble_eq_true rfl⟩) hS (fun q _ h => hFc q h) hFc (fun rr50 u t H49 locs ht hvm hw hB hz1 hk1 hS => ?_)
            obtain ⟨hP1, hK1, hD1⟩ := hB
            rw [ht] at hP1
            refine zTopi hw.symm ?_
            have hP := hP1
            have hD := hD1.weaken (fun _ q _ h => hFc q.1 h)
            have hP : va_P (dC, dI) vwCl ((cX3 a3 h3 a1 cv y s3_47) ++ (cX1 a1 h1 tv y S1)) H49 := hP
            have hD : va_D A ((cX3 a3 h3 a1 cv y s3_47) ++ (cX1 a1 h1 tv y S1)) := hD
            obtain ⟨hz51, h⟩ := zG_spec h
            have ho0 : r46 = or_ := congrArg (fun z : Int32 × SS => z.1) (Option.some.inj h)
            have ho1 : s3_47 = o_3 := congrArg (fun z : Int32 × SS => z.2) (Option.some.inj h)
            exact W.zret (v := r46) hx hb hr (zb_nar hz51) (fun t ht hW => ⟨⟨r46, (), rfl, ho0, by rw [ht]; rw [← ho1]; exact hP, va_K.moved hW.alike hK, by rw [← ho1]; exact hD⟩, hS.F ht⟩) hS.2.2 dX3_behindPart_85
          · have h := zN c45 h
            refine lv_aload_n hx hb dX3_behindPart_61 rfl (lv_at hl 0 rfl) ?_
            refine lv_aload_n hx hb dX3_behindPart_62 rfl (lv_at hl 0 rfl) ?_
            refine va_get (D := (dC, dI)) (ci := 2) (v := .int (gI S3 5)) (C := RX3) (T := TX3) (N := 17) hx hb hts inX3_ hown hK hP 0 rfl rfl 5 (by decide) (hts (.fieldLink RX3 147 "GateWheel$Reader" "sort" "I") (List.mem_of_getElem? (i := 3) rfl)) (fun _ h9 => h9) rfl dX3_behindPart_63 ?_
            refine lv_iconst (v := 2) hx hb dX3_behindPart_66 (by decide) ?_
            refine W_abs (fun GW52 eG53 => ?_)
            obtain ⟨ov55, hr56, h⟩ := zB_spec h
            have jn54 : ∀ (v58 : Int32) (HGW52 : Heap) (locs : List Loc) (ls : Array Slot), v58 = ov55 → va_P (dC, dI) vwCl ((cX3 a3 h3 a1 cv y S3) ++ (cX1 a1 h1 tv y S1)) HGW52 → va_D A ((cX3 a3 h3 a1 cv y S3) ++ (cX1 a1 h1 tv y S1)) → va_S A s.heap HGW52 locs → lv_has ls 1 [] → GW52 HGW52 locs 0 0 (F0 m 77 ls [.int v58, .ref a3]) := by
              intro v58 HGW52 locs ls hv hP hD hS hl
              subst hv
              refine (eG53 _ _ _ _ _).mpr ?_
              obtain ⟨⟨r59, s3_60⟩, hc61, h⟩ := zB_spec h
              have hPc := hP.sub (ws' := (cX3 a3 h3 a1 cv y S3)) [0, 1, 2, 3, 4] rfl
              have hDc := hD.sub (ws' := (cX3 a3 h3 a1 cv y S3)) [0, 1, 2, 3, 4] (by decide) rfl
              have hFc := va_free (wc := (cX3 a3 h3 a1 cv y S3)) hD hS hA [0, 1, 2, 3, 4] rfl
              refine va_calli (va_runV (As := [.int v58]) (rest := []) ⟨hx, hb, hml, hown, hts⟩ (m_X3_go l dC dI y a3 h3 S3 a1 cv v58 HGW52.size r59 s3_60 hc61) (cwV 1 hts gX3_behindPart_X3_go rfl rfl rfl (by decide +kernel) ⟨Nat.le_of_ble_eq_true rfl, Nat.le_of_ble_eq_true rfl⟩) ⟨fun a U g mk q => by obtain ⟨q0, q1, qP, qK, qD⟩ := q; exact ⟨q0, q1, qP, va_K.moved (u := U) (U := U.calling g mk a) (Vm.Alike.refl U.vm) qK, qD⟩, va_recv hK hPc (ci := 2) (q0 := 0) rfl rfl, fun U hU hW => ⟨rfl, by rw [hU], by rw [hU]; exact hPc, va_K.moved hW.alike hK, hDc.weaken (fun _ _ _ _ => trivial)⟩⟩ rfl rfl hl.1 rfl (lv_room (Nat.le_of_ble_eq_true rfl)) dX3_behindPart_77 ⟨Nat.le_of_ble_eq_true rfl, Nat.le_of_ble_eq_true rfl⟩) hS (fun q _ h => hFc q h) hFc (fun rr63 u t H62 locs ht hvm hw hB hz1 hk1 hS => ?_)
              obtain ⟨hP1, hK1, hD1⟩ := hB
              rw [ht] at hP1
              refine zTopi hw.symm ?_
              obtain ⟨hP, hD⟩ := va_join (wr := [(oX1 a1 h1 tv S1)]) (w1 := (cX3 a3 h3 a1 cv y s3_60)) hP hD [0, 1, 2, 3, 4] [5] rfl rfl (by decide) (by decide) hk1 hFc hP1 hD1
              have hP : va_P (dC, dI) vwCl ((cX3 a3 h3 a1 cv y s3_60) ++ (cX1 a1 h1 tv y S1)) H62 := hP.sub [1, 2, 3, 4, 5, 0] rfl
              have hD : va_D A ((cX3 a3 h3 a1 cv y s3_60) ++ (cX1 a1 h1 tv y S1)) := hD.sub [1, 2, 3, 4, 5, 0] (by decide) rfl
              obtain ⟨hz64, h⟩ := zG_spec h
              have ho0 : r59 = or_ := congrArg (fun z : Int32 × SS => z.1) (Option.some.inj h)
              have ho1 : s3_60 = o_3 := congrArg (fun z : Int32 × SS => z.2) (Option.some.inj h)
              exact W.zret (v := r59) hx hb hr (zb_nar hz64) (fun t ht hW => ⟨⟨r59, (), rfl, ho0, by rw [ht]; rw [← ho1]; exact hP, va_K.moved hW.alike hK, by rw [← ho1]; exact hD⟩, hS.F ht⟩) hS.2.2 dX3_behindPart_80
            refine (eG53 _ _ _ _ _).mpr ?_
            have h := hr56
            refine lv_icmp_ne (tgt := 75) hx hb dX3_behindPart_67 (by decide) (fun c65 => ?_) (fun c65 => ?_)
            · have h := zN c65 h
              refine lv_bipush (v := 10) hx hb dX3_behindPart_75 (by decide) ?_
              exact (eG53 _ _ _ _ _).mp (jn54 (10 : Int32) _ _ _ (Option.some.inj h) hP hD hS (lv_sub hl [] rfl))
            · have h := zY c65 h
              refine lv_bipush (v := 9) hx hb dX3_behindPart_70 (by decide) ?_
              refine lv_goto (tgt := 77) hx hb dX3_behindPart_72 (by decide) ?_
              exact (eG53 _ _ _ _ _).mp (jn54 (9 : Int32) _ _ _ (Option.some.inj h) hP hD hS (lv_sub hl [] rfl))
      · have h := zN c37 h
        refine lv_aload_n hx hb dX3_behindPart_31 rfl (lv_at hl 0 rfl) ?_
        refine lv_bipush (v := 7) hx hb dX3_behindPart_32 (by decide) ?_
        obtain ⟨⟨r66, s3_67⟩, hc68, h⟩ := zB_spec h
        have hPc := hP.sub (ws' := (cX3 a3 h3 a1 cv y S3)) [0, 1, 2, 3, 4] rfl
        have hDc := hD.sub (ws' := (cX3 a3 h3 a1 cv y S3)) [0, 1, 2, 3, 4] (by decide) rfl
        have hFc := va_free (wc := (cX3 a3 h3 a1 cv y S3)) hD hS hA [0, 1, 2, 3, 4] rfl
        refine va_calli (va_runV (As := [.int 7]) (rest := []) ⟨hx, hb, hml, hown, hts⟩ (m_X3_go l dC dI y a3 h3 S3 a1 cv (7 : Int32) s.heap.size r66 s3_67 hc68) (cwV 1 hts gX3_behindPart_X3_go rfl rfl rfl (by decide +kernel) ⟨Nat.le_of_ble_eq_true rfl, Nat.le_of_ble_eq_true rfl⟩) ⟨fun a U g mk q => by obtain ⟨q0, q1, qP, qK, qD⟩ := q; exact ⟨q0, q1, qP, va_K.moved (u := U) (U := U.calling g mk a) (Vm.Alike.refl U.vm) qK, qD⟩, va_recv hK hPc (ci := 2) (q0 := 0) rfl rfl, fun U hU hW => ⟨rfl, by rw [hU], by rw [hU]; exact hPc, va_K.moved hW.alike hK, hDc.weaken (fun _ _ _ _ => trivial)⟩⟩ rfl rfl hl.1 rfl (lv_room (Nat.le_of_ble_eq_true rfl)) dX3_behindPart_34 ⟨Nat.le_of_ble_eq_true rfl, Nat.le_of_ble_eq_true rfl⟩) hS (fun q _ h => hFc q h) hFc (fun rr70 u t H69 locs ht hvm hw hB hz1 hk1 hS => ?_)
        obtain ⟨hP1, hK1, hD1⟩ := hB
        rw [ht] at hP1
        refine zTopi hw.symm ?_
        obtain ⟨hP, hD⟩ := va_join (wr := [(oX1 a1 h1 tv S1)]) (w1 := (cX3 a3 h3 a1 cv y s3_67)) hP hD [0, 1, 2, 3, 4] [5] rfl rfl (by decide) (by decide) hk1 hFc hP1 hD1
        have hP : va_P (dC, dI) vwCl ((cX3 a3 h3 a1 cv y s3_67) ++ (cX1 a1 h1 tv y S1)) H69 := hP.sub [1, 2, 3, 4, 5, 0] rfl
        have hD : va_D A ((cX3 a3 h3 a1 cv y s3_67) ++ (cX1 a1 h1 tv y S1)) := hD.sub [1, 2, 3, 4, 5, 0] (by decide) rfl
        obtain ⟨hz71, h⟩ := zG_spec h
        have ho0 : r66 = or_ := congrArg (fun z : Int32 × SS => z.1) (Option.some.inj h)
        have ho1 : s3_67 = o_3 := congrArg (fun z : Int32 × SS => z.2) (Option.some.inj h)
        exact W.zret (v := r66) hx hb hr (zb_nar hz71) (fun t ht hW => ⟨⟨r66, (), rfl, ho0, by rw [ht]; rw [← ho1]; exact hP, va_K.moved hW.alike hK, by rw [← ho1]; exact hD⟩, hS.F ht⟩) hS.2.2 dX3_behindPart_37

set_option maxHeartbeats 4000000 in
set_option maxRecDepth 100000 in
theorem m_X3_tell (l : Launch) (dC : Nat → ClassId) (dI : Nat → Nat → Nat) (y : Nat → ClassId) (a3 : Nat) (h3 : Nat → Nat) (S3 : SS) (a0 : Nat) (h0 : Nat → Nat) (S0 : SS) (lxa : Nat) (p1 : Int64) (p2 : Int32) (p3 : Int32) (sz : Nat) (or_ : Int32) (o_3 : SS) (o_0 : SS) (h : f_X3_tell S3 S0 p1 p2 p3 = some (or_, o_3, o_0)) : Met l yX3_tell wsX3_tell ({ frames := 1, cells := 0, slots := 0, locals := 24 }) (va_Pc [.ref a3, .long p1, .int p2, .int p3] (fun U => U.heap.size = sz ∧ va_P (dC, dI) vwCl ((cX3 a3 h3 lxa (.ref a0) y S3) ++ (cX0 a0 h0 y S0)) U.heap ∧ va_K (dC, dI) vwCl [(y 0, .int), (y 1, .long), (y 2, .byte), (y 3, .boolean)] U ∧ va_D (fun _ => True) ((cX3 a3 h3 lxa (.ref a0) y S3) ++ (cX0 a0 h0 y S0)))) (va_Qi (fun (r : Int32) (_ : Unit) => r = or_) (fun (_ : Unit) (t : State) => va_P (dC, dI) vwCl ((cX3 a3 h3 lxa (.ref a0) y o_3) ++ (cX0 a0 h0 y o_0)) t.heap ∧ va_K (dC, dI) vwCl [(y 0, .int), (y 1, .long), (y 2, .byte), (y 3, .boolean)] t ∧ va_D (va_A ((cX3 a3 h3 lxa (.ref a0) y S3) ++ (cX0 a0 h0 y S0)) sz) ((cX3 a3 h3 lxa (.ref a0) y o_3) ++ (cX0 a0 h0 y o_0))) (va_A ((cX3 a3 h3 lxa (.ref a0) y S3) ++ (cX0 a0 h0 y S0)) sz)) 0 0 (va_A ((cX3 a3 h3 lxa (.ref a0) y S3) ++ (cX0 a0 h0 y S0)) sz) := by
  refine Met.ofW (cc := cX3_tell) (maxL := 5) (ret := (some .boolean)) (by decide +kernel) rfl ?_
  intro p e s m args below meth c s₁ B hml hv
  obtain ⟨rfl, hsz, hP, hK, hD0⟩ := hv
  have hx := B.exec
  have hb := B.bytes
  have hr := B.returns
  have hts := atoms_spec (ws := wsX3_tell) B.pre
  have hown : s.vm.findClass RX3 = some m.cls := findClass_of_methodNamed B.named
  have hlocks := B.notSynchronized
  have inX0_ : ∀ w ∈ wsX00, w ∈ wsX3_tell := fun _ h => List.mem_cons_of_mem _ (List.mem_append_right _ h)
  have inX3_ : ∀ w ∈ wsX30, w ∈ wsX3_tell := fun _ h => List.mem_cons_of_mem _ (List.mem_append_left _ (List.mem_append_right _ h))
  subst hsz
  have hD := hD0.self (sz := s.heap.size)
  generalize hAe : va_A ((cX3 a3 h3 lxa (.ref a0) y S3) ++ (cX0 a0 h0 y S0)) s.heap.size = A at hD ⊢
  have hA : ∀ q : Nat, s.heap.size ≤ q → A q := fun q h => by rw [← hAe]; exact Or.inr h
  have hS : va_S A s.heap s.heap [] := va_S.rf
  have hP : va_P (dC, dI) vwCl ((cX3 a3 h3 lxa (.ref a0) y S3) ++ (cX0 a0 h0 y S0)) s.heap := hP
  have hl := lv_entry ([.ref a3, .long p1, .int p2, .int p3]) (n := 5) (Nat.le_of_ble_eq_true rfl)
  rw [lg_entry_eq]
  generalize (lg_sl ([.ref a3, .long p1, .int p2, .int p3]) ++ List.replicate (5 - (lg_sl ([.ref a3, .long p1, .int p2, .int p3])).length) Slot.unset).toArray = ls at hl ⊢
  have hl : lv_has ls 5 [(0, .ref a3), (1, .long p1), (3, .int p2), (4, .int p3)] := hl
  refine lv_aload_n hx hb dX3_tell_0 rfl (lv_at hl 0 rfl) ?_
  refine va_get (D := (dC, dI)) (ci := 2) (v := .ref a0) (C := RX3) (T := TX3) (N := 17) hx hb hts inX3_ hown hK hP 0 rfl rfl 3 (by decide) (hts (.fieldLink RX3 36 "GateWheel$Reader" "circuit" "LGateWheel$Circuit;") (List.mem_of_getElem? (i := 1) rfl)) (fun _ h9 => h9) rfl dX3_tell_1 ?_
  refine va_get (D := (dC, dI)) (ci := 0) (v := .int (gI S0 0)) (C := RX0) (T := TX0) (N := 13) hx hb hts inX0_ hown hK hP 5 rfl rfl 0 (by decide) (hts (.fieldLink RX3 154 "GateWheel$Circuit" "count" "I") (List.mem_of_getElem? (i := 2) rfl)) (fun _ h9 => h9) rfl dX3_tell_4 ?_
  refine lv_bipush (v := 60) hx hb dX3_tell_7 (by decide) ?_
  refine lv_icmp_lt (tgt := 19) hx hb dX3_tell_9 (by decide) (fun c1 => ?_) (fun c1 => ?_)
  · have h := zY c1 h
    refine lv_aload_n hx hb dX3_tell_19 rfl (lv_at hl 0 rfl) ?_
    refine va_get (D := (dC, dI)) (ci := 2) (v := .ref a0) (C := RX3) (T := TX3) (N := 17) hx hb hts inX3_ hown hK hP 0 rfl rfl 3 (by decide) (hts (.fieldLink RX3 36 "GateWheel$Reader" "circuit" "LGateWheel$Circuit;") (List.mem_of_getElem? (i := 1) rfl)) (fun _ h9 => h9) rfl dX3_tell_20 ?_
    refine lv_lload_n hx hb dX3_tell_23 rfl (lv_at hl 1 rfl) ?_
    obtain ⟨r2, hc3, h⟩ := zB_spec h
    have hPc := hP.sub (ws' := (cX0 a0 h0 y S0)) [5, 6, 7, 8, 9, 10, 11, 12, 13, 14, 15, 16] rfl
    have hDc := hD.sub (ws' := (cX0 a0 h0 y S0)) [5, 6, 7, 8, 9, 10, 11, 12, 13, 14, 15, 16] (by decide) rfl
    have hFc := va_free (wc := (cX0 a0 h0 y S0)) hD hS hA [5, 6, 7, 8, 9, 10, 11, 12, 13, 14, 15, 16] rfl
    refine va_calli (va_runV (As := [.long p1]) (rest := []) ⟨hx, hb, hml, hown, hts⟩ (m_X0_find l dC dI y a0 h0 S0 p1 s.heap.size r2 hc3) (cwV 1 hts gX3_tell_X0_find rfl rfl rfl (by decide +kernel) ⟨Nat.le_of_ble_eq_true rfl, Nat.le_of_ble_eq_true rfl⟩) ⟨fun a U g mk q => by obtain ⟨q0, q1, qP, qK, qD⟩ := q; exact ⟨q0, q1, qP, va_K.moved (u := U) (U := U.calling g mk a) (Vm.Alike.refl U.vm) qK, qD⟩, va_recv hK hPc (ci := 0) (q0 := 0) rfl rfl, fun U hU hW => ⟨rfl, by rw [hU], by rw [hU]; exact hPc, va_K.moved hW.alike hK, hDc.weaken (fun _ _ _ _ => trivial)⟩⟩ rfl rfl hl.1 rfl (lv_room (Nat.le_of_ble_eq_true rfl)) dX3_tell_24 ⟨Nat.le_of_ble_eq_true rfl, Nat.le_of_ble_eq_true rfl⟩) hS (fun q _ h => hFc q h) hFc (fun rr5 u t H4 locs ht hvm hw hB hz1 hk1 hS => ?_)
    obtain ⟨hP1, hK1, hD1⟩ := hB
    rw [ht] at hP1
    refine zTopi hw.symm ?_
    obtain ⟨hP, hD⟩ := va_join (wr := [(oX3 a3 h3 lxa (.ref a0) S3), (h3 12, .inl (y 1, 667, .inr (.inl (gB S3 12)))), (h3 13, .inl (y 0, 667, .inl (gA S3 13))), (h3 14, .inl (y 0, 667, .inl (gA S3 14))), (h3 16, .inl (y 1, 60, .inr (.inl (gB S3 16))))]) (w1 := (cX0 a0 h0 y S0)) hP hD [5, 6, 7, 8, 9, 10, 11, 12, 13, 14, 15, 16] [0, 1, 2, 3, 4] rfl rfl (by decide) (by decide) hk1 hFc hP1 hD1
    have hP : va_P (dC, dI) vwCl ((cX3 a3 h3 lxa (.ref a0) y S3) ++ (cX0 a0 h0 y S0)) H4 := hP.sub [0, 1, 2, 3, 4, 5, 6, 7, 8, 9, 10, 11, 12, 13, 14, 15, 16] rfl
    have hD : va_D A ((cX3 a3 h3 lxa (.ref a0) y S3) ++ (cX0 a0 h0 y S0)) := hD.sub [0, 1, 2, 3, 4, 5, 6, 7, 8, 9, 10, 11, 12, 13, 14, 15, 16] (by decide) rfl
    refine lv_iconst (v := (-1)) hx hb dX3_tell_27 (by decide) ?_
    refine lv_icmp_eq (tgt := 38) hx hb dX3_tell_28 (by decide) (fun c6 => ?_) (fun c6 => ?_)
    · have h := zY c6 h
      refine lv_aload_n hx hb dX3_tell_38 rfl (lv_at hl 0 rfl) ?_
      refine va_get (D := (dC, dI)) (ci := 2) (v := .ref a0) (C := RX3) (T := TX3) (N := 17) hx hb hts inX3_ hown hK hP 0 rfl rfl 3 (by decide) (hts (.fieldLink RX3 36 "GateWheel$Reader" "circuit" "LGateWheel$Circuit;") (List.mem_of_getElem? (i := 1) rfl)) (fun _ h9 => h9) rfl dX3_tell_39 ?_
      refine lv_lload_n hx hb dX3_tell_42 rfl (lv_at hl 1 rfl) ?_
      refine lv_iload_n hx hb dX3_tell_43 rfl (lv_at hl 2 rfl) ?_
      refine lv_iload hx hb dX3_tell_44 (lv_at hl 3 rfl) ?_
      obtain ⟨s0_7, hc8, h⟩ := zB_spec h
      have hPc := hP.sub (ws' := (cX0 a0 h0 y S0)) [5, 6, 7, 8, 9, 10, 11, 12, 13, 14, 15, 16] rfl
      have hDc := hD.sub (ws' := (cX0 a0 h0 y S0)) [5, 6, 7, 8, 9, 10, 11, 12, 13, 14, 15, 16] (by decide) rfl
      have hFc := va_free (wc := (cX0 a0 h0 y S0)) hD hS hA [5, 6, 7, 8, 9, 10, 11, 12, 13, 14, 15, 16] rfl
      refine va_callv (va_runV (As := [.long p1, .int p2, .int p3]) (rest := []) ⟨hx, hb, hml, hown, hts⟩ (m_X0_add l dC dI y a0 h0 S0 p1 p2 p3 H4.size s0_7 hc8) (cwV 3 hts gX3_tell_X0_add rfl rfl rfl (by decide +kernel) ⟨Nat.le_of_ble_eq_true rfl, Nat.le_of_ble_eq_true rfl⟩) ⟨fun a U g mk q => by obtain ⟨q0, q1, qP, qK, qD⟩ := q; exact ⟨q0, q1, qP, va_K.moved (u := U) (U := U.calling g mk a) (Vm.Alike.refl U.vm) qK, qD⟩, va_recv hK hPc (ci := 0) (q0 := 0) rfl rfl, fun U hU hW => ⟨rfl, by rw [hU], by rw [hU]; exact hPc, va_K.moved hW.alike hK, hDc.weaken (fun _ _ _ _ => trivial)⟩⟩ rfl rfl hl.1 rfl (lv_room (Nat.le_of_ble_eq_true rfl)) dX3_tell_46 ⟨Nat.le_of_ble_eq_true rfl, Nat.le_of_ble_eq_true rfl⟩) hS (fun q _ h => hFc q h) hFc (fun u t H9 locs ht hvm hw hB hz1 hk1 hS => ?_)
      obtain ⟨hP1, hK1, hD1⟩ := hB
      rw [ht] at hP1
      obtain ⟨hP, hD⟩ := va_join (wr := [(oX3 a3 h3 lxa (.ref a0) S3), (h3 12, .inl (y 1, 667, .inr (.inl (gB S3 12)))), (h3 13, .inl (y 0, 667, .inl (gA S3 13))), (h3 14, .inl (y 0, 667, .inl (gA S3 14))), (h3 16, .inl (y 1, 60, .inr (.inl (gB S3 16))))]) (w1 := (cX0 a0 h0 y s0_7)) hP hD [5, 6, 7, 8, 9, 10, 11, 12, 13, 14, 15, 16] [0, 1, 2, 3, 4] rfl rfl (by decide) (by decide) hk1 hFc hP1 hD1
      have hP : va_P (dC, dI) vwCl ((cX3 a3 h3 lxa (.ref a0) y S3) ++ (cX0 a0 h0 y s0_7)) H9 := hP.sub [0, 1, 2, 3, 4, 5, 6, 7, 8, 9, 10, 11, 12, 13, 14, 15, 16] rfl
      have hD : va_D A ((cX3 a3 h3 lxa (.ref a0) y S3) ++ (cX0 a0 h0 y s0_7)) := hD.sub [0, 1, 2, 3, 4, 5, 6, 7, 8, 9, 10, 11, 12, 13, 14, 15, 16] (by decide) rfl
      refine lv_iconst (v := 1) hx hb dX3_tell_49 (by decide) ?_
      have ho0 : (1 : Int32) = or_ := congrArg (fun z : Int32 × SS × SS => z.1) (Option.some.inj h)
      have ho1 : S3 = o_3 := congrArg (fun z : Int32 × SS × SS => z.2.1) (Option.some.inj h)
      have ho2 : s0_7 = o_0 := congrArg (fun z : Int32 × SS × SS => z.2.2) (Option.some.inj h)
      exact W.zret (v := 1) hx hb hr (by decide) (fun t ht hW => ⟨⟨1, (), rfl, ho0, by rw [ht]; rw [← ho1, ← ho2]; exact hP, va_K.moved hW.alike hK, by rw [← ho1, ← ho2]; exact hD⟩, hS.F ht⟩) hS.2.2 dX3_tell_50
    · have h := zN c6 h
      refine lv_aload_n hx hb dX3_tell_31 rfl (lv_at hl 0 rfl) ?_
      refine lv_iconst (v := 3) hx hb dX3_tell_32 (by decide) ?_
      refine lv_iload_n hx hb dX3_tell_33 rfl (lv_at hl 2 rfl) ?_
      obtain ⟨⟨r11, s3_12⟩, hc13, h⟩ := zB_spec h
      have hPc := hP.sub (ws' := (cX3 a3 h3 lxa (.ref a0) y S3)) [0, 1, 2, 3, 4] rfl
      have hDc := hD.sub (ws' := (cX3 a3 h3 lxa (.ref a0) y S3)) [0, 1, 2, 3, 4] (by decide) rfl
      have hFc := va_free (wc := (cX3 a3 h3 lxa (.ref a0) y S3)) hD hS hA [0, 1, 2, 3, 4] rfl
      refine va_calli (va_runV (As := [.int 3, .int p2]) (rest := []) ⟨hx, hb, hml, hown, hts⟩ (m_X3_failAt l dC dI y a3 h3 S3 lxa (.ref a0) (3 : Int32) p2 H4.size r11 s3_12 hc13) (cwV 2 hts gX3_tell_X3_failAt rfl rfl rfl (by decide +kernel) ⟨Nat.le_of_ble_eq_true rfl, Nat.le_of_ble_eq_true rfl⟩) ⟨fun a U g mk q => by obtain ⟨q0, q1, qP, qK, qD⟩ := q; exact ⟨q0, q1, qP, va_K.moved (u := U) (U := U.calling g mk a) (Vm.Alike.refl U.vm) qK, qD⟩, va_recv hK hPc (ci := 2) (q0 := 0) rfl rfl, fun U hU hW => ⟨rfl, by rw [hU], by rw [hU]; exact hPc, va_K.moved hW.alike hK, hDc.weaken (fun _ _ _ _ => trivial)⟩⟩ rfl rfl hl.1 rfl (lv_room (Nat.le_of_ble_eq_true rfl)) dX3_tell_34 ⟨Nat.le_of_ble_eq_true rfl, Nat.le_of_ble_eq_true rfl⟩) hS (fun q _ h => hFc q h) hFc (fun rr15 u t H14 locs ht hvm hw hB hz1 hk1 hS => ?_)
      obtain ⟨hP1, hK1, hD1⟩ := hB
      rw [ht] at hP1
      refine zTopi hw.symm ?_
      obtain ⟨hP, hD⟩ := va_join (wr := [(oX0 a0 h0 S0), (h0 2, .inl (y 1, 60, .inr (.inl (gB S0 2)))), (h0 3, .inl (y 0, 60, .inl (gA S0 3))), (h0 4, .inl (y 0, 60, .inl (gA S0 4))), (h0 5, .inl (y 0, 60, .inl (gA S0 5))), (h0 6, .inl (y 0, 60, .inl (gA S0 6))), (h0 7, .inl (y 0, 720, .inl (gA S0 7))), (h0 8, .inl (y 0, 60, .inl (gA S0 8))), (h0 9, .inl (y 0, 60, .inl (gA S0 9))), (h0 10, .inl (y 1, 60, .inr (.inl (gB S0 10)))), (h0 11, .inl (y 0, 60, .inl (gA S0 11))), (h0 12, .inl (y 0, 60, .inl (gA S0 12)))]) (w1 := (cX3 a3 h3 lxa (.ref a0) y s3_12)) hP hD [0, 1, 2, 3, 4] [5, 6, 7, 8, 9, 10, 11, 12, 13, 14, 15, 16] rfl rfl (by decide) (by decide) hk1 hFc hP1 hD1
      have hP : va_P (dC, dI) vwCl ((cX3 a3 h3 lxa (.ref a0) y s3_12) ++ (cX0 a0 h0 y S0)) H14 := hP.sub [12, 13, 14, 15, 16, 0, 1, 2, 3, 4, 5, 6, 7, 8, 9, 10, 11] rfl
      have hD : va_D A ((cX3 a3 h3 lxa (.ref a0) y s3_12) ++ (cX0 a0 h0 y S0)) := hD.sub [12, 13, 14, 15, 16, 0, 1, 2, 3, 4, 5, 6, 7, 8, 9, 10, 11] (by decide) rfl
      obtain ⟨hz16, h⟩ := zG_spec h
      have ho0 : r11 = or_ := congrArg (fun z : Int32 × SS × SS => z.1) (Option.some.inj h)
      have ho1 : s3_12 = o_3 := congrArg (fun z : Int32 × SS × SS => z.2.1) (Option.some.inj h)
      have ho2 : S0 = o_0 := congrArg (fun z : Int32 × SS × SS => z.2.2) (Option.some.inj h)
      exact W.zret (v := r11) hx hb hr (zb_nar hz16) (fun t ht hW => ⟨⟨r11, (), rfl, ho0, by rw [ht]; rw [← ho1, ← ho2]; exact hP, va_K.moved hW.alike hK, by rw [← ho1, ← ho2]; exact hD⟩, hS.F ht⟩) hS.2.2 dX3_tell_37
  · have h := zN c1 h
    refine lv_aload_n hx hb dX3_tell_12 rfl (lv_at hl 0 rfl) ?_
    refine lv_iconst (v := 2) hx hb dX3_tell_13 (by decide) ?_
    refine lv_iload_n hx hb dX3_tell_14 rfl (lv_at hl 2 rfl) ?_
    obtain ⟨⟨r17, s3_18⟩, hc19, h⟩ := zB_spec h
    have hPc := hP.sub (ws' := (cX3 a3 h3 lxa (.ref a0) y S3)) [0, 1, 2, 3, 4] rfl
    have hDc := hD.sub (ws' := (cX3 a3 h3 lxa (.ref a0) y S3)) [0, 1, 2, 3, 4] (by decide) rfl
    have hFc := va_free (wc := (cX3 a3 h3 lxa (.ref a0) y S3)) hD hS hA [0, 1, 2, 3, 4] rfl
    refine va_calli (va_runV (As := [.int 2, .int p2]) (rest := []) ⟨hx, hb, hml, hown, hts⟩ (m_X3_failAt l dC dI y a3 h3 S3 lxa (.ref a0) (2 : Int32) p2 s.heap.size r17 s3_18 hc19) (cwV 2 hts gX3_tell_X3_failAt rfl rfl rfl (by decide +kernel) ⟨Nat.le_of_ble_eq_true rfl, Nat.le_of_ble_eq_true rfl⟩) ⟨fun a U g mk q => by obtain ⟨q0, q1, qP, qK, qD⟩ := q; exact ⟨q0, q1, qP, va_K.moved (u := U) (U := U.calling g mk a) (Vm.Alike.refl U.vm) qK, qD⟩, va_recv hK hPc (ci := 2) (q0 := 0) rfl rfl, fun U hU hW => ⟨rfl, by rw [hU], by rw [hU]; exact hPc, va_K.moved hW.alike hK, hDc.weaken (fun _ _ _ _ => trivial)⟩⟩ rfl rfl hl.1 rfl (lv_room (Nat.le_of_ble_eq_true rfl)) dX3_tell_15 ⟨Nat.le_of_ble_eq_true rfl, Nat.le_of_ble_eq_true rfl⟩) hS (fun q _ h => hFc q h) hFc (fun rr21 u t H20 locs ht hvm hw hB hz1 hk1 hS => ?_)
    obtain ⟨hP1, hK1, hD1⟩ := hB
    rw [ht] at hP1
    refine zTopi hw.symm ?_
    obtain ⟨hP, hD⟩ := va_join (wr := [(oX0 a0 h0 S0), (h0 2, .inl (y 1, 60, .inr (.inl (gB S0 2)))), (h0 3, .inl (y 0, 60, .inl (gA S0 3))), (h0 4, .inl (y 0, 60, .inl (gA S0 4))), (h0 5, .inl (y 0, 60, .inl (gA S0 5))), (h0 6, .inl (y 0, 60, .inl (gA S0 6))), (h0 7, .inl (y 0, 720, .inl (gA S0 7))), (h0 8, .inl (y 0, 60, .inl (gA S0 8))), (h0 9, .inl (y 0, 60, .inl (gA S0 9))), (h0 10, .inl (y 1, 60, .inr (.inl (gB S0 10)))), (h0 11, .inl (y 0, 60, .inl (gA S0 11))), (h0 12, .inl (y 0, 60, .inl (gA S0 12)))]) (w1 := (cX3 a3 h3 lxa (.ref a0) y s3_18)) hP hD [0, 1, 2, 3, 4] [5, 6, 7, 8, 9, 10, 11, 12, 13, 14, 15, 16] rfl rfl (by decide) (by decide) hk1 hFc hP1 hD1
    have hP : va_P (dC, dI) vwCl ((cX3 a3 h3 lxa (.ref a0) y s3_18) ++ (cX0 a0 h0 y S0)) H20 := hP.sub [12, 13, 14, 15, 16, 0, 1, 2, 3, 4, 5, 6, 7, 8, 9, 10, 11] rfl
    have hD : va_D A ((cX3 a3 h3 lxa (.ref a0) y s3_18) ++ (cX0 a0 h0 y S0)) := hD.sub [12, 13, 14, 15, 16, 0, 1, 2, 3, 4, 5, 6, 7, 8, 9, 10, 11] (by decide) rfl
    obtain ⟨hz22, h⟩ := zG_spec h
    have ho0 : r17 = or_ := congrArg (fun z : Int32 × SS × SS => z.1) (Option.some.inj h)
    have ho1 : s3_18 = o_3 := congrArg (fun z : Int32 × SS × SS => z.2.1) (Option.some.inj h)
    have ho2 : S0 = o_0 := congrArg (fun z : Int32 × SS × SS => z.2.2) (Option.some.inj h)
    exact W.zret (v := r17) hx hb hr (zb_nar hz22) (fun t ht hW => ⟨⟨r17, (), rfl, ho0, by rw [ht]; rw [← ho1, ← ho2]; exact hP, va_K.moved hW.alike hK, by rw [← ho1, ← ho2]; exact hD⟩, hS.F ht⟩) hS.2.2 dX3_tell_18

set_option maxHeartbeats 4000000 in
set_option maxRecDepth 100000 in
theorem m_X3_checkDrivers (l : Launch) (dC : Nat → ClassId) (dI : Nat → Nat → Nat) (y : Nat → ClassId) (a3 : Nat) (h3 : Nat → Nat) (S3 : SS) (lxa : Nat) (cv : Value) (sz : Nat) (or_ : Int32) (o_3 : SS) (h : f_X3_checkDrivers S3 = some (or_, o_3)) : Met l yX3_checkDrivers wsX3_checkDrivers ({ frames := 1, cells := 0, slots := 0, locals := 22 }) (va_Pc [.ref a3] (fun U => U.heap.size = sz ∧ va_P (dC, dI) vwCl (cX3 a3 h3 lxa cv y S3) U.heap ∧ va_K (dC, dI) vwCl [(y 0, .int), (y 1, .long), (y 2, .byte), (y 3, .boolean)] U ∧ va_D (fun _ => True) (cX3 a3 h3 lxa cv y S3))) (va_Qi (fun (r : Int32) (_ : Unit) => r = or_) (fun (_ : Unit) (t : State) => va_P (dC, dI) vwCl (cX3 a3 h3 lxa cv y o_3) t.heap ∧ va_K (dC, dI) vwCl [(y 0, .int), (y 1, .long), (y 2, .byte), (y 3, .boolean)] t ∧ va_D (va_A (cX3 a3 h3 lxa cv y S3) sz) (cX3 a3 h3 lxa cv y o_3)) (va_A (cX3 a3 h3 lxa cv y S3) sz)) 0 0 (va_A (cX3 a3 h3 lxa cv y S3) sz) := by
  refine Met.ofW (cc := cX3_checkDrivers) (maxL := 3) (ret := (some .boolean)) (by decide +kernel) rfl ?_
  intro p e s m args below meth c s₁ B hml hv
  obtain ⟨rfl, hsz, hP, hK, hD0⟩ := hv
  have hx := B.exec
  have hb := B.bytes
  have hr := B.returns
  have hts := atoms_spec (ws := wsX3_checkDrivers) B.pre
  have hown : s.vm.findClass RX3 = some m.cls := findClass_of_methodNamed B.named
  have hlocks := B.notSynchronized
  have inX3_ : ∀ w ∈ wsX30, w ∈ wsX3_checkDrivers := fun _ h => List.mem_cons_of_mem _ (List.mem_append_right _ h)
  subst hsz
  have hD := hD0.self (sz := s.heap.size)
  generalize hAe : va_A (cX3 a3 h3 lxa cv y S3) s.heap.size = A at hD ⊢
  have hA : ∀ q : Nat, s.heap.size ≤ q → A q := fun q h => by rw [← hAe]; exact Or.inr h
  have hS : va_S A s.heap s.heap [] := va_S.rf
  have hP : va_P (dC, dI) vwCl (cX3 a3 h3 lxa cv y S3) s.heap := hP
  have hl := lv_entry ([.ref a3]) (n := 3) (Nat.le_of_ble_eq_true rfl)
  rw [lg_entry_eq]
  generalize (lg_sl ([.ref a3]) ++ List.replicate (3 - (lg_sl ([.ref a3])).length) Slot.unset).toArray = ls at hl ⊢
  have hl : lv_has ls 3 [(0, .ref a3)] := hl
  refine lv_iconst (v := 0) hx hb dX3_checkDrivers_0 (by decide) ?_
  refine lv_istore_n (lv' := [(1, .int 0), (0, .ref a3)]) hx hb dX3_checkDrivers_1 rfl hl (by decide) rfl (fun ls hl => ?_)
  refine lv_iconst (v := 0) hx hb dX3_checkDrivers_2 (by decide) ?_
  refine lv_istore_n (lv' := [(2, .int 0), (1, .int 0), (0, .ref a3)]) hx hb dX3_checkDrivers_3 rfl hl (by decide) rfl (fun ls hl => ?_)
  refine W_abs (fun GW1 eG2 => ?_)
  obtain ⟨ov5, hi6, h⟩ := zB_spec h
  have je3 : ∀ (v10 : Int32) (HGW1e : Heap) (locs : List Loc) (ls : Array Slot), v10 = ov5 → va_P (dC, dI) vwCl (cX3 a3 h3 lxa cv y S3) HGW1e → va_D A (cX3 a3 h3 lxa cv y S3) → va_S A s.heap HGW1e locs → lv_has ls 3 [(0, .ref a3), (1, .int v10)] → GW1 HGW1e locs 0 0 (F0 m 47 ls []) := by
    intro v10 HGW1e locs ls hv hP hD hS hl
    subst hv
    refine (eG2 _ _ _ _ _).mpr ?_
    refine lv_iload_n hx hb dX3_checkDrivers_47 rfl (lv_at hl 1 rfl) ?_
    refine lv_bipush (v := 6) hx hb dX3_checkDrivers_48 (by decide) ?_
    refine lv_icmp_lt (tgt := 65) hx hb dX3_checkDrivers_50 (by decide) (fun c11 => ?_) (fun c11 => ?_)
    · have h := zY c11 h
      refine lv_iconst (v := 1) hx hb dX3_checkDrivers_65 (by decide) ?_
      refine lv_goto (tgt := 70) hx hb dX3_checkDrivers_66 (by decide) ?_
      have ho0 : (1 : Int32) = or_ := congrArg (fun z : Int32 × SS => z.1) (Option.some.inj h)
      have ho1 : S3 = o_3 := congrArg (fun z : Int32 × SS => z.2) (Option.some.inj h)
      exact W.zret (v := 1) hx hb hr (by decide) (fun t ht hW => ⟨⟨1, (), rfl, ho0, by rw [ht]; rw [← ho1]; exact hP, va_K.moved hW.alike hK, by rw [← ho1]; exact hD⟩, hS.F ht⟩) hS.2.2 dX3_checkDrivers_70
    · have h := zN c11 h
      refine lv_aload_n hx hb dX3_checkDrivers_53 rfl (lv_at hl 0 rfl) ?_
      refine lv_iconst (v := 2) hx hb dX3_checkDrivers_54 (by decide) ?_
      refine lv_aload_n hx hb dX3_checkDrivers_55 rfl (lv_at hl 0 rfl) ?_
      refine va_get (D := (dC, dI)) (ci := 2) (v := .int (gI S3 7)) (C := RX3) (T := TX3) (N := 17) hx hb hts inX3_ hown hK hP 0 rfl rfl 7 (by decide) (hts (.fieldLink RX3 144 "GateWheel$Reader" "linePlace" "I") (List.mem_of_getElem? (i := 5) rfl)) (fun _ h9 => h9) rfl dX3_checkDrivers_56 ?_
      obtain ⟨⟨r12, s3_13⟩, hc14, h⟩ := zB_spec h
      have hFc := zFree hD hS hA
      refine va_calli (va_runV (As := [.int 2, .int (gI S3 7)]) (rest := []) ⟨hx, hb, hml, hown, hts⟩ (m_X3_failAt l dC dI y a3 h3 S3 lxa cv (2 : Int32) (gI S3 7) HGW1e.size r12 s3_13 hc14) (cwV 2 hts gX3_checkDrivers_X3_failAt rfl rfl rfl (by decide +kernel) ⟨Nat.le_of_ble_eq_true rfl, Nat.le_of_ble_eq_true rfl⟩) ⟨fun a U g mk q => by obtain ⟨q0, q1, qP, qK, qD⟩ := q; exact ⟨q0, q1, qP, va_K.moved (u := U) (U := U.calling g mk a) (Vm.Alike.refl U.vm) qK, qD⟩, va_recv hK hP (ci := 2) (q0 := 0) rfl rfl, fun U hU hW => ⟨rfl, by rw [hU], by rw [hU]; exact hP, va_K.moved hW.alike hK, hD.weaken (fun _ _ _ _ => trivial)⟩⟩ rfl rfl hl.1 rfl (lv_room (Nat.le_of_ble_eq_true rfl)) dX3_checkDrivers_59 ⟨Nat.le_of_ble_eq_true rfl, Nat.le_of_ble_eq_true rfl⟩) hS (fun q _ h => hFc q h) hFc (fun rr16 u t H15 locs ht hvm hw hB hz1 hk1 hS => ?_)
      obtain ⟨hP1, hK1, hD1⟩ := hB
      rw [ht] at hP1
      refine zTopi hw.symm ?_
      have hP := hP1
      have hD := hD1.weaken (fun _ q _ h => hFc q.1 h)
      have hP : va_P (dC, dI) vwCl (cX3 a3 h3 lxa cv y s3_13) H15 := hP
      have hD : va_D A (cX3 a3 h3 lxa cv y s3_13) := hD
      refine lv_if_eq (tgt := 69) hx hb dX3_checkDrivers_62 (by decide) (fun c17 => ?_) (fun c17 => ?_)
      · have h := zY c17 h
        refine lv_iconst (v := 0) hx hb dX3_checkDrivers_69 (by decide) ?_
        have ho0 : (0 : Int32) = or_ := congrArg (fun z : Int32 × SS => z.1) (Option.some.inj h)
        have ho1 : s3_13 = o_3 := congrArg (fun z : Int32 × SS => z.2) (Option.some.inj h)
        exact W.zret (v := 0) hx hb hr (by decide) (fun t ht hW => ⟨⟨0, (), rfl, ho0, by rw [ht]; rw [← ho1]; exact hP, va_K.moved hW.alike hK, by rw [← ho1]; exact hD⟩, hS.F ht⟩) hS.2.2 dX3_checkDrivers_70
      · have h := zN c17 h
        refine lv_iconst (v := 1) hx hb dX3_checkDrivers_65 (by decide) ?_
        refine lv_goto (tgt := 70) hx hb dX3_checkDrivers_66 (by decide) ?_
        have ho0 : (1 : Int32) = or_ := congrArg (fun z : Int32 × SS => z.1) (Option.some.inj h)
        have ho1 : s3_13 = o_3 := congrArg (fun z : Int32 × SS => z.2) (Option.some.inj h)
        exact W.zret (v := 1) hx hb hr (by decide) (fun t ht hW => ⟨⟨1, (), rfl, ho0, by rw [ht]; rw [← ho1]; exact hP, va_K.moved hW.alike hK, by rw [← ho1]; exact hD⟩, hS.F ht⟩) hS.2.2 dX3_checkDrivers_70
  have lp4 : ∀ (n : Nat) (v18 : Int32) (v19 : Int32) (HGW1 : Heap) (locs : List Loc) (ls : Array Slot), zI (b_X3_checkDrivers_4 S3) n (v18, v19) = some ov5 → va_P (dC, dI) vwCl (cX3 a3 h3 lxa cv y S3) HGW1 → va_D A (cX3 a3 h3 lxa cv y S3) → va_S A s.heap HGW1 locs → lv_has ls 3 [(0, .ref a3), (1, .int v18), (2, .int v19)] → GW1 HGW1 locs 0 0 (F0 m 4 ls []) := by
    intro n
    induction n with
    | zero =>
      intro v18 v19 HGW1 locs ls hi6 hP hD hS hl
      exact (zI_0 hi6).elim
    | succ n ihlp4 =>
      intro v18 v19 HGW1 locs ls hi6 hP hD hS hl
      refine (eG2 _ _ _ _ _).mpr ?_
      obtain ⟨xx9, h, hx8⟩ := zI_spec hi6
      refine lv_iload_n hx hb dX3_checkDrivers_4 rfl (lv_at hl 2 rfl) ?_
      refine lv_aload_n hx hb dX3_checkDrivers_5 rfl (lv_at hl 0 rfl) ?_
      refine va_get (D := (dC, dI)) (ci := 2) (v := .int (gI S3 15)) (C := RX3) (T := TX3) (N := 17) hx hb hts inX3_ hown hK hP 0 rfl rfl 15 (by decide) (hts (.fieldLink RX3 48 "GateWheel$Reader" "uses" "I") (List.mem_of_getElem? (i := 1) rfl)) (fun _ h9 => h9) rfl dX3_checkDrivers_6 ?_
      refine lv_icmp_ge (tgt := 47) hx hb dX3_checkDrivers_9 (by decide) (fun c20 => ?_) (fun c20 => ?_)
      · have h := zY c20 h
        exact (eG2 _ _ _ _ _).mp (je3 v18 _ _ _ (zI_r h hx8) hP hD hS (lv_sub hl [0, 1] rfl))
      · have h := zN c20 h
        refine lv_aload_n hx hb dX3_checkDrivers_12 rfl (lv_at hl 0 rfl) ?_
        refine va_get (D := (dC, dI)) (ci := 2) (v := .ref (h3 14)) (C := RX3) (T := TX3) (N := 17) hx hb hts inX3_ hown hK hP 0 rfl rfl 14 (by decide) (hts (.fieldLink RX3 30 "GateWheel$Reader" "useRoles" "[I") (List.mem_of_getElem? (i := 2) rfl)) (fun _ h9 => h9) rfl dX3_checkDrivers_13 ?_
        refine lv_iload_n hx hb dX3_checkDrivers_16 rfl (lv_at hl 2 rfl) ?_
        obtain ⟨hi21, h⟩ := zG_spec h
        refine va_iald hx hb hK hP 3 0 rfl rfl hi21 dX3_checkDrivers_17 ?_
        obtain ⟨r22, hc23, h⟩ := zB_spec h
        have hPc := hP.sub (ws' := []) [] rfl
        have hDc := hD.sub (ws' := []) [] (by decide) rfl
        have hFc := va_free (wc := []) hD hS hA [] rfl
        refine va_calli (va_runS (As := [.int (gA S3 14 v19.toNatClampNeg)]) (rest := []) ⟨hx, hb, hml, hown, hts⟩ (m_X3_isHead l dC dI y (gA S3 14 v19.toNatClampNeg) HGW1.size r22 hc23) (va_cwS 1 hts gX3_checkDrivers_X3_isHead rfl rfl rfl (by decide +kernel) ⟨Nat.le_of_ble_eq_true rfl, Nat.le_of_ble_eq_true rfl⟩) ⟨fun a U g mk q => by obtain ⟨q0, q1, qP, qK, qD⟩ := q; exact ⟨q0, q1, qP, va_K.moved (u := U) (U := U.calling g mk a) (Vm.Alike.refl U.vm) qK, qD⟩, fun U hU hW => ⟨rfl, by rw [hU], by rw [hU]; exact hPc, va_K.moved hW.alike hK, hDc.weaken (fun _ _ _ _ => trivial)⟩⟩ rfl rfl hl.1 rfl (lv_room (Nat.le_of_ble_eq_true rfl)) dX3_checkDrivers_18 ⟨Nat.le_of_ble_eq_true rfl, Nat.le_of_ble_eq_true rfl⟩) hS (fun q _ h => hFc q h) hFc (fun rr25 u t H24 locs ht hvm hw hB hz1 hk1 hS => ?_)
        obtain ⟨hP1, hK1, hD1⟩ := hB
        rw [ht] at hP1
        refine zTopi hw.symm ?_
        obtain ⟨hP, hD⟩ := va_join (wr := [(oX3 a3 h3 lxa cv S3), (h3 12, .inl (y 1, 667, .inr (.inl (gB S3 12)))), (h3 13, .inl (y 0, 667, .inl (gA S3 13))), (h3 14, .inl (y 0, 667, .inl (gA S3 14))), (h3 16, .inl (y 1, 60, .inr (.inl (gB S3 16))))]) (w1 := []) hP hD [] [0, 1, 2, 3, 4] rfl rfl (by decide) (by decide) hk1 hFc hP1 hD1
        have hP : va_P (dC, dI) vwCl (cX3 a3 h3 lxa cv y S3) H24 := hP.sub [0, 1, 2, 3, 4] rfl
        have hD : va_D A (cX3 a3 h3 lxa cv y S3) := hD.sub [0, 1, 2, 3, 4] (by decide) rfl
        refine lv_if_eq (tgt := 41) hx hb dX3_checkDrivers_21 (by decide) (fun c26 => ?_) (fun c26 => ?_)
        · have h := zY c26 h
          obtain ⟨v27, ev27, h⟩ := zL_spec h
          refine lv_iinc (v := v27) (lv' := [(2, .int v27), (0, .ref a3), (1, .int v18)]) hx hb dX3_checkDrivers_41 hl (k := 2) rfl (by rw [ev27]; rfl) (by decide) rfl (fun ls hl => ?_)
          refine lv_goto (tgt := 4) hx hb dX3_checkDrivers_44 (by decide) ?_
          have h := zI_l h hx8
          exact (eG2 _ _ _ _ _).mp (ihlp4 v18 v27 _ _ _ h hP hD hS (lv_sub hl [1, 2, 0] rfl))
        · have h := zN c26 h
          refine lv_aload_n hx hb dX3_checkDrivers_24 rfl (lv_at hl 0 rfl) ?_
          refine va_get (D := (dC, dI)) (ci := 2) (v := .ref (h3 12)) (C := RX3) (T := TX3) (N := 17) hx hb hts inX3_ hown hK hP 0 rfl rfl 12 (by decide) (hts (.fieldLink RX3 22 "GateWheel$Reader" "useNames" "[J") (List.mem_of_getElem? (i := 3) rfl)) (fun _ h9 => h9) rfl dX3_checkDrivers_25 ?_
          refine lv_iload_n hx hb dX3_checkDrivers_28 rfl (lv_at hl 2 rfl) ?_
          refine va_lald hx hb hK hP 1 1 rfl rfl hi21 dX3_checkDrivers_29 ?_
          refine lv_aload_n hx hb dX3_checkDrivers_30 rfl (lv_at hl 0 rfl) ?_
          refine va_get (D := (dC, dI)) (ci := 2) (v := .long (gL S3 6)) (C := RX3) (T := TX3) (N := 17) hx hb hts inX3_ hown hK hP 0 rfl rfl 6 (by decide) (hts (.fieldLink RX3 141 "GateWheel$Reader" "lineName" "J") (List.mem_of_getElem? (i := 4) rfl)) (fun _ h9 => h9) rfl dX3_checkDrivers_31 ?_
          refine W.lcmp hx hb dX3_checkDrivers_34 ?_
          refine lv_if_ne (tgt := 41) hx hb dX3_checkDrivers_35 (by decide) (fun c28 => ?_) (fun c28 => ?_)
          · have h := zN c28 h
            obtain ⟨v29, ev29, h⟩ := zL_spec h
            refine lv_iinc (v := v29) (lv' := [(2, .int v29), (0, .ref a3), (1, .int v18)]) hx hb dX3_checkDrivers_41 hl (k := 2) rfl (by rw [ev29]; rfl) (by decide) rfl (fun ls hl => ?_)
            refine lv_goto (tgt := 4) hx hb dX3_checkDrivers_44 (by decide) ?_
            have h := zI_l h hx8
            exact (eG2 _ _ _ _ _).mp (ihlp4 v18 v29 _ _ _ h hP hD hS (lv_sub hl [1, 2, 0] rfl))
          · have h := zY c28 h
            obtain ⟨v30, ev30, h⟩ := zL_spec h
            refine lv_iinc (v := v30) (lv' := [(1, .int v30), (0, .ref a3), (2, .int v19)]) hx hb dX3_checkDrivers_38 hl (k := 1) rfl (by rw [ev30]; rfl) (by decide) rfl (fun ls hl => ?_)
            obtain ⟨v31, ev31, h⟩ := zL_spec h
            refine lv_iinc (v := v31) (lv' := [(2, .int v31), (1, .int v30), (0, .ref a3)]) hx hb dX3_checkDrivers_41 hl (k := 2) rfl (by rw [ev31]; rfl) (by decide) rfl (fun ls hl => ?_)
            refine lv_goto (tgt := 4) hx hb dX3_checkDrivers_44 (by decide) ?_
            have h := zI_l h hx8
            exact (eG2 _ _ _ _ _).mp (ihlp4 v30 v31 _ _ _ h hP hD hS (lv_sub hl [2, 1, 0] rfl))
  exact lp4 zF (0 : Int32) (0 : Int32) _ _ _ hi6 hP hD hS (lv_sub hl [2, 1, 0] rfl)

set_option maxHeartbeats 4000000 in
set_option maxRecDepth 100000 in
theorem m_X3_tellHere (l : Launch) (dC : Nat → ClassId) (dI : Nat → Nat → Nat) (y : Nat → ClassId) (a3 : Nat) (h3 : Nat → Nat) (S3 : SS) (a1 : Nat) (h1 : Nat → Nat) (S1 : SS) (a0 : Nat) (h0 : Nat → Nat) (S0 : SS) (tv : Value) (tg : Nat × Nat × Nat × Nat) (sz : Nat) (or_ : Int32) (o_3 : SS) (o_0 : SS) (h : f_X3_tellHere S3 S1 S0 = some (or_, o_3, o_0)) : Met l yX3_tellHere wsX3_tellHere ({ frames := 2, cells := 0, slots := 0, locals := 48 }) (va_Pc [.ref a3] (fun U => U.heap.size = sz ∧ va_P (dC, dI) vwCl ((cX3 a3 h3 a1 (.ref a0) y S3) ++ ((cX1 a1 h1 tv y S1) ++ (cX0 a0 h0 y S0))) U.heap ∧ va_K (dC, dI) vwCl [(y 0, .int), (y 1, .long), (y 2, .byte), (y 3, .boolean)] U ∧ va_D (fun _ => True) ((cX3 a3 h3 a1 (.ref a0) y S3) ++ ((cX1 a1 h1 tv y S1) ++ (cX0 a0 h0 y S0))) ∧ STG tg (va_A ((cX3 a3 h3 a1 (.ref a0) y S3) ++ ((cX1 a1 h1 tv y S1) ++ (cX0 a0 h0 y S0))) sz) U U.heap)) (va_Qi (fun (r : Int32) (_ : Unit) => r = or_) (fun (_ : Unit) (t : State) => va_P (dC, dI) vwCl ((cX3 a3 h3 a1 (.ref a0) y o_3) ++ ((cX1 a1 h1 tv y S1) ++ (cX0 a0 h0 y o_0))) t.heap ∧ va_K (dC, dI) vwCl [(y 0, .int), (y 1, .long), (y 2, .byte), (y 3, .boolean)] t ∧ va_D (va_A ((cX3 a3 h3 a1 (.ref a0) y S3) ++ ((cX1 a1 h1 tv y S1) ++ (cX0 a0 h0 y S0))) sz) ((cX3 a3 h3 a1 (.ref a0) y o_3) ++ ((cX1 a1 h1 tv y S1) ++ (cX0 a0 h0 y o_0)))) (va_A ((cX3 a3 h3 a1 (.ref a0) y S3) ++ ((cX1 a1 h1 tv y S1) ++ (cX0 a0 h0 y S0))) sz)) 0 0 (va_A ((cX3 a3 h3 a1 (.ref a0) y S3) ++ ((cX1 a1 h1 tv y S1) ++ (cX0 a0 h0 y S0))) sz) := by
  refine Met.ofW (cc := cX3_tellHere) (maxL := 1) (ret := (some .boolean)) (by decide +kernel) rfl ?_
  intro p e s m args below meth c s₁ B hml hv
  obtain ⟨rfl, hsz, hP, hK, hD0, hST⟩ := hv
  have hx := B.exec
  have hb := B.bytes
  have hr := B.returns
  have hts := atoms_spec (ws := wsX3_tellHere) B.pre
  have hown : s.vm.findClass RX3 = some m.cls := findClass_of_methodNamed B.named
  have hlocks := B.notSynchronized
  have inX0_ : ∀ w ∈ wsX00, w ∈ wsX3_tellHere := fun _ h => List.mem_cons_of_mem _ (List.mem_append_right _ h)
  have inX1_ : ∀ w ∈ wsX10, w ∈ wsX3_tellHere := fun _ h => List.mem_cons_of_mem _ (List.mem_append_left _ (List.mem_append_right _ h))
  have inX3_ : ∀ w ∈ wsX30, w ∈ wsX3_tellHere := fun _ h => List.mem_cons_of_mem _ (List.mem_append_left _ (List.mem_append_left _ (List.mem_append_right _ h)))
  subst hsz
  have hD := hD0.self (sz := s.heap.size)
  generalize hAe : va_A ((cX3 a3 h3 a1 (.ref a0) y S3) ++ ((cX1 a1 h1 tv y S1) ++ (cX0 a0 h0 y S0))) s.heap.size = A at hD hST ⊢
  have hA : ∀ q : Nat, s.heap.size ≤ q → A q := fun q h => by rw [← hAe]; exact Or.inr h
  have hS : va_S A s.heap s.heap [] := va_S.rf
  have hP : va_P (dC, dI) vwCl ((cX3 a3 h3 a1 (.ref a0) y S3) ++ ((cX1 a1 h1 tv y S1) ++ (cX0 a0 h0 y S0))) s.heap := hP
  have hl := lv_entry ([.ref a3]) (n := 1) (Nat.le_of_ble_eq_true rfl)
  rw [lg_entry_eq]
  generalize (lg_sl ([.ref a3]) ++ List.replicate (1 - (lg_sl ([.ref a3])).length) Slot.unset).toArray = ls at hl ⊢
  have hl : lv_has ls 1 [(0, .ref a3)] := hl
  refine lv_aload_n hx hb dX3_tellHere_0 rfl (lv_at hl 0 rfl) ?_
  obtain ⟨r1, hc2, h⟩ := zB_spec h
  have hPc := hP.sub (ws' := ((cX3 a3 h3 a1 (.ref a0) y S3) ++ (cX1 a1 h1 tv y S1))) [0, 1, 2, 3, 4, 5] rfl
  have hDc := hD.sub (ws' := ((cX3 a3 h3 a1 (.ref a0) y S3) ++ (cX1 a1 h1 tv y S1))) [0, 1, 2, 3, 4, 5] (by decide) rfl
  have hFc := va_free (wc := ((cX3 a3 h3 a1 (.ref a0) y S3) ++ (cX1 a1 h1 tv y S1))) hD hS hA [0, 1, 2, 3, 4, 5] rfl
  refine va_calli (va_runV (As := []) (rest := []) ⟨hx, hb, hml, hown, hts⟩ (m_X3_isName l dC dI y a3 h3 S3 a1 h1 S1 (.ref a0) tv tg s.heap.size r1 hc2) (cwV 0 hts gX3_tellHere_X3_isName rfl rfl rfl (by decide +kernel) ⟨Nat.le_of_ble_eq_true rfl, Nat.le_of_ble_eq_true rfl⟩) ⟨fun a U g mk q => by obtain ⟨q0, q1, qP, qK, qD, qT⟩ := q; exact ⟨q0, q1, qP, va_K.moved (u := U) (U := U.calling g mk a) (Vm.Alike.refl U.vm) qK, qD, STG_moved (u := U) (U := U.calling g mk a) (Vm.Alike.refl U.vm) qT⟩, va_recv hK hPc (ci := 2) (q0 := 0) rfl rfl, fun U hU hW => ⟨rfl, by rw [hU], by rw [hU]; exact hPc, va_K.moved hW.alike hK, hDc.weaken (fun _ _ _ _ => trivial), by rw [hU]; exact STG_moved hW.alike (STG_narrow (STG_kept hST hS.2.1) hFc)⟩⟩ rfl rfl hl.1 rfl (lv_room (Nat.le_of_ble_eq_true rfl)) dX3_tellHere_1 ⟨Nat.le_of_ble_eq_true rfl, Nat.le_of_ble_eq_true rfl⟩) hS (fun q _ h => hFc q h) hFc (fun rr4 u t H3 locs ht hvm hw hB hz1 hk1 hS => ?_)
  obtain ⟨hP1, hK1, hD1⟩ := hB
  rw [ht] at hP1
  refine zTopi hw.symm ?_
  obtain ⟨hP, hD⟩ := va_join (wr := [(oX0 a0 h0 S0), (h0 2, .inl (y 1, 60, .inr (.inl (gB S0 2)))), (h0 3, .inl (y 0, 60, .inl (gA S0 3))), (h0 4, .inl (y 0, 60, .inl (gA S0 4))), (h0 5, .inl (y 0, 60, .inl (gA S0 5))), (h0 6, .inl (y 0, 60, .inl (gA S0 6))), (h0 7, .inl (y 0, 720, .inl (gA S0 7))), (h0 8, .inl (y 0, 60, .inl (gA S0 8))), (h0 9, .inl (y 0, 60, .inl (gA S0 9))), (h0 10, .inl (y 1, 60, .inr (.inl (gB S0 10)))), (h0 11, .inl (y 0, 60, .inl (gA S0 11))), (h0 12, .inl (y 0, 60, .inl (gA S0 12)))]) (w1 := ((cX3 a3 h3 a1 (.ref a0) y S3) ++ (cX1 a1 h1 tv y S1))) hP hD [0, 1, 2, 3, 4, 5] [6, 7, 8, 9, 10, 11, 12, 13, 14, 15, 16, 17] rfl rfl (by decide) (by decide) hk1 hFc hP1 hD1
  have hP : va_P (dC, dI) vwCl ((cX3 a3 h3 a1 (.ref a0) y S3) ++ ((cX1 a1 h1 tv y S1) ++ (cX0 a0 h0 y S0))) H3 := hP.sub [12, 13, 14, 15, 16, 17, 0, 1, 2, 3, 4, 5, 6, 7, 8, 9, 10, 11] rfl
  have hD : va_D A ((cX3 a3 h3 a1 (.ref a0) y S3) ++ ((cX1 a1 h1 tv y S1) ++ (cX0 a0 h0 y S0))) := hD.sub [12, 13, 14, 15, 16, 17, 0, 1, 2, 3, 4, 5, 6, 7, 8, 9, 10, 11] (by decide) rfl
  refine lv_if_ne (tgt := 12) hx hb dX3_tellHere_4 (by decide) (fun c5 => ?_) (fun c5 => ?_)
  · have h := zN c5 h
    refine lv_aload_n hx hb dX3_tellHere_12 rfl (lv_at hl 0 rfl) ?_
    refine lv_aload_n hx hb dX3_tellHere_13 rfl (lv_at hl 0 rfl) ?_
    refine va_get (D := (dC, dI)) (ci := 2) (v := .ref a1) (C := RX3) (T := TX3) (N := 17) hx hb hts inX3_ hown hK hP 0 rfl rfl 2 (by decide) (hts (.fieldLink RX3 18 "GateWheel$Reader" "lexer" "LGateWheel$Lexer;") (List.mem_of_getElem? (i := 1) rfl)) (fun _ h9 => h9) rfl dX3_tellHere_14 ?_
    refine va_get (D := (dC, dI)) (ci := 1) (v := .long (gL S1 5)) (C := RX1) (T := TX1) (N := 7) hx hb hts inX1_ hown hK hP 5 rfl rfl 5 (by decide) (hts (.fieldLink RX3 137 "GateWheel$Lexer" "word" "J") (List.mem_of_getElem? (i := 2) rfl)) (fun _ h9 => h9) rfl dX3_tellHere_17 ?_
    refine lv_aload_n hx hb dX3_tellHere_20 rfl (lv_at hl 0 rfl) ?_
    refine va_get (D := (dC, dI)) (ci := 2) (v := .ref a1) (C := RX3) (T := TX3) (N := 17) hx hb hts inX3_ hown hK hP 0 rfl rfl 2 (by decide) (hts (.fieldLink RX3 18 "GateWheel$Reader" "lexer" "LGateWheel$Lexer;") (List.mem_of_getElem? (i := 1) rfl)) (fun _ h9 => h9) rfl dX3_tellHere_21 ?_
    refine va_get (D := (dC, dI)) (ci := 1) (v := .int (gI S1 4)) (C := RX1) (T := TX1) (N := 7) hx hb hts inX1_ hown hK hP 5 rfl rfl 4 (by decide) (hts (.fieldLink RX3 114 "GateWheel$Lexer" "start" "I") (List.mem_of_getElem? (i := 3) rfl)) (fun _ h9 => h9) rfl dX3_tellHere_24 ?_
    refine lv_aload_n hx hb dX3_tellHere_27 rfl (lv_at hl 0 rfl) ?_
    refine va_get (D := (dC, dI)) (ci := 2) (v := .int (gI S3 5)) (C := RX3) (T := TX3) (N := 17) hx hb hts inX3_ hown hK hP 0 rfl rfl 5 (by decide) (hts (.fieldLink RX3 147 "GateWheel$Reader" "sort" "I") (List.mem_of_getElem? (i := 4) rfl)) (fun _ h9 => h9) rfl dX3_tellHere_28 ?_
    obtain ⟨⟨r6, s3_7, s0_8⟩, hc9, h⟩ := zB_spec h
    have hPc := hP.sub (ws' := ((cX3 a3 h3 a1 (.ref a0) y S3) ++ (cX0 a0 h0 y S0))) [0, 1, 2, 3, 4, 6, 7, 8, 9, 10, 11, 12, 13, 14, 15, 16, 17] rfl
    have hDc := hD.sub (ws' := ((cX3 a3 h3 a1 (.ref a0) y S3) ++ (cX0 a0 h0 y S0))) [0, 1, 2, 3, 4, 6, 7, 8, 9, 10, 11, 12, 13, 14, 15, 16, 17] (by decide) rfl
    have hFc := va_free (wc := ((cX3 a3 h3 a1 (.ref a0) y S3) ++ (cX0 a0 h0 y S0))) hD hS hA [0, 1, 2, 3, 4, 6, 7, 8, 9, 10, 11, 12, 13, 14, 15, 16, 17] rfl
    refine va_calli (va_runV (As := [.long (gL S1 5), .int (gI S1 4), .int (gI S3 5)]) (rest := []) ⟨hx, hb, hml, hown, hts⟩ (m_X3_tell l dC dI y a3 h3 S3 a0 h0 S0 a1 (gL S1 5) (gI S1 4) (gI S3 5) H3.size r6 s3_7 s0_8 hc9) (cwV 3 hts gX3_tellHere_X3_tell rfl rfl rfl (by decide +kernel) ⟨Nat.le_of_ble_eq_true rfl, Nat.le_of_ble_eq_true rfl⟩) ⟨fun a U g mk q => by obtain ⟨q0, q1, qP, qK, qD⟩ := q; exact ⟨q0, q1, qP, va_K.moved (u := U) (U := U.calling g mk a) (Vm.Alike.refl U.vm) qK, qD⟩, va_recv hK hPc (ci := 2) (q0 := 0) rfl rfl, fun U hU hW => ⟨rfl, by rw [hU], by rw [hU]; exact hPc, va_K.moved hW.alike hK, hDc.weaken (fun _ _ _ _ => trivial)⟩⟩ rfl rfl hl.1 rfl (lv_room (Nat.le_of_ble_eq_true rfl)) dX3_tellHere_31 ⟨Nat.le_of_ble_eq_true rfl, Nat.le_of_ble_eq_true rfl⟩) hS (fun q _ h => hFc q h) hFc (fun rr11 u t H10 locs ht hvm hw hB hz1 hk1 hS => ?_)
    obtain ⟨hP1, hK1, hD1⟩ := hB
    rw [ht] at hP1
    refine zTopi hw.symm ?_
    obtain ⟨hP, hD⟩ := va_join (wr := [(oX1 a1 h1 tv S1)]) (w1 := ((cX3 a3 h3 a1 (.ref a0) y s3_7) ++ (cX0 a0 h0 y s0_8))) hP hD [0, 1, 2, 3, 4, 6, 7, 8, 9, 10, 11, 12, 13, 14, 15, 16, 17] [5] rfl rfl (by decide) (by decide) hk1 hFc hP1 hD1
    have hP : va_P (dC, dI) vwCl ((cX3 a3 h3 a1 (.ref a0) y s3_7) ++ ((cX1 a1 h1 tv y S1) ++ (cX0 a0 h0 y s0_8))) H10 := hP.sub [1, 2, 3, 4, 5, 0, 6, 7, 8, 9, 10, 11, 12, 13, 14, 15, 16, 17] rfl
    have hD : va_D A ((cX3 a3 h3 a1 (.ref a0) y s3_7) ++ ((cX1 a1 h1 tv y S1) ++ (cX0 a0 h0 y s0_8))) := hD.sub [1, 2, 3, 4, 5, 0, 6, 7, 8, 9, 10, 11, 12, 13, 14, 15, 16, 17] (by decide) rfl
    refine lv_if_ne (tgt := 39) hx hb dX3_tellHere_34 (by decide) (fun c12 => ?_) (fun c12 => ?_)
    · have h := zN c12 h
      refine lv_aload_n hx hb dX3_tellHere_39 rfl (lv_at hl 0 rfl) ?_
      refine va_get (D := (dC, dI)) (ci := 2) (v := .int (gI s3_7 5)) (C := RX3) (T := TX3) (N := 17) hx hb hts inX3_ hown hK hP 0 rfl rfl 5 (by decide) (hts (.fieldLink RX3 147 "GateWheel$Reader" "sort" "I") (List.mem_of_getElem? (i := 4) rfl)) (fun _ h9 => h9) rfl dX3_tellHere_40 ?_
      refine lv_iconst (v := 3) hx hb dX3_tellHere_43 (by decide) ?_
      refine lv_icmp_ne (tgt := 65) hx hb dX3_tellHere_44 (by decide) (fun c13 => ?_) (fun c13 => ?_)
      · have h := zN c13 h
        refine lv_aload_n hx hb dX3_tellHere_65 rfl (lv_at hl 0 rfl) ?_
        refine lv_iconst (v := 2) hx hb dX3_tellHere_66 (by decide) ?_
        obtain ⟨⟨r14, s3_15⟩, hc16, h⟩ := zB_spec h
        have hPc := hP.sub (ws' := (cX3 a3 h3 a1 (.ref a0) y s3_7)) [0, 1, 2, 3, 4] rfl
        have hDc := hD.sub (ws' := (cX3 a3 h3 a1 (.ref a0) y s3_7)) [0, 1, 2, 3, 4] (by decide) rfl
        have hFc := va_free (wc := (cX3 a3 h3 a1 (.ref a0) y s3_7)) hD hS hA [0, 1, 2, 3, 4] rfl
        refine va_calli (va_runV (As := [.int 2]) (rest := []) ⟨hx, hb, hml, hown, hts⟩ (m_X3_go l dC dI y a3 h3 s3_7 a1 (.ref a0) (2 : Int32) H10.size r14 s3_15 hc16) (cwV 1 hts gX3_tellHere_X3_go rfl rfl rfl (by decide +kernel) ⟨Nat.le_of_ble_eq_true rfl, Nat.le_of_ble_eq_true rfl⟩) ⟨fun a U g mk q => by obtain ⟨q0, q1, qP, qK, qD⟩ := q; exact ⟨q0, q1, qP, va_K.moved (u := U) (U := U.calling g mk a) (Vm.Alike.refl U.vm) qK, qD⟩, va_recv hK hPc (ci := 2) (q0 := 0) rfl rfl, fun U hU hW => ⟨rfl, by rw [hU], by rw [hU]; exact hPc, va_K.moved hW.alike hK, hDc.weaken (fun _ _ _ _ => trivial)⟩⟩ rfl rfl hl.1 rfl (lv_room (Nat.le_of_ble_eq_true rfl)) dX3_tellHere_67 ⟨Nat.le_of_ble_eq_true rfl, Nat.le_of_ble_eq_true rfl⟩) hS (fun q _ h => hFc q h) hFc (fun rr18 u t H17 locs ht hvm hw hB hz1 hk1 hS => ?_)
        obtain ⟨hP1, hK1, hD1⟩ := hB
        rw [ht] at hP1
        refine zTopi hw.symm ?_
        obtain ⟨hP, hD⟩ := va_join (wr := [(oX1 a1 h1 tv S1), (oX0 a0 h0 s0_8), (h0 2, .inl (y 1, 60, .inr (.inl (gB s0_8 2)))), (h0 3, .inl (y 0, 60, .inl (gA s0_8 3))), (h0 4, .inl (y 0, 60, .inl (gA s0_8 4))), (h0 5, .inl (y 0, 60, .inl (gA s0_8 5))), (h0 6, .inl (y 0, 60, .inl (gA s0_8 6))), (h0 7, .inl (y 0, 720, .inl (gA s0_8 7))), (h0 8, .inl (y 0, 60, .inl (gA s0_8 8))), (h0 9, .inl (y 0, 60, .inl (gA s0_8 9))), (h0 10, .inl (y 1, 60, .inr (.inl (gB s0_8 10)))), (h0 11, .inl (y 0, 60, .inl (gA s0_8 11))), (h0 12, .inl (y 0, 60, .inl (gA s0_8 12)))]) (w1 := (cX3 a3 h3 a1 (.ref a0) y s3_15)) hP hD [0, 1, 2, 3, 4] [5, 6, 7, 8, 9, 10, 11, 12, 13, 14, 15, 16, 17] rfl rfl (by decide) (by decide) hk1 hFc hP1 hD1
        have hP : va_P (dC, dI) vwCl ((cX3 a3 h3 a1 (.ref a0) y s3_15) ++ ((cX1 a1 h1 tv y S1) ++ (cX0 a0 h0 y s0_8))) H17 := hP.sub [13, 14, 15, 16, 17, 0, 1, 2, 3, 4, 5, 6, 7, 8, 9, 10, 11, 12] rfl
        have hD : va_D A ((cX3 a3 h3 a1 (.ref a0) y s3_15) ++ ((cX1 a1 h1 tv y S1) ++ (cX0 a0 h0 y s0_8))) := hD.sub [13, 14, 15, 16, 17, 0, 1, 2, 3, 4, 5, 6, 7, 8, 9, 10, 11, 12] (by decide) rfl
        obtain ⟨hz19, h⟩ := zG_spec h
        have ho0 : r14 = or_ := congrArg (fun z : Int32 × SS × SS => z.1) (Option.some.inj h)
        have ho1 : s3_15 = o_3 := congrArg (fun z : Int32 × SS × SS => z.2.1) (Option.some.inj h)
        have ho2 : s0_8 = o_0 := congrArg (fun z : Int32 × SS × SS => z.2.2) (Option.some.inj h)
        exact W.zret (v := r14) hx hb hr (zb_nar hz19) (fun t ht hW => ⟨⟨r14, (), rfl, ho0, by rw [ht]; rw [← ho1, ← ho2]; exact hP, va_K.moved hW.alike hK, by rw [← ho1, ← ho2]; exact hD⟩, hS.F ht⟩) hS.2.2 dX3_tellHere_70
      · have h := zY c13 h
        refine lv_aload_n hx hb dX3_tellHere_47 rfl (lv_at hl 0 rfl) ?_
        refine lv_aload_n hx hb dX3_tellHere_48 rfl (lv_at hl 0 rfl) ?_
        refine va_get (D := (dC, dI)) (ci := 2) (v := .ref a0) (C := RX3) (T := TX3) (N := 17) hx hb hts inX3_ hown hK hP 0 rfl rfl 3 (by decide) (hts (.fieldLink RX3 36 "GateWheel$Reader" "circuit" "LGateWheel$Circuit;") (List.mem_of_getElem? (i := 5) rfl)) (fun _ h9 => h9) rfl dX3_tellHere_49 ?_
        refine va_get (D := (dC, dI)) (ci := 0) (v := .int (gI s0_8 0)) (C := RX0) (T := TX0) (N := 13) hx hb hts inX0_ hown hK hP 6 rfl rfl 0 (by decide) (hts (.fieldLink RX3 154 "GateWheel$Circuit" "count" "I") (List.mem_of_getElem? (i := 6) rfl)) (fun _ h9 => h9) rfl dX3_tellHere_52 ?_
        refine lv_iconst (v := 1) hx hb dX3_tellHere_55 (by decide) ?_
        refine lv_isub hx hb dX3_tellHere_56 ?_
        refine lv_iconst (v := 1) hx hb dX3_tellHere_57 (by decide) ?_
        refine lv_iconst (v := 2) hx hb dX3_tellHere_58 (by decide) ?_
        obtain ⟨⟨r20, s3_21⟩, hc22, h⟩ := zB_spec h
        have hPc := hP.sub (ws' := (cX3 a3 h3 a1 (.ref a0) y s3_7)) [0, 1, 2, 3, 4] rfl
        have hDc := hD.sub (ws' := (cX3 a3 h3 a1 (.ref a0) y s3_7)) [0, 1, 2, 3, 4] (by decide) rfl
        have hFc := va_free (wc := (cX3 a3 h3 a1 (.ref a0) y s3_7)) hD hS hA [0, 1, 2, 3, 4] rfl
        refine va_calli (va_runV (As := [.int ((gI s0_8 0) - (1 : Int32)), .int 1, .int 2]) (rest := []) ⟨hx, hb, hml, hown, hts⟩ (m_X3_beginParts l dC dI y a3 h3 s3_7 a1 (.ref a0) ((gI s0_8 0) - (1 : Int32)) (1 : Int32) (2 : Int32) H10.size r20 s3_21 hc22) (cwV 3 hts gX3_tellHere_X3_beginParts rfl rfl rfl (by decide +kernel) ⟨Nat.le_of_ble_eq_true rfl, Nat.le_of_ble_eq_true rfl⟩) ⟨fun a U g mk q => by obtain ⟨q0, q1, qP, qK, qD⟩ := q; exact ⟨q0, q1, qP, va_K.moved (u := U) (U := U.calling g mk a) (Vm.Alike.refl U.vm) qK, qD⟩, va_recv hK hPc (ci := 2) (q0 := 0) rfl rfl, fun U hU hW => ⟨rfl, by rw [hU], by rw [hU]; exact hPc, va_K.moved hW.alike hK, hDc.weaken (fun _ _ _ _ => trivial)⟩⟩ rfl rfl hl.1 rfl (lv_room (Nat.le_of_ble_eq_true rfl)) dX3_tellHere_59 ⟨Nat.le_of_ble_eq_true rfl, Nat.le_of_ble_eq_true rfl⟩) hS (fun q _ h => hFc q h) hFc (fun rr24 u t H23 locs ht hvm hw hB hz1 hk1 hS => ?_)
        obtain ⟨hP1, hK1, hD1⟩ := hB
        rw [ht] at hP1
        refine zTopi hw.symm ?_
        obtain ⟨hP, hD⟩ := va_join (wr := [(oX1 a1 h1 tv S1), (oX0 a0 h0 s0_8), (h0 2, .inl (y 1, 60, .inr (.inl (gB s0_8 2)))), (h0 3, .inl (y 0, 60, .inl (gA s0_8 3))), (h0 4, .inl (y 0, 60, .inl (gA s0_8 4))), (h0 5, .inl (y 0, 60, .inl (gA s0_8 5))), (h0 6, .inl (y 0, 60, .inl (gA s0_8 6))), (h0 7, .inl (y 0, 720, .inl (gA s0_8 7))), (h0 8, .inl (y 0, 60, .inl (gA s0_8 8))), (h0 9, .inl (y 0, 60, .inl (gA s0_8 9))), (h0 10, .inl (y 1, 60, .inr (.inl (gB s0_8 10)))), (h0 11, .inl (y 0, 60, .inl (gA s0_8 11))), (h0 12, .inl (y 0, 60, .inl (gA s0_8 12)))]) (w1 := (cX3 a3 h3 a1 (.ref a0) y s3_21)) hP hD [0, 1, 2, 3, 4] [5, 6, 7, 8, 9, 10, 11, 12, 13, 14, 15, 16, 17] rfl rfl (by decide) (by decide) hk1 hFc hP1 hD1
        have hP : va_P (dC, dI) vwCl ((cX3 a3 h3 a1 (.ref a0) y s3_21) ++ ((cX1 a1 h1 tv y S1) ++ (cX0 a0 h0 y s0_8))) H23 := hP.sub [13, 14, 15, 16, 17, 0, 1, 2, 3, 4, 5, 6, 7, 8, 9, 10, 11, 12] rfl
        have hD : va_D A ((cX3 a3 h3 a1 (.ref a0) y s3_21) ++ ((cX1 a1 h1 tv y S1) ++ (cX0 a0 h0 y s0_8))) := hD.sub [13, 14, 15, 16, 17, 0, 1, 2, 3, 4, 5, 6, 7, 8, 9, 10, 11, 12] (by decide) rfl
        refine lv_goto (tgt := 70) hx hb dX3_tellHere_62 (by decide) ?_
        obtain ⟨hz25, h⟩ := zG_spec h
        have ho0 : r20 = or_ := congrArg (fun z : Int32 × SS × SS => z.1) (Option.some.inj h)
        have ho1 : s3_21 = o_3 := congrArg (fun z : Int32 × SS × SS => z.2.1) (Option.some.inj h)
        have ho2 : s0_8 = o_0 := congrArg (fun z : Int32 × SS × SS => z.2.2) (Option.some.inj h)
        exact W.zret (v := r20) hx hb hr (zb_nar hz25) (fun t ht hW => ⟨⟨r20, (), rfl, ho0, by rw [ht]; rw [← ho1, ← ho2]; exact hP, va_K.moved hW.alike hK, by rw [← ho1, ← ho2]; exact hD⟩, hS.F ht⟩) hS.2.2 dX3_tellHere_70
    · have h := zY c12 h
      refine lv_iconst (v := 0) hx hb dX3_tellHere_37 (by decide) ?_
      have ho0 : (0 : Int32) = or_ := congrArg (fun z : Int32 × SS × SS => z.1) (Option.some.inj h)
      have ho1 : s3_7 = o_3 := congrArg (fun z : Int32 × SS × SS => z.2.1) (Option.some.inj h)
      have ho2 : s0_8 = o_0 := congrArg (fun z : Int32 × SS × SS => z.2.2) (Option.some.inj h)
      exact W.zret (v := 0) hx hb hr (by decide) (fun t ht hW => ⟨⟨0, (), rfl, ho0, by rw [ht]; rw [← ho1, ← ho2]; exact hP, va_K.moved hW.alike hK, by rw [← ho1, ← ho2]; exact hD⟩, hS.F ht⟩) hS.2.2 dX3_tellHere_38
  · have h := zY c5 h
    refine lv_aload_n hx hb dX3_tellHere_7 rfl (lv_at hl 0 rfl) ?_
    obtain ⟨⟨r26, s3_27⟩, hc28, h⟩ := zB_spec h
    have hPc := hP.sub (ws' := ((cX3 a3 h3 a1 (.ref a0) y S3) ++ (cX1 a1 h1 tv y S1))) [0, 1, 2, 3, 4, 5] rfl
    have hDc := hD.sub (ws' := ((cX3 a3 h3 a1 (.ref a0) y S3) ++ (cX1 a1 h1 tv y S1))) [0, 1, 2, 3, 4, 5] (by decide) rfl
    have hFc := va_free (wc := ((cX3 a3 h3 a1 (.ref a0) y S3) ++ (cX1 a1 h1 tv y S1))) hD hS hA [0, 1, 2, 3, 4, 5] rfl
    refine va_calli (va_runV (As := []) (rest := []) ⟨hx, hb, hml, hown, hts⟩ (m_X3_refuse l dC dI y a3 h3 S3 a1 h1 S1 (.ref a0) tv H3.size r26 s3_27 hc28) (cwV 0 hts gX3_tellHere_X3_refuse rfl rfl rfl (by decide +kernel) ⟨Nat.le_of_ble_eq_true rfl, Nat.le_of_ble_eq_true rfl⟩) ⟨fun a U g mk q => by obtain ⟨q0, q1, qP, qK, qD⟩ := q; exact ⟨q0, q1, qP, va_K.moved (u := U) (U := U.calling g mk a) (Vm.Alike.refl U.vm) qK, qD⟩, va_recv hK hPc (ci := 2) (q0 := 0) rfl rfl, fun U hU hW => ⟨rfl, by rw [hU], by rw [hU]; exact hPc, va_K.moved hW.alike hK, hDc.weaken (fun _ _ _ _ => trivial)⟩⟩ rfl rfl hl.1 rfl (lv_room (Nat.le_of_ble_eq_true rfl)) dX3_tellHere_8 ⟨Nat.le_of_ble_eq_true rfl, Nat.le_of_ble_eq_true rfl⟩) hS (fun q _ h => hFc q h) hFc (fun rr30 u t H29 locs ht hvm hw hB hz1 hk1 hS => ?_)
    obtain ⟨hP1, hK1, hD1⟩ := hB
    rw [ht] at hP1
    refine zTopi hw.symm ?_
    obtain ⟨hP, hD⟩ := va_join (wr := [(oX0 a0 h0 S0), (h0 2, .inl (y 1, 60, .inr (.inl (gB S0 2)))), (h0 3, .inl (y 0, 60, .inl (gA S0 3))), (h0 4, .inl (y 0, 60, .inl (gA S0 4))), (h0 5, .inl (y 0, 60, .inl (gA S0 5))), (h0 6, .inl (y 0, 60, .inl (gA S0 6))), (h0 7, .inl (y 0, 720, .inl (gA S0 7))), (h0 8, .inl (y 0, 60, .inl (gA S0 8))), (h0 9, .inl (y 0, 60, .inl (gA S0 9))), (h0 10, .inl (y 1, 60, .inr (.inl (gB S0 10)))), (h0 11, .inl (y 0, 60, .inl (gA S0 11))), (h0 12, .inl (y 0, 60, .inl (gA S0 12)))]) (w1 := ((cX3 a3 h3 a1 (.ref a0) y s3_27) ++ (cX1 a1 h1 tv y S1))) hP hD [0, 1, 2, 3, 4, 5] [6, 7, 8, 9, 10, 11, 12, 13, 14, 15, 16, 17] rfl rfl (by decide) (by decide) hk1 hFc hP1 hD1
    have hP : va_P (dC, dI) vwCl ((cX3 a3 h3 a1 (.ref a0) y s3_27) ++ ((cX1 a1 h1 tv y S1) ++ (cX0 a0 h0 y S0))) H29 := hP.sub [12, 13, 14, 15, 16, 17, 0, 1, 2, 3, 4, 5, 6, 7, 8, 9, 10, 11] rfl
    have hD : va_D A ((cX3 a3 h3 a1 (.ref a0) y s3_27) ++ ((cX1 a1 h1 tv y S1) ++ (cX0 a0 h0 y S0))) := hD.sub [12, 13, 14, 15, 16, 17, 0, 1, 2, 3, 4, 5, 6, 7, 8, 9, 10, 11] (by decide) rfl
    obtain ⟨hz31, h⟩ := zG_spec h
    have ho0 : r26 = or_ := congrArg (fun z : Int32 × SS × SS => z.1) (Option.some.inj h)
    have ho1 : s3_27 = o_3 := congrArg (fun z : Int32 × SS × SS => z.2.1) (Option.some.inj h)
    have ho2 : S0 = o_0 := congrArg (fun z : Int32 × SS × SS => z.2.2) (Option.some.inj h)
    exact W.zret (v := r26) hx hb hr (zb_nar hz31) (fun t ht hW => ⟨⟨r26, (), rfl, ho0, by rw [ht]; rw [← ho1, ← ho2]; exact hP, va_K.moved hW.alike hK, by rw [← ho1, ← ho2]; exact hD⟩, hS.F ht⟩) hS.2.2 dX3_tellHere_11

set_option maxHeartbeats 4000000 in
set_option maxRecDepth 100000 in
theorem m_X3_tellOrDrive (l : Launch) (dC : Nat → ClassId) (dI : Nat → Nat → Nat) (y : Nat → ClassId) (a3 : Nat) (h3 : Nat → Nat) (S3 : SS) (a1 : Nat) (h1 : Nat → Nat) (S1 : SS) (a0 : Nat) (h0 : Nat → Nat) (S0 : SS) (tv : Value) (sz : Nat) (or_ : Int32) (o_3 : SS) (o_0 : SS) (h : f_X3_tellOrDrive S3 S1 S0 = some (or_, o_3, o_0)) : Met l yX3_tellOrDrive wsX3_tellOrDrive ({ frames := 2, cells := 0, slots := 0, locals := 48 }) (va_Pc [.ref a3] (fun U => U.heap.size = sz ∧ va_P (dC, dI) vwCl ((cX3 a3 h3 a1 (.ref a0) y S3) ++ ((cX1 a1 h1 tv y S1) ++ (cX0 a0 h0 y S0))) U.heap ∧ va_K (dC, dI) vwCl [(y 0, .int), (y 1, .long), (y 2, .byte), (y 3, .boolean)] U ∧ va_D (fun _ => True) ((cX3 a3 h3 a1 (.ref a0) y S3) ++ ((cX1 a1 h1 tv y S1) ++ (cX0 a0 h0 y S0))))) (va_Qi (fun (r : Int32) (_ : Unit) => r = or_) (fun (_ : Unit) (t : State) => va_P (dC, dI) vwCl ((cX3 a3 h3 a1 (.ref a0) y o_3) ++ ((cX1 a1 h1 tv y S1) ++ (cX0 a0 h0 y o_0))) t.heap ∧ va_K (dC, dI) vwCl [(y 0, .int), (y 1, .long), (y 2, .byte), (y 3, .boolean)] t ∧ va_D (va_A ((cX3 a3 h3 a1 (.ref a0) y S3) ++ ((cX1 a1 h1 tv y S1) ++ (cX0 a0 h0 y S0))) sz) ((cX3 a3 h3 a1 (.ref a0) y o_3) ++ ((cX1 a1 h1 tv y S1) ++ (cX0 a0 h0 y o_0)))) (va_A ((cX3 a3 h3 a1 (.ref a0) y S3) ++ ((cX1 a1 h1 tv y S1) ++ (cX0 a0 h0 y S0))) sz)) 0 0 (va_A ((cX3 a3 h3 a1 (.ref a0) y S3) ++ ((cX1 a1 h1 tv y S1) ++ (cX0 a0 h0 y S0))) sz) := by
  refine Met.ofW (cc := cX3_tellOrDrive) (maxL := 1) (ret := (some .boolean)) (by decide +kernel) rfl ?_
  intro p e s m args below meth c s₁ B hml hv
  obtain ⟨rfl, hsz, hP, hK, hD0⟩ := hv
  have hx := B.exec
  have hb := B.bytes
  have hr := B.returns
  have hts := atoms_spec (ws := wsX3_tellOrDrive) B.pre
  have hown : s.vm.findClass RX3 = some m.cls := findClass_of_methodNamed B.named
  have hlocks := B.notSynchronized
  have inX1_ : ∀ w ∈ wsX10, w ∈ wsX3_tellOrDrive := fun _ h => List.mem_cons_of_mem _ (List.mem_append_left _ (List.mem_append_right _ h))
  have inX3_ : ∀ w ∈ wsX30, w ∈ wsX3_tellOrDrive := fun _ h => List.mem_cons_of_mem _ (List.mem_append_left _ (List.mem_append_left _ (List.mem_append_right _ h)))
  subst hsz
  have hD := hD0.self (sz := s.heap.size)
  generalize hAe : va_A ((cX3 a3 h3 a1 (.ref a0) y S3) ++ ((cX1 a1 h1 tv y S1) ++ (cX0 a0 h0 y S0))) s.heap.size = A at hD ⊢
  have hA : ∀ q : Nat, s.heap.size ≤ q → A q := fun q h => by rw [← hAe]; exact Or.inr h
  have hS : va_S A s.heap s.heap [] := va_S.rf
  have hP : va_P (dC, dI) vwCl ((cX3 a3 h3 a1 (.ref a0) y S3) ++ ((cX1 a1 h1 tv y S1) ++ (cX0 a0 h0 y S0))) s.heap := hP
  have hl := lv_entry ([.ref a3]) (n := 1) (Nat.le_of_ble_eq_true rfl)
  rw [lg_entry_eq]
  generalize (lg_sl ([.ref a3]) ++ List.replicate (1 - (lg_sl ([.ref a3])).length) Slot.unset).toArray = ls at hl ⊢
  have hl : lv_has ls 1 [(0, .ref a3)] := hl
  refine lv_aload_n hx hb dX3_tellOrDrive_0 rfl (lv_at hl 0 rfl) ?_
  refine va_get (D := (dC, dI)) (ci := 2) (v := .ref a1) (C := RX3) (T := TX3) (N := 17) hx hb hts inX3_ hown hK hP 0 rfl rfl 2 (by decide) (hts (.fieldLink RX3 18 "GateWheel$Reader" "lexer" "LGateWheel$Lexer;") (List.mem_of_getElem? (i := 1) rfl)) (fun _ h9 => h9) rfl dX3_tellOrDrive_1 ?_
  refine va_get (D := (dC, dI)) (ci := 1) (v := .int (gI S1 3)) (C := RX1) (T := TX1) (N := 7) hx hb hts inX1_ hown hK hP 5 rfl rfl 3 (by decide) (hts (.fieldLink RX3 74 "GateWheel$Lexer" "kind" "I") (List.mem_of_getElem? (i := 2) rfl)) (fun _ h9 => h9) rfl dX3_tellOrDrive_4 ?_
  refine lv_bipush (v := 61) hx hb dX3_tellOrDrive_7 (by decide) ?_
  refine lv_icmp_ne (tgt := 47) hx hb dX3_tellOrDrive_9 (by decide) (fun c1 => ?_) (fun c1 => ?_)
  · have h := zN c1 h
    refine lv_aload_n hx hb dX3_tellOrDrive_47 rfl (lv_at hl 0 rfl) ?_
    refine va_get (D := (dC, dI)) (ci := 2) (v := .ref a1) (C := RX3) (T := TX3) (N := 17) hx hb hts inX3_ hown hK hP 0 rfl rfl 2 (by decide) (hts (.fieldLink RX3 18 "GateWheel$Reader" "lexer" "LGateWheel$Lexer;") (List.mem_of_getElem? (i := 1) rfl)) (fun _ h9 => h9) rfl dX3_tellOrDrive_48 ?_
    refine va_get (D := (dC, dI)) (ci := 1) (v := .int (gI S1 3)) (C := RX1) (T := TX1) (N := 7) hx hb hts inX1_ hown hK hP 5 rfl rfl 3 (by decide) (hts (.fieldLink RX3 74 "GateWheel$Lexer" "kind" "I") (List.mem_of_getElem? (i := 2) rfl)) (fun _ h9 => h9) rfl dX3_tellOrDrive_51 ?_
    refine lv_bipush (v := 60) hx hb dX3_tellOrDrive_54 (by decide) ?_
    refine lv_icmp_ne (tgt := 85) hx hb dX3_tellOrDrive_56 (by decide) (fun c2 => ?_) (fun c2 => ?_)
    · have h := zN c2 h
      refine lv_aload_n hx hb dX3_tellOrDrive_85 rfl (lv_at hl 0 rfl) ?_
      obtain ⟨⟨r3, s3_4⟩, hc5, h⟩ := zB_spec h
      have hPc := hP.sub (ws' := ((cX3 a3 h3 a1 (.ref a0) y S3) ++ (cX1 a1 h1 tv y S1))) [0, 1, 2, 3, 4, 5] rfl
      have hDc := hD.sub (ws' := ((cX3 a3 h3 a1 (.ref a0) y S3) ++ (cX1 a1 h1 tv y S1))) [0, 1, 2, 3, 4, 5] (by decide) rfl
      have hFc := va_free (wc := ((cX3 a3 h3 a1 (.ref a0) y S3) ++ (cX1 a1 h1 tv y S1))) hD hS hA [0, 1, 2, 3, 4, 5] rfl
      refine va_calli (va_runV (As := []) (rest := []) ⟨hx, hb, hml, hown, hts⟩ (m_X3_refuse l dC dI y a3 h3 S3 a1 h1 S1 (.ref a0) tv s.heap.size r3 s3_4 hc5) (cwV 0 hts gX3_tellOrDrive_X3_refuse rfl rfl rfl (by decide +kernel) ⟨Nat.le_of_ble_eq_true rfl, Nat.le_of_ble_eq_true rfl⟩) ⟨fun a U g mk q => by obtain ⟨q0, q1, qP, qK, qD⟩ := q; exact ⟨q0, q1, qP, va_K.moved (u := U) (U := U.calling g mk a) (Vm.Alike.refl U.vm) qK, qD⟩, va_recv hK hPc (ci := 2) (q0 := 0) rfl rfl, fun U hU hW => ⟨rfl, by rw [hU], by rw [hU]; exact hPc, va_K.moved hW.alike hK, hDc.weaken (fun _ _ _ _ => trivial)⟩⟩ rfl rfl hl.1 rfl (lv_room (Nat.le_of_ble_eq_true rfl)) dX3_tellOrDrive_86 ⟨Nat.le_of_ble_eq_true rfl, Nat.le_of_ble_eq_true rfl⟩) hS (fun q _ h => hFc q h) hFc (fun rr7 u t H6 locs ht hvm hw hB hz1 hk1 hS => ?_)
      obtain ⟨hP1, hK1, hD1⟩ := hB
      rw [ht] at hP1
      refine zTopi hw.symm ?_
      obtain ⟨hP, hD⟩ := va_join (wr := [(oX0 a0 h0 S0), (h0 2, .inl (y 1, 60, .inr (.inl (gB S0 2)))), (h0 3, .inl (y 0, 60, .inl (gA S0 3))), (h0 4, .inl (y 0, 60, .inl (gA S0 4))), (h0 5, .inl (y 0, 60, .inl (gA S0 5))), (h0 6, .inl (y 0, 60, .inl (gA S0 6))), (h0 7, .inl (y 0, 720, .inl (gA S0 7))), (h0 8, .inl (y 0, 60, .inl (gA S0 8))), (h0 9, .inl (y 0, 60, .inl (gA S0 9))), (h0 10, .inl (y 1, 60, .inr (.inl (gB S0 10)))), (h0 11, .inl (y 0, 60, .inl (gA S0 11))), (h0 12, .inl (y 0, 60, .inl (gA S0 12)))]) (w1 := ((cX3 a3 h3 a1 (.ref a0) y s3_4) ++ (cX1 a1 h1 tv y S1))) hP hD [0, 1, 2, 3, 4, 5] [6, 7, 8, 9, 10, 11, 12, 13, 14, 15, 16, 17] rfl rfl (by decide) (by decide) hk1 hFc hP1 hD1
      have hP : va_P (dC, dI) vwCl ((cX3 a3 h3 a1 (.ref a0) y s3_4) ++ ((cX1 a1 h1 tv y S1) ++ (cX0 a0 h0 y S0))) H6 := hP.sub [12, 13, 14, 15, 16, 17, 0, 1, 2, 3, 4, 5, 6, 7, 8, 9, 10, 11] rfl
      have hD : va_D A ((cX3 a3 h3 a1 (.ref a0) y s3_4) ++ ((cX1 a1 h1 tv y S1) ++ (cX0 a0 h0 y S0))) := hD.sub [12, 13, 14, 15, 16, 17, 0, 1, 2, 3, 4, 5, 6, 7, 8, 9, 10, 11] (by decide) rfl
      obtain ⟨hz8, h⟩ := zG_spec h
      have ho0 : r3 = or_ := congrArg (fun z : Int32 × SS × SS => z.1) (Option.some.inj h)
      have ho1 : s3_4 = o_3 := congrArg (fun z : Int32 × SS × SS => z.2.1) (Option.some.inj h)
      have ho2 : S0 = o_0 := congrArg (fun z : Int32 × SS × SS => z.2.2) (Option.some.inj h)
      exact W.zret (v := r3) hx hb hr (zb_nar hz8) (fun t ht hW => ⟨⟨r3, (), rfl, ho0, by rw [ht]; rw [← ho1, ← ho2]; exact hP, va_K.moved hW.alike hK, by rw [← ho1, ← ho2]; exact hD⟩, hS.F ht⟩) hS.2.2 dX3_tellOrDrive_89
    · have h := zY c2 h
      refine lv_aload_n hx hb dX3_tellOrDrive_59 rfl (lv_at hl 0 rfl) ?_
      refine lv_iconst (v := 4) hx hb dX3_tellOrDrive_60 (by decide) ?_
      refine va_put (D := (dC, dI)) (ci := 2) (v := .int 4) (ty := .int) (C := RX3) (T := TX3) (N := 17) hx hb hts inX3_ tyX3 tyX3_ok nmX3 hown hK hP hD hS 0 rfl rfl 5 (by decide) (hts (.fieldLink RX3 147 "GateWheel$Reader" "sort" "I") (List.mem_of_getElem? (i := 3) rfl)) (fun _ h9 => h9) rfl (by decide +kernel) rfl rfl (Nat.le_of_ble_eq_true rfl) dX3_tellOrDrive_61 (fun H9 locs hP hD hS => ?_)
      obtain ⟨s3_10, es3_10, h⟩ := zL_spec h
      have hP : va_P (dC, dI) vwCl ((cX3 a3 h3 a1 (.ref a0) y s3_10) ++ ((cX1 a1 h1 tv y S1) ++ (cX0 a0 h0 y S0))) H9 := by rw [es3_10]; exact hP
      have hD : va_D A ((cX3 a3 h3 a1 (.ref a0) y s3_10) ++ ((cX1 a1 h1 tv y S1) ++ (cX0 a0 h0 y S0))) := by rw [es3_10]; exact hD
      refine lv_aload_n hx hb dX3_tellOrDrive_64 rfl (lv_at hl 0 rfl) ?_
      obtain ⟨⟨r11, s3_12⟩, hc13, h⟩ := zB_spec h
      have hPc := hP.sub (ws' := (cX3 a3 h3 a1 (.ref a0) y s3_10)) [0, 1, 2, 3, 4] rfl
      have hDc := hD.sub (ws' := (cX3 a3 h3 a1 (.ref a0) y s3_10)) [0, 1, 2, 3, 4] (by decide) rfl
      have hFc := va_free (wc := (cX3 a3 h3 a1 (.ref a0) y s3_10)) hD hS hA [0, 1, 2, 3, 4] rfl
      refine va_calli (va_runV (As := []) (rest := []) ⟨hx, hb, hml, hown, hts⟩ (m_X3_checkDrivers l dC dI y a3 h3 s3_10 a1 (.ref a0) H9.size r11 s3_12 hc13) (cwV 0 hts gX3_tellOrDrive_X3_checkDrivers rfl rfl rfl (by decide +kernel) ⟨Nat.le_of_ble_eq_true rfl, Nat.le_of_ble_eq_true rfl⟩) ⟨fun a U g mk q => by obtain ⟨q0, q1, qP, qK, qD⟩ := q; exact ⟨q0, q1, qP, va_K.moved (u := U) (U := U.calling g mk a) (Vm.Alike.refl U.vm) qK, qD⟩, va_recv hK hPc (ci := 2) (q0 := 0) rfl rfl, fun U hU hW => ⟨rfl, by rw [hU], by rw [hU]; exact hPc, va_K.moved hW.alike hK, hDc.weaken (fun _ _ _ _ => trivial)⟩⟩ rfl rfl hl.1 rfl (lv_room (Nat.le_of_ble_eq_true rfl)) dX3_tellOrDrive_65 ⟨Nat.le_of_ble_eq_true rfl, Nat.le_of_ble_eq_true rfl⟩) hS (fun q _ h => hFc q h) hFc (fun rr15 u t H14 locs ht hvm hw hB hz1 hk1 hS => ?_)
      obtain ⟨hP1, hK1, hD1⟩ := hB
      rw [ht] at hP1
      refine zTopi hw.symm ?_
      obtain ⟨hP, hD⟩ := va_join (wr := [(oX1 a1 h1 tv S1), (oX0 a0 h0 S0), (h0 2, .inl (y 1, 60, .inr (.inl (gB S0 2)))), (h0 3, .inl (y 0, 60, .inl (gA S0 3))), (h0 4, .inl (y 0, 60, .inl (gA S0 4))), (h0 5, .inl (y 0, 60, .inl (gA S0 5))), (h0 6, .inl (y 0, 60, .inl (gA S0 6))), (h0 7, .inl (y 0, 720, .inl (gA S0 7))), (h0 8, .inl (y 0, 60, .inl (gA S0 8))), (h0 9, .inl (y 0, 60, .inl (gA S0 9))), (h0 10, .inl (y 1, 60, .inr (.inl (gB S0 10)))), (h0 11, .inl (y 0, 60, .inl (gA S0 11))), (h0 12, .inl (y 0, 60, .inl (gA S0 12)))]) (w1 := (cX3 a3 h3 a1 (.ref a0) y s3_12)) hP hD [0, 1, 2, 3, 4] [5, 6, 7, 8, 9, 10, 11, 12, 13, 14, 15, 16, 17] rfl rfl (by decide) (by decide) hk1 hFc hP1 hD1
      have hP : va_P (dC, dI) vwCl ((cX3 a3 h3 a1 (.ref a0) y s3_12) ++ ((cX1 a1 h1 tv y S1) ++ (cX0 a0 h0 y S0))) H14 := hP.sub [13, 14, 15, 16, 17, 0, 1, 2, 3, 4, 5, 6, 7, 8, 9, 10, 11, 12] rfl
      have hD : va_D A ((cX3 a3 h3 a1 (.ref a0) y s3_12) ++ ((cX1 a1 h1 tv y S1) ++ (cX0 a0 h0 y S0))) := hD.sub [13, 14, 15, 16, 17, 0, 1, 2, 3, 4, 5, 6, 7, 8, 9, 10, 11, 12] (by decide) rfl
      refine lv_if_eq (tgt := 83) hx hb dX3_tellOrDrive_68 (by decide) (fun c16 => ?_) (fun c16 => ?_)
      · have h := zY c16 h
        refine lv_iconst (v := 0) hx hb dX3_tellOrDrive_83 (by decide) ?_
        have ho0 : (0 : Int32) = or_ := congrArg (fun z : Int32 × SS × SS => z.1) (Option.some.inj h)
        have ho1 : s3_12 = o_3 := congrArg (fun z : Int32 × SS × SS => z.2.1) (Option.some.inj h)
        have ho2 : S0 = o_0 := congrArg (fun z : Int32 × SS × SS => z.2.2) (Option.some.inj h)
        exact W.zret (v := 0) hx hb hr (by decide) (fun t ht hW => ⟨⟨0, (), rfl, ho0, by rw [ht]; rw [← ho1, ← ho2]; exact hP, va_K.moved hW.alike hK, by rw [← ho1, ← ho2]; exact hD⟩, hS.F ht⟩) hS.2.2 dX3_tellOrDrive_84
      · have h := zN c16 h
        refine lv_aload_n hx hb dX3_tellOrDrive_71 rfl (lv_at hl 0 rfl) ?_
        refine lv_iconst (v := 5) hx hb dX3_tellOrDrive_72 (by decide) ?_
        obtain ⟨⟨r17, s3_18⟩, hc19, h⟩ := zB_spec h
        have hPc := hP.sub (ws' := (cX3 a3 h3 a1 (.ref a0) y s3_12)) [0, 1, 2, 3, 4] rfl
        have hDc := hD.sub (ws' := (cX3 a3 h3 a1 (.ref a0) y s3_12)) [0, 1, 2, 3, 4] (by decide) rfl
        have hFc := va_free (wc := (cX3 a3 h3 a1 (.ref a0) y s3_12)) hD hS hA [0, 1, 2, 3, 4] rfl
        refine va_calli (va_runV (As := [.int 5]) (rest := []) ⟨hx, hb, hml, hown, hts⟩ (m_X3_go l dC dI y a3 h3 s3_12 a1 (.ref a0) (5 : Int32) H14.size r17 s3_18 hc19) (cwV 1 hts gX3_tellOrDrive_X3_go rfl rfl rfl (by decide +kernel) ⟨Nat.le_of_ble_eq_true rfl, Nat.le_of_ble_eq_true rfl⟩) ⟨fun a U g mk q => by obtain ⟨q0, q1, qP, qK, qD⟩ := q; exact ⟨q0, q1, qP, va_K.moved (u := U) (U := U.calling g mk a) (Vm.Alike.refl U.vm) qK, qD⟩, va_recv hK hPc (ci := 2) (q0 := 0) rfl rfl, fun U hU hW => ⟨rfl, by rw [hU], by rw [hU]; exact hPc, va_K.moved hW.alike hK, hDc.weaken (fun _ _ _ _ => trivial)⟩⟩ rfl rfl hl.1 rfl (lv_room (Nat.le_of_ble_eq_true rfl)) dX3_tellOrDrive_73 ⟨Nat.le_of_ble_eq_true rfl, Nat.le_of_ble_eq_true rfl⟩) hS (fun q _ h => hFc q h) hFc (fun rr21 u t H20 locs ht hvm hw hB hz1 hk1 hS => ?_)
        obtain ⟨hP1, hK1, hD1⟩ := hB
        rw [ht] at hP1
        refine zTopi hw.symm ?_
        obtain ⟨hP, hD⟩ := va_join (wr := [(oX1 a1 h1 tv S1), (oX0 a0 h0 S0), (h0 2, .inl (y 1, 60, .inr (.inl (gB S0 2)))), (h0 3, .inl (y 0, 60, .inl (gA S0 3))), (h0 4, .inl (y 0, 60, .inl (gA S0 4))), (h0 5, .inl (y 0, 60, .inl (gA S0 5))), (h0 6, .inl (y 0, 60, .inl (gA S0 6))), (h0 7, .inl (y 0, 720, .inl (gA S0 7))), (h0 8, .inl (y 0, 60, .inl (gA S0 8))), (h0 9, .inl (y 0, 60, .inl (gA S0 9))), (h0 10, .inl (y 1, 60, .inr (.inl (gB S0 10)))), (h0 11, .inl (y 0, 60, .inl (gA S0 11))), (h0 12, .inl (y 0, 60, .inl (gA S0 12)))]) (w1 := (cX3 a3 h3 a1 (.ref a0) y s3_18)) hP hD [0, 1, 2, 3, 4] [5, 6, 7, 8, 9, 10, 11, 12, 13, 14, 15, 16, 17] rfl rfl (by decide) (by decide) hk1 hFc hP1 hD1
        have hP : va_P (dC, dI) vwCl ((cX3 a3 h3 a1 (.ref a0) y s3_18) ++ ((cX1 a1 h1 tv y S1) ++ (cX0 a0 h0 y S0))) H20 := hP.sub [13, 14, 15, 16, 17, 0, 1, 2, 3, 4, 5, 6, 7, 8, 9, 10, 11, 12] rfl
        have hD : va_D A ((cX3 a3 h3 a1 (.ref a0) y s3_18) ++ ((cX1 a1 h1 tv y S1) ++ (cX0 a0 h0 y S0))) := hD.sub [13, 14, 15, 16, 17, 0, 1, 2, 3, 4, 5, 6, 7, 8, 9, 10, 11, 12] (by decide) rfl
        refine lv_if_eq (tgt := 83) hx hb dX3_tellOrDrive_76 (by decide) (fun c22 => ?_) (fun c22 => ?_)
        · have h := zY c22 h
          refine lv_iconst (v := 0) hx hb dX3_tellOrDrive_83 (by decide) ?_
          have ho0 : (0 : Int32) = or_ := congrArg (fun z : Int32 × SS × SS => z.1) (Option.some.inj h)
          have ho1 : s3_18 = o_3 := congrArg (fun z : Int32 × SS × SS => z.2.1) (Option.some.inj h)
          have ho2 : S0 = o_0 := congrArg (fun z : Int32 × SS × SS => z.2.2) (Option.some.inj h)
          exact W.zret (v := 0) hx hb hr (by decide) (fun t ht hW => ⟨⟨0, (), rfl, ho0, by rw [ht]; rw [← ho1, ← ho2]; exact hP, va_K.moved hW.alike hK, by rw [← ho1, ← ho2]; exact hD⟩, hS.F ht⟩) hS.2.2 dX3_tellOrDrive_84
        · have h := zN c22 h
          refine lv_iconst (v := 1) hx hb dX3_tellOrDrive_79 (by decide) ?_
          refine lv_goto (tgt := 84) hx hb dX3_tellOrDrive_80 (by decide) ?_
          have ho0 : (1 : Int32) = or_ := congrArg (fun z : Int32 × SS × SS => z.1) (Option.some.inj h)
          have ho1 : s3_18 = o_3 := congrArg (fun z : Int32 × SS × SS => z.2.1) (Option.some.inj h)
          have ho2 : S0 = o_0 := congrArg (fun z : Int32 × SS × SS => z.2.2) (Option.some.inj h)
          exact W.zret (v := 1) hx hb hr (by decide) (fun t ht hW => ⟨⟨1, (), rfl, ho0, by rw [ht]; rw [← ho1, ← ho2]; exact hP, va_K.moved hW.alike hK, by rw [← ho1, ← ho2]; exact hD⟩, hS.F ht⟩) hS.2.2 dX3_tellOrDrive_84
  · have h := zY c1 h
    refine lv_aload_n hx hb dX3_tellOrDrive_12 rfl (lv_at hl 0 rfl) ?_
    refine lv_iconst (v := 2) hx hb dX3_tellOrDrive_13 (by decide) ?_
    refine va_put (D := (dC, dI)) (ci := 2) (v := .int 2) (ty := .int) (C := RX3) (T := TX3) (N := 17) hx hb hts inX3_ tyX3 tyX3_ok nmX3 hown hK hP hD hS 0 rfl rfl 5 (by decide) (hts (.fieldLink RX3 147 "GateWheel$Reader" "sort" "I") (List.mem_of_getElem? (i := 3) rfl)) (fun _ h9 => h9) rfl (by decide +kernel) rfl rfl (Nat.le_of_ble_eq_true rfl) dX3_tellOrDrive_14 (fun H23 locs hP hD hS => ?_)
    obtain ⟨s3_24, es3_24, h⟩ := zL_spec h
    have hP : va_P (dC, dI) vwCl ((cX3 a3 h3 a1 (.ref a0) y s3_24) ++ ((cX1 a1 h1 tv y S1) ++ (cX0 a0 h0 y S0))) H23 := by rw [es3_24]; exact hP
    have hD : va_D A ((cX3 a3 h3 a1 (.ref a0) y s3_24) ++ ((cX1 a1 h1 tv y S1) ++ (cX0 a0 h0 y S0))) := by rw [es3_24]; exact hD
    refine lv_aload_n hx hb dX3_tellOrDrive_17 rfl (lv_at hl 0 rfl) ?_
    refine lv_aload_n hx hb dX3_tellOrDrive_18 rfl (lv_at hl 0 rfl) ?_
    refine va_get (D := (dC, dI)) (ci := 2) (v := .long (gL s3_24 6)) (C := RX3) (T := TX3) (N := 17) hx hb hts inX3_ hown hK hP 0 rfl rfl 6 (by decide) (hts (.fieldLink RX3 141 "GateWheel$Reader" "lineName" "J") (List.mem_of_getElem? (i := 4) rfl)) (fun _ h9 => h9) rfl dX3_tellOrDrive_19 ?_
    refine lv_aload_n hx hb dX3_tellOrDrive_22 rfl (lv_at hl 0 rfl) ?_
    refine va_get (D := (dC, dI)) (ci := 2) (v := .int (gI s3_24 7)) (C := RX3) (T := TX3) (N := 17) hx hb hts inX3_ hown hK hP 0 rfl rfl 7 (by decide) (hts (.fieldLink RX3 144 "GateWheel$Reader" "linePlace" "I") (List.mem_of_getElem? (i := 5) rfl)) (fun _ h9 => h9) rfl dX3_tellOrDrive_23 ?_
    refine lv_iconst (v := 2) hx hb dX3_tellOrDrive_26 (by decide) ?_
    obtain ⟨⟨r25, s3_26, s0_27⟩, hc28, h⟩ := zB_spec h
    have hPc := hP.sub (ws' := ((cX3 a3 h3 a1 (.ref a0) y s3_24) ++ (cX0 a0 h0 y S0))) [0, 1, 2, 3, 4, 6, 7, 8, 9, 10, 11, 12, 13, 14, 15, 16, 17] rfl
    have hDc := hD.sub (ws' := ((cX3 a3 h3 a1 (.ref a0) y s3_24) ++ (cX0 a0 h0 y S0))) [0, 1, 2, 3, 4, 6, 7, 8, 9, 10, 11, 12, 13, 14, 15, 16, 17] (by decide) rfl
    have hFc := va_free (wc := ((cX3 a3 h3 a1 (.ref a0) y s3_24) ++ (cX0 a0 h0 y S0))) hD hS hA [0, 1, 2, 3, 4, 6, 7, 8, 9, 10, 11, 12, 13, 14, 15, 16, 17] rfl
    refine va_calli (va_runV (As := [.long (gL s3_24 6), .int (gI s3_24 7), .int 2]) (rest := []) ⟨hx, hb, hml, hown, hts⟩ (m_X3_tell l dC dI y a3 h3 s3_24 a0 h0 S0 a1 (gL s3_24 6) (gI s3_24 7) (2 : Int32) H23.size r25 s3_26 s0_27 hc28) (cwV 3 hts gX3_tellOrDrive_X3_tell rfl rfl rfl (by decide +kernel) ⟨Nat.le_of_ble_eq_true rfl, Nat.le_of_ble_eq_true rfl⟩) ⟨fun a U g mk q => by obtain ⟨q0, q1, qP, qK, qD⟩ := q; exact ⟨q0, q1, qP, va_K.moved (u := U) (U := U.calling g mk a) (Vm.Alike.refl U.vm) qK, qD⟩, va_recv hK hPc (ci := 2) (q0 := 0) rfl rfl, fun U hU hW => ⟨rfl, by rw [hU], by rw [hU]; exact hPc, va_K.moved hW.alike hK, hDc.weaken (fun _ _ _ _ => trivial)⟩⟩ rfl rfl hl.1 rfl (lv_room (Nat.le_of_ble_eq_true rfl)) dX3_tellOrDrive_27 ⟨Nat.le_of_ble_eq_true rfl, Nat.le_of_ble_eq_true rfl⟩) hS (fun q _ h => hFc q h) hFc (fun rr30 u t H29 locs ht hvm hw hB hz1 hk1 hS => ?_)
    obtain ⟨hP1, hK1, hD1⟩ := hB
    rw [ht] at hP1
    refine zTopi hw.symm ?_
    obtain ⟨hP, hD⟩ := va_join (wr := [(oX1 a1 h1 tv S1)]) (w1 := ((cX3 a3 h3 a1 (.ref a0) y s3_26) ++ (cX0 a0 h0 y s0_27))) hP hD [0, 1, 2, 3, 4, 6, 7, 8, 9, 10, 11, 12, 13, 14, 15, 16, 17] [5] rfl rfl (by decide) (by decide) hk1 hFc hP1 hD1
    have hP : va_P (dC, dI) vwCl ((cX3 a3 h3 a1 (.ref a0) y s3_26) ++ ((cX1 a1 h1 tv y S1) ++ (cX0 a0 h0 y s0_27))) H29 := hP.sub [1, 2, 3, 4, 5, 0, 6, 7, 8, 9, 10, 11, 12, 13, 14, 15, 16, 17] rfl
    have hD : va_D A ((cX3 a3 h3 a1 (.ref a0) y s3_26) ++ ((cX1 a1 h1 tv y S1) ++ (cX0 a0 h0 y s0_27))) := hD.sub [1, 2, 3, 4, 5, 0, 6, 7, 8, 9, 10, 11, 12, 13, 14, 15, 16, 17] (by decide) rfl
    refine lv_if_eq (tgt := 45) hx hb dX3_tellOrDrive_30 (by decide) (fun c31 => ?_) (fun c31 => ?_)
    · have h := zY c31 h
      refine lv_iconst (v := 0) hx hb dX3_tellOrDrive_45 (by decide) ?_
      have ho0 : (0 : Int32) = or_ := congrArg (fun z : Int32 × SS × SS => z.1) (Option.some.inj h)
      have ho1 : s3_26 = o_3 := congrArg (fun z : Int32 × SS × SS => z.2.1) (Option.some.inj h)
      have ho2 : s0_27 = o_0 := congrArg (fun z : Int32 × SS × SS => z.2.2) (Option.some.inj h)
      exact W.zret (v := 0) hx hb hr (by decide) (fun t ht hW => ⟨⟨0, (), rfl, ho0, by rw [ht]; rw [← ho1, ← ho2]; exact hP, va_K.moved hW.alike hK, by rw [← ho1, ← ho2]; exact hD⟩, hS.F ht⟩) hS.2.2 dX3_tellOrDrive_46
    · have h := zN c31 h
      refine lv_aload_n hx hb dX3_tellOrDrive_33 rfl (lv_at hl 0 rfl) ?_
      refine lv_iconst (v := 4) hx hb dX3_tellOrDrive_34 (by decide) ?_
      obtain ⟨⟨r32, s3_33⟩, hc34, h⟩ := zB_spec h
      have hPc := hP.sub (ws' := (cX3 a3 h3 a1 (.ref a0) y s3_26)) [0, 1, 2, 3, 4] rfl
      have hDc := hD.sub (ws' := (cX3 a3 h3 a1 (.ref a0) y s3_26)) [0, 1, 2, 3, 4] (by decide) rfl
      have hFc := va_free (wc := (cX3 a3 h3 a1 (.ref a0) y s3_26)) hD hS hA [0, 1, 2, 3, 4] rfl
      refine va_calli (va_runV (As := [.int 4]) (rest := []) ⟨hx, hb, hml, hown, hts⟩ (m_X3_go l dC dI y a3 h3 s3_26 a1 (.ref a0) (4 : Int32) H29.size r32 s3_33 hc34) (cwV 1 hts gX3_tellOrDrive_X3_go rfl rfl rfl (by decide +kernel) ⟨Nat.le_of_ble_eq_true rfl, Nat.le_of_ble_eq_true rfl⟩) ⟨fun a U g mk q => by obtain ⟨q0, q1, qP, qK, qD⟩ := q; exact ⟨q0, q1, qP, va_K.moved (u := U) (U := U.calling g mk a) (Vm.Alike.refl U.vm) qK, qD⟩, va_recv hK hPc (ci := 2) (q0 := 0) rfl rfl, fun U hU hW => ⟨rfl, by rw [hU], by rw [hU]; exact hPc, va_K.moved hW.alike hK, hDc.weaken (fun _ _ _ _ => trivial)⟩⟩ rfl rfl hl.1 rfl (lv_room (Nat.le_of_ble_eq_true rfl)) dX3_tellOrDrive_35 ⟨Nat.le_of_ble_eq_true rfl, Nat.le_of_ble_eq_true rfl⟩) hS (fun q _ h => hFc q h) hFc (fun rr36 u t H35 locs ht hvm hw hB hz1 hk1 hS => ?_)
      obtain ⟨hP1, hK1, hD1⟩ := hB
      rw [ht] at hP1
      refine zTopi hw.symm ?_
      obtain ⟨hP, hD⟩ := va_join (wr := [(oX1 a1 h1 tv S1), (oX0 a0 h0 s0_27), (h0 2, .inl (y 1, 60, .inr (.inl (gB s0_27 2)))), (h0 3, .inl (y 0, 60, .inl (gA s0_27 3))), (h0 4, .inl (y 0, 60, .inl (gA s0_27 4))), (h0 5, .inl (y 0, 60, .inl (gA s0_27 5))), (h0 6, .inl (y 0, 60, .inl (gA s0_27 6))), (h0 7, .inl (y 0, 720, .inl (gA s0_27 7))), (h0 8, .inl (y 0, 60, .inl (gA s0_27 8))), (h0 9, .inl (y 0, 60, .inl (gA s0_27 9))), (h0 10, .inl (y 1, 60, .inr (.inl (gB s0_27 10)))), (h0 11, .inl (y 0, 60, .inl (gA s0_27 11))), (h0 12, .inl (y 0, 60, .inl (gA s0_27 12)))]) (w1 := (cX3 a3 h3 a1 (.ref a0) y s3_33)) hP hD [0, 1, 2, 3, 4] [5, 6, 7, 8, 9, 10, 11, 12, 13, 14, 15, 16, 17] rfl rfl (by decide) (by decide) hk1 hFc hP1 hD1
      have hP : va_P (dC, dI) vwCl ((cX3 a3 h3 a1 (.ref a0) y s3_33) ++ ((cX1 a1 h1 tv y S1) ++ (cX0 a0 h0 y s0_27))) H35 := hP.sub [13, 14, 15, 16, 17, 0, 1, 2, 3, 4, 5, 6, 7, 8, 9, 10, 11, 12] rfl
      have hD : va_D A ((cX3 a3 h3 a1 (.ref a0) y s3_33) ++ ((cX1 a1 h1 tv y S1) ++ (cX0 a0 h0 y s0_27))) := hD.sub [13, 14, 15, 16, 17, 0, 1, 2, 3, 4, 5, 6, 7, 8, 9, 10, 11, 12] (by decide) rfl
      refine lv_if_eq (tgt := 45) hx hb dX3_tellOrDrive_38 (by decide) (fun c37 => ?_) (fun c37 => ?_)
      · have h := zY c37 h
        refine lv_iconst (v := 0) hx hb dX3_tellOrDrive_45 (by decide) ?_
        have ho0 : (0 : Int32) = or_ := congrArg (fun z : Int32 × SS × SS => z.1) (Option.some.inj h)
        have ho1 : s3_33 = o_3 := congrArg (fun z : Int32 × SS × SS => z.2.1) (Option.some.inj h)
        have ho2 : s0_27 = o_0 := congrArg (fun z : Int32 × SS × SS => z.2.2) (Option.some.inj h)
        exact W.zret (v := 0) hx hb hr (by decide) (fun t ht hW => ⟨⟨0, (), rfl, ho0, by rw [ht]; rw [← ho1, ← ho2]; exact hP, va_K.moved hW.alike hK, by rw [← ho1, ← ho2]; exact hD⟩, hS.F ht⟩) hS.2.2 dX3_tellOrDrive_46
      · have h := zN c37 h
        refine lv_iconst (v := 1) hx hb dX3_tellOrDrive_41 (by decide) ?_
        refine lv_goto (tgt := 46) hx hb dX3_tellOrDrive_42 (by decide) ?_
        have ho0 : (1 : Int32) = or_ := congrArg (fun z : Int32 × SS × SS => z.1) (Option.some.inj h)
        have ho1 : s3_33 = o_3 := congrArg (fun z : Int32 × SS × SS => z.2.1) (Option.some.inj h)
        have ho2 : s0_27 = o_0 := congrArg (fun z : Int32 × SS × SS => z.2.2) (Option.some.inj h)
        exact W.zret (v := 1) hx hb hr (by decide) (fun t ht hW => ⟨⟨1, (), rfl, ho0, by rw [ht]; rw [← ho1, ← ho2]; exact hP, va_K.moved hW.alike hK, by rw [← ho1, ← ho2]; exact hD⟩, hS.F ht⟩) hS.2.2 dX3_tellOrDrive_46

set_option maxHeartbeats 4000000 in
set_option maxRecDepth 100000 in
theorem m_X3_takeGate (l : Launch) (dC : Nat → ClassId) (dI : Nat → Nat → Nat) (y : Nat → ClassId) (a3 : Nat) (h3 : Nat → Nat) (S3 : SS) (a1 : Nat) (h1 : Nat → Nat) (S1 : SS) (a0 : Nat) (h0 : Nat → Nat) (S0 : SS) (tv : Value) (tg : Nat × Nat × Nat × Nat) (sz : Nat) (or_ : Int32) (o_3 : SS) (o_0 : SS) (h : f_X3_takeGate S3 S1 S0 = some (or_, o_3, o_0)) : Met l yX3_takeGate wsX3_takeGate ({ frames := 2, cells := 0, slots := 0, locals := 44 }) (va_Pc [.ref a3] (fun U => U.heap.size = sz ∧ va_P (dC, dI) vwCl ((cX3 a3 h3 a1 (.ref a0) y S3) ++ ((cX1 a1 h1 tv y S1) ++ (cX0 a0 h0 y S0))) U.heap ∧ va_K (dC, dI) vwCl [(y 0, .int), (y 1, .long), (y 2, .byte), (y 3, .boolean)] U ∧ va_D (fun _ => True) ((cX3 a3 h3 a1 (.ref a0) y S3) ++ ((cX1 a1 h1 tv y S1) ++ (cX0 a0 h0 y S0))) ∧ STG tg (va_A ((cX3 a3 h3 a1 (.ref a0) y S3) ++ ((cX1 a1 h1 tv y S1) ++ (cX0 a0 h0 y S0))) sz) U U.heap)) (va_Qi (fun (r : Int32) (_ : Unit) => r = or_) (fun (_ : Unit) (t : State) => va_P (dC, dI) vwCl ((cX3 a3 h3 a1 (.ref a0) y o_3) ++ ((cX1 a1 h1 tv y S1) ++ (cX0 a0 h0 y o_0))) t.heap ∧ va_K (dC, dI) vwCl [(y 0, .int), (y 1, .long), (y 2, .byte), (y 3, .boolean)] t ∧ va_D (va_A ((cX3 a3 h3 a1 (.ref a0) y S3) ++ ((cX1 a1 h1 tv y S1) ++ (cX0 a0 h0 y S0))) sz) ((cX3 a3 h3 a1 (.ref a0) y o_3) ++ ((cX1 a1 h1 tv y S1) ++ (cX0 a0 h0 y o_0)))) (va_A ((cX3 a3 h3 a1 (.ref a0) y S3) ++ ((cX1 a1 h1 tv y S1) ++ (cX0 a0 h0 y S0))) sz)) 0 0 (va_A ((cX3 a3 h3 a1 (.ref a0) y S3) ++ ((cX1 a1 h1 tv y S1) ++ (cX0 a0 h0 y S0))) sz) := by
  refine Met.ofW (cc := cX3_takeGate) (maxL := 3) (ret := (some .boolean)) (by decide +kernel) rfl ?_
  intro p e s m args below meth c s₁ B hml hv
  obtain ⟨rfl, hsz, hP, hK, hD0, hST⟩ := hv
  have hx := B.exec
  have hb := B.bytes
  have hr := B.returns
  have hts := atoms_spec (ws := wsX3_takeGate) B.pre
  have hown : s.vm.findClass RX3 = some m.cls := findClass_of_methodNamed B.named
  have hlocks := B.notSynchronized
  have inX0_ : ∀ w ∈ wsX00, w ∈ wsX3_takeGate := fun _ h => List.mem_cons_of_mem _ (List.mem_append_left _ (List.mem_append_right _ h))
  have inX3_ : ∀ w ∈ wsX30, w ∈ wsX3_takeGate := fun _ h => List.mem_cons_of_mem _ (List.mem_append_left _ (List.mem_append_left _ (List.mem_append_right _ h)))
  subst hsz
  have hD := hD0.self (sz := s.heap.size)
  generalize hAe : va_A ((cX3 a3 h3 a1 (.ref a0) y S3) ++ ((cX1 a1 h1 tv y S1) ++ (cX0 a0 h0 y S0))) s.heap.size = A at hD hST ⊢
  have hA : ∀ q : Nat, s.heap.size ≤ q → A q := fun q h => by rw [← hAe]; exact Or.inr h
  have hS : va_S A s.heap s.heap [] := va_S.rf
  have hP : va_P (dC, dI) vwCl ((cX3 a3 h3 a1 (.ref a0) y S3) ++ ((cX1 a1 h1 tv y S1) ++ (cX0 a0 h0 y S0))) s.heap := hP
  have hl := lv_entry ([.ref a3]) (n := 3) (Nat.le_of_ble_eq_true rfl)
  rw [lg_entry_eq]
  generalize (lg_sl ([.ref a3]) ++ List.replicate (3 - (lg_sl ([.ref a3])).length) Slot.unset).toArray = ls at hl ⊢
  have hl : lv_has ls 3 [(0, .ref a3)] := hl
  refine lv_aload_n hx hb dX3_takeGate_0 rfl (lv_at hl 0 rfl) ?_
  refine va_get (D := (dC, dI)) (ci := 2) (v := .ref a0) (C := RX3) (T := TX3) (N := 17) hx hb hts inX3_ hown hK hP 0 rfl rfl 3 (by decide) (hts (.fieldLink RX3 36 "GateWheel$Reader" "circuit" "LGateWheel$Circuit;") (List.mem_of_getElem? (i := 1) rfl)) (fun _ h9 => h9) rfl dX3_takeGate_1 ?_
  refine va_get (D := (dC, dI)) (ci := 0) (v := .int (gI S0 0)) (C := RX0) (T := TX0) (N := 13) hx hb hts inX0_ hown hK hP 6 rfl rfl 0 (by decide) (hts (.fieldLink RX3 154 "GateWheel$Circuit" "count" "I") (List.mem_of_getElem? (i := 2) rfl)) (fun _ h9 => h9) rfl dX3_takeGate_4 ?_
  refine lv_iconst (v := 1) hx hb dX3_takeGate_7 (by decide) ?_
  refine lv_isub hx hb dX3_takeGate_8 ?_
  obtain ⟨v1, ev1, h⟩ := zL_spec h
  refine zTopi ev1 ?_
  refine lv_istore_n (lv' := [(1, .int v1), (0, .ref a3)]) hx hb dX3_takeGate_9 rfl hl (by decide) rfl (fun ls hl => ?_)
  refine lv_aload_n hx hb dX3_takeGate_10 rfl (lv_at hl 1 rfl) ?_
  obtain ⟨r2, hc3, h⟩ := zB_spec h
  have hPc := hP.sub (ws' := ((cX3 a3 h3 a1 (.ref a0) y S3) ++ (cX1 a1 h1 tv y S1))) [0, 1, 2, 3, 4, 5] rfl
  have hDc := hD.sub (ws' := ((cX3 a3 h3 a1 (.ref a0) y S3) ++ (cX1 a1 h1 tv y S1))) [0, 1, 2, 3, 4, 5] (by decide) rfl
  have hFc := va_free (wc := ((cX3 a3 h3 a1 (.ref a0) y S3) ++ (cX1 a1 h1 tv y S1))) hD hS hA [0, 1, 2, 3, 4, 5] rfl
  refine va_calli (va_runV (As := []) (rest := []) ⟨hx, hb, hml, hown, hts⟩ (m_X3_gateHere l dC dI y a3 h3 S3 a1 h1 S1 (.ref a0) tv tg s.heap.size r2 hc3) (cwV 0 hts gX3_takeGate_X3_gateHere rfl rfl rfl (by decide +kernel) ⟨Nat.le_of_ble_eq_true rfl, Nat.le_of_ble_eq_true rfl⟩) ⟨fun a U g mk q => by obtain ⟨q0, q1, qP, qK, qD, qT⟩ := q; exact ⟨q0, q1, qP, va_K.moved (u := U) (U := U.calling g mk a) (Vm.Alike.refl U.vm) qK, qD, STG_moved (u := U) (U := U.calling g mk a) (Vm.Alike.refl U.vm) qT⟩, va_recv hK hPc (ci := 2) (q0 := 0) rfl rfl, fun U hU hW => ⟨rfl, by rw [hU], by rw [hU]; exact hPc, va_K.moved hW.alike hK, hDc.weaken (fun _ _ _ _ => trivial), by rw [hU]; exact STG_moved hW.alike (STG_narrow (STG_kept hST hS.2.1) hFc)⟩⟩ rfl rfl hl.1 rfl (lv_room (Nat.le_of_ble_eq_true rfl)) dX3_takeGate_11 ⟨Nat.le_of_ble_eq_true rfl, Nat.le_of_ble_eq_true rfl⟩) hS (fun q _ h => hFc q h) hFc (fun rr5 u t H4 locs ht hvm hw hB hz1 hk1 hS => ?_)
  obtain ⟨hP1, hK1, hD1⟩ := hB
  rw [ht] at hP1
  refine zTopi hw.symm ?_
  obtain ⟨hP, hD⟩ := va_join (wr := [(oX0 a0 h0 S0), (h0 2, .inl (y 1, 60, .inr (.inl (gB S0 2)))), (h0 3, .inl (y 0, 60, .inl (gA S0 3))), (h0 4, .inl (y 0, 60, .inl (gA S0 4))), (h0 5, .inl (y 0, 60, .inl (gA S0 5))), (h0 6, .inl (y 0, 60, .inl (gA S0 6))), (h0 7, .inl (y 0, 720, .inl (gA S0 7))), (h0 8, .inl (y 0, 60, .inl (gA S0 8))), (h0 9, .inl (y 0, 60, .inl (gA S0 9))), (h0 10, .inl (y 1, 60, .inr (.inl (gB S0 10)))), (h0 11, .inl (y 0, 60, .inl (gA S0 11))), (h0 12, .inl (y 0, 60, .inl (gA S0 12)))]) (w1 := ((cX3 a3 h3 a1 (.ref a0) y S3) ++ (cX1 a1 h1 tv y S1))) hP hD [0, 1, 2, 3, 4, 5] [6, 7, 8, 9, 10, 11, 12, 13, 14, 15, 16, 17] rfl rfl (by decide) (by decide) hk1 hFc hP1 hD1
  have hP : va_P (dC, dI) vwCl ((cX3 a3 h3 a1 (.ref a0) y S3) ++ ((cX1 a1 h1 tv y S1) ++ (cX0 a0 h0 y S0))) H4 := hP.sub [12, 13, 14, 15, 16, 17, 0, 1, 2, 3, 4, 5, 6, 7, 8, 9, 10, 11] rfl
  have hD : va_D A ((cX3 a3 h3 a1 (.ref a0) y S3) ++ ((cX1 a1 h1 tv y S1) ++ (cX0 a0 h0 y S0))) := hD.sub [12, 13, 14, 15, 16, 17, 0, 1, 2, 3, 4, 5, 6, 7, 8, 9, 10, 11] (by decide) rfl
  refine lv_istore_n (lv' := [(2, .int r2), (1, .int v1), (0, .ref a3)]) hx hb dX3_takeGate_14 rfl hl (by decide) rfl (fun ls hl => ?_)
  refine lv_iload_n hx hb dX3_takeGate_15 rfl (lv_at hl 0 rfl) ?_
  refine lv_iconst (v := (-1)) hx hb dX3_takeGate_16 (by decide) ?_
  refine lv_icmp_eq (tgt := 31) hx hb dX3_takeGate_17 (by decide) (fun c6 => ?_) (fun c6 => ?_)
  · have h := zY c6 h
    refine lv_aload_n hx hb dX3_takeGate_31 rfl (lv_at hl 2 rfl) ?_
    obtain ⟨⟨r7, s3_8⟩, hc9, h⟩ := zB_spec h
    have hPc := hP.sub (ws' := ((cX3 a3 h3 a1 (.ref a0) y S3) ++ (cX1 a1 h1 tv y S1))) [0, 1, 2, 3, 4, 5] rfl
    have hDc := hD.sub (ws' := ((cX3 a3 h3 a1 (.ref a0) y S3) ++ (cX1 a1 h1 tv y S1))) [0, 1, 2, 3, 4, 5] (by decide) rfl
    have hFc := va_free (wc := ((cX3 a3 h3 a1 (.ref a0) y S3) ++ (cX1 a1 h1 tv y S1))) hD hS hA [0, 1, 2, 3, 4, 5] rfl
    refine va_calli (va_runV (As := []) (rest := []) ⟨hx, hb, hml, hown, hts⟩ (m_X3_refuse l dC dI y a3 h3 S3 a1 h1 S1 (.ref a0) tv H4.size r7 s3_8 hc9) (cwV 0 hts gX3_takeGate_X3_refuse rfl rfl rfl (by decide +kernel) ⟨Nat.le_of_ble_eq_true rfl, Nat.le_of_ble_eq_true rfl⟩) ⟨fun a U g mk q => by obtain ⟨q0, q1, qP, qK, qD⟩ := q; exact ⟨q0, q1, qP, va_K.moved (u := U) (U := U.calling g mk a) (Vm.Alike.refl U.vm) qK, qD⟩, va_recv hK hPc (ci := 2) (q0 := 0) rfl rfl, fun U hU hW => ⟨rfl, by rw [hU], by rw [hU]; exact hPc, va_K.moved hW.alike hK, hDc.weaken (fun _ _ _ _ => trivial)⟩⟩ rfl rfl hl.1 rfl (lv_room (Nat.le_of_ble_eq_true rfl)) dX3_takeGate_32 ⟨Nat.le_of_ble_eq_true rfl, Nat.le_of_ble_eq_true rfl⟩) hS (fun q _ h => hFc q h) hFc (fun rr11 u t H10 locs ht hvm hw hB hz1 hk1 hS => ?_)
    obtain ⟨hP1, hK1, hD1⟩ := hB
    rw [ht] at hP1
    refine zTopi hw.symm ?_
    obtain ⟨hP, hD⟩ := va_join (wr := [(oX0 a0 h0 S0), (h0 2, .inl (y 1, 60, .inr (.inl (gB S0 2)))), (h0 3, .inl (y 0, 60, .inl (gA S0 3))), (h0 4, .inl (y 0, 60, .inl (gA S0 4))), (h0 5, .inl (y 0, 60, .inl (gA S0 5))), (h0 6, .inl (y 0, 60, .inl (gA S0 6))), (h0 7, .inl (y 0, 720, .inl (gA S0 7))), (h0 8, .inl (y 0, 60, .inl (gA S0 8))), (h0 9, .inl (y 0, 60, .inl (gA S0 9))), (h0 10, .inl (y 1, 60, .inr (.inl (gB S0 10)))), (h0 11, .inl (y 0, 60, .inl (gA S0 11))), (h0 12, .inl (y 0, 60, .inl (gA S0 12)))]) (w1 := ((cX3 a3 h3 a1 (.ref a0) y s3_8) ++ (cX1 a1 h1 tv y S1))) hP hD [0, 1, 2, 3, 4, 5] [6, 7, 8, 9, 10, 11, 12, 13, 14, 15, 16, 17] rfl rfl (by decide) (by decide) hk1 hFc hP1 hD1
    have hP : va_P (dC, dI) vwCl ((cX3 a3 h3 a1 (.ref a0) y s3_8) ++ ((cX1 a1 h1 tv y S1) ++ (cX0 a0 h0 y S0))) H10 := hP.sub [12, 13, 14, 15, 16, 17, 0, 1, 2, 3, 4, 5, 6, 7, 8, 9, 10, 11] rfl
    have hD : va_D A ((cX3 a3 h3 a1 (.ref a0) y s3_8) ++ ((cX1 a1 h1 tv y S1) ++ (cX0 a0 h0 y S0))) := hD.sub [12, 13, 14, 15, 16, 17, 0, 1, 2, 3, 4, 5, 6, 7, 8, 9, 10, 11] (by decide) rfl
    obtain ⟨hz12, h⟩ := zG_spec h
    have ho0 : r7 = or_ := congrArg (fun z : Int32 × SS × SS => z.1) (Option.some.inj h)
    have ho1 : s3_8 = o_3 := congrArg (fun z : Int32 × SS × SS => z.2.1) (Option.some.inj h)
    have ho2 : S0 = o_0 := congrArg (fun z : Int32 × SS × SS => z.2.2) (Option.some.inj h)
    exact W.zret (v := r7) hx hb hr (zb_nar hz12) (fun t ht hW => ⟨⟨r7, (), rfl, ho0, by rw [ht]; rw [← ho1, ← ho2]; exact hP, va_K.moved hW.alike hK, by rw [← ho1, ← ho2]; exact hD⟩, hS.F ht⟩) hS.2.2 dX3_takeGate_35
  · have h := zN c6 h
    refine lv_aload_n hx hb dX3_takeGate_20 rfl (lv_at hl 2 rfl) ?_
    refine va_get (D := (dC, dI)) (ci := 2) (v := .ref a0) (C := RX3) (T := TX3) (N := 17) hx hb hts inX3_ hown hK hP 0 rfl rfl 3 (by decide) (hts (.fieldLink RX3 36 "GateWheel$Reader" "circuit" "LGateWheel$Circuit;") (List.mem_of_getElem? (i := 1) rfl)) (fun _ h9 => h9) rfl dX3_takeGate_21 ?_
    refine lv_iload_n hx hb dX3_takeGate_24 rfl (lv_at hl 1 rfl) ?_
    obtain ⟨r13, hc14, h⟩ := zB_spec h
    have hPc := hP.sub (ws' := (cX0 a0 h0 y S0)) [6, 7, 8, 9, 10, 11, 12, 13, 14, 15, 16, 17] rfl
    have hDc := hD.sub (ws' := (cX0 a0 h0 y S0)) [6, 7, 8, 9, 10, 11, 12, 13, 14, 15, 16, 17] (by decide) rfl
    have hFc := va_free (wc := (cX0 a0 h0 y S0)) hD hS hA [6, 7, 8, 9, 10, 11, 12, 13, 14, 15, 16, 17] rfl
    refine va_calli (va_runV (As := [.int v1]) (rest := []) ⟨hx, hb, hml, hown, hts⟩ (m_X0_has l dC dI y a0 h0 S0 v1 H4.size r13 hc14) (cwV 1 hts gX3_takeGate_X0_has rfl rfl rfl (by decide +kernel) ⟨Nat.le_of_ble_eq_true rfl, Nat.le_of_ble_eq_true rfl⟩) ⟨fun a U g mk q => by obtain ⟨q0, q1, qP, qK, qD⟩ := q; exact ⟨q0, q1, qP, va_K.moved (u := U) (U := U.calling g mk a) (Vm.Alike.refl U.vm) qK, qD⟩, va_recv hK hPc (ci := 0) (q0 := 0) rfl rfl, fun U hU hW => ⟨rfl, by rw [hU], by rw [hU]; exact hPc, va_K.moved hW.alike hK, hDc.weaken (fun _ _ _ _ => trivial)⟩⟩ rfl rfl hl.1 rfl (lv_room (Nat.le_of_ble_eq_true rfl)) dX3_takeGate_25 ⟨Nat.le_of_ble_eq_true rfl, Nat.le_of_ble_eq_true rfl⟩) hS (fun q _ h => hFc q h) hFc (fun rr16 u t H15 locs ht hvm hw hB hz1 hk1 hS => ?_)
    obtain ⟨hP1, hK1, hD1⟩ := hB
    rw [ht] at hP1
    refine zTopi hw.symm ?_
    obtain ⟨hP, hD⟩ := va_join (wr := [(oX3 a3 h3 a1 (.ref a0) S3), (h3 12, .inl (y 1, 667, .inr (.inl (gB S3 12)))), (h3 13, .inl (y 0, 667, .inl (gA S3 13))), (h3 14, .inl (y 0, 667, .inl (gA S3 14))), (h3 16, .inl (y 1, 60, .inr (.inl (gB S3 16)))), (oX1 a1 h1 tv S1)]) (w1 := (cX0 a0 h0 y S0)) hP hD [6, 7, 8, 9, 10, 11, 12, 13, 14, 15, 16, 17] [0, 1, 2, 3, 4, 5] rfl rfl (by decide) (by decide) hk1 hFc hP1 hD1
    have hP : va_P (dC, dI) vwCl ((cX3 a3 h3 a1 (.ref a0) y S3) ++ ((cX1 a1 h1 tv y S1) ++ (cX0 a0 h0 y S0))) H15 := hP.sub [0, 1, 2, 3, 4, 5, 6, 7, 8, 9, 10, 11, 12, 13, 14, 15, 16, 17] rfl
    have hD : va_D A ((cX3 a3 h3 a1 (.ref a0) y S3) ++ ((cX1 a1 h1 tv y S1) ++ (cX0 a0 h0 y S0))) := hD.sub [0, 1, 2, 3, 4, 5, 6, 7, 8, 9, 10, 11, 12, 13, 14, 15, 16, 17] (by decide) rfl
    refine lv_if_ne (tgt := 36) hx hb dX3_takeGate_28 (by decide) (fun c17 => ?_) (fun c17 => ?_)
    · have h := zN c17 h
      refine lv_aload_n hx hb dX3_takeGate_36 rfl (lv_at hl 2 rfl) ?_
      refine va_get (D := (dC, dI)) (ci := 2) (v := .ref a0) (C := RX3) (T := TX3) (N := 17) hx hb hts inX3_ hown hK hP 0 rfl rfl 3 (by decide) (hts (.fieldLink RX3 36 "GateWheel$Reader" "circuit" "LGateWheel$Circuit;") (List.mem_of_getElem? (i := 1) rfl)) (fun _ h9 => h9) rfl dX3_takeGate_37 ?_
      refine va_get (D := (dC, dI)) (ci := 0) (v := .ref (h0 5)) (C := RX0) (T := TX0) (N := 13) hx hb hts inX0_ hown hK hP 6 rfl rfl 5 (by decide) (hts (.fieldLink RX3 182 "GateWheel$Circuit" "gates" "[I") (List.mem_of_getElem? (i := 3) rfl)) (fun _ h9 => h9) rfl dX3_takeGate_40 ?_
      refine lv_iload_n hx hb dX3_takeGate_43 rfl (lv_at hl 1 rfl) ?_
      refine lv_iload_n hx hb dX3_takeGate_44 rfl (lv_at hl 0 rfl) ?_
      obtain ⟨hi18, h⟩ := zG_spec h
      refine va_iast hx hb hK hP hD hS 10 0 rfl rfl hi18 dX3_takeGate_45 (fun H19 locs hP hD hS => ?_)
      obtain ⟨s0_20, es0_20, h⟩ := zL_spec h
      have hP : va_P (dC, dI) vwCl ((cX3 a3 h3 a1 (.ref a0) y S3) ++ ((cX1 a1 h1 tv y S1) ++ (cX0 a0 h0 y s0_20))) H19 := by rw [es0_20]; exact hP
      have hD : va_D A ((cX3 a3 h3 a1 (.ref a0) y S3) ++ ((cX1 a1 h1 tv y S1) ++ (cX0 a0 h0 y s0_20))) := by rw [es0_20]; exact hD
      refine lv_aload_n hx hb dX3_takeGate_46 rfl (lv_at hl 2 rfl) ?_
      refine lv_iload_n hx hb dX3_takeGate_47 rfl (lv_at hl 1 rfl) ?_
      refine va_gets hx hb (sl_Z hST) hS hown (hts (.fieldLink RX3 185 "GateWheel$Reader" "LEAST_PARTS" "[I") (List.mem_of_getElem? (i := 4) rfl)) (fun _ h9 => h9) dX3_takeGate_48 ?_
      refine lv_iload_n hx hb dX3_takeGate_51 rfl (lv_at hl 0 rfl) ?_
      obtain ⟨hi21, h⟩ := zG_spec h
      refine va_ti (v := .int (sl_f r2.toNatClampNeg)) hx hb (sl_T hST) hS hi21 rfl dX3_takeGate_52 ?_
      refine va_gets hx hb (sm_Z hST) hS hown (hts (.fieldLink RX3 188 "GateWheel$Reader" "MOST_PARTS" "[I") (List.mem_of_getElem? (i := 5) rfl)) (fun _ h9 => h9) dX3_takeGate_53 ?_
      refine lv_iload_n hx hb dX3_takeGate_56 rfl (lv_at hl 0 rfl) ?_
      refine va_ti (v := .int (sm_f r2.toNatClampNeg)) hx hb (sm_T hST) hS hi21 rfl dX3_takeGate_57 ?_
      obtain ⟨⟨r22, s3_23⟩, hc24, h⟩ := zB_spec h
      have hPc := hP.sub (ws' := (cX3 a3 h3 a1 (.ref a0) y S3)) [0, 1, 2, 3, 4] rfl
      have hDc := hD.sub (ws' := (cX3 a3 h3 a1 (.ref a0) y S3)) [0, 1, 2, 3, 4] (by decide) rfl
      have hFc := va_free (wc := (cX3 a3 h3 a1 (.ref a0) y S3)) hD hS hA [0, 1, 2, 3, 4] rfl
      refine va_calli (va_runV (As := [.int v1, .int (sl_f r2.toNatClampNeg), .int (sm_f r2.toNatClampNeg)]) (rest := []) ⟨hx, hb, hml, hown, hts⟩ (m_X3_beginParts l dC dI y a3 h3 S3 a1 (.ref a0) v1 (sl_f r2.toNatClampNeg) (sm_f r2.toNatClampNeg) H19.size r22 s3_23 hc24) (cwV 3 hts gX3_takeGate_X3_beginParts rfl rfl rfl (by decide +kernel) ⟨Nat.le_of_ble_eq_true rfl, Nat.le_of_ble_eq_true rfl⟩) ⟨fun a U g mk q => by obtain ⟨q0, q1, qP, qK, qD⟩ := q; exact ⟨q0, q1, qP, va_K.moved (u := U) (U := U.calling g mk a) (Vm.Alike.refl U.vm) qK, qD⟩, va_recv hK hPc (ci := 2) (q0 := 0) rfl rfl, fun U hU hW => ⟨rfl, by rw [hU], by rw [hU]; exact hPc, va_K.moved hW.alike hK, hDc.weaken (fun _ _ _ _ => trivial)⟩⟩ rfl rfl hl.1 rfl (lv_room (Nat.le_of_ble_eq_true rfl)) dX3_takeGate_58 ⟨Nat.le_of_ble_eq_true rfl, Nat.le_of_ble_eq_true rfl⟩) hS (fun q _ h => hFc q h) hFc (fun rr26 u t H25 locs ht hvm hw hB hz1 hk1 hS => ?_)
      obtain ⟨hP1, hK1, hD1⟩ := hB
      rw [ht] at hP1
      refine zTopi hw.symm ?_
      obtain ⟨hP, hD⟩ := va_join (wr := [(oX1 a1 h1 tv S1), (oX0 a0 h0 s0_20), (h0 2, .inl (y 1, 60, .inr (.inl (gB s0_20 2)))), (h0 3, .inl (y 0, 60, .inl (gA s0_20 3))), (h0 4, .inl (y 0, 60, .inl (gA s0_20 4))), (h0 5, .inl (y 0, 60, .inl (gA s0_20 5))), (h0 6, .inl (y 0, 60, .inl (gA s0_20 6))), (h0 7, .inl (y 0, 720, .inl (gA s0_20 7))), (h0 8, .inl (y 0, 60, .inl (gA s0_20 8))), (h0 9, .inl (y 0, 60, .inl (gA s0_20 9))), (h0 10, .inl (y 1, 60, .inr (.inl (gB s0_20 10)))), (h0 11, .inl (y 0, 60, .inl (gA s0_20 11))), (h0 12, .inl (y 0, 60, .inl (gA s0_20 12)))]) (w1 := (cX3 a3 h3 a1 (.ref a0) y s3_23)) hP hD [0, 1, 2, 3, 4] [5, 6, 7, 8, 9, 10, 11, 12, 13, 14, 15, 16, 17] rfl rfl (by decide) (by decide) hk1 hFc hP1 hD1
      have hP : va_P (dC, dI) vwCl ((cX3 a3 h3 a1 (.ref a0) y s3_23) ++ ((cX1 a1 h1 tv y S1) ++ (cX0 a0 h0 y s0_20))) H25 := hP.sub [13, 14, 15, 16, 17, 0, 1, 2, 3, 4, 5, 6, 7, 8, 9, 10, 11, 12] rfl
      have hD : va_D A ((cX3 a3 h3 a1 (.ref a0) y s3_23) ++ ((cX1 a1 h1 tv y S1) ++ (cX0 a0 h0 y s0_20))) := hD.sub [13, 14, 15, 16, 17, 0, 1, 2, 3, 4, 5, 6, 7, 8, 9, 10, 11, 12] (by decide) rfl
      obtain ⟨hz27, h⟩ := zG_spec h
      have ho0 : r22 = or_ := congrArg (fun z : Int32 × SS × SS => z.1) (Option.some.inj h)
      have ho1 : s3_23 = o_3 := congrArg (fun z : Int32 × SS × SS => z.2.1) (Option.some.inj h)
      have ho2 : s0_20 = o_0 := congrArg (fun z : Int32 × SS × SS => z.2.2) (Option.some.inj h)
      exact W.zret (v := r22) hx hb hr (zb_nar hz27) (fun t ht hW => ⟨⟨r22, (), rfl, ho0, by rw [ht]; rw [← ho1, ← ho2]; exact hP, va_K.moved hW.alike hK, by rw [← ho1, ← ho2]; exact hD⟩, hS.F ht⟩) hS.2.2 dX3_takeGate_61
    · have h := zY c17 h
      refine lv_aload_n hx hb dX3_takeGate_31 rfl (lv_at hl 2 rfl) ?_
      obtain ⟨⟨r28, s3_29⟩, hc30, h⟩ := zB_spec h
      have hPc := hP.sub (ws' := ((cX3 a3 h3 a1 (.ref a0) y S3) ++ (cX1 a1 h1 tv y S1))) [0, 1, 2, 3, 4, 5] rfl
      have hDc := hD.sub (ws' := ((cX3 a3 h3 a1 (.ref a0) y S3) ++ (cX1 a1 h1 tv y S1))) [0, 1, 2, 3, 4, 5] (by decide) rfl
      have hFc := va_free (wc := ((cX3 a3 h3 a1 (.ref a0) y S3) ++ (cX1 a1 h1 tv y S1))) hD hS hA [0, 1, 2, 3, 4, 5] rfl
      refine va_calli (va_runV (As := []) (rest := []) ⟨hx, hb, hml, hown, hts⟩ (m_X3_refuse l dC dI y a3 h3 S3 a1 h1 S1 (.ref a0) tv H15.size r28 s3_29 hc30) (cwV 0 hts gX3_takeGate_X3_refuse rfl rfl rfl (by decide +kernel) ⟨Nat.le_of_ble_eq_true rfl, Nat.le_of_ble_eq_true rfl⟩) ⟨fun a U g mk q => by obtain ⟨q0, q1, qP, qK, qD⟩ := q; exact ⟨q0, q1, qP, va_K.moved (u := U) (U := U.calling g mk a) (Vm.Alike.refl U.vm) qK, qD⟩, va_recv hK hPc (ci := 2) (q0 := 0) rfl rfl, fun U hU hW => ⟨rfl, by rw [hU], by rw [hU]; exact hPc, va_K.moved hW.alike hK, hDc.weaken (fun _ _ _ _ => trivial)⟩⟩ rfl rfl hl.1 rfl (lv_room (Nat.le_of_ble_eq_true rfl)) dX3_takeGate_32 ⟨Nat.le_of_ble_eq_true rfl, Nat.le_of_ble_eq_true rfl⟩) hS (fun q _ h => hFc q h) hFc (fun rr32 u t H31 locs ht hvm hw hB hz1 hk1 hS => ?_)
      obtain ⟨hP1, hK1, hD1⟩ := hB
      rw [ht] at hP1
      refine zTopi hw.symm ?_
      obtain ⟨hP, hD⟩ := va_join (wr := [(oX0 a0 h0 S0), (h0 2, .inl (y 1, 60, .inr (.inl (gB S0 2)))), (h0 3, .inl (y 0, 60, .inl (gA S0 3))), (h0 4, .inl (y 0, 60, .inl (gA S0 4))), (h0 5, .inl (y 0, 60, .inl (gA S0 5))), (h0 6, .inl (y 0, 60, .inl (gA S0 6))), (h0 7, .inl (y 0, 720, .inl (gA S0 7))), (h0 8, .inl (y 0, 60, .inl (gA S0 8))), (h0 9, .inl (y 0, 60, .inl (gA S0 9))), (h0 10, .inl (y 1, 60, .inr (.inl (gB S0 10)))), (h0 11, .inl (y 0, 60, .inl (gA S0 11))), (h0 12, .inl (y 0, 60, .inl (gA S0 12)))]) (w1 := ((cX3 a3 h3 a1 (.ref a0) y s3_29) ++ (cX1 a1 h1 tv y S1))) hP hD [0, 1, 2, 3, 4, 5] [6, 7, 8, 9, 10, 11, 12, 13, 14, 15, 16, 17] rfl rfl (by decide) (by decide) hk1 hFc hP1 hD1
      have hP : va_P (dC, dI) vwCl ((cX3 a3 h3 a1 (.ref a0) y s3_29) ++ ((cX1 a1 h1 tv y S1) ++ (cX0 a0 h0 y S0))) H31 := hP.sub [12, 13, 14, 15, 16, 17, 0, 1, 2, 3, 4, 5, 6, 7, 8, 9, 10, 11] rfl
      have hD : va_D A ((cX3 a3 h3 a1 (.ref a0) y s3_29) ++ ((cX1 a1 h1 tv y S1) ++ (cX0 a0 h0 y S0))) := hD.sub [12, 13, 14, 15, 16, 17, 0, 1, 2, 3, 4, 5, 6, 7, 8, 9, 10, 11] (by decide) rfl
      obtain ⟨hz33, h⟩ := zG_spec h
      have ho0 : r28 = or_ := congrArg (fun z : Int32 × SS × SS => z.1) (Option.some.inj h)
      have ho1 : s3_29 = o_3 := congrArg (fun z : Int32 × SS × SS => z.2.1) (Option.some.inj h)
      have ho2 : S0 = o_0 := congrArg (fun z : Int32 × SS × SS => z.2.2) (Option.some.inj h)
      exact W.zret (v := r28) hx hb hr (zb_nar hz33) (fun t ht hW => ⟨⟨r28, (), rfl, ho0, by rw [ht]; rw [← ho1, ← ho2]; exact hP, va_K.moved hW.alike hK, by rw [← ho1, ← ho2]; exact hD⟩, hS.F ht⟩) hS.2.2 dX3_takeGate_35

set_option maxHeartbeats 4000000 in
set_option maxRecDepth 100000 in
theorem m_X3_takeDelay (l : Launch) (dC : Nat → ClassId) (dI : Nat → Nat → Nat) (y : Nat → ClassId) (a3 : Nat) (h3 : Nat → Nat) (S3 : SS) (a1 : Nat) (h1 : Nat → Nat) (S1 : SS) (a0 : Nat) (h0 : Nat → Nat) (S0 : SS) (tv : Value) (sz : Nat) (or_ : Int32) (o_3 : SS) (o_0 : SS) (h : f_X3_takeDelay S3 S1 S0 = some (or_, o_3, o_0)) : Met l yX3_takeDelay wsX3_takeDelay ({ frames := 1, cells := 0, slots := 0, locals := 21 }) (va_Pc [.ref a3] (fun U => U.heap.size = sz ∧ va_P (dC, dI) vwCl ((cX3 a3 h3 a1 (.ref a0) y S3) ++ ((cX1 a1 h1 tv y S1) ++ (cX0 a0 h0 y S0))) U.heap ∧ va_K (dC, dI) vwCl [(y 0, .int), (y 1, .long), (y 2, .byte), (y 3, .boolean)] U ∧ va_D (fun _ => True) ((cX3 a3 h3 a1 (.ref a0) y S3) ++ ((cX1 a1 h1 tv y S1) ++ (cX0 a0 h0 y S0))))) (va_Qi (fun (r : Int32) (_ : Unit) => r = or_) (fun (_ : Unit) (t : State) => va_P (dC, dI) vwCl ((cX3 a3 h3 a1 (.ref a0) y o_3) ++ ((cX1 a1 h1 tv y S1) ++ (cX0 a0 h0 y o_0))) t.heap ∧ va_K (dC, dI) vwCl [(y 0, .int), (y 1, .long), (y 2, .byte), (y 3, .boolean)] t ∧ va_D (va_A ((cX3 a3 h3 a1 (.ref a0) y S3) ++ ((cX1 a1 h1 tv y S1) ++ (cX0 a0 h0 y S0))) sz) ((cX3 a3 h3 a1 (.ref a0) y o_3) ++ ((cX1 a1 h1 tv y S1) ++ (cX0 a0 h0 y o_0)))) (va_A ((cX3 a3 h3 a1 (.ref a0) y S3) ++ ((cX1 a1 h1 tv y S1) ++ (cX0 a0 h0 y S0))) sz)) 0 0 (va_A ((cX3 a3 h3 a1 (.ref a0) y S3) ++ ((cX1 a1 h1 tv y S1) ++ (cX0 a0 h0 y S0))) sz) := by
  refine Met.ofW (cc := cX3_takeDelay) (maxL := 1) (ret := (some .boolean)) (by decide +kernel) rfl ?_
  intro p e s m args below meth c s₁ B hml hv
  obtain ⟨rfl, hsz, hP, hK, hD0⟩ := hv
  have hx := B.exec
  have hb := B.bytes
  have hr := B.returns
  have hts := atoms_spec (ws := wsX3_takeDelay) B.pre
  have hown : s.vm.findClass RX3 = some m.cls := findClass_of_methodNamed B.named
  have hlocks := B.notSynchronized
  have inX0_ : ∀ w ∈ wsX00, w ∈ wsX3_takeDelay := fun _ h => List.mem_cons_of_mem _ (List.mem_append_left _ (List.mem_append_right _ h))
  have inX1_ : ∀ w ∈ wsX10, w ∈ wsX3_takeDelay := fun _ h => List.mem_cons_of_mem _ (List.mem_append_right _ h)
  have inX3_ : ∀ w ∈ wsX30, w ∈ wsX3_takeDelay := fun _ h => List.mem_cons_of_mem _ (List.mem_append_left _ (List.mem_append_left _ (List.mem_append_right _ h)))
  subst hsz
  have hD := hD0.self (sz := s.heap.size)
  generalize hAe : va_A ((cX3 a3 h3 a1 (.ref a0) y S3) ++ ((cX1 a1 h1 tv y S1) ++ (cX0 a0 h0 y S0))) s.heap.size = A at hD ⊢
  have hA : ∀ q : Nat, s.heap.size ≤ q → A q := fun q h => by rw [← hAe]; exact Or.inr h
  have hS : va_S A s.heap s.heap [] := va_S.rf
  have hP : va_P (dC, dI) vwCl ((cX3 a3 h3 a1 (.ref a0) y S3) ++ ((cX1 a1 h1 tv y S1) ++ (cX0 a0 h0 y S0))) s.heap := hP
  have hl := lv_entry ([.ref a3]) (n := 1) (Nat.le_of_ble_eq_true rfl)
  rw [lg_entry_eq]
  generalize (lg_sl ([.ref a3]) ++ List.replicate (1 - (lg_sl ([.ref a3])).length) Slot.unset).toArray = ls at hl ⊢
  have hl : lv_has ls 1 [(0, .ref a3)] := hl
  refine lv_aload_n hx hb dX3_takeDelay_0 rfl (lv_at hl 0 rfl) ?_
  refine va_get (D := (dC, dI)) (ci := 2) (v := .ref a0) (C := RX3) (T := TX3) (N := 17) hx hb hts inX3_ hown hK hP 0 rfl rfl 3 (by decide) (hts (.fieldLink RX3 36 "GateWheel$Reader" "circuit" "LGateWheel$Circuit;") (List.mem_of_getElem? (i := 1) rfl)) (fun _ h9 => h9) rfl dX3_takeDelay_1 ?_
  refine lv_aload_n hx hb dX3_takeDelay_4 rfl (lv_at hl 0 rfl) ?_
  refine va_get (D := (dC, dI)) (ci := 2) (v := .int (gI S3 8)) (C := RX3) (T := TX3) (N := 17) hx hb hts inX3_ hown hK hP 0 rfl rfl 8 (by decide) (hts (.fieldLink RX3 198 "GateWheel$Reader" "role" "I") (List.mem_of_getElem? (i := 2) rfl)) (fun _ h9 => h9) rfl dX3_takeDelay_5 ?_
  obtain ⟨r1, hc2, h⟩ := zB_spec h
  have hPc := hP.sub (ws' := (cX0 a0 h0 y S0)) [6, 7, 8, 9, 10, 11, 12, 13, 14, 15, 16, 17] rfl
  have hDc := hD.sub (ws' := (cX0 a0 h0 y S0)) [6, 7, 8, 9, 10, 11, 12, 13, 14, 15, 16, 17] (by decide) rfl
  have hFc := va_free (wc := (cX0 a0 h0 y S0)) hD hS hA [6, 7, 8, 9, 10, 11, 12, 13, 14, 15, 16, 17] rfl
  refine va_calli (va_runV (As := [.int (gI S3 8)]) (rest := []) ⟨hx, hb, hml, hown, hts⟩ (m_X0_has l dC dI y a0 h0 S0 (gI S3 8) s.heap.size r1 hc2) (cwV 1 hts gX3_takeDelay_X0_has rfl rfl rfl (by decide +kernel) ⟨Nat.le_of_ble_eq_true rfl, Nat.le_of_ble_eq_true rfl⟩) ⟨fun a U g mk q => by obtain ⟨q0, q1, qP, qK, qD⟩ := q; exact ⟨q0, q1, qP, va_K.moved (u := U) (U := U.calling g mk a) (Vm.Alike.refl U.vm) qK, qD⟩, va_recv hK hPc (ci := 0) (q0 := 0) rfl rfl, fun U hU hW => ⟨rfl, by rw [hU], by rw [hU]; exact hPc, va_K.moved hW.alike hK, hDc.weaken (fun _ _ _ _ => trivial)⟩⟩ rfl rfl hl.1 rfl (lv_room (Nat.le_of_ble_eq_true rfl)) dX3_takeDelay_8 ⟨Nat.le_of_ble_eq_true rfl, Nat.le_of_ble_eq_true rfl⟩) hS (fun q _ h => hFc q h) hFc (fun rr4 u t H3 locs ht hvm hw hB hz1 hk1 hS => ?_)
  obtain ⟨hP1, hK1, hD1⟩ := hB
  rw [ht] at hP1
  refine zTopi hw.symm ?_
  obtain ⟨hP, hD⟩ := va_join (wr := [(oX3 a3 h3 a1 (.ref a0) S3), (h3 12, .inl (y 1, 667, .inr (.inl (gB S3 12)))), (h3 13, .inl (y 0, 667, .inl (gA S3 13))), (h3 14, .inl (y 0, 667, .inl (gA S3 14))), (h3 16, .inl (y 1, 60, .inr (.inl (gB S3 16)))), (oX1 a1 h1 tv S1)]) (w1 := (cX0 a0 h0 y S0)) hP hD [6, 7, 8, 9, 10, 11, 12, 13, 14, 15, 16, 17] [0, 1, 2, 3, 4, 5] rfl rfl (by decide) (by decide) hk1 hFc hP1 hD1
  have hP : va_P (dC, dI) vwCl ((cX3 a3 h3 a1 (.ref a0) y S3) ++ ((cX1 a1 h1 tv y S1) ++ (cX0 a0 h0 y S0))) H3 := hP.sub [0, 1, 2, 3, 4, 5, 6, 7, 8, 9, 10, 11, 12, 13, 14, 15, 16, 17] rfl
  have hD : va_D A ((cX3 a3 h3 a1 (.ref a0) y S3) ++ ((cX1 a1 h1 tv y S1) ++ (cX0 a0 h0 y S0))) := hD.sub [0, 1, 2, 3, 4, 5, 6, 7, 8, 9, 10, 11, 12, 13, 14, 15, 16, 17] (by decide) rfl
  refine W_abs (fun GW5 eG6 => ?_)
  obtain ⟨ov8, hr9, h⟩ := zB_spec h
  have jn7 : ∀ (s0_11 : SS) (HGW5 : Heap) (locs : List Loc) (ls : Array Slot), s0_11 = ov8 → va_P (dC, dI) vwCl ((cX3 a3 h3 a1 (.ref a0) y S3) ++ ((cX1 a1 h1 tv y S1) ++ (cX0 a0 h0 y s0_11))) HGW5 → va_D A ((cX3 a3 h3 a1 (.ref a0) y S3) ++ ((cX1 a1 h1 tv y S1) ++ (cX0 a0 h0 y s0_11))) → va_S A s.heap HGW5 locs → lv_has ls 1 [(0, .ref a3)] → GW5 HGW5 locs 0 0 (F0 m 33 ls []) := by
    intro s0_11 HGW5 locs ls hv hP hD hS hl
    subst hv
    refine (eG6 _ _ _ _ _).mpr ?_
    refine lv_aload_n hx hb dX3_takeDelay_33 rfl (lv_at hl 0 rfl) ?_
    refine lv_bipush (v := 10) hx hb dX3_takeDelay_34 (by decide) ?_
    obtain ⟨⟨r12, s3_13⟩, hc14, h⟩ := zB_spec h
    have hPc := hP.sub (ws' := (cX3 a3 h3 a1 (.ref a0) y S3)) [0, 1, 2, 3, 4] rfl
    have hDc := hD.sub (ws' := (cX3 a3 h3 a1 (.ref a0) y S3)) [0, 1, 2, 3, 4] (by decide) rfl
    have hFc := va_free (wc := (cX3 a3 h3 a1 (.ref a0) y S3)) hD hS hA [0, 1, 2, 3, 4] rfl
    refine va_calli (va_runV (As := [.int 10]) (rest := []) ⟨hx, hb, hml, hown, hts⟩ (m_X3_go l dC dI y a3 h3 S3 a1 (.ref a0) (10 : Int32) HGW5.size r12 s3_13 hc14) (cwV 1 hts gX3_takeDelay_X3_go rfl rfl rfl (by decide +kernel) ⟨Nat.le_of_ble_eq_true rfl, Nat.le_of_ble_eq_true rfl⟩) ⟨fun a U g mk q => by obtain ⟨q0, q1, qP, qK, qD⟩ := q; exact ⟨q0, q1, qP, va_K.moved (u := U) (U := U.calling g mk a) (Vm.Alike.refl U.vm) qK, qD⟩, va_recv hK hPc (ci := 2) (q0 := 0) rfl rfl, fun U hU hW => ⟨rfl, by rw [hU], by rw [hU]; exact hPc, va_K.moved hW.alike hK, hDc.weaken (fun _ _ _ _ => trivial)⟩⟩ rfl rfl hl.1 rfl (lv_room (Nat.le_of_ble_eq_true rfl)) dX3_takeDelay_36 ⟨Nat.le_of_ble_eq_true rfl, Nat.le_of_ble_eq_true rfl⟩) hS (fun q _ h => hFc q h) hFc (fun rr16 u t H15 locs ht hvm hw hB hz1 hk1 hS => ?_)
    obtain ⟨hP1, hK1, hD1⟩ := hB
    rw [ht] at hP1
    refine zTopi hw.symm ?_
    obtain ⟨hP, hD⟩ := va_join (wr := [(oX1 a1 h1 tv S1), (oX0 a0 h0 s0_11), (h0 2, .inl (y 1, 60, .inr (.inl (gB s0_11 2)))), (h0 3, .inl (y 0, 60, .inl (gA s0_11 3))), (h0 4, .inl (y 0, 60, .inl (gA s0_11 4))), (h0 5, .inl (y 0, 60, .inl (gA s0_11 5))), (h0 6, .inl (y 0, 60, .inl (gA s0_11 6))), (h0 7, .inl (y 0, 720, .inl (gA s0_11 7))), (h0 8, .inl (y 0, 60, .inl (gA s0_11 8))), (h0 9, .inl (y 0, 60, .inl (gA s0_11 9))), (h0 10, .inl (y 1, 60, .inr (.inl (gB s0_11 10)))), (h0 11, .inl (y 0, 60, .inl (gA s0_11 11))), (h0 12, .inl (y 0, 60, .inl (gA s0_11 12)))]) (w1 := (cX3 a3 h3 a1 (.ref a0) y s3_13)) hP hD [0, 1, 2, 3, 4] [5, 6, 7, 8, 9, 10, 11, 12, 13, 14, 15, 16, 17] rfl rfl (by decide) (by decide) hk1 hFc hP1 hD1
    have hP : va_P (dC, dI) vwCl ((cX3 a3 h3 a1 (.ref a0) y s3_13) ++ ((cX1 a1 h1 tv y S1) ++ (cX0 a0 h0 y s0_11))) H15 := hP.sub [13, 14, 15, 16, 17, 0, 1, 2, 3, 4, 5, 6, 7, 8, 9, 10, 11, 12] rfl
    have hD : va_D A ((cX3 a3 h3 a1 (.ref a0) y s3_13) ++ ((cX1 a1 h1 tv y S1) ++ (cX0 a0 h0 y s0_11))) := hD.sub [13, 14, 15, 16, 17, 0, 1, 2, 3, 4, 5, 6, 7, 8, 9, 10, 11, 12] (by decide) rfl
    obtain ⟨hz17, h⟩ := zG_spec h
    have ho0 : r12 = or_ := congrArg (fun z : Int32 × SS × SS => z.1) (Option.some.inj h)
    have ho1 : s3_13 = o_3 := congrArg (fun z : Int32 × SS × SS => z.2.1) (Option.some.inj h)
    have ho2 : s0_11 = o_0 := congrArg (fun z : Int32 × SS × SS => z.2.2) (Option.some.inj h)
    exact W.zret (v := r12) hx hb hr (zb_nar hz17) (fun t ht hW => ⟨⟨r12, (), rfl, ho0, by rw [ht]; rw [← ho1, ← ho2]; exact hP, va_K.moved hW.alike hK, by rw [← ho1, ← ho2]; exact hD⟩, hS.F ht⟩) hS.2.2 dX3_takeDelay_39
  refine (eG6 _ _ _ _ _).mpr ?_
  have h := hr9
  refine lv_if_eq (tgt := 33) hx hb dX3_takeDelay_11 (by decide) (fun c18 => ?_) (fun c18 => ?_)
  · have h := zY c18 h
    exact (eG6 _ _ _ _ _).mp (jn7 S0 _ _ _ (Option.some.inj h) hP hD hS (lv_sub hl [0] rfl))
  · have h := zN c18 h
    refine lv_aload_n hx hb dX3_takeDelay_14 rfl (lv_at hl 0 rfl) ?_
    refine va_get (D := (dC, dI)) (ci := 2) (v := .ref a0) (C := RX3) (T := TX3) (N := 17) hx hb hts inX3_ hown hK hP 0 rfl rfl 3 (by decide) (hts (.fieldLink RX3 36 "GateWheel$Reader" "circuit" "LGateWheel$Circuit;") (List.mem_of_getElem? (i := 1) rfl)) (fun _ h9 => h9) rfl dX3_takeDelay_15 ?_
    refine va_get (D := (dC, dI)) (ci := 0) (v := .ref (h0 6)) (C := RX0) (T := TX0) (N := 13) hx hb hts inX0_ hown hK hP 6 rfl rfl 6 (by decide) (hts (.fieldLink RX3 210 "GateWheel$Circuit" "delays" "[I") (List.mem_of_getElem? (i := 3) rfl)) (fun _ h9 => h9) rfl dX3_takeDelay_18 ?_
    refine lv_aload_n hx hb dX3_takeDelay_21 rfl (lv_at hl 0 rfl) ?_
    refine va_get (D := (dC, dI)) (ci := 2) (v := .int (gI S3 8)) (C := RX3) (T := TX3) (N := 17) hx hb hts inX3_ hown hK hP 0 rfl rfl 8 (by decide) (hts (.fieldLink RX3 198 "GateWheel$Reader" "role" "I") (List.mem_of_getElem? (i := 2) rfl)) (fun _ h9 => h9) rfl dX3_takeDelay_22 ?_
    refine lv_aload_n hx hb dX3_takeDelay_25 rfl (lv_at hl 0 rfl) ?_
    refine va_get (D := (dC, dI)) (ci := 2) (v := .ref a1) (C := RX3) (T := TX3) (N := 17) hx hb hts inX3_ hown hK hP 0 rfl rfl 2 (by decide) (hts (.fieldLink RX3 18 "GateWheel$Reader" "lexer" "LGateWheel$Lexer;") (List.mem_of_getElem? (i := 4) rfl)) (fun _ h9 => h9) rfl dX3_takeDelay_26 ?_
    refine va_get (D := (dC, dI)) (ci := 1) (v := .int (gI S1 6)) (C := RX1) (T := TX1) (N := 7) hx hb hts inX1_ hown hK hP 5 rfl rfl 6 (by decide) (hts (.fieldLink RX3 213 "GateWheel$Lexer" "digit" "I") (List.mem_of_getElem? (i := 5) rfl)) (fun _ h9 => h9) rfl dX3_takeDelay_29 ?_
    obtain ⟨hi19, h⟩ := zG_spec h
    refine va_iast hx hb hK hP hD hS 11 0 rfl rfl hi19 dX3_takeDelay_32 (fun H20 locs hP hD hS => ?_)
    obtain ⟨s0_21, es0_21, h⟩ := zL_spec h
    have hP : va_P (dC, dI) vwCl ((cX3 a3 h3 a1 (.ref a0) y S3) ++ ((cX1 a1 h1 tv y S1) ++ (cX0 a0 h0 y s0_21))) H20 := by rw [es0_21]; exact hP
    have hD : va_D A ((cX3 a3 h3 a1 (.ref a0) y S3) ++ ((cX1 a1 h1 tv y S1) ++ (cX0 a0 h0 y s0_21))) := by rw [es0_21]; exact hD
    exact (eG6 _ _ _ _ _).mp (jn7 s0_21 _ _ _ (Option.some.inj h) hP hD hS (lv_sub hl [0] rfl))

set_option maxHeartbeats 4000000 in
set_option maxRecDepth 100000 in
theorem m_X3_step (l : Launch) (dC : Nat → ClassId) (dI : Nat → Nat → Nat) (y : Nat → ClassId) (a3 : Nat) (h3 : Nat → Nat) (S3 : SS) (a1 : Nat) (h1 : Nat → Nat) (S1 : SS) (a0 : Nat) (h0 : Nat → Nat) (S0 : SS) (tv : Value) (tg : Nat × Nat × Nat × Nat) (sz : Nat) (or_ : Int32) (o_3 : SS) (o_0 : SS) (h : f_X3_step S3 S1 S0 = some (or_, o_3, o_0)) : Met l yX3_step wsX3_step ({ frames := 3, cells := 0, slots := 0, locals := 68 }) (va_Pc [.ref a3] (fun U => U.heap.size = sz ∧ va_P (dC, dI) vwCl ((cX3 a3 h3 a1 (.ref a0) y S3) ++ ((cX1 a1 h1 tv y S1) ++ (cX0 a0 h0 y S0))) U.heap ∧ va_K (dC, dI) vwCl [(y 0, .int), (y 1, .long), (y 2, .byte), (y 3, .boolean)] U ∧ va_D (fun _ => True) ((cX3 a3 h3 a1 (.ref a0) y S3) ++ ((cX1 a1 h1 tv y S1) ++ (cX0 a0 h0 y S0))) ∧ STG tg (va_A ((cX3 a3 h3 a1 (.ref a0) y S3) ++ ((cX1 a1 h1 tv y S1) ++ (cX0 a0 h0 y S0))) sz) U U.heap)) (va_Qi (fun (r : Int32) (_ : Unit) => r = or_) (fun (_ : Unit) (t : State) => va_P (dC, dI) vwCl ((cX3 a3 h3 a1 (.ref a0) y o_3) ++ ((cX1 a1 h1 tv y S1) ++ (cX0 a0 h0 y o_0))) t.heap ∧ va_K (dC, dI) vwCl [(y 0, .int), (y 1, .long), (y 2, .byte), (y 3, .boolean)] t ∧ va_D (va_A ((cX3 a3 h3 a1 (.ref a0) y S3) ++ ((cX1 a1 h1 tv y S1) ++ (cX0 a0 h0 y S0))) sz) ((cX3 a3 h3 a1 (.ref a0) y o_3) ++ ((cX1 a1 h1 tv y S1) ++ (cX0 a0 h0 y o_0)))) (va_A ((cX3 a3 h3 a1 (.ref a0) y S3) ++ ((cX1 a1 h1 tv y S1) ++ (cX0 a0 h0 y S0))) sz)) 0 0 (va_A ((cX3 a3 h3 a1 (.ref a0) y S3) ++ ((cX1 a1 h1 tv y S1) ++ (cX0 a0 h0 y S0))) sz) := by
  refine Met.ofW (cc := cX3_step) (maxL := 1) (ret := (some .boolean)) (by decide +kernel) rfl ?_
  intro p e s m args below meth c s₁ B hml hv
  obtain ⟨rfl, hsz, hP, hK, hD0, hST⟩ := hv
  have hx := B.exec
  have hb := B.bytes
  have hr := B.returns
  have hts := atoms_spec (ws := wsX3_step) B.pre
  have hown : s.vm.findClass RX3 = some m.cls := findClass_of_methodNamed B.named
  have hlocks := B.notSynchronized
  have inX1_ : ∀ w ∈ wsX10, w ∈ wsX3_step := fun _ h => List.mem_cons_of_mem _ (List.mem_append_left _ (List.mem_append_right _ h))
  have inX3_ : ∀ w ∈ wsX30, w ∈ wsX3_step := fun _ h => List.mem_cons_of_mem _ (List.mem_append_left _ (List.mem_append_left _ (List.mem_append_right _ h)))
  subst hsz
  have hD := hD0.self (sz := s.heap.size)
  generalize hAe : va_A ((cX3 a3 h3 a1 (.ref a0) y S3) ++ ((cX1 a1 h1 tv y S1) ++ (cX0 a0 h0 y S0))) s.heap.size = A at hD hST ⊢
  have hA : ∀ q : Nat, s.heap.size ≤ q → A q := fun q h => by rw [← hAe]; exact Or.inr h
  have hS : va_S A s.heap s.heap [] := va_S.rf
  have hP : va_P (dC, dI) vwCl ((cX3 a3 h3 a1 (.ref a0) y S3) ++ ((cX1 a1 h1 tv y S1) ++ (cX0 a0 h0 y S0))) s.heap := hP
  have hl := lv_entry ([.ref a3]) (n := 1) (Nat.le_of_ble_eq_true rfl)
  rw [lg_entry_eq]
  generalize (lg_sl ([.ref a3]) ++ List.replicate (1 - (lg_sl ([.ref a3])).length) Slot.unset).toArray = ls at hl ⊢
  have hl : lv_has ls 1 [(0, .ref a3)] := hl
  refine lv_aload_n hx hb dX3_step_0 rfl (lv_at hl 0 rfl) ?_
  refine va_get (D := (dC, dI)) (ci := 2) (v := .int (gI S3 4)) (C := RX3) (T := TX3) (N := 17) hx hb hts inX3_ hown hK hP 0 rfl rfl 4 (by decide) (hts (.fieldLink RX3 68 "GateWheel$Reader" "state" "I") (List.mem_of_getElem? (i := 1) rfl)) (fun _ h9 => h9) rfl dX3_step_1 ?_
  obtain ⟨v1, ev1, h⟩ := zL_spec h
  refine zTopi ev1 ?_
  by_cases k2 : v1 = 0
  · have h := zY k2 h
    refine lv_tableIn (off := 56) (tgt := 60) hx hb dX3_step_4 (by rw [k2]; decide) (by rw [k2]; decide) (by rw [k2]; rfl) (by decide) ?_
    refine lv_aload_n hx hb dX3_step_60 rfl (lv_at hl 0 rfl) ?_
    obtain ⟨⟨r3, s3_4⟩, hc5, h⟩ := zB_spec h
    have hPc := hP.sub (ws' := ((cX3 a3 h3 a1 (.ref a0) y S3) ++ (cX1 a1 h1 tv y S1))) [0, 1, 2, 3, 4, 5] rfl
    have hDc := hD.sub (ws' := ((cX3 a3 h3 a1 (.ref a0) y S3) ++ (cX1 a1 h1 tv y S1))) [0, 1, 2, 3, 4, 5] (by decide) rfl
    have hFc := va_free (wc := ((cX3 a3 h3 a1 (.ref a0) y S3) ++ (cX1 a1 h1 tv y S1))) hD hS hA [0, 1, 2, 3, 4, 5] rfl
    refine va_calli (va_runV (As := []) (rest := []) ⟨hx, hb, hml, hown, hts⟩ (m_X3_beginLine l dC dI y a3 h3 S3 a1 h1 S1 (.ref a0) tv tg s.heap.size r3 s3_4 hc5) (cwV 0 hts gX3_step_X3_beginLine rfl rfl rfl (by decide +kernel) ⟨Nat.le_of_ble_eq_true rfl, Nat.le_of_ble_eq_true rfl⟩) ⟨fun a U g mk q => by obtain ⟨q0, q1, qP, qK, qD, qT⟩ := q; exact ⟨q0, q1, qP, va_K.moved (u := U) (U := U.calling g mk a) (Vm.Alike.refl U.vm) qK, qD, STG_moved (u := U) (U := U.calling g mk a) (Vm.Alike.refl U.vm) qT⟩, va_recv hK hPc (ci := 2) (q0 := 0) rfl rfl, fun U hU hW => ⟨rfl, by rw [hU], by rw [hU]; exact hPc, va_K.moved hW.alike hK, hDc.weaken (fun _ _ _ _ => trivial), by rw [hU]; exact STG_moved hW.alike (STG_narrow (STG_kept hST hS.2.1) hFc)⟩⟩ rfl rfl hl.1 rfl (lv_room (Nat.le_of_ble_eq_true rfl)) dX3_step_61 ⟨Nat.le_of_ble_eq_true rfl, Nat.le_of_ble_eq_true rfl⟩) hS (fun q _ h => hFc q h) hFc (fun rr7 u t H6 locs ht hvm hw hB hz1 hk1 hS => ?_)
    obtain ⟨hP1, hK1, hD1⟩ := hB
    rw [ht] at hP1
    refine zTopi hw.symm ?_
    obtain ⟨hP, hD⟩ := va_join (wr := [(oX0 a0 h0 S0), (h0 2, .inl (y 1, 60, .inr (.inl (gB S0 2)))), (h0 3, .inl (y 0, 60, .inl (gA S0 3))), (h0 4, .inl (y 0, 60, .inl (gA S0 4))), (h0 5, .inl (y 0, 60, .inl (gA S0 5))), (h0 6, .inl (y 0, 60, .inl (gA S0 6))), (h0 7, .inl (y 0, 720, .inl (gA S0 7))), (h0 8, .inl (y 0, 60, .inl (gA S0 8))), (h0 9, .inl (y 0, 60, .inl (gA S0 9))), (h0 10, .inl (y 1, 60, .inr (.inl (gB S0 10)))), (h0 11, .inl (y 0, 60, .inl (gA S0 11))), (h0 12, .inl (y 0, 60, .inl (gA S0 12)))]) (w1 := ((cX3 a3 h3 a1 (.ref a0) y s3_4) ++ (cX1 a1 h1 tv y S1))) hP hD [0, 1, 2, 3, 4, 5] [6, 7, 8, 9, 10, 11, 12, 13, 14, 15, 16, 17] rfl rfl (by decide) (by decide) hk1 hFc hP1 hD1
    have hP : va_P (dC, dI) vwCl ((cX3 a3 h3 a1 (.ref a0) y s3_4) ++ ((cX1 a1 h1 tv y S1) ++ (cX0 a0 h0 y S0))) H6 := hP.sub [12, 13, 14, 15, 16, 17, 0, 1, 2, 3, 4, 5, 6, 7, 8, 9, 10, 11] rfl
    have hD : va_D A ((cX3 a3 h3 a1 (.ref a0) y s3_4) ++ ((cX1 a1 h1 tv y S1) ++ (cX0 a0 h0 y S0))) := hD.sub [12, 13, 14, 15, 16, 17, 0, 1, 2, 3, 4, 5, 6, 7, 8, 9, 10, 11] (by decide) rfl
    obtain ⟨hz8, h⟩ := zG_spec h
    have ho0 : r3 = or_ := congrArg (fun z : Int32 × SS × SS => z.1) (Option.some.inj h)
    have ho1 : s3_4 = o_3 := congrArg (fun z : Int32 × SS × SS => z.2.1) (Option.some.inj h)
    have ho2 : S0 = o_0 := congrArg (fun z : Int32 × SS × SS => z.2.2) (Option.some.inj h)
    exact W.zret (v := r3) hx hb hr (zb_nar hz8) (fun t ht hW => ⟨⟨r3, (), rfl, ho0, by rw [ht]; rw [← ho1, ← ho2]; exact hP, va_K.moved hW.alike hK, by rw [← ho1, ← ho2]; exact hD⟩, hS.F ht⟩) hS.2.2 dX3_step_64
  replace h := zN k2 h
  by_cases k9 : v1 = 1
  · have h := zY k9 h
    refine lv_tableIn (off := 61) (tgt := 65) hx hb dX3_step_4 (by rw [k9]; decide) (by rw [k9]; decide) (by rw [k9]; rfl) (by decide) ?_
    refine lv_aload_n hx hb dX3_step_65 rfl (lv_at hl 0 rfl) ?_
    obtain ⟨⟨r10, s3_11, s0_12⟩, hc13, h⟩ := zB_spec h
    have hFc := zFree hD hS hA
    refine va_calli (va_runV (As := []) (rest := []) ⟨hx, hb, hml, hown, hts⟩ (m_X3_tellHere l dC dI y a3 h3 S3 a1 h1 S1 a0 h0 S0 tv tg s.heap.size r10 s3_11 s0_12 hc13) (cwV 0 hts gX3_step_X3_tellHere rfl rfl rfl (by decide +kernel) ⟨Nat.le_of_ble_eq_true rfl, Nat.le_of_ble_eq_true rfl⟩) ⟨fun a U g mk q => by obtain ⟨q0, q1, qP, qK, qD, qT⟩ := q; exact ⟨q0, q1, qP, va_K.moved (u := U) (U := U.calling g mk a) (Vm.Alike.refl U.vm) qK, qD, STG_moved (u := U) (U := U.calling g mk a) (Vm.Alike.refl U.vm) qT⟩, va_recv hK hP (ci := 2) (q0 := 0) rfl rfl, fun U hU hW => ⟨rfl, by rw [hU], by rw [hU]; exact hP, va_K.moved hW.alike hK, hD.weaken (fun _ _ _ _ => trivial), by rw [hU]; exact STG_moved hW.alike (STG_narrow (STG_kept hST hS.2.1) hFc)⟩⟩ rfl rfl hl.1 rfl (lv_room (Nat.le_of_ble_eq_true rfl)) dX3_step_66 ⟨Nat.le_of_ble_eq_true rfl, Nat.le_of_ble_eq_true rfl⟩) hS (fun q _ h => hFc q h) hFc (fun rr15 u t H14 locs ht hvm hw hB hz1 hk1 hS => ?_)
    obtain ⟨hP1, hK1, hD1⟩ := hB
    rw [ht] at hP1
    refine zTopi hw.symm ?_
    have hP := hP1
    have hD := hD1.weaken (fun _ q _ h => hFc q.1 h)
    have hP : va_P (dC, dI) vwCl ((cX3 a3 h3 a1 (.ref a0) y s3_11) ++ ((cX1 a1 h1 tv y S1) ++ (cX0 a0 h0 y s0_12))) H14 := hP
    have hD : va_D A ((cX3 a3 h3 a1 (.ref a0) y s3_11) ++ ((cX1 a1 h1 tv y S1) ++ (cX0 a0 h0 y s0_12))) := hD
    obtain ⟨hz16, h⟩ := zG_spec h
    have ho0 : r10 = or_ := congrArg (fun z : Int32 × SS × SS => z.1) (Option.some.inj h)
    have ho1 : s3_11 = o_3 := congrArg (fun z : Int32 × SS × SS => z.2.1) (Option.some.inj h)
    have ho2 : s0_12 = o_0 := congrArg (fun z : Int32 × SS × SS => z.2.2) (Option.some.inj h)
    exact W.zret (v := r10) hx hb hr (zb_nar hz16) (fun t ht hW => ⟨⟨r10, (), rfl, ho0, by rw [ht]; rw [← ho1, ← ho2]; exact hP, va_K.moved hW.alike hK, by rw [← ho1, ← ho2]; exact hD⟩, hS.F ht⟩) hS.2.2 dX3_step_69
  replace h := zN k9 h
  by_cases k17 : v1 = 2
  · have h := zY k17 h
    refine lv_tableIn (off := 66) (tgt := 70) hx hb dX3_step_4 (by rw [k17]; decide) (by rw [k17]; decide) (by rw [k17]; rfl) (by decide) ?_
    refine lv_aload_n hx hb dX3_step_70 rfl (lv_at hl 0 rfl) ?_
    refine va_get (D := (dC, dI)) (ci := 2) (v := .ref a1) (C := RX3) (T := TX3) (N := 17) hx hb hts inX3_ hown hK hP 0 rfl rfl 2 (by decide) (hts (.fieldLink RX3 18 "GateWheel$Reader" "lexer" "LGateWheel$Lexer;") (List.mem_of_getElem? (i := 2) rfl)) (fun _ h9 => h9) rfl dX3_step_71 ?_
    refine va_get (D := (dC, dI)) (ci := 1) (v := .int (gI S1 3)) (C := RX1) (T := TX1) (N := 7) hx hb hts inX1_ hown hK hP 5 rfl rfl 3 (by decide) (hts (.fieldLink RX3 74 "GateWheel$Lexer" "kind" "I") (List.mem_of_getElem? (i := 3) rfl)) (fun _ h9 => h9) rfl dX3_step_74 ?_
    refine lv_bipush (v := 44) hx hb dX3_step_77 (by decide) ?_
    refine lv_icmp_ne (tgt := 90) hx hb dX3_step_79 (by decide) (fun c18 => ?_) (fun c18 => ?_)
    · have h := zN c18 h
      refine lv_aload_n hx hb dX3_step_90 rfl (lv_at hl 0 rfl) ?_
      obtain ⟨⟨r19, s3_20⟩, hc21, h⟩ := zB_spec h
      have hPc := hP.sub (ws' := ((cX3 a3 h3 a1 (.ref a0) y S3) ++ (cX1 a1 h1 tv y S1))) [0, 1, 2, 3, 4, 5] rfl
      have hDc := hD.sub (ws' := ((cX3 a3 h3 a1 (.ref a0) y S3) ++ (cX1 a1 h1 tv y S1))) [0, 1, 2, 3, 4, 5] (by decide) rfl
      have hFc := va_free (wc := ((cX3 a3 h3 a1 (.ref a0) y S3) ++ (cX1 a1 h1 tv y S1))) hD hS hA [0, 1, 2, 3, 4, 5] rfl
      refine va_calli (va_runV (As := []) (rest := []) ⟨hx, hb, hml, hown, hts⟩ (m_X3_endLine l dC dI y a3 h3 S3 a1 h1 S1 (.ref a0) tv s.heap.size r19 s3_20 hc21) (cwV 0 hts gX3_step_X3_endLine rfl rfl rfl (by decide +kernel) ⟨Nat.le_of_ble_eq_true rfl, Nat.le_of_ble_eq_true rfl⟩) ⟨fun a U g mk q => by obtain ⟨q0, q1, qP, qK, qD⟩ := q; exact ⟨q0, q1, qP, va_K.moved (u := U) (U := U.calling g mk a) (Vm.Alike.refl U.vm) qK, qD⟩, va_recv hK hPc (ci := 2) (q0 := 0) rfl rfl, fun U hU hW => ⟨rfl, by rw [hU], by rw [hU]; exact hPc, va_K.moved hW.alike hK, hDc.weaken (fun _ _ _ _ => trivial)⟩⟩ rfl rfl hl.1 rfl (lv_room (Nat.le_of_ble_eq_true rfl)) dX3_step_91 ⟨Nat.le_of_ble_eq_true rfl, Nat.le_of_ble_eq_true rfl⟩) hS (fun q _ h => hFc q h) hFc (fun rr23 u t H22 locs ht hvm hw hB hz1 hk1 hS => ?_)
      obtain ⟨hP1, hK1, hD1⟩ := hB
      rw [ht] at hP1
      refine zTopi hw.symm ?_
      obtain ⟨hP, hD⟩ := va_join (wr := [(oX0 a0 h0 S0), (h0 2, .inl (y 1, 60, .inr (.inl (gB S0 2)))), (h0 3, .inl (y 0, 60, .inl (gA S0 3))), (h0 4, .inl (y 0, 60, .inl (gA S0 4))), (h0 5, .inl (y 0, 60, .inl (gA S0 5))), (h0 6, .inl (y 0, 60, .inl (gA S0 6))), (h0 7, .inl (y 0, 720, .inl (gA S0 7))), (h0 8, .inl (y 0, 60, .inl (gA S0 8))), (h0 9, .inl (y 0, 60, .inl (gA S0 9))), (h0 10, .inl (y 1, 60, .inr (.inl (gB S0 10)))), (h0 11, .inl (y 0, 60, .inl (gA S0 11))), (h0 12, .inl (y 0, 60, .inl (gA S0 12)))]) (w1 := ((cX3 a3 h3 a1 (.ref a0) y s3_20) ++ (cX1 a1 h1 tv y S1))) hP hD [0, 1, 2, 3, 4, 5] [6, 7, 8, 9, 10, 11, 12, 13, 14, 15, 16, 17] rfl rfl (by decide) (by decide) hk1 hFc hP1 hD1
      have hP : va_P (dC, dI) vwCl ((cX3 a3 h3 a1 (.ref a0) y s3_20) ++ ((cX1 a1 h1 tv y S1) ++ (cX0 a0 h0 y S0))) H22 := hP.sub [12, 13, 14, 15, 16, 17, 0, 1, 2, 3, 4, 5, 6, 7, 8, 9, 10, 11] rfl
      have hD : va_D A ((cX3 a3 h3 a1 (.ref a0) y s3_20) ++ ((cX1 a1 h1 tv y S1) ++ (cX0 a0 h0 y S0))) := hD.sub [12, 13, 14, 15, 16, 17, 0, 1, 2, 3, 4, 5, 6, 7, 8, 9, 10, 11] (by decide) rfl
      obtain ⟨hz24, h⟩ := zG_spec h
      have ho0 : r19 = or_ := congrArg (fun z : Int32 × SS × SS => z.1) (Option.some.inj h)
      have ho1 : s3_20 = o_3 := congrArg (fun z : Int32 × SS × SS => z.2.1) (Option.some.inj h)
      have ho2 : S0 = o_0 := congrArg (fun z : Int32 × SS × SS => z.2.2) (Option.some.inj h)
      exact W.zret (v := r19) hx hb hr (zb_nar hz24) (fun t ht hW => ⟨⟨r19, (), rfl, ho0, by rw [ht]; rw [← ho1, ← ho2]; exact hP, va_K.moved hW.alike hK, by rw [← ho1, ← ho2]; exact hD⟩, hS.F ht⟩) hS.2.2 dX3_step_94
    · have h := zY c18 h
      refine lv_aload_n hx hb dX3_step_82 rfl (lv_at hl 0 rfl) ?_
      refine lv_iconst (v := 1) hx hb dX3_step_83 (by decide) ?_
      obtain ⟨⟨r25, s3_26⟩, hc27, h⟩ := zB_spec h
      have hPc := hP.sub (ws' := (cX3 a3 h3 a1 (.ref a0) y S3)) [0, 1, 2, 3, 4] rfl
      have hDc := hD.sub (ws' := (cX3 a3 h3 a1 (.ref a0) y S3)) [0, 1, 2, 3, 4] (by decide) rfl
      have hFc := va_free (wc := (cX3 a3 h3 a1 (.ref a0) y S3)) hD hS hA [0, 1, 2, 3, 4] rfl
      refine va_calli (va_runV (As := [.int 1]) (rest := []) ⟨hx, hb, hml, hown, hts⟩ (m_X3_go l dC dI y a3 h3 S3 a1 (.ref a0) (1 : Int32) s.heap.size r25 s3_26 hc27) (cwV 1 hts gX3_step_X3_go rfl rfl rfl (by decide +kernel) ⟨Nat.le_of_ble_eq_true rfl, Nat.le_of_ble_eq_true rfl⟩) ⟨fun a U g mk q => by obtain ⟨q0, q1, qP, qK, qD⟩ := q; exact ⟨q0, q1, qP, va_K.moved (u := U) (U := U.calling g mk a) (Vm.Alike.refl U.vm) qK, qD⟩, va_recv hK hPc (ci := 2) (q0 := 0) rfl rfl, fun U hU hW => ⟨rfl, by rw [hU], by rw [hU]; exact hPc, va_K.moved hW.alike hK, hDc.weaken (fun _ _ _ _ => trivial)⟩⟩ rfl rfl hl.1 rfl (lv_room (Nat.le_of_ble_eq_true rfl)) dX3_step_84 ⟨Nat.le_of_ble_eq_true rfl, Nat.le_of_ble_eq_true rfl⟩) hS (fun q _ h => hFc q h) hFc (fun rr29 u t H28 locs ht hvm hw hB hz1 hk1 hS => ?_)
      obtain ⟨hP1, hK1, hD1⟩ := hB
      rw [ht] at hP1
      refine zTopi hw.symm ?_
      obtain ⟨hP, hD⟩ := va_join (wr := [(oX1 a1 h1 tv S1), (oX0 a0 h0 S0), (h0 2, .inl (y 1, 60, .inr (.inl (gB S0 2)))), (h0 3, .inl (y 0, 60, .inl (gA S0 3))), (h0 4, .inl (y 0, 60, .inl (gA S0 4))), (h0 5, .inl (y 0, 60, .inl (gA S0 5))), (h0 6, .inl (y 0, 60, .inl (gA S0 6))), (h0 7, .inl (y 0, 720, .inl (gA S0 7))), (h0 8, .inl (y 0, 60, .inl (gA S0 8))), (h0 9, .inl (y 0, 60, .inl (gA S0 9))), (h0 10, .inl (y 1, 60, .inr (.inl (gB S0 10)))), (h0 11, .inl (y 0, 60, .inl (gA S0 11))), (h0 12, .inl (y 0, 60, .inl (gA S0 12)))]) (w1 := (cX3 a3 h3 a1 (.ref a0) y s3_26)) hP hD [0, 1, 2, 3, 4] [5, 6, 7, 8, 9, 10, 11, 12, 13, 14, 15, 16, 17] rfl rfl (by decide) (by decide) hk1 hFc hP1 hD1
      have hP : va_P (dC, dI) vwCl ((cX3 a3 h3 a1 (.ref a0) y s3_26) ++ ((cX1 a1 h1 tv y S1) ++ (cX0 a0 h0 y S0))) H28 := hP.sub [13, 14, 15, 16, 17, 0, 1, 2, 3, 4, 5, 6, 7, 8, 9, 10, 11, 12] rfl
      have hD : va_D A ((cX3 a3 h3 a1 (.ref a0) y s3_26) ++ ((cX1 a1 h1 tv y S1) ++ (cX0 a0 h0 y S0))) := hD.sub [13, 14, 15, 16, 17, 0, 1, 2, 3, 4, 5, 6, 7, 8, 9, 10, 11, 12] (by decide) rfl
      refine lv_goto (tgt := 94) hx hb dX3_step_87 (by decide) ?_
      obtain ⟨hz30, h⟩ := zG_spec h
      have ho0 : r25 = or_ := congrArg (fun z : Int32 × SS × SS => z.1) (Option.some.inj h)
      have ho1 : s3_26 = o_3 := congrArg (fun z : Int32 × SS × SS => z.2.1) (Option.some.inj h)
      have ho2 : S0 = o_0 := congrArg (fun z : Int32 × SS × SS => z.2.2) (Option.some.inj h)
      exact W.zret (v := r25) hx hb hr (zb_nar hz30) (fun t ht hW => ⟨⟨r25, (), rfl, ho0, by rw [ht]; rw [← ho1, ← ho2]; exact hP, va_K.moved hW.alike hK, by rw [← ho1, ← ho2]; exact hD⟩, hS.F ht⟩) hS.2.2 dX3_step_94
  replace h := zN k17 h
  by_cases k31 : v1 = 3
  · have h := zY k31 h
    refine lv_tableIn (off := 91) (tgt := 95) hx hb dX3_step_4 (by rw [k31]; decide) (by rw [k31]; decide) (by rw [k31]; rfl) (by decide) ?_
    refine lv_aload_n hx hb dX3_step_95 rfl (lv_at hl 0 rfl) ?_
    obtain ⟨⟨r32, s3_33, s0_34⟩, hc35, h⟩ := zB_spec h
    have hFc := zFree hD hS hA
    refine va_calli (va_runV (As := []) (rest := []) ⟨hx, hb, hml, hown, hts⟩ (m_X3_tellOrDrive l dC dI y a3 h3 S3 a1 h1 S1 a0 h0 S0 tv s.heap.size r32 s3_33 s0_34 hc35) (cwV 0 hts gX3_step_X3_tellOrDrive rfl rfl rfl (by decide +kernel) ⟨Nat.le_of_ble_eq_true rfl, Nat.le_of_ble_eq_true rfl⟩) ⟨fun a U g mk q => by obtain ⟨q0, q1, qP, qK, qD⟩ := q; exact ⟨q0, q1, qP, va_K.moved (u := U) (U := U.calling g mk a) (Vm.Alike.refl U.vm) qK, qD⟩, va_recv hK hP (ci := 2) (q0 := 0) rfl rfl, fun U hU hW => ⟨rfl, by rw [hU], by rw [hU]; exact hP, va_K.moved hW.alike hK, hD.weaken (fun _ _ _ _ => trivial)⟩⟩ rfl rfl hl.1 rfl (lv_room (Nat.le_of_ble_eq_true rfl)) dX3_step_96 ⟨Nat.le_of_ble_eq_true rfl, Nat.le_of_ble_eq_true rfl⟩) hS (fun q _ h => hFc q h) hFc (fun rr37 u t H36 locs ht hvm hw hB hz1 hk1 hS => ?_)
    obtain ⟨hP1, hK1, hD1⟩ := hB
    rw [ht] at hP1
    refine zTopi hw.symm ?_
    have hP := hP1
    have hD := hD1.weaken (fun _ q _ h => hFc q.1 h)
    have hP : va_P (dC, dI) vwCl ((cX3 a3 h3 a1 (.ref a0) y s3_33) ++ ((cX1 a1 h1 tv y S1) ++ (cX0 a0 h0 y s0_34))) H36 := hP
    have hD : va_D A ((cX3 a3 h3 a1 (.ref a0) y s3_33) ++ ((cX1 a1 h1 tv y S1) ++ (cX0 a0 h0 y s0_34))) := hD
    obtain ⟨hz38, h⟩ := zG_spec h
    have ho0 : r32 = or_ := congrArg (fun z : Int32 × SS × SS => z.1) (Option.some.inj h)
    have ho1 : s3_33 = o_3 := congrArg (fun z : Int32 × SS × SS => z.2.1) (Option.some.inj h)
    have ho2 : s0_34 = o_0 := congrArg (fun z : Int32 × SS × SS => z.2.2) (Option.some.inj h)
    exact W.zret (v := r32) hx hb hr (zb_nar hz38) (fun t ht hW => ⟨⟨r32, (), rfl, ho0, by rw [ht]; rw [← ho1, ← ho2]; exact hP, va_K.moved hW.alike hK, by rw [← ho1, ← ho2]; exact hD⟩, hS.F ht⟩) hS.2.2 dX3_step_99
  replace h := zN k31 h
  by_cases k39 : v1 = 4
  · have h := zY k39 h
    refine lv_tableIn (off := 96) (tgt := 100) hx hb dX3_step_4 (by rw [k39]; decide) (by rw [k39]; decide) (by rw [k39]; rfl) (by decide) ?_
    refine lv_aload_n hx hb dX3_step_100 rfl (lv_at hl 0 rfl) ?_
    obtain ⟨⟨r40, s3_41, s0_42⟩, hc43, h⟩ := zB_spec h
    have hFc := zFree hD hS hA
    refine va_calli (va_runV (As := []) (rest := []) ⟨hx, hb, hml, hown, hts⟩ (m_X3_takeGate l dC dI y a3 h3 S3 a1 h1 S1 a0 h0 S0 tv tg s.heap.size r40 s3_41 s0_42 hc43) (cwV 0 hts gX3_step_X3_takeGate rfl rfl rfl (by decide +kernel) ⟨Nat.le_of_ble_eq_true rfl, Nat.le_of_ble_eq_true rfl⟩) ⟨fun a U g mk q => by obtain ⟨q0, q1, qP, qK, qD, qT⟩ := q; exact ⟨q0, q1, qP, va_K.moved (u := U) (U := U.calling g mk a) (Vm.Alike.refl U.vm) qK, qD, STG_moved (u := U) (U := U.calling g mk a) (Vm.Alike.refl U.vm) qT⟩, va_recv hK hP (ci := 2) (q0 := 0) rfl rfl, fun U hU hW => ⟨rfl, by rw [hU], by rw [hU]; exact hP, va_K.moved hW.alike hK, hD.weaken (fun _ _ _ _ => trivial), by rw [hU]; exact STG_moved hW.alike (STG_narrow (STG_kept hST hS.2.1) hFc)⟩⟩ rfl rfl hl.1 rfl (lv_room (Nat.le_of_ble_eq_true rfl)) dX3_step_101 ⟨Nat.le_of_ble_eq_true rfl, Nat.le_of_ble_eq_true rfl⟩) hS (fun q _ h => hFc q h) hFc (fun rr45 u t H44 locs ht hvm hw hB hz1 hk1 hS => ?_)
    obtain ⟨hP1, hK1, hD1⟩ := hB
    rw [ht] at hP1
    refine zTopi hw.symm ?_
    have hP := hP1
    have hD := hD1.weaken (fun _ q _ h => hFc q.1 h)
    have hP : va_P (dC, dI) vwCl ((cX3 a3 h3 a1 (.ref a0) y s3_41) ++ ((cX1 a1 h1 tv y S1) ++ (cX0 a0 h0 y s0_42))) H44 := hP
    have hD : va_D A ((cX3 a3 h3 a1 (.ref a0) y s3_41) ++ ((cX1 a1 h1 tv y S1) ++ (cX0 a0 h0 y s0_42))) := hD
    obtain ⟨hz46, h⟩ := zG_spec h
    have ho0 : r40 = or_ := congrArg (fun z : Int32 × SS × SS => z.1) (Option.some.inj h)
    have ho1 : s3_41 = o_3 := congrArg (fun z : Int32 × SS × SS => z.2.1) (Option.some.inj h)
    have ho2 : s0_42 = o_0 := congrArg (fun z : Int32 × SS × SS => z.2.2) (Option.some.inj h)
    exact W.zret (v := r40) hx hb hr (zb_nar hz46) (fun t ht hW => ⟨⟨r40, (), rfl, ho0, by rw [ht]; rw [← ho1, ← ho2]; exact hP, va_K.moved hW.alike hK, by rw [← ho1, ← ho2]; exact hD⟩, hS.F ht⟩) hS.2.2 dX3_step_104
  replace h := zN k39 h
  by_cases k47 : v1 = 5
  · have h := zY k47 h
    refine lv_tableIn (off := 101) (tgt := 105) hx hb dX3_step_4 (by rw [k47]; decide) (by rw [k47]; decide) (by rw [k47]; rfl) (by decide) ?_
    refine lv_aload_n hx hb dX3_step_105 rfl (lv_at hl 0 rfl) ?_
    obtain ⟨⟨r48, s3_49⟩, hc50, h⟩ := zB_spec h
    have hPc := hP.sub (ws' := ((cX3 a3 h3 a1 (.ref a0) y S3) ++ (cX1 a1 h1 tv y S1))) [0, 1, 2, 3, 4, 5] rfl
    have hDc := hD.sub (ws' := ((cX3 a3 h3 a1 (.ref a0) y S3) ++ (cX1 a1 h1 tv y S1))) [0, 1, 2, 3, 4, 5] (by decide) rfl
    have hFc := va_free (wc := ((cX3 a3 h3 a1 (.ref a0) y S3) ++ (cX1 a1 h1 tv y S1))) hD hS hA [0, 1, 2, 3, 4, 5] rfl
    refine va_calli (va_runV (As := []) (rest := []) ⟨hx, hb, hml, hown, hts⟩ (m_X3_takeDriver l dC dI y a3 h3 S3 a1 h1 S1 (.ref a0) tv s.heap.size r48 s3_49 hc50) (cwV 0 hts gX3_step_X3_takeDriver rfl rfl rfl (by decide +kernel) ⟨Nat.le_of_ble_eq_true rfl, Nat.le_of_ble_eq_true rfl⟩) ⟨fun a U g mk q => by obtain ⟨q0, q1, qP, qK, qD⟩ := q; exact ⟨q0, q1, qP, va_K.moved (u := U) (U := U.calling g mk a) (Vm.Alike.refl U.vm) qK, qD⟩, va_recv hK hPc (ci := 2) (q0 := 0) rfl rfl, fun U hU hW => ⟨rfl, by rw [hU], by rw [hU]; exact hPc, va_K.moved hW.alike hK, hDc.weaken (fun _ _ _ _ => trivial)⟩⟩ rfl rfl hl.1 rfl (lv_room (Nat.le_of_ble_eq_true rfl)) dX3_step_106 ⟨Nat.le_of_ble_eq_true rfl, Nat.le_of_ble_eq_true rfl⟩) hS (fun q _ h => hFc q h) hFc (fun rr52 u t H51 locs ht hvm hw hB hz1 hk1 hS => ?_)
    obtain ⟨hP1, hK1, hD1⟩ := hB
    rw [ht] at hP1
    refine zTopi hw.symm ?_
    obtain ⟨hP, hD⟩ := va_join (wr := [(oX0 a0 h0 S0), (h0 2, .inl (y 1, 60, .inr (.inl (gB S0 2)))), (h0 3, .inl (y 0, 60, .inl (gA S0 3))), (h0 4, .inl (y 0, 60, .inl (gA S0 4))), (h0 5, .inl (y 0, 60, .inl (gA S0 5))), (h0 6, .inl (y 0, 60, .inl (gA S0 6))), (h0 7, .inl (y 0, 720, .inl (gA S0 7))), (h0 8, .inl (y 0, 60, .inl (gA S0 8))), (h0 9, .inl (y 0, 60, .inl (gA S0 9))), (h0 10, .inl (y 1, 60, .inr (.inl (gB S0 10)))), (h0 11, .inl (y 0, 60, .inl (gA S0 11))), (h0 12, .inl (y 0, 60, .inl (gA S0 12)))]) (w1 := ((cX3 a3 h3 a1 (.ref a0) y s3_49) ++ (cX1 a1 h1 tv y S1))) hP hD [0, 1, 2, 3, 4, 5] [6, 7, 8, 9, 10, 11, 12, 13, 14, 15, 16, 17] rfl rfl (by decide) (by decide) hk1 hFc hP1 hD1
    have hP : va_P (dC, dI) vwCl ((cX3 a3 h3 a1 (.ref a0) y s3_49) ++ ((cX1 a1 h1 tv y S1) ++ (cX0 a0 h0 y S0))) H51 := hP.sub [12, 13, 14, 15, 16, 17, 0, 1, 2, 3, 4, 5, 6, 7, 8, 9, 10, 11] rfl
    have hD : va_D A ((cX3 a3 h3 a1 (.ref a0) y s3_49) ++ ((cX1 a1 h1 tv y S1) ++ (cX0 a0 h0 y S0))) := hD.sub [12, 13, 14, 15, 16, 17, 0, 1, 2, 3, 4, 5, 6, 7, 8, 9, 10, 11] (by decide) rfl
    obtain ⟨hz53, h⟩ := zG_spec h
    have ho0 : r48 = or_ := congrArg (fun z : Int32 × SS × SS => z.1) (Option.some.inj h)
    have ho1 : s3_49 = o_3 := congrArg (fun z : Int32 × SS × SS => z.2.1) (Option.some.inj h)
    have ho2 : S0 = o_0 := congrArg (fun z : Int32 × SS × SS => z.2.2) (Option.some.inj h)
    exact W.zret (v := r48) hx hb hr (zb_nar hz53) (fun t ht hW => ⟨⟨r48, (), rfl, ho0, by rw [ht]; rw [← ho1, ← ho2]; exact hP, va_K.moved hW.alike hK, by rw [← ho1, ← ho2]; exact hD⟩, hS.F ht⟩) hS.2.2 dX3_step_109
  replace h := zN k47 h
  by_cases k54 : v1 = 6
  · have h := zY k54 h
    refine lv_tableIn (off := 106) (tgt := 110) hx hb dX3_step_4 (by rw [k54]; decide) (by rw [k54]; decide) (by rw [k54]; rfl) (by decide) ?_
    refine lv_aload_n hx hb dX3_step_110 rfl (lv_at hl 0 rfl) ?_
    refine va_get (D := (dC, dI)) (ci := 2) (v := .ref a1) (C := RX3) (T := TX3) (N := 17) hx hb hts inX3_ hown hK hP 0 rfl rfl 2 (by decide) (hts (.fieldLink RX3 18 "GateWheel$Reader" "lexer" "LGateWheel$Lexer;") (List.mem_of_getElem? (i := 2) rfl)) (fun _ h9 => h9) rfl dX3_step_111 ?_
    refine va_get (D := (dC, dI)) (ci := 1) (v := .int (gI S1 3)) (C := RX1) (T := TX1) (N := 7) hx hb hts inX1_ hown hK hP 5 rfl rfl 3 (by decide) (hts (.fieldLink RX3 74 "GateWheel$Lexer" "kind" "I") (List.mem_of_getElem? (i := 3) rfl)) (fun _ h9 => h9) rfl dX3_step_114 ?_
    refine lv_bipush (v := 40) hx hb dX3_step_117 (by decide) ?_
    refine lv_icmp_ne (tgt := 131) hx hb dX3_step_119 (by decide) (fun c55 => ?_) (fun c55 => ?_)
    · have h := zN c55 h
      refine lv_aload_n hx hb dX3_step_131 rfl (lv_at hl 0 rfl) ?_
      obtain ⟨⟨r56, s3_57⟩, hc58, h⟩ := zB_spec h
      have hPc := hP.sub (ws' := ((cX3 a3 h3 a1 (.ref a0) y S3) ++ (cX1 a1 h1 tv y S1))) [0, 1, 2, 3, 4, 5] rfl
      have hDc := hD.sub (ws' := ((cX3 a3 h3 a1 (.ref a0) y S3) ++ (cX1 a1 h1 tv y S1))) [0, 1, 2, 3, 4, 5] (by decide) rfl
      have hFc := va_free (wc := ((cX3 a3 h3 a1 (.ref a0) y S3) ++ (cX1 a1 h1 tv y S1))) hD hS hA [0, 1, 2, 3, 4, 5] rfl
      refine va_calli (va_runV (As := []) (rest := []) ⟨hx, hb, hml, hown, hts⟩ (m_X3_refuse l dC dI y a3 h3 S3 a1 h1 S1 (.ref a0) tv s.heap.size r56 s3_57 hc58) (cwV 0 hts gX3_step_X3_refuse rfl rfl rfl (by decide +kernel) ⟨Nat.le_of_ble_eq_true rfl, Nat.le_of_ble_eq_true rfl⟩) ⟨fun a U g mk q => by obtain ⟨q0, q1, qP, qK, qD⟩ := q; exact ⟨q0, q1, qP, va_K.moved (u := U) (U := U.calling g mk a) (Vm.Alike.refl U.vm) qK, qD⟩, va_recv hK hPc (ci := 2) (q0 := 0) rfl rfl, fun U hU hW => ⟨rfl, by rw [hU], by rw [hU]; exact hPc, va_K.moved hW.alike hK, hDc.weaken (fun _ _ _ _ => trivial)⟩⟩ rfl rfl hl.1 rfl (lv_room (Nat.le_of_ble_eq_true rfl)) dX3_step_132 ⟨Nat.le_of_ble_eq_true rfl, Nat.le_of_ble_eq_true rfl⟩) hS (fun q _ h => hFc q h) hFc (fun rr60 u t H59 locs ht hvm hw hB hz1 hk1 hS => ?_)
      obtain ⟨hP1, hK1, hD1⟩ := hB
      rw [ht] at hP1
      refine zTopi hw.symm ?_
      obtain ⟨hP, hD⟩ := va_join (wr := [(oX0 a0 h0 S0), (h0 2, .inl (y 1, 60, .inr (.inl (gB S0 2)))), (h0 3, .inl (y 0, 60, .inl (gA S0 3))), (h0 4, .inl (y 0, 60, .inl (gA S0 4))), (h0 5, .inl (y 0, 60, .inl (gA S0 5))), (h0 6, .inl (y 0, 60, .inl (gA S0 6))), (h0 7, .inl (y 0, 720, .inl (gA S0 7))), (h0 8, .inl (y 0, 60, .inl (gA S0 8))), (h0 9, .inl (y 0, 60, .inl (gA S0 9))), (h0 10, .inl (y 1, 60, .inr (.inl (gB S0 10)))), (h0 11, .inl (y 0, 60, .inl (gA S0 11))), (h0 12, .inl (y 0, 60, .inl (gA S0 12)))]) (w1 := ((cX3 a3 h3 a1 (.ref a0) y s3_57) ++ (cX1 a1 h1 tv y S1))) hP hD [0, 1, 2, 3, 4, 5] [6, 7, 8, 9, 10, 11, 12, 13, 14, 15, 16, 17] rfl rfl (by decide) (by decide) hk1 hFc hP1 hD1
      have hP : va_P (dC, dI) vwCl ((cX3 a3 h3 a1 (.ref a0) y s3_57) ++ ((cX1 a1 h1 tv y S1) ++ (cX0 a0 h0 y S0))) H59 := hP.sub [12, 13, 14, 15, 16, 17, 0, 1, 2, 3, 4, 5, 6, 7, 8, 9, 10, 11] rfl
      have hD : va_D A ((cX3 a3 h3 a1 (.ref a0) y s3_57) ++ ((cX1 a1 h1 tv y S1) ++ (cX0 a0 h0 y S0))) := hD.sub [12, 13, 14, 15, 16, 17, 0, 1, 2, 3, 4, 5, 6, 7, 8, 9, 10, 11] (by decide) rfl
      obtain ⟨hz61, h⟩ := zG_spec h
      have ho0 : r56 = or_ := congrArg (fun z : Int32 × SS × SS => z.1) (Option.some.inj h)
      have ho1 : s3_57 = o_3 := congrArg (fun z : Int32 × SS × SS => z.2.1) (Option.some.inj h)
      have ho2 : S0 = o_0 := congrArg (fun z : Int32 × SS × SS => z.2.2) (Option.some.inj h)
      exact W.zret (v := r56) hx hb hr (zb_nar hz61) (fun t ht hW => ⟨⟨r56, (), rfl, ho0, by rw [ht]; rw [← ho1, ← ho2]; exact hP, va_K.moved hW.alike hK, by rw [← ho1, ← ho2]; exact hD⟩, hS.F ht⟩) hS.2.2 dX3_step_135
    · have h := zY c55 h
      refine lv_aload_n hx hb dX3_step_122 rfl (lv_at hl 0 rfl) ?_
      refine lv_bipush (v := 7) hx hb dX3_step_123 (by decide) ?_
      obtain ⟨⟨r62, s3_63⟩, hc64, h⟩ := zB_spec h
      have hPc := hP.sub (ws' := (cX3 a3 h3 a1 (.ref a0) y S3)) [0, 1, 2, 3, 4] rfl
      have hDc := hD.sub (ws' := (cX3 a3 h3 a1 (.ref a0) y S3)) [0, 1, 2, 3, 4] (by decide) rfl
      have hFc := va_free (wc := (cX3 a3 h3 a1 (.ref a0) y S3)) hD hS hA [0, 1, 2, 3, 4] rfl
      refine va_calli (va_runV (As := [.int 7]) (rest := []) ⟨hx, hb, hml, hown, hts⟩ (m_X3_go l dC dI y a3 h3 S3 a1 (.ref a0) (7 : Int32) s.heap.size r62 s3_63 hc64) (cwV 1 hts gX3_step_X3_go rfl rfl rfl (by decide +kernel) ⟨Nat.le_of_ble_eq_true rfl, Nat.le_of_ble_eq_true rfl⟩) ⟨fun a U g mk q => by obtain ⟨q0, q1, qP, qK, qD⟩ := q; exact ⟨q0, q1, qP, va_K.moved (u := U) (U := U.calling g mk a) (Vm.Alike.refl U.vm) qK, qD⟩, va_recv hK hPc (ci := 2) (q0 := 0) rfl rfl, fun U hU hW => ⟨rfl, by rw [hU], by rw [hU]; exact hPc, va_K.moved hW.alike hK, hDc.weaken (fun _ _ _ _ => trivial)⟩⟩ rfl rfl hl.1 rfl (lv_room (Nat.le_of_ble_eq_true rfl)) dX3_step_125 ⟨Nat.le_of_ble_eq_true rfl, Nat.le_of_ble_eq_true rfl⟩) hS (fun q _ h => hFc q h) hFc (fun rr66 u t H65 locs ht hvm hw hB hz1 hk1 hS => ?_)
      obtain ⟨hP1, hK1, hD1⟩ := hB
      rw [ht] at hP1
      refine zTopi hw.symm ?_
      obtain ⟨hP, hD⟩ := va_join (wr := [(oX1 a1 h1 tv S1), (oX0 a0 h0 S0), (h0 2, .inl (y 1, 60, .inr (.inl (gB S0 2)))), (h0 3, .inl (y 0, 60, .inl (gA S0 3))), (h0 4, .inl (y 0, 60, .inl (gA S0 4))), (h0 5, .inl (y 0, 60, .inl (gA S0 5))), (h0 6, .inl (y 0, 60, .inl (gA S0 6))), (h0 7, .inl (y 0, 720, .inl (gA S0 7))), (h0 8, .inl (y 0, 60, .inl (gA S0 8))), (h0 9, .inl (y 0, 60, .inl (gA S0 9))), (h0 10, .inl (y 1, 60, .inr (.inl (gB S0 10)))), (h0 11, .inl (y 0, 60, .inl (gA S0 11))), (h0 12, .inl (y 0, 60, .inl (gA S0 12)))]) (w1 := (cX3 a3 h3 a1 (.ref a0) y s3_63)) hP hD [0, 1, 2, 3, 4] [5, 6, 7, 8, 9, 10, 11, 12, 13, 14, 15, 16, 17] rfl rfl (by decide) (by decide) hk1 hFc hP1 hD1
      have hP : va_P (dC, dI) vwCl ((cX3 a3 h3 a1 (.ref a0) y s3_63) ++ ((cX1 a1 h1 tv y S1) ++ (cX0 a0 h0 y S0))) H65 := hP.sub [13, 14, 15, 16, 17, 0, 1, 2, 3, 4, 5, 6, 7, 8, 9, 10, 11, 12] rfl
      have hD : va_D A ((cX3 a3 h3 a1 (.ref a0) y s3_63) ++ ((cX1 a1 h1 tv y S1) ++ (cX0 a0 h0 y S0))) := hD.sub [13, 14, 15, 16, 17, 0, 1, 2, 3, 4, 5, 6, 7, 8, 9, 10, 11, 12] (by decide) rfl
      refine lv_goto (tgt := 135) hx hb dX3_step_128 (by decide) ?_
      obtain ⟨hz67, h⟩ := zG_spec h
      have ho0 : r62 = or_ := congrArg (fun z : Int32 × SS × SS => z.1) (Option.some.inj h)
      have ho1 : s3_63 = o_3 := congrArg (fun z : Int32 × SS × SS => z.2.1) (Option.some.inj h)
      have ho2 : S0 = o_0 := congrArg (fun z : Int32 × SS × SS => z.2.2) (Option.some.inj h)
      exact W.zret (v := r62) hx hb hr (zb_nar hz67) (fun t ht hW => ⟨⟨r62, (), rfl, ho0, by rw [ht]; rw [← ho1, ← ho2]; exact hP, va_K.moved hW.alike hK, by rw [← ho1, ← ho2]; exact hD⟩, hS.F ht⟩) hS.2.2 dX3_step_135
  replace h := zN k54 h
  by_cases k68 : v1 = 7
  · have h := zY k68 h
    refine lv_tableIn (off := 132) (tgt := 136) hx hb dX3_step_4 (by rw [k68]; decide) (by rw [k68]; decide) (by rw [k68]; rfl) (by decide) ?_
    refine lv_aload_n hx hb dX3_step_136 rfl (lv_at hl 0 rfl) ?_
    obtain ⟨⟨r69, s3_70⟩, hc71, h⟩ := zB_spec h
    have hPc := hP.sub (ws' := ((cX3 a3 h3 a1 (.ref a0) y S3) ++ (cX1 a1 h1 tv y S1))) [0, 1, 2, 3, 4, 5] rfl
    have hDc := hD.sub (ws' := ((cX3 a3 h3 a1 (.ref a0) y S3) ++ (cX1 a1 h1 tv y S1))) [0, 1, 2, 3, 4, 5] (by decide) rfl
    have hFc := va_free (wc := ((cX3 a3 h3 a1 (.ref a0) y S3) ++ (cX1 a1 h1 tv y S1))) hD hS hA [0, 1, 2, 3, 4, 5] rfl
    refine va_calli (va_runV (As := []) (rest := []) ⟨hx, hb, hml, hown, hts⟩ (m_X3_takePart l dC dI y a3 h3 S3 a1 h1 S1 (.ref a0) tv tg s.heap.size r69 s3_70 hc71) (cwV 0 hts gX3_step_X3_takePart rfl rfl rfl (by decide +kernel) ⟨Nat.le_of_ble_eq_true rfl, Nat.le_of_ble_eq_true rfl⟩) ⟨fun a U g mk q => by obtain ⟨q0, q1, qP, qK, qD, qT⟩ := q; exact ⟨q0, q1, qP, va_K.moved (u := U) (U := U.calling g mk a) (Vm.Alike.refl U.vm) qK, qD, STG_moved (u := U) (U := U.calling g mk a) (Vm.Alike.refl U.vm) qT⟩, va_recv hK hPc (ci := 2) (q0 := 0) rfl rfl, fun U hU hW => ⟨rfl, by rw [hU], by rw [hU]; exact hPc, va_K.moved hW.alike hK, hDc.weaken (fun _ _ _ _ => trivial), by rw [hU]; exact STG_moved hW.alike (STG_narrow (STG_kept hST hS.2.1) hFc)⟩⟩ rfl rfl hl.1 rfl (lv_room (Nat.le_of_ble_eq_true rfl)) dX3_step_137 ⟨Nat.le_of_ble_eq_true rfl, Nat.le_of_ble_eq_true rfl⟩) hS (fun q _ h => hFc q h) hFc (fun rr73 u t H72 locs ht hvm hw hB hz1 hk1 hS => ?_)
    obtain ⟨hP1, hK1, hD1⟩ := hB
    rw [ht] at hP1
    refine zTopi hw.symm ?_
    obtain ⟨hP, hD⟩ := va_join (wr := [(oX0 a0 h0 S0), (h0 2, .inl (y 1, 60, .inr (.inl (gB S0 2)))), (h0 3, .inl (y 0, 60, .inl (gA S0 3))), (h0 4, .inl (y 0, 60, .inl (gA S0 4))), (h0 5, .inl (y 0, 60, .inl (gA S0 5))), (h0 6, .inl (y 0, 60, .inl (gA S0 6))), (h0 7, .inl (y 0, 720, .inl (gA S0 7))), (h0 8, .inl (y 0, 60, .inl (gA S0 8))), (h0 9, .inl (y 0, 60, .inl (gA S0 9))), (h0 10, .inl (y 1, 60, .inr (.inl (gB S0 10)))), (h0 11, .inl (y 0, 60, .inl (gA S0 11))), (h0 12, .inl (y 0, 60, .inl (gA S0 12)))]) (w1 := ((cX3 a3 h3 a1 (.ref a0) y s3_70) ++ (cX1 a1 h1 tv y S1))) hP hD [0, 1, 2, 3, 4, 5] [6, 7, 8, 9, 10, 11, 12, 13, 14, 15, 16, 17] rfl rfl (by decide) (by decide) hk1 hFc hP1 hD1
    have hP : va_P (dC, dI) vwCl ((cX3 a3 h3 a1 (.ref a0) y s3_70) ++ ((cX1 a1 h1 tv y S1) ++ (cX0 a0 h0 y S0))) H72 := hP.sub [12, 13, 14, 15, 16, 17, 0, 1, 2, 3, 4, 5, 6, 7, 8, 9, 10, 11] rfl
    have hD : va_D A ((cX3 a3 h3 a1 (.ref a0) y s3_70) ++ ((cX1 a1 h1 tv y S1) ++ (cX0 a0 h0 y S0))) := hD.sub [12, 13, 14, 15, 16, 17, 0, 1, 2, 3, 4, 5, 6, 7, 8, 9, 10, 11] (by decide) rfl
    obtain ⟨hz74, h⟩ := zG_spec h
    have ho0 : r69 = or_ := congrArg (fun z : Int32 × SS × SS => z.1) (Option.some.inj h)
    have ho1 : s3_70 = o_3 := congrArg (fun z : Int32 × SS × SS => z.2.1) (Option.some.inj h)
    have ho2 : S0 = o_0 := congrArg (fun z : Int32 × SS × SS => z.2.2) (Option.some.inj h)
    exact W.zret (v := r69) hx hb hr (zb_nar hz74) (fun t ht hW => ⟨⟨r69, (), rfl, ho0, by rw [ht]; rw [← ho1, ← ho2]; exact hP, va_K.moved hW.alike hK, by rw [← ho1, ← ho2]; exact hD⟩, hS.F ht⟩) hS.2.2 dX3_step_140
  replace h := zN k68 h
  by_cases k75 : v1 = 8
  · have h := zY k75 h
    refine lv_tableIn (off := 137) (tgt := 141) hx hb dX3_step_4 (by rw [k75]; decide) (by rw [k75]; decide) (by rw [k75]; rfl) (by decide) ?_
    refine lv_aload_n hx hb dX3_step_141 rfl (lv_at hl 0 rfl) ?_
    obtain ⟨⟨r76, s3_77⟩, hc78, h⟩ := zB_spec h
    have hPc := hP.sub (ws' := ((cX3 a3 h3 a1 (.ref a0) y S3) ++ (cX1 a1 h1 tv y S1))) [0, 1, 2, 3, 4, 5] rfl
    have hDc := hD.sub (ws' := ((cX3 a3 h3 a1 (.ref a0) y S3) ++ (cX1 a1 h1 tv y S1))) [0, 1, 2, 3, 4, 5] (by decide) rfl
    have hFc := va_free (wc := ((cX3 a3 h3 a1 (.ref a0) y S3) ++ (cX1 a1 h1 tv y S1))) hD hS hA [0, 1, 2, 3, 4, 5] rfl
    refine va_calli (va_runV (As := []) (rest := []) ⟨hx, hb, hml, hown, hts⟩ (m_X3_behindPart l dC dI y a3 h3 S3 a1 h1 S1 (.ref a0) tv s.heap.size r76 s3_77 hc78) (cwV 0 hts gX3_step_X3_behindPart rfl rfl rfl (by decide +kernel) ⟨Nat.le_of_ble_eq_true rfl, Nat.le_of_ble_eq_true rfl⟩) ⟨fun a U g mk q => by obtain ⟨q0, q1, qP, qK, qD⟩ := q; exact ⟨q0, q1, qP, va_K.moved (u := U) (U := U.calling g mk a) (Vm.Alike.refl U.vm) qK, qD⟩, va_recv hK hPc (ci := 2) (q0 := 0) rfl rfl, fun U hU hW => ⟨rfl, by rw [hU], by rw [hU]; exact hPc, va_K.moved hW.alike hK, hDc.weaken (fun _ _ _ _ => trivial)⟩⟩ rfl rfl hl.1 rfl (lv_room (Nat.le_of_ble_eq_true rfl)) dX3_step_142 ⟨Nat.le_of_ble_eq_true rfl, Nat.le_of_ble_eq_true rfl⟩) hS (fun q _ h => hFc q h) hFc (fun rr80 u t H79 locs ht hvm hw hB hz1 hk1 hS => ?_)
    obtain ⟨hP1, hK1, hD1⟩ := hB
    rw [ht] at hP1
    refine zTopi hw.symm ?_
    obtain ⟨hP, hD⟩ := va_join (wr := [(oX0 a0 h0 S0), (h0 2, .inl (y 1, 60, .inr (.inl (gB S0 2)))), (h0 3, .inl (y 0, 60, .inl (gA S0 3))), (h0 4, .inl (y 0, 60, .inl (gA S0 4))), (h0 5, .inl (y 0, 60, .inl (gA S0 5))), (h0 6, .inl (y 0, 60, .inl (gA S0 6))), (h0 7, .inl (y 0, 720, .inl (gA S0 7))), (h0 8, .inl (y 0, 60, .inl (gA S0 8))), (h0 9, .inl (y 0, 60, .inl (gA S0 9))), (h0 10, .inl (y 1, 60, .inr (.inl (gB S0 10)))), (h0 11, .inl (y 0, 60, .inl (gA S0 11))), (h0 12, .inl (y 0, 60, .inl (gA S0 12)))]) (w1 := ((cX3 a3 h3 a1 (.ref a0) y s3_77) ++ (cX1 a1 h1 tv y S1))) hP hD [0, 1, 2, 3, 4, 5] [6, 7, 8, 9, 10, 11, 12, 13, 14, 15, 16, 17] rfl rfl (by decide) (by decide) hk1 hFc hP1 hD1
    have hP : va_P (dC, dI) vwCl ((cX3 a3 h3 a1 (.ref a0) y s3_77) ++ ((cX1 a1 h1 tv y S1) ++ (cX0 a0 h0 y S0))) H79 := hP.sub [12, 13, 14, 15, 16, 17, 0, 1, 2, 3, 4, 5, 6, 7, 8, 9, 10, 11] rfl
    have hD : va_D A ((cX3 a3 h3 a1 (.ref a0) y s3_77) ++ ((cX1 a1 h1 tv y S1) ++ (cX0 a0 h0 y S0))) := hD.sub [12, 13, 14, 15, 16, 17, 0, 1, 2, 3, 4, 5, 6, 7, 8, 9, 10, 11] (by decide) rfl
    obtain ⟨hz81, h⟩ := zG_spec h
    have ho0 : r76 = or_ := congrArg (fun z : Int32 × SS × SS => z.1) (Option.some.inj h)
    have ho1 : s3_77 = o_3 := congrArg (fun z : Int32 × SS × SS => z.2.1) (Option.some.inj h)
    have ho2 : S0 = o_0 := congrArg (fun z : Int32 × SS × SS => z.2.2) (Option.some.inj h)
    exact W.zret (v := r76) hx hb hr (zb_nar hz81) (fun t ht hW => ⟨⟨r76, (), rfl, ho0, by rw [ht]; rw [← ho1, ← ho2]; exact hP, va_K.moved hW.alike hK, by rw [← ho1, ← ho2]; exact hD⟩, hS.F ht⟩) hS.2.2 dX3_step_145
  replace h := zN k75 h
  by_cases k82 : v1 = 9
  · have h := zY k82 h
    refine lv_tableIn (off := 142) (tgt := 146) hx hb dX3_step_4 (by rw [k82]; decide) (by rw [k82]; decide) (by rw [k82]; rfl) (by decide) ?_
    refine lv_aload_n hx hb dX3_step_146 rfl (lv_at hl 0 rfl) ?_
    refine va_get (D := (dC, dI)) (ci := 2) (v := .ref a1) (C := RX3) (T := TX3) (N := 17) hx hb hts inX3_ hown hK hP 0 rfl rfl 2 (by decide) (hts (.fieldLink RX3 18 "GateWheel$Reader" "lexer" "LGateWheel$Lexer;") (List.mem_of_getElem? (i := 2) rfl)) (fun _ h9 => h9) rfl dX3_step_147 ?_
    refine va_get (D := (dC, dI)) (ci := 1) (v := .int (gI S1 3)) (C := RX1) (T := TX1) (N := 7) hx hb hts inX1_ hown hK hP 5 rfl rfl 3 (by decide) (hts (.fieldLink RX3 74 "GateWheel$Lexer" "kind" "I") (List.mem_of_getElem? (i := 3) rfl)) (fun _ h9 => h9) rfl dX3_step_150 ?_
    refine lv_iconst (v := 3) hx hb dX3_step_153 (by decide) ?_
    refine lv_icmp_ne (tgt := 164) hx hb dX3_step_154 (by decide) (fun c83 => ?_) (fun c83 => ?_)
    · have h := zN c83 h
      refine lv_aload_n hx hb dX3_step_164 rfl (lv_at hl 0 rfl) ?_
      obtain ⟨⟨r84, s3_85⟩, hc86, h⟩ := zB_spec h
      have hPc := hP.sub (ws' := ((cX3 a3 h3 a1 (.ref a0) y S3) ++ (cX1 a1 h1 tv y S1))) [0, 1, 2, 3, 4, 5] rfl
      have hDc := hD.sub (ws' := ((cX3 a3 h3 a1 (.ref a0) y S3) ++ (cX1 a1 h1 tv y S1))) [0, 1, 2, 3, 4, 5] (by decide) rfl
      have hFc := va_free (wc := ((cX3 a3 h3 a1 (.ref a0) y S3) ++ (cX1 a1 h1 tv y S1))) hD hS hA [0, 1, 2, 3, 4, 5] rfl
      refine va_calli (va_runV (As := []) (rest := []) ⟨hx, hb, hml, hown, hts⟩ (m_X3_endLine l dC dI y a3 h3 S3 a1 h1 S1 (.ref a0) tv s.heap.size r84 s3_85 hc86) (cwV 0 hts gX3_step_X3_endLine rfl rfl rfl (by decide +kernel) ⟨Nat.le_of_ble_eq_true rfl, Nat.le_of_ble_eq_true rfl⟩) ⟨fun a U g mk q => by obtain ⟨q0, q1, qP, qK, qD⟩ := q; exact ⟨q0, q1, qP, va_K.moved (u := U) (U := U.calling g mk a) (Vm.Alike.refl U.vm) qK, qD⟩, va_recv hK hPc (ci := 2) (q0 := 0) rfl rfl, fun U hU hW => ⟨rfl, by rw [hU], by rw [hU]; exact hPc, va_K.moved hW.alike hK, hDc.weaken (fun _ _ _ _ => trivial)⟩⟩ rfl rfl hl.1 rfl (lv_room (Nat.le_of_ble_eq_true rfl)) dX3_step_165 ⟨Nat.le_of_ble_eq_true rfl, Nat.le_of_ble_eq_true rfl⟩) hS (fun q _ h => hFc q h) hFc (fun rr88 u t H87 locs ht hvm hw hB hz1 hk1 hS => ?_)
      obtain ⟨hP1, hK1, hD1⟩ := hB
      rw [ht] at hP1
      refine zTopi hw.symm ?_
      obtain ⟨hP, hD⟩ := va_join (wr := [(oX0 a0 h0 S0), (h0 2, .inl (y 1, 60, .inr (.inl (gB S0 2)))), (h0 3, .inl (y 0, 60, .inl (gA S0 3))), (h0 4, .inl (y 0, 60, .inl (gA S0 4))), (h0 5, .inl (y 0, 60, .inl (gA S0 5))), (h0 6, .inl (y 0, 60, .inl (gA S0 6))), (h0 7, .inl (y 0, 720, .inl (gA S0 7))), (h0 8, .inl (y 0, 60, .inl (gA S0 8))), (h0 9, .inl (y 0, 60, .inl (gA S0 9))), (h0 10, .inl (y 1, 60, .inr (.inl (gB S0 10)))), (h0 11, .inl (y 0, 60, .inl (gA S0 11))), (h0 12, .inl (y 0, 60, .inl (gA S0 12)))]) (w1 := ((cX3 a3 h3 a1 (.ref a0) y s3_85) ++ (cX1 a1 h1 tv y S1))) hP hD [0, 1, 2, 3, 4, 5] [6, 7, 8, 9, 10, 11, 12, 13, 14, 15, 16, 17] rfl rfl (by decide) (by decide) hk1 hFc hP1 hD1
      have hP : va_P (dC, dI) vwCl ((cX3 a3 h3 a1 (.ref a0) y s3_85) ++ ((cX1 a1 h1 tv y S1) ++ (cX0 a0 h0 y S0))) H87 := hP.sub [12, 13, 14, 15, 16, 17, 0, 1, 2, 3, 4, 5, 6, 7, 8, 9, 10, 11] rfl
      have hD : va_D A ((cX3 a3 h3 a1 (.ref a0) y s3_85) ++ ((cX1 a1 h1 tv y S1) ++ (cX0 a0 h0 y S0))) := hD.sub [12, 13, 14, 15, 16, 17, 0, 1, 2, 3, 4, 5, 6, 7, 8, 9, 10, 11] (by decide) rfl
      obtain ⟨hz89, h⟩ := zG_spec h
      have ho0 : r84 = or_ := congrArg (fun z : Int32 × SS × SS => z.1) (Option.some.inj h)
      have ho1 : s3_85 = o_3 := congrArg (fun z : Int32 × SS × SS => z.2.1) (Option.some.inj h)
      have ho2 : S0 = o_0 := congrArg (fun z : Int32 × SS × SS => z.2.2) (Option.some.inj h)
      exact W.zret (v := r84) hx hb hr (zb_nar hz89) (fun t ht hW => ⟨⟨r84, (), rfl, ho0, by rw [ht]; rw [← ho1, ← ho2]; exact hP, va_K.moved hW.alike hK, by rw [← ho1, ← ho2]; exact hD⟩, hS.F ht⟩) hS.2.2 dX3_step_168
    · have h := zY c83 h
      refine lv_aload_n hx hb dX3_step_157 rfl (lv_at hl 0 rfl) ?_
      obtain ⟨⟨r90, s3_91, s0_92⟩, hc93, h⟩ := zB_spec h
      have hFc := zFree hD hS hA
      refine va_calli (va_runV (As := []) (rest := []) ⟨hx, hb, hml, hown, hts⟩ (m_X3_takeDelay l dC dI y a3 h3 S3 a1 h1 S1 a0 h0 S0 tv s.heap.size r90 s3_91 s0_92 hc93) (cwV 0 hts gX3_step_X3_takeDelay rfl rfl rfl (by decide +kernel) ⟨Nat.le_of_ble_eq_true rfl, Nat.le_of_ble_eq_true rfl⟩) ⟨fun a U g mk q => by obtain ⟨q0, q1, qP, qK, qD⟩ := q; exact ⟨q0, q1, qP, va_K.moved (u := U) (U := U.calling g mk a) (Vm.Alike.refl U.vm) qK, qD⟩, va_recv hK hP (ci := 2) (q0 := 0) rfl rfl, fun U hU hW => ⟨rfl, by rw [hU], by rw [hU]; exact hP, va_K.moved hW.alike hK, hD.weaken (fun _ _ _ _ => trivial)⟩⟩ rfl rfl hl.1 rfl (lv_room (Nat.le_of_ble_eq_true rfl)) dX3_step_158 ⟨Nat.le_of_ble_eq_true rfl, Nat.le_of_ble_eq_true rfl⟩) hS (fun q _ h => hFc q h) hFc (fun rr95 u t H94 locs ht hvm hw hB hz1 hk1 hS => ?_)
      obtain ⟨hP1, hK1, hD1⟩ := hB
      rw [ht] at hP1
      refine zTopi hw.symm ?_
      have hP := hP1
      have hD := hD1.weaken (fun _ q _ h => hFc q.1 h)
      have hP : va_P (dC, dI) vwCl ((cX3 a3 h3 a1 (.ref a0) y s3_91) ++ ((cX1 a1 h1 tv y S1) ++ (cX0 a0 h0 y s0_92))) H94 := hP
      have hD : va_D A ((cX3 a3 h3 a1 (.ref a0) y s3_91) ++ ((cX1 a1 h1 tv y S1) ++ (cX0 a0 h0 y s0_92))) := hD
      refine lv_goto (tgt := 168) hx hb dX3_step_161 (by decide) ?_
      obtain ⟨hz96, h⟩ := zG_spec h
      have ho0 : r90 = or_ := congrArg (fun z : Int32 × SS × SS => z.1) (Option.some.inj h)
      have ho1 : s3_91 = o_3 := congrArg (fun z : Int32 × SS × SS => z.2.1) (Option.some.inj h)
      have ho2 : s0_92 = o_0 := congrArg (fun z : Int32 × SS × SS => z.2.2) (Option.some.inj h)
      exact W.zret (v := r90) hx hb hr (zb_nar hz96) (fun t ht hW => ⟨⟨r90, (), rfl, ho0, by rw [ht]; rw [← ho1, ← ho2]; exact hP, va_K.moved hW.alike hK, by rw [← ho1, ← ho2]; exact hD⟩, hS.F ht⟩) hS.2.2 dX3_step_168
  replace h := zN k82 h
  have kd : v1.toInt < 0 ∨ 9 < v1.toInt := by
    have nk2 : ¬ v1.toInt = 0 := lv_neT k2 (by decide)
    have nk9 : ¬ v1.toInt = 1 := lv_neT k9 (by decide)
    have nk17 : ¬ v1.toInt = 2 := lv_neT k17 (by decide)
    have nk31 : ¬ v1.toInt = 3 := lv_neT k31 (by decide)
    have nk39 : ¬ v1.toInt = 4 := lv_neT k39 (by decide)
    have nk47 : ¬ v1.toInt = 5 := lv_neT k47 (by decide)
    have nk54 : ¬ v1.toInt = 6 := lv_neT k54 (by decide)
    have nk68 : ¬ v1.toInt = 7 := lv_neT k68 (by decide)
    have nk75 : ¬ v1.toInt = 8 := lv_neT k75 (by decide)
    have nk82 : ¬ v1.toInt = 9 := lv_neT k82 (by decide)
    omega
  refine lv_tableOut (tgt := 169) hx hb dX3_step_4 kd (by decide) ?_
  refine lv_aload_n hx hb dX3_step_169 rfl (lv_at hl 0 rfl) ?_
  obtain ⟨⟨r97, s3_98⟩, hc99, h⟩ := zB_spec h
  have hPc := hP.sub (ws' := ((cX3 a3 h3 a1 (.ref a0) y S3) ++ (cX1 a1 h1 tv y S1))) [0, 1, 2, 3, 4, 5] rfl
  have hDc := hD.sub (ws' := ((cX3 a3 h3 a1 (.ref a0) y S3) ++ (cX1 a1 h1 tv y S1))) [0, 1, 2, 3, 4, 5] (by decide) rfl
  have hFc := va_free (wc := ((cX3 a3 h3 a1 (.ref a0) y S3) ++ (cX1 a1 h1 tv y S1))) hD hS hA [0, 1, 2, 3, 4, 5] rfl
  refine va_calli (va_runV (As := []) (rest := []) ⟨hx, hb, hml, hown, hts⟩ (m_X3_endLine l dC dI y a3 h3 S3 a1 h1 S1 (.ref a0) tv s.heap.size r97 s3_98 hc99) (cwV 0 hts gX3_step_X3_endLine rfl rfl rfl (by decide +kernel) ⟨Nat.le_of_ble_eq_true rfl, Nat.le_of_ble_eq_true rfl⟩) ⟨fun a U g mk q => by obtain ⟨q0, q1, qP, qK, qD⟩ := q; exact ⟨q0, q1, qP, va_K.moved (u := U) (U := U.calling g mk a) (Vm.Alike.refl U.vm) qK, qD⟩, va_recv hK hPc (ci := 2) (q0 := 0) rfl rfl, fun U hU hW => ⟨rfl, by rw [hU], by rw [hU]; exact hPc, va_K.moved hW.alike hK, hDc.weaken (fun _ _ _ _ => trivial)⟩⟩ rfl rfl hl.1 rfl (lv_room (Nat.le_of_ble_eq_true rfl)) dX3_step_170 ⟨Nat.le_of_ble_eq_true rfl, Nat.le_of_ble_eq_true rfl⟩) hS (fun q _ h => hFc q h) hFc (fun rr101 u t H100 locs ht hvm hw hB hz1 hk1 hS => ?_)
  obtain ⟨hP1, hK1, hD1⟩ := hB
  rw [ht] at hP1
  refine zTopi hw.symm ?_
  obtain ⟨hP, hD⟩ := va_join (wr := [(oX0 a0 h0 S0), (h0 2, .inl (y 1, 60, .inr (.inl (gB S0 2)))), (h0 3, .inl (y 0, 60, .inl (gA S0 3))), (h0 4, .inl (y 0, 60, .inl (gA S0 4))), (h0 5, .inl (y 0, 60, .inl (gA S0 5))), (h0 6, .inl (y 0, 60, .inl (gA S0 6))), (h0 7, .inl (y 0, 720, .inl (gA S0 7))), (h0 8, .inl (y 0, 60, .inl (gA S0 8))), (h0 9, .inl (y 0, 60, .inl (gA S0 9))), (h0 10, .inl (y 1, 60, .inr (.inl (gB S0 10)))), (h0 11, .inl (y 0, 60, .inl (gA S0 11))), (h0 12, .inl (y 0, 60, .inl (gA S0 12)))]) (w1 := ((cX3 a3 h3 a1 (.ref a0) y s3_98) ++ (cX1 a1 h1 tv y S1))) hP hD [0, 1, 2, 3, 4, 5] [6, 7, 8, 9, 10, 11, 12, 13, 14, 15, 16, 17] rfl rfl (by decide) (by decide) hk1 hFc hP1 hD1
  have hP : va_P (dC, dI) vwCl ((cX3 a3 h3 a1 (.ref a0) y s3_98) ++ ((cX1 a1 h1 tv y S1) ++ (cX0 a0 h0 y S0))) H100 := hP.sub [12, 13, 14, 15, 16, 17, 0, 1, 2, 3, 4, 5, 6, 7, 8, 9, 10, 11] rfl
  have hD : va_D A ((cX3 a3 h3 a1 (.ref a0) y s3_98) ++ ((cX1 a1 h1 tv y S1) ++ (cX0 a0 h0 y S0))) := hD.sub [12, 13, 14, 15, 16, 17, 0, 1, 2, 3, 4, 5, 6, 7, 8, 9, 10, 11] (by decide) rfl
  obtain ⟨hz102, h⟩ := zG_spec h
  have ho0 : r97 = or_ := congrArg (fun z : Int32 × SS × SS => z.1) (Option.some.inj h)
  have ho1 : s3_98 = o_3 := congrArg (fun z : Int32 × SS × SS => z.2.1) (Option.some.inj h)
  have ho2 : S0 = o_0 := congrArg (fun z : Int32 × SS × SS => z.2.2) (Option.some.inj h)
  exact W.zret (v := r97) hx hb hr (zb_nar hz102) (fun t ht hW => ⟨⟨r97, (), rfl, ho0, by rw [ht]; rw [← ho1, ← ho2]; exact hP, va_K.moved hW.alike hK, by rw [← ho1, ← ho2]; exact hD⟩, hS.F ht⟩) hS.2.2 dX3_step_173
