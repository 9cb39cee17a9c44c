noncomputable def b_X7_readGate_174 (v24 : Int32) (v49 : Int32) : (Int32 × SS) → Option ((Int32 × SS) ⊕ ((SS) ⊕ (SS))) := fun (v159, s7_160) =>
  if v159 = (0 : Int32) then some (Sum.inr (Sum.inr s7_160))
  else zB (f_X7_isGood s7_160) (fun (r162 : Int32) =>
  if r162 = (0 : Int32) then some (Sum.inr (Sum.inr s7_160))
  else zB (f_X7_next s7_160) (fun (s7_167 : SS) =>
  zB (if (gI s7_167 8) = (2 : Int32) then zB (f_X7_mostOf v49) (fun (r200 : Int32) =>
  if (gA s7_167 14 v24.toNatClampNeg) = r200 then zB (f_X7_wrong s7_167) (fun (s7_205 : SS) =>
  some s7_205)
  else some s7_167)
  else some s7_167) (fun (s7_177 : SS) =>
  zB (f_X7_isGood s7_177) (fun (r178 : Int32) =>
  if r178 = (0 : Int32) then some (Sum.inr (Sum.inl s7_177))
  else zB (f_X7_ask s7_177 (((12 : Int32) * v24) + (gA s7_177 14 v24.toNatClampNeg))) (fun (s7_183 : SS) =>
  zL (sA s7_183 14 (upd (gA s7_183 14) v24.toNatClampNeg ((gA s7_183 14 v24.toNatClampNeg) + (1 : Int32)))) (fun s7_188 =>
  zB (f_X7_isGood s7_188) (fun (r189 : Int32) =>
  if r189 = (0 : Int32) then some (Sum.inl ((0 : Int32), s7_188))
  else zB (f_X7_is s7_188 (44 : Int32)) (fun (r194 : Int32) =>
  if r194 = (0 : Int32) then some (Sum.inl ((0 : Int32), s7_188))
  else some (Sum.inl ((1 : Int32), s7_188))))))))))
noncomputable def f_X7_readGate (S7 : SS) (p1 : Int64) (p2 : Int32) : Option (SS) :=
  zB (if (gI S7 26) = (60 : Int32) then zB (f_X7_fails S7 (2 : Int32) p2) (fun (s7_230 : SS) =>
  some s7_230)
  else some S7) (fun (s7_7 : SS) =>
  zB (f_X7_newOf s7_7 p1) (fun (r8 : Int32) =>
  zB (if r8 < (0 : Int32) then some s7_7
  else zB (f_X7_fails s7_7 (3 : Int32) p2) (fun (s7_225 : SS) =>
  some s7_225)) (fun (s7_18 : SS) =>
  zB (f_X7_isGood s7_18) (fun (r19 : Int32) =>
  if r19 = (0 : Int32) then some s7_18
  else zL (((60 : Int32) * (gI s7_18 30)) + (gI s7_18 26)) (fun v24 =>
  zG (vp_in v24 120) (
  zL (sB s7_18 11 (vp_updL (gB s7_18 11) v24.toNatClampNeg p1)) (fun s7_27 =>
  zL (sA s7_27 12 (upd (gA s7_27 12) v24.toNatClampNeg (2 : Int32))) (fun s7_29 =>
  zL (sA s7_29 14 (upd (gA s7_29 14) v24.toNatClampNeg (0 : Int32))) (fun s7_31 =>
  zL (sA s7_31 15 (upd (gA s7_31 15) v24.toNatClampNeg (1 : Int32))) (fun s7_33 =>
  zG (vp_in (gI s7_33 26) 60) (
  zL (sA s7_33 18 (upd (gA s7_33 18) (gI s7_33 26).toNatClampNeg p2)) (fun s7_36 =>
  zL (sI s7_36 26 ((gI s7_36 26) + (1 : Int32))) (fun s7_38 =>
  zB (f_X7_next s7_38) (fun (s7_39 : SS) =>
  zB (if (gI s7_39 8) = (3 : Int32) then zB (f_X7_gateOf (gL s7_39 10)) (fun (r220 : Int32) =>
  some r220)
  else some (-1 : Int32)) (fun (v49 : Int32) =>
  zB (if (0 : Int32) ≤ v49 then some s7_39
  else zB (f_X7_wrong s7_39) (fun (s7_215 : SS) =>
  some s7_215)) (fun (s7_56 : SS) =>
  zB (f_X7_isGood s7_56) (fun (r57 : Int32) =>
  if r57 = (0 : Int32) then some s7_56
  else zL (sA s7_56 13 (upd (gA s7_56 13) v24.toNatClampNeg v49)) (fun s7_63 =>
  zB (f_X7_next s7_63) (fun (s7_64 : SS) =>
  zB (f_X7_is s7_64 (40 : Int32)) (fun (r68 : Int32) =>
  zB (if r68 = (0 : Int32) then zB (f_X7_wrong s7_64) (fun (s7_210 : SS) =>
  some s7_210)
  else some s7_64) (fun (s7_78 : SS) =>
  zS (zI (b_X7_readGate_174 v24 v49) zF ((1 : Int32), s7_78)) (fun (s7_88 : SS) =>
  zB (f_X7_isGood s7_88) (fun (r89 : Int32) =>
  zB (if r89 = (0 : Int32) then some s7_88
  else zB (f_X7_is s7_88 (41 : Int32)) (fun (r145 : Int32) =>
  if r145 = (0 : Int32) then some s7_88
  else zB (f_X7_leastOf v49) (fun (r150 : Int32) =>
  if r150 ≤ (gA s7_88 14 v24.toNatClampNeg) then some s7_88
  else zB (f_X7_wrong s7_88) (fun (s7_155 : SS) =>
  some s7_155)))) (fun (s7_99 : SS) =>
  zB (f_X7_isGood s7_99) (fun (r100 : Int32) =>
  zB (if r100 = (0 : Int32) then some s7_99
  else zB (f_X7_must s7_99 (41 : Int32)) (fun (s7_140 : SS) =>
  some s7_140)) (fun (s7_110 : SS) =>
  zB (f_X7_isGood s7_110) (fun (r111 : Int32) =>
  zB (if r111 = (0 : Int32) then some s7_110
  else if (gI s7_110 8) = (4 : Int32) then zL (sA s7_110 15 (upd (gA s7_110 15) v24.toNatClampNeg (gI s7_110 9))) (fun s7_134 =>
  zB (f_X7_next s7_134) (fun (s7_135 : SS) =>
  some s7_135))
  else some s7_110) (fun (s7_121 : SS) =>
  zB (f_X7_isGood s7_121) (fun (r122 : Int32) =>
  if r122 = (0 : Int32) then some s7_121
  else zB (f_X7_must s7_121 (59 : Int32)) (fun (s7_127 : SS) =>
  some s7_127))))))))))))))))))))))))))))))

noncomputable def b_X7_readDriver_6 (S7 : SS) (p1 : Int64) : (Int32 × Int32) → Option ((Int32 × Int32) ⊕ (Int32)) := fun (v165, v166) =>
  if (gI S7 28) ≤ v166 then some (Sum.inr v165)
  else zG (vp_in v166 200) (
  if (lg_cmp (gB S7 23 v166.toNatClampNeg) p1) = (0 : Int32) then zL (v165 + (1 : Int32)) (fun v172 =>
  zL (v166 + 1) (fun v173 =>
  some (Sum.inl (v172, v173))))
  else zL (v165 + (0 : Int32)) (fun v170 =>
  zL (v166 + 1) (fun v171 =>
  some (Sum.inl (v170, v171)))))
noncomputable def f_X7_readDriver (S7 : SS) (p1 : Int64) (p2 : Int32) : Option (SS) :=
  zB (zI (b_X7_readDriver_6 S7 p1) zF ((0 : Int32), (0 : Int32))) (fun (v10 : Int32) =>
  zB (if v10 = (6 : Int32) then zB (f_X7_fails S7 (2 : Int32) p2) (fun (s7_161 : SS) =>
  some s7_161)
  else some S7) (fun (s7_17 : SS) =>
  zB (f_X7_isGood s7_17) (fun (r18 : Int32) =>
  if r18 = (0 : Int32) then some s7_17
  else zG (vp_in (gI s7_17 27) 1000) (
  zL (sB s7_17 20 (vp_updL (gB s7_17 20) (gI s7_17 27).toNatClampNeg p1)) (fun s7_25 =>
  zG (vp_in (gI s7_25 27) 1000) (
  zL (sA s7_25 21 (upd (gA s7_25 21) (gI s7_25 27).toNatClampNeg p2)) (fun s7_28 =>
  zG (vp_in (gI s7_28 27) 1000) (
  zL (sA s7_28 22 (upd (gA s7_28 22) (gI s7_28 27).toNatClampNeg (-1 : Int32))) (fun s7_31 =>
  zG (vp_in (gI s7_31 28) 200) (
  zL (sB s7_31 23 (vp_updL (gB s7_31 23) (gI s7_31 28).toNatClampNeg p1)) (fun s7_34 =>
  zG (vp_in (gI s7_34 28) 200) (
  zL (sA s7_34 24 (upd (gA s7_34 24) (gI s7_34 28).toNatClampNeg (gI s7_34 27))) (fun s7_37 =>
  zL (sI s7_37 27 ((gI s7_37 27) + (1 : Int32))) (fun s7_39 =>
  zB (f_X7_next s7_39) (fun (s7_40 : SS) =>
  zB (f_X7_isWord s7_40 (6907441 : Int64)) (fun (r44 : Int32) =>
  zB (if r44 = (0 : Int32) then zB (f_X7_isWord s7_40 (6907440 : Int64)) (fun (r151 : Int32) =>
  if r151 = (0 : Int32) then zB (f_X7_wrong s7_40) (fun (s7_156 : SS) =>
  some s7_156)
  else some s7_40)
  else some s7_40) (fun (s7_54 : SS) =>
  zB (f_X7_isGood s7_54) (fun (r55 : Int32) =>
  if r55 = (0 : Int32) then some s7_54
  else zB (f_X7_isWord s7_54 (6907441 : Int64)) (fun (r60 : Int32) =>
  zG (vp_in (gI s7_54 28) 200) (
  zL (sA s7_54 25 (upd (gA s7_54 25) (gI s7_54 28).toNatClampNeg (vp_nar .boolean r60))) (fun s7_66 =>
  zL (sI s7_66 28 ((gI s7_66 28) + (1 : Int32))) (fun s7_68 =>
  zB (f_X7_next s7_68) (fun (s7_69 : SS) =>
  zB (f_X7_must s7_69 (40 : Int32)) (fun (s7_73 : SS) =>
  zB (f_X7_isGood s7_73) (fun (r77 : Int32) =>
  zB (if r77 = (0 : Int32) then some s7_73
  else zB (f_X7_ask s7_73 (0 : Int32)) (fun (s7_146 : SS) =>
  some s7_146)) (fun (s7_87 : SS) =>
  zB (f_X7_isGood s7_87) (fun (r88 : Int32) =>
  zB (if r88 = (0 : Int32) then some s7_87
  else zB (f_X7_must s7_87 (44 : Int32)) (fun (s7_141 : SS) =>
  some s7_141)) (fun (s7_98 : SS) =>
  zB (f_X7_isGood s7_98) (fun (r99 : Int32) =>
  zB (if r99 = (0 : Int32) then some s7_98
  else zB (f_X7_ask s7_98 (0 : Int32)) (fun (s7_136 : SS) =>
  some s7_136)) (fun (s7_109 : SS) =>
  zB (f_X7_isGood s7_109) (fun (r110 : Int32) =>
  zB (if r110 = (0 : Int32) then some s7_109
  else zB (f_X7_must s7_109 (41 : Int32)) (fun (s7_131 : SS) =>
  some s7_131)) (fun (s7_120 : SS) =>
  zB (f_X7_isGood s7_120) (fun (r121 : Int32) =>
  if r121 = (0 : Int32) then some s7_120
  else zB (f_X7_must s7_120 (59 : Int32)) (fun (s7_126 : SS) =>
  some s7_126))))))))))))))))))))))))))))))))))

noncomputable def f_X7_readLine (S7 : SS) : Option (SS) :=
  zB (f_X7_isWord S7 (26990 : Int64)) (fun (r1 : Int32) =>
  if r1 = (0 : Int32) then zB (f_X7_isWord S7 (6452595 : Int64)) (fun (r6 : Int32) =>
  if r6 = (0 : Int32) then zB (f_X7_isWord S7 (7497063 : Int64)) (fun (r11 : Int32) =>
  if r11 = (0 : Int32) then if (gI S7 8) = (2 : Int32) then zL (gL S7 10) (fun v21 =>
  zL (gI S7 6) (fun v22 =>
  zB (f_X7_next S7) (fun (s7_23 : SS) =>
  zB (f_X7_is s7_23 (61 : Int32)) (fun (r27 : Int32) =>
  if r27 = (0 : Int32) then zB (f_X7_is s7_23 (60 : Int32)) (fun (r32 : Int32) =>
  if r32 = (0 : Int32) then zB (f_X7_wrong s7_23) (fun (s7_37 : SS) =>
  some s7_37)
  else zB (f_X7_readDriver s7_23 v21 v22) (fun (s7_41 : SS) =>
  some s7_41))
  else zB (f_X7_readGate s7_23 v21 v22) (fun (s7_45 : SS) =>
  some s7_45)))))
  else zB (f_X7_wrong S7) (fun (s7_17 : SS) =>
  some s7_17)
  else zB (f_X7_readRegister S7) (fun (s7_49 : SS) =>
  some s7_49))
  else zB (f_X7_tellAll S7 (1 : Int32)) (fun (s7_53 : SS) =>
  some s7_53))
  else zB (f_X7_tellAll S7 (0 : Int32)) (fun (s7_57 : SS) =>
  some s7_57))

noncomputable def b_X7_isOfDriver_4 (S7 : SS) (p1 : Int32) : (Int32 × Int32) → Option ((Int32 × Int32) ⊕ (Int32)) := fun (v10, v11) =>
  if (gI S7 28) ≤ v11 then zG (zb v10) (
  some (Sum.inr v10))
  else if v10 = (0 : Int32) then zG (vp_in v11 200) (
  if p1 = ((gA S7 24 v11.toNatClampNeg) + (1 : Int32)) then zL (v11 + 1) (fun v18 =>
  some (Sum.inl ((1 : Int32), v18)))
  else if p1 = ((gA S7 24 v11.toNatClampNeg) + (2 : Int32)) then zL (v11 + 1) (fun v21 =>
  some (Sum.inl ((1 : Int32), v21)))
  else zL (v11 + 1) (fun v20 =>
  some (Sum.inl ((0 : Int32), v20))))
  else zL (v11 + 1) (fun v15 =>
  some (Sum.inl ((1 : Int32), v15)))
noncomputable def f_X7_isOfDriver (S7 : SS) (p1 : Int32) : Option (Int32) :=
  zI (b_X7_isOfDriver_4 S7 p1) zF ((0 : Int32), (0 : Int32))

noncomputable def b_X7_resolve_142 : (Int32 × SS) → Option ((Int32 × SS) ⊕ (SS)) := fun (v35, s7_36) =>
  if (gI s7_36 28) ≤ v35 then some (Sum.inr s7_36)
  else zG (vp_in v35 200) (
  zB (f_X7_newOf s7_36 (gB s7_36 23 v35.toNatClampNeg)) (fun (r39 : Int32) =>
  zL (((60 : Int32) * (gI s7_36 30)) + r39) (fun v43 =>
  zG (vp_in v43 120) (
  zG (vp_in (((6 : Int32) * v43) + (gA s7_36 14 v43.toNatClampNeg)) 720) (
  zL (sA s7_36 19 (upd (gA s7_36 19) (((6 : Int32) * v43) + (gA s7_36 14 v43.toNatClampNeg)).toNatClampNeg (vp_nar .boolean (gA s7_36 25 v35.toNatClampNeg)))) (fun s7_47 =>
  zG (vp_in ((gA s7_47 24 v35.toNatClampNeg) + (1 : Int32)) 1000) (
  zB (f_X7_newOf s7_47 (gB s7_47 20 ((gA s7_47 24 v35.toNatClampNeg) + (1 : Int32)).toNatClampNeg)) (fun (r49 : Int32) =>
  zG (vp_in (((12 : Int32) * v43) + ((2 : Int32) * (gA s7_47 14 v43.toNatClampNeg))) 1440) (
  zL (sA s7_47 16 (upd (gA s7_47 16) (((12 : Int32) * v43) + ((2 : Int32) * (gA s7_47 14 v43.toNatClampNeg))).toNatClampNeg r49)) (fun s7_55 =>
  zG (vp_in ((gA s7_55 24 v35.toNatClampNeg) + (2 : Int32)) 1000) (
  zB (f_X7_newOf s7_55 (gB s7_55 20 ((gA s7_55 24 v35.toNatClampNeg) + (2 : Int32)).toNatClampNeg)) (fun (r57 : Int32) =>
  zG (vp_in ((((12 : Int32) * v43) + ((2 : Int32) * (gA s7_55 14 v43.toNatClampNeg))) + (1 : Int32)) 1440) (
  zL (sA s7_55 16 (upd (gA s7_55 16) ((((12 : Int32) * v43) + ((2 : Int32) * (gA s7_55 14 v43.toNatClampNeg))) + (1 : Int32)).toNatClampNeg r57)) (fun s7_63 =>
  zL (sA s7_63 14 (upd (gA s7_63 14) v43.toNatClampNeg ((gA s7_63 14 v43.toNatClampNeg) + (1 : Int32)))) (fun s7_65 =>
  zL (v35 + 1) (fun v66 =>
  some (Sum.inl (v66, s7_65))))))))))))))))))
noncomputable def b_X7_resolve_87 : (Int32 × SS) → Option ((Int32 × SS) ⊕ (SS)) := fun (v67, s7_68) =>
  if (gI s7_68 27) ≤ v67 then some (Sum.inr s7_68)
  else zG (vp_in v67 1000) (
  if (gA s7_68 22 v67.toNatClampNeg) = (-1 : Int32) then zL (v67 + 1) (fun v72 =>
  some (Sum.inl (v72, s7_68)))
  else zB (f_X7_isOfDriver s7_68 v67) (fun (r73 : Int32) =>
  if r73 = (0 : Int32) then zB (f_X7_newOf s7_68 (gB s7_68 20 v67.toNatClampNeg)) (fun (r79 : Int32) =>
  zG (vp_in (gA s7_68 22 v67.toNatClampNeg) 1440) (
  zL (sA s7_68 16 (upd (gA s7_68 16) (gA s7_68 22 v67.toNatClampNeg).toNatClampNeg r79)) (fun s7_85 =>
  zL (v67 + 1) (fun v86 =>
  some (Sum.inl (v86, s7_85))))))
  else zL (v67 + 1) (fun v78 =>
  some (Sum.inl (v78, s7_68)))))
noncomputable def b_X7_resolve_2 : (Int32 × SS) → Option ((Int32 × SS) ⊕ (SS)) := fun (v87, s7_88) =>
  if (gI s7_88 27) ≤ v87 then some (Sum.inr s7_88)
  else zB (f_X7_isGood s7_88) (fun (r90 : Int32) =>
  if r90 = (0 : Int32) then some (Sum.inr s7_88)
  else zG (vp_in v87 1000) (
  zB (f_X7_newOf s7_88 (gB s7_88 20 v87.toNatClampNeg)) (fun (r96 : Int32) =>
  if r96 < (0 : Int32) then zB (f_X7_fails s7_88 (4 : Int32) (gA s7_88 21 v87.toNatClampNeg)) (fun (s7_101 : SS) =>
  zL (v87 + 1) (fun v105 =>
  some (Sum.inl (v105, s7_101))))
  else if (gA s7_88 22 v87.toNatClampNeg) = (-1 : Int32) then zG (vp_in (((60 : Int32) * (gI s7_88 30)) + r96) 120) (
  if (gA s7_88 12 (((60 : Int32) * (gI s7_88 30)) + r96).toNatClampNeg) = (1 : Int32) then zL (v87 + 1) (fun v110 =>
  some (Sum.inl (v110, s7_88)))
  else zB (f_X7_fails s7_88 (4 : Int32) (gA s7_88 21 v87.toNatClampNeg)) (fun (s7_111 : SS) =>
  zL (v87 + 1) (fun v115 =>
  some (Sum.inl (v115, s7_111)))))
  else zL (v87 + 1) (fun v107 =>
  some (Sum.inl (v107, s7_88))))))
noncomputable def f_X7_resolve (S7 : SS) : Option (SS) :=
  zB (zI (b_X7_resolve_2) zF ((0 : Int32), S7)) (fun (s7_10 : SS) =>
  zB (f_X7_isGood s7_10) (fun (r11 : Int32) =>
  if r11 = (0 : Int32) then some s7_10
  else zB (zI (b_X7_resolve_87) zF ((0 : Int32), s7_10)) (fun (s7_25 : SS) =>
  zI (b_X7_resolve_142) zF ((0 : Int32), s7_25))))

set_option maxHeartbeats 4000000 in
set_option maxRecDepth 100000 in
theorem m_X7_readGate (l : Launch) (dC : Nat → ClassId) (dI : Nat → Nat → Nat) (y : Nat → ClassId) (a7 : Nat) (h7 : Nat → Nat) (S7 : SS) (p1 : Int64) (p2 : Int32) (sz : Nat) (o_7 : SS) (h : f_X7_readGate S7 p1 p2 = some o_7) : Met l yX7_readGate wsX7_readGate ({ frames := 3, cells := 0, slots := 0, locals := 64 }) (va_Pc [.ref a7, .long p1, .int p2] (fun U => U.heap.size = sz ∧ va_P (dC, dI) vwCl (cX7 a7 h7 y S7) U.heap ∧ va_K (dC, dI) vwCl [(y 0, .int), (y 1, .long), (y 2, .byte), (y 3, .boolean)] U ∧ va_D (fun _ => True) (cX7 a7 h7 y S7))) (va_Qv (fun (_ : Unit) => True) (fun (_ : Unit) (t : State) => va_P (dC, dI) vwCl (cX7 a7 h7 y o_7) t.heap ∧ va_K (dC, dI) vwCl [(y 0, .int), (y 1, .long), (y 2, .byte), (y 3, .boolean)] t ∧ va_D (va_A (cX7 a7 h7 y S7) sz) (cX7 a7 h7 y o_7)) (va_A (cX7 a7 h7 y S7) sz)) 0 0 (va_A (cX7 a7 h7 y S7) sz) := by
  refine Met.ofW (cc := cX7_readGate) (maxL := 7) (ret := none) (by decide +kernel) rfl ?_
  intro p e s m args below meth c s₁ B hml hv
  obtain ⟨rfl, hsz, hP, hK, hD0⟩ := hv
  have hx := B.exec
  have hb := B.bytes
  have hr := B.returns
  have hts := atoms_spec (ws := wsX7_readGate) B.pre
  have hown : s.vm.findClass RX7 = some m.cls := findClass_of_methodNamed B.named
  have hlocks := B.notSynchronized
  have inX7_ : ∀ w ∈ wsX70, w ∈ wsX7_readGate := fun _ h => List.mem_cons_of_mem _ (List.mem_append_right _ h)
  subst hsz
  have hD := hD0.self (sz := s.heap.size)
  generalize hAe : va_A (cX7 a7 h7 y S7) s.heap.size = A at hD ⊢
  have hA : ∀ q : Nat, s.heap.size ≤ q → A q := fun q h => by rw [← hAe]; exact Or.inr h
  have hS : va_S A s.heap s.heap [] := va_S.rf
  have hP : va_P (dC, dI) vwCl (cX7 a7 h7 y S7) s.heap := hP
  have hl := lv_entry ([.ref a7, .long p1, .int p2]) (n := 7) (Nat.le_of_ble_eq_true rfl)
  rw [lg_entry_eq]
  generalize (lg_sl ([.ref a7, .long p1, .int p2]) ++ List.replicate (7 - (lg_sl ([.ref a7, .long p1, .int p2])).length) Slot.unset).toArray = ls at hl ⊢
  have hl : lv_has ls 7 [(0, .ref a7), (1, .long p1), (3, .int p2)] := hl
  refine lv_aload_n hx hb dX7_readGate_0 rfl (lv_at hl 0 rfl) ?_
  refine va_get (D := (dC, dI)) (ci := 6) (v := .int (gI S7 26)) (C := RX7) (T := TX7) (N := 49) hx hb hts inX7_ hown hK hP 0 rfl rfl 26 (by decide) (hts (.fieldLink RX7 185 "GateWheelModel" "read" "I") (List.mem_of_getElem? (i := 1) rfl)) (fun _ h9 => h9) rfl dX7_readGate_1 ?_
  refine lv_bipush (v := 60) hx hb dX7_readGate_4 (by decide) ?_
  refine W_abs (fun GW1 eG2 => ?_)
  obtain ⟨ov4, hr5, h⟩ := zB_spec h
  have jn3 : ∀ (s7_7 : SS) (HGW1 : Heap) (locs : List Loc) (ls : Array Slot), s7_7 = ov4 → va_P (dC, dI) vwCl (cX7 a7 h7 y s7_7) HGW1 → va_D A (cX7 a7 h7 y s7_7) → va_S A s.heap HGW1 locs → lv_has ls 7 [(0, .ref a7), (1, .long p1), (3, .int p2)] → GW1 HGW1 locs 0 0 (F0 m 15 ls []) := by
    intro s7_7 HGW1 locs ls hv hP hD hS hl
    subst hv
    refine (eG2 _ _ _ _ _).mpr ?_
    refine lv_aload_n hx hb dX7_readGate_15 rfl (lv_at hl 0 rfl) ?_
    refine lv_lload_n hx hb dX7_readGate_16 rfl (lv_at hl 1 rfl) ?_
    obtain ⟨r8, hc9, h⟩ := zB_spec h
    have hFc := zFree hD hS hA
    refine va_calli (va_runV (As := [.long p1]) (rest := []) ⟨hx, hb, hml, hown, hts⟩ (m_X7_newOf l dC dI y a7 h7 s7_7 p1 HGW1.size r8 hc9) (cwV 1 hts gX7_readGate_X7_newOf rfl rfl rfl (by decide +kernel) ⟨Nat.le_of_ble_eq_true rfl, Nat.le_of_ble_eq_true rfl⟩) ⟨fun a U g mk q => by obtain ⟨q0, q1, qP, qK, qD⟩ := q; exact ⟨q0, q1, qP, va_K.moved (u := U) (U := U.calling g mk a) (Vm.Alike.refl U.vm) qK, qD⟩, va_recv hK hP (ci := 6) (q0 := 0) rfl rfl, fun U hU hW => ⟨rfl, by rw [hU], by rw [hU]; exact hP, va_K.moved hW.alike hK, hD.weaken (fun _ _ _ _ => trivial)⟩⟩ rfl rfl hl.1 rfl (lv_room (Nat.le_of_ble_eq_true rfl)) dX7_readGate_17 ⟨Nat.le_of_ble_eq_true rfl, Nat.le_of_ble_eq_true rfl⟩) hS (fun q _ h => hFc q h) hFc (fun rr11 u t H10 locs ht hvm hw hB hz1 hk1 hS => ?_)
    obtain ⟨hP1, hK1, hD1⟩ := hB
    rw [ht] at hP1
    refine zTopi hw.symm ?_
    have hP := hP1
    have hD := hD1.weaken (fun _ q _ h => hFc q.1 h)
    have hP : va_P (dC, dI) vwCl (cX7 a7 h7 y s7_7) H10 := hP
    have hD : va_D A (cX7 a7 h7 y s7_7) := hD
    refine W_abs (fun GW12 eG13 => ?_)
    obtain ⟨ov15, hr16, h⟩ := zB_spec h
    have jn14 : ∀ (s7_18 : SS) (HGW12 : Heap) (locs : List Loc) (ls : Array Slot), s7_18 = ov15 → va_P (dC, dI) vwCl (cX7 a7 h7 y s7_18) HGW12 → va_D A (cX7 a7 h7 y s7_18) → va_S A s.heap HGW12 locs → lv_has ls 7 [(0, .ref a7), (1, .long p1), (3, .int p2)] → GW12 HGW12 locs 0 0 (F0 m 29 ls []) := by
      intro s7_18 HGW12 locs ls hv hP hD hS hl
      subst hv
      refine (eG13 _ _ _ _ _).mpr ?_
      refine lv_aload_n hx hb dX7_readGate_29 rfl (lv_at hl 0 rfl) ?_
      obtain ⟨r19, hc20, h⟩ := zB_spec h
      have hFc := zFree hD hS hA
      refine va_calli (va_runV (As := []) (rest := []) ⟨hx, hb, hml, hown, hts⟩ (m_X7_isGood l dC dI y a7 h7 s7_18 HGW12.size r19 hc20) (cwV 0 hts gX7_readGate_X7_isGood rfl rfl rfl (by decide +kernel) ⟨Nat.le_of_ble_eq_true rfl, Nat.le_of_ble_eq_true rfl⟩) ⟨fun a U g mk q => by obtain ⟨q0, q1, qP, qK, qD⟩ := q; exact ⟨q0, q1, qP, va_K.moved (u := U) (U := U.calling g mk a) (Vm.Alike.refl U.vm) qK, qD⟩, va_recv hK hP (ci := 6) (q0 := 0) rfl rfl, fun U hU hW => ⟨rfl, by rw [hU], by rw [hU]; exact hP, va_K.moved hW.alike hK, hD.weaken (fun _ _ _ _ => trivial)⟩⟩ rfl rfl hl.1 rfl (lv_room (Nat.le_of_ble_eq_true rfl)) dX7_readGate_30 ⟨Nat.le_of_ble_eq_true rfl, Nat.le_of_ble_eq_true rfl⟩) hS (fun q _ h => hFc q h) hFc (fun rr22 u t H21 locs ht hvm hw hB hz1 hk1 hS => ?_)
      obtain ⟨hP1, hK1, hD1⟩ := hB
      rw [ht] at hP1
      refine zTopi hw.symm ?_
      have hP := hP1
      have hD := hD1.weaken (fun _ q _ h => hFc q.1 h)
      have hP : va_P (dC, dI) vwCl (cX7 a7 h7 y s7_18) H21 := hP
      have hD : va_D A (cX7 a7 h7 y s7_18) := hD
      refine lv_if_ne (tgt := 37) hx hb dX7_readGate_33 (by decide) (fun c23 => ?_) (fun c23 => ?_)
      · have h := zN c23 h
        refine lv_bipush (v := 60) hx hb dX7_readGate_37 (by decide) ?_
        refine lv_aload_n hx hb dX7_readGate_39 rfl (lv_at hl 0 rfl) ?_
        refine va_get (D := (dC, dI)) (ci := 6) (v := .int (gI s7_18 30)) (C := RX7) (T := TX7) (N := 49) hx hb hts inX7_ hown hK hP 0 rfl rfl 30 (by decide) (hts (.fieldLink RX7 188 "GateWheelModel" "bank" "I") (List.mem_of_getElem? (i := 2) rfl)) (fun _ h9 => h9) rfl dX7_readGate_40 ?_
        refine lv_imul hx hb dX7_readGate_43 ?_
        refine lv_aload_n hx hb dX7_readGate_44 rfl (lv_at hl 0 rfl) ?_
        refine va_get (D := (dC, dI)) (ci := 6) (v := .int (gI s7_18 26)) (C := RX7) (T := TX7) (N := 49) hx hb hts inX7_ hown hK hP 0 rfl rfl 26 (by decide) (hts (.fieldLink RX7 185 "GateWheelModel" "read" "I") (List.mem_of_getElem? (i := 1) rfl)) (fun _ h9 => h9) rfl dX7_readGate_45 ?_
        refine lv_iadd hx hb dX7_readGate_48 ?_
        obtain ⟨v24, ev24, h⟩ := zL_spec h
        refine zTopi ev24 ?_
        refine lv_istore (lv' := [(4, .int v24), (0, .ref a7), (1, .long p1), (3, .int p2)]) hx hb dX7_readGate_49 hl (by decide) rfl (fun ls hl => ?_)
        refine lv_aload_n hx hb dX7_readGate_51 rfl (lv_at hl 1 rfl) ?_
        refine va_get (D := (dC, dI)) (ci := 6) (v := .ref (h7 11)) (C := RX7) (T := TX7) (N := 49) hx hb hts inX7_ hown hK hP 0 rfl rfl 11 (by decide) (hts (.fieldLink RX7 20 "GateWheelModel" "nName" "[J") (List.mem_of_getElem? (i := 3) rfl)) (fun _ h9 => h9) rfl dX7_readGate_52 ?_
        refine lv_iload hx hb dX7_readGate_55 (lv_at hl 0 rfl) ?_
        refine lv_lload_n hx hb dX7_readGate_57 rfl (lv_at hl 2 rfl) ?_
        obtain ⟨hi25, h⟩ := zG_spec h
        refine va_last hx hb hK hP hD hS 3 1 rfl rfl hi25 dX7_readGate_58 (fun H26 locs hP hD hS => ?_)
        obtain ⟨s7_27, es7_27, h⟩ := zL_spec h
        have hP : va_P (dC, dI) vwCl (cX7 a7 h7 y s7_27) H26 := by rw [es7_27]; exact hP
        have hD : va_D A (cX7 a7 h7 y s7_27) := by rw [es7_27]; exact hD
        refine lv_aload_n hx hb dX7_readGate_59 rfl (lv_at hl 1 rfl) ?_
        refine va_get (D := (dC, dI)) (ci := 6) (v := .ref (h7 12)) (C := RX7) (T := TX7) (N := 49) hx hb hts inX7_ hown hK hP 0 rfl rfl 12 (by decide) (hts (.fieldLink RX7 24 "GateWheelModel" "nKind" "[I") (List.mem_of_getElem? (i := 4) rfl)) (fun _ h9 => h9) rfl dX7_readGate_60 ?_
        refine lv_iload hx hb dX7_readGate_63 (lv_at hl 0 rfl) ?_
        refine lv_iconst (v := 2) hx hb dX7_readGate_65 (by decide) ?_
        refine va_iast hx hb hK hP hD hS 4 0 rfl rfl hi25 dX7_readGate_66 (fun H28 locs hP hD hS => ?_)
        obtain ⟨s7_29, es7_29, h⟩ := zL_spec h
        have hP : va_P (dC, dI) vwCl (cX7 a7 h7 y s7_29) H28 := by rw [es7_29]; exact hP
        have hD : va_D A (cX7 a7 h7 y s7_29) := by rw [es7_29]; exact hD
        refine lv_aload_n hx hb dX7_readGate_67 rfl (lv_at hl 1 rfl) ?_
        refine va_get (D := (dC, dI)) (ci := 6) (v := .ref (h7 14)) (C := RX7) (T := TX7) (N := 49) hx hb hts inX7_ hown hK hP 0 rfl rfl 14 (by decide) (hts (.fieldLink RX7 31 "GateWheelModel" "nMany" "[I") (List.mem_of_getElem? (i := 5) rfl)) (fun _ h9 => h9) rfl dX7_readGate_68 ?_
        refine lv_iload hx hb dX7_readGate_71 (lv_at hl 0 rfl) ?_
        refine lv_iconst (v := 0) hx hb dX7_readGate_73 (by decide) ?_
        refine va_iast hx hb hK hP hD hS 6 0 rfl rfl hi25 dX7_readGate_74 (fun H30 locs hP hD hS => ?_)
        obtain ⟨s7_31, es7_31, h⟩ := zL_spec h
        have hP : va_P (dC, dI) vwCl (cX7 a7 h7 y s7_31) H30 := by rw [es7_31]; exact hP
        have hD : va_D A (cX7 a7 h7 y s7_31) := by rw [es7_31]; exact hD
        refine lv_aload_n hx hb dX7_readGate_75 rfl (lv_at hl 1 rfl) ?_
        refine va_get (D := (dC, dI)) (ci := 6) (v := .ref (h7 15)) (C := RX7) (T := TX7) (N := 49) hx hb hts inX7_ hown hK hP 0 rfl rfl 15 (by decide) (hts (.fieldLink RX7 34 "GateWheelModel" "nDelay" "[I") (List.mem_of_getElem? (i := 6) rfl)) (fun _ h9 => h9) rfl dX7_readGate_76 ?_
        refine lv_iload hx hb dX7_readGate_79 (lv_at hl 0 rfl) ?_
        refine lv_iconst (v := 1) hx hb dX7_readGate_81 (by decide) ?_
        refine va_iast hx hb hK hP hD hS 7 0 rfl rfl hi25 dX7_readGate_82 (fun H32 locs hP hD hS => ?_)
        obtain ⟨s7_33, es7_33, h⟩ := zL_spec h
        have hP : va_P (dC, dI) vwCl (cX7 a7 h7 y s7_33) H32 := by rw [es7_33]; exact hP
        have hD : va_D A (cX7 a7 h7 y s7_33) := by rw [es7_33]; exact hD
        refine lv_aload_n hx hb dX7_readGate_83 rfl (lv_at hl 1 rfl) ?_
        refine va_get (D := (dC, dI)) (ci := 6) (v := .ref (h7 18)) (C := RX7) (T := TX7) (N := 49) hx hb hts inX7_ hown hK hP 0 rfl rfl 18 (by decide) (hts (.fieldLink RX7 43 "GateWheelModel" "nAt" "[I") (List.mem_of_getElem? (i := 7) rfl)) (fun _ h9 => h9) rfl dX7_readGate_84 ?_
        refine lv_aload_n hx hb dX7_readGate_87 rfl (lv_at hl 1 rfl) ?_
        refine va_get (D := (dC, dI)) (ci := 6) (v := .int (gI s7_33 26)) (C := RX7) (T := TX7) (N := 49) hx hb hts inX7_ hown hK hP 0 rfl rfl 26 (by decide) (hts (.fieldLink RX7 185 "GateWheelModel" "read" "I") (List.mem_of_getElem? (i := 1) rfl)) (fun _ h9 => h9) rfl dX7_readGate_88 ?_
        refine lv_iload_n hx hb dX7_readGate_91 rfl (lv_at hl 3 rfl) ?_
        obtain ⟨hi34, h⟩ := zG_spec h
        refine va_iast hx hb hK hP hD hS 10 0 rfl rfl hi34 dX7_readGate_92 (fun H35 locs hP hD hS => ?_)
        obtain ⟨s7_36, es7_36, h⟩ := zL_spec h
        have hP : va_P (dC, dI) vwCl (cX7 a7 h7 y s7_36) H35 := by rw [es7_36]; exact hP
        have hD : va_D A (cX7 a7 h7 y s7_36) := by rw [es7_36]; exact hD
        refine lv_aload_n hx hb dX7_readGate_93 rfl (lv_at hl 1 rfl) ?_
        refine lv_dup hx hb dX7_readGate_94 rfl ?_
        refine va_get (D := (dC, dI)) (ci := 6) (v := .int (gI s7_36 26)) (C := RX7) (T := TX7) (N := 49) hx hb hts inX7_ hown hK hP 0 rfl rfl 26 (by decide) (hts (.fieldLink RX7 185 "GateWheelModel" "read" "I") (List.mem_of_getElem? (i := 1) rfl)) (fun _ h9 => h9) rfl dX7_readGate_95 ?_
        refine lv_iconst (v := 1) hx hb dX7_readGate_98 (by decide) ?_
        refine lv_iadd hx hb dX7_readGate_99 ?_
        refine va_put (D := (dC, dI)) (ci := 6) (v := .int ((gI s7_36 26) + (1 : Int32))) (ty := .int) (C := RX7) (T := TX7) (N := 49) hx hb hts inX7_ tyX7 tyX7_ok nmX7 hown hK hP hD hS 0 rfl rfl 26 (by decide) (hts (.fieldLink RX7 185 "GateWheelModel" "read" "I") (List.mem_of_getElem? (i := 1) rfl)) (fun _ h9 => h9) rfl (by decide +kernel) rfl rfl (Nat.le_of_ble_eq_true rfl) dX7_readGate_100 (fun H37 locs hP hD hS => ?_)
        obtain ⟨s7_38, es7_38, h⟩ := zL_spec h
        have hP : va_P (dC, dI) vwCl (cX7 a7 h7 y s7_38) H37 := by rw [es7_38]; exact hP
        have hD : va_D A (cX7 a7 h7 y s7_38) := by rw [es7_38]; exact hD
        refine lv_aload_n hx hb dX7_readGate_103 rfl (lv_at hl 1 rfl) ?_
        obtain ⟨s7_39, hc40, h⟩ := zB_spec h
        have hFc := zFree hD hS hA
        refine va_callv (va_runV (As := []) (rest := []) ⟨hx, hb, hml, hown, hts⟩ (m_X7_next l dC dI y a7 h7 s7_38 H37.size s7_39 hc40) (cwV 0 hts gX7_readGate_X7_next rfl rfl rfl (by decide +kernel) ⟨Nat.le_of_ble_eq_true rfl, Nat.le_of_ble_eq_true rfl⟩) ⟨fun a U g mk q => by obtain ⟨q0, q1, qP, qK, qD⟩ := q; exact ⟨q0, q1, qP, va_K.moved (u := U) (U := U.calling g mk a) (Vm.Alike.refl U.vm) qK, qD⟩, va_recv hK hP (ci := 6) (q0 := 0) rfl rfl, fun U hU hW => ⟨rfl, by rw [hU], by rw [hU]; exact hP, va_K.moved hW.alike hK, hD.weaken (fun _ _ _ _ => trivial)⟩⟩ rfl rfl hl.1 rfl (lv_room (Nat.le_of_ble_eq_true rfl)) dX7_readGate_104 ⟨Nat.le_of_ble_eq_true rfl, Nat.le_of_ble_eq_true rfl⟩) hS (fun q _ h => hFc q h) hFc (fun u t H41 locs ht hvm hw hB hz1 hk1 hS => ?_)
        obtain ⟨hP1, hK1, hD1⟩ := hB
        rw [ht] at hP1
        have hP := hP1
        have hD := hD1.weaken (fun _ q _ h => hFc q.1 h)
        have hP : va_P (dC, dI) vwCl (cX7 a7 h7 y s7_39) H41 := hP
        have hD : va_D A (cX7 a7 h7 y s7_39) := hD
        refine lv_aload_n hx hb dX7_readGate_107 rfl (lv_at hl 1 rfl) ?_
        refine va_get (D := (dC, dI)) (ci := 6) (v := .int (gI s7_39 8)) (C := RX7) (T := TX7) (N := 49) hx hb hts inX7_ hown hK hP 0 rfl rfl 8 (by decide) (hts (.fieldLink RX7 141 "GateWheelModel" "token" "I") (List.mem_of_getElem? (i := 8) rfl)) (fun _ h9 => h9) rfl dX7_readGate_108 ?_
        refine lv_iconst (v := 3) hx hb dX7_readGate_111 (by decide) ?_
        refine W_abs (fun GW43 eG44 => ?_)
        obtain ⟨ov46, hr47, h⟩ := zB_spec h
        have jn45 : ∀ (v49 : Int32) (HGW43 : Heap) (locs : List Loc) (ls : Array Slot), v49 = ov46 → va_P (dC, dI) vwCl (cX7 a7 h7 y s7_39) HGW43 → va_D A (cX7 a7 h7 y s7_39) → va_S A s.heap HGW43 locs → lv_has ls 7 [(4, .int v24), (0, .ref a7)] → GW43 HGW43 locs 0 0 (F0 m 126 ls [.int v49]) := by
          intro v49 HGW43 locs ls hv hP hD hS hl
          subst hv
          refine (eG44 _ _ _ _ _).mpr ?_
          refine lv_istore (lv' := [(5, .int v49), (4, .int v24), (0, .ref a7)]) hx hb dX7_readGate_126 hl (by decide) rfl (fun ls hl => ?_)
          refine lv_iload hx hb dX7_readGate_128 (lv_at hl 0 rfl) ?_
          refine W_abs (fun GW50 eG51 => ?_)
          obtain ⟨ov53, hr54, h⟩ := zB_spec h
          have jn52 : ∀ (s7_56 : SS) (HGW50 : Heap) (locs : List Loc) (ls : Array Slot), s7_56 = ov53 → va_P (dC, dI) vwCl (cX7 a7 h7 y s7_56) HGW50 → va_D A (cX7 a7 h7 y s7_56) → va_S A s.heap HGW50 locs → lv_has ls 7 [(5, .int v49), (4, .int v24), (0, .ref a7)] → GW50 HGW50 locs 0 0 (F0 m 137 ls []) := by
            intro s7_56 HGW50 locs ls hv hP hD hS hl
            subst hv
            refine (eG51 _ _ _ _ _).mpr ?_
            refine lv_aload_n hx hb dX7_readGate_137 rfl (lv_at hl 2 rfl) ?_
            obtain ⟨r57, hc58, h⟩ := zB_spec h
            have hFc := zFree hD hS hA
            refine va_calli (va_runV (As := []) (rest := []) ⟨hx, hb, hml, hown, hts⟩ (m_X7_isGood l dC dI y a7 h7 s7_56 HGW50.size r57 hc58) (cwV 0 hts gX7_readGate_X7_isGood rfl rfl rfl (by decide +kernel) ⟨Nat.le_of_ble_eq_true rfl, Nat.le_of_ble_eq_true rfl⟩) ⟨fun a U g mk q => by obtain ⟨q0, q1, qP, qK, qD⟩ := q; exact ⟨q0, q1, qP, va_K.moved (u := U) (U := U.calling g mk a) (Vm.Alike.refl U.vm) qK, qD⟩, va_recv hK hP (ci := 6) (q0 := 0) rfl rfl, fun U hU hW => ⟨rfl, by rw [hU], by rw [hU]; exact hP, va_K.moved hW.alike hK, hD.weaken (fun _ _ _ _ => trivial)⟩⟩ rfl rfl hl.1 rfl (lv_room (Nat.le_of_ble_eq_true rfl)) dX7_readGate_138 ⟨Nat.le_of_ble_eq_true rfl, Nat.le_of_ble_eq_true rfl⟩) hS (fun q _ h => hFc q h) hFc (fun rr60 u t H59 locs ht hvm hw hB hz1 hk1 hS => ?_)
            obtain ⟨hP1, hK1, hD1⟩ := hB
            rw [ht] at hP1
            refine zTopi hw.symm ?_
            have hP := hP1
            have hD := hD1.weaken (fun _ q _ h => hFc q.1 h)
            have hP : va_P (dC, dI) vwCl (cX7 a7 h7 y s7_56) H59 := hP
            have hD : va_D A (cX7 a7 h7 y s7_56) := hD
            refine lv_if_ne (tgt := 145) hx hb dX7_readGate_141 (by decide) (fun c61 => ?_) (fun c61 => ?_)
            · have h := zN c61 h
              refine lv_aload_n hx hb dX7_readGate_145 rfl (lv_at hl 2 rfl) ?_
              refine va_get (D := (dC, dI)) (ci := 6) (v := .ref (h7 13)) (C := RX7) (T := TX7) (N := 49) hx hb hts inX7_ hown hK hP 0 rfl rfl 13 (by decide) (hts (.fieldLink RX7 28 "GateWheelModel" "nGate" "[I") (List.mem_of_getElem? (i := 10) rfl)) (fun _ h9 => h9) rfl dX7_readGate_146 ?_
              refine lv_iload hx hb dX7_readGate_149 (lv_at hl 1 rfl) ?_
              refine lv_iload hx hb dX7_readGate_151 (lv_at hl 0 rfl) ?_
              refine va_iast hx hb hK hP hD hS 5 0 rfl rfl hi25 dX7_readGate_153 (fun H62 locs hP hD hS => ?_)
              obtain ⟨s7_63, es7_63, h⟩ := zL_spec h
              have hP : va_P (dC, dI) vwCl (cX7 a7 h7 y s7_63) H62 := by rw [es7_63]; exact hP
              have hD : va_D A (cX7 a7 h7 y s7_63) := by rw [es7_63]; exact hD
              refine lv_aload_n hx hb dX7_readGate_154 rfl (lv_at hl 2 rfl) ?_
              obtain ⟨s7_64, hc65, h⟩ := zB_spec h
              have hFc := zFree hD hS hA
              refine va_callv (va_runV (As := []) (rest := []) ⟨hx, hb, hml, hown, hts⟩ (m_X7_next l dC dI y a7 h7 s7_63 H62.size s7_64 hc65) (cwV 0 hts gX7_readGate_X7_next rfl rfl rfl (by decide +kernel) ⟨Nat.le_of_ble_eq_true rfl, Nat.le_of_ble_eq_true rfl⟩) ⟨fun a U g mk q => by obtain ⟨q0, q1, qP, qK, qD⟩ := q; exact ⟨q0, q1, qP, va_K.moved (u := U) (U := U.calling g mk a) (Vm.Alike.refl U.vm) qK, qD⟩, va_recv hK hP (ci := 6) (q0 := 0) rfl rfl, fun U hU hW => ⟨rfl, by rw [hU], by rw [hU]; exact hP, va_K.moved hW.alike hK, hD.weaken (fun _ _ _ _ => trivial)⟩⟩ rfl rfl hl.1 rfl (lv_room (Nat.le_of_ble_eq_true rfl)) dX7_readGate_155 ⟨Nat.le_of_ble_eq_true rfl, Nat.le_of_ble_eq_true rfl⟩) hS (fun q _ h => hFc q h) hFc (fun u t H66 locs ht hvm hw hB hz1 hk1 hS => ?_)
              obtain ⟨hP1, hK1, hD1⟩ := hB
              rw [ht] at hP1
              have hP := hP1
              have hD := hD1.weaken (fun _ q _ h => hFc q.1 h)
              have hP : va_P (dC, dI) vwCl (cX7 a7 h7 y s7_64) H66 := hP
              have hD : va_D A (cX7 a7 h7 y s7_64) := hD
              refine lv_aload_n hx hb dX7_readGate_158 rfl (lv_at hl 2 rfl) ?_
              refine lv_bipush (v := 40) hx hb dX7_readGate_159 (by decide) ?_
              obtain ⟨r68, hc69, h⟩ := zB_spec h
              have hFc := zFree hD hS hA
              refine va_calli (va_runV (As := [.int 40]) (rest := []) ⟨hx, hb, hml, hown, hts⟩ (m_X7_is l dC dI y a7 h7 s7_64 (40 : Int32) H66.size r68 hc69) (cwV 1 hts gX7_readGate_X7_is rfl rfl rfl (by decide +kernel) ⟨Nat.le_of_ble_eq_true rfl, Nat.le_of_ble_eq_true rfl⟩) ⟨fun a U g mk q => by obtain ⟨q0, q1, qP, qK, qD⟩ := q; exact ⟨q0, q1, qP, va_K.moved (u := U) (U := U.calling g mk a) (Vm.Alike.refl U.vm) qK, qD⟩, va_recv hK hP (ci := 6) (q0 := 0) rfl rfl, fun U hU hW => ⟨rfl, by rw [hU], by rw [hU]; exact hP, va_K.moved hW.alike hK, hD.weaken (fun _ _ _ _ => trivial)⟩⟩ rfl rfl hl.1 rfl (lv_room (Nat.le_of_ble_eq_true rfl)) dX7_readGate_161 ⟨Nat.le_of_ble_eq_true rfl, Nat.le_of_ble_eq_true rfl⟩) hS (fun q _ h => hFc q h) hFc (fun rr71 u t H70 locs ht hvm hw hB hz1 hk1 hS => ?_)
              obtain ⟨hP1, hK1, hD1⟩ := hB
              rw [ht] at hP1
              refine zTopi hw.symm ?_
              have hP := hP1
              have hD := hD1.weaken (fun _ q _ h => hFc q.1 h)
              have hP : va_P (dC, dI) vwCl (cX7 a7 h7 y s7_64) H70 := hP
              have hD : va_D A (cX7 a7 h7 y s7_64) := hD
              refine W_abs (fun GW72 eG73 => ?_)
              obtain ⟨ov75, hr76, h⟩ := zB_spec h
              have jn74 : ∀ (s7_78 : SS) (HGW72 : Heap) (locs : List Loc) (ls : Array Slot), s7_78 = ov75 → va_P (dC, dI) vwCl (cX7 a7 h7 y s7_78) HGW72 → va_D A (cX7 a7 h7 y s7_78) → va_S A s.heap HGW72 locs → lv_has ls 7 [(5, .int v49), (4, .int v24), (0, .ref a7)] → GW72 HGW72 locs 0 0 (F0 m 171 ls []) := by
                intro s7_78 HGW72 locs ls hv hP hD hS hl
                subst hv
                refine (eG73 _ _ _ _ _).mpr ?_
                refine lv_iconst (v := 1) hx hb dX7_readGate_171 (by decide) ?_
                refine lv_istore (lv' := [(6, .int 1), (5, .int v49), (4, .int v24), (0, .ref a7)]) hx hb dX7_readGate_172 hl (by decide) rfl (fun ls hl => ?_)
                refine W_abs (fun GW79 eG80 => ?_)
                obtain ⟨ov83, hi84, hk85⟩ := zS_spec h
                have je81 : ∀ (s7_88 : SS) (HGW79e : Heap) (locs : List Loc) (ls : Array Slot), Sum.inr s7_88 = ov83 → va_P (dC, dI) vwCl (cX7 a7 h7 y s7_88) HGW79e → va_D A (cX7 a7 h7 y s7_88) → va_S A s.heap HGW79e locs → lv_has ls 7 [(5, .int v49), (4, .int v24), (0, .ref a7)] → GW79 HGW79e locs 0 0 (F0 m 279 ls []) := by
                  intro s7_88 HGW79e locs ls hv hP hD hS hl
                  subst hv
                  have h := zS_r hk85
                  refine (eG80 _ _ _ _ _).mpr ?_
                  refine lv_aload_n hx hb dX7_readGate_279 rfl (lv_at hl 2 rfl) ?_
                  obtain ⟨r89, hc90, h⟩ := zB_spec h
                  have hFc := zFree hD hS hA
                  refine va_calli (va_runV (As := []) (rest := []) ⟨hx, hb, hml, hown, hts⟩ (m_X7_isGood l dC dI y a7 h7 s7_88 HGW79e.size r89 hc90) (cwV 0 hts gX7_readGate_X7_isGood rfl rfl rfl (by decide +kernel) ⟨Nat.le_of_ble_eq_true rfl, Nat.le_of_ble_eq_true rfl⟩) ⟨fun a U g mk q => by obtain ⟨q0, q1, qP, qK, qD⟩ := q; exact ⟨q0, q1, qP, va_K.moved (u := U) (U := U.calling g mk a) (Vm.Alike.refl U.vm) qK, qD⟩, va_recv hK hP (ci := 6) (q0 := 0) rfl rfl, fun U hU hW => ⟨rfl, by rw [hU], by rw [hU]; exact hP, va_K.moved hW.alike hK, hD.weaken (fun _ _ _ _ => trivial)⟩⟩ rfl rfl hl.1 rfl (lv_room (Nat.le_of_ble_eq_true rfl)) dX7_readGate_280 ⟨Nat.le_of_ble_eq_true rfl, Nat.le_of_ble_eq_true rfl⟩) hS (fun q _ h => hFc q h) hFc (fun rr92 u t H91 locs ht hvm hw hB hz1 hk1 hS => ?_)
                  obtain ⟨hP1, hK1, hD1⟩ := hB
                  rw [ht] at hP1
                  refine zTopi hw.symm ?_
                  have hP := hP1
                  have hD := hD1.weaken (fun _ q _ h => hFc q.1 h)
                  have hP : va_P (dC, dI) vwCl (cX7 a7 h7 y s7_88) H91 := hP
                  have hD : va_D A (cX7 a7 h7 y s7_88) := hD
                  refine W_abs (fun GW93 eG94 => ?_)
                  obtain ⟨ov96, hr97, h⟩ := zB_spec h
                  have jn95 : ∀ (s7_99 : SS) (HGW93 : Heap) (locs : List Loc) (ls : Array Slot), s7_99 = ov96 → va_P (dC, dI) vwCl (cX7 a7 h7 y s7_99) HGW93 → va_D A (cX7 a7 h7 y s7_99) → va_S A s.heap HGW93 locs → lv_has ls 7 [(4, .int v24), (0, .ref a7)] → GW93 HGW93 locs 0 0 (F0 m 314 ls []) := by
                    intro s7_99 HGW93 locs ls hv hP hD hS hl
                    subst hv
                    refine (eG94 _ _ _ _ _).mpr ?_
                    refine lv_aload_n hx hb dX7_readGate_314 rfl (lv_at hl 1 rfl) ?_
                    obtain ⟨r100, hc101, h⟩ := zB_spec h
                    have hFc := zFree hD hS hA
                    refine va_calli (va_runV (As := []) (rest := []) ⟨hx, hb, hml, hown, hts⟩ (m_X7_isGood l dC dI y a7 h7 s7_99 HGW93.size r100 hc101) (cwV 0 hts gX7_readGate_X7_isGood rfl rfl rfl (by decide +kernel) ⟨Nat.le_of_ble_eq_true rfl, Nat.le_of_ble_eq_true rfl⟩) ⟨fun a U g mk q => by obtain ⟨q0, q1, qP, qK, qD⟩ := q; exact ⟨q0, q1, qP, va_K.moved (u := U) (U := U.calling g mk a) (Vm.Alike.refl U.vm) qK, qD⟩, va_recv hK hP (ci := 6) (q0 := 0) rfl rfl, fun U hU hW => ⟨rfl, by rw [hU], by rw [hU]; exact hP, va_K.moved hW.alike hK, hD.weaken (fun _ _ _ _ => trivial)⟩⟩ rfl rfl hl.1 rfl (lv_room (Nat.le_of_ble_eq_true rfl)) dX7_readGate_315 ⟨Nat.le_of_ble_eq_true rfl, Nat.le_of_ble_eq_true rfl⟩) hS (fun q _ h => hFc q h) hFc (fun rr103 u t H102 locs ht hvm hw hB hz1 hk1 hS => ?_)
                    obtain ⟨hP1, hK1, hD1⟩ := hB
                    rw [ht] at hP1
                    refine zTopi hw.symm ?_
                    have hP := hP1
                    have hD := hD1.weaken (fun _ q _ h => hFc q.1 h)
                    have hP : va_P (dC, dI) vwCl (cX7 a7 h7 y s7_99) H102 := hP
                    have hD : va_D A (cX7 a7 h7 y s7_99) := hD
                    refine W_abs (fun GW104 eG105 => ?_)
                    obtain ⟨ov107, hr108, h⟩ := zB_spec h
                    have jn106 : ∀ (s7_110 : SS) (HGW104 : Heap) (locs : List Loc) (ls : Array Slot), s7_110 = ov107 → va_P (dC, dI) vwCl (cX7 a7 h7 y s7_110) HGW104 → va_D A (cX7 a7 h7 y s7_110) → va_S A s.heap HGW104 locs → lv_has ls 7 [(4, .int v24), (0, .ref a7)] → GW104 HGW104 locs 0 0 (F0 m 327 ls []) := by
                      intro s7_110 HGW104 locs ls hv hP hD hS hl
                      subst hv
                      refine (eG105 _ _ _ _ _).mpr ?_
                      refine lv_aload_n hx hb dX7_readGate_327 rfl (lv_at hl 1 rfl) ?_
                      obtain ⟨r111, hc112, h⟩ := zB_spec h
                      have hFc := zFree hD hS hA
                      refine va_calli (va_runV (As := []) (rest := []) ⟨hx, hb, hml, hown, hts⟩ (m_X7_isGood l dC dI y a7 h7 s7_110 HGW104.size r111 hc112) (cwV 0 hts gX7_readGate_X7_isGood rfl rfl rfl (by decide +kernel) ⟨Nat.le_of_ble_eq_true rfl, Nat.le_of_ble_eq_true rfl⟩) ⟨fun a U g mk q => by obtain ⟨q0, q1, qP, qK, qD⟩ := q; exact ⟨q0, q1, qP, va_K.moved (u := U) (U := U.calling g mk a) (Vm.Alike.refl U.vm) qK, qD⟩, va_recv hK hP (ci := 6) (q0 := 0) rfl rfl, fun U hU hW => ⟨rfl, by rw [hU], by rw [hU]; exact hP, va_K.moved hW.alike hK, hD.weaken (fun _ _ _ _ => trivial)⟩⟩ rfl rfl hl.1 rfl (lv_room (Nat.le_of_ble_eq_true rfl)) dX7_readGate_328 ⟨Nat.le_of_ble_eq_true rfl, Nat.le_of_ble_eq_true rfl⟩) hS (fun q _ h => hFc q h) hFc (fun rr114 u t H113 locs ht hvm hw hB hz1 hk1 hS => ?_)
                      obtain ⟨hP1, hK1, hD1⟩ := hB
                      rw [ht] at hP1
                      refine zTopi hw.symm ?_
                      have hP := hP1
                      have hD := hD1.weaken (fun _ q _ h => hFc q.1 h)
                      have hP : va_P (dC, dI) vwCl (cX7 a7 h7 y s7_110) H113 := hP
                      have hD : va_D A (cX7 a7 h7 y s7_110) := hD
                      refine W_abs (fun GW115 eG116 => ?_)
                      obtain ⟨ov118, hr119, h⟩ := zB_spec h
                      have jn117 : ∀ (s7_121 : SS) (HGW115 : Heap) (locs : List Loc) (ls : Array Slot), s7_121 = ov118 → va_P (dC, dI) vwCl (cX7 a7 h7 y s7_121) HGW115 → va_D A (cX7 a7 h7 y s7_121) → va_S A s.heap HGW115 locs → lv_has ls 7 [(0, .ref a7)] → GW115 HGW115 locs 0 0 (F0 m 357 ls []) := by
                        intro s7_121 HGW115 locs ls hv hP hD hS hl
                        subst hv
                        refine (eG116 _ _ _ _ _).mpr ?_
                        refine lv_aload_n hx hb dX7_readGate_357 rfl (lv_at hl 0 rfl) ?_
                        obtain ⟨r122, hc123, h⟩ := zB_spec h
                        have hFc := zFree hD hS hA
                        refine va_calli (va_runV (As := []) (rest := []) ⟨hx, hb, hml, hown, hts⟩ (m_X7_isGood l dC dI y a7 h7 s7_121 HGW115.size r122 hc123) (cwV 0 hts gX7_readGate_X7_isGood rfl rfl rfl (by decide +kernel) ⟨Nat.le_of_ble_eq_true rfl, Nat.le_of_ble_eq_true rfl⟩) ⟨fun a U g mk q => by obtain ⟨q0, q1, qP, qK, qD⟩ := q; exact ⟨q0, q1, qP, va_K.moved (u := U) (U := U.calling g mk a) (Vm.Alike.refl U.vm) qK, qD⟩, va_recv hK hP (ci := 6) (q0 := 0) rfl rfl, fun U hU hW => ⟨rfl, by rw [hU], by rw [hU]; exact hP, va_K.moved hW.alike hK, hD.weaken (fun _ _ _ _ => trivial)⟩⟩ rfl rfl hl.1 rfl (lv_room (Nat.le_of_ble_eq_true rfl)) dX7_readGate_358 ⟨Nat.le_of_ble_eq_true rfl, Nat.le_of_ble_eq_true rfl⟩) hS (fun q _ h => hFc q h) hFc (fun rr125 u t H124 locs ht hvm hw hB hz1 hk1 hS => ?_)
                        obtain ⟨hP1, hK1, hD1⟩ := hB
                        rw [ht] at hP1
                        refine zTopi hw.symm ?_
                        have hP := hP1
                        have hD := hD1.weaken (fun _ q _ h => hFc q.1 h)
                        have hP : va_P (dC, dI) vwCl (cX7 a7 h7 y s7_121) H124 := hP
                        have hD : va_D A (cX7 a7 h7 y s7_121) := hD
                        refine lv_if_eq (tgt := 370) hx hb dX7_readGate_361 (by decide) (fun c126 => ?_) (fun c126 => ?_)
                        · have h := zY c126 h
                          have ho0 : s7_121 = o_7 := congrArg (fun z : SS => z) (Option.some.inj h)
                          exact W.vret hx hb hr (fun t ht hW => ⟨⟨(), rfl, trivial, by rw [ht]; rw [← ho0]; exact hP, va_K.moved hW.alike hK, by rw [← ho0]; exact hD⟩, hS.F ht⟩) hS.2.2 dX7_readGate_370
                        · have h := zN c126 h
                          refine lv_aload_n hx hb dX7_readGate_364 rfl (lv_at hl 0 rfl) ?_
                          refine lv_bipush (v := 59) hx hb dX7_readGate_365 (by decide) ?_
                          obtain ⟨s7_127, hc128, h⟩ := zB_spec h
                          have hFc := zFree hD hS hA
                          refine va_callv (va_runV (As := [.int 59]) (rest := []) ⟨hx, hb, hml, hown, hts⟩ (m_X7_must l dC dI y a7 h7 s7_121 (59 : Int32) H124.size s7_127 hc128) (cwV 1 hts gX7_readGate_X7_must rfl rfl rfl (by decide +kernel) ⟨Nat.le_of_ble_eq_true rfl, Nat.le_of_ble_eq_true rfl⟩) ⟨fun a U g mk q => by obtain ⟨q0, q1, qP, qK, qD⟩ := q; exact ⟨q0, q1, qP, va_K.moved (u := U) (U := U.calling g mk a) (Vm.Alike.refl U.vm) qK, qD⟩, va_recv hK hP (ci := 6) (q0 := 0) rfl rfl, fun U hU hW => ⟨rfl, by rw [hU], by rw [hU]; exact hP, va_K.moved hW.alike hK, hD.weaken (fun _ _ _ _ => trivial)⟩⟩ rfl rfl hl.1 rfl (lv_room (Nat.le_of_ble_eq_true rfl)) dX7_readGate_367 ⟨Nat.le_of_ble_eq_true rfl, Nat.le_of_ble_eq_true rfl⟩) hS (fun q _ h => hFc q h) hFc (fun u t H129 locs ht hvm hw hB hz1 hk1 hS => ?_)
                          obtain ⟨hP1, hK1, hD1⟩ := hB
                          rw [ht] at hP1
                          have hP := hP1
                          have hD := hD1.weaken (fun _ q _ h => hFc q.1 h)
                          have hP : va_P (dC, dI) vwCl (cX7 a7 h7 y s7_127) H129 := hP
                          have hD : va_D A (cX7 a7 h7 y s7_127) := hD
                          have ho0 : s7_127 = o_7 := congrArg (fun z : SS => z) (Option.some.inj h)
                          exact W.vret hx hb hr (fun t ht hW => ⟨⟨(), rfl, trivial, by rw [ht]; rw [← ho0]; exact hP, va_K.moved hW.alike hK, by rw [← ho0]; exact hD⟩, hS.F ht⟩) hS.2.2 dX7_readGate_370
                      refine (eG116 _ _ _ _ _).mpr ?_
                      have h := hr119
                      refine lv_if_eq (tgt := 357) hx hb dX7_readGate_331 (by decide) (fun c131 => ?_) (fun c131 => ?_)
                      · have h := zY c131 h
                        exact (eG116 _ _ _ _ _).mp (jn117 s7_110 _ _ _ (Option.some.inj h) hP hD hS (lv_sub hl [1] rfl))
                      · have h := zN c131 h
                        refine lv_aload_n hx hb dX7_readGate_334 rfl (lv_at hl 1 rfl) ?_
                        refine va_get (D := (dC, dI)) (ci := 6) (v := .int (gI s7_110 8)) (C := RX7) (T := TX7) (N := 49) hx hb hts inX7_ hown hK hP 0 rfl rfl 8 (by decide) (hts (.fieldLink RX7 141 "GateWheelModel" "token" "I") (List.mem_of_getElem? (i := 8) rfl)) (fun _ h9 => h9) rfl dX7_readGate_335 ?_
                        refine lv_iconst (v := 4) hx hb dX7_readGate_338 (by decide) ?_
                        refine lv_icmp_ne (tgt := 357) hx hb dX7_readGate_339 (by decide) (fun c132 => ?_) (fun c132 => ?_)
                        · have h := zN c132 h
                          exact (eG116 _ _ _ _ _).mp (jn117 s7_110 _ _ _ (Option.some.inj h) hP hD hS (lv_sub hl [1] rfl))
                        · have h := zY c132 h
                          refine lv_aload_n hx hb dX7_readGate_342 rfl (lv_at hl 1 rfl) ?_
                          refine va_get (D := (dC, dI)) (ci := 6) (v := .ref (h7 15)) (C := RX7) (T := TX7) (N := 49) hx hb hts inX7_ hown hK hP 0 rfl rfl 15 (by decide) (hts (.fieldLink RX7 34 "GateWheelModel" "nDelay" "[I") (List.mem_of_getElem? (i := 6) rfl)) (fun _ h9 => h9) rfl dX7_readGate_343 ?_
                          refine lv_iload hx hb dX7_readGate_346 (lv_at hl 0 rfl) ?_
                          refine lv_aload_n hx hb dX7_readGate_348 rfl (lv_at hl 1 rfl) ?_
                          refine va_get (D := (dC, dI)) (ci := 6) (v := .int (gI s7_110 9)) (C := RX7) (T := TX7) (N := 49) hx hb hts inX7_ hown hK hP 0 rfl rfl 9 (by decide) (hts (.fieldLink RX7 169 "GateWheelModel" "digit" "I") (List.mem_of_getElem? (i := 11) rfl)) (fun _ h9 => h9) rfl dX7_readGate_349 ?_
                          refine va_iast hx hb hK hP hD hS 7 0 rfl rfl hi25 dX7_readGate_352 (fun H133 locs hP hD hS => ?_)
                          obtain ⟨s7_134, es7_134, h⟩ := zL_spec h
                          have hP : va_P (dC, dI) vwCl (cX7 a7 h7 y s7_134) H133 := by rw [es7_134]; exact hP
                          have hD : va_D A (cX7 a7 h7 y s7_134) := by rw [es7_134]; exact hD
                          refine lv_aload_n hx hb dX7_readGate_353 rfl (lv_at hl 1 rfl) ?_
                          obtain ⟨s7_135, hc136, h⟩ := zB_spec h
                          have hFc := zFree hD hS hA
                          refine va_callv (va_runV (As := []) (rest := []) ⟨hx, hb, hml, hown, hts⟩ (m_X7_next l dC dI y a7 h7 s7_134 H133.size s7_135 hc136) (cwV 0 hts gX7_readGate_X7_next rfl rfl rfl (by decide +kernel) ⟨Nat.le_of_ble_eq_true rfl, Nat.le_of_ble_eq_true rfl⟩) ⟨fun a U g mk q => by obtain ⟨q0, q1, qP, qK, qD⟩ := q; exact ⟨q0, q1, qP, va_K.moved (u := U) (U := U.calling g mk a) (Vm.Alike.refl U.vm) qK, qD⟩, va_recv hK hP (ci := 6) (q0 := 0) rfl rfl, fun U hU hW => ⟨rfl, by rw [hU], by rw [hU]; exact hP, va_K.moved hW.alike hK, hD.weaken (fun _ _ _ _ => trivial)⟩⟩ rfl rfl hl.1 rfl (lv_room (Nat.le_of_ble_eq_true rfl)) dX7_readGate_354 ⟨Nat.le_of_ble_eq_true rfl, Nat.le_of_ble_eq_true rfl⟩) hS (fun q _ h => hFc q h) hFc (fun u t H137 locs ht hvm hw hB hz1 hk1 hS => ?_)
                          obtain ⟨hP1, hK1, hD1⟩ := hB
                          rw [ht] at hP1
                          have hP := hP1
                          have hD := hD1.weaken (fun _ q _ h => hFc q.1 h)
                          have hP : va_P (dC, dI) vwCl (cX7 a7 h7 y s7_135) H137 := hP
                          have hD : va_D A (cX7 a7 h7 y s7_135) := hD
                          exact (eG116 _ _ _ _ _).mp (jn117 s7_135 _ _ _ (Option.some.inj h) hP hD hS (lv_sub hl [1] rfl))
                    refine (eG105 _ _ _ _ _).mpr ?_
                    have h := hr108
                    refine lv_if_eq (tgt := 327) hx hb dX7_readGate_318 (by decide) (fun c139 => ?_) (fun c139 => ?_)
                    · have h := zY c139 h
                      exact (eG105 _ _ _ _ _).mp (jn106 s7_99 _ _ _ (Option.some.inj h) hP hD hS (lv_sub hl [0, 1] rfl))
                    · have h := zN c139 h
                      refine lv_aload_n hx hb dX7_readGate_321 rfl (lv_at hl 1 rfl) ?_
                      refine lv_bipush (v := 41) hx hb dX7_readGate_322 (by decide) ?_
                      obtain ⟨s7_140, hc141, h⟩ := zB_spec h
                      have hFc := zFree hD hS hA
                      refine va_callv (va_runV (As := [.int 41]) (rest := []) ⟨hx, hb, hml, hown, hts⟩ (m_X7_must l dC dI y a7 h7 s7_99 (41 : Int32) H102.size s7_140 hc141) (cwV 1 hts gX7_readGate_X7_must rfl rfl rfl (by decide +kernel) ⟨Nat.le_of_ble_eq_true rfl, Nat.le_of_ble_eq_true rfl⟩) ⟨fun a U g mk q => by obtain ⟨q0, q1, qP, qK, qD⟩ := q; exact ⟨q0, q1, qP, va_K.moved (u := U) (U := U.calling g mk a) (Vm.Alike.refl U.vm) qK, qD⟩, va_recv hK hP (ci := 6) (q0 := 0) rfl rfl, fun U hU hW => ⟨rfl, by rw [hU], by rw [hU]; exact hP, va_K.moved hW.alike hK, hD.weaken (fun _ _ _ _ => trivial)⟩⟩ rfl rfl hl.1 rfl (lv_room (Nat.le_of_ble_eq_true rfl)) dX7_readGate_324 ⟨Nat.le_of_ble_eq_true rfl, Nat.le_of_ble_eq_true rfl⟩) hS (fun q _ h => hFc q h) hFc (fun u t H142 locs ht hvm hw hB hz1 hk1 hS => ?_)
                      obtain ⟨hP1, hK1, hD1⟩ := hB
                      rw [ht] at hP1
                      have hP := hP1
                      have hD := hD1.weaken (fun _ q _ h => hFc q.1 h)
                      have hP : va_P (dC, dI) vwCl (cX7 a7 h7 y s7_140) H142 := hP
                      have hD : va_D A (cX7 a7 h7 y s7_140) := hD
                      exact (eG105 _ _ _ _ _).mp (jn106 s7_140 _ _ _ (Option.some.inj h) hP hD hS (lv_sub hl [0, 1] rfl))
                  refine (eG94 _ _ _ _ _).mpr ?_
                  have h := hr97
                  refine lv_if_eq (tgt := 314) hx hb dX7_readGate_283 (by decide) (fun c144 => ?_) (fun c144 => ?_)
                  · have h := zY c144 h
                    exact (eG94 _ _ _ _ _).mp (jn95 s7_88 _ _ _ (Option.some.inj h) hP hD hS (lv_sub hl [1, 2] rfl))
                  · have h := zN c144 h
                    refine lv_aload_n hx hb dX7_readGate_286 rfl (lv_at hl 2 rfl) ?_
                    refine lv_bipush (v := 41) hx hb dX7_readGate_287 (by decide) ?_
                    obtain ⟨r145, hc146, h⟩ := zB_spec h
                    have hFc := zFree hD hS hA
                    refine va_calli (va_runV (As := [.int 41]) (rest := []) ⟨hx, hb, hml, hown, hts⟩ (m_X7_is l dC dI y a7 h7 s7_88 (41 : Int32) H91.size r145 hc146) (cwV 1 hts gX7_readGate_X7_is rfl rfl rfl (by decide +kernel) ⟨Nat.le_of_ble_eq_true rfl, Nat.le_of_ble_eq_true rfl⟩) ⟨fun a U g mk q => by obtain ⟨q0, q1, qP, qK, qD⟩ := q; exact ⟨q0, q1, qP, va_K.moved (u := U) (U := U.calling g mk a) (Vm.Alike.refl U.vm) qK, qD⟩, va_recv hK hP (ci := 6) (q0 := 0) rfl rfl, fun U hU hW => ⟨rfl, by rw [hU], by rw [hU]; exact hP, va_K.moved hW.alike hK, hD.weaken (fun _ _ _ _ => trivial)⟩⟩ rfl rfl hl.1 rfl (lv_room (Nat.le_of_ble_eq_true rfl)) dX7_readGate_289 ⟨Nat.le_of_ble_eq_true rfl, Nat.le_of_ble_eq_true rfl⟩) hS (fun q _ h => hFc q h) hFc (fun rr148 u t H147 locs ht hvm hw hB hz1 hk1 hS => ?_)
                    obtain ⟨hP1, hK1, hD1⟩ := hB
                    rw [ht] at hP1
                    refine zTopi hw.symm ?_
                    have hP := hP1
                    have hD := hD1.weaken (fun _ q _ h => hFc q.1 h)
                    have hP : va_P (dC, dI) vwCl (cX7 a7 h7 y s7_88) H147 := hP
                    have hD : va_D A (cX7 a7 h7 y s7_88) := hD
                    refine lv_if_eq (tgt := 314) hx hb dX7_readGate_292 (by decide) (fun c149 => ?_) (fun c149 => ?_)
                    · have h := zY c149 h
                      exact (eG94 _ _ _ _ _).mp (jn95 s7_88 _ _ _ (Option.some.inj h) hP hD hS (lv_sub hl [1, 2] rfl))
                    · have h := zN c149 h
                      refine lv_aload_n hx hb dX7_readGate_295 rfl (lv_at hl 2 rfl) ?_
                      refine va_get (D := (dC, dI)) (ci := 6) (v := .ref (h7 14)) (C := RX7) (T := TX7) (N := 49) hx hb hts inX7_ hown hK hP 0 rfl rfl 14 (by decide) (hts (.fieldLink RX7 31 "GateWheelModel" "nMany" "[I") (List.mem_of_getElem? (i := 5) rfl)) (fun _ h9 => h9) rfl dX7_readGate_296 ?_
                      refine lv_iload hx hb dX7_readGate_299 (lv_at hl 1 rfl) ?_
                      refine va_iald hx hb hK hP 6 0 rfl rfl hi25 dX7_readGate_301 ?_
                      refine lv_iload hx hb dX7_readGate_302 (lv_at hl 0 rfl) ?_
                      obtain ⟨r150, hc151, h⟩ := zB_spec h
                      have hPc := hP.sub (ws' := []) [] rfl
                      have hDc := hD.sub (ws' := []) [] (by decide) rfl
                      have hFc := va_free (wc := []) hD hS hA [] rfl
                      refine va_calli (va_runS (As := [.int v49]) (rest := [.int (gA s7_88 14 v24.toNatClampNeg)]) ⟨hx, hb, hml, hown, hts⟩ (m_X7_leastOf l dC dI y v49 H147.size r150 hc151) (va_cwS 1 hts gX7_readGate_X7_leastOf rfl rfl rfl (by decide +kernel) ⟨Nat.le_of_ble_eq_true rfl, Nat.le_of_ble_eq_true rfl⟩) ⟨fun a U g mk q => by obtain ⟨q0, q1, qP, qK, qD⟩ := q; exact ⟨q0, q1, qP, va_K.moved (u := U) (U := U.calling g mk a) (Vm.Alike.refl U.vm) qK, qD⟩, fun U hU hW => ⟨rfl, by rw [hU], by rw [hU]; exact hPc, va_K.moved hW.alike hK, hDc.weaken (fun _ _ _ _ => trivial)⟩⟩ rfl rfl hl.1 rfl (lv_room (Nat.le_of_ble_eq_true rfl)) dX7_readGate_304 ⟨Nat.le_of_ble_eq_true rfl, Nat.le_of_ble_eq_true rfl⟩) hS (fun q _ h => hFc q h) hFc (fun rr153 u t H152 locs ht hvm hw hB hz1 hk1 hS => ?_)
                      obtain ⟨hP1, hK1, hD1⟩ := hB
                      rw [ht] at hP1
                      refine zTopi hw.symm ?_
                      obtain ⟨hP, hD⟩ := va_join (wr := [(oX7 a7 h7 s7_88), (h7 0, .inl (y 2, 2020, .inl (gA s7_88 0))), (h7 1, .inl (y 2, 2000, .inl (gA s7_88 1))), (h7 11, .inl (y 1, 120, .inr (.inl (gB s7_88 11)))), (h7 12, .inl (y 0, 120, .inl (gA s7_88 12))), (h7 13, .inl (y 0, 120, .inl (gA s7_88 13))), (h7 14, .inl (y 0, 120, .inl (gA s7_88 14))), (h7 15, .inl (y 0, 120, .inl (gA s7_88 15))), (h7 16, .inl (y 0, 1440, .inl (gA s7_88 16))), (h7 17, .inl (y 0, 120, .inl (gA s7_88 17))), (h7 18, .inl (y 0, 60, .inl (gA s7_88 18))), (h7 19, .inl (y 3, 720, .inl (gA s7_88 19))), (h7 20, .inl (y 1, 1000, .inr (.inl (gB s7_88 20)))), (h7 21, .inl (y 0, 1000, .inl (gA s7_88 21))), (h7 22, .inl (y 0, 1000, .inl (gA s7_88 22))), (h7 23, .inl (y 1, 200, .inr (.inl (gB s7_88 23)))), (h7 24, .inl (y 0, 200, .inl (gA s7_88 24))), (h7 25, .inl (y 3, 200, .inl (gA s7_88 25))), (h7 32, .inl (y 3, 60, .inl (gA s7_88 32))), (h7 33, .inl (y 0, 60, .inl (gA s7_88 33))), (h7 34, .inl (y 0, 60, .inl (gA s7_88 34))), (h7 35, .inl (y 0, 60, .inl (gA s7_88 35))), (h7 36, .inl (y 0, 60, .inl (gA s7_88 36))), (h7 37, .inl (y 0, 60, .inl (gA s7_88 37))), (h7 38, .inl (y 0, 60, .inl (gA s7_88 38))), (h7 40, .inl (y 0, 60, .inl (gA s7_88 40))), (h7 41, .inl (y 0, 60, .inl (gA s7_88 41))), (h7 42, .inl (y 0, 600, .inl (gA s7_88 42))), (h7 43, .inl (y 0, 1200, .inl (gA s7_88 43))), (h7 44, .inl (y 0, 60, .inl (gA s7_88 44))), (h7 45, .inl (y 3, 60, .inl (gA s7_88 45)))]) (w1 := []) hP hD [] [0, 1, 2, 3, 4, 5, 6, 7, 8, 9, 10, 11, 12, 13, 14, 15, 16, 17, 18, 19, 20, 21, 22, 23, 24, 25, 26, 27, 28, 29, 30] rfl rfl (by decide) (by decide) hk1 hFc hP1 hD1
                      have hP : va_P (dC, dI) vwCl (cX7 a7 h7 y s7_88) H152 := hP.sub [0, 1, 2, 3, 4, 5, 6, 7, 8, 9, 10, 11, 12, 13, 14, 15, 16, 17, 18, 19, 20, 21, 22, 23, 24, 25, 26, 27, 28, 29, 30] rfl
                      have hD : va_D A (cX7 a7 h7 y s7_88) := hD.sub [0, 1, 2, 3, 4, 5, 6, 7, 8, 9, 10, 11, 12, 13, 14, 15, 16, 17, 18, 19, 20, 21, 22, 23, 24, 25, 26, 27, 28, 29, 30] (by decide) rfl
                      refine lv_icmp_ge (tgt := 314) hx hb dX7_readGate_307 (by decide) (fun c154 => ?_) (fun c154 => ?_)
                      · have h := zY c154 h
                        exact (eG94 _ _ _ _ _).mp (jn95 s7_88 _ _ _ (Option.some.inj h) hP hD hS (lv_sub hl [1, 2] rfl))
                      · have h := zN c154 h
                        refine lv_aload_n hx hb dX7_readGate_310 rfl (lv_at hl 2 rfl) ?_
                        obtain ⟨s7_155, hc156, h⟩ := zB_spec h
                        have hFc := zFree hD hS hA
                        refine va_callv (va_runV (As := []) (rest := []) ⟨hx, hb, hml, hown, hts⟩ (m_X7_wrong l dC dI y a7 h7 s7_88 H152.size s7_155 hc156) (cwV 0 hts gX7_readGate_X7_wrong rfl rfl rfl (by decide +kernel) ⟨Nat.le_of_ble_eq_true rfl, Nat.le_of_ble_eq_true rfl⟩) ⟨fun a U g mk q => by obtain ⟨q0, q1, qP, qK, qD⟩ := q; exact ⟨q0, q1, qP, va_K.moved (u := U) (U := U.calling g mk a) (Vm.Alike.refl U.vm) qK, qD⟩, va_recv hK hP (ci := 6) (q0 := 0) rfl rfl, fun U hU hW => ⟨rfl, by rw [hU], by rw [hU]; exact hP, va_K.moved hW.alike hK, hD.weaken (fun _ _ _ _ => trivial)⟩⟩ rfl rfl hl.1 rfl (lv_room (Nat.le_of_ble_eq_true rfl)) dX7_readGate_311 ⟨Nat.le_of_ble_eq_true rfl, Nat.le_of_ble_eq_true rfl⟩) hS (fun q _ h => hFc q h) hFc (fun u t H157 locs ht hvm hw hB hz1 hk1 hS => ?_)
                        obtain ⟨hP1, hK1, hD1⟩ := hB
                        rw [ht] at hP1
                        have hP := hP1
                        have hD := hD1.weaken (fun _ q _ h => hFc q.1 h)
                        have hP : va_P (dC, dI) vwCl (cX7 a7 h7 y s7_155) H157 := hP
                        have hD : va_D A (cX7 a7 h7 y s7_155) := hD
                        exact (eG94 _ _ _ _ _).mp (jn95 s7_155 _ _ _ (Option.some.inj h) hP hD hS (lv_sub hl [1, 2] rfl))
                have lp82 : ∀ (n : Nat) (v159 : Int32) (s7_160 : SS) (HGW79 : Heap) (locs : List Loc) (ls : Array Slot), zI (b_X7_readGate_174 v24 v49) n (v159, s7_160) = some ov83 → va_P (dC, dI) vwCl (cX7 a7 h7 y s7_160) HGW79 → va_D A (cX7 a7 h7 y s7_160) → va_S A s.heap HGW79 locs → lv_has ls 7 [(5, .int v49), (4, .int v24), (0, .ref a7), (6, .int v159)] → GW79 HGW79 locs 0 0 (F0 m 174 ls []) := by
                  intro n
                  induction n with
                  | zero =>
                    intro v159 s7_160 HGW79 locs ls hi84 hP hD hS hl
                    exact (zI_0 hi84).elim
                  | succ n ihlp82 =>
                    intro v159 s7_160 HGW79 locs ls hi84 hP hD hS hl
                    refine (eG80 _ _ _ _ _).mpr ?_
                    obtain ⟨xx87, h, hx86⟩ := zI_spec hi84
                    refine lv_iload hx hb dX7_readGate_174 (lv_at hl 3 rfl) ?_
                    refine lv_if_eq (tgt := 279) hx hb dX7_readGate_176 (by decide) (fun c161 => ?_) (fun c161 => ?_)
                    · have h := zY c161 h
                      exact (eG80 _ _ _ _ _).mp (je81 s7_160 _ _ _ (zI_r h hx86) hP hD hS (lv_sub hl [0, 1, 2] rfl))
                    · have h := zN c161 h
                      refine lv_aload_n hx hb dX7_readGate_179 rfl (lv_at hl 2 rfl) ?_
                      obtain ⟨r162, hc163, h⟩ := zB_spec h
                      have hFc := zFree hD hS hA
                      refine va_calli (va_runV (As := []) (rest := []) ⟨hx, hb, hml, hown, hts⟩ (m_X7_isGood l dC dI y a7 h7 s7_160 HGW79.size r162 hc163) (cwV 0 hts gX7_readGate_X7_isGood rfl rfl rfl (by decide +kernel) ⟨Nat.le_of_ble_eq_true rfl, Nat.le_of_ble_eq_true rfl⟩) ⟨fun a U g mk q => by obtain ⟨q0, q1, qP, qK, qD⟩ := q; exact ⟨q0, q1, qP, va_K.moved (u := U) (U := U.calling g mk a) (Vm.Alike.refl U.vm) qK, qD⟩, va_recv hK hP (ci := 6) (q0 := 0) rfl rfl, fun U hU hW => ⟨rfl, by rw [hU], by rw [hU]; exact hP, va_K.moved hW.alike hK, hD.weaken (fun _ _ _ _ => trivial)⟩⟩ rfl rfl hl.1 rfl (lv_room (Nat.le_of_ble_eq_true rfl)) dX7_readGate_180 ⟨Nat.le_of_ble_eq_true rfl, Nat.le_of_ble_eq_true rfl⟩) hS (fun q _ h => hFc q h) hFc (fun rr165 u t H164 locs ht hvm hw hB hz1 hk1 hS => ?_)
                      obtain ⟨hP1, hK1, hD1⟩ := hB
                      rw [ht] at hP1
                      refine zTopi hw.symm ?_
                      have hP := hP1
                      have hD := hD1.weaken (fun _ q _ h => hFc q.1 h)
                      have hP : va_P (dC, dI) vwCl (cX7 a7 h7 y s7_160) H164 := hP
                      have hD : va_D A (cX7 a7 h7 y s7_160) := hD
                      refine lv_if_eq (tgt := 279) hx hb dX7_readGate_183 (by decide) (fun c166 => ?_) (fun c166 => ?_)
                      · have h := zY c166 h
                        exact (eG80 _ _ _ _ _).mp (je81 s7_160 _ _ _ (zI_r h hx86) hP hD hS (lv_sub hl [0, 1, 2] rfl))
                      · have h := zN c166 h
                        refine lv_aload_n hx hb dX7_readGate_186 rfl (lv_at hl 2 rfl) ?_
                        obtain ⟨s7_167, hc168, h⟩ := zB_spec h
                        have hFc := zFree hD hS hA
                        refine va_callv (va_runV (As := []) (rest := []) ⟨hx, hb, hml, hown, hts⟩ (m_X7_next l dC dI y a7 h7 s7_160 H164.size s7_167 hc168) (cwV 0 hts gX7_readGate_X7_next rfl rfl rfl (by decide +kernel) ⟨Nat.le_of_ble_eq_true rfl, Nat.le_of_ble_eq_true rfl⟩) ⟨fun a U g mk q => by obtain ⟨q0, q1, qP, qK, qD⟩ := q; exact ⟨q0, q1, qP, va_K.moved (u := U) (U := U.calling g mk a) (Vm.Alike.refl U.vm) qK, qD⟩, va_recv hK hP (ci := 6) (q0 := 0) rfl rfl, fun U hU hW => ⟨rfl, by rw [hU], by rw [hU]; exact hP, va_K.moved hW.alike hK, hD.weaken (fun _ _ _ _ => trivial)⟩⟩ rfl rfl hl.1 rfl (lv_room (Nat.le_of_ble_eq_true rfl)) dX7_readGate_187 ⟨Nat.le_of_ble_eq_true rfl, Nat.le_of_ble_eq_true rfl⟩) hS (fun q _ h => hFc q h) hFc (fun u t H169 locs ht hvm hw hB hz1 hk1 hS => ?_)
                        obtain ⟨hP1, hK1, hD1⟩ := hB
                        rw [ht] at hP1
                        have hP := hP1
                        have hD := hD1.weaken (fun _ q _ h => hFc q.1 h)
                        have hP : va_P (dC, dI) vwCl (cX7 a7 h7 y s7_167) H169 := hP
                        have hD : va_D A (cX7 a7 h7 y s7_167) := hD
                        refine lv_aload_n hx hb dX7_readGate_190 rfl (lv_at hl 2 rfl) ?_
                        refine va_get (D := (dC, dI)) (ci := 6) (v := .int (gI s7_167 8)) (C := RX7) (T := TX7) (N := 49) hx hb hts inX7_ hown hK hP 0 rfl rfl 8 (by decide) (hts (.fieldLink RX7 141 "GateWheelModel" "token" "I") (List.mem_of_getElem? (i := 8) rfl)) (fun _ h9 => h9) rfl dX7_readGate_191 ?_
                        refine lv_iconst (v := 2) hx hb dX7_readGate_194 (by decide) ?_
                        refine W_abs (fun GW171 eG172 => ?_)
                        obtain ⟨ov174, hr175, h⟩ := zB_spec h
                        have jn173 : ∀ (s7_177 : SS) (HGW171 : Heap) (locs : List Loc) (ls : Array Slot), s7_177 = ov174 → va_P (dC, dI) vwCl (cX7 a7 h7 y s7_177) HGW171 → va_D A (cX7 a7 h7 y s7_177) → va_S A s.heap HGW171 locs → lv_has ls 7 [(5, .int v49), (4, .int v24), (0, .ref a7)] → GW171 HGW171 locs 0 0 (F0 m 217 ls []) := by
                          intro s7_177 HGW171 locs ls hv hP hD hS hl
                          subst hv
                          refine (eG172 _ _ _ _ _).mpr ?_
                          refine lv_aload_n hx hb dX7_readGate_217 rfl (lv_at hl 2 rfl) ?_
                          obtain ⟨r178, hc179, h⟩ := zB_spec h
                          have hFc := zFree hD hS hA
                          refine va_calli (va_runV (As := []) (rest := []) ⟨hx, hb, hml, hown, hts⟩ (m_X7_isGood l dC dI y a7 h7 s7_177 HGW171.size r178 hc179) (cwV 0 hts gX7_readGate_X7_isGood rfl rfl rfl (by decide +kernel) ⟨Nat.le_of_ble_eq_true rfl, Nat.le_of_ble_eq_true rfl⟩) ⟨fun a U g mk q => by obtain ⟨q0, q1, qP, qK, qD⟩ := q; exact ⟨q0, q1, qP, va_K.moved (u := U) (U := U.calling g mk a) (Vm.Alike.refl U.vm) qK, qD⟩, va_recv hK hP (ci := 6) (q0 := 0) rfl rfl, fun U hU hW => ⟨rfl, by rw [hU], by rw [hU]; exact hP, va_K.moved hW.alike hK, hD.weaken (fun _ _ _ _ => trivial)⟩⟩ rfl rfl hl.1 rfl (lv_room (Nat.le_of_ble_eq_true rfl)) dX7_readGate_218 ⟨Nat.le_of_ble_eq_true rfl, Nat.le_of_ble_eq_true rfl⟩) hS (fun q _ h => hFc q h) hFc (fun rr181 u t H180 locs ht hvm hw hB hz1 hk1 hS => ?_)
                          obtain ⟨hP1, hK1, hD1⟩ := hB
                          rw [ht] at hP1
                          refine zTopi hw.symm ?_
                          have hP := hP1
                          have hD := hD1.weaken (fun _ q _ h => hFc q.1 h)
                          have hP : va_P (dC, dI) vwCl (cX7 a7 h7 y s7_177) H180 := hP
                          have hD : va_D A (cX7 a7 h7 y s7_177) := hD
                          refine lv_if_ne (tgt := 225) hx hb dX7_readGate_221 (by decide) (fun c182 => ?_) (fun c182 => ?_)
                          · have h := zN c182 h
                            refine lv_aload_n hx hb dX7_readGate_225 rfl (lv_at hl 2 rfl) ?_
                            refine lv_bipush (v := 12) hx hb dX7_readGate_226 (by decide) ?_
                            refine lv_iload hx hb dX7_readGate_228 (lv_at hl 1 rfl) ?_
                            refine lv_imul hx hb dX7_readGate_230 ?_
                            refine lv_aload_n hx hb dX7_readGate_231 rfl (lv_at hl 2 rfl) ?_
                            refine va_get (D := (dC, dI)) (ci := 6) (v := .ref (h7 14)) (C := RX7) (T := TX7) (N := 49) hx hb hts inX7_ hown hK hP 0 rfl rfl 14 (by decide) (hts (.fieldLink RX7 31 "GateWheelModel" "nMany" "[I") (List.mem_of_getElem? (i := 5) rfl)) (fun _ h9 => h9) rfl dX7_readGate_232 ?_
                            refine lv_iload hx hb dX7_readGate_235 (lv_at hl 1 rfl) ?_
                            refine va_iald hx hb hK hP 6 0 rfl rfl hi25 dX7_readGate_237 ?_
                            refine lv_iadd hx hb dX7_readGate_238 ?_
                            obtain ⟨s7_183, hc184, h⟩ := zB_spec h
                            have hFc := zFree hD hS hA
                            refine va_callv (va_runV (As := [.int (((12 : Int32) * v24) + (gA s7_177 14 v24.toNatClampNeg))]) (rest := []) ⟨hx, hb, hml, hown, hts⟩ (m_X7_ask l dC dI y a7 h7 s7_177 (((12 : Int32) * v24) + (gA s7_177 14 v24.toNatClampNeg)) H180.size s7_183 hc184) (cwV 1 hts gX7_readGate_X7_ask rfl rfl rfl (by decide +kernel) ⟨Nat.le_of_ble_eq_true rfl, Nat.le_of_ble_eq_true rfl⟩) ⟨fun a U g mk q => by obtain ⟨q0, q1, qP, qK, qD⟩ := q; exact ⟨q0, q1, qP, va_K.moved (u := U) (U := U.calling g mk a) (Vm.Alike.refl U.vm) qK, qD⟩, va_recv hK hP (ci := 6) (q0 := 0) rfl rfl, fun U hU hW => ⟨rfl, by rw [hU], by rw [hU]; exact hP, va_K.moved hW.alike hK, hD.weaken (fun _ _ _ _ => trivial)⟩⟩ rfl rfl hl.1 rfl (lv_room (Nat.le_of_ble_eq_true rfl)) dX7_readGate_239 ⟨Nat.le_of_ble_eq_true rfl, Nat.le_of_ble_eq_true rfl⟩) hS (fun q _ h => hFc q h) hFc (fun u t H185 locs ht hvm hw hB hz1 hk1 hS => ?_)
                            obtain ⟨hP1, hK1, hD1⟩ := hB
                            rw [ht] at hP1
                            have hP := hP1
                            have hD := hD1.weaken (fun _ q _ h => hFc q.1 h)
                            have hP : va_P (dC, dI) vwCl (cX7 a7 h7 y s7_183) H185 := hP
                            have hD : va_D A (cX7 a7 h7 y s7_183) := hD
                            refine lv_aload_n hx hb dX7_readGate_242 rfl (lv_at hl 2 rfl) ?_
                            refine va_get (D := (dC, dI)) (ci := 6) (v := .ref (h7 14)) (C := RX7) (T := TX7) (N := 49) hx hb hts inX7_ hown hK hP 0 rfl rfl 14 (by decide) (hts (.fieldLink RX7 31 "GateWheelModel" "nMany" "[I") (List.mem_of_getElem? (i := 5) rfl)) (fun _ h9 => h9) rfl dX7_readGate_243 ?_
                            refine lv_iload hx hb dX7_readGate_246 (lv_at hl 1 rfl) ?_
                            refine lv_dup2_11 hx hb dX7_readGate_248 rfl rfl ?_
                            refine va_iald hx hb hK hP 6 0 rfl rfl hi25 dX7_readGate_249 ?_
                            refine lv_iconst (v := 1) hx hb dX7_readGate_250 (by decide) ?_
                            refine lv_iadd hx hb dX7_readGate_251 ?_
                            refine va_iast hx hb hK hP hD hS 6 0 rfl rfl hi25 dX7_readGate_252 (fun H187 locs hP hD hS => ?_)
                            obtain ⟨s7_188, es7_188, h⟩ := zL_spec h
                            have hP : va_P (dC, dI) vwCl (cX7 a7 h7 y s7_188) H187 := by rw [es7_188]; exact hP
                            have hD : va_D A (cX7 a7 h7 y s7_188) := by rw [es7_188]; exact hD
                            refine lv_aload_n hx hb dX7_readGate_253 rfl (lv_at hl 2 rfl) ?_
                            obtain ⟨r189, hc190, h⟩ := zB_spec h
                            have hFc := zFree hD hS hA
                            refine va_calli (va_runV (As := []) (rest := []) ⟨hx, hb, hml, hown, hts⟩ (m_X7_isGood l dC dI y a7 h7 s7_188 H187.size r189 hc190) (cwV 0 hts gX7_readGate_X7_isGood rfl rfl rfl (by decide +kernel) ⟨Nat.le_of_ble_eq_true rfl, Nat.le_of_ble_eq_true rfl⟩) ⟨fun a U g mk q => by obtain ⟨q0, q1, qP, qK, qD⟩ := q; exact ⟨q0, q1, qP, va_K.moved (u := U) (U := U.calling g mk a) (Vm.Alike.refl U.vm) qK, qD⟩, va_recv hK hP (ci := 6) (q0 := 0) rfl rfl, fun U hU hW => ⟨rfl, by rw [hU], by rw [hU]; exact hP, va_K.moved hW.alike hK, hD.weaken (fun _ _ _ _ => trivial)⟩⟩ rfl rfl hl.1 rfl (lv_room (Nat.le_of_ble_eq_true rfl)) dX7_readGate_254 ⟨Nat.le_of_ble_eq_true rfl, Nat.le_of_ble_eq_true rfl⟩) hS (fun q _ h => hFc q h) hFc (fun rr192 u t H191 locs ht hvm hw hB hz1 hk1 hS => ?_)
                            obtain ⟨hP1, hK1, hD1⟩ := hB
                            rw [ht] at hP1
                            refine zTopi hw.symm ?_
                            have hP := hP1
                            have hD := hD1.weaken (fun _ q _ h => hFc q.1 h)
                            have hP : va_P (dC, dI) vwCl (cX7 a7 h7 y s7_188) H191 := hP
                            have hD : va_D A (cX7 a7 h7 y s7_188) := hD
                            refine lv_if_eq (tgt := 273) hx hb dX7_readGate_257 (by decide) (fun c193 => ?_) (fun c193 => ?_)
                            · have h := zY c193 h
                              refine lv_iconst (v := 0) hx hb dX7_readGate_273 (by decide) ?_
                              refine lv_istore (lv' := [(6, .int 0), (5, .int v49), (4, .int v24), (0, .ref a7)]) hx hb dX7_readGate_274 hl (by decide) rfl (fun ls hl => ?_)
                              refine lv_goto (tgt := 174) hx hb dX7_readGate_276 (by decide) ?_
                              have h := zI_l h hx86
                              exact (eG80 _ _ _ _ _).mp (ihlp82 (0 : Int32) s7_188 _ _ _ h hP hD hS (lv_sub hl [1, 2, 3, 0] rfl))
                            · have h := zN c193 h
                              refine lv_aload_n hx hb dX7_readGate_260 rfl (lv_at hl 2 rfl) ?_
                              refine lv_bipush (v := 44) hx hb dX7_readGate_261 (by decide) ?_
                              obtain ⟨r194, hc195, h⟩ := zB_spec h
                              have hFc := zFree hD hS hA
                              refine va_calli (va_runV (As := [.int 44]) (rest := []) ⟨hx, hb, hml, hown, hts⟩ (m_X7_is l dC dI y a7 h7 s7_188 (44 : Int32) H191.size r194 hc195) (cwV 1 hts gX7_readGate_X7_is rfl rfl rfl (by decide +kernel) ⟨Nat.le_of_ble_eq_true rfl, Nat.le_of_ble_eq_true rfl⟩) ⟨fun a U g mk q => by obtain ⟨q0, q1, qP, qK, qD⟩ := q; exact ⟨q0, q1, qP, va_K.moved (u := U) (U := U.calling g mk a) (Vm.Alike.refl U.vm) qK, qD⟩, va_recv hK hP (ci := 6) (q0 := 0) rfl rfl, fun U hU hW => ⟨rfl, by rw [hU], by rw [hU]; exact hP, va_K.moved hW.alike hK, hD.weaken (fun _ _ _ _ => trivial)⟩⟩ rfl rfl hl.1 rfl (lv_room (Nat.le_of_ble_eq_true rfl)) dX7_readGate_263 ⟨Nat.le_of_ble_eq_true rfl, Nat.le_of_ble_eq_true rfl⟩) hS (fun q _ h => hFc q h) hFc (fun rr197 u t H196 locs ht hvm hw hB hz1 hk1 hS => ?_)
                              obtain ⟨hP1, hK1, hD1⟩ := hB
                              rw [ht] at hP1
                              refine zTopi hw.symm ?_
                              have hP := hP1
                              have hD := hD1.weaken (fun _ q _ h => hFc q.1 h)
                              have hP : va_P (dC, dI) vwCl (cX7 a7 h7 y s7_188) H196 := hP
                              have hD : va_D A (cX7 a7 h7 y s7_188) := hD
                              refine lv_if_eq (tgt := 273) hx hb dX7_readGate_266 (by decide) (fun c198 => ?_) (fun c198 => ?_)
                              · have h := zY c198 h
                                refine lv_iconst (v := 0) hx hb dX7_readGate_273 (by decide) ?_
                                refine lv_istore (lv' := [(6, .int 0), (5, .int v49), (4, .int v24), (0, .ref a7)]) hx hb dX7_readGate_274 hl (by decide) rfl (fun ls hl => ?_)
                                refine lv_goto (tgt := 174) hx hb dX7_readGate_276 (by decide) ?_
                                have h := zI_l h hx86
                                exact (eG80 _ _ _ _ _).mp (ihlp82 (0 : Int32) s7_188 _ _ _ h hP hD hS (lv_sub hl [1, 2, 3, 0] rfl))
                              · have h := zN c198 h
                                refine lv_iconst (v := 1) hx hb dX7_readGate_269 (by decide) ?_
                                refine lv_goto (tgt := 274) hx hb dX7_readGate_270 (by decide) ?_
                                refine lv_istore (lv' := [(6, .int 1), (5, .int v49), (4, .int v24), (0, .ref a7)]) hx hb dX7_readGate_274 hl (by decide) rfl (fun ls hl => ?_)
                                refine lv_goto (tgt := 174) hx hb dX7_readGate_276 (by decide) ?_
                                have h := zI_l h hx86
                                exact (eG80 _ _ _ _ _).mp (ihlp82 (1 : Int32) s7_188 _ _ _ h hP hD hS (lv_sub hl [1, 2, 3, 0] rfl))
                          · have h := zY c182 h
                            have h := zS_l (zI_r h hx86) hk85
                            have ho0 : s7_177 = o_7 := congrArg (fun z : SS => z) (Option.some.inj h)
                            exact W.vret hx hb hr (fun t ht hW => ⟨⟨(), rfl, trivial, by rw [ht]; rw [← ho0]; exact hP, va_K.moved hW.alike hK, by rw [← ho0]; exact hD⟩, hS.F ht⟩) hS.2.2 dX7_readGate_224
                        refine (eG172 _ _ _ _ _).mpr ?_
                        have h := hr175
                        refine lv_icmp_ne (tgt := 217) hx hb dX7_readGate_195 (by decide) (fun c199 => ?_) (fun c199 => ?_)
                        · have h := zN c199 h
                          exact (eG172 _ _ _ _ _).mp (jn173 s7_167 _ _ _ (Option.some.inj h) hP hD hS (lv_sub hl [0, 1, 2] rfl))
                        · have h := zY c199 h
                          refine lv_aload_n hx hb dX7_readGate_198 rfl (lv_at hl 2 rfl) ?_
                          refine va_get (D := (dC, dI)) (ci := 6) (v := .ref (h7 14)) (C := RX7) (T := TX7) (N := 49) hx hb hts inX7_ hown hK hP 0 rfl rfl 14 (by decide) (hts (.fieldLink RX7 31 "GateWheelModel" "nMany" "[I") (List.mem_of_getElem? (i := 5) rfl)) (fun _ h9 => h9) rfl dX7_readGate_199 ?_
                          refine lv_iload hx hb dX7_readGate_202 (lv_at hl 1 rfl) ?_
                          refine va_iald hx hb hK hP 6 0 rfl rfl hi25 dX7_readGate_204 ?_
                          refine lv_iload hx hb dX7_readGate_205 (lv_at hl 0 rfl) ?_
                          obtain ⟨r200, hc201, h⟩ := zB_spec h
                          have hPc := hP.sub (ws' := []) [] rfl
                          have hDc := hD.sub (ws' := []) [] (by decide) rfl
                          have hFc := va_free (wc := []) hD hS hA [] rfl
                          refine va_calli (va_runS (As := [.int v49]) (rest := [.int (gA s7_167 14 v24.toNatClampNeg)]) ⟨hx, hb, hml, hown, hts⟩ (m_X7_mostOf l dC dI y v49 H169.size r200 hc201) (va_cwS 1 hts gX7_readGate_X7_mostOf rfl rfl rfl (by decide +kernel) ⟨Nat.le_of_ble_eq_true rfl, Nat.le_of_ble_eq_true rfl⟩) ⟨fun a U g mk q => by obtain ⟨q0, q1, qP, qK, qD⟩ := q; exact ⟨q0, q1, qP, va_K.moved (u := U) (U := U.calling g mk a) (Vm.Alike.refl U.vm) qK, qD⟩, fun U hU hW => ⟨rfl, by rw [hU], by rw [hU]; exact hPc, va_K.moved hW.alike hK, hDc.weaken (fun _ _ _ _ => trivial)⟩⟩ rfl rfl hl.1 rfl (lv_room (Nat.le_of_ble_eq_true rfl)) dX7_readGate_207 ⟨Nat.le_of_ble_eq_true rfl, Nat.le_of_ble_eq_true rfl⟩) hS (fun q _ h => hFc q h) hFc (fun rr203 u t H202 locs ht hvm hw hB hz1 hk1 hS => ?_)
                          obtain ⟨hP1, hK1, hD1⟩ := hB
                          rw [ht] at hP1
                          refine zTopi hw.symm ?_
                          obtain ⟨hP, hD⟩ := va_join (wr := [(oX7 a7 h7 s7_167), (h7 0, .inl (y 2, 2020, .inl (gA s7_167 0))), (h7 1, .inl (y 2, 2000, .inl (gA s7_167 1))), (h7 11, .inl (y 1, 120, .inr (.inl (gB s7_167 11)))), (h7 12, .inl (y 0, 120, .inl (gA s7_167 12))), (h7 13, .inl (y 0, 120, .inl (gA s7_167 13))), (h7 14, .inl (y 0, 120, .inl (gA s7_167 14))), (h7 15, .inl (y 0, 120, .inl (gA s7_167 15))), (h7 16, .inl (y 0, 1440, .inl (gA s7_167 16))), (h7 17, .inl (y 0, 120, .inl (gA s7_167 17))), (h7 18, .inl (y 0, 60, .inl (gA s7_167 18))), (h7 19, .inl (y 3, 720, .inl (gA s7_167 19))), (h7 20, .inl (y 1, 1000, .inr (.inl (gB s7_167 20)))), (h7 21, .inl (y 0, 1000, .inl (gA s7_167 21))), (h7 22, .inl (y 0, 1000, .inl (gA s7_167 22))), (h7 23, .inl (y 1, 200, .inr (.inl (gB s7_167 23)))), (h7 24, .inl (y 0, 200, .inl (gA s7_167 24))), (h7 25, .inl (y 3, 200, .inl (gA s7_167 25))), (h7 32, .inl (y 3, 60, .inl (gA s7_167 32))), (h7 33, .inl (y 0, 60, .inl (gA s7_167 33))), (h7 34, .inl (y 0, 60, .inl (gA s7_167 34))), (h7 35, .inl (y 0, 60, .inl (gA s7_167 35))), (h7 36, .inl (y 0, 60, .inl (gA s7_167 36))), (h7 37, .inl (y 0, 60, .inl (gA s7_167 37))), (h7 38, .inl (y 0, 60, .inl (gA s7_167 38))), (h7 40, .inl (y 0, 60, .inl (gA s7_167 40))), (h7 41, .inl (y 0, 60, .inl (gA s7_167 41))), (h7 42, .inl (y 0, 600, .inl (gA s7_167 42))), (h7 43, .inl (y 0, 1200, .inl (gA s7_167 43))), (h7 44, .inl (y 0, 60, .inl (gA s7_167 44))), (h7 45, .inl (y 3, 60, .inl (gA s7_167 45)))]) (w1 := []) hP hD [] [0, 1, 2, 3, 4, 5, 6, 7, 8, 9, 10, 11, 12, 13, 14, 15, 16, 17, 18, 19, 20, 21, 22, 23, 24, 25, 26, 27, 28, 29, 30] rfl rfl (by decide) (by decide) hk1 hFc hP1 hD1
                          have hP : va_P (dC, dI) vwCl (cX7 a7 h7 y s7_167) H202 := hP.sub [0, 1, 2, 3, 4, 5, 6, 7, 8, 9, 10, 11, 12, 13, 14, 15, 16, 17, 18, 19, 20, 21, 22, 23, 24, 25, 26, 27, 28, 29, 30] rfl
                          have hD : va_D A (cX7 a7 h7 y s7_167) := hD.sub [0, 1, 2, 3, 4, 5, 6, 7, 8, 9, 10, 11, 12, 13, 14, 15, 16, 17, 18, 19, 20, 21, 22, 23, 24, 25, 26, 27, 28, 29, 30] (by decide) rfl
                          refine lv_icmp_ne (tgt := 217) hx hb dX7_readGate_210 (by decide) (fun c204 => ?_) (fun c204 => ?_)
                          · have h := zN c204 h
                            exact (eG172 _ _ _ _ _).mp (jn173 s7_167 _ _ _ (Option.some.inj h) hP hD hS (lv_sub hl [0, 1, 2] rfl))
                          · have h := zY c204 h
                            refine lv_aload_n hx hb dX7_readGate_213 rfl (lv_at hl 2 rfl) ?_
                            obtain ⟨s7_205, hc206, h⟩ := zB_spec h
                            have hFc := zFree hD hS hA
                            refine va_callv (va_runV (As := []) (rest := []) ⟨hx, hb, hml, hown, hts⟩ (m_X7_wrong l dC dI y a7 h7 s7_167 H202.size s7_205 hc206) (cwV 0 hts gX7_readGate_X7_wrong rfl rfl rfl (by decide +kernel) ⟨Nat.le_of_ble_eq_true rfl, Nat.le_of_ble_eq_true rfl⟩) ⟨fun a U g mk q => by obtain ⟨q0, q1, qP, qK, qD⟩ := q; exact ⟨q0, q1, qP, va_K.moved (u := U) (U := U.calling g mk a) (Vm.Alike.refl U.vm) qK, qD⟩, va_recv hK hP (ci := 6) (q0 := 0) rfl rfl, fun U hU hW => ⟨rfl, by rw [hU], by rw [hU]; exact hP, va_K.moved hW.alike hK, hD.weaken (fun _ _ _ _ => trivial)⟩⟩ rfl rfl hl.1 rfl (lv_room (Nat.le_of_ble_eq_true rfl)) dX7_readGate_214 ⟨Nat.le_of_ble_eq_true rfl, Nat.le_of_ble_eq_true rfl⟩) hS (fun q _ h => hFc q h) hFc (fun u t H207 locs ht hvm hw hB hz1 hk1 hS => ?_)
                            obtain ⟨hP1, hK1, hD1⟩ := hB
                            rw [ht] at hP1
                            have hP := hP1
                            have hD := hD1.weaken (fun _ q _ h => hFc q.1 h)
                            have hP : va_P (dC, dI) vwCl (cX7 a7 h7 y s7_205) H207 := hP
                            have hD : va_D A (cX7 a7 h7 y s7_205) := hD
                            exact (eG172 _ _ _ _ _).mp (jn173 s7_205 _ _ _ (Option.some.inj h) hP hD hS (lv_sub hl [0, 1, 2] rfl))
                exact lp82 zF (1 : Int32) s7_78 _ _ _ hi84 hP hD hS (lv_sub hl [1, 2, 3, 0] rfl)
              refine (eG73 _ _ _ _ _).mpr ?_
              have h := hr76
              refine lv_if_ne (tgt := 171) hx hb dX7_readGate_164 (by decide) (fun c209 => ?_) (fun c209 => ?_)
              · have h := zN c209 h
                exact (eG73 _ _ _ _ _).mp (jn74 s7_64 _ _ _ (Option.some.inj h) hP hD hS (lv_sub hl [0, 1, 2] rfl))
              · have h := zY c209 h
                refine lv_aload_n hx hb dX7_readGate_167 rfl (lv_at hl 2 rfl) ?_
                obtain ⟨s7_210, hc211, h⟩ := zB_spec h
                have hFc := zFree hD hS hA
                refine va_callv (va_runV (As := []) (rest := []) ⟨hx, hb, hml, hown, hts⟩ (m_X7_wrong l dC dI y a7 h7 s7_64 H70.size s7_210 hc211) (cwV 0 hts gX7_readGate_X7_wrong rfl rfl rfl (by decide +kernel) ⟨Nat.le_of_ble_eq_true rfl, Nat.le_of_ble_eq_true rfl⟩) ⟨fun a U g mk q => by obtain ⟨q0, q1, qP, qK, qD⟩ := q; exact ⟨q0, q1, qP, va_K.moved (u := U) (U := U.calling g mk a) (Vm.Alike.refl U.vm) qK, qD⟩, va_recv hK hP (ci := 6) (q0 := 0) rfl rfl, fun U hU hW => ⟨rfl, by rw [hU], by rw [hU]; exact hP, va_K.moved hW.alike hK, hD.weaken (fun _ _ _ _ => trivial)⟩⟩ rfl rfl hl.1 rfl (lv_room (Nat.le_of_ble_eq_true rfl)) dX7_readGate_168 ⟨Nat.le_of_ble_eq_true rfl, Nat.le_of_ble_eq_true rfl⟩) hS (fun q _ h => hFc q h) hFc (fun u t H212 locs ht hvm hw hB hz1 hk1 hS => ?_)
                obtain ⟨hP1, hK1, hD1⟩ := hB
                rw [ht] at hP1
                have hP := hP1
                have hD := hD1.weaken (fun _ q _ h => hFc q.1 h)
                have hP : va_P (dC, dI) vwCl (cX7 a7 h7 y s7_210) H212 := hP
                have hD : va_D A (cX7 a7 h7 y s7_210) := hD
                exact (eG73 _ _ _ _ _).mp (jn74 s7_210 _ _ _ (Option.some.inj h) hP hD hS (lv_sub hl [0, 1, 2] rfl))
            · have h := zY c61 h
              have ho0 : s7_56 = o_7 := congrArg (fun z : SS => z) (Option.some.inj h)
              exact W.vret hx hb hr (fun t ht hW => ⟨⟨(), rfl, trivial, by rw [ht]; rw [← ho0]; exact hP, va_K.moved hW.alike hK, by rw [← ho0]; exact hD⟩, hS.F ht⟩) hS.2.2 dX7_readGate_144
          refine (eG51 _ _ _ _ _).mpr ?_
          have h := hr54
          refine lv_if_ge (tgt := 137) hx hb dX7_readGate_130 (by decide) (fun c214 => ?_) (fun c214 => ?_)
          · have h := zY c214 h
            exact (eG51 _ _ _ _ _).mp (jn52 s7_39 _ _ _ (Option.some.inj h) hP hD hS (lv_sub hl [0, 1, 2] rfl))
          · have h := zN c214 h
            refine lv_aload_n hx hb dX7_readGate_133 rfl (lv_at hl 2 rfl) ?_
            obtain ⟨s7_215, hc216, h⟩ := zB_spec h
            have hFc := zFree hD hS hA
            refine va_callv (va_runV (As := []) (rest := []) ⟨hx, hb, hml, hown, hts⟩ (m_X7_wrong l dC dI y a7 h7 s7_39 HGW43.size s7_215 hc216) (cwV 0 hts gX7_readGate_X7_wrong rfl rfl rfl (by decide +kernel) ⟨Nat.le_of_ble_eq_true rfl, Nat.le_of_ble_eq_true rfl⟩) ⟨fun a U g mk q => by obtain ⟨q0, q1, qP, qK, qD⟩ := q; exact ⟨q0, q1, qP, va_K.moved (u := U) (U := U.calling g mk a) (Vm.Alike.refl U.vm) qK, qD⟩, va_recv hK hP (ci := 6) (q0 := 0) rfl rfl, fun U hU hW => ⟨rfl, by rw [hU], by rw [hU]; exact hP, va_K.moved hW.alike hK, hD.weaken (fun _ _ _ _ => trivial)⟩⟩ rfl rfl hl.1 rfl (lv_room (Nat.le_of_ble_eq_true rfl)) dX7_readGate_134 ⟨Nat.le_of_ble_eq_true rfl, Nat.le_of_ble_eq_true rfl⟩) hS (fun q _ h => hFc q h) hFc (fun u t H217 locs ht hvm hw hB hz1 hk1 hS => ?_)
            obtain ⟨hP1, hK1, hD1⟩ := hB
            rw [ht] at hP1
            have hP := hP1
            have hD := hD1.weaken (fun _ q _ h => hFc q.1 h)
            have hP : va_P (dC, dI) vwCl (cX7 a7 h7 y s7_215) H217 := hP
            have hD : va_D A (cX7 a7 h7 y s7_215) := hD
            exact (eG51 _ _ _ _ _).mp (jn52 s7_215 _ _ _ (Option.some.inj h) hP hD hS (lv_sub hl [0, 1, 2] rfl))
        refine (eG44 _ _ _ _ _).mpr ?_
        have h := hr47
        refine lv_icmp_ne (tgt := 125) hx hb dX7_readGate_112 (by decide) (fun c219 => ?_) (fun c219 => ?_)
        · have h := zN c219 h
          refine lv_iconst (v := (-1)) hx hb dX7_readGate_125 (by decide) ?_
          exact (eG44 _ _ _ _ _).mp (jn45 (-1 : Int32) _ _ _ (Option.some.inj h) hP hD hS (lv_sub hl [0, 1] rfl))
        · have h := zY c219 h
          refine lv_aload_n hx hb dX7_readGate_115 rfl (lv_at hl 1 rfl) ?_
          refine va_get (D := (dC, dI)) (ci := 6) (v := .long (gL s7_39 10)) (C := RX7) (T := TX7) (N := 49) hx hb hts inX7_ hown hK hP 0 rfl rfl 10 (by decide) (hts (.fieldLink RX7 151 "GateWheelModel" "name" "J") (List.mem_of_getElem? (i := 9) rfl)) (fun _ h9 => h9) rfl dX7_readGate_116 ?_
          obtain ⟨r220, hc221, h⟩ := zB_spec h
          have hPc := hP.sub (ws' := []) [] rfl
          have hDc := hD.sub (ws' := []) [] (by decide) rfl
          have hFc := va_free (wc := []) hD hS hA [] rfl
          refine va_calli (va_runS (As := [.long (gL s7_39 10)]) (rest := []) ⟨hx, hb, hml, hown, hts⟩ (m_X7_gateOf l dC dI y (gL s7_39 10) H41.size r220 hc221) (va_cwS 1 hts gX7_readGate_X7_gateOf rfl rfl rfl (by decide +kernel) ⟨Nat.le_of_ble_eq_true rfl, Nat.le_of_ble_eq_true rfl⟩) ⟨fun a U g mk q => by obtain ⟨q0, q1, qP, qK, qD⟩ := q; exact ⟨q0, q1, qP, va_K.moved (u := U) (U := U.calling g mk a) (Vm.Alike.refl U.vm) qK, qD⟩, fun U hU hW => ⟨rfl, by rw [hU], by rw [hU]; exact hPc, va_K.moved hW.alike hK, hDc.weaken (fun _ _ _ _ => trivial)⟩⟩ rfl rfl hl.1 rfl (lv_room (Nat.le_of_ble_eq_true rfl)) dX7_readGate_119 ⟨Nat.le_of_ble_eq_true rfl, Nat.le_of_ble_eq_true rfl⟩) hS (fun q _ h => hFc q h) hFc (fun rr223 u t H222 locs ht hvm hw hB hz1 hk1 hS => ?_)
          obtain ⟨hP1, hK1, hD1⟩ := hB
          rw [ht] at hP1
          refine zTopi hw.symm ?_
          obtain ⟨hP, hD⟩ := va_join (wr := [(oX7 a7 h7 s7_39), (h7 0, .inl (y 2, 2020, .inl (gA s7_39 0))), (h7 1, .inl (y 2, 2000, .inl (gA s7_39 1))), (h7 11, .inl (y 1, 120, .inr (.inl (gB s7_39 11)))), (h7 12, .inl (y 0, 120, .inl (gA s7_39 12))), (h7 13, .inl (y 0, 120, .inl (gA s7_39 13))), (h7 14, .inl (y 0, 120, .inl (gA s7_39 14))), (h7 15, .inl (y 0, 120, .inl (gA s7_39 15))), (h7 16, .inl (y 0, 1440, .inl (gA s7_39 16))), (h7 17, .inl (y 0, 120, .inl (gA s7_39 17))), (h7 18, .inl (y 0, 60, .inl (gA s7_39 18))), (h7 19, .inl (y 3, 720, .inl (gA s7_39 19))), (h7 20, .inl (y 1, 1000, .inr (.inl (gB s7_39 20)))), (h7 21, .inl (y 0, 1000, .inl (gA s7_39 21))), (h7 22, .inl (y 0, 1000, .inl (gA s7_39 22))), (h7 23, .inl (y 1, 200, .inr (.inl (gB s7_39 23)))), (h7 24, .inl (y 0, 200, .inl (gA s7_39 24))), (h7 25, .inl (y 3, 200, .inl (gA s7_39 25))), (h7 32, .inl (y 3, 60, .inl (gA s7_39 32))), (h7 33, .inl (y 0, 60, .inl (gA s7_39 33))), (h7 34, .inl (y 0, 60, .inl (gA s7_39 34))), (h7 35, .inl (y 0, 60, .inl (gA s7_39 35))), (h7 36, .inl (y 0, 60, .inl (gA s7_39 36))), (h7 37, .inl (y 0, 60, .inl (gA s7_39 37))), (h7 38, .inl (y 0, 60, .inl (gA s7_39 38))), (h7 40, .inl (y 0, 60, .inl (gA s7_39 40))), (h7 41, .inl (y 0, 60, .inl (gA s7_39 41))), (h7 42, .inl (y 0, 600, .inl (gA s7_39 42))), (h7 43, .inl (y 0, 1200, .inl (gA s7_39 43))), (h7 44, .inl (y 0, 60, .inl (gA s7_39 44))), (h7 45, .inl (y 3, 60, .inl (gA s7_39 45)))]) (w1 := []) hP hD [] [0, 1, 2, 3, 4, 5, 6, 7, 8, 9, 10, 11, 12, 13, 14, 15, 16, 17, 18, 19, 20, 21, 22, 23, 24, 25, 26, 27, 28, 29, 30] rfl rfl (by decide) (by decide) hk1 hFc hP1 hD1
          have hP : va_P (dC, dI) vwCl (cX7 a7 h7 y s7_39) H222 := hP.sub [0, 1, 2, 3, 4, 5, 6, 7, 8, 9, 10, 11, 12, 13, 14, 15, 16, 17, 18, 19, 20, 21, 22, 23, 24, 25, 26, 27, 28, 29, 30] rfl
          have hD : va_D A (cX7 a7 h7 y s7_39) := hD.sub [0, 1, 2, 3, 4, 5, 6, 7, 8, 9, 10, 11, 12, 13, 14, 15, 16, 17, 18, 19, 20, 21, 22, 23, 24, 25, 26, 27, 28, 29, 30] (by decide) rfl
          refine lv_goto (tgt := 126) hx hb dX7_readGate_122 (by decide) ?_
          exact (eG44 _ _ _ _ _).mp (jn45 r220 _ _ _ (Option.some.inj h) hP hD hS (lv_sub hl [0, 1] rfl))
      · have h := zY c23 h
        have ho0 : s7_18 = o_7 := congrArg (fun z : SS => z) (Option.some.inj h)
        exact W.vret hx hb hr (fun t ht hW => ⟨⟨(), rfl, trivial, by rw [ht]; rw [← ho0]; exact hP, va_K.moved hW.alike hK, by rw [← ho0]; exact hD⟩, hS.F ht⟩) hS.2.2 dX7_readGate_36
    refine (eG13 _ _ _ _ _).mpr ?_
    have h := hr16
    refine lv_if_lt (tgt := 29) hx hb dX7_readGate_20 (by decide) (fun c224 => ?_) (fun c224 => ?_)
    · have h := zY c224 h
      exact (eG13 _ _ _ _ _).mp (jn14 s7_7 _ _ _ (Option.some.inj h) hP hD hS (lv_sub hl [0, 1, 2] rfl))
    · have h := zN c224 h
      refine lv_aload_n hx hb dX7_readGate_23 rfl (lv_at hl 0 rfl) ?_
      refine lv_iconst (v := 3) hx hb dX7_readGate_24 (by decide) ?_
      refine lv_iload_n hx hb dX7_readGate_25 rfl (lv_at hl 2 rfl) ?_
      obtain ⟨s7_225, hc226, h⟩ := zB_spec h
      have hFc := zFree hD hS hA
      refine va_callv (va_runV (As := [.int 3, .int p2]) (rest := []) ⟨hx, hb, hml, hown, hts⟩ (m_X7_fails l dC dI y a7 h7 s7_7 (3 : Int32) p2 H10.size s7_225 hc226) (cwV 2 hts gX7_readGate_X7_fails rfl rfl rfl (by decide +kernel) ⟨Nat.le_of_ble_eq_true rfl, Nat.le_of_ble_eq_true rfl⟩) ⟨fun a U g mk q => by obtain ⟨q0, q1, qP, qK, qD⟩ := q; exact ⟨q0, q1, qP, va_K.moved (u := U) (U := U.calling g mk a) (Vm.Alike.refl U.vm) qK, qD⟩, va_recv hK hP (ci := 6) (q0 := 0) rfl rfl, fun U hU hW => ⟨rfl, by rw [hU], by rw [hU]; exact hP, va_K.moved hW.alike hK, hD.weaken (fun _ _ _ _ => trivial)⟩⟩ rfl rfl hl.1 rfl (lv_room (Nat.le_of_ble_eq_true rfl)) dX7_readGate_26 ⟨Nat.le_of_ble_eq_true rfl, Nat.le_of_ble_eq_true rfl⟩) hS (fun q _ h => hFc q h) hFc (fun u t H227 locs ht hvm hw hB hz1 hk1 hS => ?_)
      obtain ⟨hP1, hK1, hD1⟩ := hB
      rw [ht] at hP1
      have hP := hP1
      have hD := hD1.weaken (fun _ q _ h => hFc q.1 h)
      have hP : va_P (dC, dI) vwCl (cX7 a7 h7 y s7_225) H227 := hP
      have hD : va_D A (cX7 a7 h7 y s7_225) := hD
      exact (eG13 _ _ _ _ _).mp (jn14 s7_225 _ _ _ (Option.some.inj h) hP hD hS (lv_sub hl [0, 1, 2] rfl))
  refine (eG2 _ _ _ _ _).mpr ?_
  have h := hr5
  refine lv_icmp_ne (tgt := 15) hx hb dX7_readGate_6 (by decide) (fun c229 => ?_) (fun c229 => ?_)
  · have h := zN c229 h
    exact (eG2 _ _ _ _ _).mp (jn3 S7 _ _ _ (Option.some.inj h) hP hD hS (lv_sub hl [0, 1, 2] rfl))
  · have h := zY c229 h
    refine lv_aload_n hx hb dX7_readGate_9 rfl (lv_at hl 0 rfl) ?_
    refine lv_iconst (v := 2) hx hb dX7_readGate_10 (by decide) ?_
    refine lv_iload_n hx hb dX7_readGate_11 rfl (lv_at hl 2 rfl) ?_
    obtain ⟨s7_230, hc231, h⟩ := zB_spec h
    have hFc := zFree hD hS hA
    refine va_callv (va_runV (As := [.int 2, .int p2]) (rest := []) ⟨hx, hb, hml, hown, hts⟩ (m_X7_fails l dC dI y a7 h7 S7 (2 : Int32) p2 s.heap.size s7_230 hc231) (cwV 2 hts gX7_readGate_X7_fails rfl rfl rfl (by decide +kernel) ⟨Nat.le_of_ble_eq_true rfl, Nat.le_of_ble_eq_true rfl⟩) ⟨fun a U g mk q => by obtain ⟨q0, q1, qP, qK, qD⟩ := q; exact ⟨q0, q1, qP, va_K.moved (u := U) (U := U.calling g mk a) (Vm.Alike.refl U.vm) qK, qD⟩, va_recv hK hP (ci := 6) (q0 := 0) rfl rfl, fun U hU hW => ⟨rfl, by rw [hU], by rw [hU]; exact hP, va_K.moved hW.alike hK, hD.weaken (fun _ _ _ _ => trivial)⟩⟩ rfl rfl hl.1 rfl (lv_room (Nat.le_of_ble_eq_true rfl)) dX7_readGate_12 ⟨Nat.le_of_ble_eq_true rfl, Nat.le_of_ble_eq_true rfl⟩) hS (fun q _ h => hFc q h) hFc (fun u t H232 locs ht hvm hw hB hz1 hk1 hS => ?_)
    obtain ⟨hP1, hK1, hD1⟩ := hB
    rw [ht] at hP1
    have hP := hP1
    have hD := hD1.weaken (fun _ q _ h => hFc q.1 h)
    have hP : va_P (dC, dI) vwCl (cX7 a7 h7 y s7_230) H232 := hP
    have hD : va_D A (cX7 a7 h7 y s7_230) := hD
    exact (eG2 _ _ _ _ _).mp (jn3 s7_230 _ _ _ (Option.some.inj h) hP hD hS (lv_sub hl [0, 1, 2] rfl))

set_option maxHeartbeats 4000000 in
set_option maxRecDepth 100000 in
theorem m_X7_readDriver (l : Launch) (dC : Nat → ClassId) (dI : Nat → Nat → Nat) (y : Nat → ClassId) (a7 : Nat) (h7 : Nat → Nat) (S7 : SS) (p1 : Int64) (p2 : Int32) (sz : Nat) (o_7 : SS) (h : f_X7_readDriver S7 p1 p2 = some o_7) : Met l yX7_readDriver wsX7_readDriver ({ frames := 3, cells := 0, slots := 0, locals := 64 }) (va_Pc [.ref a7, .long p1, .int p2] (fun U => U.heap.size = sz ∧ va_P (dC, dI) vwCl (cX7 a7 h7 y S7) U.heap ∧ va_K (dC, dI) vwCl [(y 0, .int), (y 1, .long), (y 2, .byte), (y 3, .boolean)] U ∧ va_D (fun _ => True) (cX7 a7 h7 y S7))) (va_Qv (fun (_ : Unit) => True) (fun (_ : Unit) (t : State) => va_P (dC, dI) vwCl (cX7 a7 h7 y o_7) t.heap ∧ va_K (dC, dI) vwCl [(y 0, .int), (y 1, .long), (y 2, .byte), (y 3, .boolean)] t ∧ va_D (va_A (cX7 a7 h7 y S7) sz) (cX7 a7 h7 y o_7)) (va_A (cX7 a7 h7 y S7) sz)) 0 0 (va_A (cX7 a7 h7 y S7) sz) := by
  refine Met.ofW (cc := cX7_readDriver) (maxL := 6) (ret := none) (by decide +kernel) rfl ?_
  intro p e s m args below meth c s₁ B hml hv
  obtain ⟨rfl, hsz, hP, hK, hD0⟩ := hv
  have hx := B.exec
  have hb := B.bytes
  have hr := B.returns
  have hts := atoms_spec (ws := wsX7_readDriver) B.pre
  have hown : s.vm.findClass RX7 = some m.cls := findClass_of_methodNamed B.named
  have hlocks := B.notSynchronized
  have inX7_ : ∀ w ∈ wsX70, w ∈ wsX7_readDriver := fun _ h => List.mem_cons_of_mem _ (List.mem_append_right _ h)
  subst hsz
  have hD := hD0.self (sz := s.heap.size)
  generalize hAe : va_A (cX7 a7 h7 y S7) s.heap.size = A at hD ⊢
  have hA : ∀ q : Nat, s.heap.size ≤ q → A q := fun q h => by rw [← hAe]; exact Or.inr h
  have hS : va_S A s.heap s.heap [] := va_S.rf
  have hP : va_P (dC, dI) vwCl (cX7 a7 h7 y S7) s.heap := hP
  have hl := lv_entry ([.ref a7, .long p1, .int p2]) (n := 6) (Nat.le_of_ble_eq_true rfl)
  rw [lg_entry_eq]
  generalize (lg_sl ([.ref a7, .long p1, .int p2]) ++ List.replicate (6 - (lg_sl ([.ref a7, .long p1, .int p2])).length) Slot.unset).toArray = ls at hl ⊢
  have hl : lv_has ls 6 [(0, .ref a7), (1, .long p1), (3, .int p2)] := hl
  refine lv_iconst (v := 0) hx hb dX7_readDriver_0 (by decide) ?_
  refine lv_istore (lv' := [(4, .int 0), (0, .ref a7), (1, .long p1), (3, .int p2)]) hx hb dX7_readDriver_1 hl (by decide) rfl (fun ls hl => ?_)
  refine lv_iconst (v := 0) hx hb dX7_readDriver_3 (by decide) ?_
  refine lv_istore (lv' := [(5, .int 0), (4, .int 0), (0, .ref a7), (1, .long p1), (3, .int p2)]) hx hb dX7_readDriver_4 hl (by decide) rfl (fun ls hl => ?_)
  refine W_abs (fun GW1 eG2 => ?_)
  obtain ⟨ov5, hi6, h⟩ := zB_spec h
  have je3 : ∀ (v10 : Int32) (HGW1e : Heap) (locs : List Loc) (ls : Array Slot), v10 = ov5 → va_P (dC, dI) vwCl (cX7 a7 h7 y S7) HGW1e → va_D A (cX7 a7 h7 y S7) → va_S A s.heap HGW1e locs → lv_has ls 6 [(0, .ref a7), (1, .long p1), (3, .int p2), (4, .int v10)] → GW1 HGW1e locs 0 0 (F0 m 43 ls []) := by
    intro v10 HGW1e locs ls hv hP hD hS hl
    subst hv
    refine (eG2 _ _ _ _ _).mpr ?_
    refine lv_iload hx hb dX7_readDriver_43 (lv_at hl 3 rfl) ?_
    refine lv_bipush (v := 6) hx hb dX7_readDriver_45 (by decide) ?_
    refine W_abs (fun GW11 eG12 => ?_)
    obtain ⟨ov14, hr15, h⟩ := zB_spec h
    have jn13 : ∀ (s7_17 : SS) (HGW11 : Heap) (locs : List Loc) (ls : Array Slot), s7_17 = ov14 → va_P (dC, dI) vwCl (cX7 a7 h7 y s7_17) HGW11 → va_D A (cX7 a7 h7 y s7_17) → va_S A s.heap HGW11 locs → lv_has ls 6 [(0, .ref a7), (1, .long p1), (3, .int p2)] → GW11 HGW11 locs 0 0 (F0 m 56 ls []) := by
      intro s7_17 HGW11 locs ls hv hP hD hS hl
      subst hv
      refine (eG12 _ _ _ _ _).mpr ?_
      refine lv_aload_n hx hb dX7_readDriver_56 rfl (lv_at hl 0 rfl) ?_
      obtain ⟨r18, hc19, h⟩ := zB_spec h
      have hFc := zFree hD hS hA
      refine va_calli (va_runV (As := []) (rest := []) ⟨hx, hb, hml, hown, hts⟩ (m_X7_isGood l dC dI y a7 h7 s7_17 HGW11.size r18 hc19) (cwV 0 hts gX7_readDriver_X7_isGood rfl rfl rfl (by decide +kernel) ⟨Nat.le_of_ble_eq_true rfl, Nat.le_of_ble_eq_true rfl⟩) ⟨fun a U g mk q => by obtain ⟨q0, q1, qP, qK, qD⟩ := q; exact ⟨q0, q1, qP, va_K.moved (u := U) (U := U.calling g mk a) (Vm.Alike.refl U.vm) qK, qD⟩, va_recv hK hP (ci := 6) (q0 := 0) rfl rfl, fun U hU hW => ⟨rfl, by rw [hU], by rw [hU]; exact hP, va_K.moved hW.alike hK, hD.weaken (fun _ _ _ _ => trivial)⟩⟩ rfl rfl hl.1 rfl (lv_room (Nat.le_of_ble_eq_true rfl)) dX7_readDriver_57 ⟨Nat.le_of_ble_eq_true rfl, Nat.le_of_ble_eq_true rfl⟩) hS (fun q _ h => hFc q h) hFc (fun rr21 u t H20 locs ht hvm hw hB hz1 hk1 hS => ?_)
      obtain ⟨hP1, hK1, hD1⟩ := hB
      rw [ht] at hP1
      refine zTopi hw.symm ?_
      have hP := hP1
      have hD := hD1.weaken (fun _ q _ h => hFc q.1 h)
      have hP : va_P (dC, dI) vwCl (cX7 a7 h7 y s7_17) H20 := hP
      have hD : va_D A (cX7 a7 h7 y s7_17) := hD
      refine lv_if_ne (tgt := 64) hx hb dX7_readDriver_60 (by decide) (fun c22 => ?_) (fun c22 => ?_)
      · have h := zN c22 h
        refine lv_aload_n hx hb dX7_readDriver_64 rfl (lv_at hl 0 rfl) ?_
        refine va_get (D := (dC, dI)) (ci := 6) (v := .ref (h7 20)) (C := RX7) (T := TX7) (N := 49) hx hb hts inX7_ hown hK hP 0 rfl rfl 20 (by decide) (hts (.fieldLink RX7 50 "GateWheelModel" "aName" "[J") (List.mem_of_getElem? (i := 3) rfl)) (fun _ h9 => h9) rfl dX7_readDriver_65 ?_
        refine lv_aload_n hx hb dX7_readDriver_68 rfl (lv_at hl 0 rfl) ?_
        refine va_get (D := (dC, dI)) (ci := 6) (v := .int (gI s7_17 27)) (C := RX7) (T := TX7) (N := 49) hx hb hts inX7_ hown hK hP 0 rfl rfl 27 (by decide) (hts (.fieldLink RX7 198 "GateWheelModel" "asks" "I") (List.mem_of_getElem? (i := 4) rfl)) (fun _ h9 => h9) rfl dX7_readDriver_69 ?_
        refine lv_lload_n hx hb dX7_readDriver_72 rfl (lv_at hl 1 rfl) ?_
        obtain ⟨hi23, h⟩ := zG_spec h
        refine va_last hx hb hK hP hD hS 12 1 rfl rfl hi23 dX7_readDriver_73 (fun H24 locs hP hD hS => ?_)
        obtain ⟨s7_25, es7_25, h⟩ := zL_spec h
        have hP : va_P (dC, dI) vwCl (cX7 a7 h7 y s7_25) H24 := by rw [es7_25]; exact hP
        have hD : va_D A (cX7 a7 h7 y s7_25) := by rw [es7_25]; exact hD
        refine lv_aload_n hx hb dX7_readDriver_74 rfl (lv_at hl 0 rfl) ?_
        refine va_get (D := (dC, dI)) (ci := 6) (v := .ref (h7 21)) (C := RX7) (T := TX7) (N := 49) hx hb hts inX7_ hown hK hP 0 rfl rfl 21 (by decide) (hts (.fieldLink RX7 53 "GateWheelModel" "aPlace" "[I") (List.mem_of_getElem? (i := 5) rfl)) (fun _ h9 => h9) rfl dX7_readDriver_75 ?_
        refine lv_aload_n hx hb dX7_readDriver_78 rfl (lv_at hl 0 rfl) ?_
        refine va_get (D := (dC, dI)) (ci := 6) (v := .int (gI s7_25 27)) (C := RX7) (T := TX7) (N := 49) hx hb hts inX7_ hown hK hP 0 rfl rfl 27 (by decide) (hts (.fieldLink RX7 198 "GateWheelModel" "asks" "I") (List.mem_of_getElem? (i := 4) rfl)) (fun _ h9 => h9) rfl dX7_readDriver_79 ?_
        refine lv_iload_n hx hb dX7_readDriver_82 rfl (lv_at hl 2 rfl) ?_
        obtain ⟨hi26, h⟩ := zG_spec h
        refine va_iast hx hb hK hP hD hS 13 0 rfl rfl hi26 dX7_readDriver_83 (fun H27 locs hP hD hS => ?_)
        obtain ⟨s7_28, es7_28, h⟩ := zL_spec h
        have hP : va_P (dC, dI) vwCl (cX7 a7 h7 y s7_28) H27 := by rw [es7_28]; exact hP
        have hD : va_D A (cX7 a7 h7 y s7_28) := by rw [es7_28]; exact hD
        refine lv_aload_n hx hb dX7_readDriver_84 rfl (lv_at hl 0 rfl) ?_
        refine va_get (D := (dC, dI)) (ci := 6) (v := .ref (h7 22)) (C := RX7) (T := TX7) (N := 49) hx hb hts inX7_ hown hK hP 0 rfl rfl 22 (by decide) (hts (.fieldLink RX7 56 "GateWheelModel" "aRow" "[I") (List.mem_of_getElem? (i := 6) rfl)) (fun _ h9 => h9) rfl dX7_readDriver_85 ?_
        refine lv_aload_n hx hb dX7_readDriver_88 rfl (lv_at hl 0 rfl) ?_
        refine va_get (D := (dC, dI)) (ci := 6) (v := .int (gI s7_28 27)) (C := RX7) (T := TX7) (N := 49) hx hb hts inX7_ hown hK hP 0 rfl rfl 27 (by decide) (hts (.fieldLink RX7 198 "GateWheelModel" "asks" "I") (List.mem_of_getElem? (i := 4) rfl)) (fun _ h9 => h9) rfl dX7_readDriver_89 ?_
        refine lv_iconst (v := (-1)) hx hb dX7_readDriver_92 (by decide) ?_
        obtain ⟨hi29, h⟩ := zG_spec h
        refine va_iast hx hb hK hP hD hS 14 0 rfl rfl hi29 dX7_readDriver_93 (fun H30 locs hP hD hS => ?_)
        obtain ⟨s7_31, es7_31, h⟩ := zL_spec h
        have hP : va_P (dC, dI) vwCl (cX7 a7 h7 y s7_31) H30 := by rw [es7_31]; exact hP
        have hD : va_D A (cX7 a7 h7 y s7_31) := by rw [es7_31]; exact hD
        refine lv_aload_n hx hb dX7_readDriver_94 rfl (lv_at hl 0 rfl) ?_
        refine va_get (D := (dC, dI)) (ci := 6) (v := .ref (h7 23)) (C := RX7) (T := TX7) (N := 49) hx hb hts inX7_ hown hK hP 0 rfl rfl 23 (by decide) (hts (.fieldLink RX7 59 "GateWheelModel" "dBus" "[J") (List.mem_of_getElem? (i := 2) rfl)) (fun _ h9 => h9) rfl dX7_readDriver_95 ?_
        refine lv_aload_n hx hb dX7_readDriver_98 rfl (lv_at hl 0 rfl) ?_
        refine va_get (D := (dC, dI)) (ci := 6) (v := .int (gI s7_31 28)) (C := RX7) (T := TX7) (N := 49) hx hb hts inX7_ hown hK hP 0 rfl rfl 28 (by decide) (hts (.fieldLink RX7 217 "GateWheelModel" "drivers" "I") (List.mem_of_getElem? (i := 1) rfl)) (fun _ h9 => h9) rfl dX7_readDriver_99 ?_
        refine lv_lload_n hx hb dX7_readDriver_102 rfl (lv_at hl 1 rfl) ?_
        obtain ⟨hi32, h⟩ := zG_spec h
        refine va_last hx hb hK hP hD hS 15 1 rfl rfl hi32 dX7_readDriver_103 (fun H33 locs hP hD hS => ?_)
        obtain ⟨s7_34, es7_34, h⟩ := zL_spec h
        have hP : va_P (dC, dI) vwCl (cX7 a7 h7 y s7_34) H33 := by rw [es7_34]; exact hP
        have hD : va_D A (cX7 a7 h7 y s7_34) := by rw [es7_34]; exact hD
        refine lv_aload_n hx hb dX7_readDriver_104 rfl (lv_at hl 0 rfl) ?_
        refine va_get (D := (dC, dI)) (ci := 6) (v := .ref (h7 24)) (C := RX7) (T := TX7) (N := 49) hx hb hts inX7_ hown hK hP 0 rfl rfl 24 (by decide) (hts (.fieldLink RX7 62 "GateWheelModel" "dAsk" "[I") (List.mem_of_getElem? (i := 7) rfl)) (fun _ h9 => h9) rfl dX7_readDriver_105 ?_
        refine lv_aload_n hx hb dX7_readDriver_108 rfl (lv_at hl 0 rfl) ?_
        refine va_get (D := (dC, dI)) (ci := 6) (v := .int (gI s7_34 28)) (C := RX7) (T := TX7) (N := 49) hx hb hts inX7_ hown hK hP 0 rfl rfl 28 (by decide) (hts (.fieldLink RX7 217 "GateWheelModel" "drivers" "I") (List.mem_of_getElem? (i := 1) rfl)) (fun _ h9 => h9) rfl dX7_readDriver_109 ?_
        refine lv_aload_n hx hb dX7_readDriver_112 rfl (lv_at hl 0 rfl) ?_
        refine va_get (D := (dC, dI)) (ci := 6) (v := .int (gI s7_34 27)) (C := RX7) (T := TX7) (N := 49) hx hb hts inX7_ hown hK hP 0 rfl rfl 27 (by decide) (hts (.fieldLink RX7 198 "GateWheelModel" "asks" "I") (List.mem_of_getElem? (i := 4) rfl)) (fun _ h9 => h9) rfl dX7_readDriver_113 ?_
        obtain ⟨hi35, h⟩ := zG_spec h
        refine va_iast hx hb hK hP hD hS 16 0 rfl rfl hi35 dX7_readDriver_116 (fun H36 locs hP hD hS => ?_)
        obtain ⟨s7_37, es7_37, h⟩ := zL_spec h
        have hP : va_P (dC, dI) vwCl (cX7 a7 h7 y s7_37) H36 := by rw [es7_37]; exact hP
        have hD : va_D A (cX7 a7 h7 y s7_37) := by rw [es7_37]; exact hD
        refine lv_aload_n hx hb dX7_readDriver_117 rfl (lv_at hl 0 rfl) ?_
        refine lv_dup hx hb dX7_readDriver_118 rfl ?_
        refine va_get (D := (dC, dI)) (ci := 6) (v := .int (gI s7_37 27)) (C := RX7) (T := TX7) (N := 49) hx hb hts inX7_ hown hK hP 0 rfl rfl 27 (by decide) (hts (.fieldLink RX7 198 "GateWheelModel" "asks" "I") (List.mem_of_getElem? (i := 4) rfl)) (fun _ h9 => h9) rfl dX7_readDriver_119 ?_
        refine lv_iconst (v := 1) hx hb dX7_readDriver_122 (by decide) ?_
        refine lv_iadd hx hb dX7_readDriver_123 ?_
        refine va_put (D := (dC, dI)) (ci := 6) (v := .int ((gI s7_37 27) + (1 : Int32))) (ty := .int) (C := RX7) (T := TX7) (N := 49) hx hb hts inX7_ tyX7 tyX7_ok nmX7 hown hK hP hD hS 0 rfl rfl 27 (by decide) (hts (.fieldLink RX7 198 "GateWheelModel" "asks" "I") (List.mem_of_getElem? (i := 4) rfl)) (fun _ h9 => h9) rfl (by decide +kernel) rfl rfl (Nat.le_of_ble_eq_true rfl) dX7_readDriver_124 (fun H38 locs hP hD hS => ?_)
        obtain ⟨s7_39, es7_39, h⟩ := zL_spec h
        have hP : va_P (dC, dI) vwCl (cX7 a7 h7 y s7_39) H38 := by rw [es7_39]; exact hP
        have hD : va_D A (cX7 a7 h7 y s7_39) := by rw [es7_39]; exact hD
        refine lv_aload_n hx hb dX7_readDriver_127 rfl (lv_at hl 0 rfl) ?_
        obtain ⟨s7_40, hc41, h⟩ := zB_spec h
        have hFc := zFree hD hS hA
        refine va_callv (va_runV (As := []) (rest := []) ⟨hx, hb, hml, hown, hts⟩ (m_X7_next l dC dI y a7 h7 s7_39 H38.size s7_40 hc41) (cwV 0 hts gX7_readDriver_X7_next rfl rfl rfl (by decide +kernel) ⟨Nat.le_of_ble_eq_true rfl, Nat.le_of_ble_eq_true rfl⟩) ⟨fun a U g mk q => by obtain ⟨q0, q1, qP, qK, qD⟩ := q; exact ⟨q0, q1, qP, va_K.moved (u := U) (U := U.calling g mk a) (Vm.Alike.refl U.vm) qK, qD⟩, va_recv hK hP (ci := 6) (q0 := 0) rfl rfl, fun U hU hW => ⟨rfl, by rw [hU], by rw [hU]; exact hP, va_K.moved hW.alike hK, hD.weaken (fun _ _ _ _ => trivial)⟩⟩ rfl rfl hl.1 rfl (lv_room (Nat.le_of_ble_eq_true rfl)) dX7_readDriver_128 ⟨Nat.le_of_ble_eq_true rfl, Nat.le_of_ble_eq_true rfl⟩) hS (fun q _ h => hFc q h) hFc (fun u t H42 locs ht hvm hw hB hz1 hk1 hS => ?_)
        obtain ⟨hP1, hK1, hD1⟩ := hB
        rw [ht] at hP1
        have hP := hP1
        have hD := hD1.weaken (fun _ q _ h => hFc q.1 h)
        have hP : va_P (dC, dI) vwCl (cX7 a7 h7 y s7_40) H42 := hP
        have hD : va_D A (cX7 a7 h7 y s7_40) := hD
        refine lv_aload_n hx hb dX7_readDriver_131 rfl (lv_at hl 0 rfl) ?_
        refine lv_ldc2 hx hb hown (hts (.constantLong RX7 165 (6907441)) (List.mem_of_getElem? (i := 8) rfl)) dX7_readDriver_132 ?_
        obtain ⟨r44, hc45, h⟩ := zB_spec h
        have hFc := zFree hD hS hA
        refine va_calli (va_runV (As := [.long 6907441]) (rest := []) ⟨hx, hb, hml, hown, hts⟩ (m_X7_isWord l dC dI y a7 h7 s7_40 (6907441 : Int64) H42.size r44 hc45) (cwV 1 hts gX7_readDriver_X7_isWord rfl rfl rfl (by decide +kernel) ⟨Nat.le_of_ble_eq_true rfl, Nat.le_of_ble_eq_true rfl⟩) ⟨fun a U g mk q => by obtain ⟨q0, q1, qP, qK, qD⟩ := q; exact ⟨q0, q1, qP, va_K.moved (u := U) (U := U.calling g mk a) (Vm.Alike.refl U.vm) qK, qD⟩, va_recv hK hP (ci := 6) (q0 := 0) rfl rfl, fun U hU hW => ⟨rfl, by rw [hU], by rw [hU]; exact hP, va_K.moved hW.alike hK, hD.weaken (fun _ _ _ _ => trivial)⟩⟩ rfl rfl hl.1 rfl (lv_room (Nat.le_of_ble_eq_true rfl)) dX7_readDriver_135 ⟨Nat.le_of_ble_eq_true rfl, Nat.le_of_ble_eq_true rfl⟩) hS (fun q _ h => hFc q h) hFc (fun rr47 u t H46 locs ht hvm hw hB hz1 hk1 hS => ?_)
        obtain ⟨hP1, hK1, hD1⟩ := hB
        rw [ht] at hP1
        refine zTopi hw.symm ?_
        have hP := hP1
        have hD := hD1.weaken (fun _ q _ h => hFc q.1 h)
        have hP : va_P (dC, dI) vwCl (cX7 a7 h7 y s7_40) H46 := hP
        have hD : va_D A (cX7 a7 h7 y s7_40) := hD
        refine W_abs (fun GW48 eG49 => ?_)
        obtain ⟨ov51, hr52, h⟩ := zB_spec h
        have jn50 : ∀ (s7_54 : SS) (HGW48 : Heap) (locs : List Loc) (ls : Array Slot), s7_54 = ov51 → va_P (dC, dI) vwCl (cX7 a7 h7 y s7_54) HGW48 → va_D A (cX7 a7 h7 y s7_54) → va_S A s.heap HGW48 locs → lv_has ls 6 [(0, .ref a7)] → GW48 HGW48 locs 0 0 (F0 m 155 ls []) := by
          intro s7_54 HGW48 locs ls hv hP hD hS hl
          subst hv
          refine (eG49 _ _ _ _ _).mpr ?_
          refine lv_aload_n hx hb dX7_readDriver_155 rfl (lv_at hl 0 rfl) ?_
          obtain ⟨r55, hc56, h⟩ := zB_spec h
          have hFc := zFree hD hS hA
          refine va_calli (va_runV (As := []) (rest := []) ⟨hx, hb, hml, hown, hts⟩ (m_X7_isGood l dC dI y a7 h7 s7_54 HGW48.size r55 hc56) (cwV 0 hts gX7_readDriver_X7_isGood rfl rfl rfl (by decide +kernel) ⟨Nat.le_of_ble_eq_true rfl, Nat.le_of_ble_eq_true rfl⟩) ⟨fun a U g mk q => by obtain ⟨q0, q1, qP, qK, qD⟩ := q; exact ⟨q0, q1, qP, va_K.moved (u := U) (U := U.calling g mk a) (Vm.Alike.refl U.vm) qK, qD⟩, va_recv hK hP (ci := 6) (q0 := 0) rfl rfl, fun U hU hW => ⟨rfl, by rw [hU], by rw [hU]; exact hP, va_K.moved hW.alike hK, hD.weaken (fun _ _ _ _ => trivial)⟩⟩ rfl rfl hl.1 rfl (lv_room (Nat.le_of_ble_eq_true rfl)) dX7_readDriver_156 ⟨Nat.le_of_ble_eq_true rfl, Nat.le_of_ble_eq_true rfl⟩) hS (fun q _ h => hFc q h) hFc (fun rr58 u t H57 locs ht hvm hw hB hz1 hk1 hS => ?_)
          obtain ⟨hP1, hK1, hD1⟩ := hB
          rw [ht] at hP1
          refine zTopi hw.symm ?_
          have hP := hP1
          have hD := hD1.weaken (fun _ q _ h => hFc q.1 h)
          have hP : va_P (dC, dI) vwCl (cX7 a7 h7 y s7_54) H57 := hP
          have hD : va_D A (cX7 a7 h7 y s7_54) := hD
          refine lv_if_ne (tgt := 163) hx hb dX7_readDriver_159 (by decide) (fun c59 => ?_) (fun c59 => ?_)
          · have h := zN c59 h
            refine lv_aload_n hx hb dX7_readDriver_163 rfl (lv_at hl 0 rfl) ?_
            refine va_get (D := (dC, dI)) (ci := 6) (v := .ref (h7 25)) (C := RX7) (T := TX7) (N := 49) hx hb hts inX7_ hown hK hP 0 rfl rfl 25 (by decide) (hts (.fieldLink RX7 65 "GateWheelModel" "dIf1" "[Z") (List.mem_of_getElem? (i := 10) rfl)) (fun _ h9 => h9) rfl dX7_readDriver_164 ?_
            refine lv_aload_n hx hb dX7_readDriver_167 rfl (lv_at hl 0 rfl) ?_
            refine va_get (D := (dC, dI)) (ci := 6) (v := .int (gI s7_54 28)) (C := RX7) (T := TX7) (N := 49) hx hb hts inX7_ hown hK hP 0 rfl rfl 28 (by decide) (hts (.fieldLink RX7 217 "GateWheelModel" "drivers" "I") (List.mem_of_getElem? (i := 1) rfl)) (fun _ h9 => h9) rfl dX7_readDriver_168 ?_
            refine lv_aload_n hx hb dX7_readDriver_171 rfl (lv_at hl 0 rfl) ?_
            refine lv_ldc2 hx hb hown (hts (.constantLong RX7 165 (6907441)) (List.mem_of_getElem? (i := 8) rfl)) dX7_readDriver_172 ?_
            obtain ⟨r60, hc61, h⟩ := zB_spec h
            have hFc := zFree hD hS hA
            refine va_calli (va_runV (As := [.long 6907441]) (rest := [.int (gI s7_54 28), .ref (h7 25)]) ⟨hx, hb, hml, hown, hts⟩ (m_X7_isWord l dC dI y a7 h7 s7_54 (6907441 : Int64) H57.size r60 hc61) (cwV 1 hts gX7_readDriver_X7_isWord rfl rfl rfl (by decide +kernel) ⟨Nat.le_of_ble_eq_true rfl, Nat.le_of_ble_eq_true rfl⟩) ⟨fun a U g mk q => by obtain ⟨q0, q1, qP, qK, qD⟩ := q; exact ⟨q0, q1, qP, va_K.moved (u := U) (U := U.calling g mk a) (Vm.Alike.refl U.vm) qK, qD⟩, va_recv hK hP (ci := 6) (q0 := 0) rfl rfl, fun U hU hW => ⟨rfl, by rw [hU], by rw [hU]; exact hP, va_K.moved hW.alike hK, hD.weaken (fun _ _ _ _ => trivial)⟩⟩ rfl rfl hl.1 rfl (lv_room (Nat.le_of_ble_eq_true rfl)) dX7_readDriver_175 ⟨Nat.le_of_ble_eq_true rfl, Nat.le_of_ble_eq_true rfl⟩) hS (fun q _ h => hFc q h) hFc (fun rr63 u t H62 locs ht hvm hw hB hz1 hk1 hS => ?_)
            obtain ⟨hP1, hK1, hD1⟩ := hB
            rw [ht] at hP1
            refine zTopi hw.symm ?_
            have hP := hP1
            have hD := hD1.weaken (fun _ q _ h => hFc q.1 h)
            have hP : va_P (dC, dI) vwCl (cX7 a7 h7 y s7_54) H62 := hP
            have hD : va_D A (cX7 a7 h7 y s7_54) := hD
            obtain ⟨hi64, h⟩ := zG_spec h
            refine va_zast hx hb hK hP hD hS 17 3 rfl rfl hi64 dX7_readDriver_178 (fun H65 locs hP hD hS => ?_)
            obtain ⟨s7_66, es7_66, h⟩ := zL_spec h
            have hP : va_P (dC, dI) vwCl (cX7 a7 h7 y s7_66) H65 := by rw [es7_66]; exact hP
            have hD : va_D A (cX7 a7 h7 y s7_66) := by rw [es7_66]; exact hD
            refine lv_aload_n hx hb dX7_readDriver_179 rfl (lv_at hl 0 rfl) ?_
            refine lv_dup hx hb dX7_readDriver_180 rfl ?_
            refine va_get (D := (dC, dI)) (ci := 6) (v := .int (gI s7_66 28)) (C := RX7) (T := TX7) (N := 49) hx hb hts inX7_ hown hK hP 0 rfl rfl 28 (by decide) (hts (.fieldLink RX7 217 "GateWheelModel" "drivers" "I") (List.mem_of_getElem? (i := 1) rfl)) (fun _ h9 => h9) rfl dX7_readDriver_181 ?_
            refine lv_iconst (v := 1) hx hb dX7_readDriver_184 (by decide) ?_
            refine lv_iadd hx hb dX7_readDriver_185 ?_
            refine va_put (D := (dC, dI)) (ci := 6) (v := .int ((gI s7_66 28) + (1 : Int32))) (ty := .int) (C := RX7) (T := TX7) (N := 49) hx hb hts inX7_ tyX7 tyX7_ok nmX7 hown hK hP hD hS 0 rfl rfl 28 (by decide) (hts (.fieldLink RX7 217 "GateWheelModel" "drivers" "I") (List.mem_of_getElem? (i := 1) rfl)) (fun _ h9 => h9) rfl (by decide +kernel) rfl rfl (Nat.le_of_ble_eq_true rfl) dX7_readDriver_186 (fun H67 locs hP hD hS => ?_)
            obtain ⟨s7_68, es7_68, h⟩ := zL_spec h
            have hP : va_P (dC, dI) vwCl (cX7 a7 h7 y s7_68) H67 := by rw [es7_68]; exact hP
            have hD : va_D A (cX7 a7 h7 y s7_68) := by rw [es7_68]; exact hD
            refine lv_aload_n hx hb dX7_readDriver_189 rfl (lv_at hl 0 rfl) ?_
            obtain ⟨s7_69, hc70, h⟩ := zB_spec h
            have hFc := zFree hD hS hA
            refine va_callv (va_runV (As := []) (rest := []) ⟨hx, hb, hml, hown, hts⟩ (m_X7_next l dC dI y a7 h7 s7_68 H67.size s7_69 hc70) (cwV 0 hts gX7_readDriver_X7_next rfl rfl rfl (by decide +kernel) ⟨Nat.le_of_ble_eq_true rfl, Nat.le_of_ble_eq_true rfl⟩) ⟨fun a U g mk q => by obtain ⟨q0, q1, qP, qK, qD⟩ := q; exact ⟨q0, q1, qP, va_K.moved (u := U) (U := U.calling g mk a) (Vm.Alike.refl U.vm) qK, qD⟩, va_recv hK hP (ci := 6) (q0 := 0) rfl rfl, fun U hU hW => ⟨rfl, by rw [hU], by rw [hU]; exact hP, va_K.moved hW.alike hK, hD.weaken (fun _ _ _ _ => trivial)⟩⟩ rfl rfl hl.1 rfl (lv_room (Nat.le_of_ble_eq_true rfl)) dX7_readDriver_190 ⟨Nat.le_of_ble_eq_true rfl, Nat.le_of_ble_eq_true rfl⟩) hS (fun q _ h => hFc q h) hFc (fun u t H71 locs ht hvm hw hB hz1 hk1 hS => ?_)
            obtain ⟨hP1, hK1, hD1⟩ := hB
            rw [ht] at hP1
            have hP := hP1
            have hD := hD1.weaken (fun _ q _ h => hFc q.1 h)
            have hP : va_P (dC, dI) vwCl (cX7 a7 h7 y s7_69) H71 := hP
            have hD : va_D A (cX7 a7 h7 y s7_69) := hD
            refine lv_aload_n hx hb dX7_readDriver_193 rfl (lv_at hl 0 rfl) ?_
            refine lv_bipush (v := 40) hx hb dX7_readDriver_194 (by decide) ?_
            obtain ⟨s7_73, hc74, h⟩ := zB_spec h
            have hFc := zFree hD hS hA
            refine va_callv (va_runV (As := [.int 40]) (rest := []) ⟨hx, hb, hml, hown, hts⟩ (m_X7_must l dC dI y a7 h7 s7_69 (40 : Int32) H71.size s7_73 hc74) (cwV 1 hts gX7_readDriver_X7_must rfl rfl rfl (by decide +kernel) ⟨Nat.le_of_ble_eq_true rfl, Nat.le_of_ble_eq_true rfl⟩) ⟨fun a U g mk q => by obtain ⟨q0, q1, qP, qK, qD⟩ := q; exact ⟨q0, q1, qP, va_K.moved (u := U) (U := U.calling g mk a) (Vm.Alike.refl U.vm) qK, qD⟩, va_recv hK hP (ci := 6) (q0 := 0) rfl rfl, fun U hU hW => ⟨rfl, by rw [hU], by rw [hU]; exact hP, va_K.moved hW.alike hK, hD.weaken (fun _ _ _ _ => trivial)⟩⟩ rfl rfl hl.1 rfl (lv_room (Nat.le_of_ble_eq_true rfl)) dX7_readDriver_196 ⟨Nat.le_of_ble_eq_true rfl, Nat.le_of_ble_eq_true rfl⟩) hS (fun q _ h => hFc q h) hFc (fun u t H75 locs ht hvm hw hB hz1 hk1 hS => ?_)
            obtain ⟨hP1, hK1, hD1⟩ := hB
            rw [ht] at hP1
            have hP := hP1
            have hD := hD1.weaken (fun _ q _ h => hFc q.1 h)
            have hP : va_P (dC, dI) vwCl (cX7 a7 h7 y s7_73) H75 := hP
            have hD : va_D A (cX7 a7 h7 y s7_73) := hD
            refine lv_aload_n hx hb dX7_readDriver_199 rfl (lv_at hl 0 rfl) ?_
            obtain ⟨r77, hc78, h⟩ := zB_spec h
            have hFc := zFree hD hS hA
            refine va_calli (va_runV (As := []) (rest := []) ⟨hx, hb, hml, hown, hts⟩ (m_X7_isGood l dC dI y a7 h7 s7_73 H75.size r77 hc78) (cwV 0 hts gX7_readDriver_X7_isGood rfl rfl rfl (by decide +kernel) ⟨Nat.le_of_ble_eq_true rfl, Nat.le_of_ble_eq_true rfl⟩) ⟨fun a U g mk q => by obtain ⟨q0, q1, qP, qK, qD⟩ := q; exact ⟨q0, q1, qP, va_K.moved (u := U) (U := U.calling g mk a) (Vm.Alike.refl U.vm) qK, qD⟩, va_recv hK hP (ci := 6) (q0 := 0) rfl rfl, fun U hU hW => ⟨rfl, by rw [hU], by rw [hU]; exact hP, va_K.moved hW.alike hK, hD.weaken (fun _ _ _ _ => trivial)⟩⟩ rfl rfl hl.1 rfl (lv_room (Nat.le_of_ble_eq_true rfl)) dX7_readDriver_200 ⟨Nat.le_of_ble_eq_true rfl, Nat.le_of_ble_eq_true rfl⟩) hS (fun q _ h => hFc q h) hFc (fun rr80 u t H79 locs ht hvm hw hB hz1 hk1 hS => ?_)
            obtain ⟨hP1, hK1, hD1⟩ := hB
            rw [ht] at hP1
            refine zTopi hw.symm ?_
            have hP := hP1
            have hD := hD1.weaken (fun _ q _ h => hFc q.1 h)
            have hP : va_P (dC, dI) vwCl (cX7 a7 h7 y s7_73) H79 := hP
            have hD : va_D A (cX7 a7 h7 y s7_73) := hD
            refine W_abs (fun GW81 eG82 => ?_)
            obtain ⟨ov84, hr85, h⟩ := zB_spec h
            have jn83 : ∀ (s7_87 : SS) (HGW81 : Heap) (locs : List Loc) (ls : Array Slot), s7_87 = ov84 → va_P (dC, dI) vwCl (cX7 a7 h7 y s7_87) HGW81 → va_D A (cX7 a7 h7 y s7_87) → va_S A s.heap HGW81 locs → lv_has ls 6 [(0, .ref a7)] → GW81 HGW81 locs 0 0 (F0 m 211 ls []) := by
              intro s7_87 HGW81 locs ls hv hP hD hS hl
              subst hv
              refine (eG82 _ _ _ _ _).mpr ?_
              refine lv_aload_n hx hb dX7_readDriver_211 rfl (lv_at hl 0 rfl) ?_
              obtain ⟨r88, hc89, h⟩ := zB_spec h
              have hFc := zFree hD hS hA
              refine va_calli (va_runV (As := []) (rest := []) ⟨hx, hb, hml, hown, hts⟩ (m_X7_isGood l dC dI y a7 h7 s7_87 HGW81.size r88 hc89) (cwV 0 hts gX7_readDriver_X7_isGood rfl rfl rfl (by decide +kernel) ⟨Nat.le_of_ble_eq_true rfl, Nat.le_of_ble_eq_true rfl⟩) ⟨fun a U g mk q => by obtain ⟨q0, q1, qP, qK, qD⟩ := q; exact ⟨q0, q1, qP, va_K.moved (u := U) (U := U.calling g mk a) (Vm.Alike.refl U.vm) qK, qD⟩, va_recv hK hP (ci := 6) (q0 := 0) rfl rfl, fun U hU hW => ⟨rfl, by rw [hU], by rw [hU]; exact hP, va_K.moved hW.alike hK, hD.weaken (fun _ _ _ _ => trivial)⟩⟩ rfl rfl hl.1 rfl (lv_room (Nat.le_of_ble_eq_true rfl)) dX7_readDriver_212 ⟨Nat.le_of_ble_eq_true rfl, Nat.le_of_ble_eq_true rfl⟩) hS (fun q _ h => hFc q h) hFc (fun rr91 u t H90 locs ht hvm hw hB hz1 hk1 hS => ?_)
              obtain ⟨hP1, hK1, hD1⟩ := hB
              rw [ht] at hP1
              refine zTopi hw.symm ?_
              have hP := hP1
              have hD := hD1.weaken (fun _ q _ h => hFc q.1 h)
              have hP : va_P (dC, dI) vwCl (cX7 a7 h7 y s7_87) H90 := hP
              have hD : va_D A (cX7 a7 h7 y s7_87) := hD
              refine W_abs (fun GW92 eG93 => ?_)
              obtain ⟨ov95, hr96, h⟩ := zB_spec h
              have jn94 : ∀ (s7_98 : SS) (HGW92 : Heap) (locs : List Loc) (ls : Array Slot), s7_98 = ov95 → va_P (dC, dI) vwCl (cX7 a7 h7 y s7_98) HGW92 → va_D A (cX7 a7 h7 y s7_98) → va_S A s.heap HGW92 locs → lv_has ls 6 [(0, .ref a7)] → GW92 HGW92 locs 0 0 (F0 m 224 ls []) := by
                intro s7_98 HGW92 locs ls hv hP hD hS hl
                subst hv
                refine (eG93 _ _ _ _ _).mpr ?_
                refine lv_aload_n hx hb dX7_readDriver_224 rfl (lv_at hl 0 rfl) ?_
                obtain ⟨r99, hc100, h⟩ := zB_spec h
                have hFc := zFree hD hS hA
                refine va_calli (va_runV (As := []) (rest := []) ⟨hx, hb, hml, hown, hts⟩ (m_X7_isGood l dC dI y a7 h7 s7_98 HGW92.size r99 hc100) (cwV 0 hts gX7_readDriver_X7_isGood rfl rfl rfl (by decide +kernel) ⟨Nat.le_of_ble_eq_true rfl, Nat.le_of_ble_eq_true rfl⟩) ⟨fun a U g mk q => by obtain ⟨q0, q1, qP, qK, qD⟩ := q; exact ⟨q0, q1, qP, va_K.moved (u := U) (U := U.calling g mk a) (Vm.Alike.refl U.vm) qK, qD⟩, va_recv hK hP (ci := 6) (q0 := 0) rfl rfl, fun U hU hW => ⟨rfl, by rw [hU], by rw [hU]; exact hP, va_K.moved hW.alike hK, hD.weaken (fun _ _ _ _ => trivial)⟩⟩ rfl rfl hl.1 rfl (lv_room (Nat.le_of_ble_eq_true rfl)) dX7_readDriver_225 ⟨Nat.le_of_ble_eq_true rfl, Nat.le_of_ble_eq_true rfl⟩) hS (fun q _ h => hFc q h) hFc (fun rr102 u t H101 locs ht hvm hw hB hz1 hk1 hS => ?_)
                obtain ⟨hP1, hK1, hD1⟩ := hB
                rw [ht] at hP1
                refine zTopi hw.symm ?_
                have hP := hP1
                have hD := hD1.weaken (fun _ q _ h => hFc q.1 h)
                have hP : va_P (dC, dI) vwCl (cX7 a7 h7 y s7_98) H101 := hP
                have hD : va_D A (cX7 a7 h7 y s7_98) := hD
                refine W_abs (fun GW103 eG104 => ?_)
                obtain ⟨ov106, hr107, h⟩ := zB_spec h
                have jn105 : ∀ (s7_109 : SS) (HGW103 : Heap) (locs : List Loc) (ls : Array Slot), s7_109 = ov106 → va_P (dC, dI) vwCl (cX7 a7 h7 y s7_109) HGW103 → va_D A (cX7 a7 h7 y s7_109) → va_S A s.heap HGW103 locs → lv_has ls 6 [(0, .ref a7)] → GW103 HGW103 locs 0 0 (F0 m 236 ls []) := by
                  intro s7_109 HGW103 locs ls hv hP hD hS hl
                  subst hv
                  refine (eG104 _ _ _ _ _).mpr ?_
                  refine lv_aload_n hx hb dX7_readDriver_236 rfl (lv_at hl 0 rfl) ?_
                  obtain ⟨r110, hc111, h⟩ := zB_spec h
                  have hFc := zFree hD hS hA
                  refine va_calli (va_runV (As := []) (rest := []) ⟨hx, hb, hml, hown, hts⟩ (m_X7_isGood l dC dI y a7 h7 s7_109 HGW103.size r110 hc111) (cwV 0 hts gX7_readDriver_X7_isGood rfl rfl rfl (by decide +kernel) ⟨Nat.le_of_ble_eq_true rfl, Nat.le_of_ble_eq_true rfl⟩) ⟨fun a U g mk q => by obtain ⟨q0, q1, qP, qK, qD⟩ := q; exact ⟨q0, q1, qP, va_K.moved (u := U) (U := U.calling g mk a) (Vm.Alike.refl U.vm) qK, qD⟩, va_recv hK hP (ci := 6) (q0 := 0) rfl rfl, fun U hU hW => ⟨rfl, by rw [hU], by rw [hU]; exact hP, va_K.moved hW.alike hK, hD.weaken (fun _ _ _ _ => trivial)⟩⟩ rfl rfl hl.1 rfl (lv_room (Nat.le_of_ble_eq_true rfl)) dX7_readDriver_237 ⟨Nat.le_of_ble_eq_true rfl, Nat.le_of_ble_eq_true rfl⟩) hS (fun q _ h => hFc q h) hFc (fun rr113 u t H112 locs ht hvm hw hB hz1 hk1 hS => ?_)
                  obtain ⟨hP1, hK1, hD1⟩ := hB
                  rw [ht] at hP1
                  refine zTopi hw.symm ?_
                  have hP := hP1
                  have hD := hD1.weaken (fun _ q _ h => hFc q.1 h)
                  have hP : va_P (dC, dI) vwCl (cX7 a7 h7 y s7_109) H112 := hP
                  have hD : va_D A (cX7 a7 h7 y s7_109) := hD
                  refine W_abs (fun GW114 eG115 => ?_)
                  obtain ⟨ov117, hr118, h⟩ := zB_spec h
                  have jn116 : ∀ (s7_120 : SS) (HGW114 : Heap) (locs : List Loc) (ls : Array Slot), s7_120 = ov117 → va_P (dC, dI) vwCl (cX7 a7 h7 y s7_120) HGW114 → va_D A (cX7 a7 h7 y s7_120) → va_S A s.heap HGW114 locs → lv_has ls 6 [(0, .ref a7)] → GW114 HGW114 locs 0 0 (F0 m 249 ls []) := by
                    intro s7_120 HGW114 locs ls hv hP hD hS hl
                    subst hv
                    refine (eG115 _ _ _ _ _).mpr ?_
                    refine lv_aload_n hx hb dX7_readDriver_249 rfl (lv_at hl 0 rfl) ?_
                    obtain ⟨r121, hc122, h⟩ := zB_spec h
                    have hFc := zFree hD hS hA
                    refine va_calli (va_runV (As := []) (rest := []) ⟨hx, hb, hml, hown, hts⟩ (m_X7_isGood l dC dI y a7 h7 s7_120 HGW114.size r121 hc122) (cwV 0 hts gX7_readDriver_X7_isGood rfl rfl rfl (by decide +kernel) ⟨Nat.le_of_ble_eq_true rfl, Nat.le_of_ble_eq_true rfl⟩) ⟨fun a U g mk q => by obtain ⟨q0, q1, qP, qK, qD⟩ := q; exact ⟨q0, q1, qP, va_K.moved (u := U) (U := U.calling g mk a) (Vm.Alike.refl U.vm) qK, qD⟩, va_recv hK hP (ci := 6) (q0 := 0) rfl rfl, fun U hU hW => ⟨rfl, by rw [hU], by rw [hU]; exact hP, va_K.moved hW.alike hK, hD.weaken (fun _ _ _ _ => trivial)⟩⟩ rfl rfl hl.1 rfl (lv_room (Nat.le_of_ble_eq_true rfl)) dX7_readDriver_250 ⟨Nat.le_of_ble_eq_true rfl, Nat.le_of_ble_eq_true rfl⟩) hS (fun q _ h => hFc q h) hFc (fun rr124 u t H123 locs ht hvm hw hB hz1 hk1 hS => ?_)
                    obtain ⟨hP1, hK1, hD1⟩ := hB
                    rw [ht] at hP1
                    refine zTopi hw.symm ?_
                    have hP := hP1
                    have hD := hD1.weaken (fun _ q _ h => hFc q.1 h)
                    have hP : va_P (dC, dI) vwCl (cX7 a7 h7 y s7_120) H123 := hP
                    have hD : va_D A (cX7 a7 h7 y s7_120) := hD
                    refine lv_if_eq (tgt := 262) hx hb dX7_readDriver_253 (by decide) (fun c125 => ?_) (fun c125 => ?_)
                    · have h := zY c125 h
                      have ho0 : s7_120 = o_7 := congrArg (fun z : SS => z) (Option.some.inj h)
                      exact W.vret hx hb hr (fun t ht hW => ⟨⟨(), rfl, trivial, by rw [ht]; rw [← ho0]; exact hP, va_K.moved hW.alike hK, by rw [← ho0]; exact hD⟩, hS.F ht⟩) hS.2.2 dX7_readDriver_262
                    · have h := zN c125 h
                      refine lv_aload_n hx hb dX7_readDriver_256 rfl (lv_at hl 0 rfl) ?_
                      refine lv_bipush (v := 59) hx hb dX7_readDriver_257 (by decide) ?_
                      obtain ⟨s7_126, hc127, h⟩ := zB_spec h
                      have hFc := zFree hD hS hA
                      refine va_callv (va_runV (As := [.int 59]) (rest := []) ⟨hx, hb, hml, hown, hts⟩ (m_X7_must l dC dI y a7 h7 s7_120 (59 : Int32) H123.size s7_126 hc127) (cwV 1 hts gX7_readDriver_X7_must rfl rfl rfl (by decide +kernel) ⟨Nat.le_of_ble_eq_true rfl, Nat.le_of_ble_eq_true rfl⟩) ⟨fun a U g mk q => by obtain ⟨q0, q1, qP, qK, qD⟩ := q; exact ⟨q0, q1, qP, va_K.moved (u := U) (U := U.calling g mk a) (Vm.Alike.refl U.vm) qK, qD⟩, va_recv hK hP (ci := 6) (q0 := 0) rfl rfl, fun U hU hW => ⟨rfl, by rw [hU], by rw [hU]; exact hP, va_K.moved hW.alike hK, hD.weaken (fun _ _ _ _ => trivial)⟩⟩ rfl rfl hl.1 rfl (lv_room (Nat.le_of_ble_eq_true rfl)) dX7_readDriver_259 ⟨Nat.le_of_ble_eq_true rfl, Nat.le_of_ble_eq_true rfl⟩) hS (fun q _ h => hFc q h) hFc (fun u t H128 locs ht hvm hw hB hz1 hk1 hS => ?_)
                      obtain ⟨hP1, hK1, hD1⟩ := hB
                      rw [ht] at hP1
                      have hP := hP1
                      have hD := hD1.weaken (fun _ q _ h => hFc q.1 h)
                      have hP : va_P (dC, dI) vwCl (cX7 a7 h7 y s7_126) H128 := hP
                      have hD : va_D A (cX7 a7 h7 y s7_126) := hD
                      have ho0 : s7_126 = o_7 := congrArg (fun z : SS => z) (Option.some.inj h)
                      exact W.vret hx hb hr (fun t ht hW => ⟨⟨(), rfl, trivial, by rw [ht]; rw [← ho0]; exact hP, va_K.moved hW.alike hK, by rw [← ho0]; exact hD⟩, hS.F ht⟩) hS.2.2 dX7_readDriver_262
                  refine (eG115 _ _ _ _ _).mpr ?_
                  have h := hr118
                  refine lv_if_eq (tgt := 249) hx hb dX7_readDriver_240 (by decide) (fun c130 => ?_) (fun c130 => ?_)
                  · have h := zY c130 h
                    exact (eG115 _ _ _ _ _).mp (jn116 s7_109 _ _ _ (Option.some.inj h) hP hD hS (lv_sub hl [0] rfl))
                  · have h := zN c130 h
                    refine lv_aload_n hx hb dX7_readDriver_243 rfl (lv_at hl 0 rfl) ?_
                    refine lv_bipush (v := 41) hx hb dX7_readDriver_244 (by decide) ?_
                    obtain ⟨s7_131, hc132, h⟩ := zB_spec h
                    have hFc := zFree hD hS hA
                    refine va_callv (va_runV (As := [.int 41]) (rest := []) ⟨hx, hb, hml, hown, hts⟩ (m_X7_must l dC dI y a7 h7 s7_109 (41 : Int32) H112.size s7_131 hc132) (cwV 1 hts gX7_readDriver_X7_must rfl rfl rfl (by decide +kernel) ⟨Nat.le_of_ble_eq_true rfl, Nat.le_of_ble_eq_true rfl⟩) ⟨fun a U g mk q => by obtain ⟨q0, q1, qP, qK, qD⟩ := q; exact ⟨q0, q1, qP, va_K.moved (u := U) (U := U.calling g mk a) (Vm.Alike.refl U.vm) qK, qD⟩, va_recv hK hP (ci := 6) (q0 := 0) rfl rfl, fun U hU hW => ⟨rfl, by rw [hU], by rw [hU]; exact hP, va_K.moved hW.alike hK, hD.weaken (fun _ _ _ _ => trivial)⟩⟩ rfl rfl hl.1 rfl (lv_room (Nat.le_of_ble_eq_true rfl)) dX7_readDriver_246 ⟨Nat.le_of_ble_eq_true rfl, Nat.le_of_ble_eq_true rfl⟩) hS (fun q _ h => hFc q h) hFc (fun u t H133 locs ht hvm hw hB hz1 hk1 hS => ?_)
                    obtain ⟨hP1, hK1, hD1⟩ := hB
                    rw [ht] at hP1
                    have hP := hP1
                    have hD := hD1.weaken (fun _ q _ h => hFc q.1 h)
                    have hP : va_P (dC, dI) vwCl (cX7 a7 h7 y s7_131) H133 := hP
                    have hD : va_D A (cX7 a7 h7 y s7_131) := hD
                    exact (eG115 _ _ _ _ _).mp (jn116 s7_131 _ _ _ (Option.some.inj h) hP hD hS (lv_sub hl [0] rfl))
                refine (eG104 _ _ _ _ _).mpr ?_
                have h := hr107
                refine lv_if_eq (tgt := 236) hx hb dX7_readDriver_228 (by decide) (fun c135 => ?_) (fun c135 => ?_)
                · have h := zY c135 h
                  exact (eG104 _ _ _ _ _).mp (jn105 s7_98 _ _ _ (Option.some.inj h) hP hD hS (lv_sub hl [0] rfl))
                · have h := zN c135 h
                  refine lv_aload_n hx hb dX7_readDriver_231 rfl (lv_at hl 0 rfl) ?_
                  refine lv_iconst (v := 0) hx hb dX7_readDriver_232 (by decide) ?_
                  obtain ⟨s7_136, hc137, h⟩ := zB_spec h
                  have hFc := zFree hD hS hA
                  refine va_callv (va_runV (As := [.int 0]) (rest := []) ⟨hx, hb, hml, hown, hts⟩ (m_X7_ask l dC dI y a7 h7 s7_98 (0 : Int32) H101.size s7_136 hc137) (cwV 1 hts gX7_readDriver_X7_ask rfl rfl rfl (by decide +kernel) ⟨Nat.le_of_ble_eq_true rfl, Nat.le_of_ble_eq_true rfl⟩) ⟨fun a U g mk q => by obtain ⟨q0, q1, qP, qK, qD⟩ := q; exact ⟨q0, q1, qP, va_K.moved (u := U) (U := U.calling g mk a) (Vm.Alike.refl U.vm) qK, qD⟩, va_recv hK hP (ci := 6) (q0 := 0) rfl rfl, fun U hU hW => ⟨rfl, by rw [hU], by rw [hU]; exact hP, va_K.moved hW.alike hK, hD.weaken (fun _ _ _ _ => trivial)⟩⟩ rfl rfl hl.1 rfl (lv_room (Nat.le_of_ble_eq_true rfl)) dX7_readDriver_233 ⟨Nat.le_of_ble_eq_true rfl, Nat.le_of_ble_eq_true rfl⟩) hS (fun q _ h => hFc q h) hFc (fun u t H138 locs ht hvm hw hB hz1 hk1 hS => ?_)
                  obtain ⟨hP1, hK1, hD1⟩ := hB
                  rw [ht] at hP1
                  have hP := hP1
                  have hD := hD1.weaken (fun _ q _ h => hFc q.1 h)
                  have hP : va_P (dC, dI) vwCl (cX7 a7 h7 y s7_136) H138 := hP
                  have hD : va_D A (cX7 a7 h7 y s7_136) := hD
                  exact (eG104 _ _ _ _ _).mp (jn105 s7_136 _ _ _ (Option.some.inj h) hP hD hS (lv_sub hl [0] rfl))
              refine (eG93 _ _ _ _ _).mpr ?_
              have h := hr96
              refine lv_if_eq (tgt := 224) hx hb dX7_readDriver_215 (by decide) (fun c140 => ?_) (fun c140 => ?_)
              · have h := zY c140 h
                exact (eG93 _ _ _ _ _).mp (jn94 s7_87 _ _ _ (Option.some.inj h) hP hD hS (lv_sub hl [0] rfl))
              · have h := zN c140 h
                refine lv_aload_n hx hb dX7_readDriver_218 rfl (lv_at hl 0 rfl) ?_
                refine lv_bipush (v := 44) hx hb dX7_readDriver_219 (by decide) ?_
                obtain ⟨s7_141, hc142, h⟩ := zB_spec h
                have hFc := zFree hD hS hA
                refine va_callv (va_runV (As := [.int 44]) (rest := []) ⟨hx, hb, hml, hown, hts⟩ (m_X7_must l dC dI y a7 h7 s7_87 (44 : Int32) H90.size s7_141 hc142) (cwV 1 hts gX7_readDriver_X7_must rfl rfl rfl (by decide +kernel) ⟨Nat.le_of_ble_eq_true rfl, Nat.le_of_ble_eq_true rfl⟩) ⟨fun a U g mk q => by obtain ⟨q0, q1, qP, qK, qD⟩ := q; exact ⟨q0, q1, qP, va_K.moved (u := U) (U := U.calling g mk a) (Vm.Alike.refl U.vm) qK, qD⟩, va_recv hK hP (ci := 6) (q0 := 0) rfl rfl, fun U hU hW => ⟨rfl, by rw [hU], by rw [hU]; exact hP, va_K.moved hW.alike hK, hD.weaken (fun _ _ _ _ => trivial)⟩⟩ rfl rfl hl.1 rfl (lv_room (Nat.le_of_ble_eq_true rfl)) dX7_readDriver_221 ⟨Nat.le_of_ble_eq_true rfl, Nat.le_of_ble_eq_true rfl⟩) hS (fun q _ h => hFc q h) hFc (fun u t H143 locs ht hvm hw hB hz1 hk1 hS => ?_)
                obtain ⟨hP1, hK1, hD1⟩ := hB
                rw [ht] at hP1
                have hP := hP1
                have hD := hD1.weaken (fun _ q _ h => hFc q.1 h)
                have hP : va_P (dC, dI) vwCl (cX7 a7 h7 y s7_141) H143 := hP
                have hD : va_D A (cX7 a7 h7 y s7_141) := hD
                exact (eG93 _ _ _ _ _).mp (jn94 s7_141 _ _ _ (Option.some.inj h) hP hD hS (lv_sub hl [0] rfl))
            refine (eG82 _ _ _ _ _).mpr ?_
            have h := hr85
            refine lv_if_eq (tgt := 211) hx hb dX7_readDriver_203 (by decide) (fun c145 => ?_) (fun c145 => ?_)
            · have h := zY c145 h
              exact (eG82 _ _ _ _ _).mp (jn83 s7_73 _ _ _ (Option.some.inj h) hP hD hS (lv_sub hl [0] rfl))
            · have h := zN c145 h
              refine lv_aload_n hx hb dX7_readDriver_206 rfl (lv_at hl 0 rfl) ?_
              refine lv_iconst (v := 0) hx hb dX7_readDriver_207 (by decide) ?_
              obtain ⟨s7_146, hc147, h⟩ := zB_spec h
              have hFc := zFree hD hS hA
              refine va_callv (va_runV (As := [.int 0]) (rest := []) ⟨hx, hb, hml, hown, hts⟩ (m_X7_ask l dC dI y a7 h7 s7_73 (0 : Int32) H79.size s7_146 hc147) (cwV 1 hts gX7_readDriver_X7_ask rfl rfl rfl (by decide +kernel) ⟨Nat.le_of_ble_eq_true rfl, Nat.le_of_ble_eq_true rfl⟩) ⟨fun a U g mk q => by obtain ⟨q0, q1, qP, qK, qD⟩ := q; exact ⟨q0, q1, qP, va_K.moved (u := U) (U := U.calling g mk a) (Vm.Alike.refl U.vm) qK, qD⟩, va_recv hK hP (ci := 6) (q0 := 0) rfl rfl, fun U hU hW => ⟨rfl, by rw [hU], by rw [hU]; exact hP, va_K.moved hW.alike hK, hD.weaken (fun _ _ _ _ => trivial)⟩⟩ rfl rfl hl.1 rfl (lv_room (Nat.le_of_ble_eq_true rfl)) dX7_readDriver_208 ⟨Nat.le_of_ble_eq_true rfl, Nat.le_of_ble_eq_true rfl⟩) hS (fun q _ h => hFc q h) hFc (fun u t H148 locs ht hvm hw hB hz1 hk1 hS => ?_)
              obtain ⟨hP1, hK1, hD1⟩ := hB
              rw [ht] at hP1
              have hP := hP1
              have hD := hD1.weaken (fun _ q _ h => hFc q.1 h)
              have hP : va_P (dC, dI) vwCl (cX7 a7 h7 y s7_146) H148 := hP
              have hD : va_D A (cX7 a7 h7 y s7_146) := hD
              exact (eG82 _ _ _ _ _).mp (jn83 s7_146 _ _ _ (Option.some.inj h) hP hD hS (lv_sub hl [0] rfl))
          · have h := zY c59 h
            have ho0 : s7_54 = o_7 := congrArg (fun z : SS => z) (Option.some.inj h)
            exact W.vret hx hb hr (fun t ht hW => ⟨⟨(), rfl, trivial, by rw [ht]; rw [← ho0]; exact hP, va_K.moved hW.alike hK, by rw [← ho0]; exact hD⟩, hS.F ht⟩) hS.2.2 dX7_readDriver_162
        refine (eG49 _ _ _ _ _).mpr ?_
        have h := hr52
        refine lv_if_ne (tgt := 155) hx hb dX7_readDriver_138 (by decide) (fun c150 => ?_) (fun c150 => ?_)
        · have h := zN c150 h
          exact (eG49 _ _ _ _ _).mp (jn50 s7_40 _ _ _ (Option.some.inj h) hP hD hS (lv_sub hl [0] rfl))
        · have h := zY c150 h
          refine lv_aload_n hx hb dX7_readDriver_141 rfl (lv_at hl 0 rfl) ?_
          refine lv_ldc2 hx hb hown (hts (.constantLong RX7 167 (6907440)) (List.mem_of_getElem? (i := 9) rfl)) dX7_readDriver_142 ?_
          obtain ⟨r151, hc152, h⟩ := zB_spec h
          have hFc := zFree hD hS hA
          refine va_calli (va_runV (As := [.long 6907440]) (rest := []) ⟨hx, hb, hml, hown, hts⟩ (m_X7_isWord l dC dI y a7 h7 s7_40 (6907440 : Int64) H46.size r151 hc152) (cwV 1 hts gX7_readDriver_X7_isWord rfl rfl rfl (by decide +kernel) ⟨Nat.le_of_ble_eq_true rfl, Nat.le_of_ble_eq_true rfl⟩) ⟨fun a U g mk q => by obtain ⟨q0, q1, qP, qK, qD⟩ := q; exact ⟨q0, q1, qP, va_K.moved (u := U) (U := U.calling g mk a) (Vm.Alike.refl U.vm) qK, qD⟩, va_recv hK hP (ci := 6) (q0 := 0) rfl rfl, fun U hU hW => ⟨rfl, by rw [hU], by rw [hU]; exact hP, va_K.moved hW.alike hK, hD.weaken (fun _ _ _ _ => trivial)⟩⟩ rfl rfl hl.1 rfl (lv_room (Nat.le_of_ble_eq_true rfl)) dX7_readDriver_145 ⟨Nat.le_of_ble_eq_true rfl, Nat.le_of_ble_eq_true rfl⟩) hS (fun q _ h => hFc q h) hFc (fun rr154 u t H153 locs ht hvm hw hB hz1 hk1 hS => ?_)
          obtain ⟨hP1, hK1, hD1⟩ := hB
          rw [ht] at hP1
          refine zTopi hw.symm ?_
          have hP := hP1
          have hD := hD1.weaken (fun _ q _ h => hFc q.1 h)
          have hP : va_P (dC, dI) vwCl (cX7 a7 h7 y s7_40) H153 := hP
          have hD : va_D A (cX7 a7 h7 y s7_40) := hD
          refine lv_if_ne (tgt := 155) hx hb dX7_readDriver_148 (by decide) (fun c155 => ?_) (fun c155 => ?_)
          · have h := zN c155 h
            exact (eG49 _ _ _ _ _).mp (jn50 s7_40 _ _ _ (Option.some.inj h) hP hD hS (lv_sub hl [0] rfl))
          · have h := zY c155 h
            refine lv_aload_n hx hb dX7_readDriver_151 rfl (lv_at hl 0 rfl) ?_
            obtain ⟨s7_156, hc157, h⟩ := zB_spec h
            have hFc := zFree hD hS hA
            refine va_callv (va_runV (As := []) (rest := []) ⟨hx, hb, hml, hown, hts⟩ (m_X7_wrong l dC dI y a7 h7 s7_40 H153.size s7_156 hc157) (cwV 0 hts gX7_readDriver_X7_wrong rfl rfl rfl (by decide +kernel) ⟨Nat.le_of_ble_eq_true rfl, Nat.le_of_ble_eq_true rfl⟩) ⟨fun a U g mk q => by obtain ⟨q0, q1, qP, qK, qD⟩ := q; exact ⟨q0, q1, qP, va_K.moved (u := U) (U := U.calling g mk a) (Vm.Alike.refl U.vm) qK, qD⟩, va_recv hK hP (ci := 6) (q0 := 0) rfl rfl, fun U hU hW => ⟨rfl, by rw [hU], by rw [hU]; exact hP, va_K.moved hW.alike hK, hD.weaken (fun _ _ _ _ => trivial)⟩⟩ rfl rfl hl.1 rfl (lv_room (Nat.le_of_ble_eq_true rfl)) dX7_readDriver_152 ⟨Nat.le_of_ble_eq_true rfl, Nat.le_of_ble_eq_true rfl⟩) hS (fun q _ h => hFc q h) hFc (fun u t H158 locs ht hvm hw hB hz1 hk1 hS => ?_)
            obtain ⟨hP1, hK1, hD1⟩ := hB
            rw [ht] at hP1
            have hP := hP1
            have hD := hD1.weaken (fun _ q _ h => hFc q.1 h)
            have hP : va_P (dC, dI) vwCl (cX7 a7 h7 y s7_156) H158 := hP
            have hD : va_D A (cX7 a7 h7 y s7_156) := hD
            exact (eG49 _ _ _ _ _).mp (jn50 s7_156 _ _ _ (Option.some.inj h) hP hD hS (lv_sub hl [0] rfl))
      · have h := zY c22 h
        have ho0 : s7_17 = o_7 := congrArg (fun z : SS => z) (Option.some.inj h)
        exact W.vret hx hb hr (fun t ht hW => ⟨⟨(), rfl, trivial, by rw [ht]; rw [← ho0]; exact hP, va_K.moved hW.alike hK, by rw [← ho0]; exact hD⟩, hS.F ht⟩) hS.2.2 dX7_readDriver_63
    refine (eG12 _ _ _ _ _).mpr ?_
    have h := hr15
    refine lv_icmp_ne (tgt := 56) hx hb dX7_readDriver_47 (by decide) (fun c160 => ?_) (fun c160 => ?_)
    · have h := zN c160 h
      exact (eG12 _ _ _ _ _).mp (jn13 S7 _ _ _ (Option.some.inj h) hP hD hS (lv_sub hl [0, 1, 2] rfl))
    · have h := zY c160 h
      refine lv_aload_n hx hb dX7_readDriver_50 rfl (lv_at hl 0 rfl) ?_
      refine lv_iconst (v := 2) hx hb dX7_readDriver_51 (by decide) ?_
      refine lv_iload_n hx hb dX7_readDriver_52 rfl (lv_at hl 2 rfl) ?_
      obtain ⟨s7_161, hc162, h⟩ := zB_spec h
      have hFc := zFree hD hS hA
      refine va_callv (va_runV (As := [.int 2, .int p2]) (rest := []) ⟨hx, hb, hml, hown, hts⟩ (m_X7_fails l dC dI y a7 h7 S7 (2 : Int32) p2 HGW1e.size s7_161 hc162) (cwV 2 hts gX7_readDriver_X7_fails rfl rfl rfl (by decide +kernel) ⟨Nat.le_of_ble_eq_true rfl, Nat.le_of_ble_eq_true rfl⟩) ⟨fun a U g mk q => by obtain ⟨q0, q1, qP, qK, qD⟩ := q; exact ⟨q0, q1, qP, va_K.moved (u := U) (U := U.calling g mk a) (Vm.Alike.refl U.vm) qK, qD⟩, va_recv hK hP (ci := 6) (q0 := 0) rfl rfl, fun U hU hW => ⟨rfl, by rw [hU], by rw [hU]; exact hP, va_K.moved hW.alike hK, hD.weaken (fun _ _ _ _ => trivial)⟩⟩ rfl rfl hl.1 rfl (lv_room (Nat.le_of_ble_eq_true rfl)) dX7_readDriver_53 ⟨Nat.le_of_ble_eq_true rfl, Nat.le_of_ble_eq_true rfl⟩) hS (fun q _ h => hFc q h) hFc (fun u t H163 locs ht hvm hw hB hz1 hk1 hS => ?_)
      obtain ⟨hP1, hK1, hD1⟩ := hB
      rw [ht] at hP1
      have hP := hP1
      have hD := hD1.weaken (fun _ q _ h => hFc q.1 h)
      have hP : va_P (dC, dI) vwCl (cX7 a7 h7 y s7_161) H163 := hP
      have hD : va_D A (cX7 a7 h7 y s7_161) := hD
      exact (eG12 _ _ _ _ _).mp (jn13 s7_161 _ _ _ (Option.some.inj h) hP hD hS (lv_sub hl [0, 1, 2] rfl))
  have lp4 : ∀ (n : Nat) (v165 : Int32) (v166 : Int32) (HGW1 : Heap) (locs : List Loc) (ls : Array Slot), zI (b_X7_readDriver_6 S7 p1) n (v165, v166) = some ov5 → va_P (dC, dI) vwCl (cX7 a7 h7 y S7) HGW1 → va_D A (cX7 a7 h7 y S7) → va_S A s.heap HGW1 locs → lv_has ls 6 [(0, .ref a7), (1, .long p1), (3, .int p2), (4, .int v165), (5, .int v166)] → GW1 HGW1 locs 0 0 (F0 m 6 ls []) := by
    intro n
    induction n with
    | zero =>
      intro v165 v166 HGW1 locs ls hi6 hP hD hS hl
      exact (zI_0 hi6).elim
    | succ n ihlp4 =>
      intro v165 v166 HGW1 locs ls hi6 hP hD hS hl
      refine (eG2 _ _ _ _ _).mpr ?_
      obtain ⟨xx9, h, hx8⟩ := zI_spec hi6
      refine lv_iload hx hb dX7_readDriver_6 (lv_at hl 4 rfl) ?_
      refine lv_aload_n hx hb dX7_readDriver_8 rfl (lv_at hl 0 rfl) ?_
      refine va_get (D := (dC, dI)) (ci := 6) (v := .int (gI S7 28)) (C := RX7) (T := TX7) (N := 49) hx hb hts inX7_ hown hK hP 0 rfl rfl 28 (by decide) (hts (.fieldLink RX7 217 "GateWheelModel" "drivers" "I") (List.mem_of_getElem? (i := 1) rfl)) (fun _ h9 => h9) rfl dX7_readDriver_9 ?_
      refine lv_icmp_ge (tgt := 43) hx hb dX7_readDriver_12 (by decide) (fun c167 => ?_) (fun c167 => ?_)
      · have h := zY c167 h
        exact (eG2 _ _ _ _ _).mp (je3 v165 _ _ _ (zI_r h hx8) hP hD hS (lv_sub hl [0, 1, 2, 3] rfl))
      · have h := zN c167 h
        refine lv_iload hx hb dX7_readDriver_15 (lv_at hl 3 rfl) ?_
        refine lv_aload_n hx hb dX7_readDriver_17 rfl (lv_at hl 0 rfl) ?_
        refine va_get (D := (dC, dI)) (ci := 6) (v := .ref (h7 23)) (C := RX7) (T := TX7) (N := 49) hx hb hts inX7_ hown hK hP 0 rfl rfl 23 (by decide) (hts (.fieldLink RX7 59 "GateWheelModel" "dBus" "[J") (List.mem_of_getElem? (i := 2) rfl)) (fun _ h9 => h9) rfl dX7_readDriver_18 ?_
        refine lv_iload hx hb dX7_readDriver_21 (lv_at hl 4 rfl) ?_
        obtain ⟨hi168, h⟩ := zG_spec h
        refine va_lald hx hb hK hP 15 1 rfl rfl hi168 dX7_readDriver_23 ?_
        refine lv_lload_n hx hb dX7_readDriver_24 rfl (lv_at hl 1 rfl) ?_
        refine W.lcmp hx hb dX7_readDriver_25 ?_
        refine lv_if_ne (tgt := 33) hx hb dX7_readDriver_26 (by decide) (fun c169 => ?_) (fun c169 => ?_)
        · have h := zN c169 h
          refine lv_iconst (v := 0) hx hb dX7_readDriver_33 (by decide) ?_
          refine lv_iadd hx hb dX7_readDriver_34 ?_
          obtain ⟨v170, ev170, h⟩ := zL_spec h
          refine zTopi ev170 ?_
          refine lv_istore (lv' := [(4, .int v170), (0, .ref a7), (1, .long p1), (3, .int p2), (5, .int v166)]) hx hb dX7_readDriver_35 hl (by decide) rfl (fun ls hl => ?_)
          obtain ⟨v171, ev171, h⟩ := zL_spec h
          refine lv_iinc (v := v171) (lv' := [(5, .int v171), (4, .int v170), (0, .ref a7), (1, .long p1), (3, .int p2)]) hx hb dX7_readDriver_37 hl (k := 4) rfl (by rw [ev171]; rfl) (by decide) rfl (fun ls hl => ?_)
          refine lv_goto (tgt := 6) hx hb dX7_readDriver_40 (by decide) ?_
          have h := zI_l h hx8
          exact (eG2 _ _ _ _ _).mp (ihlp4 v170 v171 _ _ _ h hP hD hS (lv_sub hl [2, 3, 4, 1, 0] rfl))
        · have h := zY c169 h
          refine lv_iconst (v := 1) hx hb dX7_readDriver_29 (by decide) ?_
          refine lv_goto (tgt := 34) hx hb dX7_readDriver_30 (by decide) ?_
          refine lv_iadd hx hb dX7_readDriver_34 ?_
          obtain ⟨v172, ev172, h⟩ := zL_spec h
          refine zTopi ev172 ?_
          refine lv_istore (lv' := [(4, .int v172), (0, .ref a7), (1, .long p1), (3, .int p2), (5, .int v166)]) hx hb dX7_readDriver_35 hl (by decide) rfl (fun ls hl => ?_)
          obtain ⟨v173, ev173, h⟩ := zL_spec h
          refine lv_iinc (v := v173) (lv' := [(5, .int v173), (4, .int v172), (0, .ref a7), (1, .long p1), (3, .int p2)]) hx hb dX7_readDriver_37 hl (k := 4) rfl (by rw [ev173]; rfl) (by decide) rfl (fun ls hl => ?_)
          refine lv_goto (tgt := 6) hx hb dX7_readDriver_40 (by decide) ?_
          have h := zI_l h hx8
          exact (eG2 _ _ _ _ _).mp (ihlp4 v172 v173 _ _ _ h hP hD hS (lv_sub hl [2, 3, 4, 1, 0] rfl))
  exact lp4 zF (0 : Int32) (0 : Int32) _ _ _ hi6 hP hD hS (lv_sub hl [2, 3, 4, 1, 0] rfl)

set_option maxHeartbeats 4000000 in
set_option maxRecDepth 100000 in
theorem m_X7_readLine (l : Launch) (dC : Nat → ClassId) (dI : Nat → Nat → Nat) (y : Nat → ClassId) (a7 : Nat) (h7 : Nat → Nat) (S7 : SS) (sz : Nat) (o_7 : SS) (h : f_X7_readLine S7 = some o_7) : Met l yX7_readLine wsX7_readLine ({ frames := 4, cells := 0, slots := 0, locals := 90 }) (va_Pc [.ref a7] (fun U => U.heap.size = sz ∧ va_P (dC, dI) vwCl (cX7 a7 h7 y S7) U.heap ∧ va_K (dC, dI) vwCl [(y 0, .int), (y 1, .long), (y 2, .byte), (y 3, .boolean)] U ∧ va_D (fun _ => True) (cX7 a7 h7 y S7))) (va_Qv (fun (_ : Unit) => True) (fun (_ : Unit) (t : State) => va_P (dC, dI) vwCl (cX7 a7 h7 y o_7) t.heap ∧ va_K (dC, dI) vwCl [(y 0, .int), (y 1, .long), (y 2, .byte), (y 3, .boolean)] t ∧ va_D (va_A (cX7 a7 h7 y S7) sz) (cX7 a7 h7 y o_7)) (va_A (cX7 a7 h7 y S7) sz)) 0 0 (va_A (cX7 a7 h7 y S7) sz) := by
  refine Met.ofW (cc := cX7_readLine) (maxL := 4) (ret := none) (by decide +kernel) rfl ?_
  intro p e s m args below meth c s₁ B hml hv
  obtain ⟨rfl, hsz, hP, hK, hD0⟩ := hv
  have hx := B.exec
  have hb := B.bytes
  have hr := B.returns
  have hts := atoms_spec (ws := wsX7_readLine) B.pre
  have hown : s.vm.findClass RX7 = some m.cls := findClass_of_methodNamed B.named
  have hlocks := B.notSynchronized
  have inX7_ : ∀ w ∈ wsX70, w ∈ wsX7_readLine := fun _ h => List.mem_cons_of_mem _ (List.mem_append_right _ h)
  subst hsz
  have hD := hD0.self (sz := s.heap.size)
  generalize hAe : va_A (cX7 a7 h7 y S7) s.heap.size = A at hD ⊢
  have hA : ∀ q : Nat, s.heap.size ≤ q → A q := fun q h => by rw [← hAe]; exact Or.inr h
  have hS : va_S A s.heap s.heap [] := va_S.rf
  have hP : va_P (dC, dI) vwCl (cX7 a7 h7 y S7) s.heap := hP
  have hl := lv_entry ([.ref a7]) (n := 4) (Nat.le_of_ble_eq_true rfl)
  rw [lg_entry_eq]
  generalize (lg_sl ([.ref a7]) ++ List.replicate (4 - (lg_sl ([.ref a7])).length) Slot.unset).toArray = ls at hl ⊢
  have hl : lv_has ls 4 [(0, .ref a7)] := hl
  refine lv_aload_n hx hb dX7_readLine_0 rfl (lv_at hl 0 rfl) ?_
  refine lv_ldc2 hx hb hown (hts (.constantLong RX7 159 (26990)) (List.mem_of_getElem? (i := 1) rfl)) dX7_readLine_1 ?_
  obtain ⟨r1, hc2, h⟩ := zB_spec h
  have hFc := zFree hD hS hA
  refine va_calli (va_runV (As := [.long 26990]) (rest := []) ⟨hx, hb, hml, hown, hts⟩ (m_X7_isWord l dC dI y a7 h7 S7 (26990 : Int64) s.heap.size r1 hc2) (cwV 1 hts gX7_readLine_X7_isWord rfl rfl rfl (by decide +kernel) ⟨Nat.le_of_ble_eq_true rfl, Nat.le_of_ble_eq_true rfl⟩) ⟨fun a U g mk q => by obtain ⟨q0, q1, qP, qK, qD⟩ := q; exact ⟨q0, q1, qP, va_K.moved (u := U) (U := U.calling g mk a) (Vm.Alike.refl U.vm) qK, qD⟩, va_recv hK hP (ci := 6) (q0 := 0) rfl rfl, fun U hU hW => ⟨rfl, by rw [hU], by rw [hU]; exact hP, va_K.moved hW.alike hK, hD.weaken (fun _ _ _ _ => trivial)⟩⟩ rfl rfl hl.1 rfl (lv_room (Nat.le_of_ble_eq_true rfl)) dX7_readLine_4 ⟨Nat.le_of_ble_eq_true rfl, Nat.le_of_ble_eq_true rfl⟩) hS (fun q _ h => hFc q h) hFc (fun rr4 u t H3 locs ht hvm hw hB hz1 hk1 hS => ?_)
  obtain ⟨hP1, hK1, hD1⟩ := hB
  rw [ht] at hP1
  refine zTopi hw.symm ?_
  have hP := hP1
  have hD := hD1.weaken (fun _ q _ h => hFc q.1 h)
  have hP : va_P (dC, dI) vwCl (cX7 a7 h7 y S7) H3 := hP
  have hD : va_D A (cX7 a7 h7 y S7) := hD
  refine lv_if_eq (tgt := 18) hx hb dX7_readLine_7 (by decide) (fun c5 => ?_) (fun c5 => ?_)
  · have h := zY c5 h
    refine lv_aload_n hx hb dX7_readLine_18 rfl (lv_at hl 0 rfl) ?_
    refine lv_ldc2 hx hb hown (hts (.constantLong RX7 161 (6452595)) (List.mem_of_getElem? (i := 2) rfl)) dX7_readLine_19 ?_
    obtain ⟨r6, hc7, h⟩ := zB_spec h
    have hFc := zFree hD hS hA
    refine va_calli (va_runV (As := [.long 6452595]) (rest := []) ⟨hx, hb, hml, hown, hts⟩ (m_X7_isWord l dC dI y a7 h7 S7 (6452595 : Int64) H3.size r6 hc7) (cwV 1 hts gX7_readLine_X7_isWord rfl rfl rfl (by decide +kernel) ⟨Nat.le_of_ble_eq_true rfl, Nat.le_of_ble_eq_true rfl⟩) ⟨fun a U g mk q => by obtain ⟨q0, q1, qP, qK, qD⟩ := q; exact ⟨q0, q1, qP, va_K.moved (u := U) (U := U.calling g mk a) (Vm.Alike.refl U.vm) qK, qD⟩, va_recv hK hP (ci := 6) (q0 := 0) rfl rfl, fun U hU hW => ⟨rfl, by rw [hU], by rw [hU]; exact hP, va_K.moved hW.alike hK, hD.weaken (fun _ _ _ _ => trivial)⟩⟩ rfl rfl hl.1 rfl (lv_room (Nat.le_of_ble_eq_true rfl)) dX7_readLine_22 ⟨Nat.le_of_ble_eq_true rfl, Nat.le_of_ble_eq_true rfl⟩) hS (fun q _ h => hFc q h) hFc (fun rr9 u t H8 locs ht hvm hw hB hz1 hk1 hS => ?_)
    obtain ⟨hP1, hK1, hD1⟩ := hB
    rw [ht] at hP1
    refine zTopi hw.symm ?_
    have hP := hP1
    have hD := hD1.weaken (fun _ q _ h => hFc q.1 h)
    have hP : va_P (dC, dI) vwCl (cX7 a7 h7 y S7) H8 := hP
    have hD : va_D A (cX7 a7 h7 y S7) := hD
    refine lv_if_eq (tgt := 36) hx hb dX7_readLine_25 (by decide) (fun c10 => ?_) (fun c10 => ?_)
    · have h := zY c10 h
      refine lv_aload_n hx hb dX7_readLine_36 rfl (lv_at hl 0 rfl) ?_
      refine lv_ldc2 hx hb hown (hts (.constantLong RX7 163 (7497063)) (List.mem_of_getElem? (i := 3) rfl)) dX7_readLine_37 ?_
      obtain ⟨r11, hc12, h⟩ := zB_spec h
      have hFc := zFree hD hS hA
      refine va_calli (va_runV (As := [.long 7497063]) (rest := []) ⟨hx, hb, hml, hown, hts⟩ (m_X7_isWord l dC dI y a7 h7 S7 (7497063 : Int64) H8.size r11 hc12) (cwV 1 hts gX7_readLine_X7_isWord rfl rfl rfl (by decide +kernel) ⟨Nat.le_of_ble_eq_true rfl, Nat.le_of_ble_eq_true rfl⟩) ⟨fun a U g mk q => by obtain ⟨q0, q1, qP, qK, qD⟩ := q; exact ⟨q0, q1, qP, va_K.moved (u := U) (U := U.calling g mk a) (Vm.Alike.refl U.vm) qK, qD⟩, va_recv hK hP (ci := 6) (q0 := 0) rfl rfl, fun U hU hW => ⟨rfl, by rw [hU], by rw [hU]; exact hP, va_K.moved hW.alike hK, hD.weaken (fun _ _ _ _ => trivial)⟩⟩ rfl rfl hl.1 rfl (lv_room (Nat.le_of_ble_eq_true rfl)) dX7_readLine_40 ⟨Nat.le_of_ble_eq_true rfl, Nat.le_of_ble_eq_true rfl⟩) hS (fun q _ h => hFc q h) hFc (fun rr14 u t H13 locs ht hvm hw hB hz1 hk1 hS => ?_)
      obtain ⟨hP1, hK1, hD1⟩ := hB
      rw [ht] at hP1
      refine zTopi hw.symm ?_
      have hP := hP1
      have hD := hD1.weaken (fun _ q _ h => hFc q.1 h)
      have hP : va_P (dC, dI) vwCl (cX7 a7 h7 y S7) H13 := hP
      have hD : va_D A (cX7 a7 h7 y S7) := hD
      refine lv_if_eq (tgt := 53) hx hb dX7_readLine_43 (by decide) (fun c15 => ?_) (fun c15 => ?_)
      · have h := zY c15 h
        refine lv_aload_n hx hb dX7_readLine_53 rfl (lv_at hl 0 rfl) ?_
        refine va_get (D := (dC, dI)) (ci := 6) (v := .int (gI S7 8)) (C := RX7) (T := TX7) (N := 49) hx hb hts inX7_ hown hK hP 0 rfl rfl 8 (by decide) (hts (.fieldLink RX7 141 "GateWheelModel" "token" "I") (List.mem_of_getElem? (i := 4) rfl)) (fun _ h9 => h9) rfl dX7_readLine_54 ?_
        refine lv_iconst (v := 2) hx hb dX7_readLine_57 (by decide) ?_
        refine lv_icmp_ne (tgt := 118) hx hb dX7_readLine_58 (by decide) (fun c16 => ?_) (fun c16 => ?_)
        · have h := zN c16 h
          refine lv_aload_n hx hb dX7_readLine_118 rfl (lv_at hl 0 rfl) ?_
          obtain ⟨s7_17, hc18, h⟩ := zB_spec h
          have hFc := zFree hD hS hA
          refine va_callv (va_runV (As := []) (rest := []) ⟨hx, hb, hml, hown, hts⟩ (m_X7_wrong l dC dI y a7 h7 S7 H13.size s7_17 hc18) (cwV 0 hts gX7_readLine_X7_wrong rfl rfl rfl (by decide +kernel) ⟨Nat.le_of_ble_eq_true rfl, Nat.le_of_ble_eq_true rfl⟩) ⟨fun a U g mk q => by obtain ⟨q0, q1, qP, qK, qD⟩ := q; exact ⟨q0, q1, qP, va_K.moved (u := U) (U := U.calling g mk a) (Vm.Alike.refl U.vm) qK, qD⟩, va_recv hK hP (ci := 6) (q0 := 0) rfl rfl, fun U hU hW => ⟨rfl, by rw [hU], by rw [hU]; exact hP, va_K.moved hW.alike hK, hD.weaken (fun _ _ _ _ => trivial)⟩⟩ rfl rfl hl.1 rfl (lv_room (Nat.le_of_ble_eq_true rfl)) dX7_readLine_119 ⟨Nat.le_of_ble_eq_true rfl, Nat.le_of_ble_eq_true rfl⟩) hS (fun q _ h => hFc q h) hFc (fun u t H19 locs ht hvm hw hB hz1 hk1 hS => ?_)
          obtain ⟨hP1, hK1, hD1⟩ := hB
          rw [ht] at hP1
          have hP := hP1
          have hD := hD1.weaken (fun _ q _ h => hFc q.1 h)
          have hP : va_P (dC, dI) vwCl (cX7 a7 h7 y s7_17) H19 := hP
          have hD : va_D A (cX7 a7 h7 y s7_17) := hD
          have ho0 : s7_17 = o_7 := congrArg (fun z : SS => z) (Option.some.inj h)
          exact W.vret hx hb hr (fun t ht hW => ⟨⟨(), rfl, trivial, by rw [ht]; rw [← ho0]; exact hP, va_K.moved hW.alike hK, by rw [← ho0]; exact hD⟩, hS.F ht⟩) hS.2.2 dX7_readLine_122
        · have h := zY c16 h
          refine lv_aload_n hx hb dX7_readLine_61 rfl (lv_at hl 0 rfl) ?_
          refine va_get (D := (dC, dI)) (ci := 6) (v := .long (gL S7 10)) (C := RX7) (T := TX7) (N := 49) hx hb hts inX7_ hown hK hP 0 rfl rfl 10 (by decide) (hts (.fieldLink RX7 151 "GateWheelModel" "name" "J") (List.mem_of_getElem? (i := 5) rfl)) (fun _ h9 => h9) rfl dX7_readLine_62 ?_
          obtain ⟨v21, ev21, h⟩ := zL_spec h
          refine zTopl ev21 ?_
          refine lv_lstore_n (lv' := [(1, .long v21), (0, .ref a7)]) hx hb dX7_readLine_65 rfl hl (by decide) rfl (fun ls hl => ?_)
          refine lv_aload_n hx hb dX7_readLine_66 rfl (lv_at hl 1 rfl) ?_
          refine va_get (D := (dC, dI)) (ci := 6) (v := .int (gI S7 6)) (C := RX7) (T := TX7) (N := 49) hx hb hts inX7_ hown hK hP 0 rfl rfl 6 (by decide) (hts (.fieldLink RX7 134 "GateWheelModel" "at" "I") (List.mem_of_getElem? (i := 6) rfl)) (fun _ h9 => h9) rfl dX7_readLine_67 ?_
          obtain ⟨v22, ev22, h⟩ := zL_spec h
          refine zTopi ev22 ?_
          refine lv_istore_n (lv' := [(3, .int v22), (1, .long v21), (0, .ref a7)]) hx hb dX7_readLine_70 rfl hl (by decide) rfl (fun ls hl => ?_)
          refine lv_aload_n hx hb dX7_readLine_71 rfl (lv_at hl 2 rfl) ?_
          obtain ⟨s7_23, hc24, h⟩ := zB_spec h
          have hFc := zFree hD hS hA
          refine va_callv (va_runV (As := []) (rest := []) ⟨hx, hb, hml, hown, hts⟩ (m_X7_next l dC dI y a7 h7 S7 H13.size s7_23 hc24) (cwV 0 hts gX7_readLine_X7_next rfl rfl rfl (by decide +kernel) ⟨Nat.le_of_ble_eq_true rfl, Nat.le_of_ble_eq_true rfl⟩) ⟨fun a U g mk q => by obtain ⟨q0, q1, qP, qK, qD⟩ := q; exact ⟨q0, q1, qP, va_K.moved (u := U) (U := U.calling g mk a) (Vm.Alike.refl U.vm) qK, qD⟩, va_recv hK hP (ci := 6) (q0 := 0) rfl rfl, fun U hU hW => ⟨rfl, by rw [hU], by rw [hU]; exact hP, va_K.moved hW.alike hK, hD.weaken (fun _ _ _ _ => trivial)⟩⟩ rfl rfl hl.1 rfl (lv_room (Nat.le_of_ble_eq_true rfl)) dX7_readLine_72 ⟨Nat.le_of_ble_eq_true rfl, Nat.le_of_ble_eq_true rfl⟩) hS (fun q _ h => hFc q h) hFc (fun u t H25 locs ht hvm hw hB hz1 hk1 hS => ?_)
          obtain ⟨hP1, hK1, hD1⟩ := hB
          rw [ht] at hP1
          have hP := hP1
          have hD := hD1.weaken (fun _ q _ h => hFc q.1 h)
          have hP : va_P (dC, dI) vwCl (cX7 a7 h7 y s7_23) H25 := hP
          have hD : va_D A (cX7 a7 h7 y s7_23) := hD
          refine lv_aload_n hx hb dX7_readLine_75 rfl (lv_at hl 2 rfl) ?_
          refine lv_bipush (v := 61) hx hb dX7_readLine_76 (by decide) ?_
          obtain ⟨r27, hc28, h⟩ := zB_spec h
          have hFc := zFree hD hS hA
          refine va_calli (va_runV (As := [.int 61]) (rest := []) ⟨hx, hb, hml, hown, hts⟩ (m_X7_is l dC dI y a7 h7 s7_23 (61 : Int32) H25.size r27 hc28) (cwV 1 hts gX7_readLine_X7_is rfl rfl rfl (by decide +kernel) ⟨Nat.le_of_ble_eq_true rfl, Nat.le_of_ble_eq_true rfl⟩) ⟨fun a U g mk q => by obtain ⟨q0, q1, qP, qK, qD⟩ := q; exact ⟨q0, q1, qP, va_K.moved (u := U) (U := U.calling g mk a) (Vm.Alike.refl U.vm) qK, qD⟩, va_recv hK hP (ci := 6) (q0 := 0) rfl rfl, fun U hU hW => ⟨rfl, by rw [hU], by rw [hU]; exact hP, va_K.moved hW.alike hK, hD.weaken (fun _ _ _ _ => trivial)⟩⟩ rfl rfl hl.1 rfl (lv_room (Nat.le_of_ble_eq_true rfl)) dX7_readLine_78 ⟨Nat.le_of_ble_eq_true rfl, Nat.le_of_ble_eq_true rfl⟩) hS (fun q _ h => hFc q h) hFc (fun rr30 u t H29 locs ht hvm hw hB hz1 hk1 hS => ?_)
          obtain ⟨hP1, hK1, hD1⟩ := hB
          rw [ht] at hP1
          refine zTopi hw.symm ?_
          have hP := hP1
          have hD := hD1.weaken (fun _ q _ h => hFc q.1 h)
          have hP : va_P (dC, dI) vwCl (cX7 a7 h7 y s7_23) H29 := hP
          have hD : va_D A (cX7 a7 h7 y s7_23) := hD
          refine lv_if_eq (tgt := 93) hx hb dX7_readLine_81 (by decide) (fun c31 => ?_) (fun c31 => ?_)
          · have h := zY c31 h
            refine lv_aload_n hx hb dX7_readLine_93 rfl (lv_at hl 2 rfl) ?_
            refine lv_bipush (v := 60) hx hb dX7_readLine_94 (by decide) ?_
            obtain ⟨r32, hc33, h⟩ := zB_spec h
            have hFc := zFree hD hS hA
            refine va_calli (va_runV (As := [.int 60]) (rest := []) ⟨hx, hb, hml, hown, hts⟩ (m_X7_is l dC dI y a7 h7 s7_23 (60 : Int32) H29.size r32 hc33) (cwV 1 hts gX7_readLine_X7_is rfl rfl rfl (by decide +kernel) ⟨Nat.le_of_ble_eq_true rfl, Nat.le_of_ble_eq_true rfl⟩) ⟨fun a U g mk q => by obtain ⟨q0, q1, qP, qK, qD⟩ := q; exact ⟨q0, q1, qP, va_K.moved (u := U) (U := U.calling g mk a) (Vm.Alike.refl U.vm) qK, qD⟩, va_recv hK hP (ci := 6) (q0 := 0) rfl rfl, fun U hU hW => ⟨rfl, by rw [hU], by rw [hU]; exact hP, va_K.moved hW.alike hK, hD.weaken (fun _ _ _ _ => trivial)⟩⟩ rfl rfl hl.1 rfl (lv_room (Nat.le_of_ble_eq_true rfl)) dX7_readLine_96 ⟨Nat.le_of_ble_eq_true rfl, Nat.le_of_ble_eq_true rfl⟩) hS (fun q _ h => hFc q h) hFc (fun rr35 u t H34 locs ht hvm hw hB hz1 hk1 hS => ?_)
            obtain ⟨hP1, hK1, hD1⟩ := hB
            rw [ht] at hP1
            refine zTopi hw.symm ?_
            have hP := hP1
            have hD := hD1.weaken (fun _ q _ h => hFc q.1 h)
            have hP : va_P (dC, dI) vwCl (cX7 a7 h7 y s7_23) H34 := hP
            have hD : va_D A (cX7 a7 h7 y s7_23) := hD
            refine lv_if_eq (tgt := 111) hx hb dX7_readLine_99 (by decide) (fun c36 => ?_) (fun c36 => ?_)
            · have h := zY c36 h
              refine lv_aload_n hx hb dX7_readLine_111 rfl (lv_at hl 2 rfl) ?_
              obtain ⟨s7_37, hc38, h⟩ := zB_spec h
              have hFc := zFree hD hS hA
              refine va_callv (va_runV (As := []) (rest := []) ⟨hx, hb, hml, hown, hts⟩ (m_X7_wrong l dC dI y a7 h7 s7_23 H34.size s7_37 hc38) (cwV 0 hts gX7_readLine_X7_wrong rfl rfl rfl (by decide +kernel) ⟨Nat.le_of_ble_eq_true rfl, Nat.le_of_ble_eq_true rfl⟩) ⟨fun a U g mk q => by obtain ⟨q0, q1, qP, qK, qD⟩ := q; exact ⟨q0, q1, qP, va_K.moved (u := U) (U := U.calling g mk a) (Vm.Alike.refl U.vm) qK, qD⟩, va_recv hK hP (ci := 6) (q0 := 0) rfl rfl, fun U hU hW => ⟨rfl, by rw [hU], by rw [hU]; exact hP, va_K.moved hW.alike hK, hD.weaken (fun _ _ _ _ => trivial)⟩⟩ rfl rfl hl.1 rfl (lv_room (Nat.le_of_ble_eq_true rfl)) dX7_readLine_112 ⟨Nat.le_of_ble_eq_true rfl, Nat.le_of_ble_eq_true rfl⟩) hS (fun q _ h => hFc q h) hFc (fun u t H39 locs ht hvm hw hB hz1 hk1 hS => ?_)
              obtain ⟨hP1, hK1, hD1⟩ := hB
              rw [ht] at hP1
              have hP := hP1
              have hD := hD1.weaken (fun _ q _ h => hFc q.1 h)
              have hP : va_P (dC, dI) vwCl (cX7 a7 h7 y s7_37) H39 := hP
              have hD : va_D A (cX7 a7 h7 y s7_37) := hD
              refine lv_goto (tgt := 122) hx hb dX7_readLine_115 (by decide) ?_
              have ho0 : s7_37 = o_7 := congrArg (fun z : SS => z) (Option.some.inj h)
              exact W.vret hx hb hr (fun t ht hW => ⟨⟨(), rfl, trivial, by rw [ht]; rw [← ho0]; exact hP, va_K.moved hW.alike hK, by rw [← ho0]; exact hD⟩, hS.F ht⟩) hS.2.2 dX7_readLine_122
            · have h := zN c36 h
              refine lv_aload_n hx hb dX7_readLine_102 rfl (lv_at hl 2 rfl) ?_
              refine lv_lload_n hx hb dX7_readLine_103 rfl (lv_at hl 1 rfl) ?_
              refine lv_iload_n hx hb dX7_readLine_104 rfl (lv_at hl 0 rfl) ?_
              obtain ⟨s7_41, hc42, h⟩ := zB_spec h
              have hFc := zFree hD hS hA
              refine va_callv (va_runV (As := [.long v21, .int v22]) (rest := []) ⟨hx, hb, hml, hown, hts⟩ (m_X7_readDriver l dC dI y a7 h7 s7_23 v21 v22 H34.size s7_41 hc42) (cwV 2 hts gX7_readLine_X7_readDriver rfl rfl rfl (by decide +kernel) ⟨Nat.le_of_ble_eq_true rfl, Nat.le_of_ble_eq_true rfl⟩) ⟨fun a U g mk q => by obtain ⟨q0, q1, qP, qK, qD⟩ := q; exact ⟨q0, q1, qP, va_K.moved (u := U) (U := U.calling g mk a) (Vm.Alike.refl U.vm) qK, qD⟩, va_recv hK hP (ci := 6) (q0 := 0) rfl rfl, fun U hU hW => ⟨rfl, by rw [hU], by rw [hU]; exact hP, va_K.moved hW.alike hK, hD.weaken (fun _ _ _ _ => trivial)⟩⟩ rfl rfl hl.1 rfl (lv_room (Nat.le_of_ble_eq_true rfl)) dX7_readLine_105 ⟨Nat.le_of_ble_eq_true rfl, Nat.le_of_ble_eq_true rfl⟩) hS (fun q _ h => hFc q h) hFc (fun u t H43 locs ht hvm hw hB hz1 hk1 hS => ?_)
              obtain ⟨hP1, hK1, hD1⟩ := hB
              rw [ht] at hP1
              have hP := hP1
              have hD := hD1.weaken (fun _ q _ h => hFc q.1 h)
              have hP : va_P (dC, dI) vwCl (cX7 a7 h7 y s7_41) H43 := hP
              have hD : va_D A (cX7 a7 h7 y s7_41) := hD
              refine lv_goto (tgt := 115) hx hb dX7_readLine_108 (by decide) ?_
              refine lv_goto (tgt := 122) hx hb dX7_readLine_115 (by decide) ?_
              have ho0 : s7_41 = o_7 := congrArg (fun z : SS => z) (Option.some.inj h)
              exact W.vret hx hb hr (fun t ht hW => ⟨⟨(), rfl, trivial, by rw [ht]; rw [← ho0]; exact hP, va_K.moved hW.alike hK, by rw [← ho0]; exact hD⟩, hS.F ht⟩) hS.2.2 dX7_readLine_122
          · have h := zN c31 h
            refine lv_aload_n hx hb dX7_readLine_84 rfl (lv_at hl 2 rfl) ?_
            refine lv_lload_n hx hb dX7_readLine_85 rfl (lv_at hl 1 rfl) ?_
            refine lv_iload_n hx hb dX7_readLine_86 rfl (lv_at hl 0 rfl) ?_
            obtain ⟨s7_45, hc46, h⟩ := zB_spec h
            have hFc := zFree hD hS hA
            refine va_callv (va_runV (As := [.long v21, .int v22]) (rest := []) ⟨hx, hb, hml, hown, hts⟩ (m_X7_readGate l dC dI y a7 h7 s7_23 v21 v22 H29.size s7_45 hc46) (cwV 2 hts gX7_readLine_X7_readGate rfl rfl rfl (by decide +kernel) ⟨Nat.le_of_ble_eq_true rfl, Nat.le_of_ble_eq_true rfl⟩) ⟨fun a U g mk q => by obtain ⟨q0, q1, qP, qK, qD⟩ := q; exact ⟨q0, q1, qP, va_K.moved (u := U) (U := U.calling g mk a) (Vm.Alike.refl U.vm) qK, qD⟩, va_recv hK hP (ci := 6) (q0 := 0) rfl rfl, fun U hU hW => ⟨rfl, by rw [hU], by rw [hU]; exact hP, va_K.moved hW.alike hK, hD.weaken (fun _ _ _ _ => trivial)⟩⟩ rfl rfl hl.1 rfl (lv_room (Nat.le_of_ble_eq_true rfl)) dX7_readLine_87 ⟨Nat.le_of_ble_eq_true rfl, Nat.le_of_ble_eq_true rfl⟩) hS (fun q _ h => hFc q h) hFc (fun u t H47 locs ht hvm hw hB hz1 hk1 hS => ?_)
            obtain ⟨hP1, hK1, hD1⟩ := hB
            rw [ht] at hP1
            have hP := hP1
            have hD := hD1.weaken (fun _ q _ h => hFc q.1 h)
            have hP : va_P (dC, dI) vwCl (cX7 a7 h7 y s7_45) H47 := hP
            have hD : va_D A (cX7 a7 h7 y s7_45) := hD
            refine lv_goto (tgt := 115) hx hb dX7_readLine_90 (by decide) ?_
            refine lv_goto (tgt := 122) hx hb dX7_readLine_115 (by decide) ?_
            have ho0 : s7_45 = o_7 := congrArg (fun z : SS => z) (Option.some.inj h)
            exact W.vret hx hb hr (fun t ht hW => ⟨⟨(), rfl, trivial, by rw [ht]; rw [← ho0]; exact hP, va_K.moved hW.alike hK, by rw [← ho0]; exact hD⟩, hS.F ht⟩) hS.2.2 dX7_readLine_122
      · have h := zN c15 h
        refine lv_aload_n hx hb dX7_readLine_46 rfl (lv_at hl 0 rfl) ?_
        obtain ⟨s7_49, hc50, h⟩ := zB_spec h
        have hFc := zFree hD hS hA
        refine va_callv (va_runV (As := []) (rest := []) ⟨hx, hb, hml, hown, hts⟩ (m_X7_readRegister l dC dI y a7 h7 S7 H13.size s7_49 hc50) (cwV 0 hts gX7_readLine_X7_readRegister rfl rfl rfl (by decide +kernel) ⟨Nat.le_of_ble_eq_true rfl, Nat.le_of_ble_eq_true rfl⟩) ⟨fun a U g mk q => by obtain ⟨q0, q1, qP, qK, qD⟩ := q; exact ⟨q0, q1, qP, va_K.moved (u := U) (U := U.calling g mk a) (Vm.Alike.refl U.vm) qK, qD⟩, va_recv hK hP (ci := 6) (q0 := 0) rfl rfl, fun U hU hW => ⟨rfl, by rw [hU], by rw [hU]; exact hP, va_K.moved hW.alike hK, hD.weaken (fun _ _ _ _ => trivial)⟩⟩ rfl rfl hl.1 rfl (lv_room (Nat.le_of_ble_eq_true rfl)) dX7_readLine_47 ⟨Nat.le_of_ble_eq_true rfl, Nat.le_of_ble_eq_true rfl⟩) hS (fun q _ h => hFc q h) hFc (fun u t H51 locs ht hvm hw hB hz1 hk1 hS => ?_)
        obtain ⟨hP1, hK1, hD1⟩ := hB
        rw [ht] at hP1
        have hP := hP1
        have hD := hD1.weaken (fun _ q _ h => hFc q.1 h)
        have hP : va_P (dC, dI) vwCl (cX7 a7 h7 y s7_49) H51 := hP
        have hD : va_D A (cX7 a7 h7 y s7_49) := hD
        refine lv_goto (tgt := 122) hx hb dX7_readLine_50 (by decide) ?_
        have ho0 : s7_49 = o_7 := congrArg (fun z : SS => z) (Option.some.inj h)
        exact W.vret hx hb hr (fun t ht hW => ⟨⟨(), rfl, trivial, by rw [ht]; rw [← ho0]; exact hP, va_K.moved hW.alike hK, by rw [← ho0]; exact hD⟩, hS.F ht⟩) hS.2.2 dX7_readLine_122
    · have h := zN c10 h
      refine lv_aload_n hx hb dX7_readLine_28 rfl (lv_at hl 0 rfl) ?_
      refine lv_iconst (v := 1) hx hb dX7_readLine_29 (by decide) ?_
      obtain ⟨s7_53, hc54, h⟩ := zB_spec h
      have hFc := zFree hD hS hA
      refine va_callv (va_runV (As := [.int 1]) (rest := []) ⟨hx, hb, hml, hown, hts⟩ (m_X7_tellAll l dC dI y a7 h7 S7 (1 : Int32) H8.size s7_53 hc54) (cwV 1 hts gX7_readLine_X7_tellAll rfl rfl rfl (by decide +kernel) ⟨Nat.le_of_ble_eq_true rfl, Nat.le_of_ble_eq_true rfl⟩) ⟨fun a U g mk q => by obtain ⟨q0, q1, qP, qK, qD⟩ := q; exact ⟨q0, q1, qP, va_K.moved (u := U) (U := U.calling g mk a) (Vm.Alike.refl U.vm) qK, qD⟩, va_recv hK hP (ci := 6) (q0 := 0) rfl rfl, fun U hU hW => ⟨rfl, by rw [hU], by rw [hU]; exact hP, va_K.moved hW.alike hK, hD.weaken (fun _ _ _ _ => trivial)⟩⟩ rfl rfl hl.1 rfl (lv_room (Nat.le_of_ble_eq_true rfl)) dX7_readLine_30 ⟨Nat.le_of_ble_eq_true rfl, Nat.le_of_ble_eq_true rfl⟩) hS (fun q _ h => hFc q h) hFc (fun u t H55 locs ht hvm hw hB hz1 hk1 hS => ?_)
      obtain ⟨hP1, hK1, hD1⟩ := hB
      rw [ht] at hP1
      have hP := hP1
      have hD := hD1.weaken (fun _ q _ h => hFc q.1 h)
      have hP : va_P (dC, dI) vwCl (cX7 a7 h7 y s7_53) H55 := hP
      have hD : va_D A (cX7 a7 h7 y s7_53) := hD
      refine lv_goto (tgt := 122) hx hb dX7_readLine_33 (by decide) ?_
      have ho0 : s7_53 = o_7 := congrArg (fun z : SS => z) (Option.some.inj h)
      exact W.vret hx hb hr (fun t ht hW => ⟨⟨(), rfl, trivial, by rw [ht]; rw [← ho0]; exact hP, va_K.moved hW.alike hK, by rw [← ho0]; exact hD⟩, hS.F ht⟩) hS.2.2 dX7_readLine_122
  · have h := zN c5 h
    refine lv_aload_n hx hb dX7_readLine_10 rfl (lv_at hl 0 rfl) ?_
    refine lv_iconst (v := 0) hx hb dX7_readLine_11 (by decide) ?_
    obtain ⟨s7_57, hc58, h⟩ := zB_spec h
    have hFc := zFree hD hS hA
    refine va_callv (va_runV (As := [.int 0]) (rest := []) ⟨hx, hb, hml, hown, hts⟩ (m_X7_tellAll l dC dI y a7 h7 S7 (0 : Int32) H3.size s7_57 hc58) (cwV 1 hts gX7_readLine_X7_tellAll rfl rfl rfl (by decide +kernel) ⟨Nat.le_of_ble_eq_true rfl, Nat.le_of_ble_eq_true rfl⟩) ⟨fun a U g mk q => by obtain ⟨q0, q1, qP, qK, qD⟩ := q; exact ⟨q0, q1, qP, va_K.moved (u := U) (U := U.calling g mk a) (Vm.Alike.refl U.vm) qK, qD⟩, va_recv hK hP (ci := 6) (q0 := 0) rfl rfl, fun U hU hW => ⟨rfl, by rw [hU], by rw [hU]; exact hP, va_K.moved hW.alike hK, hD.weaken (fun _ _ _ _ => trivial)⟩⟩ rfl rfl hl.1 rfl (lv_room (Nat.le_of_ble_eq_true rfl)) dX7_readLine_12 ⟨Nat.le_of_ble_eq_true rfl, Nat.le_of_ble_eq_true rfl⟩) hS (fun q _ h => hFc q h) hFc (fun u t H59 locs ht hvm hw hB hz1 hk1 hS => ?_)
    obtain ⟨hP1, hK1, hD1⟩ := hB
    rw [ht] at hP1
    have hP := hP1
    have hD := hD1.weaken (fun _ q _ h => hFc q.1 h)
    have hP : va_P (dC, dI) vwCl (cX7 a7 h7 y s7_57) H59 := hP
    have hD : va_D A (cX7 a7 h7 y s7_57) := hD
    refine lv_goto (tgt := 122) hx hb dX7_readLine_15 (by decide) ?_
    have ho0 : s7_57 = o_7 := congrArg (fun z : SS => z) (Option.some.inj h)
    exact W.vret hx hb hr (fun t ht hW => ⟨⟨(), rfl, trivial, by rw [ht]; rw [← ho0]; exact hP, va_K.moved hW.alike hK, by rw [← ho0]; exact hD⟩, hS.F ht⟩) hS.2.2 dX7_readLine_122

set_option maxHeartbeats 4000000 in
set_option maxRecDepth 100000 in
theorem m_X7_isOfDriver (l : Launch) (dC : Nat → ClassId) (dI : Nat → Nat → Nat) (y : Nat → ClassId) (a7 : Nat) (h7 : Nat → Nat) (S7 : SS) (p1 : Int32) (sz : Nat) (or_ : Int32) (h : f_X7_isOfDriver S7 p1 = some or_) : Met l yX7_isOfDriver wsX7_isOfDriver ({ frames := 0, cells := 0, slots := 0, locals := 0 }) (va_Pc [.ref a7, .int p1] (fun U => U.heap.size = sz ∧ va_P (dC, dI) vwCl (cX7 a7 h7 y S7) U.heap ∧ va_K (dC, dI) vwCl [(y 0, .int), (y 1, .long), (y 2, .byte), (y 3, .boolean)] U ∧ va_D (fun _ => True) (cX7 a7 h7 y S7))) (va_Qi (fun (r : Int32) (_ : Unit) => r = or_) (fun (_ : Unit) (t : State) => va_P (dC, dI) vwCl (cX7 a7 h7 y S7) t.heap ∧ va_K (dC, dI) vwCl [(y 0, .int), (y 1, .long), (y 2, .byte), (y 3, .boolean)] t ∧ va_D (va_A (cX7 a7 h7 y S7) sz) (cX7 a7 h7 y S7)) (va_A (cX7 a7 h7 y S7) sz)) 0 0 (va_A (cX7 a7 h7 y S7) sz) := by
  refine Met.ofW (cc := cX7_isOfDriver) (maxL := 4) (ret := (some .boolean)) (by decide +kernel) rfl ?_
  intro p e s m args below meth c s₁ B hml hv
  obtain ⟨rfl, hsz, hP, hK, hD0⟩ := hv
  have hx := B.exec
  have hb := B.bytes
  have hr := B.returns
  have hts := atoms_spec (ws := wsX7_isOfDriver) B.pre
  have hown : s.vm.findClass RX7 = some m.cls := findClass_of_methodNamed B.named
  have hlocks := B.notSynchronized
  have inX7_ : ∀ w ∈ wsX70, w ∈ wsX7_isOfDriver := fun _ h => List.mem_cons_of_mem _ (List.mem_append_right _ h)
  subst hsz
  have hD := hD0.self (sz := s.heap.size)
  generalize hAe : va_A (cX7 a7 h7 y S7) s.heap.size = A at hD ⊢
  have hA : ∀ q : Nat, s.heap.size ≤ q → A q := fun q h => by rw [← hAe]; exact Or.inr h
  have hS : va_S A s.heap s.heap [] := va_S.rf
  have hP : va_P (dC, dI) vwCl (cX7 a7 h7 y S7) s.heap := hP
  have hl := lv_entry ([.ref a7, .int p1]) (n := 4) (Nat.le_of_ble_eq_true rfl)
  rw [lg_entry_eq]
  generalize (lg_sl ([.ref a7, .int p1]) ++ List.replicate (4 - (lg_sl ([.ref a7, .int p1])).length) Slot.unset).toArray = ls at hl ⊢
  have hl : lv_has ls 4 [(0, .ref a7), (1, .int p1)] := hl
  refine lv_iconst (v := 0) hx hb dX7_isOfDriver_0 (by decide) ?_
  refine lv_istore_n (lv' := [(2, .int 0), (0, .ref a7), (1, .int p1)]) hx hb dX7_isOfDriver_1 rfl hl (by decide) rfl (fun ls hl => ?_)
  refine lv_iconst (v := 0) hx hb dX7_isOfDriver_2 (by decide) ?_
  refine lv_istore_n (lv' := [(3, .int 0), (2, .int 0), (0, .ref a7), (1, .int p1)]) hx hb dX7_isOfDriver_3 rfl hl (by decide) rfl (fun ls hl => ?_)
  refine W_abs (fun GW1 eG2 => ?_)
  have hi6 := h
  have lp4 : ∀ (n : Nat) (v10 : Int32) (v11 : Int32) (HGW1 : Heap) (locs : List Loc) (ls : Array Slot), zI (b_X7_isOfDriver_4 S7 p1) n (v10, v11) = some or_ → va_P (dC, dI) vwCl (cX7 a7 h7 y S7) HGW1 → va_D A (cX7 a7 h7 y S7) → va_S A s.heap HGW1 locs → lv_has ls 4 [(0, .ref a7), (1, .int p1), (2, .int v10), (3, .int v11)] → GW1 HGW1 locs 0 0 (F0 m 4 ls []) := by
    intro n
    induction n with
    | zero =>
      intro v10 v11 HGW1 locs ls hi6 hP hD hS hl
      exact (zI_0 hi6).elim
    | succ n ihlp4 =>
      intro v10 v11 HGW1 locs ls hi6 hP hD hS hl
      refine (eG2 _ _ _ _ _).mpr ?_
      obtain ⟨xx9, h, hx8⟩ := zI_spec hi6
      refine lv_iload_n hx hb dX7_isOfDriver_4 rfl (lv_at hl 3 rfl) ?_
      refine lv_aload_n hx hb dX7_isOfDriver_5 rfl (lv_at hl 0 rfl) ?_
      refine va_get (D := (dC, dI)) (ci := 6) (v := .int (gI S7 28)) (C := RX7) (T := TX7) (N := 49) hx hb hts inX7_ hown hK hP 0 rfl rfl 28 (by decide) (hts (.fieldLink RX7 217 "GateWheelModel" "drivers" "I") (List.mem_of_getElem? (i := 1) rfl)) (fun _ h9 => h9) rfl dX7_isOfDriver_6 ?_
      refine lv_icmp_ge (tgt := 52) hx hb dX7_isOfDriver_9 (by decide) (fun c12 => ?_) (fun c12 => ?_)
      · have h := zY c12 h
        refine lv_iload_n hx hb dX7_isOfDriver_52 rfl (lv_at hl 2 rfl) ?_
        obtain ⟨hz13, h⟩ := zG_spec h
        have h := congrArg some (zI_r h hx8)
        have ho0 : v10 = or_ := congrArg (fun z : Int32 => z) (Option.some.inj h)
        exact W.zret (v := v10) hx hb hr (zb_nar hz13) (fun t ht hW => ⟨⟨v10, (), rfl, ho0, by rw [ht]; exact hP, va_K.moved hW.alike hK, hD⟩, hS.F ht⟩) hS.2.2 dX7_isOfDriver_53
      · have h := zN c12 h
        refine lv_iload_n hx hb dX7_isOfDriver_12 rfl (lv_at hl 2 rfl) ?_
        refine lv_if_ne (tgt := 40) hx hb dX7_isOfDriver_13 (by decide) (fun c14 => ?_) (fun c14 => ?_)
        · have h := zN c14 h
          refine lv_iconst (v := 1) hx hb dX7_isOfDriver_40 (by decide) ?_
          refine lv_goto (tgt := 45) hx hb dX7_isOfDriver_41 (by decide) ?_
          refine lv_istore_n (lv' := [(2, .int 1), (0, .ref a7), (1, .int p1), (3, .int v11)]) hx hb dX7_isOfDriver_45 rfl hl (by decide) rfl (fun ls hl => ?_)
          obtain ⟨v15, ev15, h⟩ := zL_spec h
          refine lv_iinc (v := v15) (lv' := [(3, .int v15), (2, .int 1), (0, .ref a7), (1, .int p1)]) hx hb dX7_isOfDriver_46 hl (k := 3) rfl (by rw [ev15]; rfl) (by decide) rfl (fun ls hl => ?_)
          refine lv_goto (tgt := 4) hx hb dX7_isOfDriver_49 (by decide) ?_
          have h := zI_l h hx8
          exact (eG2 _ _ _ _ _).mp (ihlp4 (1 : Int32) v15 _ _ _ h hP hD hS (lv_sub hl [2, 3, 1, 0] rfl))
        · have h := zY c14 h
          refine lv_iload_n hx hb dX7_isOfDriver_16 rfl (lv_at hl 1 rfl) ?_
          refine lv_aload_n hx hb dX7_isOfDriver_17 rfl (lv_at hl 0 rfl) ?_
          refine va_get (D := (dC, dI)) (ci := 6) (v := .ref (h7 24)) (C := RX7) (T := TX7) (N := 49) hx hb hts inX7_ hown hK hP 0 rfl rfl 24 (by decide) (hts (.fieldLink RX7 62 "GateWheelModel" "dAsk" "[I") (List.mem_of_getElem? (i := 2) rfl)) (fun _ h9 => h9) rfl dX7_isOfDriver_18 ?_
          refine lv_iload_n hx hb dX7_isOfDriver_21 rfl (lv_at hl 3 rfl) ?_
          obtain ⟨hi16, h⟩ := zG_spec h
          refine va_iald hx hb hK hP 16 0 rfl rfl hi16 dX7_isOfDriver_22 ?_
          refine lv_iconst (v := 1) hx hb dX7_isOfDriver_23 (by decide) ?_
          refine lv_iadd hx hb dX7_isOfDriver_24 ?_
          refine lv_icmp_eq (tgt := 40) hx hb dX7_isOfDriver_25 (by decide) (fun c17 => ?_) (fun c17 => ?_)
          · have h := zY c17 h
            refine lv_iconst (v := 1) hx hb dX7_isOfDriver_40 (by decide) ?_
            refine lv_goto (tgt := 45) hx hb dX7_isOfDriver_41 (by decide) ?_
            refine lv_istore_n (lv' := [(2, .int 1), (0, .ref a7), (1, .int p1), (3, .int v11)]) hx hb dX7_isOfDriver_45 rfl hl (by decide) rfl (fun ls hl => ?_)
            obtain ⟨v18, ev18, h⟩ := zL_spec h
            refine lv_iinc (v := v18) (lv' := [(3, .int v18), (2, .int 1), (0, .ref a7), (1, .int p1)]) hx hb dX7_isOfDriver_46 hl (k := 3) rfl (by rw [ev18]; rfl) (by decide) rfl (fun ls hl => ?_)
            refine lv_goto (tgt := 4) hx hb dX7_isOfDriver_49 (by decide) ?_
            have h := zI_l h hx8
            exact (eG2 _ _ _ _ _).mp (ihlp4 (1 : Int32) v18 _ _ _ h hP hD hS (lv_sub hl [2, 3, 1, 0] rfl))
          · have h := zN c17 h
            refine lv_iload_n hx hb dX7_isOfDriver_28 rfl (lv_at hl 1 rfl) ?_
            refine lv_aload_n hx hb dX7_isOfDriver_29 rfl (lv_at hl 0 rfl) ?_
            refine va_get (D := (dC, dI)) (ci := 6) (v := .ref (h7 24)) (C := RX7) (T := TX7) (N := 49) hx hb hts inX7_ hown hK hP 0 rfl rfl 24 (by decide) (hts (.fieldLink RX7 62 "GateWheelModel" "dAsk" "[I") (List.mem_of_getElem? (i := 2) rfl)) (fun _ h9 => h9) rfl dX7_isOfDriver_30 ?_
            refine lv_iload_n hx hb dX7_isOfDriver_33 rfl (lv_at hl 3 rfl) ?_
            refine va_iald hx hb hK hP 16 0 rfl rfl hi16 dX7_isOfDriver_34 ?_
            refine lv_iconst (v := 2) hx hb dX7_isOfDriver_35 (by decide) ?_
            refine lv_iadd hx hb dX7_isOfDriver_36 ?_
            refine lv_icmp_ne (tgt := 44) hx hb dX7_isOfDriver_37 (by decide) (fun c19 => ?_) (fun c19 => ?_)
            · have h := zN c19 h
              refine lv_iconst (v := 0) hx hb dX7_isOfDriver_44 (by decide) ?_
              refine lv_istore_n (lv' := [(2, .int 0), (0, .ref a7), (1, .int p1), (3, .int v11)]) hx hb dX7_isOfDriver_45 rfl hl (by decide) rfl (fun ls hl => ?_)
              obtain ⟨v20, ev20, h⟩ := zL_spec h
              refine lv_iinc (v := v20) (lv' := [(3, .int v20), (2, .int 0), (0, .ref a7), (1, .int p1)]) hx hb dX7_isOfDriver_46 hl (k := 3) rfl (by rw [ev20]; rfl) (by decide) rfl (fun ls hl => ?_)
              refine lv_goto (tgt := 4) hx hb dX7_isOfDriver_49 (by decide) ?_
              have h := zI_l h hx8
              exact (eG2 _ _ _ _ _).mp (ihlp4 (0 : Int32) v20 _ _ _ h hP hD hS (lv_sub hl [2, 3, 1, 0] rfl))
            · have h := zY c19 h
              refine lv_iconst (v := 1) hx hb dX7_isOfDriver_40 (by decide) ?_
              refine lv_goto (tgt := 45) hx hb dX7_isOfDriver_41 (by decide) ?_
              refine lv_istore_n (lv' := [(2, .int 1), (0, .ref a7), (1, .int p1), (3, .int v11)]) hx hb dX7_isOfDriver_45 rfl hl (by decide) rfl (fun ls hl => ?_)
              obtain ⟨v21, ev21, h⟩ := zL_spec h
              refine lv_iinc (v := v21) (lv' := [(3, .int v21), (2, .int 1), (0, .ref a7), (1, .int p1)]) hx hb dX7_isOfDriver_46 hl (k := 3) rfl (by rw [ev21]; rfl) (by decide) rfl (fun ls hl => ?_)
              refine lv_goto (tgt := 4) hx hb dX7_isOfDriver_49 (by decide) ?_
              have h := zI_l h hx8
              exact (eG2 _ _ _ _ _).mp (ihlp4 (1 : Int32) v21 _ _ _ h hP hD hS (lv_sub hl [2, 3, 1, 0] rfl))
  exact lp4 zF (0 : Int32) (0 : Int32) _ _ _ hi6 hP hD hS (lv_sub hl [2, 3, 1, 0] rfl)

set_option maxHeartbeats 4000000 in
set_option maxRecDepth 100000 in
theorem m_X7_resolve (l : Launch) (dC : Nat → ClassId) (dI : Nat → Nat → Nat) (y : Nat → ClassId) (a7 : Nat) (h7 : Nat → Nat) (S7 : SS) (sz : Nat) (o_7 : SS) (h : f_X7_resolve S7 = some o_7) : Met l yX7_resolve wsX7_resolve ({ frames := 1, cells := 0, slots := 0, locals := 23 }) (va_Pc [.ref a7] (fun U => U.heap.size = sz ∧ va_P (dC, dI) vwCl (cX7 a7 h7 y S7) U.heap ∧ va_K (dC, dI) vwCl [(y 0, .int), (y 1, .long), (y 2, .byte), (y 3, .boolean)] U ∧ va_D (fun _ => True) (cX7 a7 h7 y S7))) (va_Qv (fun (_ : Unit) => True) (fun (_ : Unit) (t : State) => va_P (dC, dI) vwCl (cX7 a7 h7 y o_7) t.heap ∧ va_K (dC, dI) vwCl [(y 0, .int), (y 1, .long), (y 2, .byte), (y 3, .boolean)] t ∧ va_D (va_A (cX7 a7 h7 y S7) sz) (cX7 a7 h7 y o_7)) (va_A (cX7 a7 h7 y S7) sz)) 0 0 (va_A (cX7 a7 h7 y S7) sz) := by
  refine Met.ofW (cc := cX7_resolve) (maxL := 3) (ret := none) (by decide +kernel) rfl ?_
  intro p e s m args below meth c s₁ B hml hv
  obtain ⟨rfl, hsz, hP, hK, hD0⟩ := hv
  have hx := B.exec
  have hb := B.bytes
  have hr := B.returns
  have hts := atoms_spec (ws := wsX7_resolve) B.pre
  have hown : s.vm.findClass RX7 = some m.cls := findClass_of_methodNamed B.named
  have hlocks := B.notSynchronized
  have inX7_ : ∀ w ∈ wsX70, w ∈ wsX7_resolve := fun _ h => List.mem_cons_of_mem _ (List.mem_append_right _ h)
  subst hsz
  have hD := hD0.self (sz := s.heap.size)
  generalize hAe : va_A (cX7 a7 h7 y S7) s.heap.size = A at hD ⊢
  have hA : ∀ q : Nat, s.heap.size ≤ q → A q := fun q h => by rw [← hAe]; exact Or.inr h
  have hS : va_S A s.heap s.heap [] := va_S.rf
  have hP : va_P (dC, dI) vwCl (cX7 a7 h7 y S7) s.heap := hP
  have hl := lv_entry ([.ref a7]) (n := 3) (Nat.le_of_ble_eq_true rfl)
  rw [lg_entry_eq]
  generalize (lg_sl ([.ref a7]) ++ List.replicate (3 - (lg_sl ([.ref a7])).length) Slot.unset).toArray = ls at hl ⊢
  have hl : lv_has ls 3 [(0, .ref a7)] := hl
  refine lv_iconst (v := 0) hx hb dX7_resolve_0 (by decide) ?_
  refine lv_istore_n (lv' := [(1, .int 0), (0, .ref a7)]) hx hb dX7_resolve_1 rfl hl (by decide) rfl (fun ls hl => ?_)
  refine W_abs (fun GW1 eG2 => ?_)
  obtain ⟨ov5, hi6, h⟩ := zB_spec h
  have je3 : ∀ (s7_10 : SS) (HGW1e : Heap) (locs : List Loc) (ls : Array Slot), s7_10 = ov5 → va_P (dC, dI) vwCl (cX7 a7 h7 y s7_10) HGW1e → va_D A (cX7 a7 h7 y s7_10) → va_S A s.heap HGW1e locs → lv_has ls 3 [(0, .ref a7)] → GW1 HGW1e locs 0 0 (F0 m 77 ls []) := by
    intro s7_10 HGW1e locs ls hv hP hD hS hl
    subst hv
    refine (eG2 _ _ _ _ _).mpr ?_
    refine lv_aload_n hx hb dX7_resolve_77 rfl (lv_at hl 0 rfl) ?_
    obtain ⟨r11, hc12, h⟩ := zB_spec h
    have hFc := zFree hD hS hA
    refine va_calli (va_runV (As := []) (rest := []) ⟨hx, hb, hml, hown, hts⟩ (m_X7_isGood l dC dI y a7 h7 s7_10 HGW1e.size r11 hc12) (cwV 0 hts gX7_resolve_X7_isGood rfl rfl rfl (by decide +kernel) ⟨Nat.le_of_ble_eq_true rfl, Nat.le_of_ble_eq_true rfl⟩) ⟨fun a U g mk q => by obtain ⟨q0, q1, qP, qK, qD⟩ := q; exact ⟨q0, q1, qP, va_K.moved (u := U) (U := U.calling g mk a) (Vm.Alike.refl U.vm) qK, qD⟩, va_recv hK hP (ci := 6) (q0 := 0) rfl rfl, fun U hU hW => ⟨rfl, by rw [hU], by rw [hU]; exact hP, va_K.moved hW.alike hK, hD.weaken (fun _ _ _ _ => trivial)⟩⟩ rfl rfl hl.1 rfl (lv_room (Nat.le_of_ble_eq_true rfl)) dX7_resolve_78 ⟨Nat.le_of_ble_eq_true rfl, Nat.le_of_ble_eq_true rfl⟩) hS (fun q _ h => hFc q h) hFc (fun rr14 u t H13 locs ht hvm hw hB hz1 hk1 hS => ?_)
    obtain ⟨hP1, hK1, hD1⟩ := hB
    rw [ht] at hP1
    refine zTopi hw.symm ?_
    have hP := hP1
    have hD := hD1.weaken (fun _ q _ h => hFc q.1 h)
    have hP : va_P (dC, dI) vwCl (cX7 a7 h7 y s7_10) H13 := hP
    have hD : va_D A (cX7 a7 h7 y s7_10) := hD
    refine lv_if_ne (tgt := 85) hx hb dX7_resolve_81 (by decide) (fun c15 => ?_) (fun c15 => ?_)
    · have h := zN c15 h
      refine lv_iconst (v := 0) hx hb dX7_resolve_85 (by decide) ?_
      refine lv_istore_n (lv' := [(1, .int 0), (0, .ref a7)]) hx hb dX7_resolve_86 rfl hl (by decide) rfl (fun ls hl => ?_)
      refine W_abs (fun GW16 eG17 => ?_)
      obtain ⟨ov20, hi21, h⟩ := zB_spec h
      have je18 : ∀ (s7_25 : SS) (HGW16e : Heap) (locs : List Loc) (ls : Array Slot), s7_25 = ov20 → va_P (dC, dI) vwCl (cX7 a7 h7 y s7_25) HGW16e → va_D A (cX7 a7 h7 y s7_25) → va_S A s.heap HGW16e locs → lv_has ls 3 [(0, .ref a7)] → GW16 HGW16e locs 0 0 (F0 m 140 ls []) := by
        intro s7_25 HGW16e locs ls hv hP hD hS hl
        subst hv
        refine (eG17 _ _ _ _ _).mpr ?_
        refine lv_iconst (v := 0) hx hb dX7_resolve_140 (by decide) ?_
        refine lv_istore_n (lv' := [(1, .int 0), (0, .ref a7)]) hx hb dX7_resolve_141 rfl hl (by decide) rfl (fun ls hl => ?_)
        refine W_abs (fun GW26 eG27 => ?_)
        have hi31 := h
        have lp29 : ∀ (n : Nat) (v35 : Int32) (s7_36 : SS) (HGW26 : Heap) (locs : List Loc) (ls : Array Slot), zI (b_X7_resolve_142) n (v35, s7_36) = some o_7 → va_P (dC, dI) vwCl (cX7 a7 h7 y s7_36) HGW26 → va_D A (cX7 a7 h7 y s7_36) → va_S A s.heap HGW26 locs → lv_has ls 3 [(0, .ref a7), (1, .int v35)] → GW26 HGW26 locs 0 0 (F0 m 142 ls []) := by
          intro n
          induction n with
          | zero =>
            intro v35 s7_36 HGW26 locs ls hi31 hP hD hS hl
            exact (zI_0 hi31).elim
          | succ n ihlp29 =>
            intro v35 s7_36 HGW26 locs ls hi31 hP hD hS hl
            refine (eG27 _ _ _ _ _).mpr ?_
            obtain ⟨xx34, h, hx33⟩ := zI_spec hi31
            refine lv_iload_n hx hb dX7_resolve_142 rfl (lv_at hl 1 rfl) ?_
            refine lv_aload_n hx hb dX7_resolve_143 rfl (lv_at hl 0 rfl) ?_
            refine va_get (D := (dC, dI)) (ci := 6) (v := .int (gI s7_36 28)) (C := RX7) (T := TX7) (N := 49) hx hb hts inX7_ hown hK hP 0 rfl rfl 28 (by decide) (hts (.fieldLink RX7 217 "GateWheelModel" "drivers" "I") (List.mem_of_getElem? (i := 8) rfl)) (fun _ h9 => h9) rfl dX7_resolve_144 ?_
            refine lv_icmp_ge (tgt := 279) hx hb dX7_resolve_147 (by decide) (fun c37 => ?_) (fun c37 => ?_)
            · have h := zY c37 h
              have h := congrArg some (zI_r h hx33)
              have ho0 : s7_36 = o_7 := congrArg (fun z : SS => z) (Option.some.inj h)
              exact W.vret hx hb hr (fun t ht hW => ⟨⟨(), rfl, trivial, by rw [ht]; rw [← ho0]; exact hP, va_K.moved hW.alike hK, by rw [← ho0]; exact hD⟩, hS.F ht⟩) hS.2.2 dX7_resolve_279
            · have h := zN c37 h
              refine lv_bipush (v := 60) hx hb dX7_resolve_150 (by decide) ?_
              refine lv_aload_n hx hb dX7_resolve_152 rfl (lv_at hl 0 rfl) ?_
              refine va_get (D := (dC, dI)) (ci := 6) (v := .int (gI s7_36 30)) (C := RX7) (T := TX7) (N := 49) hx hb hts inX7_ hown hK hP 0 rfl rfl 30 (by decide) (hts (.fieldLink RX7 188 "GateWheelModel" "bank" "I") (List.mem_of_getElem? (i := 5) rfl)) (fun _ h9 => h9) rfl dX7_resolve_153 ?_
              refine lv_imul hx hb dX7_resolve_156 ?_
              refine lv_aload_n hx hb dX7_resolve_157 rfl (lv_at hl 0 rfl) ?_
              refine lv_aload_n hx hb dX7_resolve_158 rfl (lv_at hl 0 rfl) ?_
              refine va_get (D := (dC, dI)) (ci := 6) (v := .ref (h7 23)) (C := RX7) (T := TX7) (N := 49) hx hb hts inX7_ hown hK hP 0 rfl rfl 23 (by decide) (hts (.fieldLink RX7 59 "GateWheelModel" "dBus" "[J") (List.mem_of_getElem? (i := 9) rfl)) (fun _ h9 => h9) rfl dX7_resolve_159 ?_
              refine lv_iload_n hx hb dX7_resolve_162 rfl (lv_at hl 1 rfl) ?_
              obtain ⟨hi38, h⟩ := zG_spec h
              refine va_lald hx hb hK hP 15 1 rfl rfl hi38 dX7_resolve_163 ?_
              obtain ⟨r39, hc40, h⟩ := zB_spec h
              have hFc := zFree hD hS hA
              refine va_calli (va_runV (As := [.long (gB s7_36 23 v35.toNatClampNeg)]) (rest := [.int ((60 : Int32) * (gI s7_36 30))]) ⟨hx, hb, hml, hown, hts⟩ (m_X7_newOf l dC dI y a7 h7 s7_36 (gB s7_36 23 v35.toNatClampNeg) HGW26.size r39 hc40) (cwV 1 hts gX7_resolve_X7_newOf rfl rfl rfl (by decide +kernel) ⟨Nat.le_of_ble_eq_true rfl, Nat.le_of_ble_eq_true rfl⟩) ⟨fun a U g mk q => by obtain ⟨q0, q1, qP, qK, qD⟩ := q; exact ⟨q0, q1, qP, va_K.moved (u := U) (U := U.calling g mk a) (Vm.Alike.refl U.vm) qK, qD⟩, va_recv hK hP (ci := 6) (q0 := 0) rfl rfl, fun U hU hW => ⟨rfl, by rw [hU], by rw [hU]; exact hP, va_K.moved hW.alike hK, hD.weaken (fun _ _ _ _ => trivial)⟩⟩ rfl rfl hl.1 rfl (lv_room (Nat.le_of_ble_eq_true rfl)) dX7_resolve_164 ⟨Nat.le_of_ble_eq_true rfl, Nat.le_of_ble_eq_true rfl⟩) hS (fun q _ h => hFc q h) hFc (fun rr42 u t H41 locs ht hvm hw hB hz1 hk1 hS => ?_)
              obtain ⟨hP1, hK1, hD1⟩ := hB
              rw [ht] at hP1
              refine zTopi hw.symm ?_
              have hP := hP1
              have hD := hD1.weaken (fun _ q _ h => hFc q.1 h)
              have hP : va_P (dC, dI) vwCl (cX7 a7 h7 y s7_36) H41 := hP
              have hD : va_D A (cX7 a7 h7 y s7_36) := hD
              refine lv_iadd hx hb dX7_resolve_167 ?_
              obtain ⟨v43, ev43, h⟩ := zL_spec h
              refine zTopi ev43 ?_
              refine lv_istore_n (lv' := [(2, .int v43), (0, .ref a7), (1, .int v35)]) hx hb dX7_resolve_168 rfl hl (by decide) rfl (fun ls hl => ?_)
              refine lv_aload_n hx hb dX7_resolve_169 rfl (lv_at hl 1 rfl) ?_
              refine va_get (D := (dC, dI)) (ci := 6) (v := .ref (h7 19)) (C := RX7) (T := TX7) (N := 49) hx hb hts inX7_ hown hK hP 0 rfl rfl 19 (by decide) (hts (.fieldLink RX7 46 "GateWheelModel" "isIf1" "[Z") (List.mem_of_getElem? (i := 10) rfl)) (fun _ h9 => h9) rfl dX7_resolve_170 ?_
              refine lv_bipush (v := 6) hx hb dX7_resolve_173 (by decide) ?_
              refine lv_iload_n hx hb dX7_resolve_175 rfl (lv_at hl 0 rfl) ?_
              refine lv_imul hx hb dX7_resolve_176 ?_
              refine lv_aload_n hx hb dX7_resolve_177 rfl (lv_at hl 1 rfl) ?_
              refine va_get (D := (dC, dI)) (ci := 6) (v := .ref (h7 14)) (C := RX7) (T := TX7) (N := 49) hx hb hts inX7_ hown hK hP 0 rfl rfl 14 (by decide) (hts (.fieldLink RX7 31 "GateWheelModel" "nMany" "[I") (List.mem_of_getElem? (i := 11) rfl)) (fun _ h9 => h9) rfl dX7_resolve_178 ?_
              refine lv_iload_n hx hb dX7_resolve_181 rfl (lv_at hl 0 rfl) ?_
              obtain ⟨hi44, h⟩ := zG_spec h
              refine va_iald hx hb hK hP 6 0 rfl rfl hi44 dX7_resolve_182 ?_
              refine lv_iadd hx hb dX7_resolve_183 ?_
              refine lv_aload_n hx hb dX7_resolve_184 rfl (lv_at hl 1 rfl) ?_
              refine va_get (D := (dC, dI)) (ci := 6) (v := .ref (h7 25)) (C := RX7) (T := TX7) (N := 49) hx hb hts inX7_ hown hK hP 0 rfl rfl 25 (by decide) (hts (.fieldLink RX7 65 "GateWheelModel" "dIf1" "[Z") (List.mem_of_getElem? (i := 12) rfl)) (fun _ h9 => h9) rfl dX7_resolve_185 ?_
              refine lv_iload_n hx hb dX7_resolve_188 rfl (lv_at hl 2 rfl) ?_
              refine va_zald hx hb hK hP 17 3 rfl rfl hi38 dX7_resolve_189 ?_
              obtain ⟨hi45, h⟩ := zG_spec h
              refine va_zast hx hb hK hP hD hS 11 3 rfl rfl hi45 dX7_resolve_190 (fun H46 locs hP hD hS => ?_)
              obtain ⟨s7_47, es7_47, h⟩ := zL_spec h
              have hP : va_P (dC, dI) vwCl (cX7 a7 h7 y s7_47) H46 := by rw [es7_47]; exact hP
              have hD : va_D A (cX7 a7 h7 y s7_47) := by rw [es7_47]; exact hD
              refine lv_aload_n hx hb dX7_resolve_191 rfl (lv_at hl 1 rfl) ?_
              refine va_get (D := (dC, dI)) (ci := 6) (v := .ref (h7 16)) (C := RX7) (T := TX7) (N := 49) hx hb hts inX7_ hown hK hP 0 rfl rfl 16 (by decide) (hts (.fieldLink RX7 37 "GateWheelModel" "nIn" "[I") (List.mem_of_getElem? (i := 7) rfl)) (fun _ h9 => h9) rfl dX7_resolve_192 ?_
              refine lv_bipush (v := 12) hx hb dX7_resolve_195 (by decide) ?_
              refine lv_iload_n hx hb dX7_resolve_197 rfl (lv_at hl 0 rfl) ?_
              refine lv_imul hx hb dX7_resolve_198 ?_
              refine lv_iconst (v := 2) hx hb dX7_resolve_199 (by decide) ?_
              refine lv_aload_n hx hb dX7_resolve_200 rfl (lv_at hl 1 rfl) ?_
              refine va_get (D := (dC, dI)) (ci := 6) (v := .ref (h7 14)) (C := RX7) (T := TX7) (N := 49) hx hb hts inX7_ hown hK hP 0 rfl rfl 14 (by decide) (hts (.fieldLink RX7 31 "GateWheelModel" "nMany" "[I") (List.mem_of_getElem? (i := 11) rfl)) (fun _ h9 => h9) rfl dX7_resolve_201 ?_
              refine lv_iload_n hx hb dX7_resolve_204 rfl (lv_at hl 0 rfl) ?_
              refine va_iald hx hb hK hP 6 0 rfl rfl hi44 dX7_resolve_205 ?_
              refine lv_imul hx hb dX7_resolve_206 ?_
              refine lv_iadd hx hb dX7_resolve_207 ?_
              refine lv_aload_n hx hb dX7_resolve_208 rfl (lv_at hl 1 rfl) ?_
              refine lv_aload_n hx hb dX7_resolve_209 rfl (lv_at hl 1 rfl) ?_
              refine va_get (D := (dC, dI)) (ci := 6) (v := .ref (h7 20)) (C := RX7) (T := TX7) (N := 49) hx hb hts inX7_ hown hK hP 0 rfl rfl 20 (by decide) (hts (.fieldLink RX7 50 "GateWheelModel" "aName" "[J") (List.mem_of_getElem? (i := 2) rfl)) (fun _ h9 => h9) rfl dX7_resolve_210 ?_
              refine lv_aload_n hx hb dX7_resolve_213 rfl (lv_at hl 1 rfl) ?_
              refine va_get (D := (dC, dI)) (ci := 6) (v := .ref (h7 24)) (C := RX7) (T := TX7) (N := 49) hx hb hts inX7_ hown hK hP 0 rfl rfl 24 (by decide) (hts (.fieldLink RX7 62 "GateWheelModel" "dAsk" "[I") (List.mem_of_getElem? (i := 13) rfl)) (fun _ h9 => h9) rfl dX7_resolve_214 ?_
              refine lv_iload_n hx hb dX7_resolve_217 rfl (lv_at hl 2 rfl) ?_
              refine va_iald hx hb hK hP 16 0 rfl rfl hi38 dX7_resolve_218 ?_
              refine lv_iconst (v := 1) hx hb dX7_resolve_219 (by decide) ?_
              refine lv_iadd hx hb dX7_resolve_220 ?_
              obtain ⟨hi48, h⟩ := zG_spec h
              refine va_lald hx hb hK hP 12 1 rfl rfl hi48 dX7_resolve_221 ?_
              obtain ⟨r49, hc50, h⟩ := zB_spec h
              have hFc := zFree hD hS hA
              refine va_calli (va_runV (As := [.long (gB s7_47 20 ((gA s7_47 24 v35.toNatClampNeg) + (1 : Int32)).toNatClampNeg)]) (rest := [.int (((12 : Int32) * v43) + ((2 : Int32) * (gA s7_47 14 v43.toNatClampNeg))), .ref (h7 16)]) ⟨hx, hb, hml, hown, hts⟩ (m_X7_newOf l dC dI y a7 h7 s7_47 (gB s7_47 20 ((gA s7_47 24 v35.toNatClampNeg) + (1 : Int32)).toNatClampNeg) H46.size r49 hc50) (cwV 1 hts gX7_resolve_X7_newOf rfl rfl rfl (by decide +kernel) ⟨Nat.le_of_ble_eq_true rfl, Nat.le_of_ble_eq_true rfl⟩) ⟨fun a U g mk q => by obtain ⟨q0, q1, qP, qK, qD⟩ := q; exact ⟨q0, q1, qP, va_K.moved (u := U) (U := U.calling g mk a) (Vm.Alike.refl U.vm) qK, qD⟩, va_recv hK hP (ci := 6) (q0 := 0) rfl rfl, fun U hU hW => ⟨rfl, by rw [hU], by rw [hU]; exact hP, va_K.moved hW.alike hK, hD.weaken (fun _ _ _ _ => trivial)⟩⟩ rfl rfl hl.1 rfl (lv_room (Nat.le_of_ble_eq_true rfl)) dX7_resolve_222 ⟨Nat.le_of_ble_eq_true rfl, Nat.le_of_ble_eq_true rfl⟩) hS (fun q _ h => hFc q h) hFc (fun rr52 u t H51 locs ht hvm hw hB hz1 hk1 hS => ?_)
              obtain ⟨hP1, hK1, hD1⟩ := hB
              rw [ht] at hP1
              refine zTopi hw.symm ?_
              have hP := hP1
              have hD := hD1.weaken (fun _ q _ h => hFc q.1 h)
              have hP : va_P (dC, dI) vwCl (cX7 a7 h7 y s7_47) H51 := hP
              have hD : va_D A (cX7 a7 h7 y s7_47) := hD
              obtain ⟨hi53, h⟩ := zG_spec h
              refine va_iast hx hb hK hP hD hS 8 0 rfl rfl hi53 dX7_resolve_225 (fun H54 locs hP hD hS => ?_)
              obtain ⟨s7_55, es7_55, h⟩ := zL_spec h
              have hP : va_P (dC, dI) vwCl (cX7 a7 h7 y s7_55) H54 := by rw [es7_55]; exact hP
              have hD : va_D A (cX7 a7 h7 y s7_55) := by rw [es7_55]; exact hD
              refine lv_aload_n hx hb dX7_resolve_226 rfl (lv_at hl 1 rfl) ?_
              refine va_get (D := (dC, dI)) (ci := 6) (v := .ref (h7 16)) (C := RX7) (T := TX7) (N := 49) hx hb hts inX7_ hown hK hP 0 rfl rfl 16 (by decide) (hts (.fieldLink RX7 37 "GateWheelModel" "nIn" "[I") (List.mem_of_getElem? (i := 7) rfl)) (fun _ h9 => h9) rfl dX7_resolve_227 ?_
              refine lv_bipush (v := 12) hx hb dX7_resolve_230 (by decide) ?_
              refine lv_iload_n hx hb dX7_resolve_232 rfl (lv_at hl 0 rfl) ?_
              refine lv_imul hx hb dX7_resolve_233 ?_
              refine lv_iconst (v := 2) hx hb dX7_resolve_234 (by decide) ?_
              refine lv_aload_n hx hb dX7_resolve_235 rfl (lv_at hl 1 rfl) ?_
              refine va_get (D := (dC, dI)) (ci := 6) (v := .ref (h7 14)) (C := RX7) (T := TX7) (N := 49) hx hb hts inX7_ hown hK hP 0 rfl rfl 14 (by decide) (hts (.fieldLink RX7 31 "GateWheelModel" "nMany" "[I") (List.mem_of_getElem? (i := 11) rfl)) (fun _ h9 => h9) rfl dX7_resolve_236 ?_
              refine lv_iload_n hx hb dX7_resolve_239 rfl (lv_at hl 0 rfl) ?_
              refine va_iald hx hb hK hP 6 0 rfl rfl hi44 dX7_resolve_240 ?_
              refine lv_imul hx hb dX7_resolve_241 ?_
              refine lv_iadd hx hb dX7_resolve_242 ?_
              refine lv_iconst (v := 1) hx hb dX7_resolve_243 (by decide) ?_
              refine lv_iadd hx hb dX7_resolve_244 ?_
              refine lv_aload_n hx hb dX7_resolve_245 rfl (lv_at hl 1 rfl) ?_
              refine lv_aload_n hx hb dX7_resolve_246 rfl (lv_at hl 1 rfl) ?_
              refine va_get (D := (dC, dI)) (ci := 6) (v := .ref (h7 20)) (C := RX7) (T := TX7) (N := 49) hx hb hts inX7_ hown hK hP 0 rfl rfl 20 (by decide) (hts (.fieldLink RX7 50 "GateWheelModel" "aName" "[J") (List.mem_of_getElem? (i := 2) rfl)) (fun _ h9 => h9) rfl dX7_resolve_247 ?_
              refine lv_aload_n hx hb dX7_resolve_250 rfl (lv_at hl 1 rfl) ?_
              refine va_get (D := (dC, dI)) (ci := 6) (v := .ref (h7 24)) (C := RX7) (T := TX7) (N := 49) hx hb hts inX7_ hown hK hP 0 rfl rfl 24 (by decide) (hts (.fieldLink RX7 62 "GateWheelModel" "dAsk" "[I") (List.mem_of_getElem? (i := 13) rfl)) (fun _ h9 => h9) rfl dX7_resolve_251 ?_
              refine lv_iload_n hx hb dX7_resolve_254 rfl (lv_at hl 2 rfl) ?_
              refine va_iald hx hb hK hP 16 0 rfl rfl hi38 dX7_resolve_255 ?_
              refine lv_iconst (v := 2) hx hb dX7_resolve_256 (by decide) ?_
              refine lv_iadd hx hb dX7_resolve_257 ?_
              obtain ⟨hi56, h⟩ := zG_spec h
              refine va_lald hx hb hK hP 12 1 rfl rfl hi56 dX7_resolve_258 ?_
              obtain ⟨r57, hc58, h⟩ := zB_spec h
              have hFc := zFree hD hS hA
              refine va_calli (va_runV (As := [.long (gB s7_55 20 ((gA s7_55 24 v35.toNatClampNeg) + (2 : Int32)).toNatClampNeg)]) (rest := [.int ((((12 : Int32) * v43) + ((2 : Int32) * (gA s7_55 14 v43.toNatClampNeg))) + (1 : Int32)), .ref (h7 16)]) ⟨hx, hb, hml, hown, hts⟩ (m_X7_newOf l dC dI y a7 h7 s7_55 (gB s7_55 20 ((gA s7_55 24 v35.toNatClampNeg) + (2 : Int32)).toNatClampNeg) H54.size r57 hc58) (cwV 1 hts gX7_resolve_X7_newOf rfl rfl rfl (by decide +kernel) ⟨Nat.le_of_ble_eq_true rfl, Nat.le_of_ble_eq_true rfl⟩) ⟨fun a U g mk q => by obtain ⟨q0, q1, qP, qK, qD⟩ := q; exact ⟨q0, q1, qP, va_K.moved (u := U) (U := U.calling g mk a) (Vm.Alike.refl U.vm) qK, qD⟩, va_recv hK hP (ci := 6) (q0 := 0) rfl rfl, fun U hU hW => ⟨rfl, by rw [hU], by rw [hU]; exact hP, va_K.moved hW.alike hK, hD.weaken (fun _ _ _ _ => trivial)⟩⟩ rfl rfl hl.1 rfl (lv_room (Nat.le_of_ble_eq_true rfl)) dX7_resolve_259 ⟨Nat.le_of_ble_eq_true rfl, Nat.le_of_ble_eq_true rfl⟩) hS (fun q _ h => hFc q h) hFc (fun rr60 u t H59 locs ht hvm hw hB hz1 hk1 hS => ?_)
              obtain ⟨hP1, hK1, hD1⟩ := hB
              rw [ht] at hP1
              refine zTopi hw.symm ?_
              have hP := hP1
              have hD := hD1.weaken (fun _ q _ h => hFc q.1 h)
              have hP : va_P (dC, dI) vwCl (cX7 a7 h7 y s7_55) H59 := hP
              have hD : va_D A (cX7 a7 h7 y s7_55) := hD
              obtain ⟨hi61, h⟩ := zG_spec h
              refine va_iast hx hb hK hP hD hS 8 0 rfl rfl hi61 dX7_resolve_262 (fun H62 locs hP hD hS => ?_)
              obtain ⟨s7_63, es7_63, h⟩ := zL_spec h
              have hP : va_P (dC, dI) vwCl (cX7 a7 h7 y s7_63) H62 := by rw [es7_63]; exact hP
              have hD : va_D A (cX7 a7 h7 y s7_63) := by rw [es7_63]; exact hD
              refine lv_aload_n hx hb dX7_resolve_263 rfl (lv_at hl 1 rfl) ?_
              refine va_get (D := (dC, dI)) (ci := 6) (v := .ref (h7 14)) (C := RX7) (T := TX7) (N := 49) hx hb hts inX7_ hown hK hP 0 rfl rfl 14 (by decide) (hts (.fieldLink RX7 31 "GateWheelModel" "nMany" "[I") (List.mem_of_getElem? (i := 11) rfl)) (fun _ h9 => h9) rfl dX7_resolve_264 ?_
              refine lv_iload_n hx hb dX7_resolve_267 rfl (lv_at hl 0 rfl) ?_
              refine lv_dup2_11 hx hb dX7_resolve_268 rfl rfl ?_
              refine va_iald hx hb hK hP 6 0 rfl rfl hi44 dX7_resolve_269 ?_
              refine lv_iconst (v := 1) hx hb dX7_resolve_270 (by decide) ?_
              refine lv_iadd hx hb dX7_resolve_271 ?_
              refine va_iast hx hb hK hP hD hS 6 0 rfl rfl hi44 dX7_resolve_272 (fun H64 locs hP hD hS => ?_)
              obtain ⟨s7_65, es7_65, h⟩ := zL_spec h
              have hP : va_P (dC, dI) vwCl (cX7 a7 h7 y s7_65) H64 := by rw [es7_65]; exact hP
              have hD : va_D A (cX7 a7 h7 y s7_65) := by rw [es7_65]; exact hD
              obtain ⟨v66, ev66, h⟩ := zL_spec h
              refine lv_iinc (v := v66) (lv' := [(1, .int v66), (2, .int v43), (0, .ref a7)]) hx hb dX7_resolve_273 hl (k := 2) rfl (by rw [ev66]; rfl) (by decide) rfl (fun ls hl => ?_)
              refine lv_goto (tgt := 142) hx hb dX7_resolve_276 (by decide) ?_
              have h := zI_l h hx33
              exact (eG27 _ _ _ _ _).mp (ihlp29 v66 s7_65 _ _ _ h hP hD hS (lv_sub hl [2, 0] rfl))
        exact lp29 zF (0 : Int32) s7_25 _ _ _ hi31 hP hD hS (lv_sub hl [1, 0] rfl)
      have lp19 : ∀ (n : Nat) (v67 : Int32) (s7_68 : SS) (HGW16 : Heap) (locs : List Loc) (ls : Array Slot), zI (b_X7_resolve_87) n (v67, s7_68) = some ov20 → va_P (dC, dI) vwCl (cX7 a7 h7 y s7_68) HGW16 → va_D A (cX7 a7 h7 y s7_68) → va_S A s.heap HGW16 locs → lv_has ls 3 [(0, .ref a7), (1, .int v67)] → GW16 HGW16 locs 0 0 (F0 m 87 ls []) := by
        intro n
        induction n with
        | zero =>
          intro v67 s7_68 HGW16 locs ls hi21 hP hD hS hl
          exact (zI_0 hi21).elim
        | succ n ihlp19 =>
          intro v67 s7_68 HGW16 locs ls hi21 hP hD hS hl
          refine (eG17 _ _ _ _ _).mpr ?_
          obtain ⟨xx24, h, hx23⟩ := zI_spec hi21
          refine lv_iload_n hx hb dX7_resolve_87 rfl (lv_at hl 1 rfl) ?_
          refine lv_aload_n hx hb dX7_resolve_88 rfl (lv_at hl 0 rfl) ?_
          refine va_get (D := (dC, dI)) (ci := 6) (v := .int (gI s7_68 27)) (C := RX7) (T := TX7) (N := 49) hx hb hts inX7_ hown hK hP 0 rfl rfl 27 (by decide) (hts (.fieldLink RX7 198 "GateWheelModel" "asks" "I") (List.mem_of_getElem? (i := 1) rfl)) (fun _ h9 => h9) rfl dX7_resolve_89 ?_
          refine lv_icmp_ge (tgt := 140) hx hb dX7_resolve_92 (by decide) (fun c69 => ?_) (fun c69 => ?_)
          · have h := zY c69 h
            exact (eG17 _ _ _ _ _).mp (je18 s7_68 _ _ _ (zI_r h hx23) hP hD hS (lv_sub hl [0] rfl))
          · have h := zN c69 h
            refine lv_aload_n hx hb dX7_resolve_95 rfl (lv_at hl 0 rfl) ?_
            refine va_get (D := (dC, dI)) (ci := 6) (v := .ref (h7 22)) (C := RX7) (T := TX7) (N := 49) hx hb hts inX7_ hown hK hP 0 rfl rfl 22 (by decide) (hts (.fieldLink RX7 56 "GateWheelModel" "aRow" "[I") (List.mem_of_getElem? (i := 3) rfl)) (fun _ h9 => h9) rfl dX7_resolve_96 ?_
            refine lv_iload_n hx hb dX7_resolve_99 rfl (lv_at hl 1 rfl) ?_
            obtain ⟨hi70, h⟩ := zG_spec h
            refine va_iald hx hb hK hP 14 0 rfl rfl hi70 dX7_resolve_100 ?_
            refine lv_iconst (v := (-1)) hx hb dX7_resolve_101 (by decide) ?_
            refine lv_icmp_eq (tgt := 134) hx hb dX7_resolve_102 (by decide) (fun c71 => ?_) (fun c71 => ?_)
            · have h := zY c71 h
              obtain ⟨v72, ev72, h⟩ := zL_spec h
              refine lv_iinc (v := v72) (lv' := [(1, .int v72), (0, .ref a7)]) hx hb dX7_resolve_134 hl (k := 1) rfl (by rw [ev72]; rfl) (by decide) rfl (fun ls hl => ?_)
              refine lv_goto (tgt := 87) hx hb dX7_resolve_137 (by decide) ?_
              have h := zI_l h hx23
              exact (eG17 _ _ _ _ _).mp (ihlp19 v72 s7_68 _ _ _ h hP hD hS (lv_sub hl [1, 0] rfl))
            · have h := zN c71 h
              refine lv_aload_n hx hb dX7_resolve_105 rfl (lv_at hl 0 rfl) ?_
              refine lv_iload_n hx hb dX7_resolve_106 rfl (lv_at hl 1 rfl) ?_
              obtain ⟨r73, hc74, h⟩ := zB_spec h
              have hFc := zFree hD hS hA
              refine va_calli (va_runV (As := [.int v67]) (rest := []) ⟨hx, hb, hml, hown, hts⟩ (m_X7_isOfDriver l dC dI y a7 h7 s7_68 v67 HGW16.size r73 hc74) (cwV 1 hts gX7_resolve_X7_isOfDriver rfl rfl rfl (by decide +kernel) ⟨Nat.le_of_ble_eq_true rfl, Nat.le_of_ble_eq_true rfl⟩) ⟨fun a U g mk q => by obtain ⟨q0, q1, qP, qK, qD⟩ := q; exact ⟨q0, q1, qP, va_K.moved (u := U) (U := U.calling g mk a) (Vm.Alike.refl U.vm) qK, qD⟩, va_recv hK hP (ci := 6) (q0 := 0) rfl rfl, fun U hU hW => ⟨rfl, by rw [hU], by rw [hU]; exact hP, va_K.moved hW.alike hK, hD.weaken (fun _ _ _ _ => trivial)⟩⟩ rfl rfl hl.1 rfl (lv_room (Nat.le_of_ble_eq_true rfl)) dX7_resolve_107 ⟨Nat.le_of_ble_eq_true rfl, Nat.le_of_ble_eq_true rfl⟩) hS (fun q _ h => hFc q h) hFc (fun rr76 u t H75 locs ht hvm hw hB hz1 hk1 hS => ?_)
              obtain ⟨hP1, hK1, hD1⟩ := hB
              rw [ht] at hP1
              refine zTopi hw.symm ?_
              have hP := hP1
              have hD := hD1.weaken (fun _ q _ h => hFc q.1 h)
              have hP : va_P (dC, dI) vwCl (cX7 a7 h7 y s7_68) H75 := hP
              have hD : va_D A (cX7 a7 h7 y s7_68) := hD
              refine lv_if_ne (tgt := 134) hx hb dX7_resolve_110 (by decide) (fun c77 => ?_) (fun c77 => ?_)
              · have h := zN c77 h
                obtain ⟨v78, ev78, h⟩ := zL_spec h
                refine lv_iinc (v := v78) (lv' := [(1, .int v78), (0, .ref a7)]) hx hb dX7_resolve_134 hl (k := 1) rfl (by rw [ev78]; rfl) (by decide) rfl (fun ls hl => ?_)
                refine lv_goto (tgt := 87) hx hb dX7_resolve_137 (by decide) ?_
                have h := zI_l h hx23
                exact (eG17 _ _ _ _ _).mp (ihlp19 v78 s7_68 _ _ _ h hP hD hS (lv_sub hl [1, 0] rfl))
              · have h := zY c77 h
                refine lv_aload_n hx hb dX7_resolve_113 rfl (lv_at hl 0 rfl) ?_
                refine va_get (D := (dC, dI)) (ci := 6) (v := .ref (h7 16)) (C := RX7) (T := TX7) (N := 49) hx hb hts inX7_ hown hK hP 0 rfl rfl 16 (by decide) (hts (.fieldLink RX7 37 "GateWheelModel" "nIn" "[I") (List.mem_of_getElem? (i := 7) rfl)) (fun _ h9 => h9) rfl dX7_resolve_114 ?_
                refine lv_aload_n hx hb dX7_resolve_117 rfl (lv_at hl 0 rfl) ?_
                refine va_get (D := (dC, dI)) (ci := 6) (v := .ref (h7 22)) (C := RX7) (T := TX7) (N := 49) hx hb hts inX7_ hown hK hP 0 rfl rfl 22 (by decide) (hts (.fieldLink RX7 56 "GateWheelModel" "aRow" "[I") (List.mem_of_getElem? (i := 3) rfl)) (fun _ h9 => h9) rfl dX7_resolve_118 ?_
                refine lv_iload_n hx hb dX7_resolve_121 rfl (lv_at hl 1 rfl) ?_
                refine va_iald hx hb hK hP 14 0 rfl rfl hi70 dX7_resolve_122 ?_
                refine lv_aload_n hx hb dX7_resolve_123 rfl (lv_at hl 0 rfl) ?_
                refine lv_aload_n hx hb dX7_resolve_124 rfl (lv_at hl 0 rfl) ?_
                refine va_get (D := (dC, dI)) (ci := 6) (v := .ref (h7 20)) (C := RX7) (T := TX7) (N := 49) hx hb hts inX7_ hown hK hP 0 rfl rfl 20 (by decide) (hts (.fieldLink RX7 50 "GateWheelModel" "aName" "[J") (List.mem_of_getElem? (i := 2) rfl)) (fun _ h9 => h9) rfl dX7_resolve_125 ?_
                refine lv_iload_n hx hb dX7_resolve_128 rfl (lv_at hl 1 rfl) ?_
                refine va_lald hx hb hK hP 12 1 rfl rfl hi70 dX7_resolve_129 ?_
                obtain ⟨r79, hc80, h⟩ := zB_spec h
                have hFc := zFree hD hS hA
                refine va_calli (va_runV (As := [.long (gB s7_68 20 v67.toNatClampNeg)]) (rest := [.int (gA s7_68 22 v67.toNatClampNeg), .ref (h7 16)]) ⟨hx, hb, hml, hown, hts⟩ (m_X7_newOf l dC dI y a7 h7 s7_68 (gB s7_68 20 v67.toNatClampNeg) H75.size r79 hc80) (cwV 1 hts gX7_resolve_X7_newOf rfl rfl rfl (by decide +kernel) ⟨Nat.le_of_ble_eq_true rfl, Nat.le_of_ble_eq_true rfl⟩) ⟨fun a U g mk q => by obtain ⟨q0, q1, qP, qK, qD⟩ := q; exact ⟨q0, q1, qP, va_K.moved (u := U) (U := U.calling g mk a) (Vm.Alike.refl U.vm) qK, qD⟩, va_recv hK hP (ci := 6) (q0 := 0) rfl rfl, fun U hU hW => ⟨rfl, by rw [hU], by rw [hU]; exact hP, va_K.moved hW.alike hK, hD.weaken (fun _ _ _ _ => trivial)⟩⟩ rfl rfl hl.1 rfl (lv_room (Nat.le_of_ble_eq_true rfl)) dX7_resolve_130 ⟨Nat.le_of_ble_eq_true rfl, Nat.le_of_ble_eq_true rfl⟩) hS (fun q _ h => hFc q h) hFc (fun rr82 u t H81 locs ht hvm hw hB hz1 hk1 hS => ?_)
                obtain ⟨hP1, hK1, hD1⟩ := hB
                rw [ht] at hP1
                refine zTopi hw.symm ?_
                have hP := hP1
                have hD := hD1.weaken (fun _ q _ h => hFc q.1 h)
                have hP : va_P (dC, dI) vwCl (cX7 a7 h7 y s7_68) H81 := hP
                have hD : va_D A (cX7 a7 h7 y s7_68) := hD
                obtain ⟨hi83, h⟩ := zG_spec h
                refine va_iast hx hb hK hP hD hS 8 0 rfl rfl hi83 dX7_resolve_133 (fun H84 locs hP hD hS => ?_)
                obtain ⟨s7_85, es7_85, h⟩ := zL_spec h
                have hP : va_P (dC, dI) vwCl (cX7 a7 h7 y s7_85) H84 := by rw [es7_85]; exact hP
                have hD : va_D A (cX7 a7 h7 y s7_85) := by rw [es7_85]; exact hD
                obtain ⟨v86, ev86, h⟩ := zL_spec h
                refine lv_iinc (v := v86) (lv' := [(1, .int v86), (0, .ref a7)]) hx hb dX7_resolve_134 hl (k := 1) rfl (by rw [ev86]; rfl) (by decide) rfl (fun ls hl => ?_)
                refine lv_goto (tgt := 87) hx hb dX7_resolve_137 (by decide) ?_
                have h := zI_l h hx23
                exact (eG17 _ _ _ _ _).mp (ihlp19 v86 s7_85 _ _ _ h hP hD hS (lv_sub hl [1, 0] rfl))
      exact lp19 zF (0 : Int32) s7_10 _ _ _ hi21 hP hD hS (lv_sub hl [1, 0] rfl)
    · have h := zY c15 h
      have ho0 : s7_10 = o_7 := congrArg (fun z : SS => z) (Option.some.inj h)
      exact W.vret hx hb hr (fun t ht hW => ⟨⟨(), rfl, trivial, by rw [ht]; rw [← ho0]; exact hP, va_K.moved hW.alike hK, by rw [← ho0]; exact hD⟩, hS.F ht⟩) hS.2.2 dX7_resolve_84
  have lp4 : ∀ (n : Nat) (v87 : Int32) (s7_88 : SS) (HGW1 : Heap) (locs : List Loc) (ls : Array Slot), zI (b_X7_resolve_2) n (v87, s7_88) = some ov5 → va_P (dC, dI) vwCl (cX7 a7 h7 y s7_88) HGW1 → va_D A (cX7 a7 h7 y s7_88) → va_S A s.heap HGW1 locs → lv_has ls 3 [(0, .ref a7), (1, .int v87)] → GW1 HGW1 locs 0 0 (F0 m 2 ls []) := by
    intro n
    induction n with
    | zero =>
      intro v87 s7_88 HGW1 locs ls hi6 hP hD hS hl
      exact (zI_0 hi6).elim
    | succ n ihlp4 =>
      intro v87 s7_88 HGW1 locs ls hi6 hP hD hS hl
      refine (eG2 _ _ _ _ _).mpr ?_
      obtain ⟨xx9, h, hx8⟩ := zI_spec hi6
      refine lv_iload_n hx hb dX7_resolve_2 rfl (lv_at hl 1 rfl) ?_
      refine lv_aload_n hx hb dX7_resolve_3 rfl (lv_at hl 0 rfl) ?_
      refine va_get (D := (dC, dI)) (ci := 6) (v := .int (gI s7_88 27)) (C := RX7) (T := TX7) (N := 49) hx hb hts inX7_ hown hK hP 0 rfl rfl 27 (by decide) (hts (.fieldLink RX7 198 "GateWheelModel" "asks" "I") (List.mem_of_getElem? (i := 1) rfl)) (fun _ h9 => h9) rfl dX7_resolve_4 ?_
      refine lv_icmp_ge (tgt := 77) hx hb dX7_resolve_7 (by decide) (fun c89 => ?_) (fun c89 => ?_)
      · have h := zY c89 h
        exact (eG2 _ _ _ _ _).mp (je3 s7_88 _ _ _ (zI_r h hx8) hP hD hS (lv_sub hl [0] rfl))
      · have h := zN c89 h
        refine lv_aload_n hx hb dX7_resolve_10 rfl (lv_at hl 0 rfl) ?_
        obtain ⟨r90, hc91, h⟩ := zB_spec h
        have hFc := zFree hD hS hA
        refine va_calli (va_runV (As := []) (rest := []) ⟨hx, hb, hml, hown, hts⟩ (m_X7_isGood l dC dI y a7 h7 s7_88 HGW1.size r90 hc91) (cwV 0 hts gX7_resolve_X7_isGood rfl rfl rfl (by decide +kernel) ⟨Nat.le_of_ble_eq_true rfl, Nat.le_of_ble_eq_true rfl⟩) ⟨fun a U g mk q => by obtain ⟨q0, q1, qP, qK, qD⟩ := q; exact ⟨q0, q1, qP, va_K.moved (u := U) (U := U.calling g mk a) (Vm.Alike.refl U.vm) qK, qD⟩, va_recv hK hP (ci := 6) (q0 := 0) rfl rfl, fun U hU hW => ⟨rfl, by rw [hU], by rw [hU]; exact hP, va_K.moved hW.alike hK, hD.weaken (fun _ _ _ _ => trivial)⟩⟩ rfl rfl hl.1 rfl (lv_room (Nat.le_of_ble_eq_true rfl)) dX7_resolve_11 ⟨Nat.le_of_ble_eq_true rfl, Nat.le_of_ble_eq_true rfl⟩) hS (fun q _ h => hFc q h) hFc (fun rr93 u t H92 locs ht hvm hw hB hz1 hk1 hS => ?_)
        obtain ⟨hP1, hK1, hD1⟩ := hB
        rw [ht] at hP1
        refine zTopi hw.symm ?_
        have hP := hP1
        have hD := hD1.weaken (fun _ q _ h => hFc q.1 h)
        have hP : va_P (dC, dI) vwCl (cX7 a7 h7 y s7_88) H92 := hP
        have hD : va_D A (cX7 a7 h7 y s7_88) := hD
        refine lv_if_eq (tgt := 77) hx hb dX7_resolve_14 (by decide) (fun c94 => ?_) (fun c94 => ?_)
        · have h := zY c94 h
          exact (eG2 _ _ _ _ _).mp (je3 s7_88 _ _ _ (zI_r h hx8) hP hD hS (lv_sub hl [0] rfl))
        · have h := zN c94 h
          refine lv_aload_n hx hb dX7_resolve_17 rfl (lv_at hl 0 rfl) ?_
          refine lv_aload_n hx hb dX7_resolve_18 rfl (lv_at hl 0 rfl) ?_
          refine va_get (D := (dC, dI)) (ci := 6) (v := .ref (h7 20)) (C := RX7) (T := TX7) (N := 49) hx hb hts inX7_ hown hK hP 0 rfl rfl 20 (by decide) (hts (.fieldLink RX7 50 "GateWheelModel" "aName" "[J") (List.mem_of_getElem? (i := 2) rfl)) (fun _ h9 => h9) rfl dX7_resolve_19 ?_
          refine lv_iload_n hx hb dX7_resolve_22 rfl (lv_at hl 1 rfl) ?_
          obtain ⟨hi95, h⟩ := zG_spec h
          refine va_lald hx hb hK hP 12 1 rfl rfl hi95 dX7_resolve_23 ?_
          obtain ⟨r96, hc97, h⟩ := zB_spec h
          have hFc := zFree hD hS hA
          refine va_calli (va_runV (As := [.long (gB s7_88 20 v87.toNatClampNeg)]) (rest := []) ⟨hx, hb, hml, hown, hts⟩ (m_X7_newOf l dC dI y a7 h7 s7_88 (gB s7_88 20 v87.toNatClampNeg) H92.size r96 hc97) (cwV 1 hts gX7_resolve_X7_newOf rfl rfl rfl (by decide +kernel) ⟨Nat.le_of_ble_eq_true rfl, Nat.le_of_ble_eq_true rfl⟩) ⟨fun a U g mk q => by obtain ⟨q0, q1, qP, qK, qD⟩ := q; exact ⟨q0, q1, qP, va_K.moved (u := U) (U := U.calling g mk a) (Vm.Alike.refl U.vm) qK, qD⟩, va_recv hK hP (ci := 6) (q0 := 0) rfl rfl, fun U hU hW => ⟨rfl, by rw [hU], by rw [hU]; exact hP, va_K.moved hW.alike hK, hD.weaken (fun _ _ _ _ => trivial)⟩⟩ rfl rfl hl.1 rfl (lv_room (Nat.le_of_ble_eq_true rfl)) dX7_resolve_24 ⟨Nat.le_of_ble_eq_true rfl, Nat.le_of_ble_eq_true rfl⟩) hS (fun q _ h => hFc q h) hFc (fun rr99 u t H98 locs ht hvm hw hB hz1 hk1 hS => ?_)
          obtain ⟨hP1, hK1, hD1⟩ := hB
          rw [ht] at hP1
          refine zTopi hw.symm ?_
          have hP := hP1
          have hD := hD1.weaken (fun _ q _ h => hFc q.1 h)
          have hP : va_P (dC, dI) vwCl (cX7 a7 h7 y s7_88) H98 := hP
          have hD : va_D A (cX7 a7 h7 y s7_88) := hD
          refine lv_istore_n (lv' := [(2, .int r96), (0, .ref a7), (1, .int v87)]) hx hb dX7_resolve_27 rfl hl (by decide) rfl (fun ls hl => ?_)
          refine lv_iload_n hx hb dX7_resolve_28 rfl (lv_at hl 0 rfl) ?_
          refine lv_if_lt (tgt := 60) hx hb dX7_resolve_29 (by decide) (fun c100 => ?_) (fun c100 => ?_)
          · have h := zY c100 h
            refine lv_aload_n hx hb dX7_resolve_60 rfl (lv_at hl 1 rfl) ?_
            refine lv_iconst (v := 4) hx hb dX7_resolve_61 (by decide) ?_
            refine lv_aload_n hx hb dX7_resolve_62 rfl (lv_at hl 1 rfl) ?_
            refine va_get (D := (dC, dI)) (ci := 6) (v := .ref (h7 21)) (C := RX7) (T := TX7) (N := 49) hx hb hts inX7_ hown hK hP 0 rfl rfl 21 (by decide) (hts (.fieldLink RX7 53 "GateWheelModel" "aPlace" "[I") (List.mem_of_getElem? (i := 6) rfl)) (fun _ h9 => h9) rfl dX7_resolve_63 ?_
            refine lv_iload_n hx hb dX7_resolve_66 rfl (lv_at hl 2 rfl) ?_
            refine va_iald hx hb hK hP 13 0 rfl rfl hi95 dX7_resolve_67 ?_
            obtain ⟨s7_101, hc102, h⟩ := zB_spec h
            have hFc := zFree hD hS hA
            refine va_callv (va_runV (As := [.int 4, .int (gA s7_88 21 v87.toNatClampNeg)]) (rest := []) ⟨hx, hb, hml, hown, hts⟩ (m_X7_fails l dC dI y a7 h7 s7_88 (4 : Int32) (gA s7_88 21 v87.toNatClampNeg) H98.size s7_101 hc102) (cwV 2 hts gX7_resolve_X7_fails rfl rfl rfl (by decide +kernel) ⟨Nat.le_of_ble_eq_true rfl, Nat.le_of_ble_eq_true rfl⟩) ⟨fun a U g mk q => by obtain ⟨q0, q1, qP, qK, qD⟩ := q; exact ⟨q0, q1, qP, va_K.moved (u := U) (U := U.calling g mk a) (Vm.Alike.refl U.vm) qK, qD⟩, va_recv hK hP (ci := 6) (q0 := 0) rfl rfl, fun U hU hW => ⟨rfl, by rw [hU], by rw [hU]; exact hP, va_K.moved hW.alike hK, hD.weaken (fun _ _ _ _ => trivial)⟩⟩ rfl rfl hl.1 rfl (lv_room (Nat.le_of_ble_eq_true rfl)) dX7_resolve_68 ⟨Nat.le_of_ble_eq_true rfl, Nat.le_of_ble_eq_true rfl⟩) hS (fun q _ h => hFc q h) hFc (fun u t H103 locs ht hvm hw hB hz1 hk1 hS => ?_)
            obtain ⟨hP1, hK1, hD1⟩ := hB
            rw [ht] at hP1
            have hP := hP1
            have hD := hD1.weaken (fun _ q _ h => hFc q.1 h)
            have hP : va_P (dC, dI) vwCl (cX7 a7 h7 y s7_101) H103 := hP
            have hD : va_D A (cX7 a7 h7 y s7_101) := hD
            obtain ⟨v105, ev105, h⟩ := zL_spec h
            refine lv_iinc (v := v105) (lv' := [(1, .int v105), (2, .int r96), (0, .ref a7)]) hx hb dX7_resolve_71 hl (k := 2) rfl (by rw [ev105]; rfl) (by decide) rfl (fun ls hl => ?_)
            refine lv_goto (tgt := 2) hx hb dX7_resolve_74 (by decide) ?_
            have h := zI_l h hx8
            exact (eG2 _ _ _ _ _).mp (ihlp4 v105 s7_101 _ _ _ h hP hD hS (lv_sub hl [2, 0] rfl))
          · have h := zN c100 h
            refine lv_aload_n hx hb dX7_resolve_32 rfl (lv_at hl 1 rfl) ?_
            refine va_get (D := (dC, dI)) (ci := 6) (v := .ref (h7 22)) (C := RX7) (T := TX7) (N := 49) hx hb hts inX7_ hown hK hP 0 rfl rfl 22 (by decide) (hts (.fieldLink RX7 56 "GateWheelModel" "aRow" "[I") (List.mem_of_getElem? (i := 3) rfl)) (fun _ h9 => h9) rfl dX7_resolve_33 ?_
            refine lv_iload_n hx hb dX7_resolve_36 rfl (lv_at hl 2 rfl) ?_
            refine va_iald hx hb hK hP 14 0 rfl rfl hi95 dX7_resolve_37 ?_
            refine lv_iconst (v := (-1)) hx hb dX7_resolve_38 (by decide) ?_
            refine lv_icmp_ne (tgt := 71) hx hb dX7_resolve_39 (by decide) (fun c106 => ?_) (fun c106 => ?_)
            · have h := zN c106 h
              obtain ⟨v107, ev107, h⟩ := zL_spec h
              refine lv_iinc (v := v107) (lv' := [(1, .int v107), (2, .int r96), (0, .ref a7)]) hx hb dX7_resolve_71 hl (k := 2) rfl (by rw [ev107]; rfl) (by decide) rfl (fun ls hl => ?_)
              refine lv_goto (tgt := 2) hx hb dX7_resolve_74 (by decide) ?_
              have h := zI_l h hx8
              exact (eG2 _ _ _ _ _).mp (ihlp4 v107 s7_88 _ _ _ h hP hD hS (lv_sub hl [2, 0] rfl))
            · have h := zY c106 h
              refine lv_aload_n hx hb dX7_resolve_42 rfl (lv_at hl 1 rfl) ?_
              refine va_get (D := (dC, dI)) (ci := 6) (v := .ref (h7 12)) (C := RX7) (T := TX7) (N := 49) hx hb hts inX7_ hown hK hP 0 rfl rfl 12 (by decide) (hts (.fieldLink RX7 24 "GateWheelModel" "nKind" "[I") (List.mem_of_getElem? (i := 4) rfl)) (fun _ h9 => h9) rfl dX7_resolve_43 ?_
              refine lv_bipush (v := 60) hx hb dX7_resolve_46 (by decide) ?_
              refine lv_aload_n hx hb dX7_resolve_48 rfl (lv_at hl 1 rfl) ?_
              refine va_get (D := (dC, dI)) (ci := 6) (v := .int (gI s7_88 30)) (C := RX7) (T := TX7) (N := 49) hx hb hts inX7_ hown hK hP 0 rfl rfl 30 (by decide) (hts (.fieldLink RX7 188 "GateWheelModel" "bank" "I") (List.mem_of_getElem? (i := 5) rfl)) (fun _ h9 => h9) rfl dX7_resolve_49 ?_
              refine lv_imul hx hb dX7_resolve_52 ?_
              refine lv_iload_n hx hb dX7_resolve_53 rfl (lv_at hl 0 rfl) ?_
              refine lv_iadd hx hb dX7_resolve_54 ?_
              obtain ⟨hi108, h⟩ := zG_spec h
              refine va_iald hx hb hK hP 4 0 rfl rfl hi108 dX7_resolve_55 ?_
              refine lv_iconst (v := 1) hx hb dX7_resolve_56 (by decide) ?_
              refine lv_icmp_eq (tgt := 71) hx hb dX7_resolve_57 (by decide) (fun c109 => ?_) (fun c109 => ?_)
              · have h := zY c109 h
                obtain ⟨v110, ev110, h⟩ := zL_spec h
                refine lv_iinc (v := v110) (lv' := [(1, .int v110), (2, .int r96), (0, .ref a7)]) hx hb dX7_resolve_71 hl (k := 2) rfl (by rw [ev110]; rfl) (by decide) rfl (fun ls hl => ?_)
                refine lv_goto (tgt := 2) hx hb dX7_resolve_74 (by decide) ?_
                have h := zI_l h hx8
                exact (eG2 _ _ _ _ _).mp (ihlp4 v110 s7_88 _ _ _ h hP hD hS (lv_sub hl [2, 0] rfl))
              · have h := zN c109 h
                refine lv_aload_n hx hb dX7_resolve_60 rfl (lv_at hl 1 rfl) ?_
                refine lv_iconst (v := 4) hx hb dX7_resolve_61 (by decide) ?_
                refine lv_aload_n hx hb dX7_resolve_62 rfl (lv_at hl 1 rfl) ?_
                refine va_get (D := (dC, dI)) (ci := 6) (v := .ref (h7 21)) (C := RX7) (T := TX7) (N := 49) hx hb hts inX7_ hown hK hP 0 rfl rfl 21 (by decide) (hts (.fieldLink RX7 53 "GateWheelModel" "aPlace" "[I") (List.mem_of_getElem? (i := 6) rfl)) (fun _ h9 => h9) rfl dX7_resolve_63 ?_
                refine lv_iload_n hx hb dX7_resolve_66 rfl (lv_at hl 2 rfl) ?_
                refine va_iald hx hb hK hP 13 0 rfl rfl hi95 dX7_resolve_67 ?_
                obtain ⟨s7_111, hc112, h⟩ := zB_spec h
                have hFc := zFree hD hS hA
                refine va_callv (va_runV (As := [.int 4, .int (gA s7_88 21 v87.toNatClampNeg)]) (rest := []) ⟨hx, hb, hml, hown, hts⟩ (m_X7_fails l dC dI y a7 h7 s7_88 (4 : Int32) (gA s7_88 21 v87.toNatClampNeg) H98.size s7_111 hc112) (cwV 2 hts gX7_resolve_X7_fails rfl rfl rfl (by decide +kernel) ⟨Nat.le_of_ble_eq_true rfl, Nat.le_of_ble_eq_true rfl⟩) ⟨fun a U g mk q => by obtain ⟨q0, q1, qP, qK, qD⟩ := q; exact ⟨q0, q1, qP, va_K.moved (u := U) (U := U.calling g mk a) (Vm.Alike.refl U.vm) qK, qD⟩, va_recv hK hP (ci := 6) (q0 := 0) rfl rfl, fun U hU hW => ⟨rfl, by rw [hU], by rw [hU]; exact hP, va_K.moved hW.alike hK, hD.weaken (fun _ _ _ _ => trivial)⟩⟩ rfl rfl hl.1 rfl (lv_room (Nat.le_of_ble_eq_true rfl)) dX7_resolve_68 ⟨Nat.le_of_ble_eq_true rfl, Nat.le_of_ble_eq_true rfl⟩) hS (fun q _ h => hFc q h) hFc (fun u t H113 locs ht hvm hw hB hz1 hk1 hS => ?_)
                obtain ⟨hP1, hK1, hD1⟩ := hB
                rw [ht] at hP1
                have hP := hP1
                have hD := hD1.weaken (fun _ q _ h => hFc q.1 h)
                have hP : va_P (dC, dI) vwCl (cX7 a7 h7 y s7_111) H113 := hP
                have hD : va_D A (cX7 a7 h7 y s7_111) := hD
                obtain ⟨v115, ev115, h⟩ := zL_spec h
                refine lv_iinc (v := v115) (lv' := [(1, .int v115), (2, .int r96), (0, .ref a7)]) hx hb dX7_resolve_71 hl (k := 2) rfl (by rw [ev115]; rfl) (by decide) rfl (fun ls hl => ?_)
                refine lv_goto (tgt := 2) hx hb dX7_resolve_74 (by decide) ?_
                have h := zI_l h hx8
                exact (eG2 _ _ _ _ _).mp (ihlp4 v115 s7_111 _ _ _ h hP hD hS (lv_sub hl [2, 0] rfl))
  exact lp4 zF (0 : Int32) S7 _ _ _ hi6 hP hD hS (lv_sub hl [1, 0] rfl)
