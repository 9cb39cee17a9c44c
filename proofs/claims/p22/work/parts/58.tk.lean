/-! in the ( ) of a GATE or REGISTER -/
theorem CC_G {C : Ct} {S3 S0 : SS} (h : CC C S3 S0) (i : Nat) (g : Int32) : CC (setG C i g) S3 (sA S0 5 (upd (gA S0 5) i g)) := by
  obtain ⟨h1, ⟨g2, g3, g4, g5, g6⟩, h3, h4, h5⟩ := h
  refine ⟨h1, ⟨g2, ?_, ?_, ?_, ?_⟩, h3, h4, fun j hj => ?_⟩
  · rw [gA_ne (by decide)]; exact g3
  · rw [gA_ne (by decide)]; exact g4
  · rw [gA_eq, g5]; rfl
  · rw [gA_ne (by decide)]; exact g6
  · rw [gA_ne (by decide), gA_ne (by decide), gB_sA]; exact h5 j hj
theorem CC_D {C : Ct} {S3 S0 : SS} (h : CC C S3 S0) (i : Nat) (d : Int32) : CC (setD C i d) S3 (sA S0 6 (upd (gA S0 6) i d)) := by
  obtain ⟨h1, ⟨g2, g3, g4, g5, g6⟩, h3, h4, h5⟩ := h
  refine ⟨h1, ⟨g2, ?_, ?_, ?_, ?_⟩, h3, h4, fun j hj => ?_⟩
  · rw [gA_ne (by decide)]; exact g3
  · rw [gA_ne (by decide)]; exact g4
  · rw [gA_ne (by decide)]; exact g5
  · rw [gA_eq, g6]; rfl
  · rw [gA_ne (by decide), gA_ne (by decide), gB_sA]; exact h5 j hj
/-- t NAMES of NODE i (kind k, from l to m of them) are taken -/
def PS (f : Nat → Int32) (n : Nat) (v0 : Cv) (b i : Nat) (k g l m : Int32) (t : Nat) (z : Int) (st : Int32) (Y S1 : SS) : Prop := ∃ (C : Ct) (S3 S0 : SS) (a e : Nat), At f n v0 st z C S3 S1 S0 Y a e ∧ LN b C Y i ∧ TRI C ∧ cC C = i + 1 ∧ cKd C i = k ∧ nu C i = t ∧ (gI S3 5 = k ∧ gI S3 8 = nI i ∧ gI S3 9 = nI t ∧ gI S3 10 = l ∧ gI S3 11 = m) ∧ (k = 2 → cGt C i = g ∧ gA Y 13 (60 * b + i) = gm g) ∧ (t : Int) ≤ m.toInt
theorem PS_4 {f : Nat → Int32} {n : Nat} {v0 : Cv} {b i : Nat} {k g l m : Int32} {t : Nat} {z : Int} {st : Int32} {Y S1 : SS} (h : PS f n v0 b i k g l m t z st Y S1) : gI Y 4 = 0 := by
  obtain ⟨C, S3, S0, a, e, h, _⟩ := h
  exact h.2.2.2.2.2
theorem PS_z {f : Nat → Int32} {n : Nat} {v0 : Cv} {b i : Nat} {k g l m : Int32} {t : Nat} {z z' : Int} {st : Int32} {Y S1 : SS} (h : PS f n v0 b i k g l m t z st Y S1) (hz : z' ≤ z) : PS f n v0 b i k g l m t z' st Y S1 := by
  obtain ⟨C, S3, S0, a, e, h, q⟩ := h
  exact ⟨C, S3, S0, a, e, At_st h rfl hz, q⟩
theorem akX_f (X : SS) (row : Int32) : gI (akX X row) 27 = gI X 27 + 1 ∧ gB (akX X row) 20 = vp_updL (gB X 20) (gI X 27).toNatClampNeg (gL X 10) ∧ gA (akX X row) 21 = upd (gA X 21) (gI X 27).toNatClampNeg (gI X 6) ∧ gA (akX X row) 22 = upd (gA X 22) (gI X 27).toNatClampNeg row ∧ (gI (akX X row) 26 = gI X 26 ∧ gI (akX X row) 28 = gI X 28 ∧ gI (akX X row) 30 = gI X 30) ∧ (gB (akX X row) 11 = gB X 11 ∧ gB (akX X row) 23 = gB X 23) ∧ (gA (akX X row) 12 = gA X 12 ∧ gA (akX X row) 13 = gA X 13 ∧ gA (akX X row) 14 = gA X 14 ∧ gA (akX X row) 15 = gA X 15 ∧ gA (akX X row) 18 = gA X 18 ∧ gA (akX X row) 24 = gA X 24 ∧ gA (akX X row) 25 = gA X 25) := ⟨rfl, rfl, rfl, rfl, ⟨rfl, rfl, rfl⟩, ⟨rfl, rfl⟩, rfl, rfl, rfl, rfl, rfl, rfl, rfl⟩
theorem tp_f (S : SS) (w : Int64) (p : Int32) : gI (tpS S w p) 5 = gI S 5 ∧ gI (tpS S w p) 8 = gI S 8 ∧ gI (tpS S w p) 9 = gI S 9 + 1 ∧ gI (tpS S w p) 10 = gI S 10 ∧ gI (tpS S w p) 11 = gI S 11 := ⟨rfl, rfl, rfl, rfl, rfl⟩
theorem p_askP {f : Nat → Int32} {n : Nat} {v0 : Cv} {b i : Nat} {k g l m : Int32} {t : Nat} {z : Int} {X S1 : SS} (h : PS f n v0 b i k g l m t z 7 X S1) (hk : k = 2 ∨ k = 3) (hz : -1 ≤ z) (hm : (gI S1 3 = 2 ∧ ¬ kept (gL S1 5)) → nI t < m) (ht : t ≤ 10) {row : Int32} (hrow : row = nI (12 * (60 * b + i) + t)) : Pc (f_X7_ask X row) (fun Y => BAD f v0 Y ∨ (gA Y 14 (60 * b + i) = nI t ∧ ∃ T1, PS f n v0 b i k g l m (t + 1) (z - 2) 8 (sA Y 14 (upd (gA Y 14) (60 * b + i) (nI (t + 1)))) T1)) := by
  obtain ⟨C, S3, S0, a, e, h, ln, tri, ci, ck, cn', ⟨s5, s8, s9, s10, s11⟩, hg, hle⟩ := h
  intro Y hY
  have pn := p_ask h hz (fun q => by rw [s9, s11]; exact hm q) row Y hY
  rcases pn with pn | ⟨nm, eL, fx, T1, a', e', at'⟩
  · exact Or.inl pn
  obtain ⟨x27, _⟩ := ln.2.1
  have hu : cU C < 667 := by
    have q := h.2.2.2.1
    have ta := h.2.1
    have hn := ta.1.1
    have q2 := ta.2.2.2.2.1
    have q3 := TA_e ta (ne_of nm.1 (by decide))
    omega
  have cl : (gI X 27).toNatClampNeg = cU C := by rw [x27, nI_clamp (by omega)]
  obtain ⟨z27, z20, z21, z22, ⟨z26, z28, z30⟩, ⟨z11, z23⟩, z12, z13, z14, z15, z18, z24, z25⟩ := akX_f X row
  rw [cl] at z20 z21 z22
  rw [s8] at at'
  have s14 : gI X 6 = gI S1 4 := by rw [h.2.1.2.2.1.1, h.2.1.2.2.1.2]
  have eY : ∀ j, gA Y j = gA (akX X row) j := FX_A fx
  have eB : ∀ j, gB Y j = gB (akX X row) j := FX_B fx
  have y14 : gA Y 14 = gA X 14 := (eY 14).trans z14
  have mn := ln.2.2.2.1 i (by omega)
  rw [cn'] at mn
  have hc60 : cC C ≤ 60 := ln.1.2.1.2
  have hmb : 60 * v0.2.2 ≤ 60 * b + i ∧ 60 * b + i < 60 * v0.2.2 + 60 := by
    rw [OB_b (At_ob h) ln.1.1.1 ln.1.1.2]
    omega
  have mt := hm nm
  rw [ti_lt, nI_toInt (by omega)] at mt
  refine Or.inr ⟨by rw [y14]; exact mn, T1, ?_⟩
  obtain ⟨ln', nu'⟩ := LN_ask (Y := sA Y 14 (upd (gA Y 14) (60 * b + i) (nI (t + 1)))) (w := gL S1 5) (p := gI S1 4) ln (show i < cC C by omega) (Nat.le_refl _) (by rw [ck]; exact hk) (by rw [gI_sA, FX_i fx (by decide), z26]) (by rw [gI_sA, FX_i fx (by decide), z27, x27, nI_1]) (by rw [gI_sA, FX_i fx (by decide), z28]) (by rw [gI_sA, FX_i fx (by decide), z30]) (by rw [gB_sA, eB, z11]) (by rw [gA_ne (by decide), eY, z12]) (by rw [gA_ne (by decide), eY, z13]) (by rw [gA_eq, y14, cn']) (by rw [gA_ne (by decide), eY, z15]) (by rw [gA_ne (by decide), eY, z18]) (by rw [gB_sA, eB, z20, eL]) (by rw [gA_ne (by decide), eY, z21, s14]) (by rw [gA_ne (by decide), eY, z22, hrow, cn']) (by rw [gB_sA, eB, z23]) (by rw [gA_ne (by decide), eY, z24]) (by rw [gA_ne (by decide), eY, z25])
  obtain ⟨u5, u8, u9, u10, u11⟩ := tp_f S3 (gL S1 5) (gI S1 4)
  refine ⟨_, _, S0, a', e', At_14 at' hmb _, ln', TRI_ask tri (by omega), ci, ck, by rw [nu', cn'], ⟨u5.trans s5, u8.trans s8, by rw [u9, s9, nI_1], u10.trans s10, u11.trans s11⟩, fun q => ⟨(hg q).1, ?_⟩, ?_⟩
  · rw [gA_ne (by decide), eY, z13]
    exact (hg q).2
  · show ((t + 1 : Nat) : Int) ≤ m.toInt
    omega
/-- the line's end -/
def E9 (f : Nat → Int32) (n : Nat) (v0 : Cv) (b : Nat) (Y : SS) : Prop := ∃ (C : Ct) (S3 S1 S0 : SS) (a e : Nat) (st : Int32), At f n v0 st (-1) C S3 S1 S0 Y a e ∧ (st = 10 ∨ (st = 9 ∧ gI S1 3 ≠ 3)) ∧ LN b C Y (cC C) ∧ TRI C
theorem p_semi {f : Nat → Int32} {n : Nat} {v0 : Cv} {b : Nat} {X : SS} (h : BAD f v0 X ∨ E9 f n v0 b X) : Pc (zB (f_X7_isGood X) (fun (r : Int32) => if r = (0 : Int32) then some X else zB (f_X7_must X (59 : Int32)) (fun (s : SS) => some s))) (fun Y => BAD f v0 Y ∨ LE f n v0 b Y) := by
  rcases h with h | ⟨C, S3, S1, S0, a, e, st, h, hst, ln, tri⟩
  · exact Pc_e (e_isGood0 h.1) (Pc_c (fun _ => Pc_s (Or.inl h)) (fun y => absurd rfl y))
  · have s4 := h.2.2.2.2.1
    have sy : gI S1 3 = 59 → f_X3_step S3 S1 S0 = some (1, sI S3 4 0, S0) := fun y => by
      rcases hst with q | ⟨q, q3⟩
      · exact s10_of (s4.trans q) (e_endLine1 y) zb1
      · exact s9_0 (s4.trans q) q3 (e_endLine1 y) zb1
    have sn : gI S1 3 ≠ 59 → f_X3_step S3 S1 S0 = some (0, rfS S3 S1, S0) := fun y => by
      rcases hst with q | ⟨q, q3⟩
      · exact s10_of (s4.trans q) (e_endLine0 y) zb0
      · exact s9_0 (s4.trans q) q3 (e_endLine0 y) zb0
    have s0 : st ≠ 0 := by rcases hst with q | ⟨q, _⟩ <;> rw [q] <;> decide
    refine Pc_e (e_isGood1 h.2.2.2.2.2) (Pc_c (fun y => absurd y ne10) (fun _ => Pc_B (p_must (T3 := sI S3 4 0) h sg59 s0 sy sn (CC_I h.2.2.1 (by decide) _)) (fun Z hZ => Pc_s ?_)))
    rcases hZ with hZ | ⟨_, fx, T1, a', e', at'⟩
    · exact Or.inl hZ
    · exact Or.inr ⟨C, _, T1, S0, a', e', At_st at' gI_eq (by omega), LN_SD ln (SD_FX fx), tri⟩
/-! REGISTERS -/
theorem i12 (x t : Nat) : (12 : Int32) * nI x + nI t = nI (12 * x + t) := by
  rw [show (12 : Int32) = nI 12 from rfl, pk_mul, nI_add]
theorem i12z (x : Nat) : (12 : Int32) * nI x = nI (12 * x + 0) := by
  rw [show (12 : Int32) = nI 12 from rfl, pk_mul]
  rfl
theorem BAD_14 {f : Nat → Int32} {v0 : Cv} {X : SS} (h : BAD f v0 X) {m : Nat} (hm : 60 * v0.2.2 ≤ m ∧ m < 60 * v0.2.2 + 60) (v : Int32) : BAD f v0 (sA X 14 (upd (gA X 14) m v)) := ⟨h.1, h.2.1, OB_A (by decide) hm h.2.2⟩
theorem PS_b {f : Nat → Int32} {n : Nat} {v0 : Cv} {b i : Nat} {k g l m : Int32} {t : Nat} {z : Int} {st : Int32} {Y S1 : SS} (h : PS f n v0 b i k g l m t z st Y S1) : 60 * v0.2.2 ≤ 60 * b + i ∧ 60 * b + i < 60 * v0.2.2 + 60 := by
  obtain ⟨C, S3, S0, a, e, h, ln, _, ci, _⟩ := h
  have hc60 : cC C ≤ 60 := ln.1.2.1.2
  rw [OB_b (At_ob h) ln.1.1.1 ln.1.1.2]
  omega
theorem p_readRegister {f : Nat → Int32} {n b : Nat} {v0 : Cv} {C : Ct} {S3 S1 S0 X : SS} {a e : Nat} (h : At f n v0 0 0 C S3 S1 S0 X a e) (hl : LN b C X (cC C)) (tri : TRI C) (h2 : gI S1 3 = 2) (hw : gL S1 5 = 7497063) : Pc (f_X7_readRegister X) (fun Y => BAD f v0 Y ∨ LE f n v0 b Y) := by
  obtain ⟨_, ta, cc, hz, s4, x4⟩ := id h
  have k1 : gI S1 3 ≠ 1 := ne_of h2 (by decide)
  have a2 := (TA_L ta h2).2 (by rw [hw]; exact kept_in.2.2.1)
  have hb : b ≤ 1 := hl.1.1.2
  have hc : cC C ≤ 60 := hl.1.2.1.2
  refine Pc_B (p_move (X' := X) (z' := 2) h k1 (s0_of s4 (l0_reg h2 hw) zb1) (CC_I (CC_I cc (by decide) _) (by decide) _) ta.1 rfl x4 (by omega) (At_ob h)) (fun A hA => ?_)
  obtain ⟨fx, T1, a', e', at', _⟩ := hA
  refine Pc_B (p_tell (k := 3) (At_st at' gI_eq (Int.le_refl _)) (LN_SD hl (SD_FX fx)) (Or.inr (Or.inr rfl)) (by rw [gI_ne (by decide), gI_eq])) (fun w hw => ?_)
  obtain ⟨r5, Z⟩ := w
  have hw2 : BAD f v0 Z ∨ (r5 = nI (60 * b + cC C) ∧ ∃ U1, PS f n v0 b (cC C) 3 0 1 2 0 3 6 Z U1) := by
    rcases hw with q | ⟨q1, nm, pl, U1, T0, a2, e2, ln, ⟨q2, _⟩ | ⟨_, at2⟩⟩
    · exact Or.inl q
    · exact absurd rfl q2
    · refine Or.inr ⟨q1, U1, _, _, _, _, _, at2, ln, tri, rfl, ?_, ?_, ⟨?_, rfl, rfl, rfl, rfl⟩, fun y => absurd y (by decide), by decide⟩
      · show upd (cKd C) (cC C) 3 (cC C) = 3
        rw [pk_us]
      · exact nu_new hl.2.2.1 hc (Nat.le_refl _) (by omega)
      · show gI (bpS (sI (sI S3 5 3) 4 1) (nI (cC C)) 1 2) 5 = 3
        rw [(bp_f _ _ _ _).2.1, gI_ne (by decide), gI_eq]
  refine p_stage (G := fun Y => r5 = nI (60 * b + cC C) ∧ ∃ U1, PS f n v0 b (cC C) 3 0 1 2 0 3 6 Y U1) (G' := fun Y => r5 = nI (60 * b + cC C) ∧ ∃ U1, PS f n v0 b (cC C) 3 0 1 2 0 4 7 Y U1) hw2 (fun q => by obtain ⟨_, U1, q⟩ := q; exact PS_4 q) (fun q => ?_) (fun Y hY => ?_)
  · obtain ⟨e5, U1, C', T3, T0, a2, e2, at2, ln, tri2, ci, ck, cu, ⟨c5, c8, c9, c10, c11⟩, cg, cl⟩ := q
    have s4 := at2.2.2.2.2.1
    refine Pc_B (p_must (T3 := sI T3 4 7) at2 sg40 (by decide) (fun y => s6_1 s4 y) (fun y => s6_0 s4 y) (CC_I at2.2.2.1 (by decide) _)) (fun Y hY => Pc_s ?_)
    rcases hY with hY | ⟨_, fx, V1, a3, e3, at3⟩
    · exact Or.inl hY
    · refine Or.inr ⟨e5, V1, C', _, T0, a3, e3, At_st at3 gI_eq (by omega), LN_SD ln (SD_FX fx), tri2, ci, ck, cu, ⟨?_, ?_, ?_, ?_, ?_⟩, fun y => absurd y (by decide), cl⟩
      · rw [gI_ne (by decide)]; exact c5
      · rw [gI_ne (by decide)]; exact c8
      · rw [gI_ne (by decide)]; exact c9
      · rw [gI_ne (by decide)]; exact c10
      · rw [gI_ne (by decide)]; exact c11
  · rcases hY with hY | ⟨e5, U1, ps⟩
    · exact Pc_e (e_isGood0 hY.1) (Pc_c (fun _ => Pc_s (Or.inl hY)) (fun y => absurd rfl y))
    · subst e5
      have m5 : (nI (60 * b + cC C)).toNatClampNeg = 60 * b + cC C := nI_clamp (by omega)
      refine Pc_e (e_isGood1 (PS_4 ps)) (Pc_c (fun y => absurd y ne10) (fun _ => Pc_B (p_askP ps (Or.inr rfl) (by omega) (fun _ => by decide) (by omega) (i12z _)) (fun A hA => Pc_G (fun _ => Pc_L (fun B eB => ?_)))))
      rw [m5] at eB
      have hB : BAD f v0 B ∨ ∃ U1, PS f n v0 b (cC C) 3 0 1 2 1 2 8 B U1 := by
        rw [eB]
        rcases hA with hA | ⟨_, V1, ps2⟩
        · exact Or.inl (BAD_14 hA (PS_b ps) _)
        · exact Or.inr ⟨V1, PS_z ps2 (by omega)⟩
      refine p_stage (G := fun Y => ∃ U1, PS f n v0 b (cC C) 3 0 1 2 1 2 8 Y U1) (G' := fun Y => ∃ U1 t, ((t = 1 ∧ gI U1 3 ≠ 44) ∨ t = 2) ∧ PS f n v0 b (cC C) 3 0 1 2 t 1 8 Y U1) hB (fun q => by obtain ⟨U1, q⟩ := q; exact PS_4 q) (fun q => ?_) (fun D hD => ?_)
      · obtain ⟨V1, ps2⟩ := q
        obtain ⟨C', T3, T0, a2, e2, at2, ln, tri2, ci, ck, cu, ⟨c5, c8, c9, c10, c11⟩, cg, cl⟩ := id ps2
        refine Pc_B (p_is at2.2.1 sg44) (fun r hr => Pc_c (fun c => Pc_s (Or.inr ⟨V1, 1, Or.inl ⟨rfl, fun y => (hr.mpr y) c⟩, PS_z ps2 (by omega)⟩)) (fun c => ?_))
        have k44 := hr.mp c
        have k1 : gI V1 3 ≠ 1 := ne_of k44 (by decide)
        have ae := TA_e at2.2.1 k1
        have hz2 := at2.2.2.2.1
        have st : f_X3_step T3 V1 T0 = some (1, sI T3 4 7, T0) := s8_of at2.2.2.2.2.1 (t8_d k44 (by rw [c5]; decide) (by rw [c9, c11]; decide)) zb1
        refine Pc_B (p_move (X' := B) (z' := 3) at2 k1 st (CC_I at2.2.2.1 (by decide) _) at2.2.1.1 rfl at2.2.2.2.2.2 (by omega) (At_ob at2)) (fun F hF => ?_)
        obtain ⟨fx, W1, a3, e3, at3, _⟩ := hF
        have ps3 : PS f n v0 b (cC C) 3 0 1 2 1 3 7 F W1 := by
          refine ⟨C', _, T0, a3, e3, At_st at3 gI_eq (by omega), LN_SD ln (SD_FX fx), tri2, ci, ck, cu, ⟨?_, ?_, ?_, ?_, ?_⟩, fun y => absurd y (by decide), cl⟩
          · rw [gI_ne (by decide)]; exact c5
          · rw [gI_ne (by decide)]; exact c8
          · rw [gI_ne (by decide)]; exact c9
          · rw [gI_ne (by decide)]; exact c10
          · rw [gI_ne (by decide)]; exact c11
        refine Pc_B (p_askP ps3 (Or.inr rfl) (by omega) (fun _ => by decide) (by omega) (i12 _ 1)) (fun G hG => Pc_L (fun H eH => Pc_s ?_))
        rw [m5] at eH
        rw [eH]
        rcases hG with hG | ⟨_, X1, ps4⟩
        · exact Or.inl (BAD_14 hG (PS_b ps3) _)
        · exact Or.inr ⟨X1, 2, Or.inr rfl, PS_z ps4 (by omega)⟩
      · refine p_stage (G := fun Y => ∃ U1 t, ((t = 1 ∧ gI U1 3 ≠ 44) ∨ t = 2) ∧ PS f n v0 b (cC C) 3 0 1 2 t 1 8 Y U1) (G' := fun Y => E9 f n v0 b Y) hD (fun q => by obtain ⟨U1, t, _, q⟩ := q; exact PS_4 q) (fun q => ?_) (fun F hF => p_semi hF)
        obtain ⟨V1, t, ht, C', T3, T0, a2, e2, at2, ln, tri2, ci, ck, cu, ⟨c5, c8, c9, c10, c11⟩, cg, cl⟩ := q
        have s4 := at2.2.2.2.2.1
        have t12 : 1 ≤ t ∧ t ≤ 2 := by omega
        have nlt : ¬ gI T3 9 < gI T3 10 := by
          rw [c9, c10, show (1 : Int32) = nI 1 from rfl, nI_ltI (by omega) (by omega)]
          omega
        refine Pc_B (p_must (T3 := sI T3 4 10) at2 sg41 (by decide) (fun y => s8_of s4 (t8_h y nlt (by rw [c5]; decide)) zb1) (fun y => ?_) (CC_I at2.2.2.1 (by decide) _)) (fun Y hY => Pc_s ?_)
        · by_cases k44 : gI V1 3 = 44
          · rcases ht with q | q
            · exact absurd k44 q.2
            · exact s8_of s4 (t8_e k44 (by rw [c5]; decide) (by rw [c9, c11, q]; decide)) zb0
          · exact s8_of s4 (t8_0 k44 y) zb0
        · rcases hY with hY | ⟨_, fx, W1, a3, e3, at3⟩
          · exact Or.inl hY
          · refine Or.inr ⟨C', _, W1, T0, a3, e3, 10, At_st at3 gI_eq (by omega), Or.inl rfl, ?_, tri2⟩
            rw [ci]
            exact LN_SD (LN_up ln (fun y => absurd (ck.symm.trans y) (by decide)) (fun _ => by rw [cu]; exact t12)) (SD_FX fx)
