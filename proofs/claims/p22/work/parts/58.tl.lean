/-! GATES -/
/-- one NAME on: class stands before ( or a comma -/
theorem p_part {f : Nat → Int32} {n : Nat} {v0 : Cv} {b i : Nat} {g l m : Int32} {t : Nat} {z : Int} {st : Int32} {X S1 : SS} (h : PS f n v0 b i 2 g l m t z st X S1) (hs : (st = 6 ∧ gI S1 3 = 40) ∨ (st = 8 ∧ gI S1 3 = 44)) : Pc (f_X7_next X) (fun Y => ∃ T1, PS f n v0 b i 2 g l m t (z + 1) 7 Y T1) := by
  obtain ⟨C, S3, S0, a, e, h, ln, tri, ci, ck, cu, ⟨c5, c8, c9, c10, c11⟩, hg, hle⟩ := h
  have s4 := h.2.2.2.2.1
  have k1 : gI S1 3 ≠ 1 := by rcases hs with q | q <;> rw [q.2] <;> decide
  have stp : f_X3_step S3 S1 S0 = some (1, sI S3 4 7, S0) := by
    rcases hs with q | q
    · exact s6_1 (s4.trans q.1) q.2
    · exact s8_of (s4.trans q.1) (t8_c q.2 c5) zb1
  have ae := TA_e h.2.1 k1
  have hz := h.2.2.2.1
  refine Pc_w (p_move (X' := X) (z' := z + 1) h k1 stp (CC_I h.2.2.1 (by decide) _) h.2.1.1 rfl h.2.2.2.2.2 (by omega) (At_ob h)) (fun Y hY => ?_)
  obtain ⟨fx, T1, a', e', at', _⟩ := hY
  refine ⟨T1, C, _, S0, a', e', At_st at' gI_eq (Int.le_refl _), LN_SD ln (SD_FX fx), tri, ci, ck, cu, ⟨?_, ?_, ?_, ?_, ?_⟩, fun q => ⟨(hg q).1, ?_⟩, hle⟩
  · rw [gI_ne (by decide)]; exact c5
  · rw [gI_ne (by decide)]; exact c8
  · rw [gI_ne (by decide)]; exact c9
  · rw [gI_ne (by decide)]; exact c10
  · rw [gI_ne (by decide)]; exact c11
  · rw [FX_A fx]; exact (hg q).2
theorem PS_14 {f : Nat → Int32} {n : Nat} {v0 : Cv} {b i : Nat} {k g l m : Int32} {t : Nat} {z : Int} {st : Int32} {X S1 : SS} (h : PS f n v0 b i k g l m t z st X S1) : gA X 14 (60 * b + i) = nI t ∧ i < 60 ∧ b ≤ 1 := by
  obtain ⟨C, S3, S0, a, e, h, ln, tri, ci, ck, cu, _⟩ := h
  have q := ln.2.2.2.1 i (by omega)
  rw [cu] at q
  have hc : cC C ≤ 60 := ln.1.2.1.2
  exact ⟨q, by omega, ln.1.1.2⟩
/-- what the loop over the NAMES leaves -/
def LQ (f : Nat → Int32) (n : Nat) (v0 : Cv) (b i : Nat) (g l m : Int32) (v : SS ⊕ SS) : Prop := match v with
  | .inl s => BAD f v0 s
  | .inr s => BAD f v0 s ∨ ∃ S1 t, PS f n v0 b i 2 g l m t (4 - t) 8 s S1 ∧ gI S1 3 ≠ 44
def LI (f : Nat → Int32) (n : Nat) (v0 : Cv) (b i : Nat) (g l m : Int32) (v : Int32) (s : SS) : Prop := BAD f v0 s ∨ ∃ S1 t st, PS f n v0 b i 2 g l m t (4 - t) st s S1 ∧ ((v = 1 ∧ ((st = 6 ∧ gI S1 3 = 40) ∨ (st = 8 ∧ gI S1 3 = 44))) ∨ (v = 0 ∧ st = 8 ∧ gI S1 3 ≠ 44))
theorem p_names {f : Nat → Int32} {n : Nat} {v0 : Cv} {b i : Nat} {g l m g7 : Int32} (hm : rmo g7 = m) (hm6 : m.toInt ≤ 6) {X : SS} (h : LI f n v0 b i g l m 1 X) : Pc (zI (b_X7_readGate_174 (nI (60 * b + i)) g7) zF ((1 : Int32), X)) (LQ f n v0 b i g l m) := by
  refine Pc_I (fun v : Int32 × SS => LI f n v0 b i g l m v.1 v.2) (fun v hv => ?_) _ h
  obtain ⟨v, A⟩ := v
  have hv : LI f n v0 b i g l m v A := hv
  rcases hv with hv | ⟨S1, t, st, ps, ⟨v1, hs⟩ | ⟨v0', st8, k44⟩⟩
  · exact Pc_c (fun _ => Pc_s (Or.inl hv)) (fun _ => Pc_e (e_isGood0 hv.1) (Pc_c (fun _ => Pc_s (Or.inl hv)) (fun y => absurd rfl y)))
  · obtain ⟨_, hi, hb⟩ := PS_14 ps
    have m5 : (nI (60 * b + i)).toNatClampNeg = 60 * b + i := nI_clamp (by omega)
    refine Pc_c (fun c => absurd c (ne_of v1 (by decide))) (fun _ => Pc_e (e_isGood1 (PS_4 ps)) (Pc_c (fun y => absurd y ne10) (fun _ => Pc_B (p_part ps hs) (fun B hB => ?_))))
    obtain ⟨T1, ps2⟩ := hB
    have b14 := (PS_14 ps2).1
    obtain ⟨C, S3, S0, a, e, h, ln, tri, ci, ck, cu, ⟨c5, c8, c9, c10, c11⟩, hg, hle⟩ := id ps2
    have t6 : t ≤ 6 := by omega
    refine Pc_B (P := fun D => BAD f v0 D ∨ (D = B ∧ ((gI T1 3 = 2 ∧ ¬ kept (gL T1 5)) → nI t < m))) ?_ (fun D hD => ?_)
    · refine Pc_i (TA_name h.2.1) (fun q => Pc_e (e_mostOf g7) ?_) (fun q => Pc_s (Or.inr ⟨rfl, fun y => absurd y q⟩))
      refine Pc_c (fun c => ?_) (fun c => Pc_s (Or.inr ⟨rfl, fun _ => ?_⟩))
      · rw [m5, b14, hm] at c
        refine Pc_B (p_wrong h (fun _ => by decide) (fun _ => s7_of h.2.2.2.2.1 (t7_f q.1 q.2 ?_) zb0)) (fun Y hY => Pc_s (Or.inl hY))
        rw [c9, c11, c, ti_lt]
        omega
      · rw [m5, b14, hm] at c
        have : (nI t).toInt ≠ m.toInt := fun y => c (ti_eq.mpr y)
        rw [nI_toInt (by omega)] at this
        rw [ti_lt, nI_toInt (by omega)]
        omega
    · rcases hD with hD | ⟨eD, hlt⟩
      · exact Pc_e (e_isGood0 hD.1) (Pc_c (fun _ => Pc_s hD) (fun y => absurd rfl y))
      · rw [eD]
        refine Pc_e (e_isGood1 (PS_4 ps2)) (Pc_c (fun y => absurd y ne10) (fun _ => ?_))
        refine Pc_B (p_askP ps2 (Or.inl rfl) (by omega) hlt (by omega) (by rw [m5, b14, i12])) (fun F hF => Pc_L (fun G eG => ?_))
        have hG : BAD f v0 G ∨ ∃ U1, PS f n v0 b i 2 g l m (t + 1) (4 - (t + 1 : Nat)) 8 G U1 := by
          rw [eG, m5]
          rcases hF with hF | ⟨f14, U1, ps3⟩
          · exact Or.inl (BAD_14 hF (PS_b ps2) _)
          · rw [f14, nI_1]
            exact Or.inr ⟨U1, PS_z ps3 (by omega)⟩
        rcases hG with hG | ⟨U1, ps3⟩
        · exact Pc_e (e_isGood0 hG.1) (Pc_c (fun _ => Pc_s (Or.inl hG)) (fun y => absurd rfl y))
        · refine Pc_e (e_isGood1 (PS_4 ps3)) (Pc_c (fun y => absurd y ne10) (fun _ => ?_))
          obtain ⟨C', S3', S0', a', e', h', _⟩ := id ps3
          refine Pc_B (p_is h'.2.1 sg44) (fun r hr => Pc_c (fun c => Pc_s (Or.inr ⟨U1, t + 1, 8, ps3, Or.inr ⟨rfl, rfl, fun y => (hr.mpr y) c⟩⟩)) (fun c => Pc_s (Or.inr ⟨U1, t + 1, 8, ps3, Or.inl ⟨rfl, Or.inr ⟨rfl, hr.mp c⟩⟩⟩)))
  · refine Pc_c (fun _ => Pc_s (Or.inr ⟨S1, t, ?_, k44⟩)) (fun c => absurd v0' c)
    rw [← st8]
    exact ps
/-- behind the NAMES -/
theorem p_gtail {f : Nat → Int32} {n : Nat} {v0 : Cv} {b i : Nat} {g l m g7 : Int32} (hlo : rlo g7 = l) (hgl : sl_f g.toNatClampNeg = l) (hgm : sm_f g.toNatClampNeg = m) (hgi : IV 0 8 g) (hm6 : m.toInt ≤ 6) {X : SS} (h : BAD f v0 X ∨ ∃ S1 t, PS f n v0 b i 2 g l m t (4 - t) 8 X S1 ∧ gI S1 3 ≠ 44) : Pc (zB (f_X7_isGood X) (fun (r89 : Int32) =>
  zB (if r89 = (0 : Int32) then some X
  else zB (f_X7_is X (41 : Int32)) (fun (r145 : Int32) =>
  if r145 = (0 : Int32) then some X
  else zB (f_X7_leastOf g7) (fun (r150 : Int32) =>
  if r150 ≤ (gA X 14 (nI (60 * b + i)).toNatClampNeg) then some X
  else zB (f_X7_wrong X) (fun (s7_155 : SS) =>
  some s7_155)))) (fun (s7_99 : SS) =>
  zB (f_X7_isGood s7_99) (fun (r100 : Int32) =>
  zB (if r100 = (0 : Int32) then some s7_99
  else zB (f_X7_must s7_99 (41 : Int32)) (fun (s7_140 : SS) =>
  some s7_140)) (fun (s7_110 : SS) =>
  zB (f_X7_isGood s7_110) (fun (r111 : Int32) =>
  zB (if r111 = (0 : Int32) then some s7_110
  else if (gI s7_110 8) = (4 : Int32) then zL (sA s7_110 15 (upd (gA s7_110 15) (nI (60 * b + i)).toNatClampNeg (gI s7_110 9))) (fun s7_134 =>
  zB (f_X7_next s7_134) (fun (s7_135 : SS) =>
  some s7_135))
  else some s7_110) (fun (s7_121 : SS) =>
  zB (f_X7_isGood s7_121) (fun (r122 : Int32) =>
  if r122 = (0 : Int32) then some s7_121
  else zB (f_X7_must s7_121 (59 : Int32)) (fun (s7_127 : SS) =>
  some s7_127))))))))) (fun Y => BAD f v0 Y ∨ LE f n v0 b Y) := by
  refine p_stage (G := fun X => ∃ S1 t, PS f n v0 b i 2 g l m t (4 - t) 8 X S1 ∧ gI S1 3 ≠ 44) (G' := fun X => ∃ S1 t, PS f n v0 b i 2 g l m t (4 - t) 8 X S1 ∧ gI S1 3 ≠ 44 ∧ (gI S1 3 = 41 → l.toInt ≤ t)) h (fun q => by obtain ⟨S1, t, q, _⟩ := q; exact PS_4 q) (fun q => ?_) (fun Y hY => ?_)
  · obtain ⟨S1, t, ps, k44⟩ := q
    obtain ⟨x14, hi, hb⟩ := PS_14 ps
    have m5 : (nI (60 * b + i)).toNatClampNeg = 60 * b + i := nI_clamp (by omega)
    obtain ⟨C, S3, S0, a, e, h, ln, tri, ci, ck, cu, ⟨c5, c8, c9, c10, c11⟩, hg, hle⟩ := id ps
    refine Pc_B (p_is h.2.1 sg41) (fun r hr => Pc_c (fun c => Pc_s (Or.inr ⟨S1, t, ps, k44, fun y => absurd c (hr.mpr y)⟩)) (fun c => Pc_e (e_leastOf g7) ?_))
    have k41 := hr.mp c
    refine Pc_c (fun d => Pc_s (Or.inr ⟨S1, t, ps, k44, fun _ => ?_⟩)) (fun d => Pc_B (p_wrong h (fun _ => by decide) (fun _ => s8_of h.2.2.2.2.1 (t8_l k41 ?_) zb0)) (fun Y hY => Pc_s (Or.inl hY)))
    · rw [m5, x14, hlo, ti_le, nI_toInt (by omega)] at d
      exact d
    · rw [m5, x14, hlo, ti_le, nI_toInt (by omega)] at d
      rw [c9, c10, ti_lt, nI_toInt (by omega)]
      omega
  · refine p_stage (G := fun X => ∃ S1 t, PS f n v0 b i 2 g l m t (4 - t) 8 X S1 ∧ gI S1 3 ≠ 44 ∧ (gI S1 3 = 41 → l.toInt ≤ t)) (G' := fun Y => ∃ (C : Ct) (S3 S1 S0 : SS) (a e : Nat), At f n v0 9 (-1) C S3 S1 S0 Y a e ∧ LN b C Y (i + 1) ∧ TRI C ∧ cC C = i + 1 ∧ gI S3 8 = nI i) hY (fun q => by obtain ⟨S1, t, q, _⟩ := q; exact PS_4 q) (fun q => ?_) (fun Z hZ => ?_)
    · obtain ⟨S1, t, ps, k44, k41⟩ := q
      obtain ⟨C, S3, S0, a, e, h, ln, tri, ci, ck, cu, ⟨c5, c8, c9, c10, c11⟩, hg, hle⟩ := ps
      have s4 := h.2.2.2.2.1
      refine Pc_B (p_must (T3 := sI S3 4 9) h sg41 (by decide) (fun y => s8_of s4 (t8_g y ?_ c5) zb1) (fun y => s8_of s4 (t8_0 k44 y) zb0) (CC_I h.2.2.1 (by decide) _)) (fun W hW => Pc_s ?_)
      · have := k41 y
        rw [c9, c10, ti_lt, nI_toInt (by omega)]
        omega
      · rcases hW with hW | ⟨y, fx, T1, a', e', at'⟩
        · exact Or.inl hW
        · refine Or.inr ⟨C, _, T1, S0, a', e', At_st at' gI_eq (by omega), LN_SD (LN_up ln (fun _ => ?_) (fun q => absurd (ck.symm.trans q) (by decide))) (SD_FX fx), tri, ci, by rw [gI_ne (by decide)]; exact c8⟩
          have := k41 y
          obtain ⟨g1, g2⟩ := hg rfl
          rw [g1, hgl, hgm, cu]
          exact ⟨g2, hgi, this, hle⟩
    · refine p_stage (G := fun Y => ∃ (C : Ct) (S3 S1 S0 : SS) (a e : Nat), At f n v0 9 (-1) C S3 S1 S0 Y a e ∧ LN b C Y (i + 1) ∧ TRI C ∧ cC C = i + 1 ∧ gI S3 8 = nI i) (G' := fun Y => E9 f n v0 b Y) hZ (fun q => by obtain ⟨C, S3, S1, S0, a, e, q, _⟩ := q; exact q.2.2.2.2.2) (fun q => ?_) (fun W hW => p_semi hW)
      obtain ⟨C, S3, S1, S0, a, e, h, ln, tri, ci, c8⟩ := q
      have hc : cC C ≤ 60 := ln.1.2.1.2
      have hb : b ≤ 1 := ln.1.1.2
      have m5 : (nI (60 * b + i)).toNatClampNeg = 60 * b + i := nI_clamp (by omega)
      obtain ⟨d1, d2⟩ := TA_dig h.2.1
      refine Pc_i d1 (fun k3 => Pc_l ?_) (fun k3 => Pc_s (Or.inr ⟨C, S3, S1, S0, a, e, 9, h, Or.inr ⟨rfl, k3⟩, by rw [ci]; exact ln, tri⟩))
      have k1 : gI S1 3 ≠ 1 := ne_of k3 (by decide)
      have ae := TA_e h.2.1 k1
      have hz := h.2.2.2.1
      have stp : f_X3_step S3 S1 S0 = some (1, sI S3 4 10, sA S0 6 (upd (gA S0 6) i (gI S1 6))) := s9_1 h.2.2.2.2.1 k3 (t9_1 h.2.2.1.1.1 hc (by omega) c8) zb1
      refine Pc_B (p_move (X' := sA Z 15 (upd (gA Z 15) (nI (60 * b + i)).toNatClampNeg (gI Z 9))) (z' := 0) h k1 stp (CC_I (CC_D h.2.2.1 i (gI S1 6)) (by decide) _) (TX_A h.2.1.1 (by decide) _) rfl h.2.2.2.2.2 ?_ (OB_A (by decide) (by rw [m5, OB_b (At_ob h) ln.1.1.1 hb]; omega) (At_ob h))) (fun W hW => Pc_s (Or.inr ?_))
      · show 3 * (cU C : Int) + 0 ≤ e
        omega
      · obtain ⟨fx, T1, a', e', at', _⟩ := hW
        refine ⟨setD C i (gI S1 6), _, T1, _, a', e', 10, At_st at' gI_eq (by omega), Or.inl rfl, ?_, tri⟩
        show LN b (setD C i (gI S1 6)) W (cC C)
        rw [ci]
        refine LN_SD (LN_dly (Y := sA Z 15 (upd (gA Z 15) (nI (60 * b + i)).toNatClampNeg (gI Z 9))) ln (by omega) (d := gI S1 6) ?_ (fun _ => rfl) (fun k hk => gA_ne hk) (fun _ => rfl)) (SD_FX fx)
        rw [gA_eq, m5, d2 k3]
def gtX (X : SS) (w : Int64) (p : Int32) : SS := sI (sA (sA (sA (sA (sB X 11 (vp_updL (gB X 11) ((60 : Int32) * gI X 30 + gI X 26).toNatClampNeg w)) 12 (upd (gA X 12) ((60 : Int32) * gI X 30 + gI X 26).toNatClampNeg 2)) 14 (upd (gA X 14) ((60 : Int32) * gI X 30 + gI X 26).toNatClampNeg 0)) 15 (upd (gA X 15) ((60 : Int32) * gI X 30 + gI X 26).toNatClampNeg 1)) 18 (upd (gA X 18) (gI X 26).toNatClampNeg p)) 26 (gI X 26 + 1)
theorem gtX_f (X : SS) (w : Int64) (p : Int32) : gB (gtX X w p) 11 = vp_updL (gB X 11) ((60 : Int32) * gI X 30 + gI X 26).toNatClampNeg w ∧ gA (gtX X w p) 12 = upd (gA X 12) ((60 : Int32) * gI X 30 + gI X 26).toNatClampNeg 2 ∧ gA (gtX X w p) 14 = upd (gA X 14) ((60 : Int32) * gI X 30 + gI X 26).toNatClampNeg 0 ∧ gA (gtX X w p) 15 = upd (gA X 15) ((60 : Int32) * gI X 30 + gI X 26).toNatClampNeg 1 ∧ gA (gtX X w p) 18 = upd (gA X 18) (gI X 26).toNatClampNeg p ∧ gI (gtX X w p) 26 = gI X 26 + 1 := ⟨rfl, rfl, rfl, rfl, rfl, rfl⟩
theorem rmo6 (g : Int32) : (rmo g).toInt ≤ 6 ∧ 1 ≤ (rmo g).toInt := by
  unfold rmo
  repeat' split
  all_goals decide
theorem p_readGate {f : Nat → Int32} {n b : Nat} {v0 : Cv} {C : Ct} {S3 S1 S0 X : SS} {a e : Nat} (h : At f n v0 3 1 C S3 S1 S0 X a e) (hl : LN b C X (cC C)) (tri : TRI C) (hk : gI S1 3 = 61) {w : Int64} {p : Int32} (h6 : gL S3 6 = w) (h7 : gI S3 7 = p) : Pc (f_X7_readGate X w p) (fun Y => BAD f v0 Y ∨ LE f n v0 b Y) := by
  obtain ⟨_, ta, cc, hz, s4, x4⟩ := id h
  obtain ⟨⟨⟨x30, hb⟩, ⟨x26, hc⟩, no⟩, _⟩ := id hl
  obtain ⟨⟨c0, _⟩, ⟨cnm, _⟩, _⟩ := id cc
  have k1 : gI S1 3 ≠ 1 := ne_of hk (by decide)
  have ae := TA_e ta k1
  have ixe : ∀ w : Int64, ix (fun i => gB X 11 (60 * b + i)) w (cC C) = ix (cNm C) w (cC C) := fun w => ix_c (fun i hi => (no i hi).1)
  refine Pc_B (P := fun A => (A = sI (sI X 4 2) 5 p ∧ cC C = 60) ∨ (A = X ∧ cC C < 60)) (Pc_c (fun c => Pc_e (e_fails x4 2 _) (Pc_s (Or.inl ⟨rfl, ?_⟩))) (fun c => Pc_s (Or.inr ⟨rfl, ?_⟩))) (fun A hA => ?_)
  · rw [x26, show (60 : Int32) = nI 60 from rfl, nI_eq (by omega) (by omega)] at c
    exact c
  · rw [x26, show (60 : Int32) = nI 60 from rfl, nI_eq (by omega) (by omega)] at c
    omega
  · rcases hA with ⟨eA, c60⟩ | ⟨eA, c60⟩
    · have bad : BAD f v0 A := by
        rw [eA, ← h7]
        refine p_fails h k1 (by decide) (T3 := sI S3 5 2) (s3_of s4 (t3_eb hk (tl_full (by rw [c0, c60]) _ _ _)) zb0)
      have a4 : gI A 4 = 2 := by rw [eA, gI_ne (by decide), gI_eq]
      refine Pc_B (P := fun _ => True) (fun _ _ => trivial) (fun r _ => Pc_B (P := fun B => B = A) (Pc_c (fun _ => Pc_s rfl) (fun _ => Pc_B (P := fun B => B = A) (Pc_c (fun q => absurd q (by rw [a4]; decide)) (fun _ => Pc_s rfl)) (fun B hB => Pc_s hB))) (fun B hB => ?_))
      rw [hB]
      exact Pc_e (e_isGood0 bad.1) (Pc_c (fun _ => Pc_s (Or.inl bad)) (fun y => absurd rfl y))
    · rw [eA]
      refine Pc_e (e_newOf x26 hc x30 hb _) (Pc_B (P := fun B => BAD f v0 B ∨ (B = X ∧ ix (cNm C) w (cC C) = -1)) ?_ (fun B hB => ?_))
      · show Pc (if ix (fun i => gB X 11 (60 * b + i)) w (cC C) < 0 then _ else _) _
        rw [ixe]
        rcases ix_r (cNm C) w (cC C) with ⟨q, _⟩ | ⟨i, hi, q, _⟩
        · exact Pc_c (fun _ => Pc_s (Or.inr ⟨rfl, q⟩)) (fun y => absurd (by rw [q]; decide) y)
        · refine Pc_c (fun y => absurd y (by rw [q]; exact nI_pos (by omega))) (fun _ => Pc_e (e_fails x4 3 _) (Pc_s (Or.inl ?_)))
          rw [← h7]
          refine p_fails h k1 (by decide) (T3 := sI S3 5 2) (s3_of s4 (t3_eb hk (tl_dup c0 c60 ?_ _ _)) zb0)
          rw [cnm, h6, q]
          exact fun y => by
            have := nI_pos (n := i) (by omega)
            rw [y] at this
            exact this (by decide)
      · rcases hB with hB | ⟨eB, q⟩
        · exact Pc_e (e_isGood0 hB.1) (Pc_c (fun _ => Pc_s (Or.inl hB)) (fun y => absurd rfl y))
        · rw [eB]
          have m : (60 : Int32) * gI X 30 + gI X 26 = nI (60 * b + cC C) := by rw [x30, x26, i60 hb]
          have m5 : (nI (60 * b + cC C)).toNatClampNeg = 60 * b + cC C := nI_clamp (by omega)
          have mc : ((60 : Int32) * gI X 30 + gI X 26).toNatClampNeg = 60 * b + cC C := by rw [m, m5]
          have c26 : (gI X 26).toNatClampNeg = cC C := by rw [x26, nI_clamp (by omega)]
          obtain ⟨y11, y12, y14, y15, y18, y26⟩ := gtX_f X w p
          rw [mc] at y11 y12 y14 y15
          rw [c26] at y18
          have ln : LN b (addN C w p 2 1) (gtX X w p) (cC C) := LN_node hl c60 (Or.inr (Or.inr (Or.inl rfl))) (by rw [y26, x26, nI_1]) rfl rfl rfl y11 y12 (fun j hj => rfl) y14 y15 y18 rfl rfl rfl rfl rfl rfl
          obtain ⟨T0, ha, cc'⟩ := CC_add cc c60 w p 2
          rw [if_pos rfl] at cc'
          have tl : f_X3_tell (sI S3 5 2) S0 (gL S3 6) (gI S3 7) 2 = some (1, sI S3 5 2, T0) := by
            rw [h6, h7]
            exact tl_ok c0 c60 (by rw [cnm]; exact q) ha
          have st : f_X3_step S3 S1 S0 = some (1, sI (sI S3 5 2) 4 4, T0) := s3_of s4 (t3_eo hk tl) zb1
          have tx : TX f n (gtX X w p) := ta.1
          have ob := At_ob h
          have eb := OB_b ob x30 hb
          have obt : OB v0.2.1 v0.2.2 (gtX X w p) := by
            rw [eb] at ob ⊢
            exact OB_I (by decide) (OB_F (by decide) (OB_A (by decide) (by rw [mc]; omega) (OB_A (by decide) (by rw [mc]; omega) (OB_A (by decide) (by rw [mc]; omega) (OB_B (by rw [mc]; omega) ob)))))
          refine Pc_e (e_isGood1 x4) (Pc_c (fun y => absurd y ne10) (fun _ => Pc_L (fun v24 e24 => Pc_G (fun _ => Pc_l (Pc_l (Pc_l (Pc_l (Pc_G (fun _ => Pc_l (Pc_l ?_))))))))))
          subst e24
          refine Pc_B (p_move (X' := gtX X w p) (z' := 2) h k1 st (CC_I (CC_I cc' (by decide) _) (by decide) _) tx rfl x4 (by show 3 * (cU C : Int) + 2 ≤ e; omega) obt) (fun A hA => ?_)
          rw [m]
          obtain ⟨fx, T1, a', e', at', _⟩ := hA
          have at4 := At_st at' gI_eq (Int.le_refl _)
          have lnA := LN_SD ln (SD_FX fx)
          have tA := at4.2.1
          have i60' : cC C < cC (addN C w p 2 1) := Nat.lt_succ_self _
          -- the GATE's word
          refine Pc_B (P := fun v => (v = gw (gL T1 5) ∧ gI T1 3 = 2 ∧ IV 0 8 (gh (gL T1 5)) ∧ IV 0 8 (gw (gL T1 5))) ∨ (v = -1 ∧ ¬ (gI T1 3 = 2 ∧ gh (gL T1 5) ≠ -1))) (Pc_i (TA_word tA) (fun y => Pc_e (e_X7_gateOf _) (Pc_s ?_)) (fun y => Pc_s (Or.inr ⟨rfl, fun u => y ⟨u.1, ?_⟩⟩))) (fun v hv => ?_)
          · rw [(TA_L tA y.1).1]
            rcases gh_gw (gL T1 5) with u | u
            · exact Or.inr ⟨u.2, fun x => x.2 u.1⟩
            · exact Or.inl ⟨rfl, y.1, u.1, u.2.1⟩
          · rcases gh_gw (gL T1 5) with x | x
            · exact absurd x.1 u.2
            · refine Or.inl (fun k => ?_)
              rw [k] at x
              exact absurd x.2.1.1 (by decide)
          refine Pc_B (P := fun B => BAD f v0 B ∨ (B = A ∧ v = gw (gL T1 5) ∧ gI T1 3 = 2 ∧ IV 0 8 (gh (gL T1 5)))) ?_ (fun B hB => ?_)
          · rcases hv with ⟨v1, v2, v3, v4⟩ | ⟨v1, v2⟩
            · exact Pc_c (fun _ => Pc_s (Or.inr ⟨rfl, v1, v2, v3⟩)) (fun y => absurd (by rw [ti_le, v1]; exact v4.1) y)
            · exact Pc_c (fun y => absurd y (by rw [v1]; decide)) (fun _ => Pc_B (p_wrong at4 (fun _ => by decide) (fun _ => s4_of at4.2.2.2.2.1 (t4_0 v2) zb0)) (fun Y hY => Pc_s (Or.inl hY)))
          rcases hB with hB | ⟨eB2, v1, v2, v3⟩
          · exact Pc_e (e_isGood0 hB.1) (Pc_c (fun _ => Pc_s (Or.inl hB)) (fun y => absurd rfl y))
          rw [eB2]
          refine Pc_e (e_isGood1 at4.2.2.2.2.2) (Pc_c (fun y => absurd y ne10) (fun _ => Pc_l ?_))
          rcases gh_gw (gL T1 5) with u | ⟨_, _, u3, u4, u5⟩
          · rw [u.1] at v3
            exact absurd v3.1 (by decide)
          have kp : kept (gL T1 5) := Or.inl (fun k => by
            rcases gh_gw (gL T1 5) with u | u
            · rw [u.1] at v3
              exact absurd v3.1 (by decide)
            · rw [k] at u
              exact absurd u.2.1.1 (by decide))
          have a2 := (TA_L tA v2).2 kp
          have hz4 := at4.2.2.2.1
          have k14 : gI T1 3 ≠ 1 := ne_of v2 (by decide)
          have st4 := s4_of (S0 := T0) at4.2.2.2.2.1 (t4_1 (i := cC C) v2 v3 cc'.1.1 c60) zb1
          have lnG : LN b (setG (addN C w p 2 1) (cC C) (gh (gL T1 5))) (sA A 13 (upd (gA A 13) (nI (60 * b + cC C)).toNatClampNeg v)) (cC C) := LN_gate lnA (Nat.le_refl _) i60' (by rw [gA_eq, m5]) (fun _ => rfl) (fun k hk => gA_ne hk) (fun _ => rfl)
          refine Pc_B (p_move (X' := sA A 13 (upd (gA A 13) (nI (60 * b + cC C)).toNatClampNeg v)) (z' := 4) at4 k14 st4 (CC_bp (CC_G at4.2.2.1 (cC C) (gh (gL T1 5))) _ _ _) (TX_A at4.2.1.1 (by decide) _) rfl at4.2.2.2.2.2 ?_ (OB_A (by decide) (by rw [m5, eb]; omega) (At_ob at4))) (fun D hD => ?_)
          · show 3 * (cU C : Int) + 4 ≤ e'
            have : 3 * (cU C : Int) + 2 ≤ a' := hz4
            omega
          obtain ⟨fxD, U1, a3, e3, at5, _⟩ := hD
          have ps : PS f n v0 b (cC C) 2 (gh (gL T1 5)) (rlo (gw (gL T1 5))) (rmo (gw (gL T1 5))) 0 4 6 D U1 := by
            refine ⟨_, _, _, a3, e3, at5, LN_SD lnG (SD_FX fxD), tri, rfl, ?_, ?_, ⟨?_, rfl, rfl, ?_, ?_⟩, fun _ => ⟨?_, ?_⟩, ?_⟩
            · show upd (cKd C) (cC C) 2 (cC C) = 2
              rw [pk_us]
            · exact nu_new hl.2.2.1 hc (Nat.le_refl _) (by omega)
            · show gI (bpS (sI (sI S3 5 2) 4 4) (nI (cC C)) (sl_f (gh (gL T1 5)).toNatClampNeg) (sm_f (gh (gL T1 5)).toNatClampNeg)) 5 = 2
              rw [(bp_f _ _ _ _).2.1, gI_ne (by decide), gI_eq]
            · exact u4
            · exact u5
            · show upd (upd (cGt C) (cC C) 0) (cC C) (gh (gL T1 5)) (cC C) = gh (gL T1 5)
              rw [pk_us]
            · rw [FX_A fxD, gA_eq, m5, pk_us, u3, v1]
            · have := rmo6 (gw (gL T1 5))
              omega
          refine Pc_B (p_is at5.2.1 sg40) (fun r hr => Pc_B (P := fun E => LI f n v0 b (cC C) (gh (gL T1 5)) (rlo (gw (gL T1 5))) (rmo (gw (gL T1 5))) 1 E) (Pc_c (fun y => Pc_B (p_wrong at5 (fun _ => by rw [(bp_f _ _ _ _).1]; decide) (fun _ => s6_0 (bp_f _ _ _ _).1 (fun k => (hr.mpr k) y))) (fun Y hY => Pc_s (Or.inl hY))) (fun y => Pc_s (Or.inr ⟨U1, 0, 6, ps, Or.inl ⟨rfl, Or.inl ⟨rfl, hr.mp y⟩⟩⟩))) (fun E hE => Pc_S (Pc_w (p_names (by rw [v1]) (rmo6 _).1 hE) (fun V hV => ?_))))
          cases V with
          | inl s => exact Or.inl hV
          | inr s => exact p_gtail (by rw [v1]) u4 u5 v3 (rmo6 _).1 hV
