/-! DRIVERS -/
theorem cn_drv {C : Ct} {X : SS} (h : DV C X) (w : Int64) : ∀ k, k ≤ cU C → cn (fun j => gB X 23 j = w) (nh C k) = cn (fun k => isHd (cUr C k) ∧ cUn C k = w) k := by
  intro k
  induction k with
  | zero => intro _; rfl
  | succ k ih =>
    intro hk
    have e := ih (by omega)
    by_cases q : isHd (cUr C k)
    · have en : nh C (k + 1) = nh C k + 1 := cn_y q
      have d := (h.2 k (by omega) q).1
      rw [en]
      by_cases r : cUn C k = w
      · rw [cn_y (P := fun j => gB X 23 j = w) (by show gB X 23 (nh C k) = w; rw [d]; exact r), cn_y (P := fun k => isHd (cUr C k) ∧ cUn C k = w) ⟨q, r⟩, e]
      · rw [cn_n (P := fun j => gB X 23 j = w) (by show ¬ gB X 23 (nh C k) = w; rw [d]; exact r), cn_n (P := fun k => isHd (cUr C k) ∧ cUn C k = w) (fun y => r y.2), e]
    · have en : nh C (k + 1) = nh C k := cn_n q
      rw [en, cn_n (P := fun k => isHd (cUr C k) ∧ cUn C k = w) (fun y => q y.1), e]
theorem p_had {X : SS} {d : Nat} (h : gI X 28 = nI d) (hd : d ≤ 2000) (w : Int64) : Pc (zI (b_X7_readDriver_6 X w) zF ((0 : Int32), (0 : Int32))) (fun r => r = nI (cn (fun j => gB X 23 j = w) d)) := by
  refine Pc_I (fun v : Int32 × Int32 => ∃ j, j ≤ d ∧ v.2 = nI j ∧ v.1 = nI (cn (fun j => gB X 23 j = w) j)) (fun v hv => ?_) _ ⟨0, Nat.zero_le _, rfl, rfl⟩
  obtain ⟨m, v⟩ := v
  obtain ⟨j, hj, ev, em⟩ : ∃ j, j ≤ d ∧ v = nI j ∧ m = nI (cn (fun j => gB X 23 j = w) j) := hv
  refine Pc_c (fun c => Pc_s ?_) (fun c => Pc_G (fun _ => ?_))
  · rw [h, ev, nI_leI (by omega) (by omega)] at c
    have : j = d := by omega
    rw [this] at em
    exact em
  · rw [h, ev, nI_leI (by omega) (by omega)] at c
    have e : lg_cmp (gB X 23 v.toNatClampNeg) w = 0 ↔ gB X 23 j = w := by rw [lc_eq, ev, nI_clamp (by omega)]
    refine Pc_i e (fun q => Pc_l (Pc_l (Pc_s ⟨j + 1, by omega, ?_, ?_⟩))) (fun q => Pc_l (Pc_l (Pc_s ⟨j + 1, by omega, ?_, ?_⟩)))
    · show v + 1 = _
      rw [ev, nI_1]
    · show m + 1 = _
      rw [em, nI_1, cn_y q]
    · show v + 1 = _
      rw [ev, nI_1]
    · show m + nI 0 = _
      rw [em, nI_add, cn_n q]
      rfl
theorem p_isWordb (X : SS) (w : Int64) : Pc (f_X7_isWord X w) zb := Pc_c (fun _ => Pc_c (fun _ => Pc_s (Or.inr rfl)) (fun _ => Pc_s (Or.inl rfl))) (fun _ => Pc_s (Or.inl rfl))
/-- t parts of a DRIVER are taken -/
def TP (t : Nat) (C : Ct) : Prop := match t with
  | 0 => ∃ C0 w p r, TRI C0 ∧ isHd r ∧ C = addU C0 w p r
  | 1 => ∃ C0 w p r w1 p1, TRI C0 ∧ isHd r ∧ C = addU (addU C0 w p r) w1 p1 (-3)
  | _ => TRI C
theorem TP_s {t : Nat} {C : Ct} (h : TP t C) (ht : t < 2) (w : Int64) (p : Int32) : TP (t + 1) (addU C w p (-3)) := by
  match t, ht, h with
  | 0, _, ⟨C0, w0, p0, r, h1, h2, h3⟩ => exact ⟨C0, w0, p0, r, w, p, h1, h2, by rw [h3]⟩
  | 1, _, ⟨C0, w0, p0, r, w1, p1, h1, h2, h3⟩ =>
    show TRI _
    rw [h3]
    exact TRI_drv h1 h2
def DS (f : Nat → Int32) (n : Nat) (v0 : Cv) (b t : Nat) (z : Int) (st : Int32) (Y : SS) : Prop := ∃ (C : Ct) (S3 S1 S0 : SS) (a e : Nat), At f n v0 st z C S3 S1 S0 Y a e ∧ LN b C Y (cC C) ∧ TP t C ∧ (gI S3 5 = 4 ∧ gI S3 8 = -3 ∧ gI S3 9 = nI t ∧ gI S3 10 = 2 ∧ gI S3 11 = 2)
theorem DS_4 {f : Nat → Int32} {n : Nat} {v0 : Cv} {b t : Nat} {z : Int} {st : Int32} {Y : SS} (h : DS f n v0 b t z st Y) : gI Y 4 = 0 := by
  obtain ⟨C, S3, S1, S0, a, e, h, _⟩ := h
  exact h.2.2.2.2.2
theorem p_askD {f : Nat → Int32} {n : Nat} {v0 : Cv} {b t : Nat} {z : Int} {X : SS} (h : DS f n v0 b t z 7 X) (hz : -1 ≤ z) (ht : t < 2) : Pc (f_X7_ask X 0) (fun Y => BAD f v0 Y ∨ DS f n v0 b (t + 1) (z - 2) 8 Y) := by
  obtain ⟨C, S3, S1, S0, a, e, h, ln, tp, s5, s8, s9, s10, s11⟩ := h
  intro Y hY
  have pn := p_ask h hz (fun _ => by rw [s9, s11, show (2 : Int32) = nI 2 from rfl, nI_ltI (by omega) (by omega)]; exact ht) 0 Y hY
  rcases pn with pn | ⟨nm, eL, fx, T1, a', e', at'⟩
  · exact Or.inl pn
  obtain ⟨x27, _⟩ := ln.2.1
  have hu : cU C < 667 := by
    have q := h.2.2.2.1
    have ta := h.2.1
    have hn := ta.1.1
    have q2 := ta.2.2.2.2.1
    have q3 := TA_e ta (ne_of nm.1 (by decide))
    omega
  have cl : (gI X 27).toNatClampNeg = cU C := by rw [x27, nI_clamp (by omega)]
  obtain ⟨z27, z20, z21, z22, ⟨z26, z28, z30⟩, ⟨z11, z23⟩, z12, z13, z14, z15, z18, z24, z25⟩ := akX_f X 0
  rw [cl] at z20 z21 z22
  rw [s8] at at'
  have s14 : gI X 6 = gI S1 4 := by rw [h.2.1.2.2.1.1, h.2.1.2.2.1.2]
  have eY : ∀ j, gA Y j = gA (akX X 0) j := FX_A fx
  have eB : ∀ j, gB Y j = gB (akX X 0) j := FX_B fx
  have ln' := LN_part (Y := Y) (w := gL S1 5) (p := gI S1 4) ln ln.1.2.1.2 (by rw [FX_i fx (by decide), z26]) (by rw [FX_i fx (by decide), z27, x27, nI_1]) (by rw [FX_i fx (by decide), z28]) (by rw [FX_i fx (by decide), z30]) (by rw [eB, z11]) (by rw [eY, z12]) (by rw [eY, z13]) (by rw [eY, z14]) (by rw [eY, z15]) (by rw [eY, z18]) (by rw [eB, z20, eL]) (by rw [eY, z21, s14]) (by rw [eY, z22]) (by rw [eB, z23]) (by rw [eY, z24]) (by rw [eY, z25])
  obtain ⟨u5, u8, u9, u10, u11⟩ := tp_f S3 (gL S1 5) (gI S1 4)
  exact Or.inr ⟨_, _, T1, S0, a', e', at', ln', TP_s tp ht _ _, u5.trans s5, u8.trans s8, by rw [u9, s9, nI_1], u10.trans s10, u11.trans s11⟩
theorem p_mustD {f : Nat → Int32} {n : Nat} {v0 : Cv} {b t : Nat} {z : Int} {st st' c : Int32} {X : SS} (hc : isSg c) (h0 : st ≠ 0) (h : DS f n v0 b t z st X) (hs : ∀ S3 S1 S0 : SS, gI S3 4 = st → gI S3 5 = 4 → gI S3 9 = nI t → gI S3 10 = 2 → gI S3 11 = 2 → (gI S1 3 = c → f_X3_step S3 S1 S0 = some (1, sI S3 4 st', S0)) ∧ (gI S1 3 ≠ c → f_X3_step S3 S1 S0 = some (0, rfS S3 S1, S0))) : Pc (zB (f_X7_must X c) (fun (s : SS) => some s)) (fun Y => BAD f v0 Y ∨ DS f n v0 b t (z + 1) st' Y) := by
  obtain ⟨C, S3, S1, S0, a, e, h, ln, tp, s5, s8, s9, s10, s11⟩ := h
  obtain ⟨hy, hn⟩ := hs S3 S1 S0 h.2.2.2.2.1 s5 s9 s10 s11
  refine Pc_B (p_must h hc h0 hy hn (CC_I h.2.2.1 (by decide) _)) (fun Y hY => Pc_s ?_)
  rcases hY with hY | ⟨_, fx, T1, a', e', at'⟩
  · exact Or.inl hY
  · refine Or.inr ⟨C, _, T1, S0, a', e', At_st at' gI_eq (Int.le_refl _), LN_SD ln (SD_FX fx), tp, ?_, ?_, ?_, ?_, ?_⟩
    · rw [gI_ne (by decide)]; exact s5
    · rw [gI_ne (by decide)]; exact s8
    · rw [gI_ne (by decide)]; exact s9
    · rw [gI_ne (by decide)]; exact s10
    · rw [gI_ne (by decide)]; exact s11
def dvX (X : SS) (w : Int64) (p : Int32) : SS := sI (sA (sB (sA (sA (sB X 20 (vp_updL (gB X 20) (gI X 27).toNatClampNeg w)) 21 (upd (gA X 21) (gI X 27).toNatClampNeg p)) 22 (upd (gA X 22) (gI X 27).toNatClampNeg (-1))) 23 (vp_updL (gB X 23) (gI X 28).toNatClampNeg w)) 24 (upd (gA X 24) (gI X 28).toNatClampNeg (gI X 27))) 27 (gI X 27 + 1)
theorem dvX_f (X : SS) (w : Int64) (p : Int32) : gI (dvX X w p) 27 = gI X 27 + 1 ∧ gB (dvX X w p) 20 = vp_updL (gB X 20) (gI X 27).toNatClampNeg w ∧ gA (dvX X w p) 21 = upd (gA X 21) (gI X 27).toNatClampNeg p ∧ gA (dvX X w p) 22 = upd (gA X 22) (gI X 27).toNatClampNeg (-1) ∧ gB (dvX X w p) 23 = vp_updL (gB X 23) (gI X 28).toNatClampNeg w ∧ gA (dvX X w p) 24 = upd (gA X 24) (gI X 28).toNatClampNeg (gI X 27) ∧ (gI (dvX X w p) 26 = gI X 26 ∧ gI (dvX X w p) 28 = gI X 28 ∧ gI (dvX X w p) 30 = gI X 30) ∧ gB (dvX X w p) 11 = gB X 11 ∧ (gA (dvX X w p) 12 = gA X 12 ∧ gA (dvX X w p) 13 = gA X 13 ∧ gA (dvX X w p) 14 = gA X 14 ∧ gA (dvX X w p) 15 = gA X 15 ∧ gA (dvX X w p) 18 = gA X 18 ∧ gA (dvX X w p) 25 = gA X 25) := ⟨rfl, rfl, rfl, rfl, rfl, rfl, ⟨rfl, rfl, rfl⟩, rfl, rfl, rfl, rfl, rfl, rfl, rfl⟩
def dwX (X : SS) (v : Int32) : SS := sI (sA X 25 (upd (gA X 25) (gI X 28).toNatClampNeg v)) 28 (gI X 28 + 1)
theorem dwX_f (X : SS) (v : Int32) : gI (dwX X v) 28 = gI X 28 + 1 ∧ gA (dwX X v) 25 = upd (gA X 25) (gI X 28).toNatClampNeg v ∧ (gI (dwX X v) 26 = gI X 26 ∧ gI (dwX X v) 27 = gI X 27 ∧ gI (dwX X v) 30 = gI X 30) ∧ (∀ k, gB (dwX X v) k = gB X k) ∧ (gA (dwX X v) 12 = gA X 12 ∧ gA (dwX X v) 13 = gA X 13 ∧ gA (dwX X v) 14 = gA X 14 ∧ gA (dwX X v) 15 = gA X 15 ∧ gA (dwX X v) 18 = gA X 18 ∧ gA (dwX X v) 21 = gA X 21 ∧ gA (dwX X v) 22 = gA X 22 ∧ gA (dwX X v) 24 = gA X 24) := ⟨rfl, rfl, ⟨rfl, rfl, rfl⟩, fun _ => rfl, rfl, rfl, rfl, rfl, rfl, rfl, rfl, rfl⟩
/-- from the ( on -/
theorem p_dtail {f : Nat → Int32} {n : Nat} {v0 : Cv} {b : Nat} {X : SS} (h : DS f n v0 b 0 1 6 X) : Pc (zB (f_X7_must X (40 : Int32)) (fun (s7_73 : SS) =>
  zB (f_X7_isGood s7_73) (fun (r77 : Int32) =>
  zB (if r77 = (0 : Int32) then some s7_73
  else zB (f_X7_ask s7_73 (0 : Int32)) (fun (s7_146 : SS) =>
  some s7_146)) (fun (s7_87 : SS) =>
  zB (f_X7_isGood s7_87) (fun (r88 : Int32) =>
  zB (if r88 = (0 : Int32) then some s7_87
  else zB (f_X7_must s7_87 (44 : Int32)) (fun (s7_141 : SS) =>
  some s7_141)) (fun (s7_98 : SS) =>
  zB (f_X7_isGood s7_98) (fun (r99 : Int32) =>
  zB (if r99 = (0 : Int32) then some s7_98
  else zB (f_X7_ask s7_98 (0 : Int32)) (fun (s7_136 : SS) =>
  some s7_136)) (fun (s7_109 : SS) =>
  zB (f_X7_isGood s7_109) (fun (r110 : Int32) =>
  zB (if r110 = (0 : Int32) then some s7_109
  else zB (f_X7_must s7_109 (41 : Int32)) (fun (s7_131 : SS) =>
  some s7_131)) (fun (s7_120 : SS) =>
  zB (f_X7_isGood s7_120) (fun (r121 : Int32) =>
  if r121 = (0 : Int32) then some s7_120
  else zB (f_X7_must s7_120 (59 : Int32)) (fun (s7_126 : SS) =>
  some s7_126)))))))))))) (fun Y => BAD f v0 Y ∨ LE f n v0 b Y) := by
  have i2 : (2 : Int32) = nI 2 := rfl
  refine Pc_B (P := fun Y => BAD f v0 Y ∨ DS f n v0 b 0 2 7 Y) ?_ (fun A hA => p_stage (G := fun Y => DS f n v0 b 0 2 7 Y) (G' := fun Y => DS f n v0 b 1 0 8 Y) hA DS_4 (fun q => ?_) (fun B hB => p_stage (G := fun Y => DS f n v0 b 1 0 8 Y) (G' := fun Y => DS f n v0 b 1 1 7 Y) hB DS_4 (fun q => ?_) (fun C hC => p_stage (G := fun Y => DS f n v0 b 1 1 7 Y) (G' := fun Y => DS f n v0 b 2 (-1) 8 Y) hC DS_4 (fun q => ?_) (fun D hD => p_stage (G := fun Y => DS f n v0 b 2 (-1) 8 Y) (G' := fun Y => E9 f n v0 b Y) hD DS_4 (fun q => ?_) (fun E hE => p_semi hE)))))
  · intro Y hY
    exact p_mustD (st' := 7) sg40 (by decide) h (fun S3 S1 S0 s4 _ _ _ _ => ⟨fun y => s6_1 s4 y, fun y => s6_0 s4 y⟩) Y (E_B hY rfl)
  · exact Pc_B (p_askD q (by omega) (by omega)) (fun Y hY => Pc_s hY)
  · exact p_mustD (st' := 7) sg44 (by decide) q (fun S3 S1 S0 s4 s5 s9 s10 s11 => ⟨fun y => s8_of s4 (t8_d y (by rw [s5]; decide) (by rw [s9, s11, i2, nI_leI (by omega) (by omega)]; omega)) zb1, fun y => by
      by_cases k41 : gI S1 3 = 41
      · exact s8_of s4 (t8_l k41 (by rw [s9, s10, i2, nI_ltI (by omega) (by omega)]; omega)) zb0
      · exact s8_of s4 (t8_0 y k41) zb0⟩)
  · exact Pc_B (p_askD q (by omega) (by omega)) (fun Y hY => Pc_s hY)
  · refine Pc_w (p_mustD (st' := 10) sg41 (by decide) q (fun S3 S1 S0 s4 s5 s9 s10 s11 => ⟨fun y => s8_of s4 (t8_h y (by rw [s9, s10, i2, nI_ltI (by omega) (by omega)]; omega) (by rw [s5]; decide)) zb1, fun y => by
      by_cases k44 : gI S1 3 = 44
      · exact s8_of s4 (t8_e k44 (by rw [s5]; decide) (by rw [s9, s11, i2, nI_leI (by omega) (by omega)]; omega)) zb0
      · exact s8_of s4 (t8_0 k44 y) zb0⟩)) (fun Y hY => ?_)
    rcases hY with hY | ⟨C, S3, S1, S0, a, e, h, ln, tp, _⟩
    · exact Or.inl hY
    · exact Or.inr ⟨C, S3, S1, S0, a, e, 10, At_st h rfl (by omega), Or.inl rfl, ln, tp⟩
theorem p_readDriver {f : Nat → Int32} {n b : Nat} {v0 : Cv} {C : Ct} {S3 S1 S0 X : SS} {a e : Nat} (h : At f n v0 3 1 C S3 S1 S0 X a e) (hl : LN b C X (cC C)) (tri : TRI C) (hk : gI S1 3 = 60) {w : Int64} {p : Int32} (h6 : gL S3 6 = w) (h7 : gI S3 7 = p) : Pc (f_X7_readDriver X w p) (fun Y => BAD f v0 Y ∨ LE f n v0 b Y) := by
  obtain ⟨_, ta, cc, hz, s4, x4⟩ := id h
  obtain ⟨⟨⟨x30, hb⟩, ⟨x26, hc⟩, no⟩, ⟨x27, _⟩, uv, mn, dv, lh, fi, kd⟩ := id hl
  obtain ⟨_, _, ⟨c15, c12, c13, c14, _⟩, _⟩ := id cc
  have k1 : gI S1 3 ≠ 1 := ne_of hk (by decide)
  have ae := TA_e ta k1
  have hn := ta.1.1
  have u6 : cU C < 667 := by omega
  have ec : cn (fun k => isHd (gA S3 14 k) ∧ gB S3 12 k = gL S3 6) (cU C) = cn (fun k => isHd (cUr C k) ∧ cUn C k = w) (cU C) := by rw [c14, c12, h6]
  have lw := lh w
  have hd : nh C (cU C) ≤ cU C := cn_le _
  refine Pc_B (p_had dv.1 (by omega) w) (fun hh ehh => ?_)
  rw [cn_drv dv w (cU C) (Nat.le_refl _)] at ehh
  rw [ehh]
  refine Pc_B (P := fun A => BAD f v0 A ∨ (A = X ∧ cn (fun k => isHd (cUr C k) ∧ cUn C k = w) (cU C) < 6)) (Pc_c (fun c => Pc_e (e_fails x4 2 _) (Pc_s (Or.inl ?_))) (fun c => Pc_s (Or.inr ⟨rfl, ?_⟩))) (fun A hA => ?_)
  · rw [show (6 : Int32) = nI 6 from rfl, nI_eq (by omega) (by omega)] at c
    rw [← h7]
    exact p_fails h k1 (by decide) (s3_of s4 (t3_lb hk c15 (by omega) (by rw [ec]; omega)) zb0)
  · rw [show (6 : Int32) = nI 6 from rfl, nI_eq (by omega) (by omega)] at c
    omega
  rcases hA with hA | ⟨eA, l6⟩
  · exact Pc_e (e_isGood0 hA.1) (Pc_c (fun _ => Pc_s (Or.inl hA)) (fun y => absurd rfl y))
  rw [eA]
  refine Pc_e (e_isGood1 x4) (Pc_c (fun y => absurd y ne10) (fun _ => Pc_G (fun _ => Pc_l (Pc_G (fun _ => Pc_l (Pc_G (fun _ => Pc_l (Pc_G (fun _ => Pc_l (Pc_G (fun _ => Pc_l (Pc_l ?_))))))))))))
  have st : f_X3_step S3 S1 S0 = some (1, sI (sI S3 5 4) 4 5, S0) := s3_of s4 (t3_lo hk c15 (by omega) (by rw [ec]; exact l6)) zb1
  have tx : TX f n (dvX X w p) := ta.1
  refine Pc_B (p_move (X' := dvX X w p) (z' := 2) h k1 st (CC_I (CC_I cc (by decide) _) (by decide) _) tx rfl x4 (by omega) (OB_I (by decide) (OB_F (by decide) (OB_G (by decide) (OB_F (by decide) (OB_F (by decide) (OB_G (by decide) (At_ob h)))))))) (fun B hB => ?_)
  obtain ⟨fx, T1, a', e', at', _⟩ := hB
  have at5 := At_st at' gI_eq (Int.le_refl _)
  have tB := at5.2.1
  have s45 := at5.2.2.2.2.1
  have t15 : gI (sI (sI S3 5 4) 4 5) 15 = nI (cU C) := by rw [gI_ne (by decide), gI_ne (by decide)]; exact c15
  refine Pc_B (p_isWord tB kept_in.2.2.2.1) (fun r hr => Pc_B (P := fun D => BAD f v0 D ∨ (D = B ∧ gI T1 3 = 2 ∧ (gL T1 5 = 6907441 ∨ gL T1 5 = 6907440))) (Pc_c (fun c => Pc_B (p_isWord tB kept_in.2.2.2.2) (fun r2 hr2 => Pc_c (fun c2 => Pc_B (p_wrong at5 (fun _ => by decide) (fun _ => s5_of s45 (t5_0 (fun y => ?_)) zb0)) (fun Y hY => Pc_s (Or.inl hY))) (fun c2 => Pc_s (Or.inr ⟨rfl, (hr2.mp c2).1, Or.inr (hr2.mp c2).2⟩)))) (fun c => Pc_s (Or.inr ⟨rfl, (hr.mp c).1, Or.inl (hr.mp c).2⟩))) (fun D hD => ?_))
  · rcases y.2 with q | q
    · exact (hr.mpr ⟨y.1, q⟩) c
    · exact (hr2.mpr ⟨y.1, q⟩) c2
  rcases hD with hD | ⟨eD, w2, ww⟩
  · exact Pc_e (e_isGood0 hD.1) (Pc_c (fun _ => Pc_s (Or.inl hD)) (fun y => absurd rfl y))
  rw [eD]
  refine Pc_e (e_isGood1 at5.2.2.2.2.2) (Pc_c (fun y => absurd y ne10) (fun _ => Pc_B (Pc_and (p_isWord tB kept_in.2.2.2.1) (p_isWordb _ _)) (fun r6 hr6 => Pc_G (fun _ => Pc_l (Pc_l ?_)))))
  have k15 : gI T1 3 ≠ 1 := ne_of w2 (by decide)
  have a2 := (TA_L tB w2).2 (by rcases ww with q | q <;> rw [q]; exact kept_in.2.2.2.1; exact kept_in.2.2.2.2)
  have hz5 := at5.2.2.2.1
  have cl : (gI X 27).toNatClampNeg = cU C := by rw [x27, nI_clamp (by omega)]
  have cd : (gI X 28).toNatClampNeg = nh C (cU C) := by rw [dv.1, nI_clamp (by omega)]
  obtain ⟨z27, z20, z21, z22, z23, z24, ⟨z26, z28, z30⟩, z11, z12, z13, z14, z15, z18, z25⟩ := dvX_f X w p
  rw [cl] at z20 z21 z22
  rw [cd] at z23 z24
  have b28 : gI B 28 = nI (nh C (cU C)) := by rw [FX_i fx (by decide), z28]; exact dv.1
  have cb : (gI B 28).toNatClampNeg = nh C (cU C) := by rw [b28, nI_clamp (by omega)]
  obtain ⟨q28, q25, ⟨q26, q27, q30⟩, qB, q12, q13, q14, q15, q18, q21, q22, q24⟩ := dwX_f B (vp_nar .boolean r6)
  rw [cb] at q25
  have bA : ∀ j, gA B j = gA (dvX X w p) j := FX_A fx
  have bB : ∀ j, gB B j = gB (dvX X w p) j := FX_B fx
  have fin : ∀ rr : Int32, isHd rr → vp_nar .boolean r6 = (if rr = -1 then 1 else 0) → f_X3_takeDriver (sI (sI S3 5 4) 4 5) T1 = some (1, bpS (auS (sI (sI S3 5 4) 4 5) w p rr) (-3) 2 2) → Pc (zB (f_X7_next (dwX B (vp_nar .boolean r6))) (fun (s7_69 : SS) => zB (f_X7_must s7_69 (40 : Int32)) (fun (s7_73 : SS) =>
  zB (f_X7_isGood s7_73) (fun (r77 : Int32) =>
  zB (if r77 = (0 : Int32) then some s7_73
  else zB (f_X7_ask s7_73 (0 : Int32)) (fun (s7_146 : SS) =>
  some s7_146)) (fun (s7_87 : SS) =>
  zB (f_X7_isGood s7_87) (fun (r88 : Int32) =>
  zB (if r88 = (0 : Int32) then some s7_87
  else zB (f_X7_must s7_87 (44 : Int32)) (fun (s7_141 : SS) =>
  some s7_141)) (fun (s7_98 : SS) =>
  zB (f_X7_isGood s7_98) (fun (r99 : Int32) =>
  zB (if r99 = (0 : Int32) then some s7_98
  else zB (f_X7_ask s7_98 (0 : Int32)) (fun (s7_136 : SS) =>
  some s7_136)) (fun (s7_109 : SS) =>
  zB (f_X7_isGood s7_109) (fun (r110 : Int32) =>
  zB (if r110 = (0 : Int32) then some s7_109
  else zB (f_X7_must s7_109 (41 : Int32)) (fun (s7_131 : SS) =>
  some s7_131)) (fun (s7_120 : SS) =>
  zB (f_X7_isGood s7_120) (fun (r121 : Int32) =>
  if r121 = (0 : Int32) then some s7_120
  else zB (f_X7_must s7_120 (59 : Int32)) (fun (s7_126 : SS) =>
  some s7_126))))))))))))) (fun Y => BAD f v0 Y ∨ LE f n v0 b Y) := by
    intro rr hrr hv htd
    have ln' : LN b (addU C w p rr) (dwX B (vp_nar .boolean r6)) (cC C) := LN_head hl hc hrr l6 (by rw [q26, FX_i fx (by decide), z26]) (by rw [q27, FX_i fx (by decide), z27, x27, nI_1]) (by rw [q28, b28, nI_1]) (by rw [q30, FX_i fx (by decide), z30]) (by rw [qB, bB, z11]) (by rw [q12, bA, z12]) (by rw [q13, bA, z13]) (by rw [q14, bA, z14]) (by rw [q15, bA, z15]) (by rw [q18, bA, z18]) (by rw [qB, bB, z20]) (by rw [q21, bA, z21]) (by rw [q22, bA, z22]) (by rw [qB, bB, z23]) (by rw [q24, bA, z24, x27]) (by rw [q25, bA, z25, hv])
    refine Pc_B (p_move (X' := dwX B (vp_nar .boolean r6)) (z' := 1) at5 k15 (s5_of s45 htd zb1) (CC_bp (CC_au at5.2.2.1 u6 w p rr) _ _ _) tB.1 rfl at5.2.2.2.2.2 ?_ (OB_I (by decide) (OB_F (by decide) (At_ob at5)))) (fun D hD => ?_)
    · show 3 * ((cU C + 1 : Nat) : Int) + 1 ≤ e'
      omega
    · obtain ⟨fx2, U1, a3, e3, at6, _⟩ := hD
      refine p_dtail ⟨_, _, U1, S0, a3, e3, at6, LN_SD ln' (SD_FX fx2), ⟨C, w, p, rr, tri, hrr, rfl⟩, ?_, rfl, rfl, rfl, rfl⟩
      rw [(bp_f _ _ _ _).2.1]
      rfl
  have s6e : gL (sI (sI S3 5 4) 4 5) 6 = w := h6
  have s7e : gI (sI (sI S3 5 4) 4 5) 7 = p := by rw [gI_ne (by decide), gI_ne (by decide)]; exact h7
  rcases ww with q | q
  · have r1 : r6 = 1 := by
      rcases hr6.2 with y | y
      · exact absurd y (hr6.1.mpr ⟨w2, q⟩)
      · exact y
    refine fin (-1) (Or.inl rfl) ?_ ?_
    · rw [if_pos rfl, r1, nar1]
    · have := t5_1 w2 q t15 u6
      rw [s6e, s7e] at this
      exact this
  · have r0 : r6 = 0 := Classical.byContradiction (fun y => absurd (q.symm.trans (hr6.1.mp y).2) (by decide))
    refine fin (-2) (Or.inr rfl) ?_ ?_
    · rw [r0, if_neg (by decide), nar0]
    · have := t5_2 w2 q t15 u6
      rw [s6e, s7e] at this
      exact this
/-! a line, all lines -/
theorem p_readLine {f : Nat → Int32} {n b : Nat} {v0 : Cv} {X : SS} (h : LE f n v0 b X) (ht : gI X 8 ≠ 0) : Pc (f_X7_readLine X) (fun Y => BAD f v0 Y ∨ LE f n v0 b Y) := by
  obtain ⟨C, S3, S1, S0, a, e, h, ln, tri⟩ := h
  obtain ⟨_, ta, cc, hz, s4, x4⟩ := id h
  have k1 : gI S1 3 ≠ 1 := fun q => ht ((TA_end ta).mpr q)
  have ae := TA_e ta k1
  have ret : ∀ {x : Option SS}, Pc x (fun Y => BAD f v0 Y ∨ LE f n v0 b Y) → Pc (zB x (fun (s : SS) => some s)) (fun Y => BAD f v0 Y ∨ LE f n v0 b Y) := fun hx => Pc_B hx (fun Y hY => Pc_s hY)
  refine Pc_B (p_isWord ta kept_in.1) (fun r1 h1 => Pc_c (fun c1 => Pc_B (p_isWord ta kept_in.2.1) (fun r2 h2 => Pc_c (fun c2 => Pc_B (p_isWord ta kept_in.2.2.1) (fun r3 h3 => Pc_c (fun c3 => ?_) (fun c3 => ?_))) (fun c2 => ?_))) (fun c1 => ?_))
  · refine Pc_i (TA_name ta) (fun nm => Pc_l (Pc_l ?_)) (fun nn => ret (Pc_w (p_wrong h (fun q => absurd q k1) (fun _ => s0_of s4 (l0_0 (fun q => ?_)) zb0)) (fun Y hY => Or.inl hY)))
    · refine Pc_B (p_move (X' := X) (z' := 1) h k1 (s0_of s4 (l0_name nm.1 nm.2) zb1) (CC_I (CC_I (CC_L cc _ _) (by decide) _) (by decide) _) ta.1 rfl x4 (by omega) (At_ob h)) (fun A hA => ?_)
      obtain ⟨fx, T1, a', e', at', _⟩ := hA
      have at3 := At_st at' gI_eq (Int.le_refl _)
      have eL : gL (sI (sI (sL S3 6 (gL S1 5)) 7 (gI S1 4)) 4 3) 6 = gL X 10 := by
        rw [gL_sI, gL_sI, gL_sL, if_pos rfl, (TA_L ta nm.1).1]
      have eP : gI (sI (sI (sL S3 6 (gL S1 5)) 7 (gI S1 4)) 4 3) 7 = gI X 6 := by
        rw [gI_ne (by decide), gI_eq, ta.2.2.1.1, ta.2.2.1.2]
      have lnA := LN_SD ln (SD_FX fx)
      refine Pc_B (p_is at3.2.1 sg61) (fun r hr => Pc_c (fun c => Pc_B (p_is at3.2.1 sg60) (fun r2 hr2 => Pc_c (fun c2 => ret (Pc_w (p_wrong at3 (fun _ => by decide) (fun _ => s3_of at3.2.2.2.2.1 (t3_0 (fun q => (hr.mpr q) c) (fun q => (hr2.mpr q) c2)) zb0)) (fun Y hY => Or.inl hY))) (fun c2 => ret (p_readDriver at3 lnA tri (hr2.mp c2) eL eP)))) (fun c => ret (p_readGate at3 lnA tri (hr.mp c) eL eP)))
    · rcases q.2 with y | y | y | y
      · exact (h1.mpr ⟨q.1, y⟩) c1
      · exact (h2.mpr ⟨q.1, y⟩) c2
      · exact (h3.mpr ⟨q.1, y⟩) c3
      · exact nn ⟨q.1, y⟩
  · exact ret (p_readRegister h ln tri (h3.mp c3).1 (h3.mp c3).2)
  · exact ret (p_tellAll (Or.inr rfl) h ln tri k1 (s0_of s4 (l0_bus (h2.mp c2).1 (h2.mp c2).2) zb1) (CC_I (CC_I cc (by decide) _) (by decide) _) gI_eq (by rw [gI_ne (by decide), gI_eq]))
  · exact ret (p_tellAll (Or.inl rfl) h ln tri k1 (s0_of s4 (l0_in (h1.mp c1).1 (h1.mp c1).2) zb1) (CC_I (CC_I cc (by decide) _) (by decide) _) gI_eq (by rw [gI_ne (by decide), gI_eq]))
theorem p_lines {f : Nat → Int32} {n b : Nat} {v0 : Cv} {X : SS} (h : LE f n v0 b X) : Pc (zI b_X7_read_85 zF X) (fun Y => BAD f v0 Y ∨ (LE f n v0 b Y ∧ gI Y 8 = 0)) := by
  refine Pc_I (fun Y => BAD f v0 Y ∨ LE f n v0 b Y) (fun Y hY => ?_) _ (Or.inr h)
  rcases hY with hY | hY
  · exact Pc_e (e_isGood0 hY.1) (Pc_c (fun _ => Pc_s (Or.inl hY)) (fun y => absurd rfl y))
  · obtain ⟨C, S3, S1, S0, a, e, h, q⟩ := id hY
    refine Pc_e (e_isGood1 h.2.2.2.2.2) (Pc_c (fun y => absurd y ne10) (fun _ => Pc_c (fun c => Pc_s (Or.inr ⟨hY, c⟩)) (fun c => Pc_B (p_readLine hY c) (fun Z hZ => Pc_s hZ))))
