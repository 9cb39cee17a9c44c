/-! the two worlds between two calls: both within their bounds, their tapes and FAULTS alike -/
def TPE (S6 S7 : SS) : Prop := ∀ j : Nat, (j : Int) < (gI S6 1).toInt → gA S6 0 j = gA S7 0 j ∧ IV (-128) 127 (gA S6 0 j)
def FLT (S3 S7 : SS) : Prop := gI S3 0 = gI S7 4 ∧ gI S3 1 = gI S7 5
theorem TPE_k {S6 S7 A D : SS} (h : TPE S6 S7) (h1 : gI A 1 = gI S6 1) (h2 : gA A 0 = gA S6 0) (h3 : gA D 0 = gA S7 0) : TPE A D := by
  intro j hj
  rw [h1] at hj
  rw [h2, h3]
  exact h j hj
theorem FLT_k {S3 S7 D : SS} (h : FLT S3 S7) (h1 : gI D 4 = gI S7 4) (h2 : gI D 5 = gI S7 5) : FLT S3 D := ⟨h.1.trans h1.symm, h.2.trans h2.symm⟩
def RX (k : Nat) (S6 S3 S1 S0 S8 S5 S4 S7 : SS) : Prop := I6 S6 ∧ I0 S0 ∧ I0 S8 ∧ I4 S4 ∧ M7 2000 (70000 * (k : Int)) (1000 * (k : Int)) S7 ∧ gI S6 1 = gI S7 2 ∧ TPE S6 S7 ∧ FLT S3 S7 ∧ CR S0 S7 ∧ gI S6 11 = gI S7 46 ∧ VAL S0 S6 S7 ∧ gI S0 1 = gI S7 31 ∧ WHL (3000 * k) S0 S4 S7 ∧ FRS S0 S6 S5 ∧ S1 = S1 ∧ S5 = S5
theorem RX_mk {k : Nat} {S6 S3 S1 S0 S8 S5 S4 S7 : SS} {B T : Int} (h6 : I6 S6) (h0 : I0 S0) (h8 : I0 S8) (h4 : I4 S4) (h7 : M7 2000 B T S7) (hB : B ≤ 70000 * (k : Int) + 70000) (hT : T ≤ 1000 * (k : Int) + 1000) (e : gI S6 1 = gI S7 2) (tp : TPE S6 S7) (fl : FLT S3 S7) (cr : CR S0 S7) (wh : gI S6 11 = gI S7 46) (va : VAL S0 S6 S7) (rg : gI S0 1 = gI S7 31) (wl : WHL (3000 * (k + 1)) S0 S4 S7) (fs : FRS S0 S6 S5) : RX (k + 1) S6 S3 S1 S0 S8 S5 S4 S7 := ⟨h6, h0, h8, h4, M7_mono h7 (by omega) (by omega), e, tp, fl, cr, wh, va, rg, wl, fs, rfl, rfl⟩
theorem Z0_0 : I0 ((fun _ => 0, fun _ => 0, fun _ _ => 0, fun _ _ => 0) : SS) := ⟨IV_00, AR_0 (by decide) (by decide), AR_0 (by decide) (by decide), AR_0 (by decide) (by decide)⟩
theorem RX_0 : RX 0 (fun _ => 0, fun _ => 0, fun _ _ => 0, fun _ _ => 0) (sI (fun _ => 0, fun _ => 0, fun _ _ => 0, fun _ _ => 0) 1 (-1)) (fun _ => 0, fun _ => 0, fun _ _ => 0, fun _ _ => 0) (fun _ => 0, fun _ => 0, fun _ _ => 0, fun _ _ => 0) (fun _ => 0, fun _ => 0, fun _ _ => 0, fun _ _ => 0) (fun _ => 0, fun _ => 0, fun _ _ => 0, fun _ _ => 0) (fun _ => 0, fun _ => 0, fun _ _ => 0, fun _ _ => 0) (sI (fun _ => 0, fun _ => 0, fun _ _ => 0, fun _ _ => 0) 5 (-1)) := by
  refine ⟨IV_00, Z0_0, Z0_0, AR_0 (by decide) (by decide), ⟨⟨IV_00, IV_00, AR_0 (by decide) (by decide), AR_0 (by decide) (by decide), fun j q => IV_00, AR_0 (by decide) (by decide)⟩, AR_0 (by decide) (by decide), IV_00, AR_0 (by decide) (by decide), IV_00, AR_0 (by decide) (by decide)⟩, rfl, fun j hj => ?_, ⟨rfl, rfl⟩, Or.inl ⟨rfl, rfl, rfl⟩, rfl, VAL_0 rfl, rfl, fun w => absurd rfl w, FRS_0 rfl, rfl, rfl⟩
  have hj : (j : Int) < (0 : Int32).toInt := hj
  have t0 : (0 : Int32).toInt = 0 := by decide
  omega
theorem st_none {k : Nat} {S6 S3 S1 S0 S8 S5 S4 S7 : SS} (h : RX k S6 S3 S1 S0 S8 S5 S4 S7) : RX (k + 1) S6 S3 S1 S0 S8 S5 S4 S7 := by
  obtain ⟨h6, h0, h8, h4, h7, e, tp, fl, cr, wh, va, rg, wl, fs, _⟩ := h
  exact RX_mk h6 h0 h8 h4 h7 (by omega) (by omega) e tp fl cr wh va rg (WHL_mono wl (by omega)) fs
theorem p_end6 (S : SS) (p : Int32) : Pc (f_X6_end S p) (fun w => gA w.2 0 = gA S 0) := Pc_c (fun _ => Pc_s rfl) (fun _ => Pc_c (fun _ => Pc_l (Pc_s rfl)) (fun _ => Pc_s rfl))
theorem p_end6b (S : SS) (p : Int32) : Pc (f_X6_end S p) (fun w => gI w.2 11 = gI S 11) := Pc_c (fun _ => Pc_s rfl) (fun _ => Pc_c (fun _ => Pc_l (Pc_s (gI_ne (by decide)))) (fun _ => Pc_s rfl))
theorem p_end6c (S : SS) (p : Int32) : Pc (f_X6_end S p) (fun w => gA w.2 5 = gA S 5) := Pc_c (fun _ => Pc_s rfl) (fun _ => Pc_c (fun _ => Pc_l (Pc_s rfl)) (fun _ => Pc_s rfl))
theorem p_end6d (S : SS) (p : Int32) : Pc (f_X6_end S p) (fun w => gI w.2 9 = gI S 9) := Pc_c (fun _ => Pc_s rfl) (fun _ => Pc_c (fun _ => Pc_l (Pc_s (gI_ne (by decide)))) (fun _ => Pc_s rfl))
theorem p_end7 (S : SS) (p : Int32) : Pc (f_X7_end S p) (fun w => (∀ k, gA w.2 k = gA S k) ∧ (∀ k, gB w.2 k = gB S k) ∧ ∀ k, k ≠ 2 → gI w.2 k = gI S k) := Pc_c (fun _ => Pc_s ⟨fun _ => rfl, fun _ => rfl, fun _ _ => rfl⟩) (fun _ => Pc_c (fun _ => Pc_l (Pc_s ⟨fun _ => rfl, fun _ => rfl, fun k hk => gI_ne hk⟩)) (fun _ => Pc_s ⟨fun _ => rfl, fun _ => rfl, fun _ _ => rfl⟩))
theorem CR_o {S0 S7 D : SS} (h : CR S0 S7) (h29 : gI D 29 = gI S7 29) (h30 : gI D 30 = gI S7 30) (hA : ∀ k, 2 ≤ k → gA D k = gA S7 k) (hB : ∀ k, gB D k = gB S7 k) : CR S0 D := CR_bad h h30 h29 (fun b _ _ => ⟨fun i _ => by rw [hB, hA 12 (by decide), hA 13 (by decide), hA 14 (by decide), hA 15 (by decide), hA 17 (by decide)]; exact ⟨rfl, rfl, rfl, rfl, rfl, rfl⟩, fun j _ => by rw [hA 16 (by decide)], fun j _ => by rw [hA 19 (by decide)]⟩)
theorem nI_I6 {S6 : SS} (h : I6 S6) : ∃ l : Nat, l ≤ 2000 ∧ gI S6 1 = nI l := by
  obtain ⟨h1, h2⟩ := h
  refine ⟨(gI S6 1).toInt.toNat, by omega, Int32.toInt_inj.mp ?_⟩
  rw [nI_toInt (by omega)]
  omega
theorem st_feed {k : Nat} {S6 S3 S1 S0 S8 S5 S4 S7 : SS} (h : RX k S6 S3 S1 S0 S8 S5 S4 S7) (hk : k < 512) (p1 : Int32) (p2 : Int32) (p3 : Int32) (p4 : Int32) (p5 : Int32) : ∃ (rx : Int32) (S6_x : SS) (rm : Int32) (S7_m : SS), f_X6_feed S6 p1 p2 p3 p4 p5 = some (rx, S6_x) ∧ f_X7_feed S7 p1 p2 p3 p4 p5 = some (rm, S7_m) ∧ RX (k + 1) S6_x S3 S1 S0 S8 S5 S4 S7_m := by
  obtain ⟨h6, h0, h8, h4, h7, e, tp, fl, cr, wh, va, rg, wl, fs, _⟩ := id h
  obtain ⟨l, hl, el⟩ := nI_I6 h6
  obtain ⟨⟨rx, A⟩, ex, px⟩ := k_X6_feed h6 p1 p2 p3 p4 p5
  obtain ⟨⟨rm, D⟩, em, pm, pm2⟩ := k_X7_feed h7 p1 p2 p3 p4 p5
  have f6 := p_feed6 el hl p1 p2 p3 p4 p5 _ ex
  have f7 := p_feed7 (e.symm.trans el) hl p1 p2 p3 p4 p5 _ em
  rcases f6 with ⟨a1, a2⟩ | ⟨a1, a2, a3, a4, a5, a6, a7⟩
  · rcases f7 with ⟨_, b2⟩ | ⟨b1, _⟩
    · cases a2
      cases b2
      exact ⟨_, _, _, _, ex, em, RX_mk h6 h0 h8 h4 pm (by omega) (by omega) e tp fl cr wh va rg (WHL_mono wl (by omega)) fs⟩
    · omega
  · rcases f7 with ⟨b1, _⟩ | ⟨b1, b2, b3, b4, b5, b6, b7, b8⟩
    · omega
    · have a2 : rx = nI (l + 20) := a2
      have a3 : gI A 1 = nI (l + 20) := a3
      have b2 : rm = nI (l + 20) := b2
      have b3 : gI D 2 = nI (l + 20) := b3
      have i6 : I6 A := by
        unfold I6
        rw [a3]
        exact ⟨by rw [nI_toInt (by omega)]; omega, by rw [nI_toInt (by omega)]; omega⟩
      refine ⟨rx, A, rm, D, ex, em, RX_mk i6 h0 h8 h4 pm (by omega) (by omega) (a3.trans b3.symm) (fun j hj => ?_) (FLT_k fl (b4 4 (by decide)) (b4 5 (by decide))) (CR_o cr (b4 29 (by decide)) (b4 30 (by decide)) (fun k hk => b5 k (by omega)) b6) (by rw [a4 11 (by decide), b4 46 (by decide)]; exact wh) (VAL_k va (a5 5 (by decide)) ⟨b5 33 (by decide), b5 34 (by decide)⟩) (by rw [b4 31 (by decide)]; exact rg) (WHL_KH (WHL_mono wl (by omega)) (b4 46 (by decide)) ⟨b4 29 (by decide), b4 30 (by decide)⟩ (fun k _ hk => b5 k hk) (b6 11) (fun k hk => b5 k (by omega)) (fun k hk => b4 k (by omega))) (FRS_k fs (a4 9 (by decide)) (a5 5 (by decide)))⟩
      rw [a3, nI_toInt (by omega)] at hj
      rcases Nat.lt_or_ge j l with z | z
      · have q := tp j (by rw [el, nI_toInt (by omega)]; omega)
        have e1 : gA A 0 j = gA S6 0 j := a6 j z
        have e2 : gA D 0 j = gA S7 0 j := b7 j z
        rw [e1, e2]
        exact q
      · have e1 := a7 (j - l) (by omega)
        have e2 := b8 (j - l) (by omega)
        rw [show l + (j - l) = j by omega] at e1 e2
        have e1 : gA A 0 j = _ := e1
        have e2 : gA D 0 j = _ := e2
        rw [e1, e2]
        exact ⟨rfl, jB_r _⟩
theorem st_end {k : Nat} {S6 S3 S1 S0 S8 S5 S4 S7 : SS} (h : RX k S6 S3 S1 S0 S8 S5 S4 S7) (hk : k < 512) (p1 : Int32) : ∃ (rx : Int32) (S6_x : SS) (rm : Int32) (S7_m : SS), f_X6_end S6 p1 = some (rx, S6_x) ∧ f_X7_end S7 p1 = some (rm, S7_m) ∧ RX (k + 1) S6_x S3 S1 S0 S8 S5 S4 S7_m := by
  obtain ⟨h6, h0, h8, h4, h7, e, tp, fl, cr, wh, va, rg, wl, fs, _⟩ := id h
  obtain ⟨⟨rx, A⟩, ex, px⟩ := k_X6_end h6 p1
  obtain ⟨⟨rm, D⟩, em, pm, pm2⟩ := k_X7_end h7 p1
  have e2 : (gI S7 2).toInt = (gI S6 1).toInt := by rw [e]
  rw [e2] at pm2
  have h6c := h6.2
  have a0 : gA A 0 = gA S6 0 := p_end6 S6 p1 _ ex
  have a11 : gI A 11 = gI S6 11 := p_end6b S6 p1 _ ex
  obtain ⟨dA, dB, dI⟩ : (∀ k, gA D k = gA S7 k) ∧ (∀ k, gB D k = gB S7 k) ∧ ∀ k, k ≠ 2 → gI D k = gI S7 k := p_end7 S7 p1 _ em
  have d0 := dA 0
  have d4 := dI 4 (by decide)
  have d5 := dI 5 (by decide)
  have crd : CR S0 D := CR_o cr (dI 29 (by decide)) (dI 30 (by decide)) (fun k _ => dA k) dB
  have rgd : gI S0 1 = gI D 31 := by rw [dI 31 (by decide)]; exact rg
  have wld : WHL (3000 * (k + 1)) S0 S4 D := WHL_KH (WHL_mono wl (by omega)) (dI 46 (by decide)) ⟨dI 29 (by decide), dI 30 (by decide)⟩ (fun k _ _ => dA k) (dB 11) (fun k _ => dA k) (fun k hk => dI k (by omega))
  have fsd : FRS S0 A S5 := FRS_k fs (p_end6d S6 p1 _ ex) (p_end6c S6 p1 _ ex)
  have vad : VAL S0 A D := VAL_k va (p_end6c S6 p1 _ ex) ⟨dA 33, dA 34⟩
  have whd : gI A 11 = gI D 46 := by rw [a11, dI 46 (by decide)]; exact wh
  by_cases c : 0 ≤ p1.toInt ∧ p1.toInt ≤ (gI S6 1).toInt
  · rw [if_pos c] at px pm2
    have ea : gI A 1 = p1 := px.1
    have ed : gI D 2 = p1 := pm2.1
    refine ⟨rx, A, rm, D, ex, em, RX_mk (by unfold I6; rw [ea]; exact ⟨c.1, by omega⟩) h0 h8 h4 pm (by omega) (by omega) (by rw [ea, ed]) (fun j hj => ?_) (FLT_k fl d4 d5) crd whd vad rgd wld fsd⟩
    rw [ea] at hj
    rw [a0, d0]
    exact tp j (by omega)
  · rw [if_neg c] at px pm2
    have ea : gI A 1 = gI S6 1 := px.2
    have ed : gI D 2 = gI S7 2 := pm2.2
    exact ⟨rx, A, rm, D, ex, em, RX_mk (by unfold I6; rw [ea]; exact h6) h0 h8 h4 pm (by omega) (by omega) (by rw [ea, ed]; exact e) (TPE_k tp ea a0 d0) (FLT_k fl d4 d5) crd whd vad rgd wld fsd⟩
theorem st_read {k : Nat} {S6 S3 S1 S0 S8 S5 S4 S7 : SS} (h : RX k S6 S3 S1 S0 S8 S5 S4 S7) (hk : k < 512) : ∃ (rx : Int32) (sw : Bool) (S6_x : SS) (S3_x : SS) (S1_x : SS) (S8_x : SS) (rm : Int32) (S7_m : SS), f_X6_read S6 S3 S1 S0 S8 = some (rx, sw, S6_x, S3_x, S1_x, S8_x) ∧ f_X7_read S7 = some (rm, S7_m) ∧ RX (k + 1) S6_x S3_x S1_x (bif sw then S8_x else S0) (bif sw then S0 else S8_x) S5 S4 S7_m := by
  obtain ⟨h6, h0, h8, h4, h7, e, tp, fl, cr, wh, va, rg, wl, fs, _⟩ := id h
  obtain ⟨l, hl, el⟩ := nI_I6 h6
  obtain ⟨⟨rx, sw, A, C, D, E⟩, ex, p1, p2, p3, p4⟩ := k_X6_read (S3 := S3) (S1 := S1) (S0 := S0) h6 h8
  obtain ⟨⟨rm, F⟩, em, q1, q2⟩ := k_X7_read h7
  have p1 : gI A 1 = 0 := p1
  have p4 : I0 E := p4
  have q2 : gI F 2 = 0 := q2
  have i6 : I6 A := by unfold I6; rw [p1]; exact IV_00
  obtain ⟨r, T1, e3, e4⟩ := r6_read ex
  rw [el] at e3
  obtain ⟨c1, c2, c3⟩ := p_read7 hl (e.symm.trans el) h7.1.1 (fun j hj => tp j (by rw [el, nI_toInt (by omega)]; omega)) e3 _ em
  have c1 : gI C 0 = gI F 4 := c1
  have c2 : gI C 1 = gI F 5 := c2
  have tp2 : TPE A F := fun j hj => by
    rw [p1] at hj
    have t0 : (0 : Int32).toInt = 0 := by decide
    omega
  refine ⟨rx, sw, A, C, D, E, rm, F, ex, em, ?_⟩
  rcases e4 with ⟨u1, _, u3, u4, u5, u9⟩ | ⟨u1, _, u3, u4, B, u5, u6⟩
  · rcases c3 with ⟨_, _, v3, v4, v5, v6⟩ | ⟨v1, _⟩
    · have wlF : WHL (3000 * (k + 1)) S0 S4 F := fun w => by
        rw [v4 46 (Or.inr (by decide))] at w
        obtain ⟨b, c, E, M, a, d⟩ := wl w
        exact ⟨b, c, E, M, CE_SB a ⟨v4 29 (Or.inl rfl), v3⟩ (v5 b a.1.2.1 a.1.2.2.2.2), WR_mono (WR_KH d (fun k hk => v6 k (by omega)) (fun k hk => v4 k (Or.inr (by omega)))) (by omega)⟩
      rw [u3]
      exact RX_mk i6 h0 p4 h4 q1 (by omega) (by omega) (by rw [p1, q2]) tp2 ⟨c1, c2⟩ (CR_bad cr v3 (v4 29 (Or.inl rfl)) v5) (by rw [u4, v4 46 (Or.inr (by decide))]; exact wh) (VAL_k va u5 ⟨v6 33 (by decide), v6 34 (by decide)⟩) (by rw [v4 31 (Or.inr (by decide))]; exact rg) wlF (FRS_k fs u9 u5)
    · rw [u1] at v1
      exact absurd v1.symm ne10
  · rcases c3 with ⟨v1, _⟩ | ⟨_, _, v3, b, C2, Z, v4, v5, v6, v7, v8, v9, H, v10, v11, v12, v13⟩
    · exact absurd v1 u1
    · rw [u3]
      have w11 : gB F 11 = gB Z 11 := v9 11
      have w : ∀ k, k ≤ 31 → gA F k = gA Z k := v8
      have sb : SB b Z F := by
        refine ⟨fun i _ => ?_, fun j _ => ?_, fun j _ => ?_⟩
        · rw [w11, w 12 (by decide), w 13 (by decide), w 14 (by decide), w 15 (by decide), w 17 (by decide)]
          exact ⟨rfl, rfl, rfl, rfl, rfl, rfl⟩
        · rw [w 16 (by decide)]
        · rw [w 19 (by decide)]
      have v11 : KP H F := v11
      obtain ⟨M, ce⟩ := CE_mk v4 v5 v6 v7 sb
      have ceH := CE_f (Z := H) ce ⟨(v11.1 29 (by decide)).symm, (v11.1 30 (by decide)).symm⟩ (fun k hk => (v11.2.1 k (by omega)).symm) (v11.2.2.1 11).symm
      have rgF : gI E 1 = gI F 31 := by
        rw [v11.1 31 (by decide), v13, ce.2.2.2.2.2.2]
        refine congrArg nI (cn_c (fun i hi => ?_))
        rw [← w 12 (by decide), (ce.2.1 i hi).1.2.1]
      refine RX_mk i6 p4 h0 h4 q1 (by omega) (by omega) (by rw [p1, q2]) tp2 ⟨c1, c2⟩ (Or.inr ⟨b, C2, Z, v4, v5, v6, v7, sb⟩) (u4.trans v3.symm) (VAL_settle (B := B) ceH (fun i hi _ => ?_) u5 v10) rgF (fun w => absurd v3 w) (FRS_0 (p_fresh B E _ u5))
      rw [u6 _ ce.1.2.2.1 ce.1.1 i hi, v12 i hi]
      exact ⟨rfl, Or.inr (Or.inr (Or.inl rfl))⟩
theorem st_fault {k : Nat} {S6 S3 S1 S0 S8 S5 S4 S7 : SS} (h : RX k S6 S3 S1 S0 S8 S5 S4 S7) (hk : k < 512) (p1 : Int32) : ∃ (rx : Int32) (rm : Int32), f_X6_fault S6 S3 p1 = some rx ∧ f_X7_fault S7 p1 = some rm ∧ RX (k + 1) S6 S3 S1 S0 S8 S5 S4 S7 := by
  obtain ⟨h6, h0, h8, h4, h7, e, tp, fl, cr, wh, va, rg, wl, fs, _⟩ := id h
  obtain ⟨rx, ex, _⟩ := k_X6_fault S6 S3 p1
  obtain ⟨rm, em, _⟩ := k_X7_fault S7 p1
  exact ⟨rx, rm, ex, em, st_none h⟩
theorem st_named {k : Nat} {S6 S3 S1 S0 S8 S5 S4 S7 : SS} (h : RX k S6 S3 S1 S0 S8 S5 S4 S7) (hk : k < 512) (p1 : Int64) : ∃ (rx : Int32) (rm : Int32), f_X6_named S6 S0 p1 = some rx ∧ f_X7_named S7 p1 = some rm ∧ RX (k + 1) S6 S3 S1 S0 S8 S5 S4 S7 := by
  obtain ⟨h6, h0, h8, h4, h7, e, tp, fl, cr, wh, va, rg, wl, fs, _⟩ := id h
  obtain ⟨rx, ex, _⟩ := k_X6_named S6 h0 p1
  obtain ⟨rm, em, _⟩ := k_X7_named h7.1 p1
  exact ⟨rx, rm, ex, em, st_none h⟩
theorem st_node {k : Nat} {S6 S3 S1 S0 S8 S5 S4 S7 : SS} (h : RX k S6 S3 S1 S0 S8 S5 S4 S7) (hk : k < 512) (p1 : Int32) (p2 : Int32) : ∃ (rx : Int32) (rm : Int32), f_X6_node S6 S0 p1 p2 = some rx ∧ f_X7_node S7 p1 p2 = some rm ∧ RX (k + 1) S6 S3 S1 S0 S8 S5 S4 S7 := by
  obtain ⟨h6, h0, h8, h4, h7, e, tp, fl, cr, wh, va, rg, wl, fs, _⟩ := id h
  obtain ⟨rx, ex, _⟩ := k_X6_node S6 h0 p1 p2
  obtain ⟨rm, em, _⟩ := k_X7_node h7.1 p1 p2
  exact ⟨rx, rm, ex, em, st_none h⟩
theorem st_value {k : Nat} {S6 S3 S1 S0 S8 S5 S4 S7 : SS} (h : RX k S6 S3 S1 S0 S8 S5 S4 S7) (hk : k < 512) (p1 : Int32) : ∃ (rx : Int32) (rm : Int32), f_X6_value S6 S0 p1 = some rx ∧ f_X7_value S7 p1 = some rm ∧ RX (k + 1) S6 S3 S1 S0 S8 S5 S4 S7 := by
  obtain ⟨h6, h0, h8, h4, h7, e, tp, fl, cr, wh, va, rg, wl, fs, _⟩ := id h
  obtain ⟨rx, ex, _⟩ := k_X6_value S6 h0 p1
  obtain ⟨rm, em, _⟩ := k_X7_value h7.1 p1
  exact ⟨rx, rm, ex, em, st_none h⟩
theorem st_on {k : Nat} {S6 S3 S1 S0 S8 S5 S4 S7 : SS} (h : RX k S6 S3 S1 S0 S8 S5 S4 S7) (hk : k < 512) (p1 : Int32) : ∃ (rx : Int32) (rm : Int32), f_X6_on S6 S0 S4 p1 = some rx ∧ f_X7_on S7 p1 = some rm ∧ RX (k + 1) S6 S3 S1 S0 S8 S5 S4 S7 := by
  obtain ⟨h6, h0, h8, h4, h7, e, tp, fl, cr, wh, va, rg, wl, fs, _⟩ := id h
  obtain ⟨rx, ex, _⟩ := k_X6_on S6 S4 h0 p1
  obtain ⟨rm, em, _⟩ := k_X7_on h7.1 p1
  exact ⟨rx, rm, ex, em, st_none h⟩
theorem st_wave {k : Nat} {S6 S3 S1 S0 S8 S5 S4 S7 : SS} (h : RX k S6 S3 S1 S0 S8 S5 S4 S7) (hk : k < 512) (p1 : Int32) (p2 : Int32) : ∃ (rx : Int32) (rm : Int32), f_X6_wave S6 S0 S4 p1 p2 = some rx ∧ f_X7_wave S7 p1 p2 = some rm ∧ RX (k + 1) S6 S3 S1 S0 S8 S5 S4 S7 := by
  obtain ⟨h6, h0, h8, h4, h7, e, tp, fl, cr, wh, va, rg, wl, fs, _⟩ := id h
  obtain ⟨rx, ex, _⟩ := k_X6_wave S6 h0 h4 p1 p2
  obtain ⟨rm, em, _⟩ := k_X7_wave h7.1 p1 p2
  exact ⟨rx, rm, ex, em, st_none h⟩
theorem st_set {k : Nat} {S6 S3 S1 S0 S8 S5 S4 S7 : SS} (h : RX k S6 S3 S1 S0 S8 S5 S4 S7) (hk : k < 512) (p1 : Int32) (p2 : Int32) : ∃ (rx : Int32) (S6_x : SS) (rm : Int32) (S7_m : SS), f_X6_set S6 S0 p1 p2 = some (rx, S6_x) ∧ f_X7_set S7 p1 p2 = some (rm, S7_m) ∧ RX (k + 1) S6_x S3 S1 S0 S8 S5 S4 S7_m := by
  obtain ⟨h6, h0, h8, h4, h7, e, tp, fl, cr, wh, va, rg, wl, fs, _⟩ := id h
  obtain ⟨⟨rx, A⟩, ex, p⟩ := k_X6_set S6 h0 p1 p2
  obtain ⟨⟨rm, D⟩, em, q1, q2⟩ := k_X7_set h7 p1 p2
  have p : gI A 1 = gI S6 1 := p
  have q2 : gI D 2 = gI S7 2 := q2
  have fp : K6 S6 A := k6_X6_set S6 S0 p1 p2 _ ex
  have fq : KP S7 D := kp_X7_set S7 p1 p2 _ em
  obtain ⟨_, _, _, _, ce⟩ := CR_CE cr h7.1.1
  have vv : VAL S0 A D := v_set ce va ex em
  exact ⟨rx, A, rm, D, ex, em, RX_mk (by unfold I6; rw [p]; exact h6) h0 h8 h4 q1 (by omega) (by omega) (by rw [p, q2]; exact e) (TPE_k tp p fp.2.2 (fq.2.1 0 (by decide))) (FLT_k fl (fq.1 4 (by decide)) (fq.1 5 (by decide))) (CR_KP cr fq) (by rw [fp.2.1, fq.2.2.2]; exact wh) vv (by rw [fq.1 31 (by decide)]; exact rg) (WHL_KP (WHL_mono wl (by omega)) fq (kh_X7_set S7 p1 p2 _ em)) (FRS_or fs (p_set9 S6 S0 p1 p2 _ ex))⟩
theorem st_load {k : Nat} {S6 S3 S1 S0 S8 S5 S4 S7 : SS} (h : RX k S6 S3 S1 S0 S8 S5 S4 S7) (hk : k < 512) (p1 : Int32) (p2 : Int32) : ∃ (rx : Int32) (S6_x : SS) (rm : Int32) (S7_m : SS), f_X6_load S6 S0 p1 p2 = some (rx, S6_x) ∧ f_X7_load S7 p1 p2 = some (rm, S7_m) ∧ RX (k + 1) S6_x S3 S1 S0 S8 S5 S4 S7_m := by
  obtain ⟨h6, h0, h8, h4, h7, e, tp, fl, cr, wh, va, rg, wl, fs, _⟩ := id h
  obtain ⟨⟨rx, A⟩, ex, p⟩ := k_X6_load S6 h0 p1 p2
  obtain ⟨⟨rm, D⟩, em, q1, q2⟩ := k_X7_load h7 p1 p2
  have p : gI A 1 = gI S6 1 := p
  have q2 : gI D 2 = gI S7 2 := q2
  have fp : K6 S6 A := k6_X6_load S6 S0 p1 p2 _ ex
  have fq : KP S7 D := kp_X7_load S7 p1 p2 _ em
  obtain ⟨_, _, _, _, ce⟩ := CR_CE cr h7.1.1
  have vv : VAL S0 A D := v_load ce va ex em
  exact ⟨rx, A, rm, D, ex, em, RX_mk (by unfold I6; rw [p]; exact h6) h0 h8 h4 q1 (by omega) (by omega) (by rw [p, q2]; exact e) (TPE_k tp p fp.2.2 (fq.2.1 0 (by decide))) (FLT_k fl (fq.1 4 (by decide)) (fq.1 5 (by decide))) (CR_KP cr fq) (by rw [fp.2.1, fq.2.2.2]; exact wh) vv (by rw [fq.1 31 (by decide)]; exact rg) (WHL_KP (WHL_mono wl (by omega)) fq (kh_X7_load S7 p1 p2 _ em)) (FRS_or fs (p_load9 S6 S0 p1 p2 _ ex))⟩
theorem st_tick {k : Nat} {S6 S3 S1 S0 S8 S5 S4 S7 : SS} (h : RX k S6 S3 S1 S0 S8 S5 S4 S7) (hk : k < 512) : ∃ (rx : Int32) (S6_x : SS) (rm : Int32) (S7_m : SS), f_X6_tick S6 S0 = some (rx, S6_x) ∧ f_X7_tick S7 = some (rm, S7_m) ∧ RX (k + 1) S6_x S3 S1 S0 S8 S5 S4 S7_m := by
  obtain ⟨h6, h0, h8, h4, h7, e, tp, fl, cr, wh, va, rg, wl, fs, _⟩ := id h
  obtain ⟨⟨rx, A⟩, ex, p⟩ := k_X6_tick S6 h0
  obtain ⟨⟨rm, D⟩, em, q1, q2⟩ := k_X7_tick h7
  have p : gI A 1 = gI S6 1 := p
  have q2 : gI D 2 = gI S7 2 := q2
  have fp : K6 S6 A := k6_X6_tick S6 S0 _ ex
  have fq : KP S7 D := kp_X7_tick S7 _ em
  obtain ⟨_, _, _, _, ce⟩ := CR_CE cr h7.1.1
  have vv : VAL S0 A D := (v_tick ce va ex em).2
  exact ⟨rx, A, rm, D, ex, em, RX_mk (by unfold I6; rw [p]; exact h6) h0 h8 h4 q1 (by omega) (by omega) (by rw [p, q2]; exact e) (TPE_k tp p fp.2.2 (fq.2.1 0 (by decide))) (FLT_k fl (fq.1 4 (by decide)) (fq.1 5 (by decide))) (CR_KP cr fq) (by rw [fp.2.1, fq.2.2.2]; exact wh) vv (by rw [fq.1 31 (by decide)]; exact rg) (WHL_KP (WHL_mono wl (by omega)) fq (kh_X7_tick S7 _ em)) (FRS_or fs (p_tick9 S6 S0 _ ex))⟩
theorem st_flicker {k : Nat} {S6 S3 S1 S0 S8 S5 S4 S7 : SS} (h : RX k S6 S3 S1 S0 S8 S5 S4 S7) (hk : k < 512) (p1 : Int32) (p2 : Int32) : ∃ (rx : Int32) (S6_x : SS) (rm : Int32) (S7_m : SS), f_X6_flicker S6 S0 p1 p2 = some (rx, S6_x) ∧ f_X7_flicker S7 p1 p2 = some (rm, S7_m) ∧ RX (k + 1) S6_x S3 S1 S0 S8 S5 S4 S7_m := by
  obtain ⟨h6, h0, h8, h4, h7, e, tp, fl, cr, wh, va, rg, wl, fs, _⟩ := id h
  obtain ⟨⟨rx, A⟩, ex, p⟩ := k_X6_flicker S6 h0 p1 p2
  obtain ⟨⟨rm, D⟩, em, q1, q2⟩ := k_X7_flicker h7 p1 p2
  have p : gI A 1 = gI S6 1 := p
  have q2 : gI D 2 = gI S7 2 := q2
  have fp : K6 S6 A := k6_X6_flicker S6 S0 p1 p2 _ ex
  have fq : KP S7 D := kp_X7_flicker S7 p1 p2 _ em
  obtain ⟨_, _, _, _, ce⟩ := CR_CE cr h7.1.1
  have vv : VAL S0 A D := VAL_k va (k5_X6_flicker S6 S0 p1 p2 _ ex) (kv_X7_flicker S7 p1 p2 _ em)
  exact ⟨rx, A, rm, D, ex, em, RX_mk (by unfold I6; rw [p]; exact h6) h0 h8 h4 q1 (by omega) (by omega) (by rw [p, q2]; exact e) (TPE_k tp p fp.2.2 (fq.2.1 0 (by decide))) (FLT_k fl (fq.1 4 (by decide)) (fq.1 5 (by decide))) (CR_KP cr fq) (by rw [fp.2.1, fq.2.2.2]; exact wh) vv (by rw [fq.1 31 (by decide)]; exact rg) (WHL_KP (WHL_mono wl (by omega)) fq (kh_X7_flicker S7 p1 p2 _ em)) (FRS_k fs (k9_X6_flicker S6 S0 p1 p2 _ ex).1 (k9_X6_flicker S6 S0 p1 p2 _ ex).2)⟩
theorem st_worlds {k : Nat} {S6 S3 S1 S0 S8 S5 S4 S7 : SS} (h : RX k S6 S3 S1 S0 S8 S5 S4 S7) (hk : k < 512) : ∃ (rx : Int32) (rm : Int32) (S7_m : SS), f_X6_worlds S6 S0 = some rx ∧ f_X7_worlds S7 = some (rm, S7_m) ∧ RX (k + 1) S6 S3 S1 S0 S8 S5 S4 S7_m := by
  obtain ⟨h6, h0, h8, h4, h7, e, tp, fl, cr, wh, va, rg, wl, fs, _⟩ := id h
  obtain ⟨rx, ex, _⟩ := k_X6_worlds S6 h0
  obtain ⟨⟨rm, D⟩, em, q1, q2⟩ := k_X7_worlds h7
  have q2 : gI D 2 = gI S7 2 := q2
  have fq : KP S7 D := kp_X7_worlds S7 _ em
  exact ⟨rx, rm, D, ex, em, RX_mk h6 h0 h8 h4 q1 (by omega) (by omega) (by rw [q2]; exact e) (TPE_k tp rfl rfl (fq.2.1 0 (by decide))) (FLT_k fl (fq.1 4 (by decide)) (fq.1 5 (by decide))) (CR_KP cr fq) (by rw [fq.2.2.2]; exact wh) (VAL_k va rfl (kv_X7_worlds S7 _ em)) (by rw [fq.1 31 (by decide)]; exact rg) (WHL_KP (WHL_mono wl (by omega)) fq (kh_X7_worlds S7 _ em)) fs⟩
theorem st_about {k : Nat} {S6 S3 S1 S0 S8 S5 S4 S7 : SS} (h : RX k S6 S3 S1 S0 S8 S5 S4 S7) (hk : k < 512) (p1 : Int32) : ∃ (rx : Int32) (rm : Int32) (S7_m : SS), f_X6_about S6 S0 S4 p1 = some rx ∧ f_X7_about S7 p1 = some (rm, S7_m) ∧ RX (k + 1) S6 S3 S1 S0 S8 S5 S4 S7_m ∧ rx = rm := by
  obtain ⟨h6, h0, h8, h4, h7, e, tp, fl, cr, wh, va, rg, wl, fs, _⟩ := id h
  obtain ⟨rx, ex, _⟩ := k_X6_about S6 S4 h0 p1
  obtain ⟨⟨rm, D⟩, em, q1, q2⟩ := k_X7_about h7 p1
  have q2 : gI D 2 = gI S7 2 := q2
  have fq : KP S7 D := kp_X7_about S7 p1 _ em
  obtain ⟨_, _, _, _, ce, hw⟩ := WHL_ce cr h7.1.1 wl
  exact ⟨rx, rm, D, ex, em, RX_mk h6 h0 h8 h4 q1 (by omega) (by omega) (by rw [q2]; exact e) (TPE_k tp rfl rfl (fq.2.1 0 (by decide))) (FLT_k fl (fq.1 4 (by decide)) (fq.1 5 (by decide))) (CR_KP cr fq) (by rw [fq.2.2.2]; exact wh) (VAL_k va rfl (kv_X7_about S7 p1 _ em)) (by rw [fq.1 31 (by decide)]; exact rg) (WHL_KP (WHL_mono wl (by omega)) fq (kh_X7_about S7 p1 _ em)) fs, q_about ce va wh rg (fun w => (hw w).1) ex em⟩
theorem st_legal {k : Nat} {S6 S3 S1 S0 S8 S5 S4 S7 : SS} (h : RX k S6 S3 S1 S0 S8 S5 S4 S7) (hk : k < 512) : ∃ (rx : Int32) (S6_x : SS) (S5_x : SS) (rm : Int32) (S7_m : SS), f_X6_legal S6 S0 S5 = some (rx, S6_x, S5_x) ∧ f_X7_legal S7 = some (rm, S7_m) ∧ RX (k + 1) S6_x S3 S1 S0 S8 S5_x S4 S7_m := by
  obtain ⟨h6, h0, h8, h4, h7, e, tp, fl, cr, wh, va, rg, wl, fs, _⟩ := id h
  obtain ⟨⟨rx, A, C⟩, ex, p⟩ := k_X6_legal S6 h0 S5
  obtain ⟨⟨rm, D⟩, em, q1, q2⟩ := k_X7_legal h7
  have p : gI A 1 = gI S6 1 := p
  have q2 : gI D 2 = gI S7 2 := q2
  have fp : K6 S6 A := k6_X6_legal S6 S0 S5 _ ex
  have fq : KP S7 D := kp_X7_legal S7 _ em
  obtain ⟨_, _, _, _, ce⟩ := CR_CE cr h7.1.1
  exact ⟨rx, A, C, rm, D, ex, em, RX_mk (by unfold I6; rw [p]; exact h6) h0 h8 h4 q1 (by omega) (by omega) (by rw [p, q2]; exact e) (TPE_k tp p fp.2.2 (fq.2.1 0 (by decide))) (FLT_k fl (fq.1 4 (by decide)) (fq.1 5 (by decide))) (CR_KP cr fq) (by rw [fp.2.1, fq.2.2.2]; exact wh) (VAL_k va (k5_X6_legal S6 S0 S5 _ ex) (kv_X7_legal S7 _ em)) (by rw [fq.1 31 (by decide)]; exact rg) (WHL_KP (WHL_mono wl (by omega)) fq (kh_X7_legal S7 _ em)) (FRS_legal ce va fs ex)⟩
theorem st_sharp {k : Nat} {S6 S3 S1 S0 S8 S5 S4 S7 : SS} (h : RX k S6 S3 S1 S0 S8 S5 S4 S7) (hk : k < 512) (p1 : Int32) : ∃ (rx : Int32) (S6_x : SS) (S5_x : SS) (rm : Int32) (S7_m : SS), f_X6_sharp S6 S0 S5 p1 = some (rx, S6_x, S5_x) ∧ f_X7_sharp S7 p1 = some (rm, S7_m) ∧ RX (k + 1) S6_x S3 S1 S0 S8 S5_x S4 S7_m := by
  obtain ⟨h6, h0, h8, h4, h7, e, tp, fl, cr, wh, va, rg, wl, fs, _⟩ := id h
  obtain ⟨⟨rx, A, C⟩, ex, p⟩ := k_X6_sharp S6 h0 S5 p1
  obtain ⟨⟨rm, D⟩, em, q1, q2⟩ := k_X7_sharp h7 p1
  have p : gI A 1 = gI S6 1 := p
  have q2 : gI D 2 = gI S7 2 := q2
  have fp : K6 S6 A := k6_X6_sharp S6 S0 S5 p1 _ ex
  have fq : KP S7 D := kp_X7_sharp S7 p1 _ em
  obtain ⟨_, _, _, _, ce⟩ := CR_CE cr h7.1.1
  exact ⟨rx, A, C, rm, D, ex, em, RX_mk (by unfold I6; rw [p]; exact h6) h0 h8 h4 q1 (by omega) (by omega) (by rw [p, q2]; exact e) (TPE_k tp p fp.2.2 (fq.2.1 0 (by decide))) (FLT_k fl (fq.1 4 (by decide)) (fq.1 5 (by decide))) (CR_KP cr fq) (by rw [fp.2.1, fq.2.2.2]; exact wh) (VAL_k va (k5_X6_sharp S6 S0 S5 p1 _ ex) (kv_X7_sharp S7 p1 _ em)) (by rw [fq.1 31 (by decide)]; exact rg) (WHL_KP (WHL_mono wl (by omega)) fq (kh_X7_sharp S7 p1 _ em)) (FRS_sharp ce va fs ex)⟩
theorem st_gainsaid {k : Nat} {S6 S3 S1 S0 S8 S5 S4 S7 : SS} (h : RX k S6 S3 S1 S0 S8 S5 S4 S7) (hk : k < 512) : ∃ (rx : Int32) (S6_x : SS) (S5_x : SS) (rm : Int32) (S7_m : SS), f_X6_gainsaid S6 S0 S5 = some (rx, S6_x, S5_x) ∧ f_X7_gainsaid S7 = some (rm, S7_m) ∧ RX (k + 1) S6_x S3 S1 S0 S8 S5_x S4 S7_m := by
  obtain ⟨h6, h0, h8, h4, h7, e, tp, fl, cr, wh, va, rg, wl, fs, _⟩ := id h
  obtain ⟨⟨rx, A, C⟩, ex, p⟩ := k_X6_gainsaid S6 h0 S5
  obtain ⟨⟨rm, D⟩, em, q1, q2⟩ := k_X7_gainsaid h7
  have p : gI A 1 = gI S6 1 := p
  have q2 : gI D 2 = gI S7 2 := q2
  have fp : K6 S6 A := k6_X6_gainsaid S6 S0 S5 _ ex
  have fq : KP S7 D := kp_X7_gainsaid S7 _ em
  obtain ⟨_, _, _, _, ce⟩ := CR_CE cr h7.1.1
  exact ⟨rx, A, C, rm, D, ex, em, RX_mk (by unfold I6; rw [p]; exact h6) h0 h8 h4 q1 (by omega) (by omega) (by rw [p, q2]; exact e) (TPE_k tp p fp.2.2 (fq.2.1 0 (by decide))) (FLT_k fl (fq.1 4 (by decide)) (fq.1 5 (by decide))) (CR_KP cr fq) (by rw [fp.2.1, fq.2.2.2]; exact wh) (VAL_k va (k5_X6_gainsaid S6 S0 S5 _ ex) (kv_X7_gainsaid S7 _ em)) (by rw [fq.1 31 (by decide)]; exact rg) (WHL_KP (WHL_mono wl (by omega)) fq (kh_X7_gainsaid S7 _ em)) ((q_gainsaid ce va fs ex em).2)⟩
theorem st_wheel {k : Nat} {S6 S3 S1 S0 S8 S5 S4 S7 : SS} (h : RX k S6 S3 S1 S0 S8 S5 S4 S7) (hk : k < 512) : ∃ (rx : Int32) (S6_x : SS) (S4_x : SS) (rm : Int32) (S7_m : SS), f_X6_wheel S6 S0 S4 = some (rx, S6_x, S4_x) ∧ f_X7_wheel S7 = some (rm, S7_m) ∧ RX (k + 1) S6_x S3 S1 S0 S8 S5 S4_x S7_m := by
  obtain ⟨h6, h0, h8, h4, h7, e, tp, fl, cr, wh, va, rg, wl, fs, _⟩ := id h
  obtain ⟨⟨rx, A, C⟩, ex, p0, p, p4⟩ := k_X6_wheel S6 h0 h4
  obtain ⟨⟨rm, D⟩, em, q0, q1, q2⟩ := k_X7_wheel (by omega) (by omega) h7
  have p : gI A 1 = gI S6 1 := p
  have q2 : gI D 2 = gI S7 2 := q2
  have fp : J6 S6 A := j6_X6_wheel S6 S0 S4 _ ex
  have fq : KW S7 D := kw_X7_wheel S7 _ em
  exact ⟨rx, A, C, rm, D, ex, em, RX_mk (by unfold I6; rw [p]; exact h6) h0 h8 p4 q1 (by omega) (by omega) (by rw [p, q2]; exact e) (TPE_k tp p fp.2 (fq.2.1 0 (by decide))) (FLT_k fl (fq.1 4 (by decide)) (fq.1 5 (by decide))) (CR_KW cr fq) ((wh6 S6 S0 S4 _ ex).trans (wh7 S7 _ em).symm) (VAL_k va (k5_X6_wheel S6 S0 S4 _ ex) (kv_X7_wheel S7 _ em)) (by rw [fq.1 31 (by decide)]; exact rg) (WHL_wheel cr h7.1.1 va fq ex em) (FRS_k fs (k9_X6_wheel S6 S0 S4 _ ex).1 (k9_X6_wheel S6 S0 S4 _ ex).2)⟩
theorem st_put {k : Nat} {S6 S3 S1 S0 S8 S5 S4 S7 : SS} (h : RX k S6 S3 S1 S0 S8 S5 S4 S7) (hk : k < 512) (p1 : Int32) (p2 : Int32) : ∃ (rx : Int32) (S4_x : SS) (rm : Int32) (S7_m : SS), f_X6_put S6 S0 S4 p1 p2 = some (rx, S4_x) ∧ f_X7_put S7 p1 p2 = some (rm, S7_m) ∧ RX (k + 1) S6 S3 S1 S0 S8 S5 S4_x S7_m := by
  obtain ⟨h6, h0, h8, h4, h7, e, tp, fl, cr, wh, va, rg, wl, fs, _⟩ := id h
  obtain ⟨⟨rx, C⟩, ex, p4⟩ := k_X6_put S6 h0 h4 p1 p2
  obtain ⟨⟨rm, D⟩, em, q1, q2⟩ := k_X7_put (by omega) (by omega) h7 p1 p2
  have q2 : gI D 2 = gI S7 2 := q2
  have fq : KP S7 D := kp_X7_put S7 p1 p2 _ em
  have wlD : WHL (3000 * (k + 1)) S0 C D := WHL_put (by omega) wl wh fq ex em (by omega)
  exact ⟨rx, C, rm, D, ex, em, RX_mk h6 h0 h8 p4 q1 (by omega) (by omega) (by rw [q2]; exact e) (TPE_k tp rfl rfl (fq.2.1 0 (by decide))) (FLT_k fl (fq.1 4 (by decide)) (fq.1 5 (by decide))) (CR_KP cr fq) (by rw [fq.2.2.2]; exact wh) (VAL_k va rfl (kv_X7_put S7 p1 p2 _ em)) (by rw [fq.1 31 (by decide)]; exact rg) wlD fs⟩
theorem st_run {k : Nat} {S6 S3 S1 S0 S8 S5 S4 S7 : SS} (h : RX k S6 S3 S1 S0 S8 S5 S4 S7) (hk : k < 512) (p1 : Int32) : ∃ (rx : Int32) (S4_x : SS) (rm : Int32) (S7_m : SS), f_X6_run S6 S0 S4 p1 = some (rx, S4_x) ∧ f_X7_run S7 p1 = some (rm, S7_m) ∧ RX (k + 1) S6 S3 S1 S0 S8 S5 S4_x S7_m := by
  obtain ⟨h6, h0, h8, h4, h7, e, tp, fl, cr, wh, va, rg, wl, fs, _⟩ := id h
  obtain ⟨⟨rx, C⟩, ex, p4⟩ := k_X6_run S6 h0 h4 p1
  obtain ⟨⟨rm, D⟩, em, q1, q2⟩ := k_X7_run (by omega) (by omega) (by omega) h7 p1
  have q2 : gI D 2 = gI S7 2 := q2
  have fq : KP S7 D := kp_X7_run S7 p1 _ em
  obtain ⟨err, wlD⟩ : rx = rm ∧ WHL (3000 * (k + 1)) S0 C D := WHL_run (by omega) (IV_wk h7.2.2.1 (Int.le_refl 0) (by omega)) (fun j => h7.1.2.2.2.2.2 j) wl wh fq ex em (by omega)
  exact ⟨rx, C, rm, D, ex, em, RX_mk h6 h0 h8 p4 q1 (by omega) (by omega) (by rw [q2]; exact e) (TPE_k tp rfl rfl (fq.2.1 0 (by decide))) (FLT_k fl (fq.1 4 (by decide)) (fq.1 5 (by decide))) (CR_KP cr fq) (by rw [fq.2.2.2]; exact wh) (VAL_k va rfl (kv_X7_run S7 p1 _ em)) (by rw [fq.1 31 (by decide)]; exact rg) wlD fs⟩
