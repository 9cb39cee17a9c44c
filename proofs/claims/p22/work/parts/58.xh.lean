/-! the wheel: its beginning, what is put, what is asked -/
theorem p_begin6 {S0 S4 : SS} {c : Nat} (hc : c ≤ 60) (h0 : gI S0 0 = nI c) (f : Nat → Int32) : Pc (f_X4_begin S4 S0 f) (fun T => (gI T 0 = 0 ∧ gI T 1 = 0 ∧ gL T 7 = 0) ∧ (∀ i, i < c → gA T 2 i = f i ∧ gA T 3 i = f i ∧ gA T 6 i = 0) ∧ ∀ j, j < 10 * c → gA T 4 j = -1) := by
  refine Pc_l (Pc_l (Pc_L (fun A eA => ?_)))
  have a0 : gI A 0 = 0 := by rw [eA, gI_sL, gI_ne (by decide), gI_eq]
  have a1 : gI A 1 = 0 := by rw [eA, gI_sL, gI_eq]
  have a7 : gL A 7 = 0 := by rw [eA, gL_sL, if_pos rfl]
  refine Pc_B (P := fun T => (gI T 0 = 0 ∧ gI T 1 = 0 ∧ gL T 7 = 0) ∧ ∀ i, i < c → gA T 2 i = f i ∧ gA T 3 i = f i ∧ gA T 6 i = 0) ?_ (fun B hB => ?_)
  · refine Pc_I (fun v : Int32 × SS => ∃ k, v.1 = nI k ∧ k ≤ c ∧ (gI v.2 0 = 0 ∧ gI v.2 1 = 0 ∧ gL v.2 7 = 0) ∧ ∀ i, i < k → gA v.2 2 i = f i ∧ gA v.2 3 i = f i ∧ gA v.2 6 i = 0) (fun v hv => ?_) _ ⟨0, rfl, Nat.zero_le _, ⟨a0, a1, a7⟩, fun i q => absurd q (Nat.not_lt_zero _)⟩
    obtain ⟨v, T⟩ := v
    obtain ⟨k, ev, hk, hs, hh⟩ : ∃ k, v = nI k ∧ k ≤ c ∧ (gI T 0 = 0 ∧ gI T 1 = 0 ∧ gL T 7 = 0) ∧ ∀ i, i < k → gA T 2 i = f i ∧ gA T 3 i = f i ∧ gA T 6 i = 0 := hv
    subst ev
    refine Pc_c (fun q => Pc_s ⟨hs, fun i hi => hh i ?_⟩) (fun q => Pc_G (fun _ => Pc_L (fun P eP => Pc_L (fun Q eQ => Pc_L (fun R eR => Pc_l (Pc_s ⟨k + 1, nI_1 k, ?_, ?_, fun i hi => ?_⟩))))))
    · rw [h0, nI_leI (by omega) (by omega)] at q
      omega
    · rw [h0, nI_leI (by omega) (by omega)] at q
      omega
    · show gI R 0 = 0 ∧ gI R 1 = 0 ∧ gL R 7 = 0
      rw [eR, eQ, eP]
      exact hs
    · show gA R 2 i = f i ∧ gA R 3 i = f i ∧ gA R 6 i = 0
      have cl : (nI k).toNatClampNeg = k := nI_clamp (by omega)
      have r2 : gA R 2 = upd (gA T 2) k (f k) := by rw [eR, gA_ne (by decide), eQ, gA_ne (by decide), eP, gA_eq, cl]
      have r3 : gA R 3 = upd (gA T 3) k (f k) := by rw [eR, gA_ne (by decide), eQ, gA_eq, eP, gA_ne (by decide), cl]
      have r6 : gA R 6 = upd (gA T 6) k 0 := by rw [eR, gA_eq, eQ, gA_ne (by decide), eP, gA_ne (by decide), cl]
      rw [r2, r3, r6]
      by_cases e : i = k
      · rw [e, pk_us, pk_us, pk_us]
        exact ⟨rfl, rfl, rfl⟩
      · rw [pk_un e, pk_un e, pk_un e]
        exact hh i (by omega)
  · obtain ⟨hs, hh⟩ := hB
    refine Pc_I (fun v : Int32 × SS => ∃ k, v.1 = nI k ∧ k ≤ 10 * c ∧ (gI v.2 0 = 0 ∧ gI v.2 1 = 0 ∧ gL v.2 7 = 0) ∧ (∀ i, i < c → gA v.2 2 i = f i ∧ gA v.2 3 i = f i ∧ gA v.2 6 i = 0) ∧ ∀ j, j < k → gA v.2 4 j = -1) (fun v hv => ?_) _ ⟨0, rfl, Nat.zero_le _, hs, hh, fun i q => absurd q (Nat.not_lt_zero _)⟩
    obtain ⟨v, T⟩ := v
    obtain ⟨k, ev, hk, hs, hh, hj⟩ : ∃ k, v = nI k ∧ k ≤ 10 * c ∧ (gI T 0 = 0 ∧ gI T 1 = 0 ∧ gL T 7 = 0) ∧ (∀ i, i < c → gA T 2 i = f i ∧ gA T 3 i = f i ∧ gA T 6 i = 0) ∧ ∀ j, j < k → gA T 4 j = -1 := hv
    subst ev
    have m10 : gI S0 0 * (10 : Int32) = nI (10 * c) := by rw [h0, show (10 : Int32) = nI 10 from rfl, pk_mul, Nat.mul_comm]
    refine Pc_c (fun q => Pc_s ⟨hs, hh, fun j h => hj j ?_⟩) (fun q => Pc_G (fun _ => Pc_l (Pc_l (Pc_s ⟨k + 1, nI_1 k, ?_, ?_, fun i hi => ?_, fun j h => ?_⟩))))
    · rw [m10, nI_leI (by omega) (by omega)] at q
      omega
    · rw [m10, nI_leI (by omega) (by omega)] at q
      omega
    · exact hs
    · show gA (sA T 4 _) 2 i = f i ∧ gA (sA T 4 _) 3 i = f i ∧ gA (sA T 4 _) 6 i = 0
      rw [gA_ne (by decide), gA_ne (by decide), gA_ne (by decide)]
      exact hh i hi
    · show gA (sA T 4 _) 4 j = -1
      rw [gA_eq, nI_clamp (by omega)]
      by_cases e : j = k
      · rw [e, pk_us]
      · rw [pk_un e]
        exact hj j (by omega)
def BW7 (S T : SS) (k : Nat) : Prop := (∀ i, i < k → (gA T 40 i = gA S 34 i ∧ gA T 41 i = gA S 34 i ∧ gA T 44 i = 0) ∧ gA T 45 i = 0) ∧ (∀ j, j < 10 * k → gA T 42 j = -1) ∧ ((∀ k, k ≠ 46 → k ≠ 47 → k ≠ 48 → gI T k = gI S k) ∧ (gI T 46 = 1 ∧ gI T 47 = 0 ∧ gI T 48 = 0) ∧ (∀ k, k ≤ 39 → gA T k = gA S k) ∧ ∀ k, gB T k = gB S k)
theorem p_wheel7 {S7 : SS} {c : Nat} (hc : c ≤ 60) (h29 : gI S7 29 = nI c) : Pc (f_X7_wheel S7) (fun w => BW7 S7 w.2 c) := by
  refine Pc_l (Pc_l (Pc_L (fun A eA => ?_)))
  have aI : (∀ k, k ≠ 46 → k ≠ 47 → k ≠ 48 → gI A k = gI S7 k) ∧ (gI A 46 = 1 ∧ gI A 47 = 0 ∧ gI A 48 = 0) := by
    refine ⟨fun k k1 k2 k3 => by rw [eA, gI_ne k3, gI_ne k2, gI_ne k1], ?_, ?_, ?_⟩
    · rw [eA, gI_ne (by decide), gI_ne (by decide), gI_eq]
    · rw [eA, gI_ne (by decide), gI_eq]
    · rw [eA, gI_eq]
  refine Pc_I (fun v : Int32 × SS => ∃ k, v.1 = nI k ∧ k ≤ c ∧ BW7 S7 v.2 k) (fun v hv => ?_) _ ⟨0, rfl, Nat.zero_le _, fun i q => absurd q (Nat.not_lt_zero _), fun j q => absurd q (Nat.not_lt_zero _), aI.1, aI.2, fun k _ => by rw [eA]; rfl, fun k => by rw [eA]; rfl⟩
  obtain ⟨v, T⟩ := v
  obtain ⟨k, ev, hk, hr, hsl, tI, tw, tA, tB⟩ : ∃ k, v = nI k ∧ k ≤ c ∧ BW7 S7 T k := hv
  subst ev
  have t29 : gI T 29 = nI c := by rw [tI 29 (by decide) (by decide) (by decide)]; exact h29
  refine Pc_c (fun q => Pc_s ?_) (fun q => Pc_G (fun _ => Pc_L (fun P eP => Pc_L (fun Q eQ => Pc_L (fun R eR => Pc_L (fun U eU => ?_))))))
  · rw [t29, nI_leI (by omega) (by omega)] at q
    have : k = c := by omega
    rw [this] at hr hsl
    exact ⟨hr, hsl, tI, tw, tA, tB⟩
  · rw [t29, nI_leI (by omega) (by omega)] at q
    have cl : (nI k).toNatClampNeg = k := nI_clamp (by omega)
    have p34 : gA P 34 = gA T 34 := by rw [eP, gA_ne (by decide)]
    have u40 : gA U 40 = upd (gA T 40) k (gA S7 34 k) := by rw [eU, gA_ne (by decide), eR, gA_ne (by decide), eQ, gA_ne (by decide), eP, gA_eq, cl, tA 34 (by decide)]
    have u41 : gA U 41 = upd (gA T 41) k (gA S7 34 k) := by rw [eU, gA_ne (by decide), eR, gA_ne (by decide), eQ, gA_eq, p34, eP, gA_ne (by decide), cl, tA 34 (by decide)]
    have u45 : gA U 45 = upd (gA T 45) k 0 := by rw [eU, gA_ne (by decide), eR, gA_eq, eQ, gA_ne (by decide), eP, gA_ne (by decide), cl, nar0]
    have u44 : gA U 44 = upd (gA T 44) k 0 := by rw [eU, gA_eq, eR, gA_ne (by decide), eQ, gA_ne (by decide), eP, gA_ne (by decide), cl]
    have u42 : gA U 42 = gA T 42 := by rw [eU, gA_ne (by decide), eR, gA_ne (by decide), eQ, gA_ne (by decide), eP, gA_ne (by decide)]
    have uA : ∀ k, k ≤ 39 → gA U k = gA T k := fun k hk => by rw [eU, gA_ne (by omega), eR, gA_ne (by omega), eQ, gA_ne (by omega), eP, gA_ne (by omega)]
    have uI : ∀ k, gI U k = gI T k := fun k => by rw [eU, eR, eQ, eP]; rfl
    have uB : ∀ k, gB U k = gB T k := fun k => by rw [eU, eR, eQ, eP]; rfl
    refine Pc_B (P := fun W => ∃ g, W = sA U 42 g ∧ ∀ j, j < 10 * (k + 1) → g j = -1) ?_ (fun W hW => ?_)
    · refine Pc_I (fun v : Int32 × SS => ∃ s g, v.1 = nI s ∧ s ≤ 10 ∧ v.2 = sA U 42 g ∧ ∀ j, j < 10 * k + s → g j = -1) (fun v hv => ?_) _ ⟨0, gA U 42, rfl, Nat.zero_le _, sA_self.symm, fun j hj => by rw [u42]; exact hsl j (by omega)⟩
      obtain ⟨v, W⟩ := v
      obtain ⟨s, g, ev, hs, eW, hg⟩ : ∃ s g, v = nI s ∧ s ≤ 10 ∧ W = sA U 42 g ∧ ∀ j, j < 10 * k + s → g j = -1 := hv
      subst ev
      have ix : (((10 : Int32) * nI k) + nI s).toNatClampNeg = 10 * k + s := by rw [show (10 : Int32) = nI 10 from rfl, pk_mul, nI_add, nI_clamp (by omega)]
      refine Pc_c (fun q => Pc_s ⟨g, eW, fun j hj => hg j ?_⟩) (fun q => Pc_G (fun _ => Pc_l (Pc_l (Pc_s ⟨s + 1, upd g (10 * k + s) (-1), nI_1 s, ?_, ?_, fun j hj => ?_⟩))))
      · rw [show (10 : Int32) = nI 10 from rfl, nI_leI (by omega) (by omega)] at q
        omega
      · rw [show (10 : Int32) = nI 10 from rfl, nI_leI (by omega) (by omega)] at q
        omega
      · show sA W 42 _ = _
        rw [ix, eW, gA_eq, sA_sA]
      · by_cases e : j = 10 * k + s
        · rw [e, pk_us]
        · rw [pk_un e]
          exact hg j (by omega)
    · obtain ⟨g, eW, hg⟩ := hW
      have wA : ∀ j, j ≠ 42 → gA W j = gA U j := fun j hj => by rw [eW, gA_ne hj]
      have w42 : gA W 42 = g := by rw [eW, gA_eq]
      have wI : ∀ j, gI W j = gI U j := fun j => by rw [eW]; rfl
      refine Pc_l (Pc_s ⟨k + 1, nI_1 k, by omega, fun i hi => ?_, fun j hj => ?_, fun j j1 j2 j3 => ?_, ⟨?_, ?_, ?_⟩, fun j hj => ?_, fun j => ?_⟩)
      · show (gA W 40 i = _ ∧ gA W 41 i = _ ∧ gA W 44 i = 0) ∧ gA W 45 i = 0
        rw [wA 40 (by decide), wA 41 (by decide), wA 44 (by decide), wA 45 (by decide), u40, u41, u44, u45]
        by_cases e : i = k
        · rw [e, pk_us, pk_us, pk_us, pk_us]
          exact ⟨⟨rfl, rfl, rfl⟩, rfl⟩
        · rw [pk_un e, pk_un e, pk_un e, pk_un e]
          exact hr i (by omega)
      · show gA W 42 j = -1
        rw [w42]
        exact hg j hj
      · show gI W j = _
        rw [wI, uI]; exact tI j j1 j2 j3
      · show gI W 46 = 1
        rw [wI, uI]; exact tw.1
      · show gI W 47 = 0
        rw [wI, uI]; exact tw.2.1
      · show gI W 48 = 0
        rw [wI, uI]; exact tw.2.2
      · show gA W j = _
        rw [wA j (by omega), uA j hj]; exact tA j hj
      · show gB W j = _
        rw [eW]
        exact (uB j).trans (tB j)
theorem WR_begin {b c : Nat} {E : Nat → Nat → Prop} {M : Nat → Nat} {S0 S6 S4 S7 T4 T7 : SS} {rm : Int32} (h : CE b c E M S0 S7) (va : VAL S0 S6 S7) (e6 : f_X4_begin S4 S0 (gA S6 5) = some T4) (e7 : f_X7_wheel S7 = some (rm, T7)) : WR 0 c E S0 T4 T7 ∧ TM7 S7 (sI T7 46 (gI S7 46)) := by
  obtain ⟨hc, hb, h0, h29, h30⟩ := h.1
  have ec := CE_cN h
  obtain ⟨⟨a0, a1, a7⟩, ar, asl⟩ := p_begin6 hc h0 _ _ e6
  obtain ⟨br, bsl, bI', ⟨b46, b47, b48⟩, bA, bB⟩ := p_wheel7 hc h29 _ e7
  have b47 : gI T7 47 = 0 := b47
  have b48 : gI T7 48 = 0 := b48
  have br : ∀ i, i < c → (gA T7 40 i = gA S7 34 i ∧ gA T7 41 i = gA S7 34 i ∧ gA T7 44 i = 0) ∧ gA T7 45 i = 0 := br
  have bsl : ∀ j, j < 10 * c → gA T7 42 j = -1 := bsl
  have vv : ∀ i, i < c → gA S6 5 i = gA S7 34 i ∧ VQ (gA S6 5 i) := fun i hi => va.1 i (by rw [ec]; exact hi)
  refine ⟨⟨⟨⟨a0.trans b47.symm, a1.trans b48.symm⟩, fun i hi => ?_, fun j hj => ?_, fun i hi => ?_, fun y hy => ?_, ?_, fun i s hi hs _ => bsl _ (by omega)⟩, fun i hi ki _ => ?_⟩, fun k hk => ?_, bA, bB⟩
  · obtain ⟨⟨q1, q2, _⟩, _⟩ := br i hi
    obtain ⟨p1, p2, _⟩ := ar i hi
    obtain ⟨v1, v2⟩ := vv i hi
    rw [p1, p2, q1, q2, ← v1]
    exact ⟨rfl, rfl, v2⟩
  · rw [asl j hj, bsl j hj]
    exact ⟨rfl, Or.inl rfl⟩
  · refine ⟨0, Nat.le_refl _, (br i hi).1.2.2, (ar i hi).2.2, fun k hk => ?_⟩
    exact absurd hk (by omega)
  · rw [a7, bL_0]
    exact ⟨fun q => absurd q (by decide), fun q => absurd (br y q.1).2 q.2⟩
  · rw [b48, cn_0 (fun j hj q => q (bsl j hj))]
    rfl
  · have e := va.2.2 i (by rw [ec]; exact hi) (Or.inl ki)
    rw [NV_1 ki] at e
    rw [(br i hi).1.1, ← (vv i hi).1, e]
    exact bvl_E h hi ki (fun y hy _ => by rw [(br y hy).1.1]; exact (vv y hy).1)
  · by_cases e : k = 46
    · rw [e, gI_eq]
    · rw [gI_ne e]
      exact bI' k e (by omega) (by omega)
/-- one change on both sides, of a NODE that is no BUS -/
theorem WR_ch {b c Bd : Nat} {E : Nat → Nat → Prop} {M : Nat → Nat} {S0 A D B U : SS} {i : Nat} {v : Int32} (h : CE b c E M S0 D) (hB : Bd ≤ 2000000000) (wr : WR Bd c E S0 A D) (hi : i < c) (ki : gA S0 4 i ≠ 1) (hv : VQ v) (ch : CH6 A B i v) (ch7 : CH7 D U i v) : WR (Bd + 1) c E S0 B U := by
  have hc := h.1.1
  obtain ⟨⟨⟨w0, w1⟩, w2, w3, w4, w5, w6, w7⟩, bc⟩ := wr
  obtain ⟨m, m1, m2, m3, _⟩ := w4 i hi
  obtain ⟨x6, o6⟩ := CH6_W (n := min m 20) hc hi m3 (by omega) ch
  obtain ⟨x7, o7⟩ := CH7_W (n := m) hc hi m2 (by omega) ch7
  obtain ⟨cI, ⟨c2, c3, c4⟩, c7, _⟩ := ch
  obtain ⟨⟨hI, hA, _⟩, ⟨h40, h45, _⟩, _⟩ := ch7
  have u42 : gA U 42 = gA D 42 := hA 42 (by decide) (by decide) (by decide) (by decide)
  refine ⟨⟨⟨by rw [cI, hI]; exact w0, by rw [cI, hI]; exact w1⟩, fun j hj => ?_, fun j hj => by rw [c4, u42]; exact w3 j hj, fun j hj => ?_, fun y hy => ?_, by rw [hI, u42]; exact w6, fun j s hj hs kj => by rw [u42]; exact w7 j s hj hs kj⟩, fun j hj kj no => ?_⟩
  · rw [c2, c3, h40, hA 41 (by decide) (by decide) (by decide) (by decide)]
    by_cases u : j = i
    · rw [u, pk_us, pk_us]
      exact ⟨rfl, (w2 i hi).2.1, hv⟩
    · rw [pk_un u, pk_un u]
      exact w2 j hj
  · by_cases u : j = i
    · subst u
      exact WVi_ch hB (w4 j hj) w0 x6 x7
    · obtain ⟨p1, p2⟩ := o6 j hj u
      obtain ⟨p3, p4⟩ := o7 j hj u
      exact WVi_mono (WVi_eq (w4 j hj) p1 p3 p2 p4) (by omega)
  · rw [c7, bL_or, Bool.or_eq_true, bL_s (by omega) hy, w5 y hy, h45]
    by_cases u : y = i
    · rw [u, pk_us]
      exact ⟨fun _ => ⟨hi, ne10⟩, fun _ => Or.inr rfl⟩
    · rw [pk_un u]
      constructor
      · rintro (q | q)
        · exact q
        · exact absurd q u
      · exact fun q => Or.inl q
  · have nk : ∀ y, E j y → y ≠ i := fun y ey u => by
      have := no y ey
      rw [h45, u, pk_us] at this
      exact ne10 this
    have ik : j ≠ i := fun u => by
      rw [u] at kj
      exact ki kj
    have old := bc j hj kj (fun y ey => by
      have := no y ey
      rw [h45, pk_un (nk y ey)] at this
      exact this)
    rw [h40, pk_un ik, old]
    exact bvl_E h hj kj (fun y _ ey => by rw [pk_un (nk y ey)])
theorem WR_mono {Bd B' c : Nat} {E : Nat → Nat → Prop} {S0 S4 S7 : SS} (h : WR Bd c E S0 S4 S7) (hb : Bd ≤ B') : WR B' c E S0 S4 S7 := ⟨⟨h.1.1, h.1.2.1, h.1.2.2.1, fun i hi => WVi_mono (h.1.2.2.2.1 i hi) hb, h.1.2.2.2.2⟩, h.2⟩
theorem v_put {b c Bd : Nat} {E : Nat → Nat → Prop} {M : Nat → Nat} {S0 S6 S4 S7 T4 D : SS} {p1 p2 rx rm : Int32} (h : CE b c E M S0 S7) (hB : Bd ≤ 2000000000) (wh : gI S6 11 = gI S7 46) (ex : f_X6_put S6 S0 S4 p1 p2 = some (rx, T4)) (em : f_X7_put S7 p1 p2 = some (rm, D)) (wr : WR Bd c E S0 S4 S7) : WR (Bd + 1) c E S0 T4 D := by
  obtain ⟨hc, hb, h0, h29, h30⟩ := h.1
  have no : f_X6_put S6 S0 S4 p1 p2 = some (0, S4) → f_X7_put S7 p1 p2 = some (0, S7) → WR (Bd + 1) c E S0 T4 D := fun e6 e7 => by
    rw [ex] at e6
    rw [em] at e7
    cases e6
    cases e7
    exact WR_mono wr (by omega)
  by_cases w : gI S7 46 = 0
  · exact no (E_y (wh.trans w) rfl) (E_y w rfl)
  have w6 : ¬ gI S6 11 = 0 := fun q => w (wh.symm.trans q)
  have out : p1 < 0 ∨ nI c ≤ p1 → WR (Bd + 1) c E S0 T4 D := fun q => no (E_n w6 (E_B (e_isKindO h0 q 0) (E_y rfl rfl))) (E_n w (E_B (e_hasO h29 q) (E_y rfl rfl)))
  rcases pk_ix p1 (n := c) (by omega) with q | q | ⟨i, hi, e⟩
  · exact out (Or.inl q)
  · exact out (Or.inr q)
  subst e
  have k6 := e_isKindI hc h0 hi 0
  have k7 := e_kind7 h hi
  by_cases k : gA S0 4 i = 0
  · rw [if_pos k] at k6
    rw [k] at k7
    by_cases z : p2 < 0
    · exact no (E_n w6 (E_B k6 (E_n ne10 (E_y z rfl)))) (E_n w (E_B (e_hasI hc h29 hi) (E_n ne10 (E_B k7 (E_y rfl (E_y z rfl))))))
    by_cases y : p2 ≤ 3
    · have e6 : f_X6_put S6 S0 S4 (nI i) p2 = zB (f_X4_change S4 (nI i) p2) (fun (x : Int32 × SS) => some ((1 : Int32), x.2)) := E_n w6 (E_B k6 (E_n ne10 (E_n z (E_y y rfl))))
      have e7 : f_X7_put S7 (nI i) p2 = (if (gA S7 40 i) = p2 then some ((1 : Int32), S7) else zB (f_X7_change S7 (nI i) p2) (fun (s7_16 : SS) => some ((1 : Int32), s7_16))) := E_n w (E_B (e_hasI hc h29 hi) (E_n ne10 (E_B k7 (E_y rfl (E_n z (E_y y (E_G (in60 (by omega)) (by rw [nI_clamp (by omega)]))))))))
      rw [ex] at e6
      rw [em] at e7
      obtain ⟨⟨x1, B⟩, a1, a2⟩ := zB_spec e6.symm
      cases a2
      have ak := (wr.1.2.1 i hi).1
      rcases p_change6 (S := S4) (by omega) p2 _ a1 with ⟨q1, q2⟩ | ⟨q1, q2, ch⟩
      · cases q2
        rw [if_pos (ak.symm.trans q1)] at e7
        cases e7
        exact WR_mono wr (by omega)
      · rw [if_neg (fun u => q1 (ak.trans u))] at e7
        obtain ⟨U, d1, d2⟩ := zB_spec e7.symm
        cases d2
        exact WR_ch h hB wr hi (by rw [k]; decide) (VQ_of z y) ch (p_change7 (S := S7) (by omega) p2 _ d1)
    · exact no (E_n w6 (E_B k6 (E_n ne10 (E_n z (E_n y rfl))))) (E_n w (E_B (e_hasI hc h29 hi) (E_n ne10 (E_B k7 (E_y rfl (E_n z (E_n y rfl)))))))
  · rw [if_neg k] at k6
    exact no (E_n w6 (E_B k6 (E_y rfl rfl))) (E_n w (E_B (e_hasI hc h29 hi) (E_n ne10 (E_B k7 (E_n k rfl)))))
theorem v_run {b c Bd t : Nat} {E : Nat → Nat → Prop} {M : Nat → Nat} {S0 S6 S4 S7 T4 D : SS} {p1 rx rm : Int32} (h : CE b c E M S0 S7) (hB : Bd ≤ 1000000000) (ht : gI S7 47 = nI t) (ht2 : t ≤ 900000000) (hd : ∀ i, i < c → ∃ d, d ≤ 9 ∧ gA S0 6 i = nI d) (w : ¬ gI S7 46 = 0) (wh : gI S6 11 = gI S7 46) (ex : f_X6_run S6 S0 S4 p1 = some (rx, T4)) (em : f_X7_run S7 p1 = some (rm, D)) (wr : WR Bd c E S0 S4 S7) : rx = rm ∧ WR (Bd + 3000) c E S0 T4 D := by
  have w6 : ¬ gI S6 11 = 0 := fun q => w (wh.symm.trans q)
  have no : f_X6_run S6 S0 S4 p1 = some (-1, S4) → f_X7_run S7 p1 = some (-1, S7) → rx = rm ∧ WR (Bd + 3000) c E S0 T4 D := fun e6 e7 => by
    rw [ex] at e6
    rw [em] at e7
    cases e6
    cases e7
    exact ⟨rfl, WR_mono wr (by omega)⟩
  by_cases z : p1 < 0
  · exact no (E_n w6 (E_y z rfl)) (E_n w (E_y z rfl))
  by_cases y : p1 ≤ 1000
  · obtain ⟨n, hn, en⟩ := nI_of2 (M := 1000) (n := 1000) (by decide) z y
    subst en
    have e6 : f_X6_run S6 S0 S4 (nI n) = zB (f_X4_turn S4 S0 (nI n)) (fun ((r4, s4_5) : Int32 × SS) => some (r4, s4_5)) := E_n w6 (E_n z (E_y y rfl))
    have e7 : f_X7_run S7 (nI n) = zB (f_X7_looks S7) (fun ((r4, s7_5) : Int32 × SS) => zI (b_X7_run_27 (nI n)) zF (r4, (0 : Int32), s7_5)) := E_n w (E_n z (E_y y rfl))
    rw [ex] at e6
    rw [em] at e7
    obtain ⟨⟨r4, B⟩, a1, a2⟩ := zB_spec e6.symm
    cases a2
    obtain ⟨q1, q2, _⟩ := p_turn h hB ht hn (by omega) hd wr _ _ a1 e7.symm
    exact ⟨q1, q2⟩
  · exact no (E_n w6 (E_n z (E_n y rfl))) (E_n w (E_n z (E_n y rfl)))
theorem q_on {b c Bd : Nat} {E : Nat → Nat → Prop} {M : Nat → Nat} {S0 S6 S4 S7 : SS} {p1 rx rm : Int32} (h : CE b c E M S0 S7) (wh : gI S6 11 = gI S7 46) (wr : ¬ gI S7 46 = 0 → WB Bd c S0 S4 S7) (ex : f_X6_on S6 S0 S4 p1 = some rx) (em : f_X7_on S7 p1 = some rm) : rx = rm := by
  obtain ⟨hc, hb, h0, h29, h30⟩ := h.1
  have no : f_X6_on S6 S0 S4 p1 = some (-1) → f_X7_on S7 p1 = some (-1) → rx = rm := fun e6 e7 => by
    rw [ex] at e6
    rw [em] at e7
    exact (Option.some.inj e6).trans (Option.some.inj e7).symm
  by_cases w : gI S7 46 = 0
  · exact no (E_y (wh.trans w) rfl) (E_y w rfl)
  have w6 : ¬ gI S6 11 = 0 := fun q => w (wh.symm.trans q)
  have out : p1 < 0 ∨ nI c ≤ p1 → rx = rm := fun q => no (E_n w6 (E_B (e_hasO h0 q) (E_y rfl rfl))) (E_n w (E_B (e_hasO h29 q) (E_y rfl rfl)))
  rcases pk_ix p1 (n := c) (by omega) with q | q | ⟨i, hi, e⟩
  · exact out (Or.inl q)
  · exact out (Or.inr q)
  subst e
  have e6 : f_X6_on S6 S0 S4 (nI i) = some (gA S4 2 i) := E_n w6 (E_B (e_hasI hc h0 hi) (E_n ne10 (E_G (in60 (by omega)) (by rw [nI_clamp (by omega)]))))
  have e7 : f_X7_on S7 (nI i) = some (gA S7 40 i) := E_n w (E_B (e_hasI hc h29 hi) (E_n ne10 (E_G (in60 (by omega)) (by rw [nI_clamp (by omega)]))))
  rw [ex] at e6
  rw [em] at e7
  exact (Option.some.inj e6).trans ((((wr w).2.1 i hi).1).trans (Option.some.inj e7).symm)
theorem q_wave {b c Bd : Nat} {E : Nat → Nat → Prop} {M : Nat → Nat} {S0 S6 S4 S7 : SS} {p1 p2 rx rm : Int32} (h : CE b c E M S0 S7) (hB : Bd ≤ 2000000000) (wh : gI S6 11 = gI S7 46) (wr : ¬ gI S7 46 = 0 → WB Bd c S0 S4 S7) (ex : f_X6_wave S6 S0 S4 p1 p2 = some rx) (em : f_X7_wave S7 p1 p2 = some rm) : rx = rm := by
  obtain ⟨hc, hb, h0, h29, h30⟩ := h.1
  have no : f_X6_wave S6 S0 S4 p1 p2 = some (-1) → f_X7_wave S7 p1 p2 = some (-1) → rx = rm := fun e6 e7 => by
    rw [ex] at e6
    rw [em] at e7
    exact (Option.some.inj e6).trans (Option.some.inj e7).symm
  by_cases w : gI S7 46 = 0
  · exact no (E_y (wh.trans w) rfl) (E_y w rfl)
  have w6 : ¬ gI S6 11 = 0 := fun q => w (wh.symm.trans q)
  have out : p1 < 0 ∨ nI c ≤ p1 → rx = rm := fun q => no (E_n w6 (E_B (e_hasO h0 q) (E_y rfl rfl))) (E_n w (E_B (e_hasO h29 q) (E_y rfl rfl)))
  rcases pk_ix p1 (n := c) (by omega) with q | q | ⟨i, hi, e⟩
  · exact out (Or.inl q)
  · exact out (Or.inr q)
  subst e
  have cl : (nI i).toNatClampNeg = i := nI_clamp (by omega)
  obtain ⟨m, m1, m2, m3, m4⟩ := (wr w).2.2.2.1 i hi
  by_cases z : p2 < 0
  · exact no (E_n w6 (E_B (e_hasI hc h0 hi) (E_n ne10 (E_B (E_y z rfl) rfl)))) (E_n w (E_B (e_hasI hc h29 hi) (E_n ne10 (E_y z rfl))))
  obtain ⟨k, hk, ek⟩ := nI_of z
  subst ek
  have le6 : gA S4 6 i ≤ nI k ↔ min m 20 ≤ k := by rw [m3]; exact nI_leI (by omega) (by omega)
  have le7 : gA S7 44 i ≤ nI k ↔ m ≤ k := by rw [m2]; exact nI_leI (by omega) (by omega)
  have lt7 : nI k < (20 : Int32) ↔ k < 20 := nI_ltI (b := 20) (by omega) (by omega)
  by_cases y : min m 20 ≤ k
  · have a6 : f_X6_wave S6 S0 S4 (nI i) (nI k) = some (-1) := E_n w6 (E_B (e_hasI hc h0 hi) (E_n ne10 (E_B (E_n z (E_G (in60 (by omega)) (by rw [cl]; exact E_y (le6.mpr y) rfl))) rfl)))
    refine no a6 (E_n w (E_B (e_hasI hc h29 hi) (E_n ne10 (E_n z (E_G (in60 (by omega)) ?_)))))
    rw [cl]
    by_cases x : m ≤ k
    · exact E_y (le7.mpr x) rfl
    · exact E_n (fun q => x (le7.mp q)) (E_n (fun q => by have := lt7.mp q; omega) rfl)
  · have k20 : k < 20 := by omega
    have i6 : ((nI i * (20 : Int32)) + nI k) = nI (20 * i + k) := by rw [show (20 : Int32) = nI 20 from rfl, pk_mul, nI_add, Nat.mul_comm]
    have i7 : (((20 : Int32) * nI i) + nI k) = nI (20 * i + k) := by rw [show (20 : Int32) = nI 20 from rfl, pk_mul, nI_add]
    have inx : vp_in (nI (20 * i + k)) 1200 := ti_in (by rw [nI_toInt (by omega)]; omega) (by rw [nI_toInt (by omega)]; omega)
    have e6 : f_X6_wave S6 S0 S4 (nI i) (nI k) = some (gA S4 5 (20 * i + k)) := E_n w6 (E_B (e_hasI hc h0 hi) (E_n ne10 (E_B (E_n z (E_G (in60 (by omega)) (by rw [cl]; exact E_n (fun q => y (le6.mp q)) (by rw [i6]; exact E_G inx (by rw [nI_clamp (by omega)]))))) rfl)))
    have e7 : f_X7_wave S7 (nI i) (nI k) = some (gA S7 43 (20 * i + k)) := E_n w (E_B (e_hasI hc h29 hi) (E_n ne10 (E_n z (E_G (in60 (by omega)) (by rw [cl]; exact E_n (fun q => by have := le7.mp q; omega) (E_y (lt7.mpr k20) (by rw [i7]; exact E_G inx (by rw [nI_clamp (by omega)]))))))))
    rw [ex] at e6
    rw [em] at e7
    exact (Option.some.inj e6).trans ((m4 k (by omega)).trans (Option.some.inj e7).symm)
theorem p_isQuiet {T : SS} {c : Nat} (hc : c ≤ 60) (h29 : gI T 29 = nI c) : Pc (f_X7_isQuiet T) (fun r => r ≠ 0 ↔ gI T 48 = 0 ∧ ∀ i, i < c → gA T 45 i = 0) := by
  refine Pc_B (P := fun v => (v = 0 ∨ v = 1) ∧ (v ≠ 0 ↔ gI T 48 = 0)) (Pc_c (fun z => Pc_s ⟨Or.inr rfl, fun _ => z, fun _ => ne10⟩) (fun z => Pc_s ⟨Or.inl rfl, fun q => absurd rfl q, fun q => absurd q z⟩)) (fun v0 hv0 => ?_)
  refine Pc_I (fun v : Int32 × Int32 => ∃ k, v.2 = nI k ∧ k ≤ c ∧ (v.1 ≠ 0 ↔ gI T 48 = 0 ∧ ∀ i, i < k → gA T 45 i = 0)) (fun v hv => ?_) _ ⟨0, rfl, Nat.zero_le _, fun q => ⟨hv0.2.mp q, fun i hi => absurd hi (Nat.not_lt_zero _)⟩, fun q => hv0.2.mpr q.1⟩
  obtain ⟨w, v⟩ := v
  obtain ⟨k, ev, hk, hw⟩ : ∃ k, v = nI k ∧ k ≤ c ∧ (w ≠ 0 ↔ gI T 48 = 0 ∧ ∀ i, i < k → gA T 45 i = 0) := hv
  subst ev
  refine Pc_c (fun q => Pc_G (fun _ => Pc_s ?_)) (fun q => Pc_c (fun z => Pc_l (Pc_s ⟨k + 1, nI_1 k, ?_, fun u => absurd rfl u, fun u => absurd z (hw.mpr ⟨u.1, fun i hi => u.2 i (by omega)⟩)⟩)) (fun z => Pc_G (fun _ => ?_)))
  · rw [h29, nI_leI (by omega) (by omega)] at q
    have : k = c := by omega
    rw [this] at hw
    exact hw
  · rw [h29, nI_leI (by omega) (by omega)] at q
    omega
  · rw [h29, nI_leI (by omega) (by omega)] at q
    rw [nI_clamp (by omega)]
    refine Pc_c (fun y => Pc_l (Pc_s ⟨k + 1, nI_1 k, by omega, fun _ => ⟨(hw.mp z).1, fun i hi => ?_⟩, fun _ => ne10⟩)) (fun y => Pc_l (Pc_s ⟨k + 1, nI_1 k, by omega, fun u => absurd rfl u, fun u => absurd (u.2 k (by omega)) y⟩))
    by_cases e : i = k
    · rw [e]; exact y
    · exact (hw.mp z).2 i (by omega)
