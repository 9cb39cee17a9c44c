/-! the wheel: what is to come -/
def WB (Bd c : Nat) (S0 S4 S7 : SS) : Prop := (gI S4 0 = gI S7 47 ∧ gI S4 1 = gI S7 48) ∧ (∀ i, i < c → gA S4 2 i = gA S7 40 i ∧ gA S4 3 i = gA S7 41 i ∧ VQ (gA S7 40 i)) ∧ (∀ j, j < 10 * c → gA S4 4 j = gA S7 42 j ∧ (gA S7 42 j = -1 ∨ VQ (gA S7 42 j))) ∧ (∀ i, i < c → WVi Bd S4 S7 i) ∧ (∀ y, y < 64 → (bL (gL S4 7) y = true ↔ y < c ∧ gA S7 45 y ≠ 0)) ∧ gI S7 48 = nI (cn (fun j => gA S7 42 j ≠ -1) (10 * c)) ∧ ∀ i s, i < c → s < 10 → gA S0 4 i ≠ 2 → gA S7 42 (10 * i + s) = -1
theorem VQ_m1 {v : Int32} (h : VQ v) : v ≠ -1 := by
  rcases h with h | h | h | h <;> rw [h] <;> decide
theorem WB_hn {Bd c : Nat} {S0 S4 S7 : SS} (h : WB Bd c S0 S4 S7) : (∀ j, j < c → ∃ n, n ≤ 20 ∧ gA S4 6 j = nI n) ∧ ∀ j, j < c → ∃ n, n ≤ Bd ∧ gA S7 44 j = nI n := by
  refine ⟨fun j hj => ?_, fun j hj => ?_⟩
  · obtain ⟨m, _, _, m3, _⟩ := h.2.2.2.1 j hj
    exact ⟨min m 20, by omega, m3⟩
  · obtain ⟨m, m1, m2, _⟩ := h.2.2.2.1 j hj
    exact ⟨m, m1, m2⟩
/-- behind the BUSES -/
theorem WB_bus {b c Bd : Nat} {E : Nat → Nat → Prop} {M : Nat → Nat} {S0 S4 S7 T4 T7 : SS} (h : CE b c E M S0 S7) (hB : Bd ≤ 2000000000) (wb : WB Bd c S0 S4 S7) (e6 : EF6 c S4 T4) (b6 : BSL c S0 (gA S4 2) (gA T4 2)) (e7 : EF7 c S7 T7) (b7 : BSL c S0 (gA S7 40) (gA T7 40)) (vq : ∀ i, i < c → VQ (gA T7 40 i)) : WB (Bd + 1) c S0 T4 T7 ∧ ∀ i, i < c → gA T4 2 i = gA T7 40 i := by
  have hc := h.1.1
  obtain ⟨⟨w0, w1⟩, w2, w3, w4, w5, w6, w7⟩ := wb
  have eq := BSL_u h b6 b7 (fun i hi => (w2 i hi).1)
  have r42 : gA T7 42 = gA S7 42 := e7.1.2.1 42 (by decide) (by decide) (by decide) (by decide)
  have r41 : gA T7 41 = gA S7 41 := e7.1.2.1 41 (by decide) (by decide) (by decide) (by decide)
  have df : ∀ i, i < c → (gA T4 2 i = gA S4 2 i ↔ gA T7 40 i = gA S7 40 i) := fun i hi => by rw [eq i hi, (w2 i hi).1]
  refine ⟨⟨⟨by rw [e6.1, e7.1.1]; exact w0, by rw [e6.1, e7.1.1]; exact w1⟩, fun i hi => ⟨eq i hi, by rw [e6.2.1.1, r41]; exact (w2 i hi).2.1, vq i hi⟩, fun j hj => by rw [e6.2.1.2, r42]; exact w3 j hj, fun i hi => ?_, fun y hy => ?_, by rw [e7.1.1, r42]; exact w6, fun i s hi hs k => by rw [r42]; exact w7 i s hi hs k⟩, eq⟩
  · by_cases q : gA T4 2 i = gA S4 2 i
    · obtain ⟨a1, a2⟩ := (e6.2.2.1 i hi).1 q
      obtain ⟨c1, c2⟩ := (e7.2.1 i hi).1 ((df i hi).mp q)
      exact WVi_mono (WVi_eq (w4 i hi) a1 c1 a2 c2) (by omega)
    · have a := (e6.2.2.1 i hi).2 q
      have d := (e7.2.1 i hi).2 (fun t => q ((df i hi).mpr t))
      rw [← eq i hi] at d
      exact WVi_ch hB (w4 i hi) w0 a d
  · rw [e6.2.2.2 y hy, w5 y hy]
    constructor
    · rintro (⟨a, d⟩ | ⟨a, d⟩)
      · exact ⟨a, (e7.2.2 y a).mpr (Or.inl d)⟩
      · exact ⟨a, (e7.2.2 y a).mpr (Or.inr (fun t => d ((df y a).mpr t)))⟩
    · rintro ⟨a, d⟩
      rcases (e7.2.2 y a).mp d with d | d
      · exact Or.inl ⟨a, d⟩
      · exact Or.inr ⟨a, fun t => d ((df y a).mp t)⟩
theorem e_fmod {n : Nat} (hn : n < 2 ^ 31) : f_J9_floorMod_7cf53 (nI n) 10 = some (nI (n % 10)) := by
  have r : nI n - nI n / (10 : Int32) * (10 : Int32) = nI (n % 10) := pk_rem (d := 10) hn (by omega) (by omega)
  have x : IV 0 2147483647 (nI n ^^^ 10) := IV_xorp rfl ⟨by rw [nI_toInt hn]; exact Int.natCast_nonneg n, by rw [nI_toInt hn]; omega⟩ (b := 2147483647) (Int.le_refl 0)
  unfold f_J9_floorMod_7cf53
  refine E_G (by decide) ?_
  show (if (0 : Int32) ≤ (nI n ^^^ 10) then some (nI n - nI n / (10 : Int32) * (10 : Int32)) else _) = _
  rw [if_pos (by rw [ti_le]; exact x.1), r]
theorem e_slotAt {i n : Nat} (hn : n < 2 ^ 31) : f_X4_slotAt (nI i) (nI n) = some (nI (10 * i + n % 10)) := by
  refine E_B (e_fmod hn) ?_
  rw [show (10 : Int32) = nI 10 from rfl, pk_mul, nI_add, Nat.mul_comm]
theorem slot7 {i n : Nat} (hn : n < 2 ^ 31) : ((10 : Int32) * nI i) + (nI n - nI n / (10 : Int32) * (10 : Int32)) = nI (10 * i + n % 10) := by
  have r : nI n - nI n / (10 : Int32) * (10 : Int32) = nI (n % 10) := pk_rem (d := 10) hn (by omega) (by omega)
  rw [r, show (10 : Int32) = nI 10 from rfl, pk_mul, nI_add]
theorem slot_lt {v : Int32} (h : v = -1 ∨ VQ v) : (0 : Int32) ≤ v ↔ ¬ v = -1 := by
  rcases h with h | h
  · rw [h]; decide
  · rcases h with h | h | h | h <;> rw [h] <;> decide
theorem upd_upd {f : Nat → Int32} {i : Nat} {x y : Int32} : upd (upd f i x) i y = upd f i y := by
  funext j
  by_cases e : j = i
  · rw [e, pk_us, pk_us]
  · rw [pk_un e, pk_un e, pk_un e]
theorem upd_self {f : Nat → Int32} {i : Nat} : upd f i (f i) = f := by
  funext j
  by_cases e : j = i
  · rw [e, pk_us]
  · rw [pk_un e]
theorem cn_slot {f : Nat → Int32} {j n : Nat} {v : Int32} (hj : j < n) (hv : v ≠ -1) : cn (fun q => upd f j v q ≠ -1) n = cn (fun q => f q ≠ -1) n + (if f j = -1 then 1 else 0) := by
  by_cases q : f j = -1
  · rw [if_pos q]
    exact cn_ne (f := fun _ => -1) hj q hv
  · rw [if_neg q]
    refine cn_c (fun y _ => ?_)
    by_cases e : y = j
    · rw [e, pk_us]
      exact ⟨fun _ => q, fun _ => hv⟩
    · rw [pk_un e]
theorem cn_unslot {f : Nat → Int32} {j n : Nat} (hj : j < n) (hv : f j ≠ -1) : cn (fun q => f q ≠ -1) n = cn (fun q => upd f j (-1) q ≠ -1) n + 1 := by
  have := cn_ne (g := upd f j (-1)) (f := fun _ => -1) (v := f j) hj pk_us hv
  rw [upd_upd, upd_self] at this
  exact this
theorem gval_E {b c : Nat} {E : Nat → Nat → Prop} {M : Nat → Nat} {S0 Y : SS} (h : CE b c E M S0 Y) {i : Nat} (hi : i < c) (k2 : gA S0 4 i = 2) {f f' : Nat → Int32} (hf : ∀ y, y < c → E i y → f y = f' y) : gval S0 f i = gval S0 f' i := by
  have := NV_c h hi (Or.inr k2) hf
  rw [NV_2 k2, NV_2 k2] at this
  exact this
/-- the same but for rows 41, 42 and how many are to come -/
def GT7 (S T : SS) : Prop := (∀ k, k ≠ 48 → gI T k = gI S k) ∧ (∀ k, k ≠ 41 → k ≠ 42 → gA T k = gA S k) ∧ ∀ k, gB T k = gB S k
theorem p_gates {b c Bd t : Nat} {E : Nat → Nat → Prop} {M : Nat → Nat} {S0 S4 S7 : SS} (h : CE b c E M S0 S7) (ht : gI S7 47 = nI t) (ht2 : t ≤ 1000000000) (hd : ∀ i, i < c → ∃ d, d ≤ 9 ∧ gA S0 6 i = nI d) (wb : WB Bd c S0 S4 S7) : P2 (zI (b_X4_follow_19 S0) zF ((0 : Int32), S4)) (zI b_X7_looks_109 zF ((0 : Int32), S7)) (fun T4 T7 => WB Bd c S0 T4 T7 ∧ GT7 S7 T7) := by
  obtain ⟨hc, hb, h0, _, _⟩ := h.1
  refine P2_I (fun (v : Int32 × SS) (w : Int32 × SS) => ∃ k, v.1 = nI k ∧ w.1 = nI k ∧ k ≤ c ∧ WB Bd c S0 v.2 w.2 ∧ GT7 S7 w.2) (fun v w hv => ?_) _ _ ⟨0, rfl, rfl, Nat.zero_le _, wb, fun _ _ => rfl, fun _ _ _ => rfl, fun _ => rfl⟩
  obtain ⟨v, A⟩ := v
  obtain ⟨w, D⟩ := w
  obtain ⟨k, ev, ew, hk, wb, gt⟩ : ∃ k, v = nI k ∧ w = nI k ∧ k ≤ c ∧ WB Bd c S0 A D ∧ GT7 S7 D := hv
  subst ev
  subst ew
  have hD : CE b c E M S0 D := CE_f h ⟨gt.1 29 (by decide), gt.1 30 (by decide)⟩ (fun k hk => gt.2.1 k (by omega) (by omega)) (gt.2.2 11)
  obtain ⟨_, _, _, d29, d30⟩ := hD.1
  obtain ⟨⟨w0, w1⟩, w2, w3, w4, w5, w6, w7⟩ := id wb
  have d47 : gI D 47 = nI t := by rw [gt.1 47 (by decide)]; exact ht
  refine P2_c (by rw [h0, d29]) (fun _ _ => P2_s ⟨wb, gt⟩) (fun q _ => P2_Gl (fun _ => ?_))
  rw [h0, nI_leI (by omega) (by omega)] at q
  have kc : k < c := by omega
  have cl : (nI k).toNatClampNeg = k := nI_clamp (by omega)
  rw [cl]
  refine P2_er (e_kind7 hD kc) (P2_c Iff.rfl (fun k2 _ => ?_) (fun _ _ => P2_l (fun _ e1 => P2_r (fun _ e2 => P2_s ⟨k + 1, by rw [e1]; exact nI_1 k, by rw [e2]; exact nI_1 k, by omega, wb, gt⟩))))
  refine P2_Bl (p_dependsOn (S := S0) (w := gL A 7) (by omega)) (fun r hr => P2_Br (p_hasChanged hD kc (Or.inr k2)) (fun s hs => ?_))
  have dep : r = 0 ↔ s = 0 := by
    have : r ≠ 0 ↔ s ≠ 0 := by
      rw [hr.2, hs]
      constructor
      · rintro ⟨y, y1, y2, y3⟩
        exact ⟨y, (h.2.2.2.2.1.2 k y kc y1).mp y2, ((w5 y y1).mp y3).2⟩
      · rintro ⟨y, y1, y2⟩
        have yc := ((h.2.2.2.2.1.1 k y kc).mp y1).1
        exact ⟨y, by omega, (h.2.2.2.2.1.2 k y kc (by omega)).mpr y1, (w5 y (by omega)).mpr ⟨yc, y2⟩⟩
    constructor
    · intro e
      exact Classical.byContradiction (fun u => this.mpr u e)
    · intro e
      exact Classical.byContradiction (fun u => this.mp u e)
  refine P2_c dep (fun _ _ => P2_l (fun _ e1 => P2_r (fun _ e2 => P2_s ⟨k + 1, by rw [e1]; exact nI_1 k, by rw [e2]; exact nI_1 k, by omega, wb, gt⟩))) (fun _ _ => ?_)
  -- both look at GATE k
  have gv : gval S0 (gA A 2) k = gval S0 (gA D 40) k := gval_E h kc k2 (fun y hy _ => (w2 y hy).1)
  have vg : VQ (gval S0 (gA D 40) k) := by
    have := NV_q hD kc (Or.inr k2) (f := gA D 40) (fun y hy _ => (w2 y hy).2.2)
    rw [NV_2 k2] at this
    exact this
  obtain ⟨d, d9, ed⟩ := hd k kc
  have a0 : gI A 0 = nI t := by rw [w0]; exact d47
  have d15 : gA D 15 (60 * b + k) = nI d := by rw [(hD.2.1 k kc).1.2.2]; exact ed
  have sl : 10 * k + (t + d) % 10 < 10 * c := by omega
  obtain ⟨s1, s2⟩ := w3 _ sl
  refine P2_Br (p_gate7 hD kc k2 40) (fun x hx => ?_)
  rw [hx]
  refine P2_Gr (fun _ => ?_)
  by_cases e : gval S0 (gA D 40) k = gA D 41 k
  · rw [if_pos e]
    refine P2_Bl (P := fun T => T = A) (Pc_B (p_gate6 h kc k2 (gA A 2)) (fun r1 hr1 => Pc_G (fun _ => ?_))) (fun T hT => P2_l (fun _ e1 => P2_r (fun _ e2 => P2_s ⟨k + 1, by rw [e1]; exact nI_1 k, by rw [e2]; exact nI_1 k, by omega, by rw [hT]; exact wb, gt⟩)))
    rw [cl, hr1, gv, (w2 k kc).2.1]
    exact Pc_c (fun _ => Pc_s rfl) (fun u => absurd e u)
  · rw [if_neg e]
    -- the class
    refine P2_Bl (P := fun T => (∀ k, k ≠ 1 → gI T k = gI A k) ∧ gI T 1 = gI A 1 + (if gA A 4 (10 * k + (t + d) % 10) = -1 then 1 else 0) ∧ gA T 3 = upd (gA A 3) k (gval S0 (gA D 40) k) ∧ gA T 4 = upd (gA A 4) (10 * k + (t + d) % 10) (gval S0 (gA D 40) k) ∧ gA T 2 = gA A 2 ∧ gA T 5 = gA A 5 ∧ gA T 6 = gA A 6 ∧ gL T 7 = gL A 7) ?_ (fun T hT => ?_)
    · refine Pc_B (p_gate6 h kc k2 (gA A 2)) (fun r1 hr1 => Pc_G (fun _ => ?_))
      rw [cl, hr1, gv, (w2 k kc).2.1]
      refine Pc_c (fun u => absurd u e) (fun _ => Pc_L (fun B eB => ?_))
      have sa : f_X4_slotAt (nI k) ((gI B 0) + gA S0 6 k) = some (nI (10 * k + (t + d) % 10)) := by
        have : gI B 0 = nI t := by rw [eB]; exact a0
        rw [this, ed, nI_add]
        exact e_slotAt (by omega)
      refine Pc_e sa (Pc_G (fun _ => ?_))
      have b4 : gA B 4 = gA A 4 := by rw [eB, gA_ne (by decide)]
      have bI' : ∀ k, gI B k = gI A k := fun k => by rw [eB]; rfl
      rw [nI_clamp (by omega), b4]
      refine Pc_B (P := fun F => (∀ k, k ≠ 1 → gI F k = gI A k) ∧ gI F 1 = gI A 1 + (if gA A 4 (10 * k + (t + d) % 10) = -1 then 1 else 0) ∧ (∀ k, gA F k = gA B k) ∧ gL F 7 = gL A 7) (Pc_c (fun z => Pc_L (fun F eF => Pc_s ⟨fun k hk => ?_, ?_, fun k => ?_, ?_⟩)) (fun z => Pc_s ⟨fun k _ => bI' k, ?_, fun _ => rfl, ?_⟩)) (fun F hF => Pc_L (fun G eG => Pc_s ?_))
      · rw [eF, gI_ne hk]; exact bI' k
      · rw [eF, gI_eq, bI', if_pos z]
      · rw [eF]; rfl
      · rw [eF, eB]; rfl
      · rw [bI', if_neg z]
        exact (Int32.add_zero _).symm
      · rw [eB]; rfl
      · obtain ⟨f1, f2, f3, f4⟩ := hF
        refine ⟨fun k hk => by rw [eG]; exact f1 k hk, by rw [eG]; exact f2, ?_, ?_, ?_, ?_, ?_, by rw [eG]; exact f4⟩
        · rw [eG, gA_ne (by decide), f3, eB, gA_eq]
        · rw [eG, gA_eq, f3, b4]
        · rw [eG, gA_ne (by decide), f3, eB, gA_ne (by decide)]
        · rw [eG, gA_ne (by decide), f3, eB, gA_ne (by decide)]
        · rw [eG, gA_ne (by decide), f3, eB, gA_ne (by decide)]
    · obtain ⟨t0, t1, t3, t4, t2, t5, t6, t7⟩ := hT
      -- the reference
      refine P2_l (fun _ e1 => P2_r (fun B eB => P2_Gr (fun _ => P2_r (fun x ex => P2_Gr (fun _ => ?_)))))
      have bI' : ∀ k, gI B k = gI D k := fun k => by rw [eB]; rfl
      have b15 : gA B 15 = gA D 15 := by rw [eB, gA_ne (by decide)]
      have b42 : gA B 42 = gA D 42 := by rw [eB, gA_ne (by decide)]
      have ex2 : x = nI (10 * k + (t + d) % 10) := by
        rw [ex, bI' 30, d30, i60 hb, nI_clamp (by omega), b15, d15, bI' 47, d47, nI_add]
        exact slot7 (by omega)
      rw [ex2, nI_clamp (by omega), b42]
      refine P2_Br (P := fun z => z = (if gA D 42 (10 * k + (t + d) % 10) = -1 then (1 : Int32) else 0)) (Pc_i (slot_lt s2) (fun z => Pc_s ?_) (fun z => Pc_s ?_)) (fun z hz => P2_r (fun F eF => P2_r (fun G eG => P2_r (fun _ e2 => P2_s ⟨k + 1, by rw [e1]; exact nI_1 k, by rw [e2]; exact nI_1 k, by omega, ?_, ?_⟩))))
      · rw [if_neg z]
      · rw [if_pos (Classical.byContradiction z)]
      · have g40 : gA G 40 = gA D 40 := by rw [eG, gA_ne (by decide), eF, gA_sI, eB, gA_ne (by decide)]
        have g41 : gA G 41 = upd (gA D 41) k (gval S0 (gA D 40) k) := by rw [eG, gA_ne (by decide), eF, gA_sI, eB, gA_eq]
        have g42 : gA G 42 = upd (gA D 42) (10 * k + (t + d) % 10) (gval S0 (gA D 40) k) := by rw [eG, gA_eq, eF, gA_sI, b42]
        have g43 : gA G 43 = gA D 43 := by rw [eG, gA_ne (by decide), eF, gA_sI, eB, gA_ne (by decide)]
        have g44 : gA G 44 = gA D 44 := by rw [eG, gA_ne (by decide), eF, gA_sI, eB, gA_ne (by decide)]
        have g45 : gA G 45 = gA D 45 := by rw [eG, gA_ne (by decide), eF, gA_sI, eB, gA_ne (by decide)]
        have g47 : gI G 47 = gI D 47 := by rw [eG, gI_sA, eF, gI_ne (by decide), bI']
        have g48 : gI G 48 = gI D 48 + (if gA D 42 (10 * k + (t + d) % 10) = -1 then 1 else 0) := by rw [eG, gI_sA, eF, gI_eq, bI', hz]
        refine ⟨⟨?_, ?_⟩, fun i hi => ⟨?_, ?_, ?_⟩, fun j hj => ?_, fun i hi => ?_, fun y hy => ?_, ?_, fun i s hi hs ki => ?_⟩
        · show gI T 0 = gI G 47
          rw [t0 0 (by decide), g47]; exact w0
        · show gI T 1 = gI G 48
          rw [t1, g48, w1, s1]
        · show gA T 2 i = gA G 40 i
          rw [t2, g40]; exact (w2 i hi).1
        · show gA T 3 i = gA G 41 i
          rw [t3, g41]
          by_cases u : i = k
          · rw [u, pk_us, pk_us]
          · rw [pk_un u, pk_un u]; exact (w2 i hi).2.1
        · show VQ (gA G 40 i)
          rw [g40]; exact (w2 i hi).2.2
        · show gA T 4 j = gA G 42 j ∧ _
          rw [t4, g42]
          by_cases u : j = 10 * k + (t + d) % 10
          · rw [u, pk_us, pk_us]
            exact ⟨rfl, Or.inr vg⟩
          · rw [pk_un u, pk_un u]; exact w3 j hj
        · show WVi Bd T G i
          exact WVi_eq (w4 i hi) (by rw [t6]) (by rw [g44]) (fun k _ => by rw [t5]) (fun k _ => by rw [g43])
        · show bL (gL T 7) y = true ↔ y < c ∧ gA G 45 y ≠ 0
          rw [t7, g45]; exact w5 y hy
        · show gI G 48 = nI (cn (fun j => gA G 42 j ≠ -1) (10 * c))
          rw [g48, g42, cn_slot sl (VQ_m1 vg), w6]
          by_cases u : gA D 42 (10 * k + (t + d) % 10) = -1
          · rw [if_pos u, if_pos u]
            exact nI_1 _
          · rw [if_neg u, if_neg u]
            exact nI_add _ 0
        · show gA G 42 (10 * i + s) = -1
          have ne : i ≠ k := fun u => ki (by rw [u]; exact k2)
          rw [g42, pk_un (by omega)]
          exact w7 i s hi hs ki
      · refine ⟨fun j hj => ?_, fun j j1 j2 => ?_, fun j => ?_⟩
        · show gI G j = _
          rw [eG, gI_sA, eF, gI_ne hj, bI']; exact gt.1 j hj
        · show gA G j = _
          rw [eG, gA_ne j2, eF, gA_sI, eB, gA_ne j1]; exact gt.2.1 j j1 j2
        · show gB G j = _
          rw [eG, eF, eB]; exact gt.2.2 j
