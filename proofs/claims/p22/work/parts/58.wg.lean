/-! the values of both between calls -/
def cN (S0 : SS) : Nat := (gI S0 0).toNatClampNeg
theorem CE_cN {b c : Nat} {E : Nat → Nat → Prop} {M : Nat → Nat} {S0 Y : SS} (h : CE b c E M S0 Y) : cN S0 = c := by
  obtain ⟨hc, _, h0, _⟩ := h.1
  unfold cN
  rw [h0, nI_clamp (by omega)]
def VAL (S0 S6 S7 : SS) : Prop := (∀ i, i < cN S0 → gA S6 5 i = gA S7 34 i ∧ VQ (gA S6 5 i)) ∧ (∀ i, i < cN S0 → ¬ GBn S0 i → gA S7 33 i = gA S7 34 i) ∧ ∀ i, i < cN S0 → GBn S0 i → gA S6 5 i = NV S0 (gA S6 5) i
theorem VAL_k {S0 S6 S7 A D : SS} (h : VAL S0 S6 S7) (h5 : gA A 5 = gA S6 5) (hk : KV S7 D) : VAL S0 A D := by
  unfold VAL
  rw [h5, hk.1, hk.2]
  exact h
theorem VAL_0 {S0 S6 S7 : SS} (h : gI S0 0 = 0) : VAL S0 S6 S7 := by
  have : cN S0 = 0 := by unfold cN; rw [h]; rfl
  unfold VAL
  rw [this]
  exact ⟨fun i hi => absurd hi (Nat.not_lt_zero _), fun i hi => absurd hi (Nat.not_lt_zero _), fun i hi => absurd hi (Nat.not_lt_zero _)⟩
theorem p_settleV {b c : Nat} {E : Nat → Nat → Prop} {M : Nat → Nat} {S0 Y : SS} (h : CE b c E M S0 Y) (B : SS) : Pc (f_X6_settleValues B S0) (fun A => SOL c S0 (gA B 5) (gA A 5)) := Pc_B (p_settle6 h (gA B 5)) (fun g hg => Pc_l (Pc_l (Pc_s (by
  show SOL c S0 (gA B 5) (gA (sI (sA B 5 g) 9 0) 5)
  rw [gA_sI, gA_eq]
  exact hg))))
theorem VAL_settle {b c : Nat} {E : Nat → Nat → Prop} {M : Nat → Nat} {S0 B A H K : SS} (h : CE b c E M S0 H) (hs : ∀ i, i < c → ¬ GBn S0 i → gA B 5 i = gA H 33 i ∧ VQ (gA B 5 i)) (e6 : f_X6_settleValues B S0 = some A) (e7 : f_X7_settle H = some K) : VAL S0 A K := by
  have s6 : SOL c S0 (gA B 5) (gA A 5) := p_settleV h B _ e6
  have vh : ∀ i, i < c → ¬ GBn S0 i → VQ (gA H 33 i) := fun i hi u => by
    rw [← (hs i hi u).1]
    exact (hs i hi u).2
  obtain ⟨g, eK, s7⟩ := p_settle7 h vh _ e7
  have k34 : gA K 34 = g := by rw [eK, gA_eq]
  have k33 : gA K 33 = gA H 33 := by rw [eK, gA_ne (by decide)]
  have eq := SOL_u h s6 s7 (fun i hi u => (hs i hi u).1)
  have vq := SOL_q h s6 (fun i hi u => (hs i hi u).2)
  unfold VAL
  rw [CE_cN h, k34, k33]
  exact ⟨fun i hi => ⟨eq i hi, vq i hi⟩, fun i hi u => ((s7 i hi).2 u).symm, fun i hi u => (s6 i hi).1 u⟩
theorem VQ_of {v : Int32} (h1 : ¬ v < 0) (h2 : v ≤ 3) : VQ v := by
  rw [ti_lt] at h1
  rw [ti_le] at h2
  have t0 : (0 : Int32).toInt = 0 := by decide
  have t3 : (3 : Int32).toInt = 3 := by decide
  have e : v = nI v.toInt.toNat := Int32.toInt_inj.mp (by rw [nI_toInt (by omega)]; omega)
  have : v.toInt.toNat = 0 ∨ v.toInt.toNat = 1 ∨ v.toInt.toNat = 2 ∨ v.toInt.toNat = 3 := by omega
  rcases this with q | q | q | q <;> rw [q] at e <;> rw [e]
  · exact Or.inl rfl
  · exact Or.inr (Or.inl rfl)
  · exact Or.inr (Or.inr (Or.inl rfl))
  · exact Or.inr (Or.inr (Or.inr rfl))
theorem VQ_2 {v : Int32} (h : VQ v) : v < 2 ↔ v = 0 ∨ v = 1 := by
  rcases h with h | h | h | h <;> rw [h] <;> decide
theorem e_isKindI {S0 : SS} {c i : Nat} (hc : c ≤ 60) (h0 : gI S0 0 = nI c) (hi : i < c) (k : Int32) : f_X0_isKind S0 (nI i) k = some (if gA S0 4 i = k then 1 else 0) := by
  refine E_B (e_hasI hc h0 hi) (E_n ne10 (E_G (in60 (by omega)) ?_))
  rw [nI_clamp (by omega)]
  split <;> rfl
theorem e_isKindO {S0 : SS} {c : Nat} {p : Int32} (h0 : gI S0 0 = nI c) (hp : p < 0 ∨ nI c ≤ p) (k : Int32) : f_X0_isKind S0 p k = some 0 := E_B (e_hasO h0 hp) (E_y rfl rfl)
theorem q_value {b c : Nat} {E : Nat → Nat → Prop} {M : Nat → Nat} {S0 S6 S7 : SS} (h : CE b c E M S0 S7) (va : VAL S0 S6 S7) (p1 : Int32) {rx rm : Int32} (ex : f_X6_value S6 S0 p1 = some rx) (em : f_X7_value S7 p1 = some rm) : rx = rm := by
  obtain ⟨hc, hb, h0, h29, h30⟩ := h.1
  have out : p1 < 0 ∨ nI c ≤ p1 → rx = rm := fun q => by
    have e6 : f_X6_value S6 S0 p1 = some (-1) := E_B (e_hasO h0 q) (E_y rfl rfl)
    have e7 : f_X7_value S7 p1 = some (-1) := E_B (e_hasO h29 q) (E_y rfl rfl)
    rw [ex] at e6
    rw [em] at e7
    exact (Option.some.inj e6).trans (Option.some.inj e7).symm
  rcases pk_ix p1 (n := c) (by omega) with q | q | ⟨j, hj, e⟩
  · exact out (Or.inl q)
  · exact out (Or.inr q)
  · subst e
    have e6 : f_X6_value S6 S0 (nI j) = some (gA S6 5 j) := E_B (e_hasI hc h0 hj) (E_n ne10 (E_G (in60 (by omega)) (by rw [nI_clamp (by omega)])))
    have e7 : f_X7_value S7 (nI j) = some (gA S7 34 j) := E_B (e_hasI hc h29 hj) (E_n ne10 (E_G (in60 (by omega)) (by rw [nI_clamp (by omega)])))
    rw [ex] at e6
    rw [em] at e7
    have v := (va.1 j (by rw [CE_cN h]; exact hj)).1
    exact (Option.some.inj e6).trans (v.trans (Option.some.inj e7).symm)
/-- one source is written on both sides -/
theorem VAL_upd {b c : Nat} {E : Nat → Nat → Prop} {M : Nat → Nat} {S0 S6 S7 A D : SS} (h : CE b c E M S0 S7) (va : VAL S0 S6 S7) {i : Nat} {v : Int32} (hv : VQ v) (e6 : f_X6_settleValues (sA S6 5 (upd (gA S6 5) i v)) S0 = some A) (e7 : f_X7_settle (sA S7 33 (upd (gA S7 33) i v)) = some D) : VAL S0 A D := by
  refine VAL_settle (CE_sA h (by decide) _) (fun j hj u => ?_) e6 e7
  rw [gA_eq, gA_eq]
  by_cases e : j = i
  · rw [e, pk_us, pk_us]
    exact ⟨rfl, hv⟩
  · rw [pk_un e, pk_un e]
    have hj : j < cN S0 := by rw [CE_cN h]; exact hj
    obtain ⟨a1, a2⟩ := va.1 j hj
    exact ⟨a1.trans (va.2.1 j hj u).symm, a2⟩
theorem v_set {b c : Nat} {E : Nat → Nat → Prop} {M : Nat → Nat} {S0 S6 S7 A D : SS} (h : CE b c E M S0 S7) (va : VAL S0 S6 S7) {p1 p2 rx rm : Int32} (ex : f_X6_set S6 S0 p1 p2 = some (rx, A)) (em : f_X7_set S7 p1 p2 = some (rm, D)) : VAL S0 A D := by
  obtain ⟨hc, hb, h0, h29, h30⟩ := h.1
  have no : f_X6_set S6 S0 p1 p2 = some (0, S6) → f_X7_set S7 p1 p2 = some (0, S7) → VAL S0 A D := fun e6 e7 => by
    rw [ex] at e6
    rw [em] at e7
    cases e6
    cases e7
    exact va
  have out : p1 < 0 ∨ nI c ≤ p1 → VAL S0 A D := fun q => no (E_B (e_isKindO h0 q 0) (E_y rfl rfl)) (E_B (e_hasO h29 q) (E_y rfl rfl))
  rcases pk_ix p1 (n := c) (by omega) with q | q | ⟨i, hi, e⟩
  · exact out (Or.inl q)
  · exact out (Or.inr q)
  · subst e
    have k6 := e_isKindI hc h0 hi 0
    have k7 := e_kind7 h hi
    by_cases k : gA S0 4 i = 0
    · rw [if_pos k] at k6
      rw [k] at k7
      by_cases z : p2 < 0
      · exact no (E_B k6 (E_n ne10 (E_y z rfl))) (E_B (e_hasI hc h29 hi) (E_n ne10 (E_B k7 (E_y rfl (E_y z rfl)))))
      · by_cases y : p2 ≤ 3
        · have e6 : f_X6_set S6 S0 (nI i) p2 = zB (f_X6_settleValues (sA S6 5 (upd (gA S6 5) i p2)) S0) (fun (s : SS) => some ((1 : Int32), s)) := E_B k6 (E_n ne10 (E_n z (E_y y (E_G (in60 (by omega)) (by rw [nI_clamp (by omega)]; rfl)))))
          have e7 : f_X7_set S7 (nI i) p2 = zB (f_X7_settle (sA S7 33 (upd (gA S7 33) i p2))) (fun (s : SS) => some ((1 : Int32), s)) := E_B (e_hasI hc h29 hi) (E_n ne10 (E_B k7 (E_y rfl (E_n z (E_y y (E_G (in60 (by omega)) (by rw [nI_clamp (by omega)]; rfl)))))))
          rw [ex] at e6
          rw [em] at e7
          obtain ⟨A', a1, a2⟩ := zB_spec e6.symm
          obtain ⟨D', d1, d2⟩ := zB_spec e7.symm
          cases a2
          cases d2
          exact VAL_upd h va (VQ_of z y) a1 d1
        · exact no (E_B k6 (E_n ne10 (E_n z (E_n y rfl)))) (E_B (e_hasI hc h29 hi) (E_n ne10 (E_B k7 (E_y rfl (E_n z (E_n y rfl))))))
    · rw [if_neg k] at k6
      exact no (E_B k6 (E_y rfl rfl)) (E_B (e_hasI hc h29 hi) (E_n ne10 (E_B k7 (E_n k rfl))))
theorem v_load {b c : Nat} {E : Nat → Nat → Prop} {M : Nat → Nat} {S0 S6 S7 A D : SS} (h : CE b c E M S0 S7) (va : VAL S0 S6 S7) {p1 p2 rx rm : Int32} (ex : f_X6_load S6 S0 p1 p2 = some (rx, A)) (em : f_X7_load S7 p1 p2 = some (rm, D)) : VAL S0 A D := by
  obtain ⟨hc, hb, h0, h29, h30⟩ := h.1
  have no : f_X6_load S6 S0 p1 p2 = some (0, S6) → f_X7_load S7 p1 p2 = some (0, S7) → VAL S0 A D := fun e6 e7 => by
    rw [ex] at e6
    rw [em] at e7
    cases e6
    cases e7
    exact va
  have out : p1 < 0 ∨ nI c ≤ p1 → VAL S0 A D := fun q => no (E_B (e_isKindO h0 q 3) (E_y rfl rfl)) (E_B (e_hasO h29 q) (E_y rfl rfl))
  rcases pk_ix p1 (n := c) (by omega) with q | q | ⟨i, hi, e⟩
  · exact out (Or.inl q)
  · exact out (Or.inr q)
  · subst e
    have k6 := e_isKindI hc h0 hi 3
    have k7 := e_kind7 h hi
    by_cases k : gA S0 4 i = 3
    · rw [if_pos k] at k6
      rw [k] at k7
      by_cases z : p2 < 0
      · exact no (E_B k6 (E_n ne10 (E_y z rfl))) (E_B (e_hasI hc h29 hi) (E_n ne10 (E_B k7 (E_y rfl (E_y z rfl)))))
      · by_cases y : p2 ≤ 2
        · have e6 : f_X6_load S6 S0 (nI i) p2 = zB (f_X6_settleValues (sA S6 5 (upd (gA S6 5) i p2)) S0) (fun (s : SS) => some ((1 : Int32), s)) := E_B k6 (E_n ne10 (E_n z (E_y y (E_G (in60 (by omega)) (by rw [nI_clamp (by omega)]; rfl)))))
          have e7 : f_X7_load S7 (nI i) p2 = zB (f_X7_settle (sA S7 33 (upd (gA S7 33) i p2))) (fun (s : SS) => some ((1 : Int32), s)) := E_B (e_hasI hc h29 hi) (E_n ne10 (E_B k7 (E_y rfl (E_n z (E_y y (E_G (in60 (by omega)) (by rw [nI_clamp (by omega)]; rfl)))))))
          rw [ex] at e6
          rw [em] at e7
          obtain ⟨A', a1, a2⟩ := zB_spec e6.symm
          obtain ⟨D', d1, d2⟩ := zB_spec e7.symm
          cases a2
          cases d2
          have y3 : p2 ≤ 3 := by
            rw [ti_le] at y ⊢
            have t2 : (2 : Int32).toInt = 2 := by decide
            have t3 : (3 : Int32).toInt = 3 := by decide
            omega
          exact VAL_upd h va (VQ_of z y3) a1 d1
        · exact no (E_B k6 (E_n ne10 (E_n z (E_n y rfl)))) (E_B (e_hasI hc h29 hi) (E_n ne10 (E_B k7 (E_y rfl (E_n z (E_n y rfl))))))
    · rw [if_neg k] at k6
      exact no (E_B k6 (E_y rfl rfl)) (E_B (e_hasI hc h29 hi) (E_n ne10 (E_B k7 (E_n k rfl))))
/-! a TICK -/
noncomputable def atv (S0 : SS) (f : Nat → Int32) (i : Nat) : Int32 := if (if 1 < sz S0 i then f (pn S0 i 1) else 1) = 1 then tk (f (pn S0 i 0)) else if (if 1 < sz S0 i then f (pn S0 i 1) else 1) = 0 then f i else if tk (f (pn S0 i 0)) = f i then f i else 2
theorem CE_reg {b c : Nat} {E : Nat → Nat → Prop} {M : Nat → Nat} {S0 Y : SS} (h : CE b c E M S0 Y) {i : Nat} (hi : i < c) (k3 : gA S0 4 i = 3) : 1 ≤ sz S0 i ∧ sz S0 i ≤ 2 ∧ HN M S0 i = sz S0 i := by
  obtain ⟨_, _, _, kr, _⟩ := h.2.1 i hi
  have := kr k3
  rw [← CE_sz h hi] at this
  have hn := HN_sz h hi
  rw [if_neg (by rw [k3]; decide)] at hn
  exact ⟨this.1, this.2, hn⟩
theorem e_after {b c : Nat} {E : Nat → Nat → Prop} {M : Nat → Nat} {S0 Y : SS} (h : CE b c E M S0 Y) {i : Nat} (hi : i < c) (k3 : gA S0 4 i = 3) (f : Nat → Int32) : f_X2_afterTick S0 f (nI i) = some (atv S0 f i) := by
  have hc := h.1.1
  obtain ⟨s1, s2, hn⟩ := CE_reg h hi k3
  obtain ⟨_, _, es⟩ := CE_szM h hi
  obtain ⟨a0, b0, _⟩ := CE_pn h hi (j := 0) (by omega)
  refine E_G (in60 (by omega)) ?_
  show zB (f_X0_part S0 (nI i) (0 : Int32)) _ = _
  refine E_B ((e_part (j := 0) (by omega) (by omega)).trans (congrArg some b0)) (E_G (in60 (by omega)) (E_B (e_takenIn _) (E_B es ?_)))
  have e : (if nI (sz S0 i) ≤ (1 : Int32) then some (1 : Int32) else zB (f_X0_part S0 (nI i) (1 : Int32)) (fun (r27 : Int32) => zG (vp_in r27 60) (some (f r27.toNatClampNeg)))) = some (if 1 < sz S0 i then f (pn S0 i 1) else 1) := by
    by_cases q : 1 < sz S0 i
    · obtain ⟨a1, b1, _⟩ := CE_pn h hi (j := 1) (by omega)
      rw [if_pos q]
      refine E_n (by rw [show (1 : Int32) = nI 1 from rfl, nI_leI (by omega) (by omega)]; omega) (E_B ((e_part (j := 1) (by omega) (by omega)).trans (congrArg some b1)) (E_G (in60 (by omega)) ?_))
      rw [nI_clamp (by omega)]
    · rw [if_neg q]
      exact E_y (by rw [show (1 : Int32) = nI 1 from rfl, nI_leI (by omega) (by omega)]; omega) rfl
  refine E_B e ?_
  rw [nI_clamp (by omega), nI_clamp (by omega)]
  unfold atv
  by_cases q1 : (if 1 < sz S0 i then f (pn S0 i 1) else 1) = 1
  · rw [if_pos q1, if_pos q1]
  rw [if_neg q1, if_neg q1]
  by_cases q2 : (if 1 < sz S0 i then f (pn S0 i 1) else 1) = 0
  · rw [if_pos q2, if_pos q2]
  rw [if_neg q2, if_neg q2]
  split <;> rfl
theorem VQ_atv {b c : Nat} {E : Nat → Nat → Prop} {M : Nat → Nat} {S0 Y : SS} (h : CE b c E M S0 Y) {i : Nat} (hi : i < c) (k3 : gA S0 4 i = 3) {f : Nat → Int32} (vf : ∀ i, i < c → VQ (f i)) : VQ (atv S0 f i) := by
  obtain ⟨s1, s2, hn⟩ := CE_reg h hi k3
  obtain ⟨a0, _, _⟩ := CE_pn h hi (j := 0) (by omega)
  unfold atv
  by_cases q1 : (if 1 < sz S0 i then f (pn S0 i 1) else 1) = 1
  · rw [if_pos q1]
    exact VQ_tk (vf _ a0)
  rw [if_neg q1]
  by_cases q2 : (if 1 < sz S0 i then f (pn S0 i 1) else 1) = 0
  · rw [if_pos q2]
    exact vf i hi
  rw [if_neg q2]
  split
  · exact vf i hi
  · exact Or.inr (Or.inr (Or.inl rfl))
noncomputable def tkv (S0 : SS) (f : Nat → Int32) (i : Nat) : Int32 := if gA S0 4 i = 3 then atv S0 f i else f i
/-- how many REGISTERS change -/
noncomputable def tkn (S0 : SS) (f : Nat → Int32) (n : Nat) : Nat := cn (fun i => tkv S0 f i ≠ f i) n
theorem p_tick6 {b c : Nat} {E : Nat → Nat → Prop} {M : Nat → Nat} {S0 Y : SS} (h : CE b c E M S0 Y) (S6 : SS) {rx : Int32} {A : SS} (ex : f_X6_tick S6 S0 = some (rx, A)) : rx = nI (tkn S0 (gA S6 5) c) ∧ ∃ B, f_X6_settleValues B S0 = some A ∧ ∀ i, i < c → gA B 5 i = tkv S0 (gA S6 5) i := by
  obtain ⟨hc, hb, h0, _⟩ := h.1
  obtain ⟨T, e1, ex⟩ := zB_spec ex
  obtain ⟨⟨n, U⟩, e2, ex⟩ := zB_spec ex
  obtain ⟨V, e3, ex⟩ := zB_spec ex
  have ee := Prod.mk.inj (Option.some.inj ex)
  rw [← ee.1, ← ee.2]
  have h1 : gA T 5 = gA S6 5 ∧ ∀ i, i < c → gA T 6 i = tkv S0 (gA S6 5) i := by
    refine Pc_I (fun v : Int32 × SS => ∃ k, v.1 = nI k ∧ k ≤ c ∧ gA v.2 5 = gA S6 5 ∧ ∀ i, i < k → gA v.2 6 i = tkv S0 (gA S6 5) i) (Q := fun T => gA T 5 = gA S6 5 ∧ ∀ i, i < c → gA T 6 i = tkv S0 (gA S6 5) i) (fun v hv => ?_) _ ⟨0, rfl, Nat.zero_le _, rfl, fun i q => absurd q (Nat.not_lt_zero _)⟩ T e1
    obtain ⟨v, T⟩ := v
    obtain ⟨k, ev, hk, t5, h1⟩ : ∃ k, v = nI k ∧ k ≤ c ∧ gA T 5 = gA S6 5 ∧ ∀ i, i < k → gA T 6 i = tkv S0 (gA S6 5) i := hv
    subst ev
    refine Pc_c (fun q => Pc_s ⟨t5, fun i hi => h1 i ?_⟩) (fun q => Pc_G (fun _ => ?_))
    · rw [h0, nI_leI (by omega) (by omega)] at q
      omega
    · rw [h0, nI_leI (by omega) (by omega)] at q
      refine Pc_B (P := fun r => r = tkv S0 (gA S6 5) k) ?_ (fun r hr => Pc_l (Pc_l (Pc_s ⟨k + 1, nI_1 k, by omega, ?_, fun i hi => ?_⟩)))
      · unfold tkv
        rw [nI_clamp (by omega), t5]
        refine Pc_c (fun z => Pc_e (e_after h (by omega) z _) (Pc_s ?_)) (fun z => Pc_s ?_)
        · rw [if_pos z]
        · rw [if_neg z]
      · show gA (sA T 6 _) 5 = _
        rw [gA_ne (by decide)]
        exact t5
      · show gA (sA T 6 _) 6 i = _
        rw [gA_eq, nI_clamp (by omega)]
        by_cases e : i = k
        · rw [e, pk_us]
          exact hr
        · rw [pk_un e]
          exact h1 i (by omega)
  obtain ⟨t5, t6⟩ := h1
  have h2 : n = nI (tkn S0 (gA S6 5) c) ∧ ∀ i, i < c → gA U 5 i = tkv S0 (gA S6 5) i := by
    refine Pc_I (fun v : Int32 × Int32 × SS => ∃ k, v.2.1 = nI k ∧ k ≤ c ∧ v.1 = nI (tkn S0 (gA S6 5) k) ∧ gA v.2.2 6 = gA T 6 ∧ (∀ i, k ≤ i → gA v.2.2 5 i = gA S6 5 i) ∧ ∀ i, i < k → gA v.2.2 5 i = tkv S0 (gA S6 5) i) (Q := fun w : Int32 × SS => w.1 = nI (tkn S0 (gA S6 5) c) ∧ ∀ i, i < c → gA w.2 5 i = tkv S0 (gA S6 5) i) (fun v hv => ?_) _ ⟨0, rfl, Nat.zero_le _, rfl, rfl, fun i _ => by rw [t5], fun i q => absurd q (Nat.not_lt_zero _)⟩ (n, U) e2
    obtain ⟨w, v, T'⟩ := v
    obtain ⟨k, ev, hk, ew, u6, u5, h1⟩ : ∃ k, v = nI k ∧ k ≤ c ∧ w = nI (tkn S0 (gA S6 5) k) ∧ gA T' 6 = gA T 6 ∧ (∀ i, k ≤ i → gA T' 5 i = gA S6 5 i) ∧ ∀ i, i < k → gA T' 5 i = tkv S0 (gA S6 5) i := hv
    subst ev
    subst ew
    refine Pc_c (fun q => Pc_s ?_) (fun q => Pc_G (fun _ => ?_))
    · rw [h0, nI_leI (by omega) (by omega)] at q
      have : k = c := by omega
      rw [this] at h1 ⊢
      exact ⟨rfl, h1⟩
    · rw [h0, nI_leI (by omega) (by omega)] at q
      have v6 : gA T' 6 k = tkv S0 (gA S6 5) k := by rw [u6]; exact t6 k (by omega)
      have v5 : gA T' 5 k = gA S6 5 k := u5 k (Nat.le_refl _)
      rw [nI_clamp (by omega), v6, v5]
      refine Pc_c (fun z => Pc_l (Pc_s ⟨k + 1, nI_1 k, by omega, ?_, u6, fun i hi => u5 i (by omega), fun i hi => ?_⟩)) (fun z => Pc_l (Pc_l (Pc_l (Pc_s ⟨k + 1, nI_1 k, by omega, ?_, ?_, fun i hi => ?_, fun i hi => ?_⟩))))
      · unfold tkn
        rw [cn_n (P := fun i => tkv S0 (gA S6 5) i ≠ gA S6 5 i) (fun u => u z)]
      · by_cases e : i = k
        · rw [e]
          show gA T' 5 k = _
          rw [v5, z]
        · exact h1 i (by omega)
      · unfold tkn
        rw [cn_y (P := fun i => tkv S0 (gA S6 5) i ≠ gA S6 5 i) z]
        exact nI_1 _
      · show gA (sA T' 5 _) 6 = _
        rw [gA_ne (by decide)]
        exact u6
      · show gA (sA T' 5 _) 5 i = _
        rw [gA_eq, pk_un (by omega)]
        exact u5 i (by omega)
      · show gA (sA T' 5 _) 5 i = _
        rw [gA_eq]
        by_cases e : i = k
        · rw [e, pk_us]
        · rw [pk_un e]
          exact h1 i (by omega)
  exact ⟨h2.1, U, e3, h2.2⟩
theorem p_tick7 {b c : Nat} {E : Nat → Nat → Prop} {M : Nat → Nat} {S0 S7 : SS} (h : CE b c E M S0 S7) {f : Nat → Int32} (hf : ∀ i, i < c → gA S7 34 i = f i) {rm : Int32} {D : SS} (em : f_X7_tick S7 = some (rm, D)) : rm = nI (tkn S0 f c) ∧ ∃ H g, f_X7_settle H = some D ∧ H = sA S7 33 g ∧ ∀ i, i < c → g i = (if gA S0 4 i = 3 then atv S0 f i else gA S7 33 i) := by
  obtain ⟨hc, hb, h0, h29, h30⟩ := h.1
  obtain ⟨⟨n, U⟩, e1, em⟩ := zB_spec em
  obtain ⟨V, e2, em⟩ := zB_spec em
  have ee := Prod.mk.inj (Option.some.inj em)
  rw [← ee.1, ← ee.2]
  have h1 : n = nI (tkn S0 f c) ∧ ∃ g, U = sA S7 33 g ∧ ∀ i, i < c → g i = (if gA S0 4 i = 3 then atv S0 f i else gA S7 33 i) := by
    refine Pc_I (fun v : Int32 × Int32 × SS => ∃ k g, v.2.1 = nI k ∧ k ≤ c ∧ v.1 = nI (tkn S0 f k) ∧ v.2.2 = sA S7 33 g ∧ (∀ i, i < k → g i = (if gA S0 4 i = 3 then atv S0 f i else gA S7 33 i)) ∧ ∀ i, k ≤ i → g i = gA S7 33 i) (Q := fun w : Int32 × SS => w.1 = nI (tkn S0 f c) ∧ ∃ g, w.2 = sA S7 33 g ∧ ∀ i, i < c → g i = (if gA S0 4 i = 3 then atv S0 f i else gA S7 33 i)) (fun v hv => ?_) _ ⟨0, gA S7 33, rfl, Nat.zero_le _, rfl, sA_self.symm, fun i q => absurd q (Nat.not_lt_zero _), fun _ _ => rfl⟩ (n, U) e1
    obtain ⟨w, v, T⟩ := v
    obtain ⟨k, g, ev, hk, ew, eT, h1, h2⟩ : ∃ k g, v = nI k ∧ k ≤ c ∧ w = nI (tkn S0 f k) ∧ T = sA S7 33 g ∧ (∀ i, i < k → g i = (if gA S0 4 i = 3 then atv S0 f i else gA S7 33 i)) ∧ ∀ i, k ≤ i → g i = gA S7 33 i := hv
    subst ev
    subst ew
    have hT : CE b c E M S0 T := by rw [eT]; exact CE_sA h (by decide) g
    obtain ⟨_, _, _, t29, t30⟩ := hT.1
    have t34 : gA T 34 = gA S7 34 := by rw [eT, gA_ne (by decide)]
    refine Pc_c (fun q => Pc_s ?_) (fun q => ?_)
    · rw [t29, nI_leI (by omega) (by omega)] at q
      have : k = c := by omega
      rw [this] at h1 ⊢
      exact ⟨rfl, g, eT, h1⟩
    · rw [t29, nI_leI (by omega) (by omega)] at q
      have kc : k < c := by omega
      refine Pc_e (e_kind7 hT kc) (Pc_c (fun k3 => ?_) (fun k3 => Pc_l (Pc_s ⟨k + 1, g, nI_1 k, by omega, ?_, eT, fun i hi => ?_, fun i hi => h2 i (by omega)⟩)))
      · obtain ⟨s1, s2, hn⟩ := CE_reg hT kc k3
        obtain ⟨_, e14, _⟩ := CE_szM hT kc
        obtain ⟨a0, _, b0⟩ := CE_pn hT kc (j := 0) (by omega)
        refine Pc_e ((e_in (j := 0) t30 hb (by omega) (by omega)).trans (congrArg some b0)) (Pc_G (fun _ => Pc_e (e_taken7 _) (Pc_G (fun _ => ?_))))
        rw [nI_clamp (by omega), t30, i60 hb, nI_clamp (by omega), e14, t34, hf _ a0]
        refine Pc_B (P := fun e => (e = 1 ↔ (if 1 < sz S0 k then f (pn S0 k 1) else 1) = 1) ∧ (e = 0 ↔ (if 1 < sz S0 k then f (pn S0 k 1) else 1) = 0)) ?_ (fun e he => ?_)
        · by_cases z : 1 < sz S0 k
          · obtain ⟨a1, _, b1⟩ := CE_pn hT kc (j := 1) (by omega)
            rw [if_pos z]
            refine Pc_c (fun y => absurd y ?_) (fun _ => Pc_e ((e_in (j := 1) t30 hb (by omega) (by omega)).trans (congrArg some b1)) (Pc_G (fun _ => Pc_e (e_taken7 _) (Pc_s ?_))))
            · rw [show (1 : Int32) = nI 1 from rfl, nI_eq (by omega) (by omega)]
              omega
            · rw [nI_clamp (by omega), hf _ a1]
              exact ⟨tk_1, tk_0⟩
          · rw [if_neg z]
            refine Pc_c (fun _ => Pc_s ⟨Iff.rfl, Iff.rfl⟩) (fun y => absurd ?_ y)
            rw [show (1 : Int32) = nI 1 from rfl, nI_eq (by omega) (by omega)]
            omega
        · rw [nI_clamp (by omega), hf k kc]
          refine Pc_B (P := fun r => r = atv S0 f k) ?_ (fun r hr => Pc_G (fun _ => ?_))
          · unfold atv
            refine Pc_i he.1 (fun u => Pc_s (by rw [if_pos u])) (fun u => Pc_i he.2 (fun y => Pc_G (fun _ => Pc_s (by rw [if_neg u, if_pos y]))) (fun y => Pc_G (fun _ => Pc_c (fun x => Pc_s (by rw [if_neg u, if_neg y, if_pos x])) (fun x => Pc_s (by rw [if_neg u, if_neg y, if_neg x])))))
          · rw [hr]
            have et : tkv S0 f k = atv S0 f k := if_pos k3
            refine Pc_B (P := fun d => nI (tkn S0 f k) + d = nI (tkn S0 f (k + 1))) (Pc_c (fun y => Pc_s ?_) (fun y => Pc_s ?_)) (fun d hd => Pc_l (Pc_l (Pc_l (Pc_s ⟨k + 1, upd g k (atv S0 f k), nI_1 k, by omega, hd, ?_, fun i hi => ?_, fun i hi => ?_⟩))))
            · unfold tkn
              rw [cn_n (P := fun i => tkv S0 f i ≠ f i) (fun u => u (by rw [et]; exact y))]
              exact nI_add _ 0
            · unfold tkn
              rw [cn_y (P := fun i => tkv S0 f i ≠ f i) (fun u => y (by rw [← et]; exact u))]
              exact nI_1 _
            · show sA T 33 _ = _
              rw [eT, gA_eq, sA_sA]
            · by_cases e : i = k
              · rw [e, pk_us, if_pos k3]
              · rw [pk_un e]
                exact h1 i (by omega)
            · rw [pk_un (by omega)]
              exact h2 i (by omega)
      · unfold tkn
        rw [cn_n (P := fun i => tkv S0 f i ≠ f i) (fun u => u (if_neg k3))]
      · by_cases e : i = k
        · rw [e, if_neg k3]
          exact h2 k (Nat.le_refl _)
        · exact h1 i (by omega)
  obtain ⟨a1, g, a2, a3⟩ := h1
  exact ⟨a1, U, g, e2, a2, a3⟩
theorem v_tick {b c : Nat} {E : Nat → Nat → Prop} {M : Nat → Nat} {S0 S6 S7 A D : SS} (h : CE b c E M S0 S7) (va : VAL S0 S6 S7) {rx rm : Int32} (ex : f_X6_tick S6 S0 = some (rx, A)) (em : f_X7_tick S7 = some (rm, D)) : rx = rm ∧ VAL S0 A D := by
  have ec := CE_cN h
  have hf : ∀ i, i < c → gA S7 34 i = gA S6 5 i := fun i hi => ((va.1 i (by rw [ec]; exact hi)).1).symm
  obtain ⟨x1, B, x2, x3⟩ := p_tick6 h S6 ex
  obtain ⟨m1, H, g, m2, m3, m4⟩ := p_tick7 h hf em
  refine ⟨x1.trans m1.symm, VAL_settle (B := B) (H := H) (by rw [m3]; exact CE_sA h (by decide) g) (fun i hi u => ?_) x2 m2⟩
  have h33 : gA H 33 = g := by rw [m3, gA_eq]
  rw [h33, x3 i hi, m4 i hi]
  unfold tkv
  by_cases k3 : gA S0 4 i = 3
  · rw [if_pos k3, if_pos k3]
    exact ⟨rfl, VQ_atv h hi k3 (fun j hj => (va.1 j (by rw [ec]; exact hj)).2)⟩
  · rw [if_neg k3, if_neg k3]
    obtain ⟨a1, a2⟩ := va.1 i (by rw [ec]; exact hi)
    exact ⟨a1.trans (va.2.1 i (by rw [ec]; exact hi) u).symm, a2⟩
