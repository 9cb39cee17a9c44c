/-! both tapes hold the same bytes -/
theorem s_l8 : ∀ n, n < 32 → ((nI n &&& 31).toBitVec.smod 32).toNat = n := by decide +kernel
theorem s_u8 : ∀ n, n < 32 → (((nI n).toUInt32 &&& Int32.toUInt32 31).toBitVec % 32).toNat = n := by decide +kernel
theorem bI_ushr (n : Nat) (hn : n < 32) (x : Int32) (i : Nat) : bI (jIu x (nI n)) i = bI x (n + i) := by
  show (x.toUInt32 >>> ((nI n).toUInt32 &&& Int32.toUInt32 31)).toBitVec.getLsbD i = x.toUInt32.toBitVec.getLsbD (n + i)
  rw [UInt32.toBitVec_shiftRight]
  show (x.toUInt32.toBitVec >>> (((nI n).toUInt32 &&& Int32.toUInt32 31).toBitVec % 32).toNat).getLsbD i = _
  rw [s_u8 n hn, BitVec.getLsbD_ushiftRight]
theorem bI_sshr (n : Nat) (hn : n < 32) (x : Int32) {i : Nat} (hi : n + i < 32) : bI (x >>> (nI n &&& 31)) i = bI x (n + i) := by
  unfold bI
  rw [Int32.toBitVec_shiftRight]
  show (x.toBitVec.sshiftRight ((nI n &&& 31).toBitVec.smod 32).toNat).getLsbD i = _
  rw [s_l8 n hn, BitVec.getLsbD_sshiftRight]
  simp [hi, show i < 32 by omega]
theorem jB_ext {x y : Int32} (h : ∀ i, i < 8 → bI x i = bI y i) : jB x = jB y := by
  have e : x.toInt8 = y.toInt8 := by
    apply Int8.toBitVec_inj.mp
    apply BitVec.eq_of_getLsbD_eq
    intro i hi
    have q := h i hi
    unfold bI at q
    show (x.toBitVec.signExtend 8).getLsbD i = (y.toBitVec.signExtend 8).getLsbD i
    rw [BitVec.getLsbD_signExtend, BitVec.getLsbD_signExtend, if_pos (by omega), if_pos (by omega), q]
  unfold jB
  rw [e]
theorem jB_sh {n : Nat} (hn : n ≤ 24) (x : Int32) : jB (jIu x (nI n)) = jB (x >>> (nI n &&& 31)) := jB_ext (fun i hi => by rw [bI_ushr n (by omega), bI_sshr n (by omega) x (by omega)])
theorem jB_r (x : Int32) : IV (-128) 127 (jB x) := by
  unfold jB IV
  rw [Int8.toInt_toInt32]
  have h1 := Int8.le_toInt x.toInt8
  have h2 := Int8.toInt_lt x.toInt8
  exact ⟨by omega, by omega⟩
theorem v24 : ∀ q : Fin 4, (¬ Int32.ofInt (24 - 8 * (q.val : Int)) < 0) ∧ Int32.ofInt (24 - 8 * (q.val : Int)) = nI (24 - 8 * q.val) ∧ Int32.ofInt (24 - 8 * (q.val : Int)) + Int32.ofInt (-8) = Int32.ofInt (24 - 8 * ((q.val + 1 : Nat) : Int)) := by decide
theorem p_addToTape {S : SS} {l : Nat} (h : gI S 1 = nI l) (hl : l + 4 ≤ 2000) (p : Int32) : Pc (f_X6_addToTape S p) (fun T => gI T 1 = nI (l + 4) ∧ (∀ k, k ≠ 1 → gI T k = gI S k) ∧ (∀ k, k ≠ 0 → gA T k = gA S k) ∧ (∀ j, j < l → gA T 0 j = gA S 0 j) ∧ ∀ q, q < 4 → gA T 0 (l + q) = jB (jIu p (nI (24 - 8 * q)))) := by
  refine Pc_I (fun v : Int32 × SS => ∃ c : Nat, c ≤ 4 ∧ v.1 = Int32.ofInt (24 - 8 * (c : Int)) ∧ gI v.2 1 = nI (l + c) ∧ (∀ k, k ≠ 1 → gI v.2 k = gI S k) ∧ (∀ k, k ≠ 0 → gA v.2 k = gA S k) ∧ (∀ j, j < l → gA v.2 0 j = gA S 0 j) ∧ ∀ q, q < c → gA v.2 0 (l + q) = jB (jIu p (nI (24 - 8 * q)))) (fun v hv => ?_) _ ⟨0, by omega, (show (24 : Int32) = Int32.ofInt (24 - 8 * ((0 : Nat) : Int)) by decide), h, fun _ _ => rfl, fun _ _ => rfl, fun _ _ => rfl, fun q hq => absurd hq (Nat.not_lt_zero _)⟩
  obtain ⟨v, T⟩ := v
  obtain ⟨c, hc, ev, t1, tI, tA, t0, tq⟩ : ∃ c : Nat, c ≤ 4 ∧ v = Int32.ofInt (24 - 8 * (c : Int)) ∧ gI T 1 = nI (l + c) ∧ (∀ k, k ≠ 1 → gI T k = gI S k) ∧ (∀ k, k ≠ 0 → gA T k = gA S k) ∧ (∀ j, j < l → gA T 0 j = gA S 0 j) ∧ ∀ q, q < c → gA T 0 (l + q) = jB (jIu p (nI (24 - 8 * q))) := hv
  rcases Nat.lt_or_ge c 4 with c4 | c4
  · obtain ⟨w1, w2, w3⟩ := v24 ⟨c, c4⟩
    have w1 : ¬ Int32.ofInt (24 - 8 * (c : Int)) < 0 := w1
    have w2 : Int32.ofInt (24 - 8 * (c : Int)) = nI (24 - 8 * c) := w2
    have w3 : Int32.ofInt (24 - 8 * (c : Int)) + Int32.ofInt (-8) = Int32.ofInt (24 - 8 * ((c + 1 : Nat) : Int)) := w3
    have cl : (gI T 1).toNatClampNeg = l + c := by rw [t1, nI_clamp (by omega)]
    refine Pc_c (fun z => absurd z (by rw [ev]; exact w1)) (fun _ => Pc_c (fun z => absurd z ?_) (fun _ => Pc_G (fun _ => Pc_l (Pc_l (Pc_l (Pc_s ⟨c + 1, by omega, ?_, ?_, fun k hk => ?_, fun k hk => ?_, fun j hj => ?_, fun q hq => ?_⟩))))))
    · rw [t1, show (2000 : Int32) = nI 2000 from rfl, nI_leI (by omega) (by omega)]
      omega
    · show v + Int32.ofInt (-8) = _
      rw [ev, w3]
    · rw [gI_eq, gI_sA, t1, nI_1]
      rfl
    · rw [gI_ne hk, gI_sA]; exact tI k hk
    · rw [gA_sI, gA_ne hk]; exact tA k hk
    · rw [gA_sI, gA_eq, cl, pk_un (by omega)]; exact t0 j hj
    · rw [gA_sI, gA_eq, cl]
      by_cases e : q = c
      · rw [e, pk_us]
        show vp_nar .byte (jB (jIu p v)) = _
        rw [show vp_nar .byte (jB (jIu p v)) = jB (jIu p v) from pk_vb _, ev, w2]
      · rw [pk_un (by omega)]
        exact tq q (by omega)
  · have e4 : c = 4 := by omega
    rw [e4] at ev t1 tq
    refine Pc_c (fun _ => Pc_s ⟨t1, tI, tA, t0, tq⟩) (fun z => absurd (by rw [ev]; decide) z)
def p5 (p1 p2 p3 p4 p5 : Int32) (q : Nat) : Int32 := if q < 4 then p1 else if q < 8 then p2 else if q < 12 then p3 else if q < 16 then p4 else p5
/-- the class's feed -/
theorem p_feed6 {S : SS} {l : Nat} (h : gI S 1 = nI l) (hl : l ≤ 2000) (a b c d e : Int32) : Pc (f_X6_feed S a b c d e) (fun w => (2000 < l + 20 ∧ w = (-1, S)) ∨ (l + 20 ≤ 2000 ∧ w.1 = nI (l + 20) ∧ gI w.2 1 = nI (l + 20) ∧ (∀ k, k ≠ 1 → gI w.2 k = gI S k) ∧ (∀ k, k ≠ 0 → gA w.2 k = gA S k) ∧ (∀ j, j < l → gA w.2 0 j = gA S 0 j) ∧ ∀ q, q < 20 → gA w.2 0 (l + q) = jB (p5 a b c d e q >>> (nI (24 - 8 * (q % 4)) &&& 31)))) := by
  refine Pc_c (fun z => ?_) (fun z => Pc_s (Or.inl ⟨?_, rfl⟩))
  · rw [h, show (20 : Int32) = nI 20 from rfl, nI_add, show (2000 : Int32) = nI 2000 from rfl, nI_leI (by omega) (by omega)] at z
    refine Pc_B (p_addToTape h (by omega) a) (fun A hA => ?_)
    obtain ⟨A1, AI, AA, A0, Aq⟩ := hA
    refine Pc_B (p_addToTape A1 (by omega) b) (fun B hB => ?_)
    obtain ⟨B1, BI, BA, B0, Bq⟩ := hB
    refine Pc_B (p_addToTape B1 (by omega) c) (fun D hD => ?_)
    obtain ⟨D1, DI, DA, D0, Dq⟩ := hD
    refine Pc_B (p_addToTape D1 (by omega) d) (fun E hE => ?_)
    obtain ⟨E1, EI, EA, E0, Eq⟩ := hE
    refine Pc_B (p_addToTape E1 (by omega) e) (fun F hF => Pc_s (Or.inr ⟨z, ?_⟩))
    obtain ⟨F1, FI, FA, F0, Fq⟩ := hF
    refine ⟨F1, F1, fun k hk => by rw [FI k hk, EI k hk, DI k hk, BI k hk, AI k hk], fun k hk => by rw [FA k hk, EA k hk, DA k hk, BA k hk, AA k hk], fun j hj => by rw [F0 j (by omega), E0 j (by omega), D0 j (by omega), B0 j (by omega), A0 j (by omega)], fun q hq => ?_⟩
    show gA F 0 (l + q) = _
    unfold p5
    by_cases q1 : q < 4
    · rw [if_pos q1, F0 _ (by omega), E0 _ (by omega), D0 _ (by omega), B0 _ (by omega), Aq q q1, jB_sh (by omega), show q % 4 = q by omega]
    by_cases q2 : q < 8
    · rw [if_neg q1, if_pos q2, F0 _ (by omega), E0 _ (by omega), D0 _ (by omega), show l + q = l + 4 + (q - 4) by omega, Bq (q - 4) (by omega), jB_sh (by omega), show q % 4 = q - 4 by omega]
    by_cases q3 : q < 12
    · rw [if_neg q1, if_neg q2, if_pos q3, F0 _ (by omega), E0 _ (by omega), show l + q = l + 4 + 4 + (q - 8) by omega, Dq (q - 8) (by omega), jB_sh (by omega), show q % 4 = q - 8 by omega]
    by_cases q4 : q < 16
    · rw [if_neg q1, if_neg q2, if_neg q3, if_pos q4, F0 _ (by omega), show l + q = l + 4 + 4 + 4 + (q - 12) by omega, Eq (q - 12) (by omega), jB_sh (by omega), show q % 4 = q - 12 by omega]
    · rw [if_neg q1, if_neg q2, if_neg q3, if_neg q4, show l + q = l + 4 + 4 + 4 + 4 + (q - 16) by omega, Fq (q - 16) (by omega), jB_sh (by omega), show q % 4 = q - 16 by omega]
  · rw [h, show (20 : Int32) = nI 20 from rfl, nI_add, show (2000 : Int32) = nI 2000 from rfl, nI_leI (by omega) (by omega)] at z
    omega
/-- the reference's feed -/
theorem p_feed7 {S : SS} {l : Nat} (h : gI S 2 = nI l) (hl : l ≤ 2000) (a b c d e : Int32) : Pc (f_X7_feed S a b c d e) (fun w => (2000 < l + 20 ∧ w = (-1, S)) ∨ (l + 20 ≤ 2000 ∧ w.1 = nI (l + 20) ∧ gI w.2 2 = nI (l + 20) ∧ (∀ k, k ≠ 2 → gI w.2 k = gI S k) ∧ (∀ k, k ≠ 0 → gA w.2 k = gA S k) ∧ (∀ k, gB w.2 k = gB S k) ∧ (∀ j, j < l → gA w.2 0 j = gA S 0 j) ∧ ∀ q, q < 20 → gA w.2 0 (l + q) = jB (p5 a b c d e q >>> (nI (24 - 8 * (q % 4)) &&& 31)))) := by
  refine Pc_c (fun z => ?_) (fun z => Pc_s (Or.inl ⟨?_, rfl⟩))
  · rw [h, show (20 : Int32) = nI 20 from rfl, nI_add, show (2000 : Int32) = nI 2000 from rfl, nI_leI (by omega) (by omega)] at z
    refine Pc_B (P := fun T => (∀ k, gI T k = gI S k) ∧ (∀ k, k ≠ 0 → gA T k = gA S k) ∧ (∀ k, gB T k = gB S k) ∧ (∀ j, j < l → gA T 0 j = gA S 0 j) ∧ ∀ q, q < 20 → gA T 0 (l + q) = jB (p5 a b c d e q >>> (nI (24 - 8 * (q % 4)) &&& 31))) ?_ (fun T hT => ?_)
    · refine Pc_I (fun v : Int32 × SS => ∃ n, v.1 = nI n ∧ n ≤ 20 ∧ (∀ k, gI v.2 k = gI S k) ∧ (∀ k, k ≠ 0 → gA v.2 k = gA S k) ∧ (∀ k, gB v.2 k = gB S k) ∧ (∀ j, j < l → gA v.2 0 j = gA S 0 j) ∧ ∀ q, q < n → gA v.2 0 (l + q) = jB (p5 a b c d e q >>> (nI (24 - 8 * (q % 4)) &&& 31))) (fun v hv => ?_) _ ⟨0, rfl, by omega, fun _ => rfl, fun _ _ => rfl, fun _ => rfl, fun _ _ => rfl, fun q hq => absurd hq (Nat.not_lt_zero _)⟩
      obtain ⟨v, T⟩ := v
      obtain ⟨n, ev, hn, tI, tA, tB, t0, tq⟩ : ∃ n, v = nI n ∧ n ≤ 20 ∧ (∀ k, gI T k = gI S k) ∧ (∀ k, k ≠ 0 → gA T k = gA S k) ∧ (∀ k, gB T k = gB S k) ∧ (∀ j, j < l → gA T 0 j = gA S 0 j) ∧ ∀ q, q < n → gA T 0 (l + q) = jB (p5 a b c d e q >>> (nI (24 - 8 * (q % 4)) &&& 31)) := hv
      subst ev
      have le : ∀ m : Nat, m ≤ 20 → (nI m ≤ nI n ↔ m ≤ n) := fun m hm => nI_leI (by omega) (by omega)
      have l20 := le 20 (by omega)
      have l4 := le 4 (by omega)
      have l8 := le 8 (by omega)
      have l12 := le 12 (by omega)
      have l16 := le 16 (by omega)
      refine Pc_i (c := (20 : Int32) ≤ nI n) l20 (fun q => Pc_s ⟨tI, tA, tB, t0, fun j hj => tq j (by omega)⟩) (fun q => Pc_B (P := fun w => w = p5 a b c d e n) ?_ (fun w hw => Pc_G (fun _ => Pc_l (Pc_l (Pc_s ⟨n + 1, nI_1 n, by omega, tI, fun k hk => ?_, tB, fun j hj => ?_, fun j hj => ?_⟩)))))
      · unfold p5
        refine Pc_i (c := (4 : Int32) ≤ nI n) l4 (fun y1 => Pc_i (c := (8 : Int32) ≤ nI n) l8 (fun y2 => Pc_i (c := (12 : Int32) ≤ nI n) l12 (fun y3 => Pc_i (c := (16 : Int32) ≤ nI n) l16 (fun y4 => Pc_s ?_) (fun y4 => Pc_s ?_)) (fun y3 => Pc_s ?_)) (fun y2 => Pc_s ?_)) (fun y1 => Pc_s ?_)
        · rw [if_neg (by omega), if_neg (by omega), if_neg (by omega), if_neg (by omega)]
        · rw [if_neg (by omega), if_neg (by omega), if_neg (by omega), if_pos (by omega)]
        · rw [if_neg (by omega), if_neg (by omega), if_pos (by omega)]
        · rw [if_neg (by omega), if_pos (by omega)]
        · rw [if_pos (by omega)]
      · rw [gA_ne hk]; exact tA k hk
      · rw [gA_eq, tI, h, nI_add, nI_clamp (by omega), pk_un (by omega)]; exact t0 j hj
      · rw [gA_eq, tI, h, nI_add, nI_clamp (by omega)]
        by_cases ej : j = n
        · rw [ej, pk_us, hw]
          show vp_nar .byte (jB (p5 a b c d e n >>> (((24 : Int32) - ((8 : Int32) * (nI n &&& (3 : Int32)))) &&& 31))) = _
          rw [show vp_nar .byte (jB (p5 a b c d e n >>> (((24 : Int32) - ((8 : Int32) * (nI n &&& (3 : Int32)))) &&& 31))) = jB (p5 a b c d e n >>> (((24 : Int32) - ((8 : Int32) * (nI n &&& (3 : Int32)))) &&& 31)) from pk_vb _]
          rw [pk_andN (n := n) (by omega) (m := 3) 2 (by decide), show (8 : Int32) = nI 8 from rfl, pk_mul, show (24 : Int32) = nI 24 from rfl, pk_sub (by omega)]
        · rw [pk_un (by omega)]
          exact tq j (by omega)
    · obtain ⟨tI, tA, tB, t0, tq⟩ := hT
      refine Pc_l (Pc_s (Or.inr ⟨z, ?_, ?_, fun k hk => ?_, tA, tB, t0, tq⟩))
      · show gI (sI T 2 (gI T 2 + 20)) 2 = _
        rw [gI_eq, tI, h, show (20 : Int32) = nI 20 from rfl, nI_add]
      · show gI (sI T 2 (gI T 2 + 20)) 2 = _
        rw [gI_eq, tI, h, show (20 : Int32) = nI 20 from rfl, nI_add]
      · show gI (sI T 2 (gI T 2 + 20)) k = _
        rw [gI_ne hk]; exact tI k
  · rw [h, show (20 : Int32) = nI 20 from rfl, nI_add, show (2000 : Int32) = nI 2000 from rfl, nI_leI (by omega) (by omega)] at z
    omega
