/-! the end of read -/
def KR (S T : SS) : Prop := (∀ k, k ≤ 30 → gI T k = gI S k) ∧ (∀ k, k ≤ 31 → gA T k = gA S k) ∧ (∀ k, gB T k = gB S k) ∧ gI T 46 = gI S 46
theorem KR_I {S T : SS} {k : Nat} {v : Int32} (hk : 30 < k ∧ k ≠ 46) (h : KR S T) : KR S (sI T k v) := by
  refine ⟨fun j q => ?_, h.2.1, h.2.2.1, ?_⟩
  · rw [gI_ne (by omega)]; exact h.1 j q
  · rw [gI_ne (by omega)]; exact h.2.2.2
theorem KR_A {S T : SS} {k : Nat} {v : Nat → Int32} (hk : 31 < k) (h : KR S T) : KR S (sA T k v) := by
  refine ⟨h.1, fun j q => ?_, h.2.2.1, h.2.2.2⟩
  rw [gA_ne (by omega)]; exact h.2.1 j q
theorem KR_r (S : SS) : KR S S := ⟨fun _ _ => rfl, fun _ _ => rfl, fun _ => rfl, rfl⟩
theorem kr_X7_read_167 (S7 : SS) (v : (Int32 × SS)) (hv : KR S7 v.2) : Pc (b_X7_read_167  v) (PcI (fun v : (Int32 × SS) => KR S7 v.2) (fun w => KR S7 w)) := by
  obtain ⟨v90, s7_91⟩ := v
  have h_s7_91 : KR S7 s7_91 := hv
  unfold b_X7_read_167
  refine Pc_c (fun _ => ?_) (fun _ => ?_)
  · exact Pc_s h_s7_91
  · refine Pc_B (P := fun _ => True) (fun _ _ => trivial) (fun r93 _ => ?_)
    refine Pc_B (P := fun _ => True) (fun _ _ => trivial) (fun v103 _ => ?_)
    refine Pc_L (fun s7_105 e5 => ?_)
    have h_s7_105 : KR S7 s7_105 := by rw [e5]; exact KR_I (by decide) h_s7_91
    refine Pc_G (fun _ => ?_)
    refine Pc_L (fun s7_108 e6 => ?_)
    have h_s7_108 : KR S7 s7_108 := by rw [e6]; exact KR_A (by decide) h_s7_105
    refine Pc_L (fun v109 _ => ?_)
    exact Pc_s h_s7_108
theorem nar_b256 : ∀ k : Fin 256, (Int32.ofInt ((k.val : Int) - 128)).toInt8.toInt32 = Int32.ofInt ((k.val : Int) - 128) := by decide +kernel
theorem nar_b {x : Int32} (h : IV (-128) 127 x) : vp_nar .byte x = x := by
  obtain ⟨h1, h2⟩ := h
  have q := nar_b256 ⟨(x.toInt + 128).toNat, by omega⟩
  have e : (((x.toInt + 128).toNat : Nat) : Int) - 128 = x.toInt := by omega
  have e2 : Int32.ofInt ((((x.toInt + 128).toNat : Nat) : Int) - 128) = x := by rw [e, Int32.ofInt_toInt]
  rw [e2] at q
  rw [vp_nar_byte]
  exact q
theorem p_copy {S : SS} {n : Nat} (h3 : gI S 3 = nI n) (hn : n ≤ 2000) (hb : ∀ j, j < n → IV (-128) 127 (gA S 0 j)) : Pc (zI b_X7_read_20 zF ((0 : Int32), S)) (fun T => (∀ k, gI T k = gI S k) ∧ (∀ k, k ≠ 1 → gA T k = gA S k) ∧ (∀ k, gB T k = gB S k) ∧ ∀ j, j < n → gA T 1 j = gA S 0 j) := by
  refine Pc_I (fun v : Int32 × SS => ∃ m, v.1 = nI m ∧ m ≤ n ∧ (∀ k, gI v.2 k = gI S k) ∧ (∀ k, k ≠ 1 → gA v.2 k = gA S k) ∧ (∀ k, gB v.2 k = gB S k) ∧ ∀ j, j < m → gA v.2 1 j = gA S 0 j) (fun v hv => ?_) _ ⟨0, rfl, Nat.zero_le _, fun _ => rfl, fun _ _ => rfl, fun _ => rfl, fun j hj => absurd hj (Nat.not_lt_zero _)⟩
  obtain ⟨v, T⟩ := v
  obtain ⟨m, ev, hm, tI, tA, tB, t1⟩ : ∃ m, v = nI m ∧ m ≤ n ∧ (∀ k, gI T k = gI S k) ∧ (∀ k, k ≠ 1 → gA T k = gA S k) ∧ (∀ k, gB T k = gB S k) ∧ ∀ j, j < m → gA T 1 j = gA S 0 j := hv
  subst ev
  have cl : (nI m).toNatClampNeg = m := nI_clamp (by omega)
  refine Pc_c (fun q => Pc_s ⟨tI, tA, tB, fun j hj => t1 j ?_⟩) (fun q => Pc_G (fun _ => Pc_G (fun _ => Pc_l (Pc_l (Pc_s ⟨m + 1, nI_1 m, ?_, tI, fun k hk => ?_, tB, fun j hj => ?_⟩)))))
  · rw [tI, h3, nI_leI (by omega) (by omega)] at q
    omega
  · rw [tI, h3, nI_leI (by omega) (by omega)] at q
    omega
  · rw [gA_ne hk]; exact tA k hk
  · rw [tI, h3, nI_leI (by omega) (by omega)] at q
    rw [gA_eq, cl, tA 0 (by decide)]
    by_cases e : j = m
    · rw [e, pk_us, nar_b (hb m (by omega))]
    · rw [pk_un e]
      exact t1 j (by omega)
theorem p_read_51 {E S : SS} {c : Nat} (h0 : gI E 0 = nI c) (hc : c ≤ 60) : Pc (zI (b_X6_read_51 E) zF ((0 : Int32), S)) (fun T => ∀ i, i < c → gA T 5 i = 2) := by
  refine Pc_I (fun v : Int32 × SS => ∃ k, v.1 = nI k ∧ k ≤ c ∧ ∀ i, i < k → gA v.2 5 i = 2) (fun v hv => ?_) _ ⟨0, rfl, Nat.zero_le _, fun i q => absurd q (Nat.not_lt_zero _)⟩
  obtain ⟨v, T⟩ := v
  obtain ⟨k, ev, hk, h1⟩ : ∃ k, v = nI k ∧ k ≤ c ∧ ∀ i, i < k → gA T 5 i = 2 := hv
  subst ev
  refine Pc_c (fun q => Pc_s (fun i hi => h1 i ?_)) (fun q => Pc_G (fun _ => Pc_l (Pc_l (Pc_s ⟨k + 1, nI_1 k, ?_, fun i hi => ?_⟩))))
  · rw [h0, nI_leI (by omega) (by omega)] at q
    omega
  · rw [h0, nI_leI (by omega) (by omega)] at q
    omega
  · show gA (sA T 5 _) 5 i = 2
    rw [gA_eq, nI_clamp (by omega)]
    by_cases e : i = k
    · rw [e, pk_us]
    · rw [pk_un e]
      exact h1 i (by omega)
theorem p_read_167 {G : SS} {b c : Nat} (h29 : gI G 29 = nI c) (hc : c ≤ 60) (h30 : gI G 30 = nI b) (hb : b ≤ 1) (h31 : gI G 31 = 0) : Pc (zI b_X7_read_167 zF ((0 : Int32), G)) (fun H => KR G H ∧ (∀ i, i < c → gA H 33 i = 2) ∧ gI H 31 = nI (cn (fun i => gA G 12 (60 * b + i) = 3) c)) := by
  refine Pc_I (fun v : Int32 × SS => ∃ k, v.1 = nI k ∧ k ≤ c ∧ KR G v.2 ∧ (∀ i, i < k → gA v.2 33 i = 2) ∧ gI v.2 31 = nI (cn (fun i => gA G 12 (60 * b + i) = 3) k)) (fun v hv => ?_) _ ⟨0, rfl, Nat.zero_le _, KR_r G, fun i q => absurd q (Nat.not_lt_zero _), h31⟩
  obtain ⟨v, T⟩ := v
  obtain ⟨k, ev, hk, kr, h1, h2⟩ : ∃ k, v = nI k ∧ k ≤ c ∧ KR G T ∧ (∀ i, i < k → gA T 33 i = 2) ∧ gI T 31 = nI (cn (fun i => gA G 12 (60 * b + i) = 3) k) := hv
  subst ev
  have t29 : gI T 29 = nI c := by rw [kr.1 29 (by decide)]; exact h29
  have t30 : gI T 30 = nI b := by rw [kr.1 30 (by decide)]; exact h30
  refine Pc_c (fun q => Pc_s ?_) (fun q => ?_)
  · rw [t29, nI_leI (by omega) (by omega)] at q
    have : k = c := by omega
    rw [← this]
    exact ⟨kr, h1, h2⟩
  · rw [t29, nI_leI (by omega) (by omega)] at q
    have ek : f_X7_kind T (nI k) = some (gA G 12 (60 * b + k)) := by
      unfold f_X7_kind
      rw [t30, i60 hb, zG_pos (ti_in (by rw [nI_toInt (by omega)]; omega) (by rw [nI_toInt (by omega)]; omega)), nI_clamp (by omega), kr.2.1 12 (by decide)]
    have stp : ∀ d : Int32, gI T 31 + d = nI (cn (fun i => gA G 12 (60 * b + i) = 3) (k + 1)) → Pc (zL (sI T 31 ((gI T 31) + d)) (fun s7_105 =>
        zG (vp_in (nI k) 60) (
        zL (sA s7_105 33 (upd (gA s7_105 33) (nI k).toNatClampNeg (2 : Int32))) (fun s7_108 =>
        zL (nI k + 1) (fun v109 =>
        some (Sum.inl (v109, s7_108))))))) (PcI (fun v : Int32 × SS => ∃ k, v.1 = nI k ∧ k ≤ c ∧ KR G v.2 ∧ (∀ i, i < k → gA v.2 33 i = 2) ∧ gI v.2 31 = nI (cn (fun i => gA G 12 (60 * b + i) = 3) k)) (fun H => KR G H ∧ (∀ i, i < c → gA H 33 i = 2) ∧ gI H 31 = nI (cn (fun i => gA G 12 (60 * b + i) = 3) c))) := fun d ed => by
      refine Pc_l (Pc_G (fun _ => Pc_l (Pc_l (Pc_s ⟨k + 1, nI_1 k, by omega, KR_A (by decide) (KR_I (by decide) kr), fun i hi => ?_, ?_⟩))))
      · show gA (sA (sI T 31 _) 33 _) 33 i = 2
        rw [gA_eq, nI_clamp (by omega)]
        by_cases e : i = k
        · rw [e, pk_us]
        · rw [pk_un e]
          exact h1 i (by omega)
      · show gI (sA (sI T 31 _) 33 _) 31 = _
        rw [gI_sA, gI_eq]
        exact ed
    refine Pc_e ek (Pc_B (P := fun d => gI T 31 + d = nI (cn (fun i => gA G 12 (60 * b + i) = 3) (k + 1))) ?_ (fun d hd => stp d hd))
    refine Pc_c (fun z => Pc_s ?_) (fun z => Pc_s ?_)
    · rw [h2, cn_y (P := fun i => gA G 12 (60 * b + i) = 3) z]
      exact nI_1 _
    · rw [h2, cn_n (P := fun i => gA G 12 (60 * b + i) = 3) z]
      exact nI_add _ 0
/-- the class's read, taken apart -/
theorem r6_read {S6 S3 S1 S0 S8 A C D E : SS} {rx : Int32} {sw : Bool} (h : f_X6_read S6 S3 S1 S0 S8 = some (rx, sw, A, C, D, E)) : ∃ r T1, f_X3_readInto S3 S1 (gA S6 0) S8 (gI S6 1) = some (r, C, T1, E) ∧ ((r = 0 ∧ rx = -1 ∧ sw = false ∧ gI A 11 = gI S6 11 ∧ gA A 5 = gA S6 5 ∧ gI A 9 = gI S6 9) ∨ (r ≠ 0 ∧ rx = gI E 0 ∧ sw = true ∧ gI A 11 = 0 ∧ ∃ B, f_X6_settleValues B E = some A ∧ ∀ c, gI E 0 = nI c → c ≤ 60 → ∀ i, i < c → gA B 5 i = 2)) := by
  obtain ⟨⟨r, T3, T1, T0⟩, e1, h⟩ := zB_spec (x := f_X3_readInto S3 S1 (gA S6 0) S8 (gI S6 1)) h
  by_cases c : r = 0
  · have h := zY c h
    cases h
    exact ⟨r, D, e1, Or.inl ⟨c, rfl, rfl, gI_ne (by decide), rfl, gI_ne (by decide)⟩⟩
  · have h := zN c h
    obtain ⟨B, e2, h⟩ := zB_spec h
    obtain ⟨_, rfl, h⟩ := zL_spec h
    obtain ⟨F, e3, h⟩ := zB_spec h
    cases h
    have k := k6_X6_settleValues _ _ _ e3
    exact ⟨r, D, e1, Or.inr ⟨c, rfl, rfl, by rw [k.2.1, gI_eq], _, e3, fun c h0 hc i hi => p_read_51 h0 hc _ e2 i hi⟩⟩
/-- bank b of both is the same -/
def SB (b : Nat) (S T : SS) : Prop := (∀ i, i < 60 → gB T 11 (60 * b + i) = gB S 11 (60 * b + i) ∧ gA T 12 (60 * b + i) = gA S 12 (60 * b + i) ∧ gA T 13 (60 * b + i) = gA S 13 (60 * b + i) ∧ gA T 14 (60 * b + i) = gA S 14 (60 * b + i) ∧ gA T 15 (60 * b + i) = gA S 15 (60 * b + i) ∧ gA T 17 (60 * b + i) = gA S 17 (60 * b + i)) ∧ (∀ j, j < 720 → gA T 16 (720 * b + j) = gA S 16 (720 * b + j)) ∧ ∀ j, j < 360 → gA T 19 (360 * b + j) = gA S 19 (360 * b + j)
/-- the reference's read beside the class's -/
theorem p_read7 {S7 S3 S1 S0 T3 T1 T0 : SS} {f : Nat → Int32} {n : Nat} {r : Int32} (hn : n ≤ 2000) (h2 : gI S7 2 = nI n) (h30 : IV 0 1 (gI S7 30)) (hf : ∀ j, j < n → f j = gA S7 0 j ∧ IV (-128) 127 (f j)) (hr : f_X3_readInto S3 S1 f S0 (nI n) = some (r, T3, T1, T0)) : Pc (f_X7_read S7) (fun w => gI T3 0 = gI w.2 4 ∧ gI T3 1 = gI w.2 5 ∧ ((r = 0 ∧ w.1 = -1 ∧ gI w.2 30 = gI S7 30 ∧ (∀ k, k = 29 ∨ 30 < k → gI w.2 k = gI S7 k) ∧ (∀ b, b ≤ 1 → gI S7 30 = nI b → SB b S7 w.2) ∧ ∀ k, 32 < k → gA w.2 k = gA S7 k) ∨ (r = 1 ∧ w.1 = gI T0 0 ∧ gI w.2 46 = 0 ∧ ∃ b C Z, b ≤ 1 ∧ gI w.2 30 = nI b ∧ gI w.2 29 = nI (cC C) ∧ RDY b C T0 Z ∧ (∀ k, k ≤ 31 → gA w.2 k = gA Z k) ∧ (∀ k, gB w.2 k = gB Z k) ∧ ∃ H, f_X7_settle H = some w.2 ∧ KP H w.2 ∧ (∀ i, i < cC C → gA H 33 i = 2) ∧ gI H 31 = nI (cn (fun i => gA Z 12 (60 * b + i) = 3) (cC C))))) := by
  obtain ⟨b, hb, eb⟩ : ∃ b, b ≤ 1 ∧ gI S7 30 = nI b := ⟨(gI S7 30).toInt.toNat, by have := h30.2; omega, by
    apply Int32.toInt_inj.mp
    have := h30.1
    have := h30.2
    rw [nI_toInt (by omega)]
    omega⟩
  refine Pc_l (Pc_l (Pc_L (fun A eA => Pc_B (p_copy (S := A) (n := n) ?_ hn ?_) (fun B hB => Pc_l (Pc_l (Pc_l (Pc_l (Pc_l (Pc_L (fun X eX => ?_))))))))))
  · rw [eA, gI_eq, gI_ne (by decide), gI_ne (by decide)]; exact h2
  · intro j hj
    have e : gA A 0 = gA S7 0 := by rw [eA]; rfl
    rw [e, ← (hf j hj).1]
    exact (hf j hj).2
  · obtain ⟨bI', bA, bB, b1⟩ := hB
    have a0 : gA A 0 = gA S7 0 := by rw [eA]; rfl
    have a3 : gI A 3 = nI n := by rw [eA, gI_eq, gI_ne (by decide), gI_ne (by decide)]; exact h2
    have a4 : gI A 4 = 0 := by rw [eA, gI_ne (by decide), gI_ne (by decide), gI_eq]
    have a5 : gI A 5 = -1 := by rw [eA, gI_ne (by decide), gI_eq]
    have a30 : gI A 30 = nI b := by rw [eA, gI_ne (by decide), gI_ne (by decide), gI_ne (by decide)]; exact eb
    have a46 : gI A 46 = gI S7 46 := by rw [eA, gI_ne (by decide), gI_ne (by decide), gI_ne (by decide)]
    have xk : ∀ k, k ≠ 2 → k ≠ 7 → k ≠ 30 → k ≠ 26 → k ≠ 27 → k ≠ 28 → gI X k = gI A k := fun k k1 k2 k3 k4 k5 k6 => by
      rw [eX, gI_ne k6, gI_ne k5, gI_ne k4, gI_ne k3, gI_ne k2, gI_ne k1]
      exact bI' k
    have x30 : gI X 30 = nI (1 - b) := by
      rw [eX, gI_ne (by decide), gI_ne (by decide), gI_ne (by decide), gI_eq, gI_ne (by decide), gI_ne (by decide), bI', a30, show (1 : Int32) = nI 1 from rfl, pk_sub hb]
    have tx : TX f n X := ⟨hn, fun j hj => (hf j hj).2, by rw [xk 3 (by decide) (by decide) (by decide) (by decide) (by decide) (by decide)]; exact a3, fun j hj => by
      have e : gA X 1 = gA B 1 := by rw [eX]; rfl
      rw [e, b1 j hj, a0]
      exact ((hf j hj).1).symm⟩
    refine p_readBoth (b := 1 - b) tx (by rw [eX, gI_ne (by decide), gI_ne (by decide), gI_ne (by decide), gI_ne (by decide), gI_eq]) (by omega) x30 (by rw [eX, gI_ne (by decide), gI_ne (by decide), gI_eq]) (by rw [eX, gI_ne (by decide), gI_eq]) (by rw [eX, gI_eq]) (by rw [xk 4 (by decide) (by decide) (by decide) (by decide) (by decide) (by decide)]; exact a4) (by rw [xk 5 (by decide) (by decide) (by decide) (by decide) (by decide) (by decide)]; exact a5) hr (fun Z hZ => ?_)
    rcases hZ with ⟨z4, r0, z1, z2, oz⟩ | ⟨z4, z5, r1, z1, z2, C, rdy⟩
    · refine Pc_e (e_isGood0 z4) (Pc_c (fun _ => Pc_l (Pc_s ⟨?_, ?_, Or.inl ⟨r0, rfl, ?_, fun k hk => ?_, fun b' hb' eb' => ?_, fun k hk => ?_⟩⟩)) (fun y => absurd rfl y))
      · rw [gI_ne (by decide)]; exact z1
      · rw [gI_ne (by decide)]; exact z2
      · show gI (sI Z 30 ((1 : Int32) - gI Z 30)) 30 = gI S7 30
        rw [gI_eq, oz.1.1, eb, show (1 : Int32) = nI 1 from rfl, pk_sub (by omega)]
        exact congrArg nI (by omega)
      · show gI (sI Z 30 ((1 : Int32) - gI Z 30)) k = gI S7 k
        rw [gI_ne (by omega), oz.2.2.2.2.2 k hk, xk k (by omega) (by omega) (by omega) (by omega) (by omega) (by omega), eA, gI_ne (by omega), gI_ne (by omega), gI_ne (by omega)]
      · have ebb : b' = b := ((nI_eq (by omega) (by omega)).mp (eb.symm.trans eb')).symm
        rw [ebb]
        have xA : ∀ k, k ≠ 1 → gA X k = gA S7 k := fun k hk => by
          have e1 : gA X k = gA B k := by rw [eX]; rfl
          have e2 : gA A k = gA S7 k := by rw [eA]; rfl
          rw [e1, bA k hk, e2]
        have xB : ∀ k, gB X k = gB S7 k := fun k => by
          have e1 : gB X k = gB B k := by rw [eX]; rfl
          have e2 : gB A k = gB S7 k := by rw [eA]; rfl
          rw [e1, bB k, e2]
        obtain ⟨_, o1, o2, o3, _⟩ := oz
        refine ⟨fun i hi => ?_, fun j hj => ?_, fun j hj => ?_⟩
        · have q := o1 (60 * b + i) (by omega)
          rw [xB, xA 12 (by decide), xA 13 (by decide), xA 14 (by decide), xA 15 (by decide), xA 17 (by decide)] at q
          exact q
        · have q := o2 (720 * b + j) (by omega)
          rw [xA 16 (by decide)] at q
          exact q
        · have q := o3 (360 * b + j) (by omega)
          rw [xA 19 (by decide)] at q
          exact q
      · show gA Z k = gA S7 k
        have e1 : gA X k = gA B k := by rw [eX]; rfl
        have e2 : gA A k = gA S7 k := by rw [eA]; rfl
        rw [oz.2.2.2.2.1 k hk, e1, bA k (by omega), e2]
    · refine Pc_e (e_isGood1 z4) (Pc_c (fun y => absurd y ne10) (fun _ => Pc_l (Pc_l (Pc_L (fun G eG => ?_)))))
      obtain ⟨⟨U, lk, k0, _⟩, ⟨X1, Y1, ln, f3, rk, f17⟩, _⟩ := id rdy
      have z26 : gI Z 26 = nI (cC C) := by rw [f17.1, f3.1]; exact ln.1.2.1.1
      have z30 : gI Z 30 = nI (1 - b) := by rw [f17.1, f3.1]; exact ln.1.1.1
      have t0 : gI T0 0 = nI (cC C) := by rw [k0.1]; exact lk.1.1.1
      have g29 : gI G 29 = nI (cC C) := by rw [eG, gI_ne (by decide), gI_ne (by decide), gI_eq]; exact z26
      have g31 : gI G 31 = 0 := by rw [eG, gI_ne (by decide), gI_eq]
      have gk : ∀ k, k ≠ 29 → k ≠ 31 → k ≠ 46 → gI G k = gI Z k := fun k k1 k2 k3 => by rw [eG, gI_ne k3, gI_ne k2, gI_ne k1]
      have g30 : gI G 30 = nI (1 - b) := by rw [gk 30 (by decide) (by decide) (by decide)]; exact z30
      have gz : ∀ k, gA G k = gA Z k := fun k => by rw [eG]; rfl
      refine Pc_B (p_read_167 g29 lk.1.1.2 g30 (by omega) g31) (fun H hH => Pc_B (P := fun K => f_X7_settle H = some K) (fun K e => e) (fun K eK => Pc_s ?_))
      obtain ⟨hH, h33, h31⟩ := hH
      have hK : KP H K := kp_X7_settle H K eK
      have kg : ∀ k, k ≤ 30 → gI K k = gI G k := fun k hk => by rw [hK.1 k (by omega), hH.1 k hk]
      rw [gz 12] at h31
      refine ⟨?_, ?_, Or.inr ⟨r1, ?_, ?_, 1 - b, C, Z, by omega, ?_, ?_, rdy, fun k hk => ?_, fun k => ?_, H, eK, hK, h33, h31⟩⟩
      · show gI T3 0 = gI K 4
        rw [kg 4 (by decide), gk 4 (by decide) (by decide) (by decide), z4]; exact z1
      · show gI T3 1 = gI K 5
        rw [kg 5 (by decide), gk 5 (by decide) (by decide) (by decide), z5]; exact z2
      · show gI K 29 = gI T0 0
        rw [kg 29 (by decide), g29, t0]
      · show gI K 46 = 0
        rw [hK.2.2.2, hH.2.2.2, eG, gI_eq]
      · show gI K 30 = nI (1 - b)
        rw [kg 30 (by decide), g30]
      · show gI K 29 = nI (cC C)
        rw [kg 29 (by decide), g29]
      · show gA K k = gA Z k
        rw [hK.2.1 k hk, hH.2.1 k hk, gz k]
      · show gB K k = gB Z k
        rw [hK.2.2.1 k, hH.2.2.1 k, eG]
        rfl
