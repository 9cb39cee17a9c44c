/-! the wheel: one change -/
def CH6 (S T : SS) (i : Nat) (v : Int32) : Prop := (∀ k, gI T k = gI S k) ∧ (gA T 2 = upd (gA S 2) i v ∧ gA T 3 = gA S 3 ∧ gA T 4 = gA S 4) ∧ gL T 7 = (gL S 7 ||| jLs 1 (nI i)) ∧ ((20 ≤ gA S 6 i ∧ gA T 5 = gA S 5 ∧ gA T 6 = gA S 6) ∨ (¬ 20 ≤ gA S 6 i ∧ gA T 5 = upd (gA S 5) ((nI i * (20 : Int32)) + gA S 6 i).toNatClampNeg (((4 : Int32) * gI S 0) + v) ∧ gA T 6 = upd (gA S 6) i (gA S 6 i + 1)))
theorem p_change6 {S : SS} {i : Nat} (hi : i < 60) (v : Int32) : Pc (f_X4_change S (nI i) v) (fun w => (gA S 2 i = v ∧ w = (0, S)) ∨ (gA S 2 i ≠ v ∧ w.1 = 1 ∧ CH6 S w.2 i v)) := by
  refine Pc_G (fun _ => ?_)
  rw [nI_clamp (by omega)]
  refine Pc_c (fun q => Pc_s (Or.inl ⟨q, rfl⟩)) (fun q => Pc_l (Pc_L (fun T eT => ?_)))
  have t6 : gA T 6 = gA S 6 := by rw [eT, gA_sL, gA_ne (by decide)]
  have t5 : gA T 5 = gA S 5 := by rw [eT, gA_sL, gA_ne (by decide)]
  have t2 : gA T 2 = upd (gA S 2) i v := by rw [eT, gA_sL, gA_eq]
  have t3 : gA T 3 = gA S 3 := by rw [eT, gA_sL, gA_ne (by decide)]
  have t4 : gA T 4 = gA S 4 := by rw [eT, gA_sL, gA_ne (by decide)]
  have tI : ∀ k, gI T k = gI S k := fun k => by rw [eT]; rfl
  have t7 : gL T 7 = (gL S 7 ||| jLs 1 (nI i)) := by rw [eT, gL_sL, if_pos rfl]; rfl
  rw [t6]
  refine Pc_c (fun z => Pc_s (Or.inr ⟨q, rfl, tI, ⟨t2, t3, t4⟩, t7, Or.inl ⟨z, t5, t6⟩⟩)) (fun z => Pc_G (fun _ => Pc_L (fun U eU => Pc_L (fun W eW => Pc_s (Or.inr ⟨q, rfl, fun k => ?_, ⟨?_, ?_, ?_⟩, ?_, Or.inr ⟨z, ?_, ?_⟩⟩)))))
  · rw [eW, gI_sA, eU, gI_sA]; exact tI k
  · rw [eW, gA_ne (by decide), eU, gA_ne (by decide)]; exact t2
  · rw [eW, gA_ne (by decide), eU, gA_ne (by decide)]; exact t3
  · rw [eW, gA_ne (by decide), eU, gA_ne (by decide)]; exact t4
  · rw [eW, gL_sA, eU, gL_sA]; exact t7
  · rw [eW, gA_ne (by decide), eU, gA_eq, t5, tI]
  · rw [eW, gA_eq, eU, gA_ne (by decide), t6]
def CH7 (S T : SS) (i : Nat) (v : Int32) : Prop := ((∀ k, gI T k = gI S k) ∧ (∀ k, k ≠ 40 → k ≠ 43 → k ≠ 44 → k ≠ 45 → gA T k = gA S k) ∧ ∀ k, gB T k = gB S k) ∧ (gA T 40 = upd (gA S 40) i v ∧ gA T 45 = upd (gA S 45) i 1 ∧ gA T 44 = upd (gA S 44) i (gA S 44 i + 1)) ∧ ((20 ≤ gA S 44 i ∧ gA T 43 = gA S 43) ∨ (¬ 20 ≤ gA S 44 i ∧ gA T 43 = upd (gA S 43) (((20 : Int32) * nI i) + gA S 44 i).toNatClampNeg (((4 : Int32) * gI S 47) + v)))
theorem p_change7 {S : SS} {i : Nat} (hi : i < 60) (v : Int32) : Pc (f_X7_change S (nI i) v) (fun T => CH7 S T i v) := by
  refine Pc_G (fun _ => Pc_l (Pc_L (fun A eA => ?_)))
  rw [nI_clamp (by omega)] at eA ⊢
  have a44 : gA A 44 = gA S 44 := by rw [eA, gA_ne (by decide), gA_ne (by decide)]
  have a43 : gA A 43 = gA S 43 := by rw [eA, gA_ne (by decide), gA_ne (by decide)]
  have a40 : gA A 40 = upd (gA S 40) i v := by rw [eA, gA_ne (by decide), gA_eq]
  have a45 : gA A 45 = upd (gA S 45) i 1 := by rw [eA, gA_eq, gA_ne (by decide), nar1]
  have aI : ∀ k, gI A k = gI S k := fun k => by rw [eA]; rfl
  have aB : ∀ k, gB A k = gB S k := fun k => by rw [eA]; rfl
  have aA : ∀ k, k ≠ 40 → k ≠ 43 → k ≠ 44 → k ≠ 45 → gA A k = gA S k := fun k k1 k2 k3 k4 => by rw [eA, gA_ne k4, gA_ne k1]
  refine Pc_B (P := fun B => ((∀ k, gI B k = gI S k) ∧ (∀ k, k ≠ 43 → gA B k = gA A k) ∧ ∀ k, gB B k = gB S k) ∧ ((20 ≤ gA S 44 i ∧ gA B 43 = gA S 43) ∨ (¬ 20 ≤ gA S 44 i ∧ gA B 43 = upd (gA S 43) (((20 : Int32) * nI i) + gA S 44 i).toNatClampNeg (((4 : Int32) * gI S 47) + v)))) ?_ (fun B hB => ?_)
  · rw [a44]
    refine Pc_c (fun z => Pc_s ⟨⟨aI, fun _ _ => rfl, aB⟩, Or.inl ⟨z, a43⟩⟩) (fun z => Pc_G (fun _ => Pc_L (fun B eB => Pc_s ⟨⟨fun k => ?_, fun k hk => ?_, fun k => ?_⟩, Or.inr ⟨z, ?_⟩⟩)))
    · rw [eB]; exact aI k
    · rw [eB, gA_ne hk]
    · rw [eB]; exact aB k
    · rw [eB, gA_eq, a43, aI]
  · obtain ⟨⟨bI', bA, bB⟩, b43⟩ := hB
    have b44 : gA B 44 = gA S 44 := by rw [bA 44 (by decide)]; exact a44
    refine Pc_L (fun T eT => Pc_s ⟨⟨fun k => ?_, fun k k1 k2 k3 k4 => ?_, fun k => ?_⟩, ⟨?_, ?_, ?_⟩, ?_⟩)
    · rw [eT]; exact bI' k
    · rw [eT, gA_ne k3, bA k k2]; exact aA k k1 k2 k3 k4
    · rw [eT]; exact bB k
    · rw [eT, gA_ne (by decide), bA 40 (by decide)]; exact a40
    · rw [eT, gA_ne (by decide), bA 45 (by decide)]; exact a45
    · rw [eT, gA_eq, b44]
    · rw [eT, gA_ne (by decide)]; exact b43
/-- a NODE's waves on both sides -/
def WVi (Bd : Nat) (S4 S7 : SS) (i : Nat) : Prop := ∃ m, m ≤ Bd ∧ gA S7 44 i = nI m ∧ gA S4 6 i = nI (min m 20) ∧ ∀ k, k < min m 20 → gA S4 5 (20 * i + k) = gA S7 43 (20 * i + k)
theorem WVi_mono {Bd B' : Nat} {S4 S7 : SS} {i : Nat} (h : WVi Bd S4 S7 i) (hb : Bd ≤ B') : WVi B' S4 S7 i := by
  obtain ⟨m, a, b⟩ := h
  exact ⟨m, by omega, b⟩
theorem WVi_eq {Bd : Nat} {S4 S7 T4 T7 : SS} {i : Nat} (h : WVi Bd S4 S7 i) (h6 : gA T4 6 i = gA S4 6 i) (h44 : gA T7 44 i = gA S7 44 i) (h5 : ∀ k, k < 20 → gA T4 5 (20 * i + k) = gA S4 5 (20 * i + k)) (h43 : ∀ k, k < 20 → gA T7 43 (20 * i + k) = gA S7 43 (20 * i + k)) : WVi Bd T4 T7 i := by
  obtain ⟨m, a, b, c, d⟩ := h
  refine ⟨m, a, by rw [h44]; exact b, by rw [h6]; exact c, fun k hk => ?_⟩
  rw [h5 k (by omega), h43 k (by omega)]
  exact d k hk
/-- what one change does to a NODE's waves, told of each side -/
def W6 (S T : SS) (i : Nat) (v : Int32) : Prop := (20 ≤ gA S 6 i ∧ gA T 6 i = gA S 6 i ∧ ∀ k, k < 20 → gA T 5 (20 * i + k) = gA S 5 (20 * i + k)) ∨ (¬ 20 ≤ gA S 6 i ∧ gA T 6 i = gA S 6 i + 1 ∧ ∀ k, k < 20 → gA T 5 (20 * i + k) = (if nI k = gA S 6 i then ((4 : Int32) * gI S 0) + v else gA S 5 (20 * i + k)))
def W7 (S T : SS) (i : Nat) (v : Int32) : Prop := gA T 44 i = gA S 44 i + 1 ∧ ∀ k, k < 20 → gA T 43 (20 * i + k) = (if nI k = gA S 44 i then ((4 : Int32) * gI S 47) + v else gA S 43 (20 * i + k))
theorem WVi_ch {Bd : Nat} {S4 S7 T4 T7 : SS} {i : Nat} {v : Int32} (hB : Bd ≤ 2000000000) (h : WVi Bd S4 S7 i) (ht : gI S4 0 = gI S7 47) (a : W6 S4 T4 i v) (b : W7 S7 T7 i v) : WVi (Bd + 1) T4 T7 i := by
  obtain ⟨m, m1, m2, m3, m4⟩ := h
  obtain ⟨b1, b2⟩ := b
  have t20 : (20 : Int32) = nI 20 := rfl
  refine ⟨m + 1, by omega, by rw [b1, m2, nI_1], ?_, fun k hk => ?_⟩
  · rcases a with ⟨a1, a2, _⟩ | ⟨a1, a2, _⟩
    · rw [m3, t20, nI_leI (by omega) (by omega)] at a1
      rw [a2, m3]
      exact congrArg nI (by omega)
    · rw [m3, t20, nI_leI (by omega) (by omega)] at a1
      rw [a2, m3, nI_1]
      exact congrArg nI (by omega)
  · have k20 : k < 20 := by omega
    rw [b2 k k20, m2]
    rcases a with ⟨a1, _, a3⟩ | ⟨a1, _, a3⟩
    · rw [m3, t20, nI_leI (by omega) (by omega)] at a1
      rw [a3 k k20, if_neg (nI_ne (by omega) (by omega) (by omega))]
      exact m4 k (by omega)
    · rw [m3, t20, nI_leI (by omega) (by omega)] at a1
      rw [a3 k k20, m3, show min m 20 = m by omega, ht]
      by_cases e : k = m
      · rw [e, if_pos rfl, if_pos rfl]
      · rw [if_neg (nI_ne (by omega) (by omega) e), if_neg (nI_ne (by omega) (by omega) e)]
        exact m4 k (by omega)
/-- a change touches its own NODE's waves alone -/
theorem CH6_W {S T : SS} {c i n : Nat} {v : Int32} (hc : c ≤ 60) (hi : i < c) (hn : gA S 6 i = nI n) (h20 : n ≤ 20) (h : CH6 S T i v) : W6 S T i v ∧ ∀ j, j < c → j ≠ i → gA T 6 j = gA S 6 j ∧ ∀ k, k < 20 → gA T 5 (20 * j + k) = gA S 5 (20 * j + k) := by
  have ix : ((nI i * (20 : Int32)) + gA S 6 i).toNatClampNeg = 20 * i + n := by
    rw [hn, show (20 : Int32) = nI 20 from rfl, pk_mul, nI_add, nI_clamp (by omega)]
    omega
  obtain ⟨_, _, _, ⟨a1, a2, a3⟩ | ⟨a1, a2, a3⟩⟩ := h
  · exact ⟨Or.inl ⟨a1, by rw [a3], fun k _ => by rw [a2]⟩, fun j _ _ => ⟨by rw [a3], fun k _ => by rw [a2]⟩⟩
  · rw [ix] at a2
    have a1' := a1
    rw [hn, show (20 : Int32) = nI 20 from rfl, nI_leI (by omega) (by omega)] at a1'
    refine ⟨Or.inr ⟨a1, by rw [a3, pk_us], fun k hk => ?_⟩, fun j hj ne => ⟨by rw [a3, pk_un ne], fun k hk => ?_⟩⟩
    · rw [a2, hn]
      by_cases e : k = n
      · rw [e, pk_us, if_pos rfl]
      · rw [pk_un (by omega), if_neg (nI_ne (by omega) (by omega) e)]
    · rw [a2, pk_un (by omega)]
theorem CH7_W {S T : SS} {c i n : Nat} {v : Int32} (hc : c ≤ 60) (hi : i < c) (hn : gA S 44 i = nI n) (hB : n ≤ 2000000000) (h : CH7 S T i v) : W7 S T i v ∧ ∀ j, j < c → j ≠ i → gA T 44 j = gA S 44 j ∧ ∀ k, k < 20 → gA T 43 (20 * j + k) = gA S 43 (20 * j + k) := by
  obtain ⟨_, ⟨_, _, a44⟩, a43⟩ := h
  rcases a43 with ⟨a1, a2⟩ | ⟨a1, a2⟩
  · have a1' := a1
    rw [hn, show (20 : Int32) = nI 20 from rfl, nI_leI (by omega) (by omega)] at a1'
    refine ⟨⟨by rw [a44, pk_us], fun k hk => ?_⟩, fun j _ ne => ⟨by rw [a44, pk_un ne], fun k _ => by rw [a2]⟩⟩
    rw [a2, hn, if_neg (nI_ne (by omega) (by omega) (by omega))]
  · have a1' := a1
    rw [hn, show (20 : Int32) = nI 20 from rfl, nI_leI (by omega) (by omega)] at a1'
    have ix : (((20 : Int32) * nI i) + gA S 44 i).toNatClampNeg = 20 * i + n := by
      rw [hn, show (20 : Int32) = nI 20 from rfl, pk_mul, nI_add, nI_clamp (by omega)]
    rw [ix] at a2
    refine ⟨⟨by rw [a44, pk_us], fun k hk => ?_⟩, fun j hj ne => ⟨by rw [a44, pk_un ne], fun k hk => ?_⟩⟩
    · rw [a2, hn]
      by_cases e : k = n
      · rw [e, pk_us, if_pos rfl]
      · rw [pk_un (by omega), if_neg (nI_ne (by omega) (by omega) e)]
    · rw [a2, pk_un (by omega)]
