/-! the class's arranging leaves all but levels and order -/
def K0 (S T : SS) : Prop := (∀ k, gI T k = gI S k) ∧ (∀ k, k ≠ 11 → k ≠ 12 → gA T k = gA S k) ∧ ∀ k, gB T k = gB S k
theorem K0_r (S : SS) : K0 S S := ⟨fun _ => rfl, fun _ _ _ => rfl, fun _ => rfl⟩
theorem K0_t {S T U : SS} (h : K0 S T) (g : K0 T U) : K0 S U := ⟨fun k => (g.1 k).trans (h.1 k), fun k a b => (g.2.1 k a b).trans (h.2.1 k a b), fun k => (g.2.2 k).trans (h.2.2 k)⟩
theorem K0_A {S T : SS} {k : Nat} {v : Nat → Int32} (hk : k = 11 ∨ k = 12) (h : K0 S T) : K0 S (sA T k v) := by
  refine ⟨h.1, fun j a b => ?_, h.2.2⟩
  rw [gA_ne (by omega)]; exact h.2.1 j a b
theorem k0f_X0_arrange_27 (S0 : SS) (v : (Int64 × Int32 × Int32 × SS)) (hv : K0 S0 v.2.2.2) : Pc (b_X0_arrange_27  v) (PcI (fun v : (Int64 × Int32 × Int32 × SS) => K0 S0 v.2.2.2) (fun w => K0 S0 w.2.2)) := by
  obtain ⟨v29, v30, v31, s0_32⟩ := v
  have h_s0_32 : K0 S0 s0_32 := hv
  unfold b_X0_arrange_27
  refine Pc_c (fun _ => ?_) (fun _ => ?_)
  · exact Pc_s h_s0_32
  · refine Pc_c (fun _ => ?_) (fun _ => ?_)
    · exact Pc_s h_s0_32
    · refine Pc_B (P := fun _ => True) (fun _ _ => trivial) (fun v41 _ => ?_)
      refine Pc_c (fun _ => ?_) (fun _ => ?_)
      · refine Pc_B (P := fun _ => True) (fun _ _ => trivial) (fun r44 _ => ?_)
        refine Pc_c (fun _ => ?_) (fun _ => ?_)
        · refine Pc_G (fun _ => ?_)
          refine Pc_L (fun s0_52 e5 => ?_)
          have h_s0_52 : K0 S0 s0_52 := by rw [e5]; exact K0_A (by decide) h_s0_32
          refine Pc_L (fun v53 _ => ?_)
          refine Pc_L (fun v54 _ => ?_)
          refine Pc_G (fun _ => ?_)
          refine Pc_B (P := fun _ => True) (fun _ _ => trivial) (fun r56 _ => ?_)
          refine Pc_L (fun s0_61 e8 => ?_)
          have h_s0_61 : K0 S0 s0_61 := by rw [e8]; exact K0_A (by decide) h_s0_52
          refine Pc_L (fun v62 _ => ?_)
          exact Pc_s h_s0_61
        · refine Pc_L (fun v49 _ => ?_)
          exact Pc_s h_s0_32
      · refine Pc_L (fun v43 _ => ?_)
        exact Pc_s h_s0_32
theorem k0f_X0_arrange_7 (S0 : SS) (v : (Int64 × Int32 × Int32 × SS)) (hv : K0 S0 v.2.2.2) : Pc (b_X0_arrange_7  v) (PcI (fun v : (Int64 × Int32 × Int32 × SS) => K0 S0 v.2.2.2) (fun w => K0 S0 w)) := by
  obtain ⟨v10, v11, v12, s0_13⟩ := v
  have h_s0_13 : K0 S0 s0_13 := hv
  unfold b_X0_arrange_7
  refine Pc_c (fun _ => ?_) (fun _ => ?_)
  · exact Pc_s h_s0_13
  · refine Pc_c (fun _ => ?_) (fun _ => ?_)
    · exact Pc_s h_s0_13
    · refine Pc_B (Pc_I (fun v => K0 S0 v.2.2.2) (fun v hv => k0f_X0_arrange_27 S0  v hv) _ h_s0_13) (fun w h9 => ?_)
      obtain ⟨v25, v26, s0_27⟩ := w
      have h_s0_27 : K0 S0 s0_27 := h9
      refine Pc_L (fun v28 _ => ?_)
      exact Pc_s h_s0_27
theorem k0f_X0_arrange (S0 : SS) : Pc (f_X0_arrange S0) (fun w => K0 S0 w) := by
  have h_S0 : K0 S0 S0 := K0_r S0
  unfold f_X0_arrange
  exact Pc_I (fun v => K0 S0 v.2.2.2) (fun v hv => k0f_X0_arrange_7 S0  v hv) _ h_S0
