/-! what calls leave as it is: the class's values, and whether its WORLDS are fresh -/
def K9 (S T : SS) : Prop := gI T 9 = gI S 9 ∧ gA T 5 = gA S 5
theorem K9_r (S : SS) : K9 S S := ⟨rfl, rfl⟩
theorem K9_t {S T U : SS} (h : K9 S T) (g : K9 T U) : K9 S U := ⟨g.1.trans h.1, g.2.trans h.2⟩
theorem K9_I {S T : SS} {k : Nat} {v : Int32} (hk : 9 ≠ k) (h : K9 S T) : K9 S (sI T k v) := ⟨by rw [gI_ne hk]; exact h.1, h.2⟩
theorem K9_A {S T : SS} {k : Nat} {v : Nat → Int32} (hk : 5 ≠ k) (h : K9 S T) : K9 S (sA T k v) := ⟨h.1, by rw [gA_ne hk]; exact h.2⟩
theorem k9_X6_settleWith6 (S6 : SS) (S0 : SS) (p2 : Int32) (p3 : Int32) : Pc (f_X6_settleWith6 S6 S0 p2 p3) (fun w => K9 S6 w) := by
  have h_S6 : K9 S6 S6 := K9_r S6
  unfold f_X6_settleWith6
  refine Pc_L (fun s6_2 e1 => ?_)
  have h_s6_2 : K9 S6 s6_2 := by rw [e1]; exact K9_A (by decide) h_S6
  refine Pc_G (fun _ => ?_)
  refine Pc_L (fun s6_5 e2 => ?_)
  have h_s6_5 : K9 S6 s6_5 := by rw [e2]; exact K9_A (by decide) h_s6_2
  refine Pc_B (P := fun _ => True) (fun _ _ => trivial) (fun sa_6 _ => ?_)
  refine Pc_L (fun s6_10 e5 => ?_)
  have h_s6_10 : K9 S6 s6_10 := by rw [e5]; exact K9_A (by decide) h_s6_5
  exact Pc_s h_s6_10
theorem k9_X6_settleWith7 (S6 : SS) (S0 : SS) (p2 : Int32) (p3 : Int32) : Pc (f_X6_settleWith7 S6 S0 p2 p3) (fun w => K9 S6 w) := by
  have h_S6 : K9 S6 S6 := K9_r S6
  unfold f_X6_settleWith7
  refine Pc_L (fun s6_2 e6 => ?_)
  have h_s6_2 : K9 S6 s6_2 := by rw [e6]; exact K9_A (by decide) h_S6
  refine Pc_G (fun _ => ?_)
  refine Pc_L (fun s6_5 e7 => ?_)
  have h_s6_5 : K9 S6 s6_5 := by rw [e7]; exact K9_A (by decide) h_s6_2
  refine Pc_B (P := fun _ => True) (fun _ _ => trivial) (fun sa_6 _ => ?_)
  refine Pc_L (fun s6_10 e10 => ?_)
  have h_s6_10 : K9 S6 s6_10 := by rw [e10]; exact K9_A (by decide) h_s6_5
  exact Pc_s h_s6_10
theorem k9_X6_flicker_60 (S6 : SS) (S0 : SS) (s6_13 : SS) (h_s6_13 : K9 S6 s6_13) (v : (Int32 × Int32)) : Pc (b_X6_flicker_60 S0 s6_13 v) (PcI (fun _ : (Int32 × Int32) => True) (fun w => K9 S6 w.2)) := by
  obtain ⟨v26, v27⟩ := v
  unfold b_X6_flicker_60
  refine Pc_c (fun _ => ?_) (fun _ => ?_)
  · exact Pc_s h_s6_13
  · refine Pc_G (fun _ => ?_)
    refine Pc_c (fun _ => ?_) (fun _ => ?_)
    · refine Pc_L (fun v31 _ => ?_)
      exact Pc_s trivial
    · refine Pc_c (fun _ => ?_) (fun _ => ?_)
      · refine Pc_c (fun _ => ?_) (fun _ => ?_)
        · refine Pc_c (fun _ => ?_) (fun _ => ?_)
          · exact Pc_s h_s6_13
          · refine Pc_L (fun v37 _ => ?_)
            refine Pc_L (fun v38 _ => ?_)
            exact Pc_s trivial
        · refine Pc_L (fun v35 _ => ?_)
          exact Pc_s trivial
      · refine Pc_L (fun v33 _ => ?_)
        exact Pc_s trivial
theorem k9_X6_flicker (S6 : SS) (S0 : SS) (p1 : Int32) (p2 : Int32) : Pc (f_X6_flicker S6 S0 p1 p2) (fun w => K9 S6 w.2) := by
  have h_S6 : K9 S6 S6 := K9_r S6
  unfold f_X6_flicker
  refine Pc_B (P := fun _ => True) (fun _ _ => trivial) (fun r1 _ => ?_)
  refine Pc_c (fun _ => ?_) (fun _ => ?_)
  · exact Pc_s h_S6
  · refine Pc_G (fun _ => ?_)
    refine Pc_c (fun _ => ?_) (fun _ => ?_)
    · exact Pc_s h_S6
    · refine Pc_c (fun _ => ?_) (fun _ => ?_)
      · refine Pc_B (k9_X6_settleWith6 S6 S0 p1 ((1 : Int32) - (gA S6 5 p1.toNatClampNeg))) (fun s6_9 h13 => ?_)
        have h_s6_9 : K9 S6 s6_9 := K9_t h_S6 h13
        refine Pc_B (k9_X6_settleWith7 s6_9 S0 p1 (2 : Int32)) (fun s6_13 h14 => ?_)
        have h_s6_13 : K9 S6 s6_13 := K9_t h_s6_9 h14
        exact Pc_I (fun _ => True) (fun v _ => k9_X6_flicker_60 S6 S0 s6_13 h_s6_13 v) _ trivial
      · exact Pc_s h_S6
theorem k9_X6_wheel (S6 : SS) (S0 : SS) (S4 : SS) : Pc (f_X6_wheel S6 S0 S4) (fun w => K9 S6 w.2.1) := by
  have h_S6 : K9 S6 S6 := K9_r S6
  unfold f_X6_wheel
  refine Pc_B (P := fun _ => True) (fun _ _ => trivial) (fun s4_1 _ => ?_)
  refine Pc_L (fun s6_6 e17 => ?_)
  have h_s6_6 : K9 S6 s6_6 := by rw [e17]; exact K9_I (by decide) h_S6
  exact Pc_s h_s6_6
