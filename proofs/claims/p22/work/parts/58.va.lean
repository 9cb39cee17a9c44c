/-! what calls leave as it is: the reference's tape, text and CIRCUITS; the class's tape -/
def KP (S T : SS) : Prop := (∀ k, k ≤ 31 → gI T k = gI S k) ∧ (∀ k, k ≤ 31 → gA T k = gA S k) ∧ (∀ k, gB T k = gB S k) ∧ gI T 46 = gI S 46
theorem KP_r (S : SS) : KP S S := ⟨fun _ _ => rfl, fun _ _ => rfl, fun _ => rfl, rfl⟩
theorem KP_t {S T U : SS} (h : KP S T) (g : KP T U) : KP S U := ⟨fun k q => (g.1 k q).trans (h.1 k q), fun k q => (g.2.1 k q).trans (h.2.1 k q), fun k => (g.2.2.1 k).trans (h.2.2.1 k), g.2.2.2.trans h.2.2.2⟩
theorem KP_I {S T : SS} {k : Nat} {v : Int32} (hk : 31 < k ∧ k ≠ 46) (h : KP S T) : KP S (sI T k v) := by
  refine ⟨fun j q => ?_, h.2.1, h.2.2.1, ?_⟩
  · rw [gI_ne (by omega)]; exact h.1 j q
  · rw [gI_ne (by omega)]; exact h.2.2.2
theorem KP_A {S T : SS} {k : Nat} {v : Nat → Int32} (hk : 31 < k) (h : KP S T) : KP S (sA T k v) := by
  refine ⟨h.1, fun j q => ?_, h.2.2.1, h.2.2.2⟩
  rw [gA_ne (by omega)]; exact h.2.1 j q
def KW (S T : SS) : Prop := (∀ k, k ≤ 31 → gI T k = gI S k) ∧ (∀ k, k ≤ 31 → gA T k = gA S k) ∧ (∀ k, gB T k = gB S k)
theorem KW_r (S : SS) : KW S S := ⟨fun _ _ => rfl, fun _ _ => rfl, fun _ => rfl⟩
theorem KW_t {S T U : SS} (h : KW S T) (g : KW T U) : KW S U := ⟨fun k q => (g.1 k q).trans (h.1 k q), fun k q => (g.2.1 k q).trans (h.2.1 k q), fun k => (g.2.2 k).trans (h.2.2 k)⟩
theorem KW_I {S T : SS} {k : Nat} {v : Int32} (hk : 31 < k) (h : KW S T) : KW S (sI T k v) := by
  refine ⟨fun j q => ?_, h.2⟩
  rw [gI_ne (by omega)]; exact h.1 j q
theorem KW_A {S T : SS} {k : Nat} {v : Nat → Int32} (hk : 31 < k) (h : KW S T) : KW S (sA T k v) := by
  refine ⟨h.1, fun j q => ?_, h.2.2⟩
  rw [gA_ne (by omega)]; exact h.2.1 j q
def K6 (S T : SS) : Prop := gI T 1 = gI S 1 ∧ gI T 11 = gI S 11 ∧ gA T 0 = gA S 0
theorem K6_r (S : SS) : K6 S S := ⟨rfl, rfl, rfl⟩
theorem K6_t {S T U : SS} (h : K6 S T) (g : K6 T U) : K6 S U := ⟨g.1.trans h.1, g.2.1.trans h.2.1, g.2.2.trans h.2.2⟩
theorem K6_I {S T : SS} {k : Nat} {v : Int32} (hk : 1 ≠ k ∧ 11 ≠ k) (h : K6 S T) : K6 S (sI T k v) := ⟨by rw [gI_ne hk.1]; exact h.1, by rw [gI_ne hk.2]; exact h.2.1, h.2.2⟩
theorem K6_A {S T : SS} {k : Nat} {v : Nat → Int32} (hk : 0 ≠ k) (h : K6 S T) : K6 S (sA T k v) := ⟨h.1, h.2.1, by rw [gA_ne hk]; exact h.2.2⟩
def J6 (S T : SS) : Prop := gI T 1 = gI S 1 ∧ gA T 0 = gA S 0
theorem J6_r (S : SS) : J6 S S := ⟨rfl, rfl⟩
theorem J6_I {S T : SS} {k : Nat} {v : Int32} (hk : 1 ≠ k) (h : J6 S T) : J6 S (sI T k v) := ⟨by rw [gI_ne hk]; exact h.1, h.2⟩
theorem kp_X7_settle_2 (S7 : SS) (v : (Int32 × SS)) (hv : KP S7 v.2) : Pc (b_X7_settle_2  v) (PcI (fun v : (Int32 × SS) => KP S7 v.2) (fun w => KP S7 w)) := by
  obtain ⟨v15, s7_16⟩ := v
  have h_s7_16 : KP S7 s7_16 := hv
  unfold b_X7_settle_2
  refine Pc_c (fun _ => ?_) (fun _ => ?_)
  · exact Pc_s h_s7_16
  · refine Pc_G (fun _ => ?_)
    refine Pc_L (fun s7_20 e1 => ?_)
    have h_s7_20 : KP S7 s7_20 := by rw [e1]; exact KP_A (by decide) h_s7_16
    refine Pc_L (fun v21 _ => ?_)
    exact Pc_s h_s7_20
theorem kp_X7_follow_12 (S7 : SS) (q : Nat) (v10 : Int32) (hq : 31 < q) (v : (Int32 × SS)) (hv : KP S7 v.2) : Pc (b_X7_follow_12 q v10 v) (PcI (fun v : (Int32 × SS) => KP S7 v.2) (fun w => KP S7 w)) := by
  obtain ⟨v24, s7_25⟩ := v
  have h_s7_25 : KP S7 s7_25 := hv
  unfold b_X7_follow_12
  refine Pc_c (fun _ => ?_) (fun _ => ?_)
  · exact Pc_s h_s7_25
  · refine Pc_G (fun _ => ?_)
    refine Pc_c (fun _ => ?_) (fun _ => ?_)
    · refine Pc_B (P := fun _ => True) (fun _ _ => trivial) (fun r30 _ => ?_)
      refine Pc_c (fun _ => ?_) (fun _ => ?_)
      · refine Pc_B (P := fun _ => True) (fun _ _ => trivial) (fun r35 _ => ?_)
        refine Pc_B (P := fun _ => True) (fun _ _ => trivial) (fun v45 _ => ?_)
        refine Pc_G (fun _ => ?_)
        refine Pc_L (fun s7_48 e8 => ?_)
        have h_s7_48 : KP S7 s7_48 := by rw [e8]; exact KP_A hq h_s7_25
        refine Pc_L (fun v49 _ => ?_)
        exact Pc_s h_s7_48
      · refine Pc_B (P := fun _ => True) (fun _ _ => trivial) (fun r59 _ => ?_)
        refine Pc_c (fun _ => ?_) (fun _ => ?_)
        · refine Pc_B (P := fun _ => True) (fun _ _ => trivial) (fun r65 _ => ?_)
          refine Pc_B (P := fun _ => True) (fun _ _ => trivial) (fun v75 _ => ?_)
          refine Pc_G (fun _ => ?_)
          refine Pc_L (fun s7_78 e15 => ?_)
          have h_s7_78 : KP S7 s7_78 := by rw [e15]; exact KP_A hq h_s7_25
          refine Pc_L (fun v79 _ => ?_)
          exact Pc_s h_s7_78
        · refine Pc_L (fun v64 _ => ?_)
          exact Pc_s h_s7_25
    · refine Pc_L (fun v29 _ => ?_)
      exact Pc_s h_s7_25
theorem kp_X7_follow_2 (S7 : SS) (q : Nat) (hq : 31 < q) (v : (Int32 × SS)) (hv : KP S7 v.2) : Pc (b_X7_follow_2 q v) (PcI (fun v : (Int32 × SS) => KP S7 v.2) (fun w => KP S7 w)) := by
  obtain ⟨v10, s7_11⟩ := v
  have h_s7_11 : KP S7 s7_11 := hv
  unfold b_X7_follow_2
  refine Pc_c (fun _ => ?_) (fun _ => ?_)
  · exact Pc_s h_s7_11
  · refine Pc_B (Pc_I (fun v => KP S7 v.2) (fun v hv => kp_X7_follow_12 S7 q v10 hq v hv) _ h_s7_11) (fun s7_22 h16 => ?_)
    have h_s7_22 : KP S7 s7_22 := h16
    refine Pc_L (fun v23 _ => ?_)
    exact Pc_s h_s7_22
theorem kp_X7_follow (S7 : SS) (q : Nat) (hq : 31 < q) : Pc (f_X7_follow S7 q) (fun w => KP S7 w) := by
  have h_S7 : KP S7 S7 := KP_r S7
  unfold f_X7_follow
  exact Pc_I (fun v => KP S7 v.2) (fun v hv => kp_X7_follow_2 S7 q hq v hv) _ h_S7
theorem kp_X7_settle (S7 : SS) : Pc (f_X7_settle S7) (fun w => KP S7 w) := by
  have h_S7 : KP S7 S7 := KP_r S7
  unfold f_X7_settle
  refine Pc_B (Pc_I (fun v => KP S7 v.2) (fun v hv => kp_X7_settle_2 S7  v hv) _ h_S7) (fun s7_10 h17 => ?_)
  have h_s7_10 : KP S7 s7_10 := h17
  refine Pc_B (kp_X7_follow s7_10 34 (by decide)) (fun s7_11 h18 => ?_)
  have h_s7_11 : KP S7 s7_11 := KP_t h_s7_10 h18
  exact Pc_s h_s7_11
theorem kp_X7_set (S7 : SS) (p1 : Int32) (p2 : Int32) : Pc (f_X7_set S7 p1 p2) (fun w => KP S7 w.2) := by
  have h_S7 : KP S7 S7 := KP_r S7
  unfold f_X7_set
  refine Pc_B (P := fun _ => True) (fun _ _ => trivial) (fun r1 _ => ?_)
  refine Pc_c (fun _ => ?_) (fun _ => ?_)
  · exact Pc_s h_S7
  · refine Pc_B (P := fun _ => True) (fun _ _ => trivial) (fun r6 _ => ?_)
    refine Pc_c (fun _ => ?_) (fun _ => ?_)
    · refine Pc_c (fun _ => ?_) (fun _ => ?_)
      · exact Pc_s h_S7
      · refine Pc_c (fun _ => ?_) (fun _ => ?_)
        · refine Pc_G (fun _ => ?_)
          refine Pc_L (fun s7_15 e23 => ?_)
          have h_s7_15 : KP S7 s7_15 := by rw [e23]; exact KP_A (by decide) h_S7
          refine Pc_B (kp_X7_settle s7_15) (fun s7_16 h24 => ?_)
          have h_s7_16 : KP S7 s7_16 := KP_t h_s7_15 h24
          exact Pc_s h_s7_16
        · exact Pc_s h_S7
    · exact Pc_s h_S7
theorem kp_X7_load (S7 : SS) (p1 : Int32) (p2 : Int32) : Pc (f_X7_load S7 p1 p2) (fun w => KP S7 w.2) := by
  have h_S7 : KP S7 S7 := KP_r S7
  unfold f_X7_load
  refine Pc_B (P := fun _ => True) (fun _ _ => trivial) (fun r1 _ => ?_)
  refine Pc_c (fun _ => ?_) (fun _ => ?_)
  · exact Pc_s h_S7
  · refine Pc_B (P := fun _ => True) (fun _ _ => trivial) (fun r6 _ => ?_)
    refine Pc_c (fun _ => ?_) (fun _ => ?_)
    · refine Pc_c (fun _ => ?_) (fun _ => ?_)
      · exact Pc_s h_S7
      · refine Pc_c (fun _ => ?_) (fun _ => ?_)
        · refine Pc_G (fun _ => ?_)
          refine Pc_L (fun s7_15 e29 => ?_)
          have h_s7_15 : KP S7 s7_15 := by rw [e29]; exact KP_A (by decide) h_S7
          refine Pc_B (kp_X7_settle s7_15) (fun s7_16 h30 => ?_)
          have h_s7_16 : KP S7 s7_16 := KP_t h_s7_15 h30
          exact Pc_s h_s7_16
        · exact Pc_s h_S7
    · exact Pc_s h_S7
theorem kp_X7_tick_4 (S7 : SS) (v : (Int32 × Int32 × SS)) (hv : KP S7 v.2.2) : Pc (b_X7_tick_4  v) (PcI (fun v : (Int32 × Int32 × SS) => KP S7 v.2.2) (fun w => KP S7 w.2)) := by
  obtain ⟨v16, v17, s7_18⟩ := v
  have h_s7_18 : KP S7 s7_18 := hv
  unfold b_X7_tick_4
  refine Pc_c (fun _ => ?_) (fun _ => ?_)
  · exact Pc_s h_s7_18
  · refine Pc_B (P := fun _ => True) (fun _ _ => trivial) (fun r20 _ => ?_)
    refine Pc_c (fun _ => ?_) (fun _ => ?_)
    · refine Pc_B (P := fun _ => True) (fun _ _ => trivial) (fun r25 _ => ?_)
      refine Pc_G (fun _ => ?_)
      refine Pc_B (P := fun _ => True) (fun _ _ => trivial) (fun r30 _ => ?_)
      refine Pc_G (fun _ => ?_)
      refine Pc_B (P := fun _ => True) (fun _ _ => trivial) (fun v41 _ => ?_)
      refine Pc_B (P := fun _ => True) (fun _ _ => trivial) (fun v48 _ => ?_)
      refine Pc_G (fun _ => ?_)
      refine Pc_B (P := fun _ => True) (fun _ _ => trivial) (fun v56 _ => ?_)
      refine Pc_L (fun v57 _ => ?_)
      refine Pc_L (fun s7_59 e43 => ?_)
      have h_s7_59 : KP S7 s7_59 := by rw [e43]; exact KP_A (by decide) h_s7_18
      refine Pc_L (fun v60 _ => ?_)
      exact Pc_s h_s7_59
    · refine Pc_L (fun v77 _ => ?_)
      exact Pc_s h_s7_18
theorem kp_X7_tick (S7 : SS) : Pc (f_X7_tick S7) (fun w => KP S7 w.2) := by
  have h_S7 : KP S7 S7 := KP_r S7
  unfold f_X7_tick
  refine Pc_B (Pc_I (fun v => KP S7 v.2.2) (fun v hv => kp_X7_tick_4 S7  v hv) _ h_S7) (fun w h44 => ?_)
  obtain ⟨v10, s7_11⟩ := w
  have h_s7_11 : KP S7 s7_11 := h44
  refine Pc_B (kp_X7_settle s7_11) (fun s7_12 h45 => ?_)
  have h_s7_12 : KP S7 s7_12 := KP_t h_s7_11 h45
  exact Pc_s h_s7_12
theorem kp_X7_find_7 (S7 : SS) (v : (Int32 × SS)) (hv : KP S7 v.2) : Pc (b_X7_find_7  v) (PcI (fun v : (Int32 × SS) => KP S7 v.2) (fun w => KP S7 w)) := by
  obtain ⟨v12, s7_13⟩ := v
  have h_s7_13 : KP S7 s7_13 := hv
  unfold b_X7_find_7
  refine Pc_c (fun _ => ?_) (fun _ => ?_)
  · exact Pc_s h_s7_13
  · refine Pc_B (P := fun _ => True) (fun _ _ => trivial) (fun r15 _ => ?_)
    refine Pc_c (fun _ => ?_) (fun _ => ?_)
    · refine Pc_G (fun _ => ?_)
      refine Pc_c (fun _ => ?_) (fun _ => ?_)
      · refine Pc_G (fun _ => ?_)
        refine Pc_L (fun s7_24 e48 => ?_)
        have h_s7_24 : KP S7 s7_24 := by rw [e48]; exact KP_A (by decide) h_s7_13
        refine Pc_L (fun s7_26 e49 => ?_)
        have h_s7_26 : KP S7 s7_26 := by rw [e49]; exact KP_I (by decide) h_s7_24
        refine Pc_L (fun v27 _ => ?_)
        exact Pc_s h_s7_26
      · refine Pc_L (fun v28 _ => ?_)
        exact Pc_s h_s7_13
    · refine Pc_B (P := fun _ => True) (fun _ _ => trivial) (fun r29 _ => ?_)
      refine Pc_c (fun _ => ?_) (fun _ => ?_)
      · refine Pc_G (fun _ => ?_)
        refine Pc_c (fun _ => ?_) (fun _ => ?_)
        · refine Pc_G (fun _ => ?_)
          refine Pc_L (fun s7_39 e52 => ?_)
          have h_s7_39 : KP S7 s7_39 := by rw [e52]; exact KP_A (by decide) h_s7_13
          refine Pc_L (fun s7_41 e53 => ?_)
          have h_s7_41 : KP S7 s7_41 := by rw [e53]; exact KP_I (by decide) h_s7_39
          refine Pc_L (fun v42 _ => ?_)
          exact Pc_s h_s7_41
        · refine Pc_L (fun v43 _ => ?_)
          exact Pc_s h_s7_13
      · refine Pc_L (fun v34 _ => ?_)
        exact Pc_s h_s7_13
theorem kp_X7_find (S7 : SS) : Pc (f_X7_find S7) (fun w => KP S7 w) := by
  have h_S7 : KP S7 S7 := KP_r S7
  unfold f_X7_find
  refine Pc_L (fun s7_2 e54 => ?_)
  have h_s7_2 : KP S7 s7_2 := by rw [e54]; exact KP_I (by decide) h_S7
  exact Pc_I (fun v => KP S7 v.2) (fun v hv => kp_X7_find_7 S7  v hv) _ h_s7_2
theorem kp_X7_worlds (S7 : SS) : Pc (f_X7_worlds S7) (fun w => KP S7 w.2) := by
  have h_S7 : KP S7 S7 := KP_r S7
  unfold f_X7_worlds
  refine Pc_B (kp_X7_find S7) (fun s7_1 h55 => ?_)
  have h_s7_1 : KP S7 s7_1 := KP_t h_S7 h55
  refine Pc_c (fun _ => ?_) (fun _ => ?_)
  · exact Pc_s h_s7_1
  · exact Pc_s h_s7_1
theorem kp_X7_goes_2 (S7 : SS) (v : (Int32 × SS)) (hv : KP S7 v.2) : Pc (b_X7_goes_2  v) (PcI (fun v : (Int32 × SS) => KP S7 v.2) (fun w => KP S7 w)) := by
  obtain ⟨v99, s7_100⟩ := v
  have h_s7_100 : KP S7 s7_100 := hv
  unfold b_X7_goes_2
  refine Pc_c (fun _ => ?_) (fun _ => ?_)
  · exact Pc_s h_s7_100
  · refine Pc_G (fun _ => ?_)
    refine Pc_L (fun s7_104 e56 => ?_)
    have h_s7_104 : KP S7 s7_104 := by rw [e56]; exact KP_A (by decide) h_s7_100
    refine Pc_L (fun v105 _ => ?_)
    exact Pc_s h_s7_104
theorem kp_X7_goes_30 (S7 : SS) (p1 : Int32) (v : (Int32 × SS)) (hv : KP S7 v.2) : Pc (b_X7_goes_30 p1 v) (PcI (fun v : (Int32 × SS) => KP S7 v.2) (fun w => KP S7 w)) := by
  obtain ⟨v91, s7_92⟩ := v
  have h_s7_92 : KP S7 s7_92 := hv
  unfold b_X7_goes_30
  refine Pc_c (fun _ => ?_) (fun _ => ?_)
  · exact Pc_s h_s7_92
  · refine Pc_G (fun _ => ?_)
    refine Pc_G (fun _ => ?_)
    refine Pc_L (fun s7_97 e57 => ?_)
    have h_s7_97 : KP S7 s7_97 := by rw [e57]; exact KP_A (by decide) h_s7_92
    refine Pc_L (fun v98 _ => ?_)
    exact Pc_s h_s7_97
theorem kp_X7_drives_15 (S7 : SS) (p1 : Int32) (v1 : Int32) (v : (Int32 × Int32 × SS)) (hv : KP S7 v.2.2) : Pc (b_X7_drives_15 p1 v1 v) (PcI (fun v : (Int32 × Int32 × SS) => KP S7 v.2.2) (fun w => KP S7 w.2)) := by
  obtain ⟨v25, v26, s7_27⟩ := v
  have h_s7_27 : KP S7 s7_27 := hv
  unfold b_X7_drives_15
  refine Pc_G (fun _ => ?_)
  refine Pc_c (fun _ => ?_) (fun _ => ?_)
  · exact Pc_s h_s7_27
  · refine Pc_B (P := fun _ => True) (fun _ _ => trivial) (fun r30 _ => ?_)
    refine Pc_G (fun _ => ?_)
    refine Pc_B (P := fun _ => True) (fun _ _ => trivial) (fun v41 _ => ?_)
    refine Pc_G (fun _ => ?_)
    refine Pc_c (fun _ => ?_) (fun _ => ?_)
    · refine Pc_L (fun v44 _ => ?_)
      refine Pc_B (P := fun _ => True) (fun _ _ => trivial) (fun r45 _ => ?_)
      refine Pc_G (fun _ => ?_)
      refine Pc_G (fun _ => ?_)
      refine Pc_L (fun s7_52 e64 => ?_)
      have h_s7_52 : KP S7 s7_52 := by rw [e64]; exact KP_A (by decide) h_s7_27
      refine Pc_L (fun v53 _ => ?_)
      exact Pc_s h_s7_52
    · refine Pc_L (fun v54 _ => ?_)
      exact Pc_s h_s7_27
theorem kp_X7_drives (S7 : SS) (p1 : Int32) : Pc (f_X7_drives S7 p1) (fun w => KP S7 w.2) := by
  have h_S7 : KP S7 S7 := KP_r S7
  unfold f_X7_drives
  refine Pc_L (fun v1 _ => ?_)
  refine Pc_B (Pc_I (fun v => KP S7 v.2.2) (fun v hv => kp_X7_drives_15 S7 p1 v1 v hv) _ h_S7) (fun w h65 => ?_)
  obtain ⟨v11, s7_12⟩ := w
  have h_s7_12 : KP S7 s7_12 := h65
  refine Pc_B (P := fun w => KP S7 w) ?_ (fun s7_19 h66 => ?_)
  · refine Pc_c (fun _ => ?_) (fun _ => ?_)
    · refine Pc_G (fun _ => ?_)
      refine Pc_L (fun s7_24 e67 => ?_)
      have h_s7_24 : KP S7 s7_24 := by rw [e67]; exact KP_A (by decide) h_s7_12
      exact Pc_s h_s7_24
    · exact Pc_s h_s7_12
  · have h_s7_19 : KP S7 s7_19 := h66
    refine Pc_c (fun _ => ?_) (fun _ => ?_)
    · exact Pc_s h_s7_19
    · exact Pc_s h_s7_19
theorem kp_X7_goes_79 (S7 : SS) (v31 : Int32) (v : (Int32 × Int32 × SS)) (hv : KP S7 v.2.2) : Pc (b_X7_goes_79 v31 v) (PcI (fun v : (Int32 × Int32 × SS) => KP S7 v.2.2) (fun w => KP S7 w.2)) := by
  obtain ⟨v49, v50, s7_51⟩ := v
  have h_s7_51 : KP S7 s7_51 := hv
  unfold b_X7_goes_79
  refine Pc_c (fun _ => ?_) (fun _ => ?_)
  · exact Pc_s h_s7_51
  · refine Pc_G (fun _ => ?_)
    refine Pc_c (fun _ => ?_) (fun _ => ?_)
    · refine Pc_B (P := fun _ => True) (fun _ _ => trivial) (fun r55 _ => ?_)
      refine Pc_B (P := fun w => KP S7 w) ?_ (fun s7_65 h70 => ?_)
      · refine Pc_c (fun _ => ?_) (fun _ => ?_)
        · refine Pc_B (P := fun _ => True) (fun _ _ => trivial) (fun r83 _ => ?_)
          refine Pc_G (fun _ => ?_)
          refine Pc_L (fun s7_89 e73 => ?_)
          have h_s7_89 : KP S7 s7_89 := by rw [e73]; exact KP_A (by decide) h_s7_51
          exact Pc_s h_s7_89
        · exact Pc_s h_s7_51
      · have h_s7_65 : KP S7 s7_65 := h70
        refine Pc_B (P := fun _ => True) (fun _ _ => trivial) (fun r66 _ => ?_)
        refine Pc_c (fun _ => ?_) (fun _ => ?_)
        · refine Pc_c (fun _ => ?_) (fun _ => ?_)
          · refine Pc_L (fun v73 _ => ?_)
            exact Pc_s h_s7_65
          · refine Pc_B (kp_X7_drives s7_65 v50) (fun w h76 => ?_)
            obtain ⟨r74, s7_75⟩ := w
            have h_s7_75 : KP S7 s7_75 := KP_t h_s7_65 h76
            refine Pc_c (fun _ => ?_) (fun _ => ?_)
            · refine Pc_L (fun v80 _ => ?_)
              exact Pc_s h_s7_75
            · refine Pc_L (fun v81 _ => ?_)
              exact Pc_s h_s7_75
        · refine Pc_L (fun v71 _ => ?_)
          exact Pc_s h_s7_65
    · refine Pc_L (fun v90 _ => ?_)
      exact Pc_s h_s7_51
theorem kp_X7_goes_64 (S7 : SS) (v : (Int32 × Int32 × SS)) (hv : KP S7 v.2.2) : Pc (b_X7_goes_64  v) (PcI (fun v : (Int32 × Int32 × SS) => KP S7 v.2.2) (fun w => KP S7 w.2)) := by
  obtain ⟨v30, v31, s7_32⟩ := v
  have h_s7_32 : KP S7 s7_32 := hv
  unfold b_X7_goes_64
  refine Pc_c (fun _ => ?_) (fun _ => ?_)
  · refine Pc_G (fun _ => ?_)
    exact Pc_s h_s7_32
  · refine Pc_c (fun _ => ?_) (fun _ => ?_)
    · refine Pc_G (fun _ => ?_)
      exact Pc_s h_s7_32
    · refine Pc_B (Pc_I (fun v => KP S7 v.2.2) (fun v hv => kp_X7_goes_79 S7 v31 v hv) _ h_s7_32) (fun w h77 => ?_)
      obtain ⟨v46, s7_47⟩ := w
      have h_s7_47 : KP S7 s7_47 := h77
      refine Pc_L (fun v48 _ => ?_)
      exact Pc_s h_s7_47
theorem kp_X7_goes (S7 : SS) (p1 : Int32) : Pc (f_X7_goes S7 p1) (fun w => KP S7 w.2) := by
  have h_S7 : KP S7 S7 := KP_r S7
  unfold f_X7_goes
  refine Pc_B (Pc_I (fun v => KP S7 v.2) (fun v hv => kp_X7_goes_2 S7  v hv) _ h_S7) (fun s7_10 h78 => ?_)
  have h_s7_10 : KP S7 s7_10 := h78
  refine Pc_B (Pc_I (fun v => KP S7 v.2) (fun v hv => kp_X7_goes_30 S7 p1 v hv) _ h_s7_10) (fun s7_20 h79 => ?_)
  have h_s7_20 : KP S7 s7_20 := h79
  exact Pc_I (fun v => KP S7 v.2.2) (fun v hv => kp_X7_goes_64 S7  v hv) _ h_s7_20
theorem kp_X7_legal_20 (S7 : SS) (v : (Int32 × Int32 × SS)) (hv : KP S7 v.2.2) : Pc (b_X7_legal_20  v) (PcI (fun v : (Int32 × Int32 × SS) => KP S7 v.2.2) (fun w => KP S7 w.2)) := by
  obtain ⟨v15, v16, s7_17⟩ := v
  have h_s7_17 : KP S7 s7_17 := hv
  unfold b_X7_legal_20
  refine Pc_c (fun _ => ?_) (fun _ => ?_)
  · exact Pc_s h_s7_17
  · refine Pc_B (kp_X7_goes s7_17 v16) (fun w h80 => ?_)
    obtain ⟨r19, s7_20⟩ := w
    have h_s7_20 : KP S7 s7_20 := KP_t h_s7_17 h80
    refine Pc_c (fun _ => ?_) (fun _ => ?_)
    · refine Pc_L (fun v25 _ => ?_)
      refine Pc_L (fun v26 _ => ?_)
      exact Pc_s h_s7_20
    · refine Pc_L (fun v27 _ => ?_)
      refine Pc_L (fun v28 _ => ?_)
      exact Pc_s h_s7_20
theorem kp_X7_legal (S7 : SS) : Pc (f_X7_legal S7) (fun w => KP S7 w.2) := by
  have h_S7 : KP S7 S7 := KP_r S7
  unfold f_X7_legal
  refine Pc_B (kp_X7_find S7) (fun s7_1 h81 => ?_)
  have h_s7_1 : KP S7 s7_1 := KP_t h_S7 h81
  refine Pc_c (fun _ => ?_) (fun _ => ?_)
  · exact Pc_I (fun v => KP S7 v.2.2) (fun v hv => kp_X7_legal_20 S7  v hv) _ h_s7_1
  · exact Pc_s h_s7_1
theorem kp_X7_sharp_30 (S7 : SS) (p1 : Int32) (v : (Int32 × Int32 × SS)) (hv : KP S7 v.2.2) : Pc (b_X7_sharp_30 p1 v) (PcI (fun v : (Int32 × Int32 × SS) => KP S7 v.2.2) (fun w => KP S7 w.2)) := by
  obtain ⟨v20, v21, s7_22⟩ := v
  have h_s7_22 : KP S7 s7_22 := hv
  unfold b_X7_sharp_30
  refine Pc_c (fun _ => ?_) (fun _ => ?_)
  · exact Pc_s h_s7_22
  · refine Pc_B (kp_X7_goes s7_22 v21) (fun w h82 => ?_)
    obtain ⟨r24, s7_25⟩ := w
    have h_s7_25 : KP S7 s7_25 := KP_t h_s7_22 h82
    refine Pc_c (fun _ => ?_) (fun _ => ?_)
    · refine Pc_L (fun v30 _ => ?_)
      exact Pc_s h_s7_25
    · refine Pc_c (fun _ => ?_) (fun _ => ?_)
      · refine Pc_G (fun _ => ?_)
        refine Pc_L (fun v33 _ => ?_)
        refine Pc_L (fun v34 _ => ?_)
        exact Pc_s h_s7_25
      · refine Pc_G (fun _ => ?_)
        refine Pc_c (fun _ => ?_) (fun _ => ?_)
        · refine Pc_L (fun v38 _ => ?_)
          refine Pc_L (fun v39 _ => ?_)
          exact Pc_s h_s7_25
        · refine Pc_L (fun v37 _ => ?_)
          exact Pc_s h_s7_25
theorem kp_X7_sharp (S7 : SS) (p1 : Int32) : Pc (f_X7_sharp S7 p1) (fun w => KP S7 w.2) := by
  have h_S7 : KP S7 S7 := KP_r S7
  unfold f_X7_sharp
  refine Pc_B (P := fun _ => True) (fun _ _ => trivial) (fun r1 _ => ?_)
  refine Pc_c (fun _ => ?_) (fun _ => ?_)
  · exact Pc_s h_S7
  · refine Pc_B (kp_X7_find S7) (fun s7_6 h85 => ?_)
    have h_s7_6 : KP S7 s7_6 := KP_t h_S7 h85
    refine Pc_c (fun _ => ?_) (fun _ => ?_)
    · exact Pc_I (fun v => KP S7 v.2.2) (fun v hv => kp_X7_sharp_30 S7 p1 v hv) _ h_s7_6
    · exact Pc_s h_s7_6
theorem kp_X7_gainsaid_20 (S7 : SS) (v : (Int32 × Int32 × SS)) (hv : KP S7 v.2.2) : Pc (b_X7_gainsaid_20  v) (PcI (fun v : (Int32 × Int32 × SS) => KP S7 v.2.2) (fun w => KP S7 w.2)) := by
  obtain ⟨v15, v16, s7_17⟩ := v
  have h_s7_17 : KP S7 s7_17 := hv
  unfold b_X7_gainsaid_20
  refine Pc_c (fun _ => ?_) (fun _ => ?_)
  · exact Pc_s h_s7_17
  · refine Pc_B (kp_X7_goes s7_17 v16) (fun w h86 => ?_)
    obtain ⟨r19, s7_20⟩ := w
    have h_s7_20 : KP S7 s7_20 := KP_t h_s7_17 h86
    refine Pc_c (fun _ => ?_) (fun _ => ?_)
    · refine Pc_L (fun v53 _ => ?_)
      exact Pc_s h_s7_20
    · refine Pc_B (P := fun _ => True) (fun _ _ => trivial) (fun v34 _ => ?_)
      refine Pc_L (fun v35 _ => ?_)
      exact Pc_s h_s7_20
theorem kp_X7_gainsaid (S7 : SS) : Pc (f_X7_gainsaid S7) (fun w => KP S7 w.2) := by
  have h_S7 : KP S7 S7 := KP_r S7
  unfold f_X7_gainsaid
  refine Pc_B (kp_X7_find S7) (fun s7_1 h89 => ?_)
  have h_s7_1 : KP S7 s7_1 := KP_t h_S7 h89
  refine Pc_c (fun _ => ?_) (fun _ => ?_)
  · exact Pc_I (fun v => KP S7 v.2.2) (fun v hv => kp_X7_gainsaid_20 S7  v hv) _ h_s7_1
  · exact Pc_s h_s7_1
theorem kp_X7_flicker_34 (S7 : SS) (v : (Int32 × SS)) (hv : KP S7 v.2) : Pc (b_X7_flicker_34  v) (PcI (fun v : (Int32 × SS) => KP S7 v.2) (fun w => KP S7 w)) := by
  obtain ⟨v58, s7_59⟩ := v
  have h_s7_59 : KP S7 s7_59 := hv
  unfold b_X7_flicker_34
  refine Pc_c (fun _ => ?_) (fun _ => ?_)
  · exact Pc_s h_s7_59
  · refine Pc_G (fun _ => ?_)
    refine Pc_L (fun s7_63 e90 => ?_)
    have h_s7_63 : KP S7 s7_63 := by rw [e90]; exact KP_A (by decide) h_s7_59
    refine Pc_L (fun s7_65 e91 => ?_)
    have h_s7_65 : KP S7 s7_65 := by rw [e91]; exact KP_A (by decide) h_s7_63
    refine Pc_L (fun v66 _ => ?_)
    exact Pc_s h_s7_65
theorem kp_X7_flicker_114 (S7 : SS) (s7_32 : SS) (h_s7_32 : KP S7 s7_32) (v : (Int32 × Int32)) : Pc (b_X7_flicker_114 s7_32 v) (PcI (fun _ : (Int32 × Int32) => True) (fun w => KP S7 w.2)) := by
  obtain ⟨v45, v46⟩ := v
  unfold b_X7_flicker_114
  refine Pc_c (fun _ => ?_) (fun _ => ?_)
  · exact Pc_s h_s7_32
  · refine Pc_G (fun _ => ?_)
    refine Pc_c (fun _ => ?_) (fun _ => ?_)
    · refine Pc_L (fun v50 _ => ?_)
      exact Pc_s trivial
    · refine Pc_c (fun _ => ?_) (fun _ => ?_)
      · refine Pc_c (fun _ => ?_) (fun _ => ?_)
        · refine Pc_c (fun _ => ?_) (fun _ => ?_)
          · exact Pc_s h_s7_32
          · refine Pc_L (fun v55 _ => ?_)
            refine Pc_L (fun v56 _ => ?_)
            exact Pc_s trivial
        · refine Pc_L (fun v57 _ => ?_)
          exact Pc_s trivial
      · refine Pc_L (fun v52 _ => ?_)
        exact Pc_s trivial
theorem kp_X7_flicker (S7 : SS) (p1 : Int32) (p2 : Int32) : Pc (f_X7_flicker S7 p1 p2) (fun w => KP S7 w.2) := by
  have h_S7 : KP S7 S7 := KP_r S7
  unfold f_X7_flicker
  refine Pc_B (P := fun _ => True) (fun _ _ => trivial) (fun r1 _ => ?_)
  refine Pc_c (fun _ => ?_) (fun _ => ?_)
  · exact Pc_s h_S7
  · refine Pc_B (P := fun _ => True) (fun _ _ => trivial) (fun r6 _ => ?_)
    refine Pc_c (fun _ => ?_) (fun _ => ?_)
    · refine Pc_G (fun _ => ?_)
      refine Pc_c (fun _ => ?_) (fun _ => ?_)
      · exact Pc_s h_S7
      · refine Pc_c (fun _ => ?_) (fun _ => ?_)
        · refine Pc_B (Pc_I (fun v => KP S7 v.2) (fun v hv => kp_X7_flicker_34 S7  v hv) _ h_S7) (fun s7_23 h96 => ?_)
          have h_s7_23 : KP S7 s7_23 := h96
          refine Pc_L (fun s7_25 e97 => ?_)
          have h_s7_25 : KP S7 s7_25 := by rw [e97]; exact KP_A (by decide) h_s7_23
          refine Pc_L (fun s7_27 e98 => ?_)
          have h_s7_27 : KP S7 s7_27 := by rw [e98]; exact KP_A (by decide) h_s7_25
          refine Pc_B (kp_X7_follow s7_27 36 (by decide)) (fun s7_28 h99 => ?_)
          have h_s7_28 : KP S7 s7_28 := KP_t h_s7_27 h99
          refine Pc_B (kp_X7_follow s7_28 37 (by decide)) (fun s7_32 h100 => ?_)
          have h_s7_32 : KP S7 s7_32 := KP_t h_s7_28 h100
          exact Pc_I (fun _ => True) (fun v _ => kp_X7_flicker_114 S7 s7_32 h_s7_32 v) _ trivial
        · exact Pc_s h_S7
    · exact Pc_s h_S7
theorem kp_X7_change (S7 : SS) (p1 : Int32) (p2 : Int32) : Pc (f_X7_change S7 p1 p2) (fun w => KP S7 w) := by
  have h_S7 : KP S7 S7 := KP_r S7
  unfold f_X7_change
  refine Pc_G (fun _ => ?_)
  refine Pc_L (fun s7_3 e101 => ?_)
  have h_s7_3 : KP S7 s7_3 := by rw [e101]; exact KP_A (by decide) h_S7
  refine Pc_L (fun s7_5 e102 => ?_)
  have h_s7_5 : KP S7 s7_5 := by rw [e102]; exact KP_A (by decide) h_s7_3
  refine Pc_B (P := fun w => KP S7 w) ?_ (fun s7_12 h103 => ?_)
  · refine Pc_c (fun _ => ?_) (fun _ => ?_)
    · exact Pc_s h_s7_5
    · refine Pc_G (fun _ => ?_)
      refine Pc_L (fun s7_18 e104 => ?_)
      have h_s7_18 : KP S7 s7_18 := by rw [e104]; exact KP_A (by decide) h_s7_5
      exact Pc_s h_s7_18
  · have h_s7_12 : KP S7 s7_12 := h103
    refine Pc_L (fun s7_14 e105 => ?_)
    have h_s7_14 : KP S7 s7_14 := by rw [e105]; exact KP_A (by decide) h_s7_12
    exact Pc_s h_s7_14
theorem kp_X7_put (S7 : SS) (p1 : Int32) (p2 : Int32) : Pc (f_X7_put S7 p1 p2) (fun w => KP S7 w.2) := by
  have h_S7 : KP S7 S7 := KP_r S7
  unfold f_X7_put
  refine Pc_c (fun _ => ?_) (fun _ => ?_)
  · exact Pc_s h_S7
  · refine Pc_B (P := fun _ => True) (fun _ _ => trivial) (fun r2 _ => ?_)
    refine Pc_c (fun _ => ?_) (fun _ => ?_)
    · exact Pc_s h_S7
    · refine Pc_B (P := fun _ => True) (fun _ _ => trivial) (fun r7 _ => ?_)
      refine Pc_c (fun _ => ?_) (fun _ => ?_)
      · refine Pc_c (fun _ => ?_) (fun _ => ?_)
        · exact Pc_s h_S7
        · refine Pc_c (fun _ => ?_) (fun _ => ?_)
          · refine Pc_G (fun _ => ?_)
            refine Pc_c (fun _ => ?_) (fun _ => ?_)
            · exact Pc_s h_S7
            · refine Pc_B (kp_X7_change S7 p1 p2) (fun s7_16 h110 => ?_)
              have h_s7_16 : KP S7 s7_16 := KP_t h_S7 h110
              exact Pc_s h_s7_16
          · exact Pc_s h_S7
      · exact Pc_s h_S7
theorem kp_X7_looks_14 (S7 : SS) (v79 : Int32) (v : (Int32 × Int32 × SS)) (hv : KP S7 v.2.2) : Pc (b_X7_looks_14 v79 v) (PcI (fun v : (Int32 × Int32 × SS) => KP S7 v.2.2) (fun w => KP S7 w.2)) := by
  obtain ⟨v94, v95, s7_96⟩ := v
  have h_s7_96 : KP S7 s7_96 := hv
  unfold b_X7_looks_14
  refine Pc_c (fun _ => ?_) (fun _ => ?_)
  · exact Pc_s h_s7_96
  · refine Pc_G (fun _ => ?_)
    refine Pc_c (fun _ => ?_) (fun _ => ?_)
    · refine Pc_B (P := fun _ => True) (fun _ _ => trivial) (fun r101 _ => ?_)
      refine Pc_c (fun _ => ?_) (fun _ => ?_)
      · refine Pc_B (P := fun _ => True) (fun _ _ => trivial) (fun r106 _ => ?_)
        refine Pc_G (fun _ => ?_)
        refine Pc_c (fun _ => ?_) (fun _ => ?_)
        · refine Pc_L (fun v112 _ => ?_)
          exact Pc_s h_s7_96
        · refine Pc_B (P := fun _ => True) (fun _ _ => trivial) (fun r113 _ => ?_)
          refine Pc_c (fun _ => ?_) (fun _ => ?_)
          · refine Pc_L (fun v124 _ => ?_)
            exact Pc_s h_s7_96
          · refine Pc_B (kp_X7_change s7_96 v95 r106) (fun s7_118 h117 => ?_)
            have h_s7_118 : KP S7 s7_118 := KP_t h_s7_96 h117
            refine Pc_L (fun v122 _ => ?_)
            refine Pc_L (fun v123 _ => ?_)
            exact Pc_s h_s7_118
      · refine Pc_L (fun v125 _ => ?_)
        exact Pc_s h_s7_96
    · refine Pc_L (fun v100 _ => ?_)
      exact Pc_s h_s7_96
theorem kp_X7_looks_4 (S7 : SS) (v : (Int32 × Int32 × SS)) (hv : KP S7 v.2.2) : Pc (b_X7_looks_4  v) (PcI (fun v : (Int32 × Int32 × SS) => KP S7 v.2.2) (fun w => KP S7 w.2)) := by
  obtain ⟨v78, v79, s7_80⟩ := v
  have h_s7_80 : KP S7 s7_80 := hv
  unfold b_X7_looks_4
  refine Pc_c (fun _ => ?_) (fun _ => ?_)
  · exact Pc_s h_s7_80
  · refine Pc_B (Pc_I (fun v => KP S7 v.2.2) (fun v hv => kp_X7_looks_14 S7 v79 v hv) _ h_s7_80) (fun w h118 => ?_)
    obtain ⟨v91, s7_92⟩ := w
    have h_s7_92 : KP S7 s7_92 := h118
    refine Pc_L (fun v93 _ => ?_)
    exact Pc_s h_s7_92
theorem kp_X7_looks_109 (S7 : SS) (v : (Int32 × SS)) (hv : KP S7 v.2) : Pc (b_X7_looks_109  v) (PcI (fun v : (Int32 × SS) => KP S7 v.2) (fun w => KP S7 w)) := by
  obtain ⟨v38, s7_39⟩ := v
  have h_s7_39 : KP S7 s7_39 := hv
  unfold b_X7_looks_109
  refine Pc_c (fun _ => ?_) (fun _ => ?_)
  · exact Pc_s h_s7_39
  · refine Pc_B (P := fun _ => True) (fun _ _ => trivial) (fun r41 _ => ?_)
    refine Pc_c (fun _ => ?_) (fun _ => ?_)
    · refine Pc_B (P := fun _ => True) (fun _ _ => trivial) (fun r47 _ => ?_)
      refine Pc_c (fun _ => ?_) (fun _ => ?_)
      · refine Pc_L (fun v77 _ => ?_)
        exact Pc_s h_s7_39
      · refine Pc_B (P := fun _ => True) (fun _ _ => trivial) (fun r52 _ => ?_)
        refine Pc_G (fun _ => ?_)
        refine Pc_c (fun _ => ?_) (fun _ => ?_)
        · refine Pc_L (fun v76 _ => ?_)
          exact Pc_s h_s7_39
        · refine Pc_L (fun s7_59 e125 => ?_)
          have h_s7_59 : KP S7 s7_59 := by rw [e125]; exact KP_A (by decide) h_s7_39
          refine Pc_G (fun _ => ?_)
          refine Pc_L (fun v61 _ => ?_)
          refine Pc_G (fun _ => ?_)
          refine Pc_B (P := fun _ => True) (fun _ _ => trivial) (fun v69 _ => ?_)
          refine Pc_L (fun s7_71 e128 => ?_)
          have h_s7_71 : KP S7 s7_71 := by rw [e128]; exact KP_I (by decide) h_s7_59
          refine Pc_L (fun s7_73 e129 => ?_)
          have h_s7_73 : KP S7 s7_73 := by rw [e129]; exact KP_A (by decide) h_s7_71
          refine Pc_L (fun v74 _ => ?_)
          exact Pc_s h_s7_73
    · refine Pc_L (fun v46 _ => ?_)
      exact Pc_s h_s7_39
theorem kp_X7_looks_236 (S7 : SS) (v10 : Int32) (v : (Int32 × SS)) (hv : KP S7 v.2) : Pc (b_X7_looks_236 v10 v) (PcI (fun v : (Int32 × SS) => KP S7 v.2) (fun w => KP S7 w.2)) := by
  obtain ⟨v31, s7_32⟩ := v
  have h_s7_32 : KP S7 s7_32 := hv
  unfold b_X7_looks_236
  refine Pc_c (fun _ => ?_) (fun _ => ?_)
  · exact Pc_s h_s7_32
  · refine Pc_G (fun _ => ?_)
    refine Pc_L (fun s7_36 e130 => ?_)
    have h_s7_36 : KP S7 s7_36 := by rw [e130]; exact KP_A (by decide) h_s7_32
    refine Pc_L (fun v37 _ => ?_)
    exact Pc_s h_s7_36
theorem kp_X7_looks (S7 : SS) : Pc (f_X7_looks S7) (fun w => KP S7 w.2) := by
  have h_S7 : KP S7 S7 := KP_r S7
  unfold f_X7_looks
  refine Pc_B (Pc_I (fun v => KP S7 v.2.2) (fun v hv => kp_X7_looks_4 S7  v hv) _ h_S7) (fun w h131 => ?_)
  obtain ⟨v10, s7_11⟩ := w
  have h_s7_11 : KP S7 s7_11 := h131
  refine Pc_B (Pc_I (fun v => KP S7 v.2) (fun v hv => kp_X7_looks_109 S7  v hv) _ h_s7_11) (fun s7_21 h132 => ?_)
  have h_s7_21 : KP S7 s7_21 := h132
  exact Pc_I (fun v => KP S7 v.2) (fun v hv => kp_X7_looks_236 S7 v10 v hv) _ h_s7_21
theorem kp_X7_run_45 (S7 : SS) (v : (Int32 × Int32 × SS)) (hv : KP S7 v.2.2) : Pc (b_X7_run_45  v) (PcI (fun v : (Int32 × Int32 × SS) => KP S7 v.2.2) (fun w => KP S7 w.2)) := by
  obtain ⟨v42, v43, s7_44⟩ := v
  have h_s7_44 : KP S7 s7_44 := hv
  unfold b_X7_run_45
  refine Pc_c (fun _ => ?_) (fun _ => ?_)
  · exact Pc_s h_s7_44
  · refine Pc_L (fun v46 _ => ?_)
    refine Pc_G (fun _ => ?_)
    refine Pc_c (fun _ => ?_) (fun _ => ?_)
    · refine Pc_L (fun v49 _ => ?_)
      refine Pc_L (fun s7_51 e133 => ?_)
      have h_s7_51 : KP S7 s7_51 := by rw [e133]; exact KP_A (by decide) h_s7_44
      refine Pc_L (fun s7_53 e134 => ?_)
      have h_s7_53 : KP S7 s7_53 := by rw [e134]; exact KP_I (by decide) h_s7_51
      refine Pc_G (fun _ => ?_)
      refine Pc_c (fun _ => ?_) (fun _ => ?_)
      · refine Pc_L (fun v62 _ => ?_)
        exact Pc_s h_s7_53
      · refine Pc_B (kp_X7_change s7_53 v43 v49) (fun s7_56 h135 => ?_)
        have h_s7_56 : KP S7 s7_56 := KP_t h_s7_53 h135
        refine Pc_L (fun v60 _ => ?_)
        refine Pc_L (fun v61 _ => ?_)
        exact Pc_s h_s7_56
    · refine Pc_L (fun v63 _ => ?_)
      exact Pc_s h_s7_44
theorem kp_X7_run_27 (S7 : SS) (p1 : Int32) (v : (Int32 × Int32 × SS)) (hv : KP S7 v.2.2) : Pc (b_X7_run_27 p1 v) (PcI (fun v : (Int32 × Int32 × SS) => KP S7 v.2.2) (fun w => KP S7 w.2)) := by
  obtain ⟨v18, v19, s7_20⟩ := v
  have h_s7_20 : KP S7 s7_20 := hv
  unfold b_X7_run_27
  refine Pc_c (fun _ => ?_) (fun _ => ?_)
  · exact Pc_s h_s7_20
  · refine Pc_L (fun s7_23 e136 => ?_)
    have h_s7_23 : KP S7 s7_23 := by rw [e136]; exact KP_I (by decide) h_s7_20
    refine Pc_B (Pc_I (fun v => KP S7 v.2.2) (fun v hv => kp_X7_run_45 S7  v hv) _ h_s7_23) (fun w h137 => ?_)
    obtain ⟨v33, s7_34⟩ := w
    have h_s7_34 : KP S7 s7_34 := h137
    refine Pc_B (kp_X7_looks s7_34) (fun w h138 => ?_)
    obtain ⟨r35, s7_36⟩ := w
    have h_s7_36 : KP S7 s7_36 := KP_t h_s7_34 h138
    refine Pc_L (fun v40 _ => ?_)
    refine Pc_L (fun v41 _ => ?_)
    exact Pc_s h_s7_36
theorem kp_X7_run (S7 : SS) (p1 : Int32) : Pc (f_X7_run S7 p1) (fun w => KP S7 w.2) := by
  have h_S7 : KP S7 S7 := KP_r S7
  unfold f_X7_run
  refine Pc_c (fun _ => ?_) (fun _ => ?_)
  · exact Pc_s h_S7
  · refine Pc_c (fun _ => ?_) (fun _ => ?_)
    · exact Pc_s h_S7
    · refine Pc_c (fun _ => ?_) (fun _ => ?_)
      · refine Pc_B (kp_X7_looks S7) (fun w h139 => ?_)
        obtain ⟨r4, s7_5⟩ := w
        have h_s7_5 : KP S7 s7_5 := KP_t h_S7 h139
        exact Pc_I (fun v => KP S7 v.2.2) (fun v hv => kp_X7_run_27 S7 p1 v hv) _ h_s7_5
      · exact Pc_s h_S7
theorem kp_X7_about (S7 : SS) (p1 : Int32) : Pc (f_X7_about S7 p1) (fun w => KP S7 w.2) := by
  have h_S7 : KP S7 S7 := KP_r S7
  unfold f_X7_about
  refine Pc_B (kp_X7_find S7) (fun s7_1 h140 => ?_)
  have h_s7_1 : KP S7 s7_1 := KP_t h_S7 h140
  refine Pc_c (fun _ => ?_) (fun _ => ?_)
  · exact Pc_s h_s7_1
  · refine Pc_c (fun _ => ?_) (fun _ => ?_)
    · exact Pc_s h_s7_1
    · refine Pc_c (fun _ => ?_) (fun _ => ?_)
      · refine Pc_c (fun _ => ?_) (fun _ => ?_)
        · exact Pc_s h_s7_1
        · exact Pc_s h_s7_1
      · refine Pc_c (fun _ => ?_) (fun _ => ?_)
        · refine Pc_c (fun _ => ?_) (fun _ => ?_)
          · exact Pc_s h_s7_1
          · refine Pc_B (P := fun _ => True) (fun _ _ => trivial) (fun r11 _ => ?_)
            refine Pc_c (fun _ => ?_) (fun _ => ?_)
            · exact Pc_s h_s7_1
            · exact Pc_s h_s7_1
        · refine Pc_c (fun _ => ?_) (fun _ => ?_)
          · refine Pc_c (fun _ => ?_) (fun _ => ?_)
            · exact Pc_s h_s7_1
            · exact Pc_s h_s7_1
          · refine Pc_c (fun _ => ?_) (fun _ => ?_)
            · exact Pc_s h_s7_1
            · exact Pc_s h_s7_1
theorem kw_X7_wheel_65 (S7 : SS) (v16 : Int32) (v : (Int32 × SS)) (hv : KW S7 v.2) : Pc (b_X7_wheel_65 v16 v) (PcI (fun v : (Int32 × SS) => KW S7 v.2) (fun w => KW S7 w)) := by
  obtain ⟨v39, s7_40⟩ := v
  have h_s7_40 : KW S7 s7_40 := hv
  unfold b_X7_wheel_65
  refine Pc_c (fun _ => ?_) (fun _ => ?_)
  · exact Pc_s h_s7_40
  · refine Pc_G (fun _ => ?_)
    refine Pc_L (fun s7_44 e1 => ?_)
    have h_s7_44 : KW S7 s7_44 := by rw [e1]; exact KW_A (by decide) h_s7_40
    refine Pc_L (fun v45 _ => ?_)
    exact Pc_s h_s7_44
theorem kw_X7_wheel_17 (S7 : SS) (v : (Int32 × SS)) (hv : KW S7 v.2) : Pc (b_X7_wheel_17  v) (PcI (fun v : (Int32 × SS) => KW S7 v.2) (fun w => KW S7 w.2)) := by
  obtain ⟨v16, s7_17⟩ := v
  have h_s7_17 : KW S7 s7_17 := hv
  unfold b_X7_wheel_17
  refine Pc_c (fun _ => ?_) (fun _ => ?_)
  · exact Pc_s h_s7_17
  · refine Pc_G (fun _ => ?_)
    refine Pc_L (fun s7_21 e2 => ?_)
    have h_s7_21 : KW S7 s7_21 := by rw [e2]; exact KW_A (by decide) h_s7_17
    refine Pc_L (fun s7_23 e3 => ?_)
    have h_s7_23 : KW S7 s7_23 := by rw [e3]; exact KW_A (by decide) h_s7_21
    refine Pc_L (fun s7_25 e4 => ?_)
    have h_s7_25 : KW S7 s7_25 := by rw [e4]; exact KW_A (by decide) h_s7_23
    refine Pc_L (fun s7_27 e5 => ?_)
    have h_s7_27 : KW S7 s7_27 := by rw [e5]; exact KW_A (by decide) h_s7_25
    refine Pc_B (Pc_I (fun v => KW S7 v.2) (fun v hv => kw_X7_wheel_65 S7 v16 v hv) _ h_s7_27) (fun s7_37 h6 => ?_)
    have h_s7_37 : KW S7 s7_37 := h6
    refine Pc_L (fun v38 _ => ?_)
    exact Pc_s h_s7_37
theorem kw_X7_wheel (S7 : SS) : Pc (f_X7_wheel S7) (fun w => KW S7 w.2) := by
  have h_S7 : KW S7 S7 := KW_r S7
  unfold f_X7_wheel
  refine Pc_L (fun s7_2 e7 => ?_)
  have h_s7_2 : KW S7 s7_2 := by rw [e7]; exact KW_I (by decide) h_S7
  refine Pc_L (fun s7_4 e8 => ?_)
  have h_s7_4 : KW S7 s7_4 := by rw [e8]; exact KW_I (by decide) h_s7_2
  refine Pc_L (fun s7_6 e9 => ?_)
  have h_s7_6 : KW S7 s7_6 := by rw [e9]; exact KW_I (by decide) h_s7_4
  exact Pc_I (fun v => KW S7 v.2) (fun v hv => kw_X7_wheel_17 S7  v hv) _ h_s7_6
theorem k6_X6_settleValues (S6 : SS) (S0 : SS) : Pc (f_X6_settleValues S6 S0) (fun w => K6 S6 w) := by
  have h_S6 : K6 S6 S6 := K6_r S6
  unfold f_X6_settleValues
  refine Pc_B (P := fun _ => True) (fun _ _ => trivial) (fun sa_1 _ => ?_)
  refine Pc_L (fun s6_5 e3 => ?_)
  have h_s6_5 : K6 S6 s6_5 := by rw [e3]; exact K6_A (by decide) h_S6
  refine Pc_L (fun s6_7 e4 => ?_)
  have h_s6_7 : K6 S6 s6_7 := by rw [e4]; exact K6_I (by decide) h_s6_5
  exact Pc_s h_s6_7
theorem k6_X6_set (S6 : SS) (S0 : SS) (p1 : Int32) (p2 : Int32) : Pc (f_X6_set S6 S0 p1 p2) (fun w => K6 S6 w.2) := by
  have h_S6 : K6 S6 S6 := K6_r S6
  unfold f_X6_set
  refine Pc_B (P := fun _ => True) (fun _ _ => trivial) (fun r1 _ => ?_)
  refine Pc_c (fun _ => ?_) (fun _ => ?_)
  · exact Pc_s h_S6
  · refine Pc_c (fun _ => ?_) (fun _ => ?_)
    · exact Pc_s h_S6
    · refine Pc_c (fun _ => ?_) (fun _ => ?_)
      · refine Pc_G (fun _ => ?_)
        refine Pc_L (fun s6_10 e7 => ?_)
        have h_s6_10 : K6 S6 s6_10 := by rw [e7]; exact K6_A (by decide) h_S6
        refine Pc_B (k6_X6_settleValues s6_10 S0) (fun s6_11 h8 => ?_)
        have h_s6_11 : K6 S6 s6_11 := K6_t h_s6_10 h8
        exact Pc_s h_s6_11
      · exact Pc_s h_S6
theorem k6_X6_load (S6 : SS) (S0 : SS) (p1 : Int32) (p2 : Int32) : Pc (f_X6_load S6 S0 p1 p2) (fun w => K6 S6 w.2) := by
  have h_S6 : K6 S6 S6 := K6_r S6
  unfold f_X6_load
  refine Pc_B (P := fun _ => True) (fun _ _ => trivial) (fun r1 _ => ?_)
  refine Pc_c (fun _ => ?_) (fun _ => ?_)
  · exact Pc_s h_S6
  · refine Pc_c (fun _ => ?_) (fun _ => ?_)
    · exact Pc_s h_S6
    · refine Pc_c (fun _ => ?_) (fun _ => ?_)
      · refine Pc_G (fun _ => ?_)
        refine Pc_L (fun s6_10 e11 => ?_)
        have h_s6_10 : K6 S6 s6_10 := by rw [e11]; exact K6_A (by decide) h_S6
        refine Pc_B (k6_X6_settleValues s6_10 S0) (fun s6_11 h12 => ?_)
        have h_s6_11 : K6 S6 s6_11 := K6_t h_s6_10 h12
        exact Pc_s h_s6_11
      · exact Pc_s h_S6
theorem k6_X6_tick_2 (S6 : SS) (S0 : SS) (v : (Int32 × SS)) (hv : K6 S6 v.2) : Pc (b_X6_tick_2 S0 v) (PcI (fun v : (Int32 × SS) => K6 S6 v.2) (fun w => K6 S6 w)) := by
  obtain ⟨v37, s6_38⟩ := v
  have h_s6_38 : K6 S6 s6_38 := hv
  unfold b_X6_tick_2
  refine Pc_c (fun _ => ?_) (fun _ => ?_)
  · exact Pc_s h_s6_38
  · refine Pc_G (fun _ => ?_)
    refine Pc_B (P := fun _ => True) (fun _ _ => trivial) (fun v47 _ => ?_)
    refine Pc_L (fun s6_49 e15 => ?_)
    have h_s6_49 : K6 S6 s6_49 := by rw [e15]; exact K6_A (by decide) h_s6_38
    refine Pc_L (fun v50 _ => ?_)
    exact Pc_s h_s6_49
theorem k6_X6_tick_63 (S6 : SS) (S0 : SS) (v : (Int32 × Int32 × SS)) (hv : K6 S6 v.2.2) : Pc (b_X6_tick_63 S0 v) (PcI (fun v : (Int32 × Int32 × SS) => K6 S6 v.2.2) (fun w => K6 S6 w.2)) := by
  obtain ⟨v26, v27, s6_28⟩ := v
  have h_s6_28 : K6 S6 s6_28 := hv
  unfold b_X6_tick_63
  refine Pc_c (fun _ => ?_) (fun _ => ?_)
  · exact Pc_s h_s6_28
  · refine Pc_G (fun _ => ?_)
    refine Pc_c (fun _ => ?_) (fun _ => ?_)
    · refine Pc_L (fun v32 _ => ?_)
      exact Pc_s h_s6_28
    · refine Pc_L (fun v33 _ => ?_)
      refine Pc_L (fun s6_35 e16 => ?_)
      have h_s6_35 : K6 S6 s6_35 := by rw [e16]; exact K6_A (by decide) h_s6_28
      refine Pc_L (fun v36 _ => ?_)
      exact Pc_s h_s6_35
theorem k6_X6_tick (S6 : SS) (S0 : SS) : Pc (f_X6_tick S6 S0) (fun w => K6 S6 w.2) := by
  have h_S6 : K6 S6 S6 := K6_r S6
  unfold f_X6_tick
  refine Pc_B (Pc_I (fun v => K6 S6 v.2) (fun v hv => k6_X6_tick_2 S6 S0 v hv) _ h_S6) (fun s6_10 h17 => ?_)
  have h_s6_10 : K6 S6 s6_10 := h17
  refine Pc_B (Pc_I (fun v => K6 S6 v.2.2) (fun v hv => k6_X6_tick_63 S6 S0 v hv) _ h_s6_10) (fun w h18 => ?_)
  obtain ⟨v20, s6_21⟩ := w
  have h_s6_21 : K6 S6 s6_21 := h18
  refine Pc_B (k6_X6_settleValues s6_21 S0) (fun s6_22 h19 => ?_)
  have h_s6_22 : K6 S6 s6_22 := K6_t h_s6_21 h19
  exact Pc_s h_s6_22
theorem k6_X6_settleWith6 (S6 : SS) (S0 : SS) (p2 : Int32) (p3 : Int32) : Pc (f_X6_settleWith6 S6 S0 p2 p3) (fun w => K6 S6 w) := by
  have h_S6 : K6 S6 S6 := K6_r S6
  unfold f_X6_settleWith6
  refine Pc_L (fun s6_2 e20 => ?_)
  have h_s6_2 : K6 S6 s6_2 := by rw [e20]; exact K6_A (by decide) h_S6
  refine Pc_G (fun _ => ?_)
  refine Pc_L (fun s6_5 e21 => ?_)
  have h_s6_5 : K6 S6 s6_5 := by rw [e21]; exact K6_A (by decide) h_s6_2
  refine Pc_B (P := fun _ => True) (fun _ _ => trivial) (fun sa_6 _ => ?_)
  refine Pc_L (fun s6_10 e24 => ?_)
  have h_s6_10 : K6 S6 s6_10 := by rw [e24]; exact K6_A (by decide) h_s6_5
  exact Pc_s h_s6_10
theorem k6_X6_settleWith7 (S6 : SS) (S0 : SS) (p2 : Int32) (p3 : Int32) : Pc (f_X6_settleWith7 S6 S0 p2 p3) (fun w => K6 S6 w) := by
  have h_S6 : K6 S6 S6 := K6_r S6
  unfold f_X6_settleWith7
  refine Pc_L (fun s6_2 e25 => ?_)
  have h_s6_2 : K6 S6 s6_2 := by rw [e25]; exact K6_A (by decide) h_S6
  refine Pc_G (fun _ => ?_)
  refine Pc_L (fun s6_5 e26 => ?_)
  have h_s6_5 : K6 S6 s6_5 := by rw [e26]; exact K6_A (by decide) h_s6_2
  refine Pc_B (P := fun _ => True) (fun _ _ => trivial) (fun sa_6 _ => ?_)
  refine Pc_L (fun s6_10 e29 => ?_)
  have h_s6_10 : K6 S6 s6_10 := by rw [e29]; exact K6_A (by decide) h_s6_5
  exact Pc_s h_s6_10
theorem k6_X6_flicker_60 (S6 : SS) (S0 : SS) (s6_13 : SS) (h_s6_13 : K6 S6 s6_13) (v : (Int32 × Int32)) : Pc (b_X6_flicker_60 S0 s6_13 v) (PcI (fun _ : (Int32 × Int32) => True) (fun w => K6 S6 w.2)) := by
  obtain ⟨v26, v27⟩ := v
  unfold b_X6_flicker_60
  refine Pc_c (fun _ => ?_) (fun _ => ?_)
  · exact Pc_s h_s6_13
  · refine Pc_G (fun _ => ?_)
    refine Pc_c (fun _ => ?_) (fun _ => ?_)
    · refine Pc_L (fun v31 _ => ?_)
      exact Pc_s trivial
    · refine Pc_c (fun _ => ?_) (fun _ => ?_)
      · refine Pc_c (fun _ => ?_) (fun _ => ?_)
        · refine Pc_c (fun _ => ?_) (fun _ => ?_)
          · exact Pc_s h_s6_13
          · refine Pc_L (fun v37 _ => ?_)
            refine Pc_L (fun v38 _ => ?_)
            exact Pc_s trivial
        · refine Pc_L (fun v35 _ => ?_)
          exact Pc_s trivial
      · refine Pc_L (fun v33 _ => ?_)
        exact Pc_s trivial
theorem k6_X6_flicker (S6 : SS) (S0 : SS) (p1 : Int32) (p2 : Int32) : Pc (f_X6_flicker S6 S0 p1 p2) (fun w => K6 S6 w.2) := by
  have h_S6 : K6 S6 S6 := K6_r S6
  unfold f_X6_flicker
  refine Pc_B (P := fun _ => True) (fun _ _ => trivial) (fun r1 _ => ?_)
  refine Pc_c (fun _ => ?_) (fun _ => ?_)
  · exact Pc_s h_S6
  · refine Pc_G (fun _ => ?_)
    refine Pc_c (fun _ => ?_) (fun _ => ?_)
    · exact Pc_s h_S6
    · refine Pc_c (fun _ => ?_) (fun _ => ?_)
      · refine Pc_B (k6_X6_settleWith6 S6 S0 p1 ((1 : Int32) - (gA S6 5 p1.toNatClampNeg))) (fun s6_9 h32 => ?_)
        have h_s6_9 : K6 S6 s6_9 := K6_t h_S6 h32
        refine Pc_B (k6_X6_settleWith7 s6_9 S0 p1 (2 : Int32)) (fun s6_13 h33 => ?_)
        have h_s6_13 : K6 S6 s6_13 := K6_t h_s6_9 h33
        exact Pc_I (fun _ => True) (fun v _ => k6_X6_flicker_60 S6 S0 s6_13 h_s6_13 v) _ trivial
      · exact Pc_s h_S6
theorem k6_X6_goThroughWorlds (S6 : SS) (S0 : SS) (S5 : SS) : Pc (f_X6_goThroughWorlds S6 S0 S5) (fun w => K6 S6 w.2.1) := by
  have h_S6 : K6 S6 S6 := K6_r S6
  unfold f_X6_goThroughWorlds
  refine Pc_B (P := fun _ => True) (fun _ _ => trivial) (fun r1 _ => ?_)
  refine Pc_c (fun _ => ?_) (fun _ => ?_)
  · refine Pc_c (fun _ => ?_) (fun _ => ?_)
    · refine Pc_B (P := fun _ => True) (fun _ _ => trivial) (fun s5_7 _ => ?_)
      refine Pc_L (fun s6_12 e38 => ?_)
      have h_s6_12 : K6 S6 s6_12 := by rw [e38]; exact K6_I (by decide) h_S6
      exact Pc_s h_s6_12
    · exact Pc_s h_S6
  · exact Pc_s h_S6
theorem k6_X6_legal (S6 : SS) (S0 : SS) (S5 : SS) : Pc (f_X6_legal S6 S0 S5) (fun w => K6 S6 w.2.1) := by
  have h_S6 : K6 S6 S6 := K6_r S6
  unfold f_X6_legal
  refine Pc_B (k6_X6_goThroughWorlds S6 S0 S5) (fun w h39 => ?_)
  obtain ⟨r1, s6_2, s5_3⟩ := w
  have h_s6_2 : K6 S6 s6_2 := K6_t h_S6 h39
  refine Pc_c (fun _ => ?_) (fun _ => ?_)
  · exact Pc_s h_s6_2
  · exact Pc_s h_s6_2
theorem k6_X6_sharp (S6 : SS) (S0 : SS) (S5 : SS) (p1 : Int32) : Pc (f_X6_sharp S6 S0 S5 p1) (fun w => K6 S6 w.2.1) := by
  have h_S6 : K6 S6 S6 := K6_r S6
  unfold f_X6_sharp
  refine Pc_B (k6_X6_goThroughWorlds S6 S0 S5) (fun w h40 => ?_)
  obtain ⟨r1, s6_2, s5_3⟩ := w
  have h_s6_2 : K6 S6 s6_2 := K6_t h_S6 h40
  refine Pc_c (fun _ => ?_) (fun _ => ?_)
  · exact Pc_s h_s6_2
  · refine Pc_B (P := fun _ => True) (fun _ _ => trivial) (fun r8 _ => ?_)
    refine Pc_c (fun _ => ?_) (fun _ => ?_)
    · exact Pc_s h_s6_2
    · refine Pc_B (P := fun _ => True) (fun _ _ => trivial) (fun r13 _ => ?_)
      exact Pc_s h_s6_2
theorem k6_X6_gainsaid_12 (S6 : SS) (S0 : SS) (s6_2 : SS) (s5_3 : SS) (h_s6_2 : K6 S6 s6_2) (v : (Int32)) : Pc (b_X6_gainsaid_12 S0 s6_2 s5_3 v) (PcI (fun _ : (Int32) => True) (fun w => K6 S6 w.2.1)) := by
  have v17 := v
  unfold b_X6_gainsaid_12
  refine Pc_c (fun _ => ?_) (fun _ => ?_)
  · exact Pc_s h_s6_2
  · refine Pc_G (fun _ => ?_)
    refine Pc_c (fun _ => ?_) (fun _ => ?_)
    · refine Pc_L (fun v21 _ => ?_)
      exact Pc_s trivial
    · refine Pc_B (P := fun _ => True) (fun _ _ => trivial) (fun r22 _ => ?_)
      refine Pc_c (fun _ => ?_) (fun _ => ?_)
      · refine Pc_L (fun v27 _ => ?_)
        exact Pc_s trivial
      · exact Pc_s h_s6_2
theorem k6_X6_gainsaid (S6 : SS) (S0 : SS) (S5 : SS) : Pc (f_X6_gainsaid S6 S0 S5) (fun w => K6 S6 w.2.1) := by
  have h_S6 : K6 S6 S6 := K6_r S6
  unfold f_X6_gainsaid
  refine Pc_B (k6_X6_goThroughWorlds S6 S0 S5) (fun w h47 => ?_)
  obtain ⟨r1, s6_2, s5_3⟩ := w
  have h_s6_2 : K6 S6 s6_2 := K6_t h_S6 h47
  refine Pc_c (fun _ => ?_) (fun _ => ?_)
  · exact Pc_s h_s6_2
  · exact Pc_I (fun _ => True) (fun v _ => k6_X6_gainsaid_12 S6 S0 s6_2 s5_3 h_s6_2 v) _ trivial
theorem j6_X6_wheel (S6 : SS) (S0 : SS) (S4 : SS) : Pc (f_X6_wheel S6 S0 S4) (fun w => J6 S6 w.2.1) := by
  have h_S6 : J6 S6 S6 := J6_r S6
  unfold f_X6_wheel
  refine Pc_B (P := fun _ => True) (fun _ _ => trivial) (fun s4_1 _ => ?_)
  refine Pc_L (fun s6_6 e3 => ?_)
  have h_s6_6 : J6 S6 s6_6 := by rw [e3]; exact J6_I (by decide) h_S6
  exact Pc_s h_s6_6
