/-! what calls leave as it is: the reference's wheel -/
def KH (S T : SS) : Prop := (∀ k, 40 ≤ k → gA T k = gA S k) ∧ ∀ k, 46 ≤ k → gI T k = gI S k
theorem KH_r (S : SS) : KH S S := ⟨fun _ _ => rfl, fun _ _ => rfl⟩
theorem KH_t {S T U : SS} (h : KH S T) (g : KH T U) : KH S U := ⟨fun k q => (g.1 k q).trans (h.1 k q), fun k q => (g.2 k q).trans (h.2 k q)⟩
theorem KH_I {S T : SS} {k : Nat} {v : Int32} (hk : k < 46) (h : KH S T) : KH S (sI T k v) := ⟨h.1, fun j q => by rw [gI_ne (by omega)]; exact h.2 j q⟩
theorem KH_A {S T : SS} {k : Nat} {v : Nat → Int32} (hk : k < 40) (h : KH S T) : KH S (sA T k v) := ⟨fun j q => by rw [gA_ne (by omega)]; exact h.1 j q, h.2⟩
theorem kh_X7_settle_2 (S7 : SS) (v : (Int32 × SS)) (hv : KH S7 v.2) : Pc (b_X7_settle_2  v) (PcI (fun v : (Int32 × SS) => KH S7 v.2) (fun w => KH S7 w)) := by
  obtain ⟨v15, s7_16⟩ := v
  have h_s7_16 : KH S7 s7_16 := hv
  unfold b_X7_settle_2
  refine Pc_c (fun _ => ?_) (fun _ => ?_)
  · exact Pc_s h_s7_16
  · refine Pc_G (fun _ => ?_)
    refine Pc_L (fun s7_20 e1 => ?_)
    have h_s7_20 : KH S7 s7_20 := by rw [e1]; exact KH_A (by decide) h_s7_16
    refine Pc_L (fun v21 _ => ?_)
    exact Pc_s h_s7_20
theorem kh_X7_follow_12 (S7 : SS) (q : Nat) (v10 : Int32) (hq : q < 40) (v : (Int32 × SS)) (hv : KH S7 v.2) : Pc (b_X7_follow_12 q v10 v) (PcI (fun v : (Int32 × SS) => KH S7 v.2) (fun w => KH S7 w)) := by
  obtain ⟨v24, s7_25⟩ := v
  have h_s7_25 : KH S7 s7_25 := hv
  unfold b_X7_follow_12
  refine Pc_c (fun _ => ?_) (fun _ => ?_)
  · exact Pc_s h_s7_25
  · refine Pc_G (fun _ => ?_)
    refine Pc_c (fun _ => ?_) (fun _ => ?_)
    · refine Pc_B (P := fun _ => True) (fun _ _ => trivial) (fun r30 _ => ?_)
      refine Pc_c (fun _ => ?_) (fun _ => ?_)
      · refine Pc_B (P := fun _ => True) (fun _ _ => trivial) (fun r35 _ => ?_)
        refine Pc_B (P := fun _ => True) (fun _ _ => trivial) (fun v45 _ => ?_)
        refine Pc_G (fun _ => ?_)
        refine Pc_L (fun s7_48 e8 => ?_)
        have h_s7_48 : KH S7 s7_48 := by rw [e8]; exact KH_A hq h_s7_25
        refine Pc_L (fun v49 _ => ?_)
        exact Pc_s h_s7_48
      · refine Pc_B (P := fun _ => True) (fun _ _ => trivial) (fun r59 _ => ?_)
        refine Pc_c (fun _ => ?_) (fun _ => ?_)
        · refine Pc_B (P := fun _ => True) (fun _ _ => trivial) (fun r65 _ => ?_)
          refine Pc_B (P := fun _ => True) (fun _ _ => trivial) (fun v75 _ => ?_)
          refine Pc_G (fun _ => ?_)
          refine Pc_L (fun s7_78 e15 => ?_)
          have h_s7_78 : KH S7 s7_78 := by rw [e15]; exact KH_A hq h_s7_25
          refine Pc_L (fun v79 _ => ?_)
          exact Pc_s h_s7_78
        · refine Pc_L (fun v64 _ => ?_)
          exact Pc_s h_s7_25
    · refine Pc_L (fun v29 _ => ?_)
      exact Pc_s h_s7_25
theorem kh_X7_follow_2 (S7 : SS) (q : Nat) (hq : q < 40) (v : (Int32 × SS)) (hv : KH S7 v.2) : Pc (b_X7_follow_2 q v) (PcI (fun v : (Int32 × SS) => KH S7 v.2) (fun w => KH S7 w)) := by
  obtain ⟨v10, s7_11⟩ := v
  have h_s7_11 : KH S7 s7_11 := hv
  unfold b_X7_follow_2
  refine Pc_c (fun _ => ?_) (fun _ => ?_)
  · exact Pc_s h_s7_11
  · refine Pc_B (Pc_I (fun v => KH S7 v.2) (fun v hv => kh_X7_follow_12 S7 q v10 hq v hv) _ h_s7_11) (fun s7_22 h16 => ?_)
    have h_s7_22 : KH S7 s7_22 := h16
    refine Pc_L (fun v23 _ => ?_)
    exact Pc_s h_s7_22
theorem kh_X7_follow (S7 : SS) (q : Nat) (hq : q < 40) : Pc (f_X7_follow S7 q) (fun w => KH S7 w) := by
  have h_S7 : KH S7 S7 := KH_r S7
  unfold f_X7_follow
  exact Pc_I (fun v => KH S7 v.2) (fun v hv => kh_X7_follow_2 S7 q hq v hv) _ h_S7
theorem kh_X7_settle (S7 : SS) : Pc (f_X7_settle S7) (fun w => KH S7 w) := by
  have h_S7 : KH S7 S7 := KH_r S7
  unfold f_X7_settle
  refine Pc_B (Pc_I (fun v => KH S7 v.2) (fun v hv => kh_X7_settle_2 S7  v hv) _ h_S7) (fun s7_10 h17 => ?_)
  have h_s7_10 : KH S7 s7_10 := h17
  refine Pc_B (kh_X7_follow s7_10 34 (by decide)) (fun s7_11 h18 => ?_)
  have h_s7_11 : KH S7 s7_11 := KH_t h_s7_10 h18
  exact Pc_s h_s7_11
theorem kh_X7_set (S7 : SS) (p1 : Int32) (p2 : Int32) : Pc (f_X7_set S7 p1 p2) (fun w => KH S7 w.2) := by
  have h_S7 : KH S7 S7 := KH_r S7
  unfold f_X7_set
  refine Pc_B (P := fun _ => True) (fun _ _ => trivial) (fun r1 _ => ?_)
  refine Pc_c (fun _ => ?_) (fun _ => ?_)
  · exact Pc_s h_S7
  · refine Pc_B (P := fun _ => True) (fun _ _ => trivial) (fun r6 _ => ?_)
    refine Pc_c (fun _ => ?_) (fun _ => ?_)
    · refine Pc_c (fun _ => ?_) (fun _ => ?_)
      · exact Pc_s h_S7
      · refine Pc_c (fun _ => ?_) (fun _ => ?_)
        · refine Pc_G (fun _ => ?_)
          refine Pc_L (fun s7_15 e23 => ?_)
          have h_s7_15 : KH S7 s7_15 := by rw [e23]; exact KH_A (by decide) h_S7
          refine Pc_B (kh_X7_settle s7_15) (fun s7_16 h24 => ?_)
          have h_s7_16 : KH S7 s7_16 := KH_t h_s7_15 h24
          exact Pc_s h_s7_16
        · exact Pc_s h_S7
    · exact Pc_s h_S7
theorem kh_X7_load (S7 : SS) (p1 : Int32) (p2 : Int32) : Pc (f_X7_load S7 p1 p2) (fun w => KH S7 w.2) := by
  have h_S7 : KH S7 S7 := KH_r S7
  unfold f_X7_load
  refine Pc_B (P := fun _ => True) (fun _ _ => trivial) (fun r1 _ => ?_)
  refine Pc_c (fun _ => ?_) (fun _ => ?_)
  · exact Pc_s h_S7
  · refine Pc_B (P := fun _ => True) (fun _ _ => trivial) (fun r6 _ => ?_)
    refine Pc_c (fun _ => ?_) (fun _ => ?_)
    · refine Pc_c (fun _ => ?_) (fun _ => ?_)
      · exact Pc_s h_S7
      · refine Pc_c (fun _ => ?_) (fun _ => ?_)
        · refine Pc_G (fun _ => ?_)
          refine Pc_L (fun s7_15 e29 => ?_)
          have h_s7_15 : KH S7 s7_15 := by rw [e29]; exact KH_A (by decide) h_S7
          refine Pc_B (kh_X7_settle s7_15) (fun s7_16 h30 => ?_)
          have h_s7_16 : KH S7 s7_16 := KH_t h_s7_15 h30
          exact Pc_s h_s7_16
        · exact Pc_s h_S7
    · exact Pc_s h_S7
theorem kh_X7_tick_4 (S7 : SS) (v : (Int32 × Int32 × SS)) (hv : KH S7 v.2.2) : Pc (b_X7_tick_4  v) (PcI (fun v : (Int32 × Int32 × SS) => KH S7 v.2.2) (fun w => KH S7 w.2)) := by
  obtain ⟨v16, v17, s7_18⟩ := v
  have h_s7_18 : KH S7 s7_18 := hv
  unfold b_X7_tick_4
  refine Pc_c (fun _ => ?_) (fun _ => ?_)
  · exact Pc_s h_s7_18
  · refine Pc_B (P := fun _ => True) (fun _ _ => trivial) (fun r20 _ => ?_)
    refine Pc_c (fun _ => ?_) (fun _ => ?_)
    · refine Pc_B (P := fun _ => True) (fun _ _ => trivial) (fun r25 _ => ?_)
      refine Pc_G (fun _ => ?_)
      refine Pc_B (P := fun _ => True) (fun _ _ => trivial) (fun r30 _ => ?_)
      refine Pc_G (fun _ => ?_)
      refine Pc_B (P := fun _ => True) (fun _ _ => trivial) (fun v41 _ => ?_)
      refine Pc_B (P := fun _ => True) (fun _ _ => trivial) (fun v48 _ => ?_)
      refine Pc_G (fun _ => ?_)
      refine Pc_B (P := fun _ => True) (fun _ _ => trivial) (fun v56 _ => ?_)
      refine Pc_L (fun v57 _ => ?_)
      refine Pc_L (fun s7_59 e43 => ?_)
      have h_s7_59 : KH S7 s7_59 := by rw [e43]; exact KH_A (by decide) h_s7_18
      refine Pc_L (fun v60 _ => ?_)
      exact Pc_s h_s7_59
    · refine Pc_L (fun v77 _ => ?_)
      exact Pc_s h_s7_18
theorem kh_X7_tick (S7 : SS) : Pc (f_X7_tick S7) (fun w => KH S7 w.2) := by
  have h_S7 : KH S7 S7 := KH_r S7
  unfold f_X7_tick
  refine Pc_B (Pc_I (fun v => KH S7 v.2.2) (fun v hv => kh_X7_tick_4 S7  v hv) _ h_S7) (fun w h44 => ?_)
  obtain ⟨v10, s7_11⟩ := w
  have h_s7_11 : KH S7 s7_11 := h44
  refine Pc_B (kh_X7_settle s7_11) (fun s7_12 h45 => ?_)
  have h_s7_12 : KH S7 s7_12 := KH_t h_s7_11 h45
  exact Pc_s h_s7_12
theorem kh_X7_find_7 (S7 : SS) (v : (Int32 × SS)) (hv : KH S7 v.2) : Pc (b_X7_find_7  v) (PcI (fun v : (Int32 × SS) => KH S7 v.2) (fun w => KH S7 w)) := by
  obtain ⟨v12, s7_13⟩ := v
  have h_s7_13 : KH S7 s7_13 := hv
  unfold b_X7_find_7
  refine Pc_c (fun _ => ?_) (fun _ => ?_)
  · exact Pc_s h_s7_13
  · refine Pc_B (P := fun _ => True) (fun _ _ => trivial) (fun r15 _ => ?_)
    refine Pc_c (fun _ => ?_) (fun _ => ?_)
    · refine Pc_G (fun _ => ?_)
      refine Pc_c (fun _ => ?_) (fun _ => ?_)
      · refine Pc_G (fun _ => ?_)
        refine Pc_L (fun s7_24 e48 => ?_)
        have h_s7_24 : KH S7 s7_24 := by rw [e48]; exact KH_A (by decide) h_s7_13
        refine Pc_L (fun s7_26 e49 => ?_)
        have h_s7_26 : KH S7 s7_26 := by rw [e49]; exact KH_I (by decide) h_s7_24
        refine Pc_L (fun v27 _ => ?_)
        exact Pc_s h_s7_26
      · refine Pc_L (fun v28 _ => ?_)
        exact Pc_s h_s7_13
    · refine Pc_B (P := fun _ => True) (fun _ _ => trivial) (fun r29 _ => ?_)
      refine Pc_c (fun _ => ?_) (fun _ => ?_)
      · refine Pc_G (fun _ => ?_)
        refine Pc_c (fun _ => ?_) (fun _ => ?_)
        · refine Pc_G (fun _ => ?_)
          refine Pc_L (fun s7_39 e52 => ?_)
          have h_s7_39 : KH S7 s7_39 := by rw [e52]; exact KH_A (by decide) h_s7_13
          refine Pc_L (fun s7_41 e53 => ?_)
          have h_s7_41 : KH S7 s7_41 := by rw [e53]; exact KH_I (by decide) h_s7_39
          refine Pc_L (fun v42 _ => ?_)
          exact Pc_s h_s7_41
        · refine Pc_L (fun v43 _ => ?_)
          exact Pc_s h_s7_13
      · refine Pc_L (fun v34 _ => ?_)
        exact Pc_s h_s7_13
theorem kh_X7_find (S7 : SS) : Pc (f_X7_find S7) (fun w => KH S7 w) := by
  have h_S7 : KH S7 S7 := KH_r S7
  unfold f_X7_find
  refine Pc_L (fun s7_2 e54 => ?_)
  have h_s7_2 : KH S7 s7_2 := by rw [e54]; exact KH_I (by decide) h_S7
  exact Pc_I (fun v => KH S7 v.2) (fun v hv => kh_X7_find_7 S7  v hv) _ h_s7_2
theorem kh_X7_worlds (S7 : SS) : Pc (f_X7_worlds S7) (fun w => KH S7 w.2) := by
  have h_S7 : KH S7 S7 := KH_r S7
  unfold f_X7_worlds
  refine Pc_B (kh_X7_find S7) (fun s7_1 h55 => ?_)
  have h_s7_1 : KH S7 s7_1 := KH_t h_S7 h55
  refine Pc_c (fun _ => ?_) (fun _ => ?_)
  · exact Pc_s h_s7_1
  · exact Pc_s h_s7_1
theorem kh_X7_goes_2 (S7 : SS) (v : (Int32 × SS)) (hv : KH S7 v.2) : Pc (b_X7_goes_2  v) (PcI (fun v : (Int32 × SS) => KH S7 v.2) (fun w => KH S7 w)) := by
  obtain ⟨v99, s7_100⟩ := v
  have h_s7_100 : KH S7 s7_100 := hv
  unfold b_X7_goes_2
  refine Pc_c (fun _ => ?_) (fun _ => ?_)
  · exact Pc_s h_s7_100
  · refine Pc_G (fun _ => ?_)
    refine Pc_L (fun s7_104 e56 => ?_)
    have h_s7_104 : KH S7 s7_104 := by rw [e56]; exact KH_A (by decide) h_s7_100
    refine Pc_L (fun v105 _ => ?_)
    exact Pc_s h_s7_104
theorem kh_X7_goes_30 (S7 : SS) (p1 : Int32) (v : (Int32 × SS)) (hv : KH S7 v.2) : Pc (b_X7_goes_30 p1 v) (PcI (fun v : (Int32 × SS) => KH S7 v.2) (fun w => KH S7 w)) := by
  obtain ⟨v91, s7_92⟩ := v
  have h_s7_92 : KH S7 s7_92 := hv
  unfold b_X7_goes_30
  refine Pc_c (fun _ => ?_) (fun _ => ?_)
  · exact Pc_s h_s7_92
  · refine Pc_G (fun _ => ?_)
    refine Pc_G (fun _ => ?_)
    refine Pc_L (fun s7_97 e57 => ?_)
    have h_s7_97 : KH S7 s7_97 := by rw [e57]; exact KH_A (by decide) h_s7_92
    refine Pc_L (fun v98 _ => ?_)
    exact Pc_s h_s7_97
theorem kh_X7_drives_15 (S7 : SS) (p1 : Int32) (v1 : Int32) (v : (Int32 × Int32 × SS)) (hv : KH S7 v.2.2) : Pc (b_X7_drives_15 p1 v1 v) (PcI (fun v : (Int32 × Int32 × SS) => KH S7 v.2.2) (fun w => KH S7 w.2)) := by
  obtain ⟨v25, v26, s7_27⟩ := v
  have h_s7_27 : KH S7 s7_27 := hv
  unfold b_X7_drives_15
  refine Pc_G (fun _ => ?_)
  refine Pc_c (fun _ => ?_) (fun _ => ?_)
  · exact Pc_s h_s7_27
  · refine Pc_B (P := fun _ => True) (fun _ _ => trivial) (fun r30 _ => ?_)
    refine Pc_G (fun _ => ?_)
    refine Pc_B (P := fun _ => True) (fun _ _ => trivial) (fun v41 _ => ?_)
    refine Pc_G (fun _ => ?_)
    refine Pc_c (fun _ => ?_) (fun _ => ?_)
    · refine Pc_L (fun v44 _ => ?_)
      refine Pc_B (P := fun _ => True) (fun _ _ => trivial) (fun r45 _ => ?_)
      refine Pc_G (fun _ => ?_)
      refine Pc_G (fun _ => ?_)
      refine Pc_L (fun s7_52 e64 => ?_)
      have h_s7_52 : KH S7 s7_52 := by rw [e64]; exact KH_A (by decide) h_s7_27
      refine Pc_L (fun v53 _ => ?_)
      exact Pc_s h_s7_52
    · refine Pc_L (fun v54 _ => ?_)
      exact Pc_s h_s7_27
theorem kh_X7_drives (S7 : SS) (p1 : Int32) : Pc (f_X7_drives S7 p1) (fun w => KH S7 w.2) := by
  have h_S7 : KH S7 S7 := KH_r S7
  unfold f_X7_drives
  refine Pc_L (fun v1 _ => ?_)
  refine Pc_B (Pc_I (fun v => KH S7 v.2.2) (fun v hv => kh_X7_drives_15 S7 p1 v1 v hv) _ h_S7) (fun w h65 => ?_)
  obtain ⟨v11, s7_12⟩ := w
  have h_s7_12 : KH S7 s7_12 := h65
  refine Pc_B (P := fun w => KH S7 w) ?_ (fun s7_19 h66 => ?_)
  · refine Pc_c (fun _ => ?_) (fun _ => ?_)
    · refine Pc_G (fun _ => ?_)
      refine Pc_L (fun s7_24 e67 => ?_)
      have h_s7_24 : KH S7 s7_24 := by rw [e67]; exact KH_A (by decide) h_s7_12
      exact Pc_s h_s7_24
    · exact Pc_s h_s7_12
  · have h_s7_19 : KH S7 s7_19 := h66
    refine Pc_c (fun _ => ?_) (fun _ => ?_)
    · exact Pc_s h_s7_19
    · exact Pc_s h_s7_19
theorem kh_X7_goes_79 (S7 : SS) (v31 : Int32) (v : (Int32 × Int32 × SS)) (hv : KH S7 v.2.2) : Pc (b_X7_goes_79 v31 v) (PcI (fun v : (Int32 × Int32 × SS) => KH S7 v.2.2) (fun w => KH S7 w.2)) := by
  obtain ⟨v49, v50, s7_51⟩ := v
  have h_s7_51 : KH S7 s7_51 := hv
  unfold b_X7_goes_79
  refine Pc_c (fun _ => ?_) (fun _ => ?_)
  · exact Pc_s h_s7_51
  · refine Pc_G (fun _ => ?_)
    refine Pc_c (fun _ => ?_) (fun _ => ?_)
    · refine Pc_B (P := fun _ => True) (fun _ _ => trivial) (fun r55 _ => ?_)
      refine Pc_B (P := fun w => KH S7 w) ?_ (fun s7_65 h70 => ?_)
      · refine Pc_c (fun _ => ?_) (fun _ => ?_)
        · refine Pc_B (P := fun _ => True) (fun _ _ => trivial) (fun r83 _ => ?_)
          refine Pc_G (fun _ => ?_)
          refine Pc_L (fun s7_89 e73 => ?_)
          have h_s7_89 : KH S7 s7_89 := by rw [e73]; exact KH_A (by decide) h_s7_51
          exact Pc_s h_s7_89
        · exact Pc_s h_s7_51
      · have h_s7_65 : KH S7 s7_65 := h70
        refine Pc_B (P := fun _ => True) (fun _ _ => trivial) (fun r66 _ => ?_)
        refine Pc_c (fun _ => ?_) (fun _ => ?_)
        · refine Pc_c (fun _ => ?_) (fun _ => ?_)
          · refine Pc_L (fun v73 _ => ?_)
            exact Pc_s h_s7_65
          · refine Pc_B (kh_X7_drives s7_65 v50) (fun w h76 => ?_)
            obtain ⟨r74, s7_75⟩ := w
            have h_s7_75 : KH S7 s7_75 := KH_t h_s7_65 h76
            refine Pc_c (fun _ => ?_) (fun _ => ?_)
            · refine Pc_L (fun v80 _ => ?_)
              exact Pc_s h_s7_75
            · refine Pc_L (fun v81 _ => ?_)
              exact Pc_s h_s7_75
        · refine Pc_L (fun v71 _ => ?_)
          exact Pc_s h_s7_65
    · refine Pc_L (fun v90 _ => ?_)
      exact Pc_s h_s7_51
theorem kh_X7_goes_64 (S7 : SS) (v : (Int32 × Int32 × SS)) (hv : KH S7 v.2.2) : Pc (b_X7_goes_64  v) (PcI (fun v : (Int32 × Int32 × SS) => KH S7 v.2.2) (fun w => KH S7 w.2)) := by
  obtain ⟨v30, v31, s7_32⟩ := v
  have h_s7_32 : KH S7 s7_32 := hv
  unfold b_X7_goes_64
  refine Pc_c (fun _ => ?_) (fun _ => ?_)
  · refine Pc_G (fun _ => ?_)
    exact Pc_s h_s7_32
  · refine Pc_c (fun _ => ?_) (fun _ => ?_)
    · refine Pc_G (fun _ => ?_)
      exact Pc_s h_s7_32
    · refine Pc_B (Pc_I (fun v => KH S7 v.2.2) (fun v hv => kh_X7_goes_79 S7 v31 v hv) _ h_s7_32) (fun w h77 => ?_)
      obtain ⟨v46, s7_47⟩ := w
      have h_s7_47 : KH S7 s7_47 := h77
      refine Pc_L (fun v48 _ => ?_)
      exact Pc_s h_s7_47
theorem kh_X7_goes (S7 : SS) (p1 : Int32) : Pc (f_X7_goes S7 p1) (fun w => KH S7 w.2) := by
  have h_S7 : KH S7 S7 := KH_r S7
  unfold f_X7_goes
  refine Pc_B (Pc_I (fun v => KH S7 v.2) (fun v hv => kh_X7_goes_2 S7  v hv) _ h_S7) (fun s7_10 h78 => ?_)
  have h_s7_10 : KH S7 s7_10 := h78
  refine Pc_B (Pc_I (fun v => KH S7 v.2) (fun v hv => kh_X7_goes_30 S7 p1 v hv) _ h_s7_10) (fun s7_20 h79 => ?_)
  have h_s7_20 : KH S7 s7_20 := h79
  exact Pc_I (fun v => KH S7 v.2.2) (fun v hv => kh_X7_goes_64 S7  v hv) _ h_s7_20
theorem kh_X7_legal_20 (S7 : SS) (v : (Int32 × Int32 × SS)) (hv : KH S7 v.2.2) : Pc (b_X7_legal_20  v) (PcI (fun v : (Int32 × Int32 × SS) => KH S7 v.2.2) (fun w => KH S7 w.2)) := by
  obtain ⟨v15, v16, s7_17⟩ := v
  have h_s7_17 : KH S7 s7_17 := hv
  unfold b_X7_legal_20
  refine Pc_c (fun _ => ?_) (fun _ => ?_)
  · exact Pc_s h_s7_17
  · refine Pc_B (kh_X7_goes s7_17 v16) (fun w h80 => ?_)
    obtain ⟨r19, s7_20⟩ := w
    have h_s7_20 : KH S7 s7_20 := KH_t h_s7_17 h80
    refine Pc_c (fun _ => ?_) (fun _ => ?_)
    · refine Pc_L (fun v25 _ => ?_)
      refine Pc_L (fun v26 _ => ?_)
      exact Pc_s h_s7_20
    · refine Pc_L (fun v27 _ => ?_)
      refine Pc_L (fun v28 _ => ?_)
      exact Pc_s h_s7_20
theorem kh_X7_legal (S7 : SS) : Pc (f_X7_legal S7) (fun w => KH S7 w.2) := by
  have h_S7 : KH S7 S7 := KH_r S7
  unfold f_X7_legal
  refine Pc_B (kh_X7_find S7) (fun s7_1 h81 => ?_)
  have h_s7_1 : KH S7 s7_1 := KH_t h_S7 h81
  refine Pc_c (fun _ => ?_) (fun _ => ?_)
  · exact Pc_I (fun v => KH S7 v.2.2) (fun v hv => kh_X7_legal_20 S7  v hv) _ h_s7_1
  · exact Pc_s h_s7_1
theorem kh_X7_sharp_30 (S7 : SS) (p1 : Int32) (v : (Int32 × Int32 × SS)) (hv : KH S7 v.2.2) : Pc (b_X7_sharp_30 p1 v) (PcI (fun v : (Int32 × Int32 × SS) => KH S7 v.2.2) (fun w => KH S7 w.2)) := by
  obtain ⟨v20, v21, s7_22⟩ := v
  have h_s7_22 : KH S7 s7_22 := hv
  unfold b_X7_sharp_30
  refine Pc_c (fun _ => ?_) (fun _ => ?_)
  · exact Pc_s h_s7_22
  · refine Pc_B (kh_X7_goes s7_22 v21) (fun w h82 => ?_)
    obtain ⟨r24, s7_25⟩ := w
    have h_s7_25 : KH S7 s7_25 := KH_t h_s7_22 h82
    refine Pc_c (fun _ => ?_) (fun _ => ?_)
    · refine Pc_L (fun v30 _ => ?_)
      exact Pc_s h_s7_25
    · refine Pc_c (fun _ => ?_) (fun _ => ?_)
      · refine Pc_G (fun _ => ?_)
        refine Pc_L (fun v33 _ => ?_)
        refine Pc_L (fun v34 _ => ?_)
        exact Pc_s h_s7_25
      · refine Pc_G (fun _ => ?_)
        refine Pc_c (fun _ => ?_) (fun _ => ?_)
        · refine Pc_L (fun v38 _ => ?_)
          refine Pc_L (fun v39 _ => ?_)
          exact Pc_s h_s7_25
        · refine Pc_L (fun v37 _ => ?_)
          exact Pc_s h_s7_25
theorem kh_X7_sharp (S7 : SS) (p1 : Int32) : Pc (f_X7_sharp S7 p1) (fun w => KH S7 w.2) := by
  have h_S7 : KH S7 S7 := KH_r S7
  unfold f_X7_sharp
  refine Pc_B (P := fun _ => True) (fun _ _ => trivial) (fun r1 _ => ?_)
  refine Pc_c (fun _ => ?_) (fun _ => ?_)
  · exact Pc_s h_S7
  · refine Pc_B (kh_X7_find S7) (fun s7_6 h85 => ?_)
    have h_s7_6 : KH S7 s7_6 := KH_t h_S7 h85
    refine Pc_c (fun _ => ?_) (fun _ => ?_)
    · exact Pc_I (fun v => KH S7 v.2.2) (fun v hv => kh_X7_sharp_30 S7 p1 v hv) _ h_s7_6
    · exact Pc_s h_s7_6
theorem kh_X7_gainsaid_20 (S7 : SS) (v : (Int32 × Int32 × SS)) (hv : KH S7 v.2.2) : Pc (b_X7_gainsaid_20  v) (PcI (fun v : (Int32 × Int32 × SS) => KH S7 v.2.2) (fun w => KH S7 w.2)) := by
  obtain ⟨v15, v16, s7_17⟩ := v
  have h_s7_17 : KH S7 s7_17 := hv
  unfold b_X7_gainsaid_20
  refine Pc_c (fun _ => ?_) (fun _ => ?_)
  · exact Pc_s h_s7_17
  · refine Pc_B (kh_X7_goes s7_17 v16) (fun w h86 => ?_)
    obtain ⟨r19, s7_20⟩ := w
    have h_s7_20 : KH S7 s7_20 := KH_t h_s7_17 h86
    refine Pc_c (fun _ => ?_) (fun _ => ?_)
    · refine Pc_L (fun v53 _ => ?_)
      exact Pc_s h_s7_20
    · refine Pc_B (P := fun _ => True) (fun _ _ => trivial) (fun v34 _ => ?_)
      refine Pc_L (fun v35 _ => ?_)
      exact Pc_s h_s7_20
theorem kh_X7_gainsaid (S7 : SS) : Pc (f_X7_gainsaid S7) (fun w => KH S7 w.2) := by
  have h_S7 : KH S7 S7 := KH_r S7
  unfold f_X7_gainsaid
  refine Pc_B (kh_X7_find S7) (fun s7_1 h89 => ?_)
  have h_s7_1 : KH S7 s7_1 := KH_t h_S7 h89
  refine Pc_c (fun _ => ?_) (fun _ => ?_)
  · exact Pc_I (fun v => KH S7 v.2.2) (fun v hv => kh_X7_gainsaid_20 S7  v hv) _ h_s7_1
  · exact Pc_s h_s7_1
theorem kh_X7_flicker_34 (S7 : SS) (v : (Int32 × SS)) (hv : KH S7 v.2) : Pc (b_X7_flicker_34  v) (PcI (fun v : (Int32 × SS) => KH S7 v.2) (fun w => KH S7 w)) := by
  obtain ⟨v58, s7_59⟩ := v
  have h_s7_59 : KH S7 s7_59 := hv
  unfold b_X7_flicker_34
  refine Pc_c (fun _ => ?_) (fun _ => ?_)
  · exact Pc_s h_s7_59
  · refine Pc_G (fun _ => ?_)
    refine Pc_L (fun s7_63 e90 => ?_)
    have h_s7_63 : KH S7 s7_63 := by rw [e90]; exact KH_A (by decide) h_s7_59
    refine Pc_L (fun s7_65 e91 => ?_)
    have h_s7_65 : KH S7 s7_65 := by rw [e91]; exact KH_A (by decide) h_s7_63
    refine Pc_L (fun v66 _ => ?_)
    exact Pc_s h_s7_65
theorem kh_X7_flicker_114 (S7 : SS) (s7_32 : SS) (h_s7_32 : KH S7 s7_32) (v : (Int32 × Int32)) : Pc (b_X7_flicker_114 s7_32 v) (PcI (fun _ : (Int32 × Int32) => True) (fun w => KH S7 w.2)) := by
  obtain ⟨v45, v46⟩ := v
  unfold b_X7_flicker_114
  refine Pc_c (fun _ => ?_) (fun _ => ?_)
  · exact Pc_s h_s7_32
  · refine Pc_G (fun _ => ?_)
    refine Pc_c (fun _ => ?_) (fun _ => ?_)
    · refine Pc_L (fun v50 _ => ?_)
      exact Pc_s trivial
    · refine Pc_c (fun _ => ?_) (fun _ => ?_)
      · refine Pc_c (fun _ => ?_) (fun _ => ?_)
        · refine Pc_c (fun _ => ?_) (fun _ => ?_)
          · exact Pc_s h_s7_32
          · refine Pc_L (fun v55 _ => ?_)
            refine Pc_L (fun v56 _ => ?_)
            exact Pc_s trivial
        · refine Pc_L (fun v57 _ => ?_)
          exact Pc_s trivial
      · refine Pc_L (fun v52 _ => ?_)
        exact Pc_s trivial
theorem kh_X7_flicker (S7 : SS) (p1 : Int32) (p2 : Int32) : Pc (f_X7_flicker S7 p1 p2) (fun w => KH S7 w.2) := by
  have h_S7 : KH S7 S7 := KH_r S7
  unfold f_X7_flicker
  refine Pc_B (P := fun _ => True) (fun _ _ => trivial) (fun r1 _ => ?_)
  refine Pc_c (fun _ => ?_) (fun _ => ?_)
  · exact Pc_s h_S7
  · refine Pc_B (P := fun _ => True) (fun _ _ => trivial) (fun r6 _ => ?_)
    refine Pc_c (fun _ => ?_) (fun _ => ?_)
    · refine Pc_G (fun _ => ?_)
      refine Pc_c (fun _ => ?_) (fun _ => ?_)
      · exact Pc_s h_S7
      · refine Pc_c (fun _ => ?_) (fun _ => ?_)
        · refine Pc_B (Pc_I (fun v => KH S7 v.2) (fun v hv => kh_X7_flicker_34 S7  v hv) _ h_S7) (fun s7_23 h96 => ?_)
          have h_s7_23 : KH S7 s7_23 := h96
          refine Pc_L (fun s7_25 e97 => ?_)
          have h_s7_25 : KH S7 s7_25 := by rw [e97]; exact KH_A (by decide) h_s7_23
          refine Pc_L (fun s7_27 e98 => ?_)
          have h_s7_27 : KH S7 s7_27 := by rw [e98]; exact KH_A (by decide) h_s7_25
          refine Pc_B (kh_X7_follow s7_27 36 (by decide)) (fun s7_28 h99 => ?_)
          have h_s7_28 : KH S7 s7_28 := KH_t h_s7_27 h99
          refine Pc_B (kh_X7_follow s7_28 37 (by decide)) (fun s7_32 h100 => ?_)
          have h_s7_32 : KH S7 s7_32 := KH_t h_s7_28 h100
          exact Pc_I (fun _ => True) (fun v _ => kh_X7_flicker_114 S7 s7_32 h_s7_32 v) _ trivial
        · exact Pc_s h_S7
    · exact Pc_s h_S7
theorem kh_X7_about (S7 : SS) (p1 : Int32) : Pc (f_X7_about S7 p1) (fun w => KH S7 w.2) := by
  have h_S7 : KH S7 S7 := KH_r S7
  unfold f_X7_about
  refine Pc_B (kh_X7_find S7) (fun s7_1 h101 => ?_)
  have h_s7_1 : KH S7 s7_1 := KH_t h_S7 h101
  refine Pc_c (fun _ => ?_) (fun _ => ?_)
  · exact Pc_s h_s7_1
  · refine Pc_c (fun _ => ?_) (fun _ => ?_)
    · exact Pc_s h_s7_1
    · refine Pc_c (fun _ => ?_) (fun _ => ?_)
      · refine Pc_c (fun _ => ?_) (fun _ => ?_)
        · exact Pc_s h_s7_1
        · exact Pc_s h_s7_1
      · refine Pc_c (fun _ => ?_) (fun _ => ?_)
        · refine Pc_c (fun _ => ?_) (fun _ => ?_)
          · exact Pc_s h_s7_1
          · refine Pc_B (P := fun _ => True) (fun _ _ => trivial) (fun r11 _ => ?_)
            refine Pc_c (fun _ => ?_) (fun _ => ?_)
            · exact Pc_s h_s7_1
            · exact Pc_s h_s7_1
        · refine Pc_c (fun _ => ?_) (fun _ => ?_)
          · refine Pc_c (fun _ => ?_) (fun _ => ?_)
            · exact Pc_s h_s7_1
            · exact Pc_s h_s7_1
          · refine Pc_c (fun _ => ?_) (fun _ => ?_)
            · exact Pc_s h_s7_1
            · exact Pc_s h_s7_1
