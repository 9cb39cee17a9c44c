/-! what calls leave as it is: the values -/
def KV (S T : SS) : Prop := gA T 33 = gA S 33 ∧ gA T 34 = gA S 34
theorem KV_r (S : SS) : KV S S := ⟨rfl, rfl⟩
theorem KV_t {S T U : SS} (h : KV S T) (g : KV T U) : KV S U := ⟨g.1.trans h.1, g.2.trans h.2⟩
theorem KV_I {S T : SS} {k : Nat} {v : Int32} (_ : 0 = 0) (h : KV S T) : KV S (sI T k v) := h
theorem KV_A {S T : SS} {k : Nat} {v : Nat → Int32} (hk : 34 < k) (h : KV S T) : KV S (sA T k v) := ⟨by rw [gA_ne (by omega)]; exact h.1, by rw [gA_ne (by omega)]; exact h.2⟩
def K5 (S T : SS) : Prop := gA T 5 = gA S 5
theorem K5_r (S : SS) : K5 S S := rfl
theorem K5_t {S T U : SS} (h : K5 S T) (g : K5 T U) : K5 S U := Eq.trans g h
theorem K5_I {S T : SS} {k : Nat} {v : Int32} (_ : 0 = 0) (h : K5 S T) : K5 S (sI T k v) := h
theorem K5_A {S T : SS} {k : Nat} {v : Nat → Int32} (hk : 5 ≠ k) (h : K5 S T) : K5 S (sA T k v) := by
  unfold K5
  rw [gA_ne hk]
  exact h
theorem kv_X7_find_7 (S7 : SS) (v : (Int32 × SS)) (hv : KV S7 v.2) : Pc (b_X7_find_7  v) (PcI (fun v : (Int32 × SS) => KV S7 v.2) (fun w => KV S7 w)) := by
  obtain ⟨v12, s7_13⟩ := v
  have h_s7_13 : KV S7 s7_13 := hv
  unfold b_X7_find_7
  refine Pc_c (fun _ => ?_) (fun _ => ?_)
  · exact Pc_s h_s7_13
  · refine Pc_B (P := fun _ => True) (fun _ _ => trivial) (fun r15 _ => ?_)
    refine Pc_c (fun _ => ?_) (fun _ => ?_)
    · refine Pc_G (fun _ => ?_)
      refine Pc_c (fun _ => ?_) (fun _ => ?_)
      · refine Pc_G (fun _ => ?_)
        refine Pc_L (fun s7_24 e3 => ?_)
        have h_s7_24 : KV S7 s7_24 := by rw [e3]; exact KV_A (by decide) h_s7_13
        refine Pc_L (fun s7_26 e4 => ?_)
        have h_s7_26 : KV S7 s7_26 := by rw [e4]; exact KV_I (by decide) h_s7_24
        refine Pc_L (fun v27 _ => ?_)
        exact Pc_s h_s7_26
      · refine Pc_L (fun v28 _ => ?_)
        exact Pc_s h_s7_13
    · refine Pc_B (P := fun _ => True) (fun _ _ => trivial) (fun r29 _ => ?_)
      refine Pc_c (fun _ => ?_) (fun _ => ?_)
      · refine Pc_G (fun _ => ?_)
        refine Pc_c (fun _ => ?_) (fun _ => ?_)
        · refine Pc_G (fun _ => ?_)
          refine Pc_L (fun s7_39 e7 => ?_)
          have h_s7_39 : KV S7 s7_39 := by rw [e7]; exact KV_A (by decide) h_s7_13
          refine Pc_L (fun s7_41 e8 => ?_)
          have h_s7_41 : KV S7 s7_41 := by rw [e8]; exact KV_I (by decide) h_s7_39
          refine Pc_L (fun v42 _ => ?_)
          exact Pc_s h_s7_41
        · refine Pc_L (fun v43 _ => ?_)
          exact Pc_s h_s7_13
      · refine Pc_L (fun v34 _ => ?_)
        exact Pc_s h_s7_13
theorem kv_X7_find (S7 : SS) : Pc (f_X7_find S7) (fun w => KV S7 w) := by
  have h_S7 : KV S7 S7 := KV_r S7
  unfold f_X7_find
  refine Pc_L (fun s7_2 e9 => ?_)
  have h_s7_2 : KV S7 s7_2 := by rw [e9]; exact KV_I (by decide) h_S7
  exact Pc_I (fun v => KV S7 v.2) (fun v hv => kv_X7_find_7 S7  v hv) _ h_s7_2
theorem kv_X7_worlds (S7 : SS) : Pc (f_X7_worlds S7) (fun w => KV S7 w.2) := by
  have h_S7 : KV S7 S7 := KV_r S7
  unfold f_X7_worlds
  refine Pc_B (kv_X7_find S7) (fun s7_1 h10 => ?_)
  have h_s7_1 : KV S7 s7_1 := KV_t h_S7 h10
  refine Pc_c (fun _ => ?_) (fun _ => ?_)
  · exact Pc_s h_s7_1
  · exact Pc_s h_s7_1
theorem kv_X7_goes_2 (S7 : SS) (v : (Int32 × SS)) (hv : KV S7 v.2) : Pc (b_X7_goes_2  v) (PcI (fun v : (Int32 × SS) => KV S7 v.2) (fun w => KV S7 w)) := by
  obtain ⟨v99, s7_100⟩ := v
  have h_s7_100 : KV S7 s7_100 := hv
  unfold b_X7_goes_2
  refine Pc_c (fun _ => ?_) (fun _ => ?_)
  · exact Pc_s h_s7_100
  · refine Pc_G (fun _ => ?_)
    refine Pc_L (fun s7_104 e11 => ?_)
    have h_s7_104 : KV S7 s7_104 := by rw [e11]; exact KV_A (by decide) h_s7_100
    refine Pc_L (fun v105 _ => ?_)
    exact Pc_s h_s7_104
theorem kv_X7_goes_30 (S7 : SS) (p1 : Int32) (v : (Int32 × SS)) (hv : KV S7 v.2) : Pc (b_X7_goes_30 p1 v) (PcI (fun v : (Int32 × SS) => KV S7 v.2) (fun w => KV S7 w)) := by
  obtain ⟨v91, s7_92⟩ := v
  have h_s7_92 : KV S7 s7_92 := hv
  unfold b_X7_goes_30
  refine Pc_c (fun _ => ?_) (fun _ => ?_)
  · exact Pc_s h_s7_92
  · refine Pc_G (fun _ => ?_)
    refine Pc_G (fun _ => ?_)
    refine Pc_L (fun s7_97 e12 => ?_)
    have h_s7_97 : KV S7 s7_97 := by rw [e12]; exact KV_A (by decide) h_s7_92
    refine Pc_L (fun v98 _ => ?_)
    exact Pc_s h_s7_97
theorem kv_X7_drives_15 (S7 : SS) (p1 : Int32) (v1 : Int32) (v : (Int32 × Int32 × SS)) (hv : KV S7 v.2.2) : Pc (b_X7_drives_15 p1 v1 v) (PcI (fun v : (Int32 × Int32 × SS) => KV S7 v.2.2) (fun w => KV S7 w.2)) := by
  obtain ⟨v25, v26, s7_27⟩ := v
  have h_s7_27 : KV S7 s7_27 := hv
  unfold b_X7_drives_15
  refine Pc_G (fun _ => ?_)
  refine Pc_c (fun _ => ?_) (fun _ => ?_)
  · exact Pc_s h_s7_27
  · refine Pc_B (P := fun _ => True) (fun _ _ => trivial) (fun r30 _ => ?_)
    refine Pc_G (fun _ => ?_)
    refine Pc_B (P := fun _ => True) (fun _ _ => trivial) (fun v41 _ => ?_)
    refine Pc_G (fun _ => ?_)
    refine Pc_c (fun _ => ?_) (fun _ => ?_)
    · refine Pc_L (fun v44 _ => ?_)
      refine Pc_B (P := fun _ => True) (fun _ _ => trivial) (fun r45 _ => ?_)
      refine Pc_G (fun _ => ?_)
      refine Pc_G (fun _ => ?_)
      refine Pc_L (fun s7_52 e19 => ?_)
      have h_s7_52 : KV S7 s7_52 := by rw [e19]; exact KV_A (by decide) h_s7_27
      refine Pc_L (fun v53 _ => ?_)
      exact Pc_s h_s7_52
    · refine Pc_L (fun v54 _ => ?_)
      exact Pc_s h_s7_27
theorem kv_X7_drives (S7 : SS) (p1 : Int32) : Pc (f_X7_drives S7 p1) (fun w => KV S7 w.2) := by
  have h_S7 : KV S7 S7 := KV_r S7
  unfold f_X7_drives
  refine Pc_L (fun v1 _ => ?_)
  refine Pc_B (Pc_I (fun v => KV S7 v.2.2) (fun v hv => kv_X7_drives_15 S7 p1 v1 v hv) _ h_S7) (fun w h20 => ?_)
  obtain ⟨v11, s7_12⟩ := w
  have h_s7_12 : KV S7 s7_12 := h20
  refine Pc_B (P := fun w => KV S7 w) ?_ (fun s7_19 h21 => ?_)
  · refine Pc_c (fun _ => ?_) (fun _ => ?_)
    · refine Pc_G (fun _ => ?_)
      refine Pc_L (fun s7_24 e22 => ?_)
      have h_s7_24 : KV S7 s7_24 := by rw [e22]; exact KV_A (by decide) h_s7_12
      exact Pc_s h_s7_24
    · exact Pc_s h_s7_12
  · have h_s7_19 : KV S7 s7_19 := h21
    refine Pc_c (fun _ => ?_) (fun _ => ?_)
    · exact Pc_s h_s7_19
    · exact Pc_s h_s7_19
theorem kv_X7_goes_79 (S7 : SS) (v31 : Int32) (v : (Int32 × Int32 × SS)) (hv : KV S7 v.2.2) : Pc (b_X7_goes_79 v31 v) (PcI (fun v : (Int32 × Int32 × SS) => KV S7 v.2.2) (fun w => KV S7 w.2)) := by
  obtain ⟨v49, v50, s7_51⟩ := v
  have h_s7_51 : KV S7 s7_51 := hv
  unfold b_X7_goes_79
  refine Pc_c (fun _ => ?_) (fun _ => ?_)
  · exact Pc_s h_s7_51
  · refine Pc_G (fun _ => ?_)
    refine Pc_c (fun _ => ?_) (fun _ => ?_)
    · refine Pc_B (P := fun _ => True) (fun _ _ => trivial) (fun r55 _ => ?_)
      refine Pc_B (P := fun w => KV S7 w) ?_ (fun s7_65 h25 => ?_)
      · refine Pc_c (fun _ => ?_) (fun _ => ?_)
        · refine Pc_B (P := fun _ => True) (fun _ _ => trivial) (fun r83 _ => ?_)
          refine Pc_G (fun _ => ?_)
          refine Pc_L (fun s7_89 e28 => ?_)
          have h_s7_89 : KV S7 s7_89 := by rw [e28]; exact KV_A (by decide) h_s7_51
          exact Pc_s h_s7_89
        · exact Pc_s h_s7_51
      · have h_s7_65 : KV S7 s7_65 := h25
        refine Pc_B (P := fun _ => True) (fun _ _ => trivial) (fun r66 _ => ?_)
        refine Pc_c (fun _ => ?_) (fun _ => ?_)
        · refine Pc_c (fun _ => ?_) (fun _ => ?_)
          · refine Pc_L (fun v73 _ => ?_)
            exact Pc_s h_s7_65
          · refine Pc_B (kv_X7_drives s7_65 v50) (fun w h31 => ?_)
            obtain ⟨r74, s7_75⟩ := w
            have h_s7_75 : KV S7 s7_75 := KV_t h_s7_65 h31
            refine Pc_c (fun _ => ?_) (fun _ => ?_)
            · refine Pc_L (fun v80 _ => ?_)
              exact Pc_s h_s7_75
            · refine Pc_L (fun v81 _ => ?_)
              exact Pc_s h_s7_75
        · refine Pc_L (fun v71 _ => ?_)
          exact Pc_s h_s7_65
    · refine Pc_L (fun v90 _ => ?_)
      exact Pc_s h_s7_51
theorem kv_X7_goes_64 (S7 : SS) (v : (Int32 × Int32 × SS)) (hv : KV S7 v.2.2) : Pc (b_X7_goes_64  v) (PcI (fun v : (Int32 × Int32 × SS) => KV S7 v.2.2) (fun w => KV S7 w.2)) := by
  obtain ⟨v30, v31, s7_32⟩ := v
  have h_s7_32 : KV S7 s7_32 := hv
  unfold b_X7_goes_64
  refine Pc_c (fun _ => ?_) (fun _ => ?_)
  · refine Pc_G (fun _ => ?_)
    exact Pc_s h_s7_32
  · refine Pc_c (fun _ => ?_) (fun _ => ?_)
    · refine Pc_G (fun _ => ?_)
      exact Pc_s h_s7_32
    · refine Pc_B (Pc_I (fun v => KV S7 v.2.2) (fun v hv => kv_X7_goes_79 S7 v31 v hv) _ h_s7_32) (fun w h32 => ?_)
      obtain ⟨v46, s7_47⟩ := w
      have h_s7_47 : KV S7 s7_47 := h32
      refine Pc_L (fun v48 _ => ?_)
      exact Pc_s h_s7_47
theorem kv_X7_goes (S7 : SS) (p1 : Int32) : Pc (f_X7_goes S7 p1) (fun w => KV S7 w.2) := by
  have h_S7 : KV S7 S7 := KV_r S7
  unfold f_X7_goes
  refine Pc_B (Pc_I (fun v => KV S7 v.2) (fun v hv => kv_X7_goes_2 S7  v hv) _ h_S7) (fun s7_10 h33 => ?_)
  have h_s7_10 : KV S7 s7_10 := h33
  refine Pc_B (Pc_I (fun v => KV S7 v.2) (fun v hv => kv_X7_goes_30 S7 p1 v hv) _ h_s7_10) (fun s7_20 h34 => ?_)
  have h_s7_20 : KV S7 s7_20 := h34
  exact Pc_I (fun v => KV S7 v.2.2) (fun v hv => kv_X7_goes_64 S7  v hv) _ h_s7_20
theorem kv_X7_legal_20 (S7 : SS) (v : (Int32 × Int32 × SS)) (hv : KV S7 v.2.2) : Pc (b_X7_legal_20  v) (PcI (fun v : (Int32 × Int32 × SS) => KV S7 v.2.2) (fun w => KV S7 w.2)) := by
  obtain ⟨v15, v16, s7_17⟩ := v
  have h_s7_17 : KV S7 s7_17 := hv
  unfold b_X7_legal_20
  refine Pc_c (fun _ => ?_) (fun _ => ?_)
  · exact Pc_s h_s7_17
  · refine Pc_B (kv_X7_goes s7_17 v16) (fun w h35 => ?_)
    obtain ⟨r19, s7_20⟩ := w
    have h_s7_20 : KV S7 s7_20 := KV_t h_s7_17 h35
    refine Pc_c (fun _ => ?_) (fun _ => ?_)
    · refine Pc_L (fun v25 _ => ?_)
      refine Pc_L (fun v26 _ => ?_)
      exact Pc_s h_s7_20
    · refine Pc_L (fun v27 _ => ?_)
      refine Pc_L (fun v28 _ => ?_)
      exact Pc_s h_s7_20
theorem kv_X7_legal (S7 : SS) : Pc (f_X7_legal S7) (fun w => KV S7 w.2) := by
  have h_S7 : KV S7 S7 := KV_r S7
  unfold f_X7_legal
  refine Pc_B (kv_X7_find S7) (fun s7_1 h36 => ?_)
  have h_s7_1 : KV S7 s7_1 := KV_t h_S7 h36
  refine Pc_c (fun _ => ?_) (fun _ => ?_)
  · exact Pc_I (fun v => KV S7 v.2.2) (fun v hv => kv_X7_legal_20 S7  v hv) _ h_s7_1
  · exact Pc_s h_s7_1
theorem kv_X7_sharp_30 (S7 : SS) (p1 : Int32) (v : (Int32 × Int32 × SS)) (hv : KV S7 v.2.2) : Pc (b_X7_sharp_30 p1 v) (PcI (fun v : (Int32 × Int32 × SS) => KV S7 v.2.2) (fun w => KV S7 w.2)) := by
  obtain ⟨v20, v21, s7_22⟩ := v
  have h_s7_22 : KV S7 s7_22 := hv
  unfold b_X7_sharp_30
  refine Pc_c (fun _ => ?_) (fun _ => ?_)
  · exact Pc_s h_s7_22
  · refine Pc_B (kv_X7_goes s7_22 v21) (fun w h37 => ?_)
    obtain ⟨r24, s7_25⟩ := w
    have h_s7_25 : KV S7 s7_25 := KV_t h_s7_22 h37
    refine Pc_c (fun _ => ?_) (fun _ => ?_)
    · refine Pc_L (fun v30 _ => ?_)
      exact Pc_s h_s7_25
    · refine Pc_c (fun _ => ?_) (fun _ => ?_)
      · refine Pc_G (fun _ => ?_)
        refine Pc_L (fun v33 _ => ?_)
        refine Pc_L (fun v34 _ => ?_)
        exact Pc_s h_s7_25
      · refine Pc_G (fun _ => ?_)
        refine Pc_c (fun _ => ?_) (fun _ => ?_)
        · refine Pc_L (fun v38 _ => ?_)
          refine Pc_L (fun v39 _ => ?_)
          exact Pc_s h_s7_25
        · refine Pc_L (fun v37 _ => ?_)
          exact Pc_s h_s7_25
theorem kv_X7_sharp (S7 : SS) (p1 : Int32) : Pc (f_X7_sharp S7 p1) (fun w => KV S7 w.2) := by
  have h_S7 : KV S7 S7 := KV_r S7
  unfold f_X7_sharp
  refine Pc_B (P := fun _ => True) (fun _ _ => trivial) (fun r1 _ => ?_)
  refine Pc_c (fun _ => ?_) (fun _ => ?_)
  · exact Pc_s h_S7
  · refine Pc_B (kv_X7_find S7) (fun s7_6 h40 => ?_)
    have h_s7_6 : KV S7 s7_6 := KV_t h_S7 h40
    refine Pc_c (fun _ => ?_) (fun _ => ?_)
    · exact Pc_I (fun v => KV S7 v.2.2) (fun v hv => kv_X7_sharp_30 S7 p1 v hv) _ h_s7_6
    · exact Pc_s h_s7_6
theorem kv_X7_gainsaid_20 (S7 : SS) (v : (Int32 × Int32 × SS)) (hv : KV S7 v.2.2) : Pc (b_X7_gainsaid_20  v) (PcI (fun v : (Int32 × Int32 × SS) => KV S7 v.2.2) (fun w => KV S7 w.2)) := by
  obtain ⟨v15, v16, s7_17⟩ := v
  have h_s7_17 : KV S7 s7_17 := hv
  unfold b_X7_gainsaid_20
  refine Pc_c (fun _ => ?_) (fun _ => ?_)
  · exact Pc_s h_s7_17
  · refine Pc_B (kv_X7_goes s7_17 v16) (fun w h41 => ?_)
    obtain ⟨r19, s7_20⟩ := w
    have h_s7_20 : KV S7 s7_20 := KV_t h_s7_17 h41
    refine Pc_c (fun _ => ?_) (fun _ => ?_)
    · refine Pc_L (fun v53 _ => ?_)
      exact Pc_s h_s7_20
    · refine Pc_B (P := fun _ => True) (fun _ _ => trivial) (fun v34 _ => ?_)
      refine Pc_L (fun v35 _ => ?_)
      exact Pc_s h_s7_20
theorem kv_X7_gainsaid (S7 : SS) : Pc (f_X7_gainsaid S7) (fun w => KV S7 w.2) := by
  have h_S7 : KV S7 S7 := KV_r S7
  unfold f_X7_gainsaid
  refine Pc_B (kv_X7_find S7) (fun s7_1 h44 => ?_)
  have h_s7_1 : KV S7 s7_1 := KV_t h_S7 h44
  refine Pc_c (fun _ => ?_) (fun _ => ?_)
  · exact Pc_I (fun v => KV S7 v.2.2) (fun v hv => kv_X7_gainsaid_20 S7  v hv) _ h_s7_1
  · exact Pc_s h_s7_1
theorem kv_X7_flicker_34 (S7 : SS) (v : (Int32 × SS)) (hv : KV S7 v.2) : Pc (b_X7_flicker_34  v) (PcI (fun v : (Int32 × SS) => KV S7 v.2) (fun w => KV S7 w)) := by
  obtain ⟨v58, s7_59⟩ := v
  have h_s7_59 : KV S7 s7_59 := hv
  unfold b_X7_flicker_34
  refine Pc_c (fun _ => ?_) (fun _ => ?_)
  · exact Pc_s h_s7_59
  · refine Pc_G (fun _ => ?_)
    refine Pc_L (fun s7_63 e45 => ?_)
    have h_s7_63 : KV S7 s7_63 := by rw [e45]; exact KV_A (by decide) h_s7_59
    refine Pc_L (fun s7_65 e46 => ?_)
    have h_s7_65 : KV S7 s7_65 := by rw [e46]; exact KV_A (by decide) h_s7_63
    refine Pc_L (fun v66 _ => ?_)
    exact Pc_s h_s7_65
theorem kv_X7_follow_12 (S7 : SS) (q : Nat) (v10 : Int32) (hq : 34 < q) (v : (Int32 × SS)) (hv : KV S7 v.2) : Pc (b_X7_follow_12 q v10 v) (PcI (fun v : (Int32 × SS) => KV S7 v.2) (fun w => KV S7 w)) := by
  obtain ⟨v24, s7_25⟩ := v
  have h_s7_25 : KV S7 s7_25 := hv
  unfold b_X7_follow_12
  refine Pc_c (fun _ => ?_) (fun _ => ?_)
  · exact Pc_s h_s7_25
  · refine Pc_G (fun _ => ?_)
    refine Pc_c (fun _ => ?_) (fun _ => ?_)
    · refine Pc_B (P := fun _ => True) (fun _ _ => trivial) (fun r30 _ => ?_)
      refine Pc_c (fun _ => ?_) (fun _ => ?_)
      · refine Pc_B (P := fun _ => True) (fun _ _ => trivial) (fun r35 _ => ?_)
        refine Pc_B (P := fun _ => True) (fun _ _ => trivial) (fun v45 _ => ?_)
        refine Pc_G (fun _ => ?_)
        refine Pc_L (fun s7_48 e53 => ?_)
        have h_s7_48 : KV S7 s7_48 := by rw [e53]; exact KV_A hq h_s7_25
        refine Pc_L (fun v49 _ => ?_)
        exact Pc_s h_s7_48
      · refine Pc_B (P := fun _ => True) (fun _ _ => trivial) (fun r59 _ => ?_)
        refine Pc_c (fun _ => ?_) (fun _ => ?_)
        · refine Pc_B (P := fun _ => True) (fun _ _ => trivial) (fun r65 _ => ?_)
          refine Pc_B (P := fun _ => True) (fun _ _ => trivial) (fun v75 _ => ?_)
          refine Pc_G (fun _ => ?_)
          refine Pc_L (fun s7_78 e60 => ?_)
          have h_s7_78 : KV S7 s7_78 := by rw [e60]; exact KV_A hq h_s7_25
          refine Pc_L (fun v79 _ => ?_)
          exact Pc_s h_s7_78
        · refine Pc_L (fun v64 _ => ?_)
          exact Pc_s h_s7_25
    · refine Pc_L (fun v29 _ => ?_)
      exact Pc_s h_s7_25
theorem kv_X7_follow_2 (S7 : SS) (q : Nat) (hq : 34 < q) (v : (Int32 × SS)) (hv : KV S7 v.2) : Pc (b_X7_follow_2 q v) (PcI (fun v : (Int32 × SS) => KV S7 v.2) (fun w => KV S7 w)) := by
  obtain ⟨v10, s7_11⟩ := v
  have h_s7_11 : KV S7 s7_11 := hv
  unfold b_X7_follow_2
  refine Pc_c (fun _ => ?_) (fun _ => ?_)
  · exact Pc_s h_s7_11
  · refine Pc_B (Pc_I (fun v => KV S7 v.2) (fun v hv => kv_X7_follow_12 S7 q v10 hq v hv) _ h_s7_11) (fun s7_22 h61 => ?_)
    have h_s7_22 : KV S7 s7_22 := h61
    refine Pc_L (fun v23 _ => ?_)
    exact Pc_s h_s7_22
theorem kv_X7_follow (S7 : SS) (q : Nat) (hq : 34 < q) : Pc (f_X7_follow S7 q) (fun w => KV S7 w) := by
  have h_S7 : KV S7 S7 := KV_r S7
  unfold f_X7_follow
  exact Pc_I (fun v => KV S7 v.2) (fun v hv => kv_X7_follow_2 S7 q hq v hv) _ h_S7
theorem kv_X7_flicker_114 (S7 : SS) (s7_32 : SS) (h_s7_32 : KV S7 s7_32) (v : (Int32 × Int32)) : Pc (b_X7_flicker_114 s7_32 v) (PcI (fun _ : (Int32 × Int32) => True) (fun w => KV S7 w.2)) := by
  obtain ⟨v45, v46⟩ := v
  unfold b_X7_flicker_114
  refine Pc_c (fun _ => ?_) (fun _ => ?_)
  · exact Pc_s h_s7_32
  · refine Pc_G (fun _ => ?_)
    refine Pc_c (fun _ => ?_) (fun _ => ?_)
    · refine Pc_L (fun v50 _ => ?_)
      exact Pc_s trivial
    · refine Pc_c (fun _ => ?_) (fun _ => ?_)
      · refine Pc_c (fun _ => ?_) (fun _ => ?_)
        · refine Pc_c (fun _ => ?_) (fun _ => ?_)
          · exact Pc_s h_s7_32
          · refine Pc_L (fun v55 _ => ?_)
            refine Pc_L (fun v56 _ => ?_)
            exact Pc_s trivial
        · refine Pc_L (fun v57 _ => ?_)
          exact Pc_s trivial
      · refine Pc_L (fun v52 _ => ?_)
        exact Pc_s trivial
theorem kv_X7_flicker (S7 : SS) (p1 : Int32) (p2 : Int32) : Pc (f_X7_flicker S7 p1 p2) (fun w => KV S7 w.2) := by
  have h_S7 : KV S7 S7 := KV_r S7
  unfold f_X7_flicker
  refine Pc_B (P := fun _ => True) (fun _ _ => trivial) (fun r1 _ => ?_)
  refine Pc_c (fun _ => ?_) (fun _ => ?_)
  · exact Pc_s h_S7
  · refine Pc_B (P := fun _ => True) (fun _ _ => trivial) (fun r6 _ => ?_)
    refine Pc_c (fun _ => ?_) (fun _ => ?_)
    · refine Pc_G (fun _ => ?_)
      refine Pc_c (fun _ => ?_) (fun _ => ?_)
      · exact Pc_s h_S7
      · refine Pc_c (fun _ => ?_) (fun _ => ?_)
        · refine Pc_B (Pc_I (fun v => KV S7 v.2) (fun v hv => kv_X7_flicker_34 S7  v hv) _ h_S7) (fun s7_23 h66 => ?_)
          have h_s7_23 : KV S7 s7_23 := h66
          refine Pc_L (fun s7_25 e67 => ?_)
          have h_s7_25 : KV S7 s7_25 := by rw [e67]; exact KV_A (by decide) h_s7_23
          refine Pc_L (fun s7_27 e68 => ?_)
          have h_s7_27 : KV S7 s7_27 := by rw [e68]; exact KV_A (by decide) h_s7_25
          refine Pc_B (kv_X7_follow s7_27 36 (by decide)) (fun s7_28 h69 => ?_)
          have h_s7_28 : KV S7 s7_28 := KV_t h_s7_27 h69
          refine Pc_B (kv_X7_follow s7_28 37 (by decide)) (fun s7_32 h70 => ?_)
          have h_s7_32 : KV S7 s7_32 := KV_t h_s7_28 h70
          exact Pc_I (fun _ => True) (fun v _ => kv_X7_flicker_114 S7 s7_32 h_s7_32 v) _ trivial
        · exact Pc_s h_S7
    · exact Pc_s h_S7
theorem kv_X7_change (S7 : SS) (p1 : Int32) (p2 : Int32) : Pc (f_X7_change S7 p1 p2) (fun w => KV S7 w) := by
  have h_S7 : KV S7 S7 := KV_r S7
  unfold f_X7_change
  refine Pc_G (fun _ => ?_)
  refine Pc_L (fun s7_3 e71 => ?_)
  have h_s7_3 : KV S7 s7_3 := by rw [e71]; exact KV_A (by decide) h_S7
  refine Pc_L (fun s7_5 e72 => ?_)
  have h_s7_5 : KV S7 s7_5 := by rw [e72]; exact KV_A (by decide) h_s7_3
  refine Pc_B (P := fun w => KV S7 w) ?_ (fun s7_12 h73 => ?_)
  · refine Pc_c (fun _ => ?_) (fun _ => ?_)
    · exact Pc_s h_s7_5
    · refine Pc_G (fun _ => ?_)
      refine Pc_L (fun s7_18 e74 => ?_)
      have h_s7_18 : KV S7 s7_18 := by rw [e74]; exact KV_A (by decide) h_s7_5
      exact Pc_s h_s7_18
  · have h_s7_12 : KV S7 s7_12 := h73
    refine Pc_L (fun s7_14 e75 => ?_)
    have h_s7_14 : KV S7 s7_14 := by rw [e75]; exact KV_A (by decide) h_s7_12
    exact Pc_s h_s7_14
theorem kv_X7_put (S7 : SS) (p1 : Int32) (p2 : Int32) : Pc (f_X7_put S7 p1 p2) (fun w => KV S7 w.2) := by
  have h_S7 : KV S7 S7 := KV_r S7
  unfold f_X7_put
  refine Pc_c (fun _ => ?_) (fun _ => ?_)
  · exact Pc_s h_S7
  · refine Pc_B (P := fun _ => True) (fun _ _ => trivial) (fun r2 _ => ?_)
    refine Pc_c (fun _ => ?_) (fun _ => ?_)
    · exact Pc_s h_S7
    · refine Pc_B (P := fun _ => True) (fun _ _ => trivial) (fun r7 _ => ?_)
      refine Pc_c (fun _ => ?_) (fun _ => ?_)
      · refine Pc_c (fun _ => ?_) (fun _ => ?_)
        · exact Pc_s h_S7
        · refine Pc_c (fun _ => ?_) (fun _ => ?_)
          · refine Pc_G (fun _ => ?_)
            refine Pc_c (fun _ => ?_) (fun _ => ?_)
            · exact Pc_s h_S7
            · refine Pc_B (kv_X7_change S7 p1 p2) (fun s7_16 h80 => ?_)
              have h_s7_16 : KV S7 s7_16 := KV_t h_S7 h80
              exact Pc_s h_s7_16
          · exact Pc_s h_S7
      · exact Pc_s h_S7
theorem kv_X7_looks_14 (S7 : SS) (v79 : Int32) (v : (Int32 × Int32 × SS)) (hv : KV S7 v.2.2) : Pc (b_X7_looks_14 v79 v) (PcI (fun v : (Int32 × Int32 × SS) => KV S7 v.2.2) (fun w => KV S7 w.2)) := by
  obtain ⟨v94, v95, s7_96⟩ := v
  have h_s7_96 : KV S7 s7_96 := hv
  unfold b_X7_looks_14
  refine Pc_c (fun _ => ?_) (fun _ => ?_)
  · exact Pc_s h_s7_96
  · refine Pc_G (fun _ => ?_)
    refine Pc_c (fun _ => ?_) (fun _ => ?_)
    · refine Pc_B (P := fun _ => True) (fun _ _ => trivial) (fun r101 _ => ?_)
      refine Pc_c (fun _ => ?_) (fun _ => ?_)
      · refine Pc_B (P := fun _ => True) (fun _ _ => trivial) (fun r106 _ => ?_)
        refine Pc_G (fun _ => ?_)
        refine Pc_c (fun _ => ?_) (fun _ => ?_)
        · refine Pc_L (fun v112 _ => ?_)
          exact Pc_s h_s7_96
        · refine Pc_B (P := fun _ => True) (fun _ _ => trivial) (fun r113 _ => ?_)
          refine Pc_c (fun _ => ?_) (fun _ => ?_)
          · refine Pc_L (fun v124 _ => ?_)
            exact Pc_s h_s7_96
          · refine Pc_B (kv_X7_change s7_96 v95 r106) (fun s7_118 h87 => ?_)
            have h_s7_118 : KV S7 s7_118 := KV_t h_s7_96 h87
            refine Pc_L (fun v122 _ => ?_)
            refine Pc_L (fun v123 _ => ?_)
            exact Pc_s h_s7_118
      · refine Pc_L (fun v125 _ => ?_)
        exact Pc_s h_s7_96
    · refine Pc_L (fun v100 _ => ?_)
      exact Pc_s h_s7_96
theorem kv_X7_looks_4 (S7 : SS) (v : (Int32 × Int32 × SS)) (hv : KV S7 v.2.2) : Pc (b_X7_looks_4  v) (PcI (fun v : (Int32 × Int32 × SS) => KV S7 v.2.2) (fun w => KV S7 w.2)) := by
  obtain ⟨v78, v79, s7_80⟩ := v
  have h_s7_80 : KV S7 s7_80 := hv
  unfold b_X7_looks_4
  refine Pc_c (fun _ => ?_) (fun _ => ?_)
  · exact Pc_s h_s7_80
  · refine Pc_B (Pc_I (fun v => KV S7 v.2.2) (fun v hv => kv_X7_looks_14 S7 v79 v hv) _ h_s7_80) (fun w h88 => ?_)
    obtain ⟨v91, s7_92⟩ := w
    have h_s7_92 : KV S7 s7_92 := h88
    refine Pc_L (fun v93 _ => ?_)
    exact Pc_s h_s7_92
theorem kv_X7_looks_109 (S7 : SS) (v : (Int32 × SS)) (hv : KV S7 v.2) : Pc (b_X7_looks_109  v) (PcI (fun v : (Int32 × SS) => KV S7 v.2) (fun w => KV S7 w)) := by
  obtain ⟨v38, s7_39⟩ := v
  have h_s7_39 : KV S7 s7_39 := hv
  unfold b_X7_looks_109
  refine Pc_c (fun _ => ?_) (fun _ => ?_)
  · exact Pc_s h_s7_39
  · refine Pc_B (P := fun _ => True) (fun _ _ => trivial) (fun r41 _ => ?_)
    refine Pc_c (fun _ => ?_) (fun _ => ?_)
    · refine Pc_B (P := fun _ => True) (fun _ _ => trivial) (fun r47 _ => ?_)
      refine Pc_c (fun _ => ?_) (fun _ => ?_)
      · refine Pc_L (fun v77 _ => ?_)
        exact Pc_s h_s7_39
      · refine Pc_B (P := fun _ => True) (fun _ _ => trivial) (fun r52 _ => ?_)
        refine Pc_G (fun _ => ?_)
        refine Pc_c (fun _ => ?_) (fun _ => ?_)
        · refine Pc_L (fun v76 _ => ?_)
          exact Pc_s h_s7_39
        · refine Pc_L (fun s7_59 e95 => ?_)
          have h_s7_59 : KV S7 s7_59 := by rw [e95]; exact KV_A (by decide) h_s7_39
          refine Pc_G (fun _ => ?_)
          refine Pc_L (fun v61 _ => ?_)
          refine Pc_G (fun _ => ?_)
          refine Pc_B (P := fun _ => True) (fun _ _ => trivial) (fun v69 _ => ?_)
          refine Pc_L (fun s7_71 e98 => ?_)
          have h_s7_71 : KV S7 s7_71 := by rw [e98]; exact KV_I (by decide) h_s7_59
          refine Pc_L (fun s7_73 e99 => ?_)
          have h_s7_73 : KV S7 s7_73 := by rw [e99]; exact KV_A (by decide) h_s7_71
          refine Pc_L (fun v74 _ => ?_)
          exact Pc_s h_s7_73
    · refine Pc_L (fun v46 _ => ?_)
      exact Pc_s h_s7_39
theorem kv_X7_looks_236 (S7 : SS) (v10 : Int32) (v : (Int32 × SS)) (hv : KV S7 v.2) : Pc (b_X7_looks_236 v10 v) (PcI (fun v : (Int32 × SS) => KV S7 v.2) (fun w => KV S7 w.2)) := by
  obtain ⟨v31, s7_32⟩ := v
  have h_s7_32 : KV S7 s7_32 := hv
  unfold b_X7_looks_236
  refine Pc_c (fun _ => ?_) (fun _ => ?_)
  · exact Pc_s h_s7_32
  · refine Pc_G (fun _ => ?_)
    refine Pc_L (fun s7_36 e100 => ?_)
    have h_s7_36 : KV S7 s7_36 := by rw [e100]; exact KV_A (by decide) h_s7_32
    refine Pc_L (fun v37 _ => ?_)
    exact Pc_s h_s7_36
theorem kv_X7_looks (S7 : SS) : Pc (f_X7_looks S7) (fun w => KV S7 w.2) := by
  have h_S7 : KV S7 S7 := KV_r S7
  unfold f_X7_looks
  refine Pc_B (Pc_I (fun v => KV S7 v.2.2) (fun v hv => kv_X7_looks_4 S7  v hv) _ h_S7) (fun w h101 => ?_)
  obtain ⟨v10, s7_11⟩ := w
  have h_s7_11 : KV S7 s7_11 := h101
  refine Pc_B (Pc_I (fun v => KV S7 v.2) (fun v hv => kv_X7_looks_109 S7  v hv) _ h_s7_11) (fun s7_21 h102 => ?_)
  have h_s7_21 : KV S7 s7_21 := h102
  exact Pc_I (fun v => KV S7 v.2) (fun v hv => kv_X7_looks_236 S7 v10 v hv) _ h_s7_21
theorem kv_X7_run_45 (S7 : SS) (v : (Int32 × Int32 × SS)) (hv : KV S7 v.2.2) : Pc (b_X7_run_45  v) (PcI (fun v : (Int32 × Int32 × SS) => KV S7 v.2.2) (fun w => KV S7 w.2)) := by
  obtain ⟨v42, v43, s7_44⟩ := v
  have h_s7_44 : KV S7 s7_44 := hv
  unfold b_X7_run_45
  refine Pc_c (fun _ => ?_) (fun _ => ?_)
  · exact Pc_s h_s7_44
  · refine Pc_L (fun v46 _ => ?_)
    refine Pc_G (fun _ => ?_)
    refine Pc_c (fun _ => ?_) (fun _ => ?_)
    · refine Pc_L (fun v49 _ => ?_)
      refine Pc_L (fun s7_51 e103 => ?_)
      have h_s7_51 : KV S7 s7_51 := by rw [e103]; exact KV_A (by decide) h_s7_44
      refine Pc_L (fun s7_53 e104 => ?_)
      have h_s7_53 : KV S7 s7_53 := by rw [e104]; exact KV_I (by decide) h_s7_51
      refine Pc_G (fun _ => ?_)
      refine Pc_c (fun _ => ?_) (fun _ => ?_)
      · refine Pc_L (fun v62 _ => ?_)
        exact Pc_s h_s7_53
      · refine Pc_B (kv_X7_change s7_53 v43 v49) (fun s7_56 h105 => ?_)
        have h_s7_56 : KV S7 s7_56 := KV_t h_s7_53 h105
        refine Pc_L (fun v60 _ => ?_)
        refine Pc_L (fun v61 _ => ?_)
        exact Pc_s h_s7_56
    · refine Pc_L (fun v63 _ => ?_)
      exact Pc_s h_s7_44
theorem kv_X7_run_27 (S7 : SS) (p1 : Int32) (v : (Int32 × Int32 × SS)) (hv : KV S7 v.2.2) : Pc (b_X7_run_27 p1 v) (PcI (fun v : (Int32 × Int32 × SS) => KV S7 v.2.2) (fun w => KV S7 w.2)) := by
  obtain ⟨v18, v19, s7_20⟩ := v
  have h_s7_20 : KV S7 s7_20 := hv
  unfold b_X7_run_27
  refine Pc_c (fun _ => ?_) (fun _ => ?_)
  · exact Pc_s h_s7_20
  · refine Pc_L (fun s7_23 e106 => ?_)
    have h_s7_23 : KV S7 s7_23 := by rw [e106]; exact KV_I (by decide) h_s7_20
    refine Pc_B (Pc_I (fun v => KV S7 v.2.2) (fun v hv => kv_X7_run_45 S7  v hv) _ h_s7_23) (fun w h107 => ?_)
    obtain ⟨v33, s7_34⟩ := w
    have h_s7_34 : KV S7 s7_34 := h107
    refine Pc_B (kv_X7_looks s7_34) (fun w h108 => ?_)
    obtain ⟨r35, s7_36⟩ := w
    have h_s7_36 : KV S7 s7_36 := KV_t h_s7_34 h108
    refine Pc_L (fun v40 _ => ?_)
    refine Pc_L (fun v41 _ => ?_)
    exact Pc_s h_s7_36
theorem kv_X7_run (S7 : SS) (p1 : Int32) : Pc (f_X7_run S7 p1) (fun w => KV S7 w.2) := by
  have h_S7 : KV S7 S7 := KV_r S7
  unfold f_X7_run
  refine Pc_c (fun _ => ?_) (fun _ => ?_)
  · exact Pc_s h_S7
  · refine Pc_c (fun _ => ?_) (fun _ => ?_)
    · exact Pc_s h_S7
    · refine Pc_c (fun _ => ?_) (fun _ => ?_)
      · refine Pc_B (kv_X7_looks S7) (fun w h109 => ?_)
        obtain ⟨r4, s7_5⟩ := w
        have h_s7_5 : KV S7 s7_5 := KV_t h_S7 h109
        exact Pc_I (fun v => KV S7 v.2.2) (fun v hv => kv_X7_run_27 S7 p1 v hv) _ h_s7_5
      · exact Pc_s h_S7
theorem kv_X7_about (S7 : SS) (p1 : Int32) : Pc (f_X7_about S7 p1) (fun w => KV S7 w.2) := by
  have h_S7 : KV S7 S7 := KV_r S7
  unfold f_X7_about
  refine Pc_B (kv_X7_find S7) (fun s7_1 h110 => ?_)
  have h_s7_1 : KV S7 s7_1 := KV_t h_S7 h110
  refine Pc_c (fun _ => ?_) (fun _ => ?_)
  · exact Pc_s h_s7_1
  · refine Pc_c (fun _ => ?_) (fun _ => ?_)
    · exact Pc_s h_s7_1
    · refine Pc_c (fun _ => ?_) (fun _ => ?_)
      · refine Pc_c (fun _ => ?_) (fun _ => ?_)
        · exact Pc_s h_s7_1
        · exact Pc_s h_s7_1
      · refine Pc_c (fun _ => ?_) (fun _ => ?_)
        · refine Pc_c (fun _ => ?_) (fun _ => ?_)
          · exact Pc_s h_s7_1
          · refine Pc_B (P := fun _ => True) (fun _ _ => trivial) (fun r11 _ => ?_)
            refine Pc_c (fun _ => ?_) (fun _ => ?_)
            · exact Pc_s h_s7_1
            · exact Pc_s h_s7_1
        · refine Pc_c (fun _ => ?_) (fun _ => ?_)
          · refine Pc_c (fun _ => ?_) (fun _ => ?_)
            · exact Pc_s h_s7_1
            · exact Pc_s h_s7_1
          · refine Pc_c (fun _ => ?_) (fun _ => ?_)
            · exact Pc_s h_s7_1
            · exact Pc_s h_s7_1
theorem kv_X7_wheel_65 (S7 : SS) (v16 : Int32) (v : (Int32 × SS)) (hv : KV S7 v.2) : Pc (b_X7_wheel_65 v16 v) (PcI (fun v : (Int32 × SS) => KV S7 v.2) (fun w => KV S7 w)) := by
  obtain ⟨v39, s7_40⟩ := v
  have h_s7_40 : KV S7 s7_40 := hv
  unfold b_X7_wheel_65
  refine Pc_c (fun _ => ?_) (fun _ => ?_)
  · exact Pc_s h_s7_40
  · refine Pc_G (fun _ => ?_)
    refine Pc_L (fun s7_44 e113 => ?_)
    have h_s7_44 : KV S7 s7_44 := by rw [e113]; exact KV_A (by decide) h_s7_40
    refine Pc_L (fun v45 _ => ?_)
    exact Pc_s h_s7_44
theorem kv_X7_wheel_17 (S7 : SS) (v : (Int32 × SS)) (hv : KV S7 v.2) : Pc (b_X7_wheel_17  v) (PcI (fun v : (Int32 × SS) => KV S7 v.2) (fun w => KV S7 w.2)) := by
  obtain ⟨v16, s7_17⟩ := v
  have h_s7_17 : KV S7 s7_17 := hv
  unfold b_X7_wheel_17
  refine Pc_c (fun _ => ?_) (fun _ => ?_)
  · exact Pc_s h_s7_17
  · refine Pc_G (fun _ => ?_)
    refine Pc_L (fun s7_21 e114 => ?_)
    have h_s7_21 : KV S7 s7_21 := by rw [e114]; exact KV_A (by decide) h_s7_17
    refine Pc_L (fun s7_23 e115 => ?_)
    have h_s7_23 : KV S7 s7_23 := by rw [e115]; exact KV_A (by decide) h_s7_21
    refine Pc_L (fun s7_25 e116 => ?_)
    have h_s7_25 : KV S7 s7_25 := by rw [e116]; exact KV_A (by decide) h_s7_23
    refine Pc_L (fun s7_27 e117 => ?_)
    have h_s7_27 : KV S7 s7_27 := by rw [e117]; exact KV_A (by decide) h_s7_25
    refine Pc_B (Pc_I (fun v => KV S7 v.2) (fun v hv => kv_X7_wheel_65 S7 v16 v hv) _ h_s7_27) (fun s7_37 h118 => ?_)
    have h_s7_37 : KV S7 s7_37 := h118
    refine Pc_L (fun v38 _ => ?_)
    exact Pc_s h_s7_37
theorem kv_X7_wheel (S7 : SS) : Pc (f_X7_wheel S7) (fun w => KV S7 w.2) := by
  have h_S7 : KV S7 S7 := KV_r S7
  unfold f_X7_wheel
  refine Pc_L (fun s7_2 e119 => ?_)
  have h_s7_2 : KV S7 s7_2 := by rw [e119]; exact KV_I (by decide) h_S7
  refine Pc_L (fun s7_4 e120 => ?_)
  have h_s7_4 : KV S7 s7_4 := by rw [e120]; exact KV_I (by decide) h_s7_2
  refine Pc_L (fun s7_6 e121 => ?_)
  have h_s7_6 : KV S7 s7_6 := by rw [e121]; exact KV_I (by decide) h_s7_4
  exact Pc_I (fun v => KV S7 v.2) (fun v hv => kv_X7_wheel_17 S7  v hv) _ h_s7_6
theorem k5_X6_settleWith6 (S6 : SS) (S0 : SS) (p2 : Int32) (p3 : Int32) : Pc (f_X6_settleWith6 S6 S0 p2 p3) (fun w => K5 S6 w) := by
  have h_S6 : K5 S6 S6 := K5_r S6
  unfold f_X6_settleWith6
  refine Pc_L (fun s6_2 e1 => ?_)
  have h_s6_2 : K5 S6 s6_2 := by rw [e1]; exact K5_A (by decide) h_S6
  refine Pc_G (fun _ => ?_)
  refine Pc_L (fun s6_5 e2 => ?_)
  have h_s6_5 : K5 S6 s6_5 := by rw [e2]; exact K5_A (by decide) h_s6_2
  refine Pc_B (P := fun _ => True) (fun _ _ => trivial) (fun sa_6 _ => ?_)
  refine Pc_L (fun s6_10 e5 => ?_)
  have h_s6_10 : K5 S6 s6_10 := by rw [e5]; exact K5_A (by decide) h_s6_5
  exact Pc_s h_s6_10
theorem k5_X6_settleWith7 (S6 : SS) (S0 : SS) (p2 : Int32) (p3 : Int32) : Pc (f_X6_settleWith7 S6 S0 p2 p3) (fun w => K5 S6 w) := by
  have h_S6 : K5 S6 S6 := K5_r S6
  unfold f_X6_settleWith7
  refine Pc_L (fun s6_2 e6 => ?_)
  have h_s6_2 : K5 S6 s6_2 := by rw [e6]; exact K5_A (by decide) h_S6
  refine Pc_G (fun _ => ?_)
  refine Pc_L (fun s6_5 e7 => ?_)
  have h_s6_5 : K5 S6 s6_5 := by rw [e7]; exact K5_A (by decide) h_s6_2
  refine Pc_B (P := fun _ => True) (fun _ _ => trivial) (fun sa_6 _ => ?_)
  refine Pc_L (fun s6_10 e10 => ?_)
  have h_s6_10 : K5 S6 s6_10 := by rw [e10]; exact K5_A (by decide) h_s6_5
  exact Pc_s h_s6_10
theorem k5_X6_flicker_60 (S6 : SS) (S0 : SS) (s6_13 : SS) (h_s6_13 : K5 S6 s6_13) (v : (Int32 × Int32)) : Pc (b_X6_flicker_60 S0 s6_13 v) (PcI (fun _ : (Int32 × Int32) => True) (fun w => K5 S6 w.2)) := by
  obtain ⟨v26, v27⟩ := v
  unfold b_X6_flicker_60
  refine Pc_c (fun _ => ?_) (fun _ => ?_)
  · exact Pc_s h_s6_13
  · refine Pc_G (fun _ => ?_)
    refine Pc_c (fun _ => ?_) (fun _ => ?_)
    · refine Pc_L (fun v31 _ => ?_)
      exact Pc_s trivial
    · refine Pc_c (fun _ => ?_) (fun _ => ?_)
      · refine Pc_c (fun _ => ?_) (fun _ => ?_)
        · refine Pc_c (fun _ => ?_) (fun _ => ?_)
          · exact Pc_s h_s6_13
          · refine Pc_L (fun v37 _ => ?_)
            refine Pc_L (fun v38 _ => ?_)
            exact Pc_s trivial
        · refine Pc_L (fun v35 _ => ?_)
          exact Pc_s trivial
      · refine Pc_L (fun v33 _ => ?_)
        exact Pc_s trivial
theorem k5_X6_flicker (S6 : SS) (S0 : SS) (p1 : Int32) (p2 : Int32) : Pc (f_X6_flicker S6 S0 p1 p2) (fun w => K5 S6 w.2) := by
  have h_S6 : K5 S6 S6 := K5_r S6
  unfold f_X6_flicker
  refine Pc_B (P := fun _ => True) (fun _ _ => trivial) (fun r1 _ => ?_)
  refine Pc_c (fun _ => ?_) (fun _ => ?_)
  · exact Pc_s h_S6
  · refine Pc_G (fun _ => ?_)
    refine Pc_c (fun _ => ?_) (fun _ => ?_)
    · exact Pc_s h_S6
    · refine Pc_c (fun _ => ?_) (fun _ => ?_)
      · refine Pc_B (k5_X6_settleWith6 S6 S0 p1 ((1 : Int32) - (gA S6 5 p1.toNatClampNeg))) (fun s6_9 h13 => ?_)
        have h_s6_9 : K5 S6 s6_9 := K5_t h_S6 h13
        refine Pc_B (k5_X6_settleWith7 s6_9 S0 p1 (2 : Int32)) (fun s6_13 h14 => ?_)
        have h_s6_13 : K5 S6 s6_13 := K5_t h_s6_9 h14
        exact Pc_I (fun _ => True) (fun v _ => k5_X6_flicker_60 S6 S0 s6_13 h_s6_13 v) _ trivial
      · exact Pc_s h_S6
theorem k5_X6_goThroughWorlds (S6 : SS) (S0 : SS) (S5 : SS) : Pc (f_X6_goThroughWorlds S6 S0 S5) (fun w => K5 S6 w.2.1) := by
  have h_S6 : K5 S6 S6 := K5_r S6
  unfold f_X6_goThroughWorlds
  refine Pc_B (P := fun _ => True) (fun _ _ => trivial) (fun r1 _ => ?_)
  refine Pc_c (fun _ => ?_) (fun _ => ?_)
  · refine Pc_c (fun _ => ?_) (fun _ => ?_)
    · refine Pc_B (P := fun _ => True) (fun _ _ => trivial) (fun s5_7 _ => ?_)
      refine Pc_L (fun s6_12 e19 => ?_)
      have h_s6_12 : K5 S6 s6_12 := by rw [e19]; exact K5_I (by decide) h_S6
      exact Pc_s h_s6_12
    · exact Pc_s h_S6
  · exact Pc_s h_S6
theorem k5_X6_legal (S6 : SS) (S0 : SS) (S5 : SS) : Pc (f_X6_legal S6 S0 S5) (fun w => K5 S6 w.2.1) := by
  have h_S6 : K5 S6 S6 := K5_r S6
  unfold f_X6_legal
  refine Pc_B (k5_X6_goThroughWorlds S6 S0 S5) (fun w h20 => ?_)
  obtain ⟨r1, s6_2, s5_3⟩ := w
  have h_s6_2 : K5 S6 s6_2 := K5_t h_S6 h20
  refine Pc_c (fun _ => ?_) (fun _ => ?_)
  · exact Pc_s h_s6_2
  · exact Pc_s h_s6_2
theorem k5_X6_sharp (S6 : SS) (S0 : SS) (S5 : SS) (p1 : Int32) : Pc (f_X6_sharp S6 S0 S5 p1) (fun w => K5 S6 w.2.1) := by
  have h_S6 : K5 S6 S6 := K5_r S6
  unfold f_X6_sharp
  refine Pc_B (k5_X6_goThroughWorlds S6 S0 S5) (fun w h21 => ?_)
  obtain ⟨r1, s6_2, s5_3⟩ := w
  have h_s6_2 : K5 S6 s6_2 := K5_t h_S6 h21
  refine Pc_c (fun _ => ?_) (fun _ => ?_)
  · exact Pc_s h_s6_2
  · refine Pc_B (P := fun _ => True) (fun _ _ => trivial) (fun r8 _ => ?_)
    refine Pc_c (fun _ => ?_) (fun _ => ?_)
    · exact Pc_s h_s6_2
    · refine Pc_B (P := fun _ => True) (fun _ _ => trivial) (fun r13 _ => ?_)
      exact Pc_s h_s6_2
theorem k5_X6_gainsaid_12 (S6 : SS) (S0 : SS) (s6_2 : SS) (s5_3 : SS) (h_s6_2 : K5 S6 s6_2) (v : (Int32)) : Pc (b_X6_gainsaid_12 S0 s6_2 s5_3 v) (PcI (fun _ : (Int32) => True) (fun w => K5 S6 w.2.1)) := by
  have v17 := v
  unfold b_X6_gainsaid_12
  refine Pc_c (fun _ => ?_) (fun _ => ?_)
  · exact Pc_s h_s6_2
  · refine Pc_G (fun _ => ?_)
    refine Pc_c (fun _ => ?_) (fun _ => ?_)
    · refine Pc_L (fun v21 _ => ?_)
      exact Pc_s trivial
    · refine Pc_B (P := fun _ => True) (fun _ _ => trivial) (fun r22 _ => ?_)
      refine Pc_c (fun _ => ?_) (fun _ => ?_)
      · refine Pc_L (fun v27 _ => ?_)
        exact Pc_s trivial
      · exact Pc_s h_s6_2
theorem k5_X6_gainsaid (S6 : SS) (S0 : SS) (S5 : SS) : Pc (f_X6_gainsaid S6 S0 S5) (fun w => K5 S6 w.2.1) := by
  have h_S6 : K5 S6 S6 := K5_r S6
  unfold f_X6_gainsaid
  refine Pc_B (k5_X6_goThroughWorlds S6 S0 S5) (fun w h28 => ?_)
  obtain ⟨r1, s6_2, s5_3⟩ := w
  have h_s6_2 : K5 S6 s6_2 := K5_t h_S6 h28
  refine Pc_c (fun _ => ?_) (fun _ => ?_)
  · exact Pc_s h_s6_2
  · exact Pc_I (fun _ => True) (fun v _ => k5_X6_gainsaid_12 S6 S0 s6_2 s5_3 h_s6_2 v) _ trivial
theorem k5_X6_wheel (S6 : SS) (S0 : SS) (S4 : SS) : Pc (f_X6_wheel S6 S0 S4) (fun w => K5 S6 w.2.1) := by
  have h_S6 : K5 S6 S6 := K5_r S6
  unfold f_X6_wheel
  refine Pc_B (P := fun _ => True) (fun _ _ => trivial) (fun s4_1 _ => ?_)
  refine Pc_L (fun s6_6 e31 => ?_)
  have h_s6_6 : K5 S6 s6_6 := by rw [e31]; exact K5_I (by decide) h_S6
  exact Pc_s h_s6_6
