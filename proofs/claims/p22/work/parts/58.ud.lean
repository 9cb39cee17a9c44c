theorem p_resolve_142 {b : Nat} {C : Ct} {X0 X : SS} (ln : LN b C X0 (cC C)) (tri : TRI C) (g : GB C) (hu : cU C ≤ 667) (ok : ∀ q, q < cU C → ¬ BU C q) (f3 : F3 X0 X) (x14 : gA X 14 = gA X0 14) (r16 : R16 b C (cU C) X) (fb0 : FB b X0 X) : Pc (zI b_X7_resolve_142 zF ((0 : Int32), X)) (fun Y => F3 X0 Y ∧ RK b C Y ∧ FB b X0 Y) := by
  obtain ⟨no, ⟨x27, us⟩, uv, mn, dv, _⟩ := id ln
  obtain ⟨hc, _, b6, h6⟩ := id g
  obtain ⟨⟨x30, hb1⟩, _, no3⟩ := id no
  have hD : nh C (cU C) ≤ cU C := cn_le _
  have k1 : ∀ i, i < cC C → cKd C i = 1 → nn C i (cU C) = 0 := fun i hi kd => cn_0 (fun k hk z => by
    rcases uv k hk with y | y | ⟨j, hj, y, y2⟩
    · rw [z] at y; exact (nd_h (by omega)).1 y
    · rw [z] at y; exact (nd_h (by omega)).2 y
    · rw [z] at y
      have : i = j := (nI_eq (by omega) (by omega)).mp y
      rw [← this, kd] at y2
      rcases y2 with w | w <;> exact absurd w (by decide))
  refine Pc_I (fun v : Int32 × SS => F3 X0 v.2 ∧ ∃ d, v.1 = nI d ∧ d ≤ nh C (cU C) ∧ (∀ i, i < cC C → gA v.2 14 (60 * b + i) = nI (if cKd C i = 1 then hq C X0 i d else nn C i (cU C))) ∧ R16 b C (cU C) v.2 ∧ RD b C d v.2 ∧ FB b X0 v.2) (fun v hv => ?_) _ ⟨f3, 0, rfl, Nat.zero_le _, fun i hi => ?_, r16, fun h i _ hd => absurd hd (Nat.not_lt_zero _), fb0⟩
  · obtain ⟨v, Y⟩ := v
    obtain ⟨⟨fI, fA, fB⟩, d, ev, hd, y14, rr, rd, fb⟩ : F3 X0 Y ∧ ∃ d, v = nI d ∧ d ≤ nh C (cU C) ∧ (∀ i, i < cC C → gA Y 14 (60 * b + i) = nI (if cKd C i = 1 then hq C X0 i d else nn C i (cU C))) ∧ R16 b C (cU C) Y ∧ RD b C d Y ∧ FB b X0 Y := hv
    subst ev
    have cl : (nI d).toNatClampNeg = d := nI_clamp (by omega)
    refine Pc_c (fun c => Pc_s ?_) (fun c => Pc_G (fun _ => ?_))
    · rw [fI, dv.1, nI_leI (by omega) (by omega)] at c
      have : d = nh C (cU C) := by omega
      rw [this] at y14 rd
      refine ⟨⟨fI, fA, fB⟩, ⟨fun i hi => ?_, rr, rd⟩, fb⟩
      rw [y14 i hi, hq_hb dv i _ (Nat.le_refl _)]
    · rw [fI, dv.1, nI_leI (by omega) (by omega)] at c
      obtain ⟨h, h1, h2, h3⟩ := cn_surj (P := fun j => isHd (cUr C j)) (show d < nh C (cU C) by omega)
      have h3 : nh C h = d := h3
      obtain ⟨d1, d2, d3⟩ := dv.2 h h1 h2
      rw [h3] at d1 d2 d3
      obtain ⟨i, hi, xi, kd⟩ := BU_no (ok h h1) hc
      have kd := kd h2
      obtain ⟨t1, t2, t3⟩ := tri.1 h h1 h2
      have ex : ix (cNm C) (gB Y 23 (nI d).toNatClampNeg) (cC C) = nI i := by rw [cl, fB, d1]; exact xi
      have m : (60 : Int32) * gI Y 30 + nI i = nI (60 * b + i) := by rw [fI, x30, i60 hb1]
      have m5 : (nI (60 * b + i)).toNatClampNeg = 60 * b + i := nI_clamp (by omega)
      have eh : hq C X0 i d = hb C i h := by rw [← h3, hq_hb dv i h (by omega)]
      have b5 : hb C i h < 6 := Nat.lt_of_lt_of_le (cn_lt (P := fun q => isHd (cUr C q) ∧ xq C q = nI i) h1 ⟨h2, xi⟩) (h6 i hi)
      have e14 : gA Y 14 (60 * b + i) = nI (hb C i h) := by rw [y14 i hi, if_pos kd, eh]
      have a24 : gA Y 24 (nI d).toNatClampNeg = nI h := by rw [cl, fA 24 (by decide) (by decide) (by decide), d2]
      refine Pc_e (e_newX no (fI 26) (fI 30) (fB 11) _) ?_
      show Pc (zL ((60 : Int32) * gI Y 30 + ix (cNm C) (gB Y 23 (nI d).toNatClampNeg) (cC C)) _) _
      rw [ex, m]
      refine Pc_l (Pc_G (fun _ => Pc_G (fun _ => Pc_L (fun A eA => Pc_G (fun _ => ?_)))))
      have aB : ∀ k, gB A k = gB X0 k := fun k => by rw [eA]; exact fB k
      have aI : ∀ k, gI A k = gI X0 k := fun k => by rw [eA]; exact fI k
      have a24' : gA A 24 (nI d).toNatClampNeg = nI h := by rw [eA, gA_ne (by decide)]; exact a24
      have a14 : gA A 14 = gA Y 14 := by rw [eA, gA_ne (by decide)]
      have un : ∀ j, j < cU C → gB X0 20 j = cUn C j := fun j hj => (us j hj).1
      refine Pc_e (e_newX no (aI 26) (aI 30) (aB 11) _) (Pc_G (fun _ => Pc_L (fun B eB => Pc_G (fun _ => ?_))))
      have bB : ∀ k, gB B k = gB X0 k := fun k => by rw [eB]; exact aB k
      have bI' : ∀ k, gI B k = gI X0 k := fun k => by rw [eB]; exact aI k
      have b24 : gA B 24 (nI d).toNatClampNeg = nI h := by rw [eB, gA_ne (by decide)]; exact a24'
      have b14 : gA B 14 = gA Y 14 := by rw [eB, gA_ne (by decide)]; exact a14
      refine Pc_e (e_newX no (bI' 26) (bI' 30) (bB 11) _) (Pc_G (fun _ => Pc_L (fun D eD => Pc_L (fun E eE => Pc_l (Pc_s ?_)))))
      have d14 : gA D 14 = gA Y 14 := by rw [eD, gA_ne (by decide)]; exact b14
      have e19 : gA E 19 = upd (gA Y 19) (6 * (60 * b + i) + hb C i h) (if cUr C h = -1 then 1 else 0) := by
        rw [eE, gA_ne (by decide), eD, gA_ne (by decide), eB, gA_ne (by decide), eA, gA_eq, m5, e14, i6, nI_clamp (by omega), cl, fA 25 (by decide) (by decide) (by decide), d3]
        congr 1
        split <;> decide
      have e16 : gA E 16 = upd (upd (gA Y 16) (12 * (60 * b + i) + 2 * hb C i h) (xq C (h + 1))) (12 * (60 * b + i) + (2 * hb C i h + 1)) (xq C (h + 2)) := by
        rw [eE, gA_ne (by decide), eD, gA_eq, m5, b14, e14, i12d, nI_1, nI_clamp (by omega), b24, show (2 : Int32) = nI 2 from rfl, nI_add, nI_clamp (by omega), bB, un _ t1, eB, gA_eq, m5, a14, e14]
        rw [i12d, nI_clamp (by omega), a24', nI_1, nI_clamp (by omega), aB, un _ (by omega), eA, gA_ne (by decide)]
        rfl
      have e14' : gA E 14 = upd (gA Y 14) (60 * b + i) (nI (hb C i h + 1)) := by
        rw [eE, gA_eq, m5, d14, e14, nI_1]
      have eAo : ∀ k, k ≠ 14 → k ≠ 16 → k ≠ 19 → gA E k = gA X0 k := fun k k1 k2 k3 => by
        rw [eE, gA_ne k1, eD, gA_ne k2, eB, gA_ne k2, eA, gA_ne k3]
        exact fA k k1 k2 k3
      have nd1 : nh C (h + 1) = d + 1 := by
        rw [← h3]
        exact cn_y h2
      have hqi : hq C X0 i (d + 1) = hb C i h + 1 := by
        rw [← nd1, hq_hb dv i (h + 1) (by omega)]
        exact cn_y ⟨h2, xi⟩
      have hqj : ∀ j, j < cC C → j ≠ i → hq C X0 j (d + 1) = hq C X0 j d := fun j hj ji => cn_n (fun z => by
        have z : ix (cNm C) (gB X0 23 d) (cC C) = nI j := z
        rw [d1] at z
        have z2 : xq C h = nI j := z
        rw [xi] at z2
        exact ji ((nI_eq (by omega) (by omega)).mp z2).symm)
      refine ⟨⟨fun k => by rw [eE]; show gI D k = _; rw [eD]; exact bI' k, eAo, fun k => by rw [eE]; show gB D k = _; rw [eD]; exact bB k⟩, d + 1, nI_1 d, by omega, fun j hj => ?_, fun q j hq' hj e => ?_, fun h' j hh' hd' hj z1 z2 => ?_, fun j hj => ?_, fun j hj => ?_, fun j hj => ?_⟩
      · show gA E 14 (60 * b + j) = _
        rw [e14']
        by_cases ji : j = i
        · rw [ji, pk_us, if_pos kd, hqi]
        · rw [pk_un (by omega), y14 j hj, hqj j hj ji]
      · show gA E 16 (12 * (60 * b + j) + nn C j q) = _
        have w1 : nn C j q < 6 := Nat.lt_of_lt_of_le (cn_lt (P := fun q => cUr C q = nI j) hq' e) (b6 j hj)
        have ji : j ≠ i := fun y => by
          have := k1 i hi kd
          have w2 := cn_lt (P := fun q => cUr C q = nI j) hq' e
          rw [y] at w2
          have w2 : nn C i q < nn C i (cU C) := w2
          omega
        rw [e16, pk_un (by omega), pk_un (by omega)]
        exact rr q j hq' hj e
      · show gA E 16 (12 * (60 * b + j) + 2 * hb C j h') = _ ∧ gA E 16 (12 * (60 * b + j) + (2 * hb C j h' + 1)) = _ ∧ gA E 19 (6 * (60 * b + j) + hb C j h') = _
        have w1 : hb C j h' < 6 := Nat.lt_of_lt_of_le (cn_lt (P := fun q => isHd (cUr C q) ∧ xq C q = nI j) hh' ⟨z1, z2⟩) (h6 j hj)
        by_cases eh' : h' = h
        · rw [eh'] at z2 w1 ⊢
          rw [xi] at z2
          have : i = j := (nI_eq (by omega) (by omega)).mp z2
          rw [← this, e16, e19, pk_un (by omega), pk_us, pk_us, pk_us]
          exact ⟨rfl, rfl, rfl⟩
        · have lt : nh C h' < d := by
            rcases Nat.lt_or_ge h' h with y | y
            · rw [← h3]
              exact cn_lt (P := fun j => isHd (cUr C j)) y z1
            · have := cn_lt (P := fun j => isHd (cUr C j)) (show h < h' by omega) h2
              have : nh C h < nh C h' := this
              omega
          have hlt : h' < h := by
            rcases Nat.lt_or_ge h' h with y | y
            · exact y
            · have := cn_lt (P := fun j => isHd (cUr C j)) (show h < h' by omega) h2
              have : nh C h < nh C h' := this
              omega
          have nej : j = i → hb C j h' < hb C i h := fun y => by
            rw [y] at z2 ⊢
            exact cn_lt (P := fun q => isHd (cUr C q) ∧ xq C q = nI i) hlt ⟨z1, z2⟩
          rw [e16, e19, pk_un (by omega), pk_un (by omega), pk_un (by omega), pk_un (by omega), pk_un (by omega)]
          exact rd h' j hh' lt hj z1 z2
      · show gA E 14 j = _
        rw [e14', pk_un (by omega)]
        exact fb.1 j hj
      · show gA E 16 j = _
        rw [e16, pk_un (by omega), pk_un (by omega)]
        exact fb.2.1 j hj
      · show gA E 19 j = _
        rw [e19, pk_un (by omega)]
        exact fb.2.2 j hj
  · show gA X 14 (60 * b + i) = _
    rw [x14, mn i hi]
    by_cases kd : cKd C i = 1
    · rw [if_pos kd]
      exact congrArg nI (k1 i hi kd)
    · rw [if_neg kd]
      rfl
theorem p_resolve {b : Nat} {C : Ct} {X : SS} (ln : LN b C X (cC C)) (tri : TRI C) (g : GB C) (hu : cU C ≤ 667) (x4 : gI X 4 = 0) : Pc (f_X7_resolve X) (fun Y => (∃ k, k < cU C ∧ BU C k ∧ (∀ q, q < k → ¬ BU C q) ∧ gI Y 4 = 4 ∧ gI Y 5 = cUp C k ∧ FF X Y) ∨ (gI Y 4 = 0 ∧ (∀ q, q < cU C → ¬ BU C q) ∧ F3 X Y ∧ RK b C Y ∧ FB b X Y)) := by
  refine Pc_B (p_resolve_2 ln g hu x4) (fun A hA => ?_)
  rcases hA with hA | ⟨eA, ok⟩
  · have a4 : gI A 4 ≠ 0 := by
      obtain ⟨_, _, _, _, z, _⟩ := hA
      rw [z]; decide
    exact Pc_e (e_isGood0 a4) (Pc_c (fun _ => Pc_s (Or.inl hA)) (fun y => absurd rfl y))
  · rw [eA]
    refine Pc_e (e_isGood1 x4) (Pc_c (fun y => absurd y ne10) (fun _ => Pc_B (p_resolve_87 ln tri g hu ok) (fun B hB => ?_)))
    refine Pc_w (p_resolve_142 ln tri g hu ok hB.1 hB.2.1 hB.2.2.1 hB.2.2.2) (fun Y hY => Or.inr ⟨?_, ok, hY.1, hY.2.1, hY.2.2⟩)
    rw [hY.1.1]
    exact x4
