/-! node -/
theorem e_hasO {a p : Int32} {c : Nat} (ha : a = nI c) (hp : p < 0 ∨ nI c ≤ p) : (if p < (0 : Int32) then some (0 : Int32) else if a ≤ p then some (0 : Int32) else some (1 : Int32)) = some 0 := by
  by_cases q : p < 0
  · exact E_y q rfl
  · refine E_n q (E_y ?_ rfl)
    rw [ha]
    rcases hp with hp | hp
    · exact absurd hp q
    · exact hp
theorem e_hasI {a : Int32} {c j : Nat} (hc : c ≤ 60) (ha : a = nI c) (hj : j < c) : (if nI j < (0 : Int32) then some (0 : Int32) else if a ≤ nI j then some (0 : Int32) else some (1 : Int32)) = some 1 := E_n (nI_pos (by omega)) (E_n (by rw [ha, nI_leI (by omega) (by omega)]; omega) rfl)
noncomputable def ndv (S0 : SS) (j : Nat) (p2 : Int32) : Int32 := if p2 = 0 then gA S0 4 j else if p2 = 1 then nI (sz S0 j) else if p2 = 2 then gA S0 6 j else if p2 = 3 then gA S0 11 j else -1
theorem q_node {b c : Nat} {E : Nat → Nat → Prop} {M : Nat → Nat} {S0 S7 : SS} (h : CE b c E M S0 S7) (S6 : SS) (p1 p2 : Int32) {rx rm : Int32} (ex : f_X6_node S6 S0 p1 p2 = some rx) (em : f_X7_node S7 p1 p2 = some rm) : rx = rm := by
  obtain ⟨hc, hb, h0, h29, h30⟩ := h.1
  have out : p1 < 0 ∨ nI c ≤ p1 → rx = rm := fun q => by
    have e6 : f_X6_node S6 S0 p1 p2 = some (-1) := E_B (e_hasO h0 q) (E_y rfl rfl)
    have e7 : f_X7_node S7 p1 p2 = some (-1) := E_B (e_hasO h29 q) (E_y rfl rfl)
    rw [ex] at e6
    rw [em] at e7
    exact (Option.some.inj e6).trans (Option.some.inj e7).symm
  rcases pk_ix p1 (n := c) (by omega) with q | q | ⟨j, hj, e⟩
  · exact out (Or.inl q)
  · exact out (Or.inr q)
  · subst e
    obtain ⟨⟨_, a12, a15⟩, _⟩ := h.2.1 j hj
    obtain ⟨_, a14, es⟩ := CE_szM h hj
    have a17 := CE_lv' h hj
    have cl : (nI j).toNatClampNeg = j := nI_clamp (by omega)
    have cl7 : (((60 : Int32) * (gI S7 30)) + nI j).toNatClampNeg = 60 * b + j := by rw [h30, i60 hb, nI_clamp (by omega)]
    have in7 : vp_in (((60 : Int32) * (gI S7 30)) + nI j) 120 := by
      rw [h30, i60 hb]
      exact ti_in (by rw [nI_toInt (by omega)]; omega) (by rw [nI_toInt (by omega)]; omega)
    have e6 : f_X6_node S6 S0 (nI j) p2 = some (ndv S0 j p2) := by
      refine E_B (e_hasI hc h0 hj) (E_n ne10 ?_)
      unfold ndv
      by_cases z0 : p2 = 0
      · rw [if_pos z0, if_pos z0]
        exact E_G (in60 (by omega)) (by rw [cl])
      rw [if_neg z0, if_neg z0]
      by_cases z1 : p2 = 1
      · rw [if_pos z1, if_pos z1]
        exact E_B es rfl
      rw [if_neg z1, if_neg z1]
      by_cases z2 : p2 = 2
      · rw [if_pos z2, if_pos z2]
        exact E_G (in60 (by omega)) (by rw [cl])
      rw [if_neg z2, if_neg z2]
      by_cases z3 : p2 = 3
      · rw [if_pos z3, if_pos z3]
        exact E_G (in60 (by omega)) (by rw [cl])
      rw [if_neg z3, if_neg z3]
    have e7 : f_X7_node S7 (nI j) p2 = some (ndv S0 j p2) := by
      refine E_B (e_hasI hc h29 hj) (E_n ne10 ?_)
      unfold ndv
      show (if p2 = 0 then _ else _) = _
      by_cases z0 : p2 = 0
      · rw [if_pos z0, if_pos z0]
        exact E_G in7 (by rw [cl7, a12])
      rw [if_neg z0, if_neg z0]
      by_cases z1 : p2 = 1
      · rw [if_pos z1, if_pos z1]
        exact E_G in7 (by rw [cl7, a14])
      rw [if_neg z1, if_neg z1]
      by_cases z2 : p2 = 2
      · rw [if_pos z2, if_pos z2]
        exact E_G in7 (by rw [cl7, a15])
      rw [if_neg z2, if_neg z2]
      by_cases z3 : p2 = 3
      · rw [if_pos z3, if_pos z3]
        exact E_G in7 (by rw [cl7, a17])
      rw [if_neg z3, if_neg z3]
    rw [ex] at e6
    rw [em] at e7
    exact (Option.some.inj e6).trans (Option.some.inj e7).symm
