/-! what the class's step does, state by state -/
theorem ne_of {x a b : Int32} (h : x = a) (g : a ≠ b) : ¬ x = b := fun q => g (h.symm.trans q)
theorem e_bt (S3 : SS) (k : Int32) : f_X3_beginTelling S3 k = some (1, sI (sI S3 5 k) 4 1) := E_B rfl (E_G zb1 rfl)
theorem s0_of {S3 S1 S0 T : SS} {r : Int32} (h : gI S3 4 = 0) (hb : f_X3_beginLine S3 S1 = some (r, T)) (hz : zb r) : f_X3_step S3 S1 S0 = some (r, T, S0) := E_y h (E_B hb (E_G hz rfl))
theorem s1_of {S3 S1 S0 T U : SS} {r : Int32} (h : gI S3 4 = 1) (hb : f_X3_tellHere S3 S1 S0 = some (r, T, U)) (hz : zb r) : f_X3_step S3 S1 S0 = some (r, T, U) := E_n (ne_of h (by decide)) (E_y h (E_B hb (E_G hz rfl)))
theorem s2_c {S3 S1 S0 : SS} (h : gI S3 4 = 2) (hk : gI S1 3 = 44) : f_X3_step S3 S1 S0 = some (1, sI S3 4 1, S0) := E_n (ne_of h (by decide)) (E_n (ne_of h (by decide)) (E_y h (E_y hk (E_B rfl (E_G zb1 rfl)))))
theorem s2_1 {S3 S1 S0 : SS} (h : gI S3 4 = 2) (hk : gI S1 3 = 59) : f_X3_step S3 S1 S0 = some (1, sI S3 4 0, S0) := E_n (ne_of h (by decide)) (E_n (ne_of h (by decide)) (E_y h (E_n (ne_of hk (by decide)) (E_B (e_endLine1 hk) (E_G zb1 rfl)))))
theorem s2_0 {S3 S1 S0 : SS} (h : gI S3 4 = 2) (hk : gI S1 3 ≠ 44) (hk2 : gI S1 3 ≠ 59) : f_X3_step S3 S1 S0 = some (0, rfS S3 S1, S0) := E_n (ne_of h (by decide)) (E_n (ne_of h (by decide)) (E_y h (E_n hk (E_B (e_endLine0 hk2) (E_G zb0 rfl)))))
theorem s3_of {S3 S1 S0 T U : SS} {r : Int32} (h : gI S3 4 = 3) (hb : f_X3_tellOrDrive S3 S1 S0 = some (r, T, U)) (hz : zb r) : f_X3_step S3 S1 S0 = some (r, T, U) := E_n (ne_of h (by decide)) (E_n (ne_of h (by decide)) (E_n (ne_of h (by decide)) (E_y h (E_B hb (E_G hz rfl)))))
theorem s4_of {S3 S1 S0 T U : SS} {r : Int32} (h : gI S3 4 = 4) (hb : f_X3_takeGate S3 S1 S0 = some (r, T, U)) (hz : zb r) : f_X3_step S3 S1 S0 = some (r, T, U) := E_n (ne_of h (by decide)) (E_n (ne_of h (by decide)) (E_n (ne_of h (by decide)) (E_n (ne_of h (by decide)) (E_y h (E_B hb (E_G hz rfl))))))
theorem s5_of {S3 S1 S0 T : SS} {r : Int32} (h : gI S3 4 = 5) (hb : f_X3_takeDriver S3 S1 = some (r, T)) (hz : zb r) : f_X3_step S3 S1 S0 = some (r, T, S0) := E_n (ne_of h (by decide)) (E_n (ne_of h (by decide)) (E_n (ne_of h (by decide)) (E_n (ne_of h (by decide)) (E_n (ne_of h (by decide)) (E_y h (E_B hb (E_G hz rfl)))))))
theorem s6_1 {S3 S1 S0 : SS} (h : gI S3 4 = 6) (hk : gI S1 3 = 40) : f_X3_step S3 S1 S0 = some (1, sI S3 4 7, S0) := E_n (ne_of h (by decide)) (E_n (ne_of h (by decide)) (E_n (ne_of h (by decide)) (E_n (ne_of h (by decide)) (E_n (ne_of h (by decide)) (E_n (ne_of h (by decide)) (E_y h (E_y hk (E_B rfl (E_G zb1 rfl)))))))))
theorem s6_0 {S3 S1 S0 : SS} (h : gI S3 4 = 6) (hk : gI S1 3 ≠ 40) : f_X3_step S3 S1 S0 = some (0, rfS S3 S1, S0) := E_n (ne_of h (by decide)) (E_n (ne_of h (by decide)) (E_n (ne_of h (by decide)) (E_n (ne_of h (by decide)) (E_n (ne_of h (by decide)) (E_n (ne_of h (by decide)) (E_y h (E_n hk (E_B (e_refuse S3 S1) (E_G zb0 rfl)))))))))
theorem s7_of {S3 S1 S0 T : SS} {r : Int32} (h : gI S3 4 = 7) (hb : f_X3_takePart S3 S1 = some (r, T)) (hz : zb r) : f_X3_step S3 S1 S0 = some (r, T, S0) := E_n (ne_of h (by decide)) (E_n (ne_of h (by decide)) (E_n (ne_of h (by decide)) (E_n (ne_of h (by decide)) (E_n (ne_of h (by decide)) (E_n (ne_of h (by decide)) (E_n (ne_of h (by decide)) (E_y h (E_B hb (E_G hz rfl)))))))))
theorem s8_of {S3 S1 S0 T : SS} {r : Int32} (h : gI S3 4 = 8) (hb : f_X3_behindPart S3 S1 = some (r, T)) (hz : zb r) : f_X3_step S3 S1 S0 = some (r, T, S0) := E_n (ne_of h (by decide)) (E_n (ne_of h (by decide)) (E_n (ne_of h (by decide)) (E_n (ne_of h (by decide)) (E_n (ne_of h (by decide)) (E_n (ne_of h (by decide)) (E_n (ne_of h (by decide)) (E_n (ne_of h (by decide)) (E_y h (E_B hb (E_G hz rfl))))))))))
theorem s9_1 {S3 S1 S0 T U : SS} {r : Int32} (h : gI S3 4 = 9) (hk : gI S1 3 = 3) (hb : f_X3_takeDelay S3 S1 S0 = some (r, T, U)) (hz : zb r) : f_X3_step S3 S1 S0 = some (r, T, U) := E_n (ne_of h (by decide)) (E_n (ne_of h (by decide)) (E_n (ne_of h (by decide)) (E_n (ne_of h (by decide)) (E_n (ne_of h (by decide)) (E_n (ne_of h (by decide)) (E_n (ne_of h (by decide)) (E_n (ne_of h (by decide)) (E_n (ne_of h (by decide)) (E_y h (E_y hk (E_B hb (E_G hz rfl))))))))))))
theorem s9_0 {S3 S1 S0 T : SS} {r : Int32} (h : gI S3 4 = 9) (hk : gI S1 3 ≠ 3) (hb : f_X3_endLine S3 S1 = some (r, T)) (hz : zb r) : f_X3_step S3 S1 S0 = some (r, T, S0) := E_n (ne_of h (by decide)) (E_n (ne_of h (by decide)) (E_n (ne_of h (by decide)) (E_n (ne_of h (by decide)) (E_n (ne_of h (by decide)) (E_n (ne_of h (by decide)) (E_n (ne_of h (by decide)) (E_n (ne_of h (by decide)) (E_n (ne_of h (by decide)) (E_y h (E_n hk (E_B hb (E_G hz rfl))))))))))))
theorem s10_of {S3 S1 S0 T : SS} {r : Int32} (h : gI S3 4 = 10) (hb : f_X3_endLine S3 S1 = some (r, T)) (hz : zb r) : f_X3_step S3 S1 S0 = some (r, T, S0) := E_n (ne_of h (by decide)) (E_n (ne_of h (by decide)) (E_n (ne_of h (by decide)) (E_n (ne_of h (by decide)) (E_n (ne_of h (by decide)) (E_n (ne_of h (by decide)) (E_n (ne_of h (by decide)) (E_n (ne_of h (by decide)) (E_n (ne_of h (by decide)) (E_n (ne_of h (by decide)) (E_B hb (E_G hz rfl)))))))))))
/-! a line's first TOKEN -/
theorem l0_in {S3 S1 : SS} (h2 : gI S1 3 = 2) (hw : gL S1 5 = 26990) : f_X3_beginLine S3 S1 = some (1, sI (sI S3 5 0) 4 1) := E_B (e_isWord1 h2 hw) (E_n ne10 (E_B (e_bt S3 0) (E_G zb1 rfl)))
theorem l0_bus {S3 S1 : SS} (h2 : gI S1 3 = 2) (hw : gL S1 5 = 6452595) : f_X3_beginLine S3 S1 = some (1, sI (sI S3 5 1) 4 1) := E_B (e_isWord0 (fun q => absurd (hw.symm.trans q.2) (by decide))) (E_y rfl (E_B (e_isWord1 h2 hw) (E_n ne10 (E_B (e_bt S3 1) (E_G zb1 rfl)))))
theorem l0_reg {S3 S1 : SS} (h2 : gI S1 3 = 2) (hw : gL S1 5 = 7497063) : f_X3_beginLine S3 S1 = some (1, sI (sI S3 5 3) 4 1) := E_B (e_isWord0 (fun q => absurd (hw.symm.trans q.2) (by decide))) (E_y rfl (E_B (e_isWord0 (fun q => absurd (hw.symm.trans q.2) (by decide))) (E_y rfl (E_B (e_isWord1 h2 hw) (E_n ne10 (E_B (e_bt S3 3) (E_G zb1 rfl)))))))
theorem kept_in : kept 26990 ∧ kept 6452595 ∧ kept 7497063 ∧ kept 6907441 ∧ kept 6907440 := ⟨Or.inr (Or.inl rfl), Or.inr (Or.inr (Or.inl rfl)), Or.inr (Or.inr (Or.inr (Or.inl rfl))), Or.inr (Or.inr (Or.inr (Or.inr (Or.inl rfl)))), Or.inr (Or.inr (Or.inr (Or.inr (Or.inr rfl))))⟩
theorem l0_name {S3 S1 : SS} (h2 : gI S1 3 = 2) (hw : ¬ kept (gL S1 5)) : f_X3_beginLine S3 S1 = some (1, sI (sI (sL S3 6 (gL S1 5)) 7 (gI S1 4)) 4 3) := by
  obtain ⟨k1, k2, k3, _, _⟩ := kept_in
  exact E_B (e_isWord0 (fun q => hw (by rw [q.2]; exact k1))) (E_y rfl (E_B (e_isWord0 (fun q => hw (by rw [q.2]; exact k2))) (E_y rfl (E_B (e_isWord0 (fun q => hw (by rw [q.2]; exact k3))) (E_y rfl (E_B (e_isName1 h2 hw) (E_n ne10 (E_B rfl (E_G zb1 rfl)))))))))
theorem l0_0 {S3 S1 : SS} (h : ¬ (gI S1 3 = 2 ∧ (gL S1 5 = 26990 ∨ gL S1 5 = 6452595 ∨ gL S1 5 = 7497063 ∨ ¬ kept (gL S1 5)))) : f_X3_beginLine S3 S1 = some (0, rfS S3 S1) := E_B (e_isWord0 (fun q => h ⟨q.1, Or.inl q.2⟩)) (E_y rfl (E_B (e_isWord0 (fun q => h ⟨q.1, Or.inr (Or.inl q.2)⟩)) (E_y rfl (E_B (e_isWord0 (fun q => h ⟨q.1, Or.inr (Or.inr (Or.inl q.2))⟩)) (E_y rfl (E_B (e_isName0 (fun q => h ⟨q.1, Or.inr (Or.inr (Or.inr q.2))⟩)) (E_y rfl (E_B (e_refuse S3 S1) (E_G zb0 rfl)))))))))
/-! a NODE is told -/
theorem tl_full {S3 S0 : SS} (h : gI S0 0 = nI 60) (w : Int64) (p k : Int32) : f_X3_tell S3 S0 w p k = some (0, flS S3 2 p, S0) := E_n (by rw [h]; decide) (E_B rfl (E_G zb0 rfl))
theorem lt60 {S0 : SS} {c : Nat} (h : gI S0 0 = nI c) (hc : c < 60) : gI S0 0 < (60 : Int32) := by
  rw [h, show (60 : Int32) = nI 60 from rfl, nI_ltI (by omega) (by omega)]
  exact hc
theorem tl_dup {S3 S0 : SS} {c : Nat} (h : gI S0 0 = nI c) (hc : c < 60) {w : Int64} (hw : ix (gB S0 2) w c ≠ -1) (p k : Int32) : f_X3_tell S3 S0 w p k = some (0, flS S3 3 p, S0) := E_y (lt60 h hc) (E_B (e_find h (by omega) w) (E_n hw (E_B rfl (E_G zb0 rfl))))
theorem tl_ok {S3 S0 T : SS} {c : Nat} (h : gI S0 0 = nI c) (hc : c < 60) {w : Int64} (hw : ix (gB S0 2) w c = -1) {p k : Int32} (ha : f_X0_add S0 w p k = some T) : f_X3_tell S3 S0 w p k = some (1, S3, T) := E_y (lt60 h hc) (E_B (e_find h (by omega) w) (E_y hw (E_B ha rfl)))
theorem t1_0 {S3 S1 S0 : SS} (h : ¬ (gI S1 3 = 2 ∧ ¬ kept (gL S1 5))) : f_X3_tellHere S3 S1 S0 = some (0, rfS S3 S1, S0) := E_B (e_isName0 h) (E_y rfl (E_B (e_refuse S3 S1) (E_G zb0 rfl)))
theorem t1_bad {S3 S1 S0 T U : SS} (h2 : gI S1 3 = 2) (hw : ¬ kept (gL S1 5)) (ht : f_X3_tell S3 S0 (gL S1 5) (gI S1 4) (gI S3 5) = some (0, T, U)) : f_X3_tellHere S3 S1 S0 = some (0, T, U) := E_B (e_isName1 h2 hw) (E_n ne10 (E_B ht (E_y rfl rfl)))
theorem t1_ok {S3 S1 S0 U : SS} (h2 : gI S1 3 = 2) (hw : ¬ kept (gL S1 5)) (ht : f_X3_tell S3 S0 (gL S1 5) (gI S1 4) (gI S3 5) = some (1, S3, U)) (h5 : gI S3 5 ≠ 3) : f_X3_tellHere S3 S1 S0 = some (1, sI S3 4 2, U) := E_B (e_isName1 h2 hw) (E_n ne10 (E_B ht (E_n ne10 (E_n h5 (E_B rfl (E_G zb1 rfl))))))
theorem t1_reg {S3 S1 S0 U : SS} (h2 : gI S1 3 = 2) (hw : ¬ kept (gL S1 5)) (ht : f_X3_tell S3 S0 (gL S1 5) (gI S1 4) (gI S3 5) = some (1, S3, U)) (h5 : gI S3 5 = 3) : f_X3_tellHere S3 S1 S0 = some (1, bpS S3 (gI U 0 - 1) 1 2, U) := E_B (e_isName1 h2 hw) (E_n ne10 (E_B ht (E_n ne10 (E_y h5 (E_B (e_beginParts S3 _ _ _) (E_G zb1 rfl))))))
/-! behind a line's NAME -/
theorem t3_eb {S3 S1 S0 T U : SS} (hk : gI S1 3 = 61) (ht : f_X3_tell (sI S3 5 2) S0 (gL S3 6) (gI S3 7) 2 = some (0, T, U)) : f_X3_tellOrDrive S3 S1 S0 = some (0, T, U) := E_y hk (E_B (a := ((0 : Int32), T, U)) ht (E_y rfl rfl))
theorem t3_eo {S3 S1 S0 T U : SS} (hk : gI S1 3 = 61) (ht : f_X3_tell (sI S3 5 2) S0 (gL S3 6) (gI S3 7) 2 = some (1, T, U)) : f_X3_tellOrDrive S3 S1 S0 = some (1, sI T 4 4, U) := E_y hk (E_B (a := ((1 : Int32), T, U)) ht (E_n ne10 (E_B rfl (E_n ne10 rfl))))
theorem t3_0 {S3 S1 S0 : SS} (hk : gI S1 3 ≠ 61) (hk2 : gI S1 3 ≠ 60) : f_X3_tellOrDrive S3 S1 S0 = some (0, rfS S3 S1, S0) := E_n hk (E_n hk2 (E_B (e_refuse S3 S1) (E_G zb0 rfl)))
theorem e_cnf {b : Int32 × Int32 → Option ((Int32 × Int32) ⊕ Int32)} {P : Nat → Prop} {c : Nat} (hc : c ≤ 9000) (hx : ∀ m : Nat, b (nI m, nI c) = some (.inr (nI m))) (h1 : ∀ m j : Nat, j < c → P j → b (nI m, nI j) = some (.inl (nI (m + 1), nI (j + 1)))) (h2 : ∀ m j : Nat, j < c → ¬ P j → b (nI m, nI j) = some (.inl (nI m, nI (j + 1)))) : zI b zF ((0 : Int32), (0 : Int32)) = some (nI (cn P c)) := by
  have go : ∀ (k j N : Nat), j + k = c → zI b (N + k + 1) (nI (cn P j), nI j) = some (nI (cn P c)) := by
    intro k
    induction k with
    | zero =>
      intro j N e
      have : j = c := by omega
      rw [this]
      exact zI_e (hx _)
    | succ k ih =>
      intro j N e
      by_cases q : P j
      · refine (zI_1 (h1 _ j (by omega) q)).trans ?_
        rw [← cn_y q]
        exact ih (j + 1) N (by omega)
      · refine (zI_1 (h2 _ j (by omega) q)).trans ?_
        rw [← cn_n q]
        exact ih (j + 1) N (by omega)
  have e : zF = (9999 - c) + c + 1 := by
    unfold zF
    omega
  rw [e]
  exact go c 0 _ (by omega)
def isHd (r : Int32) : Prop := r = -1 ∨ r = -2
theorem e_isHead1 {r : Int32} (h : isHd r) : f_X3_isHead r = some 1 := by
  rcases h with h | h
  · exact E_y h rfl
  · exact E_n (ne_of h (by decide)) (E_y h rfl)
theorem e_isHead0 {r : Int32} (h : ¬ isHd r) : f_X3_isHead r = some 0 := E_n (fun q => h (Or.inl q)) (E_n (fun q => h (Or.inr q)) rfl)
theorem e_checkDrivers {S3 : SS} {u : Nat} (h : gI S3 15 = nI u) (hu : u ≤ 667) : zI (b_X3_checkDrivers_4 S3) zF ((0 : Int32), (0 : Int32)) = some (nI (cn (fun k => isHd (gA S3 14 k) ∧ gB S3 12 k = gL S3 6) u)) := by
  have st : ∀ j, j < u → (nI j).toInt = j ∧ (nI j).toNatClampNeg = j ∧ ¬ gI S3 15 ≤ nI j := fun j hj => ⟨nI_toInt (by omega), nI_clamp (by omega), by rw [h, nI_leI (by omega) (by omega)]; omega⟩
  refine e_cnf (by omega) (fun m => ?_) (fun m j hj q => ?_) (fun m j hj q => ?_)
  · exact E_y (by rw [h]; exact (nI_leI (by omega) (by omega)).mpr (Nat.le_refl _)) rfl
  · obtain ⟨ej, cl, nl⟩ := st j hj
    refine E_n nl (E_G (ti_in (by omega) (by omega)) (E_B (e_isHead1 (by rw [cl]; exact q.1)) (E_n ne10 (E_y (lc_eq.mpr (by rw [cl]; exact q.2)) ?_))))
    show some (Sum.inl (nI m + 1, nI j + 1)) = _
    rw [nI_1, nI_1]
  · obtain ⟨ej, cl, nl⟩ := st j hj
    by_cases z : isHd (gA S3 14 j)
    · refine E_n nl (E_G (ti_in (by omega) (by omega)) (E_B (e_isHead1 (by rw [cl]; exact z)) (E_n ne10 (E_n (fun y => q ⟨z, by have := lc_eq.mp y; rwa [cl] at this⟩) ?_))))
      show some (Sum.inl (nI m, nI j + 1)) = _
      rw [nI_1]
    · refine E_n nl (E_G (ti_in (by omega) (by omega)) (E_B (e_isHead0 (by rw [cl]; exact z)) (E_y rfl ?_)))
      show some (Sum.inl (nI m, nI j + 1)) = _
      rw [nI_1]
theorem t3_lo {S3 S1 S0 : SS} {u : Nat} (hk : gI S1 3 = 60) (h : gI S3 15 = nI u) (hu : u ≤ 667) (hn : cn (fun k => isHd (gA S3 14 k) ∧ gB S3 12 k = gL S3 6) u < 6) : f_X3_tellOrDrive S3 S1 S0 = some (1, sI (sI S3 5 4) 4 5, S0) := by
  have e := e_checkDrivers (S3 := sI S3 5 4) (u := u) (by rw [gI_ne (by decide)]; exact h) hu
  refine E_n (ne_of hk (by decide)) (E_y hk (E_B (a := ((1 : Int32), sI S3 5 4)) (E_B e (E_y ?_ rfl)) (E_n ne10 (E_B rfl (E_n ne10 rfl)))))
  rw [show (6 : Int32) = nI 6 from rfl]
  exact (nI_ltI (Nat.lt_of_le_of_lt (cn_le _) (by omega)) (by omega)).mpr hn
theorem t3_lb {S3 S1 S0 : SS} {u : Nat} (hk : gI S1 3 = 60) (h : gI S3 15 = nI u) (hu : u ≤ 667) (hn : ¬ cn (fun k => isHd (gA S3 14 k) ∧ gB S3 12 k = gL S3 6) u < 6) : f_X3_tellOrDrive S3 S1 S0 = some (0, flS (sI S3 5 4) 2 (gI S3 7), S0) := by
  have e := e_checkDrivers (S3 := sI S3 5 4) (u := u) (by rw [gI_ne (by decide)]; exact h) hu
  refine E_n (ne_of hk (by decide)) (E_y hk (E_B (a := ((0 : Int32), flS (sI S3 5 4) 2 (gI S3 7))) (E_B e (E_n ?_ (E_B rfl (E_y rfl rfl)))) (E_y rfl rfl)))
  rw [show (6 : Int32) = nI 6 from rfl]
  exact fun q => hn ((nI_ltI (Nat.lt_of_le_of_lt (cn_le _) (by omega)) (by omega)).mp q)
/-! a GATE's word, a DRIVER's -/
theorem e_has1 {S0 : SS} {c i : Nat} (h : gI S0 0 = nI c) (hc : c ≤ 60) (hi : i < c) : f_X0_has S0 (nI i) = some 1 := E_n (nI_pos (by omega)) (E_n (by rw [h, nI_leI (by omega) (by omega)]; omega) rfl)
theorem t4_0 {S3 S1 S0 : SS} (h : ¬ (gI S1 3 = 2 ∧ gh (gL S1 5) ≠ -1)) : f_X3_takeGate S3 S1 S0 = some (0, rfS S3 S1, S0) := by
  by_cases q : gI S1 3 = 2
  · have z : gh (gL S1 5) = -1 := Classical.byContradiction (fun z => h ⟨q, z⟩)
    exact E_B (e_gateHere q) (E_y z (E_B (e_refuse S3 S1) (E_G zb0 rfl)))
  · exact E_B (e_gateHere0 q) (E_y rfl (E_B (e_refuse S3 S1) (E_G zb0 rfl)))
theorem t4_1 {S3 S1 S0 : SS} {i : Nat} (h2 : gI S1 3 = 2) (hg : IV 0 8 (gh (gL S1 5))) (h : gI S0 0 = nI (i + 1)) (hi : i < 60) : f_X3_takeGate S3 S1 S0 = some (1, bpS S3 (nI i) (sl_f (gh (gL S1 5)).toNatClampNeg) (sm_f (gh (gL S1 5)).toNatClampNeg), sA S0 5 (upd (gA S0 5) i (gh (gL S1 5)))) := by
  have e : gI S0 0 - 1 = nI i := by rw [h, nI_pred]
  have cl : (nI i).toNatClampNeg = i := nI_clamp (by omega)
  have ei : (nI i).toInt = i := nI_toInt (by omega)
  have ne : gh (gL S1 5) ≠ -1 := fun q => by rw [q] at hg; exact absurd hg.1 (by decide)
  unfold f_X3_takeGate
  rw [e]
  refine E_B (e_gateHere h2) (E_n ne (E_B (e_has1 h (by omega) (by omega)) (E_n ne10 (E_G (ti_in (by omega) (by omega)) (E_G (IV_in hg (by decide) (by decide)) (E_B (e_beginParts S3 _ _ _) (E_G zb1 ?_)))))))
  show some ((1 : Int32), bpS S3 (nI i) _ _, sA S0 5 (upd (gA S0 5) (nI i).toNatClampNeg _)) = _
  rw [cl]
theorem t5_0 {S3 S1 : SS} (h : ¬ (gI S1 3 = 2 ∧ (gL S1 5 = 6907441 ∨ gL S1 5 = 6907440))) : f_X3_takeDriver S3 S1 = some (0, rfS S3 S1) := E_B (e_isWord0 (fun q => h ⟨q.1, Or.inl q.2⟩)) (E_y rfl (E_B (e_isWord0 (fun q => h ⟨q.1, Or.inr q.2⟩)) (E_y rfl (E_B (e_refuse S3 S1) (E_G zb0 rfl)))))
theorem t5_1 {S3 S1 : SS} {u : Nat} (h2 : gI S1 3 = 2) (hw : gL S1 5 = 6907441) (h : gI S3 15 = nI u) (hu : u < 667) : f_X3_takeDriver S3 S1 = some (1, bpS (auS S3 (gL S3 6) (gI S3 7) (-1)) (-3) 2 2) := E_B (e_isWord1 h2 hw) (E_n ne10 (E_B (e_isWord0 (fun q => absurd (hw.symm.trans q.2) (by decide))) (E_B (E_y rfl rfl) (E_B (e_addUse h hu _ _ _) (E_B (e_beginParts _ _ _ _) (E_G zb1 rfl))))))
theorem t5_2 {S3 S1 : SS} {u : Nat} (h2 : gI S1 3 = 2) (hw : gL S1 5 = 6907440) (h : gI S3 15 = nI u) (hu : u < 667) : f_X3_takeDriver S3 S1 = some (1, bpS (auS S3 (gL S3 6) (gI S3 7) (-2)) (-3) 2 2) := E_B (e_isWord0 (fun q => absurd (hw.symm.trans q.2) (by decide))) (E_y rfl (E_B (e_isWord1 h2 hw) (E_n ne10 (E_B (e_isWord1 h2 hw) (E_B (E_n ne10 rfl) (E_B (e_addUse h hu _ _ _) (E_B (e_beginParts _ _ _ _) (E_G zb1 rfl))))))))
/-! in the ( ) -/
theorem t7_0 {S3 S1 : SS} (h : ¬ (gI S1 3 = 2 ∧ ¬ kept (gL S1 5))) : f_X3_takePart S3 S1 = some (0, rfS S3 S1) := E_B (e_isName0 h) (E_y rfl (E_B (e_refuse S3 S1) (E_G zb0 rfl)))
theorem t7_f {S3 S1 : SS} (h2 : gI S1 3 = 2) (hw : ¬ kept (gL S1 5)) (hl : ¬ gI S3 9 < gI S3 11) : f_X3_takePart S3 S1 = some (0, rfS S3 S1) := E_B (e_isName1 h2 hw) (E_n ne10 (E_n hl (E_B (e_refuse S3 S1) (E_G zb0 rfl))))
def tpS (S3 : SS) (w : Int64) (p : Int32) : SS := sI (sI (auS S3 w p (gI S3 8)) 9 (gI S3 9 + 1)) 4 8
theorem t7_1 {S3 S1 : SS} {u : Nat} (h2 : gI S1 3 = 2) (hw : ¬ kept (gL S1 5)) (hl : gI S3 9 < gI S3 11) (h : gI S3 15 = nI u) (hu : u < 667) : f_X3_takePart S3 S1 = some (1, tpS S3 (gL S1 5) (gI S1 4)) := by
  refine E_B (e_isName1 h2 hw) (E_n ne10 (E_y hl (E_B (e_addUse h hu _ _ _) (E_B rfl (E_G zb1 ?_)))))
  show some ((1 : Int32), sI (sI (auS S3 (gL S1 5) (gI S1 4) (gI S3 8)) 9 (gI (auS S3 (gL S1 5) (gI S1 4) (gI S3 8)) 9 + 1)) 4 8) = _
  rw [show gI (auS S3 (gL S1 5) (gI S1 4) (gI S3 8)) 9 = gI S3 9 from gI_ne (by decide)]
  rfl
theorem t8_c {S3 S1 : SS} (hk : gI S1 3 = 44) (h : gI S3 5 = 2) : f_X3_behindPart S3 S1 = some (1, sI S3 4 7) := E_y hk (E_y h (E_B rfl (E_G zb1 rfl)))
theorem t8_d {S3 S1 : SS} (hk : gI S1 3 = 44) (h : gI S3 5 ≠ 2) (hl : ¬ gI S3 11 ≤ gI S3 9) : f_X3_behindPart S3 S1 = some (1, sI S3 4 7) := E_y hk (E_n h (E_n hl (E_B rfl (E_G zb1 rfl))))
theorem t8_e {S3 S1 : SS} (hk : gI S1 3 = 44) (h : gI S3 5 ≠ 2) (hl : gI S3 11 ≤ gI S3 9) : f_X3_behindPart S3 S1 = some (0, rfS S3 S1) := E_y hk (E_n h (E_y hl (E_n (ne_of hk (by decide)) (E_B (e_refuse S3 S1) (E_G zb0 rfl)))))
theorem t8_0 {S3 S1 : SS} (hk : gI S1 3 ≠ 44) (hk2 : gI S1 3 ≠ 41) : f_X3_behindPart S3 S1 = some (0, rfS S3 S1) := E_n hk (E_n hk2 (E_B (e_refuse S3 S1) (E_G zb0 rfl)))
theorem t8_l {S3 S1 : SS} (hk : gI S1 3 = 41) (hl : gI S3 9 < gI S3 10) : f_X3_behindPart S3 S1 = some (0, rfS S3 S1) := E_n (ne_of hk (by decide)) (E_y hk (E_y hl (E_B (e_refuse S3 S1) (E_G zb0 rfl))))
theorem t8_g {S3 S1 : SS} (hk : gI S1 3 = 41) (hl : ¬ gI S3 9 < gI S3 10) (h : gI S3 5 = 2) : f_X3_behindPart S3 S1 = some (1, sI S3 4 9) := E_n (ne_of hk (by decide)) (E_y hk (E_n hl (E_B (E_y h rfl) (E_B rfl (E_G zb1 rfl)))))
theorem t8_h {S3 S1 : SS} (hk : gI S1 3 = 41) (hl : ¬ gI S3 9 < gI S3 10) (h : gI S3 5 ≠ 2) : f_X3_behindPart S3 S1 = some (1, sI S3 4 10) := E_n (ne_of hk (by decide)) (E_y hk (E_n hl (E_B (E_n h rfl) (E_B rfl (E_G zb1 rfl)))))
theorem t9_1 {S3 S1 S0 : SS} {c i : Nat} (h : gI S0 0 = nI c) (hc : c ≤ 60) (hi : i < c) (h8 : gI S3 8 = nI i) : f_X3_takeDelay S3 S1 S0 = some (1, sI S3 4 10, sA S0 6 (upd (gA S0 6) i (gI S1 6))) := by
  have cl : (nI i).toNatClampNeg = i := nI_clamp (by omega)
  have ei : (nI i).toInt = i := nI_toInt (by omega)
  unfold f_X3_takeDelay
  rw [h8]
  refine E_B (e_has1 h hc hi) (E_B (E_n ne10 (E_G (ti_in (by omega) (by omega)) rfl)) (E_B rfl (E_G zb1 ?_)))
  rw [cl]
