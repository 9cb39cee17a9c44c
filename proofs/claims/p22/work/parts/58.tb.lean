/-! the class's lexer finds the TOKEN -/
theorem nI_sub1 {a b : Nat} (h : b ≤ a) (ha : a < 2 ^ 31) : (nI a - nI b).toInt = (a : Int) - b := by
  rw [pk_sub h, nI_toInt (by omega)]
  omega
/-- what a step of the class's lexer keeps -/
def K1 (S T : SS) : Prop := gI T 1 = gI S 1
theorem e_X1_takeWord {S : SS} {f : Nat → Int32} {a n : Nat} (hn : n ≤ 2000) (h1 : gI S 1 = nI n) (h2 : gI S 2 = nI a) (h4 : gI S 4 = nI a) (ha : a < n) (hl : isLt (f a)) : Ok (f_X1_takeWord S f) (fun T => gI T 1 = nI n ∧ gI T 4 = nI a ∧ ∃ e, gI T 2 = nI e ∧ We f a e n ∧ ((e - a ≤ 8 ∧ gI T 3 = 2 ∧ gL T 5 = wv f a (e - a)) ∨ (8 < e - a ∧ gI T 3 = 0))) := by
  refine Ok_l (Ok_B (P := fun T => gI T 1 = nI n ∧ gI T 4 = nI a ∧ ∃ e, gI T 2 = nI e ∧ We f a e n ∧ gL T 5 = wv f a (e - a)) ?_ (fun T hT => ?_))
  · refine Ok_F (fun T : SS => gI T 1 = nI n ∧ gI T 4 = nI a ∧ ∃ q, gI T 2 = nI q ∧ a ≤ q ∧ q ≤ n ∧ (∀ j, a ≤ j → j < q → isLD (f j)) ∧ gL T 5 = wv f a (q - a)) (fun T => (2000 - (gI T 2).toInt).toNat) (fun T hT => ?_) ⟨h1, h4, a, h2, Nat.le_refl _, Nat.le_of_lt ha, fun j q1 q2 => absurd q1 (by omega), ?_⟩ ?_
    · obtain ⟨t1, t4, q, t2, q1, q2, q3, t5⟩ := hT
      have e2 : (gI T 2).toInt = q := by rw [t2, nI_toInt (by omega)]
      refine Ok_c (fun c => Ok_s ⟨t1, t4, q, t2, ?_, t5⟩) (fun c => ?_)
      · rw [t1, t2, nI_leI (by omega) (by omega)] at c
        have : q = n := by omega
        subst this
        exact ⟨ha, Nat.le_refl _, fun j u v => q3 j (by omega) v, fun u => absurd u (by omega)⟩
      · rw [t1, t2, nI_leI (by omega) (by omega)] at c
        have hq : q < n := by omega
        have cl : (gI T 2).toNatClampNeg = q := by rw [t2, nI_clamp (by omega)]
        refine Ok_G (ti_in (by omega) (by omega)) (Ok_B (e_X1_isLD _) (fun r hr => ?_))
        rw [cl] at hr
        refine Ok_c (fun c0 => Ok_s ⟨t1, t4, q, t2, ?_, t5⟩) (fun c0 => Ok_l (Ok_l (Ok_s (OkI_l ⟨?_, ?_, q + 1, ?_, by omega, by omega, fun j u v => ?_, ?_⟩ ?_))))
        · have nl : ¬ isLD (f q) := fun w => (hr.mpr w) c0
          have : a ≠ q := fun w => nl (by rw [← w]; exact Or.inl hl)
          exact ⟨by omega, by omega, fun j u v => q3 j (by omega) v, fun _ => nl⟩
        · rw [gI_ne (by decide), gI_sL]; exact t1
        · rw [gI_ne (by decide), gI_sL]; exact t4
        · rw [gI_eq, gI_sL, t2, nI_1]
        · rcases Nat.lt_or_ge j q with w | w
          · exact q3 j u w
          · have : j = q := by omega
            rw [this]
            exact hr.mp c0
        · rw [gL_sI, gL_sL, if_pos rfl, cl, t5, show q + 1 - a = (q - a) + 1 by omega]
          show _ = (jLs (wv f a (q - a)) 8) ||| (jIL (f (a + (q - a))))
          rw [show a + (q - a) = q by omega]
        · show (2000 - (gI (sI (sL T 5 _) 2 (gI (sL T 5 _) 2 + 1)) 2).toInt).toNat < (2000 - (gI T 2).toInt).toNat
          rw [gI_eq, gI_sL, k_inc (n := 2000) (by omega) (by omega) (by decide)]
          omega
    · rw [gL_sL, if_pos rfl, Nat.sub_self]
      rfl
    · show (2000 - (gI S 2).toInt).toNat < 10000
      rw [h2, nI_toInt (by omega)]
      omega
  · obtain ⟨t1, t4, e, t2, we, t5⟩ := hT
    obtain ⟨w1, w2, w3, w4⟩ := id we
    have sub : (gI T 2 - gI T 4).toInt = ((e - a : Nat) : Int) := by
      rw [t2, t4, nI_sub1 (by omega) (by omega)]
      omega
    have t8 : (8 : Int32).toInt = 8 := by decide
    refine Ok_B (P := fun v => (e - a ≤ 8 ∧ v = 2) ∨ (8 < e - a ∧ v = 0)) (Ok_c (fun c => Ok_s (Or.inl ⟨?_, rfl⟩)) (fun c => Ok_s (Or.inr ⟨?_, rfl⟩))) (fun v hv => Ok_l (Ok_s ⟨?_, ?_, e, ?_, we, ?_⟩))
    · rw [ti_le, sub, t8] at c
      omega
    · rw [ti_le, sub, t8] at c
      omega
    · rw [gI_ne (by decide)]; exact t1
    · rw [gI_ne (by decide)]; exact t4
    · rw [gI_ne (by decide)]; exact t2
    · rw [gI_eq, gL_sI]
      rcases hv with ⟨v1, v2⟩ | ⟨v1, v2⟩
      · exact Or.inl ⟨v1, v2, t5⟩
      · exact Or.inr ⟨v1, v2⟩
theorem e_X1_takeDigit {S : SS} {f : Nat → Int32} {a n : Nat} (hn : n ≤ 2000) (h1 : gI S 1 = nI n) (h2 : gI S 2 = nI a) (h4 : gI S 4 = nI a) (ha : a < n) (hd : isDg (f a)) : Ok (f_X1_takeDigit S f) (fun T => gI T 1 = nI n ∧ gI T 4 = nI a ∧ gI T 2 = nI (a + 1) ∧ ((gI T 3 = 3 ∧ gI T 6 = f a - 48 ∧ f a ≠ 48 ∧ (a + 1 < n → ¬ isLD (f (a + 1)))) ∨ (gI T 3 = 0 ∧ (f a = 48 ∨ (a + 1 < n ∧ isLD (f (a + 1))))))) := by
  have e2 : (gI S 2).toInt = a := by rw [h2, nI_toInt (by omega)]
  have cl : (gI S 2).toNatClampNeg = a := by rw [h2, nI_clamp (by omega)]
  have t0 : (0 : Int32).toInt = 0 := by decide
  have t48 : (48 : Int32).toInt = 48 := by decide
  obtain ⟨d1, d2⟩ := id hd
  have esub : (f a - (48 : Int32)).toInt = (f a).toInt - 48 := by rw [ti_sub (by rw [t48]; omega) (by rw [t48]; omega), t48]
  refine Ok_G (ti_in (by omega) (by omega)) (Ok_L (fun A eA => Ok_L (fun C eC => ?_)))
  have a2 : gI A 2 = nI a := by rw [eA, gI_ne (by decide)]; exact h2
  have c2 : gI C 2 = nI (a + 1) := by rw [eC, gI_eq, a2, nI_1]
  have c1 : gI C 1 = nI n := by rw [eC, gI_ne (by decide), eA, gI_ne (by decide)]; exact h1
  have c4 : gI C 4 = nI a := by rw [eC, gI_ne (by decide), eA, gI_ne (by decide)]; exact h4
  have c6 : gI C 6 = f a - 48 := by rw [eC, gI_ne (by decide), eA, gI_eq, cl]
  have clC : (gI C 2).toNatClampNeg = a + 1 := by rw [c2, nI_clamp (by omega)]
  have eC2 : (gI C 2).toInt = (a : Int) + 1 := by rw [c2, nI_toInt (by omega)]; omega
  refine Ok_B (P := fun v => (v ≠ 0 ↔ (a + 1 < n → ¬ isLD (f (a + 1))))) (Ok_c (fun c => Ok_s ⟨fun _ q => ?_, fun _ => by decide⟩) (fun c => ?_)) (fun v12 h12 => ?_)
  · rw [c1, c2, nI_leI (by omega) (by omega)] at c
    omega
  · rw [c1, c2, nI_leI (by omega) (by omega)] at c
    refine Ok_G (ti_in (by omega) (by omega)) (Ok_B (e_X1_isLD _) (fun r hr => ?_))
    rw [clC] at hr
    refine Ok_c (fun c0 => Ok_s ⟨fun _ _ w => (hr.mpr w) c0, fun _ => by decide⟩) (fun c0 => Ok_s ⟨fun q => absurd rfl q, fun q => absurd (hr.mp c0) (q (by omega))⟩)
  · refine Ok_B (P := fun v => (v = 3 ∧ v12 ≠ 0 ∧ f a ≠ 48) ∨ (v = 0 ∧ (v12 = 0 ∨ f a = 48))) (Ok_c (fun c => Ok_s (Or.inr ⟨rfl, Or.inl c⟩)) (fun c => Ok_c (fun c3 => Ok_s (Or.inr ⟨rfl, Or.inr ?_⟩)) (fun c3 => Ok_s (Or.inl ⟨rfl, c, fun q => ?_⟩)))) (fun v19 h19 => Ok_l (Ok_s ⟨?_, ?_, ?_, ?_⟩))
    · rw [ti_le, c6, esub, t0] at c3
      exact Int32.toInt_inj.mp (by rw [t48]; omega)
    · rw [ti_le, c6, esub, t0, q, t48] at c3
      omega
    · rw [gI_ne (by decide)]; exact c1
    · rw [gI_ne (by decide)]; exact c4
    · rw [gI_ne (by decide)]; exact c2
    · rw [gI_eq, gI_ne (by decide), c6]
      rcases h19 with ⟨u1, u2, u3⟩ | ⟨u1, u2⟩
      · exact Or.inl ⟨u1, rfl, u3, h12.mp u2⟩
      · refine Or.inr ⟨u1, ?_⟩
        rcases u2 with u2 | u2
        · refine Or.inr (Classical.byContradiction (fun q => ?_))
          exact (h12.mpr (fun w1 w2 => q ⟨w1, w2⟩)) u2
        · exact Or.inl u2
/-- advance finds the TOKEN behind p -/
theorem e_X1_advance {S : SS} {f : Nat → Int32} {p n : Nat} (hn : n ≤ 2000) (h1 : gI S 1 = nI n) (h2 : gI S 2 = nI p) (hp : p ≤ n) : Ok (f_X1_advance S f) (fun T => gI T 1 = nI n ∧ ∃ a e, gI T 4 = nI a ∧ gI T 2 = nI e ∧ Tk f n p a e (gI T 3) (gL T 5) (gI T 6)) := by
  refine Ok_B (P := fun T => gI T 1 = nI n ∧ ∃ a, gI T 2 = nI a ∧ Bl f p a n) ?_ (fun T hT => Ok_L (fun U eU => ?_))
  · refine Ok_F (fun T : SS => gI T 1 = nI n ∧ ∃ q, gI T 2 = nI q ∧ p ≤ q ∧ q ≤ n ∧ ∀ j, p ≤ j → j < q → isBl (f j)) (fun T => (2000 - (gI T 2).toInt).toNat) (fun T hT => ?_) ⟨h1, p, h2, Nat.le_refl _, hp, fun j a b => absurd a (by omega)⟩ ?_
    · obtain ⟨t1, q, t2, q1, q2, q3⟩ := hT
      have e2 : (gI T 2).toInt = q := by rw [t2, nI_toInt (by omega)]
      refine Ok_c (fun c => Ok_s ⟨t1, q, t2, q1, q2, q3, fun w => ?_⟩) (fun c => ?_)
      · rw [t1, t2, nI_leI (by omega) (by omega)] at c
        omega
      · rw [t1, t2, nI_leI (by omega) (by omega)] at c
        have cl : (gI T 2).toNatClampNeg = q := by rw [t2, nI_clamp (by omega)]
        refine Ok_G (ti_in (by omega) (by omega)) (Ok_B (e_X1_isBlank _) (fun r hr => ?_))
        rw [cl] at hr
        refine Ok_c (fun c0 => Ok_s ⟨t1, q, t2, q1, q2, q3, fun _ w => (hr.mpr w) c0⟩) (fun c0 => Ok_l (Ok_s (OkI_l ⟨?_, q + 1, ?_, by omega, by omega, fun j u v => ?_⟩ ?_)))
        · rw [gI_ne (by decide)]; exact t1
        · rw [gI_eq, t2, nI_1]
        · rcases Nat.lt_or_ge j q with w | w
          · exact q3 j u w
          · have : j = q := by omega
            rw [this]
            exact hr.mp c0
        · show (2000 - (gI (sI T 2 (gI T 2 + 1)) 2).toInt).toNat < (2000 - (gI T 2).toInt).toNat
          rw [gI_eq, k_inc (n := 2000) (by omega) (by omega) (by decide)]
          omega
    · show (2000 - (gI S 2).toInt).toNat < 10000
      rw [h2, nI_toInt (by omega)]
      omega
  · obtain ⟨t1, a, t2, bl⟩ := hT
    obtain ⟨b1, b2, b3, b4⟩ := id bl
    have u1 : gI U 1 = nI n := by rw [eU, gI_ne (by decide)]; exact t1
    have u2 : gI U 2 = nI a := by rw [eU, gI_ne (by decide)]; exact t2
    have u4 : gI U 4 = nI a := by rw [eU, gI_eq]; exact t2
    have ea : (gI U 2).toInt = a := by rw [u2, nI_toInt (by omega)]
    have cl : (gI U 2).toNatClampNeg = a := by rw [u2, nI_clamp (by omega)]
    refine Ok_c (fun c => ?_) (fun c => Ok_l (Ok_s ⟨?_, a, a, ?_, ?_, bl, Or.inl ⟨?_, ?_, ?_⟩⟩))
    · rw [u1, u2, nI_ltI (by omega) (by omega)] at c
      refine Ok_G (ti_in (by omega) (by omega)) (Ok_L (fun v15 e15 => ?_))
      have e15' : v15 = f a := by rw [e15, cl]
      refine Ok_B (e_X1_isLetter v15) (fun r hr => Ok_c (fun c1 => ?_) (fun c1 => ?_))
      · rw [e15'] at hr
        have nl : ¬ isLt (f a) := fun w => (hr.mpr w) c1
        refine Ok_B (e_X1_isDigit v15) (fun r2 hr2 => Ok_c (fun c2 => ?_) (fun c2 => ?_))
        · rw [e15'] at hr2
          have nd : ¬ isDg (f a) := fun w => (hr2.mpr w) c2
          refine Ok_B (e_X1_isSign v15) (fun r3 hr3 => ?_)
          rw [e15'] at hr3
          refine Ok_B (P := fun v => (isSg (f a) ∧ v = f a) ∨ (¬ isSg (f a) ∧ v = 0)) (Ok_c (fun c3 => Ok_s (Or.inr ⟨fun w => (hr3.mpr w) c3, rfl⟩)) (fun c3 => Ok_s (Or.inl ⟨hr3.mp c3, e15'⟩))) (fun v hv => Ok_l (Ok_l (Ok_s ⟨?_, a, a + 1, ?_, ?_, bl, Or.inr (Or.inr (Or.inr ⟨c, nl, nd, rfl, ?_⟩))⟩)))
          · rw [gI_ne (by decide), gI_ne (by decide)]; exact u1
          · rw [gI_ne (by decide), gI_ne (by decide)]; exact u4
          · rw [gI_eq, gI_ne (by decide), u2, nI_1]
          · rw [gI_ne (by decide), gI_eq]; exact hv
        · rw [e15'] at hr2
          have dg := hr2.mp c2
          refine Ok_B (e_X1_takeDigit hn u1 u2 u4 c dg) (fun V hV => Ok_s ⟨hV.1, a, a + 1, hV.2.1, hV.2.2.1, bl, Or.inr (Or.inr (Or.inl ⟨c, dg, rfl, hV.2.2.2⟩))⟩)
      · rw [e15'] at hr
        have lt := hr.mp c1
        refine Ok_B (e_X1_takeWord hn u1 u2 u4 c lt) (fun V hV => ?_)
        obtain ⟨v1, v4, e, v2, we, vv⟩ := hV
        exact Ok_s ⟨v1, a, e, v4, v2, bl, Or.inr (Or.inl ⟨c, lt, we, vv⟩)⟩
    · rw [gI_ne (by decide)]; exact u1
    · rw [gI_ne (by decide)]; exact u4
    · rw [gI_ne (by decide)]; exact u2
    · rw [u1, u2, nI_ltI (by omega) (by omega)] at c
      omega
    · rw [u1, u2, nI_ltI (by omega) (by omega)] at c
      omega
    · rw [gI_eq]
