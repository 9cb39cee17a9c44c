/-! the reference's next finds the TOKEN -/
def tokr (f : Nat → Int32) (a : Nat) (k : Int32) (w : Int64) (d : Int32) (T : SS) : Prop :=
  (k = 1 ∧ gI T 8 = 0) ∨ (k = 0 ∧ gI T 8 = 1) ∨ (k = 2 ∧ gL T 10 = w ∧ ((gI T 8 = 3 ∧ kept w) ∨ (gI T 8 = 2 ∧ ¬ kept w))) ∨ (k = 3 ∧ gI T 8 = 4 ∧ gI T 9 = d) ∨ (isSg k ∧ gI T 8 = 5 ∧ k = f a)
theorem p_next_8 {f : Nat → Int32} {n p : Nat} {S : SS} (h : TX f n S) (hp : p ≤ n) (e : gI S 6 = nI p) : Pc (zI b_X7_next_8 zF S) (fun s => TX f n s ∧ gI s 7 = gI S 7 ∧ ∃ q, gI s 6 = nI q ∧ Bl f p q n) := by
  refine Pc_I (fun s => TX f n s ∧ gI s 7 = gI S 7 ∧ ∃ q, gI s 6 = nI q ∧ p ≤ q ∧ q ≤ n ∧ ∀ j, p ≤ j → j < q → isBl (f j)) (fun s hs => ?_) _ ⟨h, rfl, p, e, Nat.le_refl _, hp, fun j a b => absurd a (by omega)⟩
  obtain ⟨tx, s7, q, s6, q1, q2, q3⟩ := hs
  obtain ⟨x1, x2, x3, x4⟩ := id tx
  refine Pc_c (fun c => Pc_s ⟨tx, s7, q, s6, q1, q2, q3, fun w => ?_⟩) (fun c => ?_)
  · rw [x3, s6, nI_leI (by omega) (by omega)] at c
    omega
  · rw [x3, s6, nI_leI (by omega) (by omega)] at c
    have go : isBl (f q) → Pc (zL (sI s 6 ((gI s 6) + (1 : Int32))) (fun s7_183 => some (Sum.inl s7_183 : SS ⊕ SS))) (PcI (fun s => TX f n s ∧ gI s 7 = gI S 7 ∧ ∃ q, gI s 6 = nI q ∧ p ≤ q ∧ q ≤ n ∧ ∀ j, p ≤ j → j < q → isBl (f j)) (fun s => TX f n s ∧ gI s 7 = gI S 7 ∧ ∃ q, gI s 6 = nI q ∧ Bl f p q n)) := by
      intro hb
      refine Pc_l (Pc_s ⟨⟨x1, x2, ?_, x4⟩, ?_, q + 1, ?_, by omega, by omega, fun j u v => ?_⟩)
      · rw [gI_ne (by decide)]; exact x3
      · rw [gI_ne (by decide)]; exact s7
      · rw [gI_eq, s6, nI_1]
      · rcases Nat.lt_or_ge j q with w | w
        · exact q3 j u w
        · have : j = q := by omega
          rw [this]
          exact hb
    refine Pc_B (p_X7_sign tx s6 (by omega)) (fun r hr => Pc_S ?_)
    refine Pc_c (fun c1 => Pc_s (go ?_)) (fun c1 => Pc_B (p_X7_sign tx s6 (by omega)) (fun r2 hr2 => Pc_c (fun c2 => Pc_s (go ?_)) (fun c2 => Pc_s ⟨tx, s7, q, s6, q1, q2, q3, fun _ w => ?_⟩)))
    · rw [hr] at c1
      exact Or.inl ((cc_is x2 (by decide)).mp c1).2
    · rw [hr2] at c2
      exact Or.inr ((cc_is x2 (by decide)).mp c2).2
    · rcases w with w | w
      · exact c1 (by rw [hr]; exact (cc_is x2 (by decide)).mpr ⟨by omega, w⟩)
      · exact c2 (by rw [hr2]; exact (cc_is x2 (by decide)).mpr ⟨by omega, w⟩)
theorem p_next_119 {f : Nat → Int32} {n a : Nat} {S : SS} (h : TX f n S) (ha : a < n) (e6 : gI S 6 = nI a) (e : gI S 7 = nI (a + 1)) : Pc (zI b_X7_next_119 zF S) (fun s => TX f n s ∧ gI s 6 = nI a ∧ ∃ q, gI s 7 = nI q ∧ We f a q n) := by
  refine Pc_I (fun s => TX f n s ∧ gI s 6 = nI a ∧ ∃ q, gI s 7 = nI q ∧ a < q ∧ q ≤ n ∧ ∀ j, a < j → j < q → isLD (f j)) (fun s hs => ?_) _ ⟨h, e6, a + 1, e, by omega, by omega, fun j a b => absurd a (by omega)⟩
  obtain ⟨tx, s6, q, s7, q1, q2, q3⟩ := hs
  obtain ⟨x1, x2, x3, x4⟩ := id tx
  have go : (q < n ∧ isLD (f q)) → Pc (zL (sI s 7 ((gI s 7) + (1 : Int32))) (fun s7_153 => some (Sum.inl s7_153 : SS ⊕ SS))) (PcI (fun s => TX f n s ∧ gI s 6 = nI a ∧ ∃ q, gI s 7 = nI q ∧ a < q ∧ q ≤ n ∧ ∀ j, a < j → j < q → isLD (f j)) (fun s => TX f n s ∧ gI s 6 = nI a ∧ ∃ q, gI s 7 = nI q ∧ We f a q n)) := by
    intro hb
    refine Pc_l (Pc_s ⟨⟨x1, x2, ?_, x4⟩, ?_, q + 1, ?_, by omega, by omega, fun j u v => ?_⟩)
    · rw [gI_ne (by decide)]; exact x3
    · rw [gI_ne (by decide)]; exact s6
    · rw [gI_eq, s7, nI_1]
    · rcases Nat.lt_or_ge j q with w | w
      · exact q3 j u w
      · have : j = q := by omega
        rw [this]
        exact hb.2
  refine Pc_B (p_X7_sign tx s7 (by omega)) (fun r hr => Pc_B (p_X7_isLetter r) (fun l hl => Pc_S ?_))
  rw [hr] at hl
  refine Pc_c (fun c1 => ?_) (fun c1 => Pc_s (go ?_))
  · refine Pc_B (p_X7_sign tx s7 (by omega)) (fun r2 hr2 => Pc_B (p_X7_isDigit r2) (fun l2 hl2 => ?_))
    rw [hr2] at hl2
    refine Pc_c (fun c2 => Pc_s ⟨tx, s6, q, s7, q1, q2, q3, fun w1 w2 => ?_⟩) (fun c2 => Pc_s (go ?_))
    · rcases w2 with w2 | w2
      · exact (hl.mpr ((cc_lt x2).mpr ⟨w1, w2⟩)) c1
      · exact (hl2.mpr ((cc_dg x2).mpr ⟨w1, w2⟩)) c2
    · have w := (cc_dg x2).mp (hl2.mp c2)
      exact ⟨w.1, Or.inr w.2⟩
  · have w := (cc_lt x2).mp (hl.mp c1)
    exact ⟨w.1, Or.inl w.2⟩
theorem p_next_170 {f : Nat → Int32} {n a e : Nat} {S : SS} (h : TX f n S) (hl : isLt (f a)) (we : We f a e n) (e6 : gI S 6 = nI a) (e7 : gI S 7 = nI e) (e10 : gL S 10 = 0) {v : Int32} (hv : v = nI a) : Pc (zI b_X7_next_170 zF (v, S)) (fun s => TX f n s ∧ gI s 6 = nI a ∧ gI s 7 = nI e ∧ gL s 10 = wv f a (min (e - a) 8)) := by
  obtain ⟨w1, w2, w3, w4⟩ := we
  refine Pc_I (fun v : Int32 × SS => TX f n v.2 ∧ gI v.2 6 = nI a ∧ gI v.2 7 = nI e ∧ ∃ q, v.1 = nI q ∧ a ≤ q ∧ q ≤ e ∧ q ≤ a + 8 ∧ gL v.2 10 = wv f a (q - a)) (fun v hv => ?_) _ ⟨h, e6, e7, a, hv, by omega, by omega, by omega, ?_⟩
  · obtain ⟨v, s⟩ := v
    obtain ⟨tx, s6, s7, q, ev, q1, q2, q3, s10⟩ : TX f n s ∧ gI s 6 = nI a ∧ gI s 7 = nI e ∧ ∃ q, v = nI q ∧ a ≤ q ∧ q ≤ e ∧ q ≤ a + 8 ∧ gL s 10 = wv f a (q - a) := hv
    obtain ⟨x1, x2, x3, x4⟩ := id tx
    refine Pc_c (fun c => Pc_s ⟨tx, s6, s7, ?_⟩) (fun c => Pc_c (fun c2 => Pc_s ⟨tx, s6, s7, ?_⟩) (fun c2 => ?_))
    · rw [s7, ev, nI_leI (by omega) (by omega)] at c
      rw [s10, show min (e - a) 8 = q - a by omega]
    · rw [s7, ev, nI_leI (by omega) (by omega)] at c
      rw [s6, ev, show (8 : Int32) = nI 8 from rfl, nI_add, nI_leI (by omega) (by omega)] at c2
      rw [s10, show min (e - a) 8 = q - a by omega]
    · rw [s7, ev, nI_leI (by omega) (by omega)] at c
      rw [s6, ev, show (8 : Int32) = nI 8 from rfl, nI_add, nI_leI (by omega) (by omega)] at c2
      refine Pc_B (p_X7_sign tx ev (by omega)) (fun r hr => Pc_l (Pc_l (Pc_s ⟨⟨x1, x2, x3, x4⟩, s6, s7, q + 1, ?_, by omega, by omega, by omega, ?_⟩)))
      · show v + 1 = _
        rw [ev, nI_1]
      · rw [gL_sL, if_pos rfl, hr, s10, show q + 1 - a = (q - a) + 1 by omega]
        show _ = (jLs (wv f a (q - a)) 8) ||| (jIL (f (a + (q - a))))
        rw [show a + (q - a) = q by omega, cc_pos x2 (by omega) ?_]
        rcases Nat.lt_or_ge a q with u | u
        · exact w3 q u (by omega)
        · have : q = a := by omega
          rw [this]
          exact Or.inl hl
  · rw [Nat.sub_self]
    exact e10
theorem p_X7_next {f : Nat → Int32} {n p : Nat} {S : SS} (h : TX f n S) (e : gI S 7 = nI p) (hp : p ≤ n) : Pc (f_X7_next S) (fun T => ∃ a e k w d, gI T 6 = nI a ∧ gI T 7 = nI e ∧ Tk f n p a e k w d ∧ tokr f a k w d T) := by
  obtain ⟨x1, x2, x3, x4⟩ := id h
  refine Pc_L (fun A eA => ?_)
  have tA : TX f n A := ⟨x1, x2, by rw [eA, gI_ne (by decide)]; exact x3, by rw [eA]; exact x4⟩
  have a6 : gI A 6 = nI p := by rw [eA, gI_eq]; exact e
  refine Pc_B (p_next_8 tA hp a6) (fun C hC => ?_)
  obtain ⟨tC, _, a, c6, bl⟩ := hC
  obtain ⟨b1, b2, b3, b4⟩ := id bl
  refine Pc_B (p_X7_sign tC c6 (by omega)) (fun r hr => Pc_L (fun D eD => ?_))
  have tD : TX f n D := ⟨x1, x2, by rw [eD, gI_ne (by decide)]; exact tC.2.2.1, by rw [eD]; exact tC.2.2.2⟩
  have d6 : gI D 6 = nI a := by rw [eD, gI_ne (by decide)]; exact c6
  have d7 : gI D 7 = nI (a + 1) := by rw [eD, gI_eq, c6, nI_1]
  refine Pc_c (fun c => ?_) (fun c => ?_)
  · rw [d6, tD.2.2.1, nI_ltI (by omega) (by omega)] at c
    refine Pc_B (p_X7_isLetter r) (fun l hl => ?_)
    rw [hr] at hl
    refine Pc_c (fun c1 => ?_) (fun c1 => ?_)
    · have nl : ¬ isLt (f a) := fun w => (hl.mpr ((cc_lt x2).mpr ⟨c, w⟩)) c1
      refine Pc_B (p_X7_isDigit r) (fun l2 hl2 => ?_)
      rw [hr] at hl2
      refine Pc_c (fun c2 => ?_) (fun c2 => ?_)
      · have nd : ¬ isDg (f a) := fun w => (hl2.mpr ((cc_dg x2).mpr ⟨c, w⟩)) c2
        refine Pc_B (P := fun v => (isSg (f a) ∧ v = 5) ∨ (¬ isSg (f a) ∧ v = 1)) ?_ (fun v hv => Pc_l (Pc_s ?_))
        · have g : ∀ x : Int32, (1 ≤ x.toInt ∧ x.toInt ≤ 127) → (r = x ↔ f a = x) := fun x hx => by
            rw [hr, cc_is x2 hx]
            exact ⟨fun w => w.2, fun w => ⟨c, w⟩⟩
          refine Pc_i (g 44 (by decide)) (fun q => Pc_s (Or.inl ⟨Or.inl q, rfl⟩)) (fun q1 => Pc_i (g 59 (by decide)) (fun q => Pc_s (Or.inl ⟨Or.inr (Or.inl q), rfl⟩)) (fun q2 => Pc_i (g 61 (by decide)) (fun q => Pc_s (Or.inl ⟨Or.inr (Or.inr (Or.inl q)), rfl⟩)) (fun q3 => Pc_i (g 40 (by decide)) (fun q => Pc_s (Or.inl ⟨Or.inr (Or.inr (Or.inr (Or.inl q))), rfl⟩)) (fun q4 => Pc_i (g 41 (by decide)) (fun q => Pc_s (Or.inl ⟨Or.inr (Or.inr (Or.inr (Or.inr (Or.inl q)))), rfl⟩)) (fun q5 => Pc_i (g 60 (by decide)) (fun q => Pc_s (Or.inl ⟨Or.inr (Or.inr (Or.inr (Or.inr (Or.inr q)))), rfl⟩)) (fun q6 => Pc_s (Or.inr ⟨fun q => ?_, rfl⟩)))))))
          rcases q with q | q | q | q | q | q
          · exact q1 q
          · exact q2 q
          · exact q3 q
          · exact q4 q
          · exact q5 q
          · exact q6 q
        · have e6 : gI (sI D 8 v) 6 = nI a := by rw [gI_ne (by decide)]; exact d6
          have e7 : gI (sI D 8 v) 7 = nI (a + 1) := by rw [gI_ne (by decide)]; exact d7
          have e8 : gI (sI D 8 v) 8 = v := gI_eq
          rcases hv with ⟨v1, v2⟩ | ⟨v1, v2⟩
          · exact ⟨a, a + 1, f a, 0, 0, e6, e7, ⟨bl, Or.inr (Or.inr (Or.inr ⟨c, nl, nd, rfl, Or.inl ⟨v1, rfl⟩⟩))⟩, Or.inr (Or.inr (Or.inr (Or.inr ⟨v1, e8.trans v2, rfl⟩)))⟩
          · exact ⟨a, a + 1, 0, 0, 0, e6, e7, ⟨bl, Or.inr (Or.inr (Or.inr ⟨c, nl, nd, rfl, Or.inr ⟨v1, rfl⟩⟩))⟩, Or.inr (Or.inl ⟨rfl, e8.trans v2⟩)⟩
      · have dg := ((cc_dg x2).mp (hl2.mp c2)).2
        have er : r = f a := by rw [hr]; exact cc_pos x2 c (Or.inr dg)
        refine Pc_L (fun E eE => ?_)
        have tE : TX f n E := ⟨x1, x2, by rw [eE, gI_ne (by decide)]; exact tD.2.2.1, by rw [eE]; exact tD.2.2.2⟩
        have E6 : gI E 6 = nI a := by rw [eE, gI_ne (by decide)]; exact d6
        have E7 : gI E 7 = nI (a + 1) := by rw [eE, gI_ne (by decide)]; exact d7
        have E9 : gI E 9 = f a - 48 := by rw [eE, gI_eq, er]
        refine Pc_B (P := fun v => (v = 4 ∧ f a ≠ 48 ∧ (a + 1 < n → ¬ isLD (f (a + 1)))) ∨ (v = 1 ∧ (f a = 48 ∨ (a + 1 < n ∧ isLD (f (a + 1)))))) ?_ (fun v hv => Pc_l (Pc_s ?_))
        · refine Pc_c (fun q => Pc_s (Or.inr ⟨rfl, Or.inl (er ▸ q)⟩)) (fun q => Pc_B (p_X7_sign tE E7 (by omega)) (fun r2 hr2 => Pc_B (p_X7_isLetter r2) (fun l3 hl3 => ?_)))
          rw [hr2] at hl3
          refine Pc_c (fun q1 => Pc_B (p_X7_sign tE E7 (by omega)) (fun r3 hr3 => Pc_B (p_X7_isDigit r3) (fun l4 hl4 => ?_))) (fun q1 => Pc_s (Or.inr ⟨rfl, Or.inr ?_⟩))
          · rw [hr3] at hl4
            refine Pc_c (fun q2 => Pc_s (Or.inl ⟨rfl, er ▸ q, fun u w => ?_⟩)) (fun q2 => Pc_s (Or.inr ⟨rfl, Or.inr ?_⟩))
            · rcases w with w | w
              · exact (hl3.mpr ((cc_lt x2).mpr ⟨u, w⟩)) q1
              · exact (hl4.mpr ((cc_dg x2).mpr ⟨u, w⟩)) q2
            · have w := (cc_dg x2).mp (hl4.mp q2)
              exact ⟨w.1, Or.inr w.2⟩
          · have w := (cc_lt x2).mp (hl3.mp q1)
            exact ⟨w.1, Or.inl w.2⟩
        · have e6 : gI (sI E 8 v) 6 = nI a := by rw [gI_ne (by decide)]; exact E6
          have e7 : gI (sI E 8 v) 7 = nI (a + 1) := by rw [gI_ne (by decide)]; exact E7
          have e8 : gI (sI E 8 v) 8 = v := gI_eq
          have e9 : gI (sI E 8 v) 9 = f a - 48 := by rw [gI_ne (by decide)]; exact E9
          rcases hv with ⟨v1, v2, v3⟩ | ⟨v1, v2⟩
          · exact ⟨a, a + 1, 3, 0, f a - 48, e6, e7, ⟨bl, Or.inr (Or.inr (Or.inl ⟨c, dg, rfl, Or.inl ⟨rfl, rfl, v2, v3⟩⟩))⟩, Or.inr (Or.inr (Or.inr (Or.inl ⟨rfl, e8.trans v1, e9⟩)))⟩
          · exact ⟨a, a + 1, 0, 0, 0, e6, e7, ⟨bl, Or.inr (Or.inr (Or.inl ⟨c, dg, rfl, Or.inr ⟨rfl, v2⟩⟩))⟩, Or.inr (Or.inl ⟨rfl, e8.trans v1⟩)⟩
    · have lt := ((cc_lt x2).mp (hl.mp c1)).2
      refine Pc_B (p_next_119 tD c d6 d7) (fun E hE => Pc_L (fun F eF => Pc_L (fun v ev => ?_)))
      obtain ⟨tE, E6, e, E7, we⟩ := hE
      obtain ⟨w1, w2, w3, w4⟩ := id we
      have tF : TX f n F := ⟨x1, x2, by rw [eF]; exact tE.2.2.1, by rw [eF]; exact tE.2.2.2⟩
      have F6 : gI F 6 = nI a := by rw [eF]; exact E6
      have F7 : gI F 7 = nI e := by rw [eF]; exact E7
      have F10 : gL F 10 = 0 := by rw [eF, gL_sL, if_pos rfl]
      refine Pc_B (p_next_170 tF lt we F6 F7 F10 (ev.trans F6)) (fun G hG => ?_)
      obtain ⟨tG, G6, G7, G10⟩ := hG
      refine Pc_e (e_X7_gateOf _) (Pc_B (P := fun v => (v ≠ 0 ↔ kept (gL G 10))) ?_ (fun v1 hv1 => Pc_B (P := fun v => (e - a ≤ 8 ∧ ((v = 3 ∧ kept (gL G 10)) ∨ (v = 2 ∧ ¬ kept (gL G 10)))) ∨ (8 < e - a ∧ v = 1)) ?_ (fun v2 hv2 => Pc_l (Pc_s ?_))))
      · have t0 : (0 : Int32).toInt = 0 := by decide
        have t1 : (-1 : Int32).toInt = -1 := by decide
        have gk : (0 : Int32) ≤ gw (gL G 10) ↔ gw (gL G 10) ≠ -1 := by
          rw [ti_le, t0]
          rcases gw_r (gL G 10) with q | q
          · rw [q, t1]
            exact ⟨fun w => absurd w (by decide), fun w => absurd rfl w⟩
          · exact ⟨fun _ w => by rw [w] at q; exact absurd q.1 (by decide), fun _ => q.1⟩
        refine Pc_c (fun q => Pc_s ⟨fun _ => Or.inl (gk.mp q), fun _ => by decide⟩) (fun q0 => ?_)
        refine Pc_i lc_eq (fun q => Pc_s ⟨fun _ => Or.inr (Or.inl q), fun _ => by decide⟩) (fun q1 => Pc_i lc_eq (fun q => Pc_s ⟨fun _ => Or.inr (Or.inr (Or.inl q)), fun _ => by decide⟩) (fun q2 => Pc_i lc_eq (fun q => Pc_s ⟨fun _ => Or.inr (Or.inr (Or.inr (Or.inl q))), fun _ => by decide⟩) (fun q3 => Pc_i lc_eq (fun q => Pc_s ⟨fun _ => Or.inr (Or.inr (Or.inr (Or.inr (Or.inl q)))), fun _ => by decide⟩) (fun q4 => Pc_i lc_eq (fun q => Pc_s ⟨fun _ => Or.inr (Or.inr (Or.inr (Or.inr (Or.inr q)))), fun _ => by decide⟩) (fun q5 => Pc_s ⟨fun w => absurd rfl w, fun w => ?_⟩)))))
        rcases w with w | w | w | w | w | w
        · exact absurd (gk.mpr w) q0
        · exact absurd w q1
        · exact absurd w q2
        · exact absurd w q3
        · exact absurd w q4
        · exact absurd w q5
      · have sub : (gI G 7 - gI G 6).toInt = ((e - a : Nat) : Int) := by
          rw [G7, G6, nI_sub1 (by omega) (by omega)]
          omega
        have t8 : (8 : Int32).toInt = 8 := by decide
        have tq : gI G 7 - gI G 6 ≤ (8 : Int32) ↔ ((e - a : Nat) : Int) ≤ 8 := by rw [ti_le, sub, t8]
        refine Pc_i tq (fun q => Pc_c (fun q2 => Pc_s (Or.inl ⟨by omega, Or.inr ⟨rfl, fun w => (hv1.mpr w) q2⟩⟩)) (fun q2 => Pc_s (Or.inl ⟨by omega, Or.inl ⟨rfl, hv1.mp q2⟩⟩))) (fun q => Pc_s (Or.inr ⟨by omega, rfl⟩))
      · have e6 : gI (sI G 8 v2) 6 = nI a := by rw [gI_ne (by decide)]; exact G6
        have e7 : gI (sI G 8 v2) 7 = nI e := by rw [gI_ne (by decide)]; exact G7
        have e8 : gI (sI G 8 v2) 8 = v2 := gI_eq
        rcases hv2 with ⟨u1, u2⟩ | ⟨u1, u2⟩
        · rw [show min (e - a) 8 = e - a by omega] at G10
          refine ⟨a, e, 2, gL G 10, 0, e6, e7, ⟨bl, Or.inr (Or.inl ⟨c, lt, we, Or.inl ⟨u1, rfl, G10⟩⟩)⟩, Or.inr (Or.inr (Or.inl ⟨rfl, rfl, ?_⟩))⟩
          rw [e8]
          exact u2
        · exact ⟨a, e, 0, 0, 0, e6, e7, ⟨bl, Or.inr (Or.inl ⟨c, lt, we, Or.inr ⟨u1, rfl⟩⟩)⟩, Or.inr (Or.inl ⟨rfl, e8.trans u2⟩)⟩
  · rw [d6, tD.2.2.1, nI_ltI (by omega) (by omega)] at c
    have ea : a = n := by omega
    refine Pc_L (fun E eE => Pc_L (fun F eF => Pc_L (fun G eG => Pc_s ?_)))
    have E3 : gI E 3 = nI n := by rw [eE, gI_ne (by decide)]; exact tD.2.2.1
    have F3 : gI F 3 = nI n := by rw [eF, gI_ne (by decide)]; exact E3
    have g6 : gI G 6 = nI n := by rw [eG, gI_ne (by decide), eF, gI_eq]; exact E3
    have g7 : gI G 7 = nI n := by rw [eG, gI_eq]; exact F3
    have g8 : gI G 8 = 0 := by rw [eG, gI_ne (by decide), eF, gI_ne (by decide), eE, gI_eq]
    exact ⟨n, n, 1, 0, 0, g6, g7, ⟨ea ▸ bl, Or.inl ⟨rfl, rfl, rfl⟩⟩, Or.inl ⟨rfl, g8⟩⟩
