/-! the reference goes through a WORLD -/
def b2i (x : Bool) : Int32 := if x = true then 1 else 0
theorem b2i_1 (x : Bool) : b2i x = 1 ↔ x = true := by cases x <;> decide
theorem b2i_0 (x : Bool) : b2i x = 0 ↔ x = false := by cases x <;> decide
theorem VQ_b (x : Bool) : VQ (b2i x) := by
  cases x
  · exact Or.inl rfl
  · exact Or.inr (Or.inl rfl)
theorem cft_b : ∀ g : Fin 8, ∀ z o : Fin 7, z.val + o.val ≤ 6 → cft (nI g.val) (nI z.val) (nI o.val) (nI (z.val + o.val)) = some (b2i (gbt (nI g.val) z.val o.val)) := by decide +kernel
/-- a GATE of known values -/
theorem gv_2 {b c : Nat} {E : Nat → Nat → Prop} {M : Nat → Nat} {S0 Y : SS} (h : CE b c E M S0 Y) {i : Nat} (hi : i < c) (k2 : gA S0 4 i = 2) {f : Nat → Int32} {g : Nat → Bool} (hf : ∀ y, y < c → E i y → f y = b2i (g y)) : gval S0 f i = b2i (w2g S0 g i) := by
  obtain ⟨s6, _, _⟩ := CE_szM h hi
  have hn := HN_sz h hi
  rw [if_neg (by rw [k2]; decide)] at hn
  have pe : ∀ j, j < sz S0 i → f (pn S0 i j) = b2i (g (pn S0 i j)) := fun j hj => by
    obtain ⟨a, e⟩ := CE_Ep h hi (Or.inr k2) (j := j) (by omega)
    exact hf _ a e
  unfold gval w2g
  by_cases q8 : gA S0 5 i = 8
  · have m3 := mux3 h hi k2 q8
    rw [if_pos q8, if_pos q8, pe 0 (by omega), pe 1 (by omega), pe 2 (by omega)]
    have t : ∀ x : Bool, tk (b2i x) = b2i x := fun x => by cases x <;> decide
    rw [t, t]
    unfold mxv
    cases g (pn S0 i 0)
    · exact if_pos (by decide)
    · show (if b2i true = 0 then _ else if b2i true = 1 then _ else _) = _
      rw [if_neg (by decide), if_pos (by decide), if_pos rfl]
  · rw [if_neg q8, if_neg q8]
    obtain ⟨_, _, kg, _⟩ := h.2.1 i hi
    obtain ⟨_, g2, _⟩ := kg k2
    obtain ⟨gk, eg⟩ := g_nI g2 q8
    have z0 : zc S0 f 0 i (sz S0 i) = zw S0 g false i (sz S0 i) := cn_c (fun j hj => by rw [pe j hj, b2i_0])
    have z1 : zc S0 f 1 i (sz S0 i) = zw S0 g true i (sz S0 i) := cn_c (fun j hj => by rw [pe j hj, b2i_1])
    have sum : ∀ m, zw S0 g false i m + zw S0 g true i m = m := fun m => by
      induction m with
      | zero => rfl
      | succ m ih =>
        rw [zw_s, zw_s]
        cases g (pn S0 i m)
        · rw [if_pos rfl, if_neg (by decide)]
          omega
        · rw [if_neg (by decide), if_pos rfl]
          omega
    have s := sum (sz S0 i)
    have q := cft_b gk ⟨zw S0 g false i (sz S0 i), by omega⟩ ⟨zw S0 g true i (sz S0 i), by omega⟩ (by show zw S0 g false i (sz S0 i) + zw S0 g true i (sz S0 i) ≤ 6; omega)
    have q : cft (nI gk.val) (nI (zw S0 g false i (sz S0 i))) (nI (zw S0 g true i (sz S0 i))) (nI (zw S0 g false i (sz S0 i) + zw S0 g true i (sz S0 i))) = some (b2i (gbt (nI gk.val) (zw S0 g false i (sz S0 i)) (zw S0 g true i (sz S0 i)))) := q
    rw [s, ← eg] at q
    rw [z0, z1, q]
    rfl
theorem bor_0 {S0 : SS} {g : Nat → Bool} {i : Nat} : ∀ {m : Nat}, nod S0 g i m = 0 → bor S0 g i m = false := by
  intro m
  induction m with
  | zero => intro _; rfl
  | succ m ih =>
    intro h
    rw [nod_s] at h
    have d : dn S0 g i m = false := by
      cases e : dn S0 g i m with
      | false => rfl
      | true => rw [e] at h; exact absurd h (by show ¬ _ + 1 = 0; omega)
    show (bor S0 g i m || (dn S0 g i m && g (pn S0 i (2 * m)))) = false
    rw [ih (by omega), d]
    rfl
theorem p_drives {b c : Nat} {E : Nat → Nat → Prop} {M : Nat → Nat} {S0 T : SS} (h : CE b c E M S0 T) {k : Nat} (hk : k < c) (k1 : gA S0 4 k = 1) {g : Nat → Bool} (hf : ∀ y, y < c → E k y → gA T 35 y = b2i (g y)) : Pc (f_X7_drives T (nI k)) (fun w => (∃ r, w.2 = sA T 35 r ∧ (∀ y, y ≠ k → r y = gA T 35 y) ∧ (ONE S0 g k → r k = b2i (bor S0 g k (sz S0 k)))) ∧ ((w.1 = 1 ∧ ONE S0 g k) ∨ (w.1 = 0 ∧ ¬ ONE S0 g k))) := by
  obtain ⟨hc, hb, _, _, h30⟩ := h.1
  obtain ⟨s6, e14, _⟩ := CE_szM h hk
  have hn := HN_sz h hk
  rw [if_pos k1] at hn
  have ny : ∀ j, j < HN M S0 k → pn S0 k j ≠ k := fun j hj e => by
    have q := (CE_lvl h hk).2.2 _ (CE_Ep h hk (Or.inl k1) hj).2
    rw [e] at q
    omega
  refine Pc_L (fun v1 ev => ?_)
  have ev : v1 = nI (60 * b + k) := by rw [ev, h30, i60 hb]
  subst ev
  refine Pc_B (P := fun x : Int32 × SS => x.1 = nI (nod S0 g k (sz S0 k)) ∧ ∃ r, x.2 = sA T 35 r ∧ (∀ y, y ≠ k → r y = gA T 35 y) ∧ (ONE S0 g k → r k = b2i (bor S0 g k (sz S0 k)))) ?_ (fun x hx => ?_)
  · refine Pc_I (fun v : Int32 × Int32 × SS => ∃ j r, v.2.1 = nI j ∧ j ≤ sz S0 k ∧ v.1 = nI (nod S0 g k j) ∧ v.2.2 = sA T 35 r ∧ (∀ y, y ≠ k → r y = gA T 35 y) ∧ (nod S0 g k j = 1 → r k = b2i (bor S0 g k j))) (fun v hv => ?_) _ ⟨0, gA T 35, rfl, Nat.zero_le _, rfl, sA_self.symm, fun _ _ => rfl, fun q => absurd q (by show ¬ 0 = 1; decide)⟩
    obtain ⟨o, x, U⟩ := v
    obtain ⟨j, r, ex, hj, eo, eU, ry, rk⟩ : ∃ j r, x = nI j ∧ j ≤ sz S0 k ∧ o = nI (nod S0 g k j) ∧ U = sA T 35 r ∧ (∀ y, y ≠ k → r y = gA T 35 y) ∧ (nod S0 g k j = 1 → r k = b2i (bor S0 g k j)) := hv
    subst ex
    subst eo
    have hU : CE b c E M S0 U := by rw [eU]; exact CE_sA h (by decide) r
    have u35 : gA U 35 = r := by rw [eU, gA_eq]
    have u14 : gA U 14 (60 * b + k) = nI (sz S0 k) := by rw [eU, gA_ne (by decide)]; exact e14
    obtain ⟨_, _, _, _, u30⟩ := hU.1
    refine Pc_G (fun _ => ?_)
    rw [nI_clamp (by omega), u14]
    refine Pc_c (fun q => Pc_s ?_) (fun q => ?_)
    · rw [nI_leI (by omega) (by omega)] at q
      have : j = sz S0 k := by omega
      rw [this] at rk ⊢
      exact ⟨rfl, r, eU, ry, rk⟩
    · rw [nI_leI (by omega) (by omega)] at q
      obtain ⟨a0, _, b0⟩ := CE_pn hU hk (j := 2 * j) (by omega)
      obtain ⟨a1, _, b1⟩ := CE_pn hU hk (j := 2 * j + 1) (by omega)
      have e1 := hf _ a1 (CE_Ep h hk (Or.inl k1) (by omega)).2
      have e0 := hf _ a0 (CE_Ep h hk (Or.inl k1) (by omega)).2
      have n1 := ny (2 * j + 1) (by omega)
      have n0 := ny (2 * j) (by omega)
      rw [two_j, nI_1]
      refine Pc_e ((e_in (j := 2 * j + 1) u30 hb (by omega) (by omega)).trans (congrArg some b1)) (Pc_G (fun _ => ?_))
      rw [nI_clamp (by omega), u35, ry _ n1, e1]
      refine Pc_B (P := fun v => v = b2i (g (pn S0 k (2 * j + 1)))) (Pc_c (fun z => Pc_s z.symm) (fun z => Pc_s ?_)) (fun v hv => Pc_G (fun _ => ?_))
      · refine ((b2i_0 _).mpr ?_).symm
        cases e : g (pn S0 k (2 * j + 1)) with
        | false => rfl
        | true => rw [e] at z; exact absurd rfl z
      · rw [hv, show ((6 : Int32) * nI (60 * b + k)) + nI j = nI (6 * (60 * b + k) + j) from i6 _ _, nI_clamp (by omega)]
        have lw := hU.2.2.2.1 k j hk k1 (by rw [← CE_sz hU hk]; omega)
        have dd : b2i (g (pn S0 k (2 * j + 1))) = gA U 19 (6 * (60 * b + k) + j) ↔ dn S0 g k j = true := by
          unfold dn
          rcases lw with ⟨l1, l2⟩ | ⟨l1, l2⟩
          · rw [l1, l2, b2i_0]
            cases g (pn S0 k (2 * j + 1)) <;> decide
          · rw [Bool.eq_false_iff.mpr l1, l2, b2i_1]
            cases g (pn S0 k (2 * j + 1)) <;> decide
        refine Pc_i dd (fun z => Pc_l (Pc_e ((e_in (j := 2 * j) u30 hb (by omega) (by omega)).trans (congrArg some b0)) (Pc_G (fun _ => Pc_G (fun _ => Pc_L (fun W eW => Pc_l (Pc_s ⟨j + 1, upd r k (b2i (g (pn S0 k (2 * j)))), nI_1 j, by omega, ?_, ?_, fun y hy => ?_, fun one => ?_⟩))))))) (fun z => Pc_l (Pc_s ⟨j + 1, r, nI_1 j, by omega, ?_, eU, ry, fun one => ?_⟩))
        · show nI (nod S0 g k j) + 1 = _
          rw [nod_s, z, nI_1]
          rfl
        · show W = _
          rw [eW, nI_clamp (by omega), nI_clamp (by omega), ry _ n0, e0, eU, sA_sA]
        · rw [pk_un hy]
          exact ry y hy
        · rw [pk_us]
          rw [nod_s, z] at one
          have o0 : nod S0 g k j = 0 := by
            have : (true : Bool).toNat = 1 := rfl
            omega
          show b2i _ = b2i (bor S0 g k j || (dn S0 g k j && g (pn S0 k (2 * j))))
          rw [bor_0 o0, z]
          rfl
        · show nI (nod S0 g k j) = _
          rw [nod_s, Bool.eq_false_iff.mpr z]
          rfl
        · rw [nod_s, Bool.eq_false_iff.mpr z] at one
          rw [rk one]
          show _ = b2i (bor S0 g k j || (dn S0 g k j && g (pn S0 k (2 * j))))
          rw [Bool.eq_false_iff.mpr z, Bool.false_and, Bool.or_false]
  · obtain ⟨o, U⟩ := x
    obtain ⟨eo, r, eU, ry, rk⟩ := hx
    have eo : o = nI (nod S0 g k (sz S0 k)) := eo
    have eU : U = sA T 35 r := eU
    have nb : nod S0 g k (sz S0 k) ≤ 6 := Nat.le_trans (cn_le _) s6
    refine Pc_B (P := fun V => ∃ r, V = sA T 35 r ∧ (∀ y, y ≠ k → r y = gA T 35 y) ∧ (ONE S0 g k → r k = b2i (bor S0 g k (sz S0 k)))) (Pc_c (fun z => Pc_G (fun _ => Pc_L (fun V eV => Pc_s ⟨upd r k 0, ?_, fun y hy => ?_, fun one => ?_⟩))) (fun z => Pc_s ⟨r, eU, ry, rk⟩)) (fun V hV => ?_)
    · rw [eV, nI_clamp (by omega), eU, gA_eq, sA_sA]
    · rw [pk_un hy]
      exact ry y hy
    · rw [eo] at z
      have z : nI (nod S0 g k (sz S0 k)) = nI 0 := z
      have := (nI_eq (by omega) (by omega)).mp z
      have one : nod S0 g k (sz S0 k) = 1 := one
      omega
    · rw [eo]
      have iff : nI (nod S0 g k (sz S0 k)) = (1 : Int32) ↔ ONE S0 g k := nI_eq (b := 1) (by omega) (by omega)
      exact Pc_i iff (fun z => Pc_s ⟨hV, Or.inl ⟨rfl, z⟩⟩) (fun z => Pc_s ⟨hV, Or.inr ⟨rfl, z⟩⟩)
/-- WORLD g, as far as it has been gone through -/
def GWI (c : Nat) (S0 : SS) (g : Nat → Bool) (D : Nat → Prop) (leg : Int32) (T U : SS) : Prop := ∃ r, U = sA T 35 r ∧ ((leg = 1 ∧ (∀ i, i < c → ¬ GBn S0 i → r i = b2i (g i)) ∧ ∀ i, i < c → GBn S0 i → D i → r i = b2i (g i) ∧ (gA S0 4 i = 1 → ONE S0 g i)) ∨ (leg = 0 ∧ ¬ LGL c S0 g))
theorem GWI_D {c : Nat} {S0 T U : SS} {g : Nat → Bool} {D D' : Nat → Prop} {leg : Int32} (h : GWI c S0 g D leg T U) (hd : ∀ i, i < c → GBn S0 i → D' i → D i) : GWI c S0 g D' leg T U := by
  obtain ⟨r, e, ⟨a, b, d⟩ | q⟩ := h
  · exact ⟨r, e, Or.inl ⟨a, b, fun i hi gi di => d i hi gi (hd i hi gi di)⟩⟩
  · exact ⟨r, e, Or.inr q⟩
theorem p_goes {b c N : Nat} {E : Nat → Nat → Prop} {M : Nat → Nat} {S0 T : SS} (h : CE b c E M S0 T) (vq : ∀ i, i < c → ¬ GBn S0 i → VQ (gA T 33 i)) (hF : nf S0 (gA T 33) c ≤ 12) (fd : FD S0 (gA T 33) c T) (hN : N < 4096) {g : Nat → Bool} (sol : WSL c S0 (srb S0 (gA T 33) N) g) : Pc (f_X7_goes T (nI N)) (fun w => (∃ r, w.2 = sA T 35 r ∧ (w.1 ≠ 0 → ∀ i, i < c → r i = b2i (g i))) ∧ (w.1 ≠ 0 ↔ LGL c S0 g)) := by
  obtain ⟨hc, hb, _, h29, h30⟩ := h.1
  have hy : ∀ i y, i < c → E i y → y < c := fun i y hi e => ((h.2.2.2.2.1.1 i y hi).mp e).1
  -- the sources as they are
  refine Pc_B (P := fun U => ∃ r, U = sA T 35 r ∧ ∀ i, i < c → r i = gA T 33 i) ?_ (fun U1 hU1 => ?_)
  · refine Pc_I (fun v : Int32 × SS => ∃ k r, v.1 = nI k ∧ k ≤ c ∧ v.2 = sA T 35 r ∧ ∀ i, i < k → r i = gA T 33 i) (fun v hv => ?_) _ ⟨0, gA T 35, rfl, Nat.zero_le _, sA_self.symm, fun i q => absurd q (Nat.not_lt_zero _)⟩
    obtain ⟨v, W⟩ := v
    obtain ⟨k, r, ev, hk, eW, hr⟩ : ∃ k r, v = nI k ∧ k ≤ c ∧ W = sA T 35 r ∧ ∀ i, i < k → r i = gA T 33 i := hv
    subst ev
    have w29 : gI W 29 = nI c := by rw [eW]; exact h29
    refine Pc_c (fun q => Pc_s ⟨r, eW, fun i hi => hr i ?_⟩) (fun q => Pc_G (fun _ => Pc_l (Pc_l (Pc_s ⟨k + 1, upd r k (gA T 33 k), nI_1 k, ?_, ?_, fun i hi => ?_⟩))))
    · rw [w29, nI_leI (by omega) (by omega)] at q
      omega
    · rw [w29, nI_leI (by omega) (by omega)] at q
      omega
    · show sA W 35 _ = _
      rw [nI_clamp (by omega), eW, gA_eq, gA_ne (by decide), sA_sA]
    · by_cases e : i = k
      · rw [e, pk_us]
      · rw [pk_un e]
        exact hr i (by omega)
  obtain ⟨r1, eU1, hr1⟩ := hU1
  -- those that are not known
  refine Pc_B (P := fun U => ∃ r, U = sA T 35 r ∧ ∀ i, i < c → ¬ GBn S0 i → r i = b2i (g i)) ?_ (fun U2 hU2 => ?_)
  · refine Pc_w (Q := fun U => ∃ r, U = sA T 35 r ∧ ∀ i, i < c → (fr S0 (gA T 33) i → r i = b2i (N.testBit (nf S0 (gA T 33) i))) ∧ (¬ fr S0 (gA T 33) i → r i = gA T 33 i)) ?_ (fun U ⟨r, e, hr⟩ => ⟨r, e, fun i hi u => ?_⟩)
    · refine Pc_I (fun v : Int32 × SS => ∃ p r, v.1 = nI p ∧ p ≤ nf S0 (gA T 33) c ∧ v.2 = sA T 35 r ∧ ∀ i, i < c → (fr S0 (gA T 33) i ∧ nf S0 (gA T 33) i < p → r i = b2i (N.testBit (nf S0 (gA T 33) i))) ∧ (¬ (fr S0 (gA T 33) i ∧ nf S0 (gA T 33) i < p) → r i = gA T 33 i)) (fun v hv => ?_) _ ⟨0, r1, rfl, Nat.zero_le _, eU1, fun i hi => ⟨fun q => absurd q.2 (Nat.not_lt_zero _), fun _ => hr1 i hi⟩⟩
      obtain ⟨v, W⟩ := v
      obtain ⟨p, r, ev, hp, eW, hr⟩ : ∃ p r, v = nI p ∧ p ≤ nf S0 (gA T 33) c ∧ W = sA T 35 r ∧ ∀ i, i < c → (fr S0 (gA T 33) i ∧ nf S0 (gA T 33) i < p → r i = b2i (N.testBit (nf S0 (gA T 33) i))) ∧ (¬ (fr S0 (gA T 33) i ∧ nf S0 (gA T 33) i < p) → r i = gA T 33 i) := hv
      subst ev
      have w39 : gI W 39 = nI (nf S0 (gA T 33) c) := by rw [eW]; exact fd.1
      have w38 : gA W 38 = gA T 38 := by rw [eW, gA_ne (by decide)]
      refine Pc_c (fun q => Pc_s ⟨r, eW, fun i hi => ?_⟩) (fun q => Pc_G (fun _ => Pc_G (fun _ => ?_)))
      · rw [w39, nI_leI (by omega) (by omega)] at q
        refine ⟨fun u => (hr i hi).1 ⟨u, ?_⟩, fun u => (hr i hi).2 (fun t => u t.1)⟩
        have : nf S0 (gA T 33) i < nf S0 (gA T 33) c := cn_lt (P := fr S0 (gA T 33)) hi u
        omega
      · rw [w39, nI_leI (by omega) (by omega)] at q
        obtain ⟨i0, i1, i2, i3⟩ := cn_surj (P := fr S0 (gA T 33)) (k := c) (j := p) (show p < nf S0 (gA T 33) c by omega)
        have i3 : nf S0 (gA T 33) i0 = p := i3
        have ei : gA W 38 p = nI i0 := by
          rw [w38, ← i3]
          exact fd.2 i0 i1 i2
        have bit : ((nI N >>> (nI p &&& 31)) &&& (1 : Int32)) = b2i (N.testBit p) := by
          have t := bI_t (x := nI N) (j := p) (by omega)
          rw [bI_nI (by omega)] at t
          cases e : N.testBit p with
          | true => exact t.mpr e
          | false =>
            rw [e] at t
            have ne : ¬ ((nI N >>> (nI p &&& 31)) &&& (1 : Int32)) = 1 := fun u => absurd (t.mp u) (by decide)
            obtain ⟨j, j1, j2⟩ := pk_andE (nI N >>> (nI p &&& 31)) (m := (1 : Int32)) 1 (by decide)
            rw [j2] at ne ⊢
            have : j = 0 := by
              have : j ≠ 1 := fun u => ne (by rw [u]; rfl)
              omega
            rw [this]
            rfl
        refine Pc_l (Pc_l (Pc_s ⟨p + 1, upd r i0 (b2i (N.testBit p)), nI_1 p, by omega, ?_, fun i hi => ?_⟩))
        · show sA W 35 _ = _
          rw [nI_clamp (by omega), ei, nI_clamp (by omega), bit, eW, gA_eq, sA_sA]
        · by_cases e : i = i0
          · rw [e, pk_us]
            exact ⟨fun _ => by rw [i3], fun u => absurd ⟨i2, by omega⟩ u⟩
          · rw [pk_un e]
            have np : fr S0 (gA T 33) i → nf S0 (gA T 33) i ≠ p := fun u t => by
              rcases Nat.lt_trichotomy i i0 with s | s | s
              · have : nf S0 (gA T 33) i < nf S0 (gA T 33) i0 := cn_lt (P := fr S0 (gA T 33)) s u
                omega
              · exact e s
              · have : nf S0 (gA T 33) i0 < nf S0 (gA T 33) i := cn_lt (P := fr S0 (gA T 33)) s i2
                omega
            refine ⟨fun u => (hr i hi).1 ⟨u.1, by have := np u.1; omega⟩, fun u => (hr i hi).2 (fun t => u ⟨t.1, by omega⟩)⟩
    · rw [(sol i hi).2 u]
      unfold srb
      by_cases z : gA T 33 i < 2
      · rw [if_pos z, (hr i hi).2 (fun t => t.2 z)]
        rcases (VQ_2 (vq i hi u)).mp z with q | q <;> rw [q] <;> decide
      · rw [if_neg z]
        exact (hr i hi).1 ⟨(SR_G h hi).mpr u, z⟩
  obtain ⟨r2, eU2, hr2⟩ := hU2
  -- all others
  refine Pc_w (Q := fun w : Int32 × SS => zb w.1 ∧ GWI c S0 g (fun _ => True) w.1 T w.2) ?_ (fun w ⟨wz, r, er, hr⟩ => ?_)
  · refine Pc_I (fun v : Int32 × Int32 × SS => ∃ l, v.2.1 = nI l ∧ l ≤ c + 1 ∧ GWI c S0 g (fun i => lvl S0 i < l) v.1 T v.2.2) (fun v hv => ?_) _ ⟨0, rfl, Nat.zero_le _, r2, eU2, Or.inl ⟨rfl, hr2, fun i _ _ q => absurd q (Nat.not_lt_zero _)⟩⟩
    obtain ⟨lg, v, W⟩ := v
    obtain ⟨l, ev, hl, gw⟩ : ∃ l, v = nI l ∧ l ≤ c + 1 ∧ GWI c S0 g (fun i => lvl S0 i < l) lg T W := hv
    subst ev
    have w29 : gI W 29 = nI c := by
      obtain ⟨r, e, _⟩ := gw
      rw [e]
      exact h29
    have lz : zb lg := by
      obtain ⟨_, _, ⟨a, _⟩ | ⟨a, _⟩⟩ := gw
      · rw [a]; exact zb1
      · rw [a]; exact zb0
    refine Pc_c (fun q => Pc_G (fun _ => Pc_s ⟨lz, ?_⟩)) (fun q => Pc_c (fun z => Pc_G (fun _ => Pc_s ⟨lz, ?_⟩)) (fun z => ?_))
    · rw [w29, nI_ltI (by omega) (by omega)] at q
      exact GWI_D gw (fun i hi _ _ => by have := (CE_lvl h hi).2.1; show lvl S0 i < l; omega)
    · obtain ⟨r, e, ⟨a, _⟩ | a⟩ := gw
      · rw [a] at z
        exact absurd z ne10
      · exact ⟨r, e, Or.inr a⟩
    · rw [w29, nI_ltI (by omega) (by omega)] at q
      refine Pc_B (P := fun x : Int32 × SS => GWI c S0 g (fun i => lvl S0 i < l + 1) x.1 T x.2) ?_ (fun x hx => ?_)
      · refine Pc_I (fun v : Int32 × Int32 × SS => ∃ k, v.2.1 = nI k ∧ k ≤ c ∧ GWI c S0 g (DNE S0 l k) v.1 T v.2.2) (fun v hv => ?_) _ ⟨0, rfl, Nat.zero_le _, GWI_D gw (fun i _ _ t => by unfold DNE at t; show lvl S0 i < l; omega)⟩
        obtain ⟨lg, v, W⟩ := v
        obtain ⟨k, ev, hk, gw⟩ : ∃ k, v = nI k ∧ k ≤ c ∧ GWI c S0 g (DNE S0 l k) lg T W := hv
        subst ev
        obtain ⟨r, eW, hr⟩ := id gw
        have hW : CE b c E M S0 W := by rw [eW]; exact CE_sA h (by decide) r
        have w35 : gA W 35 = r := by rw [eW, gA_eq]
        obtain ⟨_, _, _, w29, w30⟩ := hW.1
        refine Pc_c (fun u => Pc_s (GWI_D gw (fun i hi _ t => ?_))) (fun u => Pc_G (fun _ => ?_))
        · rw [w29, nI_leI (by omega) (by omega)] at u
          have t : lvl S0 i < l + 1 := t
          unfold DNE
          omega
        · rw [w29, nI_leI (by omega) (by omega)] at u
          have kc : k < c := by omega
          obtain ⟨lk, _, ll⟩ := CE_lvl hW kc
          rw [w30, i60 hb, nI_clamp (by omega), lk]
          have skip : (¬ (GBn S0 k ∧ lvl S0 k = l)) → GWI c S0 g (DNE S0 l (k + 1)) lg T W := fun no => GWI_D gw (fun i hi gi t => by
            unfold DNE at t ⊢
            rcases t with t | ⟨t1, t2⟩
            · exact Or.inl t
            · rcases Nat.lt_or_ge i k with s | s
              · exact Or.inr ⟨t1, s⟩
              · have : i = k := by omega
                rw [this] at gi t1
                exact absurd ⟨gi, t1⟩ no)
          refine Pc_c (fun s => ?_) (fun s => Pc_l (Pc_s ⟨k + 1, nI_1 k, by omega, skip (fun x => s (by rw [x.2]))⟩))
          have es : lvl S0 k = l := (nI_eq (by have := (CE_lvl hW kc).2.1; omega) (by omega)).mp s
          -- what NODE k hangs on
          have vk : lg = 1 → ∀ y, y < c → E k y → gA W 35 y = b2i (g y) := fun e1 y hy' ey => by
            rw [w35]
            rcases hr with ⟨_, a, d⟩ | ⟨a, _⟩
            · by_cases gy : GBn S0 y
              · exact (d y hy' gy (Or.inl (by have := ll y ey; omega))).1
              · exact a y hy' gy
            · rw [e1] at a
              exact absurd a ne10
          have dne : ∀ i, DNE S0 l (k + 1) i → DNE S0 l k i ∨ i = k := fun i t => by
            unfold DNE at t ⊢
            omega
          -- one more NODE
          have stp : ∀ {r' : Nat → Int32} {U : SS}, U = sA T 35 r' → lg = 1 → (∀ y, y ≠ k → r' y = r y) → GBn S0 k → r' k = b2i (NV2 S0 g k) → (gA S0 4 k = 1 → ONE S0 g k) → GWI c S0 g (DNE S0 l (k + 1)) 1 T U := by
            intro r' U eU e1 ry gk rk one
            rcases hr with ⟨_, a, d⟩ | ⟨a, _⟩
            · refine ⟨r', eU, Or.inl ⟨rfl, fun i hi ui => ?_, fun i hi gi t => ?_⟩⟩
              · rw [ry i (fun e => ui (by rw [e]; exact gk))]
                exact a i hi ui
              · by_cases e : i = k
                · subst e
                  rw [rk, (sol i hi).1 gk]
                  exact ⟨rfl, one⟩
                · rw [ry i e]
                  rcases dne i t with t | t
                  · exact d i hi gi t
                  · exact absurd t e
            · rw [e1] at a
              exact absurd a ne10
          refine Pc_e (e_kind7 hW kc) ?_
          by_cases k2 : gA S0 4 k = 2
          · rw [if_pos k2]
            refine Pc_B (P := fun U => GWI c S0 g (DNE S0 l (k + 1)) lg T U) (Pc_B (p_gate7 hW kc k2 35) (fun x hx => Pc_G (fun _ => Pc_L (fun U eU => Pc_s ?_)))) (fun U hU => ?_)
            · have eU2 : U = sA T 35 (upd r k x) := by rw [eU, nI_clamp (by omega), w35, eW, sA_sA]
              rcases hr with ⟨a1, a2, a3⟩ | a
              · rw [a1]
                refine stp eU2 a1 (fun y hy' => pk_un hy') (Or.inr k2) ?_ (fun q => absurd q (by rw [k2]; decide))
                rw [pk_us, hx, gv_2 hW kc k2 (vk a1)]
                unfold NV2
                rw [if_pos k2]
              · exact ⟨_, eU2, Or.inr a⟩
            · have hU' : CE b c E M S0 U := by
                obtain ⟨r', e, _⟩ := hU
                rw [e]
                exact CE_sA h (by decide) r'
              refine Pc_e (e_kind7 hU' kc) (Pc_c (fun x => absurd x (by rw [k2]; decide)) (fun _ => Pc_l (Pc_s ⟨k + 1, nI_1 k, by omega, hU⟩)))
          · rw [if_neg k2]
            refine Pc_e (a := W) rfl (Pc_e (e_kind7 hW kc) (Pc_c (fun k1 => Pc_c (fun z => Pc_l (Pc_s ⟨k + 1, nI_1 k, by omega, ?_⟩)) (fun z => ?_)) (fun k1 => Pc_l (Pc_s ⟨k + 1, nI_1 k, by omega, skip (fun x => ?_)⟩))))
            · rcases hr with ⟨a1, _⟩ | a
              · rw [a1] at z
                exact absurd z ne10
              · exact ⟨r, eW, Or.inr ⟨rfl, a.2⟩⟩
            · have e1 : lg = 1 := by
                rcases hr with ⟨a1, _⟩ | a
                · exact a1
                · exact absurd a.1 z
              refine Pc_B (p_drives hW kc k1 (vk e1)) (fun x hx => ?_)
              obtain ⟨o, U⟩ := x
              obtain ⟨⟨r', eU, ry, rk⟩, ho⟩ := hx
              have eU : U = sA T 35 r' := by
                have eU : U = sA W 35 r' := eU
                rw [eU, eW, sA_sA]
              rcases ho with ⟨o1, one⟩ | ⟨o0, no⟩
              · have o1 : o = 1 := o1
                refine Pc_c (fun t => absurd t (by rw [o1]; decide)) (fun _ => Pc_l (Pc_s ⟨k + 1, nI_1 k, by omega, stp eU e1 (fun y hy' => by rw [ry y hy', w35]) (Or.inl k1) ?_ (fun _ => one)⟩))
                rw [rk one]
                unfold NV2
                rw [if_neg k2, if_pos k1]
              · have o0 : o = 0 := o0
                exact Pc_c (fun _ => Pc_l (Pc_s ⟨k + 1, nI_1 k, by omega, r', eU, Or.inr ⟨rfl, fun t => no (t k kc k1)⟩⟩)) (fun t => absurd o0 t)
            · rcases x.1 with y | y
              · exact k1 y
              · exact k2 y
      · obtain ⟨x1, x2⟩ := x
        exact Pc_l (Pc_s ⟨l + 1, nI_1 l, by omega, hx⟩)
  · rcases hr with ⟨a, d, e⟩ | ⟨a, d⟩
    · refine ⟨⟨r, er, fun _ i hi => ?_⟩, fun _ i hi ki => (e i hi (Or.inl ki) trivial).2 ki, fun _ => by rw [a]; exact ne10⟩
      by_cases gi : GBn S0 i
      · exact (e i hi gi trivial).1
      · exact d i hi gi
    · exact ⟨⟨r, er, fun q => absurd a q⟩, fun q => absurd a q, fun q => absurd q d⟩
