/-- a DRIVER's three uses -/
theorem LK_3 {C : Ct} {k i y z : Nat} {S T U V : SS} (g : GB C) (h : LK C k S) (hk : k + 2 < cU C) (ok : ∀ q, q < k → ¬ BU C q) (hi : i < cC C) (hr : isHd (cUr C k)) (r1 : cUr C (k + 1) = -3) (r2 : cUr C (k + 2) = -3) (ei : xq C k = nI i) (kd : cKd C i = 1) (hy : y < cC C) (ey : xq C (k + 1) = nI y) (hz : z < cC C) (ez : xq C (k + 2) = nI z) (bd : BD S T i (hb C i k) (cUr C k = -2)) (ap : AP T U i y (2 * hb C i k)) (aq : AP U V i z (2 * hb C i k + 1)) : LK C (k + 3) V := by
  obtain ⟨hc, uv, b6, h6⟩ := g
  obtain ⟨cf, l8, l7, ld, l10, l9⟩ := h
  obtain ⟨dI, dA, dB, d9⟩ := bd
  obtain ⟨aI, aA, aB, a7, a8, a10⟩ := ap
  obtain ⟨cI, cA, cB, c7, c8, c10⟩ := aq
  have n3 : ¬ isHd (-3) := fun q => by rcases q with q | q <;> exact absurd q (by decide)
  have m1 : ¬ isHd (cUr C (k + 1)) := by rw [r1]; exact n3
  have m2 : ¬ isHd (cUr C (k + 2)) := by rw [r2]; exact n3
  have hb3 : hb C i (k + 3) = hb C i k + 1 := by
    show cn (fun q => isHd (cUr C q) ∧ xq C q = nI i) (k + 1 + 1 + 1) = _
    rw [cn_n (fun z => m2 z.1), cn_n (fun z => m1 z.1), cn_y ⟨hr, ei⟩]
    rfl
  have hb3n : ∀ j, j < cC C → j ≠ i → hb C j (k + 3) = hb C j k := fun j hj q => by
    show cn (fun q => isHd (cUr C q) ∧ xq C q = nI j) (k + 1 + 1 + 1) = _
    rw [cn_n (fun z => m2 z.1), cn_n (fun z => m1 z.1), cn_n (fun z => ?_)]
    · rfl
    · have z2 := z.2
      rw [ei] at z2
      exact q ((nI_eq (by omega) (by omega)).mp z2).symm
  have nr : ∀ j q, j < cC C → k ≤ q → q < k + 3 → cUr C q ≠ nI j := fun j q hj h1 h2 e => by
    obtain ⟨p1, p2⟩ := nd_h (i := j) (by omega)
    by_cases q0 : q = k
    · rw [q0] at e; rw [e] at hr; exact p1 hr
    · by_cases q1 : q = k + 1
      · rw [q1, r1] at e; exact p2 e.symm
      · have : q = k + 2 := by omega
        rw [this, r2] at e; exact p2 e.symm
  have nn3 : ∀ j, j < cC C → nn C j (k + 3) = nn C j k := fun j hj => by
    show cn (fun q => cUr C q = nI j) (k + 1 + 1 + 1) = _
    rw [cn_n (nr j (k + 2) hj (by omega) (by omega)), cn_n (nr j (k + 1) hj (by omega) (by omega)), cn_n (nr j k hj (by omega) (by omega))]
    rfl
  have ho : ∀ q, q < k + 3 → isHd (cUr C q) → q < k ∨ q = k := fun q h1 h2 => by
    rcases Nat.lt_or_ge q k with y1 | y1
    · exact Or.inl y1
    · by_cases q0 : q = k
      · exact Or.inr q0
      · by_cases q1 : q = k + 1
        · rw [q1] at h2; exact absurd h2 m1
        · have : q = k + 2 := by omega
          rw [this] at h2; exact absurd h2 m2
  have nb : ∀ j q, j < cC C → q ≤ cU C → nn C j q ≤ 6 := fun j q hj hq => Nat.le_trans (cn_mono hq) (b6 j hj)
  have hbb : ∀ j q, j < cC C → q < cU C → isHd (cUr C q) → xq C q = nI j → hb C j q < 6 := fun j q hj hq z1 z2 => Nat.lt_of_lt_of_le (cn_lt (P := fun q => isHd (cUr C q) ∧ xq C q = nI j) hq ⟨z1, z2⟩) (h6 j hj)
  have hi6 := hbb i k hi (by omega) hr ei
  have e7 : ∀ x, x ≠ 12 * i + 2 * hb C i k → x ≠ 12 * i + (2 * hb C i k + 1) → gA V 7 x = gA S 7 x := fun x h1 h2 => by
    rw [c7, pk_un h2, a7, pk_un h1, dA 7 (by decide)]
  refine ⟨CF_eq (CF_eq (CF_eq cf dI (fun j hj => dA j (by omega)) (dB 2)) aI (fun j hj => aA j (by omega) (by omega)) (aB 2 (by decide))) cI (fun j hj => cA j (by omega) (by omega)) (cB 2 (by decide)), fun j hj => ?_, fun q j hq hj w => ?_, fun q j hq hj w1 w2 => ?_, fun j w hj hw => ?_, fun j w hj hw => ?_⟩
  · rw [c8, a8, dA 8 (by decide)]
    unfold pc
    by_cases q : j = i
    · rw [q, pk_us, if_pos kd, hb3]
      exact congrArg nI (by omega)
    · rw [pk_un q, pk_un q, hb3n j hj q, nn3 j hj]
      exact l8 j hj
  · have q1 : q < k := by
      rcases Nat.lt_or_ge q k with y1 | y1
      · exact y1
      · exact absurd w (nr j q hj y1 hq)
    have u1 := nb j q hj (by omega)
    have ji : j ≠ i := fun y2 => by
      rcases uv q (by omega) with y | y | ⟨j', hj', y, y3⟩
      · rw [w] at y; exact (nd_h (by omega)).1 y
      · rw [w] at y; exact (nd_h (by omega)).2 y
      · rw [w] at y
        have : j = j' := (nI_eq (by omega) (by omega)).mp y
        rw [← this, y2, kd] at y3
        rcases y3 with v | v <;> exact absurd v (by decide)
    rw [e7 _ (by omega) (by omega)]
    exact l7 q j q1 hj w
  · rcases ho q hq w1 with q1 | q1
    · have u3 := hbb j q hj (by omega) w1 w2
      have ne : j = i → hb C j q < hb C i k := fun y2 => by
        rw [y2] at w2 ⊢
        exact cn_lt (P := fun q => isHd (cUr C q) ∧ xq C q = nI i) q1 ⟨w1, w2⟩
      rw [e7 _ (by omega) (by omega), e7 _ (by omega) (by omega)]
      exact ld q j q1 hj w1 w2
    · rw [q1] at w2 ⊢
      rw [ei] at w2
      have : i = j := (nI_eq (by omega) (by omega)).mp w2
      rw [← this]
      refine ⟨?_, ?_⟩
      · rw [c7, pk_un (by omega), a7, pk_us, ey]
      · rw [c7, pk_us, ez]
  · have old := l10 j w hj hw
    have k4 : ∀ x : Nat, gA S 4 x = cKd C x := fun x => by rw [cf.2.1.2.2.1]
    have qde : (∃ q, q < k + 3 ∧ cUr C q = nI j ∧ xq C q = nI w) ↔ ∃ q, q < k ∧ cUr C q = nI j ∧ xq C q = nI w := by
      constructor
      · rintro ⟨h, h1, h2, h3⟩
        refine ⟨h, ?_, h2, h3⟩
        rcases Nat.lt_or_ge h k with y1 | y1
        · exact y1
        · exact absurd h2 (nr j h hj y1 h1)
      · rintro ⟨h, h1, h2, h3⟩
        exact ⟨h, by omega, h2, h3⟩
    rw [qde]
    by_cases ji : j = i
    · rw [ji] at old ⊢
      have e1 : gB U 10 i = gB S 10 i ||| jLs 1 (nI y) := by
        rcases a10 with ⟨q, _⟩ | ⟨_, e⟩
        · rw [dA 4 (by decide), k4, kd] at q
          exact absurd q (by decide)
        · rw [e, pk_uLs, dB]
      have e2 : gB V 10 i = (gB S 10 i ||| jLs 1 (nI y)) ||| jLs 1 (nI z) := by
        rcases c10 with ⟨q, _⟩ | ⟨_, e⟩
        · rw [aA 4 (by decide) (by decide), dA 4 (by decide), k4, kd] at q
          exact absurd q (by decide)
        · rw [e, pk_uLs, e1]
      have c3 : cKd C i ≠ 3 := by rw [kd]; decide
      rw [e2, bL_or, bL_or, Bool.or_eq_true, Bool.or_eq_true, old, bL_s (by omega) (by omega), bL_s (by omega) (by omega)]
      constructor
      · rintro ((⟨_, (q | ⟨h, h1, h2⟩)⟩ | q) | q)
        · exact ⟨c3, Or.inl q⟩
        · exact ⟨c3, Or.inr ⟨h, by omega, h2⟩⟩
        · exact ⟨c3, Or.inr ⟨k, by omega, hr, ei, Or.inl (by rw [ey, q])⟩⟩
        · exact ⟨c3, Or.inr ⟨k, by omega, hr, ei, Or.inr (by rw [ez, q])⟩⟩
      · rintro ⟨_, (q | ⟨h, h1, h2, h3, h4⟩)⟩
        · exact Or.inl (Or.inl ⟨c3, Or.inl q⟩)
        · rcases ho h h1 h2 with q1 | q1
          · exact Or.inl (Or.inl ⟨c3, Or.inr ⟨h, q1, h2, h3, h4⟩⟩)
          · rw [q1, ey, ez] at h4
            rcases h4 with h4 | h4
            · exact Or.inl (Or.inr ((nI_eq (by omega) (by omega)).mp h4).symm)
            · exact Or.inr ((nI_eq (by omega) (by omega)).mp h4).symm
    · have e1 : gB V 10 j = gB S 10 j := by
        have u1 : gB U 10 j = gB S 10 j := by
          rcases a10 with ⟨_, e⟩ | ⟨_, e⟩
          · rw [e, dB]
          · rw [e, pk_uLn ji, dB]
        rcases c10 with ⟨_, e⟩ | ⟨_, e⟩
        · rw [e, u1]
        · rw [e, pk_uLn ji, u1]
      rw [e1, old]
      constructor
      · rintro ⟨c3, (q | ⟨h, h1, h2⟩)⟩
        · exact ⟨c3, Or.inl q⟩
        · exact ⟨c3, Or.inr ⟨h, by omega, h2⟩⟩
      · rintro ⟨c3, (q | ⟨h, h1, h2, h3, h4⟩)⟩
        · exact ⟨c3, Or.inl q⟩
        · rcases ho h h1 h2 with q1 | q1
          · exact ⟨c3, Or.inr ⟨h, q1, h2, h3, h4⟩⟩
          · rw [q1, ei] at h3
            exact absurd ((nI_eq (by omega) (by omega)).mp h3).symm ji
  · rw [cA 9 (by decide) (by decide), aA 9 (by decide) (by decide)]
    have old := l9 j w hj hw
    have up : (∃ h, h < k ∧ isHd (cUr C h) ∧ xq C h = nI j ∧ hb C j h = w ∧ cUr C h = -2) → ∃ h, h < k + 3 ∧ isHd (cUr C h) ∧ xq C h = nI j ∧ hb C j h = w ∧ cUr C h = -2 := fun ⟨h, h1, h2⟩ => ⟨h, by omega, h2⟩
    by_cases ji : j = i
    · rw [ji] at old up ⊢
      rcases d9 with ⟨lo, e⟩ | ⟨lo, e⟩
      · rw [e, old]
        refine ⟨up, ?_⟩
        rintro ⟨h, h1, h2, h3, h4, h5⟩
        rcases ho h h1 h2 with q1 | q1
        · exact ⟨h, q1, h2, h3, h4, h5⟩
        · rw [q1] at h5
          exact absurd h5 lo
      · rw [e, pk_us, bI_or, Bool.or_eq_true, old, bI_s (by omega) hw]
        constructor
        · rintro (q | q)
          · exact up q
          · exact ⟨k, by omega, hr, ei, q.symm, lo⟩
        · rintro ⟨h, h1, h2, h3, h4, h5⟩
          rcases ho h h1 h2 with q1 | q1
          · exact Or.inl ⟨h, q1, h2, h3, h4, h5⟩
          · rw [q1] at h4
            exact Or.inr h4.symm
    · have e1 : gA T 9 j = gA S 9 j := by
        rcases d9 with ⟨_, e⟩ | ⟨_, e⟩
        · rw [e]
        · rw [e, pk_un ji]
      rw [e1, old]
      refine ⟨up, ?_⟩
      rintro ⟨h, h1, h2, h3, h4⟩
      rcases ho h h1 h2 with q1 | q1
      · exact ⟨h, q1, h2, h3, h4⟩
      · rw [q1, ei] at h3
        exact absurd ((nI_eq (by omega) (by omega)).mp h3).symm ji
theorem LK_0 {C : Ct} {S3 S0 : SS} (h : CC C S3 S0) : LK C 0 S0 := by
  obtain ⟨h1, h2, h3, h4, h5⟩ := h
  refine ⟨⟨h1, h2, h4⟩, fun i hi => ?_, fun q i hq => absurd hq (Nat.not_lt_zero _), fun q i hq => absurd hq (Nat.not_lt_zero _), fun i y hi hy => ?_, fun i j hi hj => ?_⟩
  · rw [(h5 i hi).1]
    unfold pc
    split <;> rfl
  · rw [(h5 i hi).2.2, bL_0]
    exact ⟨fun q => absurd q (by decide), fun ⟨_, q⟩ => by rcases q with ⟨q, q1, _⟩ | ⟨q, q1, _⟩ <;> exact absurd q1 (Nat.not_lt_zero _)⟩
  · rw [(h5 i hi).2.1, bI_0]
    exact ⟨fun q => absurd q (by decide), fun ⟨q, q1, _⟩ => absurd q1 (Nat.not_lt_zero _)⟩
/-- where the class stands among the uses -/
def LUP (C : Ct) (v : Int32) (k : Nat) (S : SS) : Prop := ((∀ h, h < k → isHd (cUr C h) → h + 2 < k) ∧ LK C k S) ∨ (∃ h i T, k = h + 1 ∧ isHd (cUr C h) ∧ xq C h = nI i ∧ i < cC C ∧ cKd C i = 1 ∧ v = nI i ∧ (∀ h', h' < h → isHd (cUr C h') → h' + 2 < h) ∧ LK C h T ∧ BD T S i (hb C i h) (cUr C h = -2)) ∨ (∃ h i y T U, k = h + 2 ∧ isHd (cUr C h) ∧ xq C h = nI i ∧ i < cC C ∧ cKd C i = 1 ∧ v = nI i ∧ (∀ h', h' < h → isHd (cUr C h') → h' + 2 < h) ∧ LK C h T ∧ BD T U i (hb C i h) (cUr C h = -2) ∧ y < cC C ∧ xq C (h + 1) = nI y ∧ AP U S i y (2 * hb C i h))
def LQ3 (C : Ct) (S3 : SS) (w : Int32 × SS × SS) : Prop := (w.1 = 0 ∧ ∃ k, k < cU C ∧ BU C k ∧ (∀ q, q < k → ¬ BU C q) ∧ w.2.1 = flS S3 4 (cUp C k)) ∨ (w.1 = 1 ∧ w.2.1 = S3 ∧ (∀ q, q < cU C → ¬ BU C q) ∧ LK C (cU C) w.2.2)
theorem p_linkUses {C : Ct} {S3 S0 : SS} (g : GB C) (tri : TRI C) (h : CC C S3 S0) (hu : cU C ≤ 667) : Pc (f_X3_linkUses S3 S0) (LQ3 C S3) := by
  obtain ⟨hc, uv, b6, h6⟩ := id g
  obtain ⟨_, _, ⟨s15, s12, s13, s14, _⟩, _⟩ := id h
  obtain ⟨tr1, tr2⟩ := tri
  have n3 : ¬ isHd (-3) := fun q => by rcases q with q | q <;> exact absurd q (by decide)
  refine Pc_I (fun v : Int32 × Int32 × SS => ∃ k, v.2.1 = nI k ∧ k ≤ cU C ∧ (∀ q, q < k → ¬ BU C q) ∧ LUP C v.1 k v.2.2) (fun v hv => ?_) _ ⟨0, rfl, Nat.zero_le _, fun q hq => absurd hq (Nat.not_lt_zero _), Or.inl ⟨fun q hq => absurd hq (Nat.not_lt_zero _), LK_0 h⟩⟩
  obtain ⟨bus, v, S⟩ := v
  obtain ⟨k, ev, hk, ok, lp⟩ : ∃ k, v = nI k ∧ k ≤ cU C ∧ (∀ q, q < k → ¬ BU C q) ∧ LUP C bus k S := hv
  subst ev
  have cl : (nI k).toNatClampNeg = k := nI_clamp (by omega)
  have cf : CF C S := by
    rcases lp with ⟨_, lk⟩ | ⟨h, i, T, _, _, _, _, _, _, _, lk, dI, dA, dB, _⟩ | ⟨h, i, y, T, U, _, _, _, _, _, _, _, lk, ⟨dI, dA, dB, _⟩, _, _, aI, aA, aB, _⟩
    · exact lk.1
    · exact CF_eq lk.1 dI (fun j hj => dA j (by omega)) (dB 2)
    · exact CF_eq (CF_eq lk.1 dI (fun j hj => dA j (by omega)) (dB 2)) aI (fun j hj => aA j (by omega) (by omega)) (aB 2 (by decide))
  obtain ⟨⟨f0, _⟩, ⟨f2, f3, f4, f5, f6⟩, f1⟩ := id cf
  refine Pc_c (fun c => Pc_s ?_) (fun c => Pc_G (fun _ => ?_))
  · rw [s15, nI_leI (by omega) (by omega)] at c
    have ek : k = cU C := by omega
    refine Or.inr ⟨rfl, rfl, fun q hq => ok q (by omega), ?_⟩
    show LK C (cU C) S
    rcases lp with ⟨_, lk⟩ | ⟨h, i, T, e, hd, _⟩ | ⟨h, i, y, T, U, e, hd, _⟩
    · rw [← ek]
      exact lk
    · have := (tr1 h (by omega) hd).1
      omega
    · have := (tr1 h (by omega) hd).1
      omega
  · rw [s15, nI_leI (by omega) (by omega)] at c
    have hk2 : k < cU C := by omega
    have eix : ix (gB S 2) (gB S3 12 (nI k).toNatClampNeg) (cC C) = xq C k := by rw [cl, f2, s12]; rfl
    refine Pc_e (e_find f0 hc _) ?_
    show Pc (zB (f_X3_isHead (gA S3 14 (nI k).toNatClampNeg)) _) _
    rw [eix, cl, s14, s13]
    have fail : BU C k → LQ3 C S3 (0, flS S3 4 (cUp C k), S) := fun q => Or.inl ⟨rfl, k, hk2, q, ok, rfl⟩
    have okk : ¬ BU C k → ∀ q, q < k + 1 → ¬ BU C q := fun z q hq => by
      rcases Nat.lt_or_ge q k with y | y
      · exact ok q y
      · have : q = k := by omega
        rw [this]
        exact z
    have m1 : xq C k = -1 ∨ ∃ i, i < cC C ∧ xq C k = nI i := by
      rcases ix_r (cNm C) (cUn C k) (cC C) with ⟨q, _⟩ | ⟨i, hi, q, _⟩
      · exact Or.inl q
      · exact Or.inr ⟨i, hi, q⟩
    by_cases hd : isHd (cUr C k)
    · -- a head
      refine Pc_e (e_isHead1 hd) (Pc_c (fun q => Pc_e rfl (Pc_G (fun _ => Pc_s (fail (Or.inl q))))) (fun q => Pc_c (fun z => absurd z ne10) (fun _ => ?_)))
      rcases m1 with q1 | ⟨i, hi, q1⟩
      · exact absurd q1 q
      rw [q1]
      have ik : Pc (f_X0_isKind S (nI i) 1) (fun r => r ≠ 0 ↔ cKd C i = 1) := by
        refine Pc_e (e_has1 f0 hc hi) (Pc_c (fun z => absurd z ne10) (fun _ => Pc_G (fun _ => ?_)))
        rw [nI_clamp (show i < 2 ^ 31 by omega), f4]
        exact Pc_c (fun z => Pc_s ⟨fun _ => z, fun _ => by decide⟩) (fun z => Pc_s ⟨fun y => absurd rfl y, fun y => absurd y z⟩)
      refine Pc_B ik (fun r hr => Pc_c (fun z => Pc_e rfl (Pc_G (fun _ => Pc_s (fail (Or.inr ⟨hd, ?_⟩))))) (fun z => Pc_c (fun z => absurd z ne10) (fun _ => ?_)))
      · rw [q1, nI_clamp (by omega)]
        exact fun y => (hr.mpr y) z
      · have kd := hr.mp z
        have lk : (∀ h, h < k → isHd (cUr C h) → h + 2 < k) ∧ LK C k S := by
          rcases lp with lk | ⟨h, i, T, e, hd2, _⟩ | ⟨h, i, y, T, U, e, hd2, _⟩
          · exact lk
          · have := (tr1 h (by omega) hd2).2.1
            rw [← e] at this
            rw [this] at hd
            exact absurd hd n3
          · have := (tr1 h (by omega) hd2).2.2
            rw [← e] at this
            rw [this] at hd
            exact absurd hd n3
        have nb : ¬ BU C k := fun y => by
          rcases y with y | y
          · exact q y
          · rw [q1, nI_clamp (by omega)] at y
            exact y.2 kd
        have p8 := lk.2.2.1 i hi
        unfold pc at p8
        rw [if_pos kd] at p8
        have b6 : hb C i k ≤ 6 := Nat.le_trans (cn_mono hk) (h6 i hi)
        refine Pc_B (P := fun w => (w ≠ 0 ↔ cUr C k = -2)) (Pc_c (fun y => Pc_s ⟨fun _ => y, fun _ => by decide⟩) (fun y => Pc_s ⟨fun u => absurd rfl u, fun u => absurd u y⟩)) (fun w hw => Pc_B (p_beginDriver f0 hc hi (by rw [f4]; exact kd) p8 (by omega) w) (fun T hT => Pc_l (Pc_s ⟨k + 1, ?_, by omega, okk nb, Or.inr (Or.inl ⟨k, i, S, rfl, hd, q1, hi, kd, rfl, lk.1, lk.2, ?_⟩)⟩)))
        · show nI k + 1 = _
          rw [nI_1]
        · obtain ⟨t1, t2, t3, t4⟩ := hT
          refine ⟨t1, t2, t3, ?_⟩
          rcases t4 with ⟨u1, u2⟩ | ⟨u1, u2⟩
          · exact Or.inl ⟨fun y => u1 (hw.mpr y), u2⟩
          · exact Or.inr ⟨hw.mp u1, u2⟩
    · -- no head
      refine Pc_e (e_isHead0 hd) (Pc_c (fun q => Pc_e rfl (Pc_G (fun _ => Pc_s (fail (Or.inl q))))) (fun q => Pc_c (fun _ => Pc_c (fun _ => ?_) (fun z => absurd rfl z)) (fun z => absurd rfl z)))
      rcases m1 with q1 | ⟨y, hy, q1⟩
      · exact absurd q1 q
      rw [q1]
      have nb : ¬ BU C k := fun z => by
        rcases z with z | z
        · exact q z
        · exact hd z.1
      rcases uv k hk2 with z | z | ⟨i, hi, z, kd⟩
      · exact absurd z hd
      · -- of a DRIVER
        refine Pc_B (P := fun w => w = bus) (Pc_c (fun _ => Pc_s rfl) (fun u => absurd z u)) (fun w hw => ?_)
        rw [hw]
        rcases lp with ⟨ph, lk⟩ | ⟨h, i, T, e, hd2, xi, hi, kd, eb, ph, lk, bd⟩ | ⟨h, i, y1, T, U, e, hd2, xi, hi, kd, eb, ph, lk, bd, hy1, ey1, ap⟩
        · obtain ⟨h, h1, h2⟩ := tr2 k hk2 z
          have := ph h (by omega) h1
          omega
        · rw [eb]
          have p8 := lk.2.1 i hi
          unfold pc at p8
          rw [if_pos kd] at p8
          have b6 : hb C i h < 6 := Nat.lt_of_lt_of_le (cn_lt (P := fun q => isHd (cUr C q) ∧ xq C q = nI i) (by omega) ⟨hd2, xi⟩) (h6 i hi)
          refine Pc_B (p_addPart f0 hc hi hy (by rw [bd.2.1 8 (by decide)]; exact p8) (by omega)) (fun V hV => Pc_l (Pc_s ⟨k + 1, ?_, by omega, okk nb, Or.inr (Or.inr ⟨h, i, y, T, S, by omega, hd2, xi, hi, kd, rfl, ph, lk, bd, hy, by rw [← e]; exact q1, hV⟩)⟩))
          show nI k + 1 = _
          rw [nI_1]
        · rw [eb]
          have b6 : hb C i h < 6 := Nat.lt_of_lt_of_le (cn_lt (P := fun q => isHd (cUr C q) ∧ xq C q = nI i) (by omega) ⟨hd2, xi⟩) (h6 i hi)
          obtain ⟨t1, t2, t3⟩ := tr1 h (by omega) hd2
          refine Pc_B (p_addPart f0 hc hi hy (m := 2 * hb C i h + 1) (by rw [ap.2.2.2.2.1, pk_us]) (by omega)) (fun V hV => Pc_l (Pc_s ⟨k + 1, ?_, by omega, okk nb, Or.inl ⟨fun h' h1 h2 => ?_, ?_⟩⟩))
          · show nI k + 1 = _
            rw [nI_1]
          · rcases Nat.lt_or_ge h' h with u | u
            · have := ph h' u h2
              omega
            · by_cases u0 : h' = h
              · omega
              · by_cases u1 : h' = h + 1
                · rw [u1, t2] at h2; exact absurd h2 n3
                · have : h' = h + 2 := by omega
                  rw [this, t3] at h2; exact absurd h2 n3
          · show LK C (k + 1) V
            rw [show k + 1 = h + 3 by omega]
            exact LK_3 g lk t1 (fun q hq => ok q (by omega)) hi hd2 t2 t3 xi kd hy1 ey1 hy (by rw [← e]; exact q1) bd ap hV
      · -- of a GATE or REGISTER
        have n33 := (nd_h (i := i) (by omega)).2
        refine Pc_B (P := fun w => w = nI i) (Pc_c (fun u => absurd u (by rw [z]; exact n33)) (fun _ => Pc_s z)) (fun w hw => ?_)
        rw [hw]
        have lk : (∀ h, h < k → isHd (cUr C h) → h + 2 < k) ∧ LK C k S := by
          rcases lp with lk | ⟨h, i', T, e, hd2, _⟩ | ⟨h, i', y, T, U, e, hd2, _⟩
          · exact lk
          · have := (tr1 h (by omega) hd2).2.1
            rw [← e, z] at this
            exact absurd this n33
          · have := (tr1 h (by omega) hd2).2.2
            rw [← e, z] at this
            exact absurd this n33
        have p8 := lk.2.2.1 i hi
        have k1 : cKd C i ≠ 1 := by rcases kd with u | u <;> rw [u] <;> decide
        unfold pc at p8
        rw [if_neg k1] at p8
        have b7 : nn C i k ≤ 6 := Nat.le_trans (cn_mono hk) (b6 i hi)
        refine Pc_B (p_addPart f0 hc hi hy p8 (by omega)) (fun V hV => Pc_l (Pc_s ⟨k + 1, ?_, by omega, okk nb, Or.inl ⟨fun h' h1 h2 => ?_, LK_1 g lk.2 hk2 ok hi z kd hy q1 hV⟩⟩))
        · show nI k + 1 = _
          rw [nI_1]
        · rcases Nat.lt_or_ge h' k with u | u
          · have := lk.1 h' u h2
            omega
          · have : h' = k := by omega
            rw [this] at h2
            exact absurd h2 hd
