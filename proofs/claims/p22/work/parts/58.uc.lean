/-! the reference resolves uses -/
theorem rw7_h {b : Nat} {C : Ct} (hb1 : b ≤ 1) (g : GB C) {k : Nat} (hk : k < cU C) (hu : cU C ≤ 667) : rw7 b C k = -1 ↔ isHd (cUr C k) := by
  obtain ⟨hc, uv, _, _⟩ := g
  unfold rw7
  by_cases q : isHd (cUr C k)
  · rw [if_pos q]
    exact ⟨fun _ => q, fun _ => rfl⟩
  · rw [if_neg q]
    refine ⟨fun z => ?_, fun z => absurd z q⟩
    by_cases q3 : cUr C k = -3
    · rw [if_pos q3] at z
      exact absurd z (by decide)
    · rw [if_neg q3] at z
      rcases uv k hk with y | y | ⟨i, hi, y, _⟩
      · exact absurd y q
      · exact absurd y q3
      · rw [y, nI_clamp (by omega)] at z
        have l := cn_le (P := fun j => cUr C j = nI i) k
        exact absurd (Or.inl z) (nd_h (i := 12 * (60 * b + i) + cn (fun j => cUr C j = nI i) k) (by omega)).1
theorem rw7_n {b : Nat} {C : Ct} {k i : Nat} (hi : i < 60) (h : cUr C k = nI i) : rw7 b C k = nI (12 * (60 * b + i) + nn C i k) := by
  unfold rw7
  obtain ⟨n1, n2⟩ := nd_h (i := i) (by omega)
  rw [h, if_neg n1, if_neg n2, nI_clamp (by omega)]
  rfl
theorem e_newX {b : Nat} {C : Ct} {X : SS} (no : NO b C X) {Y : SS} (h26 : gI Y 26 = gI X 26) (h30 : gI Y 30 = gI X 30) (h11 : gB Y 11 = gB X 11) (w : Int64) : f_X7_newOf Y w = some (ix (cNm C) w (cC C)) := by
  obtain ⟨⟨a1, a2⟩, ⟨a3, a4⟩, a5⟩ := no
  rw [e_newOf (h26.trans a3) a4 (h30.trans a1) a2 w, h11]
  exact congrArg some (ix_c (fun i hi => (a5 i hi).1))
theorem p_resolve_2 {b : Nat} {C : Ct} {X : SS} (ln : LN b C X (cC C)) (g : GB C) (hu : cU C ≤ 667) (x4 : gI X 4 = 0) : Pc (zI b_X7_resolve_2 zF ((0 : Int32), X)) (fun Y => (∃ k, k < cU C ∧ BU C k ∧ (∀ q, q < k → ¬ BU C q) ∧ gI Y 4 = 4 ∧ gI Y 5 = cUp C k ∧ FF X Y) ∨ (Y = X ∧ ∀ q, q < cU C → ¬ BU C q)) := by
  obtain ⟨no, ⟨x27, us⟩, _⟩ := id ln
  have hc := g.1
  obtain ⟨⟨x30, hb1⟩, _, no3⟩ := id no
  refine Pc_I (fun v : Int32 × SS => (∃ k, k < cU C ∧ BU C k ∧ (∀ q, q < k → ¬ BU C q) ∧ gI v.2 4 = 4 ∧ gI v.2 5 = cUp C k ∧ FF X v.2) ∨ (v.2 = X ∧ ∃ k, v.1 = nI k ∧ k ≤ cU C ∧ ∀ q, q < k → ¬ BU C q)) (fun v hv => ?_) _ (Or.inr ⟨rfl, 0, rfl, Nat.zero_le _, fun q hq => absurd hq (Nat.not_lt_zero _)⟩)
  obtain ⟨v, Y⟩ := v
  have hv : (∃ k, k < cU C ∧ BU C k ∧ (∀ q, q < k → ¬ BU C q) ∧ gI Y 4 = 4 ∧ gI Y 5 = cUp C k ∧ FF X Y) ∨ (Y = X ∧ ∃ k, v = nI k ∧ k ≤ cU C ∧ ∀ q, q < k → ¬ BU C q) := hv
  rcases hv with hv | ⟨eY, k, ev, hk, ok⟩
  · have y4 : gI Y 4 ≠ 0 := by
      obtain ⟨_, _, _, _, z, _⟩ := hv
      rw [z]; decide
    exact Pc_c (fun _ => Pc_s (Or.inl hv)) (fun _ => Pc_e (e_isGood0 y4) (Pc_c (fun _ => Pc_s (Or.inl hv)) (fun y => absurd rfl y)))
  · subst eY ev
    have cl : (nI k).toNatClampNeg = k := nI_clamp (by omega)
    refine Pc_c (fun c => Pc_s (Or.inr ⟨rfl, fun q hq => ok q ?_⟩)) (fun c => Pc_e (e_isGood1 x4) (Pc_c (fun y => absurd y ne10) (fun _ => Pc_G (fun _ => Pc_e (e_newX no rfl rfl rfl _) ?_))))
    · rw [x27, nI_leI (by omega) (by omega)] at c
      omega
    · rw [x27, nI_leI (by omega) (by omega)] at c
      have hk2 : k < cU C := by omega
      obtain ⟨u1, u2, u3⟩ := us k hk2
      have ex : ix (cNm C) (gB Y 20 (nI k).toNatClampNeg) (cC C) = xq C k := by rw [cl, u1]; rfl
      show Pc (if ix (cNm C) (gB Y 20 (nI k).toNatClampNeg) (cC C) < 0 then _ else _) _
      rw [ex]
      have bad : BU C k → Pc (zB (f_X7_fails Y (4 : Int32) (gA Y 21 (nI k).toNatClampNeg)) (fun (s7_101 : SS) => zL (nI k + 1) (fun v105 => some (Sum.inl (v105, s7_101) : (Int32 × SS) ⊕ SS)))) (PcI (fun v : Int32 × SS => (∃ k, k < cU C ∧ BU C k ∧ (∀ q, q < k → ¬ BU C q) ∧ gI v.2 4 = 4 ∧ gI v.2 5 = cUp C k ∧ FF Y v.2) ∨ (v.2 = Y ∧ ∃ k, v.1 = nI k ∧ k ≤ cU C ∧ ∀ q, q < k → ¬ BU C q)) (fun Z => (∃ k, k < cU C ∧ BU C k ∧ (∀ q, q < k → ¬ BU C q) ∧ gI Z 4 = 4 ∧ gI Z 5 = cUp C k ∧ FF Y Z) ∨ (Z = Y ∧ ∀ q, q < cU C → ¬ BU C q))) := fun q => Pc_e (e_fails x4 4 _) (Pc_l (Pc_s (Or.inl ⟨k, hk2, q, ok, by rw [gI_ne (by decide), gI_eq], by rw [gI_eq, cl, u2], rfl, fun j j1 j2 => by rw [gI_ne j2, gI_ne j1]⟩)))
      have good : ¬ BU C k → ∃ k', nI k + 1 = nI k' ∧ k' ≤ cU C ∧ ∀ q, q < k' → ¬ BU C q := fun z => ⟨k + 1, by rw [nI_1], by omega, fun q hq => by
        rcases Nat.lt_or_ge q k with y | y
        · exact ok q y
        · have : q = k := by omega
          rw [this]
          exact z⟩
      rcases ix_r (cNm C) (cUn C k) (cC C) with ⟨q, _⟩ | ⟨i, hi, q, _⟩
      · have q : xq C k = -1 := q
        exact Pc_c (fun _ => bad (Or.inl q)) (fun y => absurd (by rw [q]; decide) y)
      · have q : xq C k = nI i := q
        have nx : xq C k ≠ -1 := fun z => (nd_h (i := i) (by omega)).1 (Or.inl (q.symm.trans z))
        rw [q]
        have m : (60 : Int32) * gI Y 30 + nI i = nI (60 * b + i) := by rw [x30, i60 hb1]
        refine Pc_c (fun y => absurd y (nI_pos (by omega))) (fun _ => Pc_c (fun y => Pc_G (fun _ => ?_)) (fun y => Pc_l (Pc_s (Or.inr ⟨rfl, good (fun z => ?_)⟩))))
        · rw [cl, u3, rw7_h hb1 g hk2 hu] at y
          rw [m, nI_clamp (by omega), (no3 i hi).2.1]
          refine Pc_c (fun z => Pc_l (Pc_s (Or.inr ⟨rfl, good (fun w => ?_)⟩))) (fun z => bad (Or.inr ⟨y, ?_⟩))
          · rcases w with w | w
            · exact nx w
            · rw [q, nI_clamp (by omega)] at w
              exact w.2 z
          · rw [q, nI_clamp (by omega)]
            exact z
        · rw [cl, u3, rw7_h hb1 g hk2 hu] at y
          rcases z with w | w
          · exact nx w
          · exact y w.1
theorem p_isOfDriver {b : Nat} {C : Ct} {X : SS} (ln : LN b C X (cC C)) (tri : TRI C) (hu : cU C ≤ 667) {Y : SS} (h28 : gI Y 28 = gI X 28) (h24 : gA Y 24 = gA X 24) {k : Nat} (hk : k < cU C) : Pc (f_X7_isOfDriver Y (nI k)) (fun r => r ≠ 0 ↔ cUr C k = -3) := by
  obtain ⟨_, _, _, _, ⟨x28, dv⟩, _⟩ := ln
  have hD : nh C (cU C) ≤ cU C := cn_le _
  have key : (∃ d, d < nh C (cU C) ∧ (nI k = gA X 24 d + 1 ∨ nI k = gA X 24 d + 2)) ↔ cUr C k = -3 := by
    constructor
    · rintro ⟨d, d1, d2⟩
      obtain ⟨h, h1, h2, h3⟩ := cn_surj (P := fun j => isHd (cUr C j)) d1
      have e : gA X 24 d = nI h := by
        rw [← h3]
        exact (dv h h1 h2).2.1
      obtain ⟨t1, t2, t3⟩ := tri.1 h h1 h2
      rw [e, nI_1, show (2 : Int32) = nI 2 from rfl, nI_add] at d2
      rcases d2 with d2 | d2
      · rw [(nI_eq (by omega) (by omega)).mp d2]; exact t2
      · rw [(nI_eq (by omega) (by omega)).mp d2]; exact t3
    · intro q
      obtain ⟨h, h1, h2⟩ := tri.2 k hk q
      have hh : h < cU C := by omega
      refine ⟨nh C h, cn_lt (P := fun j => isHd (cUr C j)) hh h1, ?_⟩
      rw [(dv h hh h1).2.1, nI_1, show (2 : Int32) = nI 2 from rfl, nI_add]
      rcases h2 with h2 | h2
      · exact Or.inl (by rw [h2])
      · exact Or.inr (by rw [h2])
  refine Pc_w (Q := fun r => r ≠ 0 ↔ ∃ d, d < nh C (cU C) ∧ (nI k = gA X 24 d + 1 ∨ nI k = gA X 24 d + 2)) ?_ (fun r hr => hr.trans key)
  refine Pc_I (fun v : Int32 × Int32 => ∃ d, v.2 = nI d ∧ d ≤ nh C (cU C) ∧ (v.1 ≠ 0 ↔ ∃ e, e < d ∧ (nI k = gA X 24 e + 1 ∨ nI k = gA X 24 e + 2))) (fun v hv => ?_) _ ⟨0, rfl, Nat.zero_le _, fun q => absurd rfl q, fun ⟨e, h, _⟩ => absurd h (Nat.not_lt_zero _)⟩
  obtain ⟨r, v⟩ := v
  obtain ⟨d, ev, hd, hr⟩ : ∃ d, v = nI d ∧ d ≤ nh C (cU C) ∧ (r ≠ 0 ↔ ∃ e, e < d ∧ (nI k = gA X 24 e + 1 ∨ nI k = gA X 24 e + 2)) := hv
  subst ev
  have cl : (nI d).toNatClampNeg = d := nI_clamp (by omega)
  refine Pc_c (fun c => Pc_G (fun _ => Pc_s ?_)) (fun c => ?_)
  · rw [h28, x28, nI_leI (by omega) (by omega)] at c
    have : d = nh C (cU C) := by omega
    rw [this] at hr
    exact hr
  · rw [h28, x28, nI_leI (by omega) (by omega)] at c
    have up : (∃ e, e < d + 1 ∧ (nI k = gA X 24 e + 1 ∨ nI k = gA X 24 e + 2)) ↔ (∃ e, e < d ∧ (nI k = gA X 24 e + 1 ∨ nI k = gA X 24 e + 2)) ∨ (nI k = gA X 24 d + 1 ∨ nI k = gA X 24 d + 2) := by
      constructor
      · rintro ⟨e, e1, e2⟩
        rcases Nat.lt_or_ge e d with z | z
        · exact Or.inl ⟨e, z, e2⟩
        · have : e = d := by omega
          rw [this] at e2
          exact Or.inr e2
      · rintro (⟨e, e1, e2⟩ | e2)
        · exact ⟨e, by omega, e2⟩
        · exact ⟨d, by omega, e2⟩
    refine Pc_c (fun q => Pc_G (fun _ => ?_)) (fun q => Pc_l (Pc_s ⟨d + 1, ?_, by omega, ?_⟩))
    · rw [cl, h24]
      refine Pc_c (fun z => Pc_l (Pc_s ⟨d + 1, ?_, by omega, ?_⟩)) (fun z => Pc_c (fun z2 => Pc_l (Pc_s ⟨d + 1, ?_, by omega, ?_⟩)) (fun z2 => Pc_l (Pc_s ⟨d + 1, ?_, by omega, ?_⟩)))
      · show nI d + 1 = _
        rw [nI_1]
      · rw [up]
        exact ⟨fun _ => Or.inr (Or.inl z), fun _ => ne10⟩
      · show nI d + 1 = _
        rw [nI_1]
      · rw [up]
        exact ⟨fun _ => Or.inr (Or.inr z2), fun _ => ne10⟩
      · show nI d + 1 = _
        rw [nI_1]
      · rw [up]
        refine ⟨fun w => absurd rfl w, fun w => ?_⟩
        rcases w with w | w | w
        · exact absurd q (hr.mpr w)
        · exact absurd w z
        · exact absurd w z2
    · show nI d + 1 = _
      rw [nI_1]
    · rw [up]
      exact ⟨fun _ => Or.inl (hr.mp q), fun _ => ne10⟩
/-- all but rows 14, 16, 19 is as it was -/
def F3 (X Y : SS) : Prop := (∀ k, gI Y k = gI X k) ∧ (∀ k, k ≠ 14 → k ≠ 16 → k ≠ 19 → gA Y k = gA X k) ∧ ∀ k, gB Y k = gB X k
/-- and of those the other bank's places -/
def FB (b : Nat) (X Y : SS) : Prop := (∀ j, (j < 60 * b ∨ 60 * b + 60 ≤ j) → gA Y 14 j = gA X 14 j) ∧ (∀ j, (j < 720 * b ∨ 720 * b + 720 ≤ j) → gA Y 16 j = gA X 16 j) ∧ ∀ j, (j < 360 * b ∨ 360 * b + 360 ≤ j) → gA Y 19 j = gA X 19 j
def R16 (b : Nat) (C : Ct) (k : Nat) (Y : SS) : Prop := ∀ q i, q < k → i < cC C → cUr C q = nI i → gA Y 16 (12 * (60 * b + i) + nn C i q) = xq C q
theorem p_resolve_87 {b : Nat} {C : Ct} {X : SS} (ln : LN b C X (cC C)) (tri : TRI C) (g : GB C) (hu : cU C ≤ 667) (ok : ∀ q, q < cU C → ¬ BU C q) : Pc (zI b_X7_resolve_87 zF ((0 : Int32), X)) (fun Y => F3 X Y ∧ gA Y 14 = gA X 14 ∧ R16 b C (cU C) Y ∧ FB b X Y) := by
  obtain ⟨no, ⟨x27, us⟩, uv, _⟩ := id ln
  obtain ⟨hc, _, b6, h6⟩ := id g
  obtain ⟨⟨x30, hb1⟩, _, no3⟩ := id no
  refine Pc_I (fun v : Int32 × SS => F3 X v.2 ∧ gA v.2 14 = gA X 14 ∧ ∃ k, v.1 = nI k ∧ k ≤ cU C ∧ R16 b C k v.2 ∧ FB b X v.2) (fun v hv => ?_) _ ⟨⟨fun _ => rfl, fun _ _ _ _ => rfl, fun _ => rfl⟩, rfl, 0, rfl, Nat.zero_le _, fun q i hq => absurd hq (Nat.not_lt_zero _), fun _ _ => rfl, fun _ _ => rfl, fun _ _ => rfl⟩
  obtain ⟨v, Y⟩ := v
  obtain ⟨⟨fI, fA, fB⟩, y14, k, ev, hk, rr, fb⟩ : F3 X Y ∧ gA Y 14 = gA X 14 ∧ ∃ k, v = nI k ∧ k ≤ cU C ∧ R16 b C k Y ∧ FB b X Y := hv
  subst ev
  have cl : (nI k).toNatClampNeg = k := nI_clamp (by omega)
  have n1 : nI k + 1 = nI (k + 1) := nI_1 k
  refine Pc_c (fun c => Pc_s ?_) (fun c => Pc_G (fun _ => ?_))
  · rw [fI, x27, nI_leI (by omega) (by omega)] at c
    have : k = cU C := by omega
    rw [this] at rr
    exact ⟨⟨fI, fA, fB⟩, y14, rr, fb⟩
  · rw [fI, x27, nI_leI (by omega) (by omega)] at c
    have hk2 : k < cU C := by omega
    obtain ⟨u1, u2, u3⟩ := us k hk2
    rw [cl, fA 22 (by decide) (by decide) (by decide), u3, fB, u1]
    have skip : (∀ i, i < cC C → cUr C k ≠ nI i) → R16 b C (k + 1) Y := fun z q i hq hi e => by
      rcases Nat.lt_or_ge q k with y | y
      · exact rr q i y hi e
      · have : q = k := by omega
        rw [this] at e
        exact absurd e (z i hi)
    refine Pc_c (fun q => Pc_l (Pc_s ⟨⟨fI, fA, fB⟩, y14, k + 1, n1, by omega, skip (fun i hi e => ?_), fb⟩)) (fun q => Pc_B (p_isOfDriver ln tri hu (fI 28) (fA 24 (by decide) (by decide) (by decide)) hk2) (fun r hr => Pc_c (fun c2 => ?_) (fun c2 => Pc_l (Pc_s ⟨⟨fI, fA, fB⟩, y14, k + 1, n1, by omega, skip (fun i hi e => ?_), fb⟩))))
    · rw [rw7_h hb1 g hk2 hu, e] at q
      exact (nd_h (by omega)).1 q
    · rw [rw7_h hb1 g hk2 hu] at q
      have n3 : cUr C k ≠ -3 := fun y => (hr.mpr y) c2
      rcases uv k hk2 with y | y | ⟨i, hi, y, _⟩
      · exact absurd y q
      · exact absurd y n3
      · rw [rw7_n (by omega) y]
        refine Pc_e (e_newX no (fI 26) (fI 30) (fB 11) _) (Pc_G (fun _ => Pc_l (Pc_l (Pc_s ⟨⟨fI, fun j j1 j2 j3 => ?_, fB⟩, ?_, k + 1, n1, by omega, fun q j hq hj e => ?_, fun j hj => ?_, fun j hj => ?_, fun j hj => ?_⟩))))
        · rw [gA_ne j2]; exact fA j j1 j2 j3
        · rw [gA_ne (by decide)]; exact y14
        · have nb : ∀ j q, j < cC C → q ≤ cU C → nn C j q ≤ 6 := fun j q hj hq => Nat.le_trans (cn_mono hq) (b6 j hj)
          have w2 := nb i k hi (by omega)
          rw [gA_eq, nI_clamp (by omega)]
          rcases Nat.lt_or_ge q k with z | z
          · have w1 := nb j q hj (by omega)
            have ne : 12 * (60 * b + j) + nn C j q ≠ 12 * (60 * b + i) + nn C i k := by
              by_cases ji : j = i
              · rw [ji] at e ⊢
                have : nn C i q < nn C i k := cn_lt (P := fun q => cUr C q = nI i) z e
                omega
              · omega
            rw [pk_un ne]
            exact rr q j z hj e
          · have : q = k := by omega
            rw [this] at e ⊢
            rw [y] at e
            have : i = j := (nI_eq (by omega) (by omega)).mp e
            rw [← this, pk_us]
            rfl
        · rw [gA_ne (by decide)]; exact fb.1 j hj
        · have w2 : nn C i k ≤ 6 := Nat.le_trans (cn_mono (by omega)) (b6 i hi)
          rw [gA_eq, nI_clamp (by omega), pk_un (by omega)]
          exact fb.2.1 j hj
        · rw [gA_ne (by decide)]; exact fb.2.2 j hj
    · have := hr.mp c2
      rw [e] at this
      exact (nd_h (by omega)).2 this
/-- how many of the first d DRIVERS are of BUS i -/
noncomputable def hq (C : Ct) (X : SS) (i d : Nat) : Nat := cn (fun e => ix (cNm C) (gB X 23 e) (cC C) = nI i) d
theorem hq_hb {C : Ct} {X : SS} (h : DV C X) (i : Nat) : ∀ k, k ≤ cU C → hq C X i (nh C k) = hb C i k := by
  intro k
  induction k with
  | zero => intro _; rfl
  | succ k ih =>
    intro hk
    have e := ih (by omega)
    by_cases q : isHd (cUr C k)
    · have en : nh C (k + 1) = nh C k + 1 := cn_y q
      have d := (h.2 k (by omega) q).1
      rw [en]
      by_cases r : xq C k = nI i
      · rw [show hb C i (k + 1) = hb C i k + 1 from cn_y ⟨q, r⟩, ← e]
        exact cn_y (by show ix (cNm C) (gB X 23 (nh C k)) (cC C) = nI i; rw [d]; exact r)
      · rw [show hb C i (k + 1) = hb C i k from cn_n (fun y => r y.2), ← e]
        exact cn_n (by show ¬ ix (cNm C) (gB X 23 (nh C k)) (cC C) = nI i; rw [d]; exact r)
    · have en : nh C (k + 1) = nh C k := cn_n q
      rw [en, show hb C i (k + 1) = hb C i k from cn_n (fun y => q y.1), e]
def RD (b : Nat) (C : Ct) (d : Nat) (Y : SS) : Prop := ∀ h i, h < cU C → nh C h < d → i < cC C → isHd (cUr C h) → xq C h = nI i → gA Y 16 (12 * (60 * b + i) + 2 * hb C i h) = xq C (h + 1) ∧ gA Y 16 (12 * (60 * b + i) + (2 * hb C i h + 1)) = xq C (h + 2) ∧ gA Y 19 (6 * (60 * b + i) + hb C i h) = (if cUr C h = -1 then 1 else 0)
/-- what the reference holds once all uses are resolved -/
def RK (b : Nat) (C : Ct) (Y : SS) : Prop := (∀ i, i < cC C → gA Y 14 (60 * b + i) = nI (if cKd C i = 1 then hb C i (cU C) else nn C i (cU C))) ∧ R16 b C (cU C) Y ∧ RD b C (nh C (cU C)) Y
theorem i12d (n m : Nat) : (12 : Int32) * nI n + (2 : Int32) * nI m = nI (12 * n + 2 * m) := by
  rw [show (12 : Int32) = nI 12 from rfl, show (2 : Int32) = nI 2 from rfl, pk_mul, pk_mul, nI_add]
theorem i6 (n m : Nat) : (6 : Int32) * nI n + nI m = nI (6 * n + m) := by
  rw [show (6 : Int32) = nI 6 from rfl, pk_mul, nI_add]
