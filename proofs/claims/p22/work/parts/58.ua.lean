/-! bits -/
def bL (x : Int64) (i : Nat) : Bool := x.toBitVec.getLsbD i
def bI (x : Int32) (i : Nat) : Bool := x.toBitVec.getLsbD i
theorem bL_or (x y : Int64) (i : Nat) : bL (x ||| y) i = (bL x i || bL y i) := by unfold bL; rw [Int64.toBitVec_or, BitVec.getLsbD_or]
theorem bI_or (x y : Int32) (i : Nat) : bI (x ||| y) i = (bI x i || bI y i) := by unfold bI; rw [Int32.toBitVec_or, BitVec.getLsbD_or]
theorem bL_0 (i : Nat) : bL 0 i = false := BitVec.getLsbD_zero
theorem bI_0 (i : Nat) : bI 0 i = false := BitVec.getLsbD_zero
theorem bL_1 : ∀ y : Fin 64, ∀ z : Fin 64, bL (jLs 1 (nI y.val)) z.val = decide (z.val = y.val) := by decide +kernel
theorem bI_1 : ∀ y : Fin 16, ∀ z : Fin 32, bI ((1 : Int32) <<< (nI y.val &&& 31)) z.val = decide (z.val = y.val) := by decide +kernel
theorem bL_s {y z : Nat} (hy : y < 64) (hz : z < 64) : bL (jLs 1 (nI y)) z = true ↔ z = y := by
  have := bL_1 ⟨y, hy⟩ ⟨z, hz⟩
  rw [show bL (jLs 1 (nI y)) z = decide (z = y) from this]
  exact decide_eq_true_iff
theorem bI_s {y z : Nat} (hy : y < 16) (hz : z < 32) : bI ((1 : Int32) <<< (nI y &&& 31)) z = true ↔ z = y := by
  have := bI_1 ⟨y, hy⟩ ⟨z, hz⟩
  rw [show bI ((1 : Int32) <<< (nI y &&& 31)) z = decide (z = y) from this]
  exact decide_eq_true_iff
/-! what a use stands for -/
def xq (C : Ct) (q : Nat) : Int32 := ix (cNm C) (cUn C q) (cC C)
def BU (C : Ct) (k : Nat) : Prop := xq C k = -1 ∨ (isHd (cUr C k) ∧ cKd C (xq C k).toNatClampNeg ≠ 1)
theorem BU_no {C : Ct} {k : Nat} (h : ¬ BU C k) (hc : cC C ≤ 60) : ∃ i, i < cC C ∧ xq C k = nI i ∧ (isHd (cUr C k) → cKd C i = 1) := by
  rcases ix_r (cNm C) (cUn C k) (cC C) with ⟨q, _⟩ | ⟨i, hi, q, _⟩
  · exact absurd (Or.inl q) h
  · refine ⟨i, hi, q, fun hd => Classical.byContradiction (fun z => h (Or.inr ⟨hd, ?_⟩))⟩
    show cKd C (ix (cNm C) (cUn C k) (cC C)).toNatClampNeg ≠ 1
    rw [q, nI_clamp (by omega)]
    exact z
noncomputable def nn (C : Ct) (i k : Nat) : Nat := cn (fun q => cUr C q = nI i) k
noncomputable def hb (C : Ct) (i k : Nat) : Nat := cn (fun q => isHd (cUr C q) ∧ xq C q = nI i) k
noncomputable def pc (C : Ct) (i k : Nat) : Nat := if cKd C i = 1 then 2 * hb C i k else nn C i k
theorem cn_imp {P Q : Nat → Prop} : ∀ {k : Nat}, (∀ i, i < k → P i → Q i) → cn P k ≤ cn Q k := by
  intro k
  induction k with
  | zero => intro _; exact Nat.le_refl _
  | succ k ih =>
    intro h
    have e := ih (fun i a => h i (by omega))
    by_cases q : P k
    · rw [cn_y q, cn_y (h k (by omega) q)]; omega
    · rw [cn_n q]
      exact Nat.le_trans e (cn_mono (by omega))
theorem cn_surj {P : Nat → Prop} : ∀ {k j : Nat}, j < cn P k → ∃ q, q < k ∧ P q ∧ cn P q = j := by
  intro k
  induction k with
  | zero => intro j h; exact absurd h (Nat.not_lt_zero _)
  | succ k ih =>
    intro j h
    by_cases q : P k
    · rw [cn_y q] at h
      rcases Nat.lt_or_ge j (cn P k) with z | z
      · obtain ⟨r, r1, r2⟩ := ih z
        exact ⟨r, by omega, r2⟩
      · exact ⟨k, by omega, q, by omega⟩
    · rw [cn_n q] at h
      obtain ⟨r, r1, r2⟩ := ih h
      exact ⟨r, by omega, r2⟩
/-- no NODE has too many -/
def GB (C : Ct) : Prop := cC C ≤ 60 ∧ UV C ∧ (∀ i, i < cC C → nn C i (cU C) ≤ 6) ∧ ∀ i, i < cC C → hb C i (cU C) ≤ 6
theorem hb_le {C : Ct} (h : LH C) (hc : cC C ≤ 60) {i : Nat} (hi : i < cC C) : hb C i (cU C) ≤ 6 := by
  refine Nat.le_trans (cn_imp (Q := fun k => isHd (cUr C k) ∧ cUn C k = cNm C i) (fun q _ z => ⟨z.1, ?_⟩)) (h (cNm C i))
  rcases ix_r (cNm C) (cUn C q) (cC C) with ⟨y, _⟩ | ⟨j, hj, y, y2⟩
  · have z2 : ix (cNm C) (cUn C q) (cC C) = nI i := z.2
    rw [y] at z2
    exact absurd z2.symm (fun w => (nd_h (i := i) (by omega)).1 (Or.inl w))
  · have z2 : ix (cNm C) (cUn C q) (cC C) = nI i := z.2
    rw [y] at z2
    have : j = i := (nI_eq (by omega) (by omega)).mp z2
    rw [← this]
    exact y2.symm
theorem GB_LN {b : Nat} {C : Ct} {X : SS} (h : LN b C X (cC C)) : GB C := by
  obtain ⟨⟨_, ⟨_, hc⟩, _⟩, _, uv, _, _, lh, fi, kd⟩ := h
  refine ⟨hc, uv, fun i hi => ?_, fun i hi => hb_le lh hc hi⟩
  obtain ⟨f2, f3⟩ := fi i hi
  rcases kd i hi with q | q | q | q
  · rw [show nn C i (cU C) = 0 from cn_0 (fun k hk z => ?_)]
    · omega
    · rcases uv k hk with y | y | ⟨j, hj, y, y2⟩
      · rw [z] at y; exact (nd_h (by omega)).1 y
      · rw [z] at y; exact (nd_h (by omega)).2 y
      · rw [z] at y
        have : i = j := (nI_eq (by omega) (by omega)).mp y
        rw [← this, q] at y2
        rcases y2 with w | w <;> exact absurd w (by decide)
  · rw [show nn C i (cU C) = 0 from cn_0 (fun k hk z => ?_)]
    · omega
    · rcases uv k hk with y | y | ⟨j, hj, y, y2⟩
      · rw [z] at y; exact (nd_h (by omega)).1 y
      · rw [z] at y; exact (nd_h (by omega)).2 y
      · rw [z] at y
        have : i = j := (nI_eq (by omega) (by omega)).mp y
        rw [← this, q] at y2
        rcases y2 with w | w <;> exact absurd w (by decide)
  · obtain ⟨_, g1, _, g3⟩ := f2 q
    have m6 : ∀ j : Fin 9, (sm_f j.val).toInt ≤ 6 := by decide
    have e : (cGt C i).toNatClampNeg < 9 := by
      have := ti_nat g1.1
      have := g1.2
      omega
    have : (sm_f (cGt C i).toNatClampNeg).toInt ≤ 6 := m6 ⟨_, e⟩
    show nu C i ≤ 6
    omega
  · have := (f3 q).2
    show nu C i ≤ 6
    omega
/-! the class links uses -/
def CF (C : Ct) (S : SS) : Prop := (gI S 0 = nI (cC C) ∧ cC C ≤ 60) ∧ (gB S 2 = cNm C ∧ gA S 3 = cPl C ∧ gA S 4 = cKd C ∧ gA S 5 = cGt C ∧ gA S 6 = cDl C) ∧ gI S 1 = nI (cn (fun i => cKd C i = 3) (cC C))
def LK (C : Ct) (k : Nat) (S : SS) : Prop := CF C S ∧ (∀ i, i < cC C → gA S 8 i = nI (pc C i k)) ∧ (∀ q i, q < k → i < cC C → cUr C q = nI i → gA S 7 (12 * i + nn C i q) = xq C q) ∧ (∀ h i, h < k → i < cC C → isHd (cUr C h) → xq C h = nI i → gA S 7 (12 * i + 2 * hb C i h) = xq C (h + 1) ∧ gA S 7 (12 * i + (2 * hb C i h + 1)) = xq C (h + 2)) ∧ (∀ i y, i < cC C → y < 64 → (bL (gB S 10 i) y = true ↔ cKd C i ≠ 3 ∧ ((∃ q, q < k ∧ cUr C q = nI i ∧ xq C q = nI y) ∨ ∃ h, h < k ∧ isHd (cUr C h) ∧ xq C h = nI i ∧ (xq C (h + 1) = nI y ∨ xq C (h + 2) = nI y)))) ∧ ∀ i j, i < cC C → j < 32 → (bI (gA S 9 i) j = true ↔ ∃ h, h < k ∧ isHd (cUr C h) ∧ xq C h = nI i ∧ hb C i h = j ∧ cUr C h = -2)
def AP (S T : SS) (i y m : Nat) : Prop := (∀ k, gI T k = gI S k) ∧ (∀ k, k ≠ 7 → k ≠ 8 → gA T k = gA S k) ∧ (∀ k, k ≠ 10 → gB T k = gB S k) ∧ gA T 7 = upd (gA S 7) (12 * i + m) (nI y) ∧ gA T 8 = upd (gA S 8) i (nI (m + 1)) ∧ ((gA S 4 i = 3 ∧ gB T 10 = gB S 10) ∨ (gA S 4 i ≠ 3 ∧ gB T 10 = vp_updL (gB S 10) i (gB S 10 i ||| jLs 1 (nI y))))
def BD (S T : SS) (i m : Nat) (lo : Prop) : Prop := (∀ k, gI T k = gI S k) ∧ (∀ k, k ≠ 9 → gA T k = gA S k) ∧ (∀ k, gB T k = gB S k) ∧ ((¬ lo ∧ gA T 9 = gA S 9) ∨ (lo ∧ gA T 9 = upd (gA S 9) i (gA S 9 i ||| ((1 : Int32) <<< (nI m &&& 31)))))
theorem gB_eq {S : SS} {k : Nat} {f : Nat → Int64} : gB (sB S k f) k = f := by rw [gB_sB, if_pos rfl]
theorem gB_ne {S : SS} {k j : Nat} {f : Nat → Int64} (h : j ≠ k) : gB (sB S k f) j = gB S j := by rw [gB_sB, if_neg h]
theorem p_addPart {S : SS} {c i y m : Nat} (h0 : gI S 0 = nI c) (hc : c ≤ 60) (hi : i < c) (hy : y < c) (h8 : gA S 8 i = nI m) (hm : m < 12) : Pc (f_X0_addPart S (nI i) (nI y)) (fun T => AP S T i y m) := by
  have m5 : (nI i).toNatClampNeg = i := nI_clamp (by omega)
  have ex : ((nI i * (12 : Int32)) + gA S 8 (nI i).toNatClampNeg).toNatClampNeg = 12 * i + m := by
    rw [m5, h8, show (12 : Int32) = nI 12 from rfl, pk_mul, nI_add, nI_clamp (by omega)]
    omega
  refine Pc_e (e_has1 h0 hc hi) (Pc_c (fun q => absurd q ne10) (fun _ => Pc_e (e_has1 h0 hc hy) (Pc_c (fun q => absurd q ne10) (fun _ => Pc_G (fun _ => Pc_c (fun _ => Pc_G (fun _ => Pc_l (Pc_L (fun T eT => Pc_c (fun c => Pc_s ?_) (fun c => Pc_l (Pc_s ?_)))))) (fun q => absurd ?_ q))))))
  · rw [m5] at c
    have c4 : gA S 4 i = 3 := by
      rw [eT, gA_ne (by decide), gA_ne (by decide)] at c
      exact c
    refine ⟨fun k => by rw [eT]; rfl, fun k k7 k8 => by rw [eT, gA_ne k8, gA_ne k7], fun k _ => by rw [eT]; rfl, ?_, ?_, Or.inl ⟨c4, by rw [eT]; rfl⟩⟩
    · rw [eT, gA_ne (by decide), gA_eq, ex]
    · rw [eT, gA_eq, gA_ne (by decide), m5, h8, nI_1]
  · rw [m5] at c
    have c4 : gA S 4 i ≠ 3 := by
      rw [eT, gA_ne (by decide), gA_ne (by decide)] at c
      exact c
    refine ⟨fun k => by rw [eT]; rfl, fun k k7 k8 => by rw [gA_sB, eT, gA_ne k8, gA_ne k7], fun k k10 => by rw [gB_ne k10, eT]; rfl, ?_, ?_, Or.inr ⟨c4, ?_⟩⟩
    · rw [gA_sB, eT, gA_ne (by decide), gA_eq, ex]
    · rw [gA_sB, eT, gA_eq, gA_ne (by decide), m5, h8, nI_1]
    · rw [gB_eq, m5, eT]
      rfl
  · rw [m5, h8, show (12 : Int32) = nI 12 from rfl, nI_ltI (by omega) (by omega)]
    exact hm
theorem p_beginDriver {S : SS} {c i m : Nat} (h0 : gI S 0 = nI c) (hc : c ≤ 60) (hi : i < c) (h4 : gA S 4 i = 1) (h8 : gA S 8 i = nI (2 * m)) (hm : m < 12) (lo : Int32) : Pc (f_X0_beginDriver S (nI i) lo) (fun T => BD S T i m (lo ≠ 0)) := by
  have m5 : (nI i).toNatClampNeg = i := nI_clamp (by omega)
  refine Pc_e (e_has1 h0 hc hi) (Pc_c (fun q => absurd q ne10) (fun _ => Pc_c (fun q => Pc_s ⟨fun _ => rfl, fun _ _ => rfl, fun _ => rfl, Or.inl ⟨fun z => z q, rfl⟩⟩) (fun q => Pc_G (fun _ => Pc_B (P := fun r => r = nI m) (Pc_G (fun _ => Pc_c (fun _ => Pc_s ?_) (fun z => absurd (by rw [m5]; exact h4) z))) (fun r hr => Pc_l (Pc_s ⟨fun _ => rfl, fun k hk => gA_ne hk, fun _ => rfl, Or.inr ⟨q, ?_⟩⟩))))))
  · rw [m5, h8, show (2 : Int32) = nI 2 from rfl, pk_div (by omega) (by omega) (by omega)]
    exact congrArg nI (by omega)
  · rw [gA_eq, m5, hr]
theorem CF_eq {C : Ct} {S T : SS} (h : CF C S) (hI : ∀ k, gI T k = gI S k) (hA : ∀ k, k ≤ 6 → gA T k = gA S k) (hB : gB T 2 = gB S 2) : CF C T := by
  obtain ⟨⟨h1, h2⟩, ⟨h3, h4, h5, h6, h7⟩, h8⟩ := h
  exact ⟨⟨by rw [hI]; exact h1, h2⟩, ⟨by rw [hB]; exact h3, by rw [hA 3 (by omega)]; exact h4, by rw [hA 4 (by omega)]; exact h5, by rw [hA 5 (by omega)]; exact h6, by rw [hA 6 (by omega)]; exact h7⟩, by rw [hI]; exact h8⟩
theorem nI_ne {i j : Nat} (hi : i < 2 ^ 31) (hj : j < 2 ^ 31) (h : i ≠ j) : nI i ≠ nI j := fun q => h ((nI_eq hi hj).mp q)
/-- a use of NODE i -/
theorem LK_1 {C : Ct} {k i y : Nat} {S T : SS} (g : GB C) (h : LK C k S) (hk : k < cU C) (ok : ∀ q, q < k → ¬ BU C q) (hi : i < cC C) (hr : cUr C k = nI i) (kd : cKd C i = 2 ∨ cKd C i = 3) (hy : y < cC C) (ey : xq C k = nI y) (ap : AP S T i y (nn C i k)) : LK C (k + 1) T := by
  obtain ⟨hc, uv, b6, h6⟩ := g
  obtain ⟨cf, l8, l7, ld, l10, l9⟩ := h
  obtain ⟨aI, aA, aB, a7, a8, a10⟩ := ap
  obtain ⟨nh1, nh2⟩ := nd_h (i := i) (by omega)
  have nhk : ¬ isHd (cUr C k) := by rw [hr]; exact nh1
  have k1 : cKd C i ≠ 1 := by rcases kd with q | q <;> rw [q] <;> decide
  have hb1 : ∀ j, hb C j (k + 1) = hb C j k := fun j => cn_n (fun z => nhk z.1)
  have nn1 : nn C i (k + 1) = nn C i k + 1 := cn_y hr
  have nn2 : ∀ j, j < cC C → j ≠ i → nn C j (k + 1) = nn C j k := fun j hj q => cn_n (fun z => q (by have z : cUr C k = nI j := z; rw [hr] at z; exact ((nI_eq (by omega) (by omega)).mp z).symm))
  have nb : ∀ j q, j < cC C → q ≤ cU C → nn C j q ≤ 6 := fun j q hj hq => Nat.le_trans (cn_mono hq) (b6 j hj)
  have hbb : ∀ j q, j < cC C → q < cU C → isHd (cUr C q) → xq C q = nI j → hb C j q < 6 := fun j q hj hq z1 z2 => Nat.lt_of_lt_of_le (cn_lt (P := fun q => isHd (cUr C q) ∧ xq C q = nI j) hq ⟨z1, z2⟩) (h6 j hj)
  refine ⟨CF_eq cf aI (fun j hj => aA j (by omega) (by omega)) (aB 2 (by decide)), fun j hj => ?_, fun q j hq hj z => ?_, fun q j hq hj z1 z2 => ?_, fun j w hj hw => ?_, fun j w hj hw => ?_⟩
  · rw [a8]
    unfold pc
    by_cases q : j = i
    · rw [q, pk_us, if_neg k1, nn1]
    · rw [pk_un q, hb1, nn2 j hj q]
      exact l8 j hj
  · rw [a7]
    rcases Nat.lt_or_ge q k with y1 | y1
    · have ne : 12 * j + nn C j q ≠ 12 * i + nn C i k := by
        have u1 := nb j q hj (by omega)
        have u2 := nb i k hi (by omega)
        by_cases y2 : j = i
        · rw [y2] at z ⊢
          have := cn_lt (P := fun q => cUr C q = nI i) y1 z
          have : nn C i q < nn C i k := this
          omega
        · omega
      rw [pk_un ne]
      exact l7 q j y1 hj z
    · have : q = k := by omega
      rw [this] at z ⊢
      rw [hr] at z
      have : i = j := (nI_eq (by omega) (by omega)).mp z
      rw [← this, pk_us, ey]
  · rw [a7]
    have q1 : q < k := by
      rcases Nat.lt_or_ge q k with y1 | y1
      · exact y1
      · have : q = k := by omega
        rw [this] at z1
        exact absurd z1 nhk
    have u2 := nb i k hi (by omega)
    have u3 := hbb j q hj (by omega) z1 z2
    have ji : j ≠ i := fun y2 => by
      obtain ⟨i', hi', e1, e2⟩ := BU_no (ok q q1) hc
      rw [z2] at e1
      have : j = i' := (nI_eq (by omega) (by omega)).mp e1
      have e3 := e2 z1
      rw [← this, y2] at e3
      exact k1 e3
    rw [pk_un (by omega), pk_un (by omega)]
    exact ld q j q1 hj z1 z2
  · have old := l10 j w hj hw
    have hde : (∃ h, h < k + 1 ∧ isHd (cUr C h) ∧ xq C h = nI j ∧ (xq C (h + 1) = nI w ∨ xq C (h + 2) = nI w)) ↔ ∃ h, h < k ∧ isHd (cUr C h) ∧ xq C h = nI j ∧ (xq C (h + 1) = nI w ∨ xq C (h + 2) = nI w) := by
      constructor
      · rintro ⟨h, h1, h2, h3⟩
        refine ⟨h, ?_, h2, h3⟩
        rcases Nat.lt_or_ge h k with y1 | y1
        · exact y1
        · have : h = k := by omega
          rw [this] at h2
          exact absurd h2 nhk
      · rintro ⟨h, h1, h2, h3⟩
        exact ⟨h, by omega, h2, h3⟩
    by_cases ji : j = i
    · rw [ji] at old hde ⊢
      rcases a10 with ⟨c3, e⟩ | ⟨c3, e⟩
      · have c3 : cKd C i = 3 := by rw [← cf.2.1.2.2.1]; exact c3
        rw [e, old]
        exact ⟨fun z => absurd c3 z.1, fun z => absurd c3 z.1⟩
      · have c3 : cKd C i ≠ 3 := by rw [← cf.2.1.2.2.1]; exact c3
        rw [e, pk_uLs, bL_or, Bool.or_eq_true, old, bL_s (by omega) (by omega)]
        constructor
        · rintro (⟨_, (⟨q, q1, q2, q3⟩ | q)⟩ | q)
          · exact ⟨c3, Or.inl ⟨q, by omega, q2, q3⟩⟩
          · exact ⟨c3, Or.inr (hde.mpr q)⟩
          · exact ⟨c3, Or.inl ⟨k, by omega, hr, by rw [ey, q]⟩⟩
        · rintro ⟨_, (⟨q, q1, q2, q3⟩ | q)⟩
          · rcases Nat.lt_or_ge q k with y1 | y1
            · exact Or.inl ⟨c3, Or.inl ⟨q, y1, q2, q3⟩⟩
            · have : q = k := by omega
              rw [this, ey] at q3
              exact Or.inr ((nI_eq (by omega) (by omega)).mp q3).symm
          · exact Or.inl ⟨c3, Or.inr (hde.mp q)⟩
    · have e : gB T 10 j = gB S 10 j := by
        rcases a10 with ⟨_, e⟩ | ⟨_, e⟩
        · rw [e]
        · rw [e, pk_uLn ji]
      rw [e, old]
      have qde : (∃ q, q < k + 1 ∧ cUr C q = nI j ∧ xq C q = nI w) ↔ ∃ q, q < k ∧ cUr C q = nI j ∧ xq C q = nI w := by
        constructor
        · rintro ⟨h, h1, h2, h3⟩
          refine ⟨h, ?_, h2, h3⟩
          rcases Nat.lt_or_ge h k with y1 | y1
          · exact y1
          · have : h = k := by omega
            rw [this, hr] at h2
            exact absurd ((nI_eq (by omega) (by omega)).mp h2).symm ji
        · rintro ⟨h, h1, h2, h3⟩
          exact ⟨h, by omega, h2, h3⟩
      rw [hde, qde]
  · rw [aA 9 (by decide) (by decide), l9 j w hj hw]
    constructor
    · rintro ⟨h, h1, h2⟩
      exact ⟨h, by omega, h2⟩
    · rintro ⟨h, h1, h2, h3⟩
      refine ⟨h, ?_, h2, h3⟩
      rcases Nat.lt_or_ge h k with y1 | y1
      · exact y1
      · have : h = k := by omega
        rw [this] at h2
        exact absurd h2 nhk
