/-! what the reference holds of the text so far -/
def NO (b : Nat) (C : Ct) (X : SS) : Prop := (gI X 30 = nI b ∧ b ≤ 1) ∧ (gI X 26 = nI (cC C) ∧ cC C ≤ 60) ∧ ∀ i, i < cC C → gB X 11 (60 * b + i) = cNm C i ∧ gA X 12 (60 * b + i) = cKd C i ∧ gA X 15 (60 * b + i) = cDl C i ∧ gA X 18 i = cPl C i
/-- the row of use k -/
noncomputable def rw7 (b : Nat) (C : Ct) (k : Nat) : Int32 := @ite _ (isHd (cUr C k)) (Classical.propDecidable _) (-1) (if cUr C k = -3 then 0 else nI (12 * (60 * b + (cUr C k).toNatClampNeg) + cn (fun j => cUr C j = cUr C k) k))
def US (b : Nat) (C : Ct) (X : SS) : Prop := gI X 27 = nI (cU C) ∧ ∀ k, k < cU C → gB X 20 k = cUn C k ∧ gA X 21 k = cUp C k ∧ gA X 22 k = rw7 b C k
def UV (C : Ct) : Prop := ∀ k, k < cU C → isHd (cUr C k) ∨ cUr C k = -3 ∨ ∃ i, i < cC C ∧ cUr C k = nI i ∧ (cKd C i = 2 ∨ cKd C i = 3)
/-- how many uses NODE i has in its ( ) -/
noncomputable def nu (C : Ct) (i : Nat) : Nat := cn (fun k => cUr C k = nI i) (cU C)
noncomputable def nh (C : Ct) (k : Nat) : Nat := cn (fun j => isHd (cUr C j)) k
def MN (b : Nat) (C : Ct) (X : SS) : Prop := ∀ i, i < cC C → gA X 14 (60 * b + i) = nI (nu C i)
def DV (C : Ct) (X : SS) : Prop := gI X 28 = nI (nh C (cU C)) ∧ ∀ k, k < cU C → isHd (cUr C k) → gB X 23 (nh C k) = cUn C k ∧ gA X 24 (nh C k) = nI k ∧ gA X 25 (nh C k) = (if cUr C k = -1 then 1 else 0)
def LH (C : Ct) : Prop := ∀ w : Int64, cn (fun k => isHd (cUr C k) ∧ cUn C k = w) (cU C) ≤ 6
def FI (b : Nat) (C : Ct) (X : SS) (l : Nat) : Prop := ∀ i, i < l → (cKd C i = 2 → gA X 13 (60 * b + i) = gm (cGt C i) ∧ IV 0 8 (cGt C i) ∧ (sl_f (cGt C i).toNatClampNeg).toInt ≤ nu C i ∧ nu C i ≤ (sm_f (cGt C i).toNatClampNeg).toInt) ∧ (cKd C i = 3 → 1 ≤ nu C i ∧ nu C i ≤ 2)
def KD (C : Ct) : Prop := ∀ i, i < cC C → cKd C i = 0 ∨ cKd C i = 1 ∨ cKd C i = 2 ∨ cKd C i = 3
/-- DRIVERS come as three uses -/
def TRI (C : Ct) : Prop := (∀ k, k < cU C → isHd (cUr C k) → k + 2 < cU C ∧ cUr C (k + 1) = -3 ∧ cUr C (k + 2) = -3) ∧ ∀ k, k < cU C → cUr C k = -3 → ∃ h, isHd (cUr C h) ∧ (k = h + 1 ∨ k = h + 2)
/-- all of it; the lines of the first l NODES are at their ends -/
def LN (b : Nat) (C : Ct) (X : SS) (l : Nat) : Prop := NO b C X ∧ US b C X ∧ UV C ∧ MN b C X ∧ DV C X ∧ LH C ∧ FI b C X l ∧ KD C
def SD (X Y : SS) : Prop := Y.2.2 = X.2.2 ∧ gI Y 26 = gI X 26 ∧ gI Y 27 = gI X 27 ∧ gI Y 28 = gI X 28 ∧ gI Y 30 = gI X 30
theorem SD_FX {X Y : SS} (h : FX X Y) : SD X Y := ⟨h.1, FX_i h (by decide), FX_i h (by decide), FX_i h (by decide), FX_i h (by decide)⟩
theorem LN_SD {b : Nat} {C : Ct} {X Y : SS} {l : Nat} (h : LN b C X l) (g : SD X Y) : LN b C Y l := by
  obtain ⟨e, e26, e27, e28, e30⟩ := g
  have eA : ∀ k, gA Y k = gA X k := fun k => by
    show Y.2.2.1 k = X.2.2.1 k
    rw [e]
  have eB : ∀ k, gB Y k = gB X k := fun k => by
    show Y.2.2.2 k = X.2.2.2 k
    rw [e]
  obtain ⟨⟨⟨a1, a2⟩, ⟨a3, a4⟩, a5⟩, ⟨b1, b2⟩, h3, h4, ⟨d1, d2⟩, h6, h7, h8⟩ := h
  refine ⟨⟨⟨by rw [e30]; exact a1, a2⟩, ⟨by rw [e26]; exact a3, a4⟩, fun i hi => ?_⟩, ⟨by rw [e27]; exact b1, fun k hk => ?_⟩, h3, fun i hi => ?_, ⟨by rw [e28]; exact d1, fun k hk q => ?_⟩, h6, fun i hi => ?_, h8⟩
  · rw [eB, eA, eA, eA]; exact a5 i hi
  · rw [eB, eA, eA]; exact b2 k hk
  · rw [eA]; exact h4 i hi
  · rw [eB, eA, eA]; exact d2 k hk q
  · rw [eA]; exact h7 i hi
theorem nd_h {i : Nat} (hi : i < 2 ^ 31) : ¬ isHd (nI i) ∧ nI i ≠ -3 := by
  have e : (nI i).toInt = i := nI_toInt hi
  refine ⟨fun q => ?_, fun q => ?_⟩
  · rcases q with q | q
    · rw [q] at e
      have : (-1 : Int32).toInt = -1 := by decide
      omega
    · rw [q] at e
      have : (-2 : Int32).toInt = -2 := by decide
      omega
  · rw [q] at e
    have : (-3 : Int32).toInt = -3 := by decide
    omega
/-- no use of a NODE that is not told yet -/
theorem nu_new {C : Ct} (h : UV C) (hc : cC C ≤ 60) {i : Nat} (hi : cC C ≤ i) (hi2 : i < 2 ^ 31) : nu C i = 0 := by
  refine cn_0 (fun k hk q => ?_)
  obtain ⟨n1, n2⟩ := nd_h hi2
  rcases h k hk with z | z | ⟨j, hj, z, _⟩
  · rw [q] at z; exact n1 z
  · rw [q] at z; exact n2 z
  · rw [q] at z
    have := (nI_eq hi2 (by omega)).mp z
    omega
/-! a NODE more -/
theorem LN_node {b : Nat} {C : Ct} {X Y : SS} (h : LN b C X (cC C)) (hc : cC C < 60) {w : Int64} {p k d : Int32} (hk : k = 0 ∨ k = 1 ∨ k = 2 ∨ k = 3) (y26 : gI Y 26 = nI (cC C + 1)) (y27 : gI Y 27 = gI X 27) (y28 : gI Y 28 = gI X 28) (y30 : gI Y 30 = gI X 30) (y11 : gB Y 11 = vp_updL (gB X 11) (60 * b + cC C) w) (y12 : gA Y 12 = upd (gA X 12) (60 * b + cC C) k) (y13 : ∀ j, j ≠ 60 * b + cC C → gA Y 13 j = gA X 13 j) (y14 : gA Y 14 = upd (gA X 14) (60 * b + cC C) 0) (y15 : gA Y 15 = upd (gA X 15) (60 * b + cC C) d) (y18 : gA Y 18 = upd (gA X 18) (cC C) p) (y20 : gB Y 20 = gB X 20) (y21 : gA Y 21 = gA X 21) (y22 : gA Y 22 = gA X 22) (y23 : gB Y 23 = gB X 23) (y24 : gA Y 24 = gA X 24) (y25 : gA Y 25 = gA X 25) : LN b (addN C w p k d) Y (cC C) := by
  obtain ⟨⟨⟨a1, a2⟩, ⟨a3, a4⟩, a5⟩, ⟨b1, b2⟩, h3, h4, ⟨d1, d2⟩, h6, h7, h8⟩ := h
  refine ⟨⟨⟨by rw [y30]; exact a1, a2⟩, ⟨y26, by show cC C + 1 ≤ 60; omega⟩, fun i hi => ?_⟩, ⟨by rw [y27]; exact b1, fun k hk => ?_⟩, fun k hk => ?_, fun i hi => ?_, ⟨by rw [y28]; exact d1, fun k hk q => ?_⟩, h6, fun i hi => ?_, fun i hi => ?_⟩
  · have hi : i < cC C + 1 := hi
    rw [y11, y12, y15, y18]
    show vp_updL (gB X 11) (60 * b + cC C) w (60 * b + i) = vp_updL (cNm C) (cC C) w i ∧ upd (gA X 12) (60 * b + cC C) k (60 * b + i) = upd (cKd C) (cC C) k i ∧ upd (gA X 15) (60 * b + cC C) d (60 * b + i) = upd (cDl C) (cC C) d i ∧ upd (gA X 18) (cC C) p i = upd (cPl C) (cC C) p i
    by_cases q : i = cC C
    · rw [q, pk_uLs, pk_uLs, pk_us, pk_us, pk_us, pk_us, pk_us, pk_us]
      exact ⟨rfl, rfl, rfl, rfl⟩
    · rw [pk_uLn (by omega), pk_uLn q, pk_un (by omega), pk_un q, pk_un (by omega), pk_un q, pk_un q, pk_un q]
      exact a5 i (by omega)
  · rw [y20, y21, y22]
    exact b2 k hk
  · rcases h3 k hk with z | z | ⟨j, hj, z, y⟩
    · exact Or.inl z
    · exact Or.inr (Or.inl z)
    · refine Or.inr (Or.inr ⟨j, by show j < cC C + 1; omega, z, ?_⟩)
      show upd (cKd C) (cC C) _ j = 2 ∨ upd (cKd C) (cC C) _ j = 3
      rw [pk_un (by omega)]
      exact y
  · have hi : i < cC C + 1 := hi
    rw [y14]
    show upd (gA X 14) (60 * b + cC C) 0 (60 * b + i) = nI (nu C i)
    by_cases q : i = cC C
    · rw [q, pk_us, nu_new h3 a4 (Nat.le_refl _) (by omega)]
      rfl
    · rw [pk_un (by omega)]
      exact h4 i (by omega)
  · rw [y23, y24, y25]
    exact d2 k hk q
  · show (upd (cKd C) (cC C) k i = 2 → gA Y 13 (60 * b + i) = gm (upd (cGt C) (cC C) 0 i) ∧ IV 0 8 (upd (cGt C) (cC C) 0 i) ∧ (sl_f (upd (cGt C) (cC C) 0 i).toNatClampNeg).toInt ≤ nu C i ∧ nu C i ≤ (sm_f (upd (cGt C) (cC C) 0 i).toNatClampNeg).toInt) ∧ (upd (cKd C) (cC C) k i = 3 → 1 ≤ nu C i ∧ nu C i ≤ 2)
    rw [pk_un (by omega), pk_un (by omega), y13 _ (by omega)]
    exact h7 i hi
  · have hi : i < cC C + 1 := hi
    show upd (cKd C) (cC C) k i = 0 ∨ upd (cKd C) (cC C) k i = 1 ∨ upd (cKd C) (cC C) k i = 2 ∨ upd (cKd C) (cC C) k i = 3
    by_cases q : i = cC C
    · rw [q, pk_us]; exact hk
    · rw [pk_un q]; exact h8 i (by omega)
/-- of an INPUT or a BUS nothing more is to come -/
theorem LN_up {b : Nat} {C : Ct} {X : SS} {l : Nat} (h : LN b C X l) (h2 : cKd C l = 2 → gA X 13 (60 * b + l) = gm (cGt C l) ∧ IV 0 8 (cGt C l) ∧ (sl_f (cGt C l).toNatClampNeg).toInt ≤ nu C l ∧ nu C l ≤ (sm_f (cGt C l).toNatClampNeg).toInt) (h3 : cKd C l = 3 → 1 ≤ nu C l ∧ nu C l ≤ 2) : LN b C X (l + 1) := by
  obtain ⟨q1, q2, q3, q4, q5, q6, q7, q8⟩ := h
  refine ⟨q1, q2, q3, q4, q5, q6, fun i hi => ?_, q8⟩
  by_cases z : i = l
  · rw [z]
    exact ⟨h2, h3⟩
  · exact q7 i (by omega)
/-! a use more -/
theorem rw7_old {b : Nat} {C : Ct} {w : Int64} {p r : Int32} {k : Nat} (hk : k < cU C) : rw7 b (addU C w p r) k = rw7 b C k := by
  have e : ∀ j, j < cU C → cUr (addU C w p r) j = cUr C j := fun j hj => by
    show upd (cUr C) (cU C) r j = _
    rw [pk_un (by omega)]
  unfold rw7
  rw [e k hk, cn_c (P := fun j => cUr (addU C w p r) j = cUr C k) (Q := fun j => cUr C j = cUr C k) (fun j hj => by rw [e j (by omega)])]
theorem ur_old {C : Ct} {w : Int64} {p r : Int32} {k : Nat} (hk : k < cU C) : cUr (addU C w p r) k = cUr C k ∧ cUn (addU C w p r) k = cUn C k ∧ cUp (addU C w p r) k = cUp C k := by
  show upd (cUr C) (cU C) r k = _ ∧ vp_updL (cUn C) (cU C) w k = _ ∧ upd (cUp C) (cU C) p k = _
  rw [pk_un (by omega), pk_uLn (by omega), pk_un (by omega)]
  exact ⟨rfl, rfl, rfl⟩
theorem ur_new {C : Ct} {w : Int64} {p r : Int32} : cUr (addU C w p r) (cU C) = r ∧ cUn (addU C w p r) (cU C) = w ∧ cUp (addU C w p r) (cU C) = p := by
  show upd (cUr C) (cU C) r (cU C) = _ ∧ vp_updL (cUn C) (cU C) w (cU C) = _ ∧ upd (cUp C) (cU C) p (cU C) = _
  rw [pk_us, pk_uLs, pk_us]
  exact ⟨rfl, rfl, rfl⟩
theorem nu_add {C : Ct} {w : Int64} {p r : Int32} {i : Nat} : nu (addU C w p r) i = nu C i + @ite Nat (r = nI i) (Classical.propDecidable _) 1 0 := by
  have e : cn (fun k => cUr (addU C w p r) k = nI i) (cU C) = nu C i := cn_c (fun k hk => by rw [(ur_old hk).1])
  show cn (fun k => cUr (addU C w p r) k = nI i) (cU C + 1) = _
  by_cases q : r = nI i
  · rw [if_pos q, cn_y (by rw [ur_new.1]; exact q), e]
  · rw [if_neg q, cn_n (by rw [ur_new.1]; exact q), e]
    rfl
theorem nh_old {C : Ct} {w : Int64} {p r : Int32} {k : Nat} (hk : k ≤ cU C) : nh (addU C w p r) k = nh C k := cn_c (fun j hj => by rw [(ur_old (by omega)).1])
/-- what all uses share -/
theorem LN_use {b : Nat} {C : Ct} {X Y : SS} {l : Nat} (h : LN b C X l) {w : Int64} {p r row : Int32} (y26 : gI Y 26 = gI X 26) (y27 : gI Y 27 = nI (cU C + 1)) (y30 : gI Y 30 = gI X 30) (y11 : gB Y 11 = gB X 11) (y12 : gA Y 12 = gA X 12) (y13 : gA Y 13 = gA X 13) (y15 : gA Y 15 = gA X 15) (y18 : gA Y 18 = gA X 18) (y20 : gB Y 20 = vp_updL (gB X 20) (cU C) w) (y21 : gA Y 21 = upd (gA X 21) (cU C) p) (y22 : gA Y 22 = upd (gA X 22) (cU C) row) (hrow : row = rw7 b (addU C w p r) (cU C)) (hr : isHd r ∨ r = -3 ∨ ∃ i, i < cC C ∧ r = nI i ∧ (cKd C i = 2 ∨ cKd C i = 3)) (hl : ∀ i, i < l → r ≠ nI i) : NO b (addU C w p r) Y ∧ US b (addU C w p r) Y ∧ UV (addU C w p r) ∧ FI b (addU C w p r) Y l ∧ KD (addU C w p r) := by
  obtain ⟨⟨⟨a1, a2⟩, ⟨a3, a4⟩, a5⟩, ⟨b1, b2⟩, h3, h4, h5, h6, h7, h8⟩ := h
  refine ⟨⟨⟨by rw [y30]; exact a1, a2⟩, ⟨by rw [y26]; exact a3, a4⟩, fun i hi => ?_⟩, ⟨y27, fun k hk => ?_⟩, fun k hk => ?_, fun i hi => ?_, h8⟩
  · rw [y11, y12, y15, y18]
    exact a5 i hi
  · have hk : k < cU C + 1 := hk
    rw [y20, y21, y22]
    by_cases q : k = cU C
    · rw [q, pk_uLs, pk_us, pk_us, ur_new.2.1, ur_new.2.2]
      exact ⟨rfl, rfl, hrow⟩
    · have hk2 : k < cU C := by omega
      rw [pk_uLn q, pk_un q, pk_un q, (ur_old hk2).2.1, (ur_old hk2).2.2, rw7_old hk2]
      exact b2 k hk2
  · have hk : k < cU C + 1 := hk
    by_cases q : k = cU C
    · rw [q, ur_new.1]
      exact hr
    · have hk2 : k < cU C := by omega
      rw [(ur_old hk2).1]
      exact h3 k hk2
  · have e : nu (addU C w p r) i = nu C i := by
      rw [nu_add, if_neg (hl i hi)]
      rfl
    rw [y13, e]
    exact h7 i hi
/-- of NODE i -/
theorem LN_ask {b : Nat} {C : Ct} {X Y : SS} {l i : Nat} (h : LN b C X l) (hi : i < cC C) (hl : l ≤ i) (hk : cKd C i = 2 ∨ cKd C i = 3) {w : Int64} {p : Int32} (y26 : gI Y 26 = gI X 26) (y27 : gI Y 27 = nI (cU C + 1)) (y28 : gI Y 28 = gI X 28) (y30 : gI Y 30 = gI X 30) (y11 : gB Y 11 = gB X 11) (y12 : gA Y 12 = gA X 12) (y13 : gA Y 13 = gA X 13) (y14 : gA Y 14 = upd (gA X 14) (60 * b + i) (nI (nu C i + 1))) (y15 : gA Y 15 = gA X 15) (y18 : gA Y 18 = gA X 18) (y20 : gB Y 20 = vp_updL (gB X 20) (cU C) w) (y21 : gA Y 21 = upd (gA X 21) (cU C) p) (y22 : gA Y 22 = upd (gA X 22) (cU C) (nI (12 * (60 * b + i) + nu C i))) (y23 : gB Y 23 = gB X 23) (y24 : gA Y 24 = gA X 24) (y25 : gA Y 25 = gA X 25) : LN b (addU C w p (nI i)) Y l ∧ nu (addU C w p (nI i)) i = nu C i + 1 := by
  obtain ⟨⟨_, ⟨_, a4⟩, _⟩, _, h3, h4, ⟨d1, d2⟩, h6, _, _⟩ := id h
  have i31 : i < 2 ^ 31 := by omega
  obtain ⟨n1, n2⟩ := nd_h i31
  have ni : ∀ j, j < 60 → nI i = nI j → i = j := fun j hj q => (nI_eq i31 (by omega)).mp q
  have hrow : nI (12 * (60 * b + i) + nu C i) = rw7 b (addU C w p (nI i)) (cU C) := by
    unfold rw7
    rw [ur_new.1, if_neg n1, if_neg n2, nI_clamp i31]
    rw [cn_c (P := fun j => cUr (addU C w p (nI i)) j = nI i) (Q := fun j => cUr C j = nI i) (fun j hj => by rw [(ur_old hj).1])]
    rfl
  obtain ⟨c1, c2, c3, c7, c8⟩ := LN_use h y26 y27 y30 y11 y12 y13 y15 y18 y20 y21 y22 hrow (Or.inr (Or.inr ⟨i, hi, rfl, hk⟩)) (fun j hj q => by have := ni j (by omega) q; omega)
  have ei : nu (addU C w p (nI i)) i = nu C i + 1 := by rw [nu_add, if_pos rfl]
  refine ⟨⟨c1, c2, c3, fun j hj => ?_, ⟨?_, fun k hk q => ?_⟩, fun v => ?_, c7, c8⟩, ei⟩
  · have hj : j < cC C := hj
    rw [y14]
    by_cases q : j = i
    · rw [q, pk_us, ei]
    · rw [pk_un (by omega), nu_add, if_neg (fun z => q (ni j (by omega) z).symm)]
      exact h4 j hj
  · rw [y28, d1]
    show nI (nh C (cU C)) = nI (cn (fun j => isHd (cUr (addU C w p (nI i)) j)) (cU C + 1))
    rw [cn_n (by rw [ur_new.1]; exact n1)]
    exact congrArg nI (nh_old (Nat.le_refl _)).symm
  · have hk : k < cU C + 1 := hk
    by_cases z : k = cU C
    · rw [z, ur_new.1] at q
      exact absurd q n1
    · have hk2 : k < cU C := by omega
      rw [(ur_old hk2).1] at q ⊢
      rw [y23, y24, y25, nh_old (by omega), (ur_old hk2).2.1]
      exact d2 k hk2 q
  · show cn (fun k => isHd (cUr (addU C w p (nI i)) k) ∧ cUn (addU C w p (nI i)) k = v) (cU C + 1) ≤ 6
    rw [cn_n (by rw [ur_new.1]; exact fun z => n1 z.1), cn_c (Q := fun k => isHd (cUr C k) ∧ cUn C k = v) (fun k hk => by rw [(ur_old hk).1, (ur_old hk).2.1])]
    exact h6 v
/-- a part of a DRIVER -/
theorem LN_part {b : Nat} {C : Ct} {X Y : SS} {l : Nat} (h : LN b C X l) (hl : l ≤ 60) {w : Int64} {p : Int32} (y26 : gI Y 26 = gI X 26) (y27 : gI Y 27 = nI (cU C + 1)) (y28 : gI Y 28 = gI X 28) (y30 : gI Y 30 = gI X 30) (y11 : gB Y 11 = gB X 11) (y12 : gA Y 12 = gA X 12) (y13 : gA Y 13 = gA X 13) (y14 : gA Y 14 = gA X 14) (y15 : gA Y 15 = gA X 15) (y18 : gA Y 18 = gA X 18) (y20 : gB Y 20 = vp_updL (gB X 20) (cU C) w) (y21 : gA Y 21 = upd (gA X 21) (cU C) p) (y22 : gA Y 22 = upd (gA X 22) (cU C) 0) (y23 : gB Y 23 = gB X 23) (y24 : gA Y 24 = gA X 24) (y25 : gA Y 25 = gA X 25) : LN b (addU C w p (-3)) Y l := by
  obtain ⟨⟨_, ⟨_, a4⟩, _⟩, _, h3, h4, ⟨d1, d2⟩, h6, _, _⟩ := id h
  have n1 : ¬ isHd (-3) := fun q => by rcases q with q | q <;> exact absurd q (by decide)
  have n2 : ∀ i, i < 60 → (-3 : Int32) ≠ nI i := fun i hi q => (nd_h (i := i) (by omega)).2 q.symm
  have hrow : (0 : Int32) = rw7 b (addU C w p (-3)) (cU C) := by
    unfold rw7
    rw [ur_new.1, if_neg n1, if_pos rfl]
  obtain ⟨c1, c2, c3, c7, c8⟩ := LN_use h y26 y27 y30 y11 y12 y13 y15 y18 y20 y21 y22 hrow (Or.inr (Or.inl rfl)) (fun j hj => n2 j (by omega))
  refine ⟨c1, c2, c3, fun j hj => ?_, ⟨?_, fun k hk q => ?_⟩, fun v => ?_, c7, c8⟩
  · have hj : j < cC C := hj
    rw [y14, nu_add, if_neg (n2 j (by omega))]
    exact h4 j hj
  · rw [y28, d1]
    show nI (nh C (cU C)) = nI (cn (fun j => isHd (cUr (addU C w p (-3)) j)) (cU C + 1))
    rw [cn_n (by rw [ur_new.1]; exact n1)]
    exact congrArg nI (nh_old (Nat.le_refl _)).symm
  · have hk : k < cU C + 1 := hk
    by_cases z : k = cU C
    · rw [z, ur_new.1] at q
      exact absurd q n1
    · have hk2 : k < cU C := by omega
      rw [(ur_old hk2).1] at q ⊢
      rw [y23, y24, y25, nh_old (by omega), (ur_old hk2).2.1]
      exact d2 k hk2 q
  · show cn (fun k => isHd (cUr (addU C w p (-3)) k) ∧ cUn (addU C w p (-3)) k = v) (cU C + 1) ≤ 6
    rw [cn_n (by rw [ur_new.1]; exact fun z => n1 z.1), cn_c (Q := fun k => isHd (cUr C k) ∧ cUn C k = v) (fun k hk => by rw [(ur_old hk).1, (ur_old hk).2.1])]
    exact h6 v
/-- a DRIVER's head -/
theorem LN_head {b : Nat} {C : Ct} {X Y : SS} {l : Nat} (h : LN b C X l) (hl : l ≤ 60) {w : Int64} {p r : Int32} (hr : isHd r) (hw : cn (fun k => isHd (cUr C k) ∧ cUn C k = w) (cU C) < 6) (y26 : gI Y 26 = gI X 26) (y27 : gI Y 27 = nI (cU C + 1)) (y28 : gI Y 28 = nI (nh C (cU C) + 1)) (y30 : gI Y 30 = gI X 30) (y11 : gB Y 11 = gB X 11) (y12 : gA Y 12 = gA X 12) (y13 : gA Y 13 = gA X 13) (y14 : gA Y 14 = gA X 14) (y15 : gA Y 15 = gA X 15) (y18 : gA Y 18 = gA X 18) (y20 : gB Y 20 = vp_updL (gB X 20) (cU C) w) (y21 : gA Y 21 = upd (gA X 21) (cU C) p) (y22 : gA Y 22 = upd (gA X 22) (cU C) (-1)) (y23 : gB Y 23 = vp_updL (gB X 23) (nh C (cU C)) w) (y24 : gA Y 24 = upd (gA X 24) (nh C (cU C)) (nI (cU C))) (y25 : gA Y 25 = upd (gA X 25) (nh C (cU C)) (if r = -1 then 1 else 0)) : LN b (addU C w p r) Y l := by
  obtain ⟨⟨_, ⟨_, a4⟩, _⟩, _, h3, h4, ⟨d1, d2⟩, h6, _, _⟩ := id h
  have n2 : ∀ i, i < 60 → r ≠ nI i := fun i hi q => (nd_h (i := i) (by omega)).1 (q ▸ hr)
  have hrow : (-1 : Int32) = rw7 b (addU C w p r) (cU C) := by
    unfold rw7
    rw [ur_new.1, if_pos hr]
  obtain ⟨c1, c2, c3, c7, c8⟩ := LN_use h y26 y27 y30 y11 y12 y13 y15 y18 y20 y21 y22 hrow (Or.inl hr) (fun j hj => n2 j (by omega))
  refine ⟨c1, c2, c3, fun j hj => ?_, ⟨?_, fun k hk q => ?_⟩, fun v => ?_, c7, c8⟩
  · have hj : j < cC C := hj
    rw [y14, nu_add, if_neg (n2 j (by omega))]
    exact h4 j hj
  · rw [y28]
    show _ = nI (cn (fun j => isHd (cUr (addU C w p r) j)) (cU C + 1))
    rw [cn_y (by rw [ur_new.1]; exact hr)]
    exact congrArg (fun x => nI (x + 1)) (nh_old (Nat.le_refl _)).symm
  · have hk : k < cU C + 1 := hk
    by_cases z : k = cU C
    · rw [z, nh_old (Nat.le_refl _), y23, y24, y25, pk_uLs, pk_us, pk_us, ur_new.1, ur_new.2.1]
      exact ⟨rfl, rfl, rfl⟩
    · have hk2 : k < cU C := by omega
      rw [(ur_old hk2).1] at q ⊢
      have ne : nh C k ≠ nh C (cU C) := Nat.ne_of_lt (cn_lt hk2 q)
      rw [nh_old (by omega), y23, y24, y25, pk_uLn ne, pk_un ne, pk_un ne, (ur_old hk2).2.1]
      exact d2 k hk2 q
  · show cn (fun k => isHd (cUr (addU C w p r) k) ∧ cUn (addU C w p r) k = v) (cU C + 1) ≤ 6
    have e : cn (fun k => isHd (cUr (addU C w p r) k) ∧ cUn (addU C w p r) k = v) (cU C) = cn (fun k => isHd (cUr C k) ∧ cUn C k = v) (cU C) := cn_c (fun k hk => by rw [(ur_old hk).1, (ur_old hk).2.1])
    by_cases z : w = v
    · rw [cn_y (by rw [ur_new.1, ur_new.2.1]; exact ⟨hr, z⟩), e, ← z]
      omega
    · rw [cn_n (by rw [ur_new.1, ur_new.2.1]; exact fun y => z y.2), e]
      exact h6 v
/-- the GATE's number, the DELAY -/
theorem LN_gate {b : Nat} {C : Ct} {X Y : SS} {l i : Nat} (h : LN b C X l) (hl : l ≤ i) (hi : i < cC C) {g g7 : Int32} (y13 : gA Y 13 = upd (gA X 13) (60 * b + i) g7) (hI : ∀ k, gI Y k = gI X k) (hA : ∀ k, k ≠ 13 → gA Y k = gA X k) (hB : ∀ k, gB Y k = gB X k) : LN b (setG C i g) Y l := by
  obtain ⟨⟨⟨a1, a2⟩, ⟨a3, a4⟩, a5⟩, ⟨b1, b2⟩, h3, h4, ⟨d1, d2⟩, h6, h7, h8⟩ := h
  refine ⟨⟨⟨by rw [hI]; exact a1, a2⟩, ⟨by rw [hI]; exact a3, a4⟩, fun j hj => ?_⟩, ⟨by rw [hI]; exact b1, fun k hk => ?_⟩, h3, fun j hj => ?_, ⟨by rw [hI]; exact d1, fun k hk q => ?_⟩, h6, fun j hj => ?_, h8⟩
  · rw [hB, hA _ (by decide), hA _ (by decide), hA _ (by decide)]; exact a5 j hj
  · rw [hB, hA _ (by decide), hA _ (by decide)]; exact b2 k hk
  · rw [hA _ (by decide)]; exact h4 j hj
  · rw [hB, hA _ (by decide), hA _ (by decide)]; exact d2 k hk q
  · show (cKd C j = 2 → gA Y 13 (60 * b + j) = gm (upd (cGt C) i g j) ∧ IV 0 8 (upd (cGt C) i g j) ∧ (sl_f (upd (cGt C) i g j).toNatClampNeg).toInt ≤ nu C j ∧ nu C j ≤ (sm_f (upd (cGt C) i g j).toNatClampNeg).toInt) ∧ (cKd C j = 3 → 1 ≤ nu C j ∧ nu C j ≤ 2)
    rw [y13, pk_un (by omega), pk_un (by omega)]
    exact h7 j hj
theorem LN_dly {b : Nat} {C : Ct} {X Y : SS} {l i : Nat} (h : LN b C X l) (hi : i < cC C) {d : Int32} (y15 : gA Y 15 = upd (gA X 15) (60 * b + i) d) (hI : ∀ k, gI Y k = gI X k) (hA : ∀ k, k ≠ 15 → gA Y k = gA X k) (hB : ∀ k, gB Y k = gB X k) : LN b (setD C i d) Y l := by
  obtain ⟨⟨⟨a1, a2⟩, ⟨a3, a4⟩, a5⟩, ⟨b1, b2⟩, h3, h4, ⟨d1, d2⟩, h6, h7, h8⟩ := h
  refine ⟨⟨⟨by rw [hI]; exact a1, a2⟩, ⟨by rw [hI]; exact a3, a4⟩, fun j hj => ?_⟩, ⟨by rw [hI]; exact b1, fun k hk => ?_⟩, h3, fun j hj => ?_, ⟨by rw [hI]; exact d1, fun k hk q => ?_⟩, h6, fun j hj => ?_, h8⟩
  · rw [hB, y15, hA _ (by decide), hA _ (by decide)]
    obtain ⟨z1, z2, z3, z4⟩ := a5 j hj
    refine ⟨z1, z2, ?_, z4⟩
    show upd (gA X 15) (60 * b + i) d (60 * b + j) = upd (cDl C) i d j
    by_cases q : j = i
    · rw [q, pk_us, pk_us]
    · rw [pk_un (by omega), pk_un q]
      exact z3
  · rw [hB, hA _ (by decide), hA _ (by decide)]; exact b2 k hk
  · rw [hA _ (by decide)]; exact h4 j hj
  · rw [hB, hA _ (by decide), hA _ (by decide)]; exact d2 k hk q
  · rw [hA _ (by decide)]; exact h7 j hj
theorem TRI_ask {C : Ct} (h : TRI C) {w : Int64} {p : Int32} {i : Nat} (hi : i < 2 ^ 31) : TRI (addU C w p (nI i)) := by
  obtain ⟨h1, h2⟩ := h
  obtain ⟨n1, n2⟩ := nd_h hi
  refine ⟨fun k hk q => ?_, fun k hk q => ?_⟩
  · have hk : k < cU C + 1 := hk
    by_cases z : k = cU C
    · rw [z, ur_new.1] at q
      exact absurd q n1
    · have hk2 : k < cU C := by omega
      rw [(ur_old hk2).1] at q
      obtain ⟨u1, u2, u3⟩ := h1 k hk2 q
      exact ⟨by show k + 2 < cU C + 1; omega, by rw [(ur_old (by omega)).1]; exact u2, by rw [(ur_old u1).1]; exact u3⟩
  · have hk : k < cU C + 1 := hk
    by_cases z : k = cU C
    · rw [z, ur_new.1] at q
      exact absurd q n2
    · have hk2 : k < cU C := by omega
      rw [(ur_old hk2).1] at q
      obtain ⟨j, u1, u2⟩ := h2 k hk2 q
      exact ⟨j, by rw [(ur_old (by omega)).1]; exact u1, u2⟩
theorem TRI_drv {C : Ct} (h : TRI C) {w w1 w2 : Int64} {p p1 p2 r : Int32} (hr : isHd r) : TRI (addU (addU (addU C w p r) w1 p1 (-3)) w2 p2 (-3)) := by
  obtain ⟨h1, h2⟩ := h
  have n1 : ¬ isHd (-3) := fun q => by rcases q with q | q <;> exact absurd q (by decide)
  have o : ∀ k, k < cU C → cUr (addU (addU (addU C w p r) w1 p1 (-3)) w2 p2 (-3)) k = cUr C k := fun k hk => by
    rw [(ur_old (show k < cU C + 1 + 1 by omega)).1, (ur_old (show k < cU C + 1 by omega)).1, (ur_old hk).1]
  have e0 : cUr (addU (addU (addU C w p r) w1 p1 (-3)) w2 p2 (-3)) (cU C) = r := by
    rw [(ur_old (show cU C < cU C + 1 + 1 by omega)).1, (ur_old (show cU C < cU C + 1 by omega)).1, ur_new.1]
  have e1 : cUr (addU (addU (addU C w p r) w1 p1 (-3)) w2 p2 (-3)) (cU C + 1) = -3 := by
    rw [(ur_old (show cU C + 1 < cU C + 1 + 1 by omega)).1]
    exact (ur_new (C := addU C w p r)).1
  have e2 : cUr (addU (addU (addU C w p r) w1 p1 (-3)) w2 p2 (-3)) (cU C + 2) = -3 := (ur_new (C := addU (addU C w p r) w1 p1 (-3))).1
  refine ⟨fun k hk q => ?_, fun k hk q => ?_⟩
  · have hk : k < cU C + 3 := hk
    rcases Nat.lt_or_ge k (cU C) with z | z
    · rw [o k z] at q
      obtain ⟨u1, u2, u3⟩ := h1 k z q
      exact ⟨by show k + 2 < cU C + 3; omega, by rw [o _ (by omega)]; exact u2, by rw [o _ u1]; exact u3⟩
    · by_cases y : k = cU C
      · rw [y]
        exact ⟨by show cU C + 2 < cU C + 3; omega, e1, e2⟩
      · by_cases y1 : k = cU C + 1
        · rw [y1, e1] at q
          exact absurd q n1
        · have y2 : k = cU C + 2 := by omega
          rw [y2, e2] at q
          exact absurd q n1
  · have hk : k < cU C + 3 := hk
    rcases Nat.lt_or_ge k (cU C) with z | z
    · rw [o k z] at q
      obtain ⟨j, u1, u2⟩ := h2 k z q
      exact ⟨j, by rw [o j (by omega)]; exact u1, u2⟩
    · by_cases y : k = cU C
      · rw [y, e0] at q
        rw [q] at hr
        exact absurd hr n1
      · exact ⟨cU C, by rw [e0]; exact hr, by omega⟩
