/-! the first of equal NAMES -/
def ixr (g : Nat → Int64) (w : Int64) : Nat → Nat → Int32
  | _, 0 => -1
  | j, k + 1 => if g j = w then nI j else ixr g w (j + 1) k
def ix (g : Nat → Int64) (w : Int64) (c : Nat) : Int32 := ixr g w 0 c
theorem ixr_c {g g' : Nat → Int64} {w : Int64} : ∀ (k j : Nat), (∀ i, j ≤ i → i < j + k → g i = g' i) → ixr g w j k = ixr g' w j k := by
  intro k
  induction k with
  | zero => intro j _; rfl
  | succ k ih =>
    intro j h
    show (if g j = w then nI j else ixr g w (j + 1) k) = (if g' j = w then nI j else ixr g' w (j + 1) k)
    rw [h j (Nat.le_refl _) (by omega), ih (j + 1) (fun i a b => h i (by omega) (by omega))]
theorem ix_c {g g' : Nat → Int64} {w : Int64} {c : Nat} (h : ∀ i, i < c → g i = g' i) : ix g w c = ix g' w c := ixr_c c 0 (fun i _ b => h i (by omega))
theorem ixr_r {g : Nat → Int64} {w : Int64} : ∀ (k j : Nat), (ixr g w j k = -1 ∧ ∀ i, j ≤ i → i < j + k → g i ≠ w) ∨ ∃ i, j ≤ i ∧ i < j + k ∧ ixr g w j k = nI i ∧ g i = w := by
  intro k
  induction k with
  | zero => intro j; exact Or.inl ⟨rfl, fun i a b => by omega⟩
  | succ k ih =>
    intro j
    by_cases q : g j = w
    · refine Or.inr ⟨j, Nat.le_refl _, by omega, ?_, q⟩
      show (if g j = w then nI j else ixr g w (j + 1) k) = nI j
      rw [if_pos q]
    · have e : ixr g w j (k + 1) = ixr g w (j + 1) k := by
        show (if g j = w then nI j else ixr g w (j + 1) k) = _
        rw [if_neg q]
      rcases ih (j + 1) with ⟨h1, h2⟩ | ⟨i, h1, h2, h3, h4⟩
      · refine Or.inl ⟨e.trans h1, fun i a b => ?_⟩
        rcases Nat.lt_or_ge j i with z | z
        · exact h2 i (by omega) (by omega)
        · have : i = j := by omega
          rw [this]
          exact q
      · exact Or.inr ⟨i, by omega, by omega, e.trans h3, h4⟩
theorem ix_r (g : Nat → Int64) (w : Int64) (c : Nat) : (ix g w c = -1 ∧ ∀ i, i < c → g i ≠ w) ∨ ∃ i, i < c ∧ ix g w c = nI i ∧ g i = w := by
  rcases ixr_r (g := g) (w := w) c 0 with ⟨h1, h2⟩ | ⟨i, h1, h2, h3, h4⟩
  · exact Or.inl ⟨h1, fun i a => h2 i (by omega) (by omega)⟩
  · exact Or.inr ⟨i, by omega, h3, h4⟩
theorem e_ixf {b : Int32 → Option (Int32 ⊕ Int32)} {g : Nat → Int64} {w : Int64} {c : Nat} (hc : c ≤ 9000) (hx : b (nI c) = some (.inr (-1))) (h1 : ∀ j, j < c → g j = w → b (nI j) = some (.inr (nI j))) (h2 : ∀ j, j < c → g j ≠ w → b (nI j) = some (.inl (nI (j + 1)))) : zI b zF (0 : Int32) = some (ix g w c) := by
  have go : ∀ (k j N : Nat), j + k = c → zI b (N + k + 1) (nI j) = some (ixr g w j k) := by
    intro k
    induction k with
    | zero =>
      intro j N e
      have : j = c := by omega
      rw [this]
      exact zI_e hx
    | succ k ih =>
      intro j N e
      by_cases q : g j = w
      · refine (zI_e (h1 j (by omega) q)).trans ?_
        show _ = some (if g j = w then nI j else ixr g w (j + 1) k)
        rw [if_pos q]
      · refine (zI_1 (h2 j (by omega) q)).trans ?_
        show zI b (N + k + 1) (nI (j + 1)) = some (if g j = w then nI j else ixr g w (j + 1) k)
        rw [if_neg q]
        exact ih (j + 1) N (by omega)
  have e : zF = (9999 - c) + c + 1 := by
    unfold zF
    omega
  rw [e]
  exact go c 0 _ (by omega)
theorem e_find {S0 : SS} {c : Nat} (h : gI S0 0 = nI c) (hc : c ≤ 60) (w : Int64) : f_X0_find S0 w = some (ix (gB S0 2) w c) := by
  have st : ∀ j, j < c → (nI j).toInt = j ∧ (nI j).toNatClampNeg = j ∧ ¬ gI S0 0 ≤ nI j := fun j hj => ⟨nI_toInt (by omega), nI_clamp (by omega), by rw [h, nI_leI (by omega) (by omega)]; omega⟩
  refine e_ixf (b := b_X0_find_2 S0 w) (by omega) ?_ (fun j hj q => ?_) (fun j hj q => ?_)
  · exact E_y (by rw [h]; exact (nI_leI (by omega) (by omega)).mpr (Nat.le_refl _)) rfl
  · obtain ⟨ej, cl, nl⟩ := st j hj
    exact E_n nl (E_G (ti_in (by omega) (by omega)) (E_y (lc_eq.mpr (by rw [cl]; exact q)) rfl))
  · obtain ⟨ej, cl, nl⟩ := st j hj
    refine E_n nl (E_G (ti_in (by omega) (by omega)) (E_n (fun z => q (by have := lc_eq.mp z; rwa [cl] at this)) ?_))
    show some (Sum.inl (nI j + 1)) = _
    rw [nI_1]
theorem i60 {b : Nat} (hb : b ≤ 1) (j : Nat) : (60 : Int32) * nI b + nI j = nI (60 * b + j) := by
  rw [show (60 : Int32) = nI 60 from rfl, pk_mul, nI_add]
theorem e_newOf {X : SS} {b c : Nat} (h : gI X 26 = nI c) (hc : c ≤ 60) (h30 : gI X 30 = nI b) (hb : b ≤ 1) (w : Int64) : f_X7_newOf X w = some (ix (fun i => gB X 11 (60 * b + i)) w c) := by
  have st : ∀ j, j < c → (nI j).toInt = j ∧ (((60 : Int32) * gI X 30) + nI j).toInt = (60 * b + j : Nat) ∧ (((60 : Int32) * gI X 30) + nI j).toNatClampNeg = 60 * b + j ∧ ¬ gI X 26 ≤ nI j := fun j hj => ⟨nI_toInt (by omega), by rw [h30, i60 hb, nI_toInt (by omega)], by rw [h30, i60 hb, nI_clamp (by omega)], by rw [h, nI_leI (by omega) (by omega)]; omega⟩
  refine e_ixf (b := b_X7_newOf_2 X w) (by omega) ?_ (fun j hj q => ?_) (fun j hj q => ?_)
  · exact E_y (by rw [h]; exact (nI_leI (by omega) (by omega)).mpr (Nat.le_refl _)) rfl
  · obtain ⟨ej, e6, cl, nl⟩ := st j hj
    exact E_n nl (E_G (ti_in (by omega) (by omega)) (E_y (lc_eq.mpr (by rw [cl]; exact q)) rfl))
  · obtain ⟨ej, e6, cl, nl⟩ := st j hj
    refine E_n nl (E_G (ti_in (by omega) (by omega)) (E_n (fun z => q (by have := lc_eq.mp z; rwa [cl] at this)) ?_))
    show some (Sum.inl (nI j + 1)) = _
    rw [nI_1]
/-! how many below k -/
noncomputable def cn (P : Nat → Prop) : Nat → Nat
  | 0 => 0
  | k + 1 => cn P k + @ite Nat (P k) (Classical.propDecidable _) 1 0
theorem cn_y {P : Nat → Prop} {k : Nat} (h : P k) : cn P (k + 1) = cn P k + 1 := by
  show cn P k + @ite Nat (P k) (Classical.propDecidable _) 1 0 = _
  rw [if_pos h]
theorem cn_n {P : Nat → Prop} {k : Nat} (h : ¬ P k) : cn P (k + 1) = cn P k := by
  show cn P k + @ite Nat (P k) (Classical.propDecidable _) 1 0 = _
  rw [if_neg h]
  exact Nat.add_zero _
theorem cn_c {P Q : Nat → Prop} : ∀ {k : Nat}, (∀ i, i < k → (P i ↔ Q i)) → cn P k = cn Q k := by
  intro k
  induction k with
  | zero => intro _; rfl
  | succ k ih =>
    intro h
    have e := ih (fun i a => h i (by omega))
    by_cases q : P k
    · rw [cn_y q, cn_y ((h k (by omega)).mp q), e]
    · rw [cn_n q, cn_n (fun z => q ((h k (by omega)).mpr z)), e]
theorem cn_le {P : Nat → Prop} : ∀ (k : Nat), cn P k ≤ k := by
  intro k
  induction k with
  | zero => exact Nat.le_refl _
  | succ k ih =>
    by_cases q : P k
    · rw [cn_y q]; omega
    · rw [cn_n q]; omega
theorem cn_0 {P : Nat → Prop} : ∀ {k : Nat}, (∀ i, i < k → ¬ P i) → cn P k = 0 := by
  intro k
  induction k with
  | zero => intro _; rfl
  | succ k ih =>
    intro h
    rw [cn_n (h k (by omega)), ih (fun i a => h i (by omega))]
theorem cn_mono {P : Nat → Prop} {j k : Nat} (h : j ≤ k) : cn P j ≤ cn P k := by
  obtain ⟨d, rfl⟩ := Nat.exists_eq_add_of_le h
  clear h
  induction d with
  | zero => exact Nat.le_refl _
  | succ d ih =>
    rw [← Nat.add_assoc]
    by_cases q : P (j + d)
    · rw [cn_y q]; omega
    · rw [cn_n q]; omega
theorem cn_lt {P : Nat → Prop} {j k : Nat} (h : j < k) (hp : P j) : cn P j < cn P k := by
  have := cn_mono (P := P) (show j + 1 ≤ k by omega)
  rw [cn_y hp] at this
  omega
/-! what a text has told so far: NODES (how many, NAME, place, kind, GATE, DELAY) and uses (how many, NAME, place, role) -/
abbrev Ct : Type := Nat × (Nat → Int64) × (Nat → Int32) × (Nat → Int32) × (Nat → Int32) × (Nat → Int32) × Nat × (Nat → Int64) × (Nat → Int32) × (Nat → Int32)
def cC (C : Ct) : Nat := C.1
def cNm (C : Ct) : Nat → Int64 := C.2.1
def cPl (C : Ct) : Nat → Int32 := C.2.2.1
def cKd (C : Ct) : Nat → Int32 := C.2.2.2.1
def cGt (C : Ct) : Nat → Int32 := C.2.2.2.2.1
def cDl (C : Ct) : Nat → Int32 := C.2.2.2.2.2.1
def cU (C : Ct) : Nat := C.2.2.2.2.2.2.1
def cUn (C : Ct) : Nat → Int64 := C.2.2.2.2.2.2.2.1
def cUp (C : Ct) : Nat → Int32 := C.2.2.2.2.2.2.2.2.1
def cUr (C : Ct) : Nat → Int32 := C.2.2.2.2.2.2.2.2.2
def addU (C : Ct) (w : Int64) (p r : Int32) : Ct := (cC C, cNm C, cPl C, cKd C, cGt C, cDl C, cU C + 1, vp_updL (cUn C) (cU C) w, upd (cUp C) (cU C) p, upd (cUr C) (cU C) r)
def addN (C : Ct) (w : Int64) (p k d : Int32) : Ct := (cC C + 1, vp_updL (cNm C) (cC C) w, upd (cPl C) (cC C) p, upd (cKd C) (cC C) k, upd (cGt C) (cC C) 0, upd (cDl C) (cC C) d, cU C, cUn C, cUp C, cUr C)
def setG (C : Ct) (i : Nat) (g : Int32) : Ct := (cC C, cNm C, cPl C, cKd C, upd (cGt C) i g, cDl C, cU C, cUn C, cUp C, cUr C)
def setD (C : Ct) (i : Nat) (d : Int32) : Ct := (cC C, cNm C, cPl C, cKd C, cGt C, upd (cDl C) i d, cU C, cUn C, cUp C, cUr C)
/-- the class holds it -/
def CC (C : Ct) (S3 S0 : SS) : Prop := (gI S0 0 = nI (cC C) ∧ cC C ≤ 60) ∧ (gB S0 2 = cNm C ∧ gA S0 3 = cPl C ∧ gA S0 4 = cKd C ∧ gA S0 5 = cGt C ∧ gA S0 6 = cDl C) ∧ (gI S3 15 = nI (cU C) ∧ gB S3 12 = cUn C ∧ gA S3 13 = cUp C ∧ gA S3 14 = cUr C ∧ gI S3 0 = 0 ∧ gI S3 1 = -1) ∧ gI S0 1 = nI (cn (fun i => cKd C i = 3) (cC C)) ∧ ∀ i, i < cC C → gA S0 8 i = 0 ∧ gA S0 9 i = 0 ∧ gB S0 10 i = 0
theorem CC_I {C : Ct} {S3 S0 : SS} (h : CC C S3 S0) {k : Nat} (hk : 15 ≠ k ∧ 0 ≠ k ∧ 1 ≠ k) (v : Int32) : CC C (sI S3 k v) S0 := by
  obtain ⟨h1, h2, ⟨h3, h4, h4b, h4c, h4d, h4e⟩, h5⟩ := h
  refine ⟨h1, h2, ⟨?_, h4, h4b, h4c, ?_, ?_⟩, h5⟩
  · rw [gI_ne hk.1]; exact h3
  · rw [gI_ne hk.2.1]; exact h4d
  · rw [gI_ne hk.2.2]; exact h4e
theorem CC_L {C : Ct} {S3 S0 : SS} (h : CC C S3 S0) (k : Nat) (v : Int64) : CC C (sL S3 k v) S0 := h
theorem CC_bp {C : Ct} {S3 S0 : SS} (h : CC C S3 S0) (r l m : Int32) : CC C (bpS S3 r l m) S0 := CC_I (CC_I (CC_I (CC_I (CC_I h (by decide) _) (by decide) _) (by decide) _) (by decide) _) (by decide) _
theorem CC_au {C : Ct} {S3 S0 : SS} (h : CC C S3 S0) (hu : cU C < 667) (w : Int64) (p r : Int32) : CC (addU C w p r) (auS S3 w p r) S0 := by
  obtain ⟨h1, h2, ⟨h3, h4, h5, h6, h6b, h6c⟩, h7⟩ := h
  have cl : (gI S3 15).toNatClampNeg = cU C := by rw [h3, nI_clamp (by omega)]
  refine ⟨h1, h2, ⟨?_, ?_, ?_, ?_, ?_, ?_⟩, h7⟩
  · show gI (sI _ 15 (gI S3 15 + 1)) 15 = nI (cU C + 1)
    rw [gI_eq, h3, nI_1]
  · show vp_updL (gB S3 12) (gI S3 15).toNatClampNeg w = vp_updL (cUn C) (cU C) w
    rw [cl, h4]
  · show upd (gA S3 13) (gI S3 15).toNatClampNeg p = upd (cUp C) (cU C) p
    rw [cl, h5]
  · show upd (gA S3 14) (gI S3 15).toNatClampNeg r = upd (cUr C) (cU C) r
    rw [cl, h6]
  · show gI (sI _ 15 (gI S3 15 + 1)) 0 = 0
    rw [gI_ne (by decide)]; exact h6b
  · show gI (sI _ 15 (gI S3 15 + 1)) 1 = -1
    rw [gI_ne (by decide)]; exact h6c
def adT (S0 : SS) (w : Int64) (p k d : Int32) : SS := sA (sB (sA (sA (sA (sA (sA (sA (sB S0 2 (vp_updL (gB S0 2) (gI S0 0).toNatClampNeg w)) 3 (upd (gA S0 3) (gI S0 0).toNatClampNeg p)) 4 (upd (gA S0 4) (gI S0 0).toNatClampNeg k)) 5 (upd (gA S0 5) (gI S0 0).toNatClampNeg 0)) 6 (upd (gA S0 6) (gI S0 0).toNatClampNeg d)) 8 (upd (gA S0 8) (gI S0 0).toNatClampNeg 0)) 9 (upd (gA S0 9) (gI S0 0).toNatClampNeg 0)) 10 (vp_updL (gB S0 10) (gI S0 0).toNatClampNeg 0)) 11 (upd (gA S0 11) (gI S0 0).toNatClampNeg 0)
theorem adT_f (S0 : SS) (w : Int64) (p k d : Int32) : (gB (adT S0 w p k d) 2 = vp_updL (gB S0 2) (gI S0 0).toNatClampNeg w ∧ gA (adT S0 w p k d) 3 = upd (gA S0 3) (gI S0 0).toNatClampNeg p ∧ gA (adT S0 w p k d) 4 = upd (gA S0 4) (gI S0 0).toNatClampNeg k ∧ gA (adT S0 w p k d) 5 = upd (gA S0 5) (gI S0 0).toNatClampNeg 0 ∧ gA (adT S0 w p k d) 6 = upd (gA S0 6) (gI S0 0).toNatClampNeg d) ∧ (gA (adT S0 w p k d) 8 = upd (gA S0 8) (gI S0 0).toNatClampNeg 0 ∧ gA (adT S0 w p k d) 9 = upd (gA S0 9) (gI S0 0).toNatClampNeg 0 ∧ gB (adT S0 w p k d) 10 = vp_updL (gB S0 10) (gI S0 0).toNatClampNeg 0) := ⟨⟨rfl, rfl, rfl, rfl, rfl⟩, rfl, rfl, rfl⟩
theorem CC_add {C : Ct} {S3 S0 : SS} (h : CC C S3 S0) (hc : cC C < 60) (w : Int64) (p k : Int32) : Ok (f_X0_add S0 w p k) (fun T => CC (addN C w p k (if k = 2 then 1 else 0)) S3 T) := by
  obtain ⟨⟨h1, h1'⟩, ⟨g2, g3, g4, g5, g6⟩, h3, h4, h5⟩ := h
  have e0 : (gI S0 0).toInt = cC C := by rw [h1, nI_toInt (by omega)]
  have cl : (gI S0 0).toNatClampNeg = cC C := by rw [h1, nI_clamp (by omega)]
  have i0 : vp_in (gI S0 0) 60 := ti_in (by omega) (by omega)
  have lt : gI S0 0 < (60 : Int32) := by
    rw [h1, show (60 : Int32) = nI 60 from rfl, nI_ltI (by omega) (by omega)]
    exact hc
  refine Ok_c (fun _ => Ok_G i0 (Ok_l (Ok_G i0 (Ok_l (Ok_G i0 (Ok_l (Ok_G i0 (Ok_l (Ok_B (P := fun v => v = (if k = 2 then 1 else 0 : Int32)) (Ok_c (fun c => Ok_s ?_) (fun c => Ok_s ?_)) (fun v hv => Ok_G i0 (Ok_l (Ok_G i0 (Ok_l (Ok_G i0 (Ok_l (Ok_G i0 (Ok_l (Ok_G i0 (Ok_l (Ok_B (P := fun T => ((k = 3 ∧ gI T 1 = gI S0 1 + 1) ∨ (k ≠ 3 ∧ gI T 1 = gI S0 1)) ∧ gI T 0 = gI S0 0 ∧ T.2 = (adT S0 w p k v).2) (Ok_c (fun c => Ok_l (Ok_s ⟨Or.inl ⟨c, gI_eq⟩, gI_ne (by decide), rfl⟩)) (fun c => Ok_s ⟨Or.inr ⟨c, rfl⟩, rfl, rfl⟩)) (fun T hT => Ok_l (Ok_s ?_)))))))))))))))))))))) (fun q => absurd lt q)
  · rw [if_pos c]
  · rw [if_neg c]
  · obtain ⟨t1, t0, t2⟩ := hT
    have eA : ∀ j, gA T j = gA (adT S0 w p k v) j := fun j => by
      show T.2.2.1 j = (adT S0 w p k v).2.2.1 j
      rw [t2]
    have eB : ∀ j, gB T j = gB (adT S0 w p k v) j := fun j => by
      show T.2.2.2 j = (adT S0 w p k v).2.2.2 j
      rw [t2]
    obtain ⟨⟨f2, f3, f4, f5, f6⟩, f8, f9, f10⟩ := adT_f S0 w p k v
    rw [cl] at f2 f3 f4 f5 f6 f8 f9 f10
    have old : cn (fun i => upd (cKd C) (cC C) k i = 3) (cC C) = cn (fun i => cKd C i = 3) (cC C) := cn_c (fun i hi => by rw [pk_un (by omega)])
    refine ⟨⟨?_, ?_⟩, ⟨?_, ?_, ?_, ?_, ?_⟩, h3, ?_, fun i hi => ?_⟩
    · rw [gI_eq, t0, h1, nI_1]
      rfl
    · show cC C + 1 ≤ 60
      omega
    · rw [gB_sI, eB, f2, g2]; rfl
    · rw [gA_sI, eA, f3, g3]; rfl
    · rw [gA_sI, eA, f4, g4]; rfl
    · rw [gA_sI, eA, f5, g5]; rfl
    · rw [gA_sI, eA, f6, g6, hv]; rfl
    · rw [gI_ne (by decide)]
      show gI T 1 = nI (cn (fun i => upd (cKd C) (cC C) k i = 3) (cC C + 1))
      rcases t1 with ⟨c, t1⟩ | ⟨c, t1⟩
      · rw [cn_y (by show upd (cKd C) (cC C) k (cC C) = 3; rw [pk_us]; exact c), old, t1, h4, nI_1]
      · rw [cn_n (by show ¬ upd (cKd C) (cC C) k (cC C) = 3; rw [pk_us]; exact c), old, t1, h4]
    · have hi : i < cC C + 1 := hi
      rw [gA_sI, gA_sI, gB_sI, eA, eA, eB, f8, f9, f10]
      by_cases q : i = cC C
      · rw [q, pk_us, pk_us, pk_uLs]
        exact ⟨rfl, rfl, rfl⟩
      · rw [pk_un q, pk_un q, pk_uLn q]
        exact h5 i (by omega)
