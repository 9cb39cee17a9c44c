/-! answers that hang on the CIRCUIT's NAMES and kinds alone -/
theorem zb_eq {x y : Int32} (hx : zb x) (hy : zb y) (h : x ≠ 0 ↔ y ≠ 0) : x = y := by
  rcases hx with q | q
  · rcases hy with r | r
    · rw [q, r]
    · exact absurd q (h.mpr (by rw [r]; exact ne10))
  · rcases hy with r | r
    · exact absurd r (h.mp (by rw [q]; exact ne10))
    · rw [q, r]
theorem p_in {c : Nat} (hc : c ≤ 60) (p : Int32) {a : Int32} (ha : a = nI c) : Pc (if p < (0 : Int32) then some (0 : Int32) else if a ≤ p then some (0 : Int32) else some (1 : Int32)) (fun r => zb r ∧ (r ≠ 0 ↔ ∃ i, i < c ∧ p = nI i)) := by
  refine Pc_c (fun z => Pc_s ⟨zb0, fun q => absurd rfl q, fun ⟨i, hi, e⟩ => absurd z (by rw [e]; exact nI_pos (by omega))⟩) (fun z => Pc_c (fun y => Pc_s ⟨zb0, fun q => absurd rfl q, fun ⟨i, hi, e⟩ => ?_⟩) (fun y => Pc_s ⟨zb1, fun _ => ?_, fun _ => ne10⟩))
  · rw [ha, e, nI_leI (by omega) (by omega)] at y
    omega
  · rcases pk_ix p (n := c) (by omega) with q | q | q
    · exact absurd q z
    · rw [ha] at y
      exact absurd q y
    · exact q
def IK (c : Nat) (kd : Nat → Int32) (p k : Int32) : Prop := ∃ i, i < c ∧ p = nI i ∧ kd i = k
theorem p_isKind {S0 : SS} {c : Nat} (hc : c ≤ 60) (h0 : gI S0 0 = nI c) (p k : Int32) : Pc (f_X0_isKind S0 p k) (fun r => zb r ∧ (r ≠ 0 ↔ IK c (gA S0 4) p k)) := by
  refine Pc_B (p_in hc p h0) (fun r hr => Pc_c (fun z => Pc_s ⟨zb0, fun q => absurd rfl q, fun ⟨i, hi, e, _⟩ => absurd z (hr.2.mpr ⟨i, hi, e⟩)⟩) (fun z => Pc_G (fun _ => ?_)))
  obtain ⟨i, hi, e⟩ := hr.2.mp z
  rw [e, nI_clamp (by omega)]
  refine Pc_c (fun y => Pc_s ⟨zb1, fun _ => ⟨i, hi, rfl, y⟩, fun _ => ne10⟩) (fun y => Pc_s ⟨zb0, fun q => absurd rfl q, fun ⟨j, hj, e2, e3⟩ => ?_⟩)
  have : i = j := (nI_eq (by omega) (by omega)).mp e2
  rw [← this] at e3
  exact absurd e3 y
theorem q_set6 {S6 S0 : SS} {c : Nat} (hc : c ≤ 60) (h0 : gI S0 0 = nI c) (p v : Int32) : Pc (f_X6_set S6 S0 p v) (fun w => zb w.1 ∧ (w.1 ≠ 0 ↔ IK c (gA S0 4) p 0 ∧ ¬ v < 0 ∧ v ≤ 3)) := by
  refine Pc_B (p_isKind hc h0 p 0) (fun r hr => Pc_c (fun z => Pc_s ⟨zb0, fun q => absurd rfl q, fun q => absurd z (hr.2.mpr q.1)⟩) (fun z => Pc_c (fun y => Pc_s ⟨zb0, fun q => absurd rfl q, fun q => absurd y q.2.1⟩) (fun y => Pc_c (fun x => Pc_G (fun _ => Pc_l (Pc_B (P := fun _ => True) (fun _ _ => trivial) (fun A _ => Pc_s ⟨zb1, fun _ => ⟨hr.2.mp z, y, x⟩, fun _ => ne10⟩)))) (fun x => Pc_s ⟨zb0, fun q => absurd rfl q, fun q => absurd q.2.2 x⟩))))
theorem q_load6 {S6 S0 : SS} {c : Nat} (hc : c ≤ 60) (h0 : gI S0 0 = nI c) (p v : Int32) : Pc (f_X6_load S6 S0 p v) (fun w => zb w.1 ∧ (w.1 ≠ 0 ↔ IK c (gA S0 4) p 3 ∧ ¬ v < 0 ∧ v ≤ 2)) := by
  refine Pc_B (p_isKind hc h0 p 3) (fun r hr => Pc_c (fun z => Pc_s ⟨zb0, fun q => absurd rfl q, fun q => absurd z (hr.2.mpr q.1)⟩) (fun z => Pc_c (fun y => Pc_s ⟨zb0, fun q => absurd rfl q, fun q => absurd y q.2.1⟩) (fun y => Pc_c (fun x => Pc_G (fun _ => Pc_l (Pc_B (P := fun _ => True) (fun _ _ => trivial) (fun A _ => Pc_s ⟨zb1, fun _ => ⟨hr.2.mp z, y, x⟩, fun _ => ne10⟩)))) (fun x => Pc_s ⟨zb0, fun q => absurd rfl q, fun q => absurd q.2.2 x⟩))))
theorem q_put6 {S6 S0 S4 : SS} {c : Nat} (hc : c ≤ 60) (h0 : gI S0 0 = nI c) (p v : Int32) : Pc (f_X6_put S6 S0 S4 p v) (fun w => zb w.1 ∧ (w.1 ≠ 0 ↔ gI S6 11 ≠ 0 ∧ IK c (gA S0 4) p 0 ∧ ¬ v < 0 ∧ v ≤ 3)) := by
  refine Pc_c (fun u => Pc_s ⟨zb0, fun q => absurd rfl q, fun q => absurd u q.1⟩) (fun u => Pc_B (p_isKind hc h0 p 0) (fun r hr => Pc_c (fun z => Pc_s ⟨zb0, fun q => absurd rfl q, fun q => absurd z (hr.2.mpr q.2.1)⟩) (fun z => Pc_c (fun y => Pc_s ⟨zb0, fun q => absurd rfl q, fun q => absurd y q.2.2.1⟩) (fun y => Pc_c (fun x => Pc_B (P := fun _ => True) (fun _ _ => trivial) (fun A _ => ?_)) (fun x => Pc_s ⟨zb0, fun q => absurd rfl q, fun q => absurd q.2.2.2 x⟩)))))
  obtain ⟨A1, A2⟩ := A
  exact Pc_s ⟨zb1, fun _ => ⟨u, hr.2.mp z, y, x⟩, fun _ => ne10⟩
/-- the reference's kinds -/
theorem p_kind7 {S7 : SS} {b i : Nat} (hb : b ≤ 1) (h30 : gI S7 30 = nI b) (hi : i < 60) : Pc (f_X7_kind S7 (nI i)) (fun r => r = gA S7 12 (60 * b + i)) := by
  refine Pc_G (fun _ => Pc_s ?_)
  rw [h30, i60 hb, nI_clamp (by omega)]
theorem q_set7 {S7 : SS} {b c : Nat} {kd : Nat → Int32} (hc : c ≤ 60) (hb : b ≤ 1) (h29 : gI S7 29 = nI c) (h30 : gI S7 30 = nI b) (hk : ∀ i, i < c → gA S7 12 (60 * b + i) = kd i) (p v : Int32) : Pc (f_X7_set S7 p v) (fun w => zb w.1 ∧ (w.1 ≠ 0 ↔ IK c kd p 0 ∧ ¬ v < 0 ∧ v ≤ 3)) := by
  refine Pc_B (p_in hc p h29) (fun r hr => Pc_c (fun z => Pc_s ⟨zb0, fun q => absurd rfl q, fun q => ?_⟩) (fun z => ?_))
  · obtain ⟨i, hi, e, _⟩ := q.1
    exact absurd z (hr.2.mpr ⟨i, hi, e⟩)
  · obtain ⟨i, hi, e⟩ := hr.2.mp z
    subst e
    have no : gA S7 12 (60 * b + i) ≠ 0 → ¬ IK c kd (nI i) 0 := fun y ⟨j, hj, e2, e3⟩ => by
      have : i = j := (nI_eq (by omega) (by omega)).mp e2
      rw [← this, ← hk i hi] at e3
      exact y e3
    refine Pc_B (p_kind7 hb h30 (by omega)) (fun k ek => Pc_c (fun y => Pc_c (fun x => Pc_s ⟨zb0, fun q => absurd rfl q, fun q => absurd x q.2.1⟩) (fun x => Pc_c (fun u => Pc_G (fun _ => Pc_l (Pc_B (P := fun _ => True) (fun _ _ => trivial) (fun A _ => Pc_s ⟨zb1, fun _ => ⟨⟨i, hi, rfl, ?_⟩, x, u⟩, fun _ => ne10⟩)))) (fun u => Pc_s ⟨zb0, fun q => absurd rfl q, fun q => absurd q.2.2 u⟩))) (fun y => Pc_s ⟨zb0, fun q => absurd rfl q, fun q => absurd q.1 (no (by rw [← ek]; exact y))⟩))
    rw [← hk i hi, ← ek]
    exact y
theorem q_load7 {S7 : SS} {b c : Nat} {kd : Nat → Int32} (hc : c ≤ 60) (hb : b ≤ 1) (h29 : gI S7 29 = nI c) (h30 : gI S7 30 = nI b) (hk : ∀ i, i < c → gA S7 12 (60 * b + i) = kd i) (p v : Int32) : Pc (f_X7_load S7 p v) (fun w => zb w.1 ∧ (w.1 ≠ 0 ↔ IK c kd p 3 ∧ ¬ v < 0 ∧ v ≤ 2)) := by
  refine Pc_B (p_in hc p h29) (fun r hr => Pc_c (fun z => Pc_s ⟨zb0, fun q => absurd rfl q, fun q => ?_⟩) (fun z => ?_))
  · obtain ⟨i, hi, e, _⟩ := q.1
    exact absurd z (hr.2.mpr ⟨i, hi, e⟩)
  · obtain ⟨i, hi, e⟩ := hr.2.mp z
    subst e
    have no : gA S7 12 (60 * b + i) ≠ 3 → ¬ IK c kd (nI i) 3 := fun y ⟨j, hj, e2, e3⟩ => by
      have : i = j := (nI_eq (by omega) (by omega)).mp e2
      rw [← this, ← hk i hi] at e3
      exact y e3
    refine Pc_B (p_kind7 hb h30 (by omega)) (fun k ek => Pc_c (fun y => Pc_c (fun x => Pc_s ⟨zb0, fun q => absurd rfl q, fun q => absurd x q.2.1⟩) (fun x => Pc_c (fun u => Pc_G (fun _ => Pc_l (Pc_B (P := fun _ => True) (fun _ _ => trivial) (fun A _ => Pc_s ⟨zb1, fun _ => ⟨⟨i, hi, rfl, ?_⟩, x, u⟩, fun _ => ne10⟩)))) (fun u => Pc_s ⟨zb0, fun q => absurd rfl q, fun q => absurd q.2.2 u⟩))) (fun y => Pc_s ⟨zb0, fun q => absurd rfl q, fun q => absurd q.1 (no (by rw [← ek]; exact y))⟩))
    rw [← hk i hi, ← ek]
    exact y
theorem q_put7 {S7 : SS} {b c : Nat} {kd : Nat → Int32} (hc : c ≤ 60) (hb : b ≤ 1) (h29 : gI S7 29 = nI c) (h30 : gI S7 30 = nI b) (hk : ∀ i, i < c → gA S7 12 (60 * b + i) = kd i) (p v : Int32) : Pc (f_X7_put S7 p v) (fun w => zb w.1 ∧ (w.1 ≠ 0 ↔ gI S7 46 ≠ 0 ∧ IK c kd p 0 ∧ ¬ v < 0 ∧ v ≤ 3)) := by
  refine Pc_c (fun h => Pc_s ⟨zb0, fun q => absurd rfl q, fun q => absurd h q.1⟩) (fun h => Pc_B (p_in hc p h29) (fun r hr => Pc_c (fun z => Pc_s ⟨zb0, fun q => absurd rfl q, fun q => ?_⟩) (fun z => ?_)))
  · obtain ⟨i, hi, e, _⟩ := q.2.1
    exact absurd z (hr.2.mpr ⟨i, hi, e⟩)
  · obtain ⟨i, hi, e⟩ := hr.2.mp z
    subst e
    have no : gA S7 12 (60 * b + i) ≠ 0 → ¬ IK c kd (nI i) 0 := fun y ⟨j, hj, e2, e3⟩ => by
      have : i = j := (nI_eq (by omega) (by omega)).mp e2
      rw [← this, ← hk i hi] at e3
      exact y e3
    refine Pc_B (p_kind7 hb h30 (by omega)) (fun k ek => Pc_c (fun y => Pc_c (fun x => Pc_s ⟨zb0, fun q => absurd rfl q, fun q => absurd x q.2.2.1⟩) (fun x => Pc_c (fun u => Pc_G (fun _ => ?_)) (fun u => Pc_s ⟨zb0, fun q => absurd rfl q, fun q => absurd q.2.2.2 u⟩))) (fun y => Pc_s ⟨zb0, fun q => absurd rfl q, fun q => absurd q.2.1 (no (by rw [← ek]; exact y))⟩))
    have ik : IK c kd (nI i) 0 := ⟨i, hi, rfl, by rw [← hk i hi, ← ek]; exact y⟩
    exact Pc_c (fun _ => Pc_s ⟨zb1, fun _ => ⟨h, ik, x, u⟩, fun _ => ne10⟩) (fun _ => Pc_B (P := fun _ => True) (fun _ _ => trivial) (fun A _ => Pc_s ⟨zb1, fun _ => ⟨h, ik, x, u⟩, fun _ => ne10⟩))
/-! NAMES without their zero bytes -/
theorem bL_ushr {w : Int64} {j : Nat} (hj : j < 64) (i : Nat) : bL (jLu w (nI j)) i = bL w (j + i) := by
  have hs : ∀ k : Fin 64, ((nI k.val).toInt64.toUInt64 &&& Int64.toUInt64 63).toNat = k.val := by decide +kernel
  have hs := hs ⟨j, hj⟩
  have e : (jLu w (nI j)).toBitVec = w.toBitVec >>> j := by
    apply BitVec.eq_of_toNat_eq
    show (w.toUInt64 >>> ((nI j).toInt64.toUInt64 &&& Int64.toUInt64 63)).toNat = _
    rw [UInt64.toNat_shiftRight, hs, Nat.mod_eq_of_lt hj, BitVec.toNat_ushiftRight]
    rfl
  unfold bL
  rw [e, BitVec.getLsbD_ushiftRight]
theorem bL_sshr {w : Int64} {j : Nat} (hj : j < 64) {i : Nat} (hi : j + i < 64) : bL (jLr w (nI j)) i = bL w (j + i) := by
  have hs : ∀ k : Fin 64, (((nI k.val).toInt64 &&& 63).toBitVec.smod 64).toNat = k.val := by decide +kernel
  have hs := hs ⟨j, hj⟩
  unfold bL jLr
  rw [Int64.toBitVec_shiftRight]
  show (w.toBitVec.sshiftRight (((nI j).toInt64 &&& 63).toBitVec.smod 64).toNat).getLsbD i = _
  rw [hs, BitVec.getLsbD_sshiftRight]
  simp [hi, show i < 64 by omega]
theorem bL_255 : ∀ i : Fin 64, bL 255 i.val = decide (i.val < 8) := by decide +kernel
theorem by_eq {w : Int64} {j : Nat} (hj : j ≤ 56) : (jLu w (nI j)) &&& (255 : Int64) = (jLr w (nI j)) &&& (255 : Int64) := by
  apply Int64.toBitVec_inj.mp
  apply BitVec.eq_of_getLsbD_eq
  intro i hi
  have q : bL 255 i = decide (i < 8) := bL_255 ⟨i, hi⟩
  rw [Int64.toBitVec_and, Int64.toBitVec_and, BitVec.getLsbD_and, BitVec.getLsbD_and]
  show (bL (jLu w (nI j)) i && bL 255 i) = (bL (jLr w (nI j)) i && bL 255 i)
  rw [q]
  by_cases h : i < 8
  · rw [bL_ushr (by omega), bL_sshr (by omega) (by omega)]
  · rw [decide_eq_false h, Bool.and_false, Bool.and_false]
theorem v56 : ∀ q : Fin 8, (¬ Int32.ofInt (56 - 8 * (q.val : Int)) < 0) ∧ Int32.ofInt (56 - 8 * (q.val : Int)) = nI (56 - 8 * q.val) ∧ Int32.ofInt (56 - 8 * (q.val : Int)) + Int32.ofInt (-8) = Int32.ofInt (56 - 8 * ((q.val + 1 : Nat) : Int)) := by decide
theorem nm_8 (p x : Int64) (y : Int32) (n : Nat) (v8 : y < 0) : zI (b_X6_named_6 p) (n + 1) (x, y) = zI (b_X7_plain_6 p) (n + 1) (x, y) := by
  have h6 : b_X6_named_6 p (x, y) = some (Sum.inr x) := E_y v8 rfl
  have h7 : b_X7_plain_6 p (x, y) = some (Sum.inr x) := E_y v8 rfl
  rw [zI_e h6, zI_e h7]
theorem nm_s (p x : Int64) (y y' : Int32) (n : Nat) (w1 : ¬ y < 0) (w3 : y + Int32.ofInt (-8) = y') (e : (jLu p y) &&& (255 : Int64) = (jLr p y) &&& (255 : Int64)) (ihh : ∀ x, zI (b_X6_named_6 p) n (x, y') = zI (b_X7_plain_6 p) n (x, y')) : zI (b_X6_named_6 p) (n + 1) (x, y) = zI (b_X7_plain_6 p) (n + 1) (x, y) := by
  by_cases z : (jLr p y) &&& (255 : Int64) = 0
  · have h6 : b_X6_named_6 p (x, y) = some (Sum.inl (x, y + Int32.ofInt (-8))) := E_n w1 (E_y (lc_eq.mpr (e.trans z)) rfl)
    have h7 : b_X7_plain_6 p (x, y) = some (Sum.inl (x, y + Int32.ofInt (-8))) := E_n w1 (E_y (lc_eq.mpr z) rfl)
    rw [zI_1 h6, zI_1 h7, w3]
    exact ihh x
  · have h6 : b_X6_named_6 p (x, y) = some (Sum.inl ((jLs x (8 : Int32)) ||| ((jLu p y) &&& (255 : Int64)), y + Int32.ofInt (-8))) := E_n w1 (E_n (fun q => z (e.symm.trans (lc_eq.mp q))) rfl)
    have h7 : b_X7_plain_6 p (x, y) = some (Sum.inl ((jLs x (8 : Int32)) ||| ((jLr p y) &&& (255 : Int64)), y + Int32.ofInt (-8))) := E_n w1 (E_n (fun q => z (lc_eq.mp q)) rfl)
    rw [zI_1 h6, zI_1 h7, e, w3]
    exact ihh _
def v56' (c : Nat) : Int32 := Int32.ofInt (56 - 8 * (c : Int))
theorem v56_8 : v56' 8 < 0 := by decide
theorem v56_s {c : Nat} (h : c < 8) : (¬ v56' c < 0) ∧ v56' c = nI (56 - 8 * c) ∧ v56' c + Int32.ofInt (-8) = v56' (c + 1) := v56 ⟨c, h⟩
theorem zI_z {V E : Type} (b : V → Option (V ⊕ E)) (v : V) : zI b 0 v = none := rfl
theorem nm_eq (p : Int64) : ∀ (n c : Nat) (x : Int64), c ≤ 8 → zI (b_X6_named_6 p) n (x, v56' c) = zI (b_X7_plain_6 p) n (x, v56' c) := by
  intro n
  induction n with
  | zero => intro c x hc; rw [zI_z, zI_z]
  | succ n ih =>
    intro c x hc
    rcases Nat.lt_or_ge c 8 with c8 | c8
    · obtain ⟨w1, w2, w3⟩ := v56_s c8
      exact nm_s p x _ _ n w1 w3 (by rw [w2]; exact by_eq (by omega)) (fun x => ih (c + 1) x (by omega))
    · have e : c = 8 := by omega
      rw [e]
      exact nm_8 p x _ n v56_8
theorem e_nam7 {X : SS} {b c : Nat} (h : gI X 29 = nI c) (hc : c ≤ 60) (h30 : gI X 30 = nI b) (hb : b ≤ 1) (w : Int64) : zI (b_X7_named_8 X w) zF (0 : Int32) = some (ix (fun i => gB X 11 (60 * b + i)) w c) := by
  have st : ∀ j, j < c → (nI j).toInt = j ∧ (((60 : Int32) * gI X 30) + nI j).toInt = (60 * b + j : Nat) ∧ (((60 : Int32) * gI X 30) + nI j).toNatClampNeg = 60 * b + j ∧ ¬ gI X 29 ≤ nI j := fun j hj => ⟨nI_toInt (by omega), by rw [h30, i60 hb, nI_toInt (by omega)], by rw [h30, i60 hb, nI_clamp (by omega)], by rw [h, nI_leI (by omega) (by omega)]; omega⟩
  refine e_ixf (b := b_X7_named_8 X w) (by omega) ?_ (fun j hj q => ?_) (fun j hj q => ?_)
  · exact E_y (by rw [h]; exact (nI_leI (by omega) (by omega)).mpr (Nat.le_refl _)) rfl
  · obtain ⟨ej, e6, cl, nl⟩ := st j hj
    exact E_n nl (E_G (ti_in (by omega) (by omega)) (E_y (lc_eq.mpr (by rw [cl]; exact q)) rfl))
  · obtain ⟨ej, e6, cl, nl⟩ := st j hj
    refine E_n nl (E_G (ti_in (by omega) (by omega)) (E_n (fun z => q (by have := lc_eq.mp z; rwa [cl] at this)) ?_))
    show some (Sum.inl (nI j + 1)) = _
    rw [nI_1]
theorem q_named {S6 S0 S7 : SS} {b c : Nat} (hc : c ≤ 60) (hb : b ≤ 1) (h0 : gI S0 0 = nI c) (h29 : gI S7 29 = nI c) (h30 : gI S7 30 = nI b) (hn : ∀ i, i < c → gB S0 2 i = gB S7 11 (60 * b + i)) (p : Int64) {rx rm : Int32} (ex : f_X6_named S6 S0 p = some rx) (em : f_X7_named S7 p = some rm) : rx = rm := by
  obtain ⟨u, e1, ex⟩ := zB_spec ex
  obtain ⟨w, e2, ex⟩ := zB_spec ex
  obtain ⟨u7, e3, em⟩ := zB_spec em
  have q := nm_eq p zF 0 0 (by omega)
  have e1 : zI (b_X6_named_6 p) zF ((0 : Int64), v56' 0) = some u := e1
  have e3 : zI (b_X7_plain_6 p) zF ((0 : Int64), v56' 0) = some u7 := e3
  rw [q, e3] at e1
  cases e1
  rw [e_find h0 hc] at e2
  rw [e_nam7 h29 hc h30 hb] at em
  have e4 : ix (gB S0 2) u c = ix (fun i => gB S7 11 (60 * b + i)) u c := ix_c hn
  cases e2
  cases ex
  cases em
  exact e4
/-! the CIRCUITS between calls -/
def CR (S0 S7 : SS) : Prop := (gI S0 0 = 0 ∧ gI S0 1 = 0 ∧ gI S7 29 = 0) ∨ ∃ b C Z, b ≤ 1 ∧ gI S7 30 = nI b ∧ gI S7 29 = nI (cC C) ∧ RDY b C S0 Z ∧ SB b Z S7
theorem SB_t {b : Nat} {S T U : SS} (h : SB b S T) (g : SB b T U) : SB b S U := by
  obtain ⟨h1, h2, h3⟩ := h
  obtain ⟨g1, g2, g3⟩ := g
  refine ⟨fun i hi => ?_, fun j hj => (g2 j hj).trans (h2 j hj), fun j hj => (g3 j hj).trans (h3 j hj)⟩
  obtain ⟨a1, a2, a3, a4, a5, a6⟩ := h1 i hi
  obtain ⟨b1, b2, b3, b4, b5, b6⟩ := g1 i hi
  exact ⟨b1.trans a1, b2.trans a2, b3.trans a3, b4.trans a4, b5.trans a5, b6.trans a6⟩
theorem CR_KW {S0 S7 D : SS} (h : CR S0 S7) (g : KW S7 D) : CR S0 D := by
  obtain ⟨g1, g2, g3⟩ := g
  rcases h with ⟨h1, hr, h2⟩ | ⟨b, C, Z, h1, h2, h3, h4, h5⟩
  · exact Or.inl ⟨h1, hr, by rw [g1 29 (by decide)]; exact h2⟩
  · refine Or.inr ⟨b, C, Z, h1, by rw [g1 30 (by decide)]; exact h2, by rw [g1 29 (by decide)]; exact h3, h4, SB_t h5 ⟨fun i _ => ?_, fun j _ => by rw [g2 16 (by decide)], fun j _ => by rw [g2 19 (by decide)]⟩⟩
    rw [g3, g2 12 (by decide), g2 13 (by decide), g2 14 (by decide), g2 15 (by decide), g2 17 (by decide)]
    exact ⟨rfl, rfl, rfl, rfl, rfl, rfl⟩
theorem CR_KP {S0 S7 D : SS} (h : CR S0 S7) (g : KP S7 D) : CR S0 D := CR_KW h ⟨g.1, g.2.1, g.2.2.1⟩
theorem CR_k {S0 S7 : SS} (h : CR S0 S7) (h30 : IV 0 1 (gI S7 30)) : ∃ c b, c ≤ 60 ∧ b ≤ 1 ∧ gI S7 30 = nI b ∧ gI S0 0 = nI c ∧ gI S7 29 = nI c ∧ ∀ i, i < c → gB S0 2 i = gB S7 11 (60 * b + i) ∧ gA S7 12 (60 * b + i) = gA S0 4 i := by
  rcases h with ⟨h1, hr, h2⟩ | ⟨b, C, Z, h1, h2, h3, h4, h5⟩
  · refine ⟨0, (gI S7 30).toInt.toNat, by omega, by have := h30.2; omega, ?_, h1, h2, fun i hi => absurd hi (Nat.not_lt_zero _)⟩
    apply Int32.toInt_inj.mp
    have := h30.1
    have := h30.2
    rw [nI_toInt (by omega)]
    omega
  · obtain ⟨⟨U, lk, k0, _⟩, ⟨X, Y1, ln, f3, rk, f17⟩, _⟩ := h4
    have hc : cC C ≤ 60 := lk.1.1.2
    refine ⟨cC C, b, hc, h1, h2, by rw [k0.1]; exact lk.1.1.1, h3, fun i hi => ?_⟩
    obtain ⟨a1, a2, _⟩ := h5.1 i (by omega)
    obtain ⟨n1, n2, _⟩ := ln.1.2.2 i hi
    refine ⟨?_, ?_⟩
    · rw [a1, f17.2.2, f3.2.2, n1, k0.2.2, lk.1.2.1.1]
    · rw [a2, f17.2.1 12 (by decide) (by decide), f3.2.1 12 (by decide) (by decide) (by decide), n2, k0.2.1 4 (by decide) (by decide), lk.1.2.1.2.2.1]
theorem CR_bad {S0 S7 F : SS} (h : CR S0 S7) (h30 : gI F 30 = gI S7 30) (h29 : gI F 29 = gI S7 29) (sb : ∀ b, b ≤ 1 → gI S7 30 = nI b → SB b S7 F) : CR S0 F := by
  rcases h with ⟨h1, hr, h2⟩ | ⟨b, C, Z, h1, h2, h3, h4, h5⟩
  · exact Or.inl ⟨h1, hr, h29.trans h2⟩
  · exact Or.inr ⟨b, C, Z, h1, h30.trans h2, h29.trans h3, h4, SB_t h5 (sb b h1 h2)⟩
/-! both have a wheel from then on -/
theorem wh6 (S6 S0 S4 : SS) : Pc (f_X6_wheel S6 S0 S4) (fun w => gI w.2.1 11 = 1) := Pc_B (P := fun _ => True) (fun _ _ => trivial) (fun _ _ => Pc_l (Pc_s gI_eq))
theorem kp_X7_wheel_65 (S7 : SS) (v16 : Int32) (v : (Int32 × SS)) (hv : KP S7 v.2) : Pc (b_X7_wheel_65 v16 v) (PcI (fun v : (Int32 × SS) => KP S7 v.2) (fun w => KP S7 w)) := by
  obtain ⟨v39, s7_40⟩ := v
  have h_s7_40 : KP S7 s7_40 := hv
  unfold b_X7_wheel_65
  refine Pc_c (fun _ => ?_) (fun _ => ?_)
  · exact Pc_s h_s7_40
  · refine Pc_G (fun _ => ?_)
    refine Pc_L (fun s7_44 e1 => ?_)
    have h_s7_44 : KP S7 s7_44 := by rw [e1]; exact KP_A (by decide) h_s7_40
    refine Pc_L (fun v45 _ => ?_)
    exact Pc_s h_s7_44
theorem kp_X7_wheel_17 (S7 : SS) (v : (Int32 × SS)) (hv : KP S7 v.2) : Pc (b_X7_wheel_17  v) (PcI (fun v : (Int32 × SS) => KP S7 v.2) (fun w => KP S7 w.2)) := by
  obtain ⟨v16, s7_17⟩ := v
  have h_s7_17 : KP S7 s7_17 := hv
  unfold b_X7_wheel_17
  refine Pc_c (fun _ => ?_) (fun _ => ?_)
  · exact Pc_s h_s7_17
  · refine Pc_G (fun _ => ?_)
    refine Pc_L (fun s7_21 e2 => ?_)
    have h_s7_21 : KP S7 s7_21 := by rw [e2]; exact KP_A (by decide) h_s7_17
    refine Pc_L (fun s7_23 e3 => ?_)
    have h_s7_23 : KP S7 s7_23 := by rw [e3]; exact KP_A (by decide) h_s7_21
    refine Pc_L (fun s7_25 e4 => ?_)
    have h_s7_25 : KP S7 s7_25 := by rw [e4]; exact KP_A (by decide) h_s7_23
    refine Pc_L (fun s7_27 e5 => ?_)
    have h_s7_27 : KP S7 s7_27 := by rw [e5]; exact KP_A (by decide) h_s7_25
    refine Pc_B (Pc_I (fun v => KP S7 v.2) (fun v hv => kp_X7_wheel_65 S7 v16 v hv) _ h_s7_27) (fun s7_37 h6 => ?_)
    have h_s7_37 : KP S7 s7_37 := h6
    refine Pc_L (fun v38 _ => ?_)
    exact Pc_s h_s7_37
theorem wh7 (S7 : SS) : Pc (f_X7_wheel S7) (fun w => gI w.2 46 = 1) := by
  refine Pc_l (Pc_l (Pc_L (fun A eA => ?_)))
  have a46 : gI A 46 = 1 := by rw [eA, gI_ne (by decide), gI_ne (by decide), gI_eq]
  refine Pc_w (Pc_I (fun v => KP A v.2) (fun v hv => kp_X7_wheel_17 A v hv) _ (KP_r A)) (fun w hw => ?_)
  exact hw.2.2.2.trans a46
