/-! WORLDS: 64 at a time -/
def gbt (g : Int32) (z o : Nat) : Bool := (decide (g &&& (1 : Int32) = 1)) != (if g &&& (-2 : Int32) = 2 then decide (0 < o) else if g &&& (-2 : Int32) = 4 then decide (o % 2 = 1) else decide (z = 0))
noncomputable def zw (S0 : SS) (g : Nat → Bool) (v : Bool) (i m : Nat) : Nat := cn (fun j => g (pn S0 i j) = v) m
noncomputable def w2g (S0 : SS) (g : Nat → Bool) (i : Nat) : Bool := if gA S0 5 i = 8 then (if g (pn S0 i 0) = true then g (pn S0 i 2) else g (pn S0 i 1)) else gbt (gA S0 5 i) (zw S0 g false i (sz S0 i)) (zw S0 g true i (sz S0 i))
def dn (S0 : SS) (g : Nat → Bool) (i j : Nat) : Bool := (bI (gA S0 9 i) j) != (g (pn S0 i (2 * j + 1)))
def bor (S0 : SS) (g : Nat → Bool) (i : Nat) : Nat → Bool
  | 0 => false
  | j + 1 => bor S0 g i j || (dn S0 g i j && g (pn S0 i (2 * j)))
noncomputable def nod (S0 : SS) (g : Nat → Bool) (i m : Nat) : Nat := cn (fun j => dn S0 g i j = true) m
def ONE (S0 : SS) (g : Nat → Bool) (i : Nat) : Prop := nod S0 g i (sz S0 i) = 1
noncomputable def NV2 (S0 : SS) (g : Nat → Bool) (i : Nat) : Bool := if gA S0 4 i = 2 then w2g S0 g i else if gA S0 4 i = 1 then bor S0 g i (sz S0 i) else g i
theorem bor_c {S0 : SS} {f f' : Nat → Bool} {i : Nat} : ∀ {m : Nat}, (∀ j, j < 2 * m → f (pn S0 i j) = f' (pn S0 i j)) → bor S0 f i m = bor S0 f' i m := by
  intro m
  induction m with
  | zero => intro _; rfl
  | succ m ih =>
    intro h
    show (bor S0 f i m || (dn S0 f i m && f (pn S0 i (2 * m)))) = (bor S0 f' i m || (dn S0 f' i m && f' (pn S0 i (2 * m))))
    unfold dn
    rw [ih (fun j hj => h j (by omega)), h (2 * m + 1) (by omega), h (2 * m) (by omega)]
theorem nod_c {S0 : SS} {f f' : Nat → Bool} {i m : Nat} (h : ∀ j, j < 2 * m → f (pn S0 i j) = f' (pn S0 i j)) : nod S0 f i m = nod S0 f' i m := cn_c (fun j hj => by
  unfold dn
  rw [h (2 * j + 1) (by omega)])
theorem NV2_c {b c : Nat} {E : Nat → Nat → Prop} {M : Nat → Nat} {S0 Y : SS} (h : CE b c E M S0 Y) {i : Nat} (hi : i < c) (g : GBn S0 i) {f f' : Nat → Bool} (hf : ∀ y, y < c → E i y → f y = f' y) : NV2 S0 f i = NV2 S0 f' i ∧ (gA S0 4 i = 1 → nod S0 f i (sz S0 i) = nod S0 f' i (sz S0 i)) := by
  have hn := HN_sz h hi
  have pe : ∀ j, j < HN M S0 i → f (pn S0 i j) = f' (pn S0 i j) := fun j hj => by
    obtain ⟨a, e⟩ := CE_Ep h hi g hj
    exact hf _ a e
  unfold NV2
  rcases g with k | k
  · rw [if_pos k] at hn
    have h2 : ¬ gA S0 4 i = 2 := by rw [k]; decide
    rw [if_neg h2, if_pos k, if_neg h2, if_pos k]
    exact ⟨bor_c (fun j hj => pe j (by omega)), fun _ => nod_c (fun j hj => pe j (by omega))⟩
  · rw [if_neg (by rw [k]; decide)] at hn
    rw [if_pos k, if_pos k]
    refine ⟨?_, fun q => absurd q (by rw [k]; decide)⟩
    unfold w2g
    by_cases q8 : gA S0 5 i = 8
    · have m3 := mux3 h hi k q8
      rw [if_pos q8, if_pos q8, pe 0 (by omega), pe 1 (by omega), pe 2 (by omega)]
    · rw [if_neg q8, if_neg q8]
      have e : ∀ v, zw S0 f v i (sz S0 i) = zw S0 f' v i (sz S0 i) := fun v => cn_c (fun j hj => by rw [pe j (by omega)])
      rw [e, e]
/-- a WORLD: g follows from the sources s -/
def WSL (c : Nat) (S0 : SS) (s g : Nat → Bool) : Prop := ∀ i, i < c → (GBn S0 i → g i = NV2 S0 g i) ∧ (¬ GBn S0 i → g i = s i)
theorem WSL_u {b c : Nat} {E : Nat → Nat → Prop} {M : Nat → Nat} {S0 Y : SS} (h : CE b c E M S0 Y) {f f' g g' : Nat → Bool} (s : WSL c S0 f g) (s' : WSL c S0 f' g') (hf : ∀ i, i < c → ¬ GBn S0 i → f i = f' i) : ∀ i, i < c → g i = g' i := by
  have hc := h.1.1
  obtain ⟨od, _, pl, _⟩ := h.2.2.2.2.2.1
  have go : ∀ k, k < c → ∀ i, i < c → gA S0 12 k = nI i → g i = g' i := by
    intro k
    induction k using Nat.strongRecOn with
    | ind k ih =>
      intro hk i hi e
      by_cases q : GBn S0 i
      · rw [(s i hi).1 q, (s' i hi).1 q]
        refine (NV2_c h hi q (fun y hy ey => ?_)).1
        obtain ⟨k', k1, k2⟩ := OD_E od hc hk hi e y ey
        exact ih k' k1 (by omega) y hy k2
      · rw [(s i hi).2 q, (s' i hi).2 q]
        exact hf i hi q
  intro i hi
  obtain ⟨k, k1, k2⟩ := pl i hi
  exact go k k1 i hi k2
def LGL (c : Nat) (S0 : SS) (g : Nat → Bool) : Prop := ∀ i, i < c → gA S0 4 i = 1 → ONE S0 g i
theorem LGL_c {b c : Nat} {E : Nat → Nat → Prop} {M : Nat → Nat} {S0 Y : SS} (h : CE b c E M S0 Y) {g g' : Nat → Bool} (e : ∀ i, i < c → g i = g' i) (l : LGL c S0 g) : LGL c S0 g' := fun i hi ki => by
  have q := l i hi ki
  unfold ONE at q ⊢
  rw [← (NV2_c h hi (Or.inl ki) (fun y hy _ => e y hy)).2 ki]
  exact q
/-! the class's rows, bit by bit -/
theorem bL_n {x : Int64} {w : Nat} (hw : w < 64) : bL (x ^^^ (-1 : Int64)) w = !(bL x w) := by
  have := bL_not (w := x) hw
  cases h : bL x w with
  | true =>
    rw [h] at this
    cases h2 : bL (x ^^^ (-1 : Int64)) w with
    | true => exact absurd rfl (this.mp h2)
    | false => rfl
  | false =>
    rw [h] at this
    exact this.mpr (by decide)
theorem bL_a (x y : Int64) (w : Nat) : bL (x &&& y) w = (bL x w && bL y w) := by
  unfold bL
  rw [Int64.toBitVec_and, BitVec.getLsbD_and]
theorem bL_x (x y : Int64) (w : Nat) : bL (x ^^^ y) w = (bL x w != bL y w) := by
  unfold bL
  rw [Int64.toBitVec_xor, BitVec.getLsbD_xor]
theorem bL_m1 {w : Nat} (hw : w < 64) : bL (-1 : Int64) w = true := by
  have : ∀ k : Fin 64, bL (-1 : Int64) k.val = true := by decide +kernel
  exact this ⟨w, hw⟩
/-- the first j parts of a GATE put together, not turned -/
def jnt (g : Int32) (z o : Nat) : Bool := if g &&& (-2 : Int32) = 2 then decide (0 < o) else if g &&& (-2 : Int32) = 4 then decide (o % 2 = 1) else decide (z = 0)
theorem zw_s (S0 : SS) (g : Nat → Bool) (v : Bool) (i j : Nat) : zw S0 g v i (j + 1) = zw S0 g v i j + (if g (pn S0 i j) = v then 1 else 0) := by
  unfold zw
  by_cases q : g (pn S0 i j) = v
  · rw [if_pos q, cn_y (P := fun j => g (pn S0 i j) = v) q]
  · rw [if_neg q, cn_n (P := fun j => g (pn S0 i j) = v) q, Nat.add_zero]
theorem jnt_s (g : Int32) (S0 : SS) (r : Nat → Bool) (i j : Nat) : jnt g (zw S0 r false i (j + 1)) (zw S0 r true i (j + 1)) = (if g &&& (-2 : Int32) = 2 then (jnt g (zw S0 r false i j) (zw S0 r true i j) || r (pn S0 i j)) else if g &&& (-2 : Int32) = 4 then (jnt g (zw S0 r false i j) (zw S0 r true i j) != r (pn S0 i j)) else (jnt g (zw S0 r false i j) (zw S0 r true i j) && r (pn S0 i j))) := by
  rw [zw_s, zw_s]
  generalize zw S0 r false i j = z
  generalize zw S0 r true i j = o
  unfold jnt
  by_cases c1 : g &&& (-2 : Int32) = 2
  · rw [if_pos c1, if_pos c1, if_pos c1]
    cases r (pn S0 i j) with
    | true => simp
    | false => simp
  · rw [if_neg c1, if_neg c1, if_neg c1]
    by_cases c2 : g &&& (-2 : Int32) = 4
    · rw [if_pos c2, if_pos c2, if_pos c2]
      cases r (pn S0 i j) with
      | true =>
        rw [if_pos rfl]
        rcases Nat.mod_two_eq_zero_or_one o with q | q
        · rw [decide_eq_true (by omega), decide_eq_false (by omega)]; rfl
        · rw [decide_eq_false (by omega), decide_eq_true (by omega)]; rfl
      | false =>
        rw [if_neg (by decide), Nat.add_zero]
        cases decide (o % 2 = 1) <;> rfl
    · rw [if_neg c2, if_neg c2, if_neg c2]
      cases r (pn S0 i j) with
      | true => rw [if_neg (by decide), Nat.add_zero, Bool.and_true]
      | false => rw [if_pos rfl, Bool.and_false]; exact decide_eq_false (by omega)
theorem jnt_1 (g : Int32) (S0 : SS) (r : Nat → Bool) (i : Nat) : jnt g (zw S0 r false i 1) (zw S0 r true i 1) = r (pn S0 i 0) := by
  have a : zw S0 r false i 0 = 0 := rfl
  have b : zw S0 r true i 0 = 0 := rfl
  rw [jnt_s, a, b]
  unfold jnt
  by_cases c1 : g &&& (-2 : Int32) = 2
  · rw [if_pos c1, if_pos c1]
    rfl
  · rw [if_neg c1, if_neg c1]
    by_cases c2 : g &&& (-2 : Int32) = 4
    · rw [if_pos c2, if_pos c2]
      cases r (pn S0 i 0) <;> rfl
    · rw [if_neg c2, if_neg c2]
      cases r (pn S0 i 0) <;> rfl
theorem p_gateRow {b c : Nat} {E : Nat → Nat → Prop} {M : Nat → Nat} {S0 Y S5 : SS} (h : CE b c E M S0 Y) {i : Nat} (hi : i < c) (k2 : gA S0 4 i = 2) : Pc (f_X5_gateRow S5 S0 (nI i)) (fun r => ∀ w, w < 64 → bL r w = w2g S0 (fun y => bL (gB S5 3 y) w) i) := by
  have hc := h.1.1
  obtain ⟨s6, _, es⟩ := CE_szM h hi
  have hn := HN_sz h hi
  rw [if_neg (by rw [k2]; decide)] at hn
  have m1 : 1 ≤ sz S0 i := by
    obtain ⟨_, _, kg, _⟩ := h.2.1 i hi
    obtain ⟨_, g2, g3, _⟩ := kg k2
    rw [← CE_sz h hi] at g3
    have a : ∀ k : Fin 9, 1 ≤ (sl_f k.val).toInt := by decide
    have e := ti_nat g2.1
    have := g2.2
    have := a ⟨(gA S0 5 i).toNatClampNeg, by omega⟩
    have : 1 ≤ (sl_f (gA S0 5 i).toNatClampNeg).toInt := this
    omega
  obtain ⟨a0, b0, _⟩ := CE_pn h hi (j := 0) (by omega)
  refine Pc_G (fun _ => Pc_l (Pc_e ((e_part (j := 0) (by omega) (by omega)).trans (congrArg some b0)) (Pc_G (fun _ => Pc_l ?_))))
  rw [nI_clamp (by omega), nI_clamp (by omega)]
  refine Pc_c (fun q8 => ?_) (fun q8 => ?_)
  · have m3 := mux3 h hi k2 q8
    obtain ⟨a1, b1, _⟩ := CE_pn h hi (j := 1) (by omega)
    obtain ⟨a2, b2, _⟩ := CE_pn h hi (j := 2) (by omega)
    refine Pc_e ((e_part (j := 1) (by omega) (by omega)).trans (congrArg some b1)) (Pc_G (fun _ => Pc_e ((e_part (j := 2) (by omega) (by omega)).trans (congrArg some b2)) (Pc_G (fun _ => Pc_s (fun w hw => ?_)))))
    rw [nI_clamp (by omega), nI_clamp (by omega), bL_or, bL_a, bL_a, bL_n hw]
    unfold w2g
    rw [if_pos q8]
    show _ = (if bL (gB S5 3 (pn S0 i 0)) w = true then bL (gB S5 3 (pn S0 i 2)) w else bL (gB S5 3 (pn S0 i 1)) w)
    cases bL (gB S5 3 (pn S0 i 0)) w <;> simp
  · refine Pc_e es (Pc_B (P := fun v => ∀ w, w < 64 → bL v w = jnt (gA S0 5 i) (zw S0 (fun y => bL (gB S5 3 y) w) false i (sz S0 i)) (zw S0 (fun y => bL (gB S5 3 y) w) true i (sz S0 i))) ?_ (fun v hv => ?_))
    · refine Pc_I (fun v : Int64 × Int32 => ∃ j, v.2 = nI j ∧ 1 ≤ j ∧ j ≤ sz S0 i ∧ ∀ w, w < 64 → bL v.1 w = jnt (gA S0 5 i) (zw S0 (fun y => bL (gB S5 3 y) w) false i j) (zw S0 (fun y => bL (gB S5 3 y) w) true i j)) (fun v hv => ?_) _ ⟨1, rfl, Nat.le_refl _, m1, fun w hw => by rw [jnt_1]⟩
      obtain ⟨v, x⟩ := v
      obtain ⟨j, ex, j1, hj, hv⟩ : ∃ j, x = nI j ∧ 1 ≤ j ∧ j ≤ sz S0 i ∧ ∀ w, w < 64 → bL v w = jnt (gA S0 5 i) (zw S0 (fun y => bL (gB S5 3 y) w) false i j) (zw S0 (fun y => bL (gB S5 3 y) w) true i j) := hv
      subst ex
      refine Pc_c (fun q => Pc_s ?_) (fun q => ?_)
      · rw [nI_leI (by omega) (by omega)] at q
        have : j = sz S0 i := by omega
        rw [this] at hv
        exact hv
      · rw [nI_leI (by omega) (by omega)] at q
        obtain ⟨a1, b1, _⟩ := CE_pn h hi (j := j) (by omega)
        refine Pc_e ((e_part (j := j) (by omega) (by omega)).trans (congrArg some b1)) (Pc_G (fun _ => ?_))
        rw [nI_clamp (by omega)]
        refine Pc_B (P := fun r => ∀ w, w < 64 → bL r w = jnt (gA S0 5 i) (zw S0 (fun y => bL (gB S5 3 y) w) false i (j + 1)) (zw S0 (fun y => bL (gB S5 3 y) w) true i (j + 1))) ?_ (fun r hr => Pc_l (Pc_s ⟨j + 1, nI_1 j, by omega, by omega, hr⟩))
        refine Pc_c (fun c1 => Pc_s (fun w hw => ?_)) (fun c1 => Pc_c (fun c2 => Pc_s (fun w hw => ?_)) (fun c2 => Pc_s (fun w hw => ?_)))
        · rw [jnt_s, if_pos c1, bL_or, hv w hw]
        · rw [jnt_s, if_neg c1, if_pos c2, bL_x, hv w hw]
        · rw [jnt_s, if_neg c1, if_neg c2, bL_a, hv w hw]
    · refine Pc_B (P := fun r => r = (if gA S0 5 i &&& (1 : Int32) = 1 then (1 : Int32) else 0)) (Pc_c (fun z => Pc_s (by rw [if_pos z])) (fun z => Pc_s (by rw [if_neg z]))) (fun r hr => ?_)
      have wg : ∀ w, w2g S0 (fun y => bL (gB S5 3 y) w) i = ((decide (gA S0 5 i &&& (1 : Int32) = 1)) != jnt (gA S0 5 i) (zw S0 (fun y => bL (gB S5 3 y) w) false i (sz S0 i)) (zw S0 (fun y => bL (gB S5 3 y) w) true i (sz S0 i))) := fun w => by
        unfold w2g
        rw [if_neg q8]
        rfl
      by_cases z : gA S0 5 i &&& (1 : Int32) = 1
      · rw [if_pos z] at hr
        refine Pc_c (fun y => absurd y (by rw [hr]; decide)) (fun _ => Pc_s (fun w hw => ?_))
        rw [wg, decide_eq_true z, bL_n hw, hv w hw]
        cases jnt (gA S0 5 i) (zw S0 (fun y => bL (gB S5 3 y) w) false i (sz S0 i)) (zw S0 (fun y => bL (gB S5 3 y) w) true i (sz S0 i)) <;> rfl
      · rw [if_neg z] at hr
        refine Pc_c (fun _ => Pc_s (fun w hw => ?_)) (fun y => absurd hr y)
        rw [wg, decide_eq_false z, hv w hw]
        cases jnt (gA S0 5 i) (zw S0 (fun y => bL (gB S5 3 y) w) false i (sz S0 i)) (zw S0 (fun y => bL (gB S5 3 y) w) true i (sz S0 i)) <;> rfl
theorem nod_s (S0 : SS) (g : Nat → Bool) (i j : Nat) : nod S0 g i (j + 1) = nod S0 g i j + (dn S0 g i j).toNat := cn_b (q := fun j => dn S0 g i j) j
theorem p_busRow {b c : Nat} {E : Nat → Nat → Prop} {M : Nat → Nat} {S0 Y S5 : SS} (h : CE b c E M S0 Y) {i : Nat} (hi : i < c) (k1 : gA S0 4 i = 1) : Pc (f_X5_busRow S5 S0 (nI i)) (fun x => (∀ w, w < 64 → bL x.1 w = bor S0 (fun y => bL (gB S5 3 y) w) i (sz S0 i)) ∧ ∃ L, x.2 = sL S5 4 L ∧ ∀ w, w < 64 → (bL L w = true ↔ bL (gL S5 4) w = true ∧ ONE S0 (fun y => bL (gB S5 3 y) w) i)) := by
  have hc := h.1.1
  obtain ⟨s6, _, es⟩ := CE_szM h hi
  have hn := HN_sz h hi
  rw [if_pos k1] at hn
  refine Pc_e es (Pc_B (P := fun x : Int64 × Int64 × Int64 => ∀ w, w < 64 → bL x.1 w = bor S0 (fun y => bL (gB S5 3 y) w) i (sz S0 i) ∧ bL x.2.1 w = decide (0 < nod S0 (fun y => bL (gB S5 3 y) w) i (sz S0 i)) ∧ bL x.2.2 w = decide (1 < nod S0 (fun y => bL (gB S5 3 y) w) i (sz S0 i))) ?_ (fun x hx => ?_))
  · refine Pc_I (fun v : Int64 × Int64 × Int64 × Int32 => ∃ j, v.2.2.2 = nI j ∧ j ≤ sz S0 i ∧ ∀ w, w < 64 → bL v.1 w = bor S0 (fun y => bL (gB S5 3 y) w) i j ∧ bL v.2.1 w = decide (0 < nod S0 (fun y => bL (gB S5 3 y) w) i j) ∧ bL v.2.2.1 w = decide (1 < nod S0 (fun y => bL (gB S5 3 y) w) i j)) (fun v hv => ?_) _ ⟨0, rfl, Nat.zero_le _, fun w hw => ⟨bL_0 w, bL_0 w, bL_0 w⟩⟩
    obtain ⟨v1, v2, v3, x⟩ := v
    obtain ⟨j, ex, hj, hv⟩ : ∃ j, x = nI j ∧ j ≤ sz S0 i ∧ ∀ w, w < 64 → bL v1 w = bor S0 (fun y => bL (gB S5 3 y) w) i j ∧ bL v2 w = decide (0 < nod S0 (fun y => bL (gB S5 3 y) w) i j) ∧ bL v3 w = decide (1 < nod S0 (fun y => bL (gB S5 3 y) w) i j) := hv
    subst ex
    refine Pc_c (fun q => Pc_s ?_) (fun q => ?_)
    · rw [nI_leI (by omega) (by omega)] at q
      have : j = sz S0 i := by omega
      rw [this] at hv
      exact hv
    · rw [nI_leI (by omega) (by omega)] at q
      obtain ⟨a0, b0, _⟩ := CE_pn h hi (j := 2 * j) (by omega)
      obtain ⟨a1, b1, _⟩ := CE_pn h hi (j := 2 * j + 1) (by omega)
      rw [two_j, nI_1]
      refine Pc_e ((e_part (j := 2 * j + 1) (by omega) (by omega)).trans (congrArg some b1)) (Pc_G (fun _ => Pc_l ?_))
      rw [nI_clamp (by omega)]
      have lo : f_X0_isLow S0 (nI i) (nI j) = some (if bI (gA S0 9 i) j = true then 1 else 0) := by
        unfold f_X0_isLow
        rw [zG_pos (in60 (by omega)), nI_clamp (by omega)]
        by_cases u : bI (gA S0 9 i) j = true
        · rw [if_pos ((bI_t (by omega)).mpr u), if_pos u]
        · rw [if_neg (fun t => u ((bI_t (by omega)).mp t)), if_neg u]
      refine Pc_e lo (Pc_B (P := fun e => ∀ w, w < 64 → bL e w = dn S0 (fun y => bL (gB S5 3 y) w) i j) ?_ (fun e he => ?_))
      · unfold dn
        by_cases u : bI (gA S0 9 i) j = true
        · rw [if_pos u]
          refine Pc_c (fun y => absurd y ne10) (fun _ => Pc_s (fun w hw => ?_))
          rw [bL_n hw, u]
          show _ = (true != bL (gB S5 3 (pn S0 i (2 * j + 1))) w)
          cases bL (gB S5 3 (pn S0 i (2 * j + 1))) w <;> rfl
        · rw [if_neg u]
          refine Pc_c (fun _ => Pc_s (fun w hw => ?_)) (fun y => absurd rfl y)
          rw [Bool.eq_false_iff.mpr u]
          show _ = (false != bL (gB S5 3 (pn S0 i (2 * j + 1))) w)
          cases bL (gB S5 3 (pn S0 i (2 * j + 1))) w <;> rfl
      · refine Pc_e ((e_part (j := 2 * j) (by omega) (by omega)).trans (congrArg some b0)) (Pc_G (fun _ => Pc_l (Pc_l (Pc_l (Pc_l (Pc_s ⟨j + 1, nI_1 j, by omega, fun w hw => ?_⟩))))))
        rw [nI_clamp (by omega)]
        obtain ⟨h1, h2, h3⟩ := hv w hw
        have hd := he w hw
        refine ⟨?_, ?_, ?_⟩
        · show bL (v1 ||| (e &&& gB S5 3 (pn S0 i (2 * j)))) w = _
          rw [bL_or, bL_a, h1, hd]
          rfl
        · show bL (v2 ||| e) w = _
          rw [bL_or, h2, hd, nod_s]
          cases dn S0 (fun y => bL (gB S5 3 y) w) i j <;> simp
        · show bL (v3 ||| (v2 &&& e)) w = _
          rw [bL_or, bL_a, h2, h3, hd, nod_s]
          generalize nod S0 (fun y => bL (gB S5 3 y) w) i j = n
          cases dn S0 (fun y => bL (gB S5 3 y) w) i j with
          | true =>
            show (decide (1 < n) || (decide (0 < n) && true)) = decide (1 < n + 1)
            rcases Nat.lt_or_ge 0 n with t | t
            · rw [decide_eq_true t, decide_eq_true (show 1 < n + 1 by omega), Bool.and_true, Bool.or_true]
            · rw [decide_eq_false (show ¬ 1 < n by omega), decide_eq_false (show ¬ 0 < n by omega), decide_eq_false (show ¬ 1 < n + 1 by omega)]
              rfl
          | false =>
            show (decide (1 < n) || (decide (0 < n) && false)) = decide (1 < n + 0)
            rw [Bool.and_false, Bool.or_false, Nat.add_zero]
  · obtain ⟨v1, v2, v3⟩ := x
    refine Pc_l (Pc_s ⟨fun w hw => (hx w hw).1, _, rfl, fun w hw => ?_⟩)
    obtain ⟨h1, h2, h3⟩ := hx w hw
    have h2 : bL v2 w = decide (0 < nod S0 (fun y => bL (gB S5 3 y) w) i (sz S0 i)) := h2
    have h3 : bL v3 w = decide (1 < nod S0 (fun y => bL (gB S5 3 y) w) i (sz S0 i)) := h3
    rw [bL_a, bL_a, bL_n hw, h2, h3, Bool.and_eq_true, Bool.and_eq_true, decide_eq_true_iff, Bool.not_eq_true', decide_eq_false_iff_not]
    unfold ONE
    constructor
    · rintro ⟨a, b, d⟩
      exact ⟨a, by omega⟩
    · rintro ⟨a, b⟩
      exact ⟨a, by omega, by omega⟩
