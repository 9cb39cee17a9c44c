/-! what GATES and BUSES are, for both -/
def tk (v : Int32) : Int32 := if v = 3 then 2 else v
theorem e_takenIn (v : Int32) : f_X2_takenIn v = some (tk v) := by
  unfold f_X2_takenIn tk
  split <;> rfl
theorem e_taken7 (v : Int32) : f_X7_taken v = some (tk v) := by
  unfold f_X7_taken tk
  split <;> rfl
def VQ (v : Int32) : Prop := v = 0 ∨ v = 1 ∨ v = 2 ∨ v = 3
theorem tk_0 {v : Int32} : tk v = 0 ↔ v = 0 := by
  unfold tk
  split
  · rename_i h
    rw [h]
    decide
  · exact Iff.rfl
theorem tk_1 {v : Int32} : tk v = 1 ↔ v = 1 := by
  unfold tk
  split
  · rename_i h
    rw [h]
    decide
  · exact Iff.rfl
theorem tk_q {v : Int32} (h : VQ v) : tk v = 0 ∨ tk v = 1 ∨ tk v = 2 := by
  rcases h with h | h | h | h <;> rw [h] <;> decide
theorem VQ_tk {v : Int32} (h : VQ v) : VQ (tk v) := by
  rcases tk_q h with q | q | q <;> rw [q]
  · exact Or.inl rfl
  · exact Or.inr (Or.inl rfl)
  · exact Or.inr (Or.inr (Or.inl rfl))
/-- the NODE at place j in NODE i's ( ) -/
def pn (S0 : SS) (i j : Nat) : Nat := (gA S0 7 (12 * i + j)).toNatClampNeg
noncomputable def sz (S0 : SS) (i : Nat) : Nat := if gA S0 4 i = 1 then (gA S0 8 i).toNatClampNeg / 2 else (gA S0 8 i).toNatClampNeg
theorem CE_pn {b c : Nat} {E : Nat → Nat → Prop} {M : Nat → Nat} {S0 Y : SS} (h : CE b c E M S0 Y) {i j : Nat} (hi : i < c) (hj : j < HN M S0 i) : pn S0 i j < c ∧ gA S0 7 (12 * i + j) = nI (pn S0 i j) ∧ gA Y 16 (12 * (60 * b + i) + j) = nI (pn S0 i j) := by
  have hc := h.1.1
  obtain ⟨y, y1, y2, y3⟩ := h.2.2.1 i j hi hj
  have e : pn S0 i j = y := by
    unfold pn
    rw [y2, nI_clamp (by omega)]
  rw [e]
  exact ⟨y1, y2, y3⟩
theorem CE_sz {b c : Nat} {E : Nat → Nat → Prop} {M : Nat → Nat} {S0 Y : SS} (h : CE b c E M S0 Y) {i : Nat} (hi : i < c) : sz S0 i = M i := by
  obtain ⟨_, _, _, _, m6, _, e⟩ := h.2.1 i hi
  unfold sz
  by_cases q : gA S0 4 i = 1
  · rw [if_pos q] at e ⊢
    rw [e, nI_clamp (by omega)]
    omega
  · rw [if_neg q] at e ⊢
    rw [e, nI_clamp (by omega)]
theorem CE_szM {b c : Nat} {E : Nat → Nat → Prop} {M : Nat → Nat} {S0 Y : SS} (h : CE b c E M S0 Y) {i : Nat} (hi : i < c) : sz S0 i ≤ 6 ∧ gA Y 14 (60 * b + i) = nI (sz S0 i) ∧ f_X0_size S0 (nI i) = some (nI (sz S0 i)) := by
  have es := CE_sz h hi
  have hc := h.1.1
  obtain ⟨_, _, _, _, m6, e14, e⟩ := h.2.1 i hi
  rw [es]
  refine ⟨m6, e14, ?_⟩
  unfold f_X0_size
  rw [zG_pos (ti_in (by rw [nI_toInt (by omega)]; omega) (by rw [nI_toInt (by omega)]; omega)), nI_clamp (by omega)]
  by_cases q : gA S0 4 i = 1
  · rw [if_pos q] at e ⊢
    rw [e, show (2 : Int32) = nI 2 from rfl, pk_div (by omega) (by omega) (by omega)]
    exact congrArg (fun x => some (nI x)) (by omega)
  · rw [if_neg q] at e ⊢
    rw [e]
theorem HN_sz {b c : Nat} {E : Nat → Nat → Prop} {M : Nat → Nat} {S0 Y : SS} (h : CE b c E M S0 Y) {i : Nat} (hi : i < c) : HN M S0 i = (if gA S0 4 i = 1 then 2 * sz S0 i else sz S0 i) := by
  unfold HN
  rw [CE_sz h hi]
theorem e_part {S0 : SS} {i j : Nat} (hi : i < 60) (hj : j < 12) : f_X0_part S0 (nI i) (nI j) = some (gA S0 7 (12 * i + j)) := by
  have e : (nI i * (12 : Int32)) + nI j = nI (12 * i + j) := by
    rw [show (12 : Int32) = nI 12 from rfl, pk_mul, nI_add, Nat.mul_comm]
  unfold f_X0_part
  rw [e, zG_pos (ti_in (by rw [nI_toInt (by omega)]; omega) (by rw [nI_toInt (by omega)]; omega)), nI_clamp (by omega)]
theorem e_in {Y : SS} {b i j : Nat} (h30 : gI Y 30 = nI b) (hb : b ≤ 1) (hi : i < 60) (hj : j < 12) : f_X7_in Y (nI i) (nI j) = some (gA Y 16 (12 * (60 * b + i) + j)) := by
  have e : ((12 : Int32) * (((60 : Int32) * (gI Y 30)) + nI i)) + nI j = nI (12 * (60 * b + i) + j) := by
    rw [h30, i60 hb, show (12 : Int32) = nI 12 from rfl, pk_mul, nI_add]
  unfold f_X7_in
  rw [e, zG_pos (ti_in (by rw [nI_toInt (by omega)]; omega) (by rw [nI_toInt (by omega)]; omega)), nI_clamp (by omega)]
theorem in60 {i : Nat} (hi : i < 60) : vp_in (nI i) 60 := ti_in (by rw [nI_toInt (by omega)]; omega) (by rw [nI_toInt (by omega)]; omega)
/-! a GATE -/
noncomputable def cft (g z o m : Int32) : Option Int32 :=
  zB (f_X2_plainValue (g &&& (-2 : Int32)) z o m) (fun (r19 : Int32) =>
  zB (f_X2_isTurned g) (fun (r23 : Int32) =>
  if r23 = (0 : Int32) then some r19
  else if (2 : Int32) ≤ r19 then some r19
  else some ((1 : Int32) - r19)))
noncomputable def rft (v3 v14 v15 m : Int32) : Option Int32 :=
  zB (if (v14 + v15) = m then some (1 : Int32)
  else some (0 : Int32)) (fun (v22 : Int32) =>
  zB (if v3 = (0 : Int32) then if v15 ≤ (0 : Int32) then if v22 = (0 : Int32) then some (2 : Int32)
  else some (1 : Int32)
  else some (0 : Int32)
  else if v3 = (2 : Int32) then if v15 ≤ (0 : Int32) then if v22 = (0 : Int32) then some (2 : Int32)
  else some (1 : Int32)
  else some (0 : Int32)
  else if v3 = (1 : Int32) then if v14 ≤ (0 : Int32) then if v22 = (0 : Int32) then some (2 : Int32)
  else some (0 : Int32)
  else some (1 : Int32)
  else if v3 = (3 : Int32) then if v14 ≤ (0 : Int32) then if v22 = (0 : Int32) then some (2 : Int32)
  else some (0 : Int32)
  else some (1 : Int32)
  else if v22 = (0 : Int32) then some (2 : Int32)
  else some (v14 - v14 / (2 : Int32) * (2 : Int32))) (fun (v29 : Int32) =>
  if v29 = (2 : Int32) then some v29
  else if v3 = (0 : Int32) then some v29
  else if v3 = (1 : Int32) then some v29
  else if v3 = (4 : Int32) then some v29
  else if v3 = (7 : Int32) then some v29
  else some ((1 : Int32) - v29)))
theorem gt_all : ∀ g : Fin 8, ∀ z o m : Fin 7, z.val + o.val ≤ m.val → (5 < g.val → m.val = 1) → cft (nI g.val) (nI z.val) (nI o.val) (nI m.val) = rft (gm (nI g.val)) (nI o.val) (nI z.val) (nI m.val) ∧ (cft (nI g.val) (nI z.val) (nI o.val) (nI m.val) = some 0 ∨ cft (nI g.val) (nI z.val) (nI o.val) (nI m.val) = some 1 ∨ cft (nI g.val) (nI z.val) (nI o.val) (nI m.val) = some 2) := by decide +kernel
def mxv (s a b : Int32) : Int32 := if s = 0 then a else if s = 1 then b else if a = b then a else 2
noncomputable def zc (S0 : SS) (f : Nat → Int32) (v : Int32) (i m : Nat) : Nat := cn (fun j => f (pn S0 i j) = v) m
noncomputable def gval (S0 : SS) (f : Nat → Int32) (i : Nat) : Int32 := if gA S0 5 i = 8 then mxv (f (pn S0 i 0)) (tk (f (pn S0 i 1))) (tk (f (pn S0 i 2))) else (cft (gA S0 5 i) (nI (zc S0 f 0 i (sz S0 i))) (nI (zc S0 f 1 i (sz S0 i))) (nI (sz S0 i))).getD 0
theorem cn_dj {P Q : Nat → Prop} (h : ∀ j, P j → ¬ Q j) : ∀ m, cn P m + cn Q m ≤ m := by
  intro m
  induction m with
  | zero => exact Nat.le_refl _
  | succ m ih =>
    by_cases p : P m
    · rw [cn_y p, cn_n (h m p)]; omega
    · rw [cn_n p]
      by_cases q : Q m
      · rw [cn_y q]; omega
      · rw [cn_n q]; omega
theorem zc_le (S0 : SS) (f : Nat → Int32) (i m : Nat) : zc S0 f 0 i m + zc S0 f 1 i m ≤ m := cn_dj (fun j p q => by
  rw [p] at q
  exact absurd q (by decide)) m
theorem g_nI {g : Int32} (h : IV 0 8 g) (h8 : g ≠ 8) : ∃ k : Fin 8, g = nI k.val := by
  obtain ⟨a, b⟩ := h
  have e : g = nI g.toInt.toNat := Int32.toInt_inj.mp (by rw [nI_toInt (by omega)]; omega)
  refine ⟨⟨g.toInt.toNat, ?_⟩, e⟩
  rcases Nat.lt_or_ge g.toInt.toNat 8 with q | q
  · exact q
  · have : g.toInt.toNat = 8 := by omega
    rw [this] at e
    exact absurd e h8
/-- a GATE that is no mux: what both make of its numbers -/
theorem gt_one {b c : Nat} {E : Nat → Nat → Prop} {M : Nat → Nat} {S0 Y : SS} (h : CE b c E M S0 Y) {i : Nat} (hi : i < c) (k2 : gA S0 4 i = 2) (h8 : gA S0 5 i ≠ 8) (f : Nat → Int32) : cft (gA S0 5 i) (nI (zc S0 f 0 i (sz S0 i))) (nI (zc S0 f 1 i (sz S0 i))) (nI (sz S0 i)) = some (gval S0 f i) ∧ rft (gA Y 13 (60 * b + i)) (nI (zc S0 f 1 i (sz S0 i))) (nI (zc S0 f 0 i (sz S0 i))) (nI (sz S0 i)) = some (gval S0 f i) ∧ VQ (gval S0 f i) := by
  obtain ⟨_, _, kg, _⟩ := h.2.1 i hi
  obtain ⟨g1, g2, g3, g4⟩ := kg k2
  obtain ⟨s1, _, _⟩ := CE_szM h hi
  rw [← CE_sz h hi] at g3 g4
  obtain ⟨g, eg⟩ := g_nI g2 h8
  have zo := zc_le S0 f i (sz S0 i)
  have m1 : 5 < g.val → sz S0 i = 1 := fun q => by
    have gv : g.val < 8 := g.isLt
    have a1 : ∀ k : Fin 8, 5 < k.val → (sm_f k.val).toInt = 1 ∧ (sl_f k.val).toInt = 1 := by decide
    have ⟨e1, e2⟩ := a1 g q
    rw [eg, nI_clamp (by omega)] at g3 g4
    omega
  have ⟨q1, q2⟩ := gt_all g ⟨zc S0 f 0 i (sz S0 i), by omega⟩ ⟨zc S0 f 1 i (sz S0 i), by omega⟩ ⟨sz S0 i, by omega⟩ zo m1
  have q1 : cft (nI g.val) (nI (zc S0 f 0 i (sz S0 i))) (nI (zc S0 f 1 i (sz S0 i))) (nI (sz S0 i)) = rft (gm (nI g.val)) (nI (zc S0 f 1 i (sz S0 i))) (nI (zc S0 f 0 i (sz S0 i))) (nI (sz S0 i)) := q1
  have q2 : cft (nI g.val) (nI (zc S0 f 0 i (sz S0 i))) (nI (zc S0 f 1 i (sz S0 i))) (nI (sz S0 i)) = some 0 ∨ cft (nI g.val) (nI (zc S0 f 0 i (sz S0 i))) (nI (zc S0 f 1 i (sz S0 i))) (nI (sz S0 i)) = some 1 ∨ cft (nI g.val) (nI (zc S0 f 0 i (sz S0 i))) (nI (zc S0 f 1 i (sz S0 i))) (nI (sz S0 i)) = some 2 := q2
  rw [← eg] at q1 q2
  rw [g1, ← q1]
  have ev : gval S0 f i = (cft (gA S0 5 i) (nI (zc S0 f 0 i (sz S0 i))) (nI (zc S0 f 1 i (sz S0 i))) (nI (sz S0 i))).getD 0 := by
    unfold gval
    rw [if_neg h8]
  rcases q2 with q2 | q2 | q2 <;> rw [q2] at ev ⊢
  · exact ⟨by rw [ev]; rfl, by rw [ev]; rfl, by rw [ev]; exact Or.inl rfl⟩
  · exact ⟨by rw [ev]; rfl, by rw [ev]; rfl, by rw [ev]; exact Or.inr (Or.inl rfl)⟩
  · exact ⟨by rw [ev]; rfl, by rw [ev]; rfl, by rw [ev]; exact Or.inr (Or.inr (Or.inl rfl))⟩
theorem zc_s {S0 : SS} {f : Nat → Int32} {v : Int32} {i j : Nat} : nI (zc S0 f v i j) + (if f (pn S0 i j) = v then (1 : Int32) else 0) = nI (zc S0 f v i (j + 1)) := by
  unfold zc
  by_cases q : f (pn S0 i j) = v
  · rw [if_pos q, cn_y (P := fun j => f (pn S0 i j) = v) q, nI_1]
  · rw [if_neg q, cn_n (P := fun j => f (pn S0 i j) = v) q]
    exact nI_add _ 0
theorem p_gate6 {b c : Nat} {E : Nat → Nat → Prop} {M : Nat → Nat} {S0 Y : SS} (h : CE b c E M S0 Y) {i : Nat} (hi : i < c) (k2 : gA S0 4 i = 2) (f : Nat → Int32) : Pc (f_X2_gateValue S0 f (nI i)) (fun r => r = gval S0 f i) := by
  have hc := h.1.1
  obtain ⟨s1, _, es⟩ := CE_szM h hi
  have hn := HN_sz h hi
  rw [if_neg (by rw [k2]; decide)] at hn
  refine Pc_G (fun _ => Pc_l ?_)
  rw [nI_clamp (by omega)]
  refine Pc_c (fun q8 => ?_) (fun q8 => ?_)
  · obtain ⟨_, _, kg, _⟩ := h.2.1 i hi
    obtain ⟨_, _, g3, _⟩ := kg k2
    rw [← CE_sz h hi, q8] at g3
    have m3 : 3 ≤ sz S0 i := by
      have : (sl_f (8 : Int32).toNatClampNeg).toInt = 3 := by decide
      omega
    obtain ⟨a0, b0, _⟩ := CE_pn h hi (j := 0) (by omega)
    obtain ⟨a1, b1, _⟩ := CE_pn h hi (j := 1) (by omega)
    obtain ⟨a2, b2, _⟩ := CE_pn h hi (j := 2) (by omega)
    have e : f_X2_muxValue S0 f (nI i) = some (mxv (f (pn S0 i 0)) (tk (f (pn S0 i 1))) (tk (f (pn S0 i 2)))) := by
      refine E_B ((e_part (j := 0) (by omega) (by omega)).trans (congrArg some b0)) (E_G (in60 (by omega)) ?_)
      show zB (f_X0_part S0 (nI i) (1 : Int32)) _ = _
      refine E_B ((e_part (j := 1) (by omega) (by omega)).trans (congrArg some b1)) (E_G (in60 (by omega)) (E_B (e_takenIn _) ?_))
      refine E_B ((e_part (j := 2) (by omega) (by omega)).trans (congrArg some b2)) (E_G (in60 (by omega)) (E_B (e_takenIn _) ?_))
      rw [nI_clamp (by omega), nI_clamp (by omega), nI_clamp (by omega)]
      unfold mxv
      split
      · rfl
      · split
        · rfl
        · split <;> rfl
    refine Pc_e e (Pc_s ?_)
    unfold gval
    rw [if_pos q8]
  · refine Pc_e es (Pc_B (P := fun w : Int32 × Int32 => w.1 = nI (zc S0 f 0 i (sz S0 i)) ∧ w.2 = nI (zc S0 f 1 i (sz S0 i))) ?_ (fun w hw => ?_))
    · refine Pc_I (fun v : Int32 × Int32 × Int32 => ∃ j, v.2.2 = nI j ∧ j ≤ sz S0 i ∧ v.1 = nI (zc S0 f 0 i j) ∧ v.2.1 = nI (zc S0 f 1 i j)) (fun v hv => ?_) _ ⟨0, rfl, Nat.zero_le _, rfl, rfl⟩
      obtain ⟨v1, v2, v3⟩ := v
      obtain ⟨j, e3, hj, e1, e2⟩ : ∃ j, v3 = nI j ∧ j ≤ sz S0 i ∧ v1 = nI (zc S0 f 0 i j) ∧ v2 = nI (zc S0 f 1 i j) := hv
      subst e3
      subst e1
      subst e2
      refine Pc_c (fun q => Pc_s ?_) (fun q => ?_)
      · rw [nI_leI (by omega) (by omega)] at q
        have : j = sz S0 i := by omega
        rw [this]
        exact ⟨rfl, rfl⟩
      · rw [nI_leI (by omega) (by omega)] at q
        obtain ⟨a0, b0, _⟩ := CE_pn h hi (j := j) (by omega)
        refine Pc_e ((e_part (j := j) (by omega) (by omega)).trans (congrArg some b0)) (Pc_G (fun _ => Pc_l ?_))
        rw [nI_clamp (by omega)]
        have z0 := zc_s (S0 := S0) (f := f) (v := 0) (i := i) (j := j)
        have z1 := zc_s (S0 := S0) (f := f) (v := 1) (i := i) (j := j)
        refine Pc_e (a := if f (pn S0 i j) = 0 then 1 else 0) (by split <;> rfl) (Pc_l ?_)
        rw [z0]
        refine Pc_c (fun u => Pc_l (Pc_l (Pc_s ⟨j + 1, nI_1 j, by omega, rfl, ?_⟩))) (fun u => Pc_l (Pc_l (Pc_s ⟨j + 1, nI_1 j, by omega, rfl, ?_⟩)))
        · rw [if_pos u] at z1
          exact z1
        · rw [if_neg u] at z1
          exact z1
    · obtain ⟨w1, w2⟩ := w
      obtain ⟨e1, e2⟩ : w1 = nI (zc S0 f 0 i (sz S0 i)) ∧ w2 = nI (zc S0 f 1 i (sz S0 i)) := hw
      subst e1
      subst e2
      intro r hr
      have t := (gt_one h hi k2 q8 f).1
      have hr : cft (gA S0 5 i) (nI (zc S0 f 0 i (sz S0 i))) (nI (zc S0 f 1 i (sz S0 i))) (nI (sz S0 i)) = some r := hr
      rw [t] at hr
      exact (Option.some.inj hr).symm
theorem p_gate7 {b c : Nat} {E : Nat → Nat → Prop} {M : Nat → Nat} {S0 Y : SS} (h : CE b c E M S0 Y) {i : Nat} (hi : i < c) (k2 : gA S0 4 i = 2) (q : Nat) : Pc (f_X7_gate Y (nI i) q) (fun r => r = gval S0 (gA Y q) i) := by
  obtain ⟨hc, hb, _, _, h30⟩ := h.1
  obtain ⟨s1, e14, es⟩ := CE_szM h hi
  have hn := HN_sz h hi
  rw [if_neg (by rw [k2]; decide)] at hn
  obtain ⟨_, _, kg, _⟩ := h.2.1 i hi
  obtain ⟨g1, g2, g3, _⟩ := kg k2
  refine Pc_L (fun v1 ev => Pc_G (fun _ => Pc_l ?_))
  have ev : v1 = nI (60 * b + i) := by rw [ev, h30, i60 hb]
  subst ev
  rw [nI_clamp (by omega)]
  have g8 : gA Y 13 (60 * b + i) = 8 ↔ gA S0 5 i = 8 := by
    have a : ∀ k : Fin 8, gm (nI k.val) ≠ 8 := by decide
    rw [g1]
    refine ⟨fun u => Classical.byContradiction (fun v => ?_), fun u => by rw [u]; decide⟩
    obtain ⟨k, ek⟩ := g_nI g2 v
    rw [ek] at u
    exact a k u
  refine Pc_i g8 (fun q8 => ?_) (fun q8 => ?_)
  · rw [← CE_sz h hi, q8] at g3
    have m3 : 3 ≤ sz S0 i := by
      have : (sl_f (8 : Int32).toNatClampNeg).toInt = 3 := by decide
      omega
    obtain ⟨a0, _, b0⟩ := CE_pn h hi (j := 0) (by omega)
    obtain ⟨a1, _, b1⟩ := CE_pn h hi (j := 1) (by omega)
    obtain ⟨a2, _, b2⟩ := CE_pn h hi (j := 2) (by omega)
    refine Pc_e ((e_in (j := 0) h30 hb (by omega) (by omega)).trans (congrArg some b0)) (Pc_G (fun _ => Pc_e (e_taken7 _) ?_))
    refine Pc_e ((e_in (j := 1) h30 hb (by omega) (by omega)).trans (congrArg some b1)) (Pc_G (fun _ => Pc_e (e_taken7 _) ?_))
    refine Pc_e ((e_in (j := 2) h30 hb (by omega) (by omega)).trans (congrArg some b2)) (Pc_G (fun _ => Pc_e (e_taken7 _) ?_))
    rw [nI_clamp (by omega), nI_clamp (by omega), nI_clamp (by omega)]
    unfold gval mxv
    rw [if_pos q8]
    refine Pc_i tk_0 (fun u => Pc_s ?_) (fun u => Pc_i tk_1 (fun v => Pc_s ?_) (fun v => Pc_c (fun w => Pc_s ?_) (fun w => Pc_s ?_)))
    · rw [if_pos u]
    · rw [if_neg u, if_pos v]
    · rw [if_neg u, if_neg v, if_pos w]
    · rw [if_neg u, if_neg v, if_neg w]
  · refine Pc_B (P := fun w : Int32 × Int32 => w.1 = nI (zc S0 (gA Y q) 1 i (sz S0 i)) ∧ w.2 = nI (zc S0 (gA Y q) 0 i (sz S0 i))) ?_ (fun w hw => ?_)
    · refine Pc_I (fun v : Int32 × Int32 × Int32 => ∃ j, v.2.2 = nI j ∧ j ≤ sz S0 i ∧ v.1 = nI (zc S0 (gA Y q) 1 i j) ∧ v.2.1 = nI (zc S0 (gA Y q) 0 i j)) (fun v hv => ?_) _ ⟨0, rfl, Nat.zero_le _, rfl, rfl⟩
      obtain ⟨v1, v2, v3⟩ := v
      obtain ⟨j, e3, hj, e1, e2⟩ : ∃ j, v3 = nI j ∧ j ≤ sz S0 i ∧ v1 = nI (zc S0 (gA Y q) 1 i j) ∧ v2 = nI (zc S0 (gA Y q) 0 i j) := hv
      subst e3
      subst e1
      subst e2
      unfold b_X7_gate_108
      refine Pc_c (fun u => Pc_s ?_) (fun u => ?_)
      · rw [nI_clamp (by omega), e14, nI_leI (by omega) (by omega)] at u
        have : j = sz S0 i := by omega
        rw [this]
        exact ⟨rfl, rfl⟩
      · rw [nI_clamp (by omega), e14, nI_leI (by omega) (by omega)] at u
        obtain ⟨a0, _, b0⟩ := CE_pn h hi (j := j) (by omega)
        refine Pc_e ((e_in (j := j) h30 hb (by omega) (by omega)).trans (congrArg some b0)) (Pc_G (fun _ => Pc_e (e_taken7 _) ?_))
        rw [nI_clamp (by omega)]
        have z0 := zc_s (S0 := S0) (f := gA Y q) (v := 0) (i := i) (j := j)
        have z1 := zc_s (S0 := S0) (f := gA Y q) (v := 1) (i := i) (j := j)
        refine Pc_e (a := if gA Y q (pn S0 i j) = 1 then 1 else 0) (by
          by_cases t : gA Y q (pn S0 i j) = 1
          · rw [if_pos (tk_1.mpr t), if_pos t]
          · rw [if_neg (fun s => t (tk_1.mp s)), if_neg t]) (Pc_l ?_)
        rw [z1]
        refine Pc_i tk_0 (fun u => Pc_l (Pc_l (Pc_s ⟨j + 1, nI_1 j, by omega, rfl, ?_⟩))) (fun u => Pc_l (Pc_l (Pc_s ⟨j + 1, nI_1 j, by omega, rfl, ?_⟩)))
        · rw [if_pos u] at z0
          exact z0
        · rw [if_neg u] at z0
          exact z0
    · obtain ⟨w1, w2⟩ := w
      obtain ⟨e1, e2⟩ : w1 = nI (zc S0 (gA Y q) 1 i (sz S0 i)) ∧ w2 = nI (zc S0 (gA Y q) 0 i (sz S0 i)) := hw
      subst e1
      subst e2
      intro r hr
      have t := (gt_one h hi k2 q8 (gA Y q)).2.1
      rw [e14] at hr
      have hr : rft (gA Y 13 (60 * b + i)) (nI (zc S0 (gA Y q) 1 i (sz S0 i))) (nI (zc S0 (gA Y q) 0 i (sz S0 i))) (nI (sz S0 i)) = some r := hr
      rw [t] at hr
      exact (Option.some.inj hr).symm
/-! a BUS -/
theorem bI_t {x : Int32} {j : Nat} (hj : j < 16) : ((x >>> (nI j &&& 31)) &&& (1 : Int32)) = (1 : Int32) ↔ bI x j = true := by
  have hs : ∀ k : Fin 16, ((nI k.val &&& 31).toBitVec.smod 32).toNat = k.val := by decide +kernel
  have hs : ((nI j &&& 31).toBitVec.smod 32).toNat = j := hs ⟨j, hj⟩
  have e : (x >>> (nI j &&& 31)).toBitVec = x.toBitVec.sshiftRight j := by
    rw [Int32.toBitVec_shiftRight]
    show x.toBitVec.sshiftRight ((nI j &&& 31).toBitVec.smod 32).toNat = _
    rw [hs]
  unfold bI
  rw [← Int32.toBitVec_inj, Int32.toBitVec_and, e]
  show x.toBitVec.sshiftRight j &&& 1#32 = 1#32 ↔ _
  have g : (x.toBitVec.sshiftRight j).getLsbD 0 = x.toBitVec.getLsbD j := by
    rw [BitVec.getLsbD_sshiftRight]
    simp [show j < 32 by omega]
  constructor
  · intro h
    have t := congrArg (fun x => x.getLsbD 0) h
    rw [BitVec.getLsbD_and, g] at t
    simpa using t
  · intro h
    apply BitVec.eq_of_getLsbD_eq
    intro i hi
    rw [BitVec.getLsbD_and]
    cases i with
    | zero => rw [g, h]; rfl
    | succ i => simp
def dvl (e d : Int32) (lo : Bool) : Int32 := if e < 2 then (if e = (if lo = true then 0 else 1) then tk d else 3) else 2
def bst (v d : Int32) : Int32 := if v = 3 then d else if d = 3 then v else if d = v then v else 2
def bvl (S0 : SS) (f : Nat → Int32) (i : Nat) : Nat → Int32
  | 0 => 3
  | j + 1 => bst (bvl S0 f i j) (dvl (f (pn S0 i (2 * j + 1))) (f (pn S0 i (2 * j))) (bI (gA S0 9 i) j))
theorem VQ_dvl {e d : Int32} {lo : Bool} (hd : VQ d) : VQ (dvl e d lo) := by
  unfold dvl
  by_cases h1 : e < 2
  · rw [if_pos h1]
    by_cases h2 : e = (if lo = true then 0 else 1)
    · rw [if_pos h2]
      exact VQ_tk hd
    · rw [if_neg h2]
      exact Or.inr (Or.inr (Or.inr rfl))
  · rw [if_neg h1]
    exact Or.inr (Or.inr (Or.inl rfl))
theorem VQ_bst {v d : Int32} (hv : VQ v) (hd : VQ d) : VQ (bst v d) := by
  unfold bst
  split
  · exact hd
  · split
    · exact hv
    · split
      · exact hv
      · exact Or.inr (Or.inr (Or.inl rfl))
theorem VQ_bvl {S0 : SS} {f : Nat → Int32} {i : Nat} : ∀ {m : Nat}, (∀ j, j < m → VQ (f (pn S0 i (2 * j)))) → VQ (bvl S0 f i m) := by
  intro m
  induction m with
  | zero => intro _; exact Or.inr (Or.inr (Or.inr rfl))
  | succ m ih => intro h; exact VQ_bst (ih (fun j hj => h j (by omega))) (VQ_dvl (h m (by omega)))
theorem two_j (j : Nat) : (2 : Int32) * nI j = nI (2 * j) := pk_mul 2 j
theorem p_bus6 {b c : Nat} {E : Nat → Nat → Prop} {M : Nat → Nat} {S0 Y : SS} (h : CE b c E M S0 Y) {i : Nat} (hi : i < c) (k1 : gA S0 4 i = 1) (f : Nat → Int32) : Pc (f_X2_busValue S0 f (nI i)) (fun r => r = bvl S0 f i (sz S0 i)) := by
  have hc := h.1.1
  obtain ⟨s1, _, es⟩ := CE_szM h hi
  have hn := HN_sz h hi
  rw [if_pos k1] at hn
  refine Pc_e es (Pc_I (fun v : Int32 × Int32 => ∃ j, v.2 = nI j ∧ j ≤ sz S0 i ∧ v.1 = bvl S0 f i j) (fun v hv => ?_) _ ⟨0, rfl, Nat.zero_le _, rfl⟩)
  obtain ⟨v1, v2⟩ := v
  obtain ⟨j, e2, hj, e1⟩ : ∃ j, v2 = nI j ∧ j ≤ sz S0 i ∧ v1 = bvl S0 f i j := hv
  subst e2
  subst e1
  refine Pc_c (fun q => Pc_s ?_) (fun q => ?_)
  · rw [nI_leI (by omega) (by omega)] at q
    have : j = sz S0 i := by omega
    rw [this]
    exact rfl
  · rw [nI_leI (by omega) (by omega)] at q
    obtain ⟨a0, b0, _⟩ := CE_pn h hi (j := 2 * j) (by omega)
    obtain ⟨a1, b1, _⟩ := CE_pn h hi (j := 2 * j + 1) (by omega)
    have dv : f_X2_driverValue S0 f (nI i) (nI j) = some (dvl (f (pn S0 i (2 * j + 1))) (f (pn S0 i (2 * j))) (bI (gA S0 9 i) j)) := by
      unfold f_X2_driverValue
      rw [two_j, nI_1]
      refine E_B ((e_part (by omega) (by omega)).trans (congrArg some b0)) (E_G (in60 (by omega)) ?_)
      refine E_B ((e_part (by omega) (by omega)).trans (congrArg some b1)) (E_G (in60 (by omega)) ?_)
      rw [nI_clamp (by omega), nI_clamp (by omega)]
      unfold dvl
      show (if f (pn S0 i (2 * j + 1)) < 2 then _ else _) = _
      by_cases e2 : f (pn S0 i (2 * j + 1)) < 2
      · rw [if_pos e2, if_pos e2]
        have lo : f_X0_isLow S0 (nI i) (nI j) = some (if bI (gA S0 9 i) j = true then 1 else 0) := by
          unfold f_X0_isLow
          rw [zG_pos (in60 (by omega)), nI_clamp (by omega)]
          by_cases u : bI (gA S0 9 i) j = true
          · rw [if_pos ((bI_t (by omega)).mpr u), if_pos u]
          · rw [if_neg (fun t => u ((bI_t (by omega)).mp t)), if_neg u]
        refine E_B lo ?_
        by_cases u : bI (gA S0 9 i) j = true
        · rw [if_pos u, if_pos u]
          refine E_B (if_neg ne10) ?_
          by_cases w : f (pn S0 i (2 * j + 1)) = 0
          · rw [if_pos w, if_pos w]
            exact E_B (e_takenIn _) rfl
          · rw [if_neg w, if_neg w]
        · rw [if_neg u, if_neg u]
          refine E_B (if_pos rfl) ?_
          by_cases w : f (pn S0 i (2 * j + 1)) = 1
          · rw [if_pos w, if_pos w]
            exact E_B (e_takenIn _) rfl
          · rw [if_neg w, if_neg w]
      · rw [if_neg e2, if_neg e2]
    refine Pc_e dv ?_
    have st : bvl S0 f i (j + 1) = bst (bvl S0 f i j) (dvl (f (pn S0 i (2 * j + 1))) (f (pn S0 i (2 * j))) (bI (gA S0 9 i) j)) := rfl
    unfold bst at st
    refine Pc_c (fun u => Pc_l (Pc_s ⟨j + 1, nI_1 j, by omega, ?_⟩)) (fun u => Pc_c (fun w => Pc_l (Pc_s ⟨j + 1, nI_1 j, by omega, ?_⟩)) (fun w => Pc_c (fun t => Pc_l (Pc_s ⟨j + 1, nI_1 j, by omega, ?_⟩)) (fun t => Pc_l (Pc_s ⟨j + 1, nI_1 j, by omega, ?_⟩))))
    · rw [if_pos u] at st
      exact st.symm
    · rw [if_neg u, if_pos w] at st
      exact st.symm
    · rw [if_neg u, if_neg w, if_pos t] at st
      exact st.symm
    · rw [if_neg u, if_neg w, if_neg t] at st
      exact st.symm
theorem p_bus7 {b c : Nat} {E : Nat → Nat → Prop} {M : Nat → Nat} {S0 Y : SS} (h : CE b c E M S0 Y) {i : Nat} (hi : i < c) (k1 : gA S0 4 i = 1) (q : Nat) (vr : ∀ y, y < c → E i y → VQ (gA Y q y)) : Pc (f_X7_bus Y (nI i) q) (fun r => r = bvl S0 (gA Y q) i (sz S0 i)) := by
  obtain ⟨hc, hb, _, _, h30⟩ := h.1
  obtain ⟨s1, e14, es⟩ := CE_szM h hi
  have hn := HN_sz h hi
  rw [if_pos k1] at hn
  refine Pc_L (fun v1 ev => ?_)
  have ev : v1 = nI (60 * b + i) := by rw [ev, h30, i60 hb]
  subst ev
  refine Pc_I (fun v : Int32 × Int32 => ∃ j, v.2 = nI j ∧ j ≤ sz S0 i ∧ v.1 = bvl S0 (gA Y q) i j) (fun v hv => ?_) _ ⟨0, rfl, Nat.zero_le _, rfl⟩
  obtain ⟨v1, v2⟩ := v
  obtain ⟨j, e2, hj, e1⟩ : ∃ j, v2 = nI j ∧ j ≤ sz S0 i ∧ v1 = bvl S0 (gA Y q) i j := hv
  subst e2
  subst e1
  unfold b_X7_bus_16
  refine Pc_G (fun _ => Pc_c (fun u => Pc_s ?_) (fun u => ?_))
  · rw [nI_clamp (by omega), e14, nI_leI (by omega) (by omega)] at u
    have : j = sz S0 i := by omega
    rw [this]
    exact rfl
  · rw [nI_clamp (by omega), e14, nI_leI (by omega) (by omega)] at u
    obtain ⟨a0, c0, b0⟩ := CE_pn h hi (j := 2 * j) (by omega)
    obtain ⟨a1, c1, b1⟩ := CE_pn h hi (j := 2 * j + 1) (by omega)
    have E1 : E i (pn S0 i (2 * j + 1)) := (h.2.2.2.2.1.1 i _ hi).mpr ⟨a1, by rw [k1]; decide, _, by omega, c1⟩
    have v1 := vr _ a1 E1
    rw [two_j, nI_1]
    refine Pc_e ((e_in h30 hb (by omega) (by omega)).trans (congrArg some b1)) (Pc_G (fun _ => Pc_e (e_taken7 _) ?_))
    rw [nI_clamp (by omega)]
    have i6x : ((6 : Int32) * nI (60 * b + i)) + nI j = nI (6 * (60 * b + i) + j) := i6 _ _
    have lw := h.2.2.2.1 i j hi k1 (by rw [← CE_sz h hi]; omega)
    refine Pc_B (P := fun r => r = dvl (gA Y q (pn S0 i (2 * j + 1))) (gA Y q (pn S0 i (2 * j))) (bI (gA S0 9 i) j)) ?_ (fun r hr => ?_)
    · unfold dvl
      rcases v1 with v1 | v1 | v1 | v1 <;> rw [v1]
      · refine Pc_c (fun w => absurd w (by decide)) (fun _ => Pc_e (E_n (by decide) rfl) (Pc_G (fun _ => ?_)))
        rw [i6x, nI_clamp (by omega)]
        rcases lw with ⟨l1, l2⟩ | ⟨l1, l2⟩
        · rw [l2]
          refine Pc_c (fun _ => Pc_e ((e_in h30 hb (by omega) (by omega)).trans (congrArg some b0)) (Pc_G (fun _ => Pc_e (e_taken7 _) (Pc_s ?_)))) (fun w => absurd rfl w)
          rw [nI_clamp (by omega), if_pos (by decide), if_pos (by rw [if_pos l1])]
        · rw [l2]
          refine Pc_c (fun w => absurd w (by decide)) (fun _ => Pc_s ?_)
          rw [if_pos (by decide), if_neg (by rw [if_neg l1]; decide)]
      · refine Pc_c (fun w => absurd w (by decide)) (fun _ => Pc_e (E_y (by decide) rfl) (Pc_G (fun _ => ?_)))
        rw [i6x, nI_clamp (by omega)]
        rcases lw with ⟨l1, l2⟩ | ⟨l1, l2⟩
        · rw [l2]
          refine Pc_c (fun w => absurd w (by decide)) (fun _ => Pc_s ?_)
          rw [if_pos (by decide), if_neg (by rw [if_pos l1]; decide)]
        · rw [l2]
          refine Pc_c (fun _ => Pc_e ((e_in h30 hb (by omega) (by omega)).trans (congrArg some b0)) (Pc_G (fun _ => Pc_e (e_taken7 _) (Pc_s ?_)))) (fun w => absurd rfl w)
          rw [nI_clamp (by omega), if_pos (by decide), if_pos (by rw [if_neg l1])]
      · refine Pc_c (fun _ => Pc_s ?_) (fun w => absurd (by decide) w)
        rw [if_neg (by decide)]
      · refine Pc_c (fun _ => Pc_s ?_) (fun w => absurd (by decide) w)
        rw [if_neg (by decide)]
    · have st : bvl S0 (gA Y q) i (j + 1) = bst (bvl S0 (gA Y q) i j) r := by rw [hr]; rfl
      unfold bst at st
      refine Pc_c (fun w => Pc_l (Pc_s ⟨j + 1, nI_1 j, by omega, ?_⟩)) (fun w => Pc_c (fun t => Pc_l (Pc_s ⟨j + 1, nI_1 j, by omega, ?_⟩)) (fun t => Pc_c (fun s => Pc_l (Pc_s ⟨j + 1, nI_1 j, by omega, ?_⟩)) (fun s => Pc_l (Pc_s ⟨j + 1, nI_1 j, by omega, ?_⟩))))
      · rw [st]
        by_cases t : bvl S0 (gA Y q) i j = 3
        · rw [if_pos t, w]
          exact t
        · rw [if_neg t, if_pos w]
      · rw [st, if_pos t]
      · rw [st, if_neg t, if_neg w, if_pos s.symm]
        exact s.symm
      · rw [st, if_neg t, if_neg w, if_neg (fun x => s x.symm)]
