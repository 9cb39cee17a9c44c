/-! what hangs on what -/
def EG (C : Ct) (i y : Nat) : Prop := y < cC C ∧ cKd C i ≠ 3 ∧ ((∃ q, q < cU C ∧ cUr C q = nI i ∧ xq C q = nI y) ∨ ∃ h, h < cU C ∧ isHd (cUr C h) ∧ xq C h = nI i ∧ (xq C (h + 1) = nI y ∨ xq C (h + 2) = nI y))
/-- a way of n + 1 steps among the first c -/
def Pn (E : Nat → Nat → Prop) (c : Nat) : Nat → Nat → Nat → Prop
  | 0, i, j => E i j
  | n + 1, i, j => ∃ k, k < c ∧ E i k ∧ Pn E c n k j
def TC (E : Nat → Nat → Prop) (c i j : Nat) : Prop := ∃ n, Pn E c n i j
theorem Pn_t {E : Nat → Nat → Prop} {c : Nat} : ∀ {n m i k j : Nat}, k < c → Pn E c n i k → Pn E c m k j → Pn E c (n + m + 1) i j := by
  intro n
  induction n with
  | zero => intro m i k j hk h g; rw [Nat.zero_add]; exact ⟨k, hk, h, g⟩
  | succ n ih =>
    intro m i k j hk h g
    obtain ⟨r, r1, r2, r3⟩ := h
    rw [show n + 1 + m + 1 = (n + m + 1) + 1 by omega]
    exact ⟨r, r1, r2, ih hk r3 g⟩
theorem TC_t {E : Nat → Nat → Prop} {c i k j : Nat} (hk : k < c) (h : TC E c i k) (g : TC E c k j) : TC E c i j := by
  obtain ⟨n, h⟩ := h
  obtain ⟨m, g⟩ := g
  exact ⟨_, Pn_t hk h g⟩
def Wf (E : Nat → Nat → Prop) : Nat → Nat → Nat → Prop
  | 0, i, j => E i j
  | v + 1, i, j => Wf E v i j ∨ (Wf E v i v ∧ Wf E v v j)
theorem Wf_s {E : Nat → Nat → Prop} {c : Nat} : ∀ {v : Nat}, v ≤ c → ∀ {i j : Nat}, Wf E v i j → TC E c i j := by
  intro v
  induction v with
  | zero => intro _ i j h; exact ⟨0, h⟩
  | succ v ih =>
    intro hv i j h
    rcases h with h | ⟨h1, h2⟩
    · exact ih (by omega) h
    · exact TC_t (by omega) (ih (by omega) h1) (ih (by omega) h2)
theorem Wf_c {E : Nat → Nat → Prop} : ∀ {v u i j : Nat}, u < v → Wf E v i u → Wf E v u j → Wf E v i j := by
  intro v
  induction v with
  | zero => intro u i j hu; exact absurd hu (Nat.not_lt_zero _)
  | succ v ih =>
    intro u i j hu h g
    by_cases q : u = v
    · rw [q] at h g
      refine Or.inr ⟨?_, ?_⟩
      · rcases h with h | h
        · exact h
        · exact h.1
      · rcases g with g | g
        · exact g
        · exact g.2
    · have hu2 : u < v := by omega
      rcases h with h | ⟨h1, h2⟩
      · rcases g with g | ⟨g1, g2⟩
        · exact Or.inl (ih hu2 h g)
        · exact Or.inr ⟨ih hu2 h g1, g2⟩
      · rcases g with g | ⟨g1, g2⟩
        · exact Or.inr ⟨h1, ih hu2 h2 g⟩
        · exact Or.inr ⟨h1, g2⟩
theorem Wf_e {E : Nat → Nat → Prop} {i j : Nat} (h : E i j) : ∀ v, Wf E v i j := by
  intro v
  induction v with
  | zero => exact h
  | succ v ih => exact Or.inl ih
theorem Wf_i {E : Nat → Nat → Prop} {c : Nat} : ∀ {n i j : Nat}, Pn E c n i j → Wf E c i j := by
  intro n
  induction n with
  | zero => intro i j h; exact Wf_e h c
  | succ n ih =>
    intro i j h
    obtain ⟨k, h1, h2, h3⟩ := h
    exact Wf_c h1 (Wf_e h2 c) (ih h3)
theorem Wf_TC {E : Nat → Nat → Prop} {c i j : Nat} : Wf E c i j ↔ TC E c i j := ⟨fun h => Wf_s (Nat.le_refl _) h, fun ⟨_, h⟩ => Wf_i h⟩
/-! the class looks for a NODE that hangs on itself -/
theorem bL_t {w : Int64} {j : Nat} (hj : j < 64) : ((jLu w (nI j)) &&& (1 : Int64)) = (1 : Int64) ↔ bL w j = true := by
  have hs : ∀ k : Fin 64, ((nI k.val).toInt64.toUInt64 &&& Int64.toUInt64 63).toNat = k.val := by decide +kernel
  have hs := hs ⟨j, hj⟩
  have e : (jLu w (nI j)).toBitVec = w.toBitVec >>> j := by
    apply BitVec.eq_of_toNat_eq
    show (w.toUInt64 >>> ((nI j).toInt64.toUInt64 &&& Int64.toUInt64 63)).toNat = _
    rw [UInt64.toNat_shiftRight, hs, Nat.mod_eq_of_lt hj, BitVec.toNat_ushiftRight]
    rfl
  unfold bL
  rw [← Int64.toBitVec_inj, Int64.toBitVec_and, e]
  show w.toBitVec >>> j &&& 1#64 = 1#64 ↔ _
  constructor
  · intro h
    have t := congrArg (fun x => x.getLsbD 0) h
    simpa using t
  · intro h
    apply BitVec.eq_of_getLsbD_eq
    intro i hi
    cases i with
    | zero => simp [h]
    | succ i => simp
theorem lcb_t {w : Int64} {j : Nat} (hj : j < 64) : lg_cmp ((jLu w (nI j)) &&& (1 : Int64)) (1 : Int64) = 0 ↔ bL w j = true := lc_eq.trans (bL_t hj)
theorem sB_sB {S : SS} {k : Nat} {f g : Nat → Int64} : sB (sB S k f) k g = sB S k g := SS_ext rfl rfl rfl (by
  funext j
  show cond (Nat.beq j k) _ (cond (Nat.beq j k) _ _) = cond (Nat.beq j k) _ _
  cases Nat.beq j k <;> rfl)
/-- after v rounds, the first k of the next one done -/
def WI (E : Nat → Nat → Prop) (c v k : Nat) (S : SS) : Prop := ∀ i j, i < c → j < c → (bL (gB S 16 i) j = true ↔ (if i < k then Wf E (v + 1) i j else Wf E v i j))
theorem p_loops_35 {E : Nat → Nat → Prop} {c v : Nat} (hc : c ≤ 60) (hv : v < c) {S : SS} (h : WI E c v 0 S) : Pc (zI (b_X3_checkLoops_35 (nI c) (nI v)) zF ((0 : Int32), S)) (fun T => (∃ g, T = sB S 16 g) ∧ WI E c (v + 1) 0 T) := by
  refine Pc_I (fun x : Int32 × SS => (∃ g, x.2 = sB S 16 g) ∧ ∃ k, x.1 = nI k ∧ k ≤ c ∧ WI E c v k x.2) (fun x hx => ?_) _ ⟨⟨gB S 16, ?_⟩, 0, rfl, Nat.zero_le _, h⟩
  · obtain ⟨x, T⟩ := x
    obtain ⟨⟨g, eT⟩, k, ex, hk, wi⟩ : (∃ g, T = sB S 16 g) ∧ ∃ k, x = nI k ∧ k ≤ c ∧ WI E c v k T := hx
    subst ex
    have cl : (nI k).toNatClampNeg = k := nI_clamp (by omega)
    have cv : (nI v).toNatClampNeg = v := nI_clamp (by omega)
    refine Pc_c (fun q => Pc_s ⟨⟨g, eT⟩, fun i j hi hj => ?_⟩) (fun q => Pc_G (fun _ => ?_))
    · rw [nI_leI (by omega) (by omega)] at q
      rw [wi i j hi hj, if_pos (by omega), if_neg (by omega)]
    · rw [nI_leI (by omega) (by omega)] at q
      have hkc : k < c := by omega
      rw [cl]
      have bk : bL (gB T 16 k) v = true ↔ Wf E v k v := by rw [wi k v hkc hv, if_neg (by omega)]
      have bv : ∀ j, j < c → (bL (gB T 16 v) j = true ↔ Wf E v v j) := fun j hj => by
        rw [wi v j hv hj]
        by_cases y : v < k
        · rw [if_pos y]
          exact ⟨fun z => by rcases z with z | z; exact z; exact z.2, fun z => Or.inl z⟩
        · rw [if_neg y]
      refine Pc_i (lcb_t (by omega)) (fun z => Pc_G (fun _ => Pc_l (Pc_l (Pc_s ⟨⟨vp_updL (gB T 16) k (gB T 16 k ||| gB T 16 (nI v).toNatClampNeg), ?_⟩, k + 1, nI_1 k, by omega, fun i j hi hj => ?_⟩)))) (fun z => Pc_l (Pc_s ⟨⟨g, eT⟩, k + 1, nI_1 k, by omega, fun i j hi hj => ?_⟩))
      · show sB T 16 _ = sB S 16 _
        rw [eT, sB_sB]
      · show bL (gB (sB T 16 _) 16 i) j = true ↔ _
        rw [gB_eq, cv]
        by_cases y : i = k
        · rw [y, pk_uLs, bL_or, Bool.or_eq_true, if_pos (by omega), wi k j hkc hj, if_neg (by omega), bv j hj]
          have z' := bk.mp z
          constructor
          · rintro (w | w)
            · exact Or.inl w
            · exact Or.inr ⟨z', w⟩
          · rintro (w | w)
            · exact Or.inl w
            · exact Or.inr w.2
        · rw [pk_uLn y, wi i j hi hj]
          by_cases u : i < k
          · rw [if_pos u, if_pos (by omega)]
          · rw [if_neg u, if_neg (by omega)]
      · show bL (gB T 16 i) j = true ↔ _
        rw [wi i j hi hj]
        by_cases y : i = k
        · rw [y, if_neg (by omega), if_pos (by omega)]
          exact ⟨fun w => Or.inl w, fun w => by rcases w with w | w; exact w; exact absurd (bk.mpr w.1) z⟩
        · by_cases u : i < k
          · rw [if_pos u, if_pos (by omega)]
          · rw [if_neg u, if_neg (by omega)]
  · exact SS_ext rfl rfl rfl (by
      funext j
      show S.2.2.2 j = cond (Nat.beq j 16) (S.2.2.2 16) (S.2.2.2 j)
      rw [cond_eq]
      split
      · rename_i q; rw [q]
      · rfl)
/-- what the class finds -/
def LL (E : Nat → Nat → Prop) (c : Nat) (S3 S0 : SS) (w : Int32 × SS) : Prop := (w.1 = 0 ∧ ∃ i g, i < c ∧ TC E c i i ∧ (∀ j, j < i → ¬ TC E c j j) ∧ w.2 = flS (sB S3 16 g) 5 (gA S0 3 i)) ∨ (w.1 = 1 ∧ (∃ g, w.2 = sB S3 16 g) ∧ ∀ j, j < c → ¬ TC E c j j)
theorem p_checkLoops {E : Nat → Nat → Prop} {c : Nat} (hc : c ≤ 60) {S3 S0 : SS} (h0 : gI S0 0 = nI c) (h : ∀ i j, i < c → j < c → (bL (gB S0 10 i) j = true ↔ E i j)) : Pc (f_X3_checkLoops S3 S0) (LL E c S3 S0) := by
  unfold f_X3_checkLoops
  rw [h0]
  refine Pc_l (Pc_L (fun A eA => Pc_B (P := fun T => (∃ g, T = sB S3 16 g) ∧ WI E c c 0 T) ?_ (fun T hT => ?_)))
  · refine Pc_I (fun x : Int32 × SS => (∃ g, x.2 = sB S3 16 g) ∧ ∃ v, x.1 = nI v ∧ v ≤ c ∧ WI E c v 0 x.2) (fun x hx => ?_) _ ⟨⟨_, eA⟩, 0, rfl, Nat.zero_le _, fun i j hi hj => ?_⟩
    · obtain ⟨x, T⟩ := x
      obtain ⟨⟨g, eT⟩, v, ex, hv, wi⟩ : (∃ g, T = sB S3 16 g) ∧ ∃ v, x = nI v ∧ v ≤ c ∧ WI E c v 0 T := hx
      subst ex
      refine Pc_c (fun q => Pc_s ⟨⟨g, eT⟩, ?_⟩) (fun q => ?_)
      · rw [nI_leI (by omega) (by omega)] at q
        have : v = c := by omega
        rw [this] at wi
        exact wi
      · rw [nI_leI (by omega) (by omega)] at q
        refine Pc_B (p_loops_35 hc (by omega) wi) (fun U hU => Pc_l (Pc_s ⟨?_, v + 1, nI_1 v, by omega, hU.2⟩))
        obtain ⟨g2, e2⟩ := hU.1
        exact ⟨g2, by show U = _; rw [e2, eT, sB_sB]⟩
    · show bL (gB A 16 i) j = true ↔ _
      rw [if_neg (Nat.not_lt_zero _), eA, gB_eq]
      rw [show va_cpy (gB S0 10) (gB S3 16) (0 : Int32).toNatClampNeg (0 : Int32).toNatClampNeg (60 : Int32).toNatClampNeg i = gB S0 10 i from ?_]
      · exact h i j hi hj
      · rw [pk_cpy_in (by show (0 : Int32).toNatClampNeg ≤ i; exact Nat.zero_le _) (by show i < 0 + 60; omega)]
        show gB S0 10 (0 + (i - 0)) = _
        rw [Nat.zero_add, Nat.sub_zero]
  · obtain ⟨⟨g, eT⟩, wi⟩ := hT
    refine Pc_I (fun x : Int32 => ∃ k, x = nI k ∧ k ≤ c ∧ ∀ j, j < k → ¬ TC E c j j) (fun x hx => ?_) _ ⟨0, rfl, Nat.zero_le _, fun j hj => absurd hj (Nat.not_lt_zero _)⟩
    obtain ⟨k, ex, hk, no⟩ := hx
    subst ex
    have cl : (nI k).toNatClampNeg = k := nI_clamp (by omega)
    refine Pc_c (fun q => Pc_s (Or.inr ⟨rfl, ⟨g, eT⟩, fun j hj => no j ?_⟩)) (fun q => Pc_G (fun _ => ?_))
    · rw [nI_leI (by omega) (by omega)] at q
      omega
    · rw [nI_leI (by omega) (by omega)] at q
      rw [cl]
      have key : bL (gB T 16 k) k = true ↔ TC E c k k := by
        rw [wi k k (by omega) (by omega), if_neg (Nat.not_lt_zero _)]
        exact Wf_TC
      refine Pc_i (lcb_t (by omega)) (fun z => Pc_e rfl (Pc_G (fun _ => Pc_s (Or.inl ⟨rfl, k, g, by omega, key.mp z, no, by rw [← eT]; rfl⟩)))) (fun z => Pc_l (Pc_s ⟨k + 1, nI_1 k, by omega, fun j hj => ?_⟩))
      rcases Nat.lt_or_ge j k with y | y
      · exact no j y
      · have : j = k := by omega
        rw [this]
        exact fun w => z (key.mpr w)
