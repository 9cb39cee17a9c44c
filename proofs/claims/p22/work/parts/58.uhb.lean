/-! the class's order and levels -/
theorem p_levelAbove {E : Nat → Prop} {S : SS} {c B : Nat} (h0 : gI S 0 = nI c) (hc : c ≤ 60) {w : Int64} (hw : ∀ y, y < c → (bL w y = true ↔ E y)) (hB : B ≤ 5000) (hl : ∀ y, y < c → E y → ∃ r, gA S 11 y = nI r ∧ r < B) : Pc (f_X0_levelAbove S w) (fun r => ∃ m, r = nI m ∧ m ≤ B ∧ (∀ y, y < c → E y → ∃ r, gA S 11 y = nI r ∧ r < m) ∧ (m = 0 ∨ ∃ y r, y < c ∧ E y ∧ gA S 11 y = nI r ∧ r + 1 = m)) := by
  refine Pc_I (fun v : Int32 × Int32 => ∃ j m, v.2 = nI j ∧ j ≤ c ∧ v.1 = nI m ∧ m ≤ B ∧ (∀ y, y < j → E y → ∃ r, gA S 11 y = nI r ∧ r < m) ∧ (m = 0 ∨ ∃ y r, y < c ∧ E y ∧ gA S 11 y = nI r ∧ r + 1 = m)) (fun v hv => ?_) _ ⟨0, 0, rfl, Nat.zero_le _, rfl, Nat.zero_le _, fun y q => absurd q (Nat.not_lt_zero _), Or.inl rfl⟩
  obtain ⟨w1, v⟩ := v
  obtain ⟨j, m, ev, hj, ew, hm, h1, h2⟩ : ∃ j m, v = nI j ∧ j ≤ c ∧ w1 = nI m ∧ m ≤ B ∧ (∀ y, y < j → E y → ∃ r, gA S 11 y = nI r ∧ r < m) ∧ (m = 0 ∨ ∃ y r, y < c ∧ E y ∧ gA S 11 y = nI r ∧ r + 1 = m) := hv
  subst ev
  subst ew
  refine Pc_c (fun q => Pc_s ⟨m, rfl, hm, fun y hy e => h1 y ?_ e, h2⟩) (fun q => ?_)
  · rw [h0, nI_leI (by omega) (by omega)] at q
    omega
  · rw [h0, nI_leI (by omega) (by omega)] at q
    refine Pc_i (lcb_t (by omega)) (fun z => Pc_G (fun _ => ?_)) (fun z => Pc_l (Pc_s ⟨j + 1, m, nI_1 j, by omega, rfl, hm, fun y hy e => ?_, h2⟩))
    · have ej : E j := (hw j (by omega)).mp z
      obtain ⟨r, r1, r2⟩ := hl j (by omega) ej
      rw [nI_clamp (by omega), r1, nI_1]
      by_cases u : m < r + 1
      · rw [if_pos ((nI_ltI (by omega) (by omega)).mpr u)]
        refine Pc_l (Pc_l (Pc_s ⟨j + 1, r + 1, nI_1 j, by omega, rfl, by omega, fun y hy e => ?_, Or.inr ⟨j, r, by omega, ej, r1, rfl⟩⟩))
        rcases Nat.lt_or_ge y j with t | t
        · obtain ⟨r', r1', r2'⟩ := h1 y t e
          exact ⟨r', r1', by omega⟩
        · have : y = j := by omega
          rw [this]
          exact ⟨r, r1, by omega⟩
      · rw [if_neg (fun t => u ((nI_ltI (by omega) (by omega)).mp t))]
        refine Pc_l (Pc_l (Pc_s ⟨j + 1, m, nI_1 j, by omega, rfl, hm, fun y hy e => ?_, h2⟩))
        rcases Nat.lt_or_ge y j with t | t
        · exact h1 y t e
        · have : y = j := by omega
          rw [this]
          exact ⟨r, r1, by omega⟩
    · rcases Nat.lt_or_ge y j with t | t
      · exact h1 y t e
      · have : y = j := by omega
        rw [this] at e
        exact absurd ((hw j (by omega)).mpr e) z
/-- the first n places of an order of the first c NODES -/
def OD (E : Nat → Nat → Prop) (c n : Nat) (f : Nat → Int32) : Prop := (∀ k, k < n → ∃ i, i < c ∧ f k = nI i ∧ ∀ y, E i y → ∃ k', k' < k ∧ f k' = nI y) ∧ ∀ k k', k < n → k' < n → f k = f k' → k = k'
/-- their levels -/
def OL (E : Nat → Nat → Prop) (c n : Nat) (f g : Nat → Int32) : Prop := ∀ k i, k < n → i < c → f k = nI i → ∃ m, g i = nI m ∧ m ≤ k ∧ (∀ y, E i y → ∃ r, g y = nI r ∧ r < m) ∧ (m = 0 ∨ ∃ y r, E i y ∧ g y = nI r ∧ r + 1 = m)
def PLC (n : Nat) (f : Nat → Int32) (y : Nat) : Prop := ∃ k, k < n ∧ f k = nI y
def AR2 (E : Nat → Nat → Prop) (c n : Nat) (pl : Int64) (S0 S : SS) : Prop := K0 S0 S ∧ n ≤ c ∧ OD E c n (gA S 12) ∧ OL E c n (gA S 12) (gA S 11) ∧ (∀ y, y < 64 → (bL pl y = true ↔ PLC n (gA S 12) y)) ∧ cn (PLC n (gA S 12)) c = n
theorem cn_one {P Q : Nat → Prop} {i : Nat} : ∀ {c : Nat}, (∀ y, y < c → Q y → P y ∨ y = i) → cn Q c ≤ cn P c + 1 := by
  intro c
  induction c with
  | zero => intro _; exact Nat.zero_le _
  | succ c ih =>
    intro h
    by_cases q : Q c
    · rw [cn_y q]
      by_cases p : P c
      · have := ih (fun y hy => h y (by omega))
        rw [cn_y p]
        omega
      · have ei : c = i := by
          rcases h c (by omega) q with t | t
          · exact absurd t p
          · exact t
        have := cn_imp (P := Q) (Q := P) (k := c) (fun y hy z => by
          rcases h y (by omega) z with t | t
          · exact t
          · omega)
        rw [cn_n p]
        omega
    · have := ih (fun y hy => h y (by omega))
      have := cn_mono (P := P) (show c ≤ c + 1 by omega)
      rw [cn_n q]
      omega
theorem cn_all {P : Nat → Prop} {c : Nat} (h : cn P c = c) : ∀ y, y < c → P y := fun y hy => Classical.byContradiction (fun q => by
  have := cn_more (P := P) (Q := fun _ => True) (c := c) (fun _ _ _ => trivial) ⟨y, hy, trivial, q⟩
  have := cn_le (P := fun _ => True) c
  omega)
theorem cn_full {P : Nat → Prop} : ∀ {c : Nat}, (∀ y, y < c → P y) → cn P c = c := by
  intro c
  induction c with
  | zero => intro _; rfl
  | succ c ih => intro h; rw [cn_y (h c (by omega)), ih (fun y hy => h y (by omega))]
theorem bL_not {w : Int64} {j : Nat} (hj : j < 64) : bL (w ^^^ (-1 : Int64)) j = true ↔ ¬ bL w j = true := by
  have e : bL (-1 : Int64) j = true := by
    have : ∀ k : Fin 64, bL (-1 : Int64) k.val = true := by decide +kernel
    exact this ⟨j, hj⟩
  unfold bL at e ⊢
  rw [Int64.toBitVec_xor, BitVec.getLsbD_xor, e]
  cases w.toBitVec.getLsbD j <;> decide
theorem bL_and {w v : Int64} {j : Nat} : bL (w &&& v) j = true ↔ bL w j = true ∧ bL v j = true := by
  unfold bL
  rw [Int64.toBitVec_and, BitVec.getLsbD_and, Bool.and_eq_true]
theorem bL_z {w : Int64} : w = 0 ↔ ∀ j, j < 64 → ¬ bL w j = true := by
  refine ⟨fun h j _ => by rw [h, bL_0]; decide, fun h => Int64.toBitVec_inj.mp (BitVec.eq_of_getLsbD_eq (fun j hj => ?_))⟩
  have := h j hj
  show bL w j = bL 0 j
  rw [bL_0]
  exact Bool.eq_false_iff.mpr this
theorem p_dependsOn {S : SS} {i : Nat} (hi : i < 60) {w : Int64} : Pc (f_X0_dependsOn S (nI i) w) (fun r => zb r ∧ (r ≠ 0 ↔ ∃ y, y < 64 ∧ bL (gB S 10 i) y = true ∧ bL w y = true)) := by
  refine Pc_G (fun _ => ?_)
  rw [nI_clamp (by omega)]
  refine Pc_c (fun z => Pc_s ⟨zb0, fun q => absurd rfl q, fun ⟨y, hy, a, b⟩ => ?_⟩) (fun z => Pc_s ⟨zb1, fun _ => ?_, fun _ => ne10⟩)
  · have z := bL_z.mp (lc_eq.mp z) y hy
    exact absurd (bL_and.mpr ⟨a, b⟩) z
  · refine Classical.byContradiction (fun u => z (lc_eq.mpr (bL_z.mpr (fun j hj t => u ⟨j, hj, ?_⟩))))
    exact bL_and.mp t
theorem PLC_s {n i : Nat} {f : Nat → Int32} {y : Nat} : PLC (n + 1) (upd f n (nI i)) y ↔ PLC n f y ∨ nI i = nI y := by
  constructor
  · rintro ⟨k, hk, e⟩
    by_cases q : k = n
    · rw [q, pk_us] at e
      exact Or.inr e
    · rw [pk_un q] at e
      exact Or.inl ⟨k, by omega, e⟩
  · rintro (⟨k, hk, e⟩ | e)
    · exact ⟨k, by omega, by rw [pk_un (by omega)]; exact e⟩
    · exact ⟨n, by omega, by rw [pk_us]; exact e⟩
theorem p_arr_27 {E : Nat → Nat → Prop} {c n0 : Nat} {pl0 : Int64} {S0 A : SS} (hc : c ≤ 60) (h0 : gI S0 0 = nI c) (hE : ∀ i y, i < c → y < 64 → (bL (gB S0 10 i) y = true ↔ E i y)) (hy : ∀ i y, E i y → y < c) (h : AR2 E c n0 pl0 S0 A) : Pc (zI b_X0_arrange_27 zF (pl0, nI n0, (0 : Int32), A)) (fun w => ∃ n, w.2.1 = nI n ∧ AR2 E c n w.1 S0 w.2.2 ∧ (∀ y, PLC n0 (gA A 12) y → PLC n (gA w.2.2 12) y) ∧ (n = c ∨ n0 < n ∨ ∀ j, j < c → ¬ PLC n0 (gA A 12) j → ∃ y, E j y ∧ ¬ PLC n0 (gA A 12) y)) := by
  refine Pc_I (fun v : Int64 × Int32 × Int32 × SS => ∃ n p, v.2.1 = nI n ∧ v.2.2.1 = nI p ∧ p ≤ c ∧ AR2 E c n v.1 S0 v.2.2.2 ∧ (∀ y, PLC n0 (gA A 12) y → PLC n (gA v.2.2.2 12) y) ∧ (n0 < n ∨ (gA v.2.2.2 12 = gA A 12 ∧ n = n0 ∧ ∀ j, j < p → ¬ PLC n0 (gA A 12) j → ∃ y, E j y ∧ ¬ PLC n0 (gA A 12) y))) (fun v hv => ?_) _ ⟨n0, 0, rfl, rfl, Nat.zero_le _, h, fun _ q => q, Or.inr ⟨rfl, rfl, fun j q => absurd q (Nat.not_lt_zero _)⟩⟩
  obtain ⟨pl, vn, vp, S⟩ := v
  obtain ⟨n, p, en, ep, hp, ar, mono, pr⟩ : ∃ n p, vn = nI n ∧ vp = nI p ∧ p ≤ c ∧ AR2 E c n pl S0 S ∧ (∀ y, PLC n0 (gA A 12) y → PLC n (gA S 12) y) ∧ (n0 < n ∨ (gA S 12 = gA A 12 ∧ n = n0 ∧ ∀ j, j < p → ¬ PLC n0 (gA A 12) j → ∃ y, E j y ∧ ¬ PLC n0 (gA A 12) y)) := hv
  subst en
  subst ep
  obtain ⟨k0, hn, od, ol, bp, ct⟩ := id ar
  have s0 : gI S 0 = nI c := by rw [k0.1]; exact h0
  refine Pc_c (fun q => Pc_s ⟨n, rfl, ar, mono, Or.inr ?_⟩) (fun q => Pc_c (fun q2 => Pc_s ⟨n, rfl, ar, mono, Or.inl ?_⟩) (fun q2 => ?_))
  · rw [s0, nI_leI (by omega) (by omega)] at q
    rcases pr with pr | ⟨_, _, pr⟩
    · exact Or.inl pr
    · exact Or.inr (fun j hj => pr j (by omega))
  · rw [s0, nI_leI (by omega) (by omega)] at q2
    omega
  · rw [s0, nI_leI (by omega) (by omega)] at q q2
    have ip : (nI p).toNatClampNeg = p := nI_clamp (by omega)
    have nx : ∀ {P : Prop}, (¬ PLC n (gA S 12) p → ∃ y, E p y ∧ ¬ PLC n (gA S 12) y) → (n0 < n ∨ (gA S 12 = gA A 12 ∧ n = n0 ∧ ∀ j, j < p + 1 → ¬ PLC n0 (gA A 12) j → ∃ y, E j y ∧ ¬ PLC n0 (gA A 12) y)) := fun u => by
      rcases pr with pr | ⟨e1, e2, pr⟩
      · exact Or.inl pr
      · refine Or.inr ⟨e1, e2, fun j hj => ?_⟩
        rcases Nat.lt_or_ge j p with t | t
        · exact pr j t
        · have : j = p := by omega
          rw [this]
          rw [e1, e2] at u
          exact u
    refine Pc_B (P := fun r => r ≠ 0 ↔ PLC n (gA S 12) p) ?_ (fun r hr => ?_)
    · refine Pc_i (lcb_t (by omega)) (fun z => Pc_s ⟨fun _ => (bp p (by omega)).mp z, fun _ => ne10⟩) (fun z => Pc_s ⟨fun u => absurd rfl u, fun u => absurd ((bp p (by omega)).mpr u) z⟩)
    · refine Pc_c (fun z => ?_) (fun z => Pc_l (Pc_s ⟨n, p + 1, rfl, nI_1 p, by omega, ar, mono, nx (P := True) (fun u => absurd (hr.mp z) u)⟩))
      have npl : ¬ PLC n (gA S 12) p := fun u => (hr.mpr u) z
      refine Pc_B (p_dependsOn (S := S) (by omega)) (fun d hd => ?_)
      have dk : d ≠ 0 ↔ ∃ y, E p y ∧ ¬ PLC n (gA S 12) y := by
        rw [hd.2]
        constructor
        · rintro ⟨y, y1, y2, y3⟩
          rw [k0.2.2] at y2
          exact ⟨y, (hE p y (by omega) y1).mp y2, fun u => (bL_not y1).mp y3 ((bp y y1).mpr u)⟩
        · rintro ⟨y, y1, y2⟩
          have yc := hy p y y1
          exact ⟨y, by omega, by rw [k0.2.2]; exact (hE p y (by omega) (by omega)).mpr y1, (bL_not (by omega)).mpr (fun u => y2 ((bp y (by omega)).mp u))⟩
      refine Pc_c (fun y => ?_) (fun y => Pc_l (Pc_s ⟨n, p + 1, rfl, nI_1 p, by omega, ar, mono, nx (P := True) (fun _ => dk.mp y)⟩))
      have all : ∀ y, E p y → PLC n (gA S 12) y := fun y' e => Classical.byContradiction (fun u => (dk.mpr ⟨y', e, u⟩) y)
      refine Pc_G (fun _ => Pc_L (fun T eT => Pc_l (Pc_l (Pc_G (fun _ => ?_)))))
      have in_ : (nI n).toNatClampNeg = n := nI_clamp (by omega)
      rw [in_] at eT
      have t12 : gA T 12 = upd (gA S 12) n (nI p) := by rw [eT, gA_eq]
      have t11 : gA T 11 = gA S 11 := by rw [eT, gA_ne (by decide)]
      have t10 : gB T 10 = gB S 10 := by rw [eT]; rfl
      have tk : K0 S0 T := by rw [eT]; exact K0_A (Or.inr rfl) k0
      have lv : ∀ y, y < c → E p y → ∃ r, gA T 11 y = nI r ∧ r < n := fun y yc e => by
        obtain ⟨k, k1, k2⟩ := all y e
        obtain ⟨m, m1, m2, _⟩ := ol k y k1 yc k2
        exact ⟨m, by rw [t11]; exact m1, by omega⟩
      rw [ip]
      refine Pc_B (p_levelAbove (E := E p) (B := n) (by rw [eT]; exact s0) hc (w := gB T 10 p) (fun y hy => by rw [t10, k0.2.2]; exact hE p y (by omega) (by omega)) (by omega) lv) (fun r hr => ?_)
      obtain ⟨m, rfl, mb, m1, m2⟩ := hr
      refine Pc_L (fun U eU => Pc_l (Pc_s ⟨n + 1, p + 1, nI_1 n, nI_1 p, by omega, ?_, ?_, Or.inl ?_⟩))
      · have u12 : gA U 12 = upd (gA S 12) n (nI p) := by rw [eU, gA_ne (by decide)]; exact t12
        have u11 : gA U 11 = upd (gA S 11) p (nI m) := by rw [eU, gA_eq, t11]
        show AR2 E c (n + 1) (pl ||| jLs 1 (nI p)) S0 U
        have pls : ∀ y, PLC (n + 1) (gA U 12) y ↔ PLC n (gA S 12) y ∨ nI p = nI y := fun y => by rw [u12]; exact PLC_s
        have ne : ∀ y, E p y → y ≠ p := fun y e q => npl (by rw [← q]; exact all y e)
        refine ⟨by rw [eU]; exact K0_A (Or.inl rfl) tk, by omega, ⟨fun k hk => ?_, fun k k' hk hk' e => ?_⟩, fun k i hk hi e => ?_, fun y hy => ?_, ?_⟩
        · by_cases u : k = n
          · refine ⟨p, by omega, by rw [u, u12, pk_us], fun y e => ?_⟩
            obtain ⟨k', k1, k2⟩ := all y e
            exact ⟨k', by omega, by rw [u12, pk_un (by omega)]; exact k2⟩
          · obtain ⟨i, i1, i2, i3⟩ := od.1 k (by omega)
            refine ⟨i, i1, by rw [u12, pk_un u]; exact i2, fun y e => ?_⟩
            obtain ⟨k', k1, k2⟩ := i3 y e
            exact ⟨k', k1, by rw [u12, pk_un (by omega)]; exact k2⟩
        · rw [u12] at e
          by_cases u : k = n
          · by_cases u' : k' = n
            · omega
            · rw [u, pk_us, pk_un u'] at e
              exact absurd ⟨k', by omega, e.symm⟩ npl
          · by_cases u' : k' = n
            · rw [u', pk_us, pk_un u] at e
              exact absurd ⟨k, by omega, e⟩ npl
            · rw [pk_un u, pk_un u'] at e
              exact od.2 k k' (by omega) (by omega) e
        · rw [u12] at e
          rw [u11]
          by_cases u : k = n
          · rw [u, pk_us] at e
            have : p = i := (nI_eq (by omega) (by omega)).mp e
            subst this
            refine ⟨m, pk_us, by omega, fun y e => ?_, ?_⟩
            · obtain ⟨r, r1, r2⟩ := m1 y (hy p y e) e
              exact ⟨r, by rw [pk_un (ne y e), ← t11]; exact r1, r2⟩
            · rcases m2 with m2 | ⟨y, r, y1, y2, y3, y4⟩
              · exact Or.inl m2
              · exact Or.inr ⟨y, r, y2, by rw [pk_un (ne y y2), ← t11]; exact y3, y4⟩
          · rw [pk_un u] at e
            have ni : i ≠ p := fun q => npl ⟨k, by omega, by rw [← q]; exact e⟩
            obtain ⟨m', a1, a2, a3, a4⟩ := ol k i (by omega) hi e
            have ny : ∀ y, E i y → y ≠ p := fun y e' q => by
              obtain ⟨i', i1, i2, i3⟩ := od.1 k (by omega)
              rw [e] at i2
              have : i = i' := (nI_eq (by omega) (by omega)).mp i2
              rw [← this] at i3
              obtain ⟨k', k1, k2⟩ := i3 y e'
              exact npl ⟨k', by omega, by rw [← q]; exact k2⟩
            refine ⟨m', by rw [pk_un ni]; exact a1, a2, fun y e' => ?_, ?_⟩
            · rw [pk_un (ny y e')]
              exact a3 y e'
            · rcases a4 with a4 | ⟨y, r, y1, y2, y3⟩
              · exact Or.inl a4
              · exact Or.inr ⟨y, r, y1, by rw [pk_un (ny y y1)]; exact y2, y3⟩
        · rw [bL_or, Bool.or_eq_true, pls y, bL_s (by omega) hy, bp y hy, nI_eq (by omega) (by omega)]
          exact ⟨fun u => u.imp id (fun t => t.symm), fun u => u.imp id (fun t => t.symm)⟩
        · have a1 := cn_more (P := PLC n (gA S 12)) (Q := PLC (n + 1) (gA U 12)) (c := c) (fun y _ u => (pls y).mpr (Or.inl u)) ⟨p, by omega, (pls p).mpr (Or.inr rfl), npl⟩
          have a2 := cn_one (P := PLC n (gA S 12)) (Q := PLC (n + 1) (gA U 12)) (i := p) (c := c) (fun y hy u => ((pls y).mp u).imp id (fun t => ((nI_eq (by omega) (by omega)).mp t).symm))
          omega
      · intro y u
        have u := mono y u
        show PLC (n + 1) (gA U 12) y
        rw [eU, gA_ne (by decide), t12]
        exact PLC_s.mpr (Or.inl u)
      · rcases pr with pr | ⟨_, e2, _⟩ <;> omega
theorem p_arrange {E : Nat → Nat → Prop} {c : Nat} {S0 : SS} (hc : c ≤ 60) (h0 : gI S0 0 = nI c) (hE : ∀ i y, i < c → y < 64 → (bL (gB S0 10 i) y = true ↔ E i y)) (hy : ∀ i y, E i y → y < c) (ac : ∀ k, k < c → ¬ TC E c k k) : Pc (f_X0_arrange S0) (fun S => K0 S0 S ∧ OD E c c (gA S 12) ∧ OL E c c (gA S 12) (gA S 11) ∧ ∀ y, y < c → PLC c (gA S 12) y) := by
  have fin : ∀ {pl : Int64} {S : SS}, AR2 E c c pl S0 S → K0 S0 S ∧ OD E c c (gA S 12) ∧ OL E c c (gA S 12) (gA S 11) ∧ ∀ y, y < c → PLC c (gA S 12) y := fun ⟨k0, _, od, ol, _, ct⟩ => ⟨k0, od, ol, cn_all ct⟩
  refine Pc_I (fun v : Int64 × Int32 × Int32 × SS => ∃ n p, v.2.1 = nI n ∧ v.2.2.1 = nI p ∧ p ≤ c ∧ AR2 E c n v.1 S0 v.2.2.2 ∧ p ≤ n) (fun v hv => ?_) _ ⟨0, 0, rfl, rfl, Nat.zero_le _, ⟨K0_r S0, Nat.zero_le _, ⟨fun k q => absurd q (Nat.not_lt_zero _), fun k k' q => absurd q (Nat.not_lt_zero _)⟩, fun k i q => absurd q (Nat.not_lt_zero _), fun y hy => ⟨fun u => absurd u (by show ¬ bL 0 y = true; rw [bL_0]; decide), fun ⟨k, q, _⟩ => absurd q (Nat.not_lt_zero _)⟩, cn_0 (fun y _ ⟨k, q, _⟩ => absurd q (Nat.not_lt_zero _))⟩, Nat.le_refl _⟩
  obtain ⟨pl, vn, vp, S⟩ := v
  obtain ⟨n, p, en, ep, hp, ar, np⟩ : ∃ n p, vn = nI n ∧ vp = nI p ∧ p ≤ c ∧ AR2 E c n pl S0 S ∧ p ≤ n := hv
  subst en
  subst ep
  have s0 : gI S 0 = nI c := by rw [ar.1.1]; exact h0
  have hn := ar.2.1
  refine Pc_c (fun q => Pc_s ?_) (fun q => Pc_c (fun q2 => Pc_s ?_) (fun q2 => ?_))
  · rw [s0, nI_leI (by omega) (by omega)] at q
    have : n = c := by omega
    rw [this] at ar
    exact fin ar
  · rw [s0, nI_leI (by omega) (by omega)] at q2
    have : n = c := by omega
    rw [this] at ar
    exact fin ar
  · rw [s0, nI_leI (by omega) (by omega)] at q q2
    refine Pc_B (p_arr_27 hc h0 hE hy ar) (fun w hw => ?_)
    obtain ⟨pl', vn', S'⟩ := w
    obtain ⟨n', en', ar', mono, pr⟩ : ∃ n', vn' = nI n' ∧ AR2 E c n' pl' S0 S' ∧ (∀ y, PLC n (gA S 12) y → PLC n' (gA S' 12) y) ∧ (n' = c ∨ n < n' ∨ ∀ j, j < c → ¬ PLC n (gA S 12) j → ∃ y, E j y ∧ ¬ PLC n (gA S 12) y) := hw
    subst en'
    refine Pc_l (Pc_s ⟨n', p + 1, rfl, nI_1 p, by omega, ar', ?_⟩)
    have hn' := ar'.2.1
    rcases pr with pr | pr | pr
    · omega
    · omega
    · have all := no_end (E := E) (c := c) (fun i y _ e => hy i y e) ac (U := fun j => ¬ PLC n (gA S 12) j) (fun i hi u => pr i hi u)
      have : cn (PLC n (gA S 12)) c = c := cn_full (fun y hy => Classical.byContradiction (fun u => all y hy u))
      have := ar.2.2.2.2.2
      omega
/-- the bits of all that a NODE hangs on -/
theorem LK_E64 {C : Ct} {S : SS} (h : LK C (cU C) S) (g : GB C) (tri : TRI C) (ok : ∀ q, q < cU C → ¬ BU C q) : ∀ i y, i < cC C → y < 64 → (bL (gB S 10 i) y = true ↔ EG C i y) := by
  intro i y hi hy
  have xv : ∀ q, q < cU C → xq C q = nI y → y < cC C := fun q hq e => by
    have hc := g.1
    obtain ⟨j, hj, e1, _⟩ := BU_no (ok q hq) hc
    rw [e] at e1
    have : y = j := (nI_eq (by omega) (by omega)).mp e1
    omega
  rw [h.2.2.2.2.1 i y hi hy]
  refine ⟨fun q => ⟨?_, q⟩, fun q => q.2⟩
  obtain ⟨_, ⟨q, q1, _, q3⟩ | ⟨k, k1, k2, _, k4⟩⟩ := q
  · exact xv q q1 q3
  · obtain ⟨t1, _, _⟩ := tri.1 k k1 k2
    rcases k4 with k4 | k4
    · exact xv (k + 1) (by omega) k4
    · exact xv (k + 2) (by omega) k4
