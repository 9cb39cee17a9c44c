/-! the wheel: run -/
/-- two loops that keep step, until the first may end ahead of the second -/
theorem P2_J {V E V' E' : Type} {b : V → Option (V ⊕ E)} {b' : V' → Option (V' ⊕ E')} (R : V → V' → Prop) {Q : E → E' → Prop} (hs : ∀ v w, R v w → (∃ e, b v = some (.inr e) ∧ ∀ m, Pc (zI b' m w) (fun f => Q e f)) ∨ P2 (b v) (b' w) (PI2 R Q)) : ∀ (n m : Nat) {v : V} {w : V'}, R v w → P2 (zI b n v) (zI b' m w) Q := by
  intro n
  induction n with
  | zero => intro m v w _ a c e; cases e
  | succ n ih =>
    intro m v w hr a c e1 e2
    rcases hs v w hr with ⟨e, he, hq⟩ | hs
    · rw [zI_e he] at e1
      cases e1
      exact hq m c e2
    · cases m with
      | zero => cases e2
      | succ m =>
        have ⟨x, x1, x2⟩ := zI_spec e1
        have ⟨y, y1, y2⟩ := zI_spec e2
        have q := hs x y x1 y1
        cases x with
        | inl v' =>
          cases y with
          | inl w' => exact ih m q a c x2 y2
          | inr f => exact absurd q (fun h => h)
        | inr e =>
          cases y with
          | inl w' => exact absurd q (fun h => h)
          | inr f =>
            have x2 : e = a := x2
            have y2 : f = c := y2
            rw [← x2, ← y2]
            exact q
/-- nothing has come -/
def IDL (c : Nat) (S T : SS) : Prop := TM7 S T ∧ gI T 48 = gI S 48 ∧ (∀ i, i < c → (gA T 40 i = gA S 40 i ∧ gA T 41 i = gA S 41 i ∧ gA T 44 i = gA S 44 i) ∧ gA T 45 i = 0 ∧ ∀ k, k < 20 → gA T 43 (20 * i + k) = gA S 43 (20 * i + k)) ∧ ∀ j, j < 10 * c → gA T 42 j = gA S 42 j
theorem IDL_t {c : Nat} {S T U : SS} (h : IDL c S T) (g : IDL c T U) : IDL c S U := by
  obtain ⟨h1, h2, h3, h4⟩ := h
  obtain ⟨g1, g2, g3, g4⟩ := g
  refine ⟨TM7_t h1 g1, g2.trans h2, fun i hi => ?_, fun j hj => (g4 j hj).trans (h4 j hj)⟩
  obtain ⟨⟨a1, a2, a3⟩, _, a5⟩ := h3 i hi
  obtain ⟨⟨b1, b2, b3⟩, b4, b5⟩ := g3 i hi
  exact ⟨⟨b1.trans a1, b2.trans a2, b3.trans a3⟩, b4, fun k hk => (b5 k hk).trans (a5 k hk)⟩
theorem BCO_IDL {b c : Nat} {E : Nat → Nat → Prop} {M : Nat → Nat} {S0 S T : SS} (h : CE b c E M S0 S) (bc : BCO c E S0 S) (no : ∀ i, i < c → gA S 45 i = 0) (g : IDL c S T) : BCO c E S0 T := fun i hi ki _ => by
  have e := bc i hi ki (fun y ey => no y ((h.2.2.2.2.1.1 i y hi).mp ey).1)
  rw [(g.2.2.1 i hi).1.1, e]
  exact bvl_E h hi ki (fun y hy _ => ((g.2.2.1 y hy).1.1).symm)
theorem p_looks_idle {b c Bd : Nat} {E : Nat → Nat → Prop} {M : Nat → Nat} {S0 S7 : SS} (h : CE b c E M S0 S7) (hB : Bd ≤ 2000000000) (n44 : ∀ j, j < c → ∃ n, n ≤ Bd ∧ gA S7 44 j = nI n) (vq : ∀ i, i < c → VQ (gA S7 40 i)) (bc : BCO c E S0 S7) (no : ∀ i, i < c → gA S7 45 i = 0) : Pc (f_X7_looks S7) (fun y => y.1 = 0 ∧ IDL c S7 y.2 ∧ gI y.2 47 = gI S7 47) := by
  refine Pc_B (p_buses7 h hB n44 vq bc) (fun a ha => ?_)
  obtain ⟨m, A7⟩ := a
  obtain ⟨e7, b7, v7, c7⟩ := ha
  have c7 : m = nI (cn (fun j => gA A7 40 j ≠ gA S7 40 j) c) := c7
  have e7 : EF7 c S7 A7 := e7
  have b7 : BSL c S0 (gA S7 40) (gA A7 40) := b7
  have id7 := BSL_id h bc no b7
  have m0 : m = 0 := by
    rw [c7, cn_0 (fun j hj q => q (id7 j hj))]
    rfl
  have hA := EF7_CE h e7
  have noA : ∀ i, i < c → gA A7 45 i = 0 := fun i hi => Classical.byContradiction (fun q => by
    rcases (e7.2.2 i hi).mp q with t | t
    · exact t (no i hi)
    · exact t (id7 i hi))
  refine Pc_B (p_idle hA noA) (fun T eT => ?_)
  rw [eT]
  refine Pc_w (p_clear hA m) (fun y hy => ?_)
  obtain ⟨y1, g, y2, y3⟩ := hy
  refine ⟨y1.trans m0, ⟨⟨fun k hk => ?_, fun k hk => ?_, fun k => ?_⟩, ?_, fun i hi => ⟨⟨?_, ?_, ?_⟩, ?_, fun k hk => ?_⟩, fun j hj => ?_⟩, ?_⟩
  · rw [y2]; exact e7.1.1 k
  · rw [y2, gA_ne (by omega)]; exact e7.1.2.1 k (by omega) (by omega) (by omega) (by omega)
  · rw [y2]; exact e7.1.2.2 k
  · rw [y2]; exact e7.1.1 48
  · rw [y2, gA_ne (by decide)]; exact id7 i hi
  · rw [y2, gA_ne (by decide), e7.1.2.1 41 (by decide) (by decide) (by decide) (by decide)]
  · rw [y2, gA_ne (by decide)]; exact ((e7.2.1 i hi).1 (id7 i hi)).1
  · rw [y2, gA_eq]; exact y3 i hi
  · rw [y2, gA_ne (by decide)]; exact ((e7.2.1 i hi).1 (id7 i hi)).2 k hk
  · rw [y2, gA_ne (by decide), e7.1.2.1 42 (by decide) (by decide) (by decide) (by decide)]
  · rw [y2]; exact e7.1.1 47
theorem p_arrive_idle {b c t : Nat} {E : Nat → Nat → Prop} {M : Nat → Nat} {S0 S7 : SS} (h : CE b c E M S0 S7) (ht : gI S7 47 = nI t) (ht2 : t ≤ 1000000000) (sl : ∀ j, j < 10 * c → gA S7 42 j = -1) (n : Int32) : Pc (zI b_X7_run_45 zF (n, (0 : Int32), S7)) (fun y => y = (n, S7)) := by
  obtain ⟨hc, _, _, h29, _⟩ := h.1
  refine Pc_I (fun v : Int32 × Int32 × SS => ∃ k, v = (n, nI k, S7) ∧ k ≤ c) (fun v hv => ?_) _ ⟨0, rfl, Nat.zero_le _⟩
  obtain ⟨k, ev, hk⟩ := hv
  subst ev
  refine Pc_c (fun q => Pc_s rfl) (fun q => Pc_L (fun x ex => Pc_G (fun _ => ?_)))
  rw [h29, nI_leI (by omega) (by omega)] at q
  have ex2 : x = nI (10 * k + t % 10) := by
    rw [ex, ht]
    exact slot7 (by omega)
  rw [ex2, nI_clamp (by omega), sl _ (by omega)]
  refine Pc_c (fun z => absurd z (by decide)) (fun _ => Pc_l (Pc_s ⟨k + 1, ?_, by omega⟩))
  rw [nI_1]
theorem p_rest {b c Bd n t0 : Nat} {E : Nat → Nat → Prop} {M : Nat → Nat} {S0 S7 : SS} (h : CE b c E M S0 S7) (hB : Bd ≤ 2000000000) (hn : n ≤ 1000) (ht2 : t0 + n ≤ 1000000000) (n44 : ∀ j, j < c → ∃ n, n ≤ Bd ∧ gA S7 44 j = nI n) (vq : ∀ i, i < c → VQ (gA S7 40 i)) (bc : BCO c E S0 S7) (no : ∀ i, i < c → gA S7 45 i = 0) (sl : ∀ j, j < 10 * c → gA S7 42 j = -1) (s : Int32) {i0 : Nat} (hi0 : i0 ≤ n) (ht : gI S7 47 = nI (t0 + i0)) (m : Nat) : Pc (zI (b_X7_run_27 (nI n)) m (s, nI i0, S7)) (fun y => y.1 = s ∧ IDL c S7 y.2 ∧ gI y.2 47 = nI (t0 + n)) := by
  refine Pc_I (fun v : Int32 × Int32 × SS => ∃ i, v.1 = s ∧ v.2.1 = nI i ∧ i ≤ n ∧ IDL c S7 v.2.2 ∧ gI v.2.2 47 = nI (t0 + i)) (fun v hv => ?_) _ ⟨i0, rfl, rfl, hi0, ⟨⟨fun _ _ => rfl, fun _ _ => rfl, fun _ => rfl⟩, rfl, fun i hi => ⟨⟨rfl, rfl, rfl⟩, no i hi, fun _ _ => rfl⟩, fun _ _ => rfl⟩, ht⟩
  obtain ⟨w, v, D⟩ := v
  obtain ⟨i, ew, ev, hi, idl, dt⟩ : ∃ i, w = s ∧ v = nI i ∧ i ≤ n ∧ IDL c S7 D ∧ gI D 47 = nI (t0 + i) := hv
  subst ew
  subst ev
  refine Pc_c (fun q => Pc_s ?_) (fun q => Pc_L (fun A eA => ?_))
  · rw [nI_leI (by omega) (by omega)] at q
    have : i = n := by omega
    rw [this] at dt
    exact ⟨rfl, idl, dt⟩
  · rw [nI_leI (by omega) (by omega)] at q
    have aA : ∀ k, gA A k = gA D k := fun k => by rw [eA]; rfl
    have at47 : gI A 47 = nI (t0 + (i + 1)) := by rw [eA, gI_eq, dt, nI_1]; rfl
    have aI : ∀ k, k ≠ 47 → gI A k = gI D k := fun k hk => by rw [eA, gI_ne hk]
    have idA : IDL c S7 A := by
      obtain ⟨⟨g1, g2, g3⟩, g4, g5, g6⟩ := idl
      exact ⟨⟨fun k hk => by rw [aI k (by omega)]; exact g1 k hk, fun k hk => by rw [aA]; exact g2 k hk, fun k => by rw [eA]; exact g3 k⟩, by rw [aI 48 (by decide)]; exact g4, fun i hi => by rw [aA, aA, aA, aA, aA]; exact g5 i hi, fun j hj => by rw [aA]; exact g6 j hj⟩
    have hA := TM7_CE h idA.1
    refine Pc_B (p_arrive_idle hA at47 (by omega) (fun j hj => by rw [idA.2.2.2 j hj]; exact sl j hj) w) (fun x hx => ?_)
    rw [hx]
    refine Pc_B (p_looks_idle hA hB (fun j hj => by rw [(idA.2.2.1 j hj).1.2.2]; exact n44 j hj) (fun j hj => by rw [(idA.2.2.1 j hj).1.1]; exact vq j hj) (BCO_IDL h bc no idA) (fun j hj => (idA.2.2.1 j hj).2.1)) (fun y hy => ?_)
    obtain ⟨r, U⟩ := y
    obtain ⟨y1, y2, y3⟩ := hy
    have y1 : r = 0 := y1
    refine Pc_l (Pc_l (Pc_s ⟨i + 1, ?_, nI_1 i, by omega, IDL_t idA y2, ?_⟩))
    · rw [y1]
      exact Int32.add_zero _
    · exact y3.trans at47
theorem WR_IDL {b c Bd B' : Nat} {E : Nat → Nat → Prop} {M : Nat → Nat} {S0 S4 U S T : SS} (h : CE b c E M S0 S) (wr : WR Bd c E S0 S4 S) (no : ∀ i, i < c → gA S 45 i = 0) (g : IDL c S T) (hb : Bd ≤ B') (u0 : gI U 0 = gI T 47) (u1 : gI U 1 = gI S4 1) (uA : ∀ k, gA U k = gA S4 k) (u7 : gL U 7 = gL S4 7) : WR B' c E S0 U T := by
  obtain ⟨⟨⟨w0, w1⟩, w2, w3, w4, w5, w6, w7⟩, bc⟩ := wr
  obtain ⟨g1, g2, g3, g4⟩ := id g
  refine ⟨⟨⟨u0, by rw [u1, g2]; exact w1⟩, fun i hi => ?_, fun j hj => ?_, fun i hi => ?_, fun y hy => ?_, ?_, fun i s hi hs k => ?_⟩, BCO_IDL h bc no g⟩
  · obtain ⟨⟨a1, a2, _⟩, _⟩ := g3 i hi
    rw [uA, uA, a1, a2]
    exact w2 i hi
  · rw [uA, g4 j hj]
    exact w3 j hj
  · obtain ⟨⟨_, _, a3⟩, _, a5⟩ := g3 i hi
    exact WVi_mono (WVi_eq (w4 i hi) (by rw [uA]) a3 (fun k _ => by rw [uA]) a5) hb
  · rw [u7, w5 y hy]
    constructor
    · rintro ⟨a, b⟩
      exact absurd (no y a) b
    · rintro ⟨a, b⟩
      exact absurd (g3 y a).2.1 b
  · rw [g2, w6]
    exact congrArg nI (cn_c (fun j hj => by rw [g4 j hj]))
  · rw [g4 _ (by omega)]
    exact w7 i s hi hs k
theorem cn_none {P : Nat → Prop} {n : Nat} (h : cn P n = 0) : ∀ j, j < n → ¬ P j := fun j hj p => by
  have := cn_lt (P := P) hj p
  omega
theorem p_turn {b c Bd t n : Nat} {E : Nat → Nat → Prop} {M : Nat → Nat} {S0 S4 S7 : SS} (h : CE b c E M S0 S7) (hB : Bd ≤ 1000000000) (ht : gI S7 47 = nI t) (hn : n ≤ 1000) (ht2 : t + n ≤ 1000000000) (hd : ∀ i, i < c → ∃ d, d ≤ 9 ∧ gA S0 6 i = nI d) (wr : WR Bd c E S0 S4 S7) : P2 (f_X4_turn S4 S0 (nI n)) (zB (f_X7_looks S7) (fun ((r4, s7_5) : Int32 × SS) => zI (b_X7_run_27 (nI n)) zF (r4, (0 : Int32), s7_5))) (fun x y => x.1 = y.1 ∧ WR (Bd + 3000) c E S0 x.2 y.2 ∧ TM7 S7 y.2 ∧ gI y.2 47 = nI (t + n)) := by
  obtain ⟨hc, hb, h0, h29, h30⟩ := h.1
  refine P2_l (fun last el => P2_B (p_looks h (by omega) ht (by omega) hd wr) (fun x y hxy => ?_))
  obtain ⟨r, A⟩ := x
  obtain ⟨s, D⟩ := y
  obtain ⟨e1, wr1, tm1, d1, no1⟩ : r = s ∧ WR (Bd + 1) c E S0 A D ∧ TM7 S7 D ∧ gI D 47 = gI S7 47 ∧ ∀ i, i < c → gA D 45 i = 0 := hxy
  have l0 : last = nI (t + n) := by
    rw [el, wr.1.1.1, ht, nI_add]
  refine P2_w (Q := fun x y => ∃ x' : Int32 × SS, x = (x'.1, sI x'.2 0 last) ∧ (x'.1 = y.1 ∧ WR (Bd + 3000) c E S0 (sI x'.2 0 last) y.2 ∧ TM7 S7 y.2 ∧ gI y.2 47 = nI (t + n))) ?_ (fun x y ⟨x', ex, hx⟩ => by rw [ex]; exact hx)
  intro x y hx hy
  obtain ⟨⟨r', A'⟩, hx1, hx⟩ := zB_spec hx
  obtain ⟨_, rfl, hx⟩ := zL_spec hx
  refine ⟨(r', A'), (Option.some.inj hx).symm, ?_⟩
  refine P2_J (fun (v : Int32 × Int32 × SS) (w : Int32 × Int32 × SS) => ∃ i, v.2.1 = nI i ∧ w.2.1 = nI i ∧ i ≤ n ∧ v.1 = w.1 ∧ WR (Bd + 1 + 2 * i) c E S0 v.2.2 w.2.2 ∧ TM7 S7 w.2.2 ∧ gI w.2.2 47 = nI (t + i) ∧ ∀ j, j < c → gA w.2.2 45 j = 0) (Q := fun (x : Int32 × SS) (y : Int32 × SS) => x.1 = y.1 ∧ WR (Bd + 3000) c E S0 (sI x.2 0 last) y.2 ∧ TM7 S7 y.2 ∧ gI y.2 47 = nI (t + n)) (fun v w hv => ?_) _ _ ⟨0, rfl, rfl, Nat.zero_le _, e1, wr1, tm1, d1.trans ht, no1⟩ (r', A') y hx1 hy
  obtain ⟨r, v, A⟩ := v
  obtain ⟨s, w, D⟩ := w
  obtain ⟨i, ev, ew, hi, ers, wr, tm, dt, no⟩ : ∃ i, v = nI i ∧ w = nI i ∧ i ≤ n ∧ r = s ∧ WR (Bd + 1 + 2 * i) c E S0 A D ∧ TM7 S7 D ∧ gI D 47 = nI (t + i) ∧ ∀ j, j < c → gA D 45 j = 0 := hv
  subst ev
  subst ew
  have hD := TM7_CE h tm
  by_cases ed : n ≤ i
  · -- both are at their end
    have en : i = n := by omega
    refine Or.inr (P2_c Iff.rfl (fun _ _ => P2_s ⟨ers, ?_, tm, by rw [dt, en]⟩) (fun q _ => absurd ((nI_leI (by omega) (by omega)).mpr ed) q))
    refine WR_IDL hD wr no ⟨⟨fun _ _ => rfl, fun _ _ => rfl, fun _ => rfl⟩, rfl, fun j hj => ⟨⟨rfl, rfl, rfl⟩, no j hj, fun _ _ => rfl⟩, fun _ _ => rfl⟩ (by omega) ?_ (gI_ne (by decide)) (fun _ => rfl) rfl
    rw [gI_eq, l0, dt, en]
  · have ne : ¬ nI n ≤ nI i := fun q => ed ((nI_leI (by omega) (by omega)).mp q)
    have tc : gI A 1 = nI (cn (fun j => gA D 42 j ≠ -1) (10 * c)) := by rw [wr.1.1.2]; exact wr.1.2.2.2.2.2.1
    have cb : cn (fun j => gA D 42 j ≠ -1) (10 * c) ≤ 600 := Nat.le_trans (cn_le _) (by omega)
    by_cases z : cn (fun j => gA D 42 j ≠ -1) (10 * c) = 0
    · -- nothing is to come: the class stops
      refine Or.inl ⟨(r, A), E_n ne (E_y (by rw [tc, z]; decide) rfl), fun m => ?_⟩
      have sl : ∀ j, j < 10 * c → gA D 42 j = -1 := fun j hj => Classical.byContradiction (fun q => cn_none z j hj q)
      refine Pc_w (p_rest hD (Bd := Bd + 1 + 2 * i) (by omega) hn ht2 (WB_hn wr.1).2 (fun j hj => (wr.1.2.1 j hj).2.2) wr.2 no sl s hi dt m) (fun y hy => ?_)
      obtain ⟨y1, y2, y3⟩ := hy
      refine ⟨ers.trans y1.symm, WR_IDL hD wr no y2 (by omega) ?_ (gI_ne (by decide)) (fun _ => rfl) rfl, TM7_t tm y2.1, y3⟩
      rw [gI_eq, l0, y3]
    · refine Or.inr (P2_c Iff.rfl (fun q _ => absurd q ne) (fun _ _ => P2_cl (fun q => ?_) (fun _ => ?_)))
      · rw [tc, show (0 : Int32) = nI 0 from rfl, nI_leI (by omega) (by omega)] at q
        omega
      · refine P2_l (fun B eB => P2_r (fun F eF => ?_))
        have f47 : gI F 47 = nI (t + (i + 1)) := by rw [eF, gI_eq, dt, nI_1]; rfl
        have fI : ∀ k, k ≠ 47 → gI F k = gI D k := fun k hk => by rw [eF, gI_ne hk]
        have fA : ∀ k, gA F k = gA D k := fun k => by rw [eF]; rfl
        have tmF : TM7 D F := ⟨fun k hk => fI k (by omega), fun k _ => fA k, fun k => by rw [eF]; rfl⟩
        have wrF : WR (Bd + 1 + 2 * i) c E S0 B F := by
          refine WR_IDL hD wr no ⟨tmF, fI 48 (by decide), fun j hj => ?_, fun j _ => by rw [fA]⟩ (Nat.le_refl _) ?_ (by rw [eB]; exact gI_ne (by decide)) (fun k => by rw [eB]; rfl) (by rw [eB]; rfl)
          · rw [fA, fA, fA, fA, fA]
            exact ⟨⟨rfl, rfl, rfl⟩, no j hj, fun _ _ => rfl⟩
          · rw [eB, gI_eq, wr.1.1.1, dt, f47, nI_1]
            rfl
        have hF := TM7_CE hD tmF
        refine P2_B (p_arrive hF (by omega) f47 (by omega) wrF s) (fun x y hxy => ?_)
        obtain ⟨r2, B2⟩ := x
        obtain ⟨s2, F2⟩ := y
        obtain ⟨q1, q2, q3, q4⟩ : s + r2 = s2 ∧ WR (Bd + 1 + 2 * i + 1) c E S0 B2 F2 ∧ TM7 F F2 ∧ gI F2 47 = gI F 47 := hxy
        have hF2 := TM7_CE hF q3
        refine P2_l (fun r3 er3 => P2_B (p_looks hF2 (by omega) (q4.trans f47) (by omega) hd q2) (fun x y hxy => ?_))
        obtain ⟨r4, B4⟩ := x
        obtain ⟨s4, F4⟩ := y
        obtain ⟨p1, p2, p3, p4, p5⟩ : r4 = s4 ∧ WR (Bd + 1 + 2 * i + 1 + 1) c E S0 B4 F4 ∧ TM7 F2 F4 ∧ gI F4 47 = gI F2 47 ∧ ∀ j, j < c → gA F4 45 j = 0 := hxy
        refine P2_l (fun r5 er5 => P2_l (fun _ e5 => P2_r (fun s5 es5 => P2_r (fun _ e6 => P2_s ⟨i + 1, by rw [e5]; exact nI_1 i, by rw [e6]; exact nI_1 i, by omega, ?_, p2, TM7_t tm (TM7_t tmF (TM7_t q3 p3)), ?_, p5⟩))))
        · show r5 = s5
          rw [er5, es5, er3, p1, ers, q1]
        · exact p4.trans (q4.trans f47)
