/-! the wheel: one look, one arrival -/
def WR (Bd c : Nat) (E : Nat → Nat → Prop) (S0 S4 S7 : SS) : Prop := WB Bd c S0 S4 S7 ∧ BCO c E S0 S7
/-- nothing of the CIRCUIT, of the values or of the tape -/
def TM7 (S T : SS) : Prop := (∀ k, k ≤ 46 → gI T k = gI S k) ∧ (∀ k, k ≤ 39 → gA T k = gA S k) ∧ ∀ k, gB T k = gB S k
theorem TM7_t {S T U : SS} (h : TM7 S T) (g : TM7 T U) : TM7 S U := ⟨fun k q => (g.1 k q).trans (h.1 k q), fun k q => (g.2.1 k q).trans (h.2.1 k q), fun k => (g.2.2 k).trans (h.2.2 k)⟩
theorem TM7_CE {b c : Nat} {E : Nat → Nat → Prop} {M : Nat → Nat} {S0 S T : SS} (h : CE b c E M S0 S) (g : TM7 S T) : CE b c E M S0 T := CE_f h ⟨g.1 29 (by decide), g.1 30 (by decide)⟩ (fun k hk => g.2.1 k (by omega)) (g.2.2 11)
theorem p_clear {b c : Nat} {E : Nat → Nat → Prop} {M : Nat → Nat} {S0 S7 : SS} (h : CE b c E M S0 S7) (n : Int32) : Pc (zI (b_X7_looks_236 n) zF ((0 : Int32), S7)) (fun w => w.1 = n ∧ ∃ g, w.2 = sA S7 45 g ∧ ∀ i, i < c → g i = 0) := by
  obtain ⟨hc, _, _, h29, _⟩ := h.1
  refine Pc_I (fun v : Int32 × SS => ∃ k g, v.1 = nI k ∧ k ≤ c ∧ v.2 = sA S7 45 g ∧ ∀ i, i < k → g i = 0) (fun v hv => ?_) _ ⟨0, gA S7 45, rfl, Nat.zero_le _, sA_self.symm, fun i q => absurd q (Nat.not_lt_zero _)⟩
  obtain ⟨v, T⟩ := v
  obtain ⟨k, g, ev, hk, eT, hg⟩ : ∃ k g, v = nI k ∧ k ≤ c ∧ T = sA S7 45 g ∧ ∀ i, i < k → g i = 0 := hv
  subst ev
  have t29 : gI T 29 = nI c := by rw [eT]; exact h29
  refine Pc_c (fun q => Pc_s ⟨rfl, g, eT, fun i hi => hg i ?_⟩) (fun q => Pc_G (fun _ => Pc_l (Pc_l (Pc_s ⟨k + 1, upd g k 0, nI_1 k, ?_, ?_, fun i hi => ?_⟩))))
  · rw [t29, nI_leI (by omega) (by omega)] at q
    omega
  · rw [t29, nI_leI (by omega) (by omega)] at q
    omega
  · show sA T 45 _ = _
    rw [nI_clamp (by omega), nar0, eT, gA_eq, sA_sA]
  · by_cases e : i = k
    · rw [e, pk_us]
    · rw [pk_un e]
      exact hg i (by omega)
theorem p_idle {b c : Nat} {E : Nat → Nat → Prop} {M : Nat → Nat} {S0 S7 : SS} (h : CE b c E M S0 S7) (no : ∀ i, i < c → gA S7 45 i = 0) : Pc (zI b_X7_looks_109 zF ((0 : Int32), S7)) (fun T => T = S7) := by
  obtain ⟨hc, _, _, h29, _⟩ := h.1
  refine Pc_I (fun v : Int32 × SS => ∃ k, v.1 = nI k ∧ k ≤ c ∧ v.2 = S7) (fun v hv => ?_) _ ⟨0, rfl, Nat.zero_le _, rfl⟩
  obtain ⟨v, T⟩ := v
  obtain ⟨k, ev, hk, eT⟩ : ∃ k, v = nI k ∧ k ≤ c ∧ T = S7 := hv
  subst ev
  subst eT
  refine Pc_c (fun q => Pc_s rfl) (fun q => ?_)
  rw [h29, nI_leI (by omega) (by omega)] at q
  have kc : k < c := by omega
  refine Pc_e (e_kind7 h kc) (Pc_c (fun k2 => Pc_B (p_hasChanged h kc (Or.inr k2)) (fun r hr => Pc_c (fun _ => Pc_l (Pc_s ⟨k + 1, nI_1 k, by omega, rfl⟩)) (fun z => ?_))) (fun _ => Pc_l (Pc_s ⟨k + 1, nI_1 k, by omega, rfl⟩)))
  obtain ⟨y, y1, y2⟩ := hr.mp z
  exact absurd (no y ((h.2.2.2.2.1.1 k y kc).mp y1).1) y2
/-- BUSES that are as they should be stay so -/
theorem BSL_id {b c : Nat} {E : Nat → Nat → Prop} {M : Nat → Nat} {S0 S7 A : SS} (h : CE b c E M S0 S7) (bc : BCO c E S0 S7) (no : ∀ i, i < c → gA S7 45 i = 0) (b7 : BSL c S0 (gA S7 40) (gA A 40)) : ∀ i, i < c → gA A 40 i = gA S7 40 i :=
  BSL_u h b7 (fun i hi => ⟨fun k1 => bc i hi k1 (fun y ey => no y ((h.2.2.2.2.1.1 i y hi).mp ey).1), fun _ => rfl⟩) (fun _ _ => rfl)
/-- both look -/
theorem p_looks {b c Bd t : Nat} {E : Nat → Nat → Prop} {M : Nat → Nat} {S0 S4 S7 : SS} (h : CE b c E M S0 S7) (hB : Bd ≤ 2000000000) (ht : gI S7 47 = nI t) (ht2 : t ≤ 1000000000) (hd : ∀ i, i < c → ∃ d, d ≤ 9 ∧ gA S0 6 i = nI d) (wr : WR Bd c E S0 S4 S7) : P2 (f_X4_follow S4 S0) (f_X7_looks S7) (fun x y => x.1 = y.1 ∧ WR (Bd + 1) c E S0 x.2 y.2 ∧ TM7 S7 y.2 ∧ gI y.2 47 = gI S7 47 ∧ ∀ i, i < c → gA y.2 45 i = 0) := by
  obtain ⟨hc, hb, h0, h29, h30⟩ := h.1
  obtain ⟨wb, bc⟩ := wr
  obtain ⟨n6, n44⟩ := WB_hn wb
  have vq : ∀ i, i < c → VQ (gA S7 40 i) := fun i hi => (wb.2.1 i hi).2.2
  have fin : ∀ {T4 T7 A7 U V : SS} {g : Nat → Int32}, WB (Bd + 1) c S0 T4 T7 → GT7 A7 T7 → EF7 c S7 A7 → BSL c S0 (gA S7 40) (gA A7 40) → (∀ k, gI U k = gI T4 k) → (∀ k, gA U k = gA T4 k) → gL U 7 = 0 → V = sA T7 45 g → (∀ i, i < c → g i = 0) → WR (Bd + 1) c E S0 U V ∧ TM7 S7 V ∧ gI V 47 = gI S7 47 ∧ ∀ i, i < c → gA V 45 i = 0 := by
    intro T4 T7 A7 U V g wb' gt e7 b7 uI uA u7 eV hg
    obtain ⟨⟨w0, w1⟩, w2, w3, w4, w5, w6, w7⟩ := wb'
    have vA : ∀ k, k ≠ 45 → gA V k = gA T7 k := fun k hk => by rw [eV, gA_ne hk]
    have v45 : gA V 45 = g := by rw [eV, gA_eq]
    have vI : ∀ k, gI V k = gI T7 k := fun k => by rw [eV]; rfl
    have v40 : gA V 40 = gA A7 40 := by rw [vA 40 (by decide), gt.2.1 40 (by decide) (by decide)]
    refine ⟨⟨⟨⟨by rw [uI, vI]; exact w0, by rw [uI, vI]; exact w1⟩, fun i hi => by rw [uA, uA, vA 40 (by decide), vA 41 (by decide)]; exact w2 i hi, fun j hj => by rw [uA, vA 42 (by decide)]; exact w3 j hj, fun i hi => WVi_eq (w4 i hi) (by rw [uA]) (by rw [vA 44 (by decide)]) (fun k _ => by rw [uA]) (fun k _ => by rw [vA 43 (by decide)]), fun y hy => ?_, by rw [vI, vA 42 (by decide)]; exact w6, fun i s hi hs k => by rw [vA 42 (by decide)]; exact w7 i s hi hs k⟩, fun i hi k1 _ => ?_⟩, ⟨fun k hk => ?_, fun k hk => ?_, fun k => ?_⟩, ?_, fun i hi => by rw [v45]; exact hg i hi⟩
    · rw [u7, bL_0, v45]
      exact ⟨fun q => absurd q (by decide), fun q => absurd (hg y q.1) q.2⟩
    · rw [v40]
      exact (b7 i hi).1 k1
    · rw [vI, gt.1 k (by omega), e7.1.1]
    · rw [vA k (by omega), gt.2.1 k (by omega) (by omega), e7.1.2.1 k (by omega) (by omega) (by omega) (by omega)]
    · have : gB V k = gB T7 k := by rw [eV]; rfl
      rw [this, gt.2.2, e7.1.2.2]
    · rw [vI, gt.1 47 (by decide), e7.1.1]
  unfold f_X4_follow f_X7_looks
  refine P2_cl (fun z => ?_) (fun z => ?_)
  · -- none has changed
    have l0 := lc_eq.mp z
    have no : ∀ i, i < c → gA S7 45 i = 0 := fun i hi => Classical.byContradiction (fun q => by
      have := (wb.2.2.2.2.1 i (by omega)).mpr ⟨hi, q⟩
      rw [l0, bL_0] at this
      exact absurd this (by decide))
    refine P2_Br (p_buses7 h hB n44 vq bc) (fun a ha => ?_)
    obtain ⟨m, A7⟩ := a
    obtain ⟨e7, b7, v7, c7⟩ := ha
    have c7 : m = nI (cn (fun j => gA A7 40 j ≠ gA S7 40 j) c) := c7
    have e7 : EF7 c S7 A7 := e7
    have b7 : BSL c S0 (gA S7 40) (gA A7 40) := b7
    have id7 := BSL_id h bc no b7
    have m0 : m = 0 := by
      rw [c7, cn_0 (fun j hj q => q (id7 j hj))]
      rfl
    have hA := EF7_CE h e7
    have noA : ∀ i, i < c → gA A7 45 i = 0 := fun i hi => Classical.byContradiction (fun q => by
      rcases (e7.2.2 i hi).mp q with t | t
      · exact t (no i hi)
      · exact t (id7 i hi))
    refine P2_Br (p_idle hA noA) (fun T eT => ?_)
    rw [eT]
    refine P2_of (P := fun x => x = ((0 : Int32), S4)) (Pc_s rfl) (p_clear hA m) (fun x y ex hy => ?_)
    obtain ⟨y1, g, y2, y3⟩ := hy
    rw [ex]
    have eB : EF6 c S4 S4 := EF6_r c S4
    have b6 : BSL c S0 (gA S4 2) (gA S4 2) := fun i hi => ⟨fun k1 => ?_, fun _ => rfl⟩
    · have wbA := (WB_bus h hB wb eB b6 e7 b7 v7).1
      obtain ⟨a1, a2, a3, a4⟩ := fin (U := S4) wbA ⟨fun _ _ => rfl, fun _ _ _ => rfl, fun _ => rfl⟩ e7 b7 (fun _ => rfl) (fun _ => rfl) l0 y2 y3
      exact ⟨by rw [y1]; exact m0.symm, a1, a2, a3, a4⟩
    · have e := bc i hi k1 (fun y ey => no y ((h.2.2.2.2.1.1 i y hi).mp ey).1)
      rw [(wb.2.1 i hi).1, e]
      exact bvl_E h hi k1 (fun y hy _ => ((wb.2.1 y hy).1).symm)
  · refine P2_Bl (p_buses6 h n6) (fun a ha => P2_Br (p_buses7 h hB n44 vq bc) (fun d hd' => ?_))
    obtain ⟨n, A4⟩ := a
    obtain ⟨m, A7⟩ := d
    obtain ⟨e6, b6, c6⟩ := ha
    obtain ⟨e7, b7, v7, c7⟩ := hd'
    have c6 : n = nI (cn (fun j => gA A4 2 j ≠ gA S4 2 j) c) := c6
    have c7 : m = nI (cn (fun j => gA A7 40 j ≠ gA S7 40 j) c) := c7
    have e6 : EF6 c S4 A4 := e6
    have e7 : EF7 c S7 A7 := e7
    have b6 : BSL c S0 (gA S4 2) (gA A4 2) := b6
    have b7 : BSL c S0 (gA S7 40) (gA A7 40) := b7
    obtain ⟨wbA, eq⟩ := WB_bus h hB wb e6 b6 e7 b7 v7
    have hA := EF7_CE h e7
    have nm : n = m := by
      rw [c6, c7]
      exact congrArg nI (cn_c (fun i hi => by rw [eq i hi, (wb.2.1 i hi).1]))
    refine P2_B (p_gates hA (by rw [e7.1.1]; exact ht) ht2 hd wbA) (fun T4 T7 hT => P2_l (fun U eU => ?_))
    have hT7 : CE b c E M S0 T7 := CE_f hA ⟨hT.2.1 29 (by decide), hT.2.1 30 (by decide)⟩ (fun k hk => hT.2.2.1 k (by omega) (by omega)) (hT.2.2.2 11)
    refine P2_of (P := fun x => x = (n, U)) (Pc_s rfl) (p_clear hT7 m) (fun x y ex hy => ?_)
    obtain ⟨y1, g, y2, y3⟩ := hy
    rw [ex]
    obtain ⟨a1, a2, a3, a4⟩ := fin (U := U) hT.1 hT.2 e7 b7 (fun k => by rw [eU]; rfl) (fun k => by rw [eU]; rfl) (by rw [eU, gL_sL, if_pos rfl]) y2 y3
    exact ⟨nm.trans y1.symm, a1, a2, a3, a4⟩
/-- what comes at this time -/
theorem p_arrive {b c Bd t : Nat} {E : Nat → Nat → Prop} {M : Nat → Nat} {S0 S4 S7 : SS} (h : CE b c E M S0 S7) (hB : Bd ≤ 2000000000) (ht : gI S7 47 = nI t) (ht2 : t ≤ 1000000000) (wr : WR Bd c E S0 S4 S7) (n : Int32) : P2 (f_X4_arrive S4 S0) (zI b_X7_run_45 zF (n, (0 : Int32), S7)) (fun x y => n + x.1 = y.1 ∧ WR (Bd + 1) c E S0 x.2 y.2 ∧ TM7 S7 y.2 ∧ gI y.2 47 = gI S7 47) := by
  obtain ⟨hc, hb, h0, h29, h30⟩ := h.1
  -- NODES behind k have their old bound
  refine P2_I (fun (v : Int32 × Int32 × SS) (w : Int32 × Int32 × SS) => ∃ k, v.2.1 = nI k ∧ w.2.1 = nI k ∧ k ≤ c ∧ n + v.1 = w.1 ∧ WR (Bd + 1) c E S0 v.2.2 w.2.2 ∧ (∀ i, i < c → k ≤ i → WVi Bd v.2.2 w.2.2 i) ∧ TM7 S7 w.2.2 ∧ gI w.2.2 47 = gI S7 47) (fun v w hv => ?_) _ _ ⟨0, rfl, rfl, Nat.zero_le _, Int32.add_zero n, ⟨⟨wr.1.1, wr.1.2.1, wr.1.2.2.1, fun i hi => WVi_mono (wr.1.2.2.2.1 i hi) (by omega), wr.1.2.2.2.2⟩, wr.2⟩, fun i hi _ => wr.1.2.2.2.1 i hi, ⟨fun _ _ => rfl, fun _ _ => rfl, fun _ => rfl⟩, rfl⟩
  obtain ⟨r, v, A⟩ := v
  obtain ⟨s, w, D⟩ := w
  obtain ⟨k, ev, ew, hk, ers, ⟨wb, bc⟩, wold, tm, d47⟩ : ∃ k, v = nI k ∧ w = nI k ∧ k ≤ c ∧ n + r = s ∧ WR (Bd + 1) c E S0 A D ∧ (∀ i, i < c → k ≤ i → WVi Bd A D i) ∧ TM7 S7 D ∧ gI D 47 = gI S7 47 := hv
  subst ev
  subst ew
  have hD := TM7_CE h tm
  obtain ⟨_, _, _, d29, d30⟩ := hD.1
  obtain ⟨⟨w0, w1⟩, w2, w3, w4, w5, w6, w7⟩ := id wb
  have dt : gI D 47 = nI t := d47.trans ht
  have at0 : gI A 0 = nI t := w0.trans dt
  refine P2_c (by rw [h0, d29]) (fun _ _ => P2_s ⟨ers, ⟨wb, bc⟩, tm, d47⟩) (fun q _ => ?_)
  rw [h0, nI_leI (by omega) (by omega)] at q
  have kc : k < c := by omega
  have cl : (nI k).toNatClampNeg = k := nI_clamp (by omega)
  have sl : 10 * k + t % 10 < 10 * c := by omega
  obtain ⟨s1, s2⟩ := w3 _ sl
  refine P2_el (a := nI (10 * k + t % 10)) (by rw [at0]; exact e_slotAt (by omega)) (P2_Gl (fun _ => P2_r (fun x ex => P2_Gr (fun _ => ?_))))
  have ex2 : x = nI (10 * k + t % 10) := by
    rw [ex, dt]
    exact slot7 (by omega)
  rw [ex2, nI_clamp (by omega), s1]
  by_cases z : gA D 42 (10 * k + t % 10) = -1
  · rw [if_pos z, if_neg (fun u => (slot_lt s2).mp u z)]
    exact P2_l (fun _ e1 => P2_r (fun _ e2 => P2_s ⟨k + 1, by rw [e1]; exact nI_1 k, by rw [e2]; exact nI_1 k, by omega, ers, ⟨wb, bc⟩, fun i hi ki => wold i hi (by omega), tm, d47⟩))
  · rw [if_neg z, if_pos ((slot_lt s2).mpr z)]
    have vz : VQ (gA D 42 (10 * k + t % 10)) := by
      rcases s2 with s2 | s2
      · exact absurd s2 z
      · exact s2
    have k2 : gA S0 4 k = 2 := Classical.byContradiction (fun u => z (w7 k (t % 10) kc (by omega) u))
    have ak := (w2 k kc).1
    -- the counts
    have cm : gI D 48 - 1 = nI (cn (fun j => upd (gA D 42) (10 * k + t % 10) (-1) j ≠ -1) (10 * c)) := by
      rw [w6, cn_unslot sl z]
      exact nI_pred _
    refine P2_Bl (p_change6 (S := A) (by omega) (gA D 42 (10 * k + t % 10))) (fun y hy => ?_)
    obtain ⟨y1, B⟩ := y
    refine P2_r (fun vv evv => P2_r (fun F eF => P2_r (fun G eG => P2_Gr (fun _ => ?_))))
    have g40 : gA G 40 = gA D 40 := by rw [eG, gA_sI, eF, gA_ne (by decide)]
    have g42 : gA G 42 = upd (gA D 42) (10 * k + t % 10) (-1) := by rw [eG, gA_sI, eF, gA_eq]
    have gA' : ∀ j, j ≠ 42 → gA G j = gA D j := fun j hj => by rw [eG, gA_sI, eF, gA_ne hj]
    have gI' : ∀ j, j ≠ 48 → gI G j = gI D j := fun j hj => by rw [eG, gI_ne hj, eF, gI_sA]
    have gB' : ∀ j, gB G j = gB D j := fun j => by rw [eG, eF]; rfl
    have g48 : gI G 48 = gI D 48 - 1 := by rw [eG, gI_eq, eF, gI_sA]
    rw [cl, g40, evv]
    -- what holds of the slots in the end
    have slots : ∀ {B4 U7 : SS}, gA B4 4 = upd (gA A 4) (10 * k + t % 10) (-1) → gA U7 42 = upd (gA D 42) (10 * k + t % 10) (-1) → (∀ j, j < 10 * c → gA B4 4 j = gA U7 42 j ∧ (gA U7 42 j = -1 ∨ VQ (gA U7 42 j))) ∧ ∀ i s, i < c → s < 10 → gA S0 4 i ≠ 2 → gA U7 42 (10 * i + s) = -1 := by
      intro B4 U7 e1 e2
      rw [e1, e2]
      refine ⟨fun j hj => ?_, fun i s hi hs ki => ?_⟩
      · by_cases u : j = 10 * k + t % 10
        · rw [u, pk_us, pk_us]
          exact ⟨rfl, Or.inl rfl⟩
        · rw [pk_un u, pk_un u]
          exact w3 j hj
      · by_cases u : 10 * i + s = 10 * k + t % 10
        · rw [u, pk_us]
        · rw [pk_un u]
          exact w7 i s hi hs ki
    rcases hy with ⟨e1, e2⟩ | ⟨e1, e2, ch⟩
    · -- no change
      cases e2
      rw [if_pos (e1.symm.trans ak)]
      refine P2_l (fun r' er => P2_l (fun H eH => P2_l (fun K eK => P2_l (fun _ e3 => P2_r (fun _ e4 => P2_s ⟨k + 1, by rw [e3]; exact nI_1 k, by rw [e4]; exact nI_1 k, by omega, ?_, ?_, fun i hi ki => ?_, ?_, ?_⟩)))))
      · show n + r' = s
        rw [er, Int32.add_zero]
        exact ers
      · have k4 : gA K 4 = upd (gA A 4) (10 * k + t % 10) (-1) := by rw [eK, gA_sI, eH, gA_eq]
        have kA : ∀ j, j ≠ 4 → gA K j = gA A j := fun j hj => by rw [eK, gA_sI, eH, gA_ne hj]
        have k0 : gI K 0 = gI A 0 := by rw [eK, gI_ne (by decide), eH, gI_sA]
        have k1 : gI K 1 = gI A 1 - 1 := by rw [eK, gI_eq, eH, gI_sA]
        have k7 : gL K 7 = gL A 7 := by rw [eK, eH]; rfl
        obtain ⟨q1, q2⟩ := slots k4 g42
        refine ⟨⟨⟨by rw [k0, gI' 47 (by decide)]; exact w0, by rw [k1, g48, w1]⟩, fun i hi => by rw [kA 2 (by decide), kA 3 (by decide), g40, gA' 41 (by decide)]; exact w2 i hi, q1, fun i hi => WVi_eq (w4 i hi) (by rw [kA 6 (by decide)]) (by rw [gA' 44 (by decide)]) (fun k _ => by rw [kA 5 (by decide)]) (fun k _ => by rw [gA' 43 (by decide)]), fun y hy => by rw [k7, gA' 45 (by decide)]; exact w5 y hy, by rw [g48, g42]; exact cm, q2⟩, fun i hi ki no => ?_⟩
        rw [g40]
        rw [gA' 45 (by decide)] at no
        exact bc i hi ki no
      · exact WVi_eq (wold i hi (by omega)) (by rw [eK, gA_sI, eH, gA_ne (by decide)]) (by rw [gA' 44 (by decide)]) (fun k _ => by rw [eK, gA_sI, eH, gA_ne (by decide)]) (fun k _ => by rw [gA' 43 (by decide)])
      · exact ⟨fun j hj => by rw [gI' j (by omega)]; exact tm.1 j hj, fun j hj => by rw [gA' j (by omega)]; exact tm.2.1 j hj, fun j => by rw [gB']; exact tm.2.2 j⟩
      · rw [gI' 47 (by decide)]; exact d47
    · -- a change
      have e2 : y1 = 1 := e2
      have ch : CH6 A B k (gA D 42 (10 * k + t % 10)) := ch
      rw [if_neg (fun u => e1 (ak.trans u.symm))]
      refine P2_l (fun r' er => P2_l (fun H eH => P2_l (fun K eK => P2_l (fun _ e3 => ?_))))
      refine P2_Br (p_change7 (S := G) (by omega) (gA D 42 (10 * k + t % 10))) (fun U ch7 => P2_r (fun s' es => P2_r (fun _ e4 => P2_s ⟨k + 1, by rw [e3]; exact nI_1 k, by rw [e4]; exact nI_1 k, by omega, ?_, ?_, fun i hi ki => ?_, ?_, ?_⟩)))
      · show n + r' = s'
        rw [er, es, e2, ← ers, Int32.add_assoc]
      · obtain ⟨m, m1, m2, m3, _⟩ := wold k kc (Nat.le_refl _)
        obtain ⟨x6, o6⟩ := CH6_W (n := min m 20) hc kc m3 (by omega) ch
        obtain ⟨x7, o7⟩ := CH7_W (n := m) hc kc (by rw [gA' 44 (by decide)]; exact m2) (by omega) ch7
        obtain ⟨cI, ⟨c2, c3, c4⟩, c7, _⟩ := ch
        obtain ⟨⟨hI, hA, hBB⟩, ⟨h40, h45, _⟩, _⟩ := ch7
        have k4 : gA K 4 = upd (gA A 4) (10 * k + t % 10) (-1) := by rw [eK, gA_sI, eH, gA_eq, c4]
        have kA : ∀ j, j ≠ 4 → gA K j = gA B j := fun j hj => by rw [eK, gA_sI, eH, gA_ne hj]
        have k0 : gI K 0 = gI A 0 := by rw [eK, gI_ne (by decide), eH, gI_sA]; exact cI 0
        have k1 : gI K 1 = gI A 1 - 1 := by rw [eK, gI_eq, eH, gI_sA, cI 1]
        have k7 : gL K 7 = gL B 7 := by rw [eK, eH]; rfl
        have u42 : gA U 42 = upd (gA D 42) (10 * k + t % 10) (-1) := by rw [hA 42 (by decide) (by decide) (by decide) (by decide)]; exact g42
        obtain ⟨q1, q2⟩ := slots k4 u42
        rw [g40] at h40
        rw [gA' 45 (by decide)] at h45
        refine ⟨⟨⟨by rw [k0, hI 47, gI' 47 (by decide)]; exact w0, by rw [k1, hI 48, g48, w1]⟩, fun i hi => ?_, q1, fun i hi => ?_, fun y hy => ?_, by rw [hI 48, g48, u42]; exact cm, q2⟩, fun i hi ki no => ?_⟩
        · rw [kA 2 (by decide), kA 3 (by decide), c2, c3, h40, hA 41 (by decide) (by decide) (by decide) (by decide), gA' 41 (by decide)]
          by_cases u : i = k
          · rw [u, pk_us, pk_us]
            exact ⟨rfl, (w2 k kc).2.1, vz⟩
          · rw [pk_un u, pk_un u]
            exact w2 i hi
        · by_cases u : i = k
          · subst u
            have x6' : W6 A K i (gA D 42 (10 * i + t % 10)) := W6_u (T := B) (by rw [kA 6 (by decide)]) (fun k _ => by rw [kA 5 (by decide)]) x6
            have x7' : W7 D U i (gA D 42 (10 * i + t % 10)) := by
              obtain ⟨p1, p2⟩ := x7
              rw [gA' 44 (by decide)] at p1 p2
              refine ⟨p1, fun k hk => ?_⟩
              rw [p2 k hk, gI' 47 (by decide), gA' 43 (by decide)]
            exact WVi_ch hB (wold i hi (Nat.le_refl _)) w0 x6' x7'
          · obtain ⟨p1, p2⟩ := o6 i hi u
            obtain ⟨p3, p4⟩ := o7 i hi u
            refine WVi_eq (w4 i hi) (by rw [kA 6 (by decide)]; exact p1) (by rw [p3, gA' 44 (by decide)]) (fun k hk => by rw [kA 5 (by decide)]; exact p2 k hk) (fun k hk => by rw [p4 k hk, gA' 43 (by decide)])
        · rw [k7, c7, bL_or, Bool.or_eq_true, bL_s (by omega) hy, w5 y hy, h45]
          by_cases u : y = k
          · rw [u, pk_us]
            exact ⟨fun _ => ⟨kc, ne10⟩, fun _ => Or.inr rfl⟩
          · rw [pk_un u]
            constructor
            · rintro (q | q)
              · exact q
              · exact absurd q u
            · exact fun q => Or.inl q
        · have nk : ∀ y, E i y → y ≠ k := fun y ey u => by
            have := no y ey
            rw [h45, u, pk_us] at this
            exact ne10 this
          have ik : i ≠ k := fun u => by
            rw [u, k2] at ki
            exact absurd ki (by decide)
          have old := bc i hi ki (fun y ey => by
            have := no y ey
            rw [h45, pk_un (nk y ey)] at this
            exact this)
          rw [h40, pk_un ik, old]
          exact bvl_E h hi ki (fun y _ ey => by rw [pk_un (nk y ey)])
      · obtain ⟨m, m1, m2, m3, _⟩ := wold k kc (Nat.le_refl _)
        obtain ⟨_, o6⟩ := CH6_W (n := min m 20) hc kc m3 (by omega) ch
        obtain ⟨_, o7⟩ := CH7_W (n := m) hc kc (by rw [gA' 44 (by decide)]; exact m2) (by omega) ch7
        obtain ⟨p1, p2⟩ := o6 i hi (by omega)
        obtain ⟨p3, p4⟩ := o7 i hi (by omega)
        exact WVi_eq (wold i hi (by omega)) (by rw [eK, gA_sI, eH, gA_ne (by decide)]; exact p1) (by rw [p3, gA' 44 (by decide)]) (fun k hk => by rw [eK, gA_sI, eH, gA_ne (by decide)]; exact p2 k hk) (fun k hk => by rw [p4 k hk, gA' 43 (by decide)])
      · obtain ⟨⟨hI, hA, hBB⟩, _⟩ := ch7
        exact ⟨fun j hj => by rw [hI j, gI' j (by omega)]; exact tm.1 j hj, fun j hj => by rw [hA j (by omega) (by omega) (by omega) (by omega), gA' j (by omega)]; exact tm.2.1 j hj, fun j => by rw [hBB, gB']; exact tm.2.2 j⟩
      · rw [ch7.1.1 47, gI' 47 (by decide)]; exact d47
