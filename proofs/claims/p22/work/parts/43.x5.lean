theorem IV_remn {a b : Int} {x z : Int32} (e : z = x - x / 10 * 10) (hx : IV a b x) (hb : b < 0) : IV (-9) 0 z := by
  obtain ⟨x1, x2⟩ := hx
  have l1 := Int32.le_toInt x
  have t : (10 : Int32).toInt = 10 := by decide
  have h : (x / 10).toInt = x.toInt.tdiv 10 := by rw [Jvm.Kit.i32_div (by rw [t]; omega), t]
  have b1 := tmod_bounds (a := x.toInt) (M := 10) (by decide)
  have d := Int.tmod_add_mul_tdiv x.toInt 10
  have n : x.toInt.tmod 10 ≤ 0 := by
    have q := Int.neg_tmod (-x.toInt) 10
    rw [Int.neg_neg] at q
    have w := Int.tmod_nonneg (a := -x.toInt) 10 (by omega)
    omega
  have m : (x / 10 * 10).toInt = x.toInt.tdiv 10 * 10 := by rw [Jvm.Kit.i32_mul (by rw [h, t]; omega) (by rw [h, t]; omega), h, t]
  have q : z.toInt = x.toInt - x.toInt.tdiv 10 * 10 := by rw [e, Jvm.Kit.i32_sub (by rw [m]; omega) (by rw [m]; omega), m]
  constructor <;> omega
theorem i32_msb (x : Int32) : x.toBitVec.msb = decide (x.toInt < 0) := BitVec.msb_eq_toInt
theorem IV_xorn {a b : Int} {x z : Int32} (e : z = x ^^^ 10) (hx : IV a b x) (hb : b < 0) : IV (-2147483648) (-1) z := by
  obtain ⟨x1, x2⟩ := hx
  have h1 := i32_msb x
  have h2 := i32_msb z
  rw [e, Int32.toBitVec_xor, BitVec.msb_xor, h1, show (10 : Int32).toBitVec.msb = false from by decide, ← e] at h2
  have h3 : decide (x.toInt < 0) = true := decide_eq_true (by omega)
  rw [h3] at h2
  have h4 : z.toInt < 0 := of_decide_eq_true h2.symm
  exact ⟨(IV_top z).1, by omega⟩
theorem IV_xorp {a b : Int} {x z : Int32} (e : z = x ^^^ 10) (hx : IV a b x) (ha : 0 ≤ a) : IV 0 2147483647 z := by
  obtain ⟨x1, x2⟩ := hx
  have h1 := i32_msb x
  have h2 := i32_msb z
  rw [e, Int32.toBitVec_xor, BitVec.msb_xor, h1, show (10 : Int32).toBitVec.msb = false from by decide, ← e] at h2
  have h3 : decide (x.toInt < 0) = false := decide_eq_false (by omega)
  rw [h3] at h2
  have h4 : ¬ z.toInt < 0 := of_decide_eq_false h2.symm
  exact ⟨by omega, (IV_top z).2⟩
/-! the class's worlds and wheel: no throw -/
theorem k_J9_floorMod (p1 : Int32) : Ok (f_J9_floorMod_7cf53 p1 10) (fun r => IV 0 9 r) := by
  have t10 : (10 : Int32).toInt = 10 := by decide
  have t0 : (0 : Int32).toInt = 0 := by decide
  refine Ok_G (by decide) (Ok_L (fun v2 e2 => ?_))
  rcases Int.lt_or_le p1.toInt 0 with q | q
  · have hx : IV (-2147483648) (-1) p1 := ⟨(ti_r p1).1, by omega⟩
    have hv : IV (-9) 0 v2 := IV_remn e2 hx (by decide)
    have hn : IV (-2147483648) (-1) (p1 ^^^ 10) := IV_xorn rfl hx (by decide)
    refine Ok_c (fun c => ?_) (fun _ => Ok_c (fun c => Ok_s ?_) (fun c => Ok_s ?_))
    · rw [ti_le, t0] at c
      exact absurd hn.2 (by omega)
    · rw [c]
      exact IV_lit
    · have h8 : IV (-9) (-1) v2 := IV_ne_hi c hv (IV_lit (a := 0) (b := 0)) (by decide) (by decide) (by decide)
      exact IV_add rfl h8 (IV_lit (a := 10) (b := 10)) (by decide) (by decide) (by decide) (by decide)
  · have hx : IV 0 2147483647 p1 := ⟨q, (ti_r p1).2⟩
    have hv : IV 0 9 v2 := IV_rem (c := 10) e2 hx (by decide) (by decide) (by decide) (by decide) (by decide)
    have hn : IV 0 2147483647 (p1 ^^^ 10) := IV_xorp rfl hx (by decide)
    refine Ok_c (fun c => Ok_s hv) (fun c => ?_)
    rw [ti_le, t0] at c
    exact absurd hn.1 c
theorem k_X4_slotAt {p1 : Int32} (hp : IV 0 59 p1) (p2 : Int32) : Ok (f_X4_slotAt p1 p2) (fun r => IV 0 599 r) := by
  refine Ok_B (k_J9_floorMod p2) (fun r hr => Ok_s ?_)
  exact IV_add rfl (IV_mul (u := 0) (v := 590) rfl hp (IV_lit (a := 10) (b := 10)) (by decide) (by decide) (by decide) (by decide) (by decide)) hr (by decide) (by decide) (by decide) (by decide)
def I4 (S : SS) : Prop := AR 0 20 (gA S 6)
theorem k_X4_begin {S4 S0 : SS} (h4 : I4 S4) (h : I0 S0) (fw : Nat → Int32) : Ok (f_X4_begin S4 S0 fw) I4 := by
  refine Ok_l (Ok_l (Ok_l (Ok_B (P := I4) ?_ (fun S hS => ?_))))
  · refine Ok_F (fun v : Int32 × SS => IV 0 60 v.1 ∧ I4 v.2) (fun v => (60 - v.1.toInt).toNat) (fun v hv => ?_) ⟨IV_00, h4⟩ (mz 60)
    obtain ⟨v, S⟩ := v
    refine Ok_c (fun _ => Ok_s hv.2) (fun c => ?_)
    have ⟨g1, g2, g3⟩ := k_lp (by decide) hv.1 h.1 c
    refine Ok_G (k_in60 g1) (Ok_l (Ok_l (Ok_l (Ok_l (Ok_s (OkI_l ⟨g2, ?_⟩ g3))))))
    exact AR_upd (f := gA S 6) hv.2 IV_00
  · have hn : IV 0 600 (gI S0 0 * (10 : Int32)) := IV_mul rfl h.1 (IV_lit (a := 10) (b := 10)) (by decide) (by decide) (by decide) (by decide) (by decide)
    refine Ok_F (fun v : Int32 × SS => IV 0 600 v.1 ∧ I4 v.2) (fun v => (600 - v.1.toInt).toNat) (fun v hv => ?_) ⟨IV_00, hS⟩ (mz 600)
    obtain ⟨v, S⟩ := v
    refine Ok_c (fun _ => Ok_s hv.2) (fun c => ?_)
    have ⟨g1, g2, g3⟩ := k_lp (by decide) hv.1 hn c
    exact Ok_G (IV_in g1 (by decide) (by decide)) (Ok_l (Ok_l (Ok_s (OkI_l ⟨g2, hv.2⟩ g3))))
theorem k_X4_change {S4 : SS} (h4 : I4 S4) {p1 : Int32} (hp : IV 0 59 p1) (p2 : Int32) : Ok (f_X4_change S4 p1 p2) (fun r => I4 r.2) := by
  refine Ok_G (k_in60 hp) (Ok_c (fun _ => Ok_s h4) (fun _ => Ok_l (Ok_l (Ok_c (fun _ => Ok_s h4) (fun c => ?_)))))
  have hw : IV 0 19 (gA S4 6 p1.toNatClampNeg) := IV_nle_r c (IV_lit (a := 20) (b := 20)) (h4 _) (by decide) (by decide)
  have e : IV 0 1199 ((p1 * (20 : Int32)) + gA S4 6 p1.toNatClampNeg) := IV_add rfl (IV_mul (u := 0) (v := 1180) rfl hp (IV_lit (a := 20) (b := 20)) (by decide) (by decide) (by decide) (by decide) (by decide)) hw (by decide) (by decide) (by decide) (by decide)
  have e1 : IV 0 20 (gA S4 6 p1.toNatClampNeg + (1 : Int32)) := IV_add rfl hw (IV_lit (a := 1) (b := 1)) (by decide) (by decide) (by decide) (by decide)
  exact Ok_G (IV_in e (by decide) (by decide)) (Ok_l (Ok_l (Ok_s (AR_upd (f := gA S4 6) h4 e1))))
theorem k_X4_quiet (S4 : SS) : Ok (f_X4_quiet S4) (fun _ => True) := Ok_c (fun _ => Ok_c (fun _ => Ok_s trivial) (fun _ => Ok_s trivial)) (fun _ => Ok_s trivial)
theorem k_X4_changeOf {S4 : SS} (h4 : I4 S4) {p1 : Int32} (hp : IV 0 59 p1) (p2 : Int32) : Ok (f_X4_changeOf S4 p1 p2) (fun _ => True) := by
  refine Ok_c (fun _ => Ok_s trivial) (fun c => Ok_G (k_in60 hp) (Ok_c (fun _ => Ok_s trivial) (fun c2 => ?_)))
  have h1 : IV 0 2147483647 p2 := IV_nlt_l c (IV_top p2) (IV_lit (a := 0) (b := 0)) (by decide) (by decide)
  have h2 : IV 0 19 p2 := IV_nle_r c2 (h4 _) h1 (by decide) (by decide)
  have e : IV 0 1199 ((p1 * (20 : Int32)) + p2) := IV_add rfl (IV_mul (u := 0) (v := 1180) rfl hp (IV_lit (a := 20) (b := 20)) (by decide) (by decide) (by decide) (by decide) (by decide)) h2 (by decide) (by decide) (by decide) (by decide)
  exact Ok_G (IV_in e (by decide) (by decide)) (Ok_s trivial)
theorem k_X4_changeBuses {S4 S0 : SS} (h4 : I4 S4) (h : I0 S0) : Ok (f_X4_changeBuses S4 S0) (fun r => I4 r.2) := by
  refine Ok_F (fun v : Int32 × Int32 × SS => IV 0 60 v.2.1 ∧ I4 v.2.2) (fun v => (60 - v.2.1.toInt).toNat) (fun v hv => ?_) ⟨IV_00, h4⟩ (mz 60)
  obtain ⟨a, v, S⟩ := v
  refine Ok_c (fun _ => Ok_s hv.2) (fun c => ?_)
  have ⟨g1, g2, g3⟩ := k_lp (by decide) hv.1 h.1 c
  have g4 := h.2.2.2 v.toNatClampNeg
  refine Ok_G (k_in60 g1) (Ok_l (Ok_G (k_in60 g4) (Ok_c (fun cb => ?_) (fun _ => Ok_l (Ok_s (OkI_l ⟨g2, hv.2⟩ g3))))))
  refine Ok_B (k_X2_busValue h _ g4 cb) (fun r _ => Ok_B (k_X4_change hv.2 g4 r) (fun w hw => ?_))
  obtain ⟨r2, S2⟩ := w
  exact Ok_l (Ok_l (Ok_s (OkI_l ⟨g2, hw⟩ g3)))
theorem k_X4_lookAt {S4 S0 : SS} (h4 : I4 S4) (h : I0 S0) {p2 : Int32} (hp : IV 0 59 p2) : Ok (f_X4_lookAt S4 S0 p2) I4 := by
  refine Ok_B (k_X2_gateValue h _ hp) (fun r _ => Ok_G (k_in60 hp) (Ok_c (fun _ => Ok_s h4) (fun _ => Ok_l ?_)))
  refine Ok_B (k_X4_slotAt hp _) (fun r9 h9 => Ok_G (IV_in h9 (by decide) (by decide)) ?_)
  refine Ok_B (P := I4) (Ok_c (fun _ => Ok_l (Ok_s h4)) (fun _ => Ok_s h4)) (fun S hS => Ok_l (Ok_s hS))
theorem k_X4_follow {S4 S0 : SS} (h4 : I4 S4) (h : I0 S0) : Ok (f_X4_follow S4 S0) (fun r => I4 r.2) := by
  refine Ok_c (fun _ => Ok_s h4) (fun _ => Ok_B (k_X4_changeBuses h4 h) (fun w hw => ?_))
  obtain ⟨r, S⟩ := w
  refine Ok_B (P := I4) ?_ (fun S hS => Ok_l (Ok_s hS))
  refine Ok_F (fun v : Int32 × SS => IV 0 60 v.1 ∧ I4 v.2) (fun v => (60 - v.1.toInt).toNat) (fun v hv => ?_) ⟨IV_00, hw⟩ (mz 60)
  obtain ⟨v, S⟩ := v
  refine Ok_c (fun _ => Ok_s hv.2) (fun c => ?_)
  have ⟨g1, g2, g3⟩ := k_lp (by decide) hv.1 h.1 c
  refine Ok_G (k_in60 g1) (Ok_c (fun _ => ?_) (fun _ => Ok_l (Ok_s (OkI_l ⟨g2, hv.2⟩ g3))))
  refine Ok_B (k_X0_dependsOn g1 _) (fun r _ => Ok_c (fun _ => Ok_l (Ok_s (OkI_l ⟨g2, hv.2⟩ g3))) (fun _ => ?_))
  exact Ok_B (k_X4_lookAt hv.2 h g1) (fun S hS => Ok_l (Ok_s (OkI_l ⟨g2, hS⟩ g3)))
theorem k_X4_arrive {S4 S0 : SS} (h4 : I4 S4) (h : I0 S0) : Ok (f_X4_arrive S4 S0) (fun r => I4 r.2) := by
  refine Ok_F (fun v : Int32 × Int32 × SS => IV 0 60 v.2.1 ∧ I4 v.2.2) (fun v => (60 - v.2.1.toInt).toNat) (fun v hv => ?_) ⟨IV_00, h4⟩ (mz 60)
  obtain ⟨a, v, S⟩ := v
  refine Ok_c (fun _ => Ok_s hv.2) (fun c => ?_)
  have ⟨g1, g2, g3⟩ := k_lp (by decide) hv.1 h.1 c
  refine Ok_B (k_X4_slotAt g1 _) (fun r9 h9 => Ok_G (IV_in h9 (by decide) (by decide)) (Ok_c (fun _ => Ok_l (Ok_s (OkI_l ⟨g2, hv.2⟩ g3))) (fun _ => ?_)))
  refine Ok_B (k_X4_change hv.2 g1 _) (fun w hw => ?_)
  obtain ⟨r2, S2⟩ := w
  exact Ok_l (Ok_l (Ok_l (Ok_l (Ok_s (OkI_l ⟨g2, hw⟩ g3)))))
theorem k_X4_turn {S4 S0 : SS} (h4 : I4 S4) (h : I0 S0) {p2 : Int32} (hp : IV 0 1000 p2) : Ok (f_X4_turn S4 S0 p2) (fun r => I4 r.2) := by
  refine Ok_l (Ok_B (k_X4_follow h4 h) (fun w hw => ?_))
  obtain ⟨r, S⟩ := w
  refine Ok_B (P := fun r : Int32 × SS => I4 r.2) ?_ (fun w hw => ?_)
  · refine Ok_F (fun v : Int32 × Int32 × SS => IV 0 1000 v.2.1 ∧ I4 v.2.2) (fun v => (1000 - v.2.1.toInt).toNat) (fun v hv => ?_) ⟨IV_00, hw⟩ (mz 1000)
    obtain ⟨a, v, S⟩ := v
    refine Ok_c (fun _ => Ok_s hv.2) (fun c => Ok_c (fun _ => Ok_s hv.2) (fun _ => Ok_l ?_))
    have ⟨g1, g2, g3⟩ := k_lp (by decide) hv.1 hp c
    refine Ok_B (k_X4_arrive (S4 := sI S 0 (gI S 0 + (1 : Int32))) hv.2 h) (fun w hw => ?_)
    obtain ⟨r2, S2⟩ := w
    refine Ok_l (Ok_B (k_X4_follow hw h) (fun w hw => ?_))
    obtain ⟨r3, S3⟩ := w
    exact Ok_l (Ok_l (Ok_s (OkI_l ⟨g2, hw⟩ g3)))
  · obtain ⟨r2, S2⟩ := w
    exact Ok_l (Ok_s hw)
/-! worlds -/
theorem k_X5_freeRow {p1 : Int32} (hp : IV 0 60 p1) (p2 : Int32) : Ok (f_X5_freeRow p1 p2) (fun _ => True) := by
  refine Ok_c (fun _ => Ok_c (fun _ => Ok_s trivial) (fun _ => Ok_s trivial)) (fun c => ?_)
  have h : IV 0 5 p1 := IV_nle_r c (IV_lit (a := 6) (b := 6)) hp (by decide) (by decide)
  exact Ok_G (IV_in h (by decide) (by decide)) (Ok_s trivial)
theorem k_X5_join (p1 : Int32) (p2 p3 : Int64) : Ok (f_X5_join p1 p2 p3) (fun _ => True) := Ok_c (fun _ => Ok_s trivial) (fun _ => Ok_c (fun _ => Ok_s trivial) (fun _ => Ok_s trivial))
theorem k_J13_bitCount (p1 : Int64) : Ok (f_J13_bitCount_95d88 p1) (fun _ => True) := Ok_l (Ok_l (Ok_l (Ok_l (Ok_l (Ok_l (Ok_s trivial))))))
theorem k_X5_fillSources (S5 : SS) {S0 : SS} (h : I0 S0) (fw : Nat → Int32) (p3 : Int32) : Ok (f_X5_fillSources S5 S0 fw p3) (fun _ => True) := by
  refine Ok_F (fun v : Int32 × Int32 × SS => IV 0 60 v.2.1 ∧ IV 0 60 v.1 ∧ v.1.toInt ≤ v.2.1.toInt) (fun v => (60 - v.2.1.toInt).toNat) (fun v hv => ?_) ⟨IV_00, IV_00, Int.le_refl _⟩ (mz 60)
  obtain ⟨a, v, S⟩ := v
  obtain ⟨hv, ha, hav⟩ : IV 0 60 v ∧ IV 0 60 a ∧ a.toInt ≤ v.toInt := hv
  refine Ok_c (fun _ => Ok_s trivial) (fun c => ?_)
  have ⟨g1, g2, g3, g4, g5⟩ := lp_up (by decide) hv h.1.2 c
  have ea : IV 0 59 a := ⟨ha.1, by have := g1.2; omega⟩
  have e1 : (a + (1 : Int32)).toInt = a.toInt + 1 := IV_step rfl ea (by decide) (by decide) (by decide)
  have e2 : IV 0 60 (a + (1 : Int32)) := IV_add rfl ea (IV_lit (a := 1) (b := 1)) (by decide) (by decide) (by decide) (by decide)
  refine Ok_B (k_X0_isSource h v) (fun r hr => Ok_c (fun _ => Ok_l (Ok_s (OkI_l ⟨g2, ha, by show a.toInt ≤ (v + 1).toInt; omega⟩ g3))) (fun _ => ?_))
  refine Ok_G (k_in60 g1) (Ok_c (fun _ => ?_) (fun _ => ?_))
  · exact Ok_B (P := fun _ => True) (Ok_c (fun _ => Ok_s trivial) (fun _ => Ok_s trivial)) (fun b _ => Ok_l (Ok_l (Ok_s (OkI_l ⟨g2, ha, by show a.toInt ≤ (v + 1).toInt; omega⟩ g3))))
  · exact Ok_B (k_X5_freeRow ha p3) (fun b _ => Ok_l (Ok_l (Ok_l (Ok_s (OkI_l ⟨g2, e2, by show (a + 1).toInt ≤ (v + 1).toInt; omega⟩ g3)))))
theorem k_X5_gateRow (S5 : SS) {S0 : SS} (h : I0 S0) {p2 : Int32} (hp : IV 0 59 p2) : Ok (f_X5_gateRow S5 S0 p2) (fun _ => True) := by
  refine Ok_G (k_in60 hp) (Ok_l (Ok_B (k_X0_part h hp IV_lit) (fun r1 h1 => Ok_G (k_in60 h1) (Ok_l (Ok_c (fun _ => ?_) (fun _ => ?_))))))
  · refine Ok_B (k_X0_part h hp IV_lit) (fun r2 h2 => Ok_G (k_in60 h2) (Ok_B (k_X0_part h hp IV_lit) (fun r3 h3 => Ok_G (k_in60 h3) (Ok_s trivial))))
  · refine Ok_B (k_X0_size h hp) (fun r hr => Ok_B (P := fun _ => True) ?_ (fun w _ => ?_))
    · refine Ok_F (fun v : Int64 × Int32 => IV 0 12 v.2) (fun v => (12 - v.2.toInt).toNat) (fun v hv => ?_) IV_01 (mz1 12)
      obtain ⟨a, v⟩ := v
      refine Ok_c (fun _ => Ok_s trivial) (fun c => ?_)
      have ⟨g1, g2, g3⟩ := k_lp (by decide) hv hr.1 c
      exact Ok_B (k_X0_part h hp g1) (fun r3 h3 => Ok_G (k_in60 h3) (Ok_B (k_X5_join _ _ _) (fun _ _ => Ok_l (Ok_s (OkI_l g2 g3)))))
    · exact Ok_B (k_X2_isTurned _) (fun _ _ => Ok_c (fun _ => Ok_s trivial) (fun _ => Ok_s trivial))
theorem k_X5_busRow (S5 : SS) {S0 : SS} (h : I0 S0) {p2 : Int32} (hp : IV 0 59 p2) (hb : gA S0 4 p2.toNatClampNeg = 1) : Ok (f_X5_busRow S5 S0 p2) (fun _ => True) := by
  refine Ok_B (k_X0_size h hp) (fun r hr => Ok_B (P := fun _ => True) ?_ (fun w _ => ?_))
  · refine Ok_F (fun v : Int64 × Int64 × Int64 × Int32 => IV 0 6 v.2.2.2) (fun v => (6 - v.2.2.2.toInt).toNat) (fun v hv => ?_) IV_00 (mz 6)
    obtain ⟨a, b, c_, v⟩ := v
    refine Ok_c (fun _ => Ok_s trivial) (fun c => ?_)
    have ⟨g1, g2, g3⟩ := k_lp (by decide) hv (hr.2 hb) c
    have e0 : IV 0 10 ((2 : Int32) * v) := IV_mul rfl (IV_lit (a := 2) (b := 2)) g1 (by decide) (by decide) (by decide) (by decide) (by decide)
    have e1 : IV 0 11 (((2 : Int32) * v) + (1 : Int32)) := IV_add rfl e0 (IV_lit (a := 1) (b := 1)) (by decide) (by decide) (by decide) (by decide)
    refine Ok_B (k_X0_part h hp e1) (fun r2 h2 => Ok_G (k_in60 h2) (Ok_l (Ok_B (k_X0_isLow hp v) (fun _ _ => ?_))))
    refine Ok_B (P := fun _ => True) (Ok_c (fun _ => Ok_s trivial) (fun _ => Ok_s trivial)) (fun b _ => ?_)
    exact Ok_B (k_X0_part h hp (IV_wk e0 (by decide) (by decide))) (fun r2 h2 => Ok_G (k_in60 h2) (Ok_l (Ok_l (Ok_l (Ok_l (Ok_s (OkI_l g2 g3)))))))
  · obtain ⟨a, b, c⟩ := w
    exact Ok_l (Ok_s trivial)
theorem k_X5_followOthers (S5 : SS) {S0 : SS} (h : I0 S0) : Ok (f_X5_followOthers S5 S0) (fun _ => True) := by
  refine Ok_F (fun v : Int32 × SS => IV 0 60 v.1) (fun v => (60 - v.1.toInt).toNat) (fun v hv => ?_) IV_00 (mz 60)
  obtain ⟨v, f⟩ := v
  refine Ok_c (fun _ => Ok_s trivial) (fun c => ?_)
  have ⟨g1, g2, g3⟩ := k_lp (by decide) hv h.1 c
  have g4 := h.2.2.2 v.toNatClampNeg
  refine Ok_G (k_in60 g1) (Ok_l (Ok_G (k_in60 g4) (Ok_c (fun _ => ?_) (fun _ => Ok_c (fun cb => ?_) (fun _ => ?_)))))
  · exact Ok_B (k_X5_gateRow f h g4) (fun _ _ => Ok_l (Ok_l (Ok_s (OkI_l g2 g3))))
  · refine Ok_B (k_X5_busRow f h g4 cb) (fun w _ => ?_)
    obtain ⟨a, b⟩ := w
    exact Ok_l (Ok_l (Ok_s (OkI_l g2 g3)))
  · exact Ok_l (Ok_s (OkI_l g2 g3))
theorem k_X5_collect (S5 : SS) {S0 : SS} (h : I0 S0) : Ok (f_X5_collect S5 S0) (fun _ => True) := by
  refine Ok_B (k_J13_bitCount _) (fun r _ => Ok_l ?_)
  refine Ok_F (fun v : Int32 × SS => IV 0 60 v.1) (fun v => (60 - v.1.toInt).toNat) (fun v hv => ?_) IV_00 (mz 60)
  obtain ⟨v, f⟩ := v
  refine Ok_c (fun _ => Ok_s trivial) (fun c => ?_)
  have ⟨g1, g2, g3⟩ := k_lp (by decide) hv h.1 c
  refine Ok_G (k_in60 g1) (Ok_B (P := fun _ => True) (Ok_c (fun _ => Ok_s trivial) (fun _ => Ok_l (Ok_s trivial))) (fun S _ => ?_))
  exact Ok_c (fun _ => Ok_l (Ok_s (OkI_l g2 g3))) (fun _ => Ok_l (Ok_l (Ok_s (OkI_l g2 g3))))
theorem k_X5_isEver (S5 : SS) (p1 p2 : Int32) : Ok (f_X5_isEver S5 p1 p2) zb := Ok_B (P := fun _ => True) (Ok_c (fun _ => Ok_s trivial) (fun _ => Ok_s trivial)) (fun _ _ => Ok_c (fun _ => Ok_s (Or.inr rfl)) (fun _ => Ok_s (Or.inl rfl)))
theorem k_X5_sharpValue (S5 : SS) (p1 : Int32) : Ok (f_X5_sharpValue S5 p1) (fun _ => True) := by
  refine Ok_c (fun _ => Ok_s trivial) (fun _ => Ok_B (k_X5_isEver _ _ _) (fun _ _ => Ok_c (fun _ => Ok_s trivial) (fun _ => ?_)))
  exact Ok_B (k_X5_isEver _ _ _) (fun _ _ => Ok_c (fun _ => Ok_s trivial) (fun _ => Ok_s trivial))
theorem k_X5_goThrough (S5 : SS) {S0 : SS} (h : I0 S0) (fw : Nat → Int32) {p3 : Int32} (hp : IV 0 12 p3) : Ok (f_X5_goThrough S5 S0 fw p3) (fun _ => True) := by
  refine Ok_l (Ok_l (Ok_l (Ok_B (P := fun v => IV 0 64 v) ?_ (fun v13 h13 => Ok_B (P := fun _ => True) (Ok_c (fun _ => Ok_s trivial) (fun _ => Ok_s trivial)) (fun v20 _ => ?_)))))
  · refine Ok_c (fun _ => Ok_s IV_lit) (fun c => Ok_s ?_)
    have h7 : IV 7 12 p3 := IV_nle_l c hp (IV_lit (a := 6) (b := 6)) (by decide) (by decide)
    have h6 : IV 1 6 (p3 - (6 : Int32)) := IV_sub rfl h7 (IV_lit (a := 6) (b := 6)) (by decide) (by decide) (by decide) (by decide)
    exact IV_wk (IV_shl (u := 2) (v := 64) rfl h6 (by decide) (by decide) (by decide) (by decide)) (by decide) (by decide)
  · refine Ok_F (fun v : Int32 × SS => IV 0 64 v.1) (fun v => (64 - v.1.toInt).toNat) (fun v hv => ?_) IV_00 (mz 64)
    obtain ⟨v, S⟩ := v
    refine Ok_c (fun _ => Ok_s trivial) (fun c => Ok_l ?_)
    have ⟨g1, g2, g3⟩ := k_lp (by decide) hv h13 c
    exact Ok_B (k_X5_fillSources _ h fw v) (fun _ _ => Ok_B (k_X5_followOthers _ h) (fun _ _ => Ok_B (k_X5_collect _ h) (fun _ _ => Ok_l (Ok_s (OkI_l g2 g3)))))
