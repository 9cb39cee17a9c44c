theorem IV_remn {a b : Int} {x z : Int32} (e : z = x - x / 10 * 10) (hx : IV a b x) (hb : b < 0) : IV (-9) 0 z := by
  obtain ⟨x1, x2⟩ := hx
  have l1 := Int32.le_toInt x
  have t : (10 : Int32).toInt = 10 := by decide
  have h : (x / 10).toInt = x.toInt.tdiv 10 := by rw [Jvm.Kit.i32_div (by rw [t]; omega), t]
  have b1 := tmod_bounds (a := x.toInt) (M := 10) (by decide)
  have d := Int.tmod_add_mul_tdiv x.toInt 10
  have n : x.toInt.tmod 10 ≤ 0 := by
    have q := Int.neg_tmod (-x.toInt) 10
    rw [Int.neg_neg] at q
    have w := Int.tmod_nonneg (a := -x.toInt) 10 (by omega)
    omega
  have m : (x / 10 * 10).toInt = x.toInt.tdiv 10 * 10 := by rw [Jvm.Kit.i32_mul (by rw [h, t]; omega) (by rw [h, t]; omega), h, t]
  have q : z.toInt = x.toInt - x.toInt.tdiv 10 * 10 := by rw [e, Jvm.Kit.i32_sub (by rw [m]; omega) (by rw [m]; omega), m]
  constructor <;> omega
theorem i32_msb (x : Int32) : x.toBitVec.msb = decide (x.toInt < 0) := BitVec.msb_eq_toInt
theorem IV_xorn {a b : Int} {x z : Int32} (e : z = x ^^^ 10) (hx : IV a b x) (hb : b < 0) : IV (-2147483648) (-1) z := by
  obtain ⟨x1, x2⟩ := hx
  have h1 := i32_msb x
  have h2 := i32_msb z
  rw [e, Int32.toBitVec_xor, BitVec.msb_xor, h1, show (10 : Int32).toBitVec.msb = false from by decide, ← e] at h2
  have h3 : decide (x.toInt < 0) = true := decide_eq_true (by omega)
  rw [h3] at h2
  have h4 : z.toInt < 0 := of_decide_eq_true h2.symm
  exact ⟨(IV_top z).1, by omega⟩
theorem IV_xorp {a b : Int} {x z : Int32} (e : z = x ^^^ 10) (hx : IV a b x) (ha : 0 ≤ a) : IV 0 2147483647 z := by
  obtain ⟨x1, x2⟩ := hx
  have h1 := i32_msb x
  have h2 := i32_msb z
  rw [e, Int32.toBitVec_xor, BitVec.msb_xor, h1, show (10 : Int32).toBitVec.msb = false from by decide, ← e] at h2
  have h3 : decide (x.toInt < 0) = false := decide_eq_false (by omega)
  rw [h3] at h2
  have h4 : ¬ z.toInt < 0 := of_decide_eq_false h2.symm
  exact ⟨by omega, (IV_top z).2⟩
