theorem LF_lt {x y : Int32} (h : x < y) : x.toInt + 1 ≤ y.toInt := by
  rw [Int32.lt_iff_toInt_lt] at h
  omega
theorem LF_nlt {x y : Int32} (h : ¬ x < y) : y.toInt ≤ x.toInt := by
  rw [Int32.lt_iff_toInt_lt] at h
  omega
theorem LF_le {x y : Int32} (h : x ≤ y) : x.toInt ≤ y.toInt := Int32.le_iff_toInt_le.mp h
theorem LF_nle {x y : Int32} (h : ¬ x ≤ y) : y.toInt + 1 ≤ x.toInt := by
  rw [Int32.le_iff_toInt_le] at h
  omega
theorem LF_eq {x y : Int32} (h : x = y) : x.toInt = y.toInt := by rw [h]
theorem IV_abs2 {a b c d : Int} {x : Int32} (hx : IV a b x) (hy : IV c d x) (e : b < c ∨ d < a) : False := by
  obtain ⟨x1, x2⟩ := hx
  obtain ⟨y1, y2⟩ := hy
  omega
theorem IV_v1 {h : Int} {x z : Int32} {n : Nat} (e : h - x.toInt ≤ ((n + 1 : Nat) : Int)) (ez : x.toInt + 1 ≤ z.toInt) : h - z.toInt ≤ (n : Int) := by omega
def BMX (k m : Nat → Int32) (i : Nat) : Prop := ∀ j, j ≠ i → k j = 1 → IV 0 6 (m j)
theorem BMX_k {k m : Nat → Int32} {i : Nat} {x : Int32} (h : BM k m) : BMX (upd k i x) m i := by
  intro j hj hk
  rw [pk_un hj] at hk
  exact h j hk
theorem BMX_m {k m : Nat → Int32} {i : Nat} {x : Int32} (h : BMX k m i) (hx : IV 0 6 x) : BM k (upd m i x) := by
  intro j hk
  by_cases e : j = i
  · subst e
    rw [pk_us]
    exact hx
  · rw [pk_un e]
    exact h j e hk
theorem IV_cst {a : Int} {x k : Int32} (h : IV a a x) (e : k.toInt = a) : x = k := by
  obtain ⟨x1, x2⟩ := h
  exact Int32.toInt_inj.mp (by omega)
theorem BM_mk {k m : Nat → Int32} {i : Nat} {x : Int32} (h : BM k m) (hk : ¬ k i = 1) : BM k (upd m i x) := by
  intro j hj
  by_cases e : j = i
  · subst e
    exact absurd hj hk
  · rw [pk_un e]
    exact h j hj
