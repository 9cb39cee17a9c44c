/-- a BUS has at most six DRIVERS -/
def BM (k m : Nat → Int32) : Prop := ∀ j, k j = 1 → IV 0 6 (m j)
theorem IV_one {x : Int32} (h : IV 1 1 x) : x = 1 := by
  obtain ⟨x1, x2⟩ := h
  exact Int32.toInt_inj.mp (by rw [show (1 : Int32).toInt = 1 from by decide]; omega)
theorem BM_get {k m : Nat → Int32} {j : Nat} {z kz : Int32} (h : BM k m) (e : z = m j) (ek : k j = kz) (hk : IV 1 1 kz) : IV 0 6 z := by
  rw [e]
  exact h j (by rw [ek]; exact IV_one hk)
theorem BM_m {k m : Nat → Int32} {j : Nat} {x : Int32} (h : BM k m) (hx : IV 0 6 x) : BM k (upd m j x) := by
  intro i hi
  unfold upd
  split
  · exact hx
  · exact h i hi
theorem BM_k {k m : Nat → Int32} {j : Nat} {x : Int32} (h : BM k m) (hx : ¬ x = 1) : BM (upd k j x) m := by
  intro i hi
  unfold upd at hi
  split at hi
  · exact absurd hi hx
  · exact h i hi
theorem IV_n1 {a b : Int} {x : Int32} (h : IV a b x) (e : 1 < a ∨ b < 1) : ¬ x = 1 := by
  intro q
  subst q
  obtain ⟨x1, x2⟩ := h
  have t : (1 : Int32).toInt = 1 := by decide
  omega
