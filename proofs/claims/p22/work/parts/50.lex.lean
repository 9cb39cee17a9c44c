/-! the reference's lexer: no throw, where a TOKEN lies -/
def FX (S T : SS) : Prop := T.2.2 = S.2.2 ∧ ∀ k : Nat, k ≠ 6 → k ≠ 7 → k ≠ 8 → k ≠ 9 → gI T k = gI S k
theorem FX_r (S : SS) : FX S S := ⟨rfl, fun _ _ _ _ _ => rfl⟩
theorem FX_t {S T U : SS} (h : FX S T) (h2 : FX T U) : FX S U := ⟨h2.1.trans h.1, fun k a b c d => (h2.2 k a b c d).trans (h.2 k a b c d)⟩
theorem FX_I {S T : SS} {k : Nat} {v : Int32} (hk : k = 6 ∨ k = 7 ∨ k = 8 ∨ k = 9) (h : FX S T) : FX S (sI T k v) := by
  refine ⟨h.1, fun j a b c d => ?_⟩
  rw [gI_ne (by omega)]
  exact h.2 j a b c d
theorem FX_L {S T : SS} {k : Nat} {v : Int64} (h : FX S T) : FX S (sL T k v) := ⟨h.1, h.2⟩
theorem FX_A {S T : SS} (h : FX S T) (k : Nat) : gA T k = gA S k := by
  show T.2.2.1 k = S.2.2.1 k
  rw [h.1]
theorem FX_B {S T : SS} (h : FX S T) (k : Nat) : gB T k = gB S k := by
  show T.2.2.2 k = S.2.2.2 k
  rw [h.1]
theorem FX_i {S T : SS} (h : FX S T) {k : Nat} (hk : k ≠ 6 ∧ k ≠ 7 ∧ k ≠ 8 ∧ k ≠ 9) : gI T k = gI S k := h.2 k hk.1 hk.2.1 hk.2.2.1 hk.2.2.2
def aT (S : SS) : Int := (gI S 6).toInt
def aE (S : SS) : Int := (gI S 7).toInt
def aZ (S : SS) : Int := (gI S 3).toInt
/-- where the lexer stands -/
def LX (S : SS) : Prop := 0 ≤ aT S ∧ aT S ≤ aE S ∧ aE S ≤ aZ S ∧ aZ S ≤ 2000 ∧ (gI S 8 = 0 → aT S = aZ S) ∧ (gI S 8 ≠ 0 → aT S + 1 ≤ aE S) ∧ (gI S 8 = 3 → aT S + 2 ≤ aE S) ∧ (gI S 8 = 4 → IV 0 9 (gI S 9))
theorem k_X7_isLetter (p1 : Int32) : Ok (f_X7_isLetter p1) (fun r => zb r ∧ (r ≠ 0 → 97 ≤ p1.toInt ∧ p1.toInt ≤ 122)) := by
  have t1 : (97 : Int32).toInt = 97 := by decide
  have t2 : (122 : Int32).toInt = 122 := by decide
  refine Ok_c (fun _ => Ok_s ⟨Or.inl rfl, fun q => absurd rfl q⟩) (fun c => Ok_c (fun _ => Ok_s ⟨Or.inl rfl, fun q => absurd rfl q⟩) (fun c2 => Ok_s ⟨Or.inr rfl, fun _ => ?_⟩))
  rw [ti_lt, t1] at c
  rw [ti_lt, t2] at c2
  exact ⟨by omega, by omega⟩
theorem k_X7_isDigit (p1 : Int32) : Ok (f_X7_isDigit p1) (fun r => zb r ∧ (r ≠ 0 → 48 ≤ p1.toInt ∧ p1.toInt ≤ 57)) := by
  have t1 : (48 : Int32).toInt = 48 := by decide
  have t2 : (57 : Int32).toInt = 57 := by decide
  refine Ok_c (fun _ => Ok_s ⟨Or.inl rfl, fun q => absurd rfl q⟩) (fun c => Ok_c (fun _ => Ok_s ⟨Or.inl rfl, fun q => absurd rfl q⟩) (fun c2 => Ok_s ⟨Or.inr rfl, fun _ => ?_⟩))
  rw [ti_lt, t1] at c
  rw [ti_lt, t2] at c2
  exact ⟨by omega, by omega⟩
theorem k_X7_sign {S7 : SS} {p1 : Int32} (h0 : 0 ≤ p1.toInt) (hz : aZ S7 ≤ 2000) : Ok (f_X7_sign S7 p1) (fun r => IV 0 255 r ∧ (aZ S7 ≤ p1.toInt → r = 0)) := by
  refine Ok_c (fun _ => Ok_s ⟨IV_lit, fun _ => rfl⟩) (fun c => ?_)
  rw [ti_le] at c
  have hz2 : (gI S7 3).toInt ≤ 2000 := hz
  refine Ok_G (ti_in h0 (by omega)) (Ok_s ⟨IV_and 8 rfl (by decide) (by decide) (by decide) (by decide), fun q => absurd q (by show ¬ (gI S7 3).toInt ≤ p1.toInt; omega)⟩)
theorem k_X7_gateOf (p1 : Int64) : Ok (f_X7_gateOf p1) (fun r => IV (-1) 8 r ∧ (0 ≤ r.toInt → 255 < p1.toInt)) := by
  unfold f_X7_gateOf
  repeat' (first | exact Ok_s ⟨IV_lit, fun q => absurd q (by decide)⟩ | refine Ok_c (fun c => Ok_s ⟨IV_lit, fun _ => by rw [lc_eq.mp c]; decide⟩) (fun _ => ?_))
theorem jIL_small {r : Int32} (h : IV 0 255 r) : (jLs 0 8 ||| jIL r).toInt ≤ 255 := by
  have e : jLs 0 8 = 0 := by decide
  rw [e, Int64.zero_or]
  show (r.toInt64).toInt ≤ 255
  rw [Int32.toInt_toInt64]
  exact h.2
