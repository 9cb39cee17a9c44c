/-! pure terms: what it is that one has an answer with Q -/
def Ok {α : Type} (x : Option α) (Q : α → Prop) : Prop := ∃ a, x = some a ∧ Q a
theorem Ok_s {α : Type} {a : α} {Q : α → Prop} (h : Q a) : Ok (some a) Q := ⟨a, rfl, h⟩
theorem Ok_w {α : Type} {x : Option α} {Q R : α → Prop} (h : Ok x Q) (hq : ∀ a, Q a → R a) : Ok x R := by
  obtain ⟨a, e, q⟩ := h
  exact ⟨a, e, hq a q⟩
theorem Ok_L {α β : Type} {v : α} {k : α → Option β} {Q : β → Prop} (h : ∀ x, x = v → Ok (k x) Q) : Ok (zL v k) Q := h v rfl
theorem Ok_l {α β : Type} {v : α} {k : α → Option β} {Q : β → Prop} (h : Ok (k v) Q) : Ok (zL v k) Q := h
theorem Ok_G {α : Type} {P : Prop} {x : Option α} {Q : α → Prop} (hP : P) (h : Ok x Q) : Ok (zG P x) Q := by
  rw [zG_pos hP]
  exact h
theorem Ok_c {α : Type} {c : Prop} {inst : Decidable c} {a b : Option α} {Q : α → Prop} (h1 : c → Ok a Q) (h2 : ¬ c → Ok b Q) : Ok (@ite _ c inst a b) Q := by
  by_cases h : c
  · rw [if_pos h]
    exact h1 h
  · rw [if_neg h]
    exact h2 h
theorem Ok_B {α β : Type} {x : Option α} {k : α → Option β} {P : α → Prop} {Q : β → Prop} (h : Ok x P) (hk : ∀ a, P a → Ok (k a) Q) : Ok (zB x k) Q := by
  obtain ⟨a, rfl, q⟩ := h
  exact hk a q
theorem Ok_b {α β : Type} {x : Option α} {k : α → Option β} {Q : β → Prop} (h : Ok x (fun a => Ok (k a) Q)) : Ok (zB x k) Q := by
  obtain ⟨a, rfl, q⟩ := h
  exact q
theorem Ok_e {α β : Type} {x : Option α} {a : α} {k : α → Option β} {Q : β → Prop} (h : x = some a) (hk : Ok (k a) Q) : Ok (zB x k) Q := by
  subst h
  exact hk
def OkS {α β : Type} (k : α → Option β) (Q : β → Prop) (v : β ⊕ α) : Prop := match v with
  | .inl t => Q t
  | .inr a => Ok (k a) Q
theorem Ok_S {α β : Type} {x : Option (β ⊕ α)} {k : α → Option β} {Q : β → Prop} (h : Ok x (OkS k Q)) : Ok (zS x k) Q := by
  obtain ⟨v, rfl, q⟩ := h
  cases v with
  | inl t => exact ⟨t, rfl, q⟩
  | inr a => exact q
/-- one pass of a loop: on with less, or out -/
def OkI {V E : Type} (I : V → Prop) (μ : V → Nat) (Q : E → Prop) (v : V) (x : V ⊕ E) : Prop := match x with
  | .inl w => I w ∧ μ w < μ v
  | .inr e => Q e
theorem Ok_I {V E : Type} {b : V → Option (V ⊕ E)} (I : V → Prop) (μ : V → Nat) {Q : E → Prop} (hs : ∀ v, I v → Ok (b v) (OkI I μ Q v)) : ∀ (n : Nat) (v : V), I v → μ v < n → Ok (zI b n v) Q := by
  intro n
  induction n with
  | zero => intro v _ h; exact absurd h (Nat.not_lt_zero _)
  | succ n ih =>
    intro v hv hn
    obtain ⟨x, hx, q⟩ := hs v hv
    cases x with
    | inl w =>
      obtain ⟨e, he, hq⟩ := ih w q.1 (by have := q.2; omega)
      refine ⟨e, ?_, hq⟩
      unfold zI
      rw [hx]
      exact he
    | inr e =>
      refine ⟨e, ?_, q⟩
      unfold zI
      rw [hx]
/-- a loop, off its start, with room for 9000 passes -/
theorem Ok_F {V E : Type} {b : V → Option (V ⊕ E)} (I : V → Prop) (μ : V → Nat) {Q : E → Prop} (hs : ∀ v, I v → Ok (b v) (OkI I μ Q v)) {v : V} (hv : I v) (hn : μ v < 10000) : Ok (zI b zF v) Q := Ok_I I μ hs zF v hv hn
theorem OkI_l {V E : Type} {I : V → Prop} {μ : V → Nat} {Q : E → Prop} {v w : V} (h : I w) (hm : μ w < μ v) : OkI I μ Q v (Sum.inl w) := ⟨h, hm⟩
theorem OkI_r {V E : Type} {I : V → Prop} {μ : V → Nat} {Q : E → Prop} {v : V} {e : E} (h : Q e) : OkI I μ Q v (Sum.inr e) := h
/-! numbers -/
theorem ti_add {x y : Int32} (h1 : -2147483648 ≤ x.toInt + y.toInt) (h2 : x.toInt + y.toInt ≤ 2147483647) : (x + y).toInt = x.toInt + y.toInt := Jvm.Kit.i32_add (by omega) (by omega)
theorem ti_sub {x y : Int32} (h1 : -2147483648 ≤ x.toInt - y.toInt) (h2 : x.toInt - y.toInt ≤ 2147483647) : (x - y).toInt = x.toInt - y.toInt := Jvm.Kit.i32_sub (by omega) (by omega)
theorem ti_mul {x y : Int32} (h1 : -2147483648 ≤ x.toInt * y.toInt) (h2 : x.toInt * y.toInt ≤ 2147483647) : (x * y).toInt = x.toInt * y.toInt := Jvm.Kit.i32_mul (by omega) (by omega)
theorem ti_lt {x y : Int32} : x < y ↔ x.toInt < y.toInt := Int32.lt_iff_toInt_lt
theorem ti_le {x y : Int32} : x ≤ y ↔ x.toInt ≤ y.toInt := Int32.le_iff_toInt_le
theorem ti_eq {x y : Int32} : x = y ↔ x.toInt = y.toInt := Int32.toInt_inj.symm
theorem ti_r (x : Int32) : -2147483648 ≤ x.toInt ∧ x.toInt ≤ 2147483647 := ⟨Int32.le_toInt x, by have := Int32.toInt_lt x; omega⟩
theorem ti_nat {x : Int32} (h : 0 ≤ x.toInt) : (x.toNatClampNeg : Int) = x.toInt := by
  have h1 : x.toNatClampNeg = x.toInt.toNat := rfl
  omega
theorem ti_in {x : Int32} {n : Nat} (h1 : 0 ≤ x.toInt) (h2 : x.toInt < n) : vp_in x n := vp_in_iff.mpr ⟨h1, h2⟩
theorem lc_eq {x y : Int64} : lg_cmp x y = 0 ↔ x = y := by
  unfold lg_cmp
  constructor
  · intro h
    split at h
    · exact absurd h (by decide)
    · split at h
      · assumption
      · exact absurd h (by decide)
  · intro h
    subst h
    have h1 := Int64.lt_iff_toInt_lt (x := x) (y := x)
    rw [if_neg (by rw [gt_iff_lt, h1]; omega), if_pos rfl]
/-! the state -/
theorem gI_sI {S : SS} {k j : Nat} {v : Int32} : gI (sI S k v) j = if j = k then v else gI S j := by
  show cond (Nat.beq j k) v (S.1 j) = _
  by_cases h : j = k
  · subst h
    rw [if_pos rfl, Nat.beq_refl]
    rfl
  · rw [if_neg h]
    cases hb : Nat.beq j k with
    | true => exact absurd (Nat.eq_of_beq_eq_true hb) h
    | false => rfl
theorem gL_sL {S : SS} {k j : Nat} {v : Int64} : gL (sL S k v) j = if j = k then v else gL S j := by
  show cond (Nat.beq j k) v (S.2.1 j) = _
  by_cases h : j = k
  · subst h
    rw [if_pos rfl, Nat.beq_refl]
    rfl
  · rw [if_neg h]
    cases hb : Nat.beq j k with
    | true => exact absurd (Nat.eq_of_beq_eq_true hb) h
    | false => rfl
theorem gA_sA {S : SS} {k j : Nat} {v : Nat → Int32} : gA (sA S k v) j = if j = k then v else gA S j := by
  show cond (Nat.beq j k) v (S.2.2.1 j) = _
  by_cases h : j = k
  · subst h
    rw [if_pos rfl, Nat.beq_refl]
    rfl
  · rw [if_neg h]
    cases hb : Nat.beq j k with
    | true => exact absurd (Nat.eq_of_beq_eq_true hb) h
    | false => rfl
theorem gB_sB {S : SS} {k j : Nat} {v : Nat → Int64} : gB (sB S k v) j = if j = k then v else gB S j := by
  show cond (Nat.beq j k) v (S.2.2.2 j) = _
  by_cases h : j = k
  · subst h
    rw [if_pos rfl, Nat.beq_refl]
    rfl
  · rw [if_neg h]
    cases hb : Nat.beq j k with
    | true => exact absurd (Nat.eq_of_beq_eq_true hb) h
    | false => rfl
theorem gI_sL {S : SS} {k j : Nat} {v : Int64} : gI (sL S k v) j = gI S j := rfl
theorem gI_sA {S : SS} {k j : Nat} {v : Nat → Int32} : gI (sA S k v) j = gI S j := rfl
theorem gI_sB {S : SS} {k j : Nat} {v : Nat → Int64} : gI (sB S k v) j = gI S j := rfl
theorem gL_sI {S : SS} {k j : Nat} {v : Int32} : gL (sI S k v) j = gL S j := rfl
theorem gL_sA {S : SS} {k j : Nat} {v : Nat → Int32} : gL (sA S k v) j = gL S j := rfl
theorem gL_sB {S : SS} {k j : Nat} {v : Nat → Int64} : gL (sB S k v) j = gL S j := rfl
theorem gA_sI {S : SS} {k j : Nat} {v : Int32} : gA (sI S k v) j = gA S j := rfl
theorem gA_sL {S : SS} {k j : Nat} {v : Int64} : gA (sL S k v) j = gA S j := rfl
theorem gA_sB {S : SS} {k j : Nat} {v : Nat → Int64} : gA (sB S k v) j = gA S j := rfl
theorem gB_sI {S : SS} {k j : Nat} {v : Int32} : gB (sI S k v) j = gB S j := rfl
theorem gB_sL {S : SS} {k j : Nat} {v : Int64} : gB (sL S k v) j = gB S j := rfl
theorem gB_sA {S : SS} {k j : Nat} {v : Nat → Int32} : gB (sA S k v) j = gB S j := rfl
theorem upd_at {f : Nat → Int32} {k j : Nat} {x : Int32} : upd f k x j = if j = k then x else f j := rfl
theorem updL_at {f : Nat → Int64} {k j : Nat} {x : Int64} : vp_updL f k x j = if j = k then x else f j := rfl
