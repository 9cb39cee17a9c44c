/-! two programs side by side: if both have an answer, Q holds of the two -/
def P2 {α β : Type} (x : Option α) (y : Option β) (Q : α → β → Prop) : Prop := ∀ a b, x = some a → y = some b → Q a b
theorem P2_s {α β : Type} {a : α} {b : β} {Q : α → β → Prop} (h : Q a b) : P2 (some a) (some b) Q := by
  intro a' b' e1 e2
  cases e1
  cases e2
  exact h
theorem P2_w {α β : Type} {x : Option α} {y : Option β} {Q R : α → β → Prop} (h : P2 x y Q) (g : ∀ a b, Q a b → R a b) : P2 x y R := fun a b e1 e2 => g a b (h a b e1 e2)
theorem P2_l {α β γ : Type} {v : γ} {k : γ → Option α} {y : Option β} {Q : α → β → Prop} (h : ∀ x, x = v → P2 (k x) y Q) : P2 (zL v k) y Q := h v rfl
theorem P2_r {α β γ : Type} {v : γ} {k : γ → Option β} {x : Option α} {Q : α → β → Prop} (h : ∀ y, y = v → P2 x (k y) Q) : P2 x (zL v k) Q := h v rfl
theorem P2_Gl {α β : Type} {P : Prop} {x : Option α} {y : Option β} {Q : α → β → Prop} (h : P → P2 x y Q) : P2 (zG P x) y Q := by
  intro a b e1 e2
  have ⟨p, e3⟩ := zG_spec e1
  exact h p a b e3 e2
theorem P2_Gr {α β : Type} {P : Prop} {x : Option α} {y : Option β} {Q : α → β → Prop} (h : P → P2 x y Q) : P2 x (zG P y) Q := by
  intro a b e1 e2
  have ⟨p, e3⟩ := zG_spec e2
  exact h p a b e1 e3
theorem P2_cl {α β : Type} {c : Prop} {inst : Decidable c} {a b : Option α} {y : Option β} {Q : α → β → Prop} (h1 : c → P2 a y Q) (h2 : ¬ c → P2 b y Q) : P2 (@ite _ c inst a b) y Q := by
  by_cases h : c
  · rw [if_pos h]
    exact h1 h
  · rw [if_neg h]
    exact h2 h
theorem P2_cr {α β : Type} {c : Prop} {inst : Decidable c} {a b : Option β} {x : Option α} {Q : α → β → Prop} (h1 : c → P2 x a Q) (h2 : ¬ c → P2 x b Q) : P2 x (@ite _ c inst a b) Q := by
  by_cases h : c
  · rw [if_pos h]
    exact h1 h
  · rw [if_neg h]
    exact h2 h
/-- both look at the same thing -/
theorem P2_c {α β : Type} {c d : Prop} {i1 : Decidable c} {i2 : Decidable d} {a b : Option α} {a' b' : Option β} {Q : α → β → Prop} (e : c ↔ d) (h1 : c → d → P2 a a' Q) (h2 : ¬ c → ¬ d → P2 b b' Q) : P2 (@ite _ c i1 a b) (@ite _ d i2 a' b') Q := by
  by_cases h : c
  · rw [if_pos h, if_pos (e.mp h)]
    exact h1 h (e.mp h)
  · rw [if_neg h, if_neg (fun q => h (e.mpr q))]
    exact h2 h (fun q => h (e.mpr q))
theorem P2_el {α β γ : Type} {x : Option γ} {a : γ} {k : γ → Option α} {y : Option β} {Q : α → β → Prop} (h : x = some a) (hk : P2 (k a) y Q) : P2 (zB x k) y Q := by
  subst h
  exact hk
theorem P2_er {α β γ : Type} {x : Option α} {y : Option γ} {a : γ} {k : γ → Option β} {Q : α → β → Prop} (h : y = some a) (hk : P2 x (k a) Q) : P2 x (zB y k) Q := by
  subst h
  exact hk
theorem P2_Bl {α β γ : Type} {x : Option γ} {k : γ → Option α} {y : Option β} {P : γ → Prop} {Q : α → β → Prop} (h : Pc x P) (hk : ∀ a, P a → P2 (k a) y Q) : P2 (zB x k) y Q := by
  intro a b e1 e2
  have ⟨c, e3, e4⟩ := zB_spec e1
  exact hk c (h c e3) a b e4 e2
theorem P2_Br {α β γ : Type} {x : Option α} {y : Option γ} {k : γ → Option β} {P : γ → Prop} {Q : α → β → Prop} (h : Pc y P) (hk : ∀ a, P a → P2 x (k a) Q) : P2 x (zB y k) Q := by
  intro a b e1 e2
  have ⟨c, e3, e4⟩ := zB_spec e2
  exact hk c (h c e3) a b e1 e4
theorem P2_B {α β γ δ : Type} {x : Option γ} {y : Option δ} {k : γ → Option α} {k' : δ → Option β} {P : γ → δ → Prop} {Q : α → β → Prop} (h : P2 x y P) (hk : ∀ a b, P a b → P2 (k a) (k' b) Q) : P2 (zB x k) (zB y k') Q := by
  intro a b e1 e2
  have ⟨c, e3, e4⟩ := zB_spec e1
  have ⟨d, e5, e6⟩ := zB_spec e2
  exact hk c d (h c d e3 e5) a b e4 e6
def PI2 {V E V' E' : Type} (R : V → V' → Prop) (Q : E → E' → Prop) (x : V ⊕ E) (y : V' ⊕ E') : Prop := match x, y with
  | .inl v, .inl w => R v w
  | .inr e, .inr f => Q e f
  | .inl _, .inr _ => False
  | .inr _, .inl _ => False
/-- two loops that keep step -/
theorem P2_I {V E V' E' : Type} {b : V → Option (V ⊕ E)} {b' : V' → Option (V' ⊕ E')} (R : V → V' → Prop) {Q : E → E' → Prop} (hs : ∀ v w, R v w → P2 (b v) (b' w) (PI2 R Q)) : ∀ (n m : Nat) {v : V} {w : V'}, R v w → P2 (zI b n v) (zI b' m w) Q := by
  intro n
  induction n with
  | zero => intro m v w _ a c e; cases e
  | succ n ih =>
    intro m v w hr a c e1 e2
    cases m with
    | zero => cases e2
    | succ m =>
      have ⟨x, x1, x2⟩ := zI_spec e1
      have ⟨y, y1, y2⟩ := zI_spec e2
      have q := hs v w hr x y x1 y1
      cases x with
      | inl v' =>
        cases y with
        | inl w' => exact ih m q a c x2 y2
        | inr f => exact absurd q (fun h => h)
      | inr e =>
        cases y with
        | inl w' => exact absurd q (fun h => h)
        | inr f =>
          have x2 : e = a := x2
          have y2 : f = c := y2
          rw [← x2, ← y2]
          exact q
/-- and one that has ended, beside one that goes on -/
theorem P2_of {α β : Type} {x : Option α} {y : Option β} {P : α → Prop} {R : β → Prop} {Q : α → β → Prop} (h : Pc x P) (g : Pc y R) (hq : ∀ a b, P a → R b → Q a b) : P2 x y Q := fun a b e1 e2 => hq a b (h a e1) (g b e2)
