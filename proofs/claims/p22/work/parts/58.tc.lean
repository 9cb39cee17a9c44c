/-! if there is an answer, it has Q -/
def Pc {α : Type} (x : Option α) (Q : α → Prop) : Prop := ∀ a, x = some a → Q a
theorem Pc_s {α : Type} {a : α} {Q : α → Prop} (h : Q a) : Pc (some a) Q := by
  intro b e
  cases e
  exact h
theorem Pc_w {α : Type} {x : Option α} {Q R : α → Prop} (h : Pc x Q) (hq : ∀ a, Q a → R a) : Pc x R := fun a e => hq a (h a e)
theorem Pc_L {α β : Type} {v : α} {k : α → Option β} {Q : β → Prop} (h : ∀ x, x = v → Pc (k x) Q) : Pc (zL v k) Q := h v rfl
theorem Pc_l {α β : Type} {v : α} {k : α → Option β} {Q : β → Prop} (h : Pc (k v) Q) : Pc (zL v k) Q := h
theorem Pc_G {α : Type} {P : Prop} {x : Option α} {Q : α → Prop} (h : P → Pc x Q) : Pc (zG P x) Q := by
  intro a e
  have ⟨p, e2⟩ := zG_spec e
  exact h p a e2
theorem Pc_c {α : Type} {c : Prop} {inst : Decidable c} {a b : Option α} {Q : α → Prop} (h1 : c → Pc a Q) (h2 : ¬ c → Pc b Q) : Pc (@ite _ c inst a b) Q := by
  by_cases h : c
  · rw [if_pos h]
    exact h1 h
  · rw [if_neg h]
    exact h2 h
theorem Pc_i {α : Type} {c d : Prop} {inst : Decidable c} {a b : Option α} {Q : α → Prop} (e : c ↔ d) (h1 : d → Pc a Q) (h2 : ¬ d → Pc b Q) : Pc (@ite _ c inst a b) Q := Pc_c (fun h => h1 (e.mp h)) (fun h => h2 (fun q => h (e.mpr q)))
theorem Pc_B {α β : Type} {x : Option α} {k : α → Option β} {P : α → Prop} {Q : β → Prop} (h : Pc x P) (hk : ∀ a, P a → Pc (k a) Q) : Pc (zB x k) Q := by
  intro o e
  have ⟨a, e1, e2⟩ := zB_spec e
  exact hk a (h a e1) o e2
theorem Pc_e {α β : Type} {x : Option α} {a : α} {k : α → Option β} {Q : β → Prop} (h : x = some a) (hk : Pc (k a) Q) : Pc (zB x k) Q := by
  subst h
  exact hk
def PcS {α β : Type} (k : α → Option β) (Q : β → Prop) (v : β ⊕ α) : Prop := match v with
  | .inl t => Q t
  | .inr a => Pc (k a) Q
theorem Pc_S {α β : Type} {x : Option (β ⊕ α)} {k : α → Option β} {Q : β → Prop} (h : Pc x (PcS k Q)) : Pc (zS x k) Q := by
  intro o e
  have ⟨v, e1, e2⟩ := zS_spec e
  have q := h v e1
  cases v with
  | inl t =>
    have e2 : t = o := e2
    rw [← e2]
    exact q
  | inr a => exact q o e2
def PcI {V E : Type} (I : V → Prop) (Q : E → Prop) (x : V ⊕ E) : Prop := match x with
  | .inl w => I w
  | .inr e => Q e
theorem Pc_I {V E : Type} {b : V → Option (V ⊕ E)} (I : V → Prop) {Q : E → Prop} (hs : ∀ v, I v → Pc (b v) (PcI I Q)) : ∀ (n : Nat) {v : V}, I v → Pc (zI b n v) Q := by
  intro n
  induction n with
  | zero => intro v _ a e; cases e
  | succ n ih =>
    intro v hv a e
    have ⟨x, e1, e2⟩ := zI_spec e
    have q := hs v hv x e1
    cases x with
    | inl w => exact ih q a e2
    | inr w =>
      have e2 : w = a := e2
      rw [← e2]
      exact q
theorem Pc_Ok {α : Type} {x : Option α} {Q : α → Prop} (h : Ok x Q) : Pc x Q := by
  obtain ⟨a, rfl, q⟩ := h
  exact Pc_s q
theorem Ok_Pc {α : Type} {x : Option α} {P Q : α → Prop} (h : Ok x P) (g : Pc x Q) : Ok x (fun a => P a ∧ Q a) := by
  obtain ⟨a, e, q⟩ := h
  exact ⟨a, e, q, g a e⟩
theorem Pc_and {α : Type} {x : Option α} {P Q : α → Prop} (h : Pc x P) (g : Pc x Q) : Pc x (fun a => P a ∧ Q a) := fun a e => ⟨h a e, g a e⟩
/-! the reference's bytes -/
theorem m255a : ∀ k : Fin 256, ((Int32.ofInt ((k.val : Int) - 128)) &&& 255 = Int32.ofInt ((k.val : Int) - 128) ∧ 0 ≤ (Int32.ofInt ((k.val : Int) - 128)).toInt) ∨ ((Int32.ofInt ((k.val : Int) - 128)).toInt < 0 ∧ 128 ≤ ((Int32.ofInt ((k.val : Int) - 128)) &&& 255).toInt) := by decide +kernel
theorem m255 {x : Int32} (h : IV (-128) 127 x) : (x &&& 255 = x ∧ 0 ≤ x.toInt) ∨ (x.toInt < 0 ∧ 128 ≤ (x &&& 255).toInt) := by
  obtain ⟨h1, h2⟩ := h
  have q := m255a ⟨(x.toInt + 128).toNat, by omega⟩
  have e : (((x.toInt + 128).toNat : Nat) : Int) - 128 = x.toInt := by omega
  have e2 : Int32.ofInt ((((x.toInt + 128).toNat : Nat) : Int) - 128) = x := by rw [e, Int32.ofInt_toInt]
  rw [e2] at q
  exact q
/-- the text, as the reference sees it at j -/
def cc (f : Nat → Int32) (n j : Nat) : Int32 := if j < n then f j &&& 255 else 0
def BR (f : Nat → Int32) (n : Nat) : Prop := ∀ j, j < n → IV (-128) 127 (f j)
theorem cc_lt {f : Nat → Int32} {n j : Nat} (hb : BR f n) : isLt (cc f n j) ↔ j < n ∧ isLt (f j) := by
  unfold cc
  split
  · rename_i h
    rcases m255 (hb j h) with ⟨q, _⟩ | ⟨q1, q2⟩
    · rw [q]
      exact ⟨fun w => ⟨h, w⟩, fun w => w.2⟩
    · unfold isLt
      exact ⟨fun w => by omega, fun w => by omega⟩
  · rename_i h
    exact ⟨fun w => absurd w.1 (by decide), fun w => absurd w.1 h⟩
theorem cc_dg {f : Nat → Int32} {n j : Nat} (hb : BR f n) : isDg (cc f n j) ↔ j < n ∧ isDg (f j) := by
  unfold cc
  split
  · rename_i h
    rcases m255 (hb j h) with ⟨q, _⟩ | ⟨q1, q2⟩
    · rw [q]
      exact ⟨fun w => ⟨h, w⟩, fun w => w.2⟩
    · unfold isDg
      exact ⟨fun w => by omega, fun w => by omega⟩
  · rename_i h
    exact ⟨fun w => absurd w.1 (by decide), fun w => absurd w.1 h⟩
theorem cc_is {f : Nat → Int32} {n j : Nat} (hb : BR f n) {c : Int32} (hc : 1 ≤ c.toInt ∧ c.toInt ≤ 127) : cc f n j = c ↔ j < n ∧ f j = c := by
  unfold cc
  split
  · rename_i h
    rcases m255 (hb j h) with ⟨q, _⟩ | ⟨q1, q2⟩
    · rw [q]
      exact ⟨fun w => ⟨h, w⟩, fun w => w.2⟩
    · refine ⟨fun w => ?_, fun w => ?_⟩
      · rw [w] at q2
        omega
      · rw [w.2] at q1
        omega
  · rename_i h
    refine ⟨fun w => ?_, fun w => absurd w.1 h⟩
    rw [← w] at hc
    exact absurd hc.1 (by decide)
theorem cc_pos {f : Nat → Int32} {n j : Nat} (hb : BR f n) (h : j < n) (hl : isLD (f j)) : cc f n j = f j := by
  unfold cc
  rw [if_pos h]
  rcases m255 (hb j h) with ⟨q, _⟩ | ⟨q1, q2⟩
  · exact q
  · rcases hl with w | w
    · have := w.1
      omega
    · have := w.1
      omega
/-- the reference holds the text f of n bytes -/
def TX (f : Nat → Int32) (n : Nat) (S : SS) : Prop := n ≤ 2000 ∧ BR f n ∧ gI S 3 = nI n ∧ ∀ j, j < n → gA S 1 j = f j
theorem TX_FX {f : Nat → Int32} {n : Nat} {S T : SS} (h : TX f n S) (g : FX S T) : TX f n T := ⟨h.1, h.2.1, by rw [FX_i g (by decide)]; exact h.2.2.1, by rw [FX_A g]; exact h.2.2.2⟩
theorem p_X7_sign {f : Nat → Int32} {n : Nat} {S : SS} (h : TX f n S) {p1 : Int32} {j : Nat} (e : p1 = nI j) (hj : j < 2 ^ 31) : Pc (f_X7_sign S p1) (fun r => r = cc f n j) := by
  obtain ⟨h1, h2, h3, h4⟩ := h
  refine Pc_c (fun c => Pc_s ?_) (fun c => Pc_G (fun _ => Pc_s ?_))
  · rw [h3, e, nI_leI (by omega) hj] at c
    unfold cc
    rw [if_neg (by omega)]
  · rw [h3, e, nI_leI (by omega) hj] at c
    unfold cc
    rw [if_pos (by omega), e, nI_clamp hj, h4 j (by omega)]
theorem p_X7_isLetter (c : Int32) : Pc (f_X7_isLetter c) (fun r => (r ≠ 0 ↔ isLt c)) := Pc_Ok (e_X1_isLetter c)
theorem p_X7_isDigit (c : Int32) : Pc (f_X7_isDigit c) (fun r => (r ≠ 0 ↔ isDg c)) := Pc_Ok (e_X1_isDigit c)
/-- the reference's number of a gate's word -/
def gw (w : Int64) : Int32 := if w = 6385252 then 0 else if w = 28530 then 1 else if w = 1851879012 then 2 else if w = 7237490 then 3 else if w = 7892850 then 4 else if w = 2020503410 then 5 else if w = 7237492 then 6 else if w = 6452582 then 7 else if w = 7173496 then 8 else -1
def kept (w : Int64) : Prop := gw w ≠ -1 ∨ w = 26990 ∨ w = 6452595 ∨ w = 7497063 ∨ w = 6907441 ∨ w = 6907440
theorem Pc_lc {α : Type} {x y : Int64} {a b : α} {u : Option α} {v : α} (h : u = some v) : (if (lg_cmp x y) = (0 : Int32) then some a else u) = some (if x = y then a else v) := by
  rw [h]
  by_cases c : x = y
  · rw [if_pos (lc_eq.mpr c), if_pos c]
  · rw [if_neg (fun q => c (lc_eq.mp q)), if_neg c]
theorem e_X7_gateOf (w : Int64) : f_X7_gateOf w = some (gw w) := by
  unfold f_X7_gateOf gw
  exact Pc_lc (b := (0 : Int32)) (Pc_lc (b := (0 : Int32)) (Pc_lc (b := (0 : Int32)) (Pc_lc (b := (0 : Int32)) (Pc_lc (b := (0 : Int32)) (Pc_lc (b := (0 : Int32)) (Pc_lc (b := (0 : Int32)) (Pc_lc (b := (0 : Int32)) (Pc_lc (b := (0 : Int32)) rfl))))))))
theorem gw_r (w : Int64) : gw w = -1 ∨ IV 0 8 (gw w) := by
  unfold gw
  repeat' (first | exact Or.inl rfl | exact Or.inr IV_lit | split)
