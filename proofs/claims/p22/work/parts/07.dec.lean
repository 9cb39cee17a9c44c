/-! the state of an object: its ints, longs, rows of ints, rows of longs, by the number of the slot -/
abbrev SS : Type := (Nat → Int32) × (Nat → Int64) × (Nat → Nat → Int32) × (Nat → Nat → Int64)
def gI (S : SS) (k : Nat) : Int32 := S.1 k
def gL (S : SS) (k : Nat) : Int64 := S.2.1 k
def gA (S : SS) (k : Nat) : Nat → Int32 := S.2.2.1 k
def gB (S : SS) (k : Nat) : Nat → Int64 := S.2.2.2 k
def sI (S : SS) (k : Nat) (v : Int32) : SS := (fun j => cond (Nat.beq j k) v (S.1 j), S.2.1, S.2.2.1, S.2.2.2)
def sL (S : SS) (k : Nat) (v : Int64) : SS := (S.1, fun j => cond (Nat.beq j k) v (S.2.1 j), S.2.2.1, S.2.2.2)
def sA (S : SS) (k : Nat) (f : Nat → Int32) : SS := (S.1, S.2.1, fun j => cond (Nat.beq j k) f (S.2.2.1 j), S.2.2.2)
def sB (S : SS) (k : Nat) (f : Nat → Int64) : SS := (S.1, S.2.1, S.2.2.1, fun j => cond (Nat.beq j k) f (S.2.2.2 j))
/-! what a walk is made of, as pure terms -/
noncomputable def zG {α : Type} (P : Prop) (x : Option α) : Option α := @ite _ P (Classical.propDecidable P) x none
theorem zG_spec {α : Type} {P : Prop} {x : Option α} {o : α} (h : zG P x = some o) : P ∧ x = some o := by
  unfold zG at h
  split at h
  · exact ⟨by assumption, h⟩
  · cases h
theorem zG_pos {α : Type} {P : Prop} {x : Option α} (h : P) : zG P x = x := by
  unfold zG
  rw [if_pos h]
def zL {α β : Type} (v : α) (k : α → Option β) : Option β := k v
theorem zL_spec {α β : Type} {v : α} {k : α → Option β} {o : β} (h : zL v k = some o) : ∃ x, x = v ∧ k x = some o := ⟨v, rfl, h⟩
def zB {α β : Type} (x : Option α) (k : α → Option β) : Option β := match x with
  | none => none
  | some a => k a
theorem zB_spec {α β : Type} {x : Option α} {k : α → Option β} {o : β} (h : zB x k = some o) : ∃ a, x = some a ∧ k a = some o := by
  cases x with
  | none => cases h
  | some a => exact ⟨a, rfl, h⟩
def zS {α β : Type} (x : Option (β ⊕ α)) (k : α → Option β) : Option β := match x with
  | none => none
  | some (.inl t) => some t
  | some (.inr a) => k a
def zST {α β : Type} (k : α → Option β) (o : β) (v : β ⊕ α) : Prop := match v with
  | .inl t => t = o
  | .inr a => k a = some o
theorem zS_spec {α β : Type} {x : Option (β ⊕ α)} {k : α → Option β} {o : β} (h : zS x k = some o) : ∃ v, x = some v ∧ zST k o v := by
  cases x with
  | none => cases h
  | some v =>
    cases v with
    | inl t => exact ⟨_, rfl, Option.some.inj h⟩
    | inr a => exact ⟨_, rfl, h⟩
theorem zS_l {α β : Type} {k : α → Option β} {o t : β} {v : β ⊕ α} (e : Sum.inl t = v) (h : zST k o v) : some t = some o := by
  subst e
  exact congrArg some h
theorem zS_r {α β : Type} {k : α → Option β} {o : β} {a : α} (h : zST k o (Sum.inr a)) : k a = some o := h
def zI {V E : Type} (b : V → Option (V ⊕ E)) : Nat → V → Option E
  | 0, _ => none
  | n + 1, v => match b v with
    | none => none
    | some (.inl w) => zI b n w
    | some (.inr e) => some e
def zIT {V E : Type} (b : V → Option (V ⊕ E)) (n : Nat) (e : E) (x : V ⊕ E) : Prop := match x with
  | .inl w => zI b n w = some e
  | .inr e' => e' = e
theorem zI_0 {V E : Type} {b : V → Option (V ⊕ E)} {v : V} {e : E} (h : zI b 0 v = some e) : False := by cases h
theorem zI_spec {V E : Type} {b : V → Option (V ⊕ E)} {n : Nat} {v : V} {e : E} (h : zI b (n + 1) v = some e) : ∃ x, b v = some x ∧ zIT b n e x := by
  unfold zI at h
  cases hb : b v with
  | none => rw [hb] at h; cases h
  | some x =>
    rw [hb] at h
    cases x with
    | inl w => exact ⟨_, rfl, h⟩
    | inr w => exact ⟨_, rfl, Option.some.inj h⟩
theorem zI_l {V E : Type} {b : V → Option (V ⊕ E)} {n : Nat} {w : V} {e : E} {x : V ⊕ E} (h : some (Sum.inl w) = some x) (hx : zIT b n e x) : zI b n w = some e := by
  cases h
  exact hx
theorem zI_r {V E : Type} {b : V → Option (V ⊕ E)} {n : Nat} {w e : E} {x : V ⊕ E} (h : some (Sum.inr w) = some x) (hx : zIT b n e x) : w = e := by
  cases h
  exact hx
def zF : Nat := 10000
theorem zY {α : Type} {c : Prop} {inst : Decidable c} {a b o : α} (hc : c) (h : @ite α c inst a b = o) : a = o := by
  rw [if_pos hc] at h
  exact h
theorem zN {α : Type} {c : Prop} {inst : Decidable c} {a b o : α} (hc : ¬ c) (h : @ite α c inst a b = o) : b = o := by
  rw [if_neg hc] at h
  exact h
def zb (x : Int32) : Prop := x = 0 ∨ x = 1
theorem zb_nar {x : Int32} (h : zb x) : narrow .boolean (.int x) = .int x := by
  rcases h with rfl | rfl <;> rfl
def zsw (b : Bool) (p q : Nat) : Nat := cond b q p
def jLu (x : Int64) (y : Int32) : Int64 := (x.toUInt64 >>> (y.toInt64.toUInt64 &&& Int64.toUInt64 63)).toInt64
def jLs (x : Int64) (y : Int32) : Int64 := x <<< (y.toInt64 &&& 63)
def jLr (x : Int64) (y : Int32) : Int64 := x >>> (y.toInt64 &&& 63)
def jIu (x : Int32) (y : Int32) : Int32 := (x.toUInt32 >>> (y.toUInt32 &&& Int32.toUInt32 31)).toInt32
def jB (x : Int32) : Int32 := x.toInt8.toInt32
def jIL (x : Int32) : Int64 := x.toInt64
def jLI (x : Int64) : Int32 := x.toInt32
section ZTOP
variable {p : Program} {l : Launch} {e : Env} {R : Room} {s : State} {m : MethodId} {args : Array Value} {below : List Frame} {meth : Method} {c : Code} {H : Heap} {locs : List Loc} {cells slots : Nat} {Q : State → Prop} {pc : Nat} {ls : Array Slot} {rest : List Value}
theorem zTopi {x y : Int32} (h : y = x) (k : W p l e R s m args below meth c H locs cells slots Q (F0 m pc ls (.int y :: rest))) : W p l e R s m args below meth c H locs cells slots Q (F0 m pc ls (.int x :: rest)) := by
  subst h
  exact k
theorem zTopl {x y : Int64} (h : y = x) (k : W p l e R s m args below meth c H locs cells slots Q (F0 m pc ls (.long y :: rest))) : W p l e R s m args below meth c H locs cells slots Q (F0 m pc ls (.long x :: rest)) := by
  subst h
  exact k
end ZTOP
theorem zFree {A0 : Nat → Prop} {ws : va_W} {H0 H : Heap} {locs : List Loc} (hD : va_D A0 ws) (hS : va_S A0 H0 H locs) (hA : ∀ q, H0.size ≤ q → A0 q) : ∀ q, va_A ws H.size q → A0 q := by
  intro q h
  rcases h with ⟨k, e, h⟩ | h
  · exact hD.2 k (q, e) h
  · exact hA q (Nat.le_trans hS.1 h)
/-! the objects' cells -/
def oX0 (a : Nat) (h : Nat → Nat) (S : SS) : Nat × va_E := (a, .inr (0, [.int (gI S 0), .int (gI S 1), .ref (h 2), .ref (h 3), .ref (h 4), .ref (h 5), .ref (h 6), .ref (h 7), .ref (h 8), .ref (h 9), .ref (h 10), .ref (h 11), .ref (h 12)]))
def cX0 (a : Nat) (h : Nat → Nat) (y : Nat → ClassId) (S : SS) : va_W := [(oX0 a h S), (h 2, .inl (y 1, 60, .inr (.inl (gB S 2)))), (h 3, .inl (y 0, 60, .inl (gA S 3))), (h 4, .inl (y 0, 60, .inl (gA S 4))), (h 5, .inl (y 0, 60, .inl (gA S 5))), (h 6, .inl (y 0, 60, .inl (gA S 6))), (h 7, .inl (y 0, 720, .inl (gA S 7))), (h 8, .inl (y 0, 60, .inl (gA S 8))), (h 9, .inl (y 0, 60, .inl (gA S 9))), (h 10, .inl (y 1, 60, .inr (.inl (gB S 10)))), (h 11, .inl (y 0, 60, .inl (gA S 11))), (h 12, .inl (y 0, 60, .inl (gA S 12)))]
def oX1 (a : Nat) (h : Nat → Nat) (r0 : Value) (S : SS) : Nat × va_E := (a, .inr (1, [r0, .int (gI S 1), .int (gI S 2), .int (gI S 3), .int (gI S 4), .long (gL S 5), .int (gI S 6)]))
def cX1 (a : Nat) (h : Nat → Nat) (r0 : Value) (y : Nat → ClassId) (S : SS) : va_W := [(oX1 a h r0 S)]
def oX3 (a : Nat) (h : Nat → Nat) (r2 : Nat) (r3 : Value) (S : SS) : Nat × va_E := (a, .inr (2, [.int (gI S 0), .int (gI S 1), .ref r2, r3, .int (gI S 4), .int (gI S 5), .long (gL S 6), .int (gI S 7), .int (gI S 8), .int (gI S 9), .int (gI S 10), .int (gI S 11), .ref (h 12), .ref (h 13), .ref (h 14), .int (gI S 15), .ref (h 16)]))
def cX3 (a : Nat) (h : Nat → Nat) (r2 : Nat) (r3 : Value) (y : Nat → ClassId) (S : SS) : va_W := [(oX3 a h r2 r3 S), (h 12, .inl (y 1, 667, .inr (.inl (gB S 12)))), (h 13, .inl (y 0, 667, .inl (gA S 13))), (h 14, .inl (y 0, 667, .inl (gA S 14))), (h 16, .inl (y 1, 60, .inr (.inl (gB S 16))))]
def oX4 (a : Nat) (h : Nat → Nat) (S : SS) : Nat × va_E := (a, .inr (3, [.int (gI S 0), .int (gI S 1), .ref (h 2), .ref (h 3), .ref (h 4), .ref (h 5), .ref (h 6), .long (gL S 7)]))
def cX4 (a : Nat) (h : Nat → Nat) (y : Nat → ClassId) (S : SS) : va_W := [(oX4 a h S), (h 2, .inl (y 0, 60, .inl (gA S 2))), (h 3, .inl (y 0, 60, .inl (gA S 3))), (h 4, .inl (y 0, 600, .inl (gA S 4))), (h 5, .inl (y 0, 1200, .inl (gA S 5))), (h 6, .inl (y 0, 60, .inl (gA S 6)))]
def oX5 (a : Nat) (h : Nat → Nat) (S : SS) : Nat × va_E := (a, .inr (4, [.int (gI S 0), .long (gL S 1), .long (gL S 2), .ref (h 3), .long (gL S 4)]))
def cX5 (a : Nat) (h : Nat → Nat) (y : Nat → ClassId) (S : SS) : va_W := [(oX5 a h S), (h 3, .inl (y 1, 60, .inr (.inl (gB S 3))))]
def oX6 (a : Nat) (h : Nat → Nat) (r2 : Nat) (r3 : Nat) (r4 : Nat) (r8 : Nat) (r10 : Nat) (S : SS) : Nat × va_E := (a, .inr (5, [.ref (h 0), .int (gI S 1), .ref r2, .ref r3, .ref r4, .ref (h 5), .ref (h 6), .ref (h 7), .ref r8, .int (gI S 9), .ref r10, .int (gI S 11)]))
def cX6 (a : Nat) (h : Nat → Nat) (r2 : Nat) (r3 : Nat) (r4 : Nat) (r8 : Nat) (r10 : Nat) (y : Nat → ClassId) (S : SS) : va_W := [(oX6 a h r2 r3 r4 r8 r10 S), (h 0, .inl (y 2, 2000, .inl (gA S 0))), (h 5, .inl (y 0, 60, .inl (gA S 5))), (h 6, .inl (y 0, 60, .inl (gA S 6))), (h 7, .inl (y 0, 60, .inl (gA S 7)))]
def oX7 (a : Nat) (h : Nat → Nat) (S : SS) : Nat × va_E := (a, .inr (6, [.ref (h 0), .ref (h 1), .int (gI S 2), .int (gI S 3), .int (gI S 4), .int (gI S 5), .int (gI S 6), .int (gI S 7), .int (gI S 8), .int (gI S 9), .long (gL S 10), .ref (h 11), .ref (h 12), .ref (h 13), .ref (h 14), .ref (h 15), .ref (h 16), .ref (h 17), .ref (h 18), .ref (h 19), .ref (h 20), .ref (h 21), .ref (h 22), .ref (h 23), .ref (h 24), .ref (h 25), .int (gI S 26), .int (gI S 27), .int (gI S 28), .int (gI S 29), .int (gI S 30), .int (gI S 31), .ref (h 32), .ref (h 33), .ref (h 34), .ref (h 35), .ref (h 36), .ref (h 37), .ref (h 38), .int (gI S 39), .ref (h 40), .ref (h 41), .ref (h 42), .ref (h 43), .ref (h 44), .ref (h 45), .int (gI S 46), .int (gI S 47), .int (gI S 48)]))
def cX7 (a : Nat) (h : Nat → Nat) (y : Nat → ClassId) (S : SS) : va_W := [(oX7 a h S), (h 0, .inl (y 2, 2020, .inl (gA S 0))), (h 1, .inl (y 2, 2000, .inl (gA S 1))), (h 11, .inl (y 1, 120, .inr (.inl (gB S 11)))), (h 12, .inl (y 0, 120, .inl (gA S 12))), (h 13, .inl (y 0, 120, .inl (gA S 13))), (h 14, .inl (y 0, 120, .inl (gA S 14))), (h 15, .inl (y 0, 120, .inl (gA S 15))), (h 16, .inl (y 0, 1440, .inl (gA S 16))), (h 17, .inl (y 0, 120, .inl (gA S 17))), (h 18, .inl (y 0, 60, .inl (gA S 18))), (h 19, .inl (y 3, 720, .inl (gA S 19))), (h 20, .inl (y 1, 1000, .inr (.inl (gB S 20)))), (h 21, .inl (y 0, 1000, .inl (gA S 21))), (h 22, .inl (y 0, 1000, .inl (gA S 22))), (h 23, .inl (y 1, 200, .inr (.inl (gB S 23)))), (h 24, .inl (y 0, 200, .inl (gA S 24))), (h 25, .inl (y 3, 200, .inl (gA S 25))), (h 32, .inl (y 3, 60, .inl (gA S 32))), (h 33, .inl (y 0, 60, .inl (gA S 33))), (h 34, .inl (y 0, 60, .inl (gA S 34))), (h 35, .inl (y 0, 60, .inl (gA S 35))), (h 36, .inl (y 0, 60, .inl (gA S 36))), (h 37, .inl (y 0, 60, .inl (gA S 37))), (h 38, .inl (y 0, 60, .inl (gA S 38))), (h 40, .inl (y 0, 60, .inl (gA S 40))), (h 41, .inl (y 0, 60, .inl (gA S 41))), (h 42, .inl (y 0, 600, .inl (gA S 42))), (h 43, .inl (y 0, 1200, .inl (gA S 43))), (h 44, .inl (y 0, 60, .inl (gA S 44))), (h 45, .inl (y 3, 60, .inl (gA S 45)))]
/-- a slot of the reference that holds a row of 60 ints, by a variable -/
def SQ (a : Nat) (h : Nat → Nat) (y : Nat → ClassId) (q pq : Nat) : Prop := (∀ S : SS, (cX7 a h y S)[pq]? = some (h q, .inl (y 0, 60, .inl (gA S q)))) ∧ ∀ (S : SS) (f : Nat → Int32), (cX7 a h y S).set pq (h q, .inl (y 0, 60, .inl f)) = cX7 a h y (sA S q f)
