/-! TOKENS, as both sides find them -/
def isBl (c : Int32) : Prop := c = 32 ∨ c = 10
def isLt (c : Int32) : Prop := 97 ≤ c.toInt ∧ c.toInt ≤ 122
def isDg (c : Int32) : Prop := 48 ≤ c.toInt ∧ c.toInt ≤ 57
def isLD (c : Int32) : Prop := isLt c ∨ isDg c
def isSg (c : Int32) : Prop := c = 44 ∨ c = 59 ∨ c = 61 ∨ c = 40 ∨ c = 41 ∨ c = 60
def Bl (f : Nat → Int32) (p a n : Nat) : Prop := p ≤ a ∧ a ≤ n ∧ (∀ j, p ≤ j → j < a → isBl (f j)) ∧ (a < n → ¬ isBl (f a))
def We (f : Nat → Int32) (a e n : Nat) : Prop := a < e ∧ e ≤ n ∧ (∀ j, a < j → j < e → isLD (f j)) ∧ (e < n → ¬ isLD (f e))
def wv (f : Nat → Int32) (a : Nat) : Nat → Int64
  | 0 => 0
  | k + 1 => (jLs (wv f a k) 8) ||| (jIL (f (a + k)))
/-- the TOKEN behind p: from a to e, its kind k (0 none, 1 the end, 2 a word w, 3 a digit d, else the sign) -/
def Tk (f : Nat → Int32) (n p a e : Nat) (k : Int32) (w : Int64) (d : Int32) : Prop := Bl f p a n ∧
  ((a = n ∧ e = n ∧ k = 1) ∨ (a < n ∧ isLt (f a) ∧ We f a e n ∧ ((e - a ≤ 8 ∧ k = 2 ∧ w = wv f a (e - a)) ∨ (8 < e - a ∧ k = 0))) ∨
  (a < n ∧ isDg (f a) ∧ e = a + 1 ∧ ((k = 3 ∧ d = f a - 48 ∧ f a ≠ 48 ∧ (e < n → ¬ isLD (f e))) ∨ (k = 0 ∧ (f a = 48 ∨ (e < n ∧ isLD (f e)))))) ∨
  (a < n ∧ ¬ isLt (f a) ∧ ¬ isDg (f a) ∧ e = a + 1 ∧ ((isSg (f a) ∧ k = f a) ∨ (¬ isSg (f a) ∧ k = 0))))
theorem Bl_u {f : Nat → Int32} {p a b n : Nat} (h : Bl f p a n) (g : Bl f p b n) : a = b := by
  obtain ⟨h1, h2, h3, h4⟩ := h
  obtain ⟨g1, g2, g3, g4⟩ := g
  rcases Nat.lt_trichotomy a b with q | q | q
  · exact absurd (g3 a h1 q) (h4 (by omega))
  · exact q
  · exact absurd (h3 b g1 q) (g4 (by omega))
theorem We_u {f : Nat → Int32} {a e b n : Nat} (h : We f a e n) (g : We f a b n) : e = b := by
  obtain ⟨h1, h2, h3, h4⟩ := h
  obtain ⟨g1, g2, g3, g4⟩ := g
  rcases Nat.lt_trichotomy e b with q | q | q
  · exact absurd (g3 e h1 q) (h4 (by omega))
  · exact q
  · exact absurd (h3 b g1 q) (g4 (by omega))
theorem isLt_Dg {c : Int32} (h : isLt c) (g : isDg c) : False := by
  obtain ⟨h1, h2⟩ := h
  obtain ⟨g1, g2⟩ := g
  omega
theorem Tk_u {f : Nat → Int32} {n p a e a' e' : Nat} {k k' d d' : Int32} {w w' : Int64} (h : Tk f n p a e k w d) (g : Tk f n p a' e' k' w' d') : a = a' ∧ e = e' ∧ k = k' ∧ (k = 2 → w = w') ∧ (k = 3 → d = d') := by
  obtain ⟨h0, h⟩ := h
  obtain ⟨g0, g⟩ := g
  have ea := Bl_u h0 g0
  subst ea
  have s2 : ∀ c : Int32, isSg c → c ≠ 2 ∧ c ≠ 3 := by
    intro c hc
    rcases hc with rfl | rfl | rfl | rfl | rfl | rfl <;> decide
  rcases h with ⟨h1, h2, h3⟩ | ⟨h1, h2, h3, h4⟩ | ⟨h1, h2, h3, h4⟩ | ⟨h1, h2, h3, h4, h5⟩
  · rcases g with ⟨g1, g2, g3⟩ | ⟨g1, _⟩ | ⟨g1, _⟩ | ⟨g1, _⟩
    · subst h3 g3
      exact ⟨rfl, h2.trans g2.symm, rfl, fun q => absurd q (by decide), fun q => absurd q (by decide)⟩
    all_goals omega
  · rcases g with ⟨g1, _⟩ | ⟨g1, g2, g3, g4⟩ | ⟨g1, g2, _⟩ | ⟨g1, g2, _⟩
    · omega
    · have ee := We_u h3 g3
      subst ee
      rcases h4 with ⟨u1, u2, u3⟩ | ⟨u1, u2⟩
      · rcases g4 with ⟨v1, v2, v3⟩ | ⟨v1, v2⟩
        · subst u2 v2
          exact ⟨rfl, rfl, rfl, fun _ => u3.trans v3.symm, fun q => absurd q (by decide)⟩
        · omega
      · rcases g4 with ⟨v1, v2, v3⟩ | ⟨v1, v2⟩
        · omega
        · subst u2 v2
          exact ⟨rfl, rfl, rfl, fun q => absurd q (by decide), fun q => absurd q (by decide)⟩
    · exact (isLt_Dg h2 g2).elim
    · exact absurd h2 g2
  · rcases g with ⟨g1, _⟩ | ⟨g1, g2, _⟩ | ⟨g1, g2, g3, g4⟩ | ⟨g1, g2, g3, _⟩
    · omega
    · exact (isLt_Dg g2 h2).elim
    · subst h3 g3
      rcases h4 with ⟨u1, u2, u3, u4⟩ | ⟨u1, u2⟩
      · rcases g4 with ⟨v1, v2, v3, v4⟩ | ⟨v1, v2⟩
        · subst u1 v1
          exact ⟨rfl, rfl, rfl, fun q => absurd q (by decide), fun _ => u2.trans v2.symm⟩
        · rcases v2 with v2 | v2
          · exact absurd v2 u3
          · exact absurd v2.2 (u4 v2.1)
      · rcases g4 with ⟨v1, v2, v3, v4⟩ | ⟨v1, v2⟩
        · rcases u2 with u2 | u2
          · exact absurd u2 v3
          · exact absurd u2.2 (v4 u2.1)
        · subst u1 v1
          exact ⟨rfl, rfl, rfl, fun q => absurd q (by decide), fun q => absurd q (by decide)⟩
    · exact absurd h2 g3
  · rcases g with ⟨g1, _⟩ | ⟨g1, g2, _⟩ | ⟨g1, g2, _⟩ | ⟨g1, g2, g3, g4, g5⟩
    · omega
    · exact absurd g2 h2
    · exact absurd g2 h3
    · subst h4 g4
      rcases h5 with ⟨u1, u2⟩ | ⟨u1, u2⟩
      · rcases g5 with ⟨v1, v2⟩ | ⟨v1, v2⟩
        · subst u2 v2
          exact ⟨rfl, rfl, rfl, fun q => absurd q (s2 _ u1).1, fun q => absurd q (s2 _ u1).2⟩
        · exact absurd u1 v1
      · rcases g5 with ⟨v1, v2⟩ | ⟨v1, v2⟩
        · exact absurd v1 u1
        · subst u2 v2
          exact ⟨rfl, rfl, rfl, fun q => absurd q (by decide), fun q => absurd q (by decide)⟩
/-! the class's TOKENS -/
theorem e_X1_isBlank (c : Int32) : Ok (f_X1_isBlank c) (fun r => (r ≠ 0 ↔ isBl c)) := Ok_c (fun h => Ok_s ⟨fun _ => Or.inl h, fun _ => by decide⟩) (fun h => Ok_c (fun h2 => Ok_s ⟨fun _ => Or.inr h2, fun _ => by decide⟩) (fun h2 => Ok_s ⟨fun q => absurd rfl q, fun q => by rcases q with q | q; exact absurd q h; exact absurd q h2⟩))
theorem e_isLetter {α : Prop} (c : Int32) (h1 : ¬ c < 97) (h2 : ¬ 122 < c) : isLt c := by
  have t1 : (97 : Int32).toInt = 97 := by decide
  have t2 : (122 : Int32).toInt = 122 := by decide
  rw [ti_lt, t1] at h1
  rw [ti_lt, t2] at h2
  exact ⟨by omega, by omega⟩
theorem e_X1_isLetter (c : Int32) : Ok (f_X1_isLetter c) (fun r => (r ≠ 0 ↔ isLt c)) := by
  have t1 : (97 : Int32).toInt = 97 := by decide
  have t2 : (122 : Int32).toInt = 122 := by decide
  refine Ok_c (fun h => Ok_s ⟨fun q => absurd rfl q, fun q => ?_⟩) (fun h => Ok_c (fun h2 => Ok_s ⟨fun q => absurd rfl q, fun q => ?_⟩) (fun h2 => Ok_s ⟨fun _ => ?_, fun _ => by decide⟩))
  · rw [ti_lt, t1] at h
    have := q.1
    omega
  · rw [ti_lt, t2] at h2
    have := q.2
    omega
  · rw [ti_lt, t1] at h
    rw [ti_lt, t2] at h2
    exact ⟨by omega, by omega⟩
theorem e_X1_isDigit (c : Int32) : Ok (f_X1_isDigit c) (fun r => (r ≠ 0 ↔ isDg c)) := by
  have t1 : (48 : Int32).toInt = 48 := by decide
  have t2 : (57 : Int32).toInt = 57 := by decide
  refine Ok_c (fun h => Ok_s ⟨fun q => absurd rfl q, fun q => ?_⟩) (fun h => Ok_c (fun h2 => Ok_s ⟨fun q => absurd rfl q, fun q => ?_⟩) (fun h2 => Ok_s ⟨fun _ => ?_, fun _ => by decide⟩))
  · rw [ti_lt, t1] at h
    have := q.1
    omega
  · rw [ti_lt, t2] at h2
    have := q.2
    omega
  · rw [ti_lt, t1] at h
    rw [ti_lt, t2] at h2
    exact ⟨by omega, by omega⟩
theorem e_X1_isLD (c : Int32) : Ok (f_X1_isLetterOrDigit c) (fun r => (r ≠ 0 ↔ isLD c)) := by
  refine Ok_B (e_X1_isLetter c) (fun r hr => Ok_c (fun h => Ok_B (e_X1_isDigit c) (fun r2 hr2 => Ok_c (fun h2 => Ok_s ⟨fun q => absurd rfl q, fun q => ?_⟩) (fun h2 => Ok_s ⟨fun _ => Or.inr (hr2.mp h2), fun _ => by decide⟩))) (fun h => Ok_s ⟨fun _ => Or.inl (hr.mp h), fun _ => by decide⟩))
  rcases q with q | q
  · exact absurd h (hr.mpr q)
  · exact absurd h2 (hr2.mpr q)
theorem e_X1_isSign (c : Int32) : Ok (f_X1_isSign c) (fun r => (r ≠ 0 ↔ isSg c)) := by
  refine Ok_c (fun h => Ok_s ⟨fun _ => Or.inl h, fun _ => by decide⟩) (fun h1 => Ok_c (fun h => Ok_s ⟨fun _ => Or.inr (Or.inl h), fun _ => by decide⟩) (fun h2 => Ok_c (fun h => Ok_s ⟨fun _ => Or.inr (Or.inr (Or.inl h)), fun _ => by decide⟩) (fun h3 => Ok_c (fun h => Ok_s ⟨fun _ => Or.inr (Or.inr (Or.inr (Or.inl h))), fun _ => by decide⟩) (fun h4 => Ok_c (fun h => Ok_s ⟨fun _ => Or.inr (Or.inr (Or.inr (Or.inr (Or.inl h)))), fun _ => by decide⟩) (fun h5 => Ok_c (fun h => Ok_s ⟨fun _ => Or.inr (Or.inr (Or.inr (Or.inr (Or.inr h)))), fun _ => by decide⟩) (fun h6 => Ok_s ⟨fun q => absurd rfl q, fun q => ?_⟩))))))
  rcases q with q | q | q | q | q | q
  · exact absurd q h1
  · exact absurd q h2
  · exact absurd q h3
  · exact absurd q h4
  · exact absurd q h5
  · exact absurd q h6
