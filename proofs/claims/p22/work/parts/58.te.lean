/-! the class's reader, step by step -/
theorem E_B {α β : Type} {x : Option α} {a : α} {k : α → Option β} {o : Option β} (h : x = some a) (g : k a = o) : zB x k = o := by
  subst h
  exact g
theorem E_G {α : Type} {P : Prop} {x o : Option α} (h : P) (g : x = o) : zG P x = o := (zG_pos h).trans g
theorem E_y {α : Type} {c : Prop} {inst : Decidable c} {a b o : α} (h : c) (g : a = o) : @ite α c inst a b = o := (if_pos h).trans g
theorem E_n {α : Type} {c : Prop} {inst : Decidable c} {a b o : α} (h : ¬ c) (g : b = o) : @ite α c inst a b = o := (if_neg h).trans g
theorem zb1 : zb 1 := Or.inr rfl
theorem zb0 : zb 0 := Or.inl rfl
theorem eq00 : (0 : Int32) = 0 := rfl
def flS (S3 : SS) (k p : Int32) : SS := sI (sI S3 0 k) 1 p
def rfS (S3 S1 : SS) : SS := flS S3 (if gI S1 3 = 0 then 1 else 2) (gI S1 4)
theorem e_refuse (S3 S1 : SS) : f_X3_refuse S3 S1 = some (0, rfS S3 S1) := by
  unfold f_X3_refuse rfS
  by_cases h : gI S1 3 = 0
  · rw [if_pos h, if_pos h]
    exact E_B rfl (E_B rfl (E_G zb0 rfl))
  · rw [if_neg h, if_neg h]
    exact E_B rfl (E_B rfl (E_G zb0 rfl))
theorem e_endLine1 {S3 S1 : SS} (h : gI S1 3 = 59) : f_X3_endLine S3 S1 = some (1, sI S3 4 0) := E_y h (E_B rfl (E_G zb1 rfl))
theorem e_endLine0 {S3 S1 : SS} (h : gI S1 3 ≠ 59) : f_X3_endLine S3 S1 = some (0, rfS S3 S1) := E_n h (E_B (e_refuse S3 S1) (E_G zb0 rfl))
def bpS (S3 : SS) (r l m : Int32) : SS := sI (sI (sI (sI (sI S3 8 r) 10 l) 11 m) 9 0) 4 6
theorem e_beginParts (S3 : SS) (r l m : Int32) : f_X3_beginParts S3 r l m = some (1, bpS S3 r l m) := E_B rfl (E_G zb1 rfl)
def auS (S3 : SS) (w : Int64) (p r : Int32) : SS := sI (sA (sA (sB S3 12 (vp_updL (gB S3 12) (gI S3 15).toNatClampNeg w)) 13 (upd (gA S3 13) (gI S3 15).toNatClampNeg p)) 14 (upd (gA S3 14) (gI S3 15).toNatClampNeg r)) 15 (gI S3 15 + 1)
theorem e_addUse {S3 : SS} {u : Nat} (h : gI S3 15 = nI u) (hu : u < 667) (w : Int64) (p r : Int32) : f_X3_addUse S3 w p r = some (auS S3 w p r) := by
  have e : (gI S3 15).toInt = u := by rw [h, nI_toInt (by omega)]
  have i : vp_in (gI S3 15) 667 := ti_in (by omega) (by omega)
  refine E_y ?_ (E_G i (E_G i (E_G i rfl)))
  rw [ti_lt, e]
  have : (667 : Int32).toInt = 667 := by decide
  omega
theorem e_isWord1 {S3 S1 : SS} {w : Int64} (h : gI S1 3 = 2) (g : gL S1 5 = w) : f_X3_isWord S3 S1 w = some 1 := E_y h (E_y (lc_eq.mpr g) rfl)
theorem e_isWord0 {S3 S1 : SS} {w : Int64} (h : ¬ (gI S1 3 = 2 ∧ gL S1 5 = w)) : f_X3_isWord S3 S1 w = some 0 := by
  by_cases q : gI S1 3 = 2
  · exact E_y q (E_n (fun z => h ⟨q, lc_eq.mp z⟩) rfl)
  · exact E_n q rfl
theorem zI_1 {V E : Type} {b : V → Option (V ⊕ E)} {n : Nat} {v w : V} (h : b v = some (.inl w)) : zI b (n + 1) v = zI b n w := by
  show (match b v with | none => none | some (.inl w) => zI b n w | some (.inr e) => some e) = _
  rw [h]
theorem zI_e {V E : Type} {b : V → Option (V ⊕ E)} {n : Nat} {v : V} {e : E} (h : b v = some (.inr e)) : zI b (n + 1) v = some e := by
  show (match b v with | none => none | some (.inl w) => zI b n w | some (.inr e) => some e) = _
  rw [h]
def ghr (w : Int64) : Nat → Nat → Int32
  | _, 0 => -1
  | j, k + 1 => if w = sg_f j then nI j else ghr w (j + 1) k
/-- the class's number of a gate's word -/
def gh (w : Int64) : Int32 := ghr w 0 9
theorem e_gh {S1 : SS} (h : gI S1 3 = 2) (N : Nat) : ∀ (k j : Nat), j + k = 9 → zI (b_X3_gateHere_2 S1) (N + k + 1) (nI j) = some (ghr (gL S1 5) j k) := by
  intro k
  have t9 : (9 : Int32).toInt = 9 := by decide
  induction k with
  | zero =>
    intro j e
    have : j = 9 := by omega
    subst this
    exact zI_e (E_y (by decide) rfl)
  | succ k ih =>
    intro j e
    have ej : (nI j).toInt = j := nI_toInt (by omega)
    have cl : (nI j).toNatClampNeg = j := nI_clamp (by omega)
    have nl : ¬ (9 : Int32) ≤ nI j := by
      rw [ti_le, ej, t9]
      omega
    by_cases q : gL S1 5 = sg_f j
    · refine (zI_e (b := b_X3_gateHere_2 S1) (v := nI j) (e := nI j) (E_n nl (E_y h (E_G (ti_in (by omega) (by omega)) (E_y (lc_eq.mpr (by rw [cl]; exact q)) rfl))))).trans ?_
      show _ = some (if gL S1 5 = sg_f j then nI j else ghr _ (j + 1) k)
      rw [if_pos q]
    · refine (zI_1 (b := b_X3_gateHere_2 S1) (v := nI j) (w := nI (j + 1)) (E_n nl (E_y h (E_G (ti_in (by omega) (by omega)) (E_n (fun z => q (by have := lc_eq.mp z; rwa [cl] at this)) ?_))))).trans ?_
      · show some (Sum.inl (nI j + 1)) = _
        rw [nI_1]
      · show zI _ (N + k + 1) (nI (j + 1)) = some (if gL S1 5 = sg_f j then nI j else ghr _ (j + 1) k)
        rw [if_neg q]
        exact ih (j + 1) (by omega)
theorem e_gateHere {S3 S1 : SS} (h : gI S1 3 = 2) : f_X3_gateHere S3 S1 = some (gh (gL S1 5)) := e_gh h 9990 9 0 rfl
theorem e_gateHere0 {S3 S1 : SS} (h : gI S1 3 ≠ 2) : f_X3_gateHere S3 S1 = some (-1) := zI_e (n := 9999) (E_n (by decide) (E_n h rfl))
def gm (g : Int32) : Int32 := [0, 2, 1, 3, 4, 5, 7, 6, 8].getD g.toNatClampNeg (-1)
def rmo (g : Int32) : Int32 := if g = 6 then 1 else if g = 7 then 1 else if g = 8 then 3 else 6
def rlo (g : Int32) : Int32 := if g = 6 then 1 else if g = 7 then 1 else if g = 8 then 3 else 2
theorem e_mostOf (g : Int32) : f_X7_mostOf g = some (rmo g) := by
  unfold f_X7_mostOf rmo
  repeat' split
  all_goals first | rfl | contradiction
theorem e_leastOf (g : Int32) : f_X7_leastOf g = some (rlo g) := by
  unfold f_X7_leastOf rlo
  repeat' split
  all_goals first | rfl | contradiction
theorem gh_gw (w : Int64) : (gh w = -1 ∧ gw w = -1) ∨ (IV 0 8 (gh w) ∧ IV 0 8 (gw w) ∧ gm (gh w) = gw w ∧ sl_f (gh w).toNatClampNeg = rlo (gw w) ∧ sm_f (gh w).toNatClampNeg = rmo (gw w)) := by
  by_cases h0 : w = 6385252
  · subst h0; exact Or.inr ⟨⟨by decide, by decide⟩, ⟨by decide, by decide⟩, by decide, by decide, by decide⟩
  by_cases h1 : w = 1851879012
  · subst h1; exact Or.inr ⟨⟨by decide, by decide⟩, ⟨by decide, by decide⟩, by decide, by decide, by decide⟩
  by_cases h2 : w = 28530
  · subst h2; exact Or.inr ⟨⟨by decide, by decide⟩, ⟨by decide, by decide⟩, by decide, by decide, by decide⟩
  by_cases h3 : w = 7237490
  · subst h3; exact Or.inr ⟨⟨by decide, by decide⟩, ⟨by decide, by decide⟩, by decide, by decide, by decide⟩
  by_cases h4 : w = 7892850
  · subst h4; exact Or.inr ⟨⟨by decide, by decide⟩, ⟨by decide, by decide⟩, by decide, by decide, by decide⟩
  by_cases h5 : w = 2020503410
  · subst h5; exact Or.inr ⟨⟨by decide, by decide⟩, ⟨by decide, by decide⟩, by decide, by decide, by decide⟩
  by_cases h6 : w = 6452582
  · subst h6; exact Or.inr ⟨⟨by decide, by decide⟩, ⟨by decide, by decide⟩, by decide, by decide, by decide⟩
  by_cases h7 : w = 7237492
  · subst h7; exact Or.inr ⟨⟨by decide, by decide⟩, ⟨by decide, by decide⟩, by decide, by decide, by decide⟩
  by_cases h8 : w = 7173496
  · subst h8; exact Or.inr ⟨⟨by decide, by decide⟩, ⟨by decide, by decide⟩, by decide, by decide, by decide⟩
  refine Or.inl ⟨?_, ?_⟩
  · show (if w = 6385252 then nI 0 else if w = 1851879012 then nI 1 else if w = 28530 then nI 2 else if w = 7237490 then nI 3 else if w = 7892850 then nI 4 else if w = 2020503410 then nI 5 else if w = 6452582 then nI 6 else if w = 7237492 then nI 7 else if w = 7173496 then nI 8 else -1) = _
    rw [if_neg h0, if_neg h1, if_neg h2, if_neg h3, if_neg h4, if_neg h5, if_neg h6, if_neg h7, if_neg h8]
  · unfold gw
    rw [if_neg h0, if_neg h2, if_neg h1, if_neg h3, if_neg h4, if_neg h5, if_neg h7, if_neg h6, if_neg h8]
theorem e_isName1 {S3 S1 : SS} (h : gI S1 3 = 2) (g : ¬ kept (gL S1 5)) : f_X3_isName S3 S1 = some 1 := by
  have q : gh (gL S1 5) = -1 := by
    rcases gh_gw (gL S1 5) with q | q
    · exact q.1
    · refine absurd (Or.inl (fun z => ?_)) g
      rw [z] at q
      exact absurd q.2.1.1 (by decide)
  refine E_y h (E_B (e_gateHere h) (E_y q (E_n (fun z => g ?_) (E_n (fun z => g ?_) (E_n (fun z => g ?_) (E_n (fun z => g ?_) (E_n (fun z => g ?_) rfl)))))))
  · exact Or.inr (Or.inl (lc_eq.mp z))
  · exact Or.inr (Or.inr (Or.inl (lc_eq.mp z)))
  · exact Or.inr (Or.inr (Or.inr (Or.inl (lc_eq.mp z))))
  · exact Or.inr (Or.inr (Or.inr (Or.inr (Or.inl (lc_eq.mp z)))))
  · exact Or.inr (Or.inr (Or.inr (Or.inr (Or.inr (lc_eq.mp z)))))
theorem e_isName0 {S3 S1 : SS} (h : ¬ (gI S1 3 = 2 ∧ ¬ kept (gL S1 5))) : f_X3_isName S3 S1 = some 0 := by
  by_cases k2 : gI S1 3 = 2
  · have kp : kept (gL S1 5) := Classical.byContradiction (fun z => h ⟨k2, z⟩)
    refine E_y k2 (E_B (e_gateHere k2) ?_)
    by_cases q : gh (gL S1 5) = -1
    · have gq : gw (gL S1 5) = -1 := by
        rcases gh_gw (gL S1 5) with z | z
        · exact z.2
        · rw [q] at z
          exact absurd z.1.1 (by decide)
      refine E_y q ?_
      show (if lg_cmp (gL S1 5) 26990 = 0 then some (0 : Int32) else if lg_cmp (gL S1 5) 6452595 = 0 then some 0 else if lg_cmp (gL S1 5) 7497063 = 0 then some 0 else if lg_cmp (gL S1 5) 6907441 = 0 then some 0 else if lg_cmp (gL S1 5) 6907440 = 0 then some 0 else some 1) = some 0
      rcases kp with z | z | z | z | z | z
      · exact absurd gq z
      all_goals
        rw [z]
        decide
    · exact E_n q rfl
  · exact E_n k2 rfl
