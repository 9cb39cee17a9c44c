/-! the class's loop over TOKENS beside the reference's TOKENS -/
abbrev Cf : Type := Int32 × SS × SS × SS
def Rn (f : Nat → Int32) (v w : Cf) : Prop := ∃ m : Nat, ∀ N : Nat, zI (b_X3_takeTokens_14 f) (N + m) v = zI (b_X3_takeTokens_14 f) N w
theorem Rn_r (f : Nat → Int32) (v : Cf) : Rn f v v := ⟨0, fun _ => rfl⟩
theorem Rn_t {f : Nat → Int32} {u v w : Cf} (h : Rn f u v) (g : Rn f v w) : Rn f u w := by
  obtain ⟨m, h⟩ := h
  obtain ⟨k, g⟩ := g
  exact ⟨k + m, fun N => by rw [← Nat.add_assoc, h, g]⟩
noncomputable def ktl : SS × SS × SS → Option (Int32 × SS × SS × SS) := fun ((s3, s1, s0) : SS × SS × SS) =>
  if (gI s3 4) = (0 : Int32) then some ((1 : Int32), s3, s1, s0)
  else zB (f_X3_refuse s3 s1) (fun ((r, t) : Int32 × SS) =>
  if r = (0 : Int32) then some ((0 : Int32), t, s1, s0)
  else some ((1 : Int32), t, s1, s0))
def TT (f : Nat → Int32) (v : Cf) (r : Int32 × SS × SS × SS) : Prop := ∃ m : Nat, ∀ N : Nat, zS (zI (b_X3_takeTokens_14 f) (N + m) v) ktl = some r
theorem TT_R {f : Nat → Int32} {v w : Cf} {r : Int32 × SS × SS × SS} (h : Rn f v w) (g : TT f w r) : TT f v r := by
  obtain ⟨m, h⟩ := h
  obtain ⟨k, g⟩ := g
  exact ⟨k + m, fun N => by rw [← Nat.add_assoc, h, g]⟩
theorem Rn_1 {f : Nat → Int32} {i : Nat} {S3 S1 S0 T3 T1 T0 : SS} (hi : i < 2000) (hk : gI S1 3 ≠ 1) (hs : f_X3_step S3 S1 S0 = some (1, T3, T0)) (ha : f_X1_advance S1 f = some T1) : Rn f (nI i, S3, S1, S0) (nI (i + 1), T3, T1, T0) := by
  refine ⟨1, fun N => zI_1 (b := b_X3_takeTokens_14 f) (v := (nI i, S3, S1, S0)) (w := (nI (i + 1), T3, T1, T0)) (E_n ?_ (E_n hk (E_B hs (E_n ne10 (E_B ha ?_)))))⟩
  · rw [show (2000 : Int32) = nI 2000 from rfl, nI_leI (by omega) (by omega)]
    omega
  · show some (Sum.inl (nI i + 1, T3, T1, T0)) = _
    rw [nI_1]
theorem TT_0 {f : Nat → Int32} {i : Nat} {S3 S1 S0 T3 T0 : SS} (hi : i < 2000) (hk : gI S1 3 ≠ 1) (hs : f_X3_step S3 S1 S0 = some (0, T3, T0)) : TT f (nI i, S3, S1, S0) (0, T3, S1, T0) := by
  have e : b_X3_takeTokens_14 f (nI i, S3, S1, S0) = some (Sum.inr (Sum.inl (0, T3, S1, T0))) := by
    refine E_n ?_ (E_n hk (E_B hs (E_y rfl rfl)))
    rw [show (2000 : Int32) = nI 2000 from rfl, nI_leI (by omega) (by omega)]
    omega
  exact ⟨1, fun N => by rw [zI_e e]; rfl⟩
theorem b_end {f : Nat → Int32} {i : Int32} {S3 S1 S0 : SS} (hk : gI S1 3 = 1) : b_X3_takeTokens_14 f (i, S3, S1, S0) = some (Sum.inr (Sum.inr (S3, S1, S0))) := by
  by_cases c : (2000 : Int32) ≤ i
  · exact E_y c rfl
  · exact E_n c (E_y hk rfl)
theorem TT_E {f : Nat → Int32} {i : Int32} {S3 S1 S0 : SS} (hk : gI S1 3 = 1) (h4 : gI S3 4 ≠ 0) : TT f (i, S3, S1, S0) (0, rfS S3 S1, S1, S0) := by
  refine ⟨1, fun N => ?_⟩
  rw [zI_e (b_end hk)]
  show ktl (S3, S1, S0) = _
  exact E_n h4 (E_B (e_refuse S3 S1) (E_y rfl rfl))
theorem TT_G {f : Nat → Int32} {i : Int32} {S3 S1 S0 : SS} (hk : gI S1 3 = 1) (h4 : gI S3 4 = 0) : TT f (i, S3, S1, S0) (1, S3, S1, S0) := by
  refine ⟨1, fun N => ?_⟩
  rw [zI_e (b_end hk)]
  show ktl (S3, S1, S0) = _
  exact E_y h4 rfl
/-! both stand at one TOKEN -/
def KN (f : Nat → Int32) (n a e : Nat) (S1 X : SS) : Prop := (gI S1 3 = 1 ∧ gI X 8 = 0 ∧ a = n) ∨ (gI S1 3 = 0 ∧ gI X 8 = 1 ∧ a + 1 ≤ e) ∨ (gI S1 3 = 2 ∧ gL X 10 = gL S1 5 ∧ ((gI X 8 = 3 ∧ kept (gL S1 5) ∧ a + 2 ≤ e) ∨ (gI X 8 = 2 ∧ ¬ kept (gL S1 5) ∧ a + 1 ≤ e))) ∨ (gI S1 3 = 3 ∧ gI X 8 = 4 ∧ gI X 9 = gI S1 6 ∧ a + 1 ≤ e) ∨ (isSg (gI S1 3) ∧ gI X 8 = 5 ∧ gI S1 3 = f a ∧ a + 1 ≤ e)
def TA (f : Nat → Int32) (n a e : Nat) (S1 X : SS) : Prop := TX f n X ∧ gI S1 1 = nI n ∧ (gI S1 4 = nI a ∧ gI X 6 = nI a) ∧ (gI S1 2 = nI e ∧ gI X 7 = nI e) ∧ (a ≤ e ∧ e ≤ n) ∧ KN f n a e S1 X
theorem p_adv {f : Nat → Int32} {n e : Nat} {S1 X : SS} (h : TX f n X) (h1 : gI S1 1 = nI n) (h2 : gI S1 2 = nI e) (h7 : gI X 7 = nI e) (he : e ≤ n) : Pc (f_X7_next X) (fun Y => FX X Y ∧ ∃ T1 a' e', f_X1_advance S1 f = some T1 ∧ TA f n a' e' T1 Y ∧ e ≤ a') := by
  obtain ⟨x1, x2, x3, x4⟩ := id h
  obtain ⟨T1, eT, t1, a, e2, t4, t2, tk⟩ := e_X1_advance x1 h1 h2 he
  have zE : aE X = e := by
    show (gI X 7).toInt = e
    rw [h7, nI_toInt (by omega)]
  have zZ : aZ X = n := by
    show (gI X 3).toInt = n
    rw [x3, nI_toInt (by omega)]
  intro Y hY
  obtain ⟨fx, lx, _⟩ := Pc_Ok (k_X7_next (S := X) (by omega) (by omega) (by omega)) Y hY
  obtain ⟨a', e', k, w, d, y6, y7, tk', tr⟩ := p_X7_next h h7 he Y hY
  obtain ⟨u1, u2, u3, u4, u5⟩ := Tk_u tk tk'
  subst u1 u2
  obtain ⟨b1, b2, _, _⟩ := tk.1
  obtain ⟨l1, l2, l3, l4, l5, l6, l7, l8⟩ := lx
  have yT : aT Y = a := by
    show (gI Y 6).toInt = a
    rw [y6, nI_toInt (by omega)]
  have yZ : aZ Y = n := by
    show (gI Y 3).toInt = n
    rw [FX_i fx (by decide), x3, nI_toInt (by omega)]
  have le2 : e2 < 2 ^ 31 := by
    obtain ⟨_, q⟩ := tk
    rcases q with ⟨_, q, _⟩ | ⟨_, _, ⟨_, q, _⟩, _⟩ | ⟨_, _, q, _⟩ | ⟨_, _, _, q, _⟩ <;> omega
  have yE : aE Y = e2 := by
    show (gI Y 7).toInt = e2
    rw [y7, nI_toInt le2]
  refine ⟨fx, T1, a, e2, eT, ⟨TX_FX h fx, t1, ⟨t4, y6⟩, ⟨t2, y7⟩, ⟨by omega, by omega⟩, ?_⟩, b1⟩
  rcases tr with ⟨r1, r2⟩ | ⟨r1, r2⟩ | ⟨r1, r2, r3⟩ | ⟨r1, r2, r3⟩ | ⟨r1, r2, r3⟩
  · refine Or.inl ⟨u3.trans r1, r2, ?_⟩
    have := l5 r2
    omega
  · refine Or.inr (Or.inl ⟨u3.trans r1, r2, ?_⟩)
    have := l6 (by rw [r2]; decide)
    omega
  · have k2 := u3.trans r1
    have ew := u4 k2
    refine Or.inr (Or.inr (Or.inl ⟨k2, by rw [r2, ew], ?_⟩))
    rw [ew]
    rcases r3 with ⟨q1, q2⟩ | ⟨q1, q2⟩
    · have := l7 q1
      exact Or.inl ⟨q1, q2, by omega⟩
    · have := l6 (by rw [q1]; decide)
      exact Or.inr ⟨q1, q2, by omega⟩
  · have k3 := u3.trans r1
    have := l6 (by rw [r2]; decide)
    exact Or.inr (Or.inr (Or.inr (Or.inl ⟨k3, r2, by rw [r3, u5 k3], by omega⟩)))
  · have := l6 (by rw [r2]; decide)
    exact Or.inr (Or.inr (Or.inr (Or.inr ⟨by rw [u3]; exact r1, r2, by rw [u3]; exact r3, by omega⟩)))
/-- where the class began, and the reference's state O ahead of the text with the bank b that is written -/
abbrev Cv : Type := Cf × SS × Nat
/-- the other bank, and all that reading does not touch, is as it was in O -/
def OB (O : SS) (b : Nat) (X : SS) : Prop := (gI X 30 = nI b ∧ b ≤ 1) ∧ (∀ j, (j < 60 * b ∨ 60 * b + 60 ≤ j) → gB X 11 j = gB O 11 j ∧ gA X 12 j = gA O 12 j ∧ gA X 13 j = gA O 13 j ∧ gA X 14 j = gA O 14 j ∧ gA X 15 j = gA O 15 j) ∧ (∀ k, (k = 16 ∨ k = 17 ∨ k = 19 ∨ 32 < k) → gA X k = gA O k) ∧ ∀ k, (k = 29 ∨ 30 < k) → gI X k = gI O k
theorem OB_FX {O X Y : SS} {b : Nat} (h : OB O b X) (f : FX X Y) : OB O b Y := by
  obtain ⟨⟨h1, h2⟩, h3, h4, h5⟩ := h
  refine ⟨⟨by rw [FX_i f (by decide)]; exact h1, h2⟩, fun j hj => ?_, fun k hk => by rw [FX_A f]; exact h4 k hk, fun k hk => by rw [FX_i f ⟨by omega, by omega, by omega, by omega⟩]; exact h5 k hk⟩
  rw [FX_B f, FX_A f, FX_A f, FX_A f, FX_A f]
  exact h3 j hj
theorem OB_I {O X : SS} {b k : Nat} {v : Int32} (hk : k ≤ 28) (h : OB O b X) : OB O b (sI X k v) := by
  obtain ⟨⟨h1, h2⟩, h3, h4, h5⟩ := h
  exact ⟨⟨by rw [gI_ne (by omega)]; exact h1, h2⟩, h3, h4, fun j hj => by rw [gI_ne (by omega)]; exact h5 j hj⟩
theorem OB_A {O X : SS} {b k m : Nat} {v : Int32} (hk : k = 12 ∨ k = 13 ∨ k = 14 ∨ k = 15) (hm : 60 * b ≤ m ∧ m < 60 * b + 60) (h : OB O b X) : OB O b (sA X k (upd (gA X k) m v)) := by
  obtain ⟨h1, h3, h4, h5⟩ := h
  refine ⟨h1, fun j hj => ?_, fun q hq => by rw [gA_ne (by omega)]; exact h4 q hq, h5⟩
  obtain ⟨a1, a2, a3, a4, a5⟩ := h3 j hj
  have one : ∀ q, gA (sA X k (upd (gA X k) m v)) q j = gA X q j := fun q => by
    by_cases e : q = k
    · rw [e, gA_eq, pk_un (by omega)]
    · rw [gA_ne e]
  rw [one 12, one 13, one 14, one 15]
  exact ⟨a1, a2, a3, a4, a5⟩
theorem OB_F {O X : SS} {b k : Nat} {g : Nat → Int32} (hk : k = 18 ∨ (20 ≤ k ∧ k ≤ 25)) (h : OB O b X) : OB O b (sA X k g) := by
  obtain ⟨h1, h3, h4, h5⟩ := h
  refine ⟨h1, fun j hj => ?_, fun q hq => by rw [gA_ne (by omega)]; exact h4 q hq, h5⟩
  rw [gA_ne (by omega), gA_ne (by omega), gA_ne (by omega), gA_ne (by omega)]
  exact h3 j hj
theorem OB_B {O X : SS} {b m : Nat} {v : Int64} (hm : 60 * b ≤ m ∧ m < 60 * b + 60) (h : OB O b X) : OB O b (sB X 11 (vp_updL (gB X 11) m v)) := by
  obtain ⟨h1, h3, h4, h5⟩ := h
  refine ⟨h1, fun j hj => ?_, h4, h5⟩
  rw [gB_sB, if_pos rfl, pk_uLn (by omega)]
  exact h3 j hj
theorem OB_G {O X : SS} {b k : Nat} {g : Nat → Int64} (hk : 11 ≠ k) (h : OB O b X) : OB O b (sB X k g) := by
  obtain ⟨h1, h3, h4, h5⟩ := h
  refine ⟨h1, fun j hj => ?_, h4, h5⟩
  rw [gB_sB, if_neg hk]
  exact h3 j hj
theorem OB_b {O X : SS} {b c : Nat} (h : OB O b X) (h30 : gI X 30 = nI c) (hc : c ≤ 1) : b = c := by
  have := h.1.1
  have := h.1.2
  rw [h30] at *
  exact ((nI_eq (by omega) (by omega)).mp (by assumption)).symm
/-- the class has come from v0 to here, in state st; z: how far the text is ahead of three bytes a use -/
def At (f : Nat → Int32) (n : Nat) (v0 : Cv) (st : Int32) (z : Int) (C : Ct) (S3 S1 S0 X : SS) (a e : Nat) : Prop := (∃ i : Nat, Rn f v0.1 (nI i, S3, S1, S0) ∧ i ≤ a ∧ gI X 5 = -1 ∧ OB v0.2.1 v0.2.2 X) ∧ TA f n a e S1 X ∧ CC C S3 S0 ∧ 3 * (cU C : Int) + z ≤ a ∧ gI S3 4 = st ∧ gI X 4 = 0
/-- both have found the same FAULT -/
def BAD (f : Nat → Int32) (v0 : Cv) (Y : SS) : Prop := gI Y 4 ≠ 0 ∧ (∃ S3 S1 S0 : SS, TT f v0.1 (0, S3, S1, S0) ∧ gI S3 0 = gI Y 4 ∧ gI S3 1 = gI Y 5) ∧ OB v0.2.1 v0.2.2 Y
theorem At_ob {f : Nat → Int32} {n : Nat} {v0 : Cv} {st : Int32} {z : Int} {C : Ct} {S3 S1 S0 X : SS} {a e : Nat} (h : At f n v0 st z C S3 S1 S0 X a e) : OB v0.2.1 v0.2.2 X := by
  obtain ⟨⟨_, _, _, _, ob⟩, _⟩ := h
  exact ob
theorem sg_n {c : Int32} (h : isSg c) : c ≠ 0 ∧ c ≠ 1 ∧ c ≠ 2 ∧ c ≠ 3 ∧ 1 ≤ c.toInt ∧ c.toInt ≤ 127 := by
  rcases h with rfl | rfl | rfl | rfl | rfl | rfl <;> decide
/-- a TOKEN that is not the end is longer than nothing -/
theorem TA_e {f : Nat → Int32} {n a e : Nat} {S1 X : SS} (h : TA f n a e S1 X) (hk : gI S1 3 ≠ 1) : a + 1 ≤ e ∧ a < n := by
  obtain ⟨_, _, _, _, ⟨h1, h2⟩, h3⟩ := h
  rcases h3 with ⟨q, _⟩ | ⟨_, _, q⟩ | ⟨_, _, ⟨_, _, q⟩ | ⟨_, _, q⟩⟩ | ⟨_, _, _, q⟩ | ⟨_, _, _, q⟩
  · exact absurd q hk
  all_goals exact ⟨by omega, by omega⟩
theorem TA_name {f : Nat → Int32} {n a e : Nat} {S1 X : SS} (h : TA f n a e S1 X) : gI X 8 = 2 ↔ gI S1 3 = 2 ∧ ¬ kept (gL S1 5) := by
  obtain ⟨_, _, _, _, _, h3⟩ := h
  rcases h3 with ⟨q, r, _⟩ | ⟨q, r, _⟩ | ⟨q, _, ⟨r, s, _⟩ | ⟨r, s, _⟩⟩ | ⟨q, r, _⟩ | ⟨q, r, _⟩
  · rw [q, r]; exact ⟨fun z => absurd z (by decide), fun z => absurd z.1 (by decide)⟩
  · rw [q, r]; exact ⟨fun z => absurd z (by decide), fun z => absurd z.1 (by decide)⟩
  · rw [r]; exact ⟨fun z => absurd z (by decide), fun z => absurd s z.2⟩
  · rw [r]; exact ⟨fun _ => ⟨q, s⟩, fun _ => rfl⟩
  · rw [q, r]; exact ⟨fun z => absurd z (by decide), fun z => absurd z.1 (by decide)⟩
  · rw [r]; exact ⟨fun z => absurd z (by decide), fun z => absurd z.1 (sg_n q).2.2.1⟩
theorem TA_word {f : Nat → Int32} {n a e : Nat} {S1 X : SS} (h : TA f n a e S1 X) : gI X 8 = 3 ↔ gI S1 3 = 2 ∧ kept (gL S1 5) := by
  obtain ⟨_, _, _, _, _, h3⟩ := h
  rcases h3 with ⟨q, r, _⟩ | ⟨q, r, _⟩ | ⟨q, _, ⟨r, s, _⟩ | ⟨r, s, _⟩⟩ | ⟨q, r, _⟩ | ⟨q, r, _⟩
  · rw [q, r]; exact ⟨fun z => absurd z (by decide), fun z => absurd z.1 (by decide)⟩
  · rw [q, r]; exact ⟨fun z => absurd z (by decide), fun z => absurd z.1 (by decide)⟩
  · rw [r]; exact ⟨fun _ => ⟨q, s⟩, fun _ => rfl⟩
  · rw [r]; exact ⟨fun z => absurd z (by decide), fun z => absurd z.2 s⟩
  · rw [q, r]; exact ⟨fun z => absurd z (by decide), fun z => absurd z.1 (by decide)⟩
  · rw [r]; exact ⟨fun z => absurd z (by decide), fun z => absurd z.1 (sg_n q).2.2.1⟩
theorem TA_L {f : Nat → Int32} {n a e : Nat} {S1 X : SS} (h : TA f n a e S1 X) (h2 : gI S1 3 = 2) : gL X 10 = gL S1 5 ∧ (kept (gL S1 5) → a + 2 ≤ e) := by
  obtain ⟨_, _, _, _, _, h3⟩ := h
  rcases h3 with ⟨q, r, _⟩ | ⟨q, r, _⟩ | ⟨q, t, ⟨r, s, z⟩ | ⟨r, s, z⟩⟩ | ⟨q, r, _⟩ | ⟨q, r, _⟩
  · rw [q] at h2; exact absurd h2 (by decide)
  · rw [q] at h2; exact absurd h2 (by decide)
  · exact ⟨t, fun _ => z⟩
  · exact ⟨t, fun y => absurd y s⟩
  · rw [q] at h2; exact absurd h2 (by decide)
  · exact absurd h2 (sg_n q).2.2.1
theorem TA_dig {f : Nat → Int32} {n a e : Nat} {S1 X : SS} (h : TA f n a e S1 X) : (gI X 8 = 4 ↔ gI S1 3 = 3) ∧ (gI S1 3 = 3 → gI X 9 = gI S1 6) := by
  obtain ⟨_, _, _, _, _, h3⟩ := h
  rcases h3 with ⟨q, r, _⟩ | ⟨q, r, _⟩ | ⟨q, _, ⟨r, s, _⟩ | ⟨r, s, _⟩⟩ | ⟨q, r, s, _⟩ | ⟨q, r, _⟩
  · rw [q, r]; exact ⟨⟨fun z => absurd z (by decide), fun z => absurd z (by decide)⟩, fun z => absurd z (by decide)⟩
  · rw [q, r]; exact ⟨⟨fun z => absurd z (by decide), fun z => absurd z (by decide)⟩, fun z => absurd z (by decide)⟩
  · rw [q, r]; exact ⟨⟨fun z => absurd z (by decide), fun z => absurd z (by decide)⟩, fun z => absurd z (by decide)⟩
  · rw [q, r]; exact ⟨⟨fun z => absurd z (by decide), fun z => absurd z (by decide)⟩, fun z => absurd z (by decide)⟩
  · rw [q, r]; exact ⟨⟨fun _ => rfl, fun _ => rfl⟩, fun _ => s⟩
  · rw [r]; exact ⟨⟨fun z => absurd z (by decide), fun z => absurd z (sg_n q).2.2.2.1⟩, fun z => absurd z (sg_n q).2.2.2.1⟩
theorem TA_bad {f : Nat → Int32} {n a e : Nat} {S1 X : SS} (h : TA f n a e S1 X) : gI X 8 = 1 ↔ gI S1 3 = 0 := by
  obtain ⟨_, _, _, _, _, h3⟩ := h
  rcases h3 with ⟨q, r, _⟩ | ⟨q, r, _⟩ | ⟨q, _, ⟨r, s, _⟩ | ⟨r, s, _⟩⟩ | ⟨q, r, s, _⟩ | ⟨q, r, _⟩
  · rw [q, r]; exact ⟨fun z => absurd z (by decide), fun z => absurd z (by decide)⟩
  · rw [q, r]; exact ⟨fun _ => rfl, fun _ => rfl⟩
  · rw [q, r]; exact ⟨fun z => absurd z (by decide), fun z => absurd z (by decide)⟩
  · rw [q, r]; exact ⟨fun z => absurd z (by decide), fun z => absurd z (by decide)⟩
  · rw [q, r]; exact ⟨fun z => absurd z (by decide), fun z => absurd z (by decide)⟩
  · rw [r]; exact ⟨fun z => absurd z (by decide), fun z => absurd z (sg_n q).1⟩
theorem TA_end {f : Nat → Int32} {n a e : Nat} {S1 X : SS} (h : TA f n a e S1 X) : gI X 8 = 0 ↔ gI S1 3 = 1 := by
  obtain ⟨_, _, _, _, _, h3⟩ := h
  rcases h3 with ⟨q, r, _⟩ | ⟨q, r, _⟩ | ⟨q, _, ⟨r, s, _⟩ | ⟨r, s, _⟩⟩ | ⟨q, r, s, _⟩ | ⟨q, r, _⟩
  · rw [q, r]; exact ⟨fun _ => rfl, fun _ => rfl⟩
  · rw [q, r]; exact ⟨fun z => absurd z (by decide), fun z => absurd z (by decide)⟩
  · rw [q, r]; exact ⟨fun z => absurd z (by decide), fun z => absurd z (by decide)⟩
  · rw [q, r]; exact ⟨fun z => absurd z (by decide), fun z => absurd z (by decide)⟩
  · rw [q, r]; exact ⟨fun z => absurd z (by decide), fun z => absurd z (by decide)⟩
  · rw [r]; exact ⟨fun z => absurd z (by decide), fun z => absurd z (sg_n q).2.1⟩
theorem TA_sg {f : Nat → Int32} {n a e : Nat} {S1 X : SS} (h : TA f n a e S1 X) : (gI X 8 = 5 → isSg (gI S1 3) ∧ gI S1 3 = f a ∧ a < n) ∧ (gI X 8 ≠ 5 → ¬ isSg (gI S1 3)) := by
  obtain ⟨_, _, _, _, ⟨_, _⟩, h3⟩ := h
  rcases h3 with ⟨q, r, _⟩ | ⟨q, r, _⟩ | ⟨q, _, ⟨r, s, _⟩ | ⟨r, s, _⟩⟩ | ⟨q, r, s, _⟩ | ⟨q, r, s, t⟩
  · rw [r]; exact ⟨fun z => absurd z (by decide), fun _ z => (sg_n z).2.1 q⟩
  · rw [r]; exact ⟨fun z => absurd z (by decide), fun _ z => (sg_n z).1 q⟩
  · rw [r]; exact ⟨fun z => absurd z (by decide), fun _ z => (sg_n z).2.2.1 q⟩
  · rw [r]; exact ⟨fun z => absurd z (by decide), fun _ z => (sg_n z).2.2.1 q⟩
  · rw [r]; exact ⟨fun z => absurd z (by decide), fun _ z => (sg_n z).2.2.2.1 q⟩
  · rw [r]; exact ⟨fun _ => ⟨q, s, by omega⟩, fun z => absurd rfl z⟩
theorem p_is {f : Nat → Int32} {n a e : Nat} {S1 X : SS} (h : TA f n a e S1 X) {c : Int32} (hc : isSg c) : Pc (f_X7_is X c) (fun r => r ≠ 0 ↔ gI S1 3 = c) := by
  obtain ⟨s1, s2⟩ := TA_sg h
  obtain ⟨tx, _, ⟨_, x6⟩, _, ⟨b1, b2⟩, _⟩ := id h
  obtain ⟨n1, n2, n3, n4, n5, n6⟩ := sg_n hc
  have hn := tx.1
  refine Pc_c (fun q => ?_) (fun q => Pc_s ⟨fun z => absurd rfl z, fun z => absurd (by rw [z]; exact hc) (s2 q)⟩)
  obtain ⟨q1, q2, q3⟩ := s1 q
  refine Pc_B (p_X7_sign tx x6 (by omega)) (fun r hr => ?_)
  have e : r = c ↔ gI S1 3 = c := by
    rw [hr, cc_is tx.2.1 ⟨n5, n6⟩, q2]
    exact ⟨fun z => z.2, fun z => ⟨q3, z⟩⟩
  exact Pc_i e (fun z => Pc_s ⟨fun _ => z, fun _ => by decide⟩) (fun z => Pc_s ⟨fun y => absurd rfl y, fun y => absurd y z⟩)
theorem p_isWord {f : Nat → Int32} {n a e : Nat} {S1 X : SS} (h : TA f n a e S1 X) {w : Int64} (hw : kept w) : Pc (f_X7_isWord X w) (fun r => r ≠ 0 ↔ (gI S1 3 = 2 ∧ gL S1 5 = w)) := by
  refine Pc_i (TA_word h) (fun q => ?_) (fun q => Pc_s ⟨fun z => absurd rfl z, fun z => absurd ⟨z.1, by rw [z.2]; exact hw⟩ q⟩)
  have e : lg_cmp (gL X 10) w = 0 ↔ gL S1 5 = w := by
    rw [lc_eq, (TA_L h q.1).1]
  exact Pc_i e (fun z => Pc_s ⟨fun _ => ⟨q.1, z⟩, fun _ => by decide⟩) (fun z => Pc_s ⟨fun y => absurd rfl y, fun y => absurd y.2 z⟩)
theorem e_isGood1 {X : SS} (h : gI X 4 = 0) : f_X7_isGood X = some 1 := E_y h rfl
theorem e_isGood0 {X : SS} (h : gI X 4 ≠ 0) : f_X7_isGood X = some 0 := E_n h rfl
theorem e_fails {X : SS} (h : gI X 4 = 0) (k p : Int32) : f_X7_fails X k p = some (sI (sI X 4 k) 5 p) := E_y (by rw [h]; decide) rfl
/-- on to the next TOKEN -/
theorem p_move {f : Nat → Int32} {n : Nat} {v0 : Cv} {st : Int32} {z z' : Int} {C C' : Ct} {S3 S1 S0 T3 T0 X X' : SS} {a e : Nat} (h : At f n v0 st z C S3 S1 S0 X a e) (hk : gI S1 3 ≠ 1) (hs : f_X3_step S3 S1 S0 = some (1, T3, T0)) (hC : CC C' T3 T0) (hX : TX f n X') (h7 : gI X' 7 = gI X 7) (h4 : gI X' 4 = 0) (hz : 3 * (cU C' : Int) + z' ≤ e) (ob : OB v0.2.1 v0.2.2 X') (h5 : gI X' 5 = gI X 5 := by rfl) : Pc (f_X7_next X') (fun Y => FX X' Y ∧ ∃ T1 a' e', At f n v0 (gI T3 4) z' C' T3 T1 T0 Y a' e' ∧ e ≤ a') := by
  obtain ⟨⟨i, rn, hi, x5, _⟩, ta, _, _, _, _⟩ := h
  obtain ⟨ae, an⟩ := TA_e ta hk
  obtain ⟨tx, s1, _, ⟨s2, x7⟩, ⟨_, en⟩, _⟩ := ta
  have hn := tx.1
  refine Pc_w (p_adv hX s1 s2 (h7.trans x7) en) (fun Y hY => ?_)
  obtain ⟨fx, T1, a', e', ha, ta', le⟩ := hY
  refine ⟨fx, T1, a', e', ⟨⟨i + 1, Rn_t rn (Rn_1 (by omega) hk hs ha), by omega, ?_, OB_FX ob fx⟩, ta', hC, by omega, rfl, ?_⟩, le⟩
  · rw [FX_i fx (by decide), h5]; exact x5
  · rw [FX_i fx (by decide)]; exact h4
theorem BAD_mk {f : Nat → Int32} {v0 : Cv} {X S3 S1 S0 : SS} {k p : Int32} (hk : k ≠ 0) (h : TT f v0.1 (0, flS S3 k p, S1, S0)) (ob : OB v0.2.1 v0.2.2 X) : BAD f v0 (sI (sI X 4 k) 5 p) := by
  have y4 : gI (sI (sI X 4 k) 5 p) 4 = k := by rw [gI_ne (by decide), gI_eq]
  have y5 : gI (sI (sI X 4 k) 5 p) 5 = p := gI_eq
  have s0 : gI (flS S3 k p) 0 = k := by
    unfold flS
    rw [gI_ne (by decide), gI_eq]
  have s1 : gI (flS S3 k p) 1 = p := gI_eq
  exact ⟨by rw [y4]; exact hk, ⟨_, _, _, h, by rw [s0, y4], by rw [s1, y5]⟩, OB_I (by decide) (OB_I (by decide) ob)⟩
/-- the class refuses, and so does the reference -/
theorem p_wrong {f : Nat → Int32} {n : Nat} {v0 : Cv} {st : Int32} {z : Int} {C : Ct} {S3 S1 S0 X : SS} {a e : Nat} (h : At f n v0 st z C S3 S1 S0 X a e) (h0 : gI S1 3 = 1 → st ≠ 0) (hs : gI S1 3 ≠ 1 → f_X3_step S3 S1 S0 = some (0, rfS S3 S1, S0)) : Pc (f_X7_wrong X) (BAD f v0) := by
  obtain ⟨⟨i, rn, hi, x5, ob⟩, ta, cc, _, s4, x4⟩ := h
  have tt : TT f v0.1 (0, rfS S3 S1, S1, S0) := by
    by_cases hk : gI S1 3 = 1
    · exact TT_R rn (TT_E hk (by rw [s4]; exact h0 hk))
    · obtain ⟨ae, an⟩ := TA_e ta hk
      have hn := ta.1.1
      exact TT_R rn (TT_0 (by omega) hk (hs hk))
  obtain ⟨_, _, ⟨s14, x6⟩, _⟩ := id ta
  have go : ∀ k : Int32, k = (if gI S1 3 = 0 then 1 else 2) → BAD f v0 (sI (sI X 4 k) 5 (gI X 6)) := by
    intro k ek
    refine BAD_mk (S3 := S3) (S1 := S1) (S0 := S0) ?_ ?_ ob
    · rw [ek]
      split <;> decide
    · rw [ek, x6, ← s14]
      exact tt
  refine Pc_B (P := fun k => k = (if gI S1 3 = 0 then 1 else 2)) (Pc_i (TA_bad ta) (fun q => Pc_s ?_) (fun q => Pc_s ?_)) (fun k hk => Pc_e (e_fails x4 k _) (Pc_s (go k hk)))
  · rw [if_pos q]
  · rw [if_neg q]
theorem p_fails {f : Nat → Int32} {n : Nat} {v0 : Cv} {st : Int32} {z : Int} {C : Ct} {S3 S1 S0 T3 X : SS} {a e : Nat} (h : At f n v0 st z C S3 S1 S0 X a e) (hk : gI S1 3 ≠ 1) {k p : Int32} (k0 : k ≠ 0) (hs : f_X3_step S3 S1 S0 = some (0, flS T3 k p, S0)) : BAD f v0 (sI (sI X 4 k) 5 p) := by
  obtain ⟨⟨i, rn, hi, x5, ob⟩, ta, _⟩ := h
  obtain ⟨ae, an⟩ := TA_e ta hk
  have hn := ta.1.1
  exact BAD_mk k0 (TT_R rn (TT_0 (by omega) hk hs)) ob
theorem p_must {f : Nat → Int32} {n : Nat} {v0 : Cv} {st : Int32} {z : Int} {C : Ct} {S3 S1 S0 T3 X : SS} {a e : Nat} (h : At f n v0 st z C S3 S1 S0 X a e) {c : Int32} (hc : isSg c) (h0 : st ≠ 0) (hy : gI S1 3 = c → f_X3_step S3 S1 S0 = some (1, T3, S0)) (hn : gI S1 3 ≠ c → f_X3_step S3 S1 S0 = some (0, rfS S3 S1, S0)) (hC : CC C T3 S0) : Pc (f_X7_must X c) (fun Y => BAD f v0 Y ∨ (gI S1 3 = c ∧ FX X Y ∧ ∃ T1 a' e', At f n v0 (gI T3 4) (z + 1) C T3 T1 S0 Y a' e')) := by
  refine Pc_B (p_is h.2.1 hc) (fun r hr => Pc_c (fun q => Pc_B (p_wrong h (fun _ => h0) (fun _ => hn (fun y => (hr.mpr y) q))) (fun Y hY => Pc_s (Or.inl hY))) (fun q => ?_))
  have k1 : gI S1 3 ≠ 1 := by
    rw [hr.mp q]
    exact (sg_n hc).2.1
  have ae := TA_e h.2.1 k1
  have hz := h.2.2.2.1
  refine Pc_B (p_move (X' := X) (z' := z + 1) h k1 (hy (hr.mp q)) hC h.2.1.1 rfl h.2.2.2.2.2 (by omega) (At_ob h)) (fun Y hY => Pc_s (Or.inr ?_))
  obtain ⟨fx, T1, a', e', at', _⟩ := hY
  exact ⟨hr.mp q, fx, T1, a', e', at'⟩
/-- a stage of the reference: nothing is done once there is a FAULT -/
theorem p_stage {β : Type} {f : Nat → Int32} {v0 : Cv} {X : SS} {x : Option SS} {G G' : SS → Prop} {k : SS → Option β} {Q : β → Prop} (h : BAD f v0 X ∨ G X) (g4 : G X → gI X 4 = 0) (hx : G X → Pc x (fun Y => BAD f v0 Y ∨ G' Y)) (hk : ∀ Y, (BAD f v0 Y ∨ G' Y) → Pc (k Y) Q) : Pc (zB (f_X7_isGood X) (fun r => zB (if r = 0 then some X else x) k)) Q := by
  rcases h with h | h
  · exact Pc_e (e_isGood0 h.1) (Pc_e (E_y rfl rfl) (hk X (Or.inl h)))
  · refine Pc_e (e_isGood1 (g4 h)) (Pc_B (P := fun Y => BAD f v0 Y ∨ G' Y) ?_ hk)
    show Pc (if (1 : Int32) = 0 then some X else x) _
    rw [if_neg ne10]
    exact hx h
