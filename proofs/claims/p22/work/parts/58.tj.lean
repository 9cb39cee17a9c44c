/-! lines: what both do with them -/
theorem At_st {f : Nat → Int32} {n : Nat} {v0 : Cv} {st st' : Int32} {z z' : Int} {C : Ct} {S3 S1 S0 X : SS} {a e : Nat} (h : At f n v0 st z C S3 S1 S0 X a e) (hs : st = st') (hz : z' ≤ z) : At f n v0 st' z' C S3 S1 S0 X a e := by
  obtain ⟨h1, h2, h3, h4, h5, h6⟩ := h
  exact ⟨h1, h2, h3, by omega, h5.trans hs, h6⟩
theorem TX_A {f : Nat → Int32} {n : Nat} {X : SS} (h : TX f n X) {k : Nat} (hk : 1 ≠ k) (g : Nat → Int32) : TX f n (sA X k g) := by
  obtain ⟨t1, t2, t3, t4⟩ := h
  refine ⟨t1, t2, t3, fun j hj => ?_⟩
  rw [gA_ne hk]
  exact t4 j hj
theorem At_14 {f : Nat → Int32} {n : Nat} {v0 : Cv} {st : Int32} {z : Int} {C : Ct} {S3 S1 S0 X : SS} {a e : Nat} (h : At f n v0 st z C S3 S1 S0 X a e) {m : Nat} (hm : 60 * v0.2.2 ≤ m ∧ m < 60 * v0.2.2 + 60) (v : Int32) : At f n v0 st z C S3 S1 S0 (sA X 14 (upd (gA X 14) m v)) a e := by
  obtain ⟨⟨i, h1, h1b, h1c, ob⟩, ⟨tx, t⟩, h3, h4, h5, h6⟩ := h
  exact ⟨⟨i, h1, h1b, h1c, OB_A (by decide) hm ob⟩, ⟨TX_A tx (by decide) _, t⟩, h3, h4, h5, h6⟩
theorem rfS_2 {S3 S1 : SS} (h : gI S1 3 = 2) : rfS S3 S1 = flS S3 2 (gI S1 4) := by
  unfold rfS
  rw [if_neg (ne_of h (by decide))]
theorem sg40 : isSg 40 := Or.inr (Or.inr (Or.inr (Or.inl rfl)))
theorem sg41 : isSg 41 := Or.inr (Or.inr (Or.inr (Or.inr (Or.inl rfl))))
theorem sg44 : isSg 44 := Or.inl rfl
theorem sg59 : isSg 59 := Or.inr (Or.inl rfl)
theorem sg60 : isSg 60 := Or.inr (Or.inr (Or.inr (Or.inr (Or.inr rfl))))
theorem sg61 : isSg 61 := Or.inr (Or.inr (Or.inl rfl))
/-- at a line's beginning -/
def LE (f : Nat → Int32) (n : Nat) (v0 : Cv) (b : Nat) (Y : SS) : Prop := ∃ (C : Ct) (S3 S1 S0 : SS) (a e : Nat), At f n v0 0 0 C S3 S1 S0 Y a e ∧ LN b C Y (cC C) ∧ TRI C
def tlX (X : SS) (k : Int32) : SS := sI (sA (sA (sA (sA (sA (sB X 11 (vp_updL (gB X 11) ((60 : Int32) * gI X 30 + gI X 26).toNatClampNeg (gL X 10))) 12 (upd (gA X 12) ((60 : Int32) * gI X 30 + gI X 26).toNatClampNeg k)) 13 (upd (gA X 13) ((60 : Int32) * gI X 30 + gI X 26).toNatClampNeg (-1))) 14 (upd (gA X 14) ((60 : Int32) * gI X 30 + gI X 26).toNatClampNeg 0)) 15 (upd (gA X 15) ((60 : Int32) * gI X 30 + gI X 26).toNatClampNeg 0)) 18 (upd (gA X 18) (gI X 26).toNatClampNeg (gI X 6))) 26 (gI X 26 + 1)
theorem tlX_f (X : SS) (k : Int32) : gB (tlX X k) 11 = vp_updL (gB X 11) ((60 : Int32) * gI X 30 + gI X 26).toNatClampNeg (gL X 10) ∧ gA (tlX X k) 12 = upd (gA X 12) ((60 : Int32) * gI X 30 + gI X 26).toNatClampNeg k ∧ gA (tlX X k) 13 = upd (gA X 13) ((60 : Int32) * gI X 30 + gI X 26).toNatClampNeg (-1) ∧ gA (tlX X k) 14 = upd (gA X 14) ((60 : Int32) * gI X 30 + gI X 26).toNatClampNeg 0 ∧ gA (tlX X k) 15 = upd (gA X 15) ((60 : Int32) * gI X 30 + gI X 26).toNatClampNeg 0 ∧ gA (tlX X k) 18 = upd (gA X 18) (gI X 26).toNatClampNeg (gI X 6) ∧ gI (tlX X k) 26 = gI X 26 + 1 := ⟨rfl, rfl, rfl, rfl, rfl, rfl, rfl⟩
theorem bp_f (S : SS) (r l m : Int32) : gI (bpS S r l m) 4 = 6 ∧ gI (bpS S r l m) 5 = gI S 5 ∧ gI (bpS S r l m) 8 = r ∧ gI (bpS S r l m) 9 = 0 ∧ gI (bpS S r l m) 10 = l ∧ gI (bpS S r l m) 11 = m := ⟨rfl, rfl, rfl, rfl, rfl, rfl⟩
/-- a NODE is told here -/
theorem p_tell {f : Nat → Int32} {n b : Nat} {v0 : Cv} {z : Int} {C : Ct} {S3 S1 S0 X : SS} {a e : Nat} (h : At f n v0 1 z C S3 S1 S0 X a e) (hl : LN b C X (cC C)) {k : Int32} (hk : k = 0 ∨ k = 1 ∨ k = 3) (s5 : gI S3 5 = k) : Pc (f_X7_tell X k) (fun w => BAD f v0 w.2 ∨ (w.1 = nI (60 * b + cC C) ∧ ∃ (nm : Int64) (pl : Int32) (T1 T0 : SS) (a' e' : Nat), LN b (addN C nm pl k 0) w.2 (cC C) ∧ ((k ≠ 3 ∧ At f n v0 2 (z + 1) (addN C nm pl k 0) (sI S3 4 2) T1 T0 w.2 a' e') ∨ (k = 3 ∧ At f n v0 6 (z + 1) (addN C nm pl k 0) (bpS S3 (nI (cC C)) 1 2) T1 T0 w.2 a' e')))) := by
  obtain ⟨_, ta, cc, hz, s4, x4⟩ := id h
  obtain ⟨⟨⟨x30, hb⟩, ⟨x26, hc⟩, no⟩, _⟩ := id hl
  obtain ⟨⟨c0, _⟩, ⟨cnm, _⟩, _⟩ := id cc
  obtain ⟨_, _, ⟨s14, x6⟩, _⟩ := id ta
  have ixe : ∀ w : Int64, ix (fun i => gB X 11 (60 * b + i)) w (cC C) = ix (cNm C) w (cC C) := fun w => ix_c (fun i hi => (no i hi).1)
  refine Pc_B (P := fun A => BAD f v0 A ∨ (A = X ∧ (gI S1 3 = 2 ∧ ¬ kept (gL S1 5)) ∧ cC C < 60)) ?_ (fun A hA => ?_)
  · refine Pc_i (TA_name ta) (fun q => Pc_c (fun c => ?_) (fun c => Pc_s (Or.inr ⟨rfl, q, ?_⟩))) (fun q => Pc_B (p_wrong h (fun _ => by decide) (fun _ => s1_of s4 (t1_0 q) zb0)) (fun Y hY => Pc_s (Or.inl hY)))
    · have c60 : cC C = 60 := by
        rw [x26, show (60 : Int32) = nI 60 from rfl, nI_eq (by omega) (by omega)] at c
        exact c
      refine Pc_B (p_wrong h (fun _ => by decide) (fun _ => ?_)) (fun Y hY => Pc_s (Or.inl hY))
      rw [rfS_2 q.1]
      exact s1_of s4 (t1_bad q.1 q.2 (tl_full (by rw [c0, c60]) _ _ _)) zb0
    · rw [x26, show (60 : Int32) = nI 60 from rfl, nI_eq (by omega) (by omega)] at c
      omega
  · refine p_stage (G := fun A => A = X ∧ (gI S1 3 = 2 ∧ ¬ kept (gL S1 5)) ∧ cC C < 60) (G' := fun A => A = X ∧ (gI S1 3 = 2 ∧ ¬ kept (gL S1 5)) ∧ cC C < 60 ∧ ix (cNm C) (gL S1 5) (cC C) = -1) hA (fun q => by rw [q.1]; exact x4) (fun q => ?_) (fun Y hY => ?_)
    · obtain ⟨eA, nm, c60⟩ := q
      rw [eA]
      refine Pc_e (e_newOf x26 hc x30 hb _) ?_
      have eL : gL X 10 = gL S1 5 := (TA_L ta nm.1).1
      have k1 : gI S1 3 ≠ 1 := ne_of nm.1 (by decide)
      show Pc (if ix (fun i => gB X 11 (60 * b + i)) (gL X 10) (cC C) < 0 then _ else _) _
      rw [ixe, eL]
      rcases ix_r (cNm C) (gL S1 5) (cC C) with ⟨q, _⟩ | ⟨i, hi, q, _⟩
      · exact Pc_c (fun _ => Pc_s (Or.inr ⟨rfl, nm, c60, q⟩)) (fun y => absurd (by rw [q]; decide) y)
      · refine Pc_c (fun y => absurd y (by rw [q]; exact nI_pos (by omega))) (fun _ => Pc_e (e_fails x4 3 _) (Pc_s (Or.inl ?_)))
        rw [x6, ← s14]
        refine p_fails h k1 (by decide) (s1_of s4 (t1_bad nm.1 nm.2 (tl_dup c0 c60 ?_ _ _)) zb0)
        rw [cnm, q]
        exact fun y => by
          have := nI_pos (n := i) (by omega)
          rw [y] at this
          exact this (by decide)
    · rcases hY with hY | ⟨eY, nm, c60, q⟩
      · exact Pc_e (e_isGood0 hY.1) (Pc_c (fun _ => Pc_s (Or.inl hY)) (fun y => absurd rfl y))
      · rw [eY]
        refine Pc_e (e_isGood1 x4) (Pc_c (fun y => absurd y ne10) (fun _ => Pc_l (Pc_G (fun _ => Pc_l (Pc_l (Pc_l (Pc_l (Pc_l (Pc_G (fun _ => Pc_l (Pc_l ?_)))))))))))
        have k1 : gI S1 3 ≠ 1 := ne_of nm.1 (by decide)
        have ae := TA_e ta k1
        have eL : gL X 10 = gL S1 5 := (TA_L ta nm.1).1
        have m : (60 : Int32) * gI X 30 + gI X 26 = nI (60 * b + cC C) := by rw [x30, x26, i60 hb]
        have mc : ((60 : Int32) * gI X 30 + gI X 26).toNatClampNeg = 60 * b + cC C := by rw [m, nI_clamp (by omega)]
        have c26 : (gI X 26).toNatClampNeg = cC C := by rw [x26, nI_clamp (by omega)]
        obtain ⟨y11, y12, y13, y14, y15, y18, y26⟩ := tlX_f X k
        rw [mc] at y11 y12 y13 y14 y15
        rw [c26] at y18
        have k2 : k ≠ 2 := by rcases hk with r | r | r <;> rw [r] <;> decide
        have ln : LN b (addN C (gL X 10) (gI X 6) k 0) (tlX X k) (cC C) := LN_node hl c60 (by rcases hk with r | r | r <;> rw [r] <;> decide) (by rw [y26, x26, nI_1]) rfl rfl rfl y11 y12 (fun j hj => by rw [y13, pk_un hj]) y14 y15 y18 rfl rfl rfl rfl rfl rfl
        obtain ⟨T0, ha, cc'⟩ := CC_add cc c60 (gL S1 5) (gI S1 4) k
        rw [if_neg k2, ← eL, s14, ← x6] at cc'
        have tl : f_X3_tell S3 S0 (gL S1 5) (gI S1 4) (gI S3 5) = some (1, S3, T0) := tl_ok c0 c60 (by rw [cnm]; exact q) (by rw [s5]; exact ha)
        have tx : TX f n (tlX X k) := ta.1
        have ob := At_ob h
        have eb := OB_b ob x30 hb
        have obt : OB v0.2.1 v0.2.2 (tlX X k) := by
          rw [eb] at ob ⊢
          exact OB_I (by decide) (OB_F (by decide) (OB_A (by decide) (by rw [mc]; omega) (OB_A (by decide) (by rw [mc]; omega) (OB_A (by decide) (by rw [mc]; omega) (OB_A (by decide) (by rw [mc]; omega) (OB_B (by rw [mc]; omega) ob))))))
        rw [← m]
        by_cases k3 : k = 3
        · have e0 : gI T0 0 - 1 = nI (cC C) := by rw [cc'.1.1, show cC (addN C (gL X 10) (gI X 6) k 0) = cC C + 1 from rfl, nI_pred]
          have st : f_X3_step S3 S1 S0 = some (1, bpS S3 (nI (cC C)) 1 2, T0) := by
            have := t1_reg nm.1 nm.2 tl (s5.trans k3)
            rw [e0] at this
            exact s1_of s4 this zb1
          refine Pc_B (p_move (X' := tlX X k) (z' := z + 1) h k1 st (CC_bp cc' _ _ _) tx rfl x4 ?_ obt) (fun Y hY => Pc_s (Or.inr ⟨rfl, ?_⟩))
          · show 3 * (cU C : Int) + (z + 1) ≤ e
            omega
          · obtain ⟨fx, T1, a', e', at', _⟩ := hY
            exact ⟨_, _, T1, T0, a', e', LN_SD ln (SD_FX fx), Or.inr ⟨k3, at'⟩⟩
        · have st : f_X3_step S3 S1 S0 = some (1, sI S3 4 2, T0) := s1_of s4 (t1_ok nm.1 nm.2 tl (by rw [s5]; exact k3)) zb1
          refine Pc_B (p_move (X' := tlX X k) (z' := z + 1) h k1 st (CC_I cc' (by decide) _) tx rfl x4 ?_ obt) (fun Y hY => Pc_s (Or.inr ⟨rfl, ?_⟩))
          · show 3 * (cU C : Int) + (z + 1) ≤ e
            omega
          · obtain ⟨fx, T1, a', e', at', _⟩ := hY
            exact ⟨_, _, T1, T0, a', e', LN_SD ln (SD_FX fx), Or.inl ⟨k3, At_st at' gI_eq (Int.le_refl _)⟩⟩
/-- a NAME in the ( ) -/
def akX (X : SS) (row : Int32) : SS := sI (sA (sA (sB X 20 (vp_updL (gB X 20) (gI X 27).toNatClampNeg (gL X 10))) 21 (upd (gA X 21) (gI X 27).toNatClampNeg (gI X 6))) 22 (upd (gA X 22) (gI X 27).toNatClampNeg row)) 27 (gI X 27 + 1)
theorem p_ask {f : Nat → Int32} {n : Nat} {v0 : Cv} {z : Int} {C : Ct} {S3 S1 S0 X : SS} {a e : Nat} (h : At f n v0 7 z C S3 S1 S0 X a e) (hz0 : -1 ≤ z) (hm : (gI S1 3 = 2 ∧ ¬ kept (gL S1 5)) → gI S3 9 < gI S3 11) (row : Int32) : Pc (f_X7_ask X row) (fun Y => BAD f v0 Y ∨ ((gI S1 3 = 2 ∧ ¬ kept (gL S1 5)) ∧ gL X 10 = gL S1 5 ∧ FX (akX X row) Y ∧ ∃ (T1 : SS) (a' e' : Nat), At f n v0 8 (z - 2) (addU C (gL S1 5) (gI S1 4) (gI S3 8)) (tpS S3 (gL S1 5) (gI S1 4)) T1 S0 Y a' e')) := by
  obtain ⟨_, ta, cc, hz, s4, x4⟩ := id h
  refine Pc_B (P := fun A => BAD f v0 A ∨ (A = X ∧ (gI S1 3 = 2 ∧ ¬ kept (gL S1 5)))) (Pc_i (TA_name ta) (fun q => Pc_s (Or.inr ⟨rfl, q⟩)) (fun q => Pc_B (p_wrong h (fun _ => by decide) (fun _ => s7_of s4 (t7_0 q) zb0)) (fun Y hY => Pc_s (Or.inl hY)))) (fun A hA => ?_)
  rcases hA with hA | ⟨eA, nm⟩
  · exact Pc_e (e_isGood0 hA.1) (Pc_c (fun _ => Pc_s (Or.inl hA)) (fun y => absurd rfl y))
  · rw [eA]
    refine Pc_e (e_isGood1 x4) (Pc_c (fun y => absurd y ne10) (fun _ => Pc_G (fun _ => Pc_l (Pc_G (fun _ => Pc_l (Pc_G (fun _ => Pc_l (Pc_l ?_))))))))
    have k1 : gI S1 3 ≠ 1 := ne_of nm.1 (by decide)
    have ae := TA_e ta k1
    have hn := ta.1.1
    have u6 : cU C < 667 := by omega
    have st : f_X3_step S3 S1 S0 = some (1, tpS S3 (gL S1 5) (gI S1 4), S0) := s7_of s4 (t7_1 nm.1 nm.2 (hm nm) cc.2.2.1.1 u6) zb1
    have tx : TX f n (akX X row) := ta.1
    refine Pc_B (p_move (X' := akX X row) (z' := z - 2) h k1 st (CC_I (CC_I (CC_au cc u6 _ _ _) (by decide) _) (by decide) _) tx rfl x4 ?_ (OB_I (by decide) (OB_F (by decide) (OB_F (by decide) (OB_G (by decide) (At_ob h)))))) (fun Y hY => Pc_s (Or.inr ?_))
    · show 3 * ((cU C + 1 : Nat) : Int) + (z - 2) ≤ e
      omega
    · obtain ⟨fx, T1, a', e', at', _⟩ := hY
      exact ⟨nm, (TA_L ta nm.1).1, fx, T1, a', e', At_st at' gI_eq (Int.le_refl _)⟩
/-! INPUTS and BUSES -/
theorem p_tellAll {f : Nat → Int32} {n b : Nat} {v0 : Cv} {C : Ct} {S3 S1 S0 T3 X : SS} {a e : Nat} {k : Int32} (hk : k = 0 ∨ k = 1) (h : At f n v0 0 0 C S3 S1 S0 X a e) (hl : LN b C X (cC C)) (tri : TRI C) (k1 : gI S1 3 ≠ 1) (hs : f_X3_step S3 S1 S0 = some (1, T3, S0)) (hC : CC C T3 S0) (h4 : gI T3 4 = 1) (h5 : gI T3 5 = k) : Pc (f_X7_tellAll X k) (fun Y => BAD f v0 Y ∨ LE f n v0 b Y) := by
  have k3 : k ≠ 3 := by rcases hk with r | r <;> rw [r] <;> decide
  have k2 : k ≠ 2 := by rcases hk with r | r <;> rw [r] <;> decide
  refine Pc_B (P := fun Y => BAD f v0 Y ∨ ∃ (C : Ct) (S3 S1 S0 : SS) (a e : Nat), At f n v0 2 0 C S3 S1 S0 Y a e ∧ LN b C Y (cC C) ∧ TRI C ∧ gI S1 3 ≠ 44) ?_ (fun Y hY => ?_)
  · refine Pc_I (fun v : Int32 × SS => BAD f v0 v.2 ∨ ∃ (C : Ct) (S3 S1 S0 : SS) (a e : Nat) (st : Int32), At f n v0 st 0 C S3 S1 S0 v.2 a e ∧ LN b C v.2 (cC C) ∧ TRI C ∧ ((v.1 = 1 ∧ gI S1 3 ≠ 1 ∧ ∃ T3, f_X3_step S3 S1 S0 = some (1, T3, S0) ∧ CC C T3 S0 ∧ gI T3 4 = 1 ∧ gI T3 5 = k) ∨ (v.1 = 0 ∧ st = 2 ∧ gI S1 3 ≠ 44))) (fun v hv => ?_) _ (Or.inr ⟨C, S3, S1, S0, a, e, 0, h, hl, tri, Or.inl ⟨rfl, k1, T3, hs, hC, h4, h5⟩⟩)
    obtain ⟨m, Y⟩ := v
    have hv : BAD f v0 Y ∨ ∃ (C : Ct) (S3 S1 S0 : SS) (a e : Nat) (st : Int32), At f n v0 st 0 C S3 S1 S0 Y a e ∧ LN b C Y (cC C) ∧ TRI C ∧ ((m = 1 ∧ gI S1 3 ≠ 1 ∧ ∃ T3, f_X3_step S3 S1 S0 = some (1, T3, S0) ∧ CC C T3 S0 ∧ gI T3 4 = 1 ∧ gI T3 5 = k) ∨ (m = 0 ∧ st = 2 ∧ gI S1 3 ≠ 44)) := hv
    rcases hv with hv | ⟨C, S3, S1, S0, a, e, st, h, hl, tri, hm⟩
    · exact Pc_c (fun _ => Pc_s (Or.inl hv)) (fun _ => Pc_e (e_isGood0 hv.1) (Pc_c (fun _ => Pc_s (Or.inl hv)) (fun y => absurd rfl y)))
    rcases hm with ⟨m1, k1, T3, hs, hC, h4, h5⟩ | ⟨m0, st2, k44⟩
    · refine Pc_c (fun c => absurd c (ne_of m1 (by decide))) (fun _ => Pc_e (e_isGood1 h.2.2.2.2.2) (Pc_c (fun y => absurd y ne10) (fun _ => ?_)))
      have ae := TA_e h.2.1 k1
      have hz := h.2.2.2.1
      refine Pc_B (p_move (X' := Y) (z' := 0) h k1 hs hC h.2.1.1 rfl h.2.2.2.2.2 (by omega) (At_ob h)) (fun A hA => ?_)
      obtain ⟨fx, T1, a', e', at', _⟩ := hA
      refine Pc_B (p_tell (At_st at' h4 (Int.le_refl _)) (LN_SD hl (SD_FX fx)) (by rcases hk with r | r; exact Or.inl r; exact Or.inr (Or.inl r)) h5) (fun w hw => ?_)
      obtain ⟨r, Z⟩ := w
      have hw : BAD f v0 Z ∨ (r = nI (60 * b + cC C) ∧ ∃ (nm : Int64) (pl : Int32) (U1 T0 : SS) (a' e' : Nat), LN b (addN C nm pl k 0) Z (cC C) ∧ ((k ≠ 3 ∧ At f n v0 2 (0 + 1) (addN C nm pl k 0) (sI T3 4 2) U1 T0 Z a' e') ∨ (k = 3 ∧ At f n v0 6 (0 + 1) (addN C nm pl k 0) (bpS T3 (nI (cC C)) 1 2) U1 T0 Z a' e'))) := hw
      rcases hw with hw | ⟨_, nm, pl, U1, T0, a2, e2, ln, ⟨_, at2⟩ | ⟨q, _⟩⟩
      · exact Pc_e (e_isGood0 hw.1) (Pc_c (fun _ => Pc_s (Or.inl hw)) (fun y => absurd rfl y))
      · refine Pc_e (e_isGood1 at2.2.2.2.2.2) (Pc_c (fun y => absurd y ne10) (fun _ => Pc_B (p_is at2.2.1 sg44) (fun r hr => ?_)))
        have ck : cKd (addN C nm pl k 0) (cC C) = k := by
          show upd (cKd C) (cC C) k (cC C) = k
          rw [pk_us]
        have ln2 : LN b (addN C nm pl k 0) Z (cC (addN C nm pl k 0)) := LN_up ln (fun y => absurd (ck.symm.trans y) k2) (fun y => absurd (ck.symm.trans y) k3)
        refine Pc_c (fun c => Pc_s (Or.inr ⟨_, _, _, _, _, _, 2, At_st at2 rfl (by omega), ln2, tri, Or.inr ⟨rfl, rfl, fun y => (hr.mpr y) c⟩⟩)) (fun c => Pc_s (Or.inr ⟨_, _, _, _, _, _, 2, At_st at2 rfl (by omega), ln2, tri, Or.inl ⟨rfl, ?_, _, s2_c at2.2.2.2.2.1 (hr.mp c), CC_I at2.2.2.1 (by decide) _, gI_eq, ?_⟩⟩))
        · rw [hr.mp c]; decide
        · rw [gI_ne (by decide), gI_ne (by decide)]; exact h5
      · exact absurd q k3
    · exact Pc_c (fun _ => Pc_s (Or.inr ⟨C, S3, S1, S0, a, e, st2 ▸ h, hl, tri, k44⟩)) (fun c => absurd m0 c)
  · rcases hY with hY | ⟨C, S3, S1, S0, a, e, h, hl, tri, k44⟩
    · exact Pc_e (e_isGood0 hY.1) (Pc_c (fun _ => Pc_s (Or.inl hY)) (fun y => absurd rfl y))
    · refine Pc_e (e_isGood1 h.2.2.2.2.2) (Pc_c (fun y => absurd y ne10) (fun _ => Pc_B (p_must (T3 := sI S3 4 0) h sg59 (by decide) (fun y => s2_1 h.2.2.2.2.1 y) (fun y => s2_0 h.2.2.2.2.1 k44 y) (CC_I h.2.2.1 (by decide) _)) (fun Z hZ => Pc_s ?_)))
      rcases hZ with hZ | ⟨_, fx, T1, a', e', at'⟩
      · exact Or.inl hZ
      · exact Or.inr ⟨C, _, T1, S0, a', e', At_st at' gI_eq (by omega), LN_SD hl (SD_FX fx), tri⟩
