/-! the reference's circuit: what keeps it from any throw -/
theorem SS_ext {S T : SS} (h1 : S.1 = T.1) (h2 : S.2.1 = T.2.1) (h3 : S.2.2.1 = T.2.2.1) (h4 : S.2.2.2 = T.2.2.2) : S = T := by
  obtain ⟨a, b, c, d⟩ := S
  obtain ⟨a', b', c', d'⟩ := T
  dsimp only at h1 h2 h3 h4
  subst h1 h2 h3 h4
  rfl
theorem cond_eq {α : Type} {j k : Nat} {a b : α} : cond (Nat.beq j k) a b = if j = k then a else b := by
  by_cases h : j = k
  · subst h
    rw [if_pos rfl, Nat.beq_refl]
    rfl
  · rw [if_neg h]
    cases hb : Nat.beq j k with
    | true => exact absurd (Nat.eq_of_beq_eq_true hb) h
    | false => rfl
theorem sA_sA {S : SS} {k : Nat} {f g : Nat → Int32} : sA (sA S k f) k g = sA S k g := by
  refine SS_ext rfl rfl ?_ rfl
  funext j
  show cond (Nat.beq j k) g (cond (Nat.beq j k) f (S.2.2.1 j)) = cond (Nat.beq j k) g (S.2.2.1 j)
  cases Nat.beq j k <;> rfl
theorem sI_sI {S : SS} {k : Nat} {f g : Int32} : sI (sI S k f) k g = sI S k g := by
  refine SS_ext ?_ rfl rfl rfl
  funext j
  show cond (Nat.beq j k) g (cond (Nat.beq j k) f (S.1 j)) = cond (Nat.beq j k) g (S.1 j)
  cases Nat.beq j k <;> rfl
theorem sA_self {S : SS} {k : Nat} : sA S k (gA S k) = S := by
  refine SS_ext rfl rfl ?_ rfl
  funext j
  show cond (Nat.beq j k) (S.2.2.1 k) (S.2.2.1 j) = S.2.2.1 j
  rw [cond_eq]
  by_cases h : j = k
  · rw [if_pos h, h]
  · rw [if_neg h]
theorem gA_ne {S : SS} {k j : Nat} {f : Nat → Int32} (h : j ≠ k) : gA (sA S k f) j = gA S j := by rw [gA_sA, if_neg h]
theorem gI_ne {S : SS} {k j : Nat} {v : Int32} (h : j ≠ k) : gI (sI S k v) j = gI S j := by rw [gI_sI, if_neg h]
theorem gA_eq {S : SS} {k : Nat} {f : Nat → Int32} : gA (sA S k f) k = f := by rw [gA_sA, if_pos rfl]
theorem gI_eq {S : SS} {k : Nat} {v : Int32} : gI (sI S k v) k = v := by rw [gI_sI, if_pos rfl]
/-- T is S but for its row q -/
def Atq (q : Nat) (S T : SS) : Prop := ∃ f, T = sA S q f
theorem Atq_r (q : Nat) (S : SS) : Atq q S S := ⟨gA S q, sA_self.symm⟩
theorem Atq_s {q : Nat} {S T : SS} {f : Nat → Int32} (h : Atq q S T) : Atq q S (sA T q f) := by
  obtain ⟨g, rfl⟩ := h
  exact ⟨f, sA_sA⟩
theorem Atq_t {q : Nat} {S T U : SS} (h : Atq q S T) (h2 : Atq q T U) : Atq q S U := by
  obtain ⟨g, rfl⟩ := h
  obtain ⟨f, rfl⟩ := h2
  exact ⟨f, sA_sA⟩
theorem Atq_I {q : Nat} {S T : SS} (h : Atq q S T) (k : Nat) : gI T k = gI S k := by
  obtain ⟨g, rfl⟩ := h
  rfl
theorem Atq_A {q : Nat} {S T : SS} (h : Atq q S T) {k : Nat} (hk : k ≠ q) : gA T k = gA S k := by
  obtain ⟨g, rfl⟩ := h
  exact gA_ne hk
def N7 (S : SS) : Prop := IV 0 1 (gI S 30) ∧ IV 0 60 (gI S 29) ∧ AR 0 59 (gA S 16) ∧ AR 0 7 (gA S 14) ∧ (∀ j, gA S 12 j = 1 → IV 0 6 (gA S 14 j)) ∧ AR 0 9 (gA S 15)
theorem N7_sA {S : SS} {q : Nat} {f : Nat → Int32} (hq : q ≠ 12 ∧ q ≠ 14 ∧ q ≠ 15 ∧ q ≠ 16) (h : N7 S) : N7 (sA S q f) := by
  obtain ⟨h1, h2, h3, h4, h5, h6⟩ := h
  refine ⟨h1, h2, ?_, ?_, ?_, ?_⟩
  · rw [gA_ne (Ne.symm hq.2.2.2)]; exact h3
  · rw [gA_ne (Ne.symm hq.2.1)]; exact h4
  · rw [gA_ne (Ne.symm hq.1), gA_ne (Ne.symm hq.2.1)]; exact h5
  · rw [gA_ne (Ne.symm hq.2.2.1)]; exact h6
theorem N7_sI {S : SS} {k : Nat} {v : Int32} (hk : k ≠ 29 ∧ k ≠ 30) (h : N7 S) : N7 (sI S k v) := by
  obtain ⟨h1, h2, h3⟩ := h
  refine ⟨?_, ?_, h3⟩
  · rw [gI_ne (Ne.symm hk.2)]; exact h1
  · rw [gI_ne (Ne.symm hk.1)]; exact h2
theorem N7_At {q : Nat} {S T : SS} (hq : q ≠ 12 ∧ q ≠ 14 ∧ q ≠ 15 ∧ q ≠ 16) (h : N7 S) (ht : Atq q S T) : N7 T := by
  obtain ⟨f, rfl⟩ := ht
  exact N7_sA hq h
theorem k_ix {b p : Int32} (hb : IV 0 1 b) (hp : IV 0 59 p) : IV 0 119 ((60 : Int32) * b + p) := IV_add rfl (IV_mul (u := 0) (v := 60) rfl (IV_lit (a := 60) (b := 60)) hb (by decide) (by decide) (by decide) (by decide) (by decide)) hp (by decide) (by decide) (by decide) (by decide)
theorem k_in120 {x : Int32} (h : IV 0 119 x) : vp_in x 120 := IV_in h (by decide) (by decide)
theorem k_X7_isNode {S7 : SS} (h : N7 S7) (p1 : Int32) : Ok (f_X7_isNode S7 p1) (fun r => zb r ∧ (r ≠ 0 → IV 0 59 p1)) := by
  refine Ok_c (fun c => Ok_s ⟨Or.inl rfl, fun q => absurd rfl q⟩) (fun c => Ok_c (fun c2 => Ok_s ⟨Or.inl rfl, fun q => absurd rfl q⟩) (fun c2 => Ok_s ⟨Or.inr rfl, fun _ => ?_⟩))
  have h1 : IV 0 2147483647 p1 := IV_nlt_l c (IV_top p1) (IV_lit (a := 0) (b := 0)) (by decide) (by decide)
  exact IV_nle_r c2 h.2.1 h1 (by decide) (by decide)
theorem k_X7_kind {S7 : SS} (h : N7 S7) {p1 : Int32} (hp : IV 0 59 p1) : Ok (f_X7_kind S7 p1) (fun r => r = gA S7 12 ((60 : Int32) * gI S7 30 + p1).toNatClampNeg) := Ok_G (k_in120 (k_ix h.1 hp)) (Ok_s rfl)
theorem k_X7_in {S7 : SS} (h : N7 S7) {p1 p2 : Int32} (hp : IV 0 59 p1) (hp2 : IV 0 11 p2) : Ok (f_X7_in S7 p1 p2) (fun r => IV 0 59 r) := by
  have e : IV 0 1439 ((12 : Int32) * ((60 : Int32) * gI S7 30 + p1) + p2) := IV_add rfl (IV_mul (u := 0) (v := 1428) rfl (IV_lit (a := 12) (b := 12)) (k_ix h.1 hp) (by decide) (by decide) (by decide) (by decide) (by decide)) hp2 (by decide) (by decide) (by decide) (by decide)
  exact Ok_G (IV_in e (by decide) (by decide)) (Ok_s (h.2.2.1 _))
theorem k_X7_taken (p1 : Int32) : Ok (f_X7_taken p1) (fun _ => True) := Ok_c (fun _ => Ok_s trivial) (fun _ => Ok_s trivial)
theorem k_X7_gate {S7 : SS} (h : N7 S7) {p1 : Int32} (hp : IV 0 59 p1) (q : Nat) : Ok (f_X7_gate S7 p1 q) (fun _ => True) := by
  have hix := k_ix h.1 hp
  refine Ok_l (Ok_G (k_in120 hix) (Ok_l (Ok_c (fun _ => ?_) (fun _ => ?_))))
  · refine Ok_B (k_X7_in h hp IV_lit) (fun a ha => Ok_G (k_in60 ha) (Ok_B (k_X7_taken _) (fun _ _ => ?_)))
    refine Ok_B (k_X7_in h hp IV_lit) (fun a ha => Ok_G (k_in60 ha) (Ok_B (k_X7_taken _) (fun _ _ => ?_)))
    refine Ok_B (k_X7_in h hp IV_lit) (fun a ha => Ok_G (k_in60 ha) (Ok_B (k_X7_taken _) (fun _ _ => ?_)))
    repeat' (first | exact Ok_s trivial | refine Ok_c (fun _ => ?_) (fun _ => ?_))
  · refine Ok_B (P := fun _ => True) ?_ (fun w _ => ?_)
    · refine Ok_F (fun v : Int32 × Int32 × Int32 => IV 0 7 v.2.2) (fun v => (7 - v.2.2.toInt).toNat) (fun v hv => ?_) IV_00 (mz 7)
      obtain ⟨a, b, v⟩ := v
      refine Ok_c (fun _ => Ok_s trivial) (fun c => ?_)
      have ⟨g1, g2, g3⟩ := k_lp (by decide) hv (h.2.2.2.1 _) c
      refine Ok_B (k_X7_in h hp (IV_wk g1 (by decide) (by decide))) (fun r hr => Ok_G (k_in60 hr) (Ok_B (k_X7_taken _) (fun _ _ => ?_)))
      refine Ok_B (P := fun _ => True) (Ok_c (fun _ => Ok_s trivial) (fun _ => Ok_s trivial)) (fun b _ => Ok_l ?_)
      exact Ok_c (fun _ => Ok_l (Ok_l (Ok_s (OkI_l g2 g3)))) (fun _ => Ok_l (Ok_l (Ok_s (OkI_l g2 g3))))
    · obtain ⟨a, b⟩ := w
      refine Ok_B (P := fun _ => True) (Ok_c (fun _ => Ok_s trivial) (fun _ => Ok_s trivial)) (fun c _ => ?_)
      refine Ok_B (P := fun _ => True) ?_ (fun w _ => ?_)
      all_goals repeat' (first | exact Ok_s trivial | refine Ok_c (fun _ => ?_) (fun _ => ?_))
theorem k_X7_bus {S7 : SS} (h : N7 S7) {p1 : Int32} (hp : IV 0 59 p1) (hb : gA S7 12 ((60 : Int32) * gI S7 30 + p1).toNatClampNeg = 1) (q : Nat) : Ok (f_X7_bus S7 p1 q) (fun _ => True) := by
  have hix := k_ix h.1 hp
  refine Ok_l ?_
  refine Ok_F (fun v : Int32 × Int32 => IV 0 6 v.2) (fun v => (6 - v.2.toInt).toNat) (fun v hv => ?_) IV_00 (mz 6)
  obtain ⟨a, v⟩ := v
  refine Ok_G (k_in120 hix) (Ok_c (fun _ => Ok_s trivial) (fun c => ?_))
  have ⟨g1, g2, g3⟩ := k_lp (by decide) hv (h.2.2.2.2.1 _ hb) c
  have e0 : IV 0 10 ((2 : Int32) * v) := IV_mul rfl (IV_lit (a := 2) (b := 2)) g1 (by decide) (by decide) (by decide) (by decide) (by decide)
  have e1 : IV 0 11 (((2 : Int32) * v) + (1 : Int32)) := IV_add rfl e0 (IV_lit (a := 1) (b := 1)) (by decide) (by decide) (by decide) (by decide)
  have e2 : IV 0 719 ((6 : Int32) * ((60 : Int32) * gI S7 30 + p1) + v) := IV_add rfl (IV_mul (u := 0) (v := 714) rfl (IV_lit (a := 6) (b := 6)) hix (by decide) (by decide) (by decide) (by decide) (by decide)) g1 (by decide) (by decide) (by decide) (by decide)
  refine Ok_B (k_X7_in h hp e1) (fun r hr => Ok_G (k_in60 hr) (Ok_B (k_X7_taken _) (fun _ _ => Ok_B (P := fun _ => True) ?_ (fun w _ => ?_))))
  · refine Ok_c (fun _ => Ok_s trivial) (fun _ => Ok_B (P := fun _ => True) (Ok_c (fun _ => Ok_s trivial) (fun _ => Ok_s trivial)) (fun b _ => Ok_G (IV_in e2 (by decide) (by decide)) (Ok_c (fun _ => ?_) (fun _ => Ok_s trivial))))
    exact Ok_B (k_X7_in h hp (IV_wk e0 (by decide) (by decide))) (fun r hr => Ok_G (k_in60 hr) (Ok_B (k_X7_taken _) (fun _ _ => Ok_s trivial)))
  · repeat' (first | exact Ok_l (Ok_s (OkI_l g2 g3)) | refine Ok_c (fun _ => ?_) (fun _ => ?_))
theorem k_X7_follow_12 {S7 : SS} (h : N7 S7) {q : Nat} (hq : q ≠ 12 ∧ q ≠ 14 ∧ q ≠ 15 ∧ q ≠ 16) (l : Int32) (v : Int32 × SS) (hv : IV 0 60 v.1 ∧ Atq q S7 v.2) : Ok (b_X7_follow_12 q l v) (OkI (fun v : Int32 × SS => IV 0 60 v.1 ∧ Atq q S7 v.2) (fun v => (60 - v.1.toInt).toNat) (fun S => Atq q S7 S) v) := by
  obtain ⟨v, S⟩ := v
  obtain ⟨hv, hS⟩ : IV 0 60 v ∧ Atq q S7 S := hv
  have hN := N7_At hq h hS
  refine Ok_c (fun _ => Ok_s hS) (fun c => ?_)
  have ⟨g1, g2, g3⟩ := k_lp (by decide) hv hN.2.1 c
  refine Ok_G (k_in120 (k_ix hN.1 g1)) (Ok_c (fun _ => ?_) (fun _ => Ok_l (Ok_s (OkI_l ⟨g2, hS⟩ g3))))
  have fin : ∀ w : Int32, Ok (zG (vp_in v 60) (zL (sA S q (upd (gA S q) v.toNatClampNeg w)) (fun s7_48 => zL (v + 1) (fun v49 => some (Sum.inl (v49, s7_48) : (Int32 × SS) ⊕ SS))))) (OkI (fun v : Int32 × SS => IV 0 60 v.1 ∧ Atq q S7 v.2) (fun v => (60 - v.1.toInt).toNat) (fun S => Atq q S7 S) (v, S)) :=
    fun w => Ok_G (k_in60 g1) (Ok_l (Ok_l (Ok_s (OkI_l ⟨g2, Atq_s hS⟩ g3))))
  refine Ok_B (k_X7_kind hN g1) (fun r hr => Ok_c (fun c1 => ?_) (fun _ => Ok_B (k_X7_kind hN g1) (fun r2 hr2 => Ok_c (fun c2 => ?_) (fun _ => Ok_l (Ok_s (OkI_l ⟨g2, hS⟩ g3))))))
  · refine Ok_B (k_X7_kind hN g1) (fun r3 hr3 => Ok_B (P := fun _ => True) (Ok_c (fun _ => Ok_B (k_X7_gate hN g1 q) (fun _ _ => Ok_s trivial)) (fun c3 => absurd (hr3.trans (hr.symm.trans c1)) c3)) (fun w _ => fin w))
  · refine Ok_B (k_X7_kind hN g1) (fun r3 hr3 => Ok_B (P := fun _ => True) (Ok_c (fun _ => Ok_B (k_X7_gate hN g1 q) (fun _ _ => Ok_s trivial)) (fun c3 => Ok_B (k_X7_bus hN g1 (hr2.symm.trans c2) q) (fun _ _ => Ok_s trivial))) (fun w _ => fin w))
theorem k_X7_follow {S7 : SS} (h : N7 S7) {q : Nat} (hq : q ≠ 12 ∧ q ≠ 14 ∧ q ≠ 15 ∧ q ≠ 16) : Ok (f_X7_follow S7 q) (fun S => Atq q S7 S) := by
  have t1 : (1 : Int32).toInt = 1 := by decide
  refine Ok_F (fun v : Int32 × SS => IV 0 61 v.1 ∧ Atq q S7 v.2) (fun v => (61 - v.1.toInt).toNat) (fun v hv => ?_) ⟨IV_00, Atq_r q S7⟩ (mz 61)
  obtain ⟨v, S⟩ := v
  obtain ⟨hv, hS⟩ : IV 0 61 v ∧ Atq q S7 S := hv
  have hN := N7_At hq h hS
  refine Ok_c (fun _ => Ok_s hS) (fun c => ?_)
  have g1 : IV 0 60 v := IV_nlt_r c hN.2.1 hv (by decide) (by decide)
  have g2 : IV 0 61 (v + 1) := IV_add rfl g1 (IV_lit (a := 1) (b := 1)) (by decide) (by decide) (by decide) (by decide)
  have g3 : (61 - (v + 1).toInt).toNat < (61 - v.toInt).toNat := by
    have e : (v + 1).toInt = v.toInt + 1 := IV_step rfl g1 t1 (by decide) (by decide)
    have := g1.2
    rw [e]
    omega
  refine Ok_B (Ok_F _ _ (k_X7_follow_12 h hq v) ⟨IV_00, hS⟩ (mz 60)) (fun T hT => Ok_l (Ok_s (OkI_l ⟨g2, hT⟩ g3)))
theorem k_X7_settle {S7 : SS} (h : N7 S7) : Ok (f_X7_settle S7) (fun S => Atq 34 S7 S) := by
  refine Ok_B (P := fun S => Atq 34 S7 S) ?_ (fun S hS => Ok_B (k_X7_follow (N7_At (by decide) h hS) (q := 34) (by decide)) (fun T hT => Ok_s (Atq_t hS hT)))
  refine Ok_F (fun v : Int32 × SS => IV 0 60 v.1 ∧ Atq 34 S7 v.2) (fun v => (60 - v.1.toInt).toNat) (fun v hv => ?_) ⟨IV_00, Atq_r 34 S7⟩ (mz 60)
  obtain ⟨v, S⟩ := v
  obtain ⟨hv, hS⟩ : IV 0 60 v ∧ Atq 34 S7 S := hv
  have hN := N7_At (by decide) h hS
  refine Ok_c (fun _ => Ok_s hS) (fun c => ?_)
  have ⟨g1, g2, g3⟩ := k_lp (by decide) hv hN.2.1 c
  exact Ok_G (k_in60 g1) (Ok_l (Ok_l (Ok_s (OkI_l ⟨g2, Atq_s hS⟩ g3))))
