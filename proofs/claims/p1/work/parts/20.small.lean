theorem fr_k1 {x y : Int32} (h : ¬ x < y) (h2 : ¬ y ≤ x) : False := h2 (Int32.not_lt.mp h)
def fE (n : Int32) : Int32 := if n = 0 then 0 else -1
theorem fE_1 {n : Int32} (c : n < 0) : -1 = fE n := by
  have h : ¬ n = 0 := fun e => by rw [e] at c; exact absurd c (by decide)
  simp [fE, h]
theorem fE_2 {n : Int32} (c : ¬ n ≤ 0) : -1 = fE n := by
  have h : ¬ n = 0 := fun e => by rw [e] at c; exact absurd (by decide) c
  simp [fE, h]
theorem fE_3 {n : Int32} (c : ¬ n < 0) (c2 : n ≤ 0) : n = fE n := by
  have h : n = 0 := by
    rw [Int32.lt_iff_toInt_lt] at c
    rw [Int32.le_iff_toInt_le] at c2
    have h0 : (0 : Int32).toInt = 0 := by decide
    rw [h0] at c c2
    exact Int32.toInt_inj.mp (by rw [h0]; omega)
  simp [fE, h]
theorem fE_4 {n : Int32} (c : n = 0) : 0 = fE n := by simp [fE, c]
theorem fE_5 {n : Int32} (c : ¬ n = 0) : -1 = fE n := by simp [fE, c]
def fA (n : Int32) : Int32 := if n = 0 ∨ n = 1 ∨ n = 5 then 0 else -1
theorem fA_n {n : Int32} (c0 : ¬ n = 0) (c1 : ¬ n = 1) (c5 : ¬ n = 5) : -1 = fA n := by simp [fA, c0, c1, c5]
theorem fN_1 : ∀ n : Fin 8, ¬ nI (8 * (n.val + 1)) - 8 < 0 := by decide
theorem fN_2 : ∀ n : Fin 8, nI (8 * (n.val + 1)) - 8 + Int32.ofInt (-8) = nI (8 * n.val) - 8 := by decide

set_option maxHeartbeats 4000000 in
set_option maxRecDepth 100000 in
theorem c_X0_has (l : Launch) (dC : Nat → ClassId) (dI : Nat → Nat → Nat) (h0 : Nat) (h0_1 : Int32) (h0_2 : Nat) (h0_3 : Nat) (h0_4 : Nat) (h0_5 : Nat) (h0_6 : Nat) (h0_7 : Nat) (h0_8 : Nat) (h0_9 : Nat) (h0_10 : Nat) (h0_11 : Nat) (h0_12 : Nat) (p1 : Int32) (sz : Nat) : Met l yX0_has wsX0_has ({ frames := 0, cells := 0, slots := 0, locals := 0 }) (va_Pc [.ref h0, .int p1] (fun U => U.heap.size = sz ∧ va_P (dC, dI) vwCl [(h0, .inr (0, [.int 0, .int h0_1, .ref h0_2, .ref h0_3, .ref h0_4, .ref h0_5, .ref h0_6, .ref h0_7, .ref h0_8, .ref h0_9, .ref h0_10, .ref h0_11, .ref h0_12]))] U.heap ∧ va_K (dC, dI) vwCl [] U ∧ va_D (fun _ => True) [(h0, .inr (0, [.int 0, .int h0_1, .ref h0_2, .ref h0_3, .ref h0_4, .ref h0_5, .ref h0_6, .ref h0_7, .ref h0_8, .ref h0_9, .ref h0_10, .ref h0_11, .ref h0_12]))])) (va_Qi (fun (r : Int32) (_ : Unit) => r = 0) (fun (_ : Unit) (t : State) => va_P (dC, dI) vwCl [(h0, .inr (0, [.int 0, .int h0_1, .ref h0_2, .ref h0_3, .ref h0_4, .ref h0_5, .ref h0_6, .ref h0_7, .ref h0_8, .ref h0_9, .ref h0_10, .ref h0_11, .ref h0_12]))] t.heap ∧ va_K (dC, dI) vwCl [] t ∧ va_D (va_A [(h0, .inr (0, [.int 0, .int h0_1, .ref h0_2, .ref h0_3, .ref h0_4, .ref h0_5, .ref h0_6, .ref h0_7, .ref h0_8, .ref h0_9, .ref h0_10, .ref h0_11, .ref h0_12]))] sz) [(h0, .inr (0, [.int 0, .int h0_1, .ref h0_2, .ref h0_3, .ref h0_4, .ref h0_5, .ref h0_6, .ref h0_7, .ref h0_8, .ref h0_9, .ref h0_10, .ref h0_11, .ref h0_12]))]) (va_A [(h0, .inr (0, [.int 0, .int h0_1, .ref h0_2, .ref h0_3, .ref h0_4, .ref h0_5, .ref h0_6, .ref h0_7, .ref h0_8, .ref h0_9, .ref h0_10, .ref h0_11, .ref h0_12]))] sz)) 0 0 (va_A [(h0, .inr (0, [.int 0, .int h0_1, .ref h0_2, .ref h0_3, .ref h0_4, .ref h0_5, .ref h0_6, .ref h0_7, .ref h0_8, .ref h0_9, .ref h0_10, .ref h0_11, .ref h0_12]))] sz) := by
  refine Met.ofW (cc := cX0_has) (maxL := 2) (ret := (some .boolean)) (by decide) rfl ?_
  intro p e s m args below meth c s₁ B hml hv
  obtain ⟨rfl, hsz, hP, hK, hD0⟩ := hv
  have hx := B.exec
  have hb := B.bytes
  have hr := B.returns
  have hts := atoms_spec (ws := wsX0_has) B.pre
  have hown : s.vm.findClass RX0 = some m.cls := findClass_of_methodNamed B.named
  have hlocks := B.notSynchronized
  have inX0_ : ∀ w ∈ wsX00, w ∈ wsX0_has := fun _ h => List.mem_cons_of_mem _ (List.mem_append_right _ h)
  subst hsz
  have hD := hD0.self (sz := s.heap.size)
  generalize hAe : va_A [(h0, .inr (0, [.int 0, .int h0_1, .ref h0_2, .ref h0_3, .ref h0_4, .ref h0_5, .ref h0_6, .ref h0_7, .ref h0_8, .ref h0_9, .ref h0_10, .ref h0_11, .ref h0_12]))] s.heap.size = A at hD ⊢
  have hA : ∀ q : Nat, s.heap.size ≤ q → A q := fun q h => by rw [← hAe]; exact Or.inr h
  have hS : va_S A s.heap s.heap [] := va_S.rf
  have hP : va_P (dC, dI) vwCl [(h0, .inr (0, [.int 0, .int h0_1, .ref h0_2, .ref h0_3, .ref h0_4, .ref h0_5, .ref h0_6, .ref h0_7, .ref h0_8, .ref h0_9, .ref h0_10, .ref h0_11, .ref h0_12]))] s.heap := hP
  have hl := lv_entry ([.ref h0, .int p1]) (n := 2) (Nat.le_of_ble_eq_true rfl)
  rw [lg_entry_eq]
  generalize (lg_sl ([.ref h0, .int p1]) ++ List.replicate (2 - (lg_sl ([.ref h0, .int p1])).length) Slot.unset).toArray = ls at hl ⊢
  have hl : lv_has ls 2 [(0, .ref h0), (1, .int p1)] := hl
  refine lv_iload_n hx hb dX0_has_0 rfl (lv_at hl 1 rfl) ?_
  refine lv_if_lt (tgt := 16) hx hb dX0_has_1 (by decide) (fun cx1 => ?_) (fun cx1 => ?_)
  · refine lv_iconst (v := 0) hx hb dX0_has_16 (by decide) ?_
    have hP9 := hP.sub (ws' := [(h0, .inr (0, [.int 0, .int h0_1, .ref h0_2, .ref h0_3, .ref h0_4, .ref h0_5, .ref h0_6, .ref h0_7, .ref h0_8, .ref h0_9, .ref h0_10, .ref h0_11, .ref h0_12]))]) [0] rfl
    have hD9 := hD.sub (ws' := [(h0, .inr (0, [.int 0, .int h0_1, .ref h0_2, .ref h0_3, .ref h0_4, .ref h0_5, .ref h0_6, .ref h0_7, .ref h0_8, .ref h0_9, .ref h0_10, .ref h0_11, .ref h0_12]))]) [0] (by decide) rfl
    have hK9 := hK.sub (tys' := []) [] rfl
    exact W.zret (v := 0) hx hb hr (by decide) (fun t ht hW => ⟨⟨0, (), rfl, rfl, by rw [ht]; exact hP9, va_K.moved hW.alike hK9, hD9⟩, hS.F ht⟩) hS.2.2 dX0_has_17
  · refine lv_iload_n hx hb dX0_has_4 rfl (lv_at hl 1 rfl) ?_
    refine lv_aload_n hx hb dX0_has_5 rfl (lv_at hl 0 rfl) ?_
    refine va_get (D := (dC, dI)) (ci := 0) (v := .int 0) (C := RX0) (T := TX0) (N := 13) hx hb hts inX0_ hown hK hP 0 rfl rfl 0 (by decide) (hts (.fieldLink RX0 46 "GateWheel$Circuit" "count" "I") (List.mem_of_getElem? (i := 1) rfl)) (fun _ h9 => h9) rfl dX0_has_6 ?_
    refine lv_icmp_ge (tgt := 16) hx hb dX0_has_9 (by decide) (fun _ => ?_) (fun hc => (fr_k1 cx1 hc).elim)
    refine lv_iconst (v := 0) hx hb dX0_has_16 (by decide) ?_
    have hP9 := hP.sub (ws' := [(h0, .inr (0, [.int 0, .int h0_1, .ref h0_2, .ref h0_3, .ref h0_4, .ref h0_5, .ref h0_6, .ref h0_7, .ref h0_8, .ref h0_9, .ref h0_10, .ref h0_11, .ref h0_12]))]) [0] rfl
    have hD9 := hD.sub (ws' := [(h0, .inr (0, [.int 0, .int h0_1, .ref h0_2, .ref h0_3, .ref h0_4, .ref h0_5, .ref h0_6, .ref h0_7, .ref h0_8, .ref h0_9, .ref h0_10, .ref h0_11, .ref h0_12]))]) [0] (by decide) rfl
    have hK9 := hK.sub (tys' := []) [] rfl
    exact W.zret (v := 0) hx hb hr (by decide) (fun t ht hW => ⟨⟨0, (), rfl, rfl, by rw [ht]; exact hP9, va_K.moved hW.alike hK9, hD9⟩, hS.F ht⟩) hS.2.2 dX0_has_17

set_option maxHeartbeats 4000000 in
set_option maxRecDepth 100000 in
theorem c_X0_isKind (l : Launch) (dC : Nat → ClassId) (dI : Nat → Nat → Nat) (h0 : Nat) (h0_1 : Int32) (h0_2 : Nat) (h0_3 : Nat) (h0_4 : Nat) (h0_5 : Nat) (h0_6 : Nat) (h0_7 : Nat) (h0_8 : Nat) (h0_9 : Nat) (h0_10 : Nat) (h0_11 : Nat) (h0_12 : Nat) (p1 : Int32) (p2 : Int32) (sz : Nat) : Met l yX0_isKind wsX0_isKind ({ frames := 1, cells := 0, slots := 0, locals := 21 }) (va_Pc [.ref h0, .int p1, .int p2] (fun U => U.heap.size = sz ∧ va_P (dC, dI) vwCl [(h0, .inr (0, [.int 0, .int h0_1, .ref h0_2, .ref h0_3, .ref h0_4, .ref h0_5, .ref h0_6, .ref h0_7, .ref h0_8, .ref h0_9, .ref h0_10, .ref h0_11, .ref h0_12]))] U.heap ∧ va_K (dC, dI) vwCl [] U ∧ va_D (fun _ => True) [(h0, .inr (0, [.int 0, .int h0_1, .ref h0_2, .ref h0_3, .ref h0_4, .ref h0_5, .ref h0_6, .ref h0_7, .ref h0_8, .ref h0_9, .ref h0_10, .ref h0_11, .ref h0_12]))])) (va_Qi (fun (r : Int32) (_ : Unit) => r = 0) (fun (_ : Unit) (t : State) => va_P (dC, dI) vwCl [(h0, .inr (0, [.int 0, .int h0_1, .ref h0_2, .ref h0_3, .ref h0_4, .ref h0_5, .ref h0_6, .ref h0_7, .ref h0_8, .ref h0_9, .ref h0_10, .ref h0_11, .ref h0_12]))] t.heap ∧ va_K (dC, dI) vwCl [] t ∧ va_D (va_A [(h0, .inr (0, [.int 0, .int h0_1, .ref h0_2, .ref h0_3, .ref h0_4, .ref h0_5, .ref h0_6, .ref h0_7, .ref h0_8, .ref h0_9, .ref h0_10, .ref h0_11, .ref h0_12]))] sz) [(h0, .inr (0, [.int 0, .int h0_1, .ref h0_2, .ref h0_3, .ref h0_4, .ref h0_5, .ref h0_6, .ref h0_7, .ref h0_8, .ref h0_9, .ref h0_10, .ref h0_11, .ref h0_12]))]) (va_A [(h0, .inr (0, [.int 0, .int h0_1, .ref h0_2, .ref h0_3, .ref h0_4, .ref h0_5, .ref h0_6, .ref h0_7, .ref h0_8, .ref h0_9, .ref h0_10, .ref h0_11, .ref h0_12]))] sz)) 0 0 (va_A [(h0, .inr (0, [.int 0, .int h0_1, .ref h0_2, .ref h0_3, .ref h0_4, .ref h0_5, .ref h0_6, .ref h0_7, .ref h0_8, .ref h0_9, .ref h0_10, .ref h0_11, .ref h0_12]))] sz) := by
  refine Met.ofW (cc := cX0_isKind) (maxL := 3) (ret := (some .boolean)) (by decide) rfl ?_
  intro p e s m args below meth c s₁ B hml hv
  obtain ⟨rfl, hsz, hP, hK, hD0⟩ := hv
  have hx := B.exec
  have hb := B.bytes
  have hr := B.returns
  have hts := atoms_spec (ws := wsX0_isKind) B.pre
  have hown : s.vm.findClass RX0 = some m.cls := findClass_of_methodNamed B.named
  have hlocks := B.notSynchronized
  subst hsz
  have hD := hD0.self (sz := s.heap.size)
  generalize hAe : va_A [(h0, .inr (0, [.int 0, .int h0_1, .ref h0_2, .ref h0_3, .ref h0_4, .ref h0_5, .ref h0_6, .ref h0_7, .ref h0_8, .ref h0_9, .ref h0_10, .ref h0_11, .ref h0_12]))] s.heap.size = A at hD ⊢
  have hA : ∀ q : Nat, s.heap.size ≤ q → A q := fun q h => by rw [← hAe]; exact Or.inr h
  have hS : va_S A s.heap s.heap [] := va_S.rf
  have hP : va_P (dC, dI) vwCl [(h0, .inr (0, [.int 0, .int h0_1, .ref h0_2, .ref h0_3, .ref h0_4, .ref h0_5, .ref h0_6, .ref h0_7, .ref h0_8, .ref h0_9, .ref h0_10, .ref h0_11, .ref h0_12]))] s.heap := hP
  have hl := lv_entry ([.ref h0, .int p1, .int p2]) (n := 3) (Nat.le_of_ble_eq_true rfl)
  rw [lg_entry_eq]
  generalize (lg_sl ([.ref h0, .int p1, .int p2]) ++ List.replicate (3 - (lg_sl ([.ref h0, .int p1, .int p2])).length) Slot.unset).toArray = ls at hl ⊢
  have hl : lv_has ls 3 [(0, .ref h0), (1, .int p1), (2, .int p2)] := hl
  refine lv_aload_n hx hb dX0_isKind_0 rfl (lv_at hl 0 rfl) ?_
  refine lv_iload_n hx hb dX0_isKind_1 rfl (lv_at hl 1 rfl) ?_
  have hPc := hP.sub (ws' := [(h0, .inr (0, [.int 0, .int h0_1, .ref h0_2, .ref h0_3, .ref h0_4, .ref h0_5, .ref h0_6, .ref h0_7, .ref h0_8, .ref h0_9, .ref h0_10, .ref h0_11, .ref h0_12]))]) [0] rfl
  have hDc := hD.sub (ws' := [(h0, .inr (0, [.int 0, .int h0_1, .ref h0_2, .ref h0_3, .ref h0_4, .ref h0_5, .ref h0_6, .ref h0_7, .ref h0_8, .ref h0_9, .ref h0_10, .ref h0_11, .ref h0_12]))]) [0] (by decide) rfl
  have hKc := hK.sub (tys' := []) [] rfl
  have hFc := va_free (wc := [(h0, .inr (0, [.int 0, .int h0_1, .ref h0_2, .ref h0_3, .ref h0_4, .ref h0_5, .ref h0_6, .ref h0_7, .ref h0_8, .ref h0_9, .ref h0_10, .ref h0_11, .ref h0_12]))]) hD hS hA [0] rfl
  refine va_calli (va_runV (As := [.int p1]) (rest := []) ⟨hx, hb, hml, hown, hts⟩ (c_X0_has l dC dI h0 h0_1 h0_2 h0_3 h0_4 h0_5 h0_6 h0_7 h0_8 h0_9 h0_10 h0_11 h0_12 p1 s.heap.size) (cwV 1 hts gX0_isKind_X0_has rfl rfl rfl (by decide +kernel) ⟨Nat.le_of_ble_eq_true rfl, Nat.le_of_ble_eq_true rfl⟩) ⟨fun a U g mk q => by obtain ⟨q0, q1, qP, qK, qD⟩ := q; exact ⟨q0, q1, qP, va_K.moved (u := U) (U := U.calling g mk a) (Vm.Alike.refl U.vm) qK, qD⟩, va_recv hKc hPc (ci := 0) (q0 := 0) rfl rfl, fun U hU hW => ⟨rfl, by rw [hU], by rw [hU]; exact hPc, va_K.moved hW.alike hKc, hDc.weaken (fun _ _ _ _ => trivial)⟩⟩ rfl rfl hl.1 rfl (lv_room (Nat.le_of_ble_eq_true rfl)) dX0_isKind_2 ⟨Nat.le_of_ble_eq_true rfl, Nat.le_of_ble_eq_true rfl⟩) hS (fun q _ h => hFc q h) hFc (fun rx2 u t Hx1 locs ht hvm hw hB hz1 hk1 hS => ?_)
  obtain ⟨hP1, hK1, hD1⟩ := hB
  rw [ht] at hP1
  have hK1 := va_K.moved hvm.symm hK1
  obtain ⟨hP, hD⟩ := va_join (wr := []) (w1 := [(h0, .inr (0, [.int 0, .int h0_1, .ref h0_2, .ref h0_3, .ref h0_4, .ref h0_5, .ref h0_6, .ref h0_7, .ref h0_8, .ref h0_9, .ref h0_10, .ref h0_11, .ref h0_12]))]) hP hD [0] [] rfl rfl (by decide) (by decide) hk1 hFc hP1 hD1
  have hK := (hK.sub (tys' := []) [] rfl).app hK1
  have hP : va_P (dC, dI) vwCl [(h0, .inr (0, [.int 0, .int h0_1, .ref h0_2, .ref h0_3, .ref h0_4, .ref h0_5, .ref h0_6, .ref h0_7, .ref h0_8, .ref h0_9, .ref h0_10, .ref h0_11, .ref h0_12]))] Hx1 := hP
  have hD : va_D A [(h0, .inr (0, [.int 0, .int h0_1, .ref h0_2, .ref h0_3, .ref h0_4, .ref h0_5, .ref h0_6, .ref h0_7, .ref h0_8, .ref h0_9, .ref h0_10, .ref h0_11, .ref h0_12]))] := hD
  have hK : va_K (dC, dI) vwCl [] s := hK
  obtain rfl : rx2 = 0 := hw
  refine lv_if_eq (tgt := 22) hx hb dX0_isKind_5 (by decide) (fun _ => ?_) (fun hc => absurd (by decide) hc)
  refine lv_iconst (v := 0) hx hb dX0_isKind_22 (by decide) ?_
  have hP9 := hP.sub (ws' := [(h0, .inr (0, [.int 0, .int h0_1, .ref h0_2, .ref h0_3, .ref h0_4, .ref h0_5, .ref h0_6, .ref h0_7, .ref h0_8, .ref h0_9, .ref h0_10, .ref h0_11, .ref h0_12]))]) [0] rfl
  have hD9 := hD.sub (ws' := [(h0, .inr (0, [.int 0, .int h0_1, .ref h0_2, .ref h0_3, .ref h0_4, .ref h0_5, .ref h0_6, .ref h0_7, .ref h0_8, .ref h0_9, .ref h0_10, .ref h0_11, .ref h0_12]))]) [0] (by decide) rfl
  have hK9 := hK.sub (tys' := []) [] rfl
  exact W.zret (v := 0) hx hb hr (by decide) (fun t ht hW => ⟨⟨0, (), rfl, rfl, by rw [ht]; exact hP9, va_K.moved hW.alike hK9, hD9⟩, hS.F ht⟩) hS.2.2 dX0_isKind_23

set_option maxHeartbeats 4000000 in
set_option maxRecDepth 100000 in
theorem c_X0_find (l : Launch) (dC : Nat → ClassId) (dI : Nat → Nat → Nat) (h0 : Nat) (h0_1 : Int32) (h0_2 : Nat) (h0_3 : Nat) (h0_4 : Nat) (h0_5 : Nat) (h0_6 : Nat) (h0_7 : Nat) (h0_8 : Nat) (h0_9 : Nat) (h0_10 : Nat) (h0_11 : Nat) (h0_12 : Nat) (p1 : Int64) (sz : Nat) : Met l yX0_find wsX0_find ({ frames := 0, cells := 0, slots := 0, locals := 0 }) (va_Pc [.ref h0, .long p1] (fun U => U.heap.size = sz ∧ va_P (dC, dI) vwCl [(h0, .inr (0, [.int 0, .int h0_1, .ref h0_2, .ref h0_3, .ref h0_4, .ref h0_5, .ref h0_6, .ref h0_7, .ref h0_8, .ref h0_9, .ref h0_10, .ref h0_11, .ref h0_12]))] U.heap ∧ va_K (dC, dI) vwCl [] U ∧ va_D (fun _ => True) [(h0, .inr (0, [.int 0, .int h0_1, .ref h0_2, .ref h0_3, .ref h0_4, .ref h0_5, .ref h0_6, .ref h0_7, .ref h0_8, .ref h0_9, .ref h0_10, .ref h0_11, .ref h0_12]))])) (va_Qi (fun (r : Int32) (_ : Unit) => r = (-1)) (fun (_ : Unit) (t : State) => va_P (dC, dI) vwCl [(h0, .inr (0, [.int 0, .int h0_1, .ref h0_2, .ref h0_3, .ref h0_4, .ref h0_5, .ref h0_6, .ref h0_7, .ref h0_8, .ref h0_9, .ref h0_10, .ref h0_11, .ref h0_12]))] t.heap ∧ va_K (dC, dI) vwCl [] t ∧ va_D (va_A [(h0, .inr (0, [.int 0, .int h0_1, .ref h0_2, .ref h0_3, .ref h0_4, .ref h0_5, .ref h0_6, .ref h0_7, .ref h0_8, .ref h0_9, .ref h0_10, .ref h0_11, .ref h0_12]))] sz) [(h0, .inr (0, [.int 0, .int h0_1, .ref h0_2, .ref h0_3, .ref h0_4, .ref h0_5, .ref h0_6, .ref h0_7, .ref h0_8, .ref h0_9, .ref h0_10, .ref h0_11, .ref h0_12]))]) (va_A [(h0, .inr (0, [.int 0, .int h0_1, .ref h0_2, .ref h0_3, .ref h0_4, .ref h0_5, .ref h0_6, .ref h0_7, .ref h0_8, .ref h0_9, .ref h0_10, .ref h0_11, .ref h0_12]))] sz)) 0 0 (va_A [(h0, .inr (0, [.int 0, .int h0_1, .ref h0_2, .ref h0_3, .ref h0_4, .ref h0_5, .ref h0_6, .ref h0_7, .ref h0_8, .ref h0_9, .ref h0_10, .ref h0_11, .ref h0_12]))] sz) := by
  refine Met.ofW (cc := cX0_find) (maxL := 4) (ret := (some .int)) (by decide) rfl ?_
  intro p e s m args below meth c s₁ B hml hv
  obtain ⟨rfl, hsz, hP, hK, hD0⟩ := hv
  have hx := B.exec
  have hb := B.bytes
  have hr := B.returns
  have hts := atoms_spec (ws := wsX0_find) B.pre
  have hown : s.vm.findClass RX0 = some m.cls := findClass_of_methodNamed B.named
  have hlocks := B.notSynchronized
  have inX0_ : ∀ w ∈ wsX00, w ∈ wsX0_find := fun _ h => List.mem_cons_of_mem _ (List.mem_append_right _ h)
  subst hsz
  have hD := hD0.self (sz := s.heap.size)
  generalize hAe : va_A [(h0, .inr (0, [.int 0, .int h0_1, .ref h0_2, .ref h0_3, .ref h0_4, .ref h0_5, .ref h0_6, .ref h0_7, .ref h0_8, .ref h0_9, .ref h0_10, .ref h0_11, .ref h0_12]))] s.heap.size = A at hD ⊢
  have hA : ∀ q : Nat, s.heap.size ≤ q → A q := fun q h => by rw [← hAe]; exact Or.inr h
  have hS : va_S A s.heap s.heap [] := va_S.rf
  have hP : va_P (dC, dI) vwCl [(h0, .inr (0, [.int 0, .int h0_1, .ref h0_2, .ref h0_3, .ref h0_4, .ref h0_5, .ref h0_6, .ref h0_7, .ref h0_8, .ref h0_9, .ref h0_10, .ref h0_11, .ref h0_12]))] s.heap := hP
  have hl := lv_entry ([.ref h0, .long p1]) (n := 4) (Nat.le_of_ble_eq_true rfl)
  rw [lg_entry_eq]
  generalize (lg_sl ([.ref h0, .long p1]) ++ List.replicate (4 - (lg_sl ([.ref h0, .long p1])).length) Slot.unset).toArray = ls at hl ⊢
  have hl : lv_has ls 4 [(0, .ref h0), (1, .long p1)] := hl
  refine lv_iconst (v := 0) hx hb dX0_find_0 (by decide) ?_
  refine lv_istore_n (lv' := [(3, .int 0), (0, .ref h0), (1, .long p1)]) hx hb dX0_find_1 rfl hl (by decide) rfl (fun ls hl => ?_)
  refine lv_iload_n hx hb dX0_find_2 rfl (lv_at hl 0 rfl) ?_
  refine lv_aload_n hx hb dX0_find_3 rfl (lv_at hl 1 rfl) ?_
  refine va_get (D := (dC, dI)) (ci := 0) (v := .int 0) (C := RX0) (T := TX0) (N := 13) hx hb hts inX0_ hown hK hP 0 rfl rfl 0 (by decide) (hts (.fieldLink RX0 46 "GateWheel$Circuit" "count" "I") (List.mem_of_getElem? (i := 1) rfl)) (fun _ h9 => h9) rfl dX0_find_4 ?_
  refine lv_icmp_ge (tgt := 29) hx hb dX0_find_7 (by decide) (fun _ => ?_) (fun hc => absurd (by decide) hc)
  refine lv_iconst (v := (-1)) hx hb dX0_find_29 (by decide) ?_
  have hP9 := hP.sub (ws' := [(h0, .inr (0, [.int 0, .int h0_1, .ref h0_2, .ref h0_3, .ref h0_4, .ref h0_5, .ref h0_6, .ref h0_7, .ref h0_8, .ref h0_9, .ref h0_10, .ref h0_11, .ref h0_12]))]) [0] rfl
  have hD9 := hD.sub (ws' := [(h0, .inr (0, [.int 0, .int h0_1, .ref h0_2, .ref h0_3, .ref h0_4, .ref h0_5, .ref h0_6, .ref h0_7, .ref h0_8, .ref h0_9, .ref h0_10, .ref h0_11, .ref h0_12]))]) [0] (by decide) rfl
  have hK9 := hK.sub (tys' := []) [] rfl
  exact W.iret (v := (-1)) hx hb hr (fun t ht hW => ⟨⟨(-1), (), rfl, rfl, by rw [ht]; exact hP9, va_K.moved hW.alike hK9, hD9⟩, hS.F ht⟩) hS.2.2 dX0_find_30

set_option maxHeartbeats 4000000 in
set_option maxRecDepth 100000 in
theorem c_X0_arrange (l : Launch) (dC : Nat → ClassId) (dI : Nat → Nat → Nat) (h0 : Nat) (h0_1 : Int32) (h0_2 : Nat) (h0_3 : Nat) (h0_4 : Nat) (h0_5 : Nat) (h0_6 : Nat) (h0_7 : Nat) (h0_8 : Nat) (h0_9 : Nat) (h0_10 : Nat) (h0_11 : Nat) (h0_12 : Nat) (sz : Nat) : Met l yX0_arrange wsX0_arrange ({ frames := 0, cells := 0, slots := 0, locals := 0 }) (va_Pc [.ref h0] (fun U => U.heap.size = sz ∧ va_P (dC, dI) vwCl [(h0, .inr (0, [.int 0, .int h0_1, .ref h0_2, .ref h0_3, .ref h0_4, .ref h0_5, .ref h0_6, .ref h0_7, .ref h0_8, .ref h0_9, .ref h0_10, .ref h0_11, .ref h0_12]))] U.heap ∧ va_K (dC, dI) vwCl [] U ∧ va_D (fun _ => True) [(h0, .inr (0, [.int 0, .int h0_1, .ref h0_2, .ref h0_3, .ref h0_4, .ref h0_5, .ref h0_6, .ref h0_7, .ref h0_8, .ref h0_9, .ref h0_10, .ref h0_11, .ref h0_12]))])) (va_Qv (fun (_ : Unit) => True) (fun (_ : Unit) (t : State) => va_P (dC, dI) vwCl [(h0, .inr (0, [.int 0, .int h0_1, .ref h0_2, .ref h0_3, .ref h0_4, .ref h0_5, .ref h0_6, .ref h0_7, .ref h0_8, .ref h0_9, .ref h0_10, .ref h0_11, .ref h0_12]))] t.heap ∧ va_K (dC, dI) vwCl [] t ∧ va_D (va_A [(h0, .inr (0, [.int 0, .int h0_1, .ref h0_2, .ref h0_3, .ref h0_4, .ref h0_5, .ref h0_6, .ref h0_7, .ref h0_8, .ref h0_9, .ref h0_10, .ref h0_11, .ref h0_12]))] sz) [(h0, .inr (0, [.int 0, .int h0_1, .ref h0_2, .ref h0_3, .ref h0_4, .ref h0_5, .ref h0_6, .ref h0_7, .ref h0_8, .ref h0_9, .ref h0_10, .ref h0_11, .ref h0_12]))]) (va_A [(h0, .inr (0, [.int 0, .int h0_1, .ref h0_2, .ref h0_3, .ref h0_4, .ref h0_5, .ref h0_6, .ref h0_7, .ref h0_8, .ref h0_9, .ref h0_10, .ref h0_11, .ref h0_12]))] sz)) 0 0 (va_A [(h0, .inr (0, [.int 0, .int h0_1, .ref h0_2, .ref h0_3, .ref h0_4, .ref h0_5, .ref h0_6, .ref h0_7, .ref h0_8, .ref h0_9, .ref h0_10, .ref h0_11, .ref h0_12]))] sz) := by
  refine Met.ofW (cc := cX0_arrange) (maxL := 7) (ret := none) (by decide) rfl ?_
  intro p e s m args below meth c s₁ B hml hv
  obtain ⟨rfl, hsz, hP, hK, hD0⟩ := hv
  have hx := B.exec
  have hb := B.bytes
  have hr := B.returns
  have hts := atoms_spec (ws := wsX0_arrange) B.pre
  have hown : s.vm.findClass RX0 = some m.cls := findClass_of_methodNamed B.named
  have hlocks := B.notSynchronized
  have inX0_ : ∀ w ∈ wsX00, w ∈ wsX0_arrange := fun _ h => List.mem_cons_of_mem _ (List.mem_append_right _ h)
  subst hsz
  have hD := hD0.self (sz := s.heap.size)
  generalize hAe : va_A [(h0, .inr (0, [.int 0, .int h0_1, .ref h0_2, .ref h0_3, .ref h0_4, .ref h0_5, .ref h0_6, .ref h0_7, .ref h0_8, .ref h0_9, .ref h0_10, .ref h0_11, .ref h0_12]))] s.heap.size = A at hD ⊢
  have hA : ∀ q : Nat, s.heap.size ≤ q → A q := fun q h => by rw [← hAe]; exact Or.inr h
  have hS : va_S A s.heap s.heap [] := va_S.rf
  have hP : va_P (dC, dI) vwCl [(h0, .inr (0, [.int 0, .int h0_1, .ref h0_2, .ref h0_3, .ref h0_4, .ref h0_5, .ref h0_6, .ref h0_7, .ref h0_8, .ref h0_9, .ref h0_10, .ref h0_11, .ref h0_12]))] s.heap := hP
  have hl := lv_entry ([.ref h0]) (n := 7) (Nat.le_of_ble_eq_true rfl)
  rw [lg_entry_eq]
  generalize (lg_sl ([.ref h0]) ++ List.replicate (7 - (lg_sl ([.ref h0])).length) Slot.unset).toArray = ls at hl ⊢
  have hl : lv_has ls 7 [(0, .ref h0)] := hl
  refine lv_lconst (v := 0) hx hb dX0_arrange_0 (by decide) ?_
  refine lv_lstore_n (lv' := [(1, .long 0), (0, .ref h0)]) hx hb dX0_arrange_1 rfl hl (by decide) rfl (fun ls hl => ?_)
  refine lv_iconst (v := 0) hx hb dX0_arrange_2 (by decide) ?_
  refine lv_istore_n (lv' := [(3, .int 0), (1, .long 0), (0, .ref h0)]) hx hb dX0_arrange_3 rfl hl (by decide) rfl (fun ls hl => ?_)
  refine lv_iconst (v := 0) hx hb dX0_arrange_4 (by decide) ?_
  refine lv_istore (lv' := [(4, .int 0), (3, .int 0), (1, .long 0), (0, .ref h0)]) hx hb dX0_arrange_5 hl (by decide) rfl (fun ls hl => ?_)
  refine lv_iload hx hb dX0_arrange_7 (lv_at hl 0 rfl) ?_
  refine lv_aload_n hx hb dX0_arrange_9 rfl (lv_at hl 3 rfl) ?_
  refine va_get (D := (dC, dI)) (ci := 0) (v := .int 0) (C := RX0) (T := TX0) (N := 13) hx hb hts inX0_ hown hK hP 0 rfl rfl 0 (by decide) (hts (.fieldLink RX0 46 "GateWheel$Circuit" "count" "I") (List.mem_of_getElem? (i := 1) rfl)) (fun _ h9 => h9) rfl dX0_arrange_10 ?_
  refine lv_icmp_ge (tgt := 129) hx hb dX0_arrange_13 (by decide) (fun _ => ?_) (fun hc => absurd (by decide) hc)
  have hP9 := hP.sub (ws' := [(h0, .inr (0, [.int 0, .int h0_1, .ref h0_2, .ref h0_3, .ref h0_4, .ref h0_5, .ref h0_6, .ref h0_7, .ref h0_8, .ref h0_9, .ref h0_10, .ref h0_11, .ref h0_12]))]) [0] rfl
  have hD9 := hD.sub (ws' := [(h0, .inr (0, [.int 0, .int h0_1, .ref h0_2, .ref h0_3, .ref h0_4, .ref h0_5, .ref h0_6, .ref h0_7, .ref h0_8, .ref h0_9, .ref h0_10, .ref h0_11, .ref h0_12]))]) [0] (by decide) rfl
  have hK9 := hK.sub (tys' := []) [] rfl
  exact W.vret hx hb hr (fun t ht hW => ⟨⟨(), rfl, trivial, by rw [ht]; exact hP9, va_K.moved hW.alike hK9, hD9⟩, hS.F ht⟩) hS.2.2 dX0_arrange_129

set_option maxHeartbeats 4000000 in
set_option maxRecDepth 100000 in
theorem c_X0_clear (l : Launch) (dC : Nat → ClassId) (dI : Nat → Nat → Nat) (h0 : Nat) (h0_0 : Int32) (h0_1 : Int32) (h0_2 : Nat) (h0_3 : Nat) (h0_4 : Nat) (h0_5 : Nat) (h0_6 : Nat) (h0_7 : Nat) (h0_8 : Nat) (h0_9 : Nat) (h0_10 : Nat) (h0_11 : Nat) (h0_12 : Nat) (sz : Nat) : Met l yX0_clear wsX0_clear ({ frames := 0, cells := 0, slots := 0, locals := 0 }) (va_Pc [.ref h0] (fun U => U.heap.size = sz ∧ va_P (dC, dI) vwCl [(h0, .inr (0, [.int h0_0, .int h0_1, .ref h0_2, .ref h0_3, .ref h0_4, .ref h0_5, .ref h0_6, .ref h0_7, .ref h0_8, .ref h0_9, .ref h0_10, .ref h0_11, .ref h0_12]))] U.heap ∧ va_K (dC, dI) vwCl [] U ∧ va_D (fun _ => True) [(h0, .inr (0, [.int h0_0, .int h0_1, .ref h0_2, .ref h0_3, .ref h0_4, .ref h0_5, .ref h0_6, .ref h0_7, .ref h0_8, .ref h0_9, .ref h0_10, .ref h0_11, .ref h0_12]))])) (va_Qv (fun (_ : Unit) => True) (fun (_ : Unit) (t : State) => va_P (dC, dI) vwCl [(h0, .inr (0, [.int 0, .int 0, .ref h0_2, .ref h0_3, .ref h0_4, .ref h0_5, .ref h0_6, .ref h0_7, .ref h0_8, .ref h0_9, .ref h0_10, .ref h0_11, .ref h0_12]))] t.heap ∧ va_K (dC, dI) vwCl [] t ∧ va_D (va_A [(h0, .inr (0, [.int h0_0, .int h0_1, .ref h0_2, .ref h0_3, .ref h0_4, .ref h0_5, .ref h0_6, .ref h0_7, .ref h0_8, .ref h0_9, .ref h0_10, .ref h0_11, .ref h0_12]))] sz) [(h0, .inr (0, [.int 0, .int 0, .ref h0_2, .ref h0_3, .ref h0_4, .ref h0_5, .ref h0_6, .ref h0_7, .ref h0_8, .ref h0_9, .ref h0_10, .ref h0_11, .ref h0_12]))]) (va_A [(h0, .inr (0, [.int h0_0, .int h0_1, .ref h0_2, .ref h0_3, .ref h0_4, .ref h0_5, .ref h0_6, .ref h0_7, .ref h0_8, .ref h0_9, .ref h0_10, .ref h0_11, .ref h0_12]))] sz)) 0 0 (va_A [(h0, .inr (0, [.int h0_0, .int h0_1, .ref h0_2, .ref h0_3, .ref h0_4, .ref h0_5, .ref h0_6, .ref h0_7, .ref h0_8, .ref h0_9, .ref h0_10, .ref h0_11, .ref h0_12]))] sz) := by
  refine Met.ofW (cc := cX0_clear) (maxL := 1) (ret := none) (by decide) rfl ?_
  intro p e s m args below meth c s₁ B hml hv
  obtain ⟨rfl, hsz, hP, hK, hD0⟩ := hv
  have hx := B.exec
  have hb := B.bytes
  have hr := B.returns
  have hts := atoms_spec (ws := wsX0_clear) B.pre
  have hown : s.vm.findClass RX0 = some m.cls := findClass_of_methodNamed B.named
  have hlocks := B.notSynchronized
  have inX0_ : ∀ w ∈ wsX00, w ∈ wsX0_clear := fun _ h => List.mem_cons_of_mem _ (List.mem_append_right _ h)
  subst hsz
  have hD := hD0.self (sz := s.heap.size)
  generalize hAe : va_A [(h0, .inr (0, [.int h0_0, .int h0_1, .ref h0_2, .ref h0_3, .ref h0_4, .ref h0_5, .ref h0_6, .ref h0_7, .ref h0_8, .ref h0_9, .ref h0_10, .ref h0_11, .ref h0_12]))] s.heap.size = A at hD ⊢
  have hA : ∀ q : Nat, s.heap.size ≤ q → A q := fun q h => by rw [← hAe]; exact Or.inr h
  have hS : va_S A s.heap s.heap [] := va_S.rf
  have hP : va_P (dC, dI) vwCl [(h0, .inr (0, [.int h0_0, .int h0_1, .ref h0_2, .ref h0_3, .ref h0_4, .ref h0_5, .ref h0_6, .ref h0_7, .ref h0_8, .ref h0_9, .ref h0_10, .ref h0_11, .ref h0_12]))] s.heap := hP
  have hl := lv_entry ([.ref h0]) (n := 1) (Nat.le_of_ble_eq_true rfl)
  rw [lg_entry_eq]
  generalize (lg_sl ([.ref h0]) ++ List.replicate (1 - (lg_sl ([.ref h0])).length) Slot.unset).toArray = ls at hl ⊢
  have hl : lv_has ls 1 [(0, .ref h0)] := hl
  refine lv_aload_n hx hb dX0_clear_0 rfl (lv_at hl 0 rfl) ?_
  refine lv_iconst (v := 0) hx hb dX0_clear_1 (by decide) ?_
  refine va_put (D := (dC, dI)) (ci := 0) (v := .int 0) (ty := .int) (C := RX0) (T := TX0) (N := 13) hx hb hts inX0_ tyX0 tyX0_ok nmX0 hown hK hP hD hS 0 rfl rfl 0 (by decide) (hts (.fieldLink RX0 46 "GateWheel$Circuit" "count" "I") (List.mem_of_getElem? (i := 1) rfl)) (fun _ h9 => h9) rfl (by decide +kernel) rfl rfl (Nat.le_of_ble_eq_true rfl) dX0_clear_2 (fun Hx1 locs hP hD hS => ?_)
  have hP : va_P (dC, dI) vwCl [(h0, .inr (0, [.int 0, .int h0_1, .ref h0_2, .ref h0_3, .ref h0_4, .ref h0_5, .ref h0_6, .ref h0_7, .ref h0_8, .ref h0_9, .ref h0_10, .ref h0_11, .ref h0_12]))] Hx1 := hP
  have hD : va_D A [(h0, .inr (0, [.int 0, .int h0_1, .ref h0_2, .ref h0_3, .ref h0_4, .ref h0_5, .ref h0_6, .ref h0_7, .ref h0_8, .ref h0_9, .ref h0_10, .ref h0_11, .ref h0_12]))] := hD
  refine lv_aload_n hx hb dX0_clear_5 rfl (lv_at hl 0 rfl) ?_
  refine lv_iconst (v := 0) hx hb dX0_clear_6 (by decide) ?_
  refine va_put (D := (dC, dI)) (ci := 0) (v := .int 0) (ty := .int) (C := RX0) (T := TX0) (N := 13) hx hb hts inX0_ tyX0 tyX0_ok nmX0 hown hK hP hD hS 0 rfl rfl 1 (by decide) (hts (.fieldLink RX0 50 "GateWheel$Circuit" "registers" "I") (List.mem_of_getElem? (i := 2) rfl)) (fun _ h9 => h9) rfl (by decide +kernel) rfl rfl (Nat.le_of_ble_eq_true rfl) dX0_clear_7 (fun Hx2 locs hP hD hS => ?_)
  have hP : va_P (dC, dI) vwCl [(h0, .inr (0, [.int 0, .int 0, .ref h0_2, .ref h0_3, .ref h0_4, .ref h0_5, .ref h0_6, .ref h0_7, .ref h0_8, .ref h0_9, .ref h0_10, .ref h0_11, .ref h0_12]))] Hx2 := hP
  have hD : va_D A [(h0, .inr (0, [.int 0, .int 0, .ref h0_2, .ref h0_3, .ref h0_4, .ref h0_5, .ref h0_6, .ref h0_7, .ref h0_8, .ref h0_9, .ref h0_10, .ref h0_11, .ref h0_12]))] := hD
  have hP9 := hP.sub (ws' := [(h0, .inr (0, [.int 0, .int 0, .ref h0_2, .ref h0_3, .ref h0_4, .ref h0_5, .ref h0_6, .ref h0_7, .ref h0_8, .ref h0_9, .ref h0_10, .ref h0_11, .ref h0_12]))]) [0] rfl
  have hD9 := hD.sub (ws' := [(h0, .inr (0, [.int 0, .int 0, .ref h0_2, .ref h0_3, .ref h0_4, .ref h0_5, .ref h0_6, .ref h0_7, .ref h0_8, .ref h0_9, .ref h0_10, .ref h0_11, .ref h0_12]))]) [0] (by decide) rfl
  have hK9 := hK.sub (tys' := []) [] rfl
  exact W.vret hx hb hr (fun t ht hW => ⟨⟨(), rfl, trivial, by rw [ht]; exact hP9, va_K.moved hW.alike hK9, hD9⟩, hS.F ht⟩) hS.2.2 dX0_clear_10

set_option maxHeartbeats 4000000 in
set_option maxRecDepth 100000 in
theorem c_X2_settle (l : Launch) (dC : Nat → ClassId) (dI : Nat → Nat → Nat) (h0 : Nat) (h0_1 : Int32) (h0_2 : Nat) (h0_3 : Nat) (h0_4 : Nat) (h0_5 : Nat) (h0_6 : Nat) (h0_7 : Nat) (h0_8 : Nat) (h0_9 : Nat) (h0_10 : Nat) (h0_11 : Nat) (h0_12 : Nat) (a1 : Nat) (sz : Nat) : Met l yX2_settle wsX2_settle ({ frames := 0, cells := 0, slots := 0, locals := 0 }) (va_Pc [.ref h0, .ref a1] (fun U => U.heap.size = sz ∧ va_P (dC, dI) vwCl [(h0, .inr (0, [.int 0, .int h0_1, .ref h0_2, .ref h0_3, .ref h0_4, .ref h0_5, .ref h0_6, .ref h0_7, .ref h0_8, .ref h0_9, .ref h0_10, .ref h0_11, .ref h0_12]))] U.heap ∧ va_K (dC, dI) vwCl [] U ∧ va_D (fun _ => True) [(h0, .inr (0, [.int 0, .int h0_1, .ref h0_2, .ref h0_3, .ref h0_4, .ref h0_5, .ref h0_6, .ref h0_7, .ref h0_8, .ref h0_9, .ref h0_10, .ref h0_11, .ref h0_12]))])) (va_Qv (fun (_ : Unit) => True) (fun (_ : Unit) (t : State) => va_P (dC, dI) vwCl [(h0, .inr (0, [.int 0, .int h0_1, .ref h0_2, .ref h0_3, .ref h0_4, .ref h0_5, .ref h0_6, .ref h0_7, .ref h0_8, .ref h0_9, .ref h0_10, .ref h0_11, .ref h0_12]))] t.heap ∧ va_K (dC, dI) vwCl [] t ∧ va_D (va_A [(h0, .inr (0, [.int 0, .int h0_1, .ref h0_2, .ref h0_3, .ref h0_4, .ref h0_5, .ref h0_6, .ref h0_7, .ref h0_8, .ref h0_9, .ref h0_10, .ref h0_11, .ref h0_12]))] sz) [(h0, .inr (0, [.int 0, .int h0_1, .ref h0_2, .ref h0_3, .ref h0_4, .ref h0_5, .ref h0_6, .ref h0_7, .ref h0_8, .ref h0_9, .ref h0_10, .ref h0_11, .ref h0_12]))]) (va_A [(h0, .inr (0, [.int 0, .int h0_1, .ref h0_2, .ref h0_3, .ref h0_4, .ref h0_5, .ref h0_6, .ref h0_7, .ref h0_8, .ref h0_9, .ref h0_10, .ref h0_11, .ref h0_12]))] sz)) 0 0 (va_A [(h0, .inr (0, [.int 0, .int h0_1, .ref h0_2, .ref h0_3, .ref h0_4, .ref h0_5, .ref h0_6, .ref h0_7, .ref h0_8, .ref h0_9, .ref h0_10, .ref h0_11, .ref h0_12]))] sz) := by
  refine Met.ofW (cc := cX2_settle) (maxL := 4) (ret := none) (by decide) rfl ?_
  intro p e s m args below meth c s₁ B hml hv
  obtain ⟨rfl, hsz, hP, hK, hD0⟩ := hv
  have hx := B.exec
  have hb := B.bytes
  have hr := B.returns
  have hts := atoms_spec (ws := wsX2_settle) B.pre
  have hown : s.vm.findClass RX2 = some m.cls := findClass_of_methodNamed B.named
  have hlocks := B.notSynchronized
  have inX0_ : ∀ w ∈ wsX00, w ∈ wsX2_settle := fun _ h => List.mem_cons_of_mem _ (List.mem_append_right _ h)
  subst hsz
  have hD := hD0.self (sz := s.heap.size)
  generalize hAe : va_A [(h0, .inr (0, [.int 0, .int h0_1, .ref h0_2, .ref h0_3, .ref h0_4, .ref h0_5, .ref h0_6, .ref h0_7, .ref h0_8, .ref h0_9, .ref h0_10, .ref h0_11, .ref h0_12]))] s.heap.size = A at hD ⊢
  have hA : ∀ q : Nat, s.heap.size ≤ q → A q := fun q h => by rw [← hAe]; exact Or.inr h
  have hS : va_S A s.heap s.heap [] := va_S.rf
  have hP : va_P (dC, dI) vwCl [(h0, .inr (0, [.int 0, .int h0_1, .ref h0_2, .ref h0_3, .ref h0_4, .ref h0_5, .ref h0_6, .ref h0_7, .ref h0_8, .ref h0_9, .ref h0_10, .ref h0_11, .ref h0_12]))] s.heap := hP
  have hl := lv_entry ([.ref h0, .ref a1]) (n := 4) (Nat.le_of_ble_eq_true rfl)
  rw [lg_entry_eq]
  generalize (lg_sl ([.ref h0, .ref a1]) ++ List.replicate (4 - (lg_sl ([.ref h0, .ref a1])).length) Slot.unset).toArray = ls at hl ⊢
  have hl : lv_has ls 4 [(0, .ref h0), (1, .ref a1)] := hl
  refine lv_iconst (v := 0) hx hb dX2_settle_0 (by decide) ?_
  refine lv_istore_n (lv' := [(2, .int 0), (0, .ref h0), (1, .ref a1)]) hx hb dX2_settle_1 rfl hl (by decide) rfl (fun ls hl => ?_)
  refine lv_iload_n hx hb dX2_settle_2 rfl (lv_at hl 0 rfl) ?_
  refine lv_aload_n hx hb dX2_settle_3 rfl (lv_at hl 1 rfl) ?_
  refine va_get (D := (dC, dI)) (ci := 0) (v := .int 0) (C := RX0) (T := TX0) (N := 13) hx hb hts inX0_ hown hK hP 0 rfl rfl 0 (by decide) (hts (.fieldLink RX2 9 "GateWheel$Circuit" "count" "I") (List.mem_of_getElem? (i := 1) rfl)) (fun _ h9 => h9) rfl dX2_settle_4 ?_
  refine lv_icmp_ge (tgt := 64) hx hb dX2_settle_7 (by decide) (fun _ => ?_) (fun hc => absurd (by decide) hc)
  have hP9 := hP.sub (ws' := [(h0, .inr (0, [.int 0, .int h0_1, .ref h0_2, .ref h0_3, .ref h0_4, .ref h0_5, .ref h0_6, .ref h0_7, .ref h0_8, .ref h0_9, .ref h0_10, .ref h0_11, .ref h0_12]))]) [0] rfl
  have hD9 := hD.sub (ws' := [(h0, .inr (0, [.int 0, .int h0_1, .ref h0_2, .ref h0_3, .ref h0_4, .ref h0_5, .ref h0_6, .ref h0_7, .ref h0_8, .ref h0_9, .ref h0_10, .ref h0_11, .ref h0_12]))]) [0] (by decide) rfl
  have hK9 := hK.sub (tys' := []) [] rfl
  exact W.vret hx hb hr (fun t ht hW => ⟨⟨(), rfl, trivial, by rw [ht]; exact hP9, va_K.moved hW.alike hK9, hD9⟩, hS.F ht⟩) hS.2.2 dX2_settle_64

set_option maxHeartbeats 4000000 in
set_option maxRecDepth 100000 in
theorem c_X1_begin (l : Launch) (dC : Nat → ClassId) (dI : Nat → Nat → Nat) (h0 : Nat) (a1 : Nat) (h0_1 : Int32) (h0_2 : Int32) (h0_3 : Int32) (h0_4 : Int32) (h0_5 : Int64) (h0_6 : Int32) (yb : ClassId) (f1 : Nat → Int32) (sz : Nat) : Met l yX1_begin wsX1_begin ({ frames := 1, cells := 0, slots := 0, locals := 14 }) (va_Pc [.ref h0, .ref a1, .int 0] (fun U => U.heap.size = sz ∧ va_P (dC, dI) vwCl [(h0, .inr (1, [.null, .int h0_1, .int h0_2, .int h0_3, .int h0_4, .long h0_5, .int h0_6])), (a1, .inl (yb, 2000, .inl f1))] U.heap ∧ va_K (dC, dI) vwCl [(yb, .byte)] U ∧ va_D (fun _ => True) [(h0, .inr (1, [.null, .int h0_1, .int h0_2, .int h0_3, .int h0_4, .long h0_5, .int h0_6])), (a1, .inl (yb, 2000, .inl f1))])) (va_Qv (fun (_ : Unit) => True) (fun (_ : Unit) (t : State) => va_P (dC, dI) vwCl [(h0, .inr (1, [.ref a1, .int 0, .int 0, .int h0_3, .int h0_4, .long h0_5, .int h0_6])), (a1, .inl (yb, 2000, .inl f1))] t.heap ∧ va_K (dC, dI) vwCl [(yb, .byte)] t ∧ va_D (va_A [(h0, .inr (1, [.null, .int h0_1, .int h0_2, .int h0_3, .int h0_4, .long h0_5, .int h0_6])), (a1, .inl (yb, 2000, .inl f1))] sz) [(h0, .inr (1, [.ref a1, .int 0, .int 0, .int h0_3, .int h0_4, .long h0_5, .int h0_6])), (a1, .inl (yb, 2000, .inl f1))]) (va_A [(h0, .inr (1, [.null, .int h0_1, .int h0_2, .int h0_3, .int h0_4, .long h0_5, .int h0_6])), (a1, .inl (yb, 2000, .inl f1))] sz)) 0 0 (va_A [(h0, .inr (1, [.null, .int h0_1, .int h0_2, .int h0_3, .int h0_4, .long h0_5, .int h0_6])), (a1, .inl (yb, 2000, .inl f1))] sz) := by
  refine Met.ofW (cc := cX1_begin) (maxL := 3) (ret := none) (by decide) rfl ?_
  intro p e s m args below meth c s₁ B hml hv
  obtain ⟨rfl, hsz, hP, hK, hD0⟩ := hv
  have hx := B.exec
  have hb := B.bytes
  have hr := B.returns
  have hts := atoms_spec (ws := wsX1_begin) B.pre
  have hown : s.vm.findClass RX1 = some m.cls := findClass_of_methodNamed B.named
  have hlocks := B.notSynchronized
  have inX1_ : ∀ w ∈ wsX10, w ∈ wsX1_begin := fun _ h => List.mem_cons_of_mem _ (List.mem_append_right _ h)
  subst hsz
  have hD := hD0.self (sz := s.heap.size)
  generalize hAe : va_A [(h0, .inr (1, [.null, .int h0_1, .int h0_2, .int h0_3, .int h0_4, .long h0_5, .int h0_6])), (a1, .inl (yb, 2000, .inl f1))] s.heap.size = A at hD ⊢
  have hA : ∀ q : Nat, s.heap.size ≤ q → A q := fun q h => by rw [← hAe]; exact Or.inr h
  have hS : va_S A s.heap s.heap [] := va_S.rf
  have hP : va_P (dC, dI) vwCl [(h0, .inr (1, [.null, .int h0_1, .int h0_2, .int h0_3, .int h0_4, .long h0_5, .int h0_6])), (a1, .inl (yb, 2000, .inl f1))] s.heap := hP
  have hl := lv_entry ([.ref h0, .ref a1, .int 0]) (n := 3) (Nat.le_of_ble_eq_true rfl)
  rw [lg_entry_eq]
  generalize (lg_sl ([.ref h0, .ref a1, .int 0]) ++ List.replicate (3 - (lg_sl ([.ref h0, .ref a1, .int 0])).length) Slot.unset).toArray = ls at hl ⊢
  have hl : lv_has ls 3 [(0, .ref h0), (1, .ref a1), (2, .int 0)] := hl
  refine lv_aload_n hx hb dX1_begin_0 rfl (lv_at hl 0 rfl) ?_
  refine lv_aload_n hx hb dX1_begin_1 rfl (lv_at hl 1 rfl) ?_
  refine va_put (D := (dC, dI)) (ci := 1) (v := .ref a1) (ty := (.array .byte)) (C := RX1) (T := TX1) (N := 7) hx hb hts inX1_ tyX1 tyX1_ok nmX1 hown hK hP hD hS 0 rfl rfl 0 (by decide) (hts (.fieldLink RX1 7 "GateWheel$Lexer" "text" "[B") (List.mem_of_getElem? (i := 1) rfl)) (fun _ h9 => h9) rfl (by decide +kernel) rfl rfl (Nat.le_of_ble_eq_true rfl) dX1_begin_2 (fun Hx1 locs hP hD hS => ?_)
  have hP : va_P (dC, dI) vwCl [(h0, .inr (1, [.ref a1, .int h0_1, .int h0_2, .int h0_3, .int h0_4, .long h0_5, .int h0_6])), (a1, .inl (yb, 2000, .inl f1))] Hx1 := hP
  have hD : va_D A [(h0, .inr (1, [.ref a1, .int h0_1, .int h0_2, .int h0_3, .int h0_4, .long h0_5, .int h0_6])), (a1, .inl (yb, 2000, .inl f1))] := hD
  refine lv_aload_n hx hb dX1_begin_5 rfl (lv_at hl 0 rfl) ?_
  refine lv_iload_n hx hb dX1_begin_6 rfl (lv_at hl 2 rfl) ?_
  refine lv_aload_n hx hb dX1_begin_7 rfl (lv_at hl 1 rfl) ?_
  refine va_alen (v := 2000) hx hb hK hP 1 0 rfl rfl rfl dX1_begin_8 ?_
  refine va_mmin hx hb (by rw [hml]; exact hl.1.symm) hown (hts (.methodLink RX1 13 Lib.Math.min.name) (List.mem_of_getElem? (i := 2) rfl)) (hts (.static Lib.Math.min.name) (List.mem_of_getElem? (i := 3) rfl)) (hts (.initialized "java/lang/Math") (List.mem_of_getElem? (i := 4) rfl)) (hts (.code Lib.Math.min.name Lib.Math.min.code 2 (some .int)) (List.mem_of_getElem? (i := 5) rfl)) (Nat.le_of_ble_eq_true rfl) (Nat.le_of_ble_eq_true rfl) (Nat.le_of_ble_eq_true rfl) (Nat.le_of_ble_eq_true rfl) dX1_begin_9 ?_
  refine lv_topi (fun zx2 ezx2 => ?_)
  obtain rfl : zx2 = 0 := by rw [ezx2]; decide
  refine va_put (D := (dC, dI)) (ci := 1) (v := .int 0) (ty := .int) (C := RX1) (T := TX1) (N := 7) hx hb hts inX1_ tyX1 tyX1_ok nmX1 hown hK hP hD hS 0 rfl rfl 1 (by decide) (hts (.fieldLink RX1 19 "GateWheel$Lexer" "length" "I") (List.mem_of_getElem? (i := 6) rfl)) (fun _ h9 => h9) rfl (by decide +kernel) rfl rfl (Nat.le_of_ble_eq_true rfl) dX1_begin_12 (fun Hx3 locs hP hD hS => ?_)
  have hP : va_P (dC, dI) vwCl [(h0, .inr (1, [.ref a1, .int 0, .int h0_2, .int h0_3, .int h0_4, .long h0_5, .int h0_6])), (a1, .inl (yb, 2000, .inl f1))] Hx3 := hP
  have hD : va_D A [(h0, .inr (1, [.ref a1, .int 0, .int h0_2, .int h0_3, .int h0_4, .long h0_5, .int h0_6])), (a1, .inl (yb, 2000, .inl f1))] := hD
  refine lv_aload_n hx hb dX1_begin_15 rfl (lv_at hl 0 rfl) ?_
  refine lv_iconst (v := 0) hx hb dX1_begin_16 (by decide) ?_
  refine va_put (D := (dC, dI)) (ci := 1) (v := .int 0) (ty := .int) (C := RX1) (T := TX1) (N := 7) hx hb hts inX1_ tyX1 tyX1_ok nmX1 hown hK hP hD hS 0 rfl rfl 2 (by decide) (hts (.fieldLink RX1 23 "GateWheel$Lexer" "next" "I") (List.mem_of_getElem? (i := 7) rfl)) (fun _ h9 => h9) rfl (by decide +kernel) rfl rfl (Nat.le_of_ble_eq_true rfl) dX1_begin_17 (fun Hx4 locs hP hD hS => ?_)
  have hP : va_P (dC, dI) vwCl [(h0, .inr (1, [.ref a1, .int 0, .int 0, .int h0_3, .int h0_4, .long h0_5, .int h0_6])), (a1, .inl (yb, 2000, .inl f1))] Hx4 := hP
  have hD : va_D A [(h0, .inr (1, [.ref a1, .int 0, .int 0, .int h0_3, .int h0_4, .long h0_5, .int h0_6])), (a1, .inl (yb, 2000, .inl f1))] := hD
  have hP9 := hP.sub (ws' := [(h0, .inr (1, [.ref a1, .int 0, .int 0, .int h0_3, .int h0_4, .long h0_5, .int h0_6])), (a1, .inl (yb, 2000, .inl f1))]) [0, 1] rfl
  have hD9 := hD.sub (ws' := [(h0, .inr (1, [.ref a1, .int 0, .int 0, .int h0_3, .int h0_4, .long h0_5, .int h0_6])), (a1, .inl (yb, 2000, .inl f1))]) [0, 1] (by decide) rfl
  have hK9 := hK.sub (tys' := [(yb, .byte)]) [0] rfl
  exact W.vret hx hb hr (fun t ht hW => ⟨⟨(), rfl, trivial, by rw [ht]; exact hP9, va_K.moved hW.alike hK9, hD9⟩, hS.F ht⟩) hS.2.2 dX1_begin_20

set_option maxHeartbeats 4000000 in
set_option maxRecDepth 100000 in
theorem c_X1_advance (l : Launch) (dC : Nat → ClassId) (dI : Nat → Nat → Nat) (h0 : Nat) (h0_0 : Nat) (h0_3 : Int32) (h0_4 : Int32) (h0_5 : Int64) (h0_6 : Int32) (sz : Nat) : Met l yX1_advance wsX1_advance ({ frames := 0, cells := 0, slots := 0, locals := 0 }) (va_Pc [.ref h0] (fun U => U.heap.size = sz ∧ va_P (dC, dI) vwCl [(h0, .inr (1, [.ref h0_0, .int 0, .int 0, .int h0_3, .int h0_4, .long h0_5, .int h0_6]))] U.heap ∧ va_K (dC, dI) vwCl [] U ∧ va_D (fun _ => True) [(h0, .inr (1, [.ref h0_0, .int 0, .int 0, .int h0_3, .int h0_4, .long h0_5, .int h0_6]))])) (va_Qv (fun (_ : Unit) => True) (fun (_ : Unit) (t : State) => va_P (dC, dI) vwCl [(h0, .inr (1, [.ref h0_0, .int 0, .int 0, .int 1, .int 0, .long h0_5, .int h0_6]))] t.heap ∧ va_K (dC, dI) vwCl [] t ∧ va_D (va_A [(h0, .inr (1, [.ref h0_0, .int 0, .int 0, .int h0_3, .int h0_4, .long h0_5, .int h0_6]))] sz) [(h0, .inr (1, [.ref h0_0, .int 0, .int 0, .int 1, .int 0, .long h0_5, .int h0_6]))]) (va_A [(h0, .inr (1, [.ref h0_0, .int 0, .int 0, .int h0_3, .int h0_4, .long h0_5, .int h0_6]))] sz)) 0 0 (va_A [(h0, .inr (1, [.ref h0_0, .int 0, .int 0, .int h0_3, .int h0_4, .long h0_5, .int h0_6]))] sz) := by
  refine Met.ofW (cc := cX1_advance) (maxL := 2) (ret := none) (by decide) rfl ?_
  intro p e s m args below meth c s₁ B hml hv
  obtain ⟨rfl, hsz, hP, hK, hD0⟩ := hv
  have hx := B.exec
  have hb := B.bytes
  have hr := B.returns
  have hts := atoms_spec (ws := wsX1_advance) B.pre
  have hown : s.vm.findClass RX1 = some m.cls := findClass_of_methodNamed B.named
  have hlocks := B.notSynchronized
  have inX1_ : ∀ w ∈ wsX10, w ∈ wsX1_advance := fun _ h => List.mem_cons_of_mem _ (List.mem_append_right _ h)
  subst hsz
  have hD := hD0.self (sz := s.heap.size)
  generalize hAe : va_A [(h0, .inr (1, [.ref h0_0, .int 0, .int 0, .int h0_3, .int h0_4, .long h0_5, .int h0_6]))] s.heap.size = A at hD ⊢
  have hA : ∀ q : Nat, s.heap.size ≤ q → A q := fun q h => by rw [← hAe]; exact Or.inr h
  have hS : va_S A s.heap s.heap [] := va_S.rf
  have hP : va_P (dC, dI) vwCl [(h0, .inr (1, [.ref h0_0, .int 0, .int 0, .int h0_3, .int h0_4, .long h0_5, .int h0_6]))] s.heap := hP
  have hl := lv_entry ([.ref h0]) (n := 2) (Nat.le_of_ble_eq_true rfl)
  rw [lg_entry_eq]
  generalize (lg_sl ([.ref h0]) ++ List.replicate (2 - (lg_sl ([.ref h0])).length) Slot.unset).toArray = ls at hl ⊢
  have hl : lv_has ls 2 [(0, .ref h0)] := hl
  refine lv_aload_n hx hb dX1_advance_0 rfl (lv_at hl 0 rfl) ?_
  refine va_get (D := (dC, dI)) (ci := 1) (v := .int 0) (C := RX1) (T := TX1) (N := 7) hx hb hts inX1_ hown hK hP 0 rfl rfl 2 (by decide) (hts (.fieldLink RX1 23 "GateWheel$Lexer" "next" "I") (List.mem_of_getElem? (i := 1) rfl)) (fun _ h9 => h9) rfl dX1_advance_1 ?_
  refine lv_aload_n hx hb dX1_advance_4 rfl (lv_at hl 0 rfl) ?_
  refine va_get (D := (dC, dI)) (ci := 1) (v := .int 0) (C := RX1) (T := TX1) (N := 7) hx hb hts inX1_ hown hK hP 0 rfl rfl 1 (by decide) (hts (.fieldLink RX1 19 "GateWheel$Lexer" "length" "I") (List.mem_of_getElem? (i := 2) rfl)) (fun _ h9 => h9) rfl dX1_advance_5 ?_
  refine lv_icmp_ge (tgt := 39) hx hb dX1_advance_8 (by decide) (fun _ => ?_) (fun hc => absurd (by decide) hc)
  refine lv_aload_n hx hb dX1_advance_39 rfl (lv_at hl 0 rfl) ?_
  refine lv_aload_n hx hb dX1_advance_40 rfl (lv_at hl 0 rfl) ?_
  refine va_get (D := (dC, dI)) (ci := 1) (v := .int 0) (C := RX1) (T := TX1) (N := 7) hx hb hts inX1_ hown hK hP 0 rfl rfl 2 (by decide) (hts (.fieldLink RX1 23 "GateWheel$Lexer" "next" "I") (List.mem_of_getElem? (i := 1) rfl)) (fun _ h9 => h9) rfl dX1_advance_41 ?_
  refine va_put (D := (dC, dI)) (ci := 1) (v := .int 0) (ty := .int) (C := RX1) (T := TX1) (N := 7) hx hb hts inX1_ tyX1 tyX1_ok nmX1 hown hK hP hD hS 0 rfl rfl 4 (by decide) (hts (.fieldLink RX1 30 "GateWheel$Lexer" "start" "I") (List.mem_of_getElem? (i := 4) rfl)) (fun _ h9 => h9) rfl (by decide +kernel) rfl rfl (Nat.le_of_ble_eq_true rfl) dX1_advance_44 (fun Hx1 locs hP hD hS => ?_)
  have hP : va_P (dC, dI) vwCl [(h0, .inr (1, [.ref h0_0, .int 0, .int 0, .int h0_3, .int 0, .long h0_5, .int h0_6]))] Hx1 := hP
  have hD : va_D A [(h0, .inr (1, [.ref h0_0, .int 0, .int 0, .int h0_3, .int 0, .long h0_5, .int h0_6]))] := hD
  refine lv_aload_n hx hb dX1_advance_47 rfl (lv_at hl 0 rfl) ?_
  refine va_get (D := (dC, dI)) (ci := 1) (v := .int 0) (C := RX1) (T := TX1) (N := 7) hx hb hts inX1_ hown hK hP 0 rfl rfl 2 (by decide) (hts (.fieldLink RX1 23 "GateWheel$Lexer" "next" "I") (List.mem_of_getElem? (i := 1) rfl)) (fun _ h9 => h9) rfl dX1_advance_48 ?_
  refine lv_aload_n hx hb dX1_advance_51 rfl (lv_at hl 0 rfl) ?_
  refine va_get (D := (dC, dI)) (ci := 1) (v := .int 0) (C := RX1) (T := TX1) (N := 7) hx hb hts inX1_ hown hK hP 0 rfl rfl 1 (by decide) (hts (.fieldLink RX1 19 "GateWheel$Lexer" "length" "I") (List.mem_of_getElem? (i := 2) rfl)) (fun _ h9 => h9) rfl dX1_advance_52 ?_
  refine lv_icmp_lt (tgt := 64) hx hb dX1_advance_55 (by decide) (fun hc => absurd hc (by decide)) (fun _ => ?_)
  refine lv_aload_n hx hb dX1_advance_58 rfl (lv_at hl 0 rfl) ?_
  refine lv_iconst (v := 1) hx hb dX1_advance_59 (by decide) ?_
  refine va_put (D := (dC, dI)) (ci := 1) (v := .int 1) (ty := .int) (C := RX1) (T := TX1) (N := 7) hx hb hts inX1_ tyX1 tyX1_ok nmX1 hown hK hP hD hS 0 rfl rfl 3 (by decide) (hts (.fieldLink RX1 33 "GateWheel$Lexer" "kind" "I") (List.mem_of_getElem? (i := 5) rfl)) (fun _ h9 => h9) rfl (by decide +kernel) rfl rfl (Nat.le_of_ble_eq_true rfl) dX1_advance_60 (fun Hx2 locs hP hD hS => ?_)
  have hP : va_P (dC, dI) vwCl [(h0, .inr (1, [.ref h0_0, .int 0, .int 0, .int 1, .int 0, .long h0_5, .int h0_6]))] Hx2 := hP
  have hD : va_D A [(h0, .inr (1, [.ref h0_0, .int 0, .int 0, .int 1, .int 0, .long h0_5, .int h0_6]))] := hD
  have hP9 := hP.sub (ws' := [(h0, .inr (1, [.ref h0_0, .int 0, .int 0, .int 1, .int 0, .long h0_5, .int h0_6]))]) [0] rfl
  have hD9 := hD.sub (ws' := [(h0, .inr (1, [.ref h0_0, .int 0, .int 0, .int 1, .int 0, .long h0_5, .int h0_6]))]) [0] (by decide) rfl
  have hK9 := hK.sub (tys' := []) [] rfl
  exact W.vret hx hb hr (fun t ht hW => ⟨⟨(), rfl, trivial, by rw [ht]; exact hP9, va_K.moved hW.alike hK9, hD9⟩, hS.F ht⟩) hS.2.2 dX1_advance_63

set_option maxHeartbeats 4000000 in
set_option maxRecDepth 100000 in
theorem c_X3_takeTokens (l : Launch) (dC : Nat → ClassId) (dI : Nat → Nat → Nat) (h0 : Nat) (h1 : Nat) (h0_0 : Int32) (h0_1 : Int32) (h0_3 : Nat) (h0_4 : Int32) (h0_5 : Int32) (h0_6 : Int64) (h0_7 : Int32) (h0_8 : Int32) (h0_9 : Int32) (h0_10 : Int32) (h0_11 : Int32) (h0_12 : Nat) (h0_13 : Nat) (h0_14 : Nat) (h0_15 : Int32) (h0_16 : Nat) (h1_0 : Nat) (h1_3 : Int32) (h1_4 : Int32) (h1_5 : Int64) (h1_6 : Int32) (sz : Nat) : Met l yX3_takeTokens wsX3_takeTokens ({ frames := 1, cells := 0, slots := 0, locals := 21 }) (va_Pc [.ref h0] (fun U => U.heap.size = sz ∧ va_P (dC, dI) vwCl [(h0, .inr (2, [.int h0_0, .int h0_1, .ref h1, .ref h0_3, .int h0_4, .int h0_5, .long h0_6, .int h0_7, .int h0_8, .int h0_9, .int h0_10, .int h0_11, .ref h0_12, .ref h0_13, .ref h0_14, .int h0_15, .ref h0_16])), (h1, .inr (1, [.ref h1_0, .int 0, .int 0, .int h1_3, .int h1_4, .long h1_5, .int h1_6]))] U.heap ∧ va_K (dC, dI) vwCl [] U ∧ va_D (fun _ => True) [(h0, .inr (2, [.int h0_0, .int h0_1, .ref h1, .ref h0_3, .int h0_4, .int h0_5, .long h0_6, .int h0_7, .int h0_8, .int h0_9, .int h0_10, .int h0_11, .ref h0_12, .ref h0_13, .ref h0_14, .int h0_15, .ref h0_16])), (h1, .inr (1, [.ref h1_0, .int 0, .int 0, .int h1_3, .int h1_4, .long h1_5, .int h1_6]))])) (va_Qi (fun (r : Int32) (_ : Unit) => r = 1) (fun (_ : Unit) (t : State) => va_P (dC, dI) vwCl [(h0, .inr (2, [.int h0_0, .int h0_1, .ref h1, .ref h0_3, .int 0, .int h0_5, .long h0_6, .int h0_7, .int h0_8, .int h0_9, .int h0_10, .int h0_11, .ref h0_12, .ref h0_13, .ref h0_14, .int h0_15, .ref h0_16])), (h1, .inr (1, [.ref h1_0, .int 0, .int 0, .int 1, .int 0, .long h1_5, .int h1_6]))] t.heap ∧ va_K (dC, dI) vwCl [] t ∧ va_D (va_A [(h0, .inr (2, [.int h0_0, .int h0_1, .ref h1, .ref h0_3, .int h0_4, .int h0_5, .long h0_6, .int h0_7, .int h0_8, .int h0_9, .int h0_10, .int h0_11, .ref h0_12, .ref h0_13, .ref h0_14, .int h0_15, .ref h0_16])), (h1, .inr (1, [.ref h1_0, .int 0, .int 0, .int h1_3, .int h1_4, .long h1_5, .int h1_6]))] sz) [(h0, .inr (2, [.int h0_0, .int h0_1, .ref h1, .ref h0_3, .int 0, .int h0_5, .long h0_6, .int h0_7, .int h0_8, .int h0_9, .int h0_10, .int h0_11, .ref h0_12, .ref h0_13, .ref h0_14, .int h0_15, .ref h0_16])), (h1, .inr (1, [.ref h1_0, .int 0, .int 0, .int 1, .int 0, .long h1_5, .int h1_6]))]) (va_A [(h0, .inr (2, [.int h0_0, .int h0_1, .ref h1, .ref h0_3, .int h0_4, .int h0_5, .long h0_6, .int h0_7, .int h0_8, .int h0_9, .int h0_10, .int h0_11, .ref h0_12, .ref h0_13, .ref h0_14, .int h0_15, .ref h0_16])), (h1, .inr (1, [.ref h1_0, .int 0, .int 0, .int h1_3, .int h1_4, .long h1_5, .int h1_6]))] sz)) 0 0 (va_A [(h0, .inr (2, [.int h0_0, .int h0_1, .ref h1, .ref h0_3, .int h0_4, .int h0_5, .long h0_6, .int h0_7, .int h0_8, .int h0_9, .int h0_10, .int h0_11, .ref h0_12, .ref h0_13, .ref h0_14, .int h0_15, .ref h0_16])), (h1, .inr (1, [.ref h1_0, .int 0, .int 0, .int h1_3, .int h1_4, .long h1_5, .int h1_6]))] sz) := by
  refine Met.ofW (cc := cX3_takeTokens) (maxL := 2) (ret := (some .boolean)) (by decide) rfl ?_
  intro p e s m args below meth c s₁ B hml hv
  obtain ⟨rfl, hsz, hP, hK, hD0⟩ := hv
  have hx := B.exec
  have hb := B.bytes
  have hr := B.returns
  have hts := atoms_spec (ws := wsX3_takeTokens) B.pre
  have hown : s.vm.findClass RX3 = some m.cls := findClass_of_methodNamed B.named
  have hlocks := B.notSynchronized
  have inX1_ : ∀ w ∈ wsX10, w ∈ wsX3_takeTokens := fun _ h => List.mem_cons_of_mem _ (List.mem_append_left _ (List.mem_append_right _ h))
  have inX3_ : ∀ w ∈ wsX30, w ∈ wsX3_takeTokens := fun _ h => List.mem_cons_of_mem _ (List.mem_append_left _ (List.mem_append_left _ (List.mem_append_right _ h)))
  subst hsz
  have hD := hD0.self (sz := s.heap.size)
  generalize hAe : va_A [(h0, .inr (2, [.int h0_0, .int h0_1, .ref h1, .ref h0_3, .int h0_4, .int h0_5, .long h0_6, .int h0_7, .int h0_8, .int h0_9, .int h0_10, .int h0_11, .ref h0_12, .ref h0_13, .ref h0_14, .int h0_15, .ref h0_16])), (h1, .inr (1, [.ref h1_0, .int 0, .int 0, .int h1_3, .int h1_4, .long h1_5, .int h1_6]))] s.heap.size = A at hD ⊢
  have hA : ∀ q : Nat, s.heap.size ≤ q → A q := fun q h => by rw [← hAe]; exact Or.inr h
  have hS : va_S A s.heap s.heap [] := va_S.rf
  have hP : va_P (dC, dI) vwCl [(h0, .inr (2, [.int h0_0, .int h0_1, .ref h1, .ref h0_3, .int h0_4, .int h0_5, .long h0_6, .int h0_7, .int h0_8, .int h0_9, .int h0_10, .int h0_11, .ref h0_12, .ref h0_13, .ref h0_14, .int h0_15, .ref h0_16])), (h1, .inr (1, [.ref h1_0, .int 0, .int 0, .int h1_3, .int h1_4, .long h1_5, .int h1_6]))] s.heap := hP
  have hl := lv_entry ([.ref h0]) (n := 2) (Nat.le_of_ble_eq_true rfl)
  rw [lg_entry_eq]
  generalize (lg_sl ([.ref h0]) ++ List.replicate (2 - (lg_sl ([.ref h0])).length) Slot.unset).toArray = ls at hl ⊢
  have hl : lv_has ls 2 [(0, .ref h0)] := hl
  refine lv_aload_n hx hb dX3_takeTokens_0 rfl (lv_at hl 0 rfl) ?_
  refine lv_iconst (v := 0) hx hb dX3_takeTokens_1 (by decide) ?_
  refine va_put (D := (dC, dI)) (ci := 2) (v := .int 0) (ty := .int) (C := RX3) (T := TX3) (N := 17) hx hb hts inX3_ tyX3 tyX3_ok nmX3 hown hK hP hD hS 0 rfl rfl 4 (by decide) (hts (.fieldLink RX3 68 "GateWheel$Reader" "state" "I") (List.mem_of_getElem? (i := 1) rfl)) (fun _ h9 => h9) rfl (by decide +kernel) rfl rfl (Nat.le_of_ble_eq_true rfl) dX3_takeTokens_2 (fun Hx1 locs hP hD hS => ?_)
  have hP : va_P (dC, dI) vwCl [(h0, .inr (2, [.int h0_0, .int h0_1, .ref h1, .ref h0_3, .int 0, .int h0_5, .long h0_6, .int h0_7, .int h0_8, .int h0_9, .int h0_10, .int h0_11, .ref h0_12, .ref h0_13, .ref h0_14, .int h0_15, .ref h0_16])), (h1, .inr (1, [.ref h1_0, .int 0, .int 0, .int h1_3, .int h1_4, .long h1_5, .int h1_6]))] Hx1 := hP
  have hD : va_D A [(h0, .inr (2, [.int h0_0, .int h0_1, .ref h1, .ref h0_3, .int 0, .int h0_5, .long h0_6, .int h0_7, .int h0_8, .int h0_9, .int h0_10, .int h0_11, .ref h0_12, .ref h0_13, .ref h0_14, .int h0_15, .ref h0_16])), (h1, .inr (1, [.ref h1_0, .int 0, .int 0, .int h1_3, .int h1_4, .long h1_5, .int h1_6]))] := hD
  refine lv_aload_n hx hb dX3_takeTokens_5 rfl (lv_at hl 0 rfl) ?_
  refine va_get (D := (dC, dI)) (ci := 2) (v := .ref h1) (C := RX3) (T := TX3) (N := 17) hx hb hts inX3_ hown hK hP 0 rfl rfl 2 (by decide) (hts (.fieldLink RX3 18 "GateWheel$Reader" "lexer" "LGateWheel$Lexer;") (List.mem_of_getElem? (i := 2) rfl)) (fun _ h9 => h9) rfl dX3_takeTokens_6 ?_
  have hPc := hP.sub (ws' := [(h1, .inr (1, [.ref h1_0, .int 0, .int 0, .int h1_3, .int h1_4, .long h1_5, .int h1_6]))]) [1] rfl
  have hDc := hD.sub (ws' := [(h1, .inr (1, [.ref h1_0, .int 0, .int 0, .int h1_3, .int h1_4, .long h1_5, .int h1_6]))]) [1] (by decide) rfl
  have hKc := hK.sub (tys' := []) [] rfl
  have hFc := va_free (wc := [(h1, .inr (1, [.ref h1_0, .int 0, .int 0, .int h1_3, .int h1_4, .long h1_5, .int h1_6]))]) hD hS hA [1] rfl
  refine va_callv (va_runV (As := []) (rest := []) ⟨hx, hb, hml, hown, hts⟩ (c_X1_advance l dC dI h1 h1_0 h1_3 h1_4 h1_5 h1_6 Hx1.size) (cwV 0 hts gX3_takeTokens_X1_advance rfl rfl rfl (by decide +kernel) ⟨Nat.le_of_ble_eq_true rfl, Nat.le_of_ble_eq_true rfl⟩) ⟨fun a U g mk q => by obtain ⟨q0, q1, qP, qK, qD⟩ := q; exact ⟨q0, q1, qP, va_K.moved (u := U) (U := U.calling g mk a) (Vm.Alike.refl U.vm) qK, qD⟩, va_recv hKc hPc (ci := 1) (q0 := 0) rfl rfl, fun U hU hW => ⟨rfl, by rw [hU], by rw [hU]; exact hPc, va_K.moved hW.alike hKc, hDc.weaken (fun _ _ _ _ => trivial)⟩⟩ rfl rfl hl.1 rfl (lv_room (Nat.le_of_ble_eq_true rfl)) dX3_takeTokens_9 ⟨Nat.le_of_ble_eq_true rfl, Nat.le_of_ble_eq_true rfl⟩) hS (fun q _ h => hFc q h) hFc (fun u t Hx2 locs ht hvm hw hB hz1 hk1 hS => ?_)
  obtain ⟨hP1, hK1, hD1⟩ := hB
  rw [ht] at hP1
  have hK1 := va_K.moved hvm.symm hK1
  obtain ⟨hP, hD⟩ := va_join (wr := [(h0, .inr (2, [.int h0_0, .int h0_1, .ref h1, .ref h0_3, .int 0, .int h0_5, .long h0_6, .int h0_7, .int h0_8, .int h0_9, .int h0_10, .int h0_11, .ref h0_12, .ref h0_13, .ref h0_14, .int h0_15, .ref h0_16]))]) (w1 := [(h1, .inr (1, [.ref h1_0, .int 0, .int 0, .int 1, .int 0, .long h1_5, .int h1_6]))]) hP hD [1] [0] rfl rfl (by decide) (by decide) hk1 hFc hP1 hD1
  have hK := (hK.sub (tys' := []) [] rfl).app hK1
  have hP : va_P (dC, dI) vwCl [(h0, .inr (2, [.int h0_0, .int h0_1, .ref h1, .ref h0_3, .int 0, .int h0_5, .long h0_6, .int h0_7, .int h0_8, .int h0_9, .int h0_10, .int h0_11, .ref h0_12, .ref h0_13, .ref h0_14, .int h0_15, .ref h0_16])), (h1, .inr (1, [.ref h1_0, .int 0, .int 0, .int 1, .int 0, .long h1_5, .int h1_6]))] Hx2 := hP
  have hD : va_D A [(h0, .inr (2, [.int h0_0, .int h0_1, .ref h1, .ref h0_3, .int 0, .int h0_5, .long h0_6, .int h0_7, .int h0_8, .int h0_9, .int h0_10, .int h0_11, .ref h0_12, .ref h0_13, .ref h0_14, .int h0_15, .ref h0_16])), (h1, .inr (1, [.ref h1_0, .int 0, .int 0, .int 1, .int 0, .long h1_5, .int h1_6]))] := hD
  have hK : va_K (dC, dI) vwCl [] s := hK
  refine lv_iconst (v := 0) hx hb dX3_takeTokens_12 (by decide) ?_
  refine lv_istore_n (lv' := [(1, .int 0), (0, .ref h0)]) hx hb dX3_takeTokens_13 rfl hl (by decide) rfl (fun ls hl => ?_)
  refine lv_iload_n hx hb dX3_takeTokens_14 rfl (lv_at hl 0 rfl) ?_
  refine lv_sipush (v := 2000) hx hb dX3_takeTokens_15 (by decide) ?_
  refine lv_icmp_ge (tgt := 54) hx hb dX3_takeTokens_18 (by decide) (fun hc => absurd hc (by decide)) (fun _ => ?_)
  refine lv_aload_n hx hb dX3_takeTokens_21 rfl (lv_at hl 1 rfl) ?_
  refine va_get (D := (dC, dI)) (ci := 2) (v := .ref h1) (C := RX3) (T := TX3) (N := 17) hx hb hts inX3_ hown hK hP 0 rfl rfl 2 (by decide) (hts (.fieldLink RX3 18 "GateWheel$Reader" "lexer" "LGateWheel$Lexer;") (List.mem_of_getElem? (i := 2) rfl)) (fun _ h9 => h9) rfl dX3_takeTokens_22 ?_
  refine va_get (D := (dC, dI)) (ci := 1) (v := .int 1) (C := RX1) (T := TX1) (N := 7) hx hb hts inX1_ hown hK hP 1 rfl rfl 3 (by decide) (hts (.fieldLink RX3 74 "GateWheel$Lexer" "kind" "I") (List.mem_of_getElem? (i := 3) rfl)) (fun _ h9 => h9) rfl dX3_takeTokens_25 ?_
  refine lv_iconst (v := 1) hx hb dX3_takeTokens_28 (by decide) ?_
  refine lv_icmp_eq (tgt := 54) hx hb dX3_takeTokens_29 (by decide) (fun _ => ?_) (fun hc => absurd (by decide) hc)
  refine lv_aload_n hx hb dX3_takeTokens_54 rfl (lv_at hl 1 rfl) ?_
  refine va_get (D := (dC, dI)) (ci := 2) (v := .int 0) (C := RX3) (T := TX3) (N := 17) hx hb hts inX3_ hown hK hP 0 rfl rfl 4 (by decide) (hts (.fieldLink RX3 68 "GateWheel$Reader" "state" "I") (List.mem_of_getElem? (i := 1) rfl)) (fun _ h9 => h9) rfl dX3_takeTokens_55 ?_
  refine lv_if_eq (tgt := 68) hx hb dX3_takeTokens_58 (by decide) (fun _ => ?_) (fun hc => absurd (by decide) hc)
  refine lv_iconst (v := 1) hx hb dX3_takeTokens_68 (by decide) ?_
  refine lv_goto (tgt := 73) hx hb dX3_takeTokens_69 (by decide) ?_
  have hP9 := hP.sub (ws' := [(h0, .inr (2, [.int h0_0, .int h0_1, .ref h1, .ref h0_3, .int 0, .int h0_5, .long h0_6, .int h0_7, .int h0_8, .int h0_9, .int h0_10, .int h0_11, .ref h0_12, .ref h0_13, .ref h0_14, .int h0_15, .ref h0_16])), (h1, .inr (1, [.ref h1_0, .int 0, .int 0, .int 1, .int 0, .long h1_5, .int h1_6]))]) [0, 1] rfl
  have hD9 := hD.sub (ws' := [(h0, .inr (2, [.int h0_0, .int h0_1, .ref h1, .ref h0_3, .int 0, .int h0_5, .long h0_6, .int h0_7, .int h0_8, .int h0_9, .int h0_10, .int h0_11, .ref h0_12, .ref h0_13, .ref h0_14, .int h0_15, .ref h0_16])), (h1, .inr (1, [.ref h1_0, .int 0, .int 0, .int 1, .int 0, .long h1_5, .int h1_6]))]) [0, 1] (by decide) rfl
  have hK9 := hK.sub (tys' := []) [] rfl
  exact W.zret (v := 1) hx hb hr (by decide) (fun t ht hW => ⟨⟨1, (), rfl, rfl, by rw [ht]; exact hP9, va_K.moved hW.alike hK9, hD9⟩, hS.F ht⟩) hS.2.2 dX3_takeTokens_73

set_option maxHeartbeats 4000000 in
set_option maxRecDepth 100000 in
theorem c_X3_linkUses (l : Launch) (dC : Nat → ClassId) (dI : Nat → Nat → Nat) (h0 : Nat) (h0_0 : Int32) (h0_1 : Int32) (h0_2 : Nat) (h0_3 : Nat) (h0_4 : Int32) (h0_5 : Int32) (h0_6 : Int64) (h0_7 : Int32) (h0_8 : Int32) (h0_9 : Int32) (h0_10 : Int32) (h0_11 : Int32) (h0_12 : Nat) (h0_13 : Nat) (h0_14 : Nat) (h0_16 : Nat) (sz : Nat) : Met l yX3_linkUses wsX3_linkUses ({ frames := 0, cells := 0, slots := 0, locals := 0 }) (va_Pc [.ref h0] (fun U => U.heap.size = sz ∧ va_P (dC, dI) vwCl [(h0, .inr (2, [.int h0_0, .int h0_1, .ref h0_2, .ref h0_3, .int h0_4, .int h0_5, .long h0_6, .int h0_7, .int h0_8, .int h0_9, .int h0_10, .int h0_11, .ref h0_12, .ref h0_13, .ref h0_14, .int 0, .ref h0_16]))] U.heap ∧ va_K (dC, dI) vwCl [] U ∧ va_D (fun _ => True) [(h0, .inr (2, [.int h0_0, .int h0_1, .ref h0_2, .ref h0_3, .int h0_4, .int h0_5, .long h0_6, .int h0_7, .int h0_8, .int h0_9, .int h0_10, .int h0_11, .ref h0_12, .ref h0_13, .ref h0_14, .int 0, .ref h0_16]))])) (va_Qi (fun (r : Int32) (_ : Unit) => r = 1) (fun (_ : Unit) (t : State) => va_P (dC, dI) vwCl [(h0, .inr (2, [.int h0_0, .int h0_1, .ref h0_2, .ref h0_3, .int h0_4, .int h0_5, .long h0_6, .int h0_7, .int h0_8, .int h0_9, .int h0_10, .int h0_11, .ref h0_12, .ref h0_13, .ref h0_14, .int 0, .ref h0_16]))] t.heap ∧ va_K (dC, dI) vwCl [] t ∧ va_D (va_A [(h0, .inr (2, [.int h0_0, .int h0_1, .ref h0_2, .ref h0_3, .int h0_4, .int h0_5, .long h0_6, .int h0_7, .int h0_8, .int h0_9, .int h0_10, .int h0_11, .ref h0_12, .ref h0_13, .ref h0_14, .int 0, .ref h0_16]))] sz) [(h0, .inr (2, [.int h0_0, .int h0_1, .ref h0_2, .ref h0_3, .int h0_4, .int h0_5, .long h0_6, .int h0_7, .int h0_8, .int h0_9, .int h0_10, .int h0_11, .ref h0_12, .ref h0_13, .ref h0_14, .int 0, .ref h0_16]))]) (va_A [(h0, .inr (2, [.int h0_0, .int h0_1, .ref h0_2, .ref h0_3, .int h0_4, .int h0_5, .long h0_6, .int h0_7, .int h0_8, .int h0_9, .int h0_10, .int h0_11, .ref h0_12, .ref h0_13, .ref h0_14, .int 0, .ref h0_16]))] sz)) 0 0 (va_A [(h0, .inr (2, [.int h0_0, .int h0_1, .ref h0_2, .ref h0_3, .int h0_4, .int h0_5, .long h0_6, .int h0_7, .int h0_8, .int h0_9, .int h0_10, .int h0_11, .ref h0_12, .ref h0_13, .ref h0_14, .int 0, .ref h0_16]))] sz) := by
  refine Met.ofW (cc := cX3_linkUses) (maxL := 5) (ret := (some .boolean)) (by decide) rfl ?_
  intro p e s m args below meth c s₁ B hml hv
  obtain ⟨rfl, hsz, hP, hK, hD0⟩ := hv
  have hx := B.exec
  have hb := B.bytes
  have hr := B.returns
  have hts := atoms_spec (ws := wsX3_linkUses) B.pre
  have hown : s.vm.findClass RX3 = some m.cls := findClass_of_methodNamed B.named
  have hlocks := B.notSynchronized
  have inX3_ : ∀ w ∈ wsX30, w ∈ wsX3_linkUses := fun _ h => List.mem_cons_of_mem _ (List.mem_append_left _ (List.mem_append_right _ h))
  subst hsz
  have hD := hD0.self (sz := s.heap.size)
  generalize hAe : va_A [(h0, .inr (2, [.int h0_0, .int h0_1, .ref h0_2, .ref h0_3, .int h0_4, .int h0_5, .long h0_6, .int h0_7, .int h0_8, .int h0_9, .int h0_10, .int h0_11, .ref h0_12, .ref h0_13, .ref h0_14, .int 0, .ref h0_16]))] s.heap.size = A at hD ⊢
  have hA : ∀ q : Nat, s.heap.size ≤ q → A q := fun q h => by rw [← hAe]; exact Or.inr h
  have hS : va_S A s.heap s.heap [] := va_S.rf
  have hP : va_P (dC, dI) vwCl [(h0, .inr (2, [.int h0_0, .int h0_1, .ref h0_2, .ref h0_3, .int h0_4, .int h0_5, .long h0_6, .int h0_7, .int h0_8, .int h0_9, .int h0_10, .int h0_11, .ref h0_12, .ref h0_13, .ref h0_14, .int 0, .ref h0_16]))] s.heap := hP
  have hl := lv_entry ([.ref h0]) (n := 5) (Nat.le_of_ble_eq_true rfl)
  rw [lg_entry_eq]
  generalize (lg_sl ([.ref h0]) ++ List.replicate (5 - (lg_sl ([.ref h0])).length) Slot.unset).toArray = ls at hl ⊢
  have hl : lv_has ls 5 [(0, .ref h0)] := hl
  refine lv_iconst (v := (-1)) hx hb dX3_linkUses_0 (by decide) ?_
  refine lv_istore_n (lv' := [(1, .int (-1)), (0, .ref h0)]) hx hb dX3_linkUses_1 rfl hl (by decide) rfl (fun ls hl => ?_)
  refine lv_iconst (v := 0) hx hb dX3_linkUses_2 (by decide) ?_
  refine lv_istore_n (lv' := [(2, .int 0), (1, .int (-1)), (0, .ref h0)]) hx hb dX3_linkUses_3 rfl hl (by decide) rfl (fun ls hl => ?_)
  refine lv_iload_n hx hb dX3_linkUses_4 rfl (lv_at hl 0 rfl) ?_
  refine lv_aload_n hx hb dX3_linkUses_5 rfl (lv_at hl 2 rfl) ?_
  refine va_get (D := (dC, dI)) (ci := 2) (v := .int 0) (C := RX3) (T := TX3) (N := 17) hx hb hts inX3_ hown hK hP 0 rfl rfl 15 (by decide) (hts (.fieldLink RX3 48 "GateWheel$Reader" "uses" "I") (List.mem_of_getElem? (i := 1) rfl)) (fun _ h9 => h9) rfl dX3_linkUses_6 ?_
  refine lv_icmp_ge (tgt := 140) hx hb dX3_linkUses_9 (by decide) (fun _ => ?_) (fun hc => absurd (by decide) hc)
  refine lv_iconst (v := 1) hx hb dX3_linkUses_140 (by decide) ?_
  have hP9 := hP.sub (ws' := [(h0, .inr (2, [.int h0_0, .int h0_1, .ref h0_2, .ref h0_3, .int h0_4, .int h0_5, .long h0_6, .int h0_7, .int h0_8, .int h0_9, .int h0_10, .int h0_11, .ref h0_12, .ref h0_13, .ref h0_14, .int 0, .ref h0_16]))]) [0] rfl
  have hD9 := hD.sub (ws' := [(h0, .inr (2, [.int h0_0, .int h0_1, .ref h0_2, .ref h0_3, .int h0_4, .int h0_5, .long h0_6, .int h0_7, .int h0_8, .int h0_9, .int h0_10, .int h0_11, .ref h0_12, .ref h0_13, .ref h0_14, .int 0, .ref h0_16]))]) [0] (by decide) rfl
  have hK9 := hK.sub (tys' := []) [] rfl
  exact W.zret (v := 1) hx hb hr (by decide) (fun t ht hW => ⟨⟨1, (), rfl, rfl, by rw [ht]; exact hP9, va_K.moved hW.alike hK9, hD9⟩, hS.F ht⟩) hS.2.2 dX3_linkUses_141

set_option maxHeartbeats 4000000 in
set_option maxRecDepth 100000 in
theorem c_X3_checkLoops (l : Launch) (dC : Nat → ClassId) (dI : Nat → Nat → Nat) (h0 : Nat) (h1 : Nat) (a1 : Nat) (a2 : Nat) (h0_0 : Int32) (h0_1 : Int32) (h0_2 : Nat) (h0_4 : Int32) (h0_5 : Int32) (h0_6 : Int64) (h0_7 : Int32) (h0_8 : Int32) (h0_9 : Int32) (h0_10 : Int32) (h0_11 : Int32) (h0_12 : Nat) (h0_13 : Nat) (h0_14 : Nat) (h0_15 : Int32) (h1_1 : Int32) (h1_2 : Nat) (h1_3 : Nat) (h1_4 : Nat) (h1_5 : Nat) (h1_6 : Nat) (h1_7 : Nat) (h1_8 : Nat) (h1_9 : Nat) (h1_11 : Nat) (h1_12 : Nat) (yj1 : ClassId) (f1 : Nat → Int64) (yj2 : ClassId) (f2 : Nat → Int64) (sz : Nat) : Met l yX3_checkLoops wsX3_checkLoops ({ frames := 1, cells := 0, slots := 0, locals := 40 }) (va_Pc [.ref h0] (fun U => U.heap.size = sz ∧ va_P (dC, dI) vwCl [(h0, .inr (2, [.int h0_0, .int h0_1, .ref h0_2, .ref h1, .int h0_4, .int h0_5, .long h0_6, .int h0_7, .int h0_8, .int h0_9, .int h0_10, .int h0_11, .ref h0_12, .ref h0_13, .ref h0_14, .int h0_15, .ref a1])), (h1, .inr (0, [.int 0, .int h1_1, .ref h1_2, .ref h1_3, .ref h1_4, .ref h1_5, .ref h1_6, .ref h1_7, .ref h1_8, .ref h1_9, .ref a2, .ref h1_11, .ref h1_12])), (a1, .inl (yj1, 60, .inr (.inl f1))), (a2, .inl (yj2, 60, .inr (.inl f2)))] U.heap ∧ va_K (dC, dI) vwCl [(yj1, .long), (yj2, .long)] U ∧ va_D (fun _ => True) [(h0, .inr (2, [.int h0_0, .int h0_1, .ref h0_2, .ref h1, .int h0_4, .int h0_5, .long h0_6, .int h0_7, .int h0_8, .int h0_9, .int h0_10, .int h0_11, .ref h0_12, .ref h0_13, .ref h0_14, .int h0_15, .ref a1])), (h1, .inr (0, [.int 0, .int h1_1, .ref h1_2, .ref h1_3, .ref h1_4, .ref h1_5, .ref h1_6, .ref h1_7, .ref h1_8, .ref h1_9, .ref a2, .ref h1_11, .ref h1_12])), (a1, .inl (yj1, 60, .inr (.inl f1))), (a2, .inl (yj2, 60, .inr (.inl f2)))])) (va_Qi (fun (r : Int32) (_ : Unit) => r = 1) (fun (_ : Unit) (t : State) => ∃ (f3 : Nat → Int64), va_P (dC, dI) vwCl [(h0, .inr (2, [.int h0_0, .int h0_1, .ref h0_2, .ref h1, .int h0_4, .int h0_5, .long h0_6, .int h0_7, .int h0_8, .int h0_9, .int h0_10, .int h0_11, .ref h0_12, .ref h0_13, .ref h0_14, .int h0_15, .ref a1])), (h1, .inr (0, [.int 0, .int h1_1, .ref h1_2, .ref h1_3, .ref h1_4, .ref h1_5, .ref h1_6, .ref h1_7, .ref h1_8, .ref h1_9, .ref a2, .ref h1_11, .ref h1_12])), (a1, .inl (yj1, 60, .inr (.inl f3))), (a2, .inl (yj2, 60, .inr (.inl f2)))] t.heap ∧ va_K (dC, dI) vwCl [(yj1, .long), (yj2, .long)] t ∧ va_D (va_A [(h0, .inr (2, [.int h0_0, .int h0_1, .ref h0_2, .ref h1, .int h0_4, .int h0_5, .long h0_6, .int h0_7, .int h0_8, .int h0_9, .int h0_10, .int h0_11, .ref h0_12, .ref h0_13, .ref h0_14, .int h0_15, .ref a1])), (h1, .inr (0, [.int 0, .int h1_1, .ref h1_2, .ref h1_3, .ref h1_4, .ref h1_5, .ref h1_6, .ref h1_7, .ref h1_8, .ref h1_9, .ref a2, .ref h1_11, .ref h1_12])), (a1, .inl (yj1, 60, .inr (.inl f1))), (a2, .inl (yj2, 60, .inr (.inl f2)))] sz) [(h0, .inr (2, [.int h0_0, .int h0_1, .ref h0_2, .ref h1, .int h0_4, .int h0_5, .long h0_6, .int h0_7, .int h0_8, .int h0_9, .int h0_10, .int h0_11, .ref h0_12, .ref h0_13, .ref h0_14, .int h0_15, .ref a1])), (h1, .inr (0, [.int 0, .int h1_1, .ref h1_2, .ref h1_3, .ref h1_4, .ref h1_5, .ref h1_6, .ref h1_7, .ref h1_8, .ref h1_9, .ref a2, .ref h1_11, .ref h1_12])), (a1, .inl (yj1, 60, .inr (.inl f3))), (a2, .inl (yj2, 60, .inr (.inl f2)))]) (va_A [(h0, .inr (2, [.int h0_0, .int h0_1, .ref h0_2, .ref h1, .int h0_4, .int h0_5, .long h0_6, .int h0_7, .int h0_8, .int h0_9, .int h0_10, .int h0_11, .ref h0_12, .ref h0_13, .ref h0_14, .int h0_15, .ref a1])), (h1, .inr (0, [.int 0, .int h1_1, .ref h1_2, .ref h1_3, .ref h1_4, .ref h1_5, .ref h1_6, .ref h1_7, .ref h1_8, .ref h1_9, .ref a2, .ref h1_11, .ref h1_12])), (a1, .inl (yj1, 60, .inr (.inl f1))), (a2, .inl (yj2, 60, .inr (.inl f2)))] sz)) 0 0 (va_A [(h0, .inr (2, [.int h0_0, .int h0_1, .ref h0_2, .ref h1, .int h0_4, .int h0_5, .long h0_6, .int h0_7, .int h0_8, .int h0_9, .int h0_10, .int h0_11, .ref h0_12, .ref h0_13, .ref h0_14, .int h0_15, .ref a1])), (h1, .inr (0, [.int 0, .int h1_1, .ref h1_2, .ref h1_3, .ref h1_4, .ref h1_5, .ref h1_6, .ref h1_7, .ref h1_8, .ref h1_9, .ref a2, .ref h1_11, .ref h1_12])), (a1, .inl (yj1, 60, .inr (.inl f1))), (a2, .inl (yj2, 60, .inr (.inl f2)))] sz) := by
  refine Met.ofW (cc := cX3_checkLoops) (maxL := 4) (ret := (some .boolean)) (by decide) rfl ?_
  intro p e s m args below meth c s₁ B hml hv
  obtain ⟨rfl, hsz, hP, hK, hD0⟩ := hv
  have hx := B.exec
  have hb := B.bytes
  have hr := B.returns
  have hts := atoms_spec (ws := wsX3_checkLoops) B.pre
  have hown : s.vm.findClass RX3 = some m.cls := findClass_of_methodNamed B.named
  have hlocks := B.notSynchronized
  have inX0_ : ∀ w ∈ wsX00, w ∈ wsX3_checkLoops := fun _ h => List.mem_cons_of_mem _ (List.mem_append_right _ h)
  have inX3_ : ∀ w ∈ wsX30, w ∈ wsX3_checkLoops := fun _ h => List.mem_cons_of_mem _ (List.mem_append_left _ (List.mem_append_right _ h))
  subst hsz
  have hD := hD0.self (sz := s.heap.size)
  generalize hAe : va_A [(h0, .inr (2, [.int h0_0, .int h0_1, .ref h0_2, .ref h1, .int h0_4, .int h0_5, .long h0_6, .int h0_7, .int h0_8, .int h0_9, .int h0_10, .int h0_11, .ref h0_12, .ref h0_13, .ref h0_14, .int h0_15, .ref a1])), (h1, .inr (0, [.int 0, .int h1_1, .ref h1_2, .ref h1_3, .ref h1_4, .ref h1_5, .ref h1_6, .ref h1_7, .ref h1_8, .ref h1_9, .ref a2, .ref h1_11, .ref h1_12])), (a1, .inl (yj1, 60, .inr (.inl f1))), (a2, .inl (yj2, 60, .inr (.inl f2)))] s.heap.size = A at hD ⊢
  have hA : ∀ q : Nat, s.heap.size ≤ q → A q := fun q h => by rw [← hAe]; exact Or.inr h
  have hS : va_S A s.heap s.heap [] := va_S.rf
  have hP : va_P (dC, dI) vwCl [(h0, .inr (2, [.int h0_0, .int h0_1, .ref h0_2, .ref h1, .int h0_4, .int h0_5, .long h0_6, .int h0_7, .int h0_8, .int h0_9, .int h0_10, .int h0_11, .ref h0_12, .ref h0_13, .ref h0_14, .int h0_15, .ref a1])), (h1, .inr (0, [.int 0, .int h1_1, .ref h1_2, .ref h1_3, .ref h1_4, .ref h1_5, .ref h1_6, .ref h1_7, .ref h1_8, .ref h1_9, .ref a2, .ref h1_11, .ref h1_12])), (a1, .inl (yj1, 60, .inr (.inl f1))), (a2, .inl (yj2, 60, .inr (.inl f2)))] s.heap := hP
  have hl := lv_entry ([.ref h0]) (n := 4) (Nat.le_of_ble_eq_true rfl)
  rw [lg_entry_eq]
  generalize (lg_sl ([.ref h0]) ++ List.replicate (4 - (lg_sl ([.ref h0])).length) Slot.unset).toArray = ls at hl ⊢
  have hl : lv_has ls 4 [(0, .ref h0)] := hl
  refine lv_aload_n hx hb dX3_checkLoops_0 rfl (lv_at hl 0 rfl) ?_
  refine va_get (D := (dC, dI)) (ci := 2) (v := .ref h1) (C := RX3) (T := TX3) (N := 17) hx hb hts inX3_ hown hK hP 0 rfl rfl 3 (by decide) (hts (.fieldLink RX3 36 "GateWheel$Reader" "circuit" "LGateWheel$Circuit;") (List.mem_of_getElem? (i := 1) rfl)) (fun _ h9 => h9) rfl dX3_checkLoops_1 ?_
  refine va_get (D := (dC, dI)) (ci := 0) (v := .int 0) (C := RX0) (T := TX0) (N := 13) hx hb hts inX0_ hown hK hP 1 rfl rfl 0 (by decide) (hts (.fieldLink RX3 154 "GateWheel$Circuit" "count" "I") (List.mem_of_getElem? (i := 2) rfl)) (fun _ h9 => h9) rfl dX3_checkLoops_4 ?_
  refine lv_istore_n (lv' := [(1, .int 0), (0, .ref h0)]) hx hb dX3_checkLoops_7 rfl hl (by decide) rfl (fun ls hl => ?_)
  refine lv_aload_n hx hb dX3_checkLoops_8 rfl (lv_at hl 1 rfl) ?_
  refine va_get (D := (dC, dI)) (ci := 2) (v := .ref h1) (C := RX3) (T := TX3) (N := 17) hx hb hts inX3_ hown hK hP 0 rfl rfl 3 (by decide) (hts (.fieldLink RX3 36 "GateWheel$Reader" "circuit" "LGateWheel$Circuit;") (List.mem_of_getElem? (i := 1) rfl)) (fun _ h9 => h9) rfl dX3_checkLoops_9 ?_
  refine va_get (D := (dC, dI)) (ci := 0) (v := .ref a2) (C := RX0) (T := TX0) (N := 13) hx hb hts inX0_ hown hK hP 1 rfl rfl 10 (by decide) (hts (.fieldLink RX3 230 "GateWheel$Circuit" "hangs" "[J") (List.mem_of_getElem? (i := 3) rfl)) (fun _ h9 => h9) rfl dX3_checkLoops_12 ?_
  refine lv_iconst (v := 0) hx hb dX3_checkLoops_15 (by decide) ?_
  refine lv_aload_n hx hb dX3_checkLoops_16 rfl (lv_at hl 1 rfl) ?_
  refine va_get (D := (dC, dI)) (ci := 2) (v := .ref a1) (C := RX3) (T := TX3) (N := 17) hx hb hts inX3_ hown hK hP 0 rfl rfl 16 (by decide) (hts (.fieldLink RX3 33 "GateWheel$Reader" "reach" "[J") (List.mem_of_getElem? (i := 4) rfl)) (fun _ h9 => h9) rfl dX3_checkLoops_17 ?_
  refine lv_iconst (v := 0) hx hb dX3_checkLoops_20 (by decide) ?_
  refine lv_bipush (v := 60) hx hb dX3_checkLoops_21 (by decide) ?_
  refine va_copyl (ty := .long) hx hb (by rw [hml]; exact hl.1.symm) hown (hts (.methodLink RX3 233 arraycopyName) (List.mem_of_getElem? (i := 5) rfl)) (hts (.native arraycopyName) (List.mem_of_getElem? (i := 6) rfl)) (hts (.static arraycopyName) (List.mem_of_getElem? (i := 7) rfl)) (hts (.initialized "java/lang/System") (List.mem_of_getElem? (i := 8) rfl)) hK hP hD hS 3 2 1 0 rfl rfl rfl rfl rfl (by decide) (by decide) (by decide) (by decide) (by decide) (fun _ _ => rfl) (Nat.le_of_ble_eq_true rfl) (Nat.le_of_ble_eq_true rfl) dX3_checkLoops_23 (fun Hx1 locs hP hD hS => ?_)
  have hP : va_P (dC, dI) vwCl [(h0, .inr (2, [.int h0_0, .int h0_1, .ref h0_2, .ref h1, .int h0_4, .int h0_5, .long h0_6, .int h0_7, .int h0_8, .int h0_9, .int h0_10, .int h0_11, .ref h0_12, .ref h0_13, .ref h0_14, .int h0_15, .ref a1])), (h1, .inr (0, [.int 0, .int h1_1, .ref h1_2, .ref h1_3, .ref h1_4, .ref h1_5, .ref h1_6, .ref h1_7, .ref h1_8, .ref h1_9, .ref a2, .ref h1_11, .ref h1_12])), (a1, .inl (yj1, 60, .inr (.inl (va_cpy f2 f1 (0 : Int32).toNatClampNeg (0 : Int32).toNatClampNeg (60 : Int32).toNatClampNeg)))), (a2, .inl (yj2, 60, .inr (.inl f2)))] Hx1 := hP
  have hD : va_D A [(h0, .inr (2, [.int h0_0, .int h0_1, .ref h0_2, .ref h1, .int h0_4, .int h0_5, .long h0_6, .int h0_7, .int h0_8, .int h0_9, .int h0_10, .int h0_11, .ref h0_12, .ref h0_13, .ref h0_14, .int h0_15, .ref a1])), (h1, .inr (0, [.int 0, .int h1_1, .ref h1_2, .ref h1_3, .ref h1_4, .ref h1_5, .ref h1_6, .ref h1_7, .ref h1_8, .ref h1_9, .ref a2, .ref h1_11, .ref h1_12])), (a1, .inl (yj1, 60, .inr (.inl (va_cpy f2 f1 (0 : Int32).toNatClampNeg (0 : Int32).toNatClampNeg (60 : Int32).toNatClampNeg)))), (a2, .inl (yj2, 60, .inr (.inl f2)))] := hD
  generalize (va_cpy f2 f1 (0 : Int32).toNatClampNeg (0 : Int32).toNatClampNeg (60 : Int32).toNatClampNeg) = fx2 at hP hD
  refine lv_iconst (v := 0) hx hb dX3_checkLoops_26 (by decide) ?_
  refine lv_istore_n (lv' := [(2, .int 0), (1, .int 0), (0, .ref h0)]) hx hb dX3_checkLoops_27 rfl hl (by decide) rfl (fun ls hl => ?_)
  refine lv_iload_n hx hb dX3_checkLoops_28 rfl (lv_at hl 0 rfl) ?_
  refine lv_iload_n hx hb dX3_checkLoops_29 rfl (lv_at hl 1 rfl) ?_
  refine lv_icmp_ge (tgt := 82) hx hb dX3_checkLoops_30 (by decide) (fun _ => ?_) (fun hc => absurd (by decide) hc)
  refine lv_iconst (v := 0) hx hb dX3_checkLoops_82 (by decide) ?_
  refine lv_istore_n (lv' := [(2, .int 0), (1, .int 0), (0, .ref h0)]) hx hb dX3_checkLoops_83 rfl hl (by decide) rfl (fun ls hl => ?_)
  refine lv_iload_n hx hb dX3_checkLoops_84 rfl (lv_at hl 0 rfl) ?_
  refine lv_iload_n hx hb dX3_checkLoops_85 rfl (lv_at hl 1 rfl) ?_
  refine lv_icmp_ge (tgt := 125) hx hb dX3_checkLoops_86 (by decide) (fun _ => ?_) (fun hc => absurd (by decide) hc)
  refine lv_iconst (v := 1) hx hb dX3_checkLoops_125 (by decide) ?_
  have hP9 := hP.sub (ws' := [(h0, .inr (2, [.int h0_0, .int h0_1, .ref h0_2, .ref h1, .int h0_4, .int h0_5, .long h0_6, .int h0_7, .int h0_8, .int h0_9, .int h0_10, .int h0_11, .ref h0_12, .ref h0_13, .ref h0_14, .int h0_15, .ref a1])), (h1, .inr (0, [.int 0, .int h1_1, .ref h1_2, .ref h1_3, .ref h1_4, .ref h1_5, .ref h1_6, .ref h1_7, .ref h1_8, .ref h1_9, .ref a2, .ref h1_11, .ref h1_12])), (a1, .inl (yj1, 60, .inr (.inl fx2))), (a2, .inl (yj2, 60, .inr (.inl f2)))]) [0, 1, 2, 3] rfl
  have hD9 := hD.sub (ws' := [(h0, .inr (2, [.int h0_0, .int h0_1, .ref h0_2, .ref h1, .int h0_4, .int h0_5, .long h0_6, .int h0_7, .int h0_8, .int h0_9, .int h0_10, .int h0_11, .ref h0_12, .ref h0_13, .ref h0_14, .int h0_15, .ref a1])), (h1, .inr (0, [.int 0, .int h1_1, .ref h1_2, .ref h1_3, .ref h1_4, .ref h1_5, .ref h1_6, .ref h1_7, .ref h1_8, .ref h1_9, .ref a2, .ref h1_11, .ref h1_12])), (a1, .inl (yj1, 60, .inr (.inl fx2))), (a2, .inl (yj2, 60, .inr (.inl f2)))]) [0, 1, 2, 3] (by decide) rfl
  have hK9 := hK.sub (tys' := [(yj1, .long), (yj2, .long)]) [0, 1] rfl
  exact W.zret (v := 1) hx hb hr (by decide) (fun t ht hW => ⟨⟨1, (), rfl, rfl, fx2, by rw [ht]; exact hP9, va_K.moved hW.alike hK9, hD9⟩, hS.F ht⟩) hS.2.2 dX3_checkLoops_126

set_option maxHeartbeats 4000000 in
set_option maxRecDepth 100000 in
theorem c_X3_readInto (l : Launch) (dC : Nat → ClassId) (dI : Nat → Nat → Nat) (h0 : Nat) (h1 : Nat) (h2 : Nat) (a1 : Nat) (a2 : Nat) (a3 : Nat) (h0_0 : Int32) (h0_1 : Int32) (h0_4 : Int32) (h0_5 : Int32) (h0_6 : Int64) (h0_7 : Int32) (h0_8 : Int32) (h0_9 : Int32) (h0_10 : Int32) (h0_11 : Int32) (h0_12 : Nat) (h0_13 : Nat) (h0_14 : Nat) (h0_15 : Int32) (h1_0 : Int32) (h1_1 : Int32) (h1_2 : Nat) (h1_3 : Nat) (h1_4 : Nat) (h1_5 : Nat) (h1_6 : Nat) (h1_7 : Nat) (h1_8 : Nat) (h1_9 : Nat) (h1_11 : Nat) (h1_12 : Nat) (h2_1 : Int32) (h2_2 : Int32) (h2_3 : Int32) (h2_4 : Int32) (h2_5 : Int64) (h2_6 : Int32) (yj1 : ClassId) (f1 : Nat → Int64) (yj2 : ClassId) (f2 : Nat → Int64) (yb : ClassId) (f4 : Nat → Int32) (sz : Nat) : Met l yX3_readInto wsX3_readInto ({ frames := 2, cells := 0, slots := 0, locals := 63 }) (va_Pc [.ref h0, .ref h1, .ref a3, .int 0] (fun U => U.heap.size = sz ∧ va_P (dC, dI) vwCl [(h0, .inr (2, [.int h0_0, .int h0_1, .ref h2, .null, .int h0_4, .int h0_5, .long h0_6, .int h0_7, .int h0_8, .int h0_9, .int h0_10, .int h0_11, .ref h0_12, .ref h0_13, .ref h0_14, .int h0_15, .ref a1])), (h1, .inr (0, [.int h1_0, .int h1_1, .ref h1_2, .ref h1_3, .ref h1_4, .ref h1_5, .ref h1_6, .ref h1_7, .ref h1_8, .ref h1_9, .ref a2, .ref h1_11, .ref h1_12])), (h2, .inr (1, [.null, .int h2_1, .int h2_2, .int h2_3, .int h2_4, .long h2_5, .int h2_6])), (a1, .inl (yj1, 60, .inr (.inl f1))), (a2, .inl (yj2, 60, .inr (.inl f2))), (a3, .inl (yb, 2000, .inl f4))] U.heap ∧ va_K (dC, dI) vwCl [(yj1, .long), (yj2, .long), (yb, .byte)] U ∧ va_D (fun _ => True) [(h0, .inr (2, [.int h0_0, .int h0_1, .ref h2, .null, .int h0_4, .int h0_5, .long h0_6, .int h0_7, .int h0_8, .int h0_9, .int h0_10, .int h0_11, .ref h0_12, .ref h0_13, .ref h0_14, .int h0_15, .ref a1])), (h1, .inr (0, [.int h1_0, .int h1_1, .ref h1_2, .ref h1_3, .ref h1_4, .ref h1_5, .ref h1_6, .ref h1_7, .ref h1_8, .ref h1_9, .ref a2, .ref h1_11, .ref h1_12])), (h2, .inr (1, [.null, .int h2_1, .int h2_2, .int h2_3, .int h2_4, .long h2_5, .int h2_6])), (a1, .inl (yj1, 60, .inr (.inl f1))), (a2, .inl (yj2, 60, .inr (.inl f2))), (a3, .inl (yb, 2000, .inl f4))])) (va_Qi (fun (r : Int32) (_ : Unit) => r = 1) (fun (_ : Unit) (t : State) => ∃ (f3 : Nat → Int64), va_P (dC, dI) vwCl [(h0, .inr (2, [.int 0, .int (-1), .ref h2, .ref h1, .int 0, .int h0_5, .long h0_6, .int h0_7, .int h0_8, .int h0_9, .int h0_10, .int h0_11, .ref h0_12, .ref h0_13, .ref h0_14, .int 0, .ref a1])), (h1, .inr (0, [.int 0, .int 0, .ref h1_2, .ref h1_3, .ref h1_4, .ref h1_5, .ref h1_6, .ref h1_7, .ref h1_8, .ref h1_9, .ref a2, .ref h1_11, .ref h1_12])), (h2, .inr (1, [.ref a3, .int 0, .int 0, .int 1, .int 0, .long h2_5, .int h2_6])), (a1, .inl (yj1, 60, .inr (.inl f3))), (a2, .inl (yj2, 60, .inr (.inl f2))), (a3, .inl (yb, 2000, .inl f4))] t.heap ∧ va_K (dC, dI) vwCl [(yj1, .long), (yj2, .long), (yb, .byte)] t ∧ va_D (va_A [(h0, .inr (2, [.int h0_0, .int h0_1, .ref h2, .null, .int h0_4, .int h0_5, .long h0_6, .int h0_7, .int h0_8, .int h0_9, .int h0_10, .int h0_11, .ref h0_12, .ref h0_13, .ref h0_14, .int h0_15, .ref a1])), (h1, .inr (0, [.int h1_0, .int h1_1, .ref h1_2, .ref h1_3, .ref h1_4, .ref h1_5, .ref h1_6, .ref h1_7, .ref h1_8, .ref h1_9, .ref a2, .ref h1_11, .ref h1_12])), (h2, .inr (1, [.null, .int h2_1, .int h2_2, .int h2_3, .int h2_4, .long h2_5, .int h2_6])), (a1, .inl (yj1, 60, .inr (.inl f1))), (a2, .inl (yj2, 60, .inr (.inl f2))), (a3, .inl (yb, 2000, .inl f4))] sz) [(h0, .inr (2, [.int 0, .int (-1), .ref h2, .ref h1, .int 0, .int h0_5, .long h0_6, .int h0_7, .int h0_8, .int h0_9, .int h0_10, .int h0_11, .ref h0_12, .ref h0_13, .ref h0_14, .int 0, .ref a1])), (h1, .inr (0, [.int 0, .int 0, .ref h1_2, .ref h1_3, .ref h1_4, .ref h1_5, .ref h1_6, .ref h1_7, .ref h1_8, .ref h1_9, .ref a2, .ref h1_11, .ref h1_12])), (h2, .inr (1, [.ref a3, .int 0, .int 0, .int 1, .int 0, .long h2_5, .int h2_6])), (a1, .inl (yj1, 60, .inr (.inl f3))), (a2, .inl (yj2, 60, .inr (.inl f2))), (a3, .inl (yb, 2000, .inl f4))]) (va_A [(h0, .inr (2, [.int h0_0, .int h0_1, .ref h2, .null, .int h0_4, .int h0_5, .long h0_6, .int h0_7, .int h0_8, .int h0_9, .int h0_10, .int h0_11, .ref h0_12, .ref h0_13, .ref h0_14, .int h0_15, .ref a1])), (h1, .inr (0, [.int h1_0, .int h1_1, .ref h1_2, .ref h1_3, .ref h1_4, .ref h1_5, .ref h1_6, .ref h1_7, .ref h1_8, .ref h1_9, .ref a2, .ref h1_11, .ref h1_12])), (h2, .inr (1, [.null, .int h2_1, .int h2_2, .int h2_3, .int h2_4, .long h2_5, .int h2_6])), (a1, .inl (yj1, 60, .inr (.inl f1))), (a2, .inl (yj2, 60, .inr (.inl f2))), (a3, .inl (yb, 2000, .inl f4))] sz)) 0 0 (va_A [(h0, .inr (2, [.int h0_0, .int h0_1, .ref h2, .null, .int h0_4, .int h0_5, .long h0_6, .int h0_7, .int h0_8, .int h0_9, .int h0_10, .int h0_11, .ref h0_12, .ref h0_13, .ref h0_14, .int h0_15, .ref a1])), (h1, .inr (0, [.int h1_0, .int h1_1, .ref h1_2, .ref h1_3, .ref h1_4, .ref h1_5, .ref h1_6, .ref h1_7, .ref h1_8, .ref h1_9, .ref a2, .ref h1_11, .ref h1_12])), (h2, .inr (1, [.null, .int h2_1, .int h2_2, .int h2_3, .int h2_4, .long h2_5, .int h2_6])), (a1, .inl (yj1, 60, .inr (.inl f1))), (a2, .inl (yj2, 60, .inr (.inl f2))), (a3, .inl (yb, 2000, .inl f4))] sz) := by
  refine Met.ofW (cc := cX3_readInto) (maxL := 4) (ret := (some .boolean)) (by decide) rfl ?_
  intro p e s m args below meth c s₁ B hml hv
  obtain ⟨rfl, hsz, hP, hK, hD0⟩ := hv
  have hx := B.exec
  have hb := B.bytes
  have hr := B.returns
  have hts := atoms_spec (ws := wsX3_readInto) B.pre
  have hown : s.vm.findClass RX3 = some m.cls := findClass_of_methodNamed B.named
  have hlocks := B.notSynchronized
  have inX3_ : ∀ w ∈ wsX30, w ∈ wsX3_readInto := fun _ h => List.mem_cons_of_mem _ (List.mem_append_left _ (List.mem_append_left _ (List.mem_append_right _ h)))
  subst hsz
  have hD := hD0.self (sz := s.heap.size)
  generalize hAe : va_A [(h0, .inr (2, [.int h0_0, .int h0_1, .ref h2, .null, .int h0_4, .int h0_5, .long h0_6, .int h0_7, .int h0_8, .int h0_9, .int h0_10, .int h0_11, .ref h0_12, .ref h0_13, .ref h0_14, .int h0_15, .ref a1])), (h1, .inr (0, [.int h1_0, .int h1_1, .ref h1_2, .ref h1_3, .ref h1_4, .ref h1_5, .ref h1_6, .ref h1_7, .ref h1_8, .ref h1_9, .ref a2, .ref h1_11, .ref h1_12])), (h2, .inr (1, [.null, .int h2_1, .int h2_2, .int h2_3, .int h2_4, .long h2_5, .int h2_6])), (a1, .inl (yj1, 60, .inr (.inl f1))), (a2, .inl (yj2, 60, .inr (.inl f2))), (a3, .inl (yb, 2000, .inl f4))] s.heap.size = A at hD ⊢
  have hA : ∀ q : Nat, s.heap.size ≤ q → A q := fun q h => by rw [← hAe]; exact Or.inr h
  have hS : va_S A s.heap s.heap [] := va_S.rf
  have hP : va_P (dC, dI) vwCl [(h0, .inr (2, [.int h0_0, .int h0_1, .ref h2, .null, .int h0_4, .int h0_5, .long h0_6, .int h0_7, .int h0_8, .int h0_9, .int h0_10, .int h0_11, .ref h0_12, .ref h0_13, .ref h0_14, .int h0_15, .ref a1])), (h1, .inr (0, [.int h1_0, .int h1_1, .ref h1_2, .ref h1_3, .ref h1_4, .ref h1_5, .ref h1_6, .ref h1_7, .ref h1_8, .ref h1_9, .ref a2, .ref h1_11, .ref h1_12])), (h2, .inr (1, [.null, .int h2_1, .int h2_2, .int h2_3, .int h2_4, .long h2_5, .int h2_6])), (a1, .inl (yj1, 60, .inr (.inl f1))), (a2, .inl (yj2, 60, .inr (.inl f2))), (a3, .inl (yb, 2000, .inl f4))] s.heap := hP
  have hl := lv_entry ([.ref h0, .ref h1, .ref a3, .int 0]) (n := 4) (Nat.le_of_ble_eq_true rfl)
  rw [lg_entry_eq]
  generalize (lg_sl ([.ref h0, .ref h1, .ref a3, .int 0]) ++ List.replicate (4 - (lg_sl ([.ref h0, .ref h1, .ref a3, .int 0])).length) Slot.unset).toArray = ls at hl ⊢
  have hl : lv_has ls 4 [(0, .ref h0), (1, .ref h1), (2, .ref a3), (3, .int 0)] := hl
  refine lv_aload_n hx hb dX3_readInto_0 rfl (lv_at hl 0 rfl) ?_
  refine lv_aload_n hx hb dX3_readInto_1 rfl (lv_at hl 1 rfl) ?_
  refine va_put (D := (dC, dI)) (ci := 2) (v := .ref h1) (ty := (.object "GateWheel$Circuit")) (C := RX3) (T := TX3) (N := 17) hx hb hts inX3_ tyX3 tyX3_ok nmX3 hown hK hP hD hS 0 rfl rfl 3 (by decide) (hts (.fieldLink RX3 36 "GateWheel$Reader" "circuit" "LGateWheel$Circuit;") (List.mem_of_getElem? (i := 1) rfl)) (fun _ h9 => h9) rfl (by decide +kernel) rfl rfl (Nat.le_of_ble_eq_true rfl) dX3_readInto_2 (fun Hx1 locs hP hD hS => ?_)
  have hP : va_P (dC, dI) vwCl [(h0, .inr (2, [.int h0_0, .int h0_1, .ref h2, .ref h1, .int h0_4, .int h0_5, .long h0_6, .int h0_7, .int h0_8, .int h0_9, .int h0_10, .int h0_11, .ref h0_12, .ref h0_13, .ref h0_14, .int h0_15, .ref a1])), (h1, .inr (0, [.int h1_0, .int h1_1, .ref h1_2, .ref h1_3, .ref h1_4, .ref h1_5, .ref h1_6, .ref h1_7, .ref h1_8, .ref h1_9, .ref a2, .ref h1_11, .ref h1_12])), (h2, .inr (1, [.null, .int h2_1, .int h2_2, .int h2_3, .int h2_4, .long h2_5, .int h2_6])), (a1, .inl (yj1, 60, .inr (.inl f1))), (a2, .inl (yj2, 60, .inr (.inl f2))), (a3, .inl (yb, 2000, .inl f4))] Hx1 := hP
  have hD : va_D A [(h0, .inr (2, [.int h0_0, .int h0_1, .ref h2, .ref h1, .int h0_4, .int h0_5, .long h0_6, .int h0_7, .int h0_8, .int h0_9, .int h0_10, .int h0_11, .ref h0_12, .ref h0_13, .ref h0_14, .int h0_15, .ref a1])), (h1, .inr (0, [.int h1_0, .int h1_1, .ref h1_2, .ref h1_3, .ref h1_4, .ref h1_5, .ref h1_6, .ref h1_7, .ref h1_8, .ref h1_9, .ref a2, .ref h1_11, .ref h1_12])), (h2, .inr (1, [.null, .int h2_1, .int h2_2, .int h2_3, .int h2_4, .long h2_5, .int h2_6])), (a1, .inl (yj1, 60, .inr (.inl f1))), (a2, .inl (yj2, 60, .inr (.inl f2))), (a3, .inl (yb, 2000, .inl f4))] := hD
  refine lv_aload_n hx hb dX3_readInto_5 rfl (lv_at hl 0 rfl) ?_
  refine va_get (D := (dC, dI)) (ci := 2) (v := .ref h1) (C := RX3) (T := TX3) (N := 17) hx hb hts inX3_ hown hK hP 0 rfl rfl 3 (by decide) (hts (.fieldLink RX3 36 "GateWheel$Reader" "circuit" "LGateWheel$Circuit;") (List.mem_of_getElem? (i := 1) rfl)) (fun _ h9 => h9) rfl dX3_readInto_6 ?_
  have hPc := hP.sub (ws' := [(h1, .inr (0, [.int h1_0, .int h1_1, .ref h1_2, .ref h1_3, .ref h1_4, .ref h1_5, .ref h1_6, .ref h1_7, .ref h1_8, .ref h1_9, .ref a2, .ref h1_11, .ref h1_12]))]) [1] rfl
  have hDc := hD.sub (ws' := [(h1, .inr (0, [.int h1_0, .int h1_1, .ref h1_2, .ref h1_3, .ref h1_4, .ref h1_5, .ref h1_6, .ref h1_7, .ref h1_8, .ref h1_9, .ref a2, .ref h1_11, .ref h1_12]))]) [1] (by decide) rfl
  have hKc := hK.sub (tys' := []) [] rfl
  have hFc := va_free (wc := [(h1, .inr (0, [.int h1_0, .int h1_1, .ref h1_2, .ref h1_3, .ref h1_4, .ref h1_5, .ref h1_6, .ref h1_7, .ref h1_8, .ref h1_9, .ref a2, .ref h1_11, .ref h1_12]))]) hD hS hA [1] rfl
  refine va_callv (va_runV (As := []) (rest := []) ⟨hx, hb, hml, hown, hts⟩ (c_X0_clear l dC dI h1 h1_0 h1_1 h1_2 h1_3 h1_4 h1_5 h1_6 h1_7 h1_8 h1_9 a2 h1_11 h1_12 Hx1.size) (cwV 0 hts gX3_readInto_X0_clear rfl rfl rfl (by decide +kernel) ⟨Nat.le_of_ble_eq_true rfl, Nat.le_of_ble_eq_true rfl⟩) ⟨fun a U g mk q => by obtain ⟨q0, q1, qP, qK, qD⟩ := q; exact ⟨q0, q1, qP, va_K.moved (u := U) (U := U.calling g mk a) (Vm.Alike.refl U.vm) qK, qD⟩, va_recv hKc hPc (ci := 0) (q0 := 0) rfl rfl, fun U hU hW => ⟨rfl, by rw [hU], by rw [hU]; exact hPc, va_K.moved hW.alike hKc, hDc.weaken (fun _ _ _ _ => trivial)⟩⟩ rfl rfl hl.1 rfl (lv_room (Nat.le_of_ble_eq_true rfl)) dX3_readInto_9 ⟨Nat.le_of_ble_eq_true rfl, Nat.le_of_ble_eq_true rfl⟩) hS (fun q _ h => hFc q h) hFc (fun u t Hx2 locs ht hvm hw hB hz1 hk1 hS => ?_)
  obtain ⟨hP1, hK1, hD1⟩ := hB
  rw [ht] at hP1
  have hK1 := va_K.moved hvm.symm hK1
  obtain ⟨hP, hD⟩ := va_join (wr := [(h0, .inr (2, [.int h0_0, .int h0_1, .ref h2, .ref h1, .int h0_4, .int h0_5, .long h0_6, .int h0_7, .int h0_8, .int h0_9, .int h0_10, .int h0_11, .ref h0_12, .ref h0_13, .ref h0_14, .int h0_15, .ref a1])), (h2, .inr (1, [.null, .int h2_1, .int h2_2, .int h2_3, .int h2_4, .long h2_5, .int h2_6])), (a1, .inl (yj1, 60, .inr (.inl f1))), (a2, .inl (yj2, 60, .inr (.inl f2))), (a3, .inl (yb, 2000, .inl f4))]) (w1 := [(h1, .inr (0, [.int 0, .int 0, .ref h1_2, .ref h1_3, .ref h1_4, .ref h1_5, .ref h1_6, .ref h1_7, .ref h1_8, .ref h1_9, .ref a2, .ref h1_11, .ref h1_12]))]) hP hD [1] [0, 2, 3, 4, 5] rfl rfl (by decide) (by decide) hk1 hFc hP1 hD1
  have hK := (hK.sub (tys' := [(yj1, .long), (yj2, .long), (yb, .byte)]) [0, 1, 2] rfl).app hK1
  have hP : va_P (dC, dI) vwCl [(h0, .inr (2, [.int h0_0, .int h0_1, .ref h2, .ref h1, .int h0_4, .int h0_5, .long h0_6, .int h0_7, .int h0_8, .int h0_9, .int h0_10, .int h0_11, .ref h0_12, .ref h0_13, .ref h0_14, .int h0_15, .ref a1])), (h2, .inr (1, [.null, .int h2_1, .int h2_2, .int h2_3, .int h2_4, .long h2_5, .int h2_6])), (a1, .inl (yj1, 60, .inr (.inl f1))), (a2, .inl (yj2, 60, .inr (.inl f2))), (a3, .inl (yb, 2000, .inl f4)), (h1, .inr (0, [.int 0, .int 0, .ref h1_2, .ref h1_3, .ref h1_4, .ref h1_5, .ref h1_6, .ref h1_7, .ref h1_8, .ref h1_9, .ref a2, .ref h1_11, .ref h1_12]))] Hx2 := hP
  have hD : va_D A [(h0, .inr (2, [.int h0_0, .int h0_1, .ref h2, .ref h1, .int h0_4, .int h0_5, .long h0_6, .int h0_7, .int h0_8, .int h0_9, .int h0_10, .int h0_11, .ref h0_12, .ref h0_13, .ref h0_14, .int h0_15, .ref a1])), (h2, .inr (1, [.null, .int h2_1, .int h2_2, .int h2_3, .int h2_4, .long h2_5, .int h2_6])), (a1, .inl (yj1, 60, .inr (.inl f1))), (a2, .inl (yj2, 60, .inr (.inl f2))), (a3, .inl (yb, 2000, .inl f4)), (h1, .inr (0, [.int 0, .int 0, .ref h1_2, .ref h1_3, .ref h1_4, .ref h1_5, .ref h1_6, .ref h1_7, .ref h1_8, .ref h1_9, .ref a2, .ref h1_11, .ref h1_12]))] := hD
  have hK : va_K (dC, dI) vwCl [(yj1, .long), (yj2, .long), (yb, .byte)] s := hK
  refine lv_aload_n hx hb dX3_readInto_12 rfl (lv_at hl 0 rfl) ?_
  refine lv_iconst (v := 0) hx hb dX3_readInto_13 (by decide) ?_
  refine va_put (D := (dC, dI)) (ci := 2) (v := .int 0) (ty := .int) (C := RX3) (T := TX3) (N := 17) hx hb hts inX3_ tyX3 tyX3_ok nmX3 hown hK hP hD hS 0 rfl rfl 0 (by decide) (hts (.fieldLink RX3 45 "GateWheel$Reader" "fault" "I") (List.mem_of_getElem? (i := 2) rfl)) (fun _ h9 => h9) rfl (by decide +kernel) rfl rfl (Nat.le_of_ble_eq_true rfl) dX3_readInto_14 (fun Hx4 locs hP hD hS => ?_)
  have hP : va_P (dC, dI) vwCl [(h0, .inr (2, [.int 0, .int h0_1, .ref h2, .ref h1, .int h0_4, .int h0_5, .long h0_6, .int h0_7, .int h0_8, .int h0_9, .int h0_10, .int h0_11, .ref h0_12, .ref h0_13, .ref h0_14, .int h0_15, .ref a1])), (h2, .inr (1, [.null, .int h2_1, .int h2_2, .int h2_3, .int h2_4, .long h2_5, .int h2_6])), (a1, .inl (yj1, 60, .inr (.inl f1))), (a2, .inl (yj2, 60, .inr (.inl f2))), (a3, .inl (yb, 2000, .inl f4)), (h1, .inr (0, [.int 0, .int 0, .ref h1_2, .ref h1_3, .ref h1_4, .ref h1_5, .ref h1_6, .ref h1_7, .ref h1_8, .ref h1_9, .ref a2, .ref h1_11, .ref h1_12]))] Hx4 := hP
  have hD : va_D A [(h0, .inr (2, [.int 0, .int h0_1, .ref h2, .ref h1, .int h0_4, .int h0_5, .long h0_6, .int h0_7, .int h0_8, .int h0_9, .int h0_10, .int h0_11, .ref h0_12, .ref h0_13, .ref h0_14, .int h0_15, .ref a1])), (h2, .inr (1, [.null, .int h2_1, .int h2_2, .int h2_3, .int h2_4, .long h2_5, .int h2_6])), (a1, .inl (yj1, 60, .inr (.inl f1))), (a2, .inl (yj2, 60, .inr (.inl f2))), (a3, .inl (yb, 2000, .inl f4)), (h1, .inr (0, [.int 0, .int 0, .ref h1_2, .ref h1_3, .ref h1_4, .ref h1_5, .ref h1_6, .ref h1_7, .ref h1_8, .ref h1_9, .ref a2, .ref h1_11, .ref h1_12]))] := hD
  refine lv_aload_n hx hb dX3_readInto_17 rfl (lv_at hl 0 rfl) ?_
  refine lv_iconst (v := (-1)) hx hb dX3_readInto_18 (by decide) ?_
  refine va_put (D := (dC, dI)) (ci := 2) (v := .int (-1)) (ty := .int) (C := RX3) (T := TX3) (N := 17) hx hb hts inX3_ tyX3 tyX3_ok nmX3 hown hK hP hD hS 0 rfl rfl 1 (by decide) (hts (.fieldLink RX3 9 "GateWheel$Reader" "faultPlace" "I") (List.mem_of_getElem? (i := 3) rfl)) (fun _ h9 => h9) rfl (by decide +kernel) rfl rfl (Nat.le_of_ble_eq_true rfl) dX3_readInto_19 (fun Hx5 locs hP hD hS => ?_)
  have hP : va_P (dC, dI) vwCl [(h0, .inr (2, [.int 0, .int (-1), .ref h2, .ref h1, .int h0_4, .int h0_5, .long h0_6, .int h0_7, .int h0_8, .int h0_9, .int h0_10, .int h0_11, .ref h0_12, .ref h0_13, .ref h0_14, .int h0_15, .ref a1])), (h2, .inr (1, [.null, .int h2_1, .int h2_2, .int h2_3, .int h2_4, .long h2_5, .int h2_6])), (a1, .inl (yj1, 60, .inr (.inl f1))), (a2, .inl (yj2, 60, .inr (.inl f2))), (a3, .inl (yb, 2000, .inl f4)), (h1, .inr (0, [.int 0, .int 0, .ref h1_2, .ref h1_3, .ref h1_4, .ref h1_5, .ref h1_6, .ref h1_7, .ref h1_8, .ref h1_9, .ref a2, .ref h1_11, .ref h1_12]))] Hx5 := hP
  have hD : va_D A [(h0, .inr (2, [.int 0, .int (-1), .ref h2, .ref h1, .int h0_4, .int h0_5, .long h0_6, .int h0_7, .int h0_8, .int h0_9, .int h0_10, .int h0_11, .ref h0_12, .ref h0_13, .ref h0_14, .int h0_15, .ref a1])), (h2, .inr (1, [.null, .int h2_1, .int h2_2, .int h2_3, .int h2_4, .long h2_5, .int h2_6])), (a1, .inl (yj1, 60, .inr (.inl f1))), (a2, .inl (yj2, 60, .inr (.inl f2))), (a3, .inl (yb, 2000, .inl f4)), (h1, .inr (0, [.int 0, .int 0, .ref h1_2, .ref h1_3, .ref h1_4, .ref h1_5, .ref h1_6, .ref h1_7, .ref h1_8, .ref h1_9, .ref a2, .ref h1_11, .ref h1_12]))] := hD
  refine lv_aload_n hx hb dX3_readInto_22 rfl (lv_at hl 0 rfl) ?_
  refine lv_iconst (v := 0) hx hb dX3_readInto_23 (by decide) ?_
  refine va_put (D := (dC, dI)) (ci := 2) (v := .int 0) (ty := .int) (C := RX3) (T := TX3) (N := 17) hx hb hts inX3_ tyX3 tyX3_ok nmX3 hown hK hP hD hS 0 rfl rfl 15 (by decide) (hts (.fieldLink RX3 48 "GateWheel$Reader" "uses" "I") (List.mem_of_getElem? (i := 4) rfl)) (fun _ h9 => h9) rfl (by decide +kernel) rfl rfl (Nat.le_of_ble_eq_true rfl) dX3_readInto_24 (fun Hx6 locs hP hD hS => ?_)
  have hP : va_P (dC, dI) vwCl [(h0, .inr (2, [.int 0, .int (-1), .ref h2, .ref h1, .int h0_4, .int h0_5, .long h0_6, .int h0_7, .int h0_8, .int h0_9, .int h0_10, .int h0_11, .ref h0_12, .ref h0_13, .ref h0_14, .int 0, .ref a1])), (h2, .inr (1, [.null, .int h2_1, .int h2_2, .int h2_3, .int h2_4, .long h2_5, .int h2_6])), (a1, .inl (yj1, 60, .inr (.inl f1))), (a2, .inl (yj2, 60, .inr (.inl f2))), (a3, .inl (yb, 2000, .inl f4)), (h1, .inr (0, [.int 0, .int 0, .ref h1_2, .ref h1_3, .ref h1_4, .ref h1_5, .ref h1_6, .ref h1_7, .ref h1_8, .ref h1_9, .ref a2, .ref h1_11, .ref h1_12]))] Hx6 := hP
  have hD : va_D A [(h0, .inr (2, [.int 0, .int (-1), .ref h2, .ref h1, .int h0_4, .int h0_5, .long h0_6, .int h0_7, .int h0_8, .int h0_9, .int h0_10, .int h0_11, .ref h0_12, .ref h0_13, .ref h0_14, .int 0, .ref a1])), (h2, .inr (1, [.null, .int h2_1, .int h2_2, .int h2_3, .int h2_4, .long h2_5, .int h2_6])), (a1, .inl (yj1, 60, .inr (.inl f1))), (a2, .inl (yj2, 60, .inr (.inl f2))), (a3, .inl (yb, 2000, .inl f4)), (h1, .inr (0, [.int 0, .int 0, .ref h1_2, .ref h1_3, .ref h1_4, .ref h1_5, .ref h1_6, .ref h1_7, .ref h1_8, .ref h1_9, .ref a2, .ref h1_11, .ref h1_12]))] := hD
  refine lv_aload_n hx hb dX3_readInto_27 rfl (lv_at hl 0 rfl) ?_
  refine va_get (D := (dC, dI)) (ci := 2) (v := .ref h2) (C := RX3) (T := TX3) (N := 17) hx hb hts inX3_ hown hK hP 0 rfl rfl 2 (by decide) (hts (.fieldLink RX3 18 "GateWheel$Reader" "lexer" "LGateWheel$Lexer;") (List.mem_of_getElem? (i := 5) rfl)) (fun _ h9 => h9) rfl dX3_readInto_28 ?_
  refine lv_aload_n hx hb dX3_readInto_31 rfl (lv_at hl 2 rfl) ?_
  refine lv_iload_n hx hb dX3_readInto_32 rfl (lv_at hl 3 rfl) ?_
  have hPc := hP.sub (ws' := [(h2, .inr (1, [.null, .int h2_1, .int h2_2, .int h2_3, .int h2_4, .long h2_5, .int h2_6])), (a3, .inl (yb, 2000, .inl f4))]) [1, 4] rfl
  have hDc := hD.sub (ws' := [(h2, .inr (1, [.null, .int h2_1, .int h2_2, .int h2_3, .int h2_4, .long h2_5, .int h2_6])), (a3, .inl (yb, 2000, .inl f4))]) [1, 4] (by decide) rfl
  have hKc := hK.sub (tys' := [(yb, .byte)]) [2] rfl
  have hFc := va_free (wc := [(h2, .inr (1, [.null, .int h2_1, .int h2_2, .int h2_3, .int h2_4, .long h2_5, .int h2_6])), (a3, .inl (yb, 2000, .inl f4))]) hD hS hA [1, 4] rfl
  refine va_callv (va_runV (As := [.ref a3, .int 0]) (rest := []) ⟨hx, hb, hml, hown, hts⟩ (c_X1_begin l dC dI h2 a3 h2_1 h2_2 h2_3 h2_4 h2_5 h2_6 yb f4 Hx6.size) (cwV 2 hts gX3_readInto_X1_begin rfl rfl rfl (by decide +kernel) ⟨Nat.le_of_ble_eq_true rfl, Nat.le_of_ble_eq_true rfl⟩) ⟨fun a U g mk q => by obtain ⟨q0, q1, qP, qK, qD⟩ := q; exact ⟨q0, q1, qP, va_K.moved (u := U) (U := U.calling g mk a) (Vm.Alike.refl U.vm) qK, qD⟩, va_recv hKc hPc (ci := 1) (q0 := 0) rfl rfl, fun U hU hW => ⟨rfl, by rw [hU], by rw [hU]; exact hPc, va_K.moved hW.alike hKc, hDc.weaken (fun _ _ _ _ => trivial)⟩⟩ rfl rfl hl.1 rfl (lv_room (Nat.le_of_ble_eq_true rfl)) dX3_readInto_33 ⟨Nat.le_of_ble_eq_true rfl, Nat.le_of_ble_eq_true rfl⟩) hS (fun q _ h => hFc q h) hFc (fun u t Hx7 locs ht hvm hw hB hz1 hk1 hS => ?_)
  obtain ⟨hP1, hK1, hD1⟩ := hB
  rw [ht] at hP1
  have hK1 := va_K.moved hvm.symm hK1
  obtain ⟨hP, hD⟩ := va_join (wr := [(h0, .inr (2, [.int 0, .int (-1), .ref h2, .ref h1, .int h0_4, .int h0_5, .long h0_6, .int h0_7, .int h0_8, .int h0_9, .int h0_10, .int h0_11, .ref h0_12, .ref h0_13, .ref h0_14, .int 0, .ref a1])), (a1, .inl (yj1, 60, .inr (.inl f1))), (a2, .inl (yj2, 60, .inr (.inl f2))), (h1, .inr (0, [.int 0, .int 0, .ref h1_2, .ref h1_3, .ref h1_4, .ref h1_5, .ref h1_6, .ref h1_7, .ref h1_8, .ref h1_9, .ref a2, .ref h1_11, .ref h1_12]))]) (w1 := [(h2, .inr (1, [.ref a3, .int 0, .int 0, .int h2_3, .int h2_4, .long h2_5, .int h2_6])), (a3, .inl (yb, 2000, .inl f4))]) hP hD [1, 4] [0, 2, 3, 5] rfl rfl (by decide) (by decide) hk1 hFc hP1 hD1
  have hK := (hK.sub (tys' := [(yj1, .long), (yj2, .long)]) [0, 1] rfl).app hK1
  have hP : va_P (dC, dI) vwCl [(h0, .inr (2, [.int 0, .int (-1), .ref h2, .ref h1, .int h0_4, .int h0_5, .long h0_6, .int h0_7, .int h0_8, .int h0_9, .int h0_10, .int h0_11, .ref h0_12, .ref h0_13, .ref h0_14, .int 0, .ref a1])), (a1, .inl (yj1, 60, .inr (.inl f1))), (a2, .inl (yj2, 60, .inr (.inl f2))), (h1, .inr (0, [.int 0, .int 0, .ref h1_2, .ref h1_3, .ref h1_4, .ref h1_5, .ref h1_6, .ref h1_7, .ref h1_8, .ref h1_9, .ref a2, .ref h1_11, .ref h1_12])), (h2, .inr (1, [.ref a3, .int 0, .int 0, .int h2_3, .int h2_4, .long h2_5, .int h2_6])), (a3, .inl (yb, 2000, .inl f4))] Hx7 := hP
  have hD : va_D A [(h0, .inr (2, [.int 0, .int (-1), .ref h2, .ref h1, .int h0_4, .int h0_5, .long h0_6, .int h0_7, .int h0_8, .int h0_9, .int h0_10, .int h0_11, .ref h0_12, .ref h0_13, .ref h0_14, .int 0, .ref a1])), (a1, .inl (yj1, 60, .inr (.inl f1))), (a2, .inl (yj2, 60, .inr (.inl f2))), (h1, .inr (0, [.int 0, .int 0, .ref h1_2, .ref h1_3, .ref h1_4, .ref h1_5, .ref h1_6, .ref h1_7, .ref h1_8, .ref h1_9, .ref a2, .ref h1_11, .ref h1_12])), (h2, .inr (1, [.ref a3, .int 0, .int 0, .int h2_3, .int h2_4, .long h2_5, .int h2_6])), (a3, .inl (yb, 2000, .inl f4))] := hD
  have hK : va_K (dC, dI) vwCl [(yj1, .long), (yj2, .long), (yb, .byte)] s := hK
  refine lv_aload_n hx hb dX3_readInto_36 rfl (lv_at hl 0 rfl) ?_
  have hPc := hP.sub (ws' := [(h0, .inr (2, [.int 0, .int (-1), .ref h2, .ref h1, .int h0_4, .int h0_5, .long h0_6, .int h0_7, .int h0_8, .int h0_9, .int h0_10, .int h0_11, .ref h0_12, .ref h0_13, .ref h0_14, .int 0, .ref a1])), (h2, .inr (1, [.ref a3, .int 0, .int 0, .int h2_3, .int h2_4, .long h2_5, .int h2_6]))]) [0, 4] rfl
  have hDc := hD.sub (ws' := [(h0, .inr (2, [.int 0, .int (-1), .ref h2, .ref h1, .int h0_4, .int h0_5, .long h0_6, .int h0_7, .int h0_8, .int h0_9, .int h0_10, .int h0_11, .ref h0_12, .ref h0_13, .ref h0_14, .int 0, .ref a1])), (h2, .inr (1, [.ref a3, .int 0, .int 0, .int h2_3, .int h2_4, .long h2_5, .int h2_6]))]) [0, 4] (by decide) rfl
  have hKc := hK.sub (tys' := []) [] rfl
  have hFc := va_free (wc := [(h0, .inr (2, [.int 0, .int (-1), .ref h2, .ref h1, .int h0_4, .int h0_5, .long h0_6, .int h0_7, .int h0_8, .int h0_9, .int h0_10, .int h0_11, .ref h0_12, .ref h0_13, .ref h0_14, .int 0, .ref a1])), (h2, .inr (1, [.ref a3, .int 0, .int 0, .int h2_3, .int h2_4, .long h2_5, .int h2_6]))]) hD hS hA [0, 4] rfl
  refine va_calli (va_runV (As := []) (rest := []) ⟨hx, hb, hml, hown, hts⟩ (c_X3_takeTokens l dC dI h0 h2 0 (-1) h1 h0_4 h0_5 h0_6 h0_7 h0_8 h0_9 h0_10 h0_11 h0_12 h0_13 h0_14 0 a1 a3 h2_3 h2_4 h2_5 h2_6 Hx7.size) (cwV 0 hts gX3_readInto_X3_takeTokens rfl rfl rfl (by decide +kernel) ⟨Nat.le_of_ble_eq_true rfl, Nat.le_of_ble_eq_true rfl⟩) ⟨fun a U g mk q => by obtain ⟨q0, q1, qP, qK, qD⟩ := q; exact ⟨q0, q1, qP, va_K.moved (u := U) (U := U.calling g mk a) (Vm.Alike.refl U.vm) qK, qD⟩, va_recv hKc hPc (ci := 2) (q0 := 0) rfl rfl, fun U hU hW => ⟨rfl, by rw [hU], by rw [hU]; exact hPc, va_K.moved hW.alike hKc, hDc.weaken (fun _ _ _ _ => trivial)⟩⟩ rfl rfl hl.1 rfl (lv_room (Nat.le_of_ble_eq_true rfl)) dX3_readInto_37 ⟨Nat.le_of_ble_eq_true rfl, Nat.le_of_ble_eq_true rfl⟩) hS (fun q _ h => hFc q h) hFc (fun rx10 u t Hx9 locs ht hvm hw hB hz1 hk1 hS => ?_)
  obtain ⟨hP1, hK1, hD1⟩ := hB
  rw [ht] at hP1
  have hK1 := va_K.moved hvm.symm hK1
  obtain ⟨hP, hD⟩ := va_join (wr := [(a1, .inl (yj1, 60, .inr (.inl f1))), (a2, .inl (yj2, 60, .inr (.inl f2))), (h1, .inr (0, [.int 0, .int 0, .ref h1_2, .ref h1_3, .ref h1_4, .ref h1_5, .ref h1_6, .ref h1_7, .ref h1_8, .ref h1_9, .ref a2, .ref h1_11, .ref h1_12])), (a3, .inl (yb, 2000, .inl f4))]) (w1 := [(h0, .inr (2, [.int 0, .int (-1), .ref h2, .ref h1, .int 0, .int h0_5, .long h0_6, .int h0_7, .int h0_8, .int h0_9, .int h0_10, .int h0_11, .ref h0_12, .ref h0_13, .ref h0_14, .int 0, .ref a1])), (h2, .inr (1, [.ref a3, .int 0, .int 0, .int 1, .int 0, .long h2_5, .int h2_6]))]) hP hD [0, 4] [1, 2, 3, 5] rfl rfl (by decide) (by decide) hk1 hFc hP1 hD1
  have hK := (hK.sub (tys' := [(yj1, .long), (yj2, .long), (yb, .byte)]) [0, 1, 2] rfl).app hK1
  have hP : va_P (dC, dI) vwCl [(a1, .inl (yj1, 60, .inr (.inl f1))), (a2, .inl (yj2, 60, .inr (.inl f2))), (h1, .inr (0, [.int 0, .int 0, .ref h1_2, .ref h1_3, .ref h1_4, .ref h1_5, .ref h1_6, .ref h1_7, .ref h1_8, .ref h1_9, .ref a2, .ref h1_11, .ref h1_12])), (a3, .inl (yb, 2000, .inl f4)), (h0, .inr (2, [.int 0, .int (-1), .ref h2, .ref h1, .int 0, .int h0_5, .long h0_6, .int h0_7, .int h0_8, .int h0_9, .int h0_10, .int h0_11, .ref h0_12, .ref h0_13, .ref h0_14, .int 0, .ref a1])), (h2, .inr (1, [.ref a3, .int 0, .int 0, .int 1, .int 0, .long h2_5, .int h2_6]))] Hx9 := hP
  have hD : va_D A [(a1, .inl (yj1, 60, .inr (.inl f1))), (a2, .inl (yj2, 60, .inr (.inl f2))), (h1, .inr (0, [.int 0, .int 0, .ref h1_2, .ref h1_3, .ref h1_4, .ref h1_5, .ref h1_6, .ref h1_7, .ref h1_8, .ref h1_9, .ref a2, .ref h1_11, .ref h1_12])), (a3, .inl (yb, 2000, .inl f4)), (h0, .inr (2, [.int 0, .int (-1), .ref h2, .ref h1, .int 0, .int h0_5, .long h0_6, .int h0_7, .int h0_8, .int h0_9, .int h0_10, .int h0_11, .ref h0_12, .ref h0_13, .ref h0_14, .int 0, .ref a1])), (h2, .inr (1, [.ref a3, .int 0, .int 0, .int 1, .int 0, .long h2_5, .int h2_6]))] := hD
  have hK : va_K (dC, dI) vwCl [(yj1, .long), (yj2, .long), (yb, .byte)] s := hK
  obtain rfl : rx10 = 1 := hw
  refine lv_if_eq (tgt := 57) hx hb dX3_readInto_40 (by decide) (fun hc => absurd hc (by decide)) (fun _ => ?_)
  refine lv_aload_n hx hb dX3_readInto_43 rfl (lv_at hl 0 rfl) ?_
  have hPc := hP.sub (ws' := [(h0, .inr (2, [.int 0, .int (-1), .ref h2, .ref h1, .int 0, .int h0_5, .long h0_6, .int h0_7, .int h0_8, .int h0_9, .int h0_10, .int h0_11, .ref h0_12, .ref h0_13, .ref h0_14, .int 0, .ref a1]))]) [4] rfl
  have hDc := hD.sub (ws' := [(h0, .inr (2, [.int 0, .int (-1), .ref h2, .ref h1, .int 0, .int h0_5, .long h0_6, .int h0_7, .int h0_8, .int h0_9, .int h0_10, .int h0_11, .ref h0_12, .ref h0_13, .ref h0_14, .int 0, .ref a1]))]) [4] (by decide) rfl
  have hKc := hK.sub (tys' := []) [] rfl
  have hFc := va_free (wc := [(h0, .inr (2, [.int 0, .int (-1), .ref h2, .ref h1, .int 0, .int h0_5, .long h0_6, .int h0_7, .int h0_8, .int h0_9, .int h0_10, .int h0_11, .ref h0_12, .ref h0_13, .ref h0_14, .int 0, .ref a1]))]) hD hS hA [4] rfl
  refine va_calli (va_runV (As := []) (rest := []) ⟨hx, hb, hml, hown, hts⟩ (c_X3_linkUses l dC dI h0 0 (-1) h2 h1 0 h0_5 h0_6 h0_7 h0_8 h0_9 h0_10 h0_11 h0_12 h0_13 h0_14 a1 Hx9.size) (cwV 0 hts gX3_readInto_X3_linkUses rfl rfl rfl (by decide +kernel) ⟨Nat.le_of_ble_eq_true rfl, Nat.le_of_ble_eq_true rfl⟩) ⟨fun a U g mk q => by obtain ⟨q0, q1, qP, qK, qD⟩ := q; exact ⟨q0, q1, qP, va_K.moved (u := U) (U := U.calling g mk a) (Vm.Alike.refl U.vm) qK, qD⟩, va_recv hKc hPc (ci := 2) (q0 := 0) rfl rfl, fun U hU hW => ⟨rfl, by rw [hU], by rw [hU]; exact hPc, va_K.moved hW.alike hKc, hDc.weaken (fun _ _ _ _ => trivial)⟩⟩ rfl rfl hl.1 rfl (lv_room (Nat.le_of_ble_eq_true rfl)) dX3_readInto_44 ⟨Nat.le_of_ble_eq_true rfl, Nat.le_of_ble_eq_true rfl⟩) hS (fun q _ h => hFc q h) hFc (fun rx12 u t Hx11 locs ht hvm hw hB hz1 hk1 hS => ?_)
  obtain ⟨hP1, hK1, hD1⟩ := hB
  rw [ht] at hP1
  have hK1 := va_K.moved hvm.symm hK1
  obtain ⟨hP, hD⟩ := va_join (wr := [(a1, .inl (yj1, 60, .inr (.inl f1))), (a2, .inl (yj2, 60, .inr (.inl f2))), (h1, .inr (0, [.int 0, .int 0, .ref h1_2, .ref h1_3, .ref h1_4, .ref h1_5, .ref h1_6, .ref h1_7, .ref h1_8, .ref h1_9, .ref a2, .ref h1_11, .ref h1_12])), (a3, .inl (yb, 2000, .inl f4)), (h2, .inr (1, [.ref a3, .int 0, .int 0, .int 1, .int 0, .long h2_5, .int h2_6]))]) (w1 := [(h0, .inr (2, [.int 0, .int (-1), .ref h2, .ref h1, .int 0, .int h0_5, .long h0_6, .int h0_7, .int h0_8, .int h0_9, .int h0_10, .int h0_11, .ref h0_12, .ref h0_13, .ref h0_14, .int 0, .ref a1]))]) hP hD [4] [0, 1, 2, 3, 5] rfl rfl (by decide) (by decide) hk1 hFc hP1 hD1
  have hK := (hK.sub (tys' := [(yj1, .long), (yj2, .long), (yb, .byte)]) [0, 1, 2] rfl).app hK1
  have hP : va_P (dC, dI) vwCl [(a1, .inl (yj1, 60, .inr (.inl f1))), (a2, .inl (yj2, 60, .inr (.inl f2))), (h1, .inr (0, [.int 0, .int 0, .ref h1_2, .ref h1_3, .ref h1_4, .ref h1_5, .ref h1_6, .ref h1_7, .ref h1_8, .ref h1_9, .ref a2, .ref h1_11, .ref h1_12])), (a3, .inl (yb, 2000, .inl f4)), (h2, .inr (1, [.ref a3, .int 0, .int 0, .int 1, .int 0, .long h2_5, .int h2_6])), (h0, .inr (2, [.int 0, .int (-1), .ref h2, .ref h1, .int 0, .int h0_5, .long h0_6, .int h0_7, .int h0_8, .int h0_9, .int h0_10, .int h0_11, .ref h0_12, .ref h0_13, .ref h0_14, .int 0, .ref a1]))] Hx11 := hP
  have hD : va_D A [(a1, .inl (yj1, 60, .inr (.inl f1))), (a2, .inl (yj2, 60, .inr (.inl f2))), (h1, .inr (0, [.int 0, .int 0, .ref h1_2, .ref h1_3, .ref h1_4, .ref h1_5, .ref h1_6, .ref h1_7, .ref h1_8, .ref h1_9, .ref a2, .ref h1_11, .ref h1_12])), (a3, .inl (yb, 2000, .inl f4)), (h2, .inr (1, [.ref a3, .int 0, .int 0, .int 1, .int 0, .long h2_5, .int h2_6])), (h0, .inr (2, [.int 0, .int (-1), .ref h2, .ref h1, .int 0, .int h0_5, .long h0_6, .int h0_7, .int h0_8, .int h0_9, .int h0_10, .int h0_11, .ref h0_12, .ref h0_13, .ref h0_14, .int 0, .ref a1]))] := hD
  have hK : va_K (dC, dI) vwCl [(yj1, .long), (yj2, .long), (yb, .byte)] s := hK
  obtain rfl : rx12 = 1 := hw
  refine lv_if_eq (tgt := 57) hx hb dX3_readInto_47 (by decide) (fun hc => absurd hc (by decide)) (fun _ => ?_)
  refine lv_aload_n hx hb dX3_readInto_50 rfl (lv_at hl 0 rfl) ?_
  have hPc := hP.sub (ws' := [(h0, .inr (2, [.int 0, .int (-1), .ref h2, .ref h1, .int 0, .int h0_5, .long h0_6, .int h0_7, .int h0_8, .int h0_9, .int h0_10, .int h0_11, .ref h0_12, .ref h0_13, .ref h0_14, .int 0, .ref a1])), (h1, .inr (0, [.int 0, .int 0, .ref h1_2, .ref h1_3, .ref h1_4, .ref h1_5, .ref h1_6, .ref h1_7, .ref h1_8, .ref h1_9, .ref a2, .ref h1_11, .ref h1_12])), (a1, .inl (yj1, 60, .inr (.inl f1))), (a2, .inl (yj2, 60, .inr (.inl f2)))]) [5, 2, 0, 1] rfl
  have hDc := hD.sub (ws' := [(h0, .inr (2, [.int 0, .int (-1), .ref h2, .ref h1, .int 0, .int h0_5, .long h0_6, .int h0_7, .int h0_8, .int h0_9, .int h0_10, .int h0_11, .ref h0_12, .ref h0_13, .ref h0_14, .int 0, .ref a1])), (h1, .inr (0, [.int 0, .int 0, .ref h1_2, .ref h1_3, .ref h1_4, .ref h1_5, .ref h1_6, .ref h1_7, .ref h1_8, .ref h1_9, .ref a2, .ref h1_11, .ref h1_12])), (a1, .inl (yj1, 60, .inr (.inl f1))), (a2, .inl (yj2, 60, .inr (.inl f2)))]) [5, 2, 0, 1] (by decide) rfl
  have hKc := hK.sub (tys' := [(yj1, .long), (yj2, .long)]) [0, 1] rfl
  have hFc := va_free (wc := [(h0, .inr (2, [.int 0, .int (-1), .ref h2, .ref h1, .int 0, .int h0_5, .long h0_6, .int h0_7, .int h0_8, .int h0_9, .int h0_10, .int h0_11, .ref h0_12, .ref h0_13, .ref h0_14, .int 0, .ref a1])), (h1, .inr (0, [.int 0, .int 0, .ref h1_2, .ref h1_3, .ref h1_4, .ref h1_5, .ref h1_6, .ref h1_7, .ref h1_8, .ref h1_9, .ref a2, .ref h1_11, .ref h1_12])), (a1, .inl (yj1, 60, .inr (.inl f1))), (a2, .inl (yj2, 60, .inr (.inl f2)))]) hD hS hA [5, 2, 0, 1] rfl
  refine va_calli (va_runV (As := []) (rest := []) ⟨hx, hb, hml, hown, hts⟩ (c_X3_checkLoops l dC dI h0 h1 a1 a2 0 (-1) h2 0 h0_5 h0_6 h0_7 h0_8 h0_9 h0_10 h0_11 h0_12 h0_13 h0_14 0 0 h1_2 h1_3 h1_4 h1_5 h1_6 h1_7 h1_8 h1_9 h1_11 h1_12 yj1 f1 yj2 f2 Hx11.size) (cwV 0 hts gX3_readInto_X3_checkLoops rfl rfl rfl (by decide +kernel) ⟨Nat.le_of_ble_eq_true rfl, Nat.le_of_ble_eq_true rfl⟩) ⟨fun a U g mk q => by obtain ⟨q0, q1, qP, qK, qD⟩ := q; exact ⟨q0, q1, qP, va_K.moved (u := U) (U := U.calling g mk a) (Vm.Alike.refl U.vm) qK, qD⟩, va_recv hKc hPc (ci := 2) (q0 := 0) rfl rfl, fun U hU hW => ⟨rfl, by rw [hU], by rw [hU]; exact hPc, va_K.moved hW.alike hKc, hDc.weaken (fun _ _ _ _ => trivial)⟩⟩ rfl rfl hl.1 rfl (lv_room (Nat.le_of_ble_eq_true rfl)) dX3_readInto_51 ⟨Nat.le_of_ble_eq_true rfl, Nat.le_of_ble_eq_true rfl⟩) hS (fun q _ h => hFc q h) hFc (fun rx14 u t Hx13 locs ht hvm hw hB hz1 hk1 hS => ?_)
  obtain ⟨fx15, hP1, hK1, hD1⟩ := hB
  rw [ht] at hP1
  have hK1 := va_K.moved hvm.symm hK1
  obtain ⟨hP, hD⟩ := va_join (wr := [(a3, .inl (yb, 2000, .inl f4)), (h2, .inr (1, [.ref a3, .int 0, .int 0, .int 1, .int 0, .long h2_5, .int h2_6]))]) (w1 := [(h0, .inr (2, [.int 0, .int (-1), .ref h2, .ref h1, .int 0, .int h0_5, .long h0_6, .int h0_7, .int h0_8, .int h0_9, .int h0_10, .int h0_11, .ref h0_12, .ref h0_13, .ref h0_14, .int 0, .ref a1])), (h1, .inr (0, [.int 0, .int 0, .ref h1_2, .ref h1_3, .ref h1_4, .ref h1_5, .ref h1_6, .ref h1_7, .ref h1_8, .ref h1_9, .ref a2, .ref h1_11, .ref h1_12])), (a1, .inl (yj1, 60, .inr (.inl fx15))), (a2, .inl (yj2, 60, .inr (.inl f2)))]) hP hD [5, 2, 0, 1] [3, 4] rfl rfl (by decide) (by decide) hk1 hFc hP1 hD1
  have hK := (hK.sub (tys' := [(yb, .byte)]) [2] rfl).app hK1
  have hP : va_P (dC, dI) vwCl [(a3, .inl (yb, 2000, .inl f4)), (h2, .inr (1, [.ref a3, .int 0, .int 0, .int 1, .int 0, .long h2_5, .int h2_6])), (h0, .inr (2, [.int 0, .int (-1), .ref h2, .ref h1, .int 0, .int h0_5, .long h0_6, .int h0_7, .int h0_8, .int h0_9, .int h0_10, .int h0_11, .ref h0_12, .ref h0_13, .ref h0_14, .int 0, .ref a1])), (h1, .inr (0, [.int 0, .int 0, .ref h1_2, .ref h1_3, .ref h1_4, .ref h1_5, .ref h1_6, .ref h1_7, .ref h1_8, .ref h1_9, .ref a2, .ref h1_11, .ref h1_12])), (a1, .inl (yj1, 60, .inr (.inl fx15))), (a2, .inl (yj2, 60, .inr (.inl f2)))] Hx13 := hP
  have hD : va_D A [(a3, .inl (yb, 2000, .inl f4)), (h2, .inr (1, [.ref a3, .int 0, .int 0, .int 1, .int 0, .long h2_5, .int h2_6])), (h0, .inr (2, [.int 0, .int (-1), .ref h2, .ref h1, .int 0, .int h0_5, .long h0_6, .int h0_7, .int h0_8, .int h0_9, .int h0_10, .int h0_11, .ref h0_12, .ref h0_13, .ref h0_14, .int 0, .ref a1])), (h1, .inr (0, [.int 0, .int 0, .ref h1_2, .ref h1_3, .ref h1_4, .ref h1_5, .ref h1_6, .ref h1_7, .ref h1_8, .ref h1_9, .ref a2, .ref h1_11, .ref h1_12])), (a1, .inl (yj1, 60, .inr (.inl fx15))), (a2, .inl (yj2, 60, .inr (.inl f2)))] := hD
  have hK : va_K (dC, dI) vwCl [(yb, .byte), (yj1, .long), (yj2, .long)] s := hK
  obtain rfl : rx14 = 1 := hw
  refine lv_if_ne (tgt := 59) hx hb dX3_readInto_54 (by decide) (fun _ => ?_) (fun hc => absurd hc (by decide))
  refine lv_aload_n hx hb dX3_readInto_59 rfl (lv_at hl 0 rfl) ?_
  refine va_get (D := (dC, dI)) (ci := 2) (v := .ref h1) (C := RX3) (T := TX3) (N := 17) hx hb hts inX3_ hown hK hP 2 rfl rfl 3 (by decide) (hts (.fieldLink RX3 36 "GateWheel$Reader" "circuit" "LGateWheel$Circuit;") (List.mem_of_getElem? (i := 1) rfl)) (fun _ h9 => h9) rfl dX3_readInto_60 ?_
  have hPc := hP.sub (ws' := [(h1, .inr (0, [.int 0, .int 0, .ref h1_2, .ref h1_3, .ref h1_4, .ref h1_5, .ref h1_6, .ref h1_7, .ref h1_8, .ref h1_9, .ref a2, .ref h1_11, .ref h1_12]))]) [3] rfl
  have hDc := hD.sub (ws' := [(h1, .inr (0, [.int 0, .int 0, .ref h1_2, .ref h1_3, .ref h1_4, .ref h1_5, .ref h1_6, .ref h1_7, .ref h1_8, .ref h1_9, .ref a2, .ref h1_11, .ref h1_12]))]) [3] (by decide) rfl
  have hKc := hK.sub (tys' := []) [] rfl
  have hFc := va_free (wc := [(h1, .inr (0, [.int 0, .int 0, .ref h1_2, .ref h1_3, .ref h1_4, .ref h1_5, .ref h1_6, .ref h1_7, .ref h1_8, .ref h1_9, .ref a2, .ref h1_11, .ref h1_12]))]) hD hS hA [3] rfl
  refine va_callv (va_runV (As := []) (rest := []) ⟨hx, hb, hml, hown, hts⟩ (c_X0_arrange l dC dI h1 0 h1_2 h1_3 h1_4 h1_5 h1_6 h1_7 h1_8 h1_9 a2 h1_11 h1_12 Hx13.size) (cwV 0 hts gX3_readInto_X0_arrange rfl rfl rfl (by decide +kernel) ⟨Nat.le_of_ble_eq_true rfl, Nat.le_of_ble_eq_true rfl⟩) ⟨fun a U g mk q => by obtain ⟨q0, q1, qP, qK, qD⟩ := q; exact ⟨q0, q1, qP, va_K.moved (u := U) (U := U.calling g mk a) (Vm.Alike.refl U.vm) qK, qD⟩, va_recv hKc hPc (ci := 0) (q0 := 0) rfl rfl, fun U hU hW => ⟨rfl, by rw [hU], by rw [hU]; exact hPc, va_K.moved hW.alike hKc, hDc.weaken (fun _ _ _ _ => trivial)⟩⟩ rfl rfl hl.1 rfl (lv_room (Nat.le_of_ble_eq_true rfl)) dX3_readInto_63 ⟨Nat.le_of_ble_eq_true rfl, Nat.le_of_ble_eq_true rfl⟩) hS (fun q _ h => hFc q h) hFc (fun u t Hx16 locs ht hvm hw hB hz1 hk1 hS => ?_)
  obtain ⟨hP1, hK1, hD1⟩ := hB
  rw [ht] at hP1
  have hK1 := va_K.moved hvm.symm hK1
  obtain ⟨hP, hD⟩ := va_join (wr := [(a3, .inl (yb, 2000, .inl f4)), (h2, .inr (1, [.ref a3, .int 0, .int 0, .int 1, .int 0, .long h2_5, .int h2_6])), (h0, .inr (2, [.int 0, .int (-1), .ref h2, .ref h1, .int 0, .int h0_5, .long h0_6, .int h0_7, .int h0_8, .int h0_9, .int h0_10, .int h0_11, .ref h0_12, .ref h0_13, .ref h0_14, .int 0, .ref a1])), (a1, .inl (yj1, 60, .inr (.inl fx15))), (a2, .inl (yj2, 60, .inr (.inl f2)))]) (w1 := [(h1, .inr (0, [.int 0, .int 0, .ref h1_2, .ref h1_3, .ref h1_4, .ref h1_5, .ref h1_6, .ref h1_7, .ref h1_8, .ref h1_9, .ref a2, .ref h1_11, .ref h1_12]))]) hP hD [3] [0, 1, 2, 4, 5] rfl rfl (by decide) (by decide) hk1 hFc hP1 hD1
  have hK := (hK.sub (tys' := [(yb, .byte), (yj1, .long), (yj2, .long)]) [0, 1, 2] rfl).app hK1
  have hP : va_P (dC, dI) vwCl [(a3, .inl (yb, 2000, .inl f4)), (h2, .inr (1, [.ref a3, .int 0, .int 0, .int 1, .int 0, .long h2_5, .int h2_6])), (h0, .inr (2, [.int 0, .int (-1), .ref h2, .ref h1, .int 0, .int h0_5, .long h0_6, .int h0_7, .int h0_8, .int h0_9, .int h0_10, .int h0_11, .ref h0_12, .ref h0_13, .ref h0_14, .int 0, .ref a1])), (a1, .inl (yj1, 60, .inr (.inl fx15))), (a2, .inl (yj2, 60, .inr (.inl f2))), (h1, .inr (0, [.int 0, .int 0, .ref h1_2, .ref h1_3, .ref h1_4, .ref h1_5, .ref h1_6, .ref h1_7, .ref h1_8, .ref h1_9, .ref a2, .ref h1_11, .ref h1_12]))] Hx16 := hP
  have hD : va_D A [(a3, .inl (yb, 2000, .inl f4)), (h2, .inr (1, [.ref a3, .int 0, .int 0, .int 1, .int 0, .long h2_5, .int h2_6])), (h0, .inr (2, [.int 0, .int (-1), .ref h2, .ref h1, .int 0, .int h0_5, .long h0_6, .int h0_7, .int h0_8, .int h0_9, .int h0_10, .int h0_11, .ref h0_12, .ref h0_13, .ref h0_14, .int 0, .ref a1])), (a1, .inl (yj1, 60, .inr (.inl fx15))), (a2, .inl (yj2, 60, .inr (.inl f2))), (h1, .inr (0, [.int 0, .int 0, .ref h1_2, .ref h1_3, .ref h1_4, .ref h1_5, .ref h1_6, .ref h1_7, .ref h1_8, .ref h1_9, .ref a2, .ref h1_11, .ref h1_12]))] := hD
  have hK : va_K (dC, dI) vwCl [(yb, .byte), (yj1, .long), (yj2, .long)] s := hK
  refine lv_iconst (v := 1) hx hb dX3_readInto_66 (by decide) ?_
  have hP9 := hP.sub (ws' := [(h0, .inr (2, [.int 0, .int (-1), .ref h2, .ref h1, .int 0, .int h0_5, .long h0_6, .int h0_7, .int h0_8, .int h0_9, .int h0_10, .int h0_11, .ref h0_12, .ref h0_13, .ref h0_14, .int 0, .ref a1])), (h1, .inr (0, [.int 0, .int 0, .ref h1_2, .ref h1_3, .ref h1_4, .ref h1_5, .ref h1_6, .ref h1_7, .ref h1_8, .ref h1_9, .ref a2, .ref h1_11, .ref h1_12])), (h2, .inr (1, [.ref a3, .int 0, .int 0, .int 1, .int 0, .long h2_5, .int h2_6])), (a1, .inl (yj1, 60, .inr (.inl fx15))), (a2, .inl (yj2, 60, .inr (.inl f2))), (a3, .inl (yb, 2000, .inl f4))]) [2, 5, 1, 3, 4, 0] rfl
  have hD9 := hD.sub (ws' := [(h0, .inr (2, [.int 0, .int (-1), .ref h2, .ref h1, .int 0, .int h0_5, .long h0_6, .int h0_7, .int h0_8, .int h0_9, .int h0_10, .int h0_11, .ref h0_12, .ref h0_13, .ref h0_14, .int 0, .ref a1])), (h1, .inr (0, [.int 0, .int 0, .ref h1_2, .ref h1_3, .ref h1_4, .ref h1_5, .ref h1_6, .ref h1_7, .ref h1_8, .ref h1_9, .ref a2, .ref h1_11, .ref h1_12])), (h2, .inr (1, [.ref a3, .int 0, .int 0, .int 1, .int 0, .long h2_5, .int h2_6])), (a1, .inl (yj1, 60, .inr (.inl fx15))), (a2, .inl (yj2, 60, .inr (.inl f2))), (a3, .inl (yb, 2000, .inl f4))]) [2, 5, 1, 3, 4, 0] (by decide) rfl
  have hK9 := hK.sub (tys' := [(yj1, .long), (yj2, .long), (yb, .byte)]) [1, 2, 0] rfl
  exact W.zret (v := 1) hx hb hr (by decide) (fun t ht hW => ⟨⟨1, (), rfl, rfl, fx15, by rw [ht]; exact hP9, va_K.moved hW.alike hK9, hD9⟩, hS.F ht⟩) hS.2.2 dX3_readInto_67
