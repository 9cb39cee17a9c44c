theorem law_L {L : Nat} (hL : L ≤ 6) (h : ¬ Int32.ofNat L - 6 < 0) : L = 6 := (by decide : ∀ L : Fin 7, ¬ Int32.ofNat L.val - 6 < 0 → L.val = 6) ⟨L, by omega⟩ h
set_option maxHeartbeats 4000000 in
set_option maxRecDepth 100000 in
theorem whole_start {p : Program} {e : Env} {s : State} {m : MethodId} {below : List Frame} {meth : Method} {c : Code} (l : Launch) {b L : Nat} {xs : Nat → Int32} (hL : L ≤ 6) (C0 : lw_At p s m meth c b L xs) : W p l e room_1 s m #[Value.ref b] below meth c s.heap [] 0 0 (lw_Z below #[Value.ref b] s) (entryFrame m ([Value.ref b] : List Value).toArray 4) := by
  obtain ⟨hx, hb, hr, hml, hown0, hts0, hX, hbl, hlocks, hgv⟩ := id C0
  have hown : s.vm.findClass RL = some m.cls := hown0
  have hts : ∀ w ∈ wsL_law, w.before #[Value.ref b] s = true := fun w h => hts0 w (wsL_law_in w h)
  have hA : ∀ q : Nat, s.heap.size ≤ q → (fun q : Nat => s.heap.size ≤ q) q := fun _ h => h
  have hbA : ¬ (fun q : Nat => s.heap.size ≤ q) b := Nat.not_le.mpr hbl
  have nw_X6_15 : va_Nw (.methodLinkNest RX6 15 yX3_init "GateWheel") s := va_Nw.of rfl (hts0 (.methodLinkNest RX6 15 yX3_init "GateWheel") (lw_inT1 _ (List.mem_of_getElem? (i := 22) rfl)))
  have nw_X3_17 : va_Nw (.methodLinkNest RX3 17 yX1_init "GateWheel") s := va_Nw.of rfl (hts0 (.methodLinkNest RX3 17 yX1_init "GateWheel") (lw_inT1 _ (List.mem_of_getElem? (i := 28) rfl)))
  have nw_X6_22 : va_Nw (.methodLinkNest RX6 22 yX0_init "GateWheel") s := va_Nw.of rfl (hts0 (.methodLinkNest RX6 22 yX0_init "GateWheel") (lw_inT1 _ (List.mem_of_getElem? (i := 117) rfl)))
  have nw_X6_42 : va_Nw (.methodLinkNest RX6 42 yX5_init "GateWheel") s := va_Nw.of rfl (hts0 (.methodLinkNest RX6 42 yX5_init "GateWheel") (lw_inT1 _ (List.mem_of_getElem? (i := 185) rfl)))
  have nw_X6_49 : va_Nw (.methodLinkNest RX6 49 yX4_init "GateWheel") s := va_Nw.of rfl (hts0 (.methodLinkNest RX6 49 yX4_init "GateWheel") (lw_inT1 _ (List.mem_of_getElem? (i := 208) rfl)))
  obtain ⟨cX0, iX0, hKnX0⟩ := u_known (C := RX0) (T := TX0) (N := 13) (n := 13) hts inlX0 (hts (.instantiable RX0 13) (List.mem_of_getElem? (i := 20) rfl))
  obtain ⟨cX1, iX1, hKnX1⟩ := u_known (C := RX1) (T := TX1) (N := 7) (n := 7) hts inlX1 (hts (.instantiable RX1 7) (List.mem_of_getElem? (i := 41) rfl))
  obtain ⟨cX3, iX3, hKnX3⟩ := u_known (C := RX3) (T := TX3) (N := 17) (n := 17) hts inlX3 (hts (.instantiable RX3 17) (List.mem_of_getElem? (i := 16) rfl))
  obtain ⟨cX4, iX4, hKnX4⟩ := u_known (C := RX4) (T := TX4) (N := 8) (n := 8) hts inlX4 (hts (.instantiable RX4 8) (List.mem_of_getElem? (i := 33) rfl))
  obtain ⟨cX5, iX5, hKnX5⟩ := u_known (C := RX5) (T := TX5) (N := 5) (n := 5) hts inlX5 (hts (.instantiable RX5 5) (List.mem_of_getElem? (i := 29) rfl))
  obtain ⟨cX6, iX6, hKnX6⟩ := u_known (C := RX6) (T := TX6) (N := 12) (n := 12) hts inlX6 (hts (.instantiable RX6 12) (List.mem_of_getElem? (i := 1) rfl))
  obtain ⟨cX7, iX7, hKnX7⟩ := u_known (C := RX7) (T := TX7) (N := 49) (n := 49) hts inlX7 (hts (.instantiable RX7 49) (List.mem_of_getElem? (i := 4) rfl))
  obtain ⟨dC, dI, hKc⟩ : ∃ (dC : Nat → ClassId) (dI : Nat → Nat → Nat), ∀ (k : Nat) (q : vw_C), vwCl[k]? = some q → u_Kn s q.1 q.2.1 q.2.2 (dC k) (dI k) := by
    refine ⟨fun k => if k = 0 then cX0 else if k = 1 then cX1 else if k = 2 then cX3 else if k = 3 then cX4 else if k = 4 then cX5 else if k = 5 then cX6 else cX7, fun k => if k = 0 then iX0 else if k = 1 then iX1 else if k = 2 then iX3 else if k = 3 then iX4 else if k = 4 then iX5 else if k = 5 then iX6 else iX7, ?_⟩
    intro k q hq
    match k, hq with
    | 0, hq => cases hq; exact hKnX0
    | 1, hq => cases hq; exact hKnX1
    | 2, hq => cases hq; exact hKnX3
    | 3, hq => cases hq; exact hKnX4
    | 4, hq => cases hq; exact hKnX5
    | 5, hq => cases hq; exact hKnX6
    | 6, hq => cases hq; exact hKnX7
    | k + 7, hq => simp [vwCl] at hq
  have hS : va_S (fun q : Nat => s.heap.size ≤ q) s.heap s.heap [] := va_S.rf
  have hK : va_K (dC, dI) vwCl [] s := ⟨hKc, fun k q h => by simp at h⟩
  have hP : va_P (dC, dI) vwCl [] s.heap := fun k q h => by simp at h
  have hD : va_D (fun q : Nat => s.heap.size ≤ q) [] := ⟨fun i j p q h => by simp at h, fun k q h => by simp at h⟩
  have hl := lv_entry ([.ref b]) (n := 4) (Nat.le_of_ble_eq_true rfl)
  rw [lg_entry_eq]
  generalize (lg_sl ([.ref b]) ++ List.replicate (4 - (lg_sl ([.ref b])).length) Slot.unset).toArray = ls at hl ⊢
  have hl : lv_has ls 4 [(0, .ref b)] := hl
  refine va_new (ci := 5) (fs := [.null, .int 0, .null, .null, .null, .null, .null, .null, .null, .int 0, .null, .int 0]) (C := RX6) (T := TX6) (N := 12) hx hb hts inlX6 tyX6 tyX6_ok hown (hts (.classLink RL 7 RX6) (List.mem_of_getElem? (i := 0) rfl)) (hts (.instantiable RX6 12) (List.mem_of_getElem? (i := 1) rfl)) (hts (.initialized RX6) (List.mem_of_getElem? (i := 2) rfl)) hK hP hD hS hA rfl (fun j hj => by rcases (show j = 0 ∨ j = 1 ∨ j = 2 ∨ j = 3 ∨ j = 4 ∨ j = 5 ∨ j = 6 ∨ j = 7 ∨ j = 8 ∨ j = 9 ∨ j = 10 ∨ j = 11 by omega) with rfl | rfl | rfl | rfl | rfl | rfl | rfl | rfl | rfl | rfl | rfl | rfl <;> rfl) (Nat.le_of_ble_eq_true rfl) (Nat.le_of_ble_eq_true rfl) dL_law_0 (fun q1 H2 hP hD hS => ?_)
  have hP : va_P (dC, dI) vwCl [(q1, .inr (5, [.null, .int 0, .null, .null, .null, .null, .null, .null, .null, .int 0, .null, .int 0]))] H2 := hP
  have hD : va_D (fun q : Nat => s.heap.size ≤ q) [(q1, .inr (5, [.null, .int 0, .null, .null, .null, .null, .null, .null, .null, .int 0, .null, .int 0]))] := hD
  refine W.widen (k := 1) (n := 12) (by omega) (by omega) ?_
  refine lv_dup hx hb dL_law_3 rfl ?_
  have hPc := hP.sub (ws' := [(q1, .inr (5, [.null, .int 0, .null, .null, .null, .null, .null, .null, .null, .int 0, .null, .int 0]))]) [0] rfl
  have hDc := hD.sub (ws' := [(q1, .inr (5, [.null, .int 0, .null, .null, .null, .null, .null, .null, .null, .int 0, .null, .int 0]))]) [0] (by decide) rfl
  have hKc := hK.sub (tys' := []) [] rfl
  have hFc := va_free (wc := [(q1, .inr (5, [.null, .int 0, .null, .null, .null, .null, .null, .null, .null, .int 0, .null, .int 0]))]) hD hS hA [0] rfl
  refine va_callv (va_runI (As := []) (rest := [.ref q1]) ⟨hx, hb, hml, hown, hts⟩ (c_X6_init l dC dI q1 H2.size) (cwI 0 hts gL_law_X6_init rfl rfl rfl (hts (.initialized RX6) (List.mem_of_getElem? (i := 2) rfl)) (hts (.methodLink RL 9 yX6_init) (List.mem_of_getElem? (i := 7) rfl)) (hts (.instanceMethod yX6_init) (List.mem_of_getElem? (i := 8) rfl)) rfl (by decide +kernel) ⟨Nat.le_of_ble_eq_true rfl, Nat.le_of_ble_eq_true rfl⟩) ⟨fun a U g mk q => by obtain ⟨q0, q1, qP, qK, qD, qN0, qN1, qN2, qN3, qN4⟩ := q; exact ⟨q0, q1, qP, va_K.moved (u := U) (U := U.calling g mk a) (Vm.Alike.refl U.vm) qK, qD, va_Nw.same rfl rfl qN0, va_Nw.same rfl rfl qN1, va_Nw.same rfl rfl qN2, va_Nw.same rfl rfl qN3, va_Nw.same rfl rfl qN4⟩, fun U hU hW => ⟨rfl, by rw [hU], by rw [hU]; exact hPc, va_K.moved hW.alike hKc, hDc.weaken (fun _ _ _ _ => trivial), va_Nw.warmM hW nw_X6_15, va_Nw.warmM hW nw_X3_17, va_Nw.warmM hW nw_X6_22, va_Nw.warmM hW nw_X6_42, va_Nw.warmM hW nw_X6_49⟩⟩ rfl rfl hl.1 rfl (lv_room (Nat.le_of_ble_eq_true rfl)) dL_law_4 ⟨Nat.le_of_ble_eq_true rfl, Nat.le_of_ble_eq_true rfl⟩) hS (fun q _ h => hFc q h) hFc (fun u t H3 locs ht hvm hw hB hz1 hk1 hS => ?_)
  obtain ⟨g5, g6, g7, g8, g9, g10, g11, g12, g13, k14, k15, k16, k17, k18, s19, s20, s21, s22, s23, s24, s25, s26, s27, s28, s29, t30, t31, t32, t33, t34, t35, t36, t37, t38, t39, t40, o41, u42, u43, u44, u45, u46, y47, y48, y49, hP1, hK1, hD1⟩ := hB
  rw [ht] at hP1
  have hK1 := va_K.moved hvm.symm hK1
  obtain ⟨hP, hD⟩ := va_join (wr := []) (w1 := [(q1, .inr (5, [.ref g5, .int 0, .ref g6, .ref g7, .ref g8, .ref g9, .ref g10, .ref g11, .ref g12, .int 0, .ref g13, .int 0])), (g5, .inl (y49, 2000, .inl (fun _ => 0))), (g6, .inr (2, [.int 0, .int (-1), .ref k14, .null, .int 0, .int 0, .long 0, .int 0, .int 0, .int 0, .int 0, .int 0, .ref k15, .ref k16, .ref k17, .int 0, .ref k18])), (k14, .inr (1, [.null, .int 0, .int 0, .int 0, .int 0, .long 0, .int 0])), (k18, .inl (y47, 60, .inr (.inl (fun _ => 0)))), (g7, .inr (0, [.int 0, .int 0, .ref s19, .ref s20, .ref s21, .ref s22, .ref s23, .ref s24, .ref s25, .ref s26, .ref s27, .ref s28, .ref s29])), (g8, .inr (0, [.int 0, .int 0, .ref t30, .ref t31, .ref t32, .ref t33, .ref t34, .ref t35, .ref t36, .ref t37, .ref t38, .ref t39, .ref t40])), (t38, .inl (y48, 60, .inr (.inl (fun _ => 0)))), (g12, .inr (4, [.int 0, .long 0, .long 0, .ref o41, .long 0])), (g13, .inr (3, [.int 0, .int 0, .ref u42, .ref u43, .ref u44, .ref u45, .ref u46, .long 0]))]) hP hD [0] [] rfl rfl (by decide) (by decide) hk1 hFc hP1 hD1
  have hK := (hK.sub (tys' := []) [] rfl).app hK1
  have hP : va_P (dC, dI) vwCl [(q1, .inr (5, [.ref g5, .int 0, .ref g6, .ref g7, .ref g8, .ref g9, .ref g10, .ref g11, .ref g12, .int 0, .ref g13, .int 0])), (g5, .inl (y49, 2000, .inl (fun _ => 0))), (g6, .inr (2, [.int 0, .int (-1), .ref k14, .null, .int 0, .int 0, .long 0, .int 0, .int 0, .int 0, .int 0, .int 0, .ref k15, .ref k16, .ref k17, .int 0, .ref k18])), (k14, .inr (1, [.null, .int 0, .int 0, .int 0, .int 0, .long 0, .int 0])), (k18, .inl (y47, 60, .inr (.inl (fun _ => 0)))), (g7, .inr (0, [.int 0, .int 0, .ref s19, .ref s20, .ref s21, .ref s22, .ref s23, .ref s24, .ref s25, .ref s26, .ref s27, .ref s28, .ref s29])), (g8, .inr (0, [.int 0, .int 0, .ref t30, .ref t31, .ref t32, .ref t33, .ref t34, .ref t35, .ref t36, .ref t37, .ref t38, .ref t39, .ref t40])), (t38, .inl (y48, 60, .inr (.inl (fun _ => 0)))), (g12, .inr (4, [.int 0, .long 0, .long 0, .ref o41, .long 0])), (g13, .inr (3, [.int 0, .int 0, .ref u42, .ref u43, .ref u44, .ref u45, .ref u46, .long 0]))] H3 := hP
  have hD : va_D (fun q : Nat => s.heap.size ≤ q) [(q1, .inr (5, [.ref g5, .int 0, .ref g6, .ref g7, .ref g8, .ref g9, .ref g10, .ref g11, .ref g12, .int 0, .ref g13, .int 0])), (g5, .inl (y49, 2000, .inl (fun _ => 0))), (g6, .inr (2, [.int 0, .int (-1), .ref k14, .null, .int 0, .int 0, .long 0, .int 0, .int 0, .int 0, .int 0, .int 0, .ref k15, .ref k16, .ref k17, .int 0, .ref k18])), (k14, .inr (1, [.null, .int 0, .int 0, .int 0, .int 0, .long 0, .int 0])), (k18, .inl (y47, 60, .inr (.inl (fun _ => 0)))), (g7, .inr (0, [.int 0, .int 0, .ref s19, .ref s20, .ref s21, .ref s22, .ref s23, .ref s24, .ref s25, .ref s26, .ref s27, .ref s28, .ref s29])), (g8, .inr (0, [.int 0, .int 0, .ref t30, .ref t31, .ref t32, .ref t33, .ref t34, .ref t35, .ref t36, .ref t37, .ref t38, .ref t39, .ref t40])), (t38, .inl (y48, 60, .inr (.inl (fun _ => 0)))), (g12, .inr (4, [.int 0, .long 0, .long 0, .ref o41, .long 0])), (g13, .inr (3, [.int 0, .int 0, .ref u42, .ref u43, .ref u44, .ref u45, .ref u46, .long 0]))] := hD
  have hK : va_K (dC, dI) vwCl [(y49, .byte), (y47, .long), (y48, .long)] s := hK
  refine W.widen (k := 43) (n := 8996) (by omega) (by omega) ?_
  refine lv_astore_n (lv' := [(1, .ref q1), (0, .ref b)]) hx hb dL_law_7 rfl hl (by decide) rfl (fun ls hl => ?_)
  refine va_new (ci := 6) (fs := [.null, .null, .int 0, .int 0, .int 0, .int 0, .int 0, .int 0, .int 0, .int 0, .long 0, .null, .null, .null, .null, .null, .null, .null, .null, .null, .null, .null, .null, .null, .null, .null, .int 0, .int 0, .int 0, .int 0, .int 0, .int 0, .null, .null, .null, .null, .null, .null, .null, .int 0, .null, .null, .null, .null, .null, .null, .int 0, .int 0, .int 0]) (C := RX7) (T := TX7) (N := 49) hx hb hts inlX7 tyX7 tyX7_ok hown (hts (.classLink RL 10 RX7) (List.mem_of_getElem? (i := 3) rfl)) (hts (.instantiable RX7 49) (List.mem_of_getElem? (i := 4) rfl)) (hts (.initialized RX7) (List.mem_of_getElem? (i := 5) rfl)) hK hP hD hS hA rfl (fun j hj => by rcases (show j = 0 ∨ j = 1 ∨ j = 2 ∨ j = 3 ∨ j = 4 ∨ j = 5 ∨ j = 6 ∨ j = 7 ∨ j = 8 ∨ j = 9 ∨ j = 10 ∨ j = 11 ∨ j = 12 ∨ j = 13 ∨ j = 14 ∨ j = 15 ∨ j = 16 ∨ j = 17 ∨ j = 18 ∨ j = 19 ∨ j = 20 ∨ j = 21 ∨ j = 22 ∨ j = 23 ∨ j = 24 ∨ j = 25 ∨ j = 26 ∨ j = 27 ∨ j = 28 ∨ j = 29 ∨ j = 30 ∨ j = 31 ∨ j = 32 ∨ j = 33 ∨ j = 34 ∨ j = 35 ∨ j = 36 ∨ j = 37 ∨ j = 38 ∨ j = 39 ∨ j = 40 ∨ j = 41 ∨ j = 42 ∨ j = 43 ∨ j = 44 ∨ j = 45 ∨ j = 46 ∨ j = 47 ∨ j = 48 by omega) with rfl | rfl | rfl | rfl | rfl | rfl | rfl | rfl | rfl | rfl | rfl | rfl | rfl | rfl | rfl | rfl | rfl | rfl | rfl | rfl | rfl | rfl | rfl | rfl | rfl | rfl | rfl | rfl | rfl | rfl | rfl | rfl | rfl | rfl | rfl | rfl | rfl | rfl | rfl | rfl | rfl | rfl | rfl | rfl | rfl | rfl | rfl | rfl | rfl <;> rfl) (Nat.le_of_ble_eq_true rfl) (Nat.le_of_ble_eq_true rfl) dL_law_8 (fun q50 H51 hP hD hS => ?_)
  have hP : va_P (dC, dI) vwCl [(q1, .inr (5, [.ref g5, .int 0, .ref g6, .ref g7, .ref g8, .ref g9, .ref g10, .ref g11, .ref g12, .int 0, .ref g13, .int 0])), (g5, .inl (y49, 2000, .inl (fun _ => 0))), (g6, .inr (2, [.int 0, .int (-1), .ref k14, .null, .int 0, .int 0, .long 0, .int 0, .int 0, .int 0, .int 0, .int 0, .ref k15, .ref k16, .ref k17, .int 0, .ref k18])), (k14, .inr (1, [.null, .int 0, .int 0, .int 0, .int 0, .long 0, .int 0])), (k18, .inl (y47, 60, .inr (.inl (fun _ => 0)))), (g7, .inr (0, [.int 0, .int 0, .ref s19, .ref s20, .ref s21, .ref s22, .ref s23, .ref s24, .ref s25, .ref s26, .ref s27, .ref s28, .ref s29])), (g8, .inr (0, [.int 0, .int 0, .ref t30, .ref t31, .ref t32, .ref t33, .ref t34, .ref t35, .ref t36, .ref t37, .ref t38, .ref t39, .ref t40])), (t38, .inl (y48, 60, .inr (.inl (fun _ => 0)))), (g12, .inr (4, [.int 0, .long 0, .long 0, .ref o41, .long 0])), (g13, .inr (3, [.int 0, .int 0, .ref u42, .ref u43, .ref u44, .ref u45, .ref u46, .long 0])), (q50, .inr (6, [.null, .null, .int 0, .int 0, .int 0, .int 0, .int 0, .int 0, .int 0, .int 0, .long 0, .null, .null, .null, .null, .null, .null, .null, .null, .null, .null, .null, .null, .null, .null, .null, .int 0, .int 0, .int 0, .int 0, .int 0, .int 0, .null, .null, .null, .null, .null, .null, .null, .int 0, .null, .null, .null, .null, .null, .null, .int 0, .int 0, .int 0]))] H51 := hP
  have hD : va_D (fun q : Nat => s.heap.size ≤ q) [(q1, .inr (5, [.ref g5, .int 0, .ref g6, .ref g7, .ref g8, .ref g9, .ref g10, .ref g11, .ref g12, .int 0, .ref g13, .int 0])), (g5, .inl (y49, 2000, .inl (fun _ => 0))), (g6, .inr (2, [.int 0, .int (-1), .ref k14, .null, .int 0, .int 0, .long 0, .int 0, .int 0, .int 0, .int 0, .int 0, .ref k15, .ref k16, .ref k17, .int 0, .ref k18])), (k14, .inr (1, [.null, .int 0, .int 0, .int 0, .int 0, .long 0, .int 0])), (k18, .inl (y47, 60, .inr (.inl (fun _ => 0)))), (g7, .inr (0, [.int 0, .int 0, .ref s19, .ref s20, .ref s21, .ref s22, .ref s23, .ref s24, .ref s25, .ref s26, .ref s27, .ref s28, .ref s29])), (g8, .inr (0, [.int 0, .int 0, .ref t30, .ref t31, .ref t32, .ref t33, .ref t34, .ref t35, .ref t36, .ref t37, .ref t38, .ref t39, .ref t40])), (t38, .inl (y48, 60, .inr (.inl (fun _ => 0)))), (g12, .inr (4, [.int 0, .long 0, .long 0, .ref o41, .long 0])), (g13, .inr (3, [.int 0, .int 0, .ref u42, .ref u43, .ref u44, .ref u45, .ref u46, .long 0])), (q50, .inr (6, [.null, .null, .int 0, .int 0, .int 0, .int 0, .int 0, .int 0, .int 0, .int 0, .long 0, .null, .null, .null, .null, .null, .null, .null, .null, .null, .null, .null, .null, .null, .null, .null, .int 0, .int 0, .int 0, .int 0, .int 0, .int 0, .null, .null, .null, .null, .null, .null, .null, .int 0, .null, .null, .null, .null, .null, .null, .int 0, .int 0, .int 0]))] := hD
  refine W.widen (k := 44) (n := 9045) (by omega) (by omega) ?_
  refine lv_dup hx hb dL_law_11 rfl ?_
  have hPc := hP.sub (ws' := [(q50, .inr (6, [.null, .null, .int 0, .int 0, .int 0, .int 0, .int 0, .int 0, .int 0, .int 0, .long 0, .null, .null, .null, .null, .null, .null, .null, .null, .null, .null, .null, .null, .null, .null, .null, .int 0, .int 0, .int 0, .int 0, .int 0, .int 0, .null, .null, .null, .null, .null, .null, .null, .int 0, .null, .null, .null, .null, .null, .null, .int 0, .int 0, .int 0]))]) [10] rfl
  have hDc := hD.sub (ws' := [(q50, .inr (6, [.null, .null, .int 0, .int 0, .int 0, .int 0, .int 0, .int 0, .int 0, .int 0, .long 0, .null, .null, .null, .null, .null, .null, .null, .null, .null, .null, .null, .null, .null, .null, .null, .int 0, .int 0, .int 0, .int 0, .int 0, .int 0, .null, .null, .null, .null, .null, .null, .null, .int 0, .null, .null, .null, .null, .null, .null, .int 0, .int 0, .int 0]))]) [10] (by decide) rfl
  have hKc := hK.sub (tys' := []) [] rfl
  have hFc := va_free (wc := [(q50, .inr (6, [.null, .null, .int 0, .int 0, .int 0, .int 0, .int 0, .int 0, .int 0, .int 0, .long 0, .null, .null, .null, .null, .null, .null, .null, .null, .null, .null, .null, .null, .null, .null, .null, .int 0, .int 0, .int 0, .int 0, .int 0, .int 0, .null, .null, .null, .null, .null, .null, .null, .int 0, .null, .null, .null, .null, .null, .null, .int 0, .int 0, .int 0]))]) hD hS hA [10] rfl
  refine va_callv (va_runI (As := []) (rest := [.ref q50]) ⟨hx, hb, hml, hown, hts⟩ (c_X7_init l dC dI q50 H51.size) (cwI 0 hts gL_law_X7_init rfl rfl rfl (hts (.initialized RX7) (List.mem_of_getElem? (i := 5) rfl)) (hts (.methodLink RL 12 yX7_init) (List.mem_of_getElem? (i := 78) rfl)) (hts (.instanceMethod yX7_init) (List.mem_of_getElem? (i := 79) rfl)) rfl (by decide +kernel) ⟨Nat.le_of_ble_eq_true rfl, Nat.le_of_ble_eq_true rfl⟩) ⟨fun a U g mk q => by obtain ⟨q0, q1, qP, qK, qD⟩ := q; exact ⟨q0, q1, qP, va_K.moved (u := U) (U := U.calling g mk a) (Vm.Alike.refl U.vm) qK, qD⟩, fun U hU hW => ⟨rfl, by rw [hU], by rw [hU]; exact hPc, va_K.moved hW.alike hKc, hDc.weaken (fun _ _ _ _ => trivial)⟩⟩ rfl rfl hl.1 rfl (lv_room (Nat.le_of_ble_eq_true rfl)) dL_law_12 ⟨Nat.le_of_ble_eq_true rfl, Nat.le_of_ble_eq_true rfl⟩) hS (fun q _ h => hFc q h) hFc (fun u t H52 locs ht hvm hw hB hz1 hk1 hS => ?_)
  obtain ⟨w54, w55, w56, w57, w58, w59, w60, w61, w62, w63, w64, w65, w66, w67, w68, w69, w70, w71, w72, w73, w74, w75, w76, w77, w78, w79, w80, w81, w82, w83, y84, hP1, hK1, hD1⟩ := hB
  rw [ht] at hP1
  have hK1 := va_K.moved hvm.symm hK1
  obtain ⟨hP, hD⟩ := va_join (wr := [(q1, .inr (5, [.ref g5, .int 0, .ref g6, .ref g7, .ref g8, .ref g9, .ref g10, .ref g11, .ref g12, .int 0, .ref g13, .int 0])), (g5, .inl (y49, 2000, .inl (fun _ => 0))), (g6, .inr (2, [.int 0, .int (-1), .ref k14, .null, .int 0, .int 0, .long 0, .int 0, .int 0, .int 0, .int 0, .int 0, .ref k15, .ref k16, .ref k17, .int 0, .ref k18])), (k14, .inr (1, [.null, .int 0, .int 0, .int 0, .int 0, .long 0, .int 0])), (k18, .inl (y47, 60, .inr (.inl (fun _ => 0)))), (g7, .inr (0, [.int 0, .int 0, .ref s19, .ref s20, .ref s21, .ref s22, .ref s23, .ref s24, .ref s25, .ref s26, .ref s27, .ref s28, .ref s29])), (g8, .inr (0, [.int 0, .int 0, .ref t30, .ref t31, .ref t32, .ref t33, .ref t34, .ref t35, .ref t36, .ref t37, .ref t38, .ref t39, .ref t40])), (t38, .inl (y48, 60, .inr (.inl (fun _ => 0)))), (g12, .inr (4, [.int 0, .long 0, .long 0, .ref o41, .long 0])), (g13, .inr (3, [.int 0, .int 0, .ref u42, .ref u43, .ref u44, .ref u45, .ref u46, .long 0]))]) (w1 := [(q50, .inr (6, [.ref w54, .ref w55, .int 0, .int 0, .int 0, .int (-1), .int 0, .int 0, .int 0, .int 0, .long 0, .ref w56, .ref w57, .ref w58, .ref w59, .ref w60, .ref w61, .ref w62, .ref w63, .ref w64, .ref w65, .ref w66, .ref w67, .ref w68, .ref w69, .ref w70, .int 0, .int 0, .int 0, .int 0, .int 0, .int 0, .ref w71, .ref w72, .ref w73, .ref w74, .ref w75, .ref w76, .ref w77, .int 0, .ref w78, .ref w79, .ref w80, .ref w81, .ref w82, .ref w83, .int 0, .int 0, .int 0])), (w54, .inl (y84, 2020, .inl (fun _ => 0)))]) hP hD [10] [0, 1, 2, 3, 4, 5, 6, 7, 8, 9] rfl rfl (by decide) (by decide) hk1 hFc hP1 hD1
  have hK := (hK.sub (tys' := [(y49, .byte), (y47, .long), (y48, .long)]) [0, 1, 2] rfl).app hK1
  have hP : va_P (dC, dI) vwCl [(q1, .inr (5, [.ref g5, .int 0, .ref g6, .ref g7, .ref g8, .ref g9, .ref g10, .ref g11, .ref g12, .int 0, .ref g13, .int 0])), (g5, .inl (y49, 2000, .inl (fun _ => 0))), (g6, .inr (2, [.int 0, .int (-1), .ref k14, .null, .int 0, .int 0, .long 0, .int 0, .int 0, .int 0, .int 0, .int 0, .ref k15, .ref k16, .ref k17, .int 0, .ref k18])), (k14, .inr (1, [.null, .int 0, .int 0, .int 0, .int 0, .long 0, .int 0])), (k18, .inl (y47, 60, .inr (.inl (fun _ => 0)))), (g7, .inr (0, [.int 0, .int 0, .ref s19, .ref s20, .ref s21, .ref s22, .ref s23, .ref s24, .ref s25, .ref s26, .ref s27, .ref s28, .ref s29])), (g8, .inr (0, [.int 0, .int 0, .ref t30, .ref t31, .ref t32, .ref t33, .ref t34, .ref t35, .ref t36, .ref t37, .ref t38, .ref t39, .ref t40])), (t38, .inl (y48, 60, .inr (.inl (fun _ => 0)))), (g12, .inr (4, [.int 0, .long 0, .long 0, .ref o41, .long 0])), (g13, .inr (3, [.int 0, .int 0, .ref u42, .ref u43, .ref u44, .ref u45, .ref u46, .long 0])), (q50, .inr (6, [.ref w54, .ref w55, .int 0, .int 0, .int 0, .int (-1), .int 0, .int 0, .int 0, .int 0, .long 0, .ref w56, .ref w57, .ref w58, .ref w59, .ref w60, .ref w61, .ref w62, .ref w63, .ref w64, .ref w65, .ref w66, .ref w67, .ref w68, .ref w69, .ref w70, .int 0, .int 0, .int 0, .int 0, .int 0, .int 0, .ref w71, .ref w72, .ref w73, .ref w74, .ref w75, .ref w76, .ref w77, .int 0, .ref w78, .ref w79, .ref w80, .ref w81, .ref w82, .ref w83, .int 0, .int 0, .int 0])), (w54, .inl (y84, 2020, .inl (fun _ => 0)))] H52 := hP
  have hD : va_D (fun q : Nat => s.heap.size ≤ q) [(q1, .inr (5, [.ref g5, .int 0, .ref g6, .ref g7, .ref g8, .ref g9, .ref g10, .ref g11, .ref g12, .int 0, .ref g13, .int 0])), (g5, .inl (y49, 2000, .inl (fun _ => 0))), (g6, .inr (2, [.int 0, .int (-1), .ref k14, .null, .int 0, .int 0, .long 0, .int 0, .int 0, .int 0, .int 0, .int 0, .ref k15, .ref k16, .ref k17, .int 0, .ref k18])), (k14, .inr (1, [.null, .int 0, .int 0, .int 0, .int 0, .long 0, .int 0])), (k18, .inl (y47, 60, .inr (.inl (fun _ => 0)))), (g7, .inr (0, [.int 0, .int 0, .ref s19, .ref s20, .ref s21, .ref s22, .ref s23, .ref s24, .ref s25, .ref s26, .ref s27, .ref s28, .ref s29])), (g8, .inr (0, [.int 0, .int 0, .ref t30, .ref t31, .ref t32, .ref t33, .ref t34, .ref t35, .ref t36, .ref t37, .ref t38, .ref t39, .ref t40])), (t38, .inl (y48, 60, .inr (.inl (fun _ => 0)))), (g12, .inr (4, [.int 0, .long 0, .long 0, .ref o41, .long 0])), (g13, .inr (3, [.int 0, .int 0, .ref u42, .ref u43, .ref u44, .ref u45, .ref u46, .long 0])), (q50, .inr (6, [.ref w54, .ref w55, .int 0, .int 0, .int 0, .int (-1), .int 0, .int 0, .int 0, .int 0, .long 0, .ref w56, .ref w57, .ref w58, .ref w59, .ref w60, .ref w61, .ref w62, .ref w63, .ref w64, .ref w65, .ref w66, .ref w67, .ref w68, .ref w69, .ref w70, .int 0, .int 0, .int 0, .int 0, .int 0, .int 0, .ref w71, .ref w72, .ref w73, .ref w74, .ref w75, .ref w76, .ref w77, .int 0, .ref w78, .ref w79, .ref w80, .ref w81, .ref w82, .ref w83, .int 0, .int 0, .int 0])), (w54, .inl (y84, 2020, .inl (fun _ => 0)))] := hD
  have hK : va_K (dC, dI) vwCl [(y49, .byte), (y47, .long), (y48, .long), (y84, .byte)] s := hK
  refine W.widen (k := 74) (n := 22065) (by omega) (by omega) ?_
  refine lv_astore_n (lv' := [(2, .ref q50), (1, .ref q1), (0, .ref b)]) hx hb dL_law_15 rfl hl (by decide) rfl (fun ls hl => ?_)
  refine lv_iconst (v := 0) hx hb dL_law_16 (by decide) ?_
  refine lv_istore_n (lv' := [(3, .int 0), (2, .ref q50), (1, .ref q1), (0, .ref b)]) hx hb dL_law_17 rfl hl (by decide) rfl (fun ls hl => ?_)
  refine lv_iload_n hx hb dL_law_18 rfl (lv_at hl 0 rfl) ?_
  refine lv_aload_n hx hb dL_law_19 rfl (lv_at hl 3 rfl) ?_
  refine va_slen hx hb hX hbl hbA hS dL_law_20 ?_
  refine lv_bipush (v := 6) hx hb dL_law_21 (by decide) ?_
  refine lv_isub hx hb dL_law_23 ?_
  refine lv_topi (fun z85 ez85 => ?_)
  refine lv_icmp_gt (tgt := 691) hx hb dL_law_24 (by decide) (fun c86 => ?_) (fun c86 => ?_)
  · refine lv_iconst (v := 1) hx hb dL_law_691 (by decide) ?_
    refine va_forget (fun q hq => hS.2.2 q hq) ?_
    refine W.widen (k := 74) (n := 22065) (by omega) (by omega) ?_
    exact lw_ret hx hb hr hlocks dL_law_692
  · obtain rfl : L = 6 := law_L hL (by rw [← ez85]; exact c86)
    refine lv_aload_n hx hb dL_law_27 rfl (lv_at hl 3 rfl) ?_
    refine lv_iload_n hx hb dL_law_28 rfl (lv_at hl 0 rfl) ?_
    refine va_sld hx hb hX hbl hbA hS (by unfold vp_in; decide) dL_law_29 ?_
    refine lv_topi (fun z87 ez87 => ?_)
    refine lv_bipush (v := 31) hx hb dL_law_30 (by decide) ?_
    refine lv_iand hx hb dL_law_32 ?_
    refine lv_topi (fun z88 ez88 => ?_)
    obtain ⟨j, hj, ej⟩ := pk_andE z87 (m := 31) 5 (by decide)
    rw [ej] at ez88
    subst ez88
    have hj : j < 32 := hj
    rcases (show j = 0 ∨ j = 1 ∨ j = 2 ∨ j = 3 ∨ j = 4 ∨ j = 5 ∨ j = 6 ∨ j = 7 ∨ j = 8 ∨ j = 9 ∨ j = 10 ∨ j = 11 ∨ j = 12 ∨ j = 13 ∨ j = 14 ∨ j = 15 ∨ j = 16 ∨ j = 17 ∨ j = 18 ∨ j = 19 ∨ j = 20 ∨ 21 ≤ j by omega) with rfl | rfl | rfl | rfl | rfl | rfl | rfl | rfl | rfl | rfl | rfl | rfl | rfl | rfl | rfl | rfl | rfl | rfl | rfl | rfl | rfl | hj2
    · refine lv_tableIn (off := 99) (tgt := 132) hx hb dL_law_33 (by decide) (by decide) rfl (by decide) ?_
      exact law_case_0 C0 hK hP hD hS (lv_sub hl [0, 1, 2, 3] rfl)
    · refine lv_tableIn (off := 162) (tgt := 195) hx hb dL_law_33 (by decide) (by decide) rfl (by decide) ?_
      exact law_case_1 C0 hK hP hD hS (lv_sub hl [0, 1, 2, 3] rfl)
    · refine lv_tableIn (off := 185) (tgt := 218) hx hb dL_law_33 (by decide) (by decide) rfl (by decide) ?_
      exact law_case_2 C0 hK hP hD hS (lv_sub hl [0, 1, 2, 3] rfl)
    · refine lv_tableIn (off := 198) (tgt := 231) hx hb dL_law_33 (by decide) (by decide) rfl (by decide) ?_
      exact law_case_3 C0 hK hP hD hS (lv_sub hl [0, 1, 2, 3] rfl)
    · refine lv_tableIn (off := 221) (tgt := 254) hx hb dL_law_33 (by decide) (by decide) rfl (by decide) ?_
      exact law_case_4 C0 hK hP hD hS (lv_sub hl [0, 1, 2, 3] rfl)
    · refine lv_tableIn (off := 274) (tgt := 307) hx hb dL_law_33 (by decide) (by decide) rfl (by decide) ?_
      exact law_case_5 C0 hK hP hD hS (lv_sub hl [0, 1, 2, 3] rfl)
    · refine lv_tableIn (off := 307) (tgt := 340) hx hb dL_law_33 (by decide) (by decide) rfl (by decide) ?_
      exact law_case_6 C0 hK hP hD hS (lv_sub hl [0, 1, 2, 3] rfl)
    · refine lv_tableIn (off := 340) (tgt := 373) hx hb dL_law_33 (by decide) (by decide) rfl (by decide) ?_
      exact law_case_7 C0 hK hP hD hS (lv_sub hl [0, 1, 2, 3] rfl)
    · refine lv_tableIn (off := 373) (tgt := 406) hx hb dL_law_33 (by decide) (by decide) rfl (by decide) ?_
      exact law_case_8 C0 hK hP hD hS (lv_sub hl [0, 1, 2, 3] rfl)
    · refine lv_tableIn (off := 396) (tgt := 429) hx hb dL_law_33 (by decide) (by decide) rfl (by decide) ?_
      exact law_case_9 C0 hK hP hD hS (lv_sub hl [0, 1, 2, 3] rfl)
    · refine lv_tableIn (off := 409) (tgt := 442) hx hb dL_law_33 (by decide) (by decide) rfl (by decide) ?_
      exact law_case_10 C0 hK hP hD hS (lv_sub hl [0, 1, 2, 3] rfl)
    · refine lv_tableIn (off := 422) (tgt := 455) hx hb dL_law_33 (by decide) (by decide) rfl (by decide) ?_
      exact law_case_11 C0 hK hP hD hS (lv_sub hl [0, 1, 2, 3] rfl)
    · refine lv_tableIn (off := 435) (tgt := 468) hx hb dL_law_33 (by decide) (by decide) rfl (by decide) ?_
      exact law_case_12 C0 hK hP hD hS (lv_sub hl [0, 1, 2, 3] rfl)
    · refine lv_tableIn (off := 458) (tgt := 491) hx hb dL_law_33 (by decide) (by decide) rfl (by decide) ?_
      exact law_case_13 C0 hK hP hD hS (lv_sub hl [0, 1, 2, 3] rfl)
    · refine lv_tableIn (off := 471) (tgt := 504) hx hb dL_law_33 (by decide) (by decide) rfl (by decide) ?_
      exact law_case_14 C0 hK hP hD hS (lv_sub hl [0, 1, 2, 3] rfl)
    · refine lv_tableIn (off := 504) (tgt := 537) hx hb dL_law_33 (by decide) (by decide) rfl (by decide) ?_
      exact law_case_15 C0 hK hP hD hS (lv_sub hl [0, 1, 2, 3] rfl)
    · refine lv_tableIn (off := 517) (tgt := 550) hx hb dL_law_33 (by decide) (by decide) rfl (by decide) ?_
      exact law_case_16 C0 hK hP hD hS (lv_sub hl [0, 1, 2, 3] rfl)
    · refine lv_tableIn (off := 550) (tgt := 583) hx hb dL_law_33 (by decide) (by decide) rfl (by decide) ?_
      exact law_case_17 C0 hK hP hD hS (lv_sub hl [0, 1, 2, 3] rfl)
    · refine lv_tableIn (off := 573) (tgt := 606) hx hb dL_law_33 (by decide) (by decide) rfl (by decide) ?_
      exact law_case_18 C0 hK hP hD hS (lv_sub hl [0, 1, 2, 3] rfl)
    · refine lv_tableIn (off := 596) (tgt := 629) hx hb dL_law_33 (by decide) (by decide) rfl (by decide) ?_
      exact law_case_19 C0 hK hP hD hS (lv_sub hl [0, 1, 2, 3] rfl)
    · refine lv_tableIn (off := 629) (tgt := 662) hx hb dL_law_33 (by decide) (by decide) rfl (by decide) ?_
      exact law_case_20 C0 hK hP hD hS (lv_sub hl [0, 1, 2, 3] rfl)
    · refine lv_tableOut (tgt := 685) hx hb dL_law_33 (Or.inr (by rw [nI_toInt (by omega)]; omega)) (by decide) ?_
      exact law_exit C0 hS (lv_sub hl [0, 1, 2, 3] rfl)
