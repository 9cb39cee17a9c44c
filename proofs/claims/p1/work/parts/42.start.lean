theorem law_L {L : Nat} (hL : L ≤ 6) (h : ¬ Int32.ofNat L - 6 < 0) : L = 6 := (by decide : ∀ L : Fin 7, ¬ Int32.ofNat L.val - 6 < 0 → L.val = 6) ⟨L, by omega⟩ h
set_option maxHeartbeats 4000000 in
set_option maxRecDepth 100000 in
theorem whole_start {p : Program} {e : Env} {s : State} {m : MethodId} {below : List Frame} {meth : Method} {c : Code} (l : Launch) {b L : Nat} {xs : Nat → Int32} (hL : L ≤ 6) (C0 : lw_At p s m meth c b L xs) : W p l e room_1 s m #[Value.ref b] below meth c s.heap [] 0 0 (lw_Z below #[Value.ref b] s) (entryFrame m ([Value.ref b] : List Value).toArray 4) := by
  obtain ⟨hx, hb, hr, hml, hown0, hts0, hX, hbl, hlocks, hgv⟩ := id C0
  have hown : s.vm.findClass RL = some m.cls := hown0
  have hts : ∀ w ∈ lw_tbl, w.before #[Value.ref b] s = true := hts0
  have hA : ∀ q : Nat, s.heap.size ≤ q → (fun q : Nat => s.heap.size ≤ q) q := fun _ h => h
  have hbA : ¬ (fun q : Nat => s.heap.size ≤ q) b := Nat.not_le.mpr hbl
  have nw_X6_15 : va_Nw (.methodLinkNest RX6 15 yX3_init "GateWheel") s := va_Nw.of rfl (hts0 (.methodLinkNest RX6 15 yX3_init "GateWheel") wm_1019)
  have nw_X3_17 : va_Nw (.methodLinkNest RX3 17 yX1_init "GateWheel") s := va_Nw.of rfl (hts0 (.methodLinkNest RX3 17 yX1_init "GateWheel") wm_1023)
  have nw_X6_22 : va_Nw (.methodLinkNest RX6 22 yX0_init "GateWheel") s := va_Nw.of rfl (hts0 (.methodLinkNest RX6 22 yX0_init "GateWheel") wm_1020)
  have nw_X6_42 : va_Nw (.methodLinkNest RX6 42 yX5_init "GateWheel") s := va_Nw.of rfl (hts0 (.methodLinkNest RX6 42 yX5_init "GateWheel") wm_1021)
  have nw_X6_49 : va_Nw (.methodLinkNest RX6 49 yX4_init "GateWheel") s := va_Nw.of rfl (hts0 (.methodLinkNest RX6 49 yX4_init "GateWheel") wm_1022)
  obtain ⟨cX0, iX0, hKnX0⟩ := u_known (C := RX0) (T := TX0) (N := 13) (n := 13) hts inX0 (hts (.instantiable RX0 13) wm_131)
  obtain ⟨cX1, iX1, hKnX1⟩ := u_known (C := RX1) (T := TX1) (N := 7) (n := 7) hts inX1 (hts (.instantiable RX1 7) wm_152)
  obtain ⟨cX3, iX3, hKnX3⟩ := u_known (C := RX3) (T := TX3) (N := 17) (n := 17) hts inX3 (hts (.instantiable RX3 17) wm_127)
  obtain ⟨cX4, iX4, hKnX4⟩ := u_known (C := RX4) (T := TX4) (N := 8) (n := 8) hts inX4 (hts (.instantiable RX4 8) wm_144)
  obtain ⟨cX5, iX5, hKnX5⟩ := u_known (C := RX5) (T := TX5) (N := 5) (n := 5) hts inX5 (hts (.instantiable RX5 5) wm_140)
  obtain ⟨cX6, iX6, hKnX6⟩ := u_known (C := RX6) (T := TX6) (N := 12) (n := 12) hts inX6 (hts (.instantiable RX6 12) wm_112)
  obtain ⟨cX7, iX7, hKnX7⟩ := u_known (C := RX7) (T := TX7) (N := 49) (n := 49) hts inX7 (hts (.instantiable RX7 49) wm_115)
  obtain ⟨dC, dI, hKc⟩ : ∃ (dC : Nat → ClassId) (dI : Nat → Nat → Nat), ∀ (k : Nat) (q : vw_C), vwCl[k]? = some q → u_Kn s q.1 q.2.1 q.2.2 (dC k) (dI k) := by
    refine ⟨fun k => if k = 0 then cX0 else if k = 1 then cX1 else if k = 2 then cX3 else if k = 3 then cX4 else if k = 4 then cX5 else if k = 5 then cX6 else cX7, fun k => if k = 0 then iX0 else if k = 1 then iX1 else if k = 2 then iX3 else if k = 3 then iX4 else if k = 4 then iX5 else if k = 5 then iX6 else iX7, ?_⟩
    intro k q hq
    match k, hq with
    | 0, hq => cases hq; exact hKnX0
    | 1, hq => cases hq; exact hKnX1
    | 2, hq => cases hq; exact hKnX3
    | 3, hq => cases hq; exact hKnX4
    | 4, hq => cases hq; exact hKnX5
    | 5, hq => cases hq; exact hKnX6
    | 6, hq => cases hq; exact hKnX7
    | k + 7, hq => simp [vwCl] at hq
  have hS : va_S (fun q : Nat => s.heap.size ≤ q) s.heap s.heap [] := va_S.rf
  have hK : va_K (dC, dI) vwCl [] s := ⟨hKc, fun k q h => by simp at h⟩
  have hP : va_P (dC, dI) vwCl [] s.heap := fun k q h => by simp at h
  have hD : va_D (fun q : Nat => s.heap.size ≤ q) [] := ⟨fun i j p q h => by simp at h, fun k q h => by simp at h⟩
  have hl := lv_entry ([.ref b]) (n := 4) (Nat.le_of_ble_eq_true rfl)
  rw [lg_entry_eq]
  generalize (lg_sl ([.ref b]) ++ List.replicate (4 - (lg_sl ([.ref b])).length) Slot.unset).toArray = ls at hl ⊢
  have hl : lv_has ls 4 [(0, .ref b)] := hl
  refine va_new (ci := 5) (fs := [.null, .int 0, .null, .null, .null, .null, .null, .null, .null, .int 0, .null, .int 0]) (C := RX6) (T := TX6) (N := 12) hx hb hts inX6 tyX6 tyX6_ok hown (hts (.classLink RL 7 RX6) wm_111) (hts (.instantiable RX6 12) wm_112) (hts (.initialized RX6) wm_113) hK hP hD hS hA rfl (fun j hj => by rcases (show j = 0 ∨ j = 1 ∨ j = 2 ∨ j = 3 ∨ j = 4 ∨ j = 5 ∨ j = 6 ∨ j = 7 ∨ j = 8 ∨ j = 9 ∨ j = 10 ∨ j = 11 by omega) with rfl | rfl | rfl | rfl | rfl | rfl | rfl | rfl | rfl | rfl | rfl | rfl <;> rfl) (Nat.le_of_ble_eq_true rfl) (Nat.le_of_ble_eq_true rfl) dL_law_0 (fun qx1 Hx2 hP hD hS => ?_)
  have hP : va_P (dC, dI) vwCl [(qx1, .inr (5, [.null, .int 0, .null, .null, .null, .null, .null, .null, .null, .int 0, .null, .int 0]))] Hx2 := hP
  have hD : va_D (fun q : Nat => s.heap.size ≤ q) [(qx1, .inr (5, [.null, .int 0, .null, .null, .null, .null, .null, .null, .null, .int 0, .null, .int 0]))] := hD
  refine W.widen (k := 1) (n := 12) (by omega) (by omega) ?_
  refine lv_dup hx hb dL_law_3 rfl ?_
  have hPc := hP.sub (ws' := [(qx1, .inr (5, [.null, .int 0, .null, .null, .null, .null, .null, .null, .null, .int 0, .null, .int 0]))]) [0] rfl
  have hDc := hD.sub (ws' := [(qx1, .inr (5, [.null, .int 0, .null, .null, .null, .null, .null, .null, .null, .int 0, .null, .int 0]))]) [0] (by decide) rfl
  have hKc := hK.sub (tys' := []) [] rfl
  have hFc := va_free (wc := [(qx1, .inr (5, [.null, .int 0, .null, .null, .null, .null, .null, .null, .null, .int 0, .null, .int 0]))]) hD hS hA [0] rfl
  refine va_callv (va_runI (As := []) (rest := [.ref qx1]) ⟨hx, hb, hml, hown, hts⟩ (c_X6_init l dC dI qx1 Hx2.size) (cwI 0 hts gg_X6_init rfl rfl rfl (hts (.initialized RX6) wm_113) (hts (.methodLink RL 9 yX6_init) wm_118) (hts (.instanceMethod yX6_init) wm_119) rfl (by decide +kernel) ⟨Nat.le_of_ble_eq_true rfl, Nat.le_of_ble_eq_true rfl⟩) ⟨fun a U g mk q => by obtain ⟨q0, q1, qP, qK, qD, qN0, qN1, qN2, qN3, qN4⟩ := q; exact ⟨q0, q1, qP, va_K.moved (u := U) (U := U.calling g mk a) (Vm.Alike.refl U.vm) qK, qD, va_Nw.same rfl rfl qN0, va_Nw.same rfl rfl qN1, va_Nw.same rfl rfl qN2, va_Nw.same rfl rfl qN3, va_Nw.same rfl rfl qN4⟩, fun U hU hW => ⟨rfl, by rw [hU], by rw [hU]; exact hPc, va_K.moved hW.alike hKc, hDc.weaken (fun _ _ _ _ => trivial), va_Nw.warmM hW nw_X6_15, va_Nw.warmM hW nw_X3_17, va_Nw.warmM hW nw_X6_22, va_Nw.warmM hW nw_X6_42, va_Nw.warmM hW nw_X6_49⟩⟩ rfl rfl hl.1 rfl (lv_room (Nat.le_of_ble_eq_true rfl)) dL_law_4 ⟨Nat.le_of_ble_eq_true rfl, Nat.le_of_ble_eq_true rfl⟩) hS (fun q _ h => hFc q h) hFc (fun u t Hx3 locs ht hvm hw hB hz1 hk1 hS => ?_)
  obtain ⟨gx5, gx6, gx7, gx8, gx9, gx10, gx11, gx12, gx13, kx14, kx15, kx16, kx17, kx18, sx19, sx20, sx21, sx22, sx23, sx24, sx25, sx26, sx27, sx28, sx29, tx30, tx31, tx32, tx33, tx34, tx35, tx36, tx37, tx38, tx39, tx40, ox41, ux42, ux43, ux44, ux45, ux46, yx47, yx48, yx49, hP1, hK1, hD1⟩ := hB
  rw [ht] at hP1
  have hK1 := va_K.moved hvm.symm hK1
  obtain ⟨hP, hD⟩ := va_join (wr := []) (w1 := [(qx1, .inr (5, [.ref gx5, .int 0, .ref gx6, .ref gx7, .ref gx8, .ref gx9, .ref gx10, .ref gx11, .ref gx12, .int 0, .ref gx13, .int 0])), (gx5, .inl (yx49, 2000, .inl (fun _ => 0))), (gx6, .inr (2, [.int 0, .int (-1), .ref kx14, .null, .int 0, .int 0, .long 0, .int 0, .int 0, .int 0, .int 0, .int 0, .ref kx15, .ref kx16, .ref kx17, .int 0, .ref kx18])), (kx14, .inr (1, [.null, .int 0, .int 0, .int 0, .int 0, .long 0, .int 0])), (kx18, .inl (yx47, 60, .inr (.inl (fun _ => 0)))), (gx7, .inr (0, [.int 0, .int 0, .ref sx19, .ref sx20, .ref sx21, .ref sx22, .ref sx23, .ref sx24, .ref sx25, .ref sx26, .ref sx27, .ref sx28, .ref sx29])), (gx8, .inr (0, [.int 0, .int 0, .ref tx30, .ref tx31, .ref tx32, .ref tx33, .ref tx34, .ref tx35, .ref tx36, .ref tx37, .ref tx38, .ref tx39, .ref tx40])), (tx38, .inl (yx48, 60, .inr (.inl (fun _ => 0)))), (gx12, .inr (4, [.int 0, .long 0, .long 0, .ref ox41, .long 0])), (gx13, .inr (3, [.int 0, .int 0, .ref ux42, .ref ux43, .ref ux44, .ref ux45, .ref ux46, .long 0]))]) hP hD [0] [] rfl rfl (by decide) (by decide) hk1 hFc hP1 hD1
  have hK := (hK.sub (tys' := []) [] rfl).app hK1
  have hP : va_P (dC, dI) vwCl [(qx1, .inr (5, [.ref gx5, .int 0, .ref gx6, .ref gx7, .ref gx8, .ref gx9, .ref gx10, .ref gx11, .ref gx12, .int 0, .ref gx13, .int 0])), (gx5, .inl (yx49, 2000, .inl (fun _ => 0))), (gx6, .inr (2, [.int 0, .int (-1), .ref kx14, .null, .int 0, .int 0, .long 0, .int 0, .int 0, .int 0, .int 0, .int 0, .ref kx15, .ref kx16, .ref kx17, .int 0, .ref kx18])), (kx14, .inr (1, [.null, .int 0, .int 0, .int 0, .int 0, .long 0, .int 0])), (kx18, .inl (yx47, 60, .inr (.inl (fun _ => 0)))), (gx7, .inr (0, [.int 0, .int 0, .ref sx19, .ref sx20, .ref sx21, .ref sx22, .ref sx23, .ref sx24, .ref sx25, .ref sx26, .ref sx27, .ref sx28, .ref sx29])), (gx8, .inr (0, [.int 0, .int 0, .ref tx30, .ref tx31, .ref tx32, .ref tx33, .ref tx34, .ref tx35, .ref tx36, .ref tx37, .ref tx38, .ref tx39, .ref tx40])), (tx38, .inl (yx48, 60, .inr (.inl (fun _ => 0)))), (gx12, .inr (4, [.int 0, .long 0, .long 0, .ref ox41, .long 0])), (gx13, .inr (3, [.int 0, .int 0, .ref ux42, .ref ux43, .ref ux44, .ref ux45, .ref ux46, .long 0]))] Hx3 := hP
  have hD : va_D (fun q : Nat => s.heap.size ≤ q) [(qx1, .inr (5, [.ref gx5, .int 0, .ref gx6, .ref gx7, .ref gx8, .ref gx9, .ref gx10, .ref gx11, .ref gx12, .int 0, .ref gx13, .int 0])), (gx5, .inl (yx49, 2000, .inl (fun _ => 0))), (gx6, .inr (2, [.int 0, .int (-1), .ref kx14, .null, .int 0, .int 0, .long 0, .int 0, .int 0, .int 0, .int 0, .int 0, .ref kx15, .ref kx16, .ref kx17, .int 0, .ref kx18])), (kx14, .inr (1, [.null, .int 0, .int 0, .int 0, .int 0, .long 0, .int 0])), (kx18, .inl (yx47, 60, .inr (.inl (fun _ => 0)))), (gx7, .inr (0, [.int 0, .int 0, .ref sx19, .ref sx20, .ref sx21, .ref sx22, .ref sx23, .ref sx24, .ref sx25, .ref sx26, .ref sx27, .ref sx28, .ref sx29])), (gx8, .inr (0, [.int 0, .int 0, .ref tx30, .ref tx31, .ref tx32, .ref tx33, .ref tx34, .ref tx35, .ref tx36, .ref tx37, .ref tx38, .ref tx39, .ref tx40])), (tx38, .inl (yx48, 60, .inr (.inl (fun _ => 0)))), (gx12, .inr (4, [.int 0, .long 0, .long 0, .ref ox41, .long 0])), (gx13, .inr (3, [.int 0, .int 0, .ref ux42, .ref ux43, .ref ux44, .ref ux45, .ref ux46, .long 0]))] := hD
  have hK : va_K (dC, dI) vwCl [(yx49, .byte), (yx47, .long), (yx48, .long)] s := hK
  refine W.widen (k := 43) (n := 8996) (by omega) (by omega) ?_
  refine lv_astore_n (lv' := [(1, .ref qx1), (0, .ref b)]) hx hb dL_law_7 rfl hl (by decide) rfl (fun ls hl => ?_)
  refine va_new (ci := 6) (fs := [.null, .null, .int 0, .int 0, .int 0, .int 0, .int 0, .int 0, .int 0, .int 0, .long 0, .null, .null, .null, .null, .null, .null, .null, .null, .null, .null, .null, .null, .null, .null, .null, .int 0, .int 0, .int 0, .int 0, .int 0, .int 0, .null, .null, .null, .null, .null, .null, .null, .int 0, .null, .null, .null, .null, .null, .null, .int 0, .int 0, .int 0]) (C := RX7) (T := TX7) (N := 49) hx hb hts inX7 tyX7 tyX7_ok hown (hts (.classLink RL 10 RX7) wm_114) (hts (.instantiable RX7 49) wm_115) (hts (.initialized RX7) wm_116) hK hP hD hS hA rfl (fun j hj => by rcases (show j = 0 ∨ j = 1 ∨ j = 2 ∨ j = 3 ∨ j = 4 ∨ j = 5 ∨ j = 6 ∨ j = 7 ∨ j = 8 ∨ j = 9 ∨ j = 10 ∨ j = 11 ∨ j = 12 ∨ j = 13 ∨ j = 14 ∨ j = 15 ∨ j = 16 ∨ j = 17 ∨ j = 18 ∨ j = 19 ∨ j = 20 ∨ j = 21 ∨ j = 22 ∨ j = 23 ∨ j = 24 ∨ j = 25 ∨ j = 26 ∨ j = 27 ∨ j = 28 ∨ j = 29 ∨ j = 30 ∨ j = 31 ∨ j = 32 ∨ j = 33 ∨ j = 34 ∨ j = 35 ∨ j = 36 ∨ j = 37 ∨ j = 38 ∨ j = 39 ∨ j = 40 ∨ j = 41 ∨ j = 42 ∨ j = 43 ∨ j = 44 ∨ j = 45 ∨ j = 46 ∨ j = 47 ∨ j = 48 by omega) with rfl | rfl | rfl | rfl | rfl | rfl | rfl | rfl | rfl | rfl | rfl | rfl | rfl | rfl | rfl | rfl | rfl | rfl | rfl | rfl | rfl | rfl | rfl | rfl | rfl | rfl | rfl | rfl | rfl | rfl | rfl | rfl | rfl | rfl | rfl | rfl | rfl | rfl | rfl | rfl | rfl | rfl | rfl | rfl | rfl | rfl | rfl | rfl | rfl <;> rfl) (Nat.le_of_ble_eq_true rfl) (Nat.le_of_ble_eq_true rfl) dL_law_8 (fun qx50 Hx51 hP hD hS => ?_)
  have hP : va_P (dC, dI) vwCl [(qx1, .inr (5, [.ref gx5, .int 0, .ref gx6, .ref gx7, .ref gx8, .ref gx9, .ref gx10, .ref gx11, .ref gx12, .int 0, .ref gx13, .int 0])), (gx5, .inl (yx49, 2000, .inl (fun _ => 0))), (gx6, .inr (2, [.int 0, .int (-1), .ref kx14, .null, .int 0, .int 0, .long 0, .int 0, .int 0, .int 0, .int 0, .int 0, .ref kx15, .ref kx16, .ref kx17, .int 0, .ref kx18])), (kx14, .inr (1, [.null, .int 0, .int 0, .int 0, .int 0, .long 0, .int 0])), (kx18, .inl (yx47, 60, .inr (.inl (fun _ => 0)))), (gx7, .inr (0, [.int 0, .int 0, .ref sx19, .ref sx20, .ref sx21, .ref sx22, .ref sx23, .ref sx24, .ref sx25, .ref sx26, .ref sx27, .ref sx28, .ref sx29])), (gx8, .inr (0, [.int 0, .int 0, .ref tx30, .ref tx31, .ref tx32, .ref tx33, .ref tx34, .ref tx35, .ref tx36, .ref tx37, .ref tx38, .ref tx39, .ref tx40])), (tx38, .inl (yx48, 60, .inr (.inl (fun _ => 0)))), (gx12, .inr (4, [.int 0, .long 0, .long 0, .ref ox41, .long 0])), (gx13, .inr (3, [.int 0, .int 0, .ref ux42, .ref ux43, .ref ux44, .ref ux45, .ref ux46, .long 0])), (qx50, .inr (6, [.null, .null, .int 0, .int 0, .int 0, .int 0, .int 0, .int 0, .int 0, .int 0, .long 0, .null, .null, .null, .null, .null, .null, .null, .null, .null, .null, .null, .null, .null, .null, .null, .int 0, .int 0, .int 0, .int 0, .int 0, .int 0, .null, .null, .null, .null, .null, .null, .null, .int 0, .null, .null, .null, .null, .null, .null, .int 0, .int 0, .int 0]))] Hx51 := hP
  have hD : va_D (fun q : Nat => s.heap.size ≤ q) [(qx1, .inr (5, [.ref gx5, .int 0, .ref gx6, .ref gx7, .ref gx8, .ref gx9, .ref gx10, .ref gx11, .ref gx12, .int 0, .ref gx13, .int 0])), (gx5, .inl (yx49, 2000, .inl (fun _ => 0))), (gx6, .inr (2, [.int 0, .int (-1), .ref kx14, .null, .int 0, .int 0, .long 0, .int 0, .int 0, .int 0, .int 0, .int 0, .ref kx15, .ref kx16, .ref kx17, .int 0, .ref kx18])), (kx14, .inr (1, [.null, .int 0, .int 0, .int 0, .int 0, .long 0, .int 0])), (kx18, .inl (yx47, 60, .inr (.inl (fun _ => 0)))), (gx7, .inr (0, [.int 0, .int 0, .ref sx19, .ref sx20, .ref sx21, .ref sx22, .ref sx23, .ref sx24, .ref sx25, .ref sx26, .ref sx27, .ref sx28, .ref sx29])), (gx8, .inr (0, [.int 0, .int 0, .ref tx30, .ref tx31, .ref tx32, .ref tx33, .ref tx34, .ref tx35, .ref tx36, .ref tx37, .ref tx38, .ref tx39, .ref tx40])), (tx38, .inl (yx48, 60, .inr (.inl (fun _ => 0)))), (gx12, .inr (4, [.int 0, .long 0, .long 0, .ref ox41, .long 0])), (gx13, .inr (3, [.int 0, .int 0, .ref ux42, .ref ux43, .ref ux44, .ref ux45, .ref ux46, .long 0])), (qx50, .inr (6, [.null, .null, .int 0, .int 0, .int 0, .int 0, .int 0, .int 0, .int 0, .int 0, .long 0, .null, .null, .null, .null, .null, .null, .null, .null, .null, .null, .null, .null, .null, .null, .null, .int 0, .int 0, .int 0, .int 0, .int 0, .int 0, .null, .null, .null, .null, .null, .null, .null, .int 0, .null, .null, .null, .null, .null, .null, .int 0, .int 0, .int 0]))] := hD
  refine W.widen (k := 44) (n := 9045) (by omega) (by omega) ?_
  refine lv_dup hx hb dL_law_11 rfl ?_
  have hPc := hP.sub (ws' := [(qx50, .inr (6, [.null, .null, .int 0, .int 0, .int 0, .int 0, .int 0, .int 0, .int 0, .int 0, .long 0, .null, .null, .null, .null, .null, .null, .null, .null, .null, .null, .null, .null, .null, .null, .null, .int 0, .int 0, .int 0, .int 0, .int 0, .int 0, .null, .null, .null, .null, .null, .null, .null, .int 0, .null, .null, .null, .null, .null, .null, .int 0, .int 0, .int 0]))]) [10] rfl
  have hDc := hD.sub (ws' := [(qx50, .inr (6, [.null, .null, .int 0, .int 0, .int 0, .int 0, .int 0, .int 0, .int 0, .int 0, .long 0, .null, .null, .null, .null, .null, .null, .null, .null, .null, .null, .null, .null, .null, .null, .null, .int 0, .int 0, .int 0, .int 0, .int 0, .int 0, .null, .null, .null, .null, .null, .null, .null, .int 0, .null, .null, .null, .null, .null, .null, .int 0, .int 0, .int 0]))]) [10] (by decide) rfl
  have hKc := hK.sub (tys' := []) [] rfl
  have hFc := va_free (wc := [(qx50, .inr (6, [.null, .null, .int 0, .int 0, .int 0, .int 0, .int 0, .int 0, .int 0, .int 0, .long 0, .null, .null, .null, .null, .null, .null, .null, .null, .null, .null, .null, .null, .null, .null, .null, .int 0, .int 0, .int 0, .int 0, .int 0, .int 0, .null, .null, .null, .null, .null, .null, .null, .int 0, .null, .null, .null, .null, .null, .null, .int 0, .int 0, .int 0]))]) hD hS hA [10] rfl
  refine va_callv (va_runI (As := []) (rest := [.ref qx50]) ⟨hx, hb, hml, hown, hts⟩ (c_X7_init l dC dI qx50 Hx51.size) (cwI 0 hts gg_X7_init rfl rfl rfl (hts (.initialized RX7) wm_116) (hts (.methodLink RL 12 yX7_init) wm_189) (hts (.instanceMethod yX7_init) wm_190) rfl (by decide +kernel) ⟨Nat.le_of_ble_eq_true rfl, Nat.le_of_ble_eq_true rfl⟩) ⟨fun a U g mk q => by obtain ⟨q0, q1, qP, qK, qD⟩ := q; exact ⟨q0, q1, qP, va_K.moved (u := U) (U := U.calling g mk a) (Vm.Alike.refl U.vm) qK, qD⟩, fun U hU hW => ⟨rfl, by rw [hU], by rw [hU]; exact hPc, va_K.moved hW.alike hKc, hDc.weaken (fun _ _ _ _ => trivial)⟩⟩ rfl rfl hl.1 rfl (lv_room (Nat.le_of_ble_eq_true rfl)) dL_law_12 ⟨Nat.le_of_ble_eq_true rfl, Nat.le_of_ble_eq_true rfl⟩) hS (fun q _ h => hFc q h) hFc (fun u t Hx52 locs ht hvm hw hB hz1 hk1 hS => ?_)
  obtain ⟨wx54, wx55, wx56, wx57, wx58, wx59, wx60, wx61, wx62, wx63, wx64, wx65, wx66, wx67, wx68, wx69, wx70, wx71, wx72, wx73, wx74, wx75, wx76, wx77, wx78, wx79, wx80, wx81, wx82, wx83, yx84, hP1, hK1, hD1⟩ := hB
  rw [ht] at hP1
  have hK1 := va_K.moved hvm.symm hK1
  obtain ⟨hP, hD⟩ := va_join (wr := [(qx1, .inr (5, [.ref gx5, .int 0, .ref gx6, .ref gx7, .ref gx8, .ref gx9, .ref gx10, .ref gx11, .ref gx12, .int 0, .ref gx13, .int 0])), (gx5, .inl (yx49, 2000, .inl (fun _ => 0))), (gx6, .inr (2, [.int 0, .int (-1), .ref kx14, .null, .int 0, .int 0, .long 0, .int 0, .int 0, .int 0, .int 0, .int 0, .ref kx15, .ref kx16, .ref kx17, .int 0, .ref kx18])), (kx14, .inr (1, [.null, .int 0, .int 0, .int 0, .int 0, .long 0, .int 0])), (kx18, .inl (yx47, 60, .inr (.inl (fun _ => 0)))), (gx7, .inr (0, [.int 0, .int 0, .ref sx19, .ref sx20, .ref sx21, .ref sx22, .ref sx23, .ref sx24, .ref sx25, .ref sx26, .ref sx27, .ref sx28, .ref sx29])), (gx8, .inr (0, [.int 0, .int 0, .ref tx30, .ref tx31, .ref tx32, .ref tx33, .ref tx34, .ref tx35, .ref tx36, .ref tx37, .ref tx38, .ref tx39, .ref tx40])), (tx38, .inl (yx48, 60, .inr (.inl (fun _ => 0)))), (gx12, .inr (4, [.int 0, .long 0, .long 0, .ref ox41, .long 0])), (gx13, .inr (3, [.int 0, .int 0, .ref ux42, .ref ux43, .ref ux44, .ref ux45, .ref ux46, .long 0]))]) (w1 := [(qx50, .inr (6, [.ref wx54, .ref wx55, .int 0, .int 0, .int 0, .int (-1), .int 0, .int 0, .int 0, .int 0, .long 0, .ref wx56, .ref wx57, .ref wx58, .ref wx59, .ref wx60, .ref wx61, .ref wx62, .ref wx63, .ref wx64, .ref wx65, .ref wx66, .ref wx67, .ref wx68, .ref wx69, .ref wx70, .int 0, .int 0, .int 0, .int 0, .int 0, .int 0, .ref wx71, .ref wx72, .ref wx73, .ref wx74, .ref wx75, .ref wx76, .ref wx77, .int 0, .ref wx78, .ref wx79, .ref wx80, .ref wx81, .ref wx82, .ref wx83, .int 0, .int 0, .int 0])), (wx54, .inl (yx84, 2020, .inl (fun _ => 0)))]) hP hD [10] [0, 1, 2, 3, 4, 5, 6, 7, 8, 9] rfl rfl (by decide) (by decide) hk1 hFc hP1 hD1
  have hK := (hK.sub (tys' := [(yx49, .byte), (yx47, .long), (yx48, .long)]) [0, 1, 2] rfl).app hK1
  have hP : va_P (dC, dI) vwCl [(qx1, .inr (5, [.ref gx5, .int 0, .ref gx6, .ref gx7, .ref gx8, .ref gx9, .ref gx10, .ref gx11, .ref gx12, .int 0, .ref gx13, .int 0])), (gx5, .inl (yx49, 2000, .inl (fun _ => 0))), (gx6, .inr (2, [.int 0, .int (-1), .ref kx14, .null, .int 0, .int 0, .long 0, .int 0, .int 0, .int 0, .int 0, .int 0, .ref kx15, .ref kx16, .ref kx17, .int 0, .ref kx18])), (kx14, .inr (1, [.null, .int 0, .int 0, .int 0, .int 0, .long 0, .int 0])), (kx18, .inl (yx47, 60, .inr (.inl (fun _ => 0)))), (gx7, .inr (0, [.int 0, .int 0, .ref sx19, .ref sx20, .ref sx21, .ref sx22, .ref sx23, .ref sx24, .ref sx25, .ref sx26, .ref sx27, .ref sx28, .ref sx29])), (gx8, .inr (0, [.int 0, .int 0, .ref tx30, .ref tx31, .ref tx32, .ref tx33, .ref tx34, .ref tx35, .ref tx36, .ref tx37, .ref tx38, .ref tx39, .ref tx40])), (tx38, .inl (yx48, 60, .inr (.inl (fun _ => 0)))), (gx12, .inr (4, [.int 0, .long 0, .long 0, .ref ox41, .long 0])), (gx13, .inr (3, [.int 0, .int 0, .ref ux42, .ref ux43, .ref ux44, .ref ux45, .ref ux46, .long 0])), (qx50, .inr (6, [.ref wx54, .ref wx55, .int 0, .int 0, .int 0, .int (-1), .int 0, .int 0, .int 0, .int 0, .long 0, .ref wx56, .ref wx57, .ref wx58, .ref wx59, .ref wx60, .ref wx61, .ref wx62, .ref wx63, .ref wx64, .ref wx65, .ref wx66, .ref wx67, .ref wx68, .ref wx69, .ref wx70, .int 0, .int 0, .int 0, .int 0, .int 0, .int 0, .ref wx71, .ref wx72, .ref wx73, .ref wx74, .ref wx75, .ref wx76, .ref wx77, .int 0, .ref wx78, .ref wx79, .ref wx80, .ref wx81, .ref wx82, .ref wx83, .int 0, .int 0, .int 0])), (wx54, .inl (yx84, 2020, .inl (fun _ => 0)))] Hx52 := hP
  have hD : va_D (fun q : Nat => s.heap.size ≤ q) [(qx1, .inr (5, [.ref gx5, .int 0, .ref gx6, .ref gx7, .ref gx8, .ref gx9, .ref gx10, .ref gx11, .ref gx12, .int 0, .ref gx13, .int 0])), (gx5, .inl (yx49, 2000, .inl (fun _ => 0))), (gx6, .inr (2, [.int 0, .int (-1), .ref kx14, .null, .int 0, .int 0, .long 0, .int 0, .int 0, .int 0, .int 0, .int 0, .ref kx15, .ref kx16, .ref kx17, .int 0, .ref kx18])), (kx14, .inr (1, [.null, .int 0, .int 0, .int 0, .int 0, .long 0, .int 0])), (kx18, .inl (yx47, 60, .inr (.inl (fun _ => 0)))), (gx7, .inr (0, [.int 0, .int 0, .ref sx19, .ref sx20, .ref sx21, .ref sx22, .ref sx23, .ref sx24, .ref sx25, .ref sx26, .ref sx27, .ref sx28, .ref sx29])), (gx8, .inr (0, [.int 0, .int 0, .ref tx30, .ref tx31, .ref tx32, .ref tx33, .ref tx34, .ref tx35, .ref tx36, .ref tx37, .ref tx38, .ref tx39, .ref tx40])), (tx38, .inl (yx48, 60, .inr (.inl (fun _ => 0)))), (gx12, .inr (4, [.int 0, .long 0, .long 0, .ref ox41, .long 0])), (gx13, .inr (3, [.int 0, .int 0, .ref ux42, .ref ux43, .ref ux44, .ref ux45, .ref ux46, .long 0])), (qx50, .inr (6, [.ref wx54, .ref wx55, .int 0, .int 0, .int 0, .int (-1), .int 0, .int 0, .int 0, .int 0, .long 0, .ref wx56, .ref wx57, .ref wx58, .ref wx59, .ref wx60, .ref wx61, .ref wx62, .ref wx63, .ref wx64, .ref wx65, .ref wx66, .ref wx67, .ref wx68, .ref wx69, .ref wx70, .int 0, .int 0, .int 0, .int 0, .int 0, .int 0, .ref wx71, .ref wx72, .ref wx73, .ref wx74, .ref wx75, .ref wx76, .ref wx77, .int 0, .ref wx78, .ref wx79, .ref wx80, .ref wx81, .ref wx82, .ref wx83, .int 0, .int 0, .int 0])), (wx54, .inl (yx84, 2020, .inl (fun _ => 0)))] := hD
  have hK : va_K (dC, dI) vwCl [(yx49, .byte), (yx47, .long), (yx48, .long), (yx84, .byte)] s := hK
  refine W.widen (k := 74) (n := 22065) (by omega) (by omega) ?_
  refine lv_astore_n (lv' := [(2, .ref qx50), (1, .ref qx1), (0, .ref b)]) hx hb dL_law_15 rfl hl (by decide) rfl (fun ls hl => ?_)
  refine lv_iconst (v := 0) hx hb dL_law_16 (by decide) ?_
  refine lv_istore_n (lv' := [(3, .int 0), (2, .ref qx50), (1, .ref qx1), (0, .ref b)]) hx hb dL_law_17 rfl hl (by decide) rfl (fun ls hl => ?_)
  refine lv_iload_n hx hb dL_law_18 rfl (lv_at hl 0 rfl) ?_
  refine lv_aload_n hx hb dL_law_19 rfl (lv_at hl 3 rfl) ?_
  refine va_slen hx hb hX hbl hbA hS dL_law_20 ?_
  refine lv_bipush (v := 6) hx hb dL_law_21 (by decide) ?_
  refine lv_isub hx hb dL_law_23 ?_
  refine lv_topi (fun zx85 ezx85 => ?_)
  refine lv_icmp_gt (tgt := 691) hx hb dL_law_24 (by decide) (fun cx86 => ?_) (fun cx86 => ?_)
  · refine lv_iconst (v := 1) hx hb dL_law_691 (by decide) ?_
    refine va_forget (fun q hq => hS.2.2 q hq) ?_
    refine W.widen (k := 74) (n := 22065) (by omega) (by omega) ?_
    exact lw_ret hx hb hr hlocks dL_law_692
  · obtain rfl : L = 6 := law_L hL (by rw [← ezx85]; exact cx86)
    refine lv_aload_n hx hb dL_law_27 rfl (lv_at hl 3 rfl) ?_
    refine lv_iload_n hx hb dL_law_28 rfl (lv_at hl 0 rfl) ?_
    refine va_sld hx hb hX hbl hbA hS (by unfold vp_in; decide) dL_law_29 ?_
    refine lv_bipush (v := 31) hx hb dL_law_30 (by decide) ?_
    refine lv_iand hx hb dL_law_32 ?_
    refine lv_topi (fun zx87 ezx87 => ?_)
    obtain ⟨j, hj, ej⟩ := pk_andE (xs (0 : Int32).toNatClampNeg) (m := 31) 5 (by decide)
    rw [ej] at ezx87
    subst ezx87
    have hj : j < 32 := hj
    rcases (show j = 0 ∨ j = 1 ∨ j = 2 ∨ j = 3 ∨ j = 4 ∨ j = 5 ∨ j = 6 ∨ j = 7 ∨ j = 8 ∨ j = 9 ∨ j = 10 ∨ j = 11 ∨ j = 12 ∨ j = 13 ∨ j = 14 ∨ j = 15 ∨ j = 16 ∨ j = 17 ∨ j = 18 ∨ j = 19 ∨ j = 20 ∨ 21 ≤ j by omega) with rfl | rfl | rfl | rfl | rfl | rfl | rfl | rfl | rfl | rfl | rfl | rfl | rfl | rfl | rfl | rfl | rfl | rfl | rfl | rfl | rfl | hj2
    · refine lv_tableIn (off := 99) (tgt := 132) hx hb dL_law_33 (by decide) (by decide) rfl (by decide) ?_
      exact law_case_0 C0 hK hP hD hS (lv_sub hl [0, 1, 2, 3] rfl)
    · refine lv_tableIn (off := 162) (tgt := 195) hx hb dL_law_33 (by decide) (by decide) rfl (by decide) ?_
      exact law_case_1 C0 hK hP hD hS (lv_sub hl [0, 1, 2, 3] rfl)
    · refine lv_tableIn (off := 185) (tgt := 218) hx hb dL_law_33 (by decide) (by decide) rfl (by decide) ?_
      exact law_case_2 C0 hK hP hD hS (lv_sub hl [0, 1, 2, 3] rfl)
    · refine lv_tableIn (off := 198) (tgt := 231) hx hb dL_law_33 (by decide) (by decide) rfl (by decide) ?_
      exact law_case_3 C0 hK hP hD hS (lv_sub hl [0, 1, 2, 3] rfl)
    · refine lv_tableIn (off := 221) (tgt := 254) hx hb dL_law_33 (by decide) (by decide) rfl (by decide) ?_
      exact law_case_4 C0 hK hP hD hS (lv_sub hl [0, 1, 2, 3] rfl)
    · refine lv_tableIn (off := 274) (tgt := 307) hx hb dL_law_33 (by decide) (by decide) rfl (by decide) ?_
      exact law_case_5 C0 hK hP hD hS (lv_sub hl [0, 1, 2, 3] rfl)
    · refine lv_tableIn (off := 307) (tgt := 340) hx hb dL_law_33 (by decide) (by decide) rfl (by decide) ?_
      exact law_case_6 C0 hK hP hD hS (lv_sub hl [0, 1, 2, 3] rfl)
    · refine lv_tableIn (off := 340) (tgt := 373) hx hb dL_law_33 (by decide) (by decide) rfl (by decide) ?_
      exact law_case_7 C0 hK hP hD hS (lv_sub hl [0, 1, 2, 3] rfl)
    · refine lv_tableIn (off := 373) (tgt := 406) hx hb dL_law_33 (by decide) (by decide) rfl (by decide) ?_
      exact law_case_8 C0 hK hP hD hS (lv_sub hl [0, 1, 2, 3] rfl)
    · refine lv_tableIn (off := 396) (tgt := 429) hx hb dL_law_33 (by decide) (by decide) rfl (by decide) ?_
      exact law_case_9 C0 hK hP hD hS (lv_sub hl [0, 1, 2, 3] rfl)
    · refine lv_tableIn (off := 409) (tgt := 442) hx hb dL_law_33 (by decide) (by decide) rfl (by decide) ?_
      exact law_case_10 C0 hK hP hD hS (lv_sub hl [0, 1, 2, 3] rfl)
    · refine lv_tableIn (off := 422) (tgt := 455) hx hb dL_law_33 (by decide) (by decide) rfl (by decide) ?_
      exact law_case_11 C0 hK hP hD hS (lv_sub hl [0, 1, 2, 3] rfl)
    · refine lv_tableIn (off := 435) (tgt := 468) hx hb dL_law_33 (by decide) (by decide) rfl (by decide) ?_
      exact law_case_12 C0 hK hP hD hS (lv_sub hl [0, 1, 2, 3] rfl)
    · refine lv_tableIn (off := 458) (tgt := 491) hx hb dL_law_33 (by decide) (by decide) rfl (by decide) ?_
      exact law_case_13 C0 hK hP hD hS (lv_sub hl [0, 1, 2, 3] rfl)
    · refine lv_tableIn (off := 471) (tgt := 504) hx hb dL_law_33 (by decide) (by decide) rfl (by decide) ?_
      exact law_case_14 C0 hK hP hD hS (lv_sub hl [0, 1, 2, 3] rfl)
    · refine lv_tableIn (off := 504) (tgt := 537) hx hb dL_law_33 (by decide) (by decide) rfl (by decide) ?_
      exact law_case_15 C0 hK hP hD hS (lv_sub hl [0, 1, 2, 3] rfl)
    · refine lv_tableIn (off := 517) (tgt := 550) hx hb dL_law_33 (by decide) (by decide) rfl (by decide) ?_
      exact law_case_16 C0 hK hP hD hS (lv_sub hl [0, 1, 2, 3] rfl)
    · refine lv_tableIn (off := 550) (tgt := 583) hx hb dL_law_33 (by decide) (by decide) rfl (by decide) ?_
      exact law_case_17 C0 hK hP hD hS (lv_sub hl [0, 1, 2, 3] rfl)
    · refine lv_tableIn (off := 573) (tgt := 606) hx hb dL_law_33 (by decide) (by decide) rfl (by decide) ?_
      exact law_case_18 C0 hK hP hD hS (lv_sub hl [0, 1, 2, 3] rfl)
    · refine lv_tableIn (off := 596) (tgt := 629) hx hb dL_law_33 (by decide) (by decide) rfl (by decide) ?_
      exact law_case_19 C0 hK hP hD hS (lv_sub hl [0, 1, 2, 3] rfl)
    · refine lv_tableIn (off := 629) (tgt := 662) hx hb dL_law_33 (by decide) (by decide) rfl (by decide) ?_
      exact law_case_20 C0 hK hP hD hS (lv_sub hl [0, 1, 2, 3] rfl)
    · refine lv_tableOut (tgt := 685) hx hb dL_law_33 (Or.inr (by rw [nI_toInt (by omega)]; omega)) (by decide) ?_
      exact law_exit C0 hS (lv_sub hl [0, 1, 2, 3] rfl)
