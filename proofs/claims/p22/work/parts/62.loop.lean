set_option maxHeartbeats 4000000 in
set_option maxRecDepth 100000 in
theorem law_loop {p : Program} {e : Env} {s : State} {m : MethodId} {below : List Frame} {meth : Method} {c : Code} {l : Launch} {dC : Nat → ClassId} {dI : Nat → Nat → Nat} {y : Nat → ClassId} {b L : Nat} {xs : Nat → Int32} (hL : L ≤ 3072) (C0 : lw_At p s m meth c b L xs) {tg : Nat × Nat × Nat × Nat} (hST : STG tg (fun q : Nat => s.heap.size ≤ q) s s.heap) {a6 a3 a1 a5 a4 a7 : Nat} {h6 h3 h1 h5 h4 h7 : Nat → Nat} (hK : va_K (dC, dI) vwCl [(y 0, .int), (y 1, .long), (y 2, .byte), (y 3, .boolean)] s) : ∀ (n i : Nat), 600 - i ≤ n → 6 * i ≤ L → ∀ {a0 a8 : Nat} {h0 h8 : Nat → Nat} {cv tv : Value} {S6 S3 S1 S0 S8 S5 S4 S7 : SS} {H : Heap} {locs : List Loc} {x3 : Int32} {ls : Array Slot}, va_P (dC, dI) vwCl ((cX6 a6 h6 a3 a0 a8 a5 a4 y S6) ++ ((cX3 a3 h3 a1 cv y S3) ++ ((cX1 a1 h1 tv y S1) ++ ((cX0 a0 h0 y S0) ++ ((cX0 a8 h8 y S8) ++ ((cX5 a5 h5 y S5) ++ ((cX4 a4 h4 y S4) ++ (cX7 a7 h7 y S7)))))))) H → va_D (fun q : Nat => s.heap.size ≤ q) ((cX6 a6 h6 a3 a0 a8 a5 a4 y S6) ++ ((cX3 a3 h3 a1 cv y S3) ++ ((cX1 a1 h1 tv y S1) ++ ((cX0 a0 h0 y S0) ++ ((cX0 a8 h8 y S8) ++ ((cX5 a5 h5 y S5) ++ ((cX4 a4 h4 y S4) ++ (cX7 a7 h7 y S7)))))))) → va_S (fun q : Nat => s.heap.size ≤ q) s.heap H locs → x3 = nI (6 * i) → lv_has ls 4 [(3, .int x3), (2, .ref a7), (1, .ref a6), (0, .ref b)] → RX i S6 S3 S1 S0 S8 S5 S4 S7 → W p l e room_1 s m #[Value.ref b] below meth c H locs 74 22065 (lw_Z below #[Value.ref b] s) (F0 m 18 ls []) := by
  obtain ⟨hx, hb, hr, hml, hown0, hts0, hX, hbl, hlocks, hgv⟩ := id C0
  have hown : s.vm.findClass RL = some m.cls := hown0
  have hts : ∀ w ∈ lw_tbl, w.before #[Value.ref b] s = true := hts0
  have hA : ∀ q : Nat, s.heap.size ≤ q → (fun q : Nat => s.heap.size ≤ q) q := fun _ h => h
  have hbA : ¬ (fun q : Nat => s.heap.size ≤ q) b := Nat.not_le.mpr hbl
  intro n
  induction n with
  | zero => intro i hn1 hn2; exact absurd hn1 (by omega)
  | succ n ih =>
    intro i hn1 hn2 a0 a8 h0 h8 cv tv S6 S3 S1 S0 S8 S5 S4 S7 H locs x3 ls hP hD hS ex3 hl hR
    refine lv_iload_n hx hb dL_law_18 rfl (lv_at hl 0 rfl) ?_
    refine lv_aload_n hx hb dL_law_19 rfl (lv_at hl 3 rfl) ?_
    refine va_slen hx hb hX hbl hbA hS dL_law_20 ?_
    refine lv_bipush (v := 6) hx hb dL_law_21 (by decide) ?_
    refine lv_isub hx hb dL_law_23 ?_
    refine lv_icmp_gt (tgt := 691) hx hb dL_law_24 (by decide) (fun c1 => ?_) (fun c1 => ?_)
    · refine lv_iconst (v := 1) hx hb dL_law_691 (by decide) ?_
      refine va_forget (fun q hq => hS.2.2 q hq) ?_
      exact lw_ret hx hb hr hlocks dL_law_692
    have hi := lw_le hL ex3 (by omega) c1
    refine lv_aload_n hx hb dL_law_27 rfl (lv_at hl 3 rfl) ?_
    refine lv_iload_n hx hb dL_law_28 rfl (lv_at hl 0 rfl) ?_
    refine va_sld hx hb hX hbl hbA hS (lw_ix0 hL hi ex3) dL_law_29 ?_
    refine lv_bipush (v := 31) hx hb dL_law_30 (by decide) ?_
    refine lv_iand hx hb dL_law_32 ?_
    obtain ⟨j, hj, ej⟩ := pk_andE (xs x3.toNatClampNeg) (m := 31) 5 (by decide)
    rw [ej]
    have hj : j < 32 := hj
    have K : ∀ {a0 a8 : Nat} {h0 h8 : Nat → Nat} {cv tv : Value} {S6 S3 S1 S0 S8 S5 S4 S7 : SS} {H : Heap} {locs : List Loc} {ls : Array Slot}, va_P (dC, dI) vwCl ((cX6 a6 h6 a3 a0 a8 a5 a4 y S6) ++ ((cX3 a3 h3 a1 cv y S3) ++ ((cX1 a1 h1 tv y S1) ++ ((cX0 a0 h0 y S0) ++ ((cX0 a8 h8 y S8) ++ ((cX5 a5 h5 y S5) ++ ((cX4 a4 h4 y S4) ++ (cX7 a7 h7 y S7)))))))) H → va_D (fun q : Nat => s.heap.size ≤ q) ((cX6 a6 h6 a3 a0 a8 a5 a4 y S6) ++ ((cX3 a3 h3 a1 cv y S3) ++ ((cX1 a1 h1 tv y S1) ++ ((cX0 a0 h0 y S0) ++ ((cX0 a8 h8 y S8) ++ ((cX5 a5 h5 y S5) ++ ((cX4 a4 h4 y S4) ++ (cX7 a7 h7 y S7)))))))) → va_S (fun q : Nat => s.heap.size ≤ q) s.heap H locs → lv_has ls 4 [(3, .int x3), (2, .ref a7), (1, .ref a6), (0, .ref b)] → RX (i + 1) S6 S3 S1 S0 S8 S5 S4 S7 → W p l e room_1 s m #[Value.ref b] below meth c H locs 74 22065 (lw_Z below #[Value.ref b] s) (F0 m 685 ls []) := by
      intro a0 a8 h0 h8 cv tv S6 S3 S1 S0 S8 S5 S4 S7 H locs ls hP hD hS hl hR
      obtain ⟨x4, ex4⟩ : ∃ y : Int32, y = x3 + 6 := ⟨_, rfl⟩
      refine lv_iinc (v := x4) (lv' := [(3, .int x4), (2, .ref a7), (1, .ref a6), (0, .ref b)]) hx hb dL_law_685 hl (k := 0) rfl (by rw [ex4]; rfl) (by decide) rfl (fun ls hl => ?_)
      refine lv_goto (tgt := 18) hx hb dL_law_688 (by decide) ?_
      exact ih (i + 1) (by omega) (by omega) hP hD hS (by rw [ex4, ex3, show (6 : Int32) = nI 6 from rfl, nI_add]; rfl) hl hR
    rcases (show j = 0 ∨ j = 1 ∨ j = 2 ∨ j = 3 ∨ j = 4 ∨ j = 5 ∨ j = 6 ∨ j = 7 ∨ j = 8 ∨ j = 9 ∨ j = 10 ∨ j = 11 ∨ j = 12 ∨ j = 13 ∨ j = 14 ∨ j = 15 ∨ j = 16 ∨ j = 17 ∨ j = 18 ∨ j = 19 ∨ j = 20 ∨ 21 ≤ j by omega) with rfl | rfl | rfl | rfl | rfl | rfl | rfl | rfl | rfl | rfl | rfl | rfl | rfl | rfl | rfl | rfl | rfl | rfl | rfl | rfl | rfl | hj2
    · refine lv_tableIn (off := 99) (tgt := 132) hx hb dL_law_33 (by decide) (by decide) rfl (by decide) ?_
      exact law_case_0 hL C0 hST hK hP hD hS hi ex3 hl hR K
    · refine lv_tableIn (off := 162) (tgt := 195) hx hb dL_law_33 (by decide) (by decide) rfl (by decide) ?_
      exact law_case_1 hL C0 hST hK hP hD hS hi ex3 hl hR K
    · refine lv_tableIn (off := 185) (tgt := 218) hx hb dL_law_33 (by decide) (by decide) rfl (by decide) ?_
      exact law_case_2 hL C0 hST hK hP hD hS hi ex3 hl hR K
    · refine lv_tableIn (off := 198) (tgt := 231) hx hb dL_law_33 (by decide) (by decide) rfl (by decide) ?_
      exact law_case_3 hL C0 hST hK hP hD hS hi ex3 hl hR K
    · refine lv_tableIn (off := 221) (tgt := 254) hx hb dL_law_33 (by decide) (by decide) rfl (by decide) ?_
      exact law_case_4 hL C0 hST hK hP hD hS hi ex3 hl hR K
    · refine lv_tableIn (off := 274) (tgt := 307) hx hb dL_law_33 (by decide) (by decide) rfl (by decide) ?_
      exact law_case_5 hL C0 hST hK hP hD hS hi ex3 hl hR K
    · refine lv_tableIn (off := 307) (tgt := 340) hx hb dL_law_33 (by decide) (by decide) rfl (by decide) ?_
      exact law_case_6 hL C0 hST hK hP hD hS hi ex3 hl hR K
    · refine lv_tableIn (off := 340) (tgt := 373) hx hb dL_law_33 (by decide) (by decide) rfl (by decide) ?_
      exact law_case_7 hL C0 hST hK hP hD hS hi ex3 hl hR K
    · refine lv_tableIn (off := 373) (tgt := 406) hx hb dL_law_33 (by decide) (by decide) rfl (by decide) ?_
      exact law_case_8 hL C0 hST hK hP hD hS hi ex3 hl hR K
    · refine lv_tableIn (off := 396) (tgt := 429) hx hb dL_law_33 (by decide) (by decide) rfl (by decide) ?_
      exact law_case_9 hL C0 hST hK hP hD hS hi ex3 hl hR K
    · refine lv_tableIn (off := 409) (tgt := 442) hx hb dL_law_33 (by decide) (by decide) rfl (by decide) ?_
      exact law_case_10 hL C0 hST hK hP hD hS hi ex3 hl hR K
    · refine lv_tableIn (off := 422) (tgt := 455) hx hb dL_law_33 (by decide) (by decide) rfl (by decide) ?_
      exact law_case_11 hL C0 hST hK hP hD hS hi ex3 hl hR K
    · refine lv_tableIn (off := 435) (tgt := 468) hx hb dL_law_33 (by decide) (by decide) rfl (by decide) ?_
      exact law_case_12 hL C0 hST hK hP hD hS hi ex3 hl hR K
    · refine lv_tableIn (off := 458) (tgt := 491) hx hb dL_law_33 (by decide) (by decide) rfl (by decide) ?_
      exact law_case_13 hL C0 hST hK hP hD hS hi ex3 hl hR K
    · refine lv_tableIn (off := 471) (tgt := 504) hx hb dL_law_33 (by decide) (by decide) rfl (by decide) ?_
      exact law_case_14 hL C0 hST hK hP hD hS hi ex3 hl hR K
    · refine lv_tableIn (off := 504) (tgt := 537) hx hb dL_law_33 (by decide) (by decide) rfl (by decide) ?_
      exact law_case_15 hL C0 hST hK hP hD hS hi ex3 hl hR K
    · refine lv_tableIn (off := 517) (tgt := 550) hx hb dL_law_33 (by decide) (by decide) rfl (by decide) ?_
      exact law_case_16 hL C0 hST hK hP hD hS hi ex3 hl hR K
    · refine lv_tableIn (off := 550) (tgt := 583) hx hb dL_law_33 (by decide) (by decide) rfl (by decide) ?_
      exact law_case_17 hL C0 hST hK hP hD hS hi ex3 hl hR K
    · refine lv_tableIn (off := 573) (tgt := 606) hx hb dL_law_33 (by decide) (by decide) rfl (by decide) ?_
      exact law_case_18 hL C0 hST hK hP hD hS hi ex3 hl hR K
    · refine lv_tableIn (off := 596) (tgt := 629) hx hb dL_law_33 (by decide) (by decide) rfl (by decide) ?_
      exact law_case_19 hL C0 hST hK hP hD hS hi ex3 hl hR K
    · refine lv_tableIn (off := 629) (tgt := 662) hx hb dL_law_33 (by decide) (by decide) rfl (by decide) ?_
      exact law_case_20 hL C0 hST hK hP hD hS hi ex3 hl hR K
    · refine lv_tableOut (tgt := 685) hx hb dL_law_33 (Or.inr (by rw [nI_toInt (by omega)]; omega)) (by decide) ?_
      exact K hP hD hS hl (st_none hR)
