/-! THE CLAIM OUT OF ONE WALK OF THE LAW'S BODY. Your part is whole_start (and what it stands on); all else here is the same for every law, but numbers. -/
def R_law : String := "GateWheelLaw"
def lw_P (b : Addr) (xs : List Int32) (args : Array Value) (s : State) : Prop := args = #[.ref b] ∧ s.IntsAt b xs ∧ xs.length ≤ 3072 ∧ (Jvm.Cond.and given_1 narrow_1).before args s = true
def lw_Q (_ : Array Value) (s : State) (o : Outcome) (t : State) : Prop := o = .returned (some (.int 1)) ∧ Framed s o t [] 74 22065
def lw_Z (below : List Frame) (a : Array Value) (s : State) : State → Prop := fun t => ∃ o, t.status = .running ∧ Ended t below o ∧ lw_Q a s o t
/-- the law's own end, with 1 on the stack, nothing written that was there before, its room as the claim has it -/
theorem lw_ret {p : Program} {l : Launch} {e : Env} {s : State} {m : MethodId} {below : List Frame} {meth : Method} {c : Code} {b : Nat} (hx : p.tables.exec = Jvm.exec) (hb : c.code = code) (hr : meth.sig.returnType = ret) (hlocks : meth.locks = false) {pc : Nat} {H : Heap} {ls : Array Slot} (hdg : decode code pc = .ok (.ireturn, 1)) : W p l e room_1 s m #[Value.ref b] below meth c H [] 74 22065 (lw_Z below #[Value.ref b] s) (F0 m pc ls [.int 1]) := by
  intro T hT X
  obtain ⟨fs, hret, hrun, hended, hW, hframe⟩ := X.leave (v := some (.int 1)) (hlocks := hlocks) (fun h => by rw [hr] at h; cases h)
  have hmeth' : T.vm.method? m = some meth := X.method'
  refine ⟨T.setFrames fs, ?_, .returned (some (.int 1)), hrun, hended, rfl, ⟨_, rfl⟩, hW, hframe⟩
  jvm_step X.here [X.here.top, hx, hb, hdg, hmeth', hr, ret, narrow_b1]
  (try refine ⟨rfl, ?_⟩); (try refine ⟨rfl, ?_⟩)
  first | (intro acts; rw [hret _ acts rfl rfl rfl]) | rw [hret _ _ rfl rfl rfl]
  exact Steps.refl _
/-- what holds at the law's entry: the machine, the code, the tables' words (any of lw_tbl by 'hts w (by decide +kernel)'), the script of L ints xs at the cell b, what the Statement gives of the start (any of its parts by flat_of_before) -/
def lw_At (p : Program) (s : State) (m : MethodId) (meth : Method) (c : Code) (b L : Nat) (xs : Nat → Int32) : Prop :=
  p.tables.exec = Jvm.exec ∧ c.code = code ∧ meth.sig.returnType = ret ∧ c.maxLocals = 4 ∧ s.vm.findClass R_law = some m.cls ∧ (∀ w ∈ lw_tbl, w.before #[Value.ref b] s = true) ∧ va_X b L xs s s.heap ∧ b < s.heap.size ∧ meth.locks = false ∧ (Jvm.Cond.and given_1 narrow_1).before #[Value.ref b] s = true
set_option maxHeartbeats 4000000 in
set_option maxRecDepth 100000 in
theorem lw_STG {p : Program} {s : State} {m : MethodId} {meth : Method} {c : Code} {b L : Nat} {xs : Nat → Int32} (C0 : lw_At p s m meth c b L xs) : ∃ tg, STG tg (fun q : Nat => s.heap.size ≤ q) s s.heap := by
  obtain ⟨hx, hb, hr, hml, hown0, hts, hX, hbl, hlocks, hgv⟩ := id C0
  have hs := flat_of_before _ hgv
  have hA : ∀ a : Nat, a < s.heap.size → ¬ (fun q : Nat => s.heap.size ≤ q) a := fun a h q => absurd h (Nat.not_lt.mpr q)
  obtain ⟨t0, ht0, hT0⟩ := va_Tof (tm := (Term.static "GateWheel$Reader" "GATE_WORDS" "[J")) (ty := .long) (N := 9) (f := fun j => .long (sg_f j)) (A := (fun q : Nat => s.heap.size ≤ q)) (by decide) (hs _ (by decide +kernel)) (va_eqt (hs _ (by decide +kernel))) (fun j hj => by
    rcases (show j = 0 ∨ j = 1 ∨ j = 2 ∨ j = 3 ∨ j = 4 ∨ j = 5 ∨ j = 6 ∨ j = 7 ∨ j = 8 by omega) with rfl | rfl | rfl | rfl | rfl | rfl | rfl | rfl | rfl
    · exact va_eqtl (z := (6385252)) (hs (Cond.eq (Term.elem (Term.static "GateWheel$Reader" "GATE_WORDS" "[J") (.int 0)) (.long (6385252))) (by decide +kernel))
    · exact va_eqtl (z := (1851879012)) (hs (Cond.eq (Term.elem (Term.static "GateWheel$Reader" "GATE_WORDS" "[J") (.int 1)) (.long (1851879012))) (by decide +kernel))
    · exact va_eqtl (z := (28530)) (hs (Cond.eq (Term.elem (Term.static "GateWheel$Reader" "GATE_WORDS" "[J") (.int 2)) (.long (28530))) (by decide +kernel))
    · exact va_eqtl (z := (7237490)) (hs (Cond.eq (Term.elem (Term.static "GateWheel$Reader" "GATE_WORDS" "[J") (.int 3)) (.long (7237490))) (by decide +kernel))
    · exact va_eqtl (z := (7892850)) (hs (Cond.eq (Term.elem (Term.static "GateWheel$Reader" "GATE_WORDS" "[J") (.int 4)) (.long (7892850))) (by decide +kernel))
    · exact va_eqtl (z := (2020503410)) (hs (Cond.eq (Term.elem (Term.static "GateWheel$Reader" "GATE_WORDS" "[J") (.int 5)) (.long (2020503410))) (by decide +kernel))
    · exact va_eqtl (z := (6452582)) (hs (Cond.eq (Term.elem (Term.static "GateWheel$Reader" "GATE_WORDS" "[J") (.int 6)) (.long (6452582))) (by decide +kernel))
    · exact va_eqtl (z := (7237492)) (hs (Cond.eq (Term.elem (Term.static "GateWheel$Reader" "GATE_WORDS" "[J") (.int 7)) (.long (7237492))) (by decide +kernel))
    · exact va_eqtl (z := (7173496)) (hs (Cond.eq (Term.elem (Term.static "GateWheel$Reader" "GATE_WORDS" "[J") (.int 8)) (.long (7173496))) (by decide +kernel))) hA
  have hZ0 := va_Zof (A := (fun q : Nat => s.heap.size ≤ q)) (hts (.laysStatic "GateWheel$Reader" "GATE_WORDS" "[J") (lw_inT2 _ (List.mem_of_getElem? (i := 131) rfl))) (hts (.initialized RX3) wm_128) ht0 hA
  obtain ⟨t1, ht1, hT1⟩ := va_Tof (tm := (Term.static "GateWheel$Reader" "LEAST_PARTS" "[I")) (ty := .int) (N := 9) (f := fun j => .int (sl_f j)) (A := (fun q : Nat => s.heap.size ≤ q)) (by decide) (hs _ (by decide +kernel)) (va_eqt (hs _ (by decide +kernel))) (fun j hj => by
    rcases (show j = 0 ∨ j = 1 ∨ j = 2 ∨ j = 3 ∨ j = 4 ∨ j = 5 ∨ j = 6 ∨ j = 7 ∨ j = 8 by omega) with rfl | rfl | rfl | rfl | rfl | rfl | rfl | rfl | rfl
    · exact va_eqt (z := (2)) (hs (Cond.eq (Term.elem (Term.static "GateWheel$Reader" "LEAST_PARTS" "[I") (.int 0)) (.int (2))) (by decide +kernel))
    · exact va_eqt (z := (2)) (hs (Cond.eq (Term.elem (Term.static "GateWheel$Reader" "LEAST_PARTS" "[I") (.int 1)) (.int (2))) (by decide +kernel))
    · exact va_eqt (z := (2)) (hs (Cond.eq (Term.elem (Term.static "GateWheel$Reader" "LEAST_PARTS" "[I") (.int 2)) (.int (2))) (by decide +kernel))
    · exact va_eqt (z := (2)) (hs (Cond.eq (Term.elem (Term.static "GateWheel$Reader" "LEAST_PARTS" "[I") (.int 3)) (.int (2))) (by decide +kernel))
    · exact va_eqt (z := (2)) (hs (Cond.eq (Term.elem (Term.static "GateWheel$Reader" "LEAST_PARTS" "[I") (.int 4)) (.int (2))) (by decide +kernel))
    · exact va_eqt (z := (2)) (hs (Cond.eq (Term.elem (Term.static "GateWheel$Reader" "LEAST_PARTS" "[I") (.int 5)) (.int (2))) (by decide +kernel))
    · exact va_eqt (z := (1)) (hs (Cond.eq (Term.elem (Term.static "GateWheel$Reader" "LEAST_PARTS" "[I") (.int 6)) (.int (1))) (by decide +kernel))
    · exact va_eqt (z := (1)) (hs (Cond.eq (Term.elem (Term.static "GateWheel$Reader" "LEAST_PARTS" "[I") (.int 7)) (.int (1))) (by decide +kernel))
    · exact va_eqt (z := (3)) (hs (Cond.eq (Term.elem (Term.static "GateWheel$Reader" "LEAST_PARTS" "[I") (.int 8)) (.int (3))) (by decide +kernel))) hA
  have hZ1 := va_Zof (A := (fun q : Nat => s.heap.size ≤ q)) (hts (.laysStatic "GateWheel$Reader" "LEAST_PARTS" "[I") (lw_inT2 _ (List.mem_of_getElem? (i := 186) rfl))) (hts (.initialized RX3) wm_128) ht1 hA
  obtain ⟨t2, ht2, hT2⟩ := va_Tof (tm := (Term.static "GateWheel$Reader" "MOST_PARTS" "[I")) (ty := .int) (N := 9) (f := fun j => .int (sm_f j)) (A := (fun q : Nat => s.heap.size ≤ q)) (by decide) (hs _ (by decide +kernel)) (va_eqt (hs _ (by decide +kernel))) (fun j hj => by
    rcases (show j = 0 ∨ j = 1 ∨ j = 2 ∨ j = 3 ∨ j = 4 ∨ j = 5 ∨ j = 6 ∨ j = 7 ∨ j = 8 by omega) with rfl | rfl | rfl | rfl | rfl | rfl | rfl | rfl | rfl
    · exact va_eqt (z := (6)) (hs (Cond.eq (Term.elem (Term.static "GateWheel$Reader" "MOST_PARTS" "[I") (.int 0)) (.int (6))) (by decide +kernel))
    · exact va_eqt (z := (6)) (hs (Cond.eq (Term.elem (Term.static "GateWheel$Reader" "MOST_PARTS" "[I") (.int 1)) (.int (6))) (by decide +kernel))
    · exact va_eqt (z := (6)) (hs (Cond.eq (Term.elem (Term.static "GateWheel$Reader" "MOST_PARTS" "[I") (.int 2)) (.int (6))) (by decide +kernel))
    · exact va_eqt (z := (6)) (hs (Cond.eq (Term.elem (Term.static "GateWheel$Reader" "MOST_PARTS" "[I") (.int 3)) (.int (6))) (by decide +kernel))
    · exact va_eqt (z := (6)) (hs (Cond.eq (Term.elem (Term.static "GateWheel$Reader" "MOST_PARTS" "[I") (.int 4)) (.int (6))) (by decide +kernel))
    · exact va_eqt (z := (6)) (hs (Cond.eq (Term.elem (Term.static "GateWheel$Reader" "MOST_PARTS" "[I") (.int 5)) (.int (6))) (by decide +kernel))
    · exact va_eqt (z := (1)) (hs (Cond.eq (Term.elem (Term.static "GateWheel$Reader" "MOST_PARTS" "[I") (.int 6)) (.int (1))) (by decide +kernel))
    · exact va_eqt (z := (1)) (hs (Cond.eq (Term.elem (Term.static "GateWheel$Reader" "MOST_PARTS" "[I") (.int 7)) (.int (1))) (by decide +kernel))
    · exact va_eqt (z := (3)) (hs (Cond.eq (Term.elem (Term.static "GateWheel$Reader" "MOST_PARTS" "[I") (.int 8)) (.int (3))) (by decide +kernel))) hA
  have hZ2 := va_Zof (A := (fun q : Nat => s.heap.size ≤ q)) (hts (.laysStatic "GateWheel$Reader" "MOST_PARTS" "[I") (lw_inT2 _ (List.mem_of_getElem? (i := 188) rfl))) (hts (.initialized RX3) wm_128) ht2 hA
  obtain ⟨t3, ht3, hT3⟩ := va_Tof (tm := (Term.static "GateWheel$Worlds" "PATTERNS" "[J")) (ty := .long) (N := 6) (f := fun j => .long (sp_f j)) (A := (fun q : Nat => s.heap.size ≤ q)) (by decide) (hs _ (by decide +kernel)) (va_eqt (hs _ (by decide +kernel))) (fun j hj => by
    rcases (show j = 0 ∨ j = 1 ∨ j = 2 ∨ j = 3 ∨ j = 4 ∨ j = 5 by omega) with rfl | rfl | rfl | rfl | rfl | rfl
    · exact va_eqtl (z := (-6148914691236517206)) (hs (Cond.eq (Term.elem (Term.static "GateWheel$Worlds" "PATTERNS" "[J") (.int 0)) (.long (-6148914691236517206))) (by decide +kernel))
    · exact va_eqtl (z := (-3689348814741910324)) (hs (Cond.eq (Term.elem (Term.static "GateWheel$Worlds" "PATTERNS" "[J") (.int 1)) (.long (-3689348814741910324))) (by decide +kernel))
    · exact va_eqtl (z := (-1085102592571150096)) (hs (Cond.eq (Term.elem (Term.static "GateWheel$Worlds" "PATTERNS" "[J") (.int 2)) (.long (-1085102592571150096))) (by decide +kernel))
    · exact va_eqtl (z := (-71777214294589696)) (hs (Cond.eq (Term.elem (Term.static "GateWheel$Worlds" "PATTERNS" "[J") (.int 3)) (.long (-71777214294589696))) (by decide +kernel))
    · exact va_eqtl (z := (-281470681808896)) (hs (Cond.eq (Term.elem (Term.static "GateWheel$Worlds" "PATTERNS" "[J") (.int 4)) (.long (-281470681808896))) (by decide +kernel))
    · exact va_eqtl (z := (-4294967296)) (hs (Cond.eq (Term.elem (Term.static "GateWheel$Worlds" "PATTERNS" "[J") (.int 5)) (.long (-4294967296))) (by decide +kernel))) hA
  have hZ3 := va_Zof (A := (fun q : Nat => s.heap.size ≤ q)) (hts (.laysStatic "GateWheel$Worlds" "PATTERNS" "[J") (lw_inT3 _ (List.mem_of_getElem? (i := 121) rfl))) (hts (.initialized RX5) wm_141) ht3 hA
  exact ⟨(t0, t1, t2, t3), ⟨hZ0, hT0⟩, ⟨hZ1, hT1⟩, ⟨hZ2, hT2⟩, hZ3, hT3⟩
theorem lw_ix0 {L i : Nat} {x3 : Int32} (hL : L ≤ 3072) (hi : 6 * i + 6 ≤ L) (ex3 : x3 = nI (6 * i)) : vp_in x3 L := by
  rw [ex3]
  exact vp_in_nI (by omega) (by omega)
theorem lw_ix1 {L i : Nat} {x3 : Int32} (hL : L ≤ 3072) (hi : 6 * i + 6 ≤ L) (ex3 : x3 = nI (6 * i)) : vp_in (x3 + (1 : Int32)) L := by
  rw [ex3, show (1 : Int32) = nI 1 from rfl, nI_add]
  exact vp_in_nI (by omega) (by omega)
theorem lw_ix2 {L i : Nat} {x3 : Int32} (hL : L ≤ 3072) (hi : 6 * i + 6 ≤ L) (ex3 : x3 = nI (6 * i)) : vp_in (x3 + (2 : Int32)) L := by
  rw [ex3, show (2 : Int32) = nI 2 from rfl, nI_add]
  exact vp_in_nI (by omega) (by omega)
theorem lw_ix3 {L i : Nat} {x3 : Int32} (hL : L ≤ 3072) (hi : 6 * i + 6 ≤ L) (ex3 : x3 = nI (6 * i)) : vp_in (x3 + (3 : Int32)) L := by
  rw [ex3, show (3 : Int32) = nI 3 from rfl, nI_add]
  exact vp_in_nI (by omega) (by omega)
theorem lw_ix4 {L i : Nat} {x3 : Int32} (hL : L ≤ 3072) (hi : 6 * i + 6 ≤ L) (ex3 : x3 = nI (6 * i)) : vp_in (x3 + (4 : Int32)) L := by
  rw [ex3, show (4 : Int32) = nI 4 from rfl, nI_add]
  exact vp_in_nI (by omega) (by omega)
theorem lw_ix5 {L i : Nat} {x3 : Int32} (hL : L ≤ 3072) (hi : 6 * i + 6 ≤ L) (ex3 : x3 = nI (6 * i)) : vp_in (x3 + (5 : Int32)) L := by
  rw [ex3, show (5 : Int32) = nI 5 from rfl, nI_add]
  exact vp_in_nI (by omega) (by omega)
theorem lw_le {L i : Nat} {x3 : Int32} (hL : L ≤ 3072) (ex3 : x3 = nI (6 * i)) (hi : 6 * i ≤ 3078) (h : ¬ Int32.ofNat L - 6 < x3) : 6 * i + 6 ≤ L := by
  rw [Int32.lt_iff_toInt_lt, ex3, nI_toInt (by omega)] at h
  have h1 : (Int32.ofNat L).toInt = (L : Int) := nI_toInt (n := L) (by omega)
  have h6 : (6 : Int32).toInt = 6 := by decide
  rw [Jvm.Kit.i32_sub (by rw [h1, h6]; omega) (by rw [h1, h6]; omega), h1, h6] at h
  omega
