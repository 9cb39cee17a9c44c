/-! the class's own static rows, as the Statement has them at the start -/
def sg_f (j : Nat) : Int64 := [6385252, 1851879012, 28530, 7237490, 7892850, 2020503410, 6452582, 7237492, 7173496].getD j 0
def sl_f (j : Nat) : Int32 := [2, 2, 2, 2, 2, 2, 1, 1, 3].getD j 0
def sm_f (j : Nat) : Int32 := [6, 6, 6, 6, 6, 6, 1, 1, 3].getD j 0
def sp_f (j : Nat) : Int64 := [-6148914691236517206, -3689348814741910324, -1085102592571150096, -71777214294589696, -281470681808896, -4294967296].getD j 0
def STG (t : Nat × Nat × Nat × Nat) (A : Nat → Prop) (U : State) (H : Heap) : Prop :=
  (va_Z "GateWheel$Reader" "GATE_WORDS" "[J" (.ref t.1) A U H ∧ va_T .long t.1 9 (fun j => .long (sg_f j)) A U H) ∧ (va_Z "GateWheel$Reader" "LEAST_PARTS" "[I" (.ref t.2.1) A U H ∧ va_T .int t.2.1 9 (fun j => .int (sl_f j)) A U H) ∧ (va_Z "GateWheel$Reader" "MOST_PARTS" "[I" (.ref t.2.2.1) A U H ∧ va_T .int t.2.2.1 9 (fun j => .int (sm_f j)) A U H) ∧ (va_Z "GateWheel$Worlds" "PATTERNS" "[J" (.ref t.2.2.2) A U H ∧ va_T .long t.2.2.2 6 (fun j => .long (sp_f j)) A U H)
theorem STG_moved {t : Nat × Nat × Nat × Nat} {A : Nat → Prop} {u U : State} {H : Heap} (hvm : u.vm.Alike U.vm) (h : STG t A u H) : STG t A U H := ⟨⟨h.1.1.moved hvm, h.1.2.moved hvm⟩, ⟨h.2.1.1.moved hvm, h.2.1.2.moved hvm⟩, ⟨h.2.2.1.1.moved hvm, h.2.2.1.2.moved hvm⟩, ⟨h.2.2.2.1.moved hvm, h.2.2.2.2.moved hvm⟩⟩
theorem STG_kept {t : Nat × Nat × Nat × Nat} {A : Nat → Prop} {U : State} {H H1 : Heap} (h : STG t A U H) (hq : ∀ a : Nat, a < H.size → ¬ A a → H1[a]? = H[a]?) : STG t A U H1 := ⟨⟨h.1.1.kept hq, h.1.2.kept hq⟩, ⟨h.2.1.1.kept hq, h.2.1.2.kept hq⟩, ⟨h.2.2.1.1.kept hq, h.2.2.1.2.kept hq⟩, ⟨h.2.2.2.1.kept hq, h.2.2.2.2.kept hq⟩⟩
theorem STG_narrow {t : Nat × Nat × Nat × Nat} {A B : Nat → Prop} {U : State} {H : Heap} (h : STG t A U H) (hq : ∀ q, B q → A q) : STG t B U H := ⟨⟨h.1.1.narrow hq, h.1.2.narrow hq⟩, ⟨h.2.1.1.narrow hq, h.2.1.2.narrow hq⟩, ⟨h.2.2.1.1.narrow hq, h.2.2.1.2.narrow hq⟩, ⟨h.2.2.2.1.narrow hq, h.2.2.2.2.narrow hq⟩⟩
theorem sg_Z {t : Nat × Nat × Nat × Nat} {A : Nat → Prop} {U : State} {H : Heap} (h : STG t A U H) : va_Z "GateWheel$Reader" "GATE_WORDS" "[J" (.ref t.1) A U H := h.1.1
theorem sg_T {t : Nat × Nat × Nat × Nat} {A : Nat → Prop} {U : State} {H : Heap} (h : STG t A U H) : va_T .long t.1 9 (fun j => .long (sg_f j)) A U H := h.1.2
theorem sl_Z {t : Nat × Nat × Nat × Nat} {A : Nat → Prop} {U : State} {H : Heap} (h : STG t A U H) : va_Z "GateWheel$Reader" "LEAST_PARTS" "[I" (.ref t.2.1) A U H := h.2.1.1
theorem sl_T {t : Nat × Nat × Nat × Nat} {A : Nat → Prop} {U : State} {H : Heap} (h : STG t A U H) : va_T .int t.2.1 9 (fun j => .int (sl_f j)) A U H := h.2.1.2
theorem sm_Z {t : Nat × Nat × Nat × Nat} {A : Nat → Prop} {U : State} {H : Heap} (h : STG t A U H) : va_Z "GateWheel$Reader" "MOST_PARTS" "[I" (.ref t.2.2.1) A U H := h.2.2.1.1
theorem sm_T {t : Nat × Nat × Nat × Nat} {A : Nat → Prop} {U : State} {H : Heap} (h : STG t A U H) : va_T .int t.2.2.1 9 (fun j => .int (sm_f j)) A U H := h.2.2.1.2
theorem sp_Z {t : Nat × Nat × Nat × Nat} {A : Nat → Prop} {U : State} {H : Heap} (h : STG t A U H) : va_Z "GateWheel$Worlds" "PATTERNS" "[J" (.ref t.2.2.2) A U H := h.2.2.2.1
theorem sp_T {t : Nat × Nat × Nat × Nat} {A : Nat → Prop} {U : State} {H : Heap} (h : STG t A U H) : va_T .long t.2.2.2 6 (fun j => .long (sp_f j)) A U H := h.2.2.2.2
