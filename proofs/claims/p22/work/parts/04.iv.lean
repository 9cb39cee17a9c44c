/-! bounds of ints, and of rows of ints -/
def IV (a b : Int) (x : Int32) : Prop := a ≤ x.toInt ∧ x.toInt ≤ b
def AR (a b : Int) (f : Nat → Int32) : Prop := ∀ j, IV a b (f j)
theorem IV_mk {a b : Int} {x : Int32} (h1 : a ≤ x.toInt) (h2 : x.toInt ≤ b) : IV a b x := ⟨h1, h2⟩
theorem IV_top (x : Int32) : IV (-2147483648) 2147483647 x := by
  have h1 := Int32.le_toInt x
  have h2 := Int32.toInt_lt x
  constructor <;> omega
theorem IV_wk {a b c d : Int} {x : Int32} (h : IV a b x) (h1 : c ≤ a) (h2 : b ≤ d) : IV c d x := ⟨Int.le_trans h1 h.1, Int.le_trans h.2 h2⟩
theorem IV_eq {a b : Int} {x y : Int32} (h : IV a b x) (e : y = x) : IV a b y := by rw [e]; exact h
theorem IV_add {a b c d u v : Int} {x y z : Int32} (e : z = x + y) (hx : IV a b x) (hy : IV c d y) (h1 : -2147483648 ≤ a + c) (h2 : b + d ≤ 2147483647) (h3 : u ≤ a + c) (h4 : b + d ≤ v) : IV u v z := by
  obtain ⟨x1, x2⟩ := hx
  obtain ⟨y1, y2⟩ := hy
  have h : z.toInt = x.toInt + y.toInt := by rw [e]; exact Jvm.Kit.i32_add (by omega) (by omega)
  constructor <;> omega
theorem IV_sub {a b c d u v : Int} {x y z : Int32} (e : z = x - y) (hx : IV a b x) (hy : IV c d y) (h1 : -2147483648 ≤ a - d) (h2 : b - c ≤ 2147483647) (h3 : u ≤ a - d) (h4 : b - c ≤ v) : IV u v z := by
  obtain ⟨x1, x2⟩ := hx
  obtain ⟨y1, y2⟩ := hy
  have h : z.toInt = x.toInt - y.toInt := by rw [e]; exact Jvm.Kit.i32_sub (by omega) (by omega)
  constructor <;> omega
theorem IV_mul {a b c d u v : Int} {x y z : Int32} (e : z = x * y) (hx : IV a b x) (hy : IV c d y) (ha : 0 ≤ a) (hc : 0 ≤ c) (h2 : b * d ≤ 2147483647) (h3 : u ≤ a * c) (h4 : b * d ≤ v) : IV u v z := by
  obtain ⟨x1, x2⟩ := hx
  obtain ⟨y1, y2⟩ := hy
  have m1 : a * c ≤ x.toInt * y.toInt := Int.mul_le_mul x1 y1 hc (Int.le_trans ha x1)
  have m2 : x.toInt * y.toInt ≤ b * d := Int.mul_le_mul x2 y2 (Int.le_trans hc y1) (Int.le_trans (Int.le_trans ha x1) x2)
  have m3 : 0 ≤ a * c := Int.mul_nonneg ha hc
  have h : z.toInt = x.toInt * y.toInt := by rw [e]; exact Jvm.Kit.i32_mul (by omega) (by omega)
  constructor <;> omega
theorem IV_div {a b c d u v : Int} {x y z : Int32} (e : z = x / y) (hx : IV a b x) (hy : IV c d y) (ha : 0 ≤ a) (hc : 0 < c) (h3 : u ≤ 0) (h4 : b ≤ v) : IV u v z := by
  obtain ⟨x1, x2⟩ := hx
  obtain ⟨y1, y2⟩ := hy
  have h : z.toInt = x.toInt / y.toInt := by rw [e]; exact lg_idiv_nonneg (by omega) (by omega)
  have d1 : 0 ≤ x.toInt / y.toInt := Int.ediv_nonneg (by omega) (by omega)
  have d2 : x.toInt / y.toInt ≤ x.toInt := Int.ediv_le_self _ (by omega)
  constructor <;> omega
theorem IV_div2 {a b u v : Int} {x z : Int32} (e : z = x / 2) (hx : IV a b x) (ha : 0 ≤ a) (h3 : u ≤ a / 2) (h4 : b / 2 ≤ v) : IV u v z := by
  obtain ⟨x1, x2⟩ := hx
  have t : (2 : Int32).toInt = 2 := by decide
  have h : z.toInt = x.toInt / 2 := by rw [e, lg_idiv_nonneg (by omega) (by rw [t]; omega), t]
  constructor <;> omega
theorem IV_and {x m z : Int32} (k : Nat) {u v : Int} (e : z = x &&& m) (hm : m.toBitVec.toNat = 2 ^ k - 1) (hk : 2 ^ k ≤ 2 ^ 30) (h3 : u ≤ 0) (h4 : (2 : Int) ^ k - 1 ≤ v) : IV u v z := by
  obtain ⟨j, hj, ej⟩ := pk_andE x k hm
  have h : z.toInt = (j : Int) := by rw [e, ej]; exact nI_toInt (by omega)
  have hc : ((2 ^ k : Nat) : Int) = (2 : Int) ^ k := by norm_cast
  constructor <;> omega
theorem IV_b {x z : Int32} (e : x.toInt8.toInt32 = z) : IV (-128) 127 z := by
  have h := lg_i2b_range x
  rw [e] at h
  constructor <;> omega
theorem IV_lt_l {a b c d u v : Int} {x y : Int32} (h : x < y) (hx : IV a b x) (hy : IV c d y) (h1 : u ≤ a) (h2 : min b (d - 1) ≤ v) : IV u v x := by
  rw [Int32.lt_iff_toInt_lt] at h
  obtain ⟨x1, x2⟩ := hx
  obtain ⟨y1, y2⟩ := hy
  constructor <;> omega
theorem IV_lt_r {a b c d u v : Int} {x y : Int32} (h : x < y) (hx : IV a b x) (hy : IV c d y) (h1 : u ≤ max c (a + 1)) (h2 : d ≤ v) : IV u v y := by
  rw [Int32.lt_iff_toInt_lt] at h
  obtain ⟨x1, x2⟩ := hx
  obtain ⟨y1, y2⟩ := hy
  constructor <;> omega
theorem IV_nlt_l {a b c d u v : Int} {x y : Int32} (h : ¬ x < y) (hx : IV a b x) (hy : IV c d y) (h1 : u ≤ max a c) (h2 : b ≤ v) : IV u v x := by
  rw [Int32.lt_iff_toInt_lt] at h
  obtain ⟨x1, x2⟩ := hx
  obtain ⟨y1, y2⟩ := hy
  constructor <;> omega
theorem IV_nlt_r {a b c d u v : Int} {x y : Int32} (h : ¬ x < y) (hx : IV a b x) (hy : IV c d y) (h1 : u ≤ c) (h2 : min d b ≤ v) : IV u v y := by
  rw [Int32.lt_iff_toInt_lt] at h
  obtain ⟨x1, x2⟩ := hx
  obtain ⟨y1, y2⟩ := hy
  constructor <;> omega
theorem IV_le_l {a b c d u v : Int} {x y : Int32} (h : x ≤ y) (hx : IV a b x) (hy : IV c d y) (h1 : u ≤ a) (h2 : min b d ≤ v) : IV u v x := IV_nlt_r (Int32.not_lt.mpr h) hy hx h1 h2
theorem IV_le_r {a b c d u v : Int} {x y : Int32} (h : x ≤ y) (hx : IV a b x) (hy : IV c d y) (h1 : u ≤ max c a) (h2 : d ≤ v) : IV u v y := IV_nlt_l (Int32.not_lt.mpr h) hy hx h1 h2
theorem IV_nle_l {a b c d u v : Int} {x y : Int32} (h : ¬ x ≤ y) (hx : IV a b x) (hy : IV c d y) (h1 : u ≤ max a (c + 1)) (h2 : b ≤ v) : IV u v x := IV_lt_r (Int32.not_le.mp h) hy hx h1 h2
theorem IV_nle_r {a b c d u v : Int} {x y : Int32} (h : ¬ x ≤ y) (hx : IV a b x) (hy : IV c d y) (h1 : u ≤ c) (h2 : min d (b - 1) ≤ v) : IV u v y := IV_lt_l (Int32.not_le.mp h) hy hx h1 h2
theorem IV_eq_l {a b c d u v : Int} {x y : Int32} (h : x = y) (hx : IV a b x) (hy : IV c d y) (h1 : u ≤ max a c) (h2 : min b d ≤ v) : IV u v x := by
  subst h
  obtain ⟨x1, x2⟩ := hx
  obtain ⟨y1, y2⟩ := hy
  constructor <;> omega
theorem IV_eq_r {a b c d u v : Int} {x y : Int32} (h : x = y) (hx : IV a b x) (hy : IV c d y) (h1 : u ≤ max c a) (h2 : min d b ≤ v) : IV u v y := IV_eq_l h.symm hy hx h1 h2
theorem IV_ne_lo {a b c u v : Int} {x y : Int32} (h : ¬ x = y) (hx : IV a b x) (hy : IV c c y) (e : c = a) (h1 : u ≤ a + 1) (h2 : b ≤ v) : IV u v x := by
  obtain ⟨x1, x2⟩ := hx
  obtain ⟨y1, y2⟩ := hy
  have n : ¬ x.toInt = y.toInt := fun q => h (Int32.toInt_inj.mp q)
  constructor <;> omega
theorem IV_ne_hi {a b c u v : Int} {x y : Int32} (h : ¬ x = y) (hx : IV a b x) (hy : IV c c y) (e : c = b) (h1 : u ≤ a) (h2 : b - 1 ≤ v) : IV u v x := by
  obtain ⟨x1, x2⟩ := hx
  obtain ⟨y1, y2⟩ := hy
  have n : ¬ x.toInt = y.toInt := fun q => h (Int32.toInt_inj.mp q)
  constructor <;> omega
theorem IV_abs {a b : Int} {x : Int32} (h : IV a b x) (e : b < a) : False := by
  obtain ⟨x1, x2⟩ := h
  omega
theorem IV_in {a b : Int} {x : Int32} {n : Nat} (h : IV a b x) (h1 : 0 ≤ a) (h2 : b < (n : Int)) : vp_in x n := by
  obtain ⟨x1, x2⟩ := h
  exact vp_in_iff.mpr ⟨by omega, by omega⟩
theorem AR_0 {a b : Int} (h1 : a ≤ 0) (h2 : 0 ≤ b) : AR a b (fun _ => 0) := fun _ => ⟨h1, h2⟩
theorem AR_upd {a b : Int} {f : Nat → Int32} {k : Nat} {x : Int32} (h : AR a b f) (hx : IV a b x) : AR a b (upd f k x) := by
  intro j
  unfold upd
  split
  · exact hx
  · exact h j
theorem AR_get {a b : Int} {f : Nat → Int32} {k : Nat} {z : Int32} (h : AR a b f) (e : z = f k) : IV a b z := by rw [e]; exact h k
theorem AR_wk {a b c d : Int} {f : Nat → Int32} (h : AR a b f) (h1 : c ≤ a) (h2 : b ≤ d) : AR c d f := fun j => IV_wk (h j) h1 h2
theorem IV_u0 {a b : Int} {x : Int32} {h : Int} (hx : IV a b x) (e : h - x.toInt ≤ (0 : Nat)) (e2 : b < h) : False := by
  obtain ⟨x1, x2⟩ := hx
  omega
theorem IV_u1 {h : Int} {x z : Int32} {n : Nat} {k : Int} (e : h - x.toInt ≤ ((n + 1 : Nat) : Int)) (ez : z.toInt = x.toInt + k) (hk : 1 ≤ k) : h - z.toInt ≤ (n : Int) := by omega
theorem IV_ui {a b h : Int} {x : Int32} {n : Nat} (hx : IV a b x) (e : h - a ≤ (n : Int)) : h - x.toInt ≤ (n : Int) := by
  obtain ⟨x1, x2⟩ := hx
  omega
theorem IV_d0 {a b : Int} {x : Int32} {h : Int} (hx : IV a b x) (e : x.toInt - h ≤ (0 : Nat)) (e2 : h < a) : False := by
  obtain ⟨x1, x2⟩ := hx
  omega
theorem IV_d1 {h : Int} {x z : Int32} {n : Nat} {k : Int} (e : x.toInt - h ≤ ((n + 1 : Nat) : Int)) (ez : z.toInt = x.toInt + k) (hk : k ≤ -1) : z.toInt - h ≤ (n : Int) := by omega
theorem IV_di {a b h : Int} {x : Int32} {n : Nat} (hx : IV a b x) (e : b - h ≤ (n : Int)) : x.toInt - h ≤ (n : Int) := by
  obtain ⟨x1, x2⟩ := hx
  omega
theorem IV_step {a b c : Int} {x y z : Int32} (e : z = x + y) (hx : IV a b x) (hy : y.toInt = c) (h1 : -2147483648 ≤ a + c) (h2 : b + c ≤ 2147483647) : z.toInt = x.toInt + c := by
  obtain ⟨x1, x2⟩ := hx
  rw [e, Jvm.Kit.i32_add (by omega) (by omega), hy]
theorem W_abs {p : Program} {l : Launch} {e : Env} {R : Room} {s : State} {m : MethodId} {args : Array Value} {below : List Frame} {meth : Method} {c : Code} {H : Heap} {locs : List Loc} {k n : Nat} {Q : State → Prop} {g : JFrame} (h : ∀ (GW : Heap → List Loc → Nat → Nat → JFrame → Prop), (∀ H locs k n g, GW H locs k n g ↔ W p l e R s m args below meth c H locs k n Q g) → GW H locs k n g) : W p l e R s m args below meth c H locs k n Q g := h (fun H locs k n g => W p l e R s m args below meth c H locs k n Q g) (fun _ _ _ _ _ => Iff.rfl)
theorem IV_bool {x : Int32} (h : IV 0 1 x) : x = 0 ∨ x = 1 := by
  obtain ⟨x1, x2⟩ := h
  rcases (show x.toInt = 0 ∨ x.toInt = 1 by omega) with q | q
  · exact Or.inl (Int32.toInt_inj.mp (by rw [q]; decide))
  · exact Or.inr (Int32.toInt_inj.mp (by rw [q]; decide))
theorem IV_nar {x : Int32} (h : IV 0 1 x) : narrow .boolean (.int x) = .int x := by
  rcases IV_bool h with rfl | rfl <;> rfl
theorem IV_rem {a b c u v : Int} {x y z : Int32} (e : z = x - x / y * y) (hx : IV a b x) (ha : 0 ≤ a) (hy : y.toInt = c) (hc : 0 < c) (h3 : u ≤ 0) (h4 : c - 1 ≤ v) : IV u v z := by
  obtain ⟨x1, x2⟩ := hx
  have l1 := Int32.toInt_lt x
  have h : (x / y).toInt = x.toInt / c := by rw [lg_idiv_nonneg (by omega) (by omega), hy]
  have d1 : 0 ≤ x.toInt / c := Int.ediv_nonneg (by omega) (by omega)
  have d2 : x.toInt / c * c ≤ x.toInt := Int.ediv_mul_le _ (by omega)
  have d4 : x.toInt - x.toInt / c * c = x.toInt % c := by rw [Int.emod_def, Int.mul_comm]
  have d5 : 0 ≤ x.toInt % c := Int.emod_nonneg _ (by omega)
  have d6 : x.toInt % c < c := Int.emod_lt_of_pos _ hc
  have d7 : 0 ≤ x.toInt / c * c := Int.mul_nonneg d1 (by omega)
  have m : (x / y * y).toInt = x.toInt / c * c := by rw [Jvm.Kit.i32_mul (by rw [h, hy]; omega) (by rw [h, hy]; omega), h, hy]
  have q : z.toInt = x.toInt % c := by rw [e, Jvm.Kit.i32_sub (by rw [m]; omega) (by rw [m]; omega), m, d4]
  constructor <;> omega
theorem IV_min {a b c d u v : Int} {x y z : Int32} (e : z = if y < x then y else x) (hx : IV a b x) (hy : IV c d y) (h1 : u ≤ min a c) (h2 : min b d ≤ v) : IV u v z := by
  obtain ⟨x1, x2⟩ := hx
  obtain ⟨y1, y2⟩ := hy
  rw [e]
  split
  · rename_i h
    rw [Int32.lt_iff_toInt_lt] at h
    constructor <;> omega
  · rename_i h
    rw [Int32.lt_iff_toInt_lt] at h
    constructor <;> omega
theorem IV_max {a b c d u v : Int} {x y z : Int32} (e : z = if x < y then y else x) (hx : IV a b x) (hy : IV c d y) (h1 : u ≤ max a c) (h2 : max b d ≤ v) : IV u v z := by
  obtain ⟨x1, x2⟩ := hx
  obtain ⟨y1, y2⟩ := hy
  rw [e]
  split
  · rename_i h
    rw [Int32.lt_iff_toInt_lt] at h
    constructor <;> omega
  · rename_i h
    rw [Int32.lt_iff_toInt_lt] at h
    constructor <;> omega
theorem RL_k {x i : Int32} {c : Int} (h : x.toInt ≤ i.toInt + c) : x.toInt ≤ i.toInt + c := h
theorem RL_iv {a b d e c : Int} {x i : Int32} (hx : IV a b x) (hi : IV d e i) (h : b ≤ d + c) : x.toInt ≤ i.toInt + c := by
  obtain ⟨x1, x2⟩ := hx
  obtain ⟨y1, y2⟩ := hi
  omega
theorem RL_wk {x i : Int32} {c d : Int} (h : x.toInt ≤ i.toInt + c) (e : c ≤ d) : x.toInt ≤ i.toInt + d := by omega
theorem RL_l {x z i : Int32} {c k d : Int} (e : z.toInt = x.toInt + k) (h : x.toInt ≤ i.toInt + c) (q : c + k ≤ d) : z.toInt ≤ i.toInt + d := by omega
theorem RL_r {x z i : Int32} {c k d : Int} (e : z.toInt = i.toInt + k) (h : x.toInt ≤ i.toInt + c) (q : c - k ≤ d) : x.toInt ≤ z.toInt + d := by omega
theorem IV_rel {a b d e c u v : Int} {x i : Int32} (h : x.toInt ≤ i.toInt + c) (hx : IV a b x) (hi : IV d e i) (h1 : u ≤ a) (h2 : e + c ≤ v) : IV u v x := by
  obtain ⟨x1, x2⟩ := hx
  obtain ⟨y1, y2⟩ := hi
  constructor <;> omega
theorem IV_shl12 : ∀ k : Fin 13, ((1 : Int32) <<< (nI k.val &&& 31)).toInt = 2 ^ k.val := by decide
theorem IV_shl {a b u v : Int} {y z : Int32} (e : z = 1 <<< (y &&& 31)) (hy : IV a b y) (ha : 0 ≤ a) (hb : b ≤ 12) (h1 : u ≤ 2 ^ a.toNat) (h2 : 2 ^ b.toNat ≤ v) : IV u v z := by
  obtain ⟨y1, y2⟩ := hy
  obtain ⟨j, hj, rfl⟩ := vp_in_of (x := y) (n := 13) (vp_in_iff.mpr ⟨by omega, by omega⟩) (by decide)
  have t := nI_toInt (n := j) (by omega)
  have q : z.toInt = 2 ^ j := by rw [e]; exact IV_shl12 ⟨j, hj⟩
  have m1 : (2 : Int) ^ a.toNat ≤ 2 ^ j := by
    have := Nat.pow_le_pow_right (n := 2) (by decide) (show a.toNat ≤ j by omega)
    exact_mod_cast this
  have m2 : (2 : Int) ^ j ≤ 2 ^ b.toNat := by
    have := Nat.pow_le_pow_right (n := 2) (by decide) (show j ≤ b.toNat by omega)
    exact_mod_cast this
  constructor <;> omega
