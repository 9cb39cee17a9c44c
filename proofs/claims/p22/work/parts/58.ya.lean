/-! how many bits are set, by the JDK's own way -/
def bmap (f : Nat → Nat) : Nat → Nat → Nat
  | 0, _ => 0
  | n + 1, x => f (x % 256) + 256 * bmap f n (x / 256)
def s1 (b : Nat) : Nat := b - ((b / 2) &&& 85)
def s2 (b : Nat) : Nat := (b &&& 51) + ((b / 4) &&& 51)
def s3 (b : Nat) : Nat := (b + b / 16) % 16
def pc8 (b : Nat) : Nat := (b.testBit 0).toNat + (b.testBit 1).toNat + (b.testBit 2).toNat + (b.testBit 3).toNat + (b.testBit 4).toNat + (b.testBit 5).toNat + (b.testBit 6).toNat + (b.testBit 7).toNat
theorem pc_all : ∀ b : Fin 256, s1 b.val < 256 ∧ s2 (s1 b.val) < 256 ∧ (s2 (s1 b.val)) % 16 ≤ 4 ∧ (s2 (s1 b.val)) / 16 ≤ 4 ∧ s3 (s2 (s1 b.val)) = pc8 b.val ∧ pc8 b.val ≤ 8 := by decide +kernel
theorem and_lo {a m x n : Nat} (ha : a < 256) (hm : m < 256) : (a + 256 * x) &&& (m + 256 * n) = (a &&& m) + 256 * (x &&& n) := by
  have h1 : (a &&& m) < 2 ^ 8 := Nat.lt_of_le_of_lt Nat.and_le_left ha
  apply Nat.eq_of_testBit_eq
  intro i
  rw [Nat.testBit_and, Nat.add_comm a, Nat.add_comm m, Nat.add_comm (a &&& m), show 256 = 2 ^ 8 from rfl, Nat.testBit_two_pow_mul_add _ (show a < 2 ^ 8 from ha), Nat.testBit_two_pow_mul_add _ (show m < 2 ^ 8 from hm), Nat.testBit_two_pow_mul_add _ h1]
  split
  · rw [Nat.testBit_and]
  · rw [Nat.testBit_and]
theorem b_85 : ∀ b : Fin 256, (b.val) &&& 85 = (b.val % 128) &&& 85 := by decide +kernel
theorem b_51 : ∀ b : Fin 256, (b.val) &&& 51 = (b.val % 64) &&& 51 := by decide +kernel
theorem mk_s (m n : Nat) : bmap (fun _ => m) (n + 1) 0 = m + 256 * bmap (fun _ => m) n 0 := rfl
theorem bm_le {f : Nat → Nat} (hf : ∀ b, b < 256 → f b < 256) : ∀ n x, bmap f n x < 256 ^ n := by
  intro n
  induction n with
  | zero => intro x; exact Nat.one_pos
  | succ n ih =>
    intro x
    have a := hf (x % 256) (Nat.mod_lt _ (by decide))
    have b := ih (x / 256)
    show f (x % 256) + 256 * bmap f n (x / 256) < 256 ^ n * 256
    omega
theorem st1 : ∀ (n x : Nat), x < 256 ^ n → ((x / 2) &&& bmap (fun _ => 85) n 0) ≤ x ∧ x - ((x / 2) &&& bmap (fun _ => 85) n 0) = bmap s1 n x := by
  intro n
  induction n with
  | zero =>
    intro x hx
    have : x = 0 := by
      have : 256 ^ 0 = 1 := rfl
      omega
    subst this
    exact ⟨Nat.le_refl _, rfl⟩
  | succ n ih =>
    intro x hx
    have hx' : x / 256 < 256 ^ n := by
      have : 256 ^ (n + 1) = 256 ^ n * 256 := rfl
      omega
    obtain ⟨i1, i2⟩ := ih (x / 256) hx'
    have e : x / 2 = (x / 2 % 256) + 256 * (x / 256 / 2) := by omega
    rw [mk_s, e, and_lo (Nat.mod_lt _ (by decide)) (by decide)]
    have b := b_85 ⟨x / 2 % 256, Nat.mod_lt _ (by decide)⟩
    have b : (x / 2 % 256) &&& 85 = (x / 2 % 256 % 128) &&& 85 := b
    have e2 : x / 2 % 256 % 128 = x % 256 / 2 := by omega
    rw [b, e2]
    have le : (x % 256 / 2) &&& 85 ≤ x % 256 := Nat.le_trans Nat.and_le_left (by omega)
    refine ⟨by omega, ?_⟩
    show _ = s1 (x % 256) + 256 * bmap s1 n (x / 256)
    rw [← i2]
    unfold s1
    omega
theorem st2 : ∀ (n x : Nat), x < 256 ^ n → (x &&& bmap (fun _ => 51) n 0) + ((x / 4) &&& bmap (fun _ => 51) n 0) = bmap s2 n x := by
  intro n
  induction n with
  | zero =>
    intro x hx
    have : x = 0 := by
      have : 256 ^ 0 = 1 := rfl
      omega
    subst this
    rfl
  | succ n ih =>
    intro x hx
    have hx' : x / 256 < 256 ^ n := by
      have : 256 ^ (n + 1) = 256 ^ n * 256 := rfl
      omega
    have i2 := ih (x / 256) hx'
    have e : x / 4 = (x / 4 % 256) + 256 * (x / 256 / 4) := by omega
    have e0 : x = (x % 256) + 256 * (x / 256) := by omega
    have b := b_51 ⟨x / 4 % 256, Nat.mod_lt _ (by decide)⟩
    have b : (x / 4 % 256) &&& 51 = (x / 4 % 256 % 64) &&& 51 := b
    have e2 : x / 4 % 256 % 64 = x % 256 / 4 := by omega
    show _ = s2 (x % 256) + 256 * bmap s2 n (x / 256)
    rw [mk_s, e, and_lo (Nat.mod_lt _ (by decide)) (by decide), b, e2, ← i2]
    have a1 : x &&& (51 + 256 * bmap (fun _ => 51) n 0) = ((x % 256) &&& 51) + 256 * ((x / 256) &&& bmap (fun _ => 51) n 0) := by
      have := and_lo (a := x % 256) (m := 51) (x := x / 256) (n := bmap (fun _ => 51) n 0) (Nat.mod_lt _ (by decide)) (by decide)
      rw [← e0] at this
      exact this
    rw [a1]
    unfold s2
    omega
theorem bmap_bmap {f g : Nat → Nat} (hf : ∀ b, b < 256 → f b < 256) : ∀ n x, bmap g n (bmap f n x) = bmap (fun b => g (f b)) n x := by
  intro n
  induction n with
  | zero => intro x; rfl
  | succ n ih =>
    intro x
    have a := hf (x % 256) (Nat.mod_lt _ (by decide))
    show g ((f (x % 256) + 256 * bmap f n (x / 256)) % 256) + 256 * bmap g n ((f (x % 256) + 256 * bmap f n (x / 256)) / 256) = g (f (x % 256)) + 256 * bmap (fun b => g (f b)) n (x / 256)
    rw [show (f (x % 256) + 256 * bmap f n (x / 256)) % 256 = f (x % 256) by omega, show (f (x % 256) + 256 * bmap f n (x / 256)) / 256 = bmap f n (x / 256) by omega, ih]
theorem and_15 (b : Nat) (h : b < 256) : b &&& 15 = b % 16 := by
  have : ∀ b : Fin 256, b.val &&& 15 = b.val % 16 := by decide +kernel
  exact this ⟨b, h⟩
theorem st3 {f : Nat → Nat} (hf : ∀ b, b < 256 → f b % 16 ≤ 4 ∧ f b / 16 ≤ 4) : ∀ (n x : Nat), (bmap f n x + bmap f n x / 16) &&& bmap (fun _ => 15) n 0 = bmap (fun b => s3 (f b)) n x := by
  intro n
  induction n with
  | zero =>
    intro x
    show (0 + 0 / 16) &&& 0 = 0
    decide
  | succ n ih =>
    intro x
    obtain ⟨a1, a2⟩ := hf (x % 256) (Nat.mod_lt _ (by decide))
    have hm : bmap f n (x / 256) % 16 ≤ 4 := by
      cases n with
      | zero => exact Nat.zero_le _
      | succ n =>
        obtain ⟨c1, c2⟩ := hf (x / 256 % 256) (Nat.mod_lt _ (by decide))
        show (f (x / 256 % 256) + 256 * bmap f n (x / 256 / 256)) % 16 ≤ 4
        omega
    have i := ih (x / 256)
    show ((f (x % 256) + 256 * bmap f n (x / 256)) + (f (x % 256) + 256 * bmap f n (x / 256)) / 16) &&& (15 + 256 * bmap (fun _ => 15) n 0) = s3 (f (x % 256)) + 256 * bmap (fun b => s3 (f b)) n (x / 256)
    rw [← i]
    generalize bmap f n (x / 256) = H at hm ⊢
    generalize f (x % 256) = q at a1 a2 ⊢
    have e : (q + 256 * H) + (q + 256 * H) / 16 = (q + q / 16 + 16 * (H % 16)) + 256 * (H + H / 16) := by omega
    rw [e, and_lo (by omega) (by decide), and_15 _ (by omega)]
    unfold s3
    omega
theorem bm_8 (f : Nat → Nat) (x : Nat) : bmap f 8 x = f (x % 256) + 256 * (f (x / 256 % 256) + 256 * (f (x / 65536 % 256) + 256 * (f (x / 16777216 % 256) + 256 * (f (x / 4294967296 % 256) + 256 * (f (x / 1099511627776 % 256) + 256 * (f (x / 281474976710656 % 256) + 256 * f (x / 72057594037927936 % 256))))))) := by
  show f (x % 256) + 256 * (f (x / 256 % 256) + 256 * (f (x / 256 / 256 % 256) + 256 * (f (x / 256 / 256 / 256 % 256) + 256 * (f (x / 256 / 256 / 256 / 256 % 256) + 256 * (f (x / 256 / 256 / 256 / 256 / 256 % 256) + 256 * (f (x / 256 / 256 / 256 / 256 / 256 / 256 % 256) + 256 * (f (x / 256 / 256 / 256 / 256 / 256 / 256 / 256 % 256) + 256 * 0))))))) = _
  rw [Nat.div_div_eq_div_mul, Nat.div_div_eq_div_mul, Nat.div_div_eq_div_mul, Nat.div_div_eq_div_mul, Nat.div_div_eq_div_mul, Nat.div_div_eq_div_mul, Nat.mul_zero, Nat.add_zero]
theorem d256 {a b : Nat} (h : a < 256) : (a + 256 * b) / 256 = b := by omega
theorem A_le {c a m : Nat} (h : c ≤ 8) (g : a ≤ m) : c + 256 * a ≤ 8 + 256 * m := by omega
theorem stB {a b A B C : Nat} (h1 : A = a + 256 * B) (h2 : B = b + 256 * C) : A + B = (a + b) + 256 * (B + C) := by omega
theorem stC {a b X Y X' Y' : Nat} (h1 : X = a + 256 * X') (h2 : Y = b + 256 * Y') : X + Y = (a + b) + 256 * (X' + Y') := by omega
theorem dv1 {a X Y : Nat} (h : X = a + 256 * Y) (ha : a < 256) : X / 256 = Y := by
  rw [h]
  exact d256 ha
theorem m128 {s t : Nat} (h : s < 128) : (s + 256 * t) % 128 = s := by omega
theorem sm8 (c0 c1 c2 c3 c4 c5 c6 c7 : Nat) : c0 + c1 + (c2 + c3) + (c4 + c5 + (c6 + c7)) = c0 + c1 + c2 + c3 + c4 + c5 + c6 + c7 := by omega
theorem lt2 {a b n : Nat} (h : a < 2 ^ n) (g : b ≤ a) : a + b < 2 ^ (n + 1) := by
  rw [Nat.pow_succ]
  omega
theorem p2 {a b : Nat} (h : a ≤ 8) (g : b ≤ 8) : a + b ≤ 16 := Nat.add_le_add h g
theorem p4 {a b : Nat} (h : a ≤ 16) (g : b ≤ 16) : a + b ≤ 32 := Nat.add_le_add h g
theorem lt256 {a m : Nat} (h : a ≤ m) (g : m < 256) : a < 256 := Nat.lt_of_le_of_lt h g
theorem fold8 {c0 c1 c2 c3 c4 c5 c6 c7 : Nat} (h0 : c0 ≤ 8) (h1 : c1 ≤ 8) (h2 : c2 ≤ 8) (h3 : c3 ≤ 8) (h4 : c4 ≤ 8) (h5 : c5 ≤ 8) (h6 : c6 ≤ 8) (h7 : c7 ≤ 8) {y v4 v5 v6 : Nat} (hy : y = c0 + 256 * (c1 + 256 * (c2 + 256 * (c3 + 256 * (c4 + 256 * (c5 + 256 * (c6 + 256 * c7))))))) (e4 : v4 = y + y / 256) (e5 : v5 = v4 + v4 / 65536) (e6 : v6 = v5 + v5 / 4294967296) : (v4 < 2 ^ 63 ∧ v5 < 2 ^ 63 ∧ v6 < 2 ^ 63) ∧ v6 % 128 = c0 + c1 + c2 + c3 + c4 + c5 + c6 + c7 := by
  have b0 := A_le h0 (A_le h1 (A_le h2 (A_le h3 (A_le h4 (A_le h5 (A_le h6 h7))))))
  rw [← hy] at b0
  have ly : y < 2 ^ 60 := Nat.lt_of_le_of_lt b0 (by decide)
  obtain ⟨A7, e7⟩ : ∃ A7, A7 = c7 + 256 * 0 := ⟨_, rfl⟩
  obtain ⟨A6, eA6⟩ : ∃ A6, A6 = c6 + 256 * A7 := ⟨_, rfl⟩
  obtain ⟨A5, eA5⟩ : ∃ A5, A5 = c5 + 256 * A6 := ⟨_, rfl⟩
  obtain ⟨A4, eA4⟩ : ∃ A4, A4 = c4 + 256 * A5 := ⟨_, rfl⟩
  obtain ⟨A3, eA3⟩ : ∃ A3, A3 = c3 + 256 * A4 := ⟨_, rfl⟩
  obtain ⟨A2, eA2⟩ : ∃ A2, A2 = c2 + 256 * A3 := ⟨_, rfl⟩
  obtain ⟨A1, eA1⟩ : ∃ A1, A1 = c1 + 256 * A2 := ⟨_, rfl⟩
  have e77 : c7 = A7 := e7.symm
  rw [e77, ← eA6, ← eA5, ← eA4, ← eA3, ← eA2, ← eA1] at hy
  rw [dv1 hy (lt256 h0 (by decide))] at e4
  have q0 := stB hy eA1
  have q1 := stB eA1 eA2
  have q2 := stB eA2 eA3
  have q3 := stB eA3 eA4
  have q4 := stB eA4 eA5
  have q5 := stB eA5 eA6
  have q6 := stB eA6 e7
  rw [← e4] at q0
  have l4 : v4 < 2 ^ 61 := by
    rw [e4]
    refine lt2 ly ?_
    rw [← dv1 hy (lt256 h0 (by decide))]
    exact Nat.div_le_self _ _
  have z2 : v4 / 65536 = A2 + A3 := by
    rw [show 65536 = 256 * 256 from rfl, ← Nat.div_div_eq_div_mul, dv1 q0 (lt256 (p2 h0 h1) (by decide)), dv1 q1 (lt256 (p2 h1 h2) (by decide))]
  have l5 : v5 < 2 ^ 62 := by
    rw [e5]
    exact lt2 l4 (Nat.div_le_self _ _)
  have l6 : v6 < 2 ^ 63 := by
    rw [e6]
    exact lt2 l5 (Nat.div_le_self _ _)
  rw [z2] at e5
  have r0 := stC q0 q2
  have r1 := stC q1 q3
  have r2 := stC q2 q4
  have r3 := stC q3 q5
  have r4 := stC q4 q6
  rw [← e5] at r0
  have z4 : v5 / 4294967296 = A4 + A5 + (A6 + A7) := by
    rw [show 4294967296 = 256 * 256 * 256 * 256 from rfl, ← Nat.div_div_eq_div_mul, ← Nat.div_div_eq_div_mul, ← Nat.div_div_eq_div_mul, dv1 r0 (lt256 (p4 (p2 h0 h1) (p2 h2 h3)) (by decide)), dv1 r1 (lt256 (p4 (p2 h1 h2) (p2 h3 h4)) (by decide)), dv1 r2 (lt256 (p4 (p2 h2 h3) (p2 h4 h5)) (by decide)), dv1 r3 (lt256 (p4 (p2 h3 h4) (p2 h5 h6)) (by decide))]
  rw [z4] at e6
  have t := stC r0 r4
  rw [← e6] at t
  refine ⟨⟨Nat.lt_of_lt_of_le l4 (by decide), Nat.lt_of_lt_of_le l5 (by decide), l6⟩, ?_⟩
  rw [t, m128 (Nat.lt_of_le_of_lt (Nat.add_le_add (p4 (p2 h0 h1) (p2 h2 h3)) (p4 (p2 h4 h5) (p2 h6 h7))) (by decide))]
  exact sm8 _ _ _ _ _ _ _ _
theorem u16 {y : Nat} (h : y < 5 * 16 * 72057594037927936) : y + y / 16 < 2 ^ 64 := by omega
theorem le68 {q : Nat} (h1 : q % 16 ≤ 4) (h2 : q / 16 ≤ 4) : q ≤ 68 := by omega
theorem sum68 {z0 z1 z2 z3 z4 z5 z6 z7 : Nat} (h0 : z0 ≤ 68) (h1 : z1 ≤ 68) (h2 : z2 ≤ 68) (h3 : z3 ≤ 68) (h4 : z4 ≤ 68) (h5 : z5 ≤ 68) (h6 : z6 ≤ 68) (h7 : z7 ≤ 68) : z0 + 256 * (z1 + 256 * (z2 + 256 * (z3 + 256 * (z4 + 256 * (z5 + 256 * (z6 + 256 * z7)))))) < 5 * 16 * 72057594037927936 := by omega
