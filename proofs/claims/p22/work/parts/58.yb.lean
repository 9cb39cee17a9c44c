/-! Long.bitCount -/
def tN (x : Int64) : Nat := x.toBitVec.toNat
theorem tN_lt (x : Int64) : tN x < 2 ^ 64 := x.toBitVec.isLt
theorem tN_u {x : Int64} {j : Nat} (hj : j < 64) : tN (jLu x (nI j)) = tN x / 2 ^ j := by
  have hs : ∀ k : Fin 64, ((nI k.val).toInt64.toUInt64 &&& Int64.toUInt64 63).toNat = k.val := by decide +kernel
  have hs := hs ⟨j, hj⟩
  have e : (jLu x (nI j)).toBitVec = x.toBitVec >>> j := by
    apply BitVec.eq_of_toNat_eq
    show (x.toUInt64 >>> ((nI j).toInt64.toUInt64 &&& Int64.toUInt64 63)).toNat = _
    rw [UInt64.toNat_shiftRight, hs, Nat.mod_eq_of_lt hj, BitVec.toNat_ushiftRight]
    rfl
  unfold tN
  rw [e, BitVec.toNat_ushiftRight, Nat.shiftRight_eq_div_pow]
theorem tN_and (x y : Int64) : tN (x &&& y) = tN x &&& tN y := by
  unfold tN
  rw [Int64.toBitVec_and, BitVec.toNat_and]
theorem tN_add {x y : Int64} (h : tN x + tN y < 2 ^ 64) : tN (x + y) = tN x + tN y := by
  unfold tN at h ⊢
  rw [Int64.toBitVec_add, BitVec.toNat_add, Nat.mod_eq_of_lt h]
theorem tN_sub {x y : Int64} (h : tN y ≤ tN x) : tN (x - y) = tN x - tN y := by
  have a := tN_lt x
  have b := tN_lt y
  unfold tN at h a b ⊢
  rw [Int64.toBitVec_sub, BitVec.toNat_sub]
  omega
theorem tN_bL (x : Int64) (w : Nat) : bL x w = (tN x).testBit w := rfl
theorem cn_b {q : Nat → Bool} (n : Nat) : cn (fun i => q i = true) (n + 1) = cn (fun i => q i = true) n + (q n).toNat := by
  cases h : q n with
  | true => rw [cn_y (P := fun i => q i = true) h]; rfl
  | false => rw [cn_n (P := fun i => q i = true) (by rw [h]; decide)]; rfl
theorem cn_add {P : Nat → Prop} (a : Nat) : ∀ b, cn P (a + b) = cn P a + cn (fun i => P (a + i)) b := by
  intro b
  induction b with
  | zero => rfl
  | succ b ih =>
    by_cases h : P (a + b)
    · rw [show a + (b + 1) = (a + b) + 1 from rfl, cn_y h, cn_y (P := fun i => P (a + i)) h, ih]
      omega
    · rw [show a + (b + 1) = (a + b) + 1 from rfl, cn_n h, cn_n (P := fun i => P (a + i)) h, ih]
theorem byte_t (X k i : Nat) (hi : i < 8) : X.testBit (8 * k + i) = (X / 2 ^ (8 * k) % 256).testBit i := by
  rw [show 256 = 2 ^ 8 from rfl, Nat.testBit_mod_two_pow, Nat.testBit_div_two_pow, decide_eq_true hi, Bool.true_and]
  exact congrArg X.testBit (by omega)
theorem cn_byte (X k : Nat) : cn (fun i => X.testBit (8 * k + i) = true) 8 = pc8 (X / 2 ^ (8 * k) % 256) := by
  have e : cn (fun i => X.testBit (8 * k + i) = true) 8 = cn (fun i => (X / 2 ^ (8 * k) % 256).testBit i = true) 8 := cn_c (fun i hi => by rw [byte_t X k i hi])
  rw [e]
  generalize X / 2 ^ (8 * k) % 256 = y
  rw [cn_b, cn_b, cn_b, cn_b, cn_b, cn_b, cn_b, cn_b]
  show 0 + _ + _ + _ + _ + _ + _ + _ + _ = _
  unfold pc8
  omega
theorem cn_64 (X : Nat) : cn (fun i => X.testBit i = true) 64 = pc8 (X % 256) + pc8 (X / 256 % 256) + pc8 (X / 65536 % 256) + pc8 (X / 16777216 % 256) + pc8 (X / 4294967296 % 256) + pc8 (X / 1099511627776 % 256) + pc8 (X / 281474976710656 % 256) + pc8 (X / 72057594037927936 % 256) := by
  have b0 : cn (fun i => X.testBit (8 * 0 + i) = true) 8 = pc8 (X / 1 % 256) := cn_byte X 0
  have b1 : cn (fun i => X.testBit (8 * 1 + i) = true) 8 = pc8 (X / 256 % 256) := cn_byte X 1
  have b2 : cn (fun i => X.testBit (8 * 2 + i) = true) 8 = pc8 (X / 65536 % 256) := cn_byte X 2
  have b3 : cn (fun i => X.testBit (8 * 3 + i) = true) 8 = pc8 (X / 16777216 % 256) := cn_byte X 3
  have b4 : cn (fun i => X.testBit (8 * 4 + i) = true) 8 = pc8 (X / 4294967296 % 256) := cn_byte X 4
  have b5 : cn (fun i => X.testBit (8 * 5 + i) = true) 8 = pc8 (X / 1099511627776 % 256) := cn_byte X 5
  have b6 : cn (fun i => X.testBit (8 * 6 + i) = true) 8 = pc8 (X / 281474976710656 % 256) := cn_byte X 6
  have b7 : cn (fun i => X.testBit (8 * 7 + i) = true) 8 = pc8 (X / 72057594037927936 % 256) := cn_byte X 7
  have a : ∀ m, cn (fun i => X.testBit i = true) (8 * m + 8) = cn (fun i => X.testBit i = true) (8 * m) + cn (fun i => X.testBit (8 * m + i) = true) 8 := fun m => cn_add (P := fun i => X.testBit i = true) (8 * m) 8
  rw [show 64 = 8 * 7 + 8 from rfl, a 7, b7, show 8 * 7 = 8 * 6 + 8 from rfl, a 6, b6, show 8 * 6 = 8 * 5 + 8 from rfl, a 5, b5, show 8 * 5 = 8 * 4 + 8 from rfl, a 4, b4, show 8 * 4 = 8 * 3 + 8 from rfl, a 3, b3, show 8 * 3 = 8 * 2 + 8 from rfl, a 2, b2, show 8 * 2 = 8 * 1 + 8 from rfl, a 1, b1, show 8 * 1 = 8 * 0 + 8 from rfl, a 0, b0]
  show 0 + pc8 (X / 1 % 256) + _ + _ + _ + _ + _ + _ + _ = _
  rw [Nat.div_one]
  omega
theorem mod_lo (a : Nat) : a % 2 ^ 32 % 2 ^ 7 = a % 128 := by omega
theorem m85 : tN (6148914691236517205 : Int64) = bmap (fun _ => 85) 8 0 := by decide +kernel
theorem m51 : tN (3689348814741910323 : Int64) = bmap (fun _ => 51) 8 0 := by decide +kernel
theorem m15 : tN (1085102592571150095 : Int64) = bmap (fun _ => 15) 8 0 := by decide +kernel
theorem e_bitCount (x : Int64) : f_J13_bitCount_95d88 x = some (nI (cn (fun w => bL x w = true) 64)) := by
  have p256 : (256 : Nat) ^ 8 = 2 ^ 64 := by decide
  have hs1 : ∀ b, b < 256 → s1 b < 256 := fun b hb => (pc_all ⟨b, hb⟩).1
  have hs2 : ∀ b, b < 256 → s2 (s1 b) < 256 := fun b hb => (pc_all ⟨b, hb⟩).2.1
  have hs3 : ∀ b, b < 256 → s2 (s1 b) % 16 ≤ 4 ∧ s2 (s1 b) / 16 ≤ 4 := fun b hb => ⟨(pc_all ⟨b, hb⟩).2.2.1, (pc_all ⟨b, hb⟩).2.2.2.1⟩
  have hpc : ∀ b, b < 256 → s3 (s2 (s1 b)) = pc8 b ∧ pc8 b ≤ 8 := fun b hb => ⟨(pc_all ⟨b, hb⟩).2.2.2.2.1, (pc_all ⟨b, hb⟩).2.2.2.2.2⟩
  -- by pairs
  generalize h1 : x - ((jLu x (1 : Int32)) &&& (6148914691236517205 : Int64)) = v1
  have t1 : tN v1 = bmap s1 8 (tN x) := by
    obtain ⟨a, b⟩ := st1 8 (tN x) (by rw [p256]; exact tN_lt x)
    have e : tN ((jLu x (1 : Int32)) &&& (6148914691236517205 : Int64)) = (tN x / 2) &&& bmap (fun _ => 85) 8 0 := by
      rw [tN_and, m85, show (1 : Int32) = nI 1 from rfl, tN_u (by decide)]
    rw [← h1, tN_sub (by rw [e]; exact a), e, b]
  -- by fours
  generalize h2 : (v1 &&& (3689348814741910323 : Int64)) + ((jLu v1 (2 : Int32)) &&& (3689348814741910323 : Int64)) = v2
  have l2 := bm_le hs2 8 (tN x)
  rw [p256] at l2
  have t2 : tN v2 = bmap (fun b => s2 (s1 b)) 8 (tN x) := by
    have q := st2 8 (tN v1) (by rw [t1]; exact bm_le hs1 8 _)
    rw [t1, bmap_bmap hs1] at q
    have ea : tN (v1 &&& (3689348814741910323 : Int64)) = bmap s1 8 (tN x) &&& bmap (fun _ => 51) 8 0 := by rw [tN_and, m51, t1]
    have eb : tN ((jLu v1 (2 : Int32)) &&& (3689348814741910323 : Int64)) = (bmap s1 8 (tN x) / 4) &&& bmap (fun _ => 51) 8 0 := by
      rw [tN_and, m51, show (2 : Int32) = nI 2 from rfl, tN_u (by decide), t1]
    rw [← h2, tN_add (by rw [ea, eb, q]; exact l2), ea, eb, q]
  -- by eights
  generalize h3 : (v2 + (jLu v2 (4 : Int32))) &&& (1085102592571150095 : Int64) = v3
  have top : bmap (fun b => s2 (s1 b)) 8 (tN x) < 5 * 16 * 72057594037927936 := by
    rw [bm_8]
    have q : ∀ b, s2 (s1 (b % 256)) ≤ 68 := fun b => by
      obtain ⟨a, c⟩ := hs3 (b % 256) (Nat.mod_lt _ (by decide))
      exact le68 a c
    exact sum68 (q _) (q _) (q _) (q _) (q _) (q _) (q _) (q _)
  have t3 : tN v3 = bmap pc8 8 (tN x) := by
    have q := st3 (f := fun b => s2 (s1 b)) hs3 8 (tN x)
    have eu : tN (jLu v2 (4 : Int32)) = bmap (fun b => s2 (s1 b)) 8 (tN x) / 16 := by
      rw [show (4 : Int32) = nI 4 from rfl, tN_u (by decide), t2]
    rw [← h3, tN_and, m15, tN_add (by rw [t2, eu]; exact u16 top), t2, eu, q]
    rw [bm_8, bm_8]
    have r : ∀ b, s3 (s2 (s1 (b % 256))) = pc8 (b % 256) := fun b => (hpc (b % 256) (Nat.mod_lt _ (by decide))).1
    rw [r, r, r, r, r, r, r, r]
  -- the eights together
  have r8 : ∀ b, pc8 (b % 256) ≤ 8 := fun b => (hpc (b % 256) (Nat.mod_lt _ (by decide))).2
  have y3 : tN v3 = _ := t3.trans (bm_8 pc8 (tN x))
  obtain ⟨⟨f4, f5, f6⟩, f2⟩ := fold8 (r8 (tN x)) (r8 (tN x / 256)) (r8 (tN x / 65536)) (r8 (tN x / 16777216)) (r8 (tN x / 4294967296)) (r8 (tN x / 1099511627776)) (r8 (tN x / 281474976710656)) (r8 (tN x / 72057594037927936)) y3 rfl rfl rfl
  generalize h4 : v3 + (jLu v3 (8 : Int32)) = v4
  have t4 : tN v4 = tN v3 + tN v3 / 256 := by
    have eu : tN (jLu v3 (8 : Int32)) = tN v3 / 256 := by rw [show (8 : Int32) = nI 8 from rfl, tN_u (by decide)]
    rw [← h4, tN_add (by rw [eu]; exact Nat.lt_of_lt_of_le f4 (by decide)), eu]
  generalize h5 : v4 + (jLu v4 (16 : Int32)) = v5
  have t5 : tN v5 = tN v4 + tN v4 / 65536 := by
    have eu : tN (jLu v4 (16 : Int32)) = tN v4 / 65536 := by rw [show (16 : Int32) = nI 16 from rfl, tN_u (by decide)]
    rw [← h5, tN_add (by rw [eu, t4]; exact Nat.lt_of_lt_of_le f5 (by decide)), eu]
  generalize h6 : v5 + (jLu v5 (32 : Int32)) = v6
  have t6 : tN v6 = tN v5 + tN v5 / 4294967296 := by
    have eu : tN (jLu v5 (32 : Int32)) = tN v5 / 4294967296 := by rw [show (32 : Int32) = nI 32 from rfl, tN_u (by decide)]
    rw [← h6, tN_add (by rw [eu, t5, t4]; exact Nat.lt_of_lt_of_le f6 (by decide)), eu]
  have fin : f_J13_bitCount_95d88 x = some ((jLI v6) &&& (127 : Int32)) := by
    unfold f_J13_bitCount_95d88
    show some ((jLI _) &&& (127 : Int32)) = _
    rw [← h6, ← h5, ← h4, ← h3, ← h2, ← h1]
  rw [fin, pk_and _ 7 (by decide)]
  have lo : (jLI v6).toBitVec.toNat % 2 ^ 7 = tN v6 % 128 := by
    have : (jLI v6).toBitVec.toNat = tN v6 % 2 ^ 32 := by
      unfold jLI tN
      rw [Int64.toBitVec_toInt32, BitVec.signExtend_eq_setWidth_of_le _ (by decide), BitVec.toNat_setWidth]
    rw [this]
    exact mod_lo _
  rw [lo]
  have e6 : tN v6 % 128 = cn (fun w => bL x w = true) 64 := by
    have c := cn_64 (tN x)
    have c : cn (fun w => bL x w = true) 64 = _ := c
    rw [c, t6, t5, t4]
    exact f2
  rw [e6]
