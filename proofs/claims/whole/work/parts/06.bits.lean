/-! ===== lN n to 2^64: shifts, and, or, masks, one bit ===== -/
theorem wb_tb (n : Nat) : (lN n).toBitVec = BitVec.ofNat 64 n := rfl
theorem wb_inj {a b : Int64} (h : a.toBitVec = b.toBitVec) : a = b := Int64.toBitVec_inj.mp h
theorem wb_tn {n : Nat} (h : n < 2 ^ 64) : (lN n).toBitVec.toNat = n := by rw [wb_tb, BitVec.toNat_ofNat, Nat.mod_eq_of_lt h]
theorem wb_of (x : Int64) : ∃ n, n < 2 ^ 64 ∧ x = lN n := ⟨x.toBitVec.toNat, x.toBitVec.isLt, wb_inj (by rw [wb_tb]; simp)⟩
theorem wb_of32 (x : Int32) : ∃ n, n < 2 ^ 32 ∧ x = nI n := ⟨x.toBitVec.toNat, x.toBitVec.isLt, Int32.toBitVec_inj.mp (by show _ = BitVec.ofNat 32 _; simp)⟩
theorem wb_c : ∀ k, k < 64 → ((nI k).toInt64 &&& 63) = lN k := by decide +kernel
theorem wb_cu : ∀ k, k < 64 → ((nI k).toInt64.toUInt64 &&& Int64.toUInt64 63) = UInt64.ofNat k := by decide +kernel
theorem wb_sm : ∀ k, k < 64 → (BitVec.ofNat 64 k).smod 64 = BitVec.ofNat 64 k := by decide +kernel
theorem wb_pw {a b : Nat} (h : a ≤ b) : 2 ^ b = 2 ^ a * 2 ^ (b - a) := by rw [← Nat.pow_add]; congr 1; omega
theorem wb_lt2 {a b : Nat} (h : a < b) : 2 ^ a < 2 ^ b := Nat.pow_lt_pow_right (by decide) h
theorem wb_mod (n : Nat) : lN n = lN (n % 2 ^ 64) := wb_inj (by rw [wb_tb, wb_tb]; apply BitVec.eq_of_toNat_eq; rw [BitVec.toNat_ofNat, BitVec.toNat_ofNat, Nat.mod_mod])
theorem wb_shr {n k : Nat} (hn : n < 2 ^ 64) (hk : k < 64) : ((lN n).toUInt64 >>> ((nI k).toInt64.toUInt64 &&& Int64.toUInt64 63)).toInt64 = lN (n / 2 ^ k) := by
  rw [wb_cu k hk]
  apply wb_inj
  apply BitVec.eq_of_toNat_eq
  show ((lN n).toUInt64 >>> UInt64.ofNat k).toNat = (BitVec.ofNat 64 _).toNat
  have h1 : (UInt64.ofNat k).toNat = k := by
    show (BitVec.ofNat 64 k).toNat = k
    rw [BitVec.toNat_ofNat, Nat.mod_eq_of_lt (by omega)]
  have h2 : (lN n).toUInt64.toNat = n := wb_tn hn
  rw [UInt64.toNat_shiftRight, h1, h2, Nat.mod_eq_of_lt hk, Nat.shiftRight_eq_div_pow, BitVec.toNat_ofNat, Nat.mod_eq_of_lt (Nat.lt_of_le_of_lt (Nat.div_le_self _ _) hn)]
theorem wb_shl (n : Nat) {k : Nat} (hk : k < 64) : lN n <<< ((nI k).toInt64 &&& 63) = lN (n * 2 ^ k) := by
  rw [wb_c k hk]
  apply wb_inj
  rw [Int64.toBitVec_shiftLeft, wb_tb, wb_tb, wb_tb, wb_sm k hk]
  apply BitVec.eq_of_toNat_eq
  rw [BitVec.shiftLeft_eq', BitVec.toNat_shiftLeft, BitVec.toNat_ofNat, BitVec.toNat_ofNat, BitVec.toNat_ofNat, Nat.mod_eq_of_lt (show k < 2 ^ 64 by omega), Nat.shiftLeft_eq, Nat.mul_mod, Nat.mod_mod, ← Nat.mul_mod]
theorem wb_and {a b : Nat} (ha : a < 2 ^ 64) (hb : b < 2 ^ 64) : lN a &&& lN b = lN (a &&& b) := by
  apply wb_inj
  rw [Int64.toBitVec_and, wb_tb, wb_tb, wb_tb]
  apply BitVec.eq_of_toNat_eq
  rw [BitVec.toNat_and, BitVec.toNat_ofNat, BitVec.toNat_ofNat, BitVec.toNat_ofNat, Nat.mod_eq_of_lt ha, Nat.mod_eq_of_lt hb, Nat.mod_eq_of_lt (Nat.and_lt_two_pow _ hb)]
theorem wb_or {a b : Nat} (ha : a < 2 ^ 64) (hb : b < 2 ^ 64) : lN a ||| lN b = lN (a ||| b) := by
  apply wb_inj
  rw [Int64.toBitVec_or, wb_tb, wb_tb, wb_tb]
  apply BitVec.eq_of_toNat_eq
  rw [BitVec.toNat_or, BitVec.toNat_ofNat, BitVec.toNat_ofNat, BitVec.toNat_ofNat, Nat.mod_eq_of_lt ha, Nat.mod_eq_of_lt hb, Nat.mod_eq_of_lt (Nat.or_lt_two_pow ha hb)]
theorem wb_mask {n k : Nat} (hn : n < 2 ^ 64) (hk : k < 64) : lN n &&& lN (2 ^ k - 1) = lN (n % 2 ^ k) := by
  rw [wb_and hn (by have := wb_lt2 hk; omega), Nat.and_two_pow_sub_one_eq_mod]
theorem wb_a1 {n : Nat} (hn : n < 2 ^ 64) : lN n &&& 1 = lN (n % 2) := wb_mask (k := 1) hn (by decide)
theorem wb_bit {n k : Nat} (hn : n < 2 ^ 64) (hk : k < 64) : ((lN n).toUInt64 >>> ((nI k).toInt64.toUInt64 &&& Int64.toUInt64 63)).toInt64 &&& 1 = lN (n / 2 ^ k % 2) := by
  rw [wb_shr hn hk, wb_a1 (Nat.lt_of_le_of_lt (Nat.div_le_self _ _) hn)]
theorem lN_bv (n : Nat) : (lN n).toBitVec = BitVec.ofNat 64 n := rfl
theorem lN_nat {n : Nat} (h : n < 2 ^ 64) : (lN n).toBitVec.toNat = n := by rw [lN_bv, BitVec.toNat_ofNat]; exact Nat.mod_eq_of_lt h
theorem lN_xor (a b : Nat) : lN a ^^^ lN b = lN (a ^^^ b) := by
  apply Int64.toBitVec_inj.mp; rw [Int64.toBitVec_xor, lN_bv, lN_bv, lN_bv]; apply BitVec.eq_of_getLsbD_eq; intro i hi; simp [BitVec.getLsbD_ofNat, Nat.testBit_xor, hi]
/-! population count: Long.bitCount's arithmetic, byte by byte -/
def pp_c (n : Nat) : Nat → Nat
  | 0 => 0
  | k + 1 => pp_c n k + n / 2 ^ k % 2
def pp_m (v : Nat) : Nat → Nat
  | 0 => 0
  | k + 1 => v + 256 * pp_m v k
theorem pp_and {a c m w : Nat} (ha : a < 256) (hm : m < 256) : (a + 256 * c) &&& (m + 256 * w) = (a &&& m) + 256 * (c &&& w) := by
  have h1 : ((a + 256 * c) &&& (m + 256 * w)) % 2 ^ 8 = ((a + 256 * c) % 2 ^ 8) &&& ((m + 256 * w) % 2 ^ 8) := Nat.and_mod_two_pow
  have h2 : ((a + 256 * c) &&& (m + 256 * w)) / 2 ^ 8 = ((a + 256 * c) / 2 ^ 8) &&& ((m + 256 * w) / 2 ^ 8) := Nat.and_div_two_pow
  rw [show (a + 256 * c) % 2 ^ 8 = a by omega, show (m + 256 * w) % 2 ^ 8 = m by omega] at h1
  rw [show (a + 256 * c) / 2 ^ 8 = c by omega, show (m + 256 * w) / 2 ^ 8 = w by omega] at h2
  omega
def pp_1 (k n : Nat) : Nat := n - (n / 2 &&& pp_m 0x55 k)
def pp_2 (k n : Nat) : Nat := (n &&& pp_m 0x33 k) + (n / 4 &&& pp_m 0x33 k)
def pp_3 (k n : Nat) : Nat := (n + n / 16) &&& pp_m 0x0f k
def pp_q1 (b : Nat) : Nat := b - (b / 2 &&& 0x55)
def pp_q2 (b : Nat) : Nat := (b &&& 0x33) + (b / 4 &&& 0x33)
theorem pp_d1 : ∀ b, b < 256 → ∀ r, r < 2 → (b / 2 + 128 * r) &&& 0x55 = b / 2 &&& 0x55 := by decide +kernel
theorem pp_d2 : ∀ b, b < 256 → ∀ r, r < 4 → (b / 4 + 64 * r) &&& 0x33 = b / 4 &&& 0x33 := by decide +kernel
theorem pp_d3 : ∀ b, b < 256 → ∀ r, r < 5 → pp_q2 (pp_q1 b) < 256 ∧ pp_q1 b < 256 ∧ pp_q2 (pp_q1 b) % 16 ≤ 4 ∧ pp_q2 (pp_q1 b) + pp_q2 (pp_q1 b) / 16 + 16 * r < 256 ∧ (pp_q2 (pp_q1 b) + pp_q2 (pp_q1 b) / 16 + 16 * r) &&& 0x0f = pp_c b 8 ∧ pp_c b 8 ≤ 8 := by decide +kernel
theorem pp_1s {b n k : Nat} (hb : b < 256) : pp_1 (k + 1) (b + 256 * n) = pp_q1 b + 256 * pp_1 k n := by
  unfold pp_1 pp_q1
  rw [show (b + 256 * n) / 2 = (b / 2 + 128 * (n % 2)) + 256 * (n / 2) by omega]
  show _ - ((b / 2 + 128 * (n % 2) + 256 * (n / 2)) &&& (0x55 + 256 * pp_m 0x55 k)) = _
  rw [pp_and (by omega) (by omega), pp_d1 b hb _ (by omega)]
  have h1 : b / 2 &&& 0x55 ≤ b / 2 := Nat.and_le_left
  have h2 : n / 2 &&& pp_m 0x55 k ≤ n / 2 := Nat.and_le_left
  omega
theorem pp_2s {b n k : Nat} (hb : b < 256) : pp_2 (k + 1) (b + 256 * n) = pp_q2 b + 256 * pp_2 k n := by
  unfold pp_2 pp_q2
  rw [show (b + 256 * n) / 4 = (b / 4 + 64 * (n % 4)) + 256 * (n / 4) by omega]
  show ((b + 256 * n) &&& (0x33 + 256 * pp_m 0x33 k)) + ((b / 4 + 64 * (n % 4) + 256 * (n / 4)) &&& (0x33 + 256 * pp_m 0x33 k)) = _
  rw [pp_and hb (by omega), pp_and (by omega) (by omega), pp_d2 b hb _ (by omega)]
  omega
theorem pp_12 {b n k : Nat} (hb : b < 256) : pp_2 (k + 1) (pp_1 (k + 1) (b + 256 * n)) = pp_q2 (pp_q1 b) + 256 * pp_2 k (pp_1 k n) := by
  rw [pp_1s hb, pp_2s (pp_d3 b hb 0 (by omega)).2.1]
theorem pp_12m : ∀ (k n : Nat), n < 256 ^ k → pp_2 k (pp_1 k n) % 16 ≤ 4
  | 0, n, h => by
    have : n = 0 := by simpa using h
    subst this
    decide
  | k + 1, n, h => by
    have e : n = n % 256 + 256 * (n / 256) := by omega
    rw [e, pp_12 (by omega)]
    have := (pp_d3 (n % 256) (by omega) 0 (by omega)).2.2.1
    omega
theorem pp_123 {b n k : Nat} (hb : b < 256) (hn : n < 256 ^ k) : pp_3 (k + 1) (pp_2 (k + 1) (pp_1 (k + 1) (b + 256 * n))) = pp_c b 8 + 256 * pp_3 k (pp_2 k (pp_1 k n)) := by
  rw [pp_12 hb]
  have hm := pp_12m k n hn
  generalize pp_2 k (pp_1 k n) = m at hm ⊢
  have hd := pp_d3 b hb (m % 16) (by omega)
  generalize pp_q2 (pp_q1 b) = q at hd ⊢
  unfold pp_3
  rw [show q + 256 * m + (q + 256 * m) / 16 = (q + q / 16 + 16 * (m % 16)) + 256 * (m + m / 16) by omega]
  show (q + q / 16 + 16 * (m % 16) + 256 * (m + m / 16)) &&& (0x0f + 256 * pp_m 0x0f k) = _
  rw [pp_and hd.2.2.2.1 (by omega), hd.2.2.2.2.1]
theorem pp_c8 {b n : Nat} (hb : b < 256) : pp_c (b + 256 * n) 8 = pp_c b 8 := by
  simp only [pp_c]
  omega
theorem pp_ck {b n : Nat} (hb : b < 256) : ∀ k, pp_c (b + 256 * n) (8 + k) = pp_c b 8 + pp_c n k
  | 0 => by rw [Nat.add_zero, pp_c8 hb]; rfl
  | k + 1 => by
    show pp_c (b + 256 * n) (8 + k) + (b + 256 * n) / 2 ^ (8 + k) % 2 = pp_c b 8 + (pp_c n k + n / 2 ^ k % 2)
    rw [pp_ck hb k, Nat.pow_add, ← Nat.div_div_eq_div_mul, show (b + 256 * n) / 2 ^ 8 = n by omega]
    omega
theorem pp_small (b : Nat) : pp_c b 8 ≤ 8 := by
  simp only [pp_c]
  omega
/-- the whole of it over Nat -/
theorem pp_all (n : Nat) (hn : n < 2 ^ 64) : let v := pp_3 8 (pp_2 8 (pp_1 8 n)); let w4 := v + v / 256; let w5 := w4 + w4 / 65536; let w6 := w5 + w5 / 4294967296; v < 2 ^ 60 ∧ w6 % 128 = pp_c n 64 := by
  obtain ⟨b0, m0, h0, e0⟩ : ∃ b m, b < 256 ∧ n = b + 256 * m := ⟨n % 256, n / 256, by omega, by omega⟩
  obtain ⟨b1, m1, h1, e1⟩ : ∃ b m, b < 256 ∧ m0 = b + 256 * m := ⟨m0 % 256, m0 / 256, by omega, by omega⟩
  obtain ⟨b2, m2, h2, e2⟩ : ∃ b m, b < 256 ∧ m1 = b + 256 * m := ⟨m1 % 256, m1 / 256, by omega, by omega⟩
  obtain ⟨b3, m3, h3, e3⟩ : ∃ b m, b < 256 ∧ m2 = b + 256 * m := ⟨m2 % 256, m2 / 256, by omega, by omega⟩
  obtain ⟨b4, m4, h4, e4⟩ : ∃ b m, b < 256 ∧ m3 = b + 256 * m := ⟨m3 % 256, m3 / 256, by omega, by omega⟩
  obtain ⟨b5, m5, h5, e5⟩ : ∃ b m, b < 256 ∧ m4 = b + 256 * m := ⟨m4 % 256, m4 / 256, by omega, by omega⟩
  obtain ⟨b6, m6, h6, e6⟩ : ∃ b m, b < 256 ∧ m5 = b + 256 * m := ⟨m5 % 256, m5 / 256, by omega, by omega⟩
  obtain ⟨b7, m7, h7, e7⟩ : ∃ b m, b < 256 ∧ m6 = b + 256 * m := ⟨m6 % 256, m6 / 256, by omega, by omega⟩
  have hm7 : m7 = 0 := by omega
  subst hm7
  have k7 : m6 < 256 ^ 1 := by omega
  have k6 : m5 < 256 ^ 2 := by omega
  have k5 : m4 < 256 ^ 3 := by omega
  have k4 : m3 < 256 ^ 4 := by omega
  have k3 : m2 < 256 ^ 5 := by omega
  have k2 : m1 < 256 ^ 6 := by omega
  have k1 : m0 < 256 ^ 7 := by omega
  have s0 := pp_123 (k := 7) h0 k1
  have s1 := pp_123 (k := 6) h1 k2
  have s2 := pp_123 (k := 5) h2 k3
  have s3 := pp_123 (k := 4) h3 k4
  have s4 := pp_123 (k := 3) h4 k5
  have s5 := pp_123 (k := 2) h5 k6
  have s6 := pp_123 (k := 1) h6 k7
  have s7 := pp_123 (k := 0) (n := 0) h7 (by decide)
  have z : pp_3 0 (pp_2 0 (pp_1 0 0)) = 0 := by decide
  have c0 := pp_ck h0 (n := m0) 56
  have c1 := pp_ck h1 (n := m1) 48
  have c2 := pp_ck h2 (n := m2) 40
  have c3 := pp_ck h3 (n := m3) 32
  have c4 := pp_ck h4 (n := m4) 24
  have c5 := pp_ck h5 (n := m5) 16
  have c6 := pp_ck h6 (n := m6) 8
  have c7 := pp_ck h7 (n := 0) 0
  rw [← e0] at s0 c0
  rw [← e1] at s1 c1
  rw [← e2] at s2 c2
  rw [← e3] at s3 c3
  rw [← e4] at s4 c4
  rw [← e5] at s5 c5
  rw [← e6] at s6 c6
  rw [← e7] at s7 c7
  have g0 := pp_small b0
  have g1 := pp_small b1
  have g2 := pp_small b2
  have g3 := pp_small b3
  have g4 := pp_small b4
  have g5 := pp_small b5
  have g6 := pp_small b6
  have g7 := pp_small b7
  have c8 : pp_c 0 0 = 0 := rfl
  intro v w4 w5 w6
  have hv : v = pp_3 8 (pp_2 8 (pp_1 8 n)) := rfl
  have hw4 : w4 = v + v / 256 := rfl
  have hw5 : w5 = w4 + w4 / 65536 := rfl
  have hw6 : w6 = w5 + w5 / 4294967296 := rfl
  simp only [Nat.reduceAdd] at s0 s1 s2 s3 s4 s5 s6 s7 c0 c1 c2 c3 c4 c5 c6 c7
  rw [s0, s1, s2, s3, s4, s5, s6, s7, z] at hv
  rw [c0, c1, c2, c3, c4, c5, c6, c7, c8]
  clear s0 s1 s2 s3 s4 s5 s6 s7 c0 c1 c2 c3 c4 c5 c6 c7 z k1 k2 k3 k4 k5 k6 k7 e0 e1 e2 e3 e4 e5 e6 e7 hn
  generalize pp_c b0 8 = x0 at *
  generalize pp_c b1 8 = x1 at *
  generalize pp_c b2 8 = x2 at *
  generalize pp_c b3 8 = x3 at *
  generalize pp_c b4 8 = x4 at *
  generalize pp_c b5 8 = x5 at *
  generalize pp_c b6 8 = x6 at *
  generalize pp_c b7 8 = x7 at *
  clear_value v w4 w5 w6
  have q4 : w4 = (x0 + x1) + 256 * ((x1 + x2) + 256 * ((x2 + x3) + 256 * ((x3 + x4) + 256 * ((x4 + x5) + 256 * ((x5 + x6) + 256 * ((x6 + x7) + 256 * x7)))))) := by omega
  clear hw4
  refine ⟨by omega, ?_⟩
  clear hv
  have q5 : w5 = (x0 + x1 + x2 + x3) + 256 * ((x1 + x2 + x3 + x4) + 256 * ((x2 + x3 + x4 + x5) + 256 * ((x3 + x4 + x5 + x6) + 256 * ((x4 + x5 + x6 + x7) + 256 * ((x5 + x6 + x7) + 256 * ((x6 + x7) + 256 * x7)))))) := by omega
  clear hw5 q4
  have q6 : w5 / 4294967296 = (x4 + x5 + x6 + x7) + 256 * ((x5 + x6 + x7) + 256 * ((x6 + x7) + 256 * x7)) := by omega
  rw [q6] at hw6
  omega
abbrev bc_shr (x : Int64) (k : Int32) : Int64 := (x.toUInt64 >>> (k.toInt64.toUInt64 &&& Int64.toUInt64 63)).toInt64
theorem bc_shrN {n : Nat} (k : Nat) (hn : n < 2 ^ 64) (hk : k < 64) : bc_shr (lN n) (nI k) = lN (n / 2 ^ k) := wb_shr hn hk
theorem bc_and7 (w : Nat) : nI w &&& 127 = nI (w % 128) := by
  rw [pk_and (nI w) (m := 127) 7 (by decide)]
  have h : (nI w).toBitVec.toNat = w % 2 ^ 32 := by
    show (BitVec.ofNat 32 w).toNat = _
    rw [BitVec.toNat_ofNat]
  rw [h]
  congr 1
  omega
/-- Long.bitCount's arithmetic -/
theorem bc_all (n : Nat) (hn : n < 2 ^ 64) {i1 i2 i3 i4 i5 i6 : Int64}
    (e1 : i1 = lN n - (bc_shr (lN n) 1 &&& 6148914691236517205))
    (e2 : i2 = (i1 &&& 3689348814741910323) + (bc_shr i1 2 &&& 3689348814741910323))
    (e3 : i3 = (i2 + bc_shr i2 4) &&& 1085102592571150095)
    (e4 : i4 = i3 + bc_shr i3 8) (e5 : i5 = i4 + bc_shr i4 16) (e6 : i6 = i5 + bc_shr i5 32) : i6.toInt32 &&& 127 = nI (pp_c n 64) := by
  obtain ⟨hv, hw⟩ := pp_all n hn
  have m5 : pp_m 0x55 8 = 6148914691236517205 := by decide
  have m3 : pp_m 0x33 8 = 3689348814741910323 := by decide
  have m0 : pp_m 0x0f 8 = 1085102592571150095 := by decide
  have f1 : i1 = lN (pp_1 8 n) := by
    rw [e1, show (1 : Int32) = nI 1 from rfl, bc_shrN 1 hn (by decide), show (6148914691236517205 : Int64) = lN 6148914691236517205 from rfl, wb_and (by omega) (by decide)]
    unfold pp_1
    rw [m5]
    have h2 : n / 2 ^ 1 &&& 6148914691236517205 ≤ n / 2 ^ 1 := Nat.and_le_left
    rw [lN_sub (by omega)]
  have b1 : pp_1 8 n < 2 ^ 64 := by unfold pp_1; omega
  have f2 : i2 = lN (pp_2 8 (pp_1 8 n)) := by
    rw [e2, f1, show (2 : Int32) = nI 2 from rfl, bc_shrN 2 b1 (by decide), show (3689348814741910323 : Int64) = lN 3689348814741910323 from rfl, wb_and b1 (by decide), wb_and (by omega) (by decide), lN_add]
    unfold pp_2
    rw [m3]
  have b2 : pp_2 8 (pp_1 8 n) < 7500000000000000000 := by
    unfold pp_2
    rw [m3]
    have g1 : pp_1 8 n &&& 3689348814741910323 ≤ 3689348814741910323 := Nat.and_le_right
    have g2 : pp_1 8 n / 4 &&& 3689348814741910323 ≤ 3689348814741910323 := Nat.and_le_right
    omega
  have f3 : i3 = lN (pp_3 8 (pp_2 8 (pp_1 8 n))) := by
    rw [e3, f2, show (4 : Int32) = nI 4 from rfl, bc_shrN 4 (by omega) (by decide), lN_add, show (1085102592571150095 : Int64) = lN 1085102592571150095 from rfl, wb_and (by omega) (by decide)]
    unfold pp_3
    rw [m0]
  generalize pp_3 8 (pp_2 8 (pp_1 8 n)) = v at hv hw f3
  have f4 : i4 = lN (v + v / 256) := by
    rw [e4, f3, show (8 : Int32) = nI 8 from rfl, bc_shrN 8 (by omega) (by decide), lN_add]
  have f5 : i5 = lN (v + v / 256 + (v + v / 256) / 65536) := by
    rw [e5, f4, show (16 : Int32) = nI 16 from rfl, bc_shrN 16 (by omega) (by decide), lN_add]
  have f6 : i6 = lN (v + v / 256 + (v + v / 256) / 65536 + (v + v / 256 + (v + v / 256) / 65536) / 4294967296) := by
    rw [e6, f5, show (32 : Int32) = nI 32 from rfl, bc_shrN 32 (by omega) (by decide), lN_add]
  rw [f6, lN_i, bc_and7]
  exact congrArg nI hw
theorem pp_bit (n k : Nat) : pp_c n (k + 1) = pp_c n k + (n.testBit k).toNat := by
  rw [Nat.toNat_testBit]
  rfl
theorem pp_or {m g : Nat} (h : m.testBit g = false) : ∀ k, pp_c (m ||| 2 ^ g) k = pp_c m k + (if g < k then 1 else 0)
  | 0 => rfl
  | k + 1 => by
    rw [pp_bit, pp_bit, pp_or h k, Nat.testBit_or, Nat.testBit_two_pow]
    by_cases hk : g = k
    · subst hk
      rw [h]
      simp
    · by_cases hl : g < k
      · rw [if_pos hl, if_pos (by omega)]
        simp [hk]
        omega
      · rw [if_neg hl, if_neg (by omega)]
        simp [hk]
theorem pp_zero : ∀ k, pp_c 0 k = 0
  | 0 => rfl
  | k + 1 => by rw [pp_bit, pp_zero k]; simp
theorem pp_ext {m n : Nat} : ∀ k, (∀ i, i < k → m.testBit i = n.testBit i) → pp_c m k = pp_c n k
  | 0, _ => rfl
  | k + 1, h => by rw [pp_bit, pp_bit, pp_ext k (fun i hi => h i (by omega)), h k (by omega)]
