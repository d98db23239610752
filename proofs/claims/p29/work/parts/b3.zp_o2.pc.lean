/-! how many bits are set: the JDK's way, reckoned -/
def m55 : Nat → Nat
  | 0 => 0
  | k + 1 => 85 + 256 * m55 k
def m33 : Nat → Nat
  | 0 => 0
  | k + 1 => 51 + 256 * m33 k
def m0f : Nat → Nat
  | 0 => 0
  | k + 1 => 15 + 256 * m0f k
def pq1 (k n : Nat) : Nat := n - ((n / 2) &&& m55 k)
def pq2 (k n : Nat) : Nat := (pq1 k n &&& m33 k) + ((pq1 k n / 4) &&& m33 k)
def pq3 (k n : Nat) : Nat := (pq2 k n + pq2 k n / 16) &&& m0f k
/-- the bits of n below 2^k -/
def cbN (n : Nat) : Nat → Nat
  | 0 => 0
  | k + 1 => cbN n k + n / 2 ^ k % 2
def pX (b : Nat) : Nat := b - ((b / 2) &&& 85)
def pU (b : Nat) : Nat := (pX b &&& 51) + ((pX b / 4) &&& 51)
theorem pT1 : ∀ b, b < 256 → ∀ t, t < 2 → (b / 2 + 128 * t) &&& 85 = (b / 2) &&& 85 := by decide +kernel
theorem pT2 : ∀ x, x < 256 → ∀ t, t < 4 → (x / 4 + 64 * t) &&& 51 = (x / 4) &&& 51 := by decide +kernel
theorem pT3 : ∀ b, b < 256 → pX b < 256 ∧ pU b % 16 ≤ 4 ∧ pU b ≤ 68 := by decide +kernel
theorem pT4 : ∀ b, b < 256 → ∀ t, t < 5 → (pU b + pU b / 16 + 16 * t) &&& 15 = cbN b 8 := by decide +kernel
theorem and_sp {b c m k : Nat} (hb : b < 256) (hm : m < 256) : (b + 256 * c) &&& (m + 256 * k) = (b &&& m) + 256 * (c &&& k) := by
  have hbm : b &&& m < 2 ^ 8 := Nat.lt_of_le_of_lt Nat.and_le_left hb
  apply Nat.eq_of_testBit_eq
  intro i
  rw [Nat.testBit_and, show b + 256 * c = 2 ^ 8 * c + b by omega, show m + 256 * k = 2 ^ 8 * k + m by omega, show (b &&& m) + 256 * (c &&& k) = 2 ^ 8 * (c &&& k) + (b &&& m) by omega, Nat.testBit_two_pow_mul_add _ (show b < 2 ^ 8 from hb), Nat.testBit_two_pow_mul_add _ (show m < 2 ^ 8 from hm), Nat.testBit_two_pow_mul_add _ hbm]
  by_cases h : i < 8
  · rw [if_pos h, if_pos h, if_pos h, Nat.testBit_and]
  · rw [if_neg h, if_neg h, if_neg h, Nat.testBit_and]
theorem pq1_s {k b c : Nat} (hb : b < 256) : pq1 (k + 1) (b + 256 * c) = pX b + 256 * pq1 k c := by
  unfold pq1 pX
  have e : (b + 256 * c) / 2 = (b / 2 + 128 * (c % 2)) + 256 * (c / 2) := by omega
  have a1 : (b / 2) &&& 85 ≤ b / 2 := Nat.and_le_left
  have a2 : (c / 2) &&& m55 k ≤ c / 2 := Nat.and_le_left
  rw [e]
  show b + 256 * c - (((b / 2 + 128 * (c % 2)) + 256 * (c / 2)) &&& (85 + 256 * m55 k)) = _
  rw [and_sp (by omega) (by decide), pT1 b hb (c % 2) (by omega)]
  omega
theorem pq2_s {k b c : Nat} (hb : b < 256) : pq2 (k + 1) (b + 256 * c) = pU b + 256 * pq2 k c := by
  have t := (pT3 b hb).1
  unfold pq2 pU
  rw [pq1_s hb]
  generalize pq1 k c = y
  generalize pX b = x at t ⊢
  have e : (x + 256 * y) / 4 = (x / 4 + 64 * (y % 4)) + 256 * (y / 4) := by omega
  rw [e]
  show ((x + 256 * y) &&& (51 + 256 * m33 k)) + (((x / 4 + 64 * (y % 4)) + 256 * (y / 4)) &&& (51 + 256 * m33 k)) = _
  rw [and_sp t (by decide), and_sp (by omega) (by decide), pT2 x t (y % 4) (by omega)]
  omega
theorem pq2_m (k n : Nat) : pq2 k n % 16 ≤ 4 := by
  cases k with
  | zero =>
    unfold pq2
    show ((pq1 0 n &&& 0) + ((pq1 0 n / 4) &&& 0)) % 16 ≤ 4
    rw [Nat.and_zero, Nat.and_zero]
    decide
  | succ k =>
    have e : n = n % 256 + 256 * (n / 256) := by omega
    rw [e, pq2_s (by omega)]
    have t := pT3 (n % 256) (by omega)
    omega
theorem pq3_s {k b c : Nat} (hb : b < 256) : pq3 (k + 1) (b + 256 * c) = cbN b 8 + 256 * pq3 k c := by
  have t := pT3 b hb
  have vm := pq2_m k c
  have t4 := pT4 b hb
  unfold pq3
  rw [pq2_s hb]
  generalize pq2 k c = v at vm ⊢
  have t5 := t4 (v % 16) (by omega)
  generalize pU b = u at t t5 ⊢
  have e : u + 256 * v + (u + 256 * v) / 16 = (u + u / 16 + 16 * (v % 16)) + 256 * (v + v / 16) := by omega
  rw [e]
  show ((u + u / 16 + 16 * (v % 16)) + 256 * (v + v / 16)) &&& (15 + 256 * m0f k) = _
  rw [and_sp (by omega) (by decide), t5]
theorem pq3_z (n : Nat) : pq3 0 n = 0 := by
  unfold pq3
  show (pq2 0 n + pq2 0 n / 16) &&& 0 = 0
  rw [Nat.and_zero]
theorem cbN_8 {n : Nat} : cbN n 8 = cbN (n % 256) 8 := by
  unfold cbN cbN cbN cbN cbN cbN cbN cbN cbN
  show 0 + n / 1 % 2 + n / 2 % 2 + n / 4 % 2 + n / 8 % 2 + n / 16 % 2 + n / 32 % 2 + n / 64 % 2 + n / 128 % 2 = 0 + n % 256 / 1 % 2 + n % 256 / 2 % 2 + n % 256 / 4 % 2 + n % 256 / 8 % 2 + n % 256 / 16 % 2 + n % 256 / 32 % 2 + n % 256 / 64 % 2 + n % 256 / 128 % 2
  omega
theorem cbN_s {n : Nat} : ∀ k, cbN n (8 + k) = cbN (n % 256) 8 + cbN (n / 256) k := by
  intro k
  induction k with
  | zero => exact cbN_8
  | succ k ih =>
    show cbN n (8 + k) + n / 2 ^ (8 + k) % 2 = cbN (n % 256) 8 + (cbN (n / 256) k + n / 256 / 2 ^ k % 2)
    rw [ih, Nat.pow_add, show (2 : Nat) ^ 8 = 256 from rfl, Nat.div_div_eq_div_mul]
    exact Nat.add_assoc _ _ _
theorem cbN_b {b : Nat} : ∀ k, cbN b k ≤ k := by
  intro k
  induction k with
  | zero => exact Nat.le_refl _
  | succ k ih =>
    show cbN b k + b / 2 ^ k % 2 ≤ k + 1
    omega
/-- the whole: eight bytes -/
theorem pq_all {n : Nat} (hn : n < 18446744073709551616) : ∃ p0 p1 p2 p3 p4 p5 p6 p7 : Nat, pq3 8 n = p0 + 256 * (p1 + 256 * (p2 + 256 * (p3 + 256 * (p4 + 256 * (p5 + 256 * (p6 + 256 * p7)))))) ∧ cbN n 64 = p0 + p1 + p2 + p3 + p4 + p5 + p6 + p7 ∧ p0 ≤ 8 ∧ p1 ≤ 8 ∧ p2 ≤ 8 ∧ p3 ≤ 8 ∧ p4 ≤ 8 ∧ p5 ≤ 8 ∧ p6 ≤ 8 ∧ p7 ≤ 8 := by
  have S : ∀ k m, pq3 (k + 1) m = cbN (m % 256) 8 + 256 * pq3 k (m / 256) := fun k m => by
    have e : pq3 (k + 1) m = pq3 (k + 1) (m % 256 + 256 * (m / 256)) := by rw [show m % 256 + 256 * (m / 256) = m by omega]
    rw [e, pq3_s (by omega)]
  refine ⟨cbN (n % 256) 8, cbN (n / 256 % 256) 8, cbN (n / 256 / 256 % 256) 8, cbN (n / 256 / 256 / 256 % 256) 8, cbN (n / 256 / 256 / 256 / 256 % 256) 8, cbN (n / 256 / 256 / 256 / 256 / 256 % 256) 8, cbN (n / 256 / 256 / 256 / 256 / 256 / 256 % 256) 8, cbN (n / 256 / 256 / 256 / 256 / 256 / 256 / 256 % 256) 8, ?_, ?_, cbN_b 8, cbN_b 8, cbN_b 8, cbN_b 8, cbN_b 8, cbN_b 8, cbN_b 8, cbN_b 8⟩
  · rw [S 7, S 6, S 5, S 4, S 3, S 2, S 1, S 0, pq3_z]
    omega
  · rw [show (64 : Nat) = 8 + 56 from rfl, cbN_s, show (56 : Nat) = 8 + 48 from rfl, cbN_s, show (48 : Nat) = 8 + 40 from rfl, cbN_s, show (40 : Nat) = 8 + 32 from rfl, cbN_s, show (32 : Nat) = 8 + 24 from rfl, cbN_s, show (24 : Nat) = 8 + 16 from rfl, cbN_s, show (16 : Nat) = 8 + 8 from rfl, cbN_s]
    rw [cbN_8 (n := n / 256 / 256 / 256 / 256 / 256 / 256 / 256)]
    omega
def nz (x : Int64) : Nat := x.toBitVec.toNat
theorem nz_lt (x : Int64) : nz x < 18446744073709551616 := x.toBitVec.isLt
theorem nz_and (x y : Int64) : nz (x &&& y) = nz x &&& nz y := rfl
theorem nz_add {x y : Int64} (h : nz x + nz y < 18446744073709551616) : nz (x + y) = nz x + nz y := by
  show (x.toBitVec + y.toBitVec).toNat = _
  rw [BitVec.toNat_add]
  exact Nat.mod_eq_of_lt h
theorem nz_sub {x y : Int64} (h : nz y ≤ nz x) : nz (x - y) = nz x - nz y := by
  show (x.toBitVec - y.toBitVec).toNat = _
  have l := nz_lt x
  rw [BitVec.toNat_sub]
  show (18446744073709551616 - nz y + nz x) % 18446744073709551616 = nz x - nz y
  omega
theorem nz_sh {x : Int64} {c : UInt64} {k : Nat} (hc : c.toBitVec % 64 = BitVec.ofNat 64 k) (hk : k < 64) : nz (x.toUInt64 >>> c).toInt64 = nz x / 2 ^ k := by
  show (x.toBitVec >>> (c.toBitVec % 64)).toNat = _
  rw [hc, BitVec.ushiftRight_eq', BitVec.toNat_ofNat, Nat.mod_eq_of_lt (by omega), BitVec.toNat_ushiftRight, Nat.shiftRight_eq_div_pow]
  rfl
theorem nz_c1 : nz (6148914691236517205 : Int64) = m55 8 := by decide +kernel
theorem nz_c2 : nz (3689348814741910323 : Int64) = m33 8 := by decide +kernel
theorem nz_c3 : nz (1085102592571150095 : Int64) = m0f 8 := by decide +kernel
theorem m33_8 : m33 8 = 3689348814741910323 := by decide +kernel
theorem m0f_8 : m0f 8 = 1085102592571150095 := by decide +kernel
theorem nz_127 {x : Int64} : (x.toInt32 &&& 127).toInt = ((nz x % 128 : Nat) : Int) := by
  have e : (x.toInt32 &&& 127).toBitVec.toNat = nz x % 128 := by
    show (x.toBitVec.signExtend 32 &&& 127#32).toNat = _
    rw [BitVec.signExtend_eq_setWidth_of_le _ (by decide), BitVec.toNat_and, BitVec.toNat_setWidth]
    show (x.toBitVec.toNat % 2 ^ 32) &&& (2 ^ 7 - 1) = _
    rw [Nat.and_two_pow_sub_one_eq_mod]
    unfold nz
    omega
  show (x.toInt32 &&& 127).toBitVec.toInt = _
  rw [BitVec.toInt_eq_toNat_of_lt (by rw [e]; omega), e]
def bq1 (a : Int64) : Int64 := a - ((a.toUInt64 >>> ((1 : Int32).toInt64.toUInt64 &&& Int64.toUInt64 63)).toInt64 &&& 6148914691236517205)
def bq2 (a : Int64) : Int64 := (a &&& 3689348814741910323) + ((a.toUInt64 >>> ((2 : Int32).toInt64.toUInt64 &&& Int64.toUInt64 63)).toInt64 &&& 3689348814741910323)
def bq3 (a : Int64) : Int64 := (a + (a.toUInt64 >>> ((4 : Int32).toInt64.toUInt64 &&& Int64.toUInt64 63)).toInt64) &&& 1085102592571150095
def bq4 (a : Int64) : Int64 := a + (a.toUInt64 >>> ((8 : Int32).toInt64.toUInt64 &&& Int64.toUInt64 63)).toInt64
def bq5 (a : Int64) : Int64 := a + (a.toUInt64 >>> ((16 : Int32).toInt64.toUInt64 &&& Int64.toUInt64 63)).toInt64
def bq6 (a : Int64) : Int64 := a + (a.toUInt64 >>> ((32 : Int32).toInt64.toUInt64 &&& Int64.toUInt64 63)).toInt64
theorem bc_e {a : Int64} {Q : Int32 → Prop} (h : Q ((bq6 (bq5 (bq4 (bq3 (bq2 (bq1 a)))))).toInt32 &&& 127)) : wp_J13_bitCount_95d88 a Q := by
  unfold wp_J13_bitCount_95d88
  unfold bq6 bq5 bq4 bq3 bq2 bq1 at h
  exact h
theorem bq1_e (a : Int64) : nz (bq1 a) = pq1 8 (nz a) := by
  unfold bq1
  have s : nz (a.toUInt64 >>> ((1 : Int32).toInt64.toUInt64 &&& Int64.toUInt64 63)).toInt64 = nz a / 2 ^ 1 := nz_sh (by decide +kernel) (by decide)
  have l : (nz a / 2 ^ 1) &&& m55 8 ≤ nz a / 2 ^ 1 := Nat.and_le_left
  rw [nz_sub (by rw [nz_and, s, nz_c1]; omega), nz_and, s, nz_c1]
  rfl
theorem bq2_b (x : Nat) : (x &&& m33 8) + ((x / 4) &&& m33 8) ≤ 7378697629483820646 := by
  have l1 : x &&& m33 8 ≤ m33 8 := Nat.and_le_right
  have l2 : (x / 4) &&& m33 8 ≤ m33 8 := Nat.and_le_right
  have c := m33_8
  omega
theorem bq2_e (i1 : Int64) : nz (bq2 i1) = (nz i1 &&& m33 8) + ((nz i1 / 4) &&& m33 8) := by
  unfold bq2
  have s : nz (i1.toUInt64 >>> ((2 : Int32).toInt64.toUInt64 &&& Int64.toUInt64 63)).toInt64 = nz i1 / 4 := nz_sh (k := 2) (by decide +kernel) (by decide)
  have b := bq2_b (nz i1)
  rw [nz_add (by rw [nz_and, nz_and, s, nz_c2]; omega), nz_and, nz_and, s, nz_c2]
theorem bq3_e {i2 : Int64} (b : nz i2 ≤ 7378697629483820646) : nz (bq3 i2) = (nz i2 + nz i2 / 16) &&& m0f 8 := by
  unfold bq3
  have s : nz (i2.toUInt64 >>> ((4 : Int32).toInt64.toUInt64 &&& Int64.toUInt64 63)).toInt64 = nz i2 / 16 := nz_sh (k := 4) (by decide +kernel) (by decide)
  rw [nz_and, nz_add (by rw [s]; omega), s, nz_c3]
theorem bq4_e {i : Int64} (b : nz i ≤ 7378697629483820646) : nz (bq4 i) = nz i + nz i / 256 := by
  unfold bq4
  have s : nz (i.toUInt64 >>> ((8 : Int32).toInt64.toUInt64 &&& Int64.toUInt64 63)).toInt64 = nz i / 256 := nz_sh (k := 8) (by decide +kernel) (by decide)
  rw [nz_add (by rw [s]; omega), s]
theorem bq5_e {i : Int64} (b : nz i ≤ 7378697629483820646) : nz (bq5 i) = nz i + nz i / 65536 := by
  unfold bq5
  have s : nz (i.toUInt64 >>> ((16 : Int32).toInt64.toUInt64 &&& Int64.toUInt64 63)).toInt64 = nz i / 65536 := nz_sh (k := 16) (by decide +kernel) (by decide)
  rw [nz_add (by rw [s]; omega), s]
theorem bq6_e {i : Int64} (b : nz i ≤ 7378697629483820646) : nz (bq6 i) = nz i + nz i / 4294967296 := by
  unfold bq6
  have s : nz (i.toUInt64 >>> ((32 : Int32).toInt64.toUInt64 &&& Int64.toUInt64 63)).toInt64 = nz i / 4294967296 := nz_sh (k := 32) (by decide +kernel) (by decide)
  rw [nz_add (by rw [s]; omega), s]
theorem dv256 {a b : Nat} (h : a < 256) : (a + 256 * b) / 256 = b := by omega
theorem sw_all {p0 p1 p2 p3 p4 p5 p6 p7 : Nat} (q0 : p0 ≤ 8) (q1 : p1 ≤ 8) (q2 : p2 ≤ 8) (q3 : p3 ≤ 8) (q4 : p4 ≤ 8) (q5 : p5 ≤ 8) (q6 : p6 ≤ 8) (q7 : p7 ≤ 8) {n3 n4 n5 n6 : Nat} (e3 : n3 = p0 + 256 * (p1 + 256 * (p2 + 256 * (p3 + 256 * (p4 + 256 * (p5 + 256 * (p6 + 256 * p7))))))) (e4 : n3 ≤ 7378697629483820646 → n4 = n3 + n3 / 256) (e5 : n4 ≤ 7378697629483820646 → n5 = n4 + n4 / 65536) (e6 : n5 ≤ 7378697629483820646 → n6 = n5 + n5 / 4294967296) : n6 % 128 = p0 + p1 + p2 + p3 + p4 + p5 + p6 + p7 := by
  have b3 : n3 ≤ 7378697629483820646 := by clear e4 e5 e6; omega
  have g4 := e4 b3
  clear e4 b3
  have d3 : n3 / 256 = p1 + 256 * (p2 + 256 * (p3 + 256 * (p4 + 256 * (p5 + 256 * (p6 + 256 * p7))))) := by rw [e3]; clear e3 g4 e5 e6; exact dv256 (by omega)
  have f4 : n4 = (p0 + p1) + 256 * ((p1 + p2) + 256 * ((p2 + p3) + 256 * ((p3 + p4) + 256 * ((p4 + p5) + 256 * ((p5 + p6) + 256 * ((p6 + p7) + 256 * p7)))))) := by
    rw [g4, d3, e3]; clear e3 g4 e5 e6 d3; omega
  clear g4 d3 e3
  have b4 : n4 ≤ 7378697629483820646 := by clear e5 e6; omega
  have g5 := e5 b4
  clear e5 b4
  have d4 : n4 / 65536 = (p2 + p3) + 256 * ((p3 + p4) + 256 * ((p4 + p5) + 256 * ((p5 + p6) + 256 * ((p6 + p7) + 256 * p7)))) := by
    rw [show n4 / 65536 = n4 / 256 / 256 from (Nat.div_div_eq_div_mul n4 256 256).symm, f4]
    clear f4 g5 e6
    rw [dv256 (by omega), dv256 (by omega)]
  have f5 : n5 = (p0 + p1 + p2 + p3) + 256 * ((p1 + p2 + p3 + p4) + 256 * ((p2 + p3 + p4 + p5) + 256 * ((p3 + p4 + p5 + p6) + 256 * ((p4 + p5 + p6 + p7) + 256 * ((p5 + p6 + p7) + 256 * ((p6 + p7) + 256 * p7)))))) := by
    rw [g5, d4, f4]; clear f4 g5 e6 d4; omega
  clear g5 d4 f4
  have b5 : n5 ≤ 7378697629483820646 := by clear e6; omega
  have g6 := e6 b5
  clear e6 b5
  have d5 : n5 / 4294967296 = (p4 + p5 + p6 + p7) + 256 * ((p5 + p6 + p7) + 256 * ((p6 + p7) + 256 * p7)) := by
    rw [show n5 / 4294967296 = n5 / 256 / 256 / 256 / 256 by rw [Nat.div_div_eq_div_mul, Nat.div_div_eq_div_mul, Nat.div_div_eq_div_mul], f5]
    clear f5 g6
    rw [dv256 (by omega), dv256 (by omega), dv256 (by omega), dv256 (by omega)]
  rw [g6, d5, f5]
  clear g6 d5 f5
  have X : ∀ A B s : Nat, s < 128 → A = s + 128 * B → A % 128 = s := fun A B s h1 h2 => by omega
  refine X _ (2 * ((p1 + p2 + p3 + p4) + 256 * ((p2 + p3 + p4 + p5) + 256 * ((p3 + p4 + p5 + p6) + 256 * ((p4 + p5 + p6 + p7) + 256 * ((p5 + p6 + p7) + 256 * ((p6 + p7) + 256 * p7)))))) + 2 * ((p5 + p6 + p7) + 256 * ((p6 + p7) + 256 * p7))) _ (by omega) ?_
  clear X q0 q1 q2 q3 q4 q5 q6 q7
  omega
theorem x_bcN {a : Int64} {Q : Int32 → Prop} (hq : ∀ r : Int32, r.toInt = ((cbN (nz a) 64 : Nat) : Int) → Q r) : wp_J13_bitCount_95d88 a Q := by
  refine bc_e (hq _ ?_)
  obtain ⟨p0, p1, p2, p3, p4, p5, p6, p7, E, S, q0, q1, q2, q3, q4, q5, q6, q7⟩ := pq_all (nz_lt a)
  have b2 : nz (bq2 (bq1 a)) ≤ 7378697629483820646 := by rw [bq2_e]; exact bq2_b _
  have e3 : nz (bq3 (bq2 (bq1 a))) = pq3 8 (nz a) := by rw [bq3_e b2, bq2_e, bq1_e]; rfl
  rw [nz_127, S, sw_all q0 q1 q2 q3 q4 q5 q6 q7 (e3.trans E) (fun h => bq4_e h) (fun h => bq5_e h) (fun h => bq6_e h)]
/-- how many of the first k are -/
def cbB (p : Nat → Bool) : Nat → Nat
  | 0 => 0
  | k + 1 => cbB p k + (if p k = true then 1 else 0)
theorem cbB_b {p : Nat → Bool} : ∀ k, cbB p k ≤ k := by
  intro k
  induction k with
  | zero => exact Nat.le_refl _
  | succ k ih =>
    show cbB p k + (if p k = true then 1 else 0) ≤ k + 1
    split <;> omega
theorem cbB_e {p q : Nat → Bool} : ∀ k, (∀ j, j < k → p j = q j) → cbB p k = cbB q k := by
  intro k
  induction k with
  | zero => intro _; rfl
  | succ k ih =>
    intro h
    show cbB p k + (if p k = true then 1 else 0) = cbB q k + (if q k = true then 1 else 0)
    rw [ih (fun j hj => h j (by omega)), h k (by omega)]
theorem cbB_h {p : Nat → Bool} {k : Nat} (h : ∀ j, k ≤ j → p j = false) : ∀ m, cbB p (k + m) = cbB p k := by
  intro m
  induction m with
  | zero => rfl
  | succ m ih =>
    show cbB p (k + m) + (if p (k + m) = true then 1 else 0) = _
    rw [ih, h (k + m) (by omega), if_neg (by decide)]
    rfl
theorem cbN_bt {a : Int64} : ∀ k, cbN (nz a) k = cbB (bt a) k := by
  intro k
  induction k with
  | zero => rfl
  | succ k ih =>
    show cbN (nz a) k + nz a / 2 ^ k % 2 = cbB (bt a) k + (if bt a k = true then 1 else 0)
    have e : bt a k = decide (nz a / 2 ^ k % 2 = 1) := by
      show (nz a).testBit k = _
      exact Nat.testBit_eq_decide_div_mod_eq
    rw [ih, e]
    by_cases c : nz a / 2 ^ k % 2 = 1
    · rw [decide_eq_true c, if_pos rfl, c]
    · rw [decide_eq_false c, if_neg (by decide)]
      omega
theorem x_bc {a : Int64} (h : ∀ j, 40 ≤ j → bt a j = false) {Q : Int32 → Prop} (hq : ∀ r : Int32, r.toInt = ((cbB (bt a) 40 : Nat) : Int) → Q r) : wp_J13_bitCount_95d88 a Q := x_bcN (fun r hr => hq r (by
  rw [hr, cbN_bt, show (64 : Nat) = 40 + 24 from rfl, cbB_h h 24]))
theorem x_on {a : Int64} {Qb : Int32 → Int32 → Prop} (K : ∀ x s : Int32, s.toInt = ((cbB (bt a) 40 : Nat) : Int) → Qb x s) : ∀ (m i : Nat) (x s : Int32), x.toInt = (i : Int) → i ≤ 40 → 40 - i < m → s.toInt = ((cbB (bt a) i : Nat) : Int) → wl_X12_ones_4 a Qb m x s := by
  intro m
  induction m with
  | zero => intro i x s _ _ h; omega
  | succ m ih =>
    intro i x s hx hi hm hs
    unfold wl_X12_ones_4
    by_cases q : 40 ≤ x
    · have q' := le_z (x := 40) rfl hx q
      refine br1 q (K _ _ ?_)
      rw [show (40 : Nat) = i by omega]
      exact hs
    · have q' := nle_z (x := 40) rfl hx q
      have b := cbB_b (p := bt a) i
      refine br0 q (e_is hx (by omega) (fun hb => ?_) (fun hb => ?_))
      · refine br0 (by decide) (ih (i + 1) _ _ (add1 hx (by omega)) (by omega) (by omega) ?_)
        rw [add_z (b := 1) (y := 1) hs rfl (by omega) (by omega)]
        show _ = ((cbB (bt a) i + (if bt a i = true then 1 else 0) : Nat) : Int)
        rw [if_pos hb]
        omega
      · refine br1 rfl (ih (i + 1) _ _ (add1 hx (by omega)) (by omega) (by omega) ?_)
        rw [add_z (b := 0) (y := 0) hs rfl (by omega) (by omega)]
        show _ = ((cbB (bt a) i + (if bt a i = true then 1 else 0) : Nat) : Int)
        rw [if_neg hb]
        omega
theorem x_ones {a : Int64} {Q : Int32 → Prop} (hq : ∀ r : Int32, r.toInt = ((cbB (bt a) 40 : Nat) : Int) → Q r) : wp_X12_ones a Q := by
  unfold wp_X12_ones
  exact x_on (fun x s hs => hq s hs) _ 0 _ _ rfl (by omega) (by omega) rfl
/-! dug CELLS, count -/
theorem x_dgl {row : Nat → Int32} {w : Nat → Int} {p : Nat → Bool} (hR : RMw row w) (hp : ∀ i, i < 40 → w (33 + i) = (if p i = true then 1 else 0)) {Qb : Int32 → Int32 → Prop} (K : ∀ x s : Int32, s.toInt = ((cbB p 40 : Nat) : Int) → Qb x s) : ∀ (m i : Nat) (x s : Int32), x.toInt = (i : Int) → i ≤ 40 → 40 - i < m → s.toInt = ((cbB p i : Nat) : Int) → wl_X12_dugCells_4 row Qb m x s := by
  intro m
  induction m with
  | zero => intro i x s _ _ h; omega
  | succ m ih =>
    intro i x s hx hi hm hs
    unfold wl_X12_dugCells_4
    by_cases q : 40 ≤ x
    · have q' := le_z (x := 40) rfl hx q
      refine br1 q (K _ _ ?_)
      rw [show (40 : Nat) = i by omega]
      exact hs
    · have q' := nle_z (x := 40) rfl hx q
      have b := cbB_b (p := p) i
      have x1 : (33 + x).toInt = ((33 + i : Nat) : Int) := by rw [add_z (a := 33) (x := 33) rfl hx (by omega) (by omega)]; omega
      have e1 : (row (33 + i)).toInt = (if p i = true then 1 else 0) := by rw [hR _ (by omega)]; exact hp i (by omega)
      refine br0 q ⟨vpi x1 (by omega) (by omega), ?_⟩
      rw [tnN x1]
      refine ih (i + 1) _ _ (add1 hx (by omega)) (by omega) (by omega) ?_
      show _ = ((cbB p i + (if p i = true then 1 else 0) : Nat) : Int)
      by_cases g : p i = true
      · rw [if_pos g] at e1
        rw [if_pos g, add_z hs e1 (by omega) (by omega)]
        omega
      · rw [if_neg g] at e1
        rw [if_neg g, add_z hs e1 (by omega) (by omega)]
        omega
/-- whether the CELLS are dug, of w -/
def dgB (w : Nat → Int) (c : Nat) : Bool := decide (w (33 + c) = 1)
theorem RD.dgb {d : Int64} {w : Nat → Int} (h : RD d w) : ∀ j, j < 40 → bt d j = dgB w j := fun j hj => by
  show bt d j = decide (w (33 + j) = 1)
  have e := h.1 j hj
  cases g : bt d j with
  | true => rw [g, if_pos rfl] at e; rw [decide_eq_true e]
  | false => rw [g, if_neg (by decide)] at e; rw [decide_eq_false (by omega)]
def cntR (w : Nat → Int) (n : Nat) (ln : Int) (rf : Nat → Int32) (a : Int) : Int :=
  if a = 0 then w 0 else if a = 1 then w 1 else if a = 2 then w 2 else if a = 3 then ((cbB (dgB w) 40 : Nat) : Int) else if a = 4 then w 3 else if a = 5 then w 4 else if a = 6 then w 5 else if a = 7 then (n : Int) else if a = 8 then ln else if a = 9 then (rf 1).toInt else if a = 10 then (rf 2).toInt else if a = 11 then (rf 3).toInt else if a = 12 then (rf 5).toInt else if a = 13 then (rf 6).toInt else if a = 14 then w 6 else if a = 15 then w 7 else if a = 16 then w 8 else if a = 17 then w 9 else -1
theorem x_dug {row : Nat → Int32} {w : Nat → Int} (hR : RMw row w) (hr : RLW row) {Q : Int32 → Prop} (hq : ∀ r : Int32, r.toInt = ((cbB (dgB w) 40 : Nat) : Int) → Q r) : wp_X12_dugCells row Q := by
  unfold wp_X12_dugCells
  refine x_dgl hR (p := dgB w) (fun i hi => ?_) (fun x s hs => hq s hs) _ 0 _ _ rfl (by omega) (by omega) rfl
  have b := RLW.at_33 hr (n := 33 + i) (z := ((33 + i : Nat) : Int)) rfl (by omega) (by omega)
  rw [hR _ (by omega)] at b
  by_cases c : w (33 + i) = 1
  · rw [if_pos (show dgB w i = true from decide_eq_true c), c]
  · rw [if_neg (show ¬ dgB w i = true from fun g => c (of_decide_eq_true g))]
    omega
