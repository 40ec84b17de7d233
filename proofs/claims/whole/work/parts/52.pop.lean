/-! how many bits a set of 32 has -/
def s1N (x M : Nat) : Nat := x - (x / 2 &&& M)
def s2N (x M : Nat) : Nat := (x &&& M) + (x / 4 &&& M)
def s3N (x M : Nat) : Nat := (x + x / 16) &&& M
theorem and8 {a lo M q : Nat} (h1 : lo < 256) (h2 : q < 256) : (a * 256 + lo) &&& (M * 256 + q) = (a &&& M) * 256 + (lo &&& q) := by
  have e1 := Nat.and_div_two_pow (a := a * 256 + lo) (b := M * 256 + q) (n := 8)
  have e2 := Nat.and_mod_two_pow (a := a * 256 + lo) (b := M * 256 + q) (n := 8)
  rw [show (2 : Nat) ^ 8 = 256 from rfl] at e1 e2
  rw [show (a * 256 + lo) / 256 = a by omega, show (M * 256 + q) / 256 = M by omega] at e1
  rw [show (a * 256 + lo) % 256 = lo by omega, show (M * 256 + q) % 256 = q by omega] at e2
  omega
theorem k1 : ∀ r, r < 2 → ∀ lo, lo < 256 → ((r * 128 + lo / 2) &&& 85) = (lo / 2 &&& 85) ∧ r * 128 + lo / 2 < 256 ∧ (lo / 2 &&& 85) ≤ lo := by decide +kernel
theorem k2 : ∀ r, r < 4 → ∀ lo, lo < 256 → ((r * 64 + lo / 4) &&& 51) = (lo / 4 &&& 51) ∧ r * 64 + lo / 4 < 256 := by decide +kernel
theorem s1_cons {a lo M : Nat} (h : lo < 256) : s1N (a * 256 + lo) (M * 256 + 85) = s1N a M * 256 + s1N lo 85 := by
  unfold s1N
  obtain ⟨e1, e2, e3⟩ := k1 (a % 2) (by omega) lo h
  have e : (a * 256 + lo) / 2 = (a / 2) * 256 + (a % 2 * 128 + lo / 2) := by omega
  have h2 : (a / 2 &&& M) ≤ a := Nat.le_trans Nat.and_le_left (Nat.div_le_self _ _)
  rw [e, and8 e2 (by omega), e1, Nat.sub_mul]
  omega
theorem s2_cons {a lo M : Nat} (h : lo < 256) : s2N (a * 256 + lo) (M * 256 + 51) = s2N a M * 256 + s2N lo 51 := by
  unfold s2N
  obtain ⟨e1, e2⟩ := k2 (a % 4) (by omega) lo h
  have e : (a * 256 + lo) / 4 = (a / 4) * 256 + (a % 4 * 64 + lo / 4) := by omega
  rw [e, and8 e2 (by omega), e1, and8 h (by omega), Nat.add_mul]
  omega
/-- a byte after the two steps -/
def b2N (x : Nat) : Nat := s2N (s1N x 85) 51
theorem b2_ok : ∀ x, x < 256 → s1N x 85 < 256 ∧ b2N x ≤ 68 ∧ b2N x % 16 ≤ 4 ∧ b2N x / 16 ≤ 4 ∧ s3N (b2N x) 15 = popN x := by decide +kernel
theorem k3 : ∀ r, r < 5 → ∀ x, x < 69 → ((x + x / 16 + r * 16) &&& 15) = ((x + x / 16) &&& 15) ∧ x + x / 16 + r * 16 < 256 := by decide +kernel
theorem s3_cons {a x M : Nat} (hx : x ≤ 68) (ha : a % 16 ≤ 4) : s3N (a * 256 + x) (M * 256 + 15) = s3N a M * 256 + s3N x 15 := by
  unfold s3N
  obtain ⟨e1, e2⟩ := k3 (a % 16) (by omega) x (by omega)
  have e : a * 256 + x + (a * 256 + x) / 16 = (a + a / 16) * 256 + (x + x / 16 + a % 16 * 16) := by omega
  rw [e, and8 e2 (by omega), e1]
theorem s1_z (M : Nat) : s1N 0 M = 0 := by unfold s1N; simp
theorem s2_z (M : Nat) : s2N 0 M = 0 := by unfold s2N; simp
theorem s3_z (M : Nat) : s3N 0 M = 0 := by unfold s3N; simp
theorem s1_one {x M : Nat} (h : x < 256) : s1N x (M * 256 + 85) = s1N x 85 := by
  have e := s1_cons (a := 0) (M := M) h
  rw [s1_z, Nat.zero_mul, Nat.zero_add] at e
  omega
theorem s2_one {x M : Nat} (h : x < 256) : s2N x (M * 256 + 51) = s2N x 51 := by
  have e := s2_cons (a := 0) (M := M) h
  rw [s2_z, Nat.zero_mul, Nat.zero_add] at e
  omega
theorem s3_one {x M : Nat} (h : x ≤ 68) : s3N x (M * 256 + 15) = s3N x 15 := by
  have e := s3_cons (a := 0) (M := M) h (by omega)
  rw [s3_z, Nat.zero_mul, Nat.zero_add] at e
  omega
theorem swar {b0 b1 b2 b3 : Nat} (h0 : b0 < 256) (h1 : b1 < 256) (h2 : b2 < 256) (h3 : b3 < 256) :
    s3N (s2N (s1N (((b3 * 256 + b2) * 256 + b1) * 256 + b0) 6148914691236517205) 3689348814741910323) 1085102592571150095 = ((popN b3 * 256 + popN b2) * 256 + popN b1) * 256 + popN b0 := by
  obtain ⟨p0, q0, r0, u0, t0⟩ := b2_ok b0 h0
  obtain ⟨p1, q1, r1, u1, t1⟩ := b2_ok b1 h1
  obtain ⟨p2, q2, r2, u2, t2⟩ := b2_ok b2 h2
  obtain ⟨p3, q3, r3, u3, t3⟩ := b2_ok b3 h3
  rw [show (6148914691236517205 : Nat) = ((((6148914691236517205 / 4294967296) * 256 + 85) * 256 + 85) * 256 + 85) * 256 + 85 by decide +kernel, s1_cons h0, s1_cons h1, s1_cons h2, s1_one h3]
  rw [show (3689348814741910323 : Nat) = ((((3689348814741910323 / 4294967296) * 256 + 51) * 256 + 51) * 256 + 51) * 256 + 51 by decide +kernel, s2_cons p0, s2_cons p1, s2_cons p2, s2_one p3]
  rw [show (1085102592571150095 : Nat) = ((((1085102592571150095 / 4294967296) * 256 + 15) * 256 + 15) * 256 + 15) * 256 + 15 by decide +kernel]
  change s3N (((b2N b3 * 256 + b2N b2) * 256 + b2N b1) * 256 + b2N b0) _ = _
  rw [s3_cons q0 (by omega), s3_cons q1 (by omega), s3_cons q2 (by omega), s3_one q3, t0, t1, t2, t3]
theorem pop_le : ∀ x, x < 256 → popN x ≤ 8 := fun x _ => cnN_le _ 8
set_option maxRecDepth 10000 in
theorem fold64 {d0 d1 d2 d3 x4 x5 : Nat} (h0 : d0 ≤ 8) (h1 : d1 ≤ 8) (h2 : d2 ≤ 8) (h3 : d3 ≤ 8) (e4 : x4 = (((d3 * 256 + d2) * 256 + d1) * 256 + d0) + (((d3 * 256 + d2) * 256 + d1) * 256 + d0) / 256) (e5 : x5 = x4 + x4 / 65536) : (x5 + x5 / 4294967296) % 128 = d0 + d1 + d2 + d3 := by
  have g : (((d3 * 256 + d2) * 256 + d1) * 256 + d0) / 256 = (d3 * 256 + d2) * 256 + d1 := by omega
  rw [g] at e4
  have a4 : x4 = (d3 * 256 + d3 + d2) * 65536 + ((d2 + d1) * 256 + (d1 + d0)) := by omega
  have g5 : x4 / 65536 = d3 * 256 + d3 + d2 := by omega
  rw [g5, a4] at e5
  have g6 : x5 / 4294967296 = 0 := by omega
  rw [g6]
  omega
theorem cn_add (P : Nat → Bool) (a : Nat) : ∀ n, cnN P (a + n) = cnN P a + cnN (fun i => P (a + i)) n
  | 0 => rfl
  | n + 1 => by
    show (if P (a + n) = true then cnN P (a + n) + 1 else cnN P (a + n)) = cnN P a + (if P (a + n) = true then cnN (fun i => P (a + i)) n + 1 else cnN (fun i => P (a + i)) n)
    rw [cn_add P a n]
    split <;> omega
theorem pop_byte (x j : Nat) : popN (x / 2 ^ j % 256) = cnN (fun i => x.testBit (j + i)) 8 := by
  unfold popN
  apply cnN_congr
  intro i hi
  rw [show (256 : Nat) = 2 ^ 8 from rfl, Nat.testBit_mod_two_pow, decide_eq_true hi, Bool.true_and, Nat.testBit_div_two_pow, Nat.add_comm]
theorem pop32 (P : Nat → Bool) {n : Nat} (hn : n ≤ 32) : cnN (fun i => (mkN P n).testBit i) 32 = cnN P n := by
  have e : ∀ j, n ≤ j → cnN (fun i => (mkN P n).testBit i) j = cnN P n := by
    intro j hj
    induction j with
    | zero => have : n = 0 := by omega
              subst this; rfl
    | succ j ih =>
      by_cases q : n = j + 1
      · rw [← q]
        exact cnN_congr (fun i hi => by rw [mkN_bit, decide_eq_true hi, Bool.true_and])
      · show (if (mkN P n).testBit j = true then cnN (fun i => (mkN P n).testBit i) j + 1 else cnN (fun i => (mkN P n).testBit i) j) = cnN P n
        rw [ih (by omega), if_neg]
        rw [mkN_bit, decide_eq_false (by omega)]
        simp
  exact e 32 hn
theorem bitc64 {x : Nat} (hx : x < 2 ^ 32) : f_J13_bitCount_95d88 (lN x) = some (nI (cnN (fun i => x.testBit i) 32)) := by
  have e : x = ((x / 2 ^ 24 % 256 * 256 + x / 2 ^ 16 % 256) * 256 + x / 2 ^ 8 % 256) * 256 + x / 2 ^ 0 % 256 := by omega
  have h := swar (b0 := x / 2 ^ 0 % 256) (b1 := x / 2 ^ 8 % 256) (b2 := x / 2 ^ 16 % 256) (b3 := x / 2 ^ 24 % 256) (by omega) (by omega) (by omega) (by omega)
  rw [← e] at h
  have g0 := pop_le (x / 2 ^ 0 % 256) (by omega)
  have g1 := pop_le (x / 2 ^ 8 % 256) (by omega)
  have g2 := pop_le (x / 2 ^ 16 % 256) (by omega)
  have g3 := pop_le (x / 2 ^ 24 % 256) (by omega)
  have hc : cnN (fun i => x.testBit i) 32 = popN (x / 2 ^ 0 % 256) + popN (x / 2 ^ 8 % 256) + popN (x / 2 ^ 16 % 256) + popN (x / 2 ^ 24 % 256) := by
    rw [show (32 : Nat) = 24 + 8 from rfl, cn_add, show (24 : Nat) = 16 + 8 from rfl, cn_add, show (16 : Nat) = 8 + 8 from rfl, cn_add, pop_byte, pop_byte, pop_byte, pop_byte]
    simp only [Nat.zero_add]
  generalize popN (x / 2 ^ 0 % 256) = d0 at h g0 hc
  generalize popN (x / 2 ^ 8 % 256) = d1 at h g1 hc
  generalize popN (x / 2 ^ 16 % 256) = d2 at h g2 hc
  generalize popN (x / 2 ^ 24 % 256) = d3 at h g3 hc
  unfold f_J13_bitCount_95d88
  have q1 : (x / 2 &&& 6148914691236517205) ≤ x / 2 := Nat.and_le_left
  have a1 : (lN x - (((lN x).toUInt64 >>> (((1 : Int32)).toInt64.toUInt64 &&& Int64.toUInt64 63)).toInt64 &&& (6148914691236517205 : Int64))) = lN (s1N x 6148914691236517205) := by
    have w := wb_shr (n := x) (k := 1) (by omega) (by omega)
    rw [← li_1] at w
    show _ = lN (x - (x / 2 ^ 1 &&& 6148914691236517205))
    rw [w, show (6148914691236517205 : Int64) = lN 6148914691236517205 from rfl, wb_and (by omega) (by omega), lN_sub (by rw [show (2 : Nat) ^ 1 = 2 from rfl]; omega)]
  have b1 : s1N x 6148914691236517205 < 2 ^ 32 := by unfold s1N; omega
  rw [bn_e, a1]
  generalize s1N x 6148914691236517205 = x1 at h b1
  have q2 : (x1 &&& 3689348814741910323) ≤ x1 := Nat.and_le_left
  have q3 : (x1 / 4 &&& 3689348814741910323) ≤ x1 / 4 := Nat.and_le_left
  have a2 : ((lN x1 &&& (3689348814741910323 : Int64)) + (((lN x1).toUInt64 >>> (((2 : Int32)).toInt64.toUInt64 &&& Int64.toUInt64 63)).toInt64 &&& (3689348814741910323 : Int64))) = lN (s2N x1 3689348814741910323) := by
    have w := wb_shr (n := x1) (k := 2) (by omega) (by omega)
    rw [← li_2] at w
    rw [w, show (3689348814741910323 : Int64) = lN 3689348814741910323 from rfl, wb_and (by omega) (by omega), wb_and (by omega) (by omega), lN_add]
    rfl
  have b2 : s2N x1 3689348814741910323 < 2 ^ 33 := by unfold s2N; omega
  rw [bn_e, a2]
  generalize s2N x1 3689348814741910323 = x2 at h b2
  have a3 : ((lN x2 + ((lN x2).toUInt64 >>> (((4 : Int32)).toInt64.toUInt64 &&& Int64.toUInt64 63)).toInt64) &&& (1085102592571150095 : Int64)) = lN (s3N x2 1085102592571150095) := by
    have w := wb_shr (n := x2) (k := 4) (by omega) (by omega)
    rw [← li_4] at w
    rw [w, show (1085102592571150095 : Int64) = lN 1085102592571150095 from rfl, lN_add, wb_and (by rw [show (2 : Nat) ^ 4 = 16 from rfl]; omega) (by omega)]
    rfl
  rw [bn_e, a3, h]
  have bound : ((d3 * 256 + d2) * 256 + d1) * 256 + d0 < 2 ^ 28 := by omega
  generalize e3 : ((d3 * 256 + d2) * 256 + d1) * 256 + d0 = x3 at bound
  have a4 : lN x3 + ((lN x3).toUInt64 >>> (((8 : Int32)).toInt64.toUInt64 &&& Int64.toUInt64 63)).toInt64 = lN (x3 + x3 / 256) := by
    have w := wb_shr (n := x3) (k := 8) (by omega) (by omega)
    rw [← li_8] at w
    rw [w, lN_add]
  rw [bn_e, a4]
  generalize e4 : x3 + x3 / 256 = x4
  have a5 : lN x4 + ((lN x4).toUInt64 >>> (((16 : Int32)).toInt64.toUInt64 &&& Int64.toUInt64 63)).toInt64 = lN (x4 + x4 / 65536) := by
    have w := wb_shr (n := x4) (k := 16) (by omega) (by omega)
    rw [← li_16] at w
    rw [w, lN_add]
  rw [bn_e, a5]
  generalize e5 : x4 + x4 / 65536 = x5
  have a6 : lN x5 + ((lN x5).toUInt64 >>> (((32 : Int32)).toInt64.toUInt64 &&& Int64.toUInt64 63)).toInt64 = lN (x5 + x5 / 4294967296) := by
    have w := wb_shr (n := x5) (k := 32) (by omega) (by omega)
    rw [← li_32] at w
    rw [w, lN_add]
  rw [bn_e, a6, lN_i, pk_andN (k := 7) (by omega) (by decide +kernel)]
  have f := fold64 g0 g1 g2 g3 (x4 := x4) (x5 := x5) (by rw [e3]; exact e4.symm) e5.symm
  rw [show (2 : Nat) ^ 7 = 128 from rfl, f, hc]
