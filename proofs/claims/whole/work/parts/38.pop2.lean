/-! Long.bitCount is the number of bits -/
def usr (x : Int64) (k : Nat) : Int64 := (x.toUInt64 >>> ((nI k).toInt64.toUInt64 &&& Int64.toUInt64 63)).toInt64
theorem usr_nat {x : Int64} {k : Nat} (hk : k < 64) : (usr x k).toBitVec.toNat = x.toBitVec.toNat / 2 ^ k := by
  show (x.toUInt64 >>> ((nI k).toInt64.toUInt64 &&& Int64.toUInt64 63)).toBitVec.toNat = _
  rw [UInt64.toBitVec_shiftRight]
  show (x.toUInt64.toBitVec >>> (((nI k).toInt64.toUInt64 &&& Int64.toUInt64 63).toBitVec % 64).toNat).toNat = _
  rw [s_u64 k hk, BitVec.toNat_ushiftRight, Nat.shiftRight_eq_div_pow]
  rfl
theorem and_nat (x y : Int64) : (x &&& y).toBitVec.toNat = x.toBitVec.toNat &&& y.toBitVec.toNat := by rw [Int64.toBitVec_and, BitVec.toNat_and]
theorem add_nat {x y : Int64} (h : x.toBitVec.toNat + y.toBitVec.toNat < 2 ^ 64) : (x + y).toBitVec.toNat = x.toBitVec.toNat + y.toBitVec.toNat := by
  rw [Int64.toBitVec_add, BitVec.toNat_add, Nat.mod_eq_of_lt h]
theorem sub_nat {x y : Int64} (h : y.toBitVec.toNat ≤ x.toBitVec.toNat) : (x - y).toBitVec.toNat = x.toBitVec.toNat - y.toBitVec.toNat := by
  rw [Int64.toBitVec_sub, BitVec.toNat_sub]
  have h1 := x.toBitVec.isLt
  have h2 := y.toBitVec.isLt
  omega
theorem popN_le (X : Nat) : ∀ n, popN X n ≤ n
  | 0 => Nat.le_refl 0
  | n + 1 => by
    have := popN_le X n
    show popN X n + X / 2 ^ n % 2 ≤ n + 1
    omega
theorem popN_8 (X n : Nat) : popN X (8 + n) = popN (X % 256) 8 + popN (X / 256) n := by
  rw [popN_add X 8 n]
  exact congrArg (fun z => z + popN (X / 256) n) (popN_mod X 8 8 (Nat.le_refl 8)).symm
def sumB (X : Nat) : Nat → Nat
  | 0 => 0
  | n + 1 => popN (X % 256) 8 + sumB (X / 256) n
theorem popN_sumB : ∀ (n X : Nat), popN X (8 * n) = sumB X n
  | 0, _ => rfl
  | n + 1, X => by
    rw [show 8 * (n + 1) = 8 + 8 * n by omega, popN_8, popN_sumB n]
    rfl
theorem dv {L V m : Nat} (h : L < m) : (L + m * V) / m = V := by
  rw [Nat.add_mul_div_left _ _ (Nat.lt_of_le_of_lt (Nat.zero_le _) h), Nat.div_eq_of_lt h, Nat.zero_add]
theorem z1 {p0 v v1 : Nat} (h0 : p0 ≤ 8) (e0 : v = p0 + 256 * v1) : v / 256 = v1 := by omega
theorem z2 {p0 p1 v v1 v2 : Nat} (h0 : p0 ≤ 8) (h1 : p1 ≤ 8) (e0 : v = p0 + 256 * v1) (e1 : v1 = p1 + 256 * v2) : v % 65536 ≤ 2056 ∧ v / 65536 = v2 := by
  subst e1
  subst e0
  omega
theorem z4 {p0 p1 p2 p3 v v1 v2 v3 v4 : Nat} (h0 : p0 ≤ 8) (h1 : p1 ≤ 8) (h2 : p2 ≤ 8) (h3 : p3 ≤ 8) (e0 : v = p0 + 256 * v1) (e1 : v1 = p1 + 256 * v2) (e2 : v2 = p2 + 256 * v3) (e3 : v3 = p3 + 256 * v4) : v % 4294967296 ≤ 134744072 ∧ v / 4294967296 = v4 := by
  subst e3
  subst e2
  subst e1
  subst e0
  have e : p0 + 256 * (p1 + 256 * (p2 + 256 * (p3 + 256 * v4))) = (p0 + 256 * p1 + 65536 * p2 + 16777216 * p3) + 4294967296 * v4 := by omega
  have hb : p0 + 256 * p1 + 65536 * p2 + 16777216 * p3 ≤ 134744072 := by omega
  rw [e]
  generalize p0 + 256 * p1 + 65536 * p2 + 16777216 * p3 = L at hb
  exact ⟨by omega, dv (by omega)⟩
theorem d65 {a b : Nat} (ha : a % 65536 ≤ 2056) (hb : b % 65536 ≤ 2056) : (a + b) / 65536 = a / 65536 + b / 65536 := by omega
theorem d32 {a b c d : Nat} (ha : a % 4294967296 ≤ 134744072) (hb : b % 4294967296 ≤ 134744072) (hc : c % 4294967296 ≤ 134744072) (hd : d % 4294967296 ≤ 134744072) : (a + b + (c + d)) / 4294967296 = a / 4294967296 + b / 4294967296 + (c / 4294967296 + d / 4294967296) := by omega
theorem bytes_sum {p0 p1 p2 p3 p4 p5 p6 p7 : Nat} (h0 : p0 ≤ 8) (h1 : p1 ≤ 8) (h2 : p2 ≤ 8) (h3 : p3 ≤ 8) (h4 : p4 ≤ 8) (h5 : p5 ≤ 8) (h6 : p6 ≤ 8) (h7 : p7 ≤ 8) {v v1 v2 v3 v4 v5 v6 v7 : Nat} (e0 : v = p0 + 256 * v1) (e1 : v1 = p1 + 256 * v2) (e2 : v2 = p2 + 256 * v3) (e3 : v3 = p3 + 256 * v4) (e4 : v4 = p4 + 256 * v5) (e5 : v5 = p5 + 256 * v6) (e6 : v6 = p6 + 256 * v7) (e7 : v7 = p7 + 256 * 0) :
    v / 256 = v1 ∧ (v + v1) / 65536 = v2 + v3 ∧ (v + v1 + (v2 + v3)) / 4294967296 = v4 + v5 + (v6 + v7) := by
  refine ⟨z1 h0 e0, ?_, ?_⟩
  · rw [d65 (z2 h0 h1 e0 e1).1 (z2 h1 h2 e1 e2).1, (z2 h0 h1 e0 e1).2, (z2 h1 h2 e1 e2).2]
  · rw [d32 (z4 h0 h1 h2 h3 e0 e1 e2 e3).1 (z4 h1 h2 h3 h4 e1 e2 e3 e4).1 (z4 h2 h3 h4 h5 e2 e3 e4 e5).1 (z4 h3 h4 h5 h6 e3 e4 e5 e6).1, (z4 h0 h1 h2 h3 e0 e1 e2 e3).2, (z4 h1 h2 h3 h4 e1 e2 e3 e4).2, (z4 h2 h3 h4 h5 e2 e3 e4 e5).2, (z4 h3 h4 h5 h6 e3 e4 e5 e6).2]
theorem bytes_mod {p0 p1 p2 p3 p4 p5 p6 p7 v v1 v2 v3 v4 v5 v6 v7 : Nat} (e0 : v = p0 + 256 * v1) (e1 : v1 = p1 + 256 * v2) (e2 : v2 = p2 + 256 * v3) (e3 : v3 = p3 + 256 * v4) (e4 : v4 = p4 + 256 * v5) (e5 : v5 = p5 + 256 * v6) (e6 : v6 = p6 + 256 * v7) (e7 : v7 = p7 + 256 * 0) : v + v1 + (v2 + v3) + (v4 + v5 + (v6 + v7)) = (p0 + (p1 + (p2 + (p3 + (p4 + (p5 + (p6 + (p7 + 0)))))))) + 128 * (2 * (v1 + v2 + v3 + v4 + v5 + v6 + v7)) := by omega
theorem vb_le : ∀ (n X : Nat), vbytes X n ≤ 8 * mk8 1 n
  | 0, _ => Nat.le_refl 0
  | n + 1, X => by
    have h1 := vb_le n (X / 256)
    have h2 := popN_le (X % 256) 8
    show popN (X % 256) 8 + 256 * vbytes (X / 256) n ≤ 8 * (1 + 256 * mk8 1 n)
    omega
