/-! The number of bits of a long: the JDK's way and by counting -/
def mk8 (c : Nat) : Nat → Nat
  | 0 => 0
  | n + 1 => c + 256 * mk8 c n
theorem and8 {a r m M : Nat} (ha : a < 256) (hm : m < 256) : (a + 256 * r) &&& (m + 256 * M) = (a &&& m) + 256 * (r &&& M) := by
  have h1 : ((a + 256 * r) &&& (m + 256 * M)) % 2 ^ 8 = (a &&& m) := by
    rw [Nat.and_mod_two_pow]
    have e1 : (a + 256 * r) % 2 ^ 8 = a := by omega
    have e2 : (m + 256 * M) % 2 ^ 8 = m := by omega
    rw [e1, e2]
  have h2 : ((a + 256 * r) &&& (m + 256 * M)) / 2 ^ 8 = (r &&& M) := by
    rw [Nat.and_div_two_pow]
    have e1 : (a + 256 * r) / 2 ^ 8 = r := by omega
    have e2 : (m + 256 * M) / 2 ^ 8 = M := by omega
    rw [e1, e2]
  omega
def q1 (n X : Nat) : Nat := X - ((X / 2) &&& mk8 85 n)
def q2 (n X : Nat) : Nat := (X &&& mk8 51 n) + ((X / 4) &&& mk8 51 n)
def q3 (n X : Nat) : Nat := (X + X / 16) &&& mk8 15 n
def st1 (a : Nat) : Nat := a - ((a / 2) &&& 85)
def st2 (a : Nat) : Nat := (a &&& 51) + ((a / 4) &&& 51)
/-- bits of a number below n -/
def popN (X : Nat) : Nat → Nat
  | 0 => 0
  | n + 1 => popN X n + X / 2 ^ n % 2
theorem st_ok : ∀ a, a < 256 → st1 a < 256 ∧ st2 (st1 a) ≤ 68 ∧ st2 (st1 a) % 16 ≤ 4 ∧ (∀ t, t < 5 → (st2 (st1 a) + st2 (st1 a) / 16 + 16 * t) &&& 15 = popN a 8) ∧ popN a 8 ≤ 8 := by decide +kernel
theorem q1_step {n a r : Nat} (ha : a < 256) : q1 (n + 1) (a + 256 * r) = st1 a + 256 * q1 n r := by
  have e : (a + 256 * r) / 2 = (a / 2 + 128 * (r % 2)) + 256 * (r / 2) := by omega
  have k : ∀ t, t < 2 → ∀ a, a < 256 → (a / 2 + 128 * t) &&& 85 = (a / 2) &&& 85 := by decide +kernel
  have e2 : (a + 256 * r) / 2 &&& mk8 85 (n + 1) = ((a / 2) &&& 85) + 256 * ((r / 2) &&& mk8 85 n) := by
    rw [e]
    show _ &&& (85 + 256 * mk8 85 n) = _
    rw [and8 (by omega) (by omega), k (r % 2) (by omega) a ha]
  have h1 : (a / 2) &&& 85 ≤ a / 2 := Nat.and_le_left
  have h2 : (r / 2) &&& mk8 85 n ≤ r / 2 := Nat.and_le_left
  unfold q1 st1
  rw [e2]
  omega
theorem q2_step {n a r : Nat} (ha : a < 256) : q2 (n + 1) (a + 256 * r) = st2 a + 256 * q2 n r := by
  have e : (a + 256 * r) / 4 = (a / 4 + 64 * (r % 4)) + 256 * (r / 4) := by omega
  have k : ∀ t, t < 4 → ∀ a, a < 256 → (a / 4 + 64 * t) &&& 51 = (a / 4) &&& 51 := by decide +kernel
  have e2 : (a + 256 * r) / 4 &&& mk8 51 (n + 1) = ((a / 4) &&& 51) + 256 * ((r / 4) &&& mk8 51 n) := by
    rw [e]
    show _ &&& (51 + 256 * mk8 51 n) = _
    rw [and8 (by omega) (by omega), k (r % 4) (by omega) a ha]
  have e3 : (a + 256 * r) &&& mk8 51 (n + 1) = (a &&& 51) + 256 * (r &&& mk8 51 n) := and8 ha (by omega)
  unfold q2 st2
  rw [e2, e3]
  omega
theorem q12_low : ∀ (n X : Nat), q2 n (q1 n X) % 16 ≤ 4
  | 0, X => by
    unfold q2
    show ((q1 0 X &&& 0) + (q1 0 X / 4 &&& 0)) % 16 ≤ 4
    rw [Nat.and_zero, Nat.and_zero]
    omega
  | n + 1, X => by
    have e : X = X % 256 + 256 * (X / 256) := by omega
    obtain ⟨h1, h2, h3, -⟩ := st_ok (X % 256) (by omega)
    rw [e, q1_step (by omega), q2_step h1]
    omega
theorem q3_step {n a r : Nat} (ha : a < 256) (hr : r % 16 ≤ 4) : q3 (n + 1) (st2 (st1 a) + 256 * r) = popN a 8 + 256 * q3 n r := by
  obtain ⟨h1, h2, h3, h4, -⟩ := st_ok a ha
  generalize st2 (st1 a) = z at *
  have e : z + 256 * r + (z + 256 * r) / 16 = (z + z / 16 + 16 * (r % 16)) + 256 * (r + r / 16) := by omega
  unfold q3
  rw [e]
  show _ &&& (15 + 256 * mk8 15 n) = _
  rw [and8 (by omega) (by omega), h4 (r % 16) (by omega)]
def vbytes (X : Nat) : Nat → Nat
  | 0 => 0
  | n + 1 => popN (X % 256) 8 + 256 * vbytes (X / 256) n
theorem q_bytes : ∀ (n X : Nat), q3 n (q2 n (q1 n X)) = vbytes X n
  | 0, X => by
    unfold q3
    show _ &&& 0 = 0
    rw [Nat.and_zero]
  | n + 1, X => by
    have e : X = X % 256 + 256 * (X / 256) := by omega
    have h1 := (st_ok (X % 256) (by omega)).1
    have e2 : q2 (n + 1) (q1 (n + 1) X) = st2 (st1 (X % 256)) + 256 * q2 n (q1 n (X / 256)) := by
      conv => lhs; rw [e]
      rw [q1_step (by omega), q2_step h1]
    rw [e2, q3_step (by omega) (q12_low n _), q_bytes n (X / 256)]
    rfl
theorem popN_add (X m : Nat) : ∀ n, popN X (m + n) = popN X m + popN (X / 2 ^ m) n
  | 0 => rfl
  | n + 1 => by
    show popN X (m + n) + X / 2 ^ (m + n) % 2 = popN X m + (popN (X / 2 ^ m) n + X / 2 ^ m / 2 ^ n % 2)
    rw [popN_add X m n, Nat.div_div_eq_div_mul, ← Nat.pow_add]
    omega
theorem popN_mod (X : Nat) : ∀ n k, n ≤ k → popN (X % 2 ^ k) n = popN X n
  | 0, _, _ => rfl
  | n + 1, k, h => by
    show popN (X % 2 ^ k) n + X % 2 ^ k / 2 ^ n % 2 = popN X n + X / 2 ^ n % 2
    rw [popN_mod X n k (by omega)]
    congr 1
    have e : 2 ^ k = 2 ^ n * 2 ^ (k - n) := by rw [← Nat.pow_add]; congr 1; omega
    have h2 : 2 ^ (k - n) = 2 * 2 ^ (k - n - 1) := by rw [← Nat.pow_succ']; congr 1; omega
    rw [e, Nat.mod_mul_right_div_self, h2, Nat.mod_mul_right_mod]
