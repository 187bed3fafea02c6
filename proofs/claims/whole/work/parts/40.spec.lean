/-! Answers of the public methods -/
theorem vi {a b : Int32} {w : va_W} (h : b = a) : pI b w (some (.int a)) w := ⟨by rw [h], rfl⟩
def aval (cnt : Nat) (siz atm : Nat → Nat) (x i : Int32) : Int32 := if hpr cnt siz x i = true then nI (atm (4 * x.toNatClampNeg + i.toNatClampNeg)) else -1
theorem aval_t {cnt : Nat} {siz atm : Nat → Nat} {l j : Nat} (h : hpr cnt siz (nI l) (nI j) = true) (hl : l < 2147483648) (hj : j < 2147483648) : aval cnt siz atm (nI l) (nI j) = nI (atm (4 * l + j)) := by
  unfold aval
  rw [if_pos h, nI_clamp hl, nI_clamp hj]
theorem aval_f {cnt : Nat} {siz atm : Nat → Nat} {x i : Int32} (h : hpr cnt siz x i = false) : aval cnt siz atm x i = -1 := by
  unfold aval
  rw [if_neg (by rw [h]; decide)]
def tld (v : Int32) : Int32 := v - v / nI 1000 * nI 1000
/-- answers that ask for a lambda -/
def lval (on : Bool) (cnt : Nat) (f : Nat → Int32) (x : Int32) : Int32 := if on = true ∧ hl cnt x = true then f x.toNatClampNeg else -1
theorem lval_t {on : Bool} {cnt : Nat} {f : Nat → Int32} {l : Nat} (h1 : on = true) (hc : cnt ≤ 8) (h : l < cnt) : lval on cnt f (nI l) = f l := by
  unfold lval
  rw [if_pos ⟨h1, hl_in hc h⟩, nI_clamp (by omega)]
theorem lval_0 {on : Bool} {cnt : Nat} {f : Nat → Int32} {x : Int32} (h : on = false) : lval on cnt f x = -1 := by
  unfold lval
  rw [if_neg (fun q => by rw [h] at q; cases q.1)]
theorem lval_n {on : Bool} {cnt : Nat} {f : Nat → Int32} {x : Int32} (h : hl cnt x = false) : lval on cnt f x = -1 := by
  unfold lval
  rw [if_neg (fun q => by rw [h] at q; cases q.2)]
/-- answers that ask for a parameter -/
def qval (on : Bool) (cnt : Nat) (prm : Nat → Nat) (f : Nat → Nat → Int32) (x i : Int32) : Int32 := if on = true ∧ hpr cnt prm x i = true then f x.toNatClampNeg i.toNatClampNeg else -1
theorem qval_t {on : Bool} {cnt : Nat} {prm : Nat → Nat} {f : Nat → Nat → Int32} {l j : Nat} (h1 : on = true) (h : hpr cnt prm (nI l) (nI j) = true) (hl : l < 2147483648) (hj : j < 2147483648) : qval on cnt prm f (nI l) (nI j) = f l j := by
  unfold qval
  rw [if_pos ⟨h1, h⟩, nI_clamp hl, nI_clamp hj]
theorem qval_0 {on : Bool} {cnt : Nat} {prm : Nat → Nat} {f : Nat → Nat → Int32} {x i : Int32} (h : on = false) : qval on cnt prm f x i = -1 := by
  unfold qval
  rw [if_neg (fun q => by rw [h] at q; cases q.1)]
theorem qval_n {on : Bool} {cnt : Nat} {prm : Nat → Nat} {f : Nat → Nat → Int32} {x i : Int32} (h : hpr cnt prm x i = false) : qval on cnt prm f x i = -1 := by
  unfold qval
  rw [if_neg (fun q => by rw [h] at q; cases q.2)]
theorem dn {p : Prop} (h : ¬ ¬ p) : p := Classical.byContradiction h
theorem k100_of {y : Int32} (h1 : ¬ y < 0) (h2 : ¬ nI 100 < y) : ∃ k, k ≤ 100 ∧ y = nI k := by
  obtain ⟨j, hj, e⟩ := nI_of h1
  subst e
  exact ⟨j, Nat.le_of_not_lt (fun q => h2 ((nI_ltI (by omega) hj).mpr q)), rfl⟩
def bc1 (x : Int64) : Int64 := x - (usr x 1 &&& (6148914691236517205 : Int64))
def bc2 (x : Int64) : Int64 := (x &&& (3689348814741910323 : Int64)) + (usr x 2 &&& (3689348814741910323 : Int64))
def bc3 (x : Int64) : Int64 := (x + usr x 4) &&& (1085102592571150095 : Int64)
def bc4 (x : Int64) (k : Nat) : Int64 := x + usr x k
