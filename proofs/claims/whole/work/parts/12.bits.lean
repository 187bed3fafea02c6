/-! Words as sets of bits (the first rows began as kit/laws/BITS.to-paste) -/
def bt (x : Int32) (i : Nat) : Bool := x.toBitVec.getLsbD i
theorem b_ext {x y : Int32} (h : ∀ i, i < 32 → bt x i = bt y i) : x = y := Int32.toBitVec_inj.mp (BitVec.eq_of_getLsbD_eq (fun i hi => h i hi))
theorem b_or (x y : Int32) (i : Nat) : bt (x ||| y) i = (bt x i || bt y i) := by unfold bt; rw [Int32.toBitVec_or, BitVec.getLsbD_or]
theorem b_and (x y : Int32) (i : Nat) : bt (x &&& y) i = (bt x i && bt y i) := by unfold bt; rw [Int32.toBitVec_and, BitVec.getLsbD_and]
theorem b_xor (x y : Int32) (i : Nat) : bt (x ^^^ y) i = (bt x i ^^ bt y i) := by unfold bt; rw [Int32.toBitVec_xor, BitVec.getLsbD_xor]
theorem b_big {x : Int32} {i : Nat} (h : 32 ≤ i) : bt x i = false := BitVec.getLsbD_of_ge _ _ h
theorem b_m1 : ∀ i, i < 32 → bt (-1) i = true := by decide +kernel
theorem b_0 (i : Nat) : bt 0 i = false := BitVec.getLsbD_zero
theorem s_l : ∀ n, n < 32 → ((nI n &&& 31).toBitVec.smod 32).toNat = n := by decide +kernel
theorem s_u : ∀ n, n < 32 → (((nI n).toUInt32 &&& Int32.toUInt32 31).toBitVec % 32).toNat = n := by decide +kernel
theorem b_shl (n : Nat) (hn : n < 32) (x : Int32) {i : Nat} (hi : i < 32) : bt (x <<< (nI n &&& 31)) i = (decide (n ≤ i) && bt x (i - n)) := by
  unfold bt
  rw [Int32.toBitVec_shiftLeft]
  show (x.toBitVec <<< ((nI n &&& 31).toBitVec.smod 32).toNat).getLsbD i = _
  rw [s_l n hn, BitVec.getLsbD_shiftLeft]
  rcases Nat.lt_or_ge i n with h | h
  · simp [h, Nat.not_le.mpr h]
  · simp [hi, h, Nat.not_lt.mpr h]
theorem b_ushr (n : Nat) (hn : n < 32) (x : Int32) (i : Nat) : bt ((x.toUInt32 >>> ((nI n).toUInt32 &&& Int32.toUInt32 31)).toInt32) i = bt x (n + i) := by
  show (x.toUInt32 >>> ((nI n).toUInt32 &&& Int32.toUInt32 31)).toBitVec.getLsbD i = x.toUInt32.toBitVec.getLsbD (n + i)
  rw [UInt32.toBitVec_shiftRight]
  show (x.toUInt32.toBitVec >>> (((nI n).toUInt32 &&& Int32.toUInt32 31).toBitVec % 32).toNat).getLsbD i = _
  rw [s_u n hn, BitVec.getLsbD_ushiftRight]
theorem b_sshr (n : Nat) (hn : n < 32) (x : Int32) {i : Nat} (hi : i < 32) : bt (x >>> (nI n &&& 31)) i = if n + i < 32 then bt x (n + i) else bt x 31 := by
  unfold bt
  rw [Int32.toBitVec_shiftRight]
  show (x.toBitVec.sshiftRight ((nI n &&& 31).toBitVec.smod 32).toNat).getLsbD i = _
  rw [s_l n hn, BitVec.getLsbD_sshiftRight, BitVec.msb_eq_getLsbD_last]
  simp [hi]
theorem b_1 (i : Nat) : bt 1 i = decide (i = 0) := by
  rcases Nat.lt_or_ge i 32 with h | h
  · exact (by decide +kernel : ∀ i, i < 32 → bt 1 i = decide (i = 0)) i h
  · rw [b_big h, decide_eq_false (by omega)]
theorem b_one (n : Nat) (hn : n < 32) (i : Nat) : bt (1 <<< (nI n &&& 31)) i = decide (i = n) := by
  rcases Nat.lt_or_ge i 32 with h | h
  · exact (by decide +kernel : ∀ n, n < 32 → ∀ i, i < 32 → bt (1 <<< (nI n &&& 31)) i = decide (i = n)) n hn i h
  · rw [b_big h, decide_eq_false (by omega)]
theorem b_has {x : Int32} {n : Nat} (hn : n < 32) : ((x.toUInt32 >>> ((nI n).toUInt32 &&& Int32.toUInt32 31)).toInt32 &&& 1) = 0 ↔ bt x n = false := by
  constructor
  · intro h
    have h1 := congrArg (fun y => bt y 0) h
    simp only [b_and, b_ushr n hn, b_1, b_0] at h1
    simpa using h1
  · intro h
    refine b_ext (fun i hi => ?_)
    rw [b_and, b_ushr n hn, b_1, b_0]
    by_cases e : i = 0
    · subst e
      simp [h]
    · simp [e]
theorem b_hasS {x : Int32} {n : Nat} (hn : n < 32) : (x >>> (nI n &&& 31) &&& 1) = 0 ↔ bt x n = false := by
  constructor
  · intro h
    have h1 := congrArg (fun y => bt y 0) h
    simp only [b_and, b_1, b_0] at h1
    rw [b_sshr n hn x (by omega)] at h1
    simpa [hn] using h1
  · intro h
    refine b_ext (fun i hi => ?_)
    rw [b_and, b_sshr n hn x hi, b_1, b_0]
    by_cases e : i = 0
    · subst e
      simp [h, hn]
    · simp [e]
/-- an &1 is 0 or 1 -/
theorem b_and1 (x : Int32) : (x &&& 1) = 1 ↔ ¬ (x &&& 1) = 0 := by
  have h : x &&& 1 = 0 ∨ x &&& 1 = 1 := by
    cases e : bt x 0
    · left
      refine b_ext (fun i hi => ?_)
      rw [b_and, b_1, b_0]
      by_cases z : i = 0
      · subst z; simp [e]
      · simp [z]
    · right
      refine b_ext (fun i hi => ?_)
      rw [b_and, b_1]
      by_cases z : i = 0
      · subst z; simp [e]
      · simp [z]
  rcases h with h | h <;> rw [h] <;> decide
theorem b_sub {x y : Int32} : (x &&& (y ^^^ (-1))) = 0 ↔ y ||| x = y := by
  constructor
  · intro h
    refine b_ext (fun i hi => ?_)
    have h1 := congrArg (fun z => bt z i) h
    simp only [b_and, b_xor, b_m1 i hi, b_0] at h1
    rw [b_or]
    revert h1
    cases bt x i <;> cases bt y i <;> decide
  · intro h
    refine b_ext (fun i hi => ?_)
    have h1 := congrArg (fun z => bt z i) h
    simp only [b_or] at h1
    rw [b_and, b_xor, b_m1 i hi, b_0]
    revert h1
    cases bt x i <;> cases bt y i <;> decide
/-- a set with a bit more is another set -/
theorem b_new {x y : Int32} (h : ¬ x ||| y = x) : ∃ i, i < 32 ∧ bt y i = true ∧ bt x i = false := by
  refine Classical.byContradiction (fun hn => h (b_ext (fun i hi => ?_)))
  rw [b_or]
  cases e1 : bt x i
  · cases e2 : bt y i
    · rfl
    · exact absurd ⟨i, hi, e2, e1⟩ hn
  · rfl
theorem b_old {x y : Int32} (h : x ||| y = x) {i : Nat} (hy : bt y i = true) : bt x i = true := by
  have h1 := congrArg (fun z => bt z i) h
  simp only [b_or, hy, Bool.or_true] at h1
  exact h1.symm
theorem b_lt {x : Int32} {i : Nat} (h : bt x i = true) : i < 32 := Nat.lt_of_not_le (fun q => by rw [b_big q] at h; cases h)
def bl (x : Int64) (i : Nat) : Bool := x.toBitVec.getLsbD i
theorem l_ext {x y : Int64} (h : ∀ i, i < 64 → bl x i = bl y i) : x = y := Int64.toBitVec_inj.mp (BitVec.eq_of_getLsbD_eq (fun i hi => h i hi))
theorem l_or (x y : Int64) (i : Nat) : bl (x ||| y) i = (bl x i || bl y i) := by unfold bl; rw [Int64.toBitVec_or, BitVec.getLsbD_or]
theorem l_and (x y : Int64) (i : Nat) : bl (x &&& y) i = (bl x i && bl y i) := by unfold bl; rw [Int64.toBitVec_and, BitVec.getLsbD_and]
theorem l_xor (x y : Int64) (i : Nat) : bl (x ^^^ y) i = (bl x i ^^ bl y i) := by unfold bl; rw [Int64.toBitVec_xor, BitVec.getLsbD_xor]
theorem l_big {x : Int64} {i : Nat} (h : 64 ≤ i) : bl x i = false := BitVec.getLsbD_of_ge _ _ h
theorem l_m1 : ∀ i, i < 64 → bl (-1) i = true := by decide +kernel
theorem l_0 (i : Nat) : bl 0 i = false := BitVec.getLsbD_zero
theorem l_1 (i : Nat) : bl 1 i = decide (i = 0) := by
  rcases Nat.lt_or_ge i 64 with h | h
  · exact (by decide +kernel : ∀ i, i < 64 → bl 1 i = decide (i = 0)) i h
  · rw [l_big h, decide_eq_false (by omega)]
theorem s_u64 : ∀ n, n < 64 → (((nI n).toInt64.toUInt64 &&& Int64.toUInt64 63).toBitVec % 64).toNat = n := by decide +kernel
theorem l_ushr (n : Nat) (hn : n < 64) (x : Int64) (i : Nat) : bl ((x.toUInt64 >>> ((nI n).toInt64.toUInt64 &&& Int64.toUInt64 63)).toInt64) i = bl x (n + i) := by
  show (x.toUInt64 >>> ((nI n).toInt64.toUInt64 &&& Int64.toUInt64 63)).toBitVec.getLsbD i = x.toUInt64.toBitVec.getLsbD (n + i)
  rw [UInt64.toBitVec_shiftRight]
  show (x.toUInt64.toBitVec >>> (((nI n).toInt64.toUInt64 &&& Int64.toUInt64 63).toBitVec % 64).toNat).getLsbD i = _
  rw [s_u64 n hn, BitVec.getLsbD_ushiftRight]
theorem l_one (n : Nat) (hn : n < 64) (i : Nat) : bl (1 <<< ((nI n).toInt64 &&& 63)) i = decide (i = n) := by
  rcases Nat.lt_or_ge i 64 with h | h
  · exact (by decide +kernel : ∀ n, n < 64 → ∀ i, i < 64 → bl (1 <<< ((nI n).toInt64 &&& 63)) i = decide (i = n)) n hn i h
  · rw [l_big h, decide_eq_false (by omega)]
theorem l_has {x : Int64} {n : Nat} (hn : n < 64) : ((x.toUInt64 >>> ((nI n).toInt64.toUInt64 &&& Int64.toUInt64 63)).toInt64 &&& 1) = 0 ↔ bl x n = false := by
  constructor
  · intro h
    have h1 := congrArg (fun y => bl y 0) h
    simp only [l_and, l_ushr n hn, l_1, l_0] at h1
    simpa using h1
  · intro h
    refine l_ext (fun i hi => ?_)
    rw [l_and, l_ushr n hn, l_1, l_0]
    by_cases e : i = 0
    · subst e
      simp [h]
    · simp [e]
theorem l_and1 (x : Int64) : (x &&& 1) = 1 ↔ ¬ (x &&& 1) = 0 := by
  have h : x &&& 1 = 0 ∨ x &&& 1 = 1 := by
    cases e : bl x 0
    · left
      refine l_ext (fun i hi => ?_)
      rw [l_and, l_1, l_0]
      by_cases z : i = 0
      · subst z; simp [e]
      · simp [z]
    · right
      refine l_ext (fun i hi => ?_)
      rw [l_and, l_1]
      by_cases z : i = 0
      · subst z; simp [e]
      · simp [z]
  rcases h with h | h <;> rw [h] <;> decide
theorem l_sub {x y : Int64} : (x &&& (y ^^^ (-1))) = 0 ↔ y ||| x = y := by
  constructor
  · intro h
    refine l_ext (fun i hi => ?_)
    have h1 := congrArg (fun z => bl z i) h
    simp only [l_and, l_xor, l_m1 i hi, l_0] at h1
    rw [l_or]
    revert h1
    cases bl x i <;> cases bl y i <;> decide
  · intro h
    refine l_ext (fun i hi => ?_)
    have h1 := congrArg (fun z => bl z i) h
    simp only [l_or] at h1
    rw [l_and, l_xor, l_m1 i hi, l_0]
    revert h1
    cases bl x i <;> cases bl y i <;> decide
theorem l_new {x y : Int64} (h : ¬ x ||| y = x) : ∃ i, i < 64 ∧ bl y i = true ∧ bl x i = false := by
  refine Classical.byContradiction (fun hn => h (l_ext (fun i hi => ?_)))
  rw [l_or]
  cases e1 : bl x i
  · cases e2 : bl y i
    · rfl
    · exact absurd ⟨i, hi, e2, e1⟩ hn
  · rfl
theorem l_old {x y : Int64} (h : x ||| y = x) {i : Nat} (hy : bl y i = true) : bl x i = true := by
  have h1 := congrArg (fun z => bl z i) h
  simp only [l_or, hy, Bool.or_true] at h1
  exact h1.symm
theorem l_lt {x : Int64} {i : Nat} (h : bl x i = true) : i < 64 := Nat.lt_of_not_le (fun q => by rw [l_big q] at h; cases h)
/-- the analysis's sets out of its words -/
def ofw (P : Nat → Int32) (Q : Nat → Int64) (S : Int64) (F : Nat → Int32) (R : Int32) : AX := (fun s b => s < 192 ∧ bt (P s) b = true, fun s b => s < 192 ∧ bl (Q s) b = true, fun b => bl S b = true, fun s b => s < 8 ∧ bt (F s) b = true, fun b => bt R b = true)
theorem ofw.fin (P : Nat → Int32) (Q : Nat → Int64) (S : Int64) (F : Nat → Int32) (R : Int32) : afin (ofw P Q S F R) := ⟨fun _ _ h => ⟨h.1, b_lt h.2⟩, fun _ _ h => ⟨h.1, l_lt h.2⟩, fun _ h => l_lt h, fun _ _ h => ⟨h.1, b_lt h.2⟩, fun _ h => b_lt h⟩
theorem upd_self (f : Nat → Int32) (k : Nat) (x : Int32) : upd f k x k = x := by simp [upd]
theorem upd_ne (f : Nat → Int32) {k j : Nat} (x : Int32) (h : ¬ j = k) : upd f k x j = f j := by simp [upd, h]
theorem updL_self (f : Nat → Int64) (k : Nat) (x : Int64) : vp_updL f k x k = x := by simp [vp_updL]
theorem updL_ne (f : Nat → Int64) {k j : Nat} (x : Int64) (h : ¬ j = k) : vp_updL f k x j = f j := by simp [vp_updL, h]
section OFW
variable {P : Nat → Int32} {Q : Nat → Int64} {S : Int64} {F : Nat → Int32} {R : Int32}
def awid (s : Nat) (c : Int32) (p : Int64) (_ Y : AX) : Prop := (∀ b, bt c b = true → Y.1 s b) ∧ ∀ b, bl p b = true → Y.2.1 s b
theorem awid.amon (s : Nat) (c : Int32) (p : Int64) : amon (awid s c p) := fun _ _ _ _ _ b q => ⟨fun x hx => b.1 _ _ (q.1 x hx), fun x hx => b.2.1 _ _ (q.2 x hx)⟩
theorem apc.widS {s : Nat} (hs : s < 192) {c : Int32} {p : Int64} (g : Bool) (h1 : P s ||| c = P s) (h2 : Q s ||| p = Q s) : apc (awid s c p) g (ofw P Q S F R) g (ofw P Q S F R) :=
  ⟨ale.rf _, fun _ h _ => h, ⟨fun b hb => ⟨hs, b_old h1 hb⟩, fun b hb => ⟨hs, l_old h2 hb⟩⟩, afl.rf _ _⟩
theorem apc.widN {s : Nat} (hs : s < 192) {c : Int32} {p : Int64} (g : Bool) (h : ¬ P s ||| c = P s ∨ ¬ Q s ||| p = Q s) : apc (awid s c p) g (ofw P Q S F R) true (ofw (upd P s (P s ||| c)) (vp_updL Q s (Q s ||| p)) S F R) := by
  have eP : ∀ t b, bt (upd P s (P s ||| c) t) b = true ↔ bt (P t) b = true ∨ (t = s ∧ bt c b = true) := by
    intro t b
    by_cases e : t = s
    · subst e
      rw [upd_self, b_or]
      simp
    · rw [upd_ne _ _ e]
      simp [e]
  have eQ : ∀ t b, bl (vp_updL Q s (Q s ||| p) t) b = true ↔ bl (Q t) b = true ∨ (t = s ∧ bl p b = true) := by
    intro t b
    by_cases e : t = s
    · subst e
      rw [updL_self, l_or]
      simp
    · rw [updL_ne _ _ e]
      simp [e]
  refine ⟨⟨fun t b q => ⟨q.1, (eP t b).mpr (Or.inl q.2)⟩, fun t b q => ⟨q.1, (eQ t b).mpr (Or.inl q.2)⟩, fun _ q => q, fun _ _ q => q, fun _ q => q⟩, fun Z hZ hN => ⟨fun t b q => ?_, fun t b q => ?_, hZ.2.2.1, hZ.2.2.2.1, hZ.2.2.2.2⟩, ⟨fun b hb => ⟨hs, (eP s b).mpr (Or.inr ⟨rfl, hb⟩)⟩, fun b hb => ⟨hs, (eQ s b).mpr (Or.inr ⟨rfl, hb⟩)⟩⟩, fun _ => Or.inr (fun hY => ?_), fun e => absurd e (by decide)⟩
  · rcases (eP t b).mp q.2 with h1 | ⟨rfl, h1⟩
    · exact hZ.1 t b ⟨q.1, h1⟩
    · exact hN.1 b h1
  · rcases (eQ t b).mp q.2 with h1 | ⟨rfl, h1⟩
    · exact hZ.2.1 t b ⟨q.1, h1⟩
    · exact hN.2 b h1
  · rcases h with h | h
    · obtain ⟨i, -, h1, h2⟩ := b_new h
      have := (hY.1 s i ⟨hs, (eP s i).mpr (Or.inr ⟨rfl, h1⟩)⟩).2
      rw [h2] at this
      cases this
    · obtain ⟨i, -, h1, h2⟩ := l_new h
      have := (hY.2.1 s i ⟨hs, (eQ s i).mpr (Or.inr ⟨rfl, h1⟩)⟩).2
      rw [h2] at this
      cases this
def asta (q : Nat) (_ Y : AX) : Prop := Y.2.2.1 q
theorem asta.amon (q : Nat) : amon (asta q) := fun _ _ _ _ _ b h => b.2.2.1 _ h
theorem apc.staS {q : Nat} (g : Bool) (h : bl S q = true) : apc (asta q) g (ofw P Q S F R) g (ofw P Q S F R) := ⟨ale.rf _, fun _ h _ => h, h, afl.rf _ _⟩
theorem apc.staN {q : Nat} (hq : q < 64) (g : Bool) {v : Int64} (hv : ∀ i, bl v i = decide (i = q)) (h : bl S q = false) : apc (asta q) g (ofw P Q S F R) true (ofw P Q (S ||| v) F R) := by
  have e : ∀ i, bl (S ||| v) i = true ↔ bl S i = true ∨ i = q := by
    intro i
    rw [l_or, hv]
    simp
  refine ⟨⟨fun _ _ q => q, fun _ _ q => q, fun b q => (e b).mpr (Or.inl q), fun _ _ q => q, fun _ q => q⟩, fun Z hZ hN => ⟨hZ.1, hZ.2.1, fun b q => ?_, hZ.2.2.2.1, hZ.2.2.2.2⟩, (e q).mpr (Or.inr rfl), fun _ => Or.inr (fun hY => ?_), fun z => absurd z (by decide)⟩
  · rcases (e b).mp q with h1 | rfl
    · exact hZ.2.2.1 b h1
    · exact hN
  · have := hY.2.2.1 q ((e q).mpr (Or.inr rfl))
    have h2 : bl S q = true := this
    rw [h] at h2
    cases h2
def aflo (l m : Nat) (_ Y : AX) : Prop := Y.2.2.2.1 l m
theorem aflo.amon (l m : Nat) : amon (aflo l m) := fun _ _ _ _ _ b h => b.2.2.2.1 _ _ h
theorem apc.flo {l m : Nat} (hl : l < 8) (g g' : Bool) {v : Int32} (hv : ∀ i, bt v i = decide (i = m)) (hg : g' = g ∨ (g' = true ∧ bt (F l) m = false)) : apc (aflo l m) g (ofw P Q S F R) g' (ofw P Q S (upd F l (F l ||| v)) R) := by
  have e : ∀ t i, bt (upd F l (F l ||| v) t) i = true ↔ bt (F t) i = true ∨ (t = l ∧ i = m) := by
    intro t i
    by_cases e : t = l
    · subst e
      rw [upd_self, b_or, hv]
      simp
    · rw [upd_ne _ _ e]
      simp [e]
  refine ⟨⟨fun _ _ q => q, fun _ _ q => q, fun _ q => q, fun t b q => ⟨q.1, (e t b).mpr (Or.inl q.2)⟩, fun _ q => q⟩, fun Z hZ hN => ⟨hZ.1, hZ.2.1, hZ.2.2.1, fun t b q => ?_, hZ.2.2.2.2⟩, ⟨hl, (e l m).mpr (Or.inr ⟨rfl, rfl⟩)⟩, fun z => ?_, fun z => ?_⟩
  · rcases (e t b).mp q.2 with h1 | ⟨rfl, rfl⟩
    · exact hZ.2.2.2.1 t b ⟨q.1, h1⟩
    · exact hN
  · rcases hg with hg | ⟨_, hg⟩
    · exact Or.inl (hg ▸ z)
    · refine Or.inr (fun hY => ?_)
      have := (hY.2.2.2.1 l m ⟨hl, (e l m).mpr (Or.inr ⟨rfl, rfl⟩)⟩).2
      rw [hg] at this
      cases this
  · rcases hg with hg | ⟨hg, _⟩
    · exact ⟨hg ▸ z, rfl, rfl, rfl⟩
    · rw [hg] at z
      cases z
def aans (C : Nat → Prop) (_ Y : AX) : Prop := ∀ b, C b → Y.2.2.2.2 b
theorem aans.amon (C : Nat → Prop) : amon (aans C) := fun _ _ _ _ _ b h x hx => b.2.2.2.2 _ (h x hx)
theorem apc.ans (g g' : Bool) {v : Int32} (hg : g' = g ∨ (g' = true ∧ ¬ R ||| v = R)) : apc (aans (fun b => bt v b = true)) g (ofw P Q S F R) g' (ofw P Q S F (R ||| v)) := by
  have e : ∀ i, bt (R ||| v) i = true ↔ bt R i = true ∨ bt v i = true := by
    intro i
    rw [b_or]
    simp
  refine ⟨⟨fun _ _ q => q, fun _ _ q => q, fun _ q => q, fun _ _ q => q, fun b q => (e b).mpr (Or.inl q)⟩, fun Z hZ hN => ⟨hZ.1, hZ.2.1, hZ.2.2.1, hZ.2.2.2.1, fun b q => ?_⟩, fun b hb => (e b).mpr (Or.inr hb), fun z => ?_, fun z => ?_⟩
  · rcases (e b).mp q with h1 | h1
    · exact hZ.2.2.2.2 b h1
    · exact hN b h1
  · rcases hg with hg | ⟨_, hg⟩
    · exact Or.inl (hg ▸ z)
    · refine Or.inr (fun hY => ?_)
      obtain ⟨i, -, h1, h2⟩ := b_new hg
      have h3 : bt R i = true := hY.2.2.2.2 i ((e i).mpr (Or.inr h1))
      rw [h2] at h3
      cases h3
  · rcases hg with hg | ⟨hg, _⟩
    · exact ⟨hg ▸ z, rfl, rfl, rfl⟩
    · rw [hg] at z
      cases z
end OFW
