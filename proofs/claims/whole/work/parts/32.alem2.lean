/-! Rows for applyDirectly, loadOperand, loadSums -/
theorem apc.nextA {N0 : AX → AX → Prop} {N : Nat → AX → AX → Prop} (h0 : amon N0) (hN : ∀ i, amon (N i)) {g g1 g2 : Bool} {X Y Z : AX} {i : Nat} (h : apc (fun X Y => N0 X Y ∧ ∀ j, j < i → N j X Y) g X g1 Y) (k : apc (N i) g1 Y g2 Z) : apc (fun X Y => N0 X Y ∧ ∀ j, j < i + 1 → N j X Y) g X g2 Z := by
  refine apc.conv (apc.seq (amon.and h0 (amon.all (fun j => (hN j).imp))) (hN i) h k) (fun Z _ hz => ⟨⟨hz.1, fun j hj => hz.2 j (by omega)⟩, hz.2 i (by omega)⟩) (fun hz => ⟨hz.1.1, fun j hj => ?_⟩)
  rcases Nat.lt_succ_iff_lt_or_eq.mp hj with h1 | rfl
  · exact hz.1.2 j h1
  · exact hz.2
theorem apc.zeroA {N0 : AX → AX → Prop} {N : Nat → AX → AX → Prop} {g g1 : Bool} {X Y : AX} (h : apc N0 g X g1 Y) : apc (fun X Y => N0 X Y ∧ ∀ j, j < 0 → N j X Y) g X g1 Y := h.conv (fun _ _ q => q.1) (fun q => ⟨q, fun j hj => absurd hj (Nat.not_lt_zero j)⟩)
theorem b_8192 (i : Nat) : bt (nI 8192) i = decide (i = 13) := by
  rcases Nat.lt_or_ge i 32 with h | h
  · exact (by decide +kernel : ∀ i, i < 32 → bt (nI 8192) i = decide (i = 13)) i h
  · rw [b_big h, decide_eq_false (by omega)]
theorem b_n0 (i : Nat) : bt (nI 0) i = false := by rw [nI_0]; exact b_0 i
theorem b_1023 (i : Nat) : bt (nI 1023) i = decide (i < 10) := by
  rcases Nat.lt_or_ge i 32 with h | h
  · exact (by decide +kernel : ∀ i, i < 32 → bt (nI 1023) i = decide (i < 10)) i h
  · rw [b_big h, decide_eq_false (by omega)]
theorem l_ne0 {p : Int64} (h : ¬ p = 0) : ∃ b, bl p b = true := by
  refine Classical.byContradiction (fun hn => h (l_ext (fun i _ => ?_)))
  rw [l_0]
  exact Bool.of_not_eq_true (fun q => hn ⟨i, q⟩)
theorem b_ne0 {p : Int32} (h : ¬ p = 0) : ∃ b, bt p b = true := by
  refine Classical.byContradiction (fun hn => h (b_ext (fun i _ => ?_)))
  rw [b_0]
  exact Bool.of_not_eq_true (fun q => hn ⟨i, q⟩)
section RES
variable {P : Nat → Int32} {Q : Nat → Int64} {S : Int64} {F : Nat → Int32} {R : Int32}
theorem apc.res {g : Bool} {c d : Int32} {B : Nat → Prop} (hd : ∀ b, bt d b = true ↔ (∃ q, B q) ∧ b = 13) : apc (fun _ Y => ares (fun b => bt c b = true) B Y) g (ofw P Q S F R) g (ofw P Q S F ((R ||| c) ||| d)) := by
  refine (apc.seq (aans.amon _) (aans.amon _) (apc.ans g g (v := c) (Or.inl rfl)) (apc.ans g g (v := d) (Or.inl rfl))).conv (fun Z _ q => ⟨q.1, fun b hb => ?_⟩) (fun q => ⟨q.1, fun hb => q.2 13 ((hd 13).mpr ⟨hb, rfl⟩)⟩)
  obtain ⟨h1, rfl⟩ := (hd b).mp hb
  exact q.2 h1
theorem apc.res0 {g : Bool} {c : Int32} {p : Int64} (h : p = 0) : apc (fun _ Y => ares (fun b => bt c b = true) (fun b => bl p b = true) Y) g (ofw P Q S F R) g (ofw P Q S F ((R ||| c) ||| nI 0)) := by
  refine apc.res (fun b => ?_)
  rw [b_n0, h]
  constructor
  · intro q
    cases q
  · intro q
    obtain ⟨⟨z, hz⟩, _⟩ := q
    rw [l_0] at hz
    cases hz
theorem apc.res1 {g : Bool} {c : Int32} {p : Int64} (h : ¬ p = 0) : apc (fun _ Y => ares (fun b => bt c b = true) (fun b => bl p b = true) Y) g (ofw P Q S F R) g (ofw P Q S F ((R ||| c) ||| nI 8192)) := by
  refine apc.res (fun b => ?_)
  rw [b_8192]
  exact ⟨fun q => ⟨l_ne0 h, of_decide_eq_true q⟩, fun q => decide_eq_true q.2⟩
end RES
/-- the pair j of the operator's set -/
def adj (par : Nat → Int32) (prm : Nat → Nat) (l to k : Nat) (O : Int64) (C B : Nat → Nat → Prop) (j : Nat) (X Y : AX) : Prop := bl O j = true → prm (j / 8) = k → acall (anc par) prm l (j / 8) (j % 8) to C B X Y
theorem adj.amon (par : Nat → Int32) (prm : Nat → Nat) (l to k : Nat) (O : Int64) (C B : Nat → Nat → Prop) (j : Nat) : amon (adj par prm l to k O C B j) := fun X0 X Y Z a b q h1 h2 => acall.amon _ _ _ _ _ _ _ _ X0 X Y Z a b (q h1 h2)
/-- what applying the operand set (O, halt) comes to -/
def adir (cnt : Nat) (par : Nat → Int32) (prm : Nat → Nat) (l to k : Nat) (oc : Int32) (O : Int64) (fc : Int32) (fp : Int64) (C B : Nat → Nat → Prop) (X Y : AX) : Prop := (k = 1 → bt oc 10 = true → ares (fun b => bt fc b = true) (fun b => bl fp b = true) Y) ∧ acalls cnt (anc par) prm l to k (fun b => bl O b = true) C B X Y
theorem adir.amon (cnt : Nat) (par : Nat → Int32) (prm : Nat → Nat) (l to k : Nat) (oc : Int32) (O : Int64) (fc : Int32) (fp : Int64) (C B : Nat → Nat → Prop) : amon (adir cnt par prm l to k oc O fc fp C B) := fun X0 X Y Z a b q => ⟨fun h1 h2 => ares.amon _ _ X0 X Y Z a b (q.1 h1 h2), acalls.amon _ _ _ _ _ _ _ _ _ X0 X Y Z a b q.2⟩
theorem adir.of {cnt : Nat} {par : Nat → Int32} {prm : Nat → Nat} {l to k : Nat} {oc : Int32} {O : Int64} {fc : Int32} {fp : Int64} {C B : Nat → Nat → Prop} {g g' : Bool} {X Y : AX} (hO : ∀ q, bl O q = true → q < 8 * cnt) (h8 : cnt ≤ 8)
    (h : apc (fun X Y => (k = 1 → bt oc 10 = true → ares (fun b => bt fc b = true) (fun b => bl fp b = true) Y) ∧ ∀ j, j < 64 → adj par prm l to k O C B j X Y) g X g' Y) : apc (adir cnt par prm l to k oc O fc fp C B) g X g' Y := by
  refine h.conv (fun Z _ q => ⟨q.1, fun j hj hb hp => ?_⟩) (fun q => ⟨q.1, fun m e hm he hb hp => ?_⟩)
  · have h1 := hO j hb
    refine q.2 (j / 8) (j % 8) (by omega) (by omega) ?_ hp
    show bl O (8 * (j / 8) + j % 8) = true
    rw [show 8 * (j / 8) + j % 8 = j by omega]
    exact hb
  · have z := q.2 (8 * m + e) (by omega) hb
    rw [show (8 * m + e) / 8 = m by omega, show (8 * m + e) % 8 = e by omega] at z
    exact z hp
theorem sum_bits {f : Int32} {i : Nat} (hi : i < 10) (hf : ∀ y, bt f y = true → y < 10) (b : Nat) : bt (((f <<< (nI i &&& 31)) ||| ((f <<< (nI i &&& 31)).toUInt32 >>> ((nI 10).toUInt32 &&& Int32.toUInt32 31)).toInt32) &&& nI 1023) b = true ↔ ∃ y, y < 10 ∧ bt f y = true ∧ b = (i + y) % 10 := by
  rw [b_and, b_or, b_ushr 10 (by omega), b_1023]
  constructor
  · intro q
    obtain ⟨q1, q2⟩ := Bool.and_eq_true_iff.mp q
    have q2 := of_decide_eq_true q2
    rw [b_shl i (by omega) f (by omega), b_shl i (by omega) f (by omega)] at q1
    rcases Bool.or_eq_true_iff.mp q1 with q3 | q3
    · obtain ⟨q4, q5⟩ := Bool.and_eq_true_iff.mp q3
      have q4 := of_decide_eq_true q4
      exact ⟨b - i, by omega, q5, by omega⟩
    · obtain ⟨q4, q5⟩ := Bool.and_eq_true_iff.mp q3
      have := hf _ q5
      exact ⟨10 + b - i, by omega, q5, by omega⟩
  · intro q
    obtain ⟨y, y1, y2, y3⟩ := q
    have hb : b < 10 := by omega
    rw [b_shl i (by omega) f (by omega), b_shl i (by omega) f (by omega)]
    refine Bool.and_eq_true_iff.mpr ⟨Bool.or_eq_true_iff.mpr ?_, decide_eq_true hb⟩
    by_cases h : i + y < 10
    · refine Or.inl (Bool.and_eq_true_iff.mpr ⟨decide_eq_true (by omega), ?_⟩)
      rw [show b - i = y by omega]
      exact y2
    · refine Or.inr (Bool.and_eq_true_iff.mpr ⟨decide_eq_true (by omega), ?_⟩)
      rw [show 10 + b - i = y by omega]
      exact y2
/-- what loadOperand leaves in the operand i -/
def ldok (atm : Nat → Nat) (X : AX) (l c i : Nat) (oc : Int32) (op : Int64) : Prop := (∀ b, bt oc b = true ↔ an_c atm X l c i b) ∧ ∀ b, bl op b = true ↔ an_p atm X l c i b
section LD
variable {P : Nat → Int32} {Q : Nat → Int64} {S : Int64} {F : Nat → Int32} {R : Int32} {atm : Nat → Nat} {l c i : Nat}
theorem ldok.par (h1 : 100 ≤ atm (4 * l + i)) (h2 : atm (4 * l + i) < 180) (hs : sl ((atm (4 * l + i) - 100) / 10) ((atm (4 * l + i) - 100) % 10) c < 192) : ldok atm (ofw P Q S F R) l c i (P (sl ((atm (4 * l + i) - 100) / 10) ((atm (4 * l + i) - 100) % 10) c)) (Q (sl ((atm (4 * l + i) - 100) / 10) ((atm (4 * l + i) - 100) % 10) c)) := by
  refine ⟨fun b => ⟨fun q => Or.inr (Or.inr ⟨h1, by omega, hs, q⟩), fun q => ?_⟩, fun b => ⟨fun q => Or.inr ⟨h1, by omega, hs, q⟩, fun q => ?_⟩⟩
  · rcases q with q | q | q
    · omega
    · omega
    · exact q.2.2.2
  · rcases q with q | q
    · omega
    · exact q.2.2.2
theorem ldok.lam (h1 : 200 ≤ atm (4 * l + i)) (h2 : atm (4 * l + i) < 208) (hc : c < 8) : ldok atm (ofw P Q S F R) l c i (nI 0) (lP (8 * (atm (4 * l + i) - 200) + c)) := by
  refine ⟨fun b => ⟨fun q => ?_, fun q => ?_⟩, fun b => ?_⟩
  · rw [b_n0] at q
    cases q
  · rcases q with q | q | q <;> omega
  · rw [lP_bl (by omega)]
    constructor
    · intro q
      exact Or.inl ⟨h1, by omega, of_decide_eq_true q⟩
    · intro q
      rcases q with q | q
      · exact decide_eq_true q.2.2
      · omega
theorem ldok.con (h : atm (4 * l + i) < 10 ∨ (300 ≤ atm (4 * l + i) ∧ atm (4 * l + i) ≤ 302)) : ldok atm (ofw P Q S F R) l c i (nI 1 <<< (nI (cbit (atm (4 * l + i))) &&& 31)) 0 := by
  have hb : cbit (atm (4 * l + i)) < 32 := by
    unfold cbit
    split <;> omega
  refine ⟨fun b => ?_, fun b => ⟨fun q => ?_, fun q => ?_⟩⟩
  · show bt (1 <<< (nI (cbit (atm (4 * l + i))) &&& 31)) b = true ↔ _
    rw [b_one _ hb]
    unfold cbit an_c
    constructor
    · intro q
      have q := of_decide_eq_true q
      split at q
      · exact Or.inl ⟨by assumption, q⟩
      · exact Or.inr (Or.inl ⟨by omega, q⟩)
    · intro q
      refine decide_eq_true ?_
      rcases q with q | q | q
      · rw [if_pos q.1]
        exact q.2
      · rw [if_neg (by omega)]
        exact q.2
      · omega
  · rw [l_0] at q
    cases q
  · rcases q with q | q <;> omega
end LD
theorem sum_next {f1 f2 s : Int32} {i : Nat} (hs : ∀ b, bt s b = true ↔ ∃ x, x < i ∧ bt f1 x = true ∧ ∃ y, y < 10 ∧ bt f2 y = true ∧ b = (x + y) % 10) (h1 : bt f1 i = true) (hi : i < 10) (h2 : ∀ y, bt f2 y = true → y < 10) : ∀ b, bt (s ||| (((f2 <<< (nI i &&& 31)) ||| ((f2 <<< (nI i &&& 31)).toUInt32 >>> ((nI 10).toUInt32 &&& Int32.toUInt32 31)).toInt32) &&& nI 1023)) b = true ↔ ∃ x, x < i + 1 ∧ bt f1 x = true ∧ ∃ y, y < 10 ∧ bt f2 y = true ∧ b = (x + y) % 10 := by
  intro b
  rw [b_or, Bool.or_eq_true_iff, hs b, sum_bits hi h2 b]
  constructor
  · intro q
    rcases q with ⟨x, q1, q2, q3⟩ | q
    · exact ⟨x, by omega, q2, q3⟩
    · exact ⟨i, by omega, h1, q⟩
  · intro q
    obtain ⟨x, q1, q2, q3⟩ := q
    by_cases e : x = i
    · subst e
      exact Or.inr q3
    · exact Or.inl ⟨x, by omega, q2, q3⟩
theorem sum_same {f1 f2 s : Int32} {i : Nat} (hs : ∀ b, bt s b = true ↔ ∃ x, x < i ∧ bt f1 x = true ∧ ∃ y, y < 10 ∧ bt f2 y = true ∧ b = (x + y) % 10) (h1 : bt f1 i = false) : ∀ b, bt s b = true ↔ ∃ x, x < i + 1 ∧ bt f1 x = true ∧ ∃ y, y < 10 ∧ bt f2 y = true ∧ b = (x + y) % 10 := by
  intro b
  rw [hs b]
  constructor
  · intro q
    obtain ⟨x, q1, q2, q3⟩ := q
    exact ⟨x, by omega, q2, q3⟩
  · intro q
    obtain ⟨x, q1, q2, q3⟩ := q
    by_cases e : x = i
    · subst e
      rw [h1] at q2
      cases q2
    · exact ⟨x, by omega, q2, q3⟩
theorem sum_asum {f1 f2 s : Int32} (hs : ∀ b, bt s b = true ↔ ∃ x, x < 10 ∧ bt f1 x = true ∧ ∃ y, y < 10 ∧ bt f2 y = true ∧ b = (x + y) % 10) : ∀ b, bt s b = true ↔ asum (fun x => bt f1 x = true) (fun y => bt f2 y = true) b := by
  intro b
  rw [hs b]
  constructor
  · intro q
    obtain ⟨x, q1, q2, y, q3, q4, q5⟩ := q
    exact ⟨x, y, q1, q3, q2, q4, q5⟩
  · intro q
    obtain ⟨x, y, q1, q3, q2, q4, q5⟩ := q
    exact ⟨x, q1, q2, y, q3, q4, q5⟩
theorem bno {b : Bool} {p : Prop} (h : b = false) (q : b = true) : p := by
  rw [h] at q
  cases q
