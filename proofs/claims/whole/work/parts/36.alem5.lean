/-! Rows for make and the reads of the analysis -/
def popL (x : Int64) : Nat := popN x.toBitVec.toNat 64
def orf (f : Nat → Int32) : Nat → Int32
  | 0 => nI 0
  | n + 1 => orf f n ||| f n
def orl (f : Nat → Int64) : Nat → Int64
  | 0 => 0
  | n + 1 => orl f n ||| f n
theorem orl_bl (f : Nat → Int64) (b : Nat) : ∀ n, bl (orl f n) b = true ↔ ∃ c, c < n ∧ bl (f c) b = true
  | 0 => by
    constructor
    · intro q
      have q : bl 0 b = true := q
      rw [l_0] at q
      cases q
    · intro q
      obtain ⟨c, hc, _⟩ := q
      omega
  | n + 1 => by
    show bl (orl f n ||| f n) b = true ↔ _
    rw [l_or, Bool.or_eq_true_iff, orl_bl f b n]
    constructor
    · intro q
      rcases q with ⟨c, h1, h2⟩ | q
      · exact ⟨c, by omega, h2⟩
      · exact ⟨n, by omega, q⟩
    · intro q
      obtain ⟨c, h1, h2⟩ := q
      by_cases e : c = n
      · subst e
        exact Or.inr h2
      · exact Or.inl ⟨c, by omega, h2⟩
theorem toI_bt (x : Int64) (i : Nat) (hi : i < 32) : bt x.toInt32 i = bl x i := by
  unfold bt bl
  rw [Int64.toBitVec_toInt32, BitVec.signExtend_eq_setWidth_of_le _ (by omega), BitVec.getLsbD_setWidth]
  simp [hi]
theorem b_255 (i : Nat) : bt (nI 255) i = decide (i < 8) := by
  rcases Nat.lt_or_ge i 32 with h | h
  · exact (by decide +kernel : ∀ i, i < 32 → bt (nI 255) i = decide (i < 8)) i h
  · rw [b_big h, decide_eq_false (by omega)]
theorem cin_bt {p : Int64} {m : Nat} (hm : m < 8) (i : Nat) : bt (cin p m) i = true ↔ i < 8 ∧ bl p (8 * m + i) = true := by
  unfold cin
  rw [b_and, b_255, Bool.and_eq_true_iff]
  constructor
  · intro q
    have h := of_decide_eq_true q.2
    refine ⟨h, ?_⟩
    have q1 := q.1
    rw [toI_bt _ i (by omega), l_ushr (8 * m) (by omega)] at q1
    exact q1
  · intro q
    refine ⟨?_, decide_eq_true q.1⟩
    rw [toI_bt _ i (by omega), l_ushr (8 * m) (by omega)]
    exact q.2
theorem cin_ne {p : Int64} {m : Nat} (hm : m < 8) : (¬ cin p m = 0) ↔ ∃ e, e < 8 ∧ bl p (8 * m + e) = true := by
  constructor
  · intro q
    obtain ⟨b, hb⟩ := b_ne0 q
    exact ⟨b, (cin_bt hm b).mp hb⟩
  · intro q z
    obtain ⟨e, he⟩ := q
    have h := (cin_bt hm e).mpr he
    rw [z, b_0] at h
    cases h
/-- which lambdas are in the pairs of a parameter -/
def clos (Q : Nat → Int64) (l i m : Nat) : Prop := ∃ c e, c < 8 ∧ e < 8 ∧ bl (Q (sl l i c)) (8 * m + e) = true
theorem snd_full {cnt : Nat} {par : Nat → Int32} {prm siz atm : Nat → Nat} {k : Nat} (hw : pwf cnt par prm siz atm) {X : AX} (h : ∀ Z, aclosed cnt (anc par) prm siz atm k Z → ale X Z) : ale X (afull cnt) := h _ (afull.closed hw.1 hw.2.1 hw.awf)
theorem apassS {cnt : Nat} {par : Nat → Int32} {prm siz atm : Nat → Nat} {k s : Nat} {g : Bool} {X Y : AX} (hX : ∀ Z, aclosed cnt (anc par) prm siz atm k Z → ale X Z) (h : apc (fun X Y => ∀ j, j < s → apassN cnt (anc par) prm siz atm k j X Y) false X g Y) : ∀ Z, aclosed cnt (anc par) prm siz atm k Z → ale Y Z := by
  intro Z hZ
  refine h.2.1 Z (hX Z hZ) (fun j _ h1 h2 h3 => ?_)
  refine hZ.2 (j / 8) (j % 8) h1 (by omega) ?_ h3
  rw [show 8 * (j / 8) + j % 8 = j by omega]
  exact h2
theorem astart {cnt : Nat} {par : Nat → Int32} {prm siz atm : Nat → Nat} {k : Nat} : ainv cnt (anc par) prm siz atm k 0 true (ofw (fun _ => nI 0) (fun _ => 0) (lP (8 * 0 + 0)) (fun _ => nI 0) (nI 0)) := by
  refine ainv.start (ofw.fin _ _ _ _ _) ?_ (fun Z hZ => ⟨fun s b q => ?_, fun s b q => ?_, fun b q => ?_, fun s b q => ?_, fun b q => ?_⟩)
  · show bl (lP (8 * 0 + 0)) 0 = true
    rw [lP_bl (by omega)]
    rfl
  · have q := q.2
    rw [b_n0] at q
    cases q
  · have q := q.2
    rw [l_0] at q
    cases q
  · have q : bl (lP (8 * 0 + 0)) b = true := q
    rw [lP_bl (by omega)] at q
    rw [of_decide_eq_true q]
    exact hZ
  · have q := q.2
    rw [b_n0] at q
    cases q
  · have q : bt (nI 0) b = true := q
    rw [b_n0] at q
    cases q
theorem clos_orl {Q : Nat → Int64} {l i m : Nat} : (∃ e, e < 8 ∧ bl (orl (fun c => Q (sl l i c)) 8) (8 * m + e) = true) ↔ clos Q l i m := by
  constructor
  · intro q
    obtain ⟨e, h1, h2⟩ := q
    obtain ⟨c, h3, h4⟩ := (orl_bl _ _ 8).mp h2
    exact ⟨c, e, h3, h1, h4⟩
  · intro q
    obtain ⟨c, e, h3, h1, h4⟩ := q
    exact ⟨e, h1, (orl_bl _ _ 8).mpr ⟨c, h3, h4⟩⟩
theorem clos_next {Q : Nat → Int64} {l i m : Nat} {r : Int32} (hr : ∀ z, bt r z = true ↔ z < m ∧ clos Q l i z) (hm : m < 8) (h : ∃ e, e < 8 ∧ bl (orl (fun c => Q (sl l i c)) 8) (8 * m + e) = true) : ∀ z, bt (r ||| nI 1 <<< (nI m &&& 31)) z = true ↔ z < m + 1 ∧ clos Q l i z := by
  intro z
  show bt (r ||| 1 <<< (nI m &&& 31)) z = true ↔ _
  rw [b_or, b_one m (by omega), Bool.or_eq_true_iff, hr z]
  constructor
  · intro q
    rcases q with q | q
    · exact ⟨by omega, q.2⟩
    · have e := of_decide_eq_true q
      subst e
      exact ⟨by omega, clos_orl.mp h⟩
  · intro q
    by_cases e : z = m
    · exact Or.inr (decide_eq_true e)
    · exact Or.inl ⟨by omega, q.2⟩
theorem clos_same {Q : Nat → Int64} {l i m : Nat} {r : Int32} (hr : ∀ z, bt r z = true ↔ z < m ∧ clos Q l i z) (hm : m < 8) (h : cin (orl (fun c => Q (sl l i c)) 8) m = 0) : ∀ z, bt r z = true ↔ z < m + 1 ∧ clos Q l i z := by
  intro z
  rw [hr z]
  constructor
  · intro q
    exact ⟨by omega, q.2⟩
  · intro q
    refine ⟨?_, q.2⟩
    by_cases e : z = m
    · subst e
      exact absurd h ((cin_ne hm).mpr (clos_orl.mpr q.2))
    · omega
