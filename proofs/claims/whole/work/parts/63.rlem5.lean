/-! Rows for the reference's analyse and its answers -/
theorem fz_next {P1 : Nat → Int32} {Q1 : Nat → Int64} {i : Nat} (h : ∀ j, j < i → P1 j = nI 0 ∧ Q1 j = 0) : ∀ j, j < i + 1 → upd P1 i (nI 0) j = nI 0 ∧ vp_updL Q1 i 0 j = 0 := by
  intro j hj
  by_cases e : j = i
  · subst e
    exact ⟨upd_self _ _ _, updL_self _ _ _⟩
  · rw [upd_ne _ _ e, updL_ne _ _ e]
    exact h j (by omega)
theorem ff_next {F1 : Nat → Int32} {i : Nat} (h : ∀ j, j < i → F1 j = nI 0) : ∀ j, j < i + 1 → upd F1 i (nI 0) j = nI 0 := by
  intro j hj
  by_cases e : j = i
  · subst e
    exact upd_self _ _ _
  · rw [upd_ne _ _ e]
    exact h j (by omega)
theorem astart2 {cnt : Nat} {par : Nat → Int32} {prm siz atm : Nat → Nat} {k : Nat} {P : Nat → Int32} {Q : Nat → Int64} {F : Nat → Int32} (hP : ∀ j, j < 192 → P j = nI 0 ∧ Q j = 0) (hF : ∀ j, j < 8 → F j = nI 0) : ainv cnt (anc par) prm siz atm k 0 true (ofw P Q 1 F (nI 0)) := by
  refine ainv.start (ofw.fin _ _ _ _ _) ?_ (fun Z hZ => ⟨fun s b q => ?_, fun s b q => ?_, fun b q => ?_, fun s b q => ?_, fun b q => ?_⟩)
  · show bl 1 0 = true
    rw [l_1]
    rfl
  · have q2 := q.2
    rw [(hP s q.1).1, b_n0] at q2
    cases q2
  · have q2 := q.2
    rw [(hP s q.1).2, l_0] at q2
    cases q2
  · have q : bl 1 b = true := q
    rw [l_1] at q
    rw [of_decide_eq_true q]
    exact hZ
  · have q2 := q.2
    rw [hF s q.1, b_n0] at q2
    cases q2
  · have q : bt (nI 0) b = true := q
    rw [b_n0] at q
    cases q
section APN
variable {cnt : Nat} {an : Nat → Nat → Prop} {prm siz atm : Nat → Nat} {k m c : Nat} {g g' : Bool} {X Y : AX}
theorem apn_at (hc : c < 8) (hm : m < cnt) (hs : X.2.2.1 (8 * m + c)) (hz : 0 < siz m) (h : apc (avis cnt an prm siz atm k m c) g X g' Y) : apc (apassN cnt an prm siz atm k (8 * m + c)) g X g' Y := by
  have e1 : (8 * m + c) / 8 = m := by omega
  have e2 : (8 * m + c) % 8 = c := by omega
  refine h.conv (fun Z hZ q => ?_) (fun q => ?_)
  · have q2 := q (by rw [e1]; exact hm) (hZ.2.2.1 _ hs) (by rw [e1]; exact hz)
    rw [e1, e2] at q2
    exact q2
  · unfold apassN
    rw [e1, e2]
    exact fun _ _ _ => q
theorem apn_no (hc : c < 8) (h : ¬ X.2.2.1 (8 * m + c) ∨ siz m = 0) : apc (apassN cnt an prm siz atm k (8 * m + c)) g X g X := by
  have e1 : (8 * m + c) / 8 = m := by omega
  refine (apc.skip g X).conv (fun _ _ _ => trivial) (fun _ _ h2 h3 => ?_)
  rw [e1] at h3
  rcases h with h | h
  · exact absurd h2 h
  · omega
theorem apn_all (h8 : cnt ≤ 8) (h : apc (fun X Y => ∀ j, j < 8 * cnt → apassN cnt an prm siz atm k j X Y) g X g' Y) : apc (fun X Y => ∀ j, j < 64 → apassN cnt an prm siz atm k j X Y) g X g' Y :=
  h.conv (fun Z _ q j hj => q j (by omega)) (fun q j hj h1 => q j (by omega) h1)
end APN
theorem popS {x : Int64} {i : Nat} (h : bl x i = true) : popN x.toBitVec.toNat (i + 1) = popN x.toBitVec.toNat i + 1 := by
  show popN x.toBitVec.toNat i + x.toBitVec.toNat / 2 ^ i % 2 = _
  have h1 : x.toBitVec.toNat.testBit i = true := h
  rw [Nat.testBit_eq_decide_div_mod_eq] at h1
  rw [of_decide_eq_true h1]
theorem popZ {x : Int64} {i : Nat} (h : bl x i = false) : popN x.toBitVec.toNat (i + 1) = popN x.toBitVec.toNat i := by
  show popN x.toBitVec.toNat i + x.toBitVec.toNat / 2 ^ i % 2 = _
  have h1 : x.toBitVec.toNat.testBit i = false := h
  rw [Nat.testBit_eq_decide_div_mod_eq] at h1
  have h2 := of_decide_eq_false h1
  omega
theorem l_255 (i : Nat) : bl 255 i = decide (i < 8) := by
  rcases Nat.lt_or_ge i 64 with h | h
  · exact (by decide +kernel : ∀ i, i < 64 → bl 255 i = decide (i < 8)) i h
  · rw [l_big h, decide_eq_false (by omega)]
theorem cin2 (y : Int64) : (y &&& 255).toInt32 = y.toInt32 &&& nI 255 := by
  refine b_ext (fun i hi => ?_)
  rw [toI_bt _ i hi, l_and, l_255, b_and, toI_bt _ i hi, b_255]
def cw (p : Int64) (m : Nat) : Int64 := (p.toUInt64 >>> ((nI (8 * m)).toInt64.toUInt64 &&& Int64.toUInt64 63)).toInt64 &&& 255
theorem cw_ne {p : Int64} {m : Nat} (hm : m < 8) : (¬ cw p m = 0) ↔ ∃ e, e < 8 ∧ bl p (8 * m + e) = true := by
  unfold cw
  constructor
  · intro q
    obtain ⟨b, hb⟩ := l_ne0 q
    rw [l_and, l_255, l_ushr (8 * m) (by omega), Bool.and_eq_true_iff] at hb
    exact ⟨b, of_decide_eq_true hb.2, hb.1⟩
  · intro q z
    obtain ⟨e, h1, h2⟩ := q
    have h := congrArg (fun y => bl y e) z
    simp only [l_and, l_255, l_ushr (8 * m) (show 8 * m < 64 by omega), l_0, h2, decide_eq_true h1] at h
    cases h
def cck (Q : Nat → Int64) (lx ix : Nat) (r : Int32) (t : Nat) : Prop := ∀ z, bt r z = true ↔ ∃ y, y < t ∧ z = y % 8 ∧ ∃ e, e < 8 ∧ bl (Q (sl lx ix (y / 8))) (8 * (y % 8) + e) = true
theorem cck.zero (Q : Nat → Int64) (lx ix : Nat) : cck Q lx ix (nI 0) 0 := by
  intro z
  rw [b_n0]
  exact ⟨fun q => (by cases q), fun q => (by obtain ⟨y, hy, _⟩ := q; exact absurd hy (Nat.not_lt_zero y))⟩
theorem cck.next {Q : Nat → Int64} {lx ix c m : Nat} {r : Int32} (h : cck Q lx ix r (8 * c + m)) (hm : m < 8) (h1 : ¬ cw (Q (sl lx ix c)) m = 0) : cck Q lx ix (r ||| nI 1 <<< (nI m &&& 31)) (8 * c + (m + 1)) := by
  intro z
  show bt (r ||| 1 <<< (nI m &&& 31)) z = true ↔ _
  rw [b_or, b_one m (by omega), Bool.or_eq_true_iff, h z, decide_eq_true_iff]
  have e1 : (8 * c + m) / 8 = c := by omega
  have e2 : (8 * c + m) % 8 = m := by omega
  constructor
  · intro q
    rcases q with ⟨y, q1, q2⟩ | q
    · exact ⟨y, by omega, q2⟩
    · refine ⟨8 * c + m, by omega, by omega, ?_⟩
      rw [e1, e2]
      exact (cw_ne hm).mp h1
  · intro q
    obtain ⟨y, q1, q2, q3⟩ := q
    by_cases e : y = 8 * c + m
    · exact Or.inr (by omega)
    · exact Or.inl ⟨y, by omega, q2, q3⟩
theorem cck.same {Q : Nat → Int64} {lx ix c m : Nat} {r : Int32} (h : cck Q lx ix r (8 * c + m)) (hm : m < 8) (h1 : cw (Q (sl lx ix c)) m = 0) : cck Q lx ix r (8 * c + (m + 1)) := by
  intro z
  rw [h z]
  have e1 : (8 * c + m) / 8 = c := by omega
  have e2 : (8 * c + m) % 8 = m := by omega
  constructor
  · intro q
    obtain ⟨y, q1, q2⟩ := q
    exact ⟨y, by omega, q2⟩
  · intro q
    obtain ⟨y, q1, q2, q3⟩ := q
    by_cases e : y = 8 * c + m
    · subst e
      rw [e1, e2] at q3
      exact absurd h1 ((cw_ne hm).mpr q3)
    · exact ⟨y, by omega, q2, q3⟩
theorem cck.all {Q : Nat → Int64} {lx ix : Nat} {r : Int32} (h : cck Q lx ix r (8 * 8)) : ∀ m, bt r m = true ↔ m < 8 ∧ clos Q lx ix m := by
  intro z
  rw [h z]
  constructor
  · intro q
    obtain ⟨y, q1, q2, e, q3, q4⟩ := q
    subst q2
    exact ⟨by omega, y / 8, e, by omega, q3, q4⟩
  · intro q
    obtain ⟨q1, c, e, q2, q3, q4⟩ := q
    refine ⟨8 * c + z, by omega, by omega, e, q3, ?_⟩
    rw [show (8 * c + z) / 8 = c by omega, show (8 * c + z) % 8 = z by omega]
    exact q4
