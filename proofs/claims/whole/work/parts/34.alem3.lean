/-! Rows for visit -/
def aN1 (cnt : Nat) (par : Nat → Int32) (prm : Nat → Nat) (n to l : Nat) (C B : Nat → Nat → Prop) (X Y : AX) : Prop := acalls cnt (anc par) prm l to (n - 1) (B 0) (fun i => C (1 + i)) (fun i => B (1 + i)) X Y ∧ (n = 2 → C 0 10 → ares (C 1) (B 1) Y)
def aN2 (cnt : Nat) (par : Nat → Int32) (prm : Nat → Nat) (n to l : Nat) (C B : Nat → Nat → Prop) (X Y : AX) : Prop := n = 4 → C 0 11 → (∃ b, asum (C 1) (C 2) b) → acalls cnt (anc par) prm l to 1 (B 3) (fun _ => asum (C 1) (C 2)) ano X Y ∧ (C 3 10 → ares (asum (C 1) (C 2)) (fun _ => False) Y)
def aN3 (cnt : Nat) (par : Nat → Int32) (prm : Nat → Nat) (n to l : Nat) (C B : Nat → Nat → Prop) (X Y : AX) : Prop := n = 4 → C 0 12 → C 1 0 → acalls cnt (anc par) prm l to 0 (B 2) ano ano X Y
def aN4 (cnt : Nat) (par : Nat → Int32) (prm : Nat → Nat) (n to l : Nat) (C B : Nat → Nat → Prop) (X Y : AX) : Prop := n = 4 → C 0 12 → (∃ b, 1 ≤ b ∧ b < 10 ∧ C 1 b) → acalls cnt (anc par) prm l to 0 (B 3) ano ano X Y
section AV
variable {cnt : Nat} {par : Nat → Int32} {prm : Nat → Nat} {n to l : Nat} {C B : Nat → Nat → Prop}
theorem aN1.amon : amon (aN1 cnt par prm n to l C B) := fun X0 X Y Z a b q => ⟨acalls.amon _ _ _ _ _ _ _ _ _ X0 X Y Z a b q.1, fun e h => ares.amon _ _ X0 X Y Z a b (q.2 e h)⟩
theorem aN2.amon : amon (aN2 cnt par prm n to l C B) := fun X0 X Y Z a b q e h s => ⟨acalls.amon _ _ _ _ _ _ _ _ _ X0 X Y Z a b (q e h s).1, fun r => ares.amon _ _ X0 X Y Z a b ((q e h s).2 r)⟩
theorem aN3.amon : amon (aN3 cnt par prm n to l C B) := fun X0 X Y Z a b q e h s => acalls.amon _ _ _ _ _ _ _ _ _ X0 X Y Z a b (q e h s)
theorem aN4.amon : amon (aN4 cnt par prm n to l C B) := fun X0 X Y Z a b q e h s => acalls.amon _ _ _ _ _ _ _ _ _ X0 X Y Z a b (q e h s)
theorem avis_all {g g1 g2 g3 g4 : Bool} {X X1 X2 X3 X4 : AX} (h1 : apc (aN1 cnt par prm n to l C B) g X g1 X1) (h2 : apc (aN2 cnt par prm n to l C B) g1 X1 g2 X2) (h3 : apc (aN3 cnt par prm n to l C B) g2 X2 g3 X3) (h4 : apc (aN4 cnt par prm n to l C B) g3 X3 g4 X4) : apc (avisS cnt (anc par) prm n to l C B) g X g4 X4 :=
  (apc.seq (amon.and (amon.and aN1.amon aN2.amon) aN3.amon) aN4.amon (apc.seq (amon.and aN1.amon aN2.amon) aN3.amon (apc.seq aN1.amon aN2.amon h1 h2) h3) h4).conv (fun Z _ q => ⟨⟨⟨⟨q.1, q.2.1⟩, q.2.2.1⟩, q.2.2.2.1⟩, q.2.2.2.2⟩) (fun q => ⟨q.1.1.1.1, q.1.1.1.2, q.1.1.2, q.1.2, q.2⟩)
end AV
section AD
variable {cnt : Nat} {par : Nat → Int32} {prm : Nat → Nat} {n to l : Nat} {OC : Nat → Int32} {OP : Nat → Int64} {g g' : Bool} {X Y : AX}
abbrev cC (OC : Nat → Int32) (i b : Nat) : Prop := bt (OC i) b = true
abbrev cB (OP : Nat → Int64) (i b : Nat) : Prop := bl (OP i) b = true
theorem adir_1 (hn : 0 < n) (h : apc (adir cnt par prm l to (n - 1) (OC 0) (OP 0) (OC 1) (OP 1) (fun i b => bt (OC (1 + i)) b = true) (fun i b => bl (OP (1 + i)) b = true)) g X g' Y) : apc (aN1 cnt par prm n to l (cC OC) (cB OP)) g X g' Y :=
  h.conv (fun Z _ q => ⟨fun e => q.2 (by omega), q.1⟩) (fun q => ⟨q.2, fun e => q.1 (by omega)⟩)
theorem adir_2 {sm : Int32} {OC3 : Nat → Int32} (h3 : OC3 3 = OC 3) (h4 : OC3 4 = sm) (hO4 : OP 4 = 0) (hsm : ∀ b, bt sm b = true ↔ asum (cC OC 1) (cC OC 2) b) (hne : ¬ sm = 0) (h11 : n = 4 ∧ bt (OC 0) 11 = true) (h : apc (adir cnt par prm l to 1 (OC3 3) (OP 3) (OC3 4) (OP 4) (fun i b => bt (OC3 (4 + i)) b = true) (fun i b => bl (OP (4 + i)) b = true)) g X g' Y) : apc (aN2 cnt par prm n to l (cC OC) (cB OP)) g X g' Y := by
  obtain ⟨b0, hb0⟩ := b_ne0 hne
  have hs0 := (hsm b0).mp hb0
  refine h.conv (fun Z _ q => ?_) (fun q _ _ _ => ?_)
  · obtain ⟨q1, q2⟩ := q h11.1 h11.2 ⟨b0, hs0⟩
    refine ⟨fun _ hb => (q2 (by rw [h3] at hb; exact hb)).less (fun b hb => (hsm b).mp (by rw [h4] at hb; exact hb)) (fun b hb => by rw [hO4, l_0] at hb; cases hb), q1.less (fun _ hb => hb) (fun i b hi hb => ?_) (fun i b hi hb => ?_)⟩
    · have : i = 0 := by omega
      subst this
      exact (hsm b).mp (by rw [← h4]; exact hb)
    · have : i = 0 := by omega
      subst this
      have hb : bl (OP 4) b = true := hb
      rw [hO4, l_0] at hb
      cases hb
  · refine ⟨q.2.less (fun _ hb => hb) (fun i b hi hb => ?_) (fun i b hi hb => hb.elim), fun hb => (q.1 rfl (by rw [h3]; exact hb)).less (fun b hb => by rw [h4]; exact (hsm b).mpr hb) (fun b hb => hb.elim)⟩
    have : i = 0 := by omega
    subst this
    show bt (OC3 4) b = true
    rw [h4]
    exact (hsm b).mpr hb
theorem adir_3 {oc fc : Int32} {fp : Int64} {C2 B2 : Nat → Nat → Prop} {op : Nat} (h : apc (adir cnt par prm l to 0 oc (OP op) fc fp C2 B2) g X g' Y) : apc (acalls cnt (anc par) prm l to 0 (cB OP op) ano ano) g X g' Y :=
  h.conv (fun Z _ q => ⟨fun e => absurd e (by decide), q.less (fun _ hb => hb) (fun i b hi _ => absurd hi (Nat.not_lt_zero i)) (fun i b hi _ => absurd hi (Nat.not_lt_zero i))⟩) (fun q => q.2.less (fun _ hb => hb) (fun i b hi _ => absurd hi (Nat.not_lt_zero i)) (fun i b hi _ => absurd hi (Nat.not_lt_zero i)))
end AD
theorem an_p_lt {cnt : Nat} {par : Nat → Int32} {prm siz atm : Nat → Nat} (hw : pwf cnt par prm siz atm) {P : Nat → Int32} {Q : Nat → Int64} {S : Int64} {F : Nat → Int32} {R : Int32} (hQ : ∀ s q, s < 192 → bl (Q s) q = true → q < 8 * cnt) {l c i q : Nat} (hl : l < cnt) (hc : c < 8) (hi : i < siz l) (h : an_p atm (ofw P Q S F R) l c i q) : q < 8 * cnt := by
  rcases h with ⟨h1, h2, h3⟩ | ⟨_, _, h3⟩
  · have := hw.awf l i hl hi h1 h2
    omega
  · exact hQ _ _ h3.1 h3.2
theorem nI_and (w : Int32) (m : Nat) (hm : m < 2147483648) : ∃ t, t ≤ m ∧ w &&& nI m = nI t ∧ ∀ b, bt (w &&& nI m) b = t.testBit b := by
  refine ⟨w.toBitVec.toNat &&& m, Nat.and_le_right, ?_, fun b => ?_⟩
  · apply Int32.toBitVec_inj.mp
    apply BitVec.eq_of_toNat_eq
    rw [Int32.toBitVec_and, BitVec.toNat_and]
    show w.toBitVec.toNat &&& (BitVec.ofNat 32 m).toNat = (BitVec.ofNat 32 (w.toBitVec.toNat &&& m)).toNat
    have h1 : w.toBitVec.toNat &&& m ≤ m := Nat.and_le_right
    rw [BitVec.toNat_ofNat, BitVec.toNat_ofNat, Nat.mod_eq_of_lt (by omega), Nat.mod_eq_of_lt (by omega)]
  · unfold bt
    rw [Int32.toBitVec_and]
    show (w.toBitVec &&& BitVec.ofNat 32 m).toNat.testBit b = _
    rw [BitVec.toNat_and, BitVec.toNat_ofNat, Nat.mod_eq_of_lt (by omega)]
theorem gt1 {w : Int32} : (¬ (w &&& nI 1023) ≤ nI 1) ↔ ∃ b, 1 ≤ b ∧ b < 10 ∧ bt w b = true := by
  obtain ⟨t, h1, h2, h3⟩ := nI_and w 1023 (by omega)
  have hb : ∀ b, b < 10 → bt w b = t.testBit b := by
    intro b hb
    rw [← h3 b, b_and, b_1023, decide_eq_true hb, Bool.and_true]
  rw [h2, nI_leI (by omega) (by omega)]
  constructor
  · intro q
    refine Classical.byContradiction (fun hn => q ?_)
    have key : ∀ b, 1 ≤ b → t.testBit b = false := by
      intro b hb1
      by_cases hb2 : b < 10
      · exact Bool.of_not_eq_true (fun z => hn ⟨b, hb1, hb2, by rw [hb b hb2]; exact z⟩)
      · exact Nat.testBit_lt_two_pow (Nat.lt_of_lt_of_le (show t < 2 ^ 10 by omega) (Nat.pow_le_pow_right (by omega) (by omega)))
    have : t / 2 = 0 := by
      apply Nat.eq_of_testBit_eq
      intro i
      rw [Nat.testBit_div_two, key (i + 1) (by omega), Nat.zero_testBit]
    omega
  · intro q z
    obtain ⟨b, b1, b2, b3⟩ := q
    rw [hb b b2] at b3
    have : t.testBit b = false := Nat.testBit_lt_two_pow (Nat.lt_of_lt_of_le (show t < 2 ^ 1 by omega) (Nat.pow_le_pow_right (by omega) b1))
    rw [this] at b3
    cases b3
theorem sum_mask {f1 f2 sm : Int32} (h : ∀ b, bt sm b = true ↔ asum (fun x => bt (f1 &&& nI 1023) x = true) (fun y => bt (f2 &&& nI 1023) y = true) b) : ∀ b, bt sm b = true ↔ asum (fun x => bt f1 x = true) (fun y => bt f2 y = true) b := by
  intro b
  rw [h b]
  constructor
  · intro q
    obtain ⟨x, y, q1, q2, q3, q4, q5⟩ := q
    rw [b_and, Bool.and_eq_true_iff] at q3 q4
    exact ⟨x, y, q1, q2, q3.1, q4.1, q5⟩
  · intro q
    obtain ⟨x, y, q1, q2, q3, q4, q5⟩ := q
    refine ⟨x, y, q1, q2, ?_, ?_, q5⟩
    · show bt (f1 &&& nI 1023) x = true
      rw [b_and, b_1023, Bool.and_eq_true_iff]
      exact ⟨q3, decide_eq_true q1⟩
    · show bt (f2 &&& nI 1023) y = true
      rw [b_and, b_1023, Bool.and_eq_true_iff]
      exact ⟨q4, decide_eq_true q2⟩
theorem mask_lt {f : Int32} (y : Nat) (h : bt (f &&& nI 1023) y = true) : y < 10 := by
  rw [b_and, b_1023, Bool.and_eq_true_iff] at h
  exact of_decide_eq_true h.2
/-- the operators that are looked at: none where the call hasn't four atoms -/
def opw (n : Nat) (w : Int32) : Int32 := if n = 4 then w else nI 0
theorem opw_t {n : Nat} {w : Int32} {b : Nat} (h : bt (opw n w) b = true) : n = 4 ∧ bt w b = true := by
  unfold opw at h
  by_cases e : n = 4
  · rw [if_pos e] at h
    exact ⟨e, h⟩
  · rw [if_neg e, b_n0] at h
    cases h
theorem opw_f {n : Nat} {w : Int32} {b : Nat} (h : bt (opw n w) b = false) (e : n = 4) : bt w b = false := by
  unfold opw at h
  rw [if_pos e] at h
  exact h
theorem mask_0 {w : Int32} (h : bt (w &&& nI 1023) 0 = true) : bt w 0 = true := by
  rw [b_and, Bool.and_eq_true_iff] at h
  exact h.1
theorem mask_0f {w : Int32} (h : bt (w &&& nI 1023) 0 = false) : bt w 0 = false := by
  rw [b_and, b_1023, decide_eq_true (by omega), Bool.and_true] at h
  exact h
theorem sum_none {sm : Int32} {C D : Nat → Prop} (h : ∀ b, bt sm b = true ↔ asum C D b) (h0 : decide (¬ sm = 0) = false) (s : ∃ b, asum C D b) : False := by
  obtain ⟨b, hb⟩ := s
  have h1 := (h b).mpr hb
  have h2 := of_decide_eq_false h0
  have h3 : sm = 0 := Classical.byContradiction (fun z => h2 z)
  rw [h3, b_0] at h1
  cases h1
