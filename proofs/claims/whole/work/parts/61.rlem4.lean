/-! Rows for the reference's visit -/
theorem an1 {x : Int32} : (x &&& nI 1) = nI 1 ↔ bt x 0 = true := by
  show (x &&& 1) = 1 ↔ _
  constructor
  · intro h
    have h1 := congrArg (fun y => bt y 0) h
    simp only [b_and, b_1] at h1
    simpa using h1
  · intro h
    refine b_ext (fun i hi => ?_)
    rw [b_and, b_1]
    by_cases e : i = 0
    · subst e
      simp [h]
    · simp [e]
theorem an1n {x : Int32} (h : ¬ (x &&& nI 1) = nI 1) : bt x 0 = false := Bool.of_not_eq_true (fun q => h (an1.mpr q))
theorem b_1022 (i : Nat) : bt (nI 1022) i = decide (1 ≤ i ∧ i < 10) := by
  rcases Nat.lt_or_ge i 32 with h | h
  · exact (by decide +kernel : ∀ i, i < 32 → bt (nI 1022) i = decide (1 ≤ i ∧ i < 10)) i h
  · rw [b_big h, decide_eq_false (by omega)]
theorem gt2 {w : Int32} : (¬ (w &&& nI 1022) = 0) ↔ ∃ b, 1 ≤ b ∧ b < 10 ∧ bt w b = true := by
  constructor
  · intro q
    obtain ⟨b, hb⟩ := b_ne0 q
    rw [b_and, b_1022, Bool.and_eq_true_iff] at hb
    have h2 := of_decide_eq_true hb.2
    exact ⟨b, h2.1, h2.2, hb.1⟩
  · intro q z
    obtain ⟨b, b1, b2, b3⟩ := q
    have h := congrArg (fun y => bt y b) z
    simp only [b_and, b_1022, b_0, b3, decide_eq_true (show 1 ≤ b ∧ b < 10 from ⟨b1, b2⟩)] at h
    cases h
section AV2
variable {cnt : Nat} {par : Nat → Int32} {prm : Nat → Nat} {n to l : Nat}
theorem avis_all2 {C B : Nat → Nat → Prop} {g g1 g2 g3 : Bool} {X X1 X2 X3 : AX} (h1 : apc (aN1 cnt par prm n to l C B) g X g1 X1) (h34 : apc (fun X Y => aN3 cnt par prm n to l C B X Y ∧ aN4 cnt par prm n to l C B X Y) g1 X1 g2 X2) (h2 : apc (aN2 cnt par prm n to l C B) g2 X2 g3 X3) : apc (avisS cnt (anc par) prm n to l C B) g X g3 X3 :=
  (apc.seq (amon.and aN1.amon (amon.and aN3.amon aN4.amon)) aN2.amon (apc.seq aN1.amon (amon.and aN3.amon aN4.amon) h1 h34) h2).conv (fun Z _ q => ⟨⟨⟨q.1, q.2.1⟩, q.2.2.2.1, q.2.2.2.2⟩, q.2.2.1⟩) (fun q => ⟨q.1.1.1, q.1.1.2, q.2, q.1.2.1, q.1.2.2⟩)
variable {OC : Nat → Int32} {OP : Nat → Int64} {g g1 g2 : Bool} {X X1 X2 : AX}
theorem rN1a (h : apc (acalls cnt (anc par) prm l to (n - 1) (fun b => bl (OP 0) b = true) (fun i b => bt (OC (1 + i)) b = true) (fun i b => bl (OP (1 + i)) b = true)) g X g1 X1) (k : apc (fun _ Y => ares (fun b => bt (OC 1) b = true) (fun b => bl (OP 1) b = true) Y) g1 X1 g2 X2) (h2 : n - 1 = 1) (hb : bt (OC 0) 10 = true) : apc (aN1 cnt par prm n to l (cC OC) (cB OP)) g X g2 X2 :=
  (apc.seq (acalls.amon _ _ _ _ _ _ _ _ _) (ares.amon _ _) h k).conv (fun Z _ q => ⟨q.1, q.2 (by omega) hb⟩) (fun q => ⟨q.1, fun _ _ => q.2⟩)
theorem rN1b (h : apc (acalls cnt (anc par) prm l to (n - 1) (fun b => bl (OP 0) b = true) (fun i b => bt (OC (1 + i)) b = true) (fun i b => bl (OP (1 + i)) b = true)) g X g1 X1) (hno : ¬ n - 1 = 1 ∨ bt (OC 0) 10 = false) : apc (aN1 cnt par prm n to l (cC OC) (cB OP)) g X g1 X1 := by
  refine h.conv (fun Z _ q => q.1) (fun q => ⟨q, fun e c => ?_⟩)
  rcases hno with h | h
  · exact absurd (show n - 1 = 1 by omega) h
  · exact bno h c
theorem rN0 {O : Int64} {C2 B2 : Nat → Nat → Prop} {op : Nat} (hO : O = OP op) (h : apc (acalls cnt (anc par) prm l to 0 (fun b => bl O b = true) C2 B2) g X g1 X1) : apc (acalls cnt (anc par) prm l to 0 (cB OP op) ano ano) g X g1 X1 := by
  subst hO
  exact h.conv (fun Z _ q => q.less (fun _ hb => hb) (fun i b hi _ => absurd hi (Nat.not_lt_zero i)) (fun i b hi _ => absurd hi (Nat.not_lt_zero i))) (fun q => q.less (fun _ hb => hb) (fun i b hi _ => absurd hi (Nat.not_lt_zero i)) (fun i b hi _ => absurd hi (Nat.not_lt_zero i)))
theorem rN2c {O : Int64} {OC3 : Nat → Int32} {OP3 : Nat → Int64} {sm : Int32} (hO : O = OP 3) (h4 : OC3 1 = sm) (hO4 : OP3 1 = 0) (hsm : ∀ b, bt sm b = true ↔ asum (cC OC 1) (cC OC 2) b) (h : apc (acalls cnt (anc par) prm l to 1 (fun b => bl O b = true) (fun i b => bt (OC3 (1 + i)) b = true) (fun i b => bl (OP3 (1 + i)) b = true)) g X g1 X1) : apc (acalls cnt (anc par) prm l to 1 (cB OP 3) (fun _ => asum (cC OC 1) (cC OC 2)) ano) g X g1 X1 := by
  subst hO
  refine h.conv (fun Z _ q => q.less (fun _ hb => hb) (fun i b hi hb => ?_) (fun i b hi hb => ?_)) (fun q => q.less (fun _ hb => hb) (fun i b hi hb => ?_) (fun i b hi hb => hb.elim))
  · have e : i = 0 := by omega
    subst e
    exact (hsm b).mp (by rw [← h4]; exact hb)
  · have e : i = 0 := by omega
    subst e
    have hb : bl (OP3 1) b = true := hb
    rw [hO4, l_0] at hb
    cases hb
  · have e : i = 0 := by omega
    subst e
    show bt (OC3 1) b = true
    rw [h4]
    exact (hsm b).mpr hb
theorem rN2r {OC3 : Nat → Int32} {OP3 : Nat → Int64} {sm : Int32} (h4 : OC3 1 = sm) (hO4 : OP3 1 = 0) (hsm : ∀ b, bt sm b = true ↔ asum (cC OC 1) (cC OC 2) b) (k : apc (fun _ Y => ares (fun b => bt (OC3 1) b = true) (fun b => bl (OP3 1) b = true) Y) g1 X1 g2 X2) : apc (fun _ Y => ares (asum (cC OC 1) (cC OC 2)) (fun _ => False) Y) g1 X1 g2 X2 :=
  k.conv (fun Z _ q => q.less (fun b hb => (hsm b).mp (by rw [← h4]; exact hb)) (fun b hb => by rw [hO4, l_0] at hb; cases hb)) (fun q => q.less (fun b hb => by rw [h4]; exact (hsm b).mpr hb) (fun b hb => hb.elim))
theorem rN2a {sm : Int32} (hsm : ∀ b, bt sm b = true ↔ asum (cC OC 1) (cC OC 2) b) (hne : ¬ sm = 0) (h11 : n = 4 ∧ bt (OC 0) 11 = true) (hb : bt (OC 3) 10 = true) (h : apc (acalls cnt (anc par) prm l to 1 (cB OP 3) (fun _ => asum (cC OC 1) (cC OC 2)) ano) g X g1 X1) (k : apc (fun _ Y => ares (asum (cC OC 1) (cC OC 2)) (fun _ => False) Y) g1 X1 g2 X2) : apc (aN2 cnt par prm n to l (cC OC) (cB OP)) g X g2 X2 := by
  obtain ⟨b0, hb0⟩ := b_ne0 hne
  have hs0 := (hsm b0).mp hb0
  exact (apc.seq (acalls.amon _ _ _ _ _ _ _ _ _) (ares.amon _ _) h k).conv (fun Z _ q => ⟨(q h11.1 h11.2 ⟨b0, hs0⟩).1, (q h11.1 h11.2 ⟨b0, hs0⟩).2 hb⟩) (fun q _ _ _ => ⟨q.1, fun _ => q.2⟩)
theorem rN2b {sm : Int32} (hsm : ∀ b, bt sm b = true ↔ asum (cC OC 1) (cC OC 2) b) (hne : ¬ sm = 0) (h11 : n = 4 ∧ bt (OC 0) 11 = true) (hb : bt (OC 3) 10 = false) (h : apc (acalls cnt (anc par) prm l to 1 (cB OP 3) (fun _ => asum (cC OC 1) (cC OC 2)) ano) g X g1 X1) : apc (aN2 cnt par prm n to l (cC OC) (cB OP)) g X g1 X1 := by
  obtain ⟨b0, hb0⟩ := b_ne0 hne
  have hs0 := (hsm b0).mp hb0
  exact h.conv (fun Z _ q => (q h11.1 h11.2 ⟨b0, hs0⟩).1) (fun q _ _ _ => ⟨q, fun r => bno hb r⟩)
theorem sum_none2 {sm : Int32} {C D : Nat → Prop} (h : ∀ b, bt sm b = true ↔ asum C D b) (h0 : sm = 0) (s : ∃ b, asum C D b) : False := by
  obtain ⟨b, hb⟩ := s
  have h1 := (h b).mpr hb
  rw [h0, b_0] at h1
  cases h1
end AV2
