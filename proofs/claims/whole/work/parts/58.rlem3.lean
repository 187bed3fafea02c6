/-! Rows for the reference's analysis -/
theorem hs1 {x : Int32} {n : Nat} (hn : n < 32) : (x >>> (nI n &&& 31) &&& nI 1) = nI 1 ↔ bt x n = true := by
  show (x >>> (nI n &&& 31) &&& 1) = 1 ↔ _
  rw [b_and1, b_hasS hn]
  cases bt x n <;> decide
theorem hs0 {x : Int32} {n : Nat} (hn : n < 32) : (x >>> (nI n &&& 31) &&& nI 1) = 0 ↔ bt x n = false := b_hasS hn
theorem hs1n {x : Int32} {n : Nat} (hn : n < 32) (h : ¬ (x >>> (nI n &&& 31) &&& nI 1) = nI 1) : bt x n = false := Bool.of_not_eq_true (fun q => h ((hs1 hn).mpr q))
theorem hl1 {x : Int64} {n : Nat} (hn : n < 64) : ((x.toUInt64 >>> ((nI n).toInt64.toUInt64 &&& Int64.toUInt64 63)).toInt64 &&& 1) = 1 ↔ bl x n = true := by
  rw [l_and1, l_has hn]
  cases bl x n <;> decide
theorem hl1n {x : Int64} {n : Nat} (hn : n < 64) (h : ¬ ((x.toUInt64 >>> ((nI n).toInt64.toUInt64 &&& Int64.toUInt64 63)).toInt64 &&& 1) = 1) : bl x n = false := Bool.of_not_eq_true (fun q => h ((hl1 hn).mpr q))
theorem rv1 {c : Int32} {p : Int64} (h : ¬ p = 0) : ∀ b, bt (c ||| nI 8192) b = true ↔ bt c b = true ∨ (b = 13 ∧ ∃ q, bl p q = true) := by
  intro b
  rw [b_or, b_8192, Bool.or_eq_true_iff, decide_eq_true_iff]
  exact ⟨fun q => q.imp id (fun e => ⟨e, l_ne0 h⟩), fun q => q.imp id (fun e => e.1)⟩
theorem rv0 {c : Int32} {p : Int64} (h : p = 0) : ∀ b, bt (c ||| nI 0) b = true ↔ bt c b = true ∨ (b = 13 ∧ ∃ q, bl p q = true) := by
  intro b
  rw [b_or, b_n0, Bool.or_false]
  refine ⟨fun q => Or.inl q, fun q => ?_⟩
  rcases q with q | ⟨_, q, hq⟩
  · exact q
  · rw [h, l_0] at hq
    cases hq
section RL3
variable {P : Nat → Int32} {Q : Nat → Int64} {S : Int64} {F : Nat → Int32} {R : Int32}
theorem apc.resV {g g' : Bool} {v c : Int32} {p : Int64} (hv : ∀ b, bt v b = true ↔ bt c b = true ∨ (b = 13 ∧ ∃ q, bl p q = true)) (hg : g' = g ∨ (g' = true ∧ ¬ R ||| v = R)) : apc (fun _ Y => ares (fun b => bt c b = true) (fun b => bl p b = true) Y) g (ofw P Q S F R) g' (ofw P Q S F (R ||| v)) := by
  refine (apc.ans g g' (v := v) hg).conv (fun Z _ q b hb => ?_) (fun q => ⟨fun b hb => q b ((hv b).mpr (Or.inl hb)), fun hb => q 13 ((hv 13).mpr (Or.inr ⟨rfl, hb⟩))⟩)
  rcases (hv b).mp hb with h | ⟨rfl, h⟩
  · exact q.1 b h
  · exact q.2 h
theorem apc.staT {q : Nat} (hq : q < 64) {v : Int64} (hv : ∀ i, bl v i = decide (i = q)) : apc (asta q) true (ofw P Q S F R) true (ofw P Q (S ||| v) F R) := by
  cases h : bl S q
  · exact apc.staN hq true hv h
  · have e : S ||| v = S := (l_orq hv).mpr h
    rw [e]
    exact apc.staS true h
def asf (q lx m : Nat) (X Y : AX) : Prop := asta q X Y ∧ aflo lx m X Y
theorem asf.amon (q lx m : Nat) : amon (asf q lx m) := amon.and (asta.amon q) (aflo.amon lx m)
theorem apc.sfT {q lx m : Nat} (hq : q < 64) (hl : lx < 8) {v : Int64} (hv : ∀ i, bl v i = decide (i = q)) {u : Int32} (hu : ∀ i, bt u i = decide (i = m)) {g : Bool} (h : g = true) : apc (asf q lx m) g (ofw P Q S F R) true (ofw P Q (S ||| v) (upd F lx (F lx ||| u)) R) := by
  subst h
  exact apc.seq (asta.amon q) (aflo.amon lx m) (apc.staT hq hv) (apc.flo hl true true hu (Or.inl rfl))
theorem apc.sfS {q lx m : Nat} (hq : q < 64) (hl : lx < 8) {v : Int64} (hv : ∀ i, bl v i = decide (i = q)) {u : Int32} (hu : ∀ i, bt u i = decide (i = m)) {g : Bool} (h : bl S q = false) : apc (asf q lx m) g (ofw P Q S F R) true (ofw P Q (S ||| v) (upd F lx (F lx ||| u)) R) :=
  apc.seq (asta.amon q) (aflo.amon lx m) (apc.staN hq g hv h) (apc.flo hl true true hu (Or.inl rfl))
theorem apc.sfF {q lx m : Nat} (hl : lx < 8) {v : Int64} (hv : ∀ i, bl v i = decide (i = q)) {u : Int32} (hu : ∀ i, bt u i = decide (i = m)) {g : Bool} (h : bl S q = true) (k : bt (F lx) m = false) : apc (asf q lx m) g (ofw P Q S F R) true (ofw P Q (S ||| v) (upd F lx (F lx ||| u)) R) := by
  have e : S ||| v = S := (l_orq hv).mpr h
  rw [e]
  exact apc.seq (asta.amon q) (aflo.amon lx m) (apc.staS g h) (apc.flo hl g true hu (Or.inr ⟨rfl, k⟩))
theorem apc.sfN {q lx m : Nat} (hl : lx < 8) {v : Int64} (hv : ∀ i, bl v i = decide (i = q)) {u : Int32} (hu : ∀ i, bt u i = decide (i = m)) {g : Bool} (h0 : g = false) (h : bl S q = true) : apc (asf q lx m) g (ofw P Q S F R) false (ofw P Q (S ||| v) (upd F lx (F lx ||| u)) R) := by
  have e : S ||| v = S := (l_orq hv).mpr h
  rw [e]
  exact apc.seq (asta.amon q) (aflo.amon lx m) (apc.staS g h) (apc.flo hl g false hu (Or.inl h0.symm))
end RL3
theorem l_and0 {S : Int64} {q : Nat} (hq : q < 64) : (S &&& lP q) = 0 ↔ bl S q = false := by
  constructor
  · intro h
    have h1 := congrArg (fun z => bl z q) h
    simp only [l_and, lP_bl hq, l_0] at h1
    simpa using h1
  · intro h
    refine l_ext (fun i _ => ?_)
    rw [l_and, lP_bl hq, l_0]
    by_cases e : i = q
    · subst e
      simp [h]
    · simp [e]
/-- the chain of those around m, down to t -/
def ach (par : Nat → Int32) (prm : Nat → Nat) (m e to t : Nat) (X Y : AX) : Prop := ∀ a, anc par a m → t ≤ a → ∀ i, i < prm a → acar prm a e to i X Y
theorem ach.amon (par : Nat → Int32) (prm : Nat → Nat) (m e to t : Nat) : amon (ach par prm m e to t) := fun X0 X Y Z a b q v hv ht i hi => acar.amon prm v e to i X0 X Y Z a b (q v hv ht i hi)
theorem ach.zero {par : Nat → Int32} {prm : Nat → Nat} {m e to : Nat} (g : Bool) (X : AX) : apc (ach par prm m e to m) g X g X := (apc.skip g X).conv (fun _ _ _ => trivial) (fun _ a ha h => absurd h (by have := ha.1; omega))
theorem ach_next {cnt : Nat} {par : Nat → Int32} {prm : Nat → Nat} {m e to t : Nat} {g g1 g2 : Bool} {X Y Z : AX} (hp : parok cnt par) (h8 : cnt ≤ 8) (ht : t < cnt) (h0 : 0 < t) (htm : t ≤ m) (hq : ∀ a, a < t → (aos par a m ↔ aos par a t))
    (h : apc (ach par prm m e to t) g X g1 Y) (k : apc (fun X Y => ∀ i, i < prm (pa par t) → acar prm (pa par t) e to i X Y) g1 Y g2 Z) : apc (ach par prm m e to (pa par t)) g X g2 Z := by
  have hlt := (pa_lt hp h8 h0 ht).1
  refine (apc.seq (ach.amon par prm m e to t) (amon.all (fun i => (acar.amon prm (pa par t) e to i).imp)) h k).conv (fun V _ q => ⟨fun a ha h1 => q a ha (by omega), fun i hi => q (pa par t) ⟨by omega, (hq _ hlt).mpr (aos.up (aos.self par _))⟩ (Nat.le_refl _) i hi⟩) (fun q a ha h1 => ?_)
  by_cases h2 : t ≤ a
  · exact q.1 a ha h2
  · have h3 := (hq a (by omega)).mp ha.2
    rcases h3.step with e1 | e1
    · omega
    · have h4 := aos.le hp h8 _ _ (by omega) e1
      have e2 : a = pa par t := by omega
      subst e2
      exact q.2
theorem ach_q {cnt : Nat} {par : Nat → Int32} {m t : Nat} (hp : parok cnt par) (h8 : cnt ≤ 8) (ht : t < cnt) (h0 : 0 < t) (hq : ∀ a, a < t → (aos par a m ↔ aos par a t)) : ∀ a, a < pa par t → (aos par a m ↔ aos par a (pa par t)) := by
  intro a ha
  have hlt := (pa_lt hp h8 h0 ht).1
  rw [hq a (by omega)]
  refine ⟨fun q => ?_, fun q => q.up⟩
  rcases q.step with e1 | e1
  · omega
  · exact e1
/-- callPair: everything of a call but the arguments -/
def acp (par : Nat → Int32) (prm : Nat → Nat) (lx m e to : Nat) (X Y : AX) : Prop := asf (8 * m + to) lx m X Y ∧ ach par prm m e to 0 X Y
theorem acp.amon (par : Nat → Int32) (prm : Nat → Nat) (lx m e to : Nat) : amon (acp par prm lx m e to) := amon.and (asf.amon _ _ _) (ach.amon _ _ _ _ _ _)
theorem acall_of {par : Nat → Int32} {prm : Nat → Nat} {lx m e to : Nat} {g g1 g2 : Bool} {X Y Z : AX} {OC : Nat → Int32} {OP : Nat → Int64} {first : Nat} (h : apc (acp par prm lx m e to) g X g1 Y) (k : apc (fun X Y => ∀ j, j < prm m → awid (sl m j to) (OC (first + j)) (OP (first + j)) X Y) g1 Y g2 Z) : apc (acall (anc par) prm lx m e to (fun i b => bt (OC (first + i)) b = true) (fun i b => bl (OP (first + i)) b = true)) g X g2 Z := by
  refine (apc.seq (acp.amon par prm lx m e to) (amon.all (fun j => (awid.amon _ _ _).imp)) h k).conv (fun V _ q => ⟨⟨⟨q.2.1, q.1⟩, fun a ha _ i hi => q.2.2.2 a ha i hi⟩, fun j hj => q.2.2.1 j hj⟩) (fun q => ⟨q.1.1.2, q.1.1.1, fun i hi => q.2 i hi, fun a ha i hi => q.1.2 a ha (Nat.zero_le _) i hi⟩)
theorem acalls_of {cnt : Nat} {par : Nat → Int32} {prm : Nat → Nat} {lx to k : Nat} {O : Int64} {C B : Nat → Nat → Prop} {g g' : Bool} {X Y : AX} (h : apc (fun X Y => ∀ j, j < 8 * cnt → adj par prm lx to k O C B j X Y) g X g' Y) : apc (acalls cnt (anc par) prm lx to k (fun b => bl O b = true) C B) g X g' Y := by
  refine h.conv (fun Z _ q j hj hb hp => ?_) (fun q m e hm he hb hp => ?_)
  · refine q (j / 8) (j % 8) (by omega) (by omega) ?_ hp
    show bl O (8 * (j / 8) + j % 8) = true
    rw [show 8 * (j / 8) + j % 8 = j by omega]
    exact hb
  · have z := q (8 * m + e) (by omega) hb
    rw [show (8 * m + e) / 8 = m by omega, show (8 * m + e) % 8 = e by omega] at z
    exact z hp
theorem adj_at {par : Nat → Int32} {prm : Nat → Nat} {lx to k m e : Nat} {O : Int64} {C B : Nat → Nat → Prop} {g g' : Bool} {X Y : AX} (he : e < 8) (hb : bl O (8 * m + e) = true) (hp : prm m = k) (h : apc (acall (anc par) prm lx m e to C B) g X g' Y) : apc (adj par prm lx to k O C B (8 * m + e)) g X g' Y := by
  have e1 : (8 * m + e) / 8 = m := by omega
  have e2 : (8 * m + e) % 8 = e := by omega
  refine h.conv (fun Z _ q => ?_) (fun q _ _ => ?_)
  · have q := q hb
    rw [e1, e2] at q
    exact q hp
  · rw [e1, e2]
    exact q
theorem adj_no {par : Nat → Int32} {prm : Nat → Nat} {lx to k m e : Nat} {O : Int64} {C B : Nat → Nat → Prop} {g : Bool} {X : AX} (he : e < 8) (h : bl O (8 * m + e) = false ∨ ¬ prm m = k) : apc (adj par prm lx to k O C B (8 * m + e)) g X g X := by
  have e1 : (8 * m + e) / 8 = m := by omega
  refine (apc.skip g X).conv (fun _ _ _ => trivial) (fun _ q r => ?_)
  rw [e1] at r
  rcases h with h | h
  · exact bno h q
  · exact absurd r h
/-- sums, one pair behind another -/
def smk (f1 f2 s : Int32) (t : Nat) : Prop := ∀ b, bt s b = true ↔ ∃ z, z < t ∧ bt f1 (z / 10) = true ∧ bt f2 (z % 10) = true ∧ b = (z / 10 + z % 10) % 10
theorem smk.zero (f1 f2 : Int32) : smk f1 f2 (nI 0) 0 := by
  intro b
  rw [b_n0]
  exact ⟨fun q => (by cases q), fun q => (by obtain ⟨z, hz, _⟩ := q; exact absurd hz (Nat.not_lt_zero z))⟩
theorem smk.next {f1 f2 s : Int32} {i j : Nat} (h : smk f1 f2 s (10 * i + j)) (hj : j < 10) (h1 : bt f1 i = true) (h2 : bt f2 j = true) : smk f1 f2 (s ||| nI 1 <<< (nI ((i + j) % 10) &&& 31)) (10 * i + (j + 1)) := by
  intro b
  show bt (s ||| 1 <<< (nI ((i + j) % 10) &&& 31)) b = true ↔ _
  rw [b_or, b_one _ (by omega), Bool.or_eq_true_iff, h b, decide_eq_true_iff]
  constructor
  · intro q
    rcases q with ⟨z, q1, q2⟩ | q
    · exact ⟨z, by omega, q2⟩
    · refine ⟨10 * i + j, by omega, ?_, ?_, ?_⟩
      · rw [show (10 * i + j) / 10 = i by omega]; exact h1
      · rw [show (10 * i + j) % 10 = j by omega]; exact h2
      · rw [show (10 * i + j) / 10 = i by omega, show (10 * i + j) % 10 = j by omega]; exact q
  · intro q
    obtain ⟨z, q1, q2, q3, q4⟩ := q
    by_cases e : z = 10 * i + j
    · subst e
      rw [show (10 * i + j) / 10 = i by omega, show (10 * i + j) % 10 = j by omega] at q4
      exact Or.inr q4
    · exact Or.inl ⟨z, by omega, q2, q3, q4⟩
theorem smk.same {f1 f2 s : Int32} {i j : Nat} (h : smk f1 f2 s (10 * i + j)) (hj : j < 10) (h1 : bt f1 i = false ∨ bt f2 j = false) : smk f1 f2 s (10 * i + (j + 1)) := by
  intro b
  rw [h b]
  constructor
  · intro q
    obtain ⟨z, q1, q2⟩ := q
    exact ⟨z, by omega, q2⟩
  · intro q
    obtain ⟨z, q1, q2, q3, q4⟩ := q
    by_cases e : z = 10 * i + j
    · subst e
      rw [show (10 * i + j) / 10 = i by omega] at q2
      rw [show (10 * i + j) % 10 = j by omega] at q3
      rcases h1 with h1 | h1
      · exact bno h1 q2
      · exact bno h1 q3
    · exact ⟨z, by omega, q2, q3, q4⟩
theorem smk.all {f1 f2 s : Int32} (h : smk f1 f2 s (10 * 10)) : ∀ b, bt s b = true ↔ asum (fun x => bt f1 x = true) (fun y => bt f2 y = true) b := by
  intro b
  rw [h b]
  constructor
  · intro q
    obtain ⟨z, q1, q2, q3, q4⟩ := q
    exact ⟨z / 10, z % 10, by omega, by omega, q2, q3, q4⟩
  · intro q
    obtain ⟨x, y, q1, q2, q3, q4, q5⟩ := q
    refine ⟨10 * x + y, by omega, ?_, ?_, ?_⟩
    · rw [show (10 * x + y) / 10 = x by omega]; exact q3
    · rw [show (10 * x + y) % 10 = y by omega]; exact q4
    · rw [show (10 * x + y) / 10 = x by omega, show (10 * x + y) % 10 = y by omega]; exact q5
section LD2
variable {P : Nat → Int32} {Q : Nat → Int64} {S : Int64} {F : Nat → Int32} {R : Int32} {atm : Nat → Nat} {l c i : Nat}
theorem ldok.num (h : atm (4 * l + i) < 10) : ldok atm (ofw P Q S F R) l c i (nI 1 <<< (nI (atm (4 * l + i)) &&& 31)) 0 := by
  have q := ldok.con (P := P) (Q := Q) (S := S) (F := F) (R := R) (c := c) (Or.inl h)
  unfold cbit at q
  rw [if_pos h] at q
  exact q
theorem ldok.pri (h : 300 ≤ atm (4 * l + i)) (h2 : atm (4 * l + i) ≤ 302) : ldok atm (ofw P Q S F R) l c i (nI 1 <<< (nI (atm (4 * l + i) - 300 + 10) &&& 31)) 0 := by
  have q := ldok.con (P := P) (Q := Q) (S := S) (F := F) (R := R) (c := c) (Or.inr ⟨h, h2⟩)
  unfold cbit at q
  rw [if_neg (by omega)] at q
  rw [show atm (4 * l + i) - 300 + 10 = atm (4 * l + i) - 290 by omega]
  exact q
end LD2
