/-! The analysis as sets of facts: values in variables (numbers and primitives; pairs), states, flows, results -/
abbrev AX : Type := (Nat → Nat → Prop) × (Nat → Nat → Prop) × (Nat → Prop) × (Nat → Nat → Prop) × (Nat → Prop)
def ale (X Y : AX) : Prop := (∀ s b, X.1 s b → Y.1 s b) ∧ (∀ s b, X.2.1 s b → Y.2.1 s b) ∧ (∀ b, X.2.2.1 b → Y.2.2.1 b) ∧ (∀ s b, X.2.2.2.1 s b → Y.2.2.2.1 s b) ∧ (∀ b, X.2.2.2.2 b → Y.2.2.2.2 b)
theorem ale.rf (X : AX) : ale X X := ⟨fun _ _ h => h, fun _ _ h => h, fun _ h => h, fun _ _ h => h, fun _ h => h⟩
theorem ale.tr {X Y Z : AX} (h : ale X Y) (g : ale Y Z) : ale X Z := ⟨fun s b q => g.1 s b (h.1 s b q), fun s b q => g.2.1 s b (h.2.1 s b q), fun b q => g.2.2.1 b (h.2.2.1 b q), fun s b q => g.2.2.2.1 s b (h.2.2.2.1 s b q), fun b q => g.2.2.2.2 b (h.2.2.2.2 b q)⟩
theorem ale.as {X Y : AX} (h : ale X Y) (g : ale Y X) : X = Y := by
  obtain ⟨a1, a2, a3, a4, a5⟩ := X
  obtain ⟨b1, b2, b3, b4, b5⟩ := Y
  obtain ⟨h1, h2, h3, h4, h5⟩ := h
  obtain ⟨g1, g2, g3, g4, g5⟩ := g
  have e1 : a1 = b1 := funext fun s => funext fun b => propext ⟨h1 s b, g1 s b⟩
  have e2 : a2 = b2 := funext fun s => funext fun b => propext ⟨h2 s b, g2 s b⟩
  have e3 : a3 = b3 := funext fun b => propext ⟨h3 b, g3 b⟩
  have e4 : a4 = b4 := funext fun s => funext fun b => propext ⟨h4 s b, g4 s b⟩
  have e5 : a5 = b5 := funext fun b => propext ⟨h5 b, g5 b⟩
  rw [e1, e2, e3, e4, e5]
/-- the sets that the sign of growth speaks of -/
def asame (X Y : AX) : Prop := X.1 = Y.1 ∧ X.2.1 = Y.2.1 ∧ X.2.2.1 = Y.2.2.1
def afl (g : Bool) (X : AX) (g' : Bool) (Y : AX) : Prop := (g' = true → g = true ∨ ¬ ale Y X) ∧ (g' = false → g = false ∧ asame X Y)
theorem afl.rf (g : Bool) (X : AX) : afl g X g X := ⟨fun h => Or.inl h, fun h => ⟨h, rfl, rfl, rfl⟩⟩
theorem afl.tr {g g1 g2 : Bool} {X Y Z : AX} (hXY : ale X Y) (hYZ : ale Y Z) (h : afl g X g1 Y) (k : afl g1 Y g2 Z) : afl g X g2 Z := by
  refine ⟨fun e => ?_, fun e => ?_⟩
  · rcases k.1 e with e1 | n
    · rcases h.1 e1 with e2 | n
      · exact Or.inl e2
      · exact Or.inr (fun q => n (hYZ.tr q))
    · exact Or.inr (fun q => n (q.tr hXY))
  · obtain ⟨e1, s1⟩ := k.2 e
    obtain ⟨e2, s2⟩ := h.2 e1
    exact ⟨e2, s2.1.trans s1.1, s2.2.1.trans s1.2.1, s2.2.2.trans s1.2.2⟩
/-- a piece of the work: from X to Y; what is added is wanted by N; N is reached -/
def apc (N : AX → AX → Prop) (g : Bool) (X : AX) (g' : Bool) (Y : AX) : Prop := ale X Y ∧ (∀ Z, ale X Z → N Z Z → ale Y Z) ∧ N X Y ∧ afl g X g' Y
def amon (N : AX → AX → Prop) : Prop := ∀ X0 X Y Z, ale X0 X → ale Y Z → N X Y → N X0 Z
theorem apc.skip (g : Bool) (X : AX) : apc (fun _ _ => True) g X g X := ⟨ale.rf X, fun _ h _ => h, trivial, afl.rf g X⟩
theorem apc.seq {N1 N2 : AX → AX → Prop} {g g1 g2 : Bool} {X Y Z : AX} (hN1 : amon N1) (hN2 : amon N2) (h : apc N1 g X g1 Y) (k : apc N2 g1 Y g2 Z) : apc (fun X Y => N1 X Y ∧ N2 X Y) g X g2 Z :=
  ⟨h.1.tr k.1, fun V hV hN => k.2.1 V (h.2.1 V hV hN.1) hN.2, ⟨hN1 X X Y Z (ale.rf X) k.1 h.2.2.1, hN2 X Y Z Z h.1 (ale.rf Z) k.2.2.1⟩, afl.tr h.1 k.1 h.2.2.2 k.2.2.2⟩
theorem apc.conv {N M : AX → AX → Prop} {g g' : Bool} {X Y : AX} (h : apc N g X g' Y) (h1 : ∀ Z, ale X Z → M Z Z → N Z Z) (h2 : N X Y → M X Y) : apc M g X g' Y := ⟨h.1, fun Z hZ hM => h.2.1 Z hZ (h1 Z hZ hM), h2 h.2.2.1, h.2.2.2⟩
theorem amon.tt : amon (fun _ _ => True) := fun _ _ _ _ _ _ _ => trivial
theorem amon.and {N M : AX → AX → Prop} (h : amon N) (k : amon M) : amon (fun X Y => N X Y ∧ M X Y) := fun X0 X Y Z a b q => ⟨h X0 X Y Z a b q.1, k X0 X Y Z a b q.2⟩
theorem amon.imp {p : Prop} {N : AX → AX → Prop} (h : amon N) : amon (fun X Y => p → N X Y) := fun X0 X Y Z a b q hp => h X0 X Y Z a b (q hp)
theorem amon.impX {p : AX → Prop} {N : AX → AX → Prop} (hp : ∀ X Y, ale X Y → p X → p Y) (h : amon N) : amon (fun X Y => p X → N X Y) := fun X0 X Y Z a b q hp0 => h X0 X Y Z a b (q (hp X0 X a hp0))
theorem amon.all {α : Type} {N : α → AX → AX → Prop} (h : ∀ i, amon (N i)) : amon (fun X Y => ∀ i, N i X Y) := fun X0 X Y Z a b q i => h i X0 X Y Z a b (q i)
/-- a loop's pieces one behind another -/
theorem apc.next {N : Nat → AX → AX → Prop} (hN : ∀ i, amon (N i)) {g g1 g2 : Bool} {X Y Z : AX} {i : Nat} (h : apc (fun X Y => ∀ j, j < i → N j X Y) g X g1 Y) (k : apc (N i) g1 Y g2 Z) : apc (fun X Y => ∀ j, j < i + 1 → N j X Y) g X g2 Z := by
  refine apc.conv (apc.seq (amon.all (fun j => (hN j).imp)) (hN i) h k) (fun Z _ hz => ⟨fun j hj => hz j (by omega), hz i (by omega)⟩) (fun hz j hj => ?_)
  rcases Nat.lt_succ_iff_lt_or_eq.mp hj with h1 | rfl
  · exact hz.1 j h1
  · exact hz.2
theorem apc.zero {N : Nat → AX → AX → Prop} (g : Bool) (X : AX) : apc (fun X Y => ∀ j, j < 0 → N j X Y) g X g X := ⟨ale.rf X, fun _ h _ => h, fun j hj => absurd hj (Nat.not_lt_zero j), afl.rf g X⟩
/-- the place of parameter i of lambda m in contour c -/
def sl (m i c : Nat) : Nat := (m * 3 + i) * 8 + c
/-- numbers and primitives, and pairs, that atom i of lambda l means in contour c -/
def an_c (atm : Nat → Nat) (X : AX) (l c i b : Nat) : Prop := (atm (4 * l + i) < 10 ∧ b = atm (4 * l + i)) ∨ (300 ≤ atm (4 * l + i) ∧ b = atm (4 * l + i) - 290) ∨ (100 ≤ atm (4 * l + i) ∧ atm (4 * l + i) < 200 ∧ X.1 (sl ((atm (4 * l + i) - 100) / 10) ((atm (4 * l + i) - 100) % 10) c) b)
def an_p (atm : Nat → Nat) (X : AX) (l c i b : Nat) : Prop := (200 ≤ atm (4 * l + i) ∧ atm (4 * l + i) < 300 ∧ b = 8 * (atm (4 * l + i) - 200) + c) ∨ (100 ≤ atm (4 * l + i) ∧ atm (4 * l + i) < 200 ∧ X.2.1 (sl ((atm (4 * l + i) - 100) / 10) ((atm (4 * l + i) - 100) % 10) c) b)
theorem an_c.mono {atm : Nat → Nat} {l c i b : Nat} {X Y : AX} (h : ale X Y) (q : an_c atm X l c i b) : an_c atm Y l c i b := by
  rcases q with q | q | ⟨q1, q2, q3⟩
  · exact Or.inl q
  · exact Or.inr (Or.inl q)
  · exact Or.inr (Or.inr ⟨q1, q2, h.1 _ _ q3⟩)
theorem an_p.mono {atm : Nat → Nat} {l c i b : Nat} {X Y : AX} (h : ale X Y) (q : an_p atm X l c i b) : an_p atm Y l c i b := by
  rcases q with q | ⟨q1, q2, q3⟩
  · exact Or.inl q
  · exact Or.inr ⟨q1, q2, h.2.1 _ _ q3⟩
/-- the sums of the first two arguments -/
def asum (C D : Nat → Prop) (b : Nat) : Prop := ∃ x y, x < 10 ∧ y < 10 ∧ C x ∧ D y ∧ b = (x + y) % 10
theorem asum.mono {C C' D D' : Nat → Prop} {b : Nat} (h : ∀ b, C b → C' b) (k : ∀ b, D b → D' b) (q : asum C D b) : asum C' D' b := by
  obtain ⟨x, y, h1, h2, h3, h4, h5⟩ := q
  exact ⟨x, y, h1, h2, h x h3, k y h4, h5⟩
/-- lambda l, in whose call it is, calls the pair (m, e): arguments C (numbers and primitives), B (pairs) -/
def acall (anc : Nat → Nat → Prop) (prm : Nat → Nat) (l m e to : Nat) (C B : Nat → Nat → Prop) (X Y : AX) : Prop :=
  Y.2.2.2.1 l m ∧ Y.2.2.1 (8 * m + to) ∧ (∀ i, i < prm m → (∀ b, C i b → Y.1 (sl m i to) b) ∧ ∀ b, B i b → Y.2.1 (sl m i to) b) ∧ ∀ a, anc a m → ∀ i, i < prm a → (∀ b, X.1 (sl a i e) b → Y.1 (sl a i to) b) ∧ ∀ b, X.2.1 (sl a i e) b → Y.2.1 (sl a i to) b
theorem acall.amon (anc : Nat → Nat → Prop) (prm : Nat → Nat) (l m e to : Nat) (C B : Nat → Nat → Prop) : amon (acall anc prm l m e to C B) := fun X0 X Y Z a b q =>
  ⟨b.2.2.2.1 _ _ q.1, b.2.2.1 _ q.2.1, fun i hi => ⟨fun x hx => b.1 _ _ ((q.2.2.1 i hi).1 x hx), fun x hx => b.2.1 _ _ ((q.2.2.1 i hi).2 x hx)⟩, fun v hv i hi => ⟨fun x hx => b.1 _ _ ((q.2.2.2 v hv i hi).1 x (a.1 _ _ hx)), fun x hx => b.2.1 _ _ ((q.2.2.2 v hv i hi).2 x (a.2.1 _ _ hx))⟩⟩
theorem acall.less {anc : Nat → Nat → Prop} {prm : Nat → Nat} {l m e to : Nat} {C B C' B' : Nat → Nat → Prop} {X Y : AX} (h : acall anc prm l m e to C B X Y) (hC : ∀ i b, i < prm m → C' i b → C i b) (hB : ∀ i b, i < prm m → B' i b → B i b) : acall anc prm l m e to C' B' X Y :=
  ⟨h.1, h.2.1, fun i hi => ⟨fun b hb => (h.2.2.1 i hi).1 b (hC i b hi hb), fun b hb => (h.2.2.1 i hi).2 b (hB i b hi hb)⟩, h.2.2.2⟩
def acalls (cnt : Nat) (anc : Nat → Nat → Prop) (prm : Nat → Nat) (l to n : Nat) (O : Nat → Prop) (C B : Nat → Nat → Prop) (X Y : AX) : Prop := ∀ m e, m < cnt → e < 8 → O (8 * m + e) → prm m = n → acall anc prm l m e to C B X Y
theorem acalls.amon (cnt : Nat) (anc : Nat → Nat → Prop) (prm : Nat → Nat) (l to n : Nat) (O : Nat → Prop) (C B : Nat → Nat → Prop) : amon (acalls cnt anc prm l to n O C B) := fun X0 X Y Z a b q m e h1 h2 h3 h4 => acall.amon anc prm l m e to C B X0 X Y Z a b (q m e h1 h2 h3 h4)
theorem acalls.less {cnt : Nat} {anc : Nat → Nat → Prop} {prm : Nat → Nat} {l to n : Nat} {O O' : Nat → Prop} {C B C' B' : Nat → Nat → Prop} {X Y : AX} (h : acalls cnt anc prm l to n O C B X Y) (hO : ∀ b, O' b → O b) (hC : ∀ i b, i < n → C' i b → C i b) (hB : ∀ i b, i < n → B' i b → B i b) : acalls cnt anc prm l to n O' C' B' X Y := by
  intro m e h1 h2 h3 h4
  subst h4
  exact (h m e h1 h2 (hO _ h3) rfl).less hC hB
def ares (C B : Nat → Prop) (Y : AX) : Prop := (∀ b, C b → Y.2.2.2.2 b) ∧ ((∃ b, B b) → Y.2.2.2.2 13)
theorem ares.amon (C B : Nat → Prop) : amon (fun _ Y => ares C B Y) := fun _ _ _ _ _ b q => ⟨fun x hx => b.2.2.2.2 _ (q.1 x hx), fun hx => b.2.2.2.2 _ (q.2 hx)⟩
theorem ares.less {C B C' B' : Nat → Prop} {Y : AX} (h : ares C B Y) (hC : ∀ b, C' b → C b) (hB : ∀ b, B' b → B b) : ares C' B' Y := ⟨fun b hb => h.1 b (hC b hb), fun ⟨b, hb⟩ => h.2 ⟨b, hB b hb⟩⟩
def ano (_ _ : Nat) : Prop := False
/-- what the document asks for the state (l, c), the sets of atoms given: C i, B i of atom i -/
def avisS (cnt : Nat) (anc : Nat → Nat → Prop) (prm : Nat → Nat) (n to l : Nat) (C B : Nat → Nat → Prop) (X Y : AX) : Prop :=
  acalls cnt anc prm l to (n - 1) (B 0) (fun i => C (1 + i)) (fun i => B (1 + i)) X Y ∧
  (n = 2 → C 0 10 → ares (C 1) (B 1) Y) ∧
  (n = 4 → C 0 11 → (∃ b, asum (C 1) (C 2) b) → acalls cnt anc prm l to 1 (B 3) (fun _ => asum (C 1) (C 2)) ano X Y ∧ (C 3 10 → ares (asum (C 1) (C 2)) (fun _ => False) Y)) ∧
  (n = 4 → C 0 12 → C 1 0 → acalls cnt anc prm l to 0 (B 2) ano ano X Y) ∧
  (n = 4 → C 0 12 → (∃ b, 1 ≤ b ∧ b < 10 ∧ C 1 b) → acalls cnt anc prm l to 0 (B 3) ano ano X Y)
theorem avisS.amon (cnt : Nat) (anc : Nat → Nat → Prop) (prm : Nat → Nat) (n to l : Nat) (C B : Nat → Nat → Prop) : amon (avisS cnt anc prm n to l C B) := fun X0 X Y Z a b q =>
  ⟨acalls.amon _ _ _ _ _ _ _ _ _ X0 X Y Z a b q.1, fun e h => ares.amon _ _ X0 X Y Z a b (q.2.1 e h), fun e h s => ⟨acalls.amon _ _ _ _ _ _ _ _ _ X0 X Y Z a b (q.2.2.1 e h s).1, fun r => ares.amon _ _ X0 X Y Z a b ((q.2.2.1 e h s).2 r)⟩, fun e h r => acalls.amon _ _ _ _ _ _ _ _ _ X0 X Y Z a b (q.2.2.2.1 e h r), fun e h r => acalls.amon _ _ _ _ _ _ _ _ _ X0 X Y Z a b (q.2.2.2.2 e h r)⟩
theorem avisS.less {cnt : Nat} {anc : Nat → Nat → Prop} {prm : Nat → Nat} {n to l : Nat} {C B C' B' : Nat → Nat → Prop} {X Y : AX} (h : avisS cnt anc prm n to l C B X Y) (hC : ∀ i b, i ≤ n - 1 → C' i b → C i b) (hB : ∀ i b, i ≤ n - 1 → B' i b → B i b) : avisS cnt anc prm n to l C' B' X Y := by
  obtain ⟨h1, h2, h3, h4, h5⟩ := h
  refine ⟨h1.less (fun b => hB 0 b (Nat.zero_le _)) (fun i b hi => hC _ b (by omega)) (fun i b hi => hB _ b (by omega)), fun e q => ?_, fun e q s => ?_, fun e q r => ?_, fun e q s => ?_⟩
  · subst e
    exact (h2 rfl (hC _ _ (by omega) q)).less (fun b => hC 1 b (by omega)) (fun b => hB 1 b (by omega))
  · subst e
    obtain ⟨b, s⟩ := s
    have m1 : ∀ b, asum (C' 1) (C' 2) b → asum (C 1) (C 2) b := fun b s => s.mono (fun b => hC 1 b (by omega)) (fun b => hC 2 b (by omega))
    obtain ⟨g1, g2⟩ := h3 rfl (hC _ _ (by omega) q) ⟨b, m1 b s⟩
    exact ⟨g1.less (fun b => hB 3 b (by omega)) (fun _ b _ q => m1 b q) (fun _ _ _ q => q), fun r => (g2 (hC _ _ (by omega) r)).less m1 (fun _ q => q)⟩
  · subst e
    exact (h4 rfl (hC _ _ (by omega) q) (hC _ _ (by omega) r)).less (fun b => hB 2 b (by omega)) (fun _ _ _ q => q) (fun _ _ _ q => q)
  · subst e
    obtain ⟨b, b1, b2, s⟩ := s
    exact (h5 rfl (hC _ _ (by omega) q) ⟨b, b1, b2, hC _ _ (by omega) s⟩).less (fun b => hB 3 b (by omega)) (fun _ _ _ q => q) (fun _ _ _ q => q)
def avis (cnt : Nat) (anc : Nat → Nat → Prop) (prm siz atm : Nat → Nat) (k l c : Nat) (X Y : AX) : Prop :=
  avisS cnt anc prm (siz l) (if k = 1 then l else 0) l (an_c atm X l c) (an_p atm X l c) X Y
theorem avis.amon (cnt : Nat) (anc : Nat → Nat → Prop) (prm siz atm : Nat → Nat) (k l c : Nat) : amon (avis cnt anc prm siz atm k l c) := fun X0 X Y Z a b q =>
  (avisS.amon cnt anc prm (siz l) (if k = 1 then l else 0) l (an_c atm X l c) (an_p atm X l c) X0 X Y Z a b q).less (fun _ _ _ h => h.mono a) (fun _ _ _ h => h.mono a)
/-- the sets loaded at the state's begin serve -/
theorem avis.of {cnt : Nat} {anc : Nat → Nat → Prop} {prm siz atm : Nat → Nat} {k l c : Nat} {g g' : Bool} {X Y : AX} {C B : Nat → Nat → Prop} (hC : ∀ i b, i ≤ siz l - 1 → (C i b ↔ an_c atm X l c i b)) (hB : ∀ i b, i ≤ siz l - 1 → (B i b ↔ an_p atm X l c i b))
    (h : apc (avisS cnt anc prm (siz l) (if k = 1 then l else 0) l C B) g X g' Y) : apc (avis cnt anc prm siz atm k l c) g X g' Y :=
  h.conv (fun Z hZ hM => avisS.less hM (fun i b hi q => ((hC i b hi).mp q).mono hZ) (fun i b hi q => ((hB i b hi).mp q).mono hZ)) (fun hN => avisS.less hN (fun i b hi q => (hC i b hi).mpr q) (fun i b hi q => (hB i b hi).mpr q))
def aclosed (cnt : Nat) (anc : Nat → Nat → Prop) (prm siz atm : Nat → Nat) (k : Nat) (X : AX) : Prop := X.2.2.1 0 ∧ ∀ l c, l < cnt → c < 8 → X.2.2.1 (8 * l + c) → 0 < siz l → avis cnt anc prm siz atm k l c X X
def aleast (cnt : Nat) (anc : Nat → Nat → Prop) (prm siz atm : Nat → Nat) (k : Nat) (X : AX) : Prop := aclosed cnt anc prm siz atm k X ∧ ∀ Y, aclosed cnt anc prm siz atm k Y → ale X Y
theorem aleast.eq {cnt : Nat} {anc : Nat → Nat → Prop} {prm siz atm : Nat → Nat} {k : Nat} {X Y : AX} (h : aleast cnt anc prm siz atm k X) (g : aleast cnt anc prm siz atm k Y) : X = Y := ale.as (h.2 Y g.1) (g.2 X h.1)
/-- everything: the largest sets -/
def afull (cnt : Nat) : AX := (fun _ _ => True, fun _ b => b < 8 * cnt, fun b => b < 8 * cnt, fun _ _ => True, fun _ => True)
/-- atoms that are lambdas name lambdas that are there -/
def awf (cnt : Nat) (siz atm : Nat → Nat) : Prop := ∀ l i, l < cnt → i < siz l → 200 ≤ atm (4 * l + i) → atm (4 * l + i) < 300 → atm (4 * l + i) - 200 < cnt
theorem afull.calls {cnt : Nat} {anc : Nat → Nat → Prop} {prm : Nat → Nat} {l to n : Nat} {O : Nat → Prop} {C B : Nat → Nat → Prop} (ht : to < 8) (hB : ∀ i b, i < n → B i b → b < 8 * cnt) : acalls cnt anc prm l to n O C B (afull cnt) (afull cnt) := by
  intro m e hm _ _ hn
  subst hn
  exact ⟨trivial, show 8 * m + to < 8 * cnt by omega, fun i hi => ⟨fun _ _ => trivial, fun b hb => hB i b hi hb⟩, fun _ _ _ _ => ⟨fun _ _ => trivial, fun _ hb => hb⟩⟩
theorem afull.closed {cnt : Nat} {anc : Nat → Nat → Prop} {prm siz atm : Nat → Nat} {k : Nat} (h0 : 0 < cnt) (h8 : cnt ≤ 8) (hw : awf cnt siz atm) : aclosed cnt anc prm siz atm k (afull cnt) := by
  refine ⟨show 0 < 8 * cnt by omega, fun l c hl hc _ hz => ?_⟩
  have ht : (if k = 1 then l else 0) < 8 := by split <;> omega
  have hp : ∀ i b, i < siz l → an_p atm (afull cnt) l c i b → b < 8 * cnt := by
    intro i b hi q
    rcases q with ⟨q1, q2, q3⟩ | ⟨_, _, q3⟩
    · have := hw l i hl hi q1 q2
      omega
    · exact q3
  refine ⟨afull.calls ht (fun i b hi q => hp _ b (by omega) q), fun _ _ => ⟨fun _ _ => trivial, fun _ => trivial⟩, fun _ _ _ => ⟨afull.calls ht (fun _ _ _ q => q.elim), fun _ => ⟨fun _ _ => trivial, fun _ => trivial⟩⟩, fun _ _ _ => afull.calls ht (fun _ _ _ q => q.elim), fun _ _ _ => afull.calls ht (fun _ _ _ q => q.elim)⟩
theorem avisS.read {cnt : Nat} {anc : Nat → Nat → Prop} {prm : Nat → Nat} {n to l : Nat} {C B : Nat → Nat → Prop} {X X2 Y : AX} (e1 : X.1 = X2.1) (e2 : X.2.1 = X2.2.1) (h : avisS cnt anc prm n to l C B X Y) : avisS cnt anc prm n to l C B X2 Y := by
  obtain ⟨x1, x2, x3⟩ := X
  obtain ⟨z1, z2, z3⟩ := X2
  have e1 : x1 = z1 := e1
  have e2 : x2 = z2 := e2
  subst e1
  subst e2
  exact h
/-- what a pass over all states reaches -/
def apassN (cnt : Nat) (anc : Nat → Nat → Prop) (prm siz atm : Nat → Nat) (k j : Nat) (X Y : AX) : Prop := j / 8 < cnt → X.2.2.1 j → 0 < siz (j / 8) → avis cnt anc prm siz atm k (j / 8) (j % 8) X Y
theorem apassN.amon (cnt : Nat) (anc : Nat → Nat → Prop) (prm siz atm : Nat → Nat) (k j : Nat) : amon (apassN cnt anc prm siz atm k j) := fun X0 X Y Z a b q h1 h2 h3 => avis.amon cnt anc prm siz atm k (j / 8) (j % 8) X0 X Y Z a b (q h1 (a.2.2.1 j h2) h3)
/-- one pass over all states -/
theorem apass {cnt : Nat} {anc : Nat → Nat → Prop} {prm siz atm : Nat → Nat} {k : Nat} {g : Bool} {X Y : AX} (h8 : cnt ≤ 8) (h0 : X.2.2.1 0) (hX : ∀ Z, aclosed cnt anc prm siz atm k Z → ale X Z)
    (h : apc (fun X Y => ∀ j, j < 64 → apassN cnt anc prm siz atm k j X Y) false X g Y) :
    Y.2.2.1 0 ∧ (∀ Z, aclosed cnt anc prm siz atm k Z → ale Y Z) ∧ (g = true → ¬ ale Y X) ∧ (g = false → aclosed cnt anc prm siz atm k Y) := by
  refine ⟨h.1.2.2.1 0 h0, fun Z hZ => h.2.1 Z (hX Z hZ) (fun j hj h1 h2 h3 => ?_), fun e => ?_, fun e => ⟨h.1.2.2.1 0 h0, fun l c hl hc hq hz => ?_⟩⟩
  · refine hZ.2 (j / 8) (j % 8) h1 (by omega) ?_ h3
    rw [show 8 * (j / 8) + j % 8 = j by omega]
    exact h2
  · rcases h.2.2.2.1 e with q | q
    · exact absurd q (by decide)
    · exact q
  · obtain ⟨-, s1, s2, s3⟩ := h.2.2.2.2 e
    have e1 : (8 * l + c) / 8 = l := by omega
    have e2 : (8 * l + c) % 8 = c := by omega
    have hv := h.2.2.1 (8 * l + c) (by omega) (by rw [e1]; exact hl) (by rw [s3]; exact hq) (by rw [e1]; exact hz)
    rw [e1, e2] at hv
    have key : ∀ i b, (an_c atm X l c i b ↔ an_c atm Y l c i b) ∧ (an_p atm X l c i b ↔ an_p atm Y l c i b) := by
      intro i b
      unfold an_c an_p
      rw [s1, s2]
      exact ⟨Iff.rfl, Iff.rfl⟩
    exact avisS.read s1 s2 (avisS.less hv (fun i b _ q => (key i b).1.mpr q) (fun i b _ q => (key i b).2.mpr q))
/-- the sets lie in the program's rows -/
def afin (X : AX) : Prop := (∀ s b, X.1 s b → s < 192 ∧ b < 32) ∧ (∀ s b, X.2.1 s b → s < 192 ∧ b < 64) ∧ (∀ b, X.2.2.1 b → b < 64) ∧ (∀ s b, X.2.2.2.1 s b → s < 8 ∧ b < 32) ∧ (∀ b, X.2.2.2.2 b → b < 32)
noncomputable def cntP (p : Nat → Prop) : Nat → Nat
  | 0 => 0
  | n + 1 => cntP p n + @ite Nat (p n) (Classical.propDecidable (p n)) 1 0
theorem cntP.le (p : Nat → Prop) : ∀ n, cntP p n ≤ n
  | 0 => Nat.le_refl 0
  | n + 1 => by
    have h := cntP.le p n
    unfold cntP
    split <;> omega
theorem cntP.mono {p q : Nat → Prop} (h : ∀ f, p f → q f) : ∀ n, cntP p n ≤ cntP q n
  | 0 => Nat.le_refl 0
  | n + 1 => by
    have h1 := cntP.mono h n
    unfold cntP
    by_cases hp : p n
    · rw [if_pos hp, if_pos (h n hp)]
      omega
    · rw [if_neg hp]
      omega
theorem cntP.lt {p q : Nat → Prop} (h : ∀ f, p f → q f) {f : Nat} (hq : q f) (hp : ¬ p f) : ∀ n, f < n → cntP p n < cntP q n
  | 0, hf => absurd hf (Nat.not_lt_zero f)
  | n + 1, hf => by
    unfold cntP
    rcases Nat.lt_succ_iff_lt_or_eq.mp hf with h1 | h1
    · have h2 := cntP.lt h hq hp n h1
      by_cases hn : p n
      · rw [if_pos hn, if_pos (h n hn)]
        omega
      · rw [if_neg hn]
        omega
    · subst h1
      have h2 := cntP.mono h f
      rw [if_pos hq, if_neg hp]
      omega
def afact (X : AX) (f : Nat) : Prop := if f < 6144 then X.1 (f / 32) (f % 32) else if f < 18432 then X.2.1 ((f - 6144) / 64) ((f - 6144) % 64) else if f < 18496 then X.2.2.1 (f - 18432) else if f < 18752 then X.2.2.2.1 ((f - 18496) / 32) ((f - 18496) % 32) else X.2.2.2.2 (f - 18752)
theorem afact.mono {X Y : AX} (h : ale X Y) (f : Nat) (q : afact X f) : afact Y f := by
  unfold afact at q ⊢
  by_cases h1 : f < 6144
  · rw [if_pos h1] at q ⊢
    exact h.1 _ _ q
  · rw [if_neg h1] at q ⊢
    by_cases h2 : f < 18432
    · rw [if_pos h2] at q ⊢
      exact h.2.1 _ _ q
    · rw [if_neg h2] at q ⊢
      by_cases h3 : f < 18496
      · rw [if_pos h3] at q ⊢
        exact h.2.2.1 _ q
      · rw [if_neg h3] at q ⊢
        by_cases h4 : f < 18752
        · rw [if_pos h4] at q ⊢
          exact h.2.2.2.1 _ _ q
        · rw [if_neg h4] at q ⊢
          exact h.2.2.2.2 _ q
theorem afact.new {X Y : AX} (hY : afin Y) (hn : ¬ ale Y X) : ∃ f, f < 18784 ∧ afact Y f ∧ ¬ afact X f := by
  refine Classical.byContradiction (fun hx => hn ?_)
  have key : ∀ f, f < 18784 → afact Y f → afact X f := fun f hf q => Classical.byContradiction fun z => hx ⟨f, hf, q, z⟩
  refine ⟨fun s b q => ?_, fun s b q => ?_, fun b q => ?_, fun s b q => ?_, fun b q => ?_⟩
  · obtain ⟨h1, h2⟩ := hY.1 s b q
    have k := key (32 * s + b) (by omega)
    unfold afact at k
    rw [if_pos (show 32 * s + b < 6144 by omega), if_pos (show 32 * s + b < 6144 by omega), show (32 * s + b) / 32 = s by omega, show (32 * s + b) % 32 = b by omega] at k
    exact k q
  · obtain ⟨h1, h2⟩ := hY.2.1 s b q
    have k := key (6144 + (64 * s + b)) (by omega)
    unfold afact at k
    rw [if_neg (show ¬ 6144 + (64 * s + b) < 6144 by omega), if_neg (show ¬ 6144 + (64 * s + b) < 6144 by omega), if_pos (show 6144 + (64 * s + b) < 18432 by omega), if_pos (show 6144 + (64 * s + b) < 18432 by omega), show (6144 + (64 * s + b) - 6144) / 64 = s by omega, show (6144 + (64 * s + b) - 6144) % 64 = b by omega] at k
    exact k q
  · have h1 := hY.2.2.1 b q
    have k := key (18432 + b) (by omega)
    unfold afact at k
    rw [if_neg (show ¬ 18432 + b < 6144 by omega), if_neg (show ¬ 18432 + b < 6144 by omega), if_neg (show ¬ 18432 + b < 18432 by omega), if_neg (show ¬ 18432 + b < 18432 by omega), if_pos (show 18432 + b < 18496 by omega), if_pos (show 18432 + b < 18496 by omega), show 18432 + b - 18432 = b by omega] at k
    exact k q
  · obtain ⟨h1, h2⟩ := hY.2.2.2.1 s b q
    have k := key (18496 + (32 * s + b)) (by omega)
    unfold afact at k
    rw [if_neg (show ¬ 18496 + (32 * s + b) < 6144 by omega), if_neg (show ¬ 18496 + (32 * s + b) < 6144 by omega), if_neg (show ¬ 18496 + (32 * s + b) < 18432 by omega), if_neg (show ¬ 18496 + (32 * s + b) < 18432 by omega), if_neg (show ¬ 18496 + (32 * s + b) < 18496 by omega), if_neg (show ¬ 18496 + (32 * s + b) < 18496 by omega), if_pos (show 18496 + (32 * s + b) < 18752 by omega), if_pos (show 18496 + (32 * s + b) < 18752 by omega), show (18496 + (32 * s + b) - 18496) / 32 = s by omega, show (18496 + (32 * s + b) - 18496) % 32 = b by omega] at k
    exact k q
  · have h1 := hY.2.2.2.2 b q
    have k := key (18752 + b) (by omega)
    unfold afact at k
    rw [if_neg (show ¬ 18752 + b < 6144 by omega), if_neg (show ¬ 18752 + b < 6144 by omega), if_neg (show ¬ 18752 + b < 18432 by omega), if_neg (show ¬ 18752 + b < 18432 by omega), if_neg (show ¬ 18752 + b < 18496 by omega), if_neg (show ¬ 18752 + b < 18496 by omega), if_neg (show ¬ 18752 + b < 18752 by omega), if_neg (show ¬ 18752 + b < 18752 by omega), show 18752 + b - 18752 = b by omega] at k
    exact k q
/-- the state of the loop over passes, with j passes made -/
def ainv (cnt : Nat) (anc : Nat → Nat → Prop) (prm siz atm : Nat → Nat) (k j : Nat) (g : Bool) (X : AX) : Prop := afin X ∧ X.2.2.1 0 ∧ (∀ Z, aclosed cnt anc prm siz atm k Z → ale X Z) ∧ (g = true → j ≤ cntP (afact X) 18784) ∧ (g = false → aclosed cnt anc prm siz atm k X)
theorem ainv.next {cnt : Nat} {anc : Nat → Nat → Prop} {prm siz atm : Nat → Nat} {k j : Nat} {g : Bool} {X Y : AX} (h8 : cnt ≤ 8) (h : ainv cnt anc prm siz atm k j true X) (hp : apc (fun X Y => ∀ j, j < 64 → apassN cnt anc prm siz atm k j X Y) false X g Y) (hf : afin Y) : ainv cnt anc prm siz atm k (j + 1) g Y := by
  obtain ⟨-, h1, h2, h3, -⟩ := h
  obtain ⟨g1, g2, g3, g4⟩ := apass h8 h1 h2 hp
  refine ⟨hf, g1, g2, fun e => ?_, g4⟩
  obtain ⟨f, hf1, hf2, hf3⟩ := afact.new hf (g3 e)
  have := cntP.lt (fun f q => afact.mono hp.1 f q) hf2 hf3 18784 hf1
  have := h3 rfl
  omega
theorem ainv.done {cnt : Nat} {anc : Nat → Nat → Prop} {prm siz atm : Nat → Nat} {k j : Nat} {g : Bool} {X : AX} (h : ainv cnt anc prm siz atm k j g X) (hj : g = false ∨ 20000 ≤ j) : aleast cnt anc prm siz atm k X := by
  obtain ⟨-, -, h2, h3, h4⟩ := h
  rcases hj with e | e
  · exact ⟨h4 e, h2⟩
  · cases g with
    | false => exact ⟨h4 rfl, h2⟩
    | true =>
      have := h3 rfl
      have := cntP.le (afact X) 18784
      omega
theorem ainv.start {cnt : Nat} {anc : Nat → Nat → Prop} {prm siz atm : Nat → Nat} {k : Nat} {X : AX} (hf : afin X) (h0 : X.2.2.1 0) (hz : ∀ Z, Z.2.2.1 0 → ale X Z) : ainv cnt anc prm siz atm k 0 true X :=
  ⟨hf, h0, fun Z hZ => hz Z hZ.1, fun _ => Nat.zero_le _, fun e => absurd e (by decide)⟩
