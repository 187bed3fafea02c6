/-! Rows for the analysis's contracts -/
def lP (q : Nat) : Int64 := 1 <<< ((nI q).toInt64 &&& 63)
theorem lP_bl {q : Nat} (h : q < 64) (i : Nat) : bl (lP q) i = decide (i = q) := l_one q h i
def cin (p : Int64) (m : Nat) : Int32 := (p.toUInt64 >>> ((nI (8 * m)).toInt64.toUInt64 &&& Int64.toUInt64 63)).toInt64.toInt32 &&& nI 255
def cbit (a : Nat) : Nat := if a < 10 then a else a - 290
theorem l_orq {S v : Int64} {q : Nat} (hv : ∀ i, bl v i = decide (i = q)) : S ||| v = S ↔ bl S q = true := by
  constructor
  · intro h
    exact l_old h (by rw [hv]; simp)
  · intro h
    refine l_ext (fun i _ => ?_)
    rw [l_or, hv]
    by_cases e : i = q
    · subst e
      simp [h]
    · simp [e]
def acar (prm : Nat → Nat) (m e to i : Nat) (X Y : AX) : Prop := (∀ b, X.1 (sl m i e) b → Y.1 (sl m i to) b) ∧ ∀ b, X.2.1 (sl m i e) b → Y.2.1 (sl m i to) b
theorem acar.amon (prm : Nat → Nat) (m e to i : Nat) : amon (acar prm m e to i) := fun _ _ _ _ a b q => ⟨fun x hx => b.1 _ _ (q.1 x (a.1 _ _ hx)), fun x hx => b.2.1 _ _ (q.2 x (a.2.1 _ _ hx))⟩
theorem sl_lt {m i c : Nat} (hm : m < 8) (hi : i < 3) (hc : c < 8) : sl m i c < 192 := by
  unfold sl
  omega
theorem apc.car {prm : Nat → Nat} {m e to i : Nat} {g g' : Bool} {P : Nat → Int32} {Q : Nat → Int64} {S : Int64} {F : Nat → Int32} {R : Int32} {Y : AX} (hs : sl m i e < 192) (h : apc (awid (sl m i to) (P (sl m i e)) (Q (sl m i e))) g (ofw P Q S F R) g' Y) : apc (acar prm m e to i) g (ofw P Q S F R) g' Y :=
  h.conv (fun Z hZ hM => ⟨fun b hb => hM.1 b (hZ.1 _ _ ⟨hs, hb⟩), fun b hb => hM.2 b (hZ.2.1 _ _ ⟨hs, hb⟩)⟩) (fun hN => ⟨fun b hb => hN.1 b hb.2, fun b hb => hN.2 b hb.2⟩)
/-- who is around whom -/
def anc (par : Nat → Int32) (a m : Nat) : Prop := a < m ∧ aos par a m
theorem aenter {par : Nat → Int32} {prm : Nat → Nat} {lin : Nat → Int32} {cnt l m e to : Nat} {OC : Nat → Int32} {OP : Nat → Int64} {first : Nat} {g g1 g2 g3 g4 : Bool} {X X1 X2 X3 X4 : AX} (hl : linok cnt par lin) (hm : m < cnt) (h8 : cnt ≤ 8)
    (h1 : apc (aflo l m) g X g1 X1) (h2 : apc (asta (8 * m + to)) g1 X1 g2 X2) (h3 : apc (fun X Y => ∀ j, j < prm m → awid (sl m j to) (OC (first + j)) (OP (first + j)) X Y) g2 X2 g3 X3)
    (h4 : apc (fun X Y => ∀ a, a < m → bt (lin m) a = true → ∀ i, i < prm a → acar prm a e to i X Y) g3 X3 g4 X4) : apc (acall (anc par) prm l m e to (fun i b => bt (OC (first + i)) b = true) (fun i b => bl (OP (first + i)) b = true)) g X g4 X4 := by
  have m3 : amon (fun X Y => ∀ j, j < prm m → awid (sl m j to) (OC (first + j)) (OP (first + j)) X Y) := amon.all (fun j => (awid.amon _ _ _).imp)
  have m4 : amon (fun X Y => ∀ a, a < m → bt (lin m) a = true → ∀ i, i < prm a → acar prm a e to i X Y) := amon.all (fun a => (((amon.all (fun i => (acar.amon prm a e to i).imp)).imp).imp))
  refine (apc.seq (amon.and (amon.and (aflo.amon l m) (asta.amon _)) m3) m4 (apc.seq (amon.and (aflo.amon l m) (asta.amon _)) m3 (apc.seq (aflo.amon l m) (asta.amon _) h1 h2) h3) h4).conv (fun Z _ q => ⟨⟨⟨q.1, q.2.1⟩, fun j hj => q.2.2.1 j hj⟩, fun a ha hb i hi => q.2.2.2 a ⟨ha, (hl m a hm (by omega)).mp hb⟩ i hi⟩) (fun q => ⟨q.1.1.1, q.1.1.2, fun i hi => q.1.2 i hi, fun a ha i hi => q.2 a ha.1 ((hl m a hm (by have := ha.1; omega)).mpr ha.2) i hi⟩)
