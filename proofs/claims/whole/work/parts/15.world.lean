/-! The class's cells: its state as numbers, words and rows -/
/-- program: parents, paramCounts, lineages, callLengths, atoms, count; machine: owners, outers, bindings, calledSets, operands, applied, phase, outcome; analysis: constantSets, pairSets, operandConstants, operandPairs, flowSets, states, outcomes, visited, newContour, grown, made -/
def wC (ad : Nat → Nat) (cI cL : ClassId) (par : Nat → Int32) (prm : Nat → Nat) (lin : Nat → Int32) (siz atm : Nat → Nat) (cnt : Nat) (own out bnd : Nat → Nat) (cal : Nat → Int32) (opr : Nat → Nat) (n ph oc : Nat) (P : Nat → Int32) (Q : Nat → Int64) (OC : Nat → Int32) (OP : Nat → Int64) (F : Nat → Int32) (S : Int64) (R : Int32) (vis nc : Nat) (gr md : Bool) : va_W :=
  [(ad 0, .inr (3, [.ref (ad 1), .ref (ad 2), .ref (ad 3)])),
   (ad 1, .inr (2, [.ref (ad 4), .ref (ad 5), .ref (ad 6), .ref (ad 7), .ref (ad 8), .int (nI cnt)])),
   (ad 2, .inr (1, [.ref (ad 1), .ref (ad 9), .ref (ad 10), .ref (ad 11), .ref (ad 12), .ref (ad 13), .int (nI n), .int (nI ph), .int (nI oc)])),
   (ad 3, .inr (0, [.ref (ad 1), .ref (ad 14), .ref (ad 15), .ref (ad 16), .ref (ad 17), .ref (ad 18), .long S, .int R, .int (nI vis), .int (nI nc), .int (bI gr), .int (bI md)])),
   (ad 4, .inl (cI, 8, .inl par)),
   (ad 5, .inl (cI, 8, .inl (fun j => nI (prm j)))),
   (ad 6, .inl (cI, 8, .inl lin)),
   (ad 7, .inl (cI, 8, .inl (fun j => nI (siz j)))),
   (ad 8, .inl (cI, 32, .inl (fun j => nI (atm j)))),
   (ad 9, .inl (cI, 65, .inl (fun j => nI (own j)))),
   (ad 10, .inl (cI, 65, .inl (fun j => nI (out j)))),
   (ad 11, .inl (cI, 195, .inl (fun j => nI (bnd j)))),
   (ad 12, .inl (cI, 8, .inl cal)),
   (ad 13, .inl (cI, 4, .inl (fun j => nI (opr j)))),
   (ad 14, .inl (cI, 192, .inl P)),
   (ad 15, .inl (cL, 192, .inr (.inl Q))),
   (ad 16, .inl (cI, 5, .inl OC)),
   (ad 17, .inl (cL, 5, .inr (.inl OP))),
   (ad 18, .inl (cI, 8, .inl F))]
abbrev gG (D : va_G) (cI cL : ClassId) : XG := (D, cls5, [(cI, .int), (cL, .long)])
abbrev rmm (f lc : Nat) : Room := { frames := f, cells := 0, slots := 0, locals := lc }
/-- is x a lambda; has it a parameter, an atom i -/
def hl (cnt : Nat) (x : Int32) : Bool := decide (0 ≤ x ∧ x < nI cnt)
def hpr (cnt : Nat) (f : Nat → Nat) (x i : Int32) : Bool := hl cnt x && decide (0 ≤ i ∧ i < nI (f x.toNatClampNeg))
theorem hl_of {cnt : Nat} {x : Int32} (hc : cnt ≤ 8) (h : hl cnt x = true) : ∃ l, l < cnt ∧ x = nI l := by
  have h1 := of_decide_eq_true h
  obtain ⟨j, hj, e⟩ := nI_of (x := x) (fun q => by rw [Int32.lt_iff_toInt_lt] at q; have := Int32.le_iff_toInt_le.mp h1.1; omega)
  subst e
  exact ⟨j, (nI_ltI hj (by omega)).mp h1.2, rfl⟩
theorem hl_in {cnt l : Nat} (hc : cnt ≤ 8) (h : l < cnt) : hl cnt (nI l) = true := decide_eq_true ⟨nI_pos' (by omega), (nI_ltI (by omega) (by omega)).mpr h⟩
theorem hpr_nI {cnt l : Nat} {f : Nat → Nat} {i : Int32} (hc : cnt ≤ 8) (h : l < cnt) : hpr cnt f (nI l) i = decide (0 ≤ i ∧ i < nI (f l)) := by
  unfold hpr
  rw [hl_in hc h, nI_clamp (by omega)]
  rfl
theorem hpr_of {cnt : Nat} {f : Nat → Nat} {x i : Int32} (hc : cnt ≤ 8) (hf : ∀ l, l < 8 → f l ≤ 4) (h : hpr cnt f x i = true) : ∃ l j, l < cnt ∧ j < f l ∧ x = nI l ∧ i = nI j := by
  unfold hpr at h
  obtain ⟨h1, h2⟩ := Bool.and_eq_true_iff.mp h
  obtain ⟨l, hl1, rfl⟩ := hl_of hc h1
  rw [nI_clamp (by omega)] at h2
  have h3 := of_decide_eq_true h2
  obtain ⟨j, hj, e⟩ := nI_of (x := i) (fun q => by rw [Int32.lt_iff_toInt_lt] at q; have := Int32.le_iff_toInt_le.mp h3.1; omega)
  subst e
  have := hf l (by omega)
  exact ⟨l, j, hl1, (nI_ltI hj (by omega)).mp h3.2, rfl, rfl⟩
/-- a truth told as 1 or 0 -/
theorem zt {b : Bool} {w : va_W} (h : b = true) : pI (bI b) w (some (.int (nI 1))) w := ⟨by rw [h]; rfl, rfl⟩
theorem zf {b : Bool} {w : va_W} (h : b = false) : pI (bI b) w (some (.int (nI 0))) w := ⟨by rw [h]; rfl, rfl⟩
section XU
variable {E : XE} {l : Launch} {R : Room} {cc : ByteArray} {nL : Nat} {ret : Option FieldType} {own : String} {G : XG} {A : Nat → Prop} {mc ms : Nat} {post : Option Value → va_W → Prop} {kc ks : Nat} {w : va_W} {pc : Nat} {lv : List (Nat × Value)} {st : List Value}
/-- a store of a number into a row of numbers -/
theorem x_iastU {cA : ClassId} {n a : Nat} {f : Nat → Nat} {i x : Nat} (hd : decode cc pc = .ok (.iastore, 1)) (q0 t0 : Nat) (ha : w[q0]? = some (a, .inl (cA, n, .inl (fun j => nI (f j))))) (ht : G.2.2[t0]? = some (cA, .int)) (hn : n < 2147483648) (hi : i < n) (k1 : xj E l R cc nL ret own G A mc ms post kc ks (w.set q0 (a, .inl (cA, n, .inl (fun j => nI (un f i x j))))) (pc + 1) lv st) : xj E l R cc nL ret own G A mc ms post kc ks w pc lv (.int (nI x) :: .int (nI i) :: .ref a :: st) :=
  x_iastN hd q0 t0 ha ht hn hi _ (by rw [upd_nI]) k1
end XU
theorem k3_of {y : Int32} (h1 : ¬ y < 0) (h2 : ¬ nI 3 < y) : ∃ k, k ≤ 3 ∧ y = nI k := by
  obtain ⟨j, hj, e⟩ := nI_of h1
  subst e
  exact ⟨j, Nat.le_of_not_lt (fun q => h2 ((nI_ltI (by omega) hj).mpr q)), rfl⟩
/-- an atom may stand there -/
def mso (cnt : Nat) (par : Nat → Int32) (prm : Nat → Nat) (l : Nat) (x : Int32) : Prop := ∃ a, a < 1000 ∧ x = nI a ∧ aok cnt par prm l a
noncomputable def mst (cnt : Nat) (par : Nat → Int32) (prm : Nat → Nat) (l : Nat) (x : Int32) : Bool := @decide (mso cnt par prm l x) (Classical.propDecidable _)
theorem mst_t {cnt : Nat} {par : Nat → Int32} {prm : Nat → Nat} {l : Nat} {x : Int32} (h : mso cnt par prm l x) : mst cnt par prm l x = true := @decide_eq_true _ (Classical.propDecidable _) h
theorem mst_f {cnt : Nat} {par : Nat → Int32} {prm : Nat → Nat} {l : Nat} {x : Int32} (h : ¬ mso cnt par prm l x) : mst cnt par prm l x = false := @decide_eq_false _ (Classical.propDecidable _) h
theorem mst_of {cnt : Nat} {par : Nat → Int32} {prm : Nat → Nat} {l : Nat} {x : Int32} (h : mst cnt par prm l x = true) : mso cnt par prm l x := @of_decide_eq_true _ (Classical.propDecidable _) h
theorem mst_no {cnt : Nat} {par : Nat → Int32} {prm : Nat → Nat} {l : Nat} {x : Int32} (h : mst cnt par prm l x = false) : ¬ mso cnt par prm l x := @of_decide_eq_false _ (Classical.propDecidable _) h
/-- lambda(x, y) makes one; put(x, y) puts one -/
def lamok (cnt : Nat) (x y : Int32) (p k : Nat) : Prop := cnt < 8 ∧ p < cnt ∧ k ≤ 3 ∧ x = nI p ∧ y = nI k
def putok (cnt : Nat) (par : Nat → Int32) (prm siz : Nat → Nat) (x y : Int32) (l a : Nat) : Prop := l < cnt ∧ siz l < 4 ∧ a < 1000 ∧ aok cnt par prm l a ∧ x = nI l ∧ y = nI a
theorem lo_of {x : Int32} {a b : Nat} (hb : b < 2147483648) (h : decide (nI a ≤ x ∧ x < nI b) = true) (ha : a < 2147483648) : ∃ j, a ≤ j ∧ j < b ∧ x = nI j := by
  have h1 := of_decide_eq_true h
  have h2 := Int32.le_iff_toInt_le.mp h1.1
  rw [nI_toInt ha] at h2
  obtain ⟨j, hj, e⟩ := nI_of (x := x) (fun q => by rw [Int32.lt_iff_toInt_lt] at q; have z : (0 : Int32).toInt = 0 := by decide
                                                   omega)
  subst e
  exact ⟨j, (nI_leI ha hj).mp h1.1, (nI_ltI hj hb).mp h1.2, rfl⟩
theorem lo_in {j a b : Nat} (hb : b < 2147483648) (h1 : a ≤ j) (h2 : j < b) : decide (nI a ≤ nI j ∧ nI j < nI b) = true := decide_eq_true ⟨(nI_leI (by omega) (by omega)).mpr h1, (nI_ltI (by omega) hb).mpr h2⟩
theorem lo_no {j a b : Nat} (hj : j < 2147483648) (ha : a < 2147483648) (hb : b < 2147483648) (h : ¬ (a ≤ j ∧ j < b)) : decide (nI a ≤ nI j ∧ nI j < nI b) = false := decide_eq_false (fun q => h ⟨(nI_leI ha hj).mp q.1, (nI_ltI hj hb).mp q.2⟩)
theorem le_of {x : Int32} {a b : Nat} (hb : b < 2147483647) (h : decide (nI a ≤ x ∧ x ≤ nI b) = true) (ha : a < 2147483648) : ∃ j, a ≤ j ∧ j ≤ b ∧ x = nI j := by
  have h1 := of_decide_eq_true h
  have h2 := Int32.le_iff_toInt_le.mp h1.1
  rw [nI_toInt ha] at h2
  obtain ⟨j, hj, e⟩ := nI_of (x := x) (fun q => by rw [Int32.lt_iff_toInt_lt] at q; have z : (0 : Int32).toInt = 0 := by decide
                                                   omega)
  subst e
  exact ⟨j, (nI_leI ha hj).mp h1.1, (nI_leI hj (by omega)).mp h1.2, rfl⟩
theorem lo_nI {j a b : Nat} (hj : j < 2147483648) (ha : a < 2147483648) (hb : b < 2147483648) : decide (nI a ≤ nI j ∧ nI j < nI b) = decide (a ≤ j ∧ j < b) := by
  rw [decide_eq_decide, nI_leI ha hj, nI_ltI hj hb]
theorem le_nI {j a b : Nat} (hj : j < 2147483648) (ha : a < 2147483648) (hb : b < 2147483648) : decide (nI a ≤ nI j ∧ nI j ≤ nI b) = decide (a ≤ j ∧ j ≤ b) := by
  rw [decide_eq_decide, nI_leI ha hj, nI_leI hj hb]
theorem hl_nI {cnt j : Nat} (hc : cnt ≤ 8) (hj : j < 2147483648) : hl cnt (nI j) = decide (j < cnt) := by
  unfold hl
  rw [decide_eq_decide]
  exact ⟨fun q => (nI_ltI hj (by omega)).mp q.2, fun q => ⟨nI_pos' hj, (nI_ltI hj (by omega)).mpr q⟩⟩
theorem hpr_nn {cnt l j : Nat} {f : Nat → Nat} (hc : cnt ≤ 8) (hf : ∀ l, l < 8 → f l ≤ 4) (hl1 : l < 2147483648) (hj : j < 2147483648) : hpr cnt f (nI l) (nI j) = decide (l < cnt ∧ j < f l) := by
  unfold hpr
  rw [hl_nI hc hl1, nI_clamp hl1]
  by_cases h : l < cnt
  · have := hf l (by omega)
    rw [decide_eq_true h, Bool.true_and, decide_eq_decide]
    exact ⟨fun q => ⟨h, (nI_ltI hj (by omega)).mp q.2⟩, fun q => ⟨nI_pos' hj, (nI_ltI hj (by omega)).mpr q.2⟩⟩
  · rw [decide_eq_false h, Bool.false_and]
    exact (decide_eq_false (fun q => h q.1)).symm
theorem m1_ne {l : Nat} (h : l < 2147483648) : ¬ (-1 : Int32) = nI l := by
  intro e
  have := congrArg Int32.toInt e
  rw [nI_toInt h] at this
  have z : (-1 : Int32).toInt = -1 := by decide
  omega
section MSO
variable {cnt : Nat} {par : Nat → Int32} {prm : Nat → Nat} {l : Nat}
theorem mso_par {b : Nat} (h1 : 100 ≤ b) (h2 : b < 180) : mso cnt par prm l (nI b) ↔ (b - 100) / 10 < cnt ∧ (b - 100) % 10 < prm ((b - 100) / 10) ∧ aos par ((b - 100) / 10) l := by
  constructor
  · intro q
    obtain ⟨a, ha, e, h⟩ := q
    have e2 := nI_inj (by omega) (by omega) e
    subst e2
    rcases h with q | q | ⟨_, _, q1, q2, q3⟩ | q
    · omega
    · omega
    · exact ⟨q1, q2, q3⟩
    · omega
  · intro q
    exact ⟨b, by omega, rfl, Or.inr (Or.inr (Or.inl ⟨h1, h2, q⟩))⟩
theorem mso_lam {b : Nat} (hp : par 0 = -1) (hl : l < 8) (h1 : 200 ≤ b) (h2 : b < 208) : mso cnt par prm l (nI b) ↔ b - 200 < cnt ∧ par (b - 200) = nI l := by
  constructor
  · intro q
    obtain ⟨a, ha, e, h⟩ := q
    have e2 := nI_inj (by omega) (by omega) e
    subst e2
    rcases h with q | q | q | ⟨_, _, _, q1, q2⟩
    · omega
    · omega
    · omega
    · exact ⟨q1, q2⟩
  · intro q
    refine ⟨b, by omega, rfl, Or.inr (Or.inr (Or.inr ⟨h1, h2, Nat.pos_of_ne_zero (fun z => ?_), q⟩))⟩
    rw [z, hp] at q
    exact m1_ne (by omega) q.2
theorem mso_oth {x : Int32} (h1 : decide (nI 100 ≤ x ∧ x < nI 180) = false) (h2 : decide (nI 200 ≤ x ∧ x < nI 208) = false) : mso cnt par prm l x ↔ decide (nI 0 ≤ x ∧ x < nI 10) = true ∨ decide (nI 300 ≤ x ∧ x ≤ nI 302) = true := by
  constructor
  · intro q
    obtain ⟨a, ha, e, h⟩ := q
    subst e
    rw [lo_nI (by omega) (by omega) (by omega)] at *
    rw [le_nI (by omega) (by omega) (by omega)]
    have k1 := of_decide_eq_false h1
    have k2 := of_decide_eq_false h2
    rcases h with q | q | q | q
    · exact Or.inl (decide_eq_true ⟨by omega, q⟩)
    · exact Or.inr (decide_eq_true q)
    · exact absurd ⟨q.1, q.2.1⟩ k1
    · exact absurd ⟨q.1, q.2.1⟩ k2
  · intro q
    rcases q with q | q
    · obtain ⟨j, _, j2, e⟩ := lo_of (by omega) q (by omega)
      exact ⟨j, by omega, e, Or.inl j2⟩
    · obtain ⟨j, j1, j2, e⟩ := le_of (by omega) q (by omega)
      exact ⟨j, by omega, e, Or.inr (Or.inl ⟨j1, j2⟩)⟩
theorem mst_eq {x : Int32} {p : Prop} (hd : Decidable p) (h : mso cnt par prm l x ↔ p) : mst cnt par prm l x = decide p := by
  by_cases q : p
  · rw [mst_t (h.mpr q), decide_eq_true q]
  · rw [mst_f (fun z => q (h.mp z)), decide_eq_false q]
end MSO
