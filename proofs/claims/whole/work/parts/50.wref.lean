/-! The reference's cells -/
def wR (ad : Nat → Nat) (cI cL : ClassId) (par : Nat → Int32) (prm siz atm : Nat → Nat) (cnt : Nat) (mo he en ap oc : Nat) (cal : Nat → Int32) (el : Nat → Nat) (eu : Nat → Int32) (ev ag : Nat → Nat) (an : Bool) (kk : Nat) (P : Nat → Int32) (Q : Nat → Int64) (S : Int64) (F : Nat → Int32) (R : Int32) (ch : Bool) (AP : Nat → Int32) (AQ : Nat → Int64) : va_W :=
  [(ad 0, .inr (4, [.int (nI cnt), .ref (ad 1), .ref (ad 2), .ref (ad 3), .ref (ad 4), .int (nI mo), .int (nI he), .int (nI en), .int (nI ap), .int (nI oc), .ref (ad 5), .ref (ad 6), .ref (ad 7), .ref (ad 8), .ref (ad 9), .int (bI an), .int (nI kk), .ref (ad 10), .ref (ad 11), .long S, .ref (ad 12), .int R, .int (bI ch), .ref (ad 13), .ref (ad 14)])),
   (ad 1, .inl (cI, 8, .inl par)),
   (ad 2, .inl (cI, 8, .inl (fun j => nI (prm j)))),
   (ad 3, .inl (cI, 8, .inl (fun j => nI (siz j)))),
   (ad 4, .inl (cI, 32, .inl (fun j => nI (atm j)))),
   (ad 5, .inl (cI, 8, .inl cal)),
   (ad 6, .inl (cI, 65, .inl (fun j => nI (el j)))),
   (ad 7, .inl (cI, 65, .inl eu)),
   (ad 8, .inl (cI, 195, .inl (fun j => nI (ev j)))),
   (ad 9, .inl (cI, 4, .inl (fun j => nI (ag j)))),
   (ad 10, .inl (cI, 192, .inl P)),
   (ad 11, .inl (cL, 192, .inr (.inl Q))),
   (ad 12, .inl (cI, 8, .inl F)),
   (ad 13, .inl (cI, 4, .inl AP)),
   (ad 14, .inl (cL, 4, .inr (.inl AQ)))]
noncomputable def ar (par : Nat → Int32) (a l : Nat) : Bool := @decide (aos par a l) (Classical.propDecidable _)
theorem ar_t {par : Nat → Int32} {a l : Nat} (h : aos par a l) : ar par a l = true := @decide_eq_true _ (Classical.propDecidable _) h
theorem ar_f {par : Nat → Int32} {a l : Nat} (h : ¬ aos par a l) : ar par a l = false := @decide_eq_false _ (Classical.propDecidable _) h
theorem ar_of {par : Nat → Int32} {a l : Nat} (h : ar par a l = true) : aos par a l := @of_decide_eq_true _ (Classical.propDecidable _) h
theorem ar_no {par : Nat → Int32} {a l : Nat} (h : ar par a l = false) : ¬ aos par a l := @of_decide_eq_false _ (Classical.propDecidable _) h
theorem aos_one {cnt : Nat} {par : Nat → Int32} {a l t : Nat} (q : aos par a l ↔ aos par a t) (h : ¬ t ≤ a) : aos par a l ↔ aos par a (pa par t) := by
  rw [q]
  constructor
  · intro z
    rcases z.step with e | z
    · omega
    · exact z
  · exact fun z => z.up
section MR
variable {cnt : Nat} {par : Nat → Int32} {prm : Nat → Nat} {l : Nat}
theorem mso_num {x : Int32} (h1 : ¬ x < 0) (h2 : x ≤ nI 9) : mso cnt par prm l x := by
  obtain ⟨j, hj, e⟩ := nI_of h1
  subst e
  have := (nI_leI hj (by omega)).mp h2
  exact ⟨j, by omega, rfl, Or.inl (by omega)⟩
theorem mso_pri {x : Int32} (h1 : ¬ x < nI 300) (h2 : ¬ nI 302 < x) : mso cnt par prm l x := by
  obtain ⟨j, j1, j2, e⟩ := le_of (x := x) (a := 300) (b := 302) (by omega) (decide_eq_true ⟨Int32.not_lt.mp h1, Int32.not_lt.mp h2⟩) (by omega)
  exact ⟨j, by omega, e, Or.inr (Or.inl ⟨j1, j2⟩)⟩
end MR
