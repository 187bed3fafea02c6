/-! The machine's steps keep its rules -/
def swf (cnt : Nat) (par : Nat → Int32) (prm : Nat → Nat) (s : AM) : Prop := mwf cnt par prm s.1 s.2.1 s.2.2.1 s.2.2.2.1 ∧ s.2.2.2.2.2.1 ≤ 4 ∧ (s.2.2.2.2.2.1 = 2 → vok cnt par s.1 s.2.1 s.2.2.2.2.2.2)
section MW
variable {cnt : Nat} {par : Nat → Int32} {prm siz atm : Nat → Nat}
theorem vok_lt {n : Nat} {own : Nat → Nat} {v : Nat} (hn : n ≤ 64) (h : vok cnt par n own v) : v < 100000 := by
  rcases h with q | q | q <;> omega
theorem vok_mono {n m : Nat} {own : Nat → Nat} {v : Nat} (h : vok cnt par n own v) : vok cnt par (n + 1) (un own (n + 1) m) v := by
  rcases h with q | q | ⟨q1, q2, q3, q4, q5, q6⟩
  · exact Or.inl q
  · exact Or.inr (Or.inl q)
  · refine Or.inr (Or.inr ⟨q1, q2, q3, q4, by omega, ?_⟩)
    rw [un_ne _ _ (by omega)]
    exact q6
theorem mdir_wf (hw : pwf cnt par prm siz atm) {s : AM} (hs : swf cnt par prm s) {f k x : Nat} {g : Nat → Nat} (hf : vok cnt par s.1 s.2.1 f) (hg : ∀ i, i < k → vok cnt par s.1 s.2.1 (g i)) (hx : k = 1 → vok cnt par s.1 s.2.1 x) : swf cnt par prm (mdo (mdir prm f k x) g s) := by
  obtain ⟨n, own, out, bnd, cal, ph, oc⟩ := s
  obtain ⟨hm, hph, hoc⟩ := hs
  have hm : mwf cnt par prm n own out bnd := hm
  have hf : vok cnt par n own f := hf
  have hg : ∀ i, i < k → vok cnt par n own (g i) := hg
  have hx : k = 1 → vok cnt par n own x := hx
  have hoc : ph = 2 → vok cnt par n own oc := hoc
  have hph : ph ≤ 4 := hph
  have hc8 : cnt ≤ 8 := hw.2.1
  by_cases h1 : 200 ≤ f % 1000 ∧ f % 1000 < 208
  · by_cases h2 : prm (f % 1000 - 200) = k
    · rw [mdir_2 h1 h2]
      by_cases h6 : n = 64
      · rw [mdo_full h6]
        exact ⟨hm, Nat.le_refl 4, fun q => absurd q (show ¬ 4 = 2 by decide)⟩
      · rw [mdo_enter h6]
        have hf3 : 0 < f % 1000 - 200 ∧ f % 1000 - 200 < cnt ∧ f / 1000 ≤ n ∧ par (f % 1000 - 200) = nI (own (f / 1000)) := by
          rcases hf with q | q | ⟨_, _, q3, q4, q5, q6⟩
          · omega
          · omega
          · exact ⟨q3, q4, q5, q6⟩
        obtain ⟨a1, a2, a3, a4, a5⟩ := hm
        obtain ⟨b1, b2, b3, b4⟩ := hf3
        refine ⟨⟨by show n + 1 ≤ 64; omega, ?_, ?_, fun j j0 j1 => ?_, fun j i j1 hi => ?_⟩, hph, fun q => vok_mono (hoc q)⟩
        · show un own (n + 1) (f % 1000 - 200) 0 = 0
          rw [un_ne _ _ (by omega)]
          exact a2
        · show un out (n + 1) (f / 1000) 0 = 0
          rw [un_ne _ _ (by omega)]
          exact a3
        · have j1 : j ≤ n + 1 := j1
          show 0 < un own (n + 1) (f % 1000 - 200) j ∧ un own (n + 1) (f % 1000 - 200) j < cnt ∧ un out (n + 1) (f / 1000) j < j ∧ par (un own (n + 1) (f % 1000 - 200) j) = nI (un own (n + 1) (f % 1000 - 200) (un out (n + 1) (f / 1000) j))
          by_cases e : j = n + 1
          · subst e
            rw [un_self, un_self, un_ne _ _ (by omega)]
            exact ⟨b1, b2, by omega, b4⟩
          · obtain ⟨c1, c2, c3, c4⟩ := a4 j j0 (by omega)
            rw [un_ne _ _ e, un_ne _ _ e, un_ne _ _ (by omega)]
            exact ⟨c1, c2, c3, c4⟩
        · have j1 : j ≤ n + 1 := j1
          have hi : i < prm (un own (n + 1) (f % 1000 - 200) j) := hi
          show vok cnt par (n + 1) (un own (n + 1) (f % 1000 - 200)) (bst bnd (3 * (n + 1)) g k (3 * j + i))
          by_cases e : j = n + 1
          · subst e
            rw [un_self, h2] at hi
            rw [bst_in k hi]
            exact vok_mono (hg i hi)
          · rw [un_ne _ _ e] at hi
            have ho := mwf.own_lt (⟨a1, a2, a3, a4, a5⟩ : mwf cnt par prm n own out bnd) hw.1 (j := j) (by omega)
            have := hw.2.2.2.1 (own j) (by omega)
            rw [bst_out k (by omega)]
            exact vok_mono (a5 j i (by omega) hi)
    · rw [mdir_0 (fun q => h2 q.2) (fun q => by omega)]
      exact ⟨hm, by show 3 ≤ 4; omega, fun q => absurd q (show ¬ 3 = 2 by decide)⟩
  · by_cases h3 : f = 300 ∧ k = 1
    · rw [mdir_1 h3.1 h3.2]
      exact ⟨hm, by show 2 ≤ 4; omega, fun _ => hx h3.2⟩
    · rw [mdir_0 (fun q => h1 q.1) h3]
      exact ⟨hm, by show 3 ≤ 4; omega, fun q => absurd q (show ¬ 3 = 2 by decide)⟩
theorem mops_ok (hw : pwf cnt par prm siz atm) {s : AM} (hm : mwf cnt par prm s.1 s.2.1 s.2.2.1 s.2.2.2.1) {i : Nat} (hi : i < siz (s.2.1 s.1)) : vok cnt par s.1 s.2.1 (mops atm s i) :=
  mval.ok hm hw.2.2.1 hw.2.1 hw.1 (hw.2.2.2.2.2.2 _ i (hm.own_lt hw.1 (Nat.le_refl _)) hi)
theorem mstep_wf (hw : pwf cnt par prm siz atm) {s : AM} (hs : swf cnt par prm s) : swf cnt par prm (mstep prm siz atm s) := by
  have ho : ∀ i, i < siz (s.2.1 s.1) → vok cnt par s.1 s.2.1 (mops atm s i) := fun i hi => mops_ok hw hs.1 hi
  have hl4 := hw.2.2.2.2.2.1 (s.2.1 s.1) (by have := hs.1.own_lt hw.1 (Nat.le_refl _); have := hw.2.1; omega)
  unfold mstep
  generalize siz (s.2.1 s.1) = len at *
  generalize mops atm s = o at *
  rcases Nat.eq_zero_or_pos len with e0 | e0
  · subst e0
    have : mact prm 0 o = (0, 0, 0, 0, 0) := rfl
    rw [this]
    exact ⟨hs.1, by show 3 ≤ 4; omega, fun q => absurd q (show ¬ 3 = 2 by decide)⟩
  · obtain ⟨k, rfl⟩ : ∃ k, len = k + 1 := ⟨len - 1, by omega⟩
    by_cases h1 : (k = 3 ∧ o 1 < 10) ∧ o 0 = 302
    · rw [mact_if h1.1.1 h1.1.2 h1.2 rfl]
      refine mdir_wf hw hs ?_ (fun i hi => absurd hi (Nat.not_lt_zero i)) (fun q => absurd q (by decide))
      split
      · exact ho 2 (by omega)
      · exact ho 3 (by omega)
    · by_cases h2 : ((k = 3 ∧ o 1 < 10) ∧ o 0 = 301) ∧ o 2 < 10
      · rw [mact_add h2.1.1.1 h2.1.1.2 h2.1.2 h2.2]
        refine mdir_wf hw hs ?_ (fun i hi => ?_) (fun _ => ?_)
        · rw [un_ne _ _ (by decide)]
          exact ho 3 (by omega)
        · have : i = 0 := by omega
          subst this
          rw [un_self]
          exact Or.inl (by omega)
        · rw [un_self]
          exact Or.inl (by omega)
      · rw [mact_oth h1 h2]
        exact mdir_wf hw hs (ho 0 (by omega)) (fun i hi => ho (1 + i) (by omega)) (fun q => ho 1 (by omega))
end MW
theorem madv_0 {prm siz atm : Nat → Nat} {s : AM} : madv prm siz atm 0 s = (s, 0) := rfl
theorem madv_stop {prm siz atm : Nat → Nat} {k : Nat} {s : AM} (h : ¬ s.2.2.2.2.2.1 = 1) : madv prm siz atm (k + 1) s = (s, 0) := by
  unfold madv
  rw [if_neg h]
theorem madv_full {prm siz atm : Nat → Nat} {k : Nat} {s : AM} (h : s.2.2.2.2.2.1 = 1) (h4 : (mstep prm siz atm s).2.2.2.2.2.1 = 4) : madv prm siz atm (k + 1) s = (mstep prm siz atm s, 0) := by
  unfold madv
  rw [if_pos h, if_pos h4]
theorem madv_go {prm siz atm : Nat → Nat} {k : Nat} {s : AM} (h : s.2.2.2.2.2.1 = 1) (h4 : ¬ (mstep prm siz atm s).2.2.2.2.2.1 = 4) : madv prm siz atm (k + 1) s = ((madv prm siz atm k (mstep prm siz atm s)).1, (madv prm siz atm k (mstep prm siz atm s)).2 + 1) := by
  conv => lhs; unfold madv
  rw [if_pos h, if_neg h4]
theorem madv_le {prm siz atm : Nat → Nat} : ∀ (k : Nat) (s : AM), (madv prm siz atm k s).2 ≤ k
  | 0, s => Nat.le_refl 0
  | k + 1, s => by
    by_cases h : s.2.2.2.2.2.1 = 1
    · by_cases h4 : (mstep prm siz atm s).2.2.2.2.2.1 = 4
      · rw [madv_full h h4]
        exact Nat.zero_le _
      · rw [madv_go h h4]
        have := madv_le (prm := prm) (siz := siz) (atm := atm) k (mstep prm siz atm s)
        show _ + 1 ≤ k + 1
        omega
    · rw [madv_stop h]
      exact Nat.zero_le _
