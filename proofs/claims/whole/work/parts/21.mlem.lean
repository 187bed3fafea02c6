/-! Rows for the machine's contracts -/
theorem cell_i {cA : ClassId} {n : Nat} {f g : Nat → Int32} (h : ∀ j, j < n → f j = g j) : vp_cell cA (n, .inl f) = vp_cell cA (n, .inl g) := by
  rw [vp_cell_i, vp_cell_i]
  unfold arrV
  congr 1
  congr 1
  funext j
  show Value.int (f j.val) = Value.int (g j.val)
  rw [h j.val j.isLt]
theorem cell_l {cA : ClassId} {n : Nat} {f g : Nat → Int64} (h : ∀ j, j < n → f j = g j) : vp_cell cA (n, .inr (.inl f)) = vp_cell cA (n, .inr (.inl g)) := by
  rw [vp_cell_l, vp_cell_l]
  unfold arrV
  congr 1
  congr 1
  funext j
  show Value.long (f j.val) = Value.long (g j.val)
  rw [h j.val j.isLt]
section XR
variable {E : XE} {l : Launch} {R : Room} {cc : ByteArray} {nL : Nat} {ret : Option FieldType} {own : String} {G : XG} {A : Nat → Prop} {mc ms : Nat} {post : Option Value → va_W → Prop} {kc ks : Nat} {w : va_W} {pc : Nat} {lv : List (Nat × Value)} {st : List Value}
/-- what a row's function says beyond the row's end doesn't matter -/
theorem x_row {cA : ClassId} {n a : Nat} {f : Nat → Int32} (g : Nat → Int32) (q0 : Nat) (hq : w[q0]? = some (a, .inl (cA, n, .inl f))) (h : ∀ j, j < n → f j = g j) (k1 : xj E l R cc nL ret own G A mc ms post kc ks (w.set q0 (a, .inl (cA, n, .inl g))) pc lv st) : xj E l R cc nL ret own G A mc ms post kc ks w pc lv st := by
  intro cx hA H locs ls hP hD hS hl
  refine k1 cx hA H locs ls (hP.set hD hq ?_ (fun _ _ => rfl)) (hD.set hq) hS hl
  have h1 := hP q0 _ hq
  show H[a]? = some (vp_cell cA (n, .inl g))
  rw [← cell_i h]
  exact h1
theorem x_rowL {cA : ClassId} {n a : Nat} {f : Nat → Int64} (g : Nat → Int64) (q0 : Nat) (hq : w[q0]? = some (a, .inl (cA, n, .inr (.inl f)))) (h : ∀ j, j < n → f j = g j) (k1 : xj E l R cc nL ret own G A mc ms post kc ks (w.set q0 (a, .inl (cA, n, .inr (.inl g)))) pc lv st) : xj E l R cc nL ret own G A mc ms post kc ks w pc lv st := by
  intro cx hA H locs ls hP hD hS hl
  refine k1 cx hA H locs ls (hP.set hD hq ?_ (fun _ _ => rfl)) (hD.set hq) hS hl
  have h1 := hP q0 _ hq
  show H[a]? = some (vp_cell cA (n, .inr (.inl g)))
  rw [← cell_l h]
  exact h1
end XR
theorem mf_hit {own out : Nat → Nat} {lam f e : Nat} (h : own e = lam) : mf own out lam (f + 1) e = some e := by
  unfold mf
  rw [if_pos h]
theorem mf_step {own out : Nat → Nat} {lam f e : Nat} (h : ¬ own e = lam) : mf own out lam (f + 1) e = mf own out lam f (out e) := by
  conv => lhs; unfold mf
  rw [if_neg h]
/-- what value(x, i) reads -/
def bval (cnt : Nat) (prm : Nat → Nat) (n : Nat) (own out bnd : Nat → Nat) (x i : Int32) : Int32 := if hpr cnt prm x i = true then (match mf own out x.toNatClampNeg 8 n with | some e => nI (bnd (3 * e + i.toNatClampNeg)) | none => -1) else -1
theorem bval_no {cnt : Nat} {prm : Nat → Nat} {n : Nat} {own out bnd : Nat → Nat} {x i : Int32} (h : hpr cnt prm x i = false) : bval cnt prm n own out bnd x i = -1 := by
  unfold bval
  rw [h]
  rfl
theorem bval_in {cnt : Nat} {prm : Nat → Nat} {n : Nat} {own out bnd : Nat → Nat} {lx ix : Nat} (h : hpr cnt prm (nI lx) (nI ix) = true) (h1 : lx < 2147483648) (h2 : ix < 2147483648) : bval cnt prm n own out bnd (nI lx) (nI ix) = match mf own out lx 8 n with | some e => nI (bnd (3 * e + ix)) | none => -1 := by
  unfold bval
  rw [h, nI_clamp h1, nI_clamp h2]
  rfl
theorem bval_some {cnt : Nat} {prm : Nat → Nat} {n : Nat} {own out bnd : Nat → Nat} {lx ix e : Nat} (h : hpr cnt prm (nI lx) (nI ix) = true) (h1 : lx < 2147483648) (h2 : ix < 2147483648) (he : mf own out lx 8 n = some e) : bval cnt prm n own out bnd (nI lx) (nI ix) = nI (bnd (3 * e + ix)) := by
  rw [bval_in h h1 h2, he]
theorem bval_none {cnt : Nat} {prm : Nat → Nat} {n : Nat} {own out bnd : Nat → Nat} {lx ix : Nat} (h : hpr cnt prm (nI lx) (nI ix) = true) (h1 : lx < 2147483648) (h2 : ix < 2147483648) (he : mf own out lx 8 n = none) : bval cnt prm n own out bnd (nI lx) (nI ix) = -1 := by
  rw [bval_in h h1 h2, he]
/-- what an action does to the machine; g: the arguments -/
def mdo (act : Nat × Nat × Nat × Nat × Nat) (g : Nat → Nat) (s : AM) : AM :=
  match act with
  | (2, m, e, k, _) => if s.1 = 64 then (s.1, s.2.1, s.2.2.1, s.2.2.2.1, s.2.2.2.2.1, 4, s.2.2.2.2.2.2) else (s.1 + 1, un s.2.1 (s.1 + 1) m, un s.2.2.1 (s.1 + 1) e, bst s.2.2.2.1 (3 * (s.1 + 1)) g k, upd s.2.2.2.2.1 (s.2.1 s.1) (s.2.2.2.2.1 (s.2.1 s.1) ||| 1 <<< (nI m &&& 31)), s.2.2.2.2.2.1, s.2.2.2.2.2.2)
  | (1, _, _, _, x) => (s.1, s.2.1, s.2.2.1, s.2.2.2.1, s.2.2.2.2.1, 2, x)
  | _ => (s.1, s.2.1, s.2.2.1, s.2.2.2.1, s.2.2.2.2.1, 3, s.2.2.2.2.2.2)
theorem bst_congr {bnd : Nat → Nat} {b : Nat} {f g : Nat → Nat} : ∀ k, (∀ i, i < k → f i = g i) → bst bnd b f k = bst bnd b g k
  | 0, _ => rfl
  | k + 1, h => by
    show un (bst bnd b f k) (b + k) (f k) = un (bst bnd b g k) (b + k) (g k)
    rw [bst_congr k (fun i hi => h i (by omega)), h k (by omega)]
theorem mwf.out_le {cnt : Nat} {par : Nat → Int32} {prm : Nat → Nat} {n : Nat} {own out bnd : Nat → Nat} (h : mwf cnt par prm n own out bnd) {e : Nat} (he : e ≤ n) : out e ≤ n := by
  rcases Nat.eq_zero_or_pos e with e0 | e0
  · subst e0
    rw [h.2.2.1]
    omega
  · have := (h.2.2.2.1 e e0 he).2.2.1
    omega
theorem bval_mval {cnt : Nat} {par : Nat → Int32} {prm siz atm : Nat → Nat} {n : Nat} {own out bnd : Nat → Nat} {b : Nat} (hw : pwf cnt par prm siz atm) (hm : mwf cnt par prm n own out bnd) (hb : aok cnt par prm (own n) b) (h1 : 100 ≤ b) (h2 : b < 180) : bval cnt prm n own out bnd (nI ((b - 100) / 10)) (nI ((b - 100) % 10)) = nI (mval n own out bnd b) := by
  have hc8 : cnt ≤ 8 := hw.2.1
  rcases hb with q | q | ⟨_, _, q3, q4, q5⟩ | q
  · omega
  · omega
  · have ho := hm.own_lt hw.1 (Nat.le_refl n)
    obtain ⟨e, he⟩ := mf_found hm hw.2.2.1 hc8 hw.1 8 n (Nat.le_refl n) (by omega) q5
    have hp : hpr cnt prm (nI ((b - 100) / 10)) (nI ((b - 100) % 10)) = true := by
      rw [hpr_nn hc8 (fun l h => Nat.le_trans (hw.2.2.2.1 l h) (by omega)) (by omega) (by omega)]
      exact decide_eq_true ⟨q3, q4⟩
    rw [bval_some hp (by omega) (by omega) he]
    unfold mval
    rw [if_pos ⟨h1, h2⟩, he]
  · omega
/-- the first argument -/
def mfst (len : Nat) (o : Nat → Nat) : Nat := if ((len = 4 ∧ o 1 < 10) ∧ o 0 = 301) ∧ o 2 < 10 then (o 1 + o 2) % 10 else o 1
/-- one step -/
def mstep (prm siz atm : Nat → Nat) (s : AM) : AM := mdo (mact prm (siz (s.2.1 s.1)) (mops atm s)) (mar (mops atm s) (mfst (siz (s.2.1 s.1)) (mops atm s))) s
/-- at most k steps: the machine then, and how many were made -/
def madv (prm siz atm : Nat → Nat) : Nat → AM → AM × Nat
  | 0, s => (s, 0)
  | k + 1, s => if s.2.2.2.2.2.1 = 1 then (if (mstep prm siz atm s).2.2.2.2.2.1 = 4 then (mstep prm siz atm s, 0) else ((madv prm siz atm k (mstep prm siz atm s)).1, (madv prm siz atm k (mstep prm siz atm s)).2 + 1)) else (s, 0)
theorem mdir_2 {prm : Nat → Nat} {f k x : Nat} (h1 : 200 ≤ f % 1000 ∧ f % 1000 < 208) (h2 : prm (f % 1000 - 200) = k) : mdir prm f k x = (2, f % 1000 - 200, f / 1000, k, x) := by
  unfold mdir
  rw [if_pos ⟨h1, h2⟩]
theorem mdir_1 {prm : Nat → Nat} {f k x : Nat} (h1 : f = 300) (h2 : k = 1) : mdir prm f k x = (1, 0, 0, k, x) := by
  unfold mdir
  rw [if_neg (fun q => by have := q.1; omega), if_pos ⟨h1, h2⟩]
theorem mdir_0 {prm : Nat → Nat} {f k x : Nat} (h1 : ¬ ((200 ≤ f % 1000 ∧ f % 1000 < 208) ∧ prm (f % 1000 - 200) = k)) (h2 : ¬ (f = 300 ∧ k = 1)) : mdir prm f k x = (0, 0, 0, 0, 0) := by
  unfold mdir
  rw [if_neg h1, if_neg h2]
theorem mdo_full {m e k x : Nat} {g : Nat → Nat} {n : Nat} {own out bnd : Nat → Nat} {cal : Nat → Int32} {ph oc : Nat} (h : n = 64) : mdo (2, m, e, k, x) g (n, own, out, bnd, cal, ph, oc) = (n, own, out, bnd, cal, 4, oc) := by
  unfold mdo
  exact if_pos h
theorem mdo_enter {m e k x : Nat} {g : Nat → Nat} {n : Nat} {own out bnd : Nat → Nat} {cal : Nat → Int32} {ph oc : Nat} (h : ¬ n = 64) : mdo (2, m, e, k, x) g (n, own, out, bnd, cal, ph, oc) = (n + 1, un own (n + 1) m, un out (n + 1) e, bst bnd (3 * (n + 1)) g k, upd cal (own n) (cal (own n) ||| 1 <<< (nI m &&& 31)), ph, oc) := by
  unfold mdo
  exact if_neg h
theorem mar_id (o : Nat → Nat) : mar o (o 1) = fun i => o (1 + i) := by
  funext i
  unfold mar
  split
  · rename_i h
    rw [h]
  · rfl
theorem mar_un (o : Nat → Nat) (x : Nat) : (fun i => un o 1 x (1 + i)) = mar o x := by
  funext i
  unfold mar
  split
  · rename_i h
    rw [h, un_self]
  · rw [un_ne _ _ (by omega)]
theorem bst_s0 (o f : Nat → Nat) (i : Nat) : bst o 0 f (i + 1) = un (bst o 0 f i) i (f i) := by
  show un (bst o 0 f i) (0 + i) (f i) = _
  rw [Nat.zero_add]
theorem mdo_x {prm : Nat → Nat} {f k x x2 : Nat} {g g2 : Nat → Nat} {s : AM} (hx : k = 1 → x = x2) (hg : ∀ i, i < k → g i = g2 i) : mdo (mdir prm f k x) g s = mdo (mdir prm f k x2) g2 s := by
  unfold mdir
  split
  · obtain ⟨n, own, out, bnd, cal, ph, oc⟩ := s
    by_cases h6 : n = 64
    · rw [mdo_full h6, mdo_full h6]
    · rw [mdo_enter h6, mdo_enter h6, bst_congr k hg]
  · split
    · rename_i h
      rw [hx h.2]
      rfl
    · rfl
/-- what a step does speaks of the call's atoms alone -/
theorem mdo_congr {prm : Nat → Nat} {len : Nat} {o o2 : Nat → Nat} {s : AM} (hl : len ≤ 4) (h : ∀ i, i < len → o i = o2 i) : mdo (mact prm len o) (mar o (mfst len o)) s = mdo (mact prm len o2) (mar o2 (mfst len o2)) s := by
  unfold mact mfst
  by_cases h0 : len = 0
  · rw [if_pos h0, if_pos h0]
    rfl
  · rw [if_neg h0, if_neg h0]
    by_cases h4 : len = 4
    · rw [h 0 (by omega), h 1 (by omega), h 2 (by omega), h 3 (by omega)]
      have hm : ∀ x, mar o x = mar o2 x ∨ True := fun _ => Or.inr trivial
      have ha : ∀ x i, i < 3 → mar o x i = mar o2 x i := by
        intro x i hi
        unfold mar
        split
        · rfl
        · exact h (1 + i) (by omega)
      split
      · exact mdo_x (fun _ => rfl) (fun i hi => absurd hi (Nat.not_lt_zero i))
      · split
        · exact mdo_x (fun _ => rfl) (fun i hi => ha _ i (by omega))
        · exact mdo_x (fun _ => rfl) (fun i hi => ha _ i (by omega))
    · have e1 : ∀ q : Nat → Nat, ¬ ((len = 4 ∧ q 1 < 10) ∧ q 0 = 302) := fun q z => h4 z.1.1
      have e2 : ∀ q : Nat → Nat, ¬ (((len = 4 ∧ q 1 < 10) ∧ q 0 = 301) ∧ q 2 < 10) := fun q z => h4 z.1.1.1
      rw [if_neg (e1 o), if_neg (e1 o2), if_neg (e2 o), if_neg (e2 o2), if_neg (e2 o), if_neg (e2 o2), h 0 (by omega)]
      refine mdo_x (fun z => h 1 (by omega)) (fun i hi => ?_)
      unfold mar
      split
      · exact h 1 (by omega)
      · exact h (1 + i) (by omega)
theorem mact_if {prm : Nat → Nat} {k f : Nat} {o : Nat → Nat} {s : AM} (h3 : k = 3) (h1 : o 1 < 10) (h0 : o 0 = 302) (hf : f = if o 1 = 0 then o 2 else o 3) : mdo (mact prm (k + 1) o) (mar o (mfst (k + 1) o)) s = mdo (mdir prm f 0 (o 1)) (fun i => o (1 + i)) s := by
  subst h3
  unfold mact
  rw [if_neg (by omega), if_pos ⟨⟨rfl, h1⟩, h0⟩, hf]
  exact mdo_x (fun q => absurd q (by decide)) (fun i hi => absurd hi (Nat.not_lt_zero i))
theorem mact_add {prm : Nat → Nat} {k : Nat} {o : Nat → Nat} {s : AM} (h3 : k = 3) (h1 : o 1 < 10) (h0 : o 0 = 301) (h2 : o 2 < 10) : mdo (mact prm (k + 1) o) (mar o (mfst (k + 1) o)) s = mdo (mdir prm (un o 1 ((o 1 + o 2) % 10) 3) 1 (un o 1 ((o 1 + o 2) % 10) 1)) (fun i => un o 1 ((o 1 + o 2) % 10) (1 + i)) s := by
  subst h3
  unfold mact mfst
  rw [if_neg (by omega), if_neg (fun q => by have := q.2; omega), if_pos ⟨⟨⟨rfl, h1⟩, h0⟩, h2⟩, if_pos ⟨⟨⟨rfl, h1⟩, h0⟩, h2⟩, mar_un, un_self, un_ne _ _ (by decide)]
theorem mact_oth {prm : Nat → Nat} {k : Nat} {o : Nat → Nat} {s : AM} (h1 : ¬ ((k = 3 ∧ o 1 < 10) ∧ o 0 = 302)) (h2 : ¬ (((k = 3 ∧ o 1 < 10) ∧ o 0 = 301) ∧ o 2 < 10)) : mdo (mact prm (k + 1) o) (mar o (mfst (k + 1) o)) s = mdo (mdir prm (o 0) k (o 1)) (fun i => o (1 + i)) s := by
  unfold mact mfst
  rw [if_neg (by omega), if_neg (fun q => h1 ⟨⟨by omega, q.1.2⟩, q.2⟩), if_neg (fun q => h2 ⟨⟨⟨by omega, q.1.1.2⟩, q.1.2⟩, q.2⟩), if_neg (fun q => h2 ⟨⟨⟨by omega, q.1.1.2⟩, q.1.2⟩, q.2⟩), mar_id]
  rfl
theorem un_small {o : Nat → Nat} {x : Nat} (h : ∀ i, i < 4 → o i < 100000) (hx : x < 100000) : ∀ i, i < 4 → un o 1 x i < 100000 := by
  intro i hi
  by_cases e : i = 1
  · rw [e, un_self]
    exact hx
  · rw [un_ne _ _ e]
    exact h i hi
theorem bst_small {o f : Nat → Nat} (h : ∀ i, i < 4 → o i < 100000) : ∀ k, (∀ i, i < k → f i < 100000) → ∀ i, i < 4 → bst o 0 f k i < 100000
  | 0, _, i, hi => h i hi
  | k + 1, hf, i, hi => by
    rw [bst_s0]
    by_cases e : i = k
    · rw [e, un_self]
      exact hf k (by omega)
    · rw [un_ne _ _ e]
      exact bst_small h k (fun j hj => hf j (by omega)) i hi
