/-! Rows for the machine's contracts -/
theorem cell_i {cA : ClassId} {n : Nat} {f g : Nat → Int32} (h : ∀ j, j < n → f j = g j) : vp_cell cA (n, .inl f) = vp_cell cA (n, .inl g) := by
  rw [vp_cell_i, vp_cell_i]
  unfold arrV
  congr 1
  congr 1
  funext j
  show Value.int (f j.val) = Value.int (g j.val)
  rw [h j.val j.isLt]
theorem cell_l {cA : ClassId} {n : Nat} {f g : Nat → Int64} (h : ∀ j, j < n → f j = g j) : vp_cell cA (n, .inr (.inl f)) = vp_cell cA (n, .inr (.inl g)) := by
  rw [vp_cell_l, vp_cell_l]
  unfold arrV
  congr 1
  congr 1
  funext j
  show Value.long (f j.val) = Value.long (g j.val)
  rw [h j.val j.isLt]
section XR
variable {E : XE} {l : Launch} {R : Room} {cc : ByteArray} {nL : Nat} {ret : Option FieldType} {own : String} {G : XG} {A : Nat → Prop} {mc ms : Nat} {post : Option Value → va_W → Prop} {kc ks : Nat} {w : va_W} {pc : Nat} {lv : List (Nat × Value)} {st : List Value}
/-- what a row's function says beyond the row's end doesn't matter -/
theorem x_row {cA : ClassId} {n a : Nat} {f : Nat → Int32} (g : Nat → Int32) (q0 : Nat) (hq : w[q0]? = some (a, .inl (cA, n, .inl f))) (h : ∀ j, j < n → f j = g j) (k1 : xj E l R cc nL ret own G A mc ms post kc ks (w.set q0 (a, .inl (cA, n, .inl g))) pc lv st) : xj E l R cc nL ret own G A mc ms post kc ks w pc lv st := by
  intro cx hA H locs ls hP hD hS hl
  refine k1 cx hA H locs ls (hP.set hD hq ?_ (fun _ _ => rfl)) (hD.set hq) hS hl
  have h1 := hP q0 _ hq
  show H[a]? = some (vp_cell cA (n, .inl g))
  rw [← cell_i h]
  exact h1
theorem x_rowL {cA : ClassId} {n a : Nat} {f : Nat → Int64} (g : Nat → Int64) (q0 : Nat) (hq : w[q0]? = some (a, .inl (cA, n, .inr (.inl f)))) (h : ∀ j, j < n → f j = g j) (k1 : xj E l R cc nL ret own G A mc ms post kc ks (w.set q0 (a, .inl (cA, n, .inr (.inl g)))) pc lv st) : xj E l R cc nL ret own G A mc ms post kc ks w pc lv st := by
  intro cx hA H locs ls hP hD hS hl
  refine k1 cx hA H locs ls (hP.set hD hq ?_ (fun _ _ => rfl)) (hD.set hq) hS hl
  have h1 := hP q0 _ hq
  show H[a]? = some (vp_cell cA (n, .inr (.inl g)))
  rw [← cell_l h]
  exact h1
end XR
theorem mf_hit {own out : Nat → Nat} {lam f e : Nat} (h : own e = lam) : mf own out lam (f + 1) e = some e := by
  unfold mf
  rw [if_pos h]
theorem mf_step {own out : Nat → Nat} {lam f e : Nat} (h : ¬ own e = lam) : mf own out lam (f + 1) e = mf own out lam f (out e) := by
  conv => lhs; unfold mf
  rw [if_neg h]
/-- what value(x, i) reads -/
def bval (cnt : Nat) (prm : Nat → Nat) (n : Nat) (own out bnd : Nat → Nat) (x i : Int32) : Int32 := if hpr cnt prm x i = true then (match mf own out x.toNatClampNeg 8 n with | some e => nI (bnd (3 * e + i.toNatClampNeg)) | none => -1) else -1
theorem bval_no {cnt : Nat} {prm : Nat → Nat} {n : Nat} {own out bnd : Nat → Nat} {x i : Int32} (h : hpr cnt prm x i = false) : bval cnt prm n own out bnd x i = -1 := by
  unfold bval
  rw [h]
  rfl
theorem bval_in {cnt : Nat} {prm : Nat → Nat} {n : Nat} {own out bnd : Nat → Nat} {lx ix : Nat} (h : hpr cnt prm (nI lx) (nI ix) = true) (h1 : lx < 2147483648) (h2 : ix < 2147483648) : bval cnt prm n own out bnd (nI lx) (nI ix) = match mf own out lx 8 n with | some e => nI (bnd (3 * e + ix)) | none => -1 := by
  unfold bval
  rw [h, nI_clamp h1, nI_clamp h2]
  rfl
theorem bval_some {cnt : Nat} {prm : Nat → Nat} {n : Nat} {own out bnd : Nat → Nat} {lx ix e : Nat} (h : hpr cnt prm (nI lx) (nI ix) = true) (h1 : lx < 2147483648) (h2 : ix < 2147483648) (he : mf own out lx 8 n = some e) : bval cnt prm n own out bnd (nI lx) (nI ix) = nI (bnd (3 * e + ix)) := by
  rw [bval_in h h1 h2, he]
theorem bval_none {cnt : Nat} {prm : Nat → Nat} {n : Nat} {own out bnd : Nat → Nat} {lx ix : Nat} (h : hpr cnt prm (nI lx) (nI ix) = true) (h1 : lx < 2147483648) (h2 : ix < 2147483648) (he : mf own out lx 8 n = none) : bval cnt prm n own out bnd (nI lx) (nI ix) = -1 := by
  rw [bval_in h h1 h2, he]
/-- what an action does to the machine; g: the arguments -/
def mdo (act : Nat × Nat × Nat × Nat × Nat) (g : Nat → Nat) (s : AM) : AM :=
  match act with
  | (2, m, e, k, _) => if s.1 = 64 then (s.1, s.2.1, s.2.2.1, s.2.2.2.1, s.2.2.2.2.1, 4, s.2.2.2.2.2.2) else (s.1 + 1, un s.2.1 (s.1 + 1) m, un s.2.2.1 (s.1 + 1) e, bst s.2.2.2.1 (3 * (s.1 + 1)) g k, upd s.2.2.2.2.1 (s.2.1 s.1) (s.2.2.2.2.1 (s.2.1 s.1) ||| 1 <<< (nI m &&& 31)), s.2.2.2.2.2.1, s.2.2.2.2.2.2)
  | (1, _, _, _, x) => (s.1, s.2.1, s.2.2.1, s.2.2.2.1, s.2.2.2.2.1, 2, x)
  | _ => (s.1, s.2.1, s.2.2.1, s.2.2.2.1, s.2.2.2.2.1, 3, s.2.2.2.2.2.2)
theorem bst_congr {bnd : Nat → Nat} {b : Nat} {f g : Nat → Nat} : ∀ k, (∀ i, i < k → f i = g i) → bst bnd b f k = bst bnd b g k
  | 0, _ => rfl
  | k + 1, h => by
    show un (bst bnd b f k) (b + k) (f k) = un (bst bnd b g k) (b + k) (g k)
    rw [bst_congr k (fun i hi => h i (by omega)), h k (by omega)]
theorem mwf.out_le {cnt : Nat} {par : Nat → Int32} {prm : Nat → Nat} {n : Nat} {own out bnd : Nat → Nat} (h : mwf cnt par prm n own out bnd) {e : Nat} (he : e ≤ n) : out e ≤ n := by
  rcases Nat.eq_zero_or_pos e with e0 | e0
  · subst e0
    rw [h.2.2.1]
    omega
  · have := (h.2.2.2.1 e e0 he).2.2.1
    omega
theorem bval_mval {cnt : Nat} {par : Nat → Int32} {prm siz atm : Nat → Nat} {n : Nat} {own out bnd : Nat → Nat} {b : Nat} (hw : pwf cnt par prm siz atm) (hm : mwf cnt par prm n own out bnd) (hb : aok cnt par prm (own n) b) (h1 : 100 ≤ b) (h2 : b < 180) : bval cnt prm n own out bnd (nI ((b - 100) / 10)) (nI ((b - 100) % 10)) = nI (mval n own out bnd b) := by
  have hc8 : cnt ≤ 8 := hw.2.1
  rcases hb with q | q | ⟨_, _, q3, q4, q5⟩ | q
  · omega
  · omega
  · have ho := hm.own_lt hw.1 (Nat.le_refl n)
    obtain ⟨e, he⟩ := mf_found hm hw.2.2.1 hc8 hw.1 8 n (Nat.le_refl n) (by omega) q5
    have hp : hpr cnt prm (nI ((b - 100) / 10)) (nI ((b - 100) % 10)) = true := by
      rw [hpr_nn hc8 (fun l h => Nat.le_trans (hw.2.2.2.1 l h) (by omega)) (by omega) (by omega)]
      exact decide_eq_true ⟨q3, q4⟩
    rw [bval_some hp (by omega) (by omega) he]
    unfold mval
    rw [if_pos ⟨h1, h2⟩, he]
  · omega
