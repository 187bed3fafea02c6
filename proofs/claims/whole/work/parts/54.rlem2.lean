/-! The reference's step against mstep -/
theorem told_enc {cnt : Nat} {par : Nat → Int32} {n : Nat} {own : Nat → Nat} {v : Nat} (hn : n ≤ 64) (h : vok cnt par n own v) : (if enc v < 1000 then enc v else 200 + (enc v - 1000) / 100) = v % 1000 := by
  obtain ⟨e1, e2, e3, e4, e5, e6, e7, e8⟩ := enc_facts hn h
  by_cases q : 200 ≤ v % 1000 ∧ v % 1000 < 208
  · have h1 := e2.mpr q
    rw [if_neg (by omega), (e8 h1).1]
    omega
  · have h1 := fun z => q (e2.mp z)
    rw [if_pos (by omega), enc_oth q]
    rcases h with z | z | z
    · omega
    · omega
    · exact absurd ⟨z.1, z.2.1⟩ q
theorem tld_nI {v : Nat} (h : v < 2147483648) : tld (nI v) = nI (v % 1000) := nI_rem h (by omega)
theorem tld_m1 : tld (-1) = -1 := by decide
/-- all that the reference holds of a machine -/
def rst (prm : Nat → Nat) (s : AM) (mo he en ap oc : Nat) (cal : Nat → Int32) (el : Nat → Nat) (eu : Nat → Int32) (ev : Nat → Nat) : Prop := mo = s.2.2.2.2.2.1 ∧ ap = s.1 ∧ en = s.1 ∧ he = s.2.1 s.1 ∧ rrel prm s.1 s.2.1 s.2.2.1 s.2.2.2.1 el eu ev ∧ (∀ j, j < 8 → cal j = s.2.2.2.2.1 j) ∧ (s.2.2.2.2.2.1 = 2 → oc = enc s.2.2.2.2.2.2)
section RS
variable {cnt : Nat} {par : Nat → Int32} {prm siz atm : Nat → Nat} {n : Nat} {own out bnd : Nat → Nat} {cal2 : Nat → Int32} {ph oc2 : Nat} {mo he en ap oc : Nat} {cal : Nat → Int32} {el : Nat → Nat} {eu : Nat → Int32} {ev : Nat → Nat}
theorem rst_mode (h : rst prm (n, own, out, bnd, cal2, ph, oc2) mo he en ap oc cal el eu ev) {p : Nat} (hp : ¬ p = 2) : rst prm (n, own, out, bnd, cal2, p, oc2) p he en ap oc cal el eu ev := ⟨rfl, h.2.1, h.2.2.1, h.2.2.2.1, h.2.2.2.2.1, h.2.2.2.2.2.1, fun q => absurd q hp⟩
theorem rst_done (h : rst prm (n, own, out, bnd, cal2, ph, oc2) mo he en ap oc cal el eu ev) {x o3 : Nat} (hx : o3 = enc x) : rst prm (n, own, out, bnd, cal2, 2, x) 2 he en ap o3 cal el eu ev := ⟨rfl, h.2.1, h.2.2.1, h.2.2.2.1, h.2.2.2.2.1, h.2.2.2.2.2.1, fun _ => hx⟩
theorem rst_enter (h : rst prm (n, own, out, bnd, cal2, ph, oc2) mo he en ap oc cal el eu ev) (hph : ¬ ph = 2) (ho : own n < 8) (hm : ∀ j, j ≤ n → prm (own j) ≤ 3) {mm e k : Nat} {g ag : Nat → Nat} (hk : prm mm = k) (hg : ∀ i, i < k → ag i = enc (g i)) : rst prm (n + 1, un own (n + 1) mm, un out (n + 1) e, bst bnd (3 * (n + 1)) g k, upd cal2 (own n) (cal2 (own n) ||| 1 <<< (nI mm &&& 31)), ph, oc2) mo mm (ap + 1) (ap + 1) oc (upd cal he (cal he ||| 1 <<< (nI mm &&& 31))) (un el (ap + 1) mm) (upd eu (ap + 1) (nI e)) (bst ev (3 * (ap + 1)) ag k) := by
  obtain ⟨h1, h2, h3, h4, ⟨r1, r2, r3, r4⟩, h6, h7⟩ := h
  have h2 : ap = n := h2
  have h4 : he = own n := h4
  subst h2
  subst h4
  refine ⟨h1, rfl, rfl, ?_, ⟨fun j hj => ?_, ?_, fun j j0 j1 => ?_, fun j i j1 hi => ?_⟩, fun j hj => ?_, fun q => absurd q hph⟩
  · show mm = un own (ap + 1) mm (ap + 1)
    rw [un_self]
  · have hj : j ≤ ap + 1 := hj
    show un el (ap + 1) mm j = un own (ap + 1) mm j
    by_cases e1 : j = ap + 1
    · rw [e1, un_self, un_self]
    · rw [un_ne _ _ e1, un_ne _ _ e1]
      exact r1 j (by omega)
  · rw [upd_ne _ _ (by omega)]
    exact r2
  · have j1 : j ≤ ap + 1 := j1
    show upd eu (ap + 1) (nI e) j = nI (un out (ap + 1) e j)
    by_cases e1 : j = ap + 1
    · rw [e1, upd_self, un_self]
    · rw [upd_ne _ _ e1, un_ne _ _ e1]
      exact r3 j j0 (by omega)
  · have j1 : j ≤ ap + 1 := j1
    have hi : i < prm (un own (ap + 1) mm j) := hi
    show bst ev (3 * (ap + 1)) ag k (3 * j + i) = enc (bst bnd (3 * (ap + 1)) g k (3 * j + i))
    by_cases e1 : j = ap + 1
    · subst e1
      rw [un_self, hk] at hi
      rw [bst_in k hi, bst_in k hi]
      exact hg i hi
    · rw [un_ne _ _ e1] at hi
      have := hm j (by omega)
      rw [bst_out k (by omega), bst_out k (by omega)]
      exact r4 j i (by omega) hi
  · show upd cal (own ap) _ j = upd cal2 (own ap) _ j
    rw [h6 (own ap) ho]
    by_cases e1 : j = own ap
    · rw [e1, upd_self, upd_self]
    · rw [upd_ne _ _ e1, upd_ne _ _ e1]
      exact h6 j hj
end RS
theorem un0_small {o : Nat → Nat} {x : Nat} (h : ∀ i, i < 4 → o i < 100000) (hx : x < 100000) : ∀ i, i < 4 → un o 0 x i < 100000 := by
  intro i hi
  by_cases e : i = 0
  · rw [e, un_self]
    exact hx
  · rw [un_ne _ _ e]
    exact h i hi
theorem mv_add {o ag : Nat → Nat} {i : Nat} (h1 : o 1 = ag 0 ∧ o 2 = ag 1) (h2 : o 1 < 10) (hi : i = 0) : un ag 0 ((ag 0 + ag 1) % 10) i = enc (un o 1 ((o 1 + o 2) % 10) (1 + i)) := by
  subst hi
  rw [un_self]
  show _ = enc (un o 1 ((o 1 + o 2) % 10) 1)
  rw [un_self, h1.1, h1.2, enc_oth (by omega)]
theorem mv_oth {prm siz atm : Nat → Nat} {n : Nat} {own out bnd : Nat → Nat} {cal : Nat → Int32} {ph oc : Nat} (hz : 0 < siz (own n)) (h1 : ¬ ((siz (own n) - 1 = 3 ∧ mops atm (n, own, out, bnd, cal, ph, oc) 1 < 10) ∧ mops atm (n, own, out, bnd, cal, ph, oc) 0 = 302)) (h2 : ¬ (((siz (own n) - 1 = 3 ∧ mops atm (n, own, out, bnd, cal, ph, oc) 1 < 10) ∧ mops atm (n, own, out, bnd, cal, ph, oc) 0 = 301) ∧ mops atm (n, own, out, bnd, cal, ph, oc) 2 < 10)) : mstep prm siz atm (n, own, out, bnd, cal, ph, oc) = mdo (mdir prm (mops atm (n, own, out, bnd, cal, ph, oc) 0) (siz (own n) - 1) (mops atm (n, own, out, bnd, cal, ph, oc) 1)) (fun i => mops atm (n, own, out, bnd, cal, ph, oc) (1 + i)) (n, own, out, bnd, cal, ph, oc) := by
  unfold mstep
  show mdo (mact prm (siz (own n)) _) (mar _ (mfst (siz (own n)) _)) _ = _
  have e : siz (own n) = (siz (own n) - 1) + 1 := by omega
  rw [e]
  exact mact_oth h1 h2
