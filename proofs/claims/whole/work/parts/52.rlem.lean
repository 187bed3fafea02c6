/-! The reference's machine against the same numbers -/
/-- a closure as the reference holds it -/
def enc (v : Nat) : Nat := if 200 ≤ v % 1000 ∧ v % 1000 < 208 then 1000 + 100 * (v % 1000 - 200) + v / 1000 else v
theorem enc_clo {v : Nat} (h : 200 ≤ v % 1000 ∧ v % 1000 < 208) : enc v = 1000 + 100 * (v % 1000 - 200) + v / 1000 := if_pos h
theorem enc_oth {v : Nat} (h : ¬ (200 ≤ v % 1000 ∧ v % 1000 < 208)) : enc v = v := if_neg h
theorem enc_facts {cnt : Nat} {par : Nat → Int32} {n : Nat} {own : Nat → Nat} {v : Nat} (hn : n ≤ 64) (h : vok cnt par n own v) : (enc v < 10 ↔ v < 10) ∧ (1000 ≤ enc v ↔ 200 ≤ v % 1000 ∧ v % 1000 < 208) ∧ (enc v = 300 ↔ v = 300) ∧ (enc v = 301 ↔ v = 301) ∧ (enc v = 302 ↔ v = 302) ∧ enc v < 2000 ∧ (v < 10 → enc v = v) ∧ (1000 ≤ enc v → (enc v - 1000) / 100 = v % 1000 - 200 ∧ (enc v - 1000) % 100 = v / 1000) := by
  by_cases q : 200 ≤ v % 1000 ∧ v % 1000 < 208
  · rw [enc_clo q]
    have h5 : v / 1000 ≤ 64 := by rcases h with z | z | z <;> omega
    have h6 : 200 ≤ v := by omega
    refine ⟨⟨fun z => ?_, fun z => ?_⟩, ⟨fun _ => q, fun _ => ?_⟩, ⟨fun z => ?_, fun z => ?_⟩, ⟨fun z => ?_, fun z => ?_⟩, ⟨fun z => ?_, fun z => ?_⟩, ?_, fun z => ?_, fun _ => ⟨?_, ?_⟩⟩ <;> omega
  · rw [enc_oth q]
    have h5 : v ≤ 302 := by rcases h with z | z | z <;> omega
    refine ⟨Iff.rfl, ⟨fun z => ?_, fun z => absurd z q⟩, Iff.rfl, Iff.rfl, Iff.rfl, ?_, fun _ => rfl, fun z => ⟨?_, ?_⟩⟩ <;> omega
/-- the reference's rows say the same as the machine s -/
def rrel (prm : Nat → Nat) (n : Nat) (own out bnd : Nat → Nat) (el : Nat → Nat) (eu : Nat → Int32) (ev : Nat → Nat) : Prop := (∀ j, j ≤ n → el j = own j) ∧ eu 0 = -1 ∧ (∀ j, 0 < j → j ≤ n → eu j = nI (out j)) ∧ ∀ j i, j ≤ n → i < prm (own j) → ev (3 * j + i) = enc (bnd (3 * j + i))
def eo (o : Option Nat) : Int32 := match o with
  | some e => nI e
  | none => -1
theorem mf_one {own out : Nat → Nat} {lam f e : Nat} (hf : own e < f) : ∃ f2, f = f2 + 1 := ⟨f - 1, by omega⟩
theorem env_next {cnt : Nat} {par : Nat → Int32} {prm : Nat → Nat} {n : Nat} {own out bnd : Nat → Nat} (h : mwf cnt par prm n own out bnd) (hp : parok cnt par) (h8 : cnt ≤ 8) (h1 : 1 ≤ cnt) {el : Nat → Nat} {eu : Nat → Int32} {ev : Nat → Nat} (hr : rrel prm n own out bnd el eu ev) {lam f t m : Nat} {R0 : Option Nat} (ht : t ≤ n) (hf : own t < f) (hm : m = own t + 1) (hq : R0 = mf own out lam f t) (hne : ¬ el t = lam) :
    ∃ m2, m2 < m ∧ ((∃ t2 f2, t2 ≤ n ∧ eu t = nI t2 ∧ own t2 < f2 ∧ m2 = own t2 + 1 ∧ R0 = mf own out lam f2 t2) ∨ (eu t = -1 ∧ m2 = 0 ∧ R0 = none)) := by
  have he := hr.1 t ht
  rw [he] at hne
  obtain ⟨f2, rfl⟩ := mf_one (own := own) (out := out) (lam := lam) hf
  rw [mf_step hne] at hq
  rcases Nat.eq_zero_or_pos t with t0 | t0
  · subst t0
    refine ⟨0, by omega, Or.inr ⟨hr.2.1, rfl, ?_⟩⟩
    rw [hq, h.2.2.1]
    exact mf_zero h.2.2.1 hne f2
  · obtain ⟨g1, g2, g3⟩ := h.own_fall hp h8 h1 t0 ht
    exact ⟨own (out t) + 1, by omega, Or.inl ⟨out t, f2, by omega, hr.2.2.1 t t0 ht, by omega, rfl, hq⟩⟩
theorem mval_par {n : Nat} {own out bnd : Nat → Nat} {b e : Nat} (h1 : 100 ≤ b) (h2 : b < 180) (he : mf own out ((b - 100) / 10) 8 n = some e) : mval n own out bnd b = bnd (3 * e + (b - 100) % 10) := by
  unfold mval
  rw [if_pos ⟨h1, h2⟩, he]
theorem mval_lam {n : Nat} {own out bnd : Nat → Nat} {b : Nat} (h1 : 200 ≤ b) (h2 : b < 208) : enc (mval n own out bnd b) = 1000 + 100 * (b - 200) + n := by
  unfold mval
  rw [if_neg (by omega), if_pos ⟨h1, h2⟩, enc_clo (by omega)]
  omega
theorem mval_con {n : Nat} {own out bnd : Nat → Nat} {b : Nat} (h : b < 10 ∨ (300 ≤ b ∧ b ≤ 302)) : enc (mval n own out bnd b) = b := by
  unfold mval
  rw [if_neg (by omega), if_neg (by omega), enc_oth (by omega)]
