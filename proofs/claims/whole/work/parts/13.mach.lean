/-! Programs and the machine, as numbers -/
def un (f : Nat → Nat) (k x : Nat) : Nat → Nat := fun j => if j = k then x else f j
theorem un_self (f : Nat → Nat) (k x : Nat) : un f k x k = x := by simp [un]
theorem un_ne (f : Nat → Nat) {k j : Nat} (x : Nat) (h : ¬ j = k) : un f k x j = f j := by simp [un, h]
theorem upd_nI (f : Nat → Nat) (k x : Nat) : upd (fun j => nI (f j)) k (nI x) = fun j => nI (un f k x j) := by
  funext j
  by_cases h : j = k
  · subst h
    rw [upd_self, un_self]
  · rw [upd_ne _ _ h, un_ne _ _ h]
theorem nI_inj {a b : Nat} (ha : a < 2147483648) (hb : b < 2147483648) (h : nI a = nI b) : a = b := (nI_eq ha hb).mp h
def pa (par : Nat → Int32) (l : Nat) : Nat := (par l).toNatClampNeg
def chn (f : Nat → Nat) : Nat → Nat → Nat
  | 0, l => l
  | k + 1, l => chn f k (f l)
theorem chn_0 (f : Nat → Nat) (l : Nat) : chn f 0 l = l := rfl
theorem chn_s (f : Nat → Nat) (k l : Nat) : chn f (k + 1) l = chn f k (f l) := rfl
/-- a is l or around l -/
def aos (par : Nat → Int32) (a l : Nat) : Prop := ∃ k, chn (pa par) k l = a
theorem aos.self (par : Nat → Int32) (l : Nat) : aos par l l := ⟨0, rfl⟩
theorem aos.step {par : Nat → Int32} {a l : Nat} (h : aos par a l) : a = l ∨ aos par a (pa par l) := by
  obtain ⟨k, h⟩ := h
  cases k with
  | zero => exact Or.inl h.symm
  | succ k => exact Or.inr ⟨k, h⟩
theorem aos.up {par : Nat → Int32} {a l : Nat} (h : aos par a (pa par l)) : aos par a l := by
  obtain ⟨k, h⟩ := h
  exact ⟨k + 1, h⟩
/-- the parents: lambda 0 has none, every other one's is older -/
def parok (cnt : Nat) (par : Nat → Int32) : Prop := par 0 = -1 ∧ ∀ l, 0 < l → l < cnt → ∃ a, a < l ∧ par l = nI a
theorem pa_zero {cnt : Nat} {par : Nat → Int32} (h : parok cnt par) : pa par 0 = 0 := by
  unfold pa
  rw [h.1]
  decide
theorem pa_of {par : Nat → Int32} {l a : Nat} (ha : a < 2147483648) (h : par l = nI a) : pa par l = a := by
  unfold pa
  rw [h]
  exact nI_clamp ha
theorem pa_lt {cnt : Nat} {par : Nat → Int32} (h : parok cnt par) (h8 : cnt ≤ 8) {l : Nat} (h0 : 0 < l) (hl : l < cnt) : pa par l < l ∧ par l = nI (pa par l) := by
  obtain ⟨a, h1, h2⟩ := h.2 l h0 hl
  rw [pa_of (by omega) h2]
  exact ⟨h1, h2⟩
theorem aos.zero {cnt : Nat} {par : Nat → Int32} (h : parok cnt par) {a : Nat} (q : aos par a 0) : a = 0 := by
  obtain ⟨k, q⟩ := q
  induction k with
  | zero => exact q.symm
  | succ k ih =>
    rw [chn_s, pa_zero h] at q
    exact ih q
theorem aos.le {cnt : Nat} {par : Nat → Int32} (h : parok cnt par) (h8 : cnt ≤ 8) : ∀ (l a : Nat), l < cnt → aos par a l → a ≤ l := by
  intro l
  induction l using Nat.strongRecOn with
  | ind l ih =>
    intro a hl q
    rcases Nat.eq_zero_or_pos l with h0 | h0
    · subst h0
      rw [aos.zero h q]
      exact Nat.le_refl 0
    · rcases q.step with e | q
      · exact e ▸ Nat.le_refl _
      · have h1 := (pa_lt h h8 h0 hl).1
        have := ih _ h1 a (by omega) q
        omega
theorem aos.root {cnt : Nat} {par : Nat → Int32} (h : parok cnt par) (h8 : cnt ≤ 8) : ∀ (l : Nat), l < cnt → aos par 0 l := by
  intro l
  induction l using Nat.strongRecOn with
  | ind l ih =>
    intro hl
    rcases Nat.eq_zero_or_pos l with h0 | h0
    · subst h0
      exact aos.self par 0
    · have h1 := (pa_lt h h8 h0 hl).1
      exact (ih _ h1 (by omega)).up
theorem pa_upd {cnt : Nat} {par : Nat → Int32} (x : Int32) {l : Nat} (hl : l < cnt) : pa (upd par cnt x) l = pa par l := by
  unfold pa
  rw [upd_ne par x (Nat.ne_of_lt hl)]
theorem pa_cnt {cnt : Nat} {par : Nat → Int32} (h : parok cnt par) (h8 : cnt ≤ 8) {l : Nat} (hl : l < cnt) : pa par l < cnt := by
  rcases Nat.eq_zero_or_pos l with h0 | h0
  · rw [h0, pa_zero h, ← h0]
    exact hl
  · exact Nat.lt_trans (pa_lt h h8 h0 hl).1 hl
theorem chn_upd {cnt : Nat} {par : Nat → Int32} (h : parok cnt par) (h8 : cnt ≤ 8) (x : Int32) (k : Nat) : ∀ l : Nat, l < cnt → chn (pa (upd par cnt x)) k l = chn (pa par) k l := by
  induction k with
  | zero =>
    intro l _
    rw [chn_0, chn_0]
  | succ k ih =>
    intro l hl
    rw [chn_s, chn_s, pa_upd x hl]
    exact ih (pa par l) (pa_cnt h h8 hl)
/-- a new lambda's row doesn't touch what is around older ones -/
theorem aos_upd {cnt : Nat} {par : Nat → Int32} (h : parok cnt par) (h8 : cnt ≤ 8) (x : Int32) (l a : Nat) (hl : l < cnt) : aos (upd par cnt x) a l ↔ aos par a l := by
  constructor
  · intro q
    obtain ⟨k, q⟩ := q
    exact ⟨k, (chn_upd h h8 x k l hl).symm.trans q⟩
  · intro q
    obtain ⟨k, q⟩ := q
    exact ⟨k, (chn_upd h h8 x k l hl).trans q⟩
/-- an atom that may stand in lambda l -/
def aok (cnt : Nat) (par : Nat → Int32) (prm : Nat → Nat) (l a : Nat) : Prop := a < 10 ∨ (300 ≤ a ∧ a ≤ 302) ∨ (100 ≤ a ∧ a < 180 ∧ (a - 100) / 10 < cnt ∧ (a - 100) % 10 < prm ((a - 100) / 10) ∧ aos par ((a - 100) / 10) l) ∨ (200 ≤ a ∧ a < 208 ∧ 0 < a - 200 ∧ a - 200 < cnt ∧ par (a - 200) = nI l)
/-- a program -/
def pwf (cnt : Nat) (par : Nat → Int32) (prm siz atm : Nat → Nat) : Prop := 1 ≤ cnt ∧ cnt ≤ 8 ∧ parok cnt par ∧ (∀ l, l < 8 → prm l ≤ 3) ∧ prm 0 = 0 ∧ (∀ l, l < 8 → siz l ≤ 4) ∧ ∀ l i, l < cnt → i < siz l → aok cnt par prm l (atm (4 * l + i))
def linok (cnt : Nat) (par lin : Nat → Int32) : Prop := ∀ l a, l < cnt → a < 32 → (bt (lin l) a = true ↔ aos par a l)
theorem pwf.awf {cnt : Nat} {par : Nat → Int32} {prm siz atm : Nat → Nat} (h : pwf cnt par prm siz atm) : awf cnt siz atm := by
  intro l i hl hi h1 h2
  rcases h.2.2.2.2.2.2 l i hl hi with q | q | q | q <;> omega
/-- a fresh program: one lambda, without a call -/
theorem pwf.new (par : Nat → Int32) (prm siz atm : Nat → Nat) (h : par 0 = -1) (hp : ∀ l, l < 8 → prm l ≤ 3) (hp0 : prm 0 = 0) (hs : ∀ l, l < 8 → siz l ≤ 4) (hs0 : siz 0 = 0) : pwf 1 par prm siz atm := by
  refine ⟨Nat.le_refl 1, by omega, ⟨h, fun l h0 h1 => by omega⟩, hp, hp0, hs, fun l i hl hi => ?_⟩
  have : l = 0 := by omega
  subst this
  omega
theorem pwf.lam {cnt : Nat} {par : Nat → Int32} {prm siz atm : Nat → Nat} (h : pwf cnt par prm siz atm) (hc : cnt < 8) {p k : Nat} (hp : p < cnt) (hk : k ≤ 3) : pwf (cnt + 1) (upd par cnt (nI p)) (un prm cnt k) (un siz cnt 0) atm := by
  obtain ⟨h1, h2, h3, h4, h5, h6, h7⟩ := h
  refine ⟨by omega, by omega, ⟨?_, fun l l0 l1 => ?_⟩, fun l hl => ?_, ?_, fun l hl => ?_, fun l i hl hi => ?_⟩
  · rw [upd_ne _ _ (by omega)]
    exact h3.1
  · by_cases e : l = cnt
    · subst e
      exact ⟨p, hp, upd_self _ _ _⟩
    · rw [upd_ne _ _ e]
      exact h3.2 l l0 (by omega)
  · by_cases e : l = cnt
    · subst e
      rw [un_self]
      exact hk
    · rw [un_ne _ _ e]
      exact h4 l hl
  · rw [un_ne _ _ (by omega)]
    exact h5
  · by_cases e : l = cnt
    · subst e
      rw [un_self]
      omega
    · rw [un_ne _ _ e]
      exact h6 l hl
  · by_cases e : l = cnt
    · subst e
      rw [un_self] at hi
      omega
    · rw [un_ne _ _ e] at hi
      have hl' : l < cnt := by omega
      rcases h7 l i hl' hi with q | q | ⟨q1, q2, q3, q4, q5⟩ | ⟨q1, q2, q3, q4, q5⟩
      · exact Or.inl q
      · exact Or.inr (Or.inl q)
      · refine Or.inr (Or.inr (Or.inl ⟨q1, q2, by omega, ?_, (aos_upd h3 h2 (nI p) l _ hl').mpr q5⟩))
        rw [un_ne _ _ (by omega)]
        exact q4
      · refine Or.inr (Or.inr (Or.inr ⟨q1, q2, q3, by omega, ?_⟩))
        rw [upd_ne _ _ (by omega)]
        exact q5
theorem linok.lam {cnt : Nat} {par lin : Nat → Int32} (hp : parok cnt par) (hl : linok cnt par lin) (hc : cnt < 8) {p : Nat} (h : p < cnt) : linok (cnt + 1) (upd par cnt (nI p)) (upd lin cnt (lin p ||| 1 <<< (nI cnt &&& 31))) := by
  intro l a h1 h2
  by_cases e : l = cnt
  · subst e
    rw [upd_self, b_or, b_one l (by omega)]
    have e1 : pa (upd par l (nI p)) l = p := pa_of (by omega) (upd_self _ _ _)
    have e2 := aos_upd hp (by omega) (nI p) p a h
    have e3 := hl p a h h2
    constructor
    · intro q
      rcases Bool.or_eq_true_iff.mp q with q | q
      · refine aos.up ?_
        rw [e1]
        exact e2.mpr (e3.mp q)
      · rw [of_decide_eq_true q]
        exact aos.self _ _
    · intro q
      rcases q.step with q | q
      · rw [q]
        simp
      · rw [e1] at q
        rw [e3.mpr (e2.mp q)]
        rfl
  · rw [upd_ne _ _ e, aos_upd hp (by omega) (nI p) l a (by omega)]
    exact hl l a (by omega) h2
theorem pwf.put {cnt : Nat} {par : Nat → Int32} {prm siz atm : Nat → Nat} (h : pwf cnt par prm siz atm) {l a : Nat} (hl : l < cnt) (hs : siz l < 4) (ha : aok cnt par prm l a) : pwf cnt par prm (un siz l (siz l + 1)) (un atm (4 * l + siz l) a) := by
  obtain ⟨h1, h2, h3, h4, h5, h6, h7⟩ := h
  refine ⟨h1, h2, h3, h4, h5, fun m hm => ?_, fun m i hm hi => ?_⟩
  · by_cases e : m = l
    · subst e
      rw [un_self]
      omega
    · rw [un_ne _ _ e]
      exact h6 m hm
  · have hz := h6 m (by omega)
    by_cases e : m = l
    · subst e
      rw [un_self] at hi
      by_cases e2 : i = siz m
      · subst e2
        rw [un_self]
        exact ha
      · rw [un_ne _ _ (by omega)]
        exact h7 m i hm (by omega)
    · rw [un_ne _ _ e] at hi
      rw [un_ne _ _ (by omega)]
      exact h7 m i hm hi
theorem pwf.clr {cnt : Nat} {par : Nat → Int32} {prm siz atm : Nat → Nat} (h : pwf cnt par prm siz atm) : pwf 1 par prm (un siz 0 0) atm := by
  obtain ⟨h1, h2, h3, h4, h5, h6, h7⟩ := h
  refine pwf.new par prm (un siz 0 0) atm h3.1 h4 h5 (fun l hl => ?_) (un_self _ _ _)
  by_cases e : l = 0
  · subst e
    rw [un_self]
    omega
  · rw [un_ne _ _ e]
    exact h6 l hl
theorem linok.one {cnt : Nat} {par lin : Nat → Int32} (h : linok cnt par lin) (h1 : 1 ≤ cnt) : linok 1 par lin := fun l a hl ha => h l a (by omega) ha
/-- the environment in which a parameter of lam is found, from e outwards -/
def mf (own out : Nat → Nat) (lam : Nat) : Nat → Nat → Option Nat
  | 0, _ => none
  | f + 1, e => if own e = lam then some e else mf own out lam f (out e)
/-- a value: a number, a primitive, or a closure as 200 + its lambda + 1000 times its environment -/
def vok (cnt : Nat) (par : Nat → Int32) (n : Nat) (own : Nat → Nat) (v : Nat) : Prop := v < 10 ∨ (300 ≤ v ∧ v ≤ 302) ∨ (200 ≤ v % 1000 ∧ v % 1000 < 208 ∧ 0 < v % 1000 - 200 ∧ v % 1000 - 200 < cnt ∧ v / 1000 ≤ n ∧ par (v % 1000 - 200) = nI (own (v / 1000)))
def mwf (cnt : Nat) (par : Nat → Int32) (prm : Nat → Nat) (n : Nat) (own out bnd : Nat → Nat) : Prop := n ≤ 64 ∧ own 0 = 0 ∧ out 0 = 0 ∧ (∀ j, 0 < j → j ≤ n → 0 < own j ∧ own j < cnt ∧ out j < j ∧ par (own j) = nI (own (out j))) ∧ ∀ j i, j ≤ n → i < prm (own j) → vok cnt par n own (bnd (3 * j + i))
theorem mwf.own_lt {cnt : Nat} {par : Nat → Int32} {prm : Nat → Nat} {n : Nat} {own out bnd : Nat → Nat} (h : mwf cnt par prm n own out bnd) (h1 : 1 ≤ cnt) {j : Nat} (hj : j ≤ n) : own j < cnt := by
  rcases Nat.eq_zero_or_pos j with e | e
  · subst e
    rw [h.2.1]
    omega
  · exact (h.2.2.2.1 j e hj).2.1
theorem mwf.own_fall {cnt : Nat} {par : Nat → Int32} {prm : Nat → Nat} {n : Nat} {own out bnd : Nat → Nat} (h : mwf cnt par prm n own out bnd) (hp : parok cnt par) (h8 : cnt ≤ 8) (h1 : 1 ≤ cnt) {j : Nat} (h0 : 0 < j) (hj : j ≤ n) : own (out j) < own j ∧ pa par (own j) = own (out j) ∧ out j < j := by
  obtain ⟨a1, a2, a3, a4⟩ := h.2.2.2.1 j h0 hj
  have a5 := h.own_lt h1 (j := out j) (by omega)
  have e := pa_of (by omega) a4
  have := (pa_lt hp h8 a1 a2).1
  exact ⟨by omega, e, a3⟩
theorem mf_zero {own out : Nat → Nat} (h0 : out 0 = 0) {lam : Nat} (h : ¬ own 0 = lam) : ∀ f, mf own out lam f 0 = none
  | 0 => rfl
  | f + 1 => by
    unfold mf
    rw [if_neg h, h0]
    exact mf_zero h0 h f
theorem mf_some {cnt : Nat} {par : Nat → Int32} {prm : Nat → Nat} {n : Nat} {own out bnd : Nat → Nat} (h : mwf cnt par prm n own out bnd) {lam : Nat} : ∀ (f e e' : Nat), e ≤ n → mf own out lam f e = some e' → e' ≤ e ∧ own e' = lam
  | 0, _, _, _, q => by cases q
  | f + 1, e, e', he, q => by
    unfold mf at q
    by_cases z : own e = lam
    · rw [if_pos z] at q
      cases q
      exact ⟨Nat.le_refl _, z⟩
    · rw [if_neg z] at q
      have ho : out e ≤ e := by
        rcases Nat.eq_zero_or_pos e with e0 | e0
        · subst e0
          rw [h.2.2.1]
          exact Nat.le_refl 0
        · exact Nat.le_of_lt (h.2.2.2.1 e e0 he).2.2.1
      obtain ⟨g1, g2⟩ := mf_some h f (out e) e' (by omega) q
      exact ⟨by omega, g2⟩
theorem mf_found {cnt : Nat} {par : Nat → Int32} {prm : Nat → Nat} {n : Nat} {own out bnd : Nat → Nat} (h : mwf cnt par prm n own out bnd) (hp : parok cnt par) (h8 : cnt ≤ 8) (h1 : 1 ≤ cnt) {lam : Nat} : ∀ (f e : Nat), e ≤ n → own e < f → aos par lam (own e) → ∃ e', mf own out lam f e = some e'
  | 0, _, _, q, _ => absurd q (Nat.not_lt_zero _)
  | f + 1, e, he, hf, q => by
    unfold mf
    by_cases z : own e = lam
    · rw [if_pos z]
      exact ⟨e, rfl⟩
    · rw [if_neg z]
      rcases Nat.eq_zero_or_pos e with e0 | e0
      · subst e0
        rw [h.2.1] at q z
        exact absurd (aos.zero hp q).symm z
      · obtain ⟨g1, g2, g3⟩ := h.own_fall hp h8 h1 e0 he
        rcases q.step with q | q
        · exact absurd q.symm z
        · rw [g2] at q
          exact mf_found h hp h8 h1 f (out e) (by omega) (by omega) q
/-- what an atom means -/
def mval (n : Nat) (own out bnd : Nat → Nat) (a : Nat) : Nat := if 100 ≤ a ∧ a < 180 then (match mf own out ((a - 100) / 10) 8 n with | some e => bnd (3 * e + (a - 100) % 10) | none => 0) else if 200 ≤ a ∧ a < 208 then n * 1000 + a else a
theorem mval.ok {cnt : Nat} {par : Nat → Int32} {prm : Nat → Nat} {n : Nat} {own out bnd : Nat → Nat} (h : mwf cnt par prm n own out bnd) (hp : parok cnt par) (h8 : cnt ≤ 8) (h1 : 1 ≤ cnt) {a : Nat} (ha : aok cnt par prm (own n) a) : vok cnt par n own (mval n own out bnd a) := by
  unfold mval
  rcases ha with q | q | ⟨q1, q2, q3, q4, q5⟩ | ⟨q1, q2, q3, q4, q5⟩
  · rw [if_neg (by omega), if_neg (by omega)]
    exact Or.inl q
  · rw [if_neg (by omega), if_neg (by omega)]
    exact Or.inr (Or.inl q)
  · rw [if_pos ⟨q1, q2⟩]
    have ho := h.own_lt h1 (Nat.le_refl n)
    obtain ⟨e, he⟩ := mf_found h hp h8 h1 8 n (Nat.le_refl n) (by omega) q5
    obtain ⟨e1, e2⟩ := mf_some h 8 n e (Nat.le_refl n) he
    rw [he]
    exact h.2.2.2.2 e _ e1 (by rw [e2]; exact q4)
  · rw [if_neg (by omega), if_pos ⟨q1, q2⟩]
    have e1 : (n * 1000 + a) % 1000 = a := by omega
    have e2 : (n * 1000 + a) / 1000 = n := by omega
    refine Or.inr (Or.inr ?_)
    rw [e1, e2]
    exact ⟨q1, q2, q3, q4, Nat.le_refl n, q5⟩
/-- what applying f to k arguments, the first x, comes to: (2, lambda, environment, k, x), (1, .., the outcome x), (0, ..): stuck -/
def mdir (prm : Nat → Nat) (f k x : Nat) : Nat × Nat × Nat × Nat × Nat := if (200 ≤ f % 1000 ∧ f % 1000 < 208) ∧ prm (f % 1000 - 200) = k then (2, f % 1000 - 200, f / 1000, k, x) else if f = 300 ∧ k = 1 then (1, 0, 0, k, x) else (0, 0, 0, 0, 0)
def mact (prm : Nat → Nat) (len : Nat) (o : Nat → Nat) : Nat × Nat × Nat × Nat × Nat :=
  if len = 0 then (0, 0, 0, 0, 0) else if (len = 4 ∧ o 1 < 10) ∧ o 0 = 302 then mdir prm (if o 1 = 0 then o 2 else o 3) 0 (o 1) else if ((len = 4 ∧ o 1 < 10) ∧ o 0 = 301) ∧ o 2 < 10 then mdir prm (o 3) 1 ((o 1 + o 2) % 10) else mdir prm (o 0) (len - 1) (o 1)
/-- k values from place b on -/
def bst (bnd : Nat → Nat) (b : Nat) (f : Nat → Nat) : Nat → Nat → Nat
  | 0 => bnd
  | k + 1 => un (bst bnd b f k) (b + k) (f k)
theorem bst_out {bnd : Nat → Nat} {b : Nat} {f : Nat → Nat} {j : Nat} : ∀ k, (j < b ∨ b + k ≤ j) → bst bnd b f k j = bnd j
  | 0, _ => rfl
  | k + 1, h => by
    show un (bst bnd b f k) (b + k) (f k) j = bnd j
    rw [un_ne _ _ (by omega)]
    exact bst_out k (by omega)
theorem bst_in {bnd : Nat → Nat} {b : Nat} {f : Nat → Nat} {i : Nat} : ∀ k, i < k → bst bnd b f k (b + i) = f i
  | 0, h => absurd h (Nat.not_lt_zero i)
  | k + 1, h => by
    show un (bst bnd b f k) (b + k) (f k) (b + i) = f i
    by_cases e : i = k
    · subst e
      rw [un_self]
    · rw [un_ne _ _ (by omega)]
      exact bst_in k (by omega)
/-- the machine: applied closures, owners, outers, bindings, called sets, phase, outcome -/
abbrev AM : Type := Nat × (Nat → Nat) × (Nat → Nat) × (Nat → Nat) × (Nat → Int32) × Nat × Nat
def mops (atm : Nat → Nat) (s : AM) (i : Nat) : Nat := mval s.1 s.2.1 s.2.2.1 s.2.2.2.1 (atm (4 * s.2.1 s.1 + i))
/-- the first argument changed -/
def mar (o : Nat → Nat) (x i : Nat) : Nat := if i = 0 then x else o (1 + i)
