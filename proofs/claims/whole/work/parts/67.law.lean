/-! The law: its rows, its state -/
section XL
variable {E : XE} {l : Launch} {R : Room} {cc : ByteArray} {nL : Nat} {ret : Option FieldType} {own : String} {G : XG} {A : Nat → Prop} {mc ms : Nat} {post : Option Value → va_W → Prop} {kc ks : Nat} {w : va_W} {pc : Nat} {lv : List (Nat × Value)} {st : List Value}
/-- the law's script, a row of L ints xs at b, older than all that is written -/
def scr (E : XE) (A : Nat → Prop) (b L : Nat) (xs : Nat → Int32) : Prop := va_X b L xs E.2.2.1 E.2.2.1.heap ∧ b < E.2.2.1.heap.size ∧ (¬ A b) ∧ L ≤ 1536
theorem x_sld {b L i : Nat} {xs : Nat → Int32} (hX : scr E A b L xs) (hd : decode cc pc = .ok (.iaload, 1)) (hi : i < L) (k1 : xj E l R cc nL ret own G A mc ms post kc ks w (pc + 1) lv (.int (xs i) :: st)) : xj E l R cc nL ret own G A mc ms post kc ks w pc lv (.int (nI i) :: .ref b :: st) := by
  have hL := hX.2.2.2
  intro cx hA H locs ls hP hD hS hl
  have k2 := k1 cx hA H locs ls hP hD hS hl
  rw [← nI_clamp (n := i) (by omega)] at k2
  exact va_sld cx.1 cx.2.1 hX.1 hX.2.1 hX.2.2.1 hS (nI_in hi (by omega)) hd k2
theorem x_slen {b L : Nat} {xs : Nat → Int32} (hX : scr E A b L xs) (hd : decode cc pc = .ok (.arraylength, 1)) (k1 : xj E l R cc nL ret own G A mc ms post kc ks w (pc + 1) lv (.int (nI L) :: st)) : xj E l R cc nL ret own G A mc ms post kc ks w pc lv (.ref b :: st) :=
  fun cx hA H locs ls hP hD hS hl => va_slen cx.1 cx.2.1 hX.1 hX.2.1 hX.2.2.1 hS hd (k1 cx hA H locs ls hP hD hS hl)
theorem x_tabI {dflt lo hi : Int} {offs : Array Int} {len : Nat} {x : Int32} {off : Int} {tgt : Nat} (hd : decode cc pc = .ok (.tableswitch dflt lo hi offs, len)) (h1 : ¬ x.toInt < lo) (h2 : ¬ hi < x.toInt) (ho : offs[(x.toInt - lo).toNat]? = some off) (ht : (pc : Int) + off = (tgt : Int)) (k1 : xj E l R cc nL ret own G A mc ms post kc ks w tgt lv st) : xj E l R cc nL ret own G A mc ms post kc ks w pc lv (.int x :: st) :=
  fun cx hA H locs ls hP hD hS hl => lv_tableIn cx.1 cx.2.1 hd h1 h2 ho ht (k1 cx hA H locs ls hP hD hS hl)
theorem x_tabO {dflt lo hi : Int} {offs : Array Int} {len : Nat} {x : Int32} {tgt : Nat} (hd : decode cc pc = .ok (.tableswitch dflt lo hi offs, len)) (h : x.toInt < lo ∨ hi < x.toInt) (ht : (pc : Int) + dflt = (tgt : Int)) (k1 : xj E l R cc nL ret own G A mc ms post kc ks w tgt lv st) : xj E l R cc nL ret own G A mc ms post kc ks w pc lv (.int x :: st) :=
  fun cx hA H locs ls hP hD hS hl => lv_tableOut cx.1 cx.2.1 hd h ht (k1 cx hA H locs ls hP hD hS hl)
end XL
theorem law_lt {L i : Nat} (hL : L ≤ 1536) (hi : i ≤ L) (h : ¬ nI L - nI 3 < nI i) : i + 3 ≤ L := by
  refine Classical.byContradiction (fun q => h ?_)
  rw [Int32.lt_iff_toInt_lt, Int32.toInt_sub, nI_toInt (by omega), nI_toInt (by omega), nI_toInt (by omega), Int.bmod_eq_of_le (by omega) (by omega)]
  omega
theorem ofw_eq {P P2 : Nat → Int32} {Q Q2 : Nat → Int64} {S S2 : Int64} {F F2 : Nat → Int32} {R R2 : Int32} (h : ofw P Q S F R = ofw P2 Q2 S2 F2 R2) : (∀ s, s < 192 → P s = P2 s ∧ Q s = Q2 s) ∧ S = S2 ∧ (∀ s, s < 8 → F s = F2 s) ∧ R = R2 := by
  have e1 : ∀ s b, (s < 192 ∧ bt (P s) b = true) ↔ (s < 192 ∧ bt (P2 s) b = true) := fun s b => iff_of_eq (congrFun (congrFun (congrArg (fun X : AX => X.1) h) s) b)
  have e2 : ∀ s b, (s < 192 ∧ bl (Q s) b = true) ↔ (s < 192 ∧ bl (Q2 s) b = true) := fun s b => iff_of_eq (congrFun (congrFun (congrArg (fun X : AX => X.2.1) h) s) b)
  have e3 : ∀ b, (bl S b = true) ↔ (bl S2 b = true) := fun b => iff_of_eq (congrFun (congrArg (fun X : AX => X.2.2.1) h) b)
  have e4 : ∀ s b, (s < 8 ∧ bt (F s) b = true) ↔ (s < 8 ∧ bt (F2 s) b = true) := fun s b => iff_of_eq (congrFun (congrFun (congrArg (fun X : AX => X.2.2.2.1) h) s) b)
  have e5 : ∀ b, (bt R b = true) ↔ (bt R2 b = true) := fun b => iff_of_eq (congrFun (congrArg (fun X : AX => X.2.2.2.2) h) b)
  have bq : ∀ {x y : Bool}, (x = true ↔ y = true) → x = y := fun {x y} q => by cases x <;> cases y <;> simp_all
  refine ⟨fun s hs => ⟨b_ext (fun i _ => bq ⟨fun q => ((e1 s i).mp ⟨hs, q⟩).2, fun q => ((e1 s i).mpr ⟨hs, q⟩).2⟩), l_ext (fun i _ => bq ⟨fun q => ((e2 s i).mp ⟨hs, q⟩).2, fun q => ((e2 s i).mpr ⟨hs, q⟩).2⟩)⟩, l_ext (fun i _ => bq (e3 i)), fun s hs => b_ext (fun i _ => bq ⟨fun q => ((e4 s i).mp ⟨hs, q⟩).2, fun q => ((e4 s i).mpr ⟨hs, q⟩).2⟩), b_ext (fun i _ => bq (e5 i))⟩
theorem lam_un {cnt : Nat} {x y : Int32} {p k p2 k2 : Nat} (h : lamok cnt x y p k) (g : lamok cnt x y p2 k2) : p2 = p ∧ k2 = k := by
  obtain ⟨h1, h2, h3, h4, h5⟩ := h
  obtain ⟨g1, g2, g3, g4, g5⟩ := g
  exact ⟨nI_inj (by omega) (by omega) (g4.symm.trans h4), nI_inj (by omega) (by omega) (g5.symm.trans h5)⟩
theorem put_un {cnt : Nat} {par : Nat → Int32} {prm siz : Nat → Nat} {x y : Int32} {p k p2 k2 : Nat} (hc : cnt ≤ 8) (h : putok cnt par prm siz x y p k) (g : putok cnt par prm siz x y p2 k2) : p2 = p ∧ k2 = k := by
  obtain ⟨h1, h2, h3, _, h4, h5⟩ := h
  obtain ⟨g1, g2, g3, _, g4, g5⟩ := g
  exact ⟨nI_inj (by omega) (by omega) (g4.symm.trans h4), nI_inj (by omega) (by omega) (g5.symm.trans h5)⟩
theorem lval_cg {on : Bool} {cnt : Nat} {f g : Nat → Int32} {x : Int32} (hc : cnt ≤ 8) (h : on = true → ∀ l, l < cnt → f l = g l) : lval on cnt f x = lval on cnt g x := by
  unfold lval
  by_cases q : on = true ∧ hl cnt x = true
  · rw [if_pos q, if_pos q]
    obtain ⟨l, h1, rfl⟩ := hl_of hc q.2
    rw [nI_clamp (by omega)]
    exact h q.1 l h1
  · rw [if_neg q, if_neg q]
theorem qval_cg {on : Bool} {cnt : Nat} {prm : Nat → Nat} {f g : Nat → Nat → Int32} {x i : Int32} (hc : cnt ≤ 8) (hp : ∀ l, l < 8 → prm l ≤ 4) (h : on = true → ∀ l j, l < cnt → j < prm l → f l j = g l j) : qval on cnt prm f x i = qval on cnt prm g x i := by
  unfold qval
  by_cases q : on = true ∧ hpr cnt prm x i = true
  · rw [if_pos q, if_pos q]
    obtain ⟨l, j, h1, h2, rfl, rfl⟩ := hpr_of hc hp q.2
    have := hp l (by omega)
    rw [nI_clamp (by omega), nI_clamp (by omega)]
    exact h q.1 l j h1 h2
  · rw [if_neg q, if_neg q]
theorem orf_cg {f g : Nat → Int32} : ∀ n, (∀ c, c < n → f c = g c) → orf f n = orf g n
  | 0, _ => rfl
  | n + 1, h => by
    show orf f n ||| f n = orf g n ||| g n
    rw [orf_cg n (fun c hc => h c (by omega)), h n (by omega)]
theorem clos_cg {Q Q2 : Nat → Int64} {lx ix m : Nat} (hl : lx < 8) (hi : ix < 3) (h : ∀ s, s < 192 → Q s = Q2 s) : clos Q lx ix m ↔ clos Q2 lx ix m := by
  unfold clos
  constructor
  · intro q
    obtain ⟨c, e, h1, h2, h3⟩ := q
    exact ⟨c, e, h1, h2, by rw [← h _ (sl_lt hl hi h1)]; exact h3⟩
  · intro q
    obtain ⟨c, e, h1, h2, h3⟩ := q
    exact ⟨c, e, h1, h2, by rw [h _ (sl_lt hl hi h1)]; exact h3⟩
theorem b_same {r r2 : Int32} (h : ∀ m, bt r m = true ↔ bt r2 m = true) : r = r2 := b_ext (fun i _ => by
  have q := h i
  revert q
  cases bt r i <;> cases bt r2 i <;> simp)
def lwi (par : Nat → Int32) (prm : Nat → Nat) (lin : Nat → Int32) (siz : Nat → Nat) (atm : Nat → Nat) (cnt : Nat) (own : Nat → Nat) (out : Nat → Nat) (bnd : Nat → Nat) (cal : Nat → Int32) (opr : Nat → Nat) (n : Nat) (ph : Nat) (oc : Nat) (P : Nat → Int32) (Q : Nat → Int64) (OP : Nat → Int64) (F : Nat → Int32) (S : Int64) (R : Int32) (md : Bool) (mo : Nat) (he : Nat) (en : Nat) (ap : Nat) (ocr : Nat) (calr : Nat → Int32) (el : Nat → Nat) (eu : Nat → Int32) (ev : Nat → Nat) (ag : Nat → Nat) (an : Bool) (Pr : Nat → Int32) (Qr : Nat → Int64) (Sr : Int64) (Fr : Nat → Int32) (Rr : Int32) : Prop := pwf cnt par prm siz atm ∧ linok cnt par lin ∧ own 0 = 0 ∧ out 0 = 0 ∧ mo = ph ∧ ph ≤ 4 ∧ (¬ ph = 0 → swf cnt par prm (n, own, out, bnd, cal, ph, oc) ∧ rst prm (n, own, out, bnd, cal, ph, oc) mo he en ap ocr calr el eu ev) ∧ (∀ i, i < 4 → opr i < 100000) ∧ (∀ i, i < 4 → ag i < 100000) ∧ OP 4 = 0 ∧ an = md ∧ (md = true → ofw P Q S F R = ofw Pr Qr Sr Fr Rr)
def lst (ad ad2 : Nat → Nat) (cI cL : ClassId) (w : va_W) : Prop := ∃ (par : Nat → Int32) (prm : Nat → Nat) (lin : Nat → Int32) (siz : Nat → Nat) (atm : Nat → Nat) (cnt : Nat) (own : Nat → Nat) (out : Nat → Nat) (bnd : Nat → Nat) (cal : Nat → Int32) (opr : Nat → Nat) (n : Nat) (ph : Nat) (oc : Nat) (P : Nat → Int32) (Q : Nat → Int64) (OC : Nat → Int32) (OP : Nat → Int64) (F : Nat → Int32) (S : Int64) (R : Int32) (vis : Nat) (nc : Nat) (gr : Bool) (md : Bool) (mo : Nat) (he : Nat) (en : Nat) (ap : Nat) (ocr : Nat) (calr : Nat → Int32) (el : Nat → Nat) (eu : Nat → Int32) (ev : Nat → Nat) (ag : Nat → Nat) (an : Bool) (kk : Nat) (Pr : Nat → Int32) (Qr : Nat → Int64) (Sr : Int64) (Fr : Nat → Int32) (Rr : Int32) (ch : Bool) (AP : Nat → Int32) (AQ : Nat → Int64), lwi par prm lin siz atm cnt own out bnd cal opr n ph oc P Q OP F S R md mo he en ap ocr calr el eu ev ag an Pr Qr Sr Fr Rr ∧ w = (wC ad cI cL par prm lin siz atm cnt own out bnd cal opr n ph oc P Q OC OP F S R vis nc gr md) ++ (wR ad2 cI cL par prm siz atm cnt mo he en ap ocr calr el eu ev ag an kk Pr Qr Sr Fr Rr ch AP AQ)
section LWI
variable {par : Nat → Int32} {prm : Nat → Nat} {lin : Nat → Int32} {siz : Nat → Nat} {atm : Nat → Nat} {cnt : Nat} {own : Nat → Nat} {out : Nat → Nat} {bnd : Nat → Nat} {cal : Nat → Int32} {opr : Nat → Nat} {n : Nat} {ph : Nat} {oc : Nat} {P : Nat → Int32} {Q : Nat → Int64} {OP : Nat → Int64} {F : Nat → Int32} {S : Int64} {R : Int32} {md : Bool} {mo : Nat} {he : Nat} {en : Nat} {ap : Nat} {ocr : Nat} {calr : Nat → Int32} {el : Nat → Nat} {eu : Nat → Int32} {ev : Nat → Nat} {ag : Nat → Nat} {an : Bool} {Pr : Nat → Int32} {Qr : Nat → Int64} {Sr : Int64} {Fr : Nat → Int32} {Rr : Int32}
theorem lwi.lam (h : lwi par prm lin siz atm cnt own out bnd cal opr n ph oc P Q OP F S R md mo he en ap ocr calr el eu ev ag an Pr Qr Sr Fr Rr) {x y : Int32} {p k : Nat} (hk : lamok cnt x y p k) : lwi (upd par cnt (nI p)) (un prm cnt k) (upd lin cnt (lin p ||| 1 <<< (nI cnt &&& 31))) (un siz cnt 0) atm (cnt + 1) own out bnd cal opr n 0 oc P Q OP F S R false 0 he en ap ocr calr el eu ev ag false Pr Qr Sr Fr Rr := by
  obtain ⟨hw, hli, ho0, hu0, hmo, hph, hrun, hop, hag, hO4, han, hsa⟩ := h
  obtain ⟨h1, h2, h3, _, _⟩ := hk
  exact ⟨hw.lam h1 h2 h3, linok.lam hw.2.2.1 hli h1 h2, ho0, hu0, rfl, Nat.zero_le _, fun q => absurd rfl q, hop, hag, hO4, rfl, fun q => by cases q⟩
theorem lwi.put (h : lwi par prm lin siz atm cnt own out bnd cal opr n ph oc P Q OP F S R md mo he en ap ocr calr el eu ev ag an Pr Qr Sr Fr Rr) {x y : Int32} {lx b : Nat} (hk : putok cnt par prm siz x y lx b) : lwi par prm lin (un siz lx (siz lx + 1)) (un atm (4 * lx + siz lx) b) cnt own out bnd cal opr n 0 oc P Q OP F S R false 0 he en ap ocr calr el eu ev ag false Pr Qr Sr Fr Rr := by
  obtain ⟨hw, hli, ho0, hu0, hmo, hph, hrun, hop, hag, hO4, han, hsa⟩ := h
  obtain ⟨h1, h2, h3, h4, _, _⟩ := hk
  exact ⟨hw.put h1 h2 h4, hli, ho0, hu0, rfl, Nat.zero_le _, fun q => absurd rfl q, hop, hag, hO4, rfl, fun q => by cases q⟩
theorem lwi.clr (h : lwi par prm lin siz atm cnt own out bnd cal opr n ph oc P Q OP F S R md mo he en ap ocr calr el eu ev ag an Pr Qr Sr Fr Rr) : lwi par prm lin (un siz 0 0) atm 1 own out bnd cal opr n 0 oc P Q OP F S R false 0 he en ap ocr calr el eu ev ag false Pr Qr Sr Fr Rr := by
  obtain ⟨hw, hli, ho0, hu0, hmo, hph, hrun, hop, hag, hO4, han, hsa⟩ := h
  exact ⟨hw.clr, hli.one hw.1, ho0, hu0, rfl, Nat.zero_le _, fun q => absurd rfl q, hop, hag, hO4, rfl, fun q => by cases q⟩
theorem lwi.sta (h : lwi par prm lin siz atm cnt own out bnd cal opr n ph oc P Q OP F S R md mo he en ap ocr calr el eu ev ag an Pr Qr Sr Fr Rr) : lwi par prm lin siz atm cnt own out bnd (fun _ => 0) opr 0 1 oc P Q OP F S R md 1 0 0 0 ocr (fun _ => 0) (un el 0 0) (upd eu 0 (-1)) ev ag an Pr Qr Sr Fr Rr := by
  obtain ⟨hw, hli, ho0, hu0, hmo, hph, hrun, hop, hag, hO4, han, hsa⟩ := h
  refine ⟨hw, hli, ho0, hu0, rfl, by omega, fun _ => ⟨⟨⟨Nat.zero_le _, ho0, hu0, fun j h1 h2 => absurd h1 (by omega), fun j i h1 h2 => ?_⟩, (by decide : (1 : Nat) ≤ 4), fun q => absurd q (by decide : ¬ (1 : Nat) = 2)⟩, rfl, rfl, rfl, ho0.symm, ⟨fun j hj => ?_, upd_self _ _ _, fun j h1 h2 => absurd h1 (by have h2 : j ≤ 0 := h2; omega), fun j i h1 h2 => ?_⟩, fun _ _ => rfl, fun q => absurd q (by decide : ¬ (1 : Nat) = 2)⟩, hop, hag, hO4, han, hsa⟩
  · have h1 : j ≤ 0 := h1
    have e : j = 0 := by omega
    subst e
    have h2 : i < prm (own 0) := h2
    rw [ho0, hw.2.2.2.2.1] at h2
    exact absurd h2 (Nat.not_lt_zero _)
  · have hj : j ≤ 0 := hj
    have e : j = 0 := by omega
    subst e
    show un el 0 0 0 = own 0
    rw [un_self, ho0]
  · have h1 : j ≤ 0 := h1
    have e : j = 0 := by omega
    subst e
    have h2 : i < prm (own 0) := h2
    rw [ho0, hw.2.2.2.2.1] at h2
    exact absurd h2 (Nat.not_lt_zero _)
theorem lwi.stp (h : lwi par prm lin siz atm cnt own out bnd cal opr n ph oc P Q OP F S R md mo he en ap ocr calr el eu ev ag an Pr Qr Sr Fr Rr) {s2 : AM} {o2 : Nat → Nat} {mo9 he9 en9 ap9 oc9 : Nat} {cal9 : Nat → Int32} {el9 : Nat → Nat} {eu9 : Nat → Int32} {ev9 ag9 : Nat → Nat} (h1 : swf cnt par prm s2) (h2 : ∀ i, i < 4 → o2 i < 100000) (h3 : rst prm s2 mo9 he9 en9 ap9 oc9 cal9 el9 eu9 ev9) (h4 : ∀ i, i < 4 → ag9 i < 100000) : lwi par prm lin siz atm cnt s2.2.1 s2.2.2.1 s2.2.2.2.1 s2.2.2.2.2.1 o2 s2.1 s2.2.2.2.2.2.1 s2.2.2.2.2.2.2 P Q OP F S R md mo9 he9 en9 ap9 oc9 cal9 el9 eu9 ev9 ag9 an Pr Qr Sr Fr Rr := by
  obtain ⟨hw, hli, ho0, hu0, hmo, hph, hrun, hop, hag, hO4, han, hsa⟩ := h
  exact ⟨hw, hli, h1.1.2.1, h1.1.2.2.1, h3.1, h1.2.1, fun _ => ⟨h1, h3⟩, h2, h4, hO4, han, hsa⟩
theorem lwi.ana (h : lwi par prm lin siz atm cnt own out bnd cal opr n ph oc P Q OP F S R md mo he en ap ocr calr el eu ev ag an Pr Qr Sr Fr Rr) {k : Nat} {P2 : Nat → Int32} {Q2 : Nat → Int64} {S2 : Int64} {F2 : Nat → Int32} {R2 : Int32} {OP2 : Nat → Int64} {P3 : Nat → Int32} {Q3 : Nat → Int64} {S3 : Int64} {F3 : Nat → Int32} {R3 : Int32} (h1 : aleast cnt (anc par) prm siz atm k (ofw P2 Q2 S2 F2 R2)) (h2 : aleast cnt (anc par) prm siz atm k (ofw P3 Q3 S3 F3 R3)) (h3 : OP2 4 = 0) : lwi par prm lin siz atm cnt own out bnd cal opr n ph oc P2 Q2 OP2 F2 S2 R2 true mo he en ap ocr calr el eu ev ag true P3 Q3 S3 F3 R3 := by
  obtain ⟨hw, hli, ho0, hu0, hmo, hph, hrun, hop, hag, hO4, han, hsa⟩ := h
  exact ⟨hw, hli, ho0, hu0, hmo, hph, hrun, hop, hag, h3, rfl, fun _ => aleast.eq h1 h2⟩
end LWI
theorem lin_0 : linok 1 (upd (fun _ => 0) 0 (-1)) (upd (fun _ => 0) 0 (nI 1)) := by
  intro l a hl ha
  have e : l = 0 := by omega
  subst e
  rw [upd_self]
  have h0 : ∀ k, chn (pa (upd (fun _ => 0) 0 (-1))) k 0 = 0 := by
    intro k
    induction k with
    | zero => rfl
    | succ k ih =>
      rw [chn_s, show pa (upd (fun _ => 0) 0 (-1)) 0 = 0 by unfold pa; rw [upd_self]; decide]
      exact ih
  constructor
  · intro q
    have q : bt 1 a = true := q
    rw [b_1] at q
    rw [of_decide_eq_true q]
    exact aos.self _ _
  · intro q
    obtain ⟨k, hk⟩ := q
    rw [h0] at hk
    show bt 1 a = true
    rw [b_1, ← hk]
    rfl
theorem lst_0 {ad ad2 : Nat → Nat} {cI cL : ClassId} : lst ad ad2 cI cL ((wC ad cI cL (upd (fun _ => 0) 0 (-1)) (fun _ => 0) (upd (fun _ => 0) 0 (nI 1)) (fun _ => 0) (fun _ => 0) 1 (fun _ => 0) (fun _ => 0) (fun _ => 0) (fun _ => 0) (fun _ => 0) 0 0 0 (fun _ => 0) (fun _ => 0) (fun _ => 0) (fun _ => 0) (fun _ => 0) 0 0 0 0 false false) ++ (wR ad2 cI cL (upd (fun _ => 0) 0 (-1)) (fun _ => 0) (fun _ => 0) (fun _ => 0) 1 0 0 0 0 0 (fun _ => 0) (fun _ => 0) (fun _ => 0) (fun _ => 0) (fun _ => 0) false 0 (fun _ => 0) (fun _ => 0) 0 (fun _ => 0) 0 false (fun _ => 0) (fun _ => 0))) :=
  ⟨(upd (fun _ => 0) 0 (-1)), (fun _ => 0), (upd (fun _ => 0) 0 (nI 1)), (fun _ => 0), (fun _ => 0), 1, (fun _ => 0), (fun _ => 0), (fun _ => 0), (fun _ => 0), (fun _ => 0), 0, 0, 0, (fun _ => 0), (fun _ => 0), (fun _ => 0), (fun _ => 0), (fun _ => 0), 0, 0, 0, 0, false, false, 0, 0, 0, 0, 0, (fun _ => 0), (fun _ => 0), (fun _ => 0), (fun _ => 0), (fun _ => 0), false, 0, (fun _ => 0), (fun _ => 0), 0, (fun _ => 0), 0, false, (fun _ => 0), (fun _ => 0), ⟨pwf.new _ _ _ _ (upd_self _ _ _) (fun _ _ => Nat.zero_le _) rfl (fun _ _ => Nat.zero_le _) rfl, lin_0, rfl, rfl, rfl, Nat.zero_le _, fun q => absurd rfl q, fun _ _ => (by decide : (0 : Nat) < 100000), fun _ _ => (by decide : (0 : Nat) < 100000), rfl, rfl, fun q => by cases q⟩, rfl⟩
section REFX
variable {l : Launch} {D : va_G} {ad : Nat → Nat} {cI cL : ClassId} {par : Nat → Int32} {prm siz atm : Nat → Nat} {cnt : Nat} {mo he en ap oc : Nat} {cal : Nat → Int32} {el : Nat → Nat} {eu : Nat → Int32} {ev ag : Nat → Nat} {an : Bool} {kk : Nat} {P : Nat → Int32} {Q : Nat → Int64} {S : Int64} {F : Nat → Int32} {R : Int32} {ch : Bool} {AP : Nat → Int32} {AQ : Nat → Int64}
set_option maxHeartbeats 4000000 in
set_option maxRecDepth 100000 in
theorem t_R_resultX (hmo : mo ≤ 4) (hoc : mo = 2 → oc < 2147483648) : CT l y_R_result c_R_result 1 (some .int) (rmm 1 20) (gG D cI cL) [.ref (ad 0)] (wR ad cI cL par prm siz atm cnt mo he en ap oc cal el eu ev ag an kk P Q S F R ch AP AQ) (pI (if mo = 2 then nI (if oc < 1000 then oc else 200 + (oc - 1000) / 100) else -1) (wR ad cI cL par prm siz atm cnt mo he en ap oc cal el eu ev ag an kk P Q S F R ch AP AQ)) := by
  refine CT.of R_R (by decide) rfl (Nat.le_of_ble_eq_true rfl) ?_
  intro E A hname
  refine x_aload_n (pc := 0) d_R_result_0 0 rfl ?_
  refine x_get (pc := 1) (ci := 4) d_R_result_1 in_R rfl 5 (by decide) k_R_57 0 rfl rfl ?_
  refine x_iconst (pc := 4) (nI 2) d_R_result_4 (by decide) ?_
  first | refine x_icmp_neN (pc := 5) (tgt := 18) d_R_result_5 rfl (by omega) (by omega) ?_ ?_ | refine x_icmp_ne (pc := 5) (tgt := 18) d_R_result_5 rfl ?_ ?_
  · intro h5
    refine x_iconst (pc := 18) (-1) d_R_result_18 (by decide) ?_
    refine x_iret (pc := 19) d_R_result_19 rfl ?_
    first | exact ⟨congrArg (fun z => some (Value.int z)) (if_pos h5).symm, rfl⟩ | exact ⟨congrArg (fun z => some (Value.int z)) (if_neg h5).symm, rfl⟩
  · intro h5
    refine x_aload_n (pc := 8) d_R_result_8 0 rfl ?_
    refine x_get (pc := 9) (ci := 4) d_R_result_9 in_R rfl 9 (by decide) k_R_98 0 rfl rfl ?_
    refine x_callS_I (pc := 12) d_R_result_12 k_R_109 ws_R_told w_R_told ini_R wd_R_told ⟨by decide, by decide⟩ ⟨rfl, rfl⟩ ⟨Nat.zero_le _, Nat.zero_le _⟩ (t_R_told (hoc h5)) rfl rfl (Nat.le_of_ble_eq_true rfl) ?_
    refine x_goto (pc := 15) (tgt := 19) d_R_result_15 rfl ?_
    refine x_iret (pc := 19) d_R_result_19 rfl ?_
    first | exact ⟨congrArg (fun z => some (Value.int z)) (if_pos h5).symm, rfl⟩ | exact ⟨congrArg (fun z => some (Value.int z)) (if_neg h5).symm, rfl⟩
end REFX
