/-! My own layer over the kit: xj, a judgement that carries world, locals and frame facts along; a row an instruction. -/
abbrev XE : Type := Program × Env × State × MethodId × Array Value × List Frame × Method × Code
abbrev XG : Type := va_G × List vw_C × List (ClassId × FieldType)
def tb (G : XG) (U : State) : Prop := va_K G.1 G.2.1 G.2.2 U
theorem tb.warm {G : XG} {s U : State} (h : tb G s) (hW : s.WarmedH U.vm) : tb G U := va_K.moved hW.alike h
theorem tb.same {G : XG} {u U : State} (h : tb G u) (hvm : u.vm = U.vm) : tb G U := va_K.moved (by rw [hvm]; exact Vm.Alike.refl _) h
theorem okb.pay {args a2 : Array Value} {s U : State} (hW : s.WarmedH U.vm) {w : Cond} (h : okb w = true) (hb : w.before args s = true) : w.before a2 U = true := by
  cases w <;> first | exact va_Nw.use rfl (va_Nw.warmM hW (va_Nw.of rfl hb)) | exact word_at hW (good_of_word h) hb
theorem tbl_ok : ∀ w ∈ big, okb w = true := fun _ h => (List.mem_filter.mp h).2
theorem tbl_pay {args : Array Value} {s : State} (hts : ∀ w ∈ big, w.before args s = true) {h : Cond} (hh : h ∈ big) : ∀ w ∈ h :: big, ∀ (a2 : Array Value) (U : State), s.WarmedH U.vm → w.before a2 U = true := by
  intro w hw a2 U hW
  have hm : w ∈ big := by
    rcases List.mem_cons.mp hw with e | e
    · exact e ▸ hh
    · exact e
  exact okb.pay hW (tbl_ok w hm) (hts w hm)
def Cx (E : XE) (cc : ByteArray) (nL : Nat) (ret : Option FieldType) (own : String) (G : XG) : Prop :=
  E.1.tables.exec = Jvm.exec ∧ E.2.2.2.2.2.2.2.code = cc ∧ E.2.2.2.2.2.2.2.maxLocals = nL ∧ E.2.2.2.2.2.2.1.sig.returnType = ret ∧ E.2.2.2.2.2.2.1.locks = false ∧ E.2.2.1.vm.findClass own = some E.2.2.2.1.cls ∧ (∀ w ∈ big, w.before E.2.2.2.2.1 E.2.2.1 = true) ∧ tb G E.2.2.1
/-- a contract's end -/
def xEnd (G : XG) (A : Nat → Prop) (post : Option Value → va_W → Prop) : Array Value → State → Outcome → State → Prop := fun _ st oc t =>
  (∃ (v : Option Value) (w' : va_W), oc = .returned v ∧ post v w' ∧ va_P G.1 G.2.1 w' t.heap ∧ va_D A w') ∧ va_F A st t
def xQ (E : XE) (G : XG) (A : Nat → Prop) (post : Option Value → va_W → Prop) (mc ms : Nat) : State → Prop := MQ E.2.2.2.2.2.1 (xEnd G A post) E.2.2.2.2.1 E.2.2.1 mc ms A
def xj (E : XE) (l : Launch) (R : Room) (cc : ByteArray) (nL : Nat) (ret : Option FieldType) (own : String) (G : XG) (A : Nat → Prop) (mc ms : Nat) (post : Option Value → va_W → Prop) (kc ks : Nat) (w : va_W) (pc : Nat) (lv : List (Nat × Value)) (st : List Value) : Prop :=
  Cx E cc nL ret own G → (∀ q, E.2.2.1.heap.size ≤ q → A q) → ∀ (H : Heap) (locs : List Loc) (ls : Array Slot), va_P G.1 G.2.1 w H → va_D A w → va_S A E.2.2.1.heap H locs → lv_has ls nL lv →
    W E.1 l E.2.1 R E.2.2.1 E.2.2.2.1 E.2.2.2.2.1 E.2.2.2.2.2.1 E.2.2.2.2.2.2.1 E.2.2.2.2.2.2.2 H locs kc ks (xQ E G A post mc ms) (F0 E.2.2.2.1 pc ls st)
/-- a contract: from the world w, on the arguments av, the method ends with post; nothing else changes -/
def CT (l : Launch) (y : MethodName) (cc : ByteArray) (nL : Nat) (ret : Option FieldType) (rm : Room) (G : XG) (av : List Value) (w : va_W) (post : Option Value → va_W → Prop) : Prop :=
  ∀ sz : Nat, Met l y (Cond.code y cc nL ret :: big) rm (va_Pc av (fun U => U.heap.size = sz ∧ va_P G.1 G.2.1 w U.heap ∧ va_D (fun _ => True) w ∧ tb G U)) (xEnd G (va_A w sz) post) rm.cells rm.slots (va_A w sz)
theorem CT.of {l : Launch} {y : MethodName} {cc : ByteArray} {nL : Nat} {ret : Option FieldType} {rm : Room} {G : XG} {av : List Value} {w : va_W} {post : Option Value → va_W → Prop} (own : String) (hy : plainName y.cls = true) (ho : y.cls = own) (hn : (lg_sl av).length ≤ nL)
    (body : ∀ (E : XE) (A : Nat → Prop), E.2.2.2.2.2.2.1.name = y.name → xj E l rm cc nL ret own G A rm.cells rm.slots post 0 0 w 0 (lv_args 0 av) []) : CT l y cc nL ret rm G av w post := by
  intro sz
  refine Met.ofW (cc := cc) (maxL := nL) (ret := ret) hy rfl ?_
  intro p e s m args below meth c s₁ B hml hv
  obtain ⟨rfl, hsz, hP, hD0, hT⟩ := hv
  subst hsz
  have hl := lv_entry av (n := nL) hn
  rw [lg_entry_eq]
  have hts := atoms_spec (ws := Cond.code y cc nL ret :: big) B.pre
  refine body (p, e, s, m, av.toArray, below, meth, c) (va_A w s.heap.size) (name_of_methodNamed B.named B.method).1 ⟨B.exec, B.bytes, hml, B.returns, B.notSynchronized, ?_, fun w hw => hts w (List.mem_cons_of_mem _ hw), hT⟩ (fun q h => Or.inr h) s.heap [] _ hP hD0.self va_S.rf hl
  rw [← ho]
  exact findClass_of_methodNamed B.named
theorem CT.mono {l : Launch} {y : MethodName} {cc : ByteArray} {nL : Nat} {ret : Option FieldType} {rm : Room} {G : XG} {av : List Value} {w : va_W} {post post' : Option Value → va_W → Prop} (h : CT l y cc nL ret rm G av w post) (hp : ∀ v w', post v w' → post' v w') : CT l y cc nL ret rm G av w post' := by
  intro sz
  refine MetFree.mono (h sz) (fun _ _ q => q) (fun _ _ _ _ _ q => q) (fun a s o t _ hq => ?_)
  obtain ⟨⟨⟨v, w', h1, h2, h3⟩, h4⟩, h5⟩ := hq
  exact ⟨⟨⟨v, w', h1, hp v w' h2, h3⟩, h4⟩, h5⟩
/-- the frame rule, once for all: cells of a larger world that the contract doesn't speak of stay -/
theorem CT.frame {l : Launch} {y : MethodName} {cc : ByteArray} {nL : Nat} {ret : Option FieldType} {rm : Room} {G : XG} {av : List Value} {w w0 : va_W} {post post' : Option Value → va_W → Prop} (h : CT l y cc nL ret rm G av w0 post) (hsub : ∀ q ∈ w0, q ∈ w) (hnd : ∀ B : Nat → Prop, va_D B w → va_D B w0)
    (hp : ∀ (v : Option Value) (w0' : va_W), post v w0' → ∃ (w' wr : va_W), post' v w' ∧ (∀ q ∈ w', q ∈ w0' ∨ q ∈ wr) ∧ (∀ q ∈ wr, q ∈ w ∧ q.1 ∉ w0.map (·.1)) ∧ (∀ B : Nat → Prop, va_D B w → va_D B wr) ∧ (∀ B : Nat → Prop, va_D B (wr ++ w0') → va_D B w')) : CT l y cc nL ret rm G av w post' := by
  intro sz
  refine MetFree.mono (h sz) (fun a s q => ?_) (fun _ _ _ _ _ q => q) (fun a s o t hP0 hq => ?_)
  · obtain ⟨e1, e2, hP, hD, hT⟩ := q
    refine ⟨e1, e2, fun k x hk => ?_, hnd _ hD, hT⟩
    obtain ⟨i, hi⟩ := List.getElem?_of_mem (hsub x (List.mem_of_getElem? hk))
    exact hP i x hi
  · obtain ⟨-, e2, hP, hD, -⟩ := hP0
    obtain ⟨⟨⟨v, w0', h1, h2, h3, h4⟩, h5⟩, L, h6, h7⟩ := hq
    obtain ⟨w', wr, g1, g2, g3, g4, g5⟩ := hp v w0' h2
    have hAA : ∀ q, va_A w0 sz q → va_A w sz q := by
      intro q hq
      rcases hq with ⟨k, e, hk⟩ | hq
      · obtain ⟨i, hi⟩ := List.getElem?_of_mem (hsub _ (List.mem_of_getElem? hk))
        exact Or.inl ⟨i, e, hi⟩
      · exact Or.inr hq
    have hout : ∀ q ∈ wr, q.1 < s.heap.size ∧ ¬ va_A w0 sz q.1 := by
      intro q hq
      obtain ⟨i, hi⟩ := List.getElem?_of_mem (g3 q hq).1
      have hlt := (hP i q hi).lt
      refine ⟨hlt, fun hA => ?_⟩
      rcases hA with ⟨k, e, hk⟩ | hA
      · exact (g3 q hq).2 (List.mem_map.mpr ⟨(q.1, e), List.mem_of_getElem? hk, rfl⟩)
      · omega
    have hPr : va_P G.1 G.2.1 wr t.heap := by
      intro k q hk
      have hq := List.mem_of_getElem? hk
      obtain ⟨i, hi⟩ := List.getElem?_of_mem (g3 q hq).1
      exact (hP i q hi).kept (h5.2 q.1 (hout q hq).1 (hout q hq).2)
    have hDr : va_D (va_A w sz) wr := (g4 _ (hD.self (sz := sz)))
    have hDa : va_D (va_A w sz) (wr ++ w0') := hDr.app (h4.weaken (fun _ _ _ hq => hAA _ hq)) (fun i j x y hx hy hxy => (hout x (List.mem_of_getElem? hx)).2 (by rw [hxy]; exact h4.2 j y hy))
    refine ⟨⟨⟨v, w', h1, g1, fun k q hk => ?_, g5 _ hDa⟩, h5.1, fun q hq1 hq2 => h5.2 q hq1 (fun z => hq2 (hAA q z))⟩, L, h6, fun q hq => hAA _ (h7 q hq)⟩
    rcases g2 q (List.mem_of_getElem? hk) with hq | hq
    · obtain ⟨i, hi⟩ := List.getElem?_of_mem hq
      exact h3 i q hi
    · obtain ⟨i, hi⟩ := List.getElem?_of_mem hq
      exact hPr i q hi
theorem va_D.left {B : Nat → Prop} {w1 w2 : va_W} (h : va_D B (w1 ++ w2)) : va_D B w1 := by
  refine ⟨fun i j x y hx hy hxy => ?_, fun k q hk => ?_⟩
  · have h1 := (List.getElem?_eq_some_iff.mp hx).1
    have h2 := (List.getElem?_eq_some_iff.mp hy).1
    exact h.1 i j x y (by rw [List.getElem?_append_left h1]; exact hx) (by rw [List.getElem?_append_left h2]; exact hy) hxy
  · have h1 := (List.getElem?_eq_some_iff.mp hk).1
    exact h.2 k q (by rw [List.getElem?_append_left h1]; exact hk)
theorem va_D.right {B : Nat → Prop} {w1 w2 : va_W} (h : va_D B (w1 ++ w2)) : va_D B w2 := by
  refine ⟨fun i j x y hx hy hxy => ?_, fun k q hk => ?_⟩
  · have e := h.1 (w1.length + i) (w1.length + j) x y (by rw [List.getElem?_append_right (by omega), Nat.add_sub_cancel_left]; exact hx) (by rw [List.getElem?_append_right (by omega), Nat.add_sub_cancel_left]; exact hy) hxy
    omega
  · exact h.2 (w1.length + k) q (by rw [List.getElem?_append_right (by omega), Nat.add_sub_cancel_left]; exact hk)
theorem va_D.flip {B : Nat → Prop} {w1 w2 : va_W} (h : va_D B (w1 ++ w2)) : va_D B (w2 ++ w1) := by
  refine va_D.app h.right h.left (fun i j x y hx hy hxy => ?_)
  have h1 := (List.getElem?_eq_some_iff.mp hy).1
  have e := h.1 (w1.length + i) j x y (by rw [List.getElem?_append_right (by omega), Nat.add_sub_cancel_left]; exact hx) (by rw [List.getElem?_append_left h1]; exact hy) hxy
  omega
theorem va_D.cross {B : Nat → Prop} {w1 w2 : va_W} (h : va_D B (w1 ++ w2)) : ∀ q ∈ w2, q.1 ∉ w1.map (·.1) := by
  intro q hq hm
  obtain ⟨x, hx, hxq⟩ := List.mem_map.mp hm
  obtain ⟨i, hi⟩ := List.getElem?_of_mem hq
  obtain ⟨j, hj⟩ := List.getElem?_of_mem hx
  have h1 := (List.getElem?_eq_some_iff.mp hj).1
  have e := h.1 (w1.length + i) j q x (by rw [List.getElem?_append_right (by omega), Nat.add_sub_cancel_left]; exact hi) (by rw [List.getElem?_append_left h1]; exact hj) hxq.symm
  omega
theorem va_D.cross' {B : Nat → Prop} {w1 w2 : va_W} (h : va_D B (w1 ++ w2)) : ∀ q ∈ w1, q.1 ∉ w2.map (·.1) := h.flip.cross
/-- the frame rule where the addresses' being apart is taken from the start itself -/
theorem CT.frameD {l : Launch} {y : MethodName} {cc : ByteArray} {nL : Nat} {ret : Option FieldType} {rm : Room} {G : XG} {av : List Value} {w : va_W} {post' : Option Value → va_W → Prop} (h : va_D (fun _ => True) w → CT l y cc nL ret rm G av w post') : CT l y cc nL ret rm G av w post' := by
  intro sz p e ha hc hk s m args below hf happ hP hK
  exact h hP.2.2.2.1 sz p e ha hc hk s m args below hf happ hP hK
theorem CT.left {l : Launch} {y : MethodName} {cc : ByteArray} {nL : Nat} {ret : Option FieldType} {rm : Room} {G : XG} {av : List Value} {w0 wr : va_W} {post : Option Value → va_W → Prop} (h : CT l y cc nL ret rm G av w0 post) : CT l y cc nL ret rm G av (w0 ++ wr) (fun v w' => ∃ w0', post v w0' ∧ w' = w0' ++ wr) := by
  refine CT.frameD (fun hD => CT.frame h (fun q hq => List.mem_append_left _ hq) (fun B hB => hB.left) (fun v w0' hp => ⟨w0' ++ wr, wr, ⟨w0', hp, rfl⟩, fun q hq => List.mem_append.mp hq, fun q hq => ⟨List.mem_append_right _ hq, hD.cross q hq⟩, fun B hB => hB.right, fun B hB => hB.flip⟩))
theorem CT.right {l : Launch} {y : MethodName} {cc : ByteArray} {nL : Nat} {ret : Option FieldType} {rm : Room} {G : XG} {av : List Value} {w0 wr : va_W} {post : Option Value → va_W → Prop} (h : CT l y cc nL ret rm G av w0 post) : CT l y cc nL ret rm G av (wr ++ w0) (fun v w' => ∃ w0', post v w0' ∧ w' = wr ++ w0') := by
  refine CT.frameD (fun hD => CT.frame h (fun q hq => List.mem_append_right _ hq) (fun B hB => hB.right) (fun v w0' hp => ⟨wr ++ w0', wr, ⟨w0', hp, rfl⟩, fun q hq => (List.mem_append.mp hq).symm, fun q hq => ⟨List.mem_append_left _ hq, hD.cross' q hq⟩, fun B hB => hB.left, fun B hB => hB⟩))
theorem va_D.mid {B : Nat → Prop} {u v : va_W} {x : Nat × va_E} (h : va_D B (u ++ x :: v)) : va_D B (u ++ v) := by
  refine va_D.app h.left (va_D.right (w1 := [x]) h.right) (fun i j p q hp hq hpq => ?_)
  exact h.cross' p (List.mem_of_getElem? hp) (List.mem_map.mpr ⟨q, List.mem_cons_of_mem _ (List.mem_of_getElem? hq), hpq.symm⟩)
theorem va_D.put {B : Nat → Prop} {u v : va_W} {x : Nat × va_E} (h : va_D B ((u ++ v) ++ [x])) : va_D B (u ++ x :: v) := by
  have hx := h.cross
  refine va_D.app h.left.left (va_D.app (w1 := [x]) h.right h.left.right (fun i j p q hp hq hpq => ?_)) (fun i j p q hp hq hpq => ?_)
  · have hp1 := List.mem_of_getElem? hp
    exact hx p hp1 (List.mem_map.mpr ⟨q, List.mem_append_right _ (List.mem_of_getElem? hq), hpq.symm⟩)
  · rcases List.mem_cons.mp (List.mem_of_getElem? hq) with h1 | h1
    · subst h1
      exact hx q (List.mem_singleton.mpr rfl) (List.mem_map.mpr ⟨p, List.mem_append_left _ (List.mem_of_getElem? hp), hpq⟩)
    · exact h.left.cross q h1 (List.mem_map.mpr ⟨p, List.mem_of_getElem? hp, hpq⟩)
/-- one cell of the world, at place i -/
theorem CT.one {l : Launch} {y : MethodName} {cc : ByteArray} {nL : Nat} {ret : Option FieldType} {rm : Room} {G : XG} {av : List Value} {w : va_W} {a : Nat} {e0 : va_E} {post : Option Value → va_E → Prop} (i : Nat) (hi : w[i]? = some (a, e0)) (h : CT l y cc nL ret rm G av [(a, e0)] (fun v w' => ∃ e1, post v e1 ∧ w' = [(a, e1)])) : CT l y cc nL ret rm G av w (fun v w' => ∃ e1, post v e1 ∧ w' = w.set i (a, e1)) := by
  have hl := (List.getElem?_eq_some_iff.mp hi).1
  have hg : w[i] = (a, e0) := (List.getElem?_eq_some_iff.mp hi).2
  have hw : ∃ u v : va_W, w = u ++ (a, e0) :: v ∧ u.length = i := ⟨w.take i, w.drop (i + 1), by rw [← hg, List.getElem_cons_drop, List.take_append_drop], by rw [List.length_take]; omega⟩
  clear hg hl
  obtain ⟨u, v, rfl, rfl⟩ := hw
  refine CT.frameD (fun hD => CT.frame h (fun q hq => ?_) (fun B hB => ?_) (fun z w0' hp => ?_))
  · rw [List.mem_singleton.mp hq]; exact List.mem_append_right _ List.mem_cons_self
  · exact va_D.left (w2 := v) (w1 := [(a, e0)]) hB.right
  · obtain ⟨e1, hp, rfl⟩ := hp
    have hset : (u ++ (a, e0) :: v).set u.length (a, e1) = u ++ (a, e1) :: v := by
      rw [List.set_append_right _ _ (Nat.le_refl _), Nat.sub_self, List.set_cons_zero]
    refine ⟨_, u ++ v, ⟨e1, hp, rfl⟩, fun q hq => ?_, fun q hq => ⟨?_, ?_⟩, fun B hB => hB.mid, fun B hB => ?_⟩
    · rw [hset] at hq
      rcases List.mem_append.mp hq with hq | hq
      · exact Or.inr (List.mem_append_left _ hq)
      · rcases List.mem_cons.mp hq with hq | hq
        · exact Or.inl (List.mem_singleton.mpr hq)
        · exact Or.inr (List.mem_append_right _ hq)
    · rcases List.mem_append.mp hq with hq | hq
      · exact List.mem_append_left _ hq
      · exact List.mem_append_right _ (List.mem_cons_of_mem _ hq)
    · intro hm
      obtain ⟨x, hx, hxq⟩ := List.mem_map.mp hm
      rw [List.mem_singleton.mp hx] at hxq
      rcases List.mem_append.mp hq with hq | hq
      · exact hD.cross' q hq (List.mem_map.mpr ⟨(a, e0), List.mem_cons_self, hxq⟩)
      · exact va_D.cross (w1 := [(a, e0)]) hD.right q hq (List.mem_map.mpr ⟨(a, e0), List.mem_singleton.mpr rfl, hxq⟩)
    · rw [hset]
      exact hB.put
theorem nI_mul (a b : Nat) : nI a * nI b = nI (a * b) := (Int32.ofNat_mul a b).symm
theorem nI_sub {a b : Nat} (h : b ≤ a) : nI a - nI b = nI (a - b) := by
  have e := nI_add (a - b) b
  rw [Nat.sub_add_cancel h] at e
  rw [← e]
  apply Int32.toBitVec_inj.mp
  simp
theorem nI_div {a b : Nat} (ha : a < 2147483648) (hb : b < 2147483648) : nI a / nI b = nI (a / b) := by
  apply Int32.toInt_inj.mp
  have h1 : a / b ≤ a := Nat.div_le_self a b
  have h3 : Int32.minValue.toInt = -2147483648 := by decide
  rw [Int32.toInt_div_of_ne_left, nI_toInt (by omega), nI_toInt (by omega), nI_toInt (by omega)]
  · rw [Int.tdiv_eq_ediv_of_nonneg (by omega)]
    omega
  · intro h
    have h2 := congrArg Int32.toInt h
    rw [nI_toInt (by omega)] at h2
    omega
theorem nI_rem {a b : Nat} (ha : a < 2147483648) (hb : b < 2147483648) : nI a - nI a / nI b * nI b = nI (a % b) := by
  rw [nI_div ha hb, nI_mul, nI_sub (Nat.div_mul_le_self a b)]
  congr 1
  have := Nat.div_add_mod a b
  rw [Nat.mul_comm] at this
  omega
theorem nI_eq0 {a : Nat} (ha : a < 2147483648) : nI a = 0 ↔ a = 0 := by rw [← nI_0]; exact nI_eq ha (by omega)
/-- a truth as an int -/
def bI (b : Bool) : Int32 := if b = true then 1 else 0
theorem bI_t : bI true = 1 := rfl
theorem bI_f : bI false = 0 := rfl
theorem bI_eq0 {b : Bool} : bI b = 0 ↔ b = false := by cases b <;> decide
theorem bI_ne0 {b : Bool} : ¬ bI b = 0 ↔ b = true := by cases b <;> decide
theorem bI_inj {a b : Bool} (h : bI a = bI b) : a = b := by cases a <;> cases b <;> first | rfl | exact absurd h (by decide)
theorem bI_narrow (b : Bool) : narrow .boolean (.int (bI b)) = .int (bI b) := by cases b <;> rfl
/-- posts of methods that answer a number and leave a known world -/
def pI (r : Int32) (w : va_W) : Option Value → va_W → Prop := fun v w' => v = some (.int r) ∧ w' = w
def pL (r : Int64) (w : va_W) : Option Value → va_W → Prop := fun v w' => v = some (.long r) ∧ w' = w
def pV (w : va_W) : Option Value → va_W → Prop := fun v w' => v = none ∧ w' = w
section XJ
variable {E : XE} {l : Launch} {R : Room} {cc : ByteArray} {nL : Nat} {ret : Option FieldType} {own : String} {G : XG} {A : Nat → Prop} {mc ms : Nat} {post : Option Value → va_W → Prop} {kc ks : Nat} {w : va_W} {pc : Nat} {lv : List (Nat × Value)} {st : List Value}
theorem x_iconst {n : Int} (v : Int32) (hd : decode cc pc = .ok (.iconst n, 1)) (hv : Int32.ofInt n = v) (k1 : xj E l R cc nL ret own G A mc ms post kc ks w (pc + 1) (lv) (.int v :: st)) : xj E l R cc nL ret own G A mc ms post kc ks w (pc) (lv) (st) :=
  fun cx hA H locs ls hP hD hS hl => lv_iconst cx.1 cx.2.1 hd hv (k1 cx hA H locs ls hP hD hS hl)
theorem x_bipush {n : Int} (v : Int32) (hd : decode cc pc = .ok (.bipush n, 2)) (hv : (Int8.ofInt n).toInt32 = v) (k1 : xj E l R cc nL ret own G A mc ms post kc ks w (pc + 2) (lv) (.int v :: st)) : xj E l R cc nL ret own G A mc ms post kc ks w (pc) (lv) (st) :=
  fun cx hA H locs ls hP hD hS hl => lv_bipush cx.1 cx.2.1 hd hv (k1 cx hA H locs ls hP hD hS hl)
theorem x_sipush {n : Int} (v : Int32) (hd : decode cc pc = .ok (.sipush n, 3)) (hv : (Int16.ofInt n).toInt32 = v) (k1 : xj E l R cc nL ret own G A mc ms post kc ks w (pc + 3) (lv) (.int v :: st)) : xj E l R cc nL ret own G A mc ms post kc ks w (pc) (lv) (st) :=
  fun cx hA H locs ls hP hD hS hl => lv_sipush cx.1 cx.2.1 hd hv (k1 cx hA H locs ls hP hD hS hl)
theorem x_lconst {n : Fin 2} (v : Int64) (hd : decode cc pc = .ok (.lconst n, 1)) (hv : Int64.ofNat (n : Nat) = v) (k1 : xj E l R cc nL ret own G A mc ms post kc ks w (pc + 1) (lv) (.long v :: st)) : xj E l R cc nL ret own G A mc ms post kc ks w (pc) (lv) (st) :=
  fun cx hA H locs ls hP hD hS hl => lv_lconst cx.1 cx.2.1 hd hv (k1 cx hA H locs ls hP hD hS hl)
theorem x_iload_n {k : Fin 4} {x : Int32} (hd : decode cc pc = .ok (.iload_n k, 1)) (j : Nat) (hj : lv[j]? = some (k.val, .int x)) (k1 : xj E l R cc nL ret own G A mc ms post kc ks w (pc + 1) (lv) (.int x :: st)) : xj E l R cc nL ret own G A mc ms post kc ks w (pc) (lv) (st) :=
  fun cx hA H locs ls hP hD hS hl => lv_iload_n cx.1 cx.2.1 hd rfl (lv_at hl j hj) (k1 cx hA H locs ls hP hD hS hl)
theorem x_iload {i : Nat} {x : Int32} (hd : decode cc pc = .ok (.iload i, 2)) (j : Nat) (hj : lv[j]? = some (i, .int x)) (k1 : xj E l R cc nL ret own G A mc ms post kc ks w (pc + 2) (lv) (.int x :: st)) : xj E l R cc nL ret own G A mc ms post kc ks w (pc) (lv) (st) :=
  fun cx hA H locs ls hP hD hS hl => lv_iload cx.1 cx.2.1 hd (lv_at hl j hj) (k1 cx hA H locs ls hP hD hS hl)
theorem x_istore_n {k : Fin 4} {x : Int32} (hd : decode cc pc = .ok (.istore_n k, 1)) {i : Nat} (hi : k.val = i) (hn : i < nL) (lw : List (Nat × Value)) (hw : (i, Value.int x) :: lv.filter (fun q => !(q.1 == i) && !(q.1 + 1 == i && q.2.category == 2)) = lw) (k1 : xj E l R cc nL ret own G A mc ms post kc ks w (pc + 1) (lw) (st)) : xj E l R cc nL ret own G A mc ms post kc ks w (pc) (lv) (.int x :: st) :=
  fun cx hA H locs ls hP hD hS hl => lv_istore_n cx.1 cx.2.1 hd hi hl hn hw (fun ls2 hls => k1 cx hA H locs ls2 hP hD hS hls)
theorem x_istore {x : Int32} {i : Nat} (hd : decode cc pc = .ok (.istore i, 2)) (hn : i < nL) (lw : List (Nat × Value)) (hw : (i, Value.int x) :: lv.filter (fun q => !(q.1 == i) && !(q.1 + 1 == i && q.2.category == 2)) = lw) (k1 : xj E l R cc nL ret own G A mc ms post kc ks w (pc + 2) (lw) (st)) : xj E l R cc nL ret own G A mc ms post kc ks w (pc) (lv) (.int x :: st) :=
  fun cx hA H locs ls hP hD hS hl => lv_istore cx.1 cx.2.1 hd hl hn hw (fun ls2 hls => k1 cx hA H locs ls2 hP hD hS hls)
theorem x_lload_n {k : Fin 4} {x : Int64} (hd : decode cc pc = .ok (.lload_n k, 1)) (j : Nat) (hj : lv[j]? = some (k.val, .long x)) (k1 : xj E l R cc nL ret own G A mc ms post kc ks w (pc + 1) (lv) (.long x :: st)) : xj E l R cc nL ret own G A mc ms post kc ks w (pc) (lv) (st) :=
  fun cx hA H locs ls hP hD hS hl => lv_lload_n cx.1 cx.2.1 hd rfl (lv_at hl j hj) (k1 cx hA H locs ls hP hD hS hl)
theorem x_lload {i : Nat} {x : Int64} (hd : decode cc pc = .ok (.lload i, 2)) (j : Nat) (hj : lv[j]? = some (i, .long x)) (k1 : xj E l R cc nL ret own G A mc ms post kc ks w (pc + 2) (lv) (.long x :: st)) : xj E l R cc nL ret own G A mc ms post kc ks w (pc) (lv) (st) :=
  fun cx hA H locs ls hP hD hS hl => lv_lload cx.1 cx.2.1 hd (lv_at hl j hj) (k1 cx hA H locs ls hP hD hS hl)
theorem x_lstore_n {k : Fin 4} {x : Int64} (hd : decode cc pc = .ok (.lstore_n k, 1)) {i : Nat} (hi : k.val = i) (hn : i + 1 < nL) (lw : List (Nat × Value)) (hw : (i, Value.long x) :: lv.filter (fun q => !(q.1 == i) && (!(q.1 == i + 1) && !(q.1 + 1 == i && q.2.category == 2))) = lw) (k1 : xj E l R cc nL ret own G A mc ms post kc ks w (pc + 1) (lw) (st)) : xj E l R cc nL ret own G A mc ms post kc ks w (pc) (lv) (.long x :: st) :=
  fun cx hA H locs ls hP hD hS hl => lv_lstore_n cx.1 cx.2.1 hd hi hl hn hw (fun ls2 hls => k1 cx hA H locs ls2 hP hD hS hls)
theorem x_lstore {x : Int64} {i : Nat} (hd : decode cc pc = .ok (.lstore i, 2)) (hn : i + 1 < nL) (lw : List (Nat × Value)) (hw : (i, Value.long x) :: lv.filter (fun q => !(q.1 == i) && (!(q.1 == i + 1) && !(q.1 + 1 == i && q.2.category == 2))) = lw) (k1 : xj E l R cc nL ret own G A mc ms post kc ks w (pc + 2) (lw) (st)) : xj E l R cc nL ret own G A mc ms post kc ks w (pc) (lv) (.long x :: st) :=
  fun cx hA H locs ls hP hD hS hl => lv_lstore cx.1 cx.2.1 hd hl hn hw (fun ls2 hls => k1 cx hA H locs ls2 hP hD hS hls)
theorem x_aload_n {k : Fin 4} {x : Nat} (hd : decode cc pc = .ok (.aload_n k, 1)) (j : Nat) (hj : lv[j]? = some (k.val, .ref x)) (k1 : xj E l R cc nL ret own G A mc ms post kc ks w (pc + 1) (lv) (.ref x :: st)) : xj E l R cc nL ret own G A mc ms post kc ks w (pc) (lv) (st) :=
  fun cx hA H locs ls hP hD hS hl => lv_aload_n cx.1 cx.2.1 hd rfl (lv_at hl j hj) (k1 cx hA H locs ls hP hD hS hl)
theorem x_aload {i : Nat} {x : Nat} (hd : decode cc pc = .ok (.aload i, 2)) (j : Nat) (hj : lv[j]? = some (i, .ref x)) (k1 : xj E l R cc nL ret own G A mc ms post kc ks w (pc + 2) (lv) (.ref x :: st)) : xj E l R cc nL ret own G A mc ms post kc ks w (pc) (lv) (st) :=
  fun cx hA H locs ls hP hD hS hl => lv_aload cx.1 cx.2.1 hd (lv_at hl j hj) (k1 cx hA H locs ls hP hD hS hl)
theorem x_astore_n {k : Fin 4} {x : Nat} (hd : decode cc pc = .ok (.astore_n k, 1)) {i : Nat} (hi : k.val = i) (hn : i < nL) (lw : List (Nat × Value)) (hw : (i, Value.ref x) :: lv.filter (fun q => !(q.1 == i) && !(q.1 + 1 == i && q.2.category == 2)) = lw) (k1 : xj E l R cc nL ret own G A mc ms post kc ks w (pc + 1) (lw) (st)) : xj E l R cc nL ret own G A mc ms post kc ks w (pc) (lv) (.ref x :: st) :=
  fun cx hA H locs ls hP hD hS hl => lv_astore_n cx.1 cx.2.1 hd hi hl hn hw (fun ls2 hls => k1 cx hA H locs ls2 hP hD hS hls)
theorem x_astore {x : Nat} {i : Nat} (hd : decode cc pc = .ok (.astore i, 2)) (hn : i < nL) (lw : List (Nat × Value)) (hw : (i, Value.ref x) :: lv.filter (fun q => !(q.1 == i) && !(q.1 + 1 == i && q.2.category == 2)) = lw) (k1 : xj E l R cc nL ret own G A mc ms post kc ks w (pc + 2) (lw) (st)) : xj E l R cc nL ret own G A mc ms post kc ks w (pc) (lv) (.ref x :: st) :=
  fun cx hA H locs ls hP hD hS hl => lv_astore cx.1 cx.2.1 hd hl hn hw (fun ls2 hls => k1 cx hA H locs ls2 hP hD hS hls)
theorem x_iinc {i : Nat} {n : Int} {x : Int32} (hd : decode cc pc = .ok (.iinc i n, 3)) (j : Nat) (hj : lv[j]? = some (i, .int x)) (v : Int32) (hv : x + Int32.ofInt n = v) (hn : i < nL) (lw : List (Nat × Value)) (hw : (i, Value.int v) :: lv.filter (fun q => !(q.1 == i) && !(q.1 + 1 == i && q.2.category == 2)) = lw) (k1 : xj E l R cc nL ret own G A mc ms post kc ks w (pc + 3) (lw) (st)) : xj E l R cc nL ret own G A mc ms post kc ks w (pc) (lv) (st) :=
  fun cx hA H locs ls hP hD hS hl => lv_iinc cx.1 cx.2.1 hd hl hj hv hn hw (fun ls2 hls => k1 cx hA H locs ls2 hP hD hS hls)
theorem x_iincN {i a : Nat} (hd : decode cc pc = .ok (.iinc i 1, 3)) (j : Nat) (hj : lv[j]? = some (i, .int (nI a))) (hn : i < nL) (lw : List (Nat × Value)) (hw : (i, Value.int (nI (a + 1))) :: lv.filter (fun q => !(q.1 == i) && !(q.1 + 1 == i && q.2.category == 2)) = lw) (k1 : xj E l R cc nL ret own G A mc ms post kc ks w (pc + 3) (lw) (st)) : xj E l R cc nL ret own G A mc ms post kc ks w (pc) (lv) (st) :=
  x_iinc hd j hj (nI (a + 1)) (nI_1 a) hn lw hw k1
theorem x_iadd {x y : Int32} (hd : decode cc pc = .ok (.iadd, 1))  (k1 : xj E l R cc nL ret own G A mc ms post kc ks w (pc + 1) (lv) (.int (x + y) :: st)) : xj E l R cc nL ret own G A mc ms post kc ks w (pc) (lv) (.int y :: .int x :: st) :=
  fun cx hA H locs ls hP hD hS hl => lv_iadd cx.1 cx.2.1 hd  (k1 cx hA H locs ls hP hD hS hl)
theorem x_isub {x y : Int32} (hd : decode cc pc = .ok (.isub, 1))  (k1 : xj E l R cc nL ret own G A mc ms post kc ks w (pc + 1) (lv) (.int (x - y) :: st)) : xj E l R cc nL ret own G A mc ms post kc ks w (pc) (lv) (.int y :: .int x :: st) :=
  fun cx hA H locs ls hP hD hS hl => lv_isub cx.1 cx.2.1 hd  (k1 cx hA H locs ls hP hD hS hl)
theorem x_imul {x y : Int32} (hd : decode cc pc = .ok (.imul, 1))  (k1 : xj E l R cc nL ret own G A mc ms post kc ks w (pc + 1) (lv) (.int (x * y) :: st)) : xj E l R cc nL ret own G A mc ms post kc ks w (pc) (lv) (.int y :: .int x :: st) :=
  fun cx hA H locs ls hP hD hS hl => lv_imul cx.1 cx.2.1 hd  (k1 cx hA H locs ls hP hD hS hl)
theorem x_iand {x y : Int32} (hd : decode cc pc = .ok (.iand, 1))  (k1 : xj E l R cc nL ret own G A mc ms post kc ks w (pc + 1) (lv) (.int (x &&& y) :: st)) : xj E l R cc nL ret own G A mc ms post kc ks w (pc) (lv) (.int y :: .int x :: st) :=
  fun cx hA H locs ls hP hD hS hl => lv_iand cx.1 cx.2.1 hd  (k1 cx hA H locs ls hP hD hS hl)
theorem x_ior {x y : Int32} (hd : decode cc pc = .ok (.ior, 1))  (k1 : xj E l R cc nL ret own G A mc ms post kc ks w (pc + 1) (lv) (.int (x ||| y) :: st)) : xj E l R cc nL ret own G A mc ms post kc ks w (pc) (lv) (.int y :: .int x :: st) :=
  fun cx hA H locs ls hP hD hS hl => lv_ior cx.1 cx.2.1 hd  (k1 cx hA H locs ls hP hD hS hl)
theorem x_ixor {x y : Int32} (hd : decode cc pc = .ok (.ixor, 1))  (k1 : xj E l R cc nL ret own G A mc ms post kc ks w (pc + 1) (lv) (.int (x ^^^ y) :: st)) : xj E l R cc nL ret own G A mc ms post kc ks w (pc) (lv) (.int y :: .int x :: st) :=
  fun cx hA H locs ls hP hD hS hl => lv_ixor cx.1 cx.2.1 hd  (k1 cx hA H locs ls hP hD hS hl)
theorem x_ishl {x y : Int32} (hd : decode cc pc = .ok (.ishl, 1))  (k1 : xj E l R cc nL ret own G A mc ms post kc ks w (pc + 1) (lv) (.int (x <<< (y &&& 31)) :: st)) : xj E l R cc nL ret own G A mc ms post kc ks w (pc) (lv) (.int y :: .int x :: st) :=
  fun cx hA H locs ls hP hD hS hl => lv_ishl cx.1 cx.2.1 hd  (k1 cx hA H locs ls hP hD hS hl)
theorem x_ishr {x y : Int32} (hd : decode cc pc = .ok (.ishr, 1))  (k1 : xj E l R cc nL ret own G A mc ms post kc ks w (pc + 1) (lv) (.int (x >>> (y &&& 31)) :: st)) : xj E l R cc nL ret own G A mc ms post kc ks w (pc) (lv) (.int y :: .int x :: st) :=
  fun cx hA H locs ls hP hD hS hl => lv_ishr cx.1 cx.2.1 hd  (k1 cx hA H locs ls hP hD hS hl)
theorem x_ladd {x y : Int64} (hd : decode cc pc = .ok (.ladd, 1))  (k1 : xj E l R cc nL ret own G A mc ms post kc ks w (pc + 1) (lv) (.long (x + y) :: st)) : xj E l R cc nL ret own G A mc ms post kc ks w (pc) (lv) (.long y :: .long x :: st) :=
  fun cx hA H locs ls hP hD hS hl => lv_ladd cx.1 cx.2.1 hd  (k1 cx hA H locs ls hP hD hS hl)
theorem x_lsub {x y : Int64} (hd : decode cc pc = .ok (.lsub, 1))  (k1 : xj E l R cc nL ret own G A mc ms post kc ks w (pc + 1) (lv) (.long (x - y) :: st)) : xj E l R cc nL ret own G A mc ms post kc ks w (pc) (lv) (.long y :: .long x :: st) :=
  fun cx hA H locs ls hP hD hS hl => lv_lsub cx.1 cx.2.1 hd  (k1 cx hA H locs ls hP hD hS hl)
theorem x_lmul {x y : Int64} (hd : decode cc pc = .ok (.lmul, 1))  (k1 : xj E l R cc nL ret own G A mc ms post kc ks w (pc + 1) (lv) (.long (x * y) :: st)) : xj E l R cc nL ret own G A mc ms post kc ks w (pc) (lv) (.long y :: .long x :: st) :=
  fun cx hA H locs ls hP hD hS hl => lv_lmul cx.1 cx.2.1 hd  (k1 cx hA H locs ls hP hD hS hl)
theorem x_land {x y : Int64} (hd : decode cc pc = .ok (.land, 1))  (k1 : xj E l R cc nL ret own G A mc ms post kc ks w (pc + 1) (lv) (.long (x &&& y) :: st)) : xj E l R cc nL ret own G A mc ms post kc ks w (pc) (lv) (.long y :: .long x :: st) :=
  fun cx hA H locs ls hP hD hS hl => lv_land cx.1 cx.2.1 hd  (k1 cx hA H locs ls hP hD hS hl)
theorem x_lor {x y : Int64} (hd : decode cc pc = .ok (.lor, 1))  (k1 : xj E l R cc nL ret own G A mc ms post kc ks w (pc + 1) (lv) (.long (x ||| y) :: st)) : xj E l R cc nL ret own G A mc ms post kc ks w (pc) (lv) (.long y :: .long x :: st) :=
  fun cx hA H locs ls hP hD hS hl => lv_lor cx.1 cx.2.1 hd  (k1 cx hA H locs ls hP hD hS hl)
theorem x_lxor {x y : Int64} (hd : decode cc pc = .ok (.lxor, 1))  (k1 : xj E l R cc nL ret own G A mc ms post kc ks w (pc + 1) (lv) (.long (x ^^^ y) :: st)) : xj E l R cc nL ret own G A mc ms post kc ks w (pc) (lv) (.long y :: .long x :: st) :=
  fun cx hA H locs ls hP hD hS hl => lv_lxor cx.1 cx.2.1 hd  (k1 cx hA H locs ls hP hD hS hl)
theorem x_idiv {x y : Int32} (hd : decode cc pc = .ok (.idiv, 1)) (hy : ¬ y = 0) (k1 : xj E l R cc nL ret own G A mc ms post kc ks w (pc + 1) (lv) (.int (x / y) :: st)) : xj E l R cc nL ret own G A mc ms post kc ks w (pc) (lv) (.int y :: .int x :: st) :=
  fun cx hA H locs ls hP hD hS hl => lv_idiv cx.1 cx.2.1 hd hy (k1 cx hA H locs ls hP hD hS hl)
theorem x_irem {x y : Int32} (hd : decode cc pc = .ok (.irem, 1)) (hy : ¬ y = 0) (k1 : xj E l R cc nL ret own G A mc ms post kc ks w (pc + 1) (lv) (.int (x - x / y * y) :: st)) : xj E l R cc nL ret own G A mc ms post kc ks w (pc) (lv) (.int y :: .int x :: st) :=
  fun cx hA H locs ls hP hD hS hl => lv_irem cx.1 cx.2.1 hd hy (k1 cx hA H locs ls hP hD hS hl)
theorem x_ineg {x : Int32} (hd : decode cc pc = .ok (.ineg, 1))  (k1 : xj E l R cc nL ret own G A mc ms post kc ks w (pc + 1) (lv) (.int (-x) :: st)) : xj E l R cc nL ret own G A mc ms post kc ks w (pc) (lv) (.int x :: st) :=
  fun cx hA H locs ls hP hD hS hl => lv_ineg cx.1 cx.2.1 hd  (k1 cx hA H locs ls hP hD hS hl)
theorem x_iushr {x y : Int32} (hd : decode cc pc = .ok (.iushr, 1))  (k1 : xj E l R cc nL ret own G A mc ms post kc ks w (pc + 1) (lv) (.int ((x.toUInt32 >>> (y.toUInt32 &&& Int32.toUInt32 31)).toInt32) :: st)) : xj E l R cc nL ret own G A mc ms post kc ks w (pc) (lv) (.int y :: .int x :: st) :=
  fun cx hA H locs ls hP hD hS hl => lv_iushr cx.1 cx.2.1 hd rfl (k1 cx hA H locs ls hP hD hS hl)
theorem x_lushr {x : Int64} {y : Int32} (hd : decode cc pc = .ok (.lushr, 1))  (k1 : xj E l R cc nL ret own G A mc ms post kc ks w (pc + 1) (lv) (.long ((x.toUInt64 >>> (y.toInt64.toUInt64 &&& Int64.toUInt64 63)).toInt64) :: st)) : xj E l R cc nL ret own G A mc ms post kc ks w (pc) (lv) (.int y :: .long x :: st) :=
  fun cx hA H locs ls hP hD hS hl => lv_lushr cx.1 cx.2.1 hd rfl (k1 cx hA H locs ls hP hD hS hl)
theorem x_lshl {x : Int64} {y : Int32} (hd : decode cc pc = .ok (.lshl, 1))  (k1 : xj E l R cc nL ret own G A mc ms post kc ks w (pc + 1) (lv) (.long (x <<< (y.toInt64 &&& 63)) :: st)) : xj E l R cc nL ret own G A mc ms post kc ks w (pc) (lv) (.int y :: .long x :: st) :=
  fun cx hA H locs ls hP hD hS hl => lv_lshl cx.1 cx.2.1 hd rfl (k1 cx hA H locs ls hP hD hS hl)
theorem x_lshr {x : Int64} {y : Int32} (hd : decode cc pc = .ok (.lshr, 1))  (k1 : xj E l R cc nL ret own G A mc ms post kc ks w (pc + 1) (lv) (.long (x >>> (y.toInt64 &&& 63)) :: st)) : xj E l R cc nL ret own G A mc ms post kc ks w (pc) (lv) (.int y :: .long x :: st) :=
  fun cx hA H locs ls hP hD hS hl => lv_lshr cx.1 cx.2.1 hd rfl (k1 cx hA H locs ls hP hD hS hl)
theorem x_i2l {x : Int32} (hd : decode cc pc = .ok (.i2l, 1))  (k1 : xj E l R cc nL ret own G A mc ms post kc ks w (pc + 1) (lv) (.long x.toInt64 :: st)) : xj E l R cc nL ret own G A mc ms post kc ks w (pc) (lv) (.int x :: st) :=
  fun cx hA H locs ls hP hD hS hl => lv_i2l cx.1 cx.2.1 hd rfl (k1 cx hA H locs ls hP hD hS hl)
theorem x_l2i {x : Int64} (hd : decode cc pc = .ok (.l2i, 1))  (k1 : xj E l R cc nL ret own G A mc ms post kc ks w (pc + 1) (lv) (.int x.toInt32 :: st)) : xj E l R cc nL ret own G A mc ms post kc ks w (pc) (lv) (.long x :: st) :=
  fun cx hA H locs ls hP hD hS hl => lv_l2i cx.1 cx.2.1 hd rfl (k1 cx hA H locs ls hP hD hS hl)
theorem x_lcmp {x y : Int64} (hd : decode cc pc = .ok (.lcmp, 1))  (k1 : xj E l R cc nL ret own G A mc ms post kc ks w (pc + 1) (lv) (.int (lg_cmp x y) :: st)) : xj E l R cc nL ret own G A mc ms post kc ks w (pc) (lv) (.long y :: .long x :: st) :=
  fun cx hA H locs ls hP hD hS hl => W.lcmp cx.1 cx.2.1 hd  (k1 cx hA H locs ls hP hD hS hl)
theorem x_dup {a : Value} (hd : decode cc pc = .ok (.dup, 1)) (ha : a.category = 1) (k1 : xj E l R cc nL ret own G A mc ms post kc ks w (pc + 1) (lv) (a :: a :: st)) : xj E l R cc nL ret own G A mc ms post kc ks w (pc) (lv) (a :: st) :=
  fun cx hA H locs ls hP hD hS hl => lv_dup cx.1 cx.2.1 hd ha (k1 cx hA H locs ls hP hD hS hl)
theorem x_pop {a : Value} (hd : decode cc pc = .ok (.pop, 1)) (ha : a.category = 1) (k1 : xj E l R cc nL ret own G A mc ms post kc ks w (pc + 1) (lv) (st)) : xj E l R cc nL ret own G A mc ms post kc ks w (pc) (lv) (a :: st) :=
  fun cx hA H locs ls hP hD hS hl => lv_pop cx.1 cx.2.1 hd ha (k1 cx hA H locs ls hP hD hS hl)
theorem x_dup_x1 {a b : Value} (hd : decode cc pc = .ok (.dup_x1, 1)) (ha : a.category = 1) (hb : b.category = 1) (k1 : xj E l R cc nL ret own G A mc ms post kc ks w (pc + 1) (lv) (a :: b :: a :: st)) : xj E l R cc nL ret own G A mc ms post kc ks w (pc) (lv) (a :: b :: st) :=
  fun cx hA H locs ls hP hD hS hl => lv_dup_x1 cx.1 cx.2.1 hd ha hb (k1 cx hA H locs ls hP hD hS hl)
theorem x_dup_x2 {a b d : Value} (hd : decode cc pc = .ok (.dup_x2, 1)) (ha : a.category = 1) (hb : b.category = 1) (hc : d.category = 1) (k1 : xj E l R cc nL ret own G A mc ms post kc ks w (pc + 1) (lv) (a :: b :: d :: a :: st)) : xj E l R cc nL ret own G A mc ms post kc ks w (pc) (lv) (a :: b :: d :: st) :=
  fun cx hA H locs ls hP hD hS hl => lv_dup_x2 cx.1 cx.2.1 hd ha hb hc (k1 cx hA H locs ls hP hD hS hl)
theorem x_dup2 {a b : Value} (hd : decode cc pc = .ok (.dup2, 1)) (ha : a.category = 1) (hb : b.category = 1) (k1 : xj E l R cc nL ret own G A mc ms post kc ks w (pc + 1) (lv) (a :: b :: a :: b :: st)) : xj E l R cc nL ret own G A mc ms post kc ks w (pc) (lv) (a :: b :: st) :=
  fun cx hA H locs ls hP hD hS hl => lv_dup2_11 cx.1 cx.2.1 hd ha hb (k1 cx hA H locs ls hP hD hS hl)
theorem x_dup2L {a : Value} (hd : decode cc pc = .ok (.dup2, 1)) (ha : a.category = 2) (k1 : xj E l R cc nL ret own G A mc ms post kc ks w (pc + 1) (lv) (a :: a :: st)) : xj E l R cc nL ret own G A mc ms post kc ks w (pc) (lv) (a :: st) :=
  fun cx hA H locs ls hP hD hS hl => lv_dup2_2 cx.1 cx.2.1 hd ha (k1 cx hA H locs ls hP hD hS hl)
theorem x_ldc {index : Nat} {v : Int32} (hd : decode cc pc = .ok (.ldc index, 2)) (hm : Cond.constant own index v ∈ big) (k1 : xj E l R cc nL ret own G A mc ms post kc ks w (pc + 2) (lv) (.int v :: st)) : xj E l R cc nL ret own G A mc ms post kc ks w (pc) (lv) (st) :=
  fun cx hA H locs ls hP hD hS hl => lv_ldc cx.1 cx.2.1 cx.2.2.2.2.2.1 (cx.2.2.2.2.2.2.1 _ hm) hd (k1 cx hA H locs ls hP hD hS hl)
theorem x_ldc2 {index : Nat} {v : Int64} (hd : decode cc pc = .ok (.ldc2_w index, 3)) (hm : Cond.constantLong own index v ∈ big) (k1 : xj E l R cc nL ret own G A mc ms post kc ks w (pc + 3) (lv) (.long v :: st)) : xj E l R cc nL ret own G A mc ms post kc ks w (pc) (lv) (st) :=
  fun cx hA H locs ls hP hD hS hl => lv_ldc2 cx.1 cx.2.1 cx.2.2.2.2.2.1 (cx.2.2.2.2.2.2.1 _ hm) hd (k1 cx hA H locs ls hP hD hS hl)
theorem x_icmp_eq {x y : Int32} {off : Int} {tgt : Nat} (hd : decode cc pc = .ok (.if_icmp .eq off, 3)) (ht : (pc : Int) + off = (tgt : Int))  (kt : x = y → xj E l R cc nL ret own G A mc ms post kc ks w (tgt) (lv) (st)) (kf : ¬ x = y → xj E l R cc nL ret own G A mc ms post kc ks w (pc + 3) (lv) (st)) : xj E l R cc nL ret own G A mc ms post kc ks w (pc) (lv) (.int y :: .int x :: st) :=
  fun cx hA H locs ls hP hD hS hl => lv_icmp_eq cx.1 cx.2.1 hd ht (fun q => kt q cx hA H locs ls hP hD hS hl) (fun q => kf q cx hA H locs ls hP hD hS hl)
theorem x_if_eq {x : Int32} {off : Int} {tgt : Nat} (hd : decode cc pc = .ok (.ifCond .eq off, 3)) (ht : (pc : Int) + off = (tgt : Int))  (kt : x = 0 → xj E l R cc nL ret own G A mc ms post kc ks w (tgt) (lv) (st)) (kf : ¬ x = 0 → xj E l R cc nL ret own G A mc ms post kc ks w (pc + 3) (lv) (st)) : xj E l R cc nL ret own G A mc ms post kc ks w (pc) (lv) (.int x :: st) :=
  fun cx hA H locs ls hP hD hS hl => lv_if_eq cx.1 cx.2.1 hd ht (fun q => kt q cx hA H locs ls hP hD hS hl) (fun q => kf q cx hA H locs ls hP hD hS hl)
theorem x_icmp_ne {x y : Int32} {off : Int} {tgt : Nat} (hd : decode cc pc = .ok (.if_icmp .ne off, 3)) (ht : (pc : Int) + off = (tgt : Int))  (kt : ¬ x = y → xj E l R cc nL ret own G A mc ms post kc ks w (tgt) (lv) (st)) (kf : x = y → xj E l R cc nL ret own G A mc ms post kc ks w (pc + 3) (lv) (st)) : xj E l R cc nL ret own G A mc ms post kc ks w (pc) (lv) (.int y :: .int x :: st) :=
  fun cx hA H locs ls hP hD hS hl => lv_icmp_ne cx.1 cx.2.1 hd ht (fun q => kt q cx hA H locs ls hP hD hS hl) (fun q => kf q cx hA H locs ls hP hD hS hl)
theorem x_if_ne {x : Int32} {off : Int} {tgt : Nat} (hd : decode cc pc = .ok (.ifCond .ne off, 3)) (ht : (pc : Int) + off = (tgt : Int))  (kt : ¬ x = 0 → xj E l R cc nL ret own G A mc ms post kc ks w (tgt) (lv) (st)) (kf : x = 0 → xj E l R cc nL ret own G A mc ms post kc ks w (pc + 3) (lv) (st)) : xj E l R cc nL ret own G A mc ms post kc ks w (pc) (lv) (.int x :: st) :=
  fun cx hA H locs ls hP hD hS hl => lv_if_ne cx.1 cx.2.1 hd ht (fun q => kt q cx hA H locs ls hP hD hS hl) (fun q => kf q cx hA H locs ls hP hD hS hl)
theorem x_icmp_lt {x y : Int32} {off : Int} {tgt : Nat} (hd : decode cc pc = .ok (.if_icmp .lt off, 3)) (ht : (pc : Int) + off = (tgt : Int))  (kt : x < y → xj E l R cc nL ret own G A mc ms post kc ks w (tgt) (lv) (st)) (kf : ¬ x < y → xj E l R cc nL ret own G A mc ms post kc ks w (pc + 3) (lv) (st)) : xj E l R cc nL ret own G A mc ms post kc ks w (pc) (lv) (.int y :: .int x :: st) :=
  fun cx hA H locs ls hP hD hS hl => lv_icmp_lt cx.1 cx.2.1 hd ht (fun q => kt q cx hA H locs ls hP hD hS hl) (fun q => kf q cx hA H locs ls hP hD hS hl)
theorem x_if_lt {x : Int32} {off : Int} {tgt : Nat} (hd : decode cc pc = .ok (.ifCond .lt off, 3)) (ht : (pc : Int) + off = (tgt : Int))  (kt : x < 0 → xj E l R cc nL ret own G A mc ms post kc ks w (tgt) (lv) (st)) (kf : ¬ x < 0 → xj E l R cc nL ret own G A mc ms post kc ks w (pc + 3) (lv) (st)) : xj E l R cc nL ret own G A mc ms post kc ks w (pc) (lv) (.int x :: st) :=
  fun cx hA H locs ls hP hD hS hl => lv_if_lt cx.1 cx.2.1 hd ht (fun q => kt q cx hA H locs ls hP hD hS hl) (fun q => kf q cx hA H locs ls hP hD hS hl)
theorem x_icmp_ge {x y : Int32} {off : Int} {tgt : Nat} (hd : decode cc pc = .ok (.if_icmp .ge off, 3)) (ht : (pc : Int) + off = (tgt : Int))  (kt : y ≤ x → xj E l R cc nL ret own G A mc ms post kc ks w (tgt) (lv) (st)) (kf : ¬ y ≤ x → xj E l R cc nL ret own G A mc ms post kc ks w (pc + 3) (lv) (st)) : xj E l R cc nL ret own G A mc ms post kc ks w (pc) (lv) (.int y :: .int x :: st) :=
  fun cx hA H locs ls hP hD hS hl => lv_icmp_ge cx.1 cx.2.1 hd ht (fun q => kt q cx hA H locs ls hP hD hS hl) (fun q => kf q cx hA H locs ls hP hD hS hl)
theorem x_if_ge {x : Int32} {off : Int} {tgt : Nat} (hd : decode cc pc = .ok (.ifCond .ge off, 3)) (ht : (pc : Int) + off = (tgt : Int))  (kt : 0 ≤ x → xj E l R cc nL ret own G A mc ms post kc ks w (tgt) (lv) (st)) (kf : ¬ 0 ≤ x → xj E l R cc nL ret own G A mc ms post kc ks w (pc + 3) (lv) (st)) : xj E l R cc nL ret own G A mc ms post kc ks w (pc) (lv) (.int x :: st) :=
  fun cx hA H locs ls hP hD hS hl => lv_if_ge cx.1 cx.2.1 hd ht (fun q => kt q cx hA H locs ls hP hD hS hl) (fun q => kf q cx hA H locs ls hP hD hS hl)
theorem x_icmp_gt {x y : Int32} {off : Int} {tgt : Nat} (hd : decode cc pc = .ok (.if_icmp .gt off, 3)) (ht : (pc : Int) + off = (tgt : Int))  (kt : y < x → xj E l R cc nL ret own G A mc ms post kc ks w (tgt) (lv) (st)) (kf : ¬ y < x → xj E l R cc nL ret own G A mc ms post kc ks w (pc + 3) (lv) (st)) : xj E l R cc nL ret own G A mc ms post kc ks w (pc) (lv) (.int y :: .int x :: st) :=
  fun cx hA H locs ls hP hD hS hl => lv_icmp_gt cx.1 cx.2.1 hd ht (fun q => kt q cx hA H locs ls hP hD hS hl) (fun q => kf q cx hA H locs ls hP hD hS hl)
theorem x_if_gt {x : Int32} {off : Int} {tgt : Nat} (hd : decode cc pc = .ok (.ifCond .gt off, 3)) (ht : (pc : Int) + off = (tgt : Int))  (kt : 0 < x → xj E l R cc nL ret own G A mc ms post kc ks w (tgt) (lv) (st)) (kf : ¬ 0 < x → xj E l R cc nL ret own G A mc ms post kc ks w (pc + 3) (lv) (st)) : xj E l R cc nL ret own G A mc ms post kc ks w (pc) (lv) (.int x :: st) :=
  fun cx hA H locs ls hP hD hS hl => lv_if_gt cx.1 cx.2.1 hd ht (fun q => kt q cx hA H locs ls hP hD hS hl) (fun q => kf q cx hA H locs ls hP hD hS hl)
theorem x_icmp_le {x y : Int32} {off : Int} {tgt : Nat} (hd : decode cc pc = .ok (.if_icmp .le off, 3)) (ht : (pc : Int) + off = (tgt : Int))  (kt : x ≤ y → xj E l R cc nL ret own G A mc ms post kc ks w (tgt) (lv) (st)) (kf : ¬ x ≤ y → xj E l R cc nL ret own G A mc ms post kc ks w (pc + 3) (lv) (st)) : xj E l R cc nL ret own G A mc ms post kc ks w (pc) (lv) (.int y :: .int x :: st) :=
  fun cx hA H locs ls hP hD hS hl => lv_icmp_le cx.1 cx.2.1 hd ht (fun q => kt q cx hA H locs ls hP hD hS hl) (fun q => kf q cx hA H locs ls hP hD hS hl)
theorem x_if_le {x : Int32} {off : Int} {tgt : Nat} (hd : decode cc pc = .ok (.ifCond .le off, 3)) (ht : (pc : Int) + off = (tgt : Int))  (kt : x ≤ 0 → xj E l R cc nL ret own G A mc ms post kc ks w (tgt) (lv) (st)) (kf : ¬ x ≤ 0 → xj E l R cc nL ret own G A mc ms post kc ks w (pc + 3) (lv) (st)) : xj E l R cc nL ret own G A mc ms post kc ks w (pc) (lv) (.int x :: st) :=
  fun cx hA H locs ls hP hD hS hl => lv_if_le cx.1 cx.2.1 hd ht (fun q => kt q cx hA H locs ls hP hD hS hl) (fun q => kf q cx hA H locs ls hP hD hS hl)
theorem x_goto {off : Int} {tgt : Nat} (hd : decode cc pc = .ok (.goto off, 3)) (ht : (pc : Int) + off = (tgt : Int)) (k1 : xj E l R cc nL ret own G A mc ms post kc ks w (tgt) (lv) (st)) : xj E l R cc nL ret own G A mc ms post kc ks w (pc) (lv) (st) :=
  fun cx hA H locs ls hP hD hS hl => lv_goto cx.1 cx.2.1 hd ht (k1 cx hA H locs ls hP hD hS hl)
theorem x_iaddN {a b : Nat} (hd : decode cc pc = .ok (.iadd, 1))  (k1 : xj E l R cc nL ret own G A mc ms post kc ks w (pc + 1) (lv) (.int (nI (a + b)) :: st)) : xj E l R cc nL ret own G A mc ms post kc ks w (pc) (lv) (.int (nI b) :: .int (nI a) :: st) :=
  x_iadd hd  (by rw [nI_add]; exact k1)
theorem x_imulN {a b : Nat} (hd : decode cc pc = .ok (.imul, 1))  (k1 : xj E l R cc nL ret own G A mc ms post kc ks w (pc + 1) (lv) (.int (nI (a * b)) :: st)) : xj E l R cc nL ret own G A mc ms post kc ks w (pc) (lv) (.int (nI b) :: .int (nI a) :: st) :=
  x_imul hd  (by rw [nI_mul]; exact k1)
theorem x_isubN {a b : Nat} (hd : decode cc pc = .ok (.isub, 1)) (h : b ≤ a) (k1 : xj E l R cc nL ret own G A mc ms post kc ks w (pc + 1) (lv) (.int (nI (a - b)) :: st)) : xj E l R cc nL ret own G A mc ms post kc ks w (pc) (lv) (.int (nI b) :: .int (nI a) :: st) :=
  x_isub hd  (by rw [nI_sub h]; exact k1)
theorem x_idivN {a b : Nat} (hd : decode cc pc = .ok (.idiv, 1)) (h : 0 < b) (ha : a < 2147483648) (hb : b < 2147483648) (k1 : xj E l R cc nL ret own G A mc ms post kc ks w (pc + 1) (lv) (.int (nI (a / b)) :: st)) : xj E l R cc nL ret own G A mc ms post kc ks w (pc) (lv) (.int (nI b) :: .int (nI a) :: st) :=
  x_idiv hd (nI_ne0 h hb) (by rw [nI_div ha hb]; exact k1)
theorem x_iremN {a b : Nat} (hd : decode cc pc = .ok (.irem, 1)) (h : 0 < b) (ha : a < 2147483648) (hb : b < 2147483648) (k1 : xj E l R cc nL ret own G A mc ms post kc ks w (pc + 1) (lv) (.int (nI (a % b)) :: st)) : xj E l R cc nL ret own G A mc ms post kc ks w (pc) (lv) (.int (nI b) :: .int (nI a) :: st) :=
  x_irem hd (nI_ne0 h hb) (by rw [nI_rem ha hb]; exact k1)
theorem x_icmp_eqN {a b : Nat} {off : Int} {tgt : Nat} (hd : decode cc pc = .ok (.if_icmp .eq off, 3)) (ht : (pc : Int) + off = (tgt : Int)) (ha : a < 2147483648) (hb : b < 2147483648) (kt : a = b → xj E l R cc nL ret own G A mc ms post kc ks w (tgt) (lv) (st)) (kf : ¬ a = b → xj E l R cc nL ret own G A mc ms post kc ks w (pc + 3) (lv) (st)) : xj E l R cc nL ret own G A mc ms post kc ks w (pc) (lv) (.int (nI b) :: .int (nI a) :: st) :=
  x_icmp_eq hd ht (fun q => kt ((nI_eq ha hb).mp q)) (fun q => kf (fun z => q ((nI_eq ha hb).mpr z)))
theorem x_icmp_neN {a b : Nat} {off : Int} {tgt : Nat} (hd : decode cc pc = .ok (.if_icmp .ne off, 3)) (ht : (pc : Int) + off = (tgt : Int)) (ha : a < 2147483648) (hb : b < 2147483648) (kt : ¬ a = b → xj E l R cc nL ret own G A mc ms post kc ks w (tgt) (lv) (st)) (kf : a = b → xj E l R cc nL ret own G A mc ms post kc ks w (pc + 3) (lv) (st)) : xj E l R cc nL ret own G A mc ms post kc ks w (pc) (lv) (.int (nI b) :: .int (nI a) :: st) :=
  x_icmp_ne hd ht (fun q => kt (fun z => q ((nI_eq ha hb).mpr z))) (fun q => kf ((nI_eq ha hb).mp q))
theorem x_icmp_ltN {a b : Nat} {off : Int} {tgt : Nat} (hd : decode cc pc = .ok (.if_icmp .lt off, 3)) (ht : (pc : Int) + off = (tgt : Int)) (ha : a < 2147483648) (hb : b < 2147483648) (kt : a < b → xj E l R cc nL ret own G A mc ms post kc ks w (tgt) (lv) (st)) (kf : ¬ a < b → xj E l R cc nL ret own G A mc ms post kc ks w (pc + 3) (lv) (st)) : xj E l R cc nL ret own G A mc ms post kc ks w (pc) (lv) (.int (nI b) :: .int (nI a) :: st) :=
  x_icmp_lt hd ht (fun q => kt ((nI_ltI ha hb).mp q)) (fun q => kf (fun z => q ((nI_ltI ha hb).mpr z)))
theorem x_icmp_geN {a b : Nat} {off : Int} {tgt : Nat} (hd : decode cc pc = .ok (.if_icmp .ge off, 3)) (ht : (pc : Int) + off = (tgt : Int)) (ha : a < 2147483648) (hb : b < 2147483648) (kt : b ≤ a → xj E l R cc nL ret own G A mc ms post kc ks w (tgt) (lv) (st)) (kf : ¬ b ≤ a → xj E l R cc nL ret own G A mc ms post kc ks w (pc + 3) (lv) (st)) : xj E l R cc nL ret own G A mc ms post kc ks w (pc) (lv) (.int (nI b) :: .int (nI a) :: st) :=
  x_icmp_ge hd ht (fun q => kt ((nI_leI hb ha).mp q)) (fun q => kf (fun z => q ((nI_leI hb ha).mpr z)))
theorem x_icmp_gtN {a b : Nat} {off : Int} {tgt : Nat} (hd : decode cc pc = .ok (.if_icmp .gt off, 3)) (ht : (pc : Int) + off = (tgt : Int)) (ha : a < 2147483648) (hb : b < 2147483648) (kt : b < a → xj E l R cc nL ret own G A mc ms post kc ks w (tgt) (lv) (st)) (kf : ¬ b < a → xj E l R cc nL ret own G A mc ms post kc ks w (pc + 3) (lv) (st)) : xj E l R cc nL ret own G A mc ms post kc ks w (pc) (lv) (.int (nI b) :: .int (nI a) :: st) :=
  x_icmp_gt hd ht (fun q => kt ((nI_ltI hb ha).mp q)) (fun q => kf (fun z => q ((nI_ltI hb ha).mpr z)))
theorem x_icmp_leN {a b : Nat} {off : Int} {tgt : Nat} (hd : decode cc pc = .ok (.if_icmp .le off, 3)) (ht : (pc : Int) + off = (tgt : Int)) (ha : a < 2147483648) (hb : b < 2147483648) (kt : a ≤ b → xj E l R cc nL ret own G A mc ms post kc ks w (tgt) (lv) (st)) (kf : ¬ a ≤ b → xj E l R cc nL ret own G A mc ms post kc ks w (pc + 3) (lv) (st)) : xj E l R cc nL ret own G A mc ms post kc ks w (pc) (lv) (.int (nI b) :: .int (nI a) :: st) :=
  x_icmp_le hd ht (fun q => kt ((nI_leI ha hb).mp q)) (fun q => kf (fun z => q ((nI_leI ha hb).mpr z)))
theorem x_if_eqN {a : Nat} {off : Int} {tgt : Nat} (hd : decode cc pc = .ok (.ifCond .eq off, 3)) (ht : (pc : Int) + off = (tgt : Int)) (ha : a < 2147483648) (kt : a = 0 → xj E l R cc nL ret own G A mc ms post kc ks w (tgt) (lv) (st)) (kf : ¬ a = 0 → xj E l R cc nL ret own G A mc ms post kc ks w (pc + 3) (lv) (st)) : xj E l R cc nL ret own G A mc ms post kc ks w (pc) (lv) (.int (nI a) :: st) :=
  x_if_eq hd ht (fun q => kt ((nI_eq0 ha).mp q)) (fun q => kf (fun z => q ((nI_eq0 ha).mpr z)))
theorem x_if_neN {a : Nat} {off : Int} {tgt : Nat} (hd : decode cc pc = .ok (.ifCond .ne off, 3)) (ht : (pc : Int) + off = (tgt : Int)) (ha : a < 2147483648) (kt : ¬ a = 0 → xj E l R cc nL ret own G A mc ms post kc ks w (tgt) (lv) (st)) (kf : a = 0 → xj E l R cc nL ret own G A mc ms post kc ks w (pc + 3) (lv) (st)) : xj E l R cc nL ret own G A mc ms post kc ks w (pc) (lv) (.int (nI a) :: st) :=
  x_if_ne hd ht (fun q => kt (fun z => q ((nI_eq0 ha).mpr z))) (fun q => kf ((nI_eq0 ha).mp q))
theorem x_if_gtN {a : Nat} {off : Int} {tgt : Nat} (hd : decode cc pc = .ok (.ifCond .gt off, 3)) (ht : (pc : Int) + off = (tgt : Int)) (ha : a < 2147483648) (kt : 0 < a → xj E l R cc nL ret own G A mc ms post kc ks w (tgt) (lv) (st)) (kf : a = 0 → xj E l R cc nL ret own G A mc ms post kc ks w (pc + 3) (lv) (st)) : xj E l R cc nL ret own G A mc ms post kc ks w (pc) (lv) (.int (nI a) :: st) :=
  x_if_gt hd ht (fun q => kt (Nat.pos_of_ne_zero (fun z => absurd q (by rw [z]; decide)))) (fun q => kf (Nat.eq_zero_of_not_pos (fun z => q (by rw [← nI_0]; exact nI_lt z ha))))
theorem x_if_leN {a : Nat} {off : Int} {tgt : Nat} (hd : decode cc pc = .ok (.ifCond .le off, 3)) (ht : (pc : Int) + off = (tgt : Int)) (ha : a < 2147483648) (kt : a = 0 → xj E l R cc nL ret own G A mc ms post kc ks w (tgt) (lv) (st)) (kf : 0 < a → xj E l R cc nL ret own G A mc ms post kc ks w (pc + 3) (lv) (st)) : xj E l R cc nL ret own G A mc ms post kc ks w (pc) (lv) (.int (nI a) :: st) :=
  x_if_le hd ht (fun q => kt (Nat.eq_zero_of_not_pos (fun z => absurd q (nI_nle z ha)))) (fun q => kf (Nat.pos_of_ne_zero (fun z => q (by rw [z]; decide))))
theorem x_if_ltN {a : Nat} {off : Int} {tgt : Nat} (hd : decode cc pc = .ok (.ifCond .lt off, 3)) (ht : (pc : Int) + off = (tgt : Int)) (ha : a < 2147483648)  (kf : True → xj E l R cc nL ret own G A mc ms post kc ks w (pc + 3) (lv) (st)) : xj E l R cc nL ret own G A mc ms post kc ks w (pc) (lv) (.int (nI a) :: st) :=
  x_if_lt hd ht (fun q => absurd q (nI_pos ha)) (fun _ => kf trivial)
theorem x_if_geN {a : Nat} {off : Int} {tgt : Nat} (hd : decode cc pc = .ok (.ifCond .ge off, 3)) (ht : (pc : Int) + off = (tgt : Int)) (ha : a < 2147483648) (kt : True → xj E l R cc nL ret own G A mc ms post kc ks w (tgt) (lv) (st))  : xj E l R cc nL ret own G A mc ms post kc ks w (pc) (lv) (.int (nI a) :: st) :=
  x_if_ge hd ht (fun _ => kt trivial) (fun q => absurd (nI_pos' ha) q)
theorem x_if_eqB {b : Bool} {off : Int} {tgt : Nat} (hd : decode cc pc = .ok (.ifCond .eq off, 3)) (ht : (pc : Int) + off = (tgt : Int))  (kt : b = false → xj E l R cc nL ret own G A mc ms post kc ks w (tgt) (lv) (st)) (kf : b = true → xj E l R cc nL ret own G A mc ms post kc ks w (pc + 3) (lv) (st)) : xj E l R cc nL ret own G A mc ms post kc ks w (pc) (lv) (.int (bI b) :: st) :=
  x_if_eq hd ht (fun q => kt (bI_eq0.mp q)) (fun q => kf (bI_ne0.mp q))
theorem x_if_neB {b : Bool} {off : Int} {tgt : Nat} (hd : decode cc pc = .ok (.ifCond .ne off, 3)) (ht : (pc : Int) + off = (tgt : Int))  (kt : b = true → xj E l R cc nL ret own G A mc ms post kc ks w (tgt) (lv) (st)) (kf : b = false → xj E l R cc nL ret own G A mc ms post kc ks w (pc + 3) (lv) (st)) : xj E l R cc nL ret own G A mc ms post kc ks w (pc) (lv) (.int (bI b) :: st) :=
  x_if_ne hd ht (fun q => kt (bI_ne0.mp q)) (fun q => kf (bI_eq0.mp q))
theorem x_if_eqL {x y : Int64} {off : Int} {tgt : Nat} (hd : decode cc pc = .ok (.ifCond .eq off, 3)) (ht : (pc : Int) + off = (tgt : Int))  (kt : x = y → xj E l R cc nL ret own G A mc ms post kc ks w (tgt) (lv) (st)) (kf : ¬ x = y → xj E l R cc nL ret own G A mc ms post kc ks w (pc + 3) (lv) (st)) : xj E l R cc nL ret own G A mc ms post kc ks w (pc) (lv) (.int (lg_cmp x y) :: st) :=
  x_if_eq hd ht (fun q => kt ((lg_cmp_eq x y).mp q)) (fun q => kf (fun z => q ((lg_cmp_eq x y).mpr z)))
theorem x_if_neL {x y : Int64} {off : Int} {tgt : Nat} (hd : decode cc pc = .ok (.ifCond .ne off, 3)) (ht : (pc : Int) + off = (tgt : Int))  (kt : ¬ x = y → xj E l R cc nL ret own G A mc ms post kc ks w (tgt) (lv) (st)) (kf : x = y → xj E l R cc nL ret own G A mc ms post kc ks w (pc + 3) (lv) (st)) : xj E l R cc nL ret own G A mc ms post kc ks w (pc) (lv) (.int (lg_cmp x y) :: st) :=
  x_if_ne hd ht (fun q => kt (fun z => q ((lg_cmp_eq x y).mpr z))) (fun q => kf ((lg_cmp_eq x y).mp q))
theorem x_get {C : String} {T : u_T} {N ci index : Nat} {fs : List Value} {a : Nat} {v : Value} (hd : decode cc pc = .ok (.getfield index, 3)) (hin : ∀ w ∈ u_ws C T N, w ∈ big) (hc : G.2.1[ci]? = some (C, T, N)) (j : Nat) (hj : j < N) (hlink : Cond.fieldLink own index (T j).1 (T j).2.1 (T j).2.2.1 ∈ big) (q0 : Nat) (he : w[q0]? = some (a, .inr (ci, fs))) (hv : fs[j]? = some v) (k1 : xj E l R cc nL ret own G A mc ms post kc ks w (pc + 3) (lv) (v :: st)) : xj E l R cc nL ret own G A mc ms post kc ks w (pc) (lv) (.ref a :: st) :=
  fun cx hA H locs ls hP hD hS hl => va_get cx.1 cx.2.1 cx.2.2.2.2.2.2.1 hin cx.2.2.2.2.2.1 cx.2.2.2.2.2.2.2 hP q0 he hc j hj (cx.2.2.2.2.2.2.1 _ hlink) (fun _ h => h) hv hd (k1 cx hA H locs ls hP hD hS hl)
theorem x_put {C : String} {T : u_T} {N ci index : Nat} {fs : List Value} {a : Nat} {v : Value} {ty : FieldType} (hd : decode cc pc = .ok (.putfield index, 3)) (hin : ∀ w ∈ u_ws C T N, w ∈ big) (ty0 : Nat → FieldType) (hty : ∀ k, k < N → parseFieldDescriptor (T k).2.2.1 = some (ty0 k)) (hnm : ∀ a, a < N → ∀ b, b < N → a ≠ b → (T a).2.1 ≠ (T b).2.1) (hc : G.2.1[ci]? = some (C, T, N)) (j : Nat) (hj : j < N) (hlink : Cond.fieldLink own index (T j).1 (T j).2.1 (T j).2.2.1 ∈ big) (hfin : (T j).2.2.2 = false)  (hpd : parseFieldDescriptor (T j).2.2.1 = some ty) (hn : narrow ty v = v) (hfit : fits ty v = true) (q0 : Nat) (he : w[q0]? = some (a, .inr (ci, fs))) (hlen : j < fs.length) (w2 : va_W) (hw : w.set q0 (a, .inr (ci, fs.set j v)) = w2) (k1 : xj E l R cc nL ret own G A mc ms post kc ks w2 (pc + 3) (lv) (st)) : xj E l R cc nL ret own G A mc ms post kc ks w (pc) (lv) (v :: .ref a :: st) := by
  subst hw
  exact fun cx hA H locs ls hP hD hS hl => va_put cx.1 cx.2.1 cx.2.2.2.2.2.2.1 hin ty0 hty hnm cx.2.2.2.2.2.1 cx.2.2.2.2.2.2.2 hP hD hS q0 he hc j hj (cx.2.2.2.2.2.2.1 _ hlink) (fun _ h => h) hfin  hpd hn hfit hlen hd (fun H1 locs1 hP hD hS => k1 cx hA H1 locs1 ls hP hD hS hl)
theorem x_putF {C : String} {T : u_T} {N ci index : Nat} {fs : List Value} {a : Nat} {v : Value} {ty : FieldType} (hd : decode cc pc = .ok (.putfield index, 3)) (hin : ∀ w ∈ u_ws C T N, w ∈ big) (ty0 : Nat → FieldType) (hty : ∀ k, k < N → parseFieldDescriptor (T k).2.2.1 = some (ty0 k)) (hnm : ∀ a, a < N → ∀ b, b < N → a ≠ b → (T a).2.1 ≠ (T b).2.1) (hc : G.2.1[ci]? = some (C, T, N)) (j : Nat) (hj : j < N) (hlink : Cond.fieldLink own index (T j).1 (T j).2.1 (T j).2.2.1 ∈ big) (hfin : (T j).2.2.2 = true) (hinit : E.2.2.2.2.2.2.1.name = "<init>") (hdecl : (T j).1 = own) (hpd : parseFieldDescriptor (T j).2.2.1 = some ty) (hn : narrow ty v = v) (hfit : fits ty v = true) (q0 : Nat) (he : w[q0]? = some (a, .inr (ci, fs))) (hlen : j < fs.length) (w2 : va_W) (hw : w.set q0 (a, .inr (ci, fs.set j v)) = w2) (k1 : xj E l R cc nL ret own G A mc ms post kc ks w2 (pc + 3) (lv) (st)) : xj E l R cc nL ret own G A mc ms post kc ks w (pc) (lv) (v :: .ref a :: st) := by
  subst hw
  exact fun cx hA H locs ls hP hD hS hl => va_putF cx.1 cx.2.1 cx.2.2.2.2.2.2.1 hin ty0 hty hnm cx.2.2.2.2.2.1 cx.2.2.2.2.2.2.2 hP hD hS q0 he hc j hj (cx.2.2.2.2.2.2.1 _ hlink) (fun _ h => h) hfin hinit hdecl hpd hn hfit hlen hd (fun H1 locs1 hP hD hS => k1 cx hA H1 locs1 ls hP hD hS hl)
theorem x_iald {cA : ClassId} {n a : Nat} {f : Nat → Int32} {i : Int32} (hd : decode cc pc = .ok (.iaload, 1)) (q0 t0 : Nat) (ha : w[q0]? = some (a, .inl (cA, n, .inl f))) (ht : G.2.2[t0]? = some (cA, .int)) (hi : vp_in i n) (k1 : xj E l R cc nL ret own G A mc ms post kc ks w (pc + 1) (lv) (.int (f i.toNatClampNeg) :: st)) : xj E l R cc nL ret own G A mc ms post kc ks w (pc) (lv) (.int i :: .ref a :: st) :=
  fun cx hA H locs ls hP hD hS hl => va_iald cx.1 cx.2.1 cx.2.2.2.2.2.2.2 hP q0 t0 ha ht hi hd (k1 cx hA H locs ls hP hD hS hl)
theorem x_ialdN {cA : ClassId} {n a : Nat} {f : Nat → Int32} {i : Nat} (hd : decode cc pc = .ok (.iaload, 1)) (q0 t0 : Nat) (ha : w[q0]? = some (a, .inl (cA, n, .inl f))) (ht : G.2.2[t0]? = some (cA, .int)) (hn : n < 2147483648) (hi : i < n) (k1 : xj E l R cc nL ret own G A mc ms post kc ks w (pc + 1) (lv) (.int (f i) :: st)) : xj E l R cc nL ret own G A mc ms post kc ks w (pc) (lv) (.int (nI i) :: .ref a :: st) :=
  x_iald hd q0 t0 ha ht (nI_in hi hn) (by rw [nI_clamp (Nat.lt_trans hi hn)]; exact k1)
theorem x_iast {cA : ClassId} {n a : Nat} {f : Nat → Int32} {i : Int32} {x : Int32} (hd : decode cc pc = .ok (.iastore, 1)) (q0 t0 : Nat) (ha : w[q0]? = some (a, .inl (cA, n, .inl f))) (ht : G.2.2[t0]? = some (cA, .int)) (hi : vp_in i n) (w2 : va_W) (hw : w.set q0 (a, .inl (cA, n, .inl (upd f i.toNatClampNeg x))) = w2) (k1 : xj E l R cc nL ret own G A mc ms post kc ks w2 (pc + 1) (lv) (st)) : xj E l R cc nL ret own G A mc ms post kc ks w (pc) (lv) (.int x :: .int i :: .ref a :: st) := by
  subst hw
  exact fun cx hA H locs ls hP hD hS hl => va_iast cx.1 cx.2.1 cx.2.2.2.2.2.2.2 hP hD hS q0 t0 ha ht hi hd (fun H1 locs1 hP hD hS => k1 cx hA H1 locs1 ls hP hD hS hl)
theorem x_iastN {cA : ClassId} {n a : Nat} {f : Nat → Int32} {i : Nat} {x : Int32} (hd : decode cc pc = .ok (.iastore, 1)) (q0 t0 : Nat) (ha : w[q0]? = some (a, .inl (cA, n, .inl f))) (ht : G.2.2[t0]? = some (cA, .int)) (hn : n < 2147483648) (hi : i < n) (w2 : va_W) (hw : w.set q0 (a, .inl (cA, n, .inl (upd f i x))) = w2) (k1 : xj E l R cc nL ret own G A mc ms post kc ks w2 (pc + 1) (lv) (st)) : xj E l R cc nL ret own G A mc ms post kc ks w (pc) (lv) (.int x :: .int (nI i) :: .ref a :: st) :=
  x_iast hd q0 t0 ha ht (nI_in hi hn) w2 (by rw [nI_clamp (Nat.lt_trans hi hn)]; exact hw) k1
theorem x_lald {cA : ClassId} {n a : Nat} {f : Nat → Int64} {i : Int32} (hd : decode cc pc = .ok (.laload, 1)) (q0 t0 : Nat) (ha : w[q0]? = some (a, .inl (cA, n, .inr (.inl f)))) (ht : G.2.2[t0]? = some (cA, .long)) (hi : vp_in i n) (k1 : xj E l R cc nL ret own G A mc ms post kc ks w (pc + 1) (lv) (.long (f i.toNatClampNeg) :: st)) : xj E l R cc nL ret own G A mc ms post kc ks w (pc) (lv) (.int i :: .ref a :: st) :=
  fun cx hA H locs ls hP hD hS hl => va_lald cx.1 cx.2.1 cx.2.2.2.2.2.2.2 hP q0 t0 ha ht hi hd (k1 cx hA H locs ls hP hD hS hl)
theorem x_laldN {cA : ClassId} {n a : Nat} {f : Nat → Int64} {i : Nat} (hd : decode cc pc = .ok (.laload, 1)) (q0 t0 : Nat) (ha : w[q0]? = some (a, .inl (cA, n, .inr (.inl f)))) (ht : G.2.2[t0]? = some (cA, .long)) (hn : n < 2147483648) (hi : i < n) (k1 : xj E l R cc nL ret own G A mc ms post kc ks w (pc + 1) (lv) (.long (f i) :: st)) : xj E l R cc nL ret own G A mc ms post kc ks w (pc) (lv) (.int (nI i) :: .ref a :: st) :=
  x_lald hd q0 t0 ha ht (nI_in hi hn) (by rw [nI_clamp (Nat.lt_trans hi hn)]; exact k1)
theorem x_last {cA : ClassId} {n a : Nat} {f : Nat → Int64} {i : Int32} {x : Int64} (hd : decode cc pc = .ok (.lastore, 1)) (q0 t0 : Nat) (ha : w[q0]? = some (a, .inl (cA, n, .inr (.inl f)))) (ht : G.2.2[t0]? = some (cA, .long)) (hi : vp_in i n) (w2 : va_W) (hw : w.set q0 (a, .inl (cA, n, .inr (.inl (vp_updL f i.toNatClampNeg x)))) = w2) (k1 : xj E l R cc nL ret own G A mc ms post kc ks w2 (pc + 1) (lv) (st)) : xj E l R cc nL ret own G A mc ms post kc ks w (pc) (lv) (.long x :: .int i :: .ref a :: st) := by
  subst hw
  exact fun cx hA H locs ls hP hD hS hl => va_last cx.1 cx.2.1 cx.2.2.2.2.2.2.2 hP hD hS q0 t0 ha ht hi hd (fun H1 locs1 hP hD hS => k1 cx hA H1 locs1 ls hP hD hS hl)
theorem x_lastN {cA : ClassId} {n a : Nat} {f : Nat → Int64} {i : Nat} {x : Int64} (hd : decode cc pc = .ok (.lastore, 1)) (q0 t0 : Nat) (ha : w[q0]? = some (a, .inl (cA, n, .inr (.inl f)))) (ht : G.2.2[t0]? = some (cA, .long)) (hn : n < 2147483648) (hi : i < n) (w2 : va_W) (hw : w.set q0 (a, .inl (cA, n, .inr (.inl (vp_updL f i x)))) = w2) (k1 : xj E l R cc nL ret own G A mc ms post kc ks w2 (pc + 1) (lv) (st)) : xj E l R cc nL ret own G A mc ms post kc ks w (pc) (lv) (.long x :: .int (nI i) :: .ref a :: st) :=
  x_last hd q0 t0 ha ht (nI_in hi hn) w2 (by rw [nI_clamp (Nat.lt_trans hi hn)]; exact hw) k1
theorem x_alen {cA : ClassId} {a : Nat} {x : vp_A} {ty : FieldType} (hd : decode cc pc = .ok (.arraylength, 1)) (q0 t0 : Nat) (ha : w[q0]? = some (a, .inl (cA, x))) (ht : G.2.2[t0]? = some (cA, ty)) (k1 : xj E l R cc nL ret own G A mc ms post kc ks w (pc + 1) (lv) (.int (nI x.1) :: st)) : xj E l R cc nL ret own G A mc ms post kc ks w (pc) (lv) (.ref a :: st) :=
  fun cx hA H locs ls hP hD hS hl => va_alen cx.1 cx.2.1 cx.2.2.2.2.2.2.2 hP q0 t0 ha ht rfl hd (k1 cx hA H locs ls hP hD hS hl)
theorem x_iret {v : Int32} (hd : decode cc pc = .ok (.ireturn, 1)) (hr : ret = some .int) (h : post (some (.int v)) w) : xj E l R cc nL ret own G A kc ks post kc ks w pc lv [.int v] :=
  fun cx hA H locs ls hP hD hS hl => W.iret cx.1 cx.2.1 (cx.2.2.2.1.trans hr) (fun t ht hW => ⟨⟨some (.int v), w, rfl, h, by rw [ht]; exact hP, hD⟩, hS.F ht⟩) hS.2.2 hd cx.2.2.2.2.1
theorem x_zret {v : Int32} (hd : decode cc pc = .ok (.ireturn, 1)) (hr : ret = some .boolean) (hn : narrow .boolean (.int v) = .int v) (h : post (some (.int v)) w) : xj E l R cc nL ret own G A kc ks post kc ks w pc lv [.int v] :=
  fun cx hA H locs ls hP hD hS hl => W.zret cx.1 cx.2.1 (cx.2.2.2.1.trans hr) hn (fun t ht hW => ⟨⟨some (.int v), w, rfl, h, by rw [ht]; exact hP, hD⟩, hS.F ht⟩) hS.2.2 hd cx.2.2.2.2.1
theorem x_lret {v : Int64} (hd : decode cc pc = .ok (.lreturn, 1)) (hr : ret = some .long) (h : post (some (.long v)) w) : xj E l R cc nL ret own G A kc ks post kc ks w pc lv [.long v] :=
  fun cx hA H locs ls hP hD hS hl => W.lret cx.1 cx.2.1 (cx.2.2.2.1.trans hr) (fun t ht hW => ⟨⟨some (.long v), w, rfl, h, by rw [ht]; exact hP, hD⟩, hS.F ht⟩) hS.2.2 hd cx.2.2.2.2.1
theorem x_vret (hd : decode cc pc = .ok (.return_, 1)) (hr : ret = none) (h : post (none) w) : xj E l R cc nL ret own G A kc ks post kc ks w pc lv [] :=
  fun cx hA H locs ls hP hD hS hl => W.vret cx.1 cx.2.1 (cx.2.2.2.1.trans hr) (fun t ht hW => ⟨⟨none, w, rfl, h, by rw [ht]; exact hP, hD⟩, hS.F ht⟩) hS.2.2 hd cx.2.2.2.2.1
theorem x_sub (is : List Nat) (lw : List (Nat × Value)) (h : lv_pick lv is = lw) (k1 : xj E l R cc nL ret own G A mc ms post kc ks w (pc) (lw) (st)) : xj E l R cc nL ret own G A mc ms post kc ks w (pc) (lv) (st) :=
  fun cx hA H locs ls hP hD hS hl => k1 cx hA H locs ls hP hD hS (lv_sub hl is h)
theorem x_w {w2 : va_W} (h : w = w2) (k1 : xj E l R cc nL ret own G A mc ms post kc ks w2 (pc) (lv) (st)) : xj E l R cc nL ret own G A mc ms post kc ks w (pc) (lv) (st) := h ▸ k1
theorem x_ti {x y : Int32} (h : x = y) (k1 : xj E l R cc nL ret own G A mc ms post kc ks w (pc) (lv) (.int y :: st)) : xj E l R cc nL ret own G A mc ms post kc ks w (pc) (lv) (.int x :: st) := h ▸ k1
theorem x_tl {x y : Int64} (h : x = y) (k1 : xj E l R cc nL ret own G A mc ms post kc ks w (pc) (lv) (.long y :: st)) : xj E l R cc nL ret own G A mc ms post kc ks w (pc) (lv) (.long x :: st) := h ▸ k1
theorem x_loop {σ : Type} (μ : σ → Nat) (Inv : σ → Prop) (wf : σ → va_W) (lf : σ → List (Nat × Value)) (step : ∀ a, Inv a → (∀ b, Inv b → μ b < μ a → xj E l R cc nL ret own G A mc ms post kc ks (wf b) (pc) (lf b) ([])) → xj E l R cc nL ret own G A mc ms post kc ks (wf a) (pc) (lf a) ([])) : ∀ a, Inv a → xj E l R cc nL ret own G A mc ms post kc ks (wf a) (pc) (lf a) ([]) := by
  have key : ∀ (n : Nat) (a : σ), μ a < n → Inv a → xj E l R cc nL ret own G A mc ms post kc ks (wf a) (pc) (lf a) ([]) := by
    intro n
    induction n with
    | zero => intro a h; exact absurd h (Nat.not_lt_zero _)
    | succ n ih => exact fun a h hi => step a hi (fun b hb hlt => ih b (by omega) hb)
  exact fun a hi => key (μ a + 1) a (by omega) hi
theorem xe_call {H : Heap} {locs : List Loc} {ls : Array Slot} {mc2 ms2 : Nat} {post2 : Option Value → va_W → Prop} {a : Array Value} {rest st0 : List Value} (hr : va_Run E.1 l E.2.1 R E.2.2.1 E.2.2.2.1 E.2.2.2.2.1 E.2.2.2.2.2.1 E.2.2.2.2.2.2.1 E.2.2.2.2.2.2.2 H locs kc ks mc2 ms2 (F0 E.2.2.2.1 pc ls st0) rest (xEnd G (va_A w H.size) post2 a) (va_A w H.size))
    (cx : Cx E cc nL ret own G) (hA : ∀ q, E.2.2.1.heap.size ≤ q → A q) (hD : va_D A w) (hS : va_S A E.2.2.1.heap H locs) (hl : lv_has ls nL lv) (kk : ∀ (v : Option Value) (w2 : va_W), post2 v w2 → xj E l R cc nL ret own G A mc ms post (kc + mc2) (ks + ms2) w2 (pc + 3) lv (v.toList ++ rest)) :
    W E.1 l E.2.1 R E.2.2.1 E.2.2.2.1 E.2.2.2.2.1 E.2.2.2.2.2.1 E.2.2.2.2.2.2.1 E.2.2.2.2.2.2.2 H locs kc ks (xQ E G A post mc ms) (F0 E.2.2.2.1 pc ls st0) := by
  intro T hT X
  obtain ⟨v, st₀, t, T', L, h0, X', hL, e1, e2, ⟨⟨v', w', hv, hp, hP', hD'⟩, hz, hk⟩, st⟩ := hr T hT X
  cases hv
  rw [h0] at hz hk
  have hF : ∀ q, va_A w H.size q → A q := by
    intro q h
    rcases h with ⟨k, e, h⟩ | h
    · exact hD.2 k _ h
    · exact hA q (Nat.le_trans hS.1 h)
  obtain ⟨t2, a1, b1⟩ := kk v w' hp cx hA T'.heap (locs ++ L) ls (by rw [e1]; exact hP') (hD'.weaken (fun _ _ _ h => hF _ h))
    ⟨Nat.le_trans hS.1 (by rw [e1]; exact hz), fun q h1 h2 => by rw [e1, hk q (Nat.lt_of_lt_of_le h1 hS.1) (fun z => h2 (hF q z))]; exact hS.2.1 q h1 h2, fun q hq => by
      rcases List.mem_append.mp hq with h | h
      · exact hS.2.2 q h
      · exact hF _ (hL q h)⟩ hl T' rfl X'
  exact ⟨t2, st t2 a1, b1⟩
theorem ct_pre {s : State} {H : Heap} {av : List Value} (hT : tb G s) (hP : va_P G.1 G.2.1 w H) (hD : va_D A w) : PreS s H (va_Pc av (fun U => U.heap.size = H.size ∧ va_P G.1 G.2.1 w U.heap ∧ va_D (fun _ => True) w ∧ tb G U)) av :=
  ⟨fun a U g mk q => ⟨q.1, q.2.1, q.2.2.1, q.2.2.2.1, q.2.2.2.2.same rfl⟩, fun U hU hW => ⟨rfl, by rw [hU], by rw [hU]; exact hP, hD.weaken (fun _ _ _ _ => trivial), hT.warm hW⟩⟩
theorem x_callV {y : MethodName} {bytes : ByteArray} {maxL index na : Nat} {rt : Option FieldType} {rm2 : Room} {post2 : Option Value → va_W → Prop} {C : String} {b : Nat} {T : u_T} {N ci : Nat} {fs : List Value} {As rest : List Value} (hd : decode cc pc = .ok (.invokevirtual index, 3)) (hlk : Cond.methodLink own index y ∈ big) (hinm : Cond.instanceMethod y ∈ big) (hsel : Cond.selects C y y ∈ big) (hcode : Cond.code y bytes maxL rt ∈ big) (hini : Cond.initialized y.cls ∈ big) (hy : y.cls ≠ "java/lang/invoke/MethodHandle" ∧ y.cls ≠ "java/lang/invoke/VarHandle" ∧ (parseMethodDescriptor y.desc).map (fun d => d.parameters.length) = some na) (hR : rm2.frames + 1 ≤ R.frames ∧ 8 + (maxL + 11) + rm2.locals ≤ R.locals) (hcs : kc + rm2.cells ≤ R.cells ∧ ks + rm2.slots ≤ R.slots) (q0 : Nat) (he : w[q0]? = some (b, .inr (ci, fs))) (hc : G.2.1[ci]? = some (C, T, N)) (hM : CT l y bytes maxL rt rm2 G (.ref b :: As) w (post2)) (hn : As.length = na) (hst : st = As.reverse ++ .ref b :: rest) (hrm : (rest.map fun v => v.category).sum ≤ 8) (kk : ∀ (v : Option Value) (w2 : va_W), post2 v w2 → xj E l R cc nL ret own G A mc ms post (kc + rm2.cells) (ks + rm2.slots) w2 (pc + 3) (lv) (v.toList ++ rest)) : xj E l R cc nL ret own G A mc ms post kc ks w (pc) (lv) (st) := by
  intro cx hA H locs ls hP hD hS hl
  subst hst
  have hts := cx.2.2.2.2.2.2.1
  have hlen : ∀ sig, parseMethodDescriptor y.desc = some sig → na = sig.parameters.length := by
    intro sig h
    have h2 := hy.2.2
    rw [h] at h2
    exact (Option.some.inj h2).symm
  have hpre := ct_pre (av := .ref b :: As) cx.2.2.2.2.2.2.2 hP hD
  exact xe_call (va_runV (As := As) (rest := rest) ⟨cx.1, cx.2.1, cx.2.2.1, cx.2.2.2.2.2.1, cx.2.2.2.2.2.2.1⟩ (hM H.size) ⟨⟨rfl, rfl, hR.1, hR.2, tbl_pay hts hcode, List.mem_cons_self, hts _ hcode, hts _ hini, ⟨hy.1, hy.2.1⟩, hlen, hts _ hlk⟩, hts _ hinm, hts _ hsel⟩ ⟨hpre.1, va_recv cx.2.2.2.2.2.2.2 hP hc he, hpre.2⟩ rfl hn hl.1 rfl (lv_room hrm) hd hcs) cx hA hD hS hl kk
theorem x_callV_I {y : MethodName} {bytes : ByteArray} {maxL index na : Nat} {rt : Option FieldType} {rm2 : Room} {rv : Int32} {w3 : va_W} {C : String} {b : Nat} {T : u_T} {N ci : Nat} {fs : List Value} {As rest : List Value} (hd : decode cc pc = .ok (.invokevirtual index, 3)) (hlk : Cond.methodLink own index y ∈ big) (hinm : Cond.instanceMethod y ∈ big) (hsel : Cond.selects C y y ∈ big) (hcode : Cond.code y bytes maxL rt ∈ big) (hini : Cond.initialized y.cls ∈ big) (hy : y.cls ≠ "java/lang/invoke/MethodHandle" ∧ y.cls ≠ "java/lang/invoke/VarHandle" ∧ (parseMethodDescriptor y.desc).map (fun d => d.parameters.length) = some na) (hR : rm2.frames + 1 ≤ R.frames ∧ 8 + (maxL + 11) + rm2.locals ≤ R.locals) (hz : rm2.cells = 0 ∧ rm2.slots = 0) (hcr : kc ≤ R.cells ∧ ks ≤ R.slots) (q0 : Nat) (he : w[q0]? = some (b, .inr (ci, fs))) (hc : G.2.1[ci]? = some (C, T, N)) (hM : CT l y bytes maxL rt rm2 G (.ref b :: As) w (pI rv w3)) (hn : As.length = na) (hst : st = As.reverse ++ .ref b :: rest) (hrm : (rest.map fun v => v.category).sum ≤ 8) (k1 : xj E l R cc nL ret own G A mc ms post kc ks w3 (pc + 3) (lv) (.int rv :: rest)) : xj E l R cc nL ret own G A mc ms post kc ks w (pc) (lv) (st) := by
  have hcs : kc + rm2.cells ≤ R.cells ∧ ks + rm2.slots ≤ R.slots := by rw [hz.1, hz.2]; exact hcr
  refine x_callV hd hlk hinm hsel hcode hini hy hR hcs q0 he hc hM hn hst hrm (fun v w2 hp => ?_)
  obtain ⟨rfl, rfl⟩ := hp
  rw [hz.1, hz.2]
  exact k1
theorem x_callV_L {y : MethodName} {bytes : ByteArray} {maxL index na : Nat} {rt : Option FieldType} {rm2 : Room} {rv : Int64} {w3 : va_W} {C : String} {b : Nat} {T : u_T} {N ci : Nat} {fs : List Value} {As rest : List Value} (hd : decode cc pc = .ok (.invokevirtual index, 3)) (hlk : Cond.methodLink own index y ∈ big) (hinm : Cond.instanceMethod y ∈ big) (hsel : Cond.selects C y y ∈ big) (hcode : Cond.code y bytes maxL rt ∈ big) (hini : Cond.initialized y.cls ∈ big) (hy : y.cls ≠ "java/lang/invoke/MethodHandle" ∧ y.cls ≠ "java/lang/invoke/VarHandle" ∧ (parseMethodDescriptor y.desc).map (fun d => d.parameters.length) = some na) (hR : rm2.frames + 1 ≤ R.frames ∧ 8 + (maxL + 11) + rm2.locals ≤ R.locals) (hz : rm2.cells = 0 ∧ rm2.slots = 0) (hcr : kc ≤ R.cells ∧ ks ≤ R.slots) (q0 : Nat) (he : w[q0]? = some (b, .inr (ci, fs))) (hc : G.2.1[ci]? = some (C, T, N)) (hM : CT l y bytes maxL rt rm2 G (.ref b :: As) w (pL rv w3)) (hn : As.length = na) (hst : st = As.reverse ++ .ref b :: rest) (hrm : (rest.map fun v => v.category).sum ≤ 8) (k1 : xj E l R cc nL ret own G A mc ms post kc ks w3 (pc + 3) (lv) (.long rv :: rest)) : xj E l R cc nL ret own G A mc ms post kc ks w (pc) (lv) (st) := by
  have hcs : kc + rm2.cells ≤ R.cells ∧ ks + rm2.slots ≤ R.slots := by rw [hz.1, hz.2]; exact hcr
  refine x_callV hd hlk hinm hsel hcode hini hy hR hcs q0 he hc hM hn hst hrm (fun v w2 hp => ?_)
  obtain ⟨rfl, rfl⟩ := hp
  rw [hz.1, hz.2]
  exact k1
theorem x_callV_Z {y : MethodName} {bytes : ByteArray} {maxL index na : Nat} {rt : Option FieldType} {rm2 : Room}  {w3 : va_W} {C : String} {b : Nat} {T : u_T} {N ci : Nat} {fs : List Value} {As rest : List Value} (hd : decode cc pc = .ok (.invokevirtual index, 3)) (hlk : Cond.methodLink own index y ∈ big) (hinm : Cond.instanceMethod y ∈ big) (hsel : Cond.selects C y y ∈ big) (hcode : Cond.code y bytes maxL rt ∈ big) (hini : Cond.initialized y.cls ∈ big) (hy : y.cls ≠ "java/lang/invoke/MethodHandle" ∧ y.cls ≠ "java/lang/invoke/VarHandle" ∧ (parseMethodDescriptor y.desc).map (fun d => d.parameters.length) = some na) (hR : rm2.frames + 1 ≤ R.frames ∧ 8 + (maxL + 11) + rm2.locals ≤ R.locals) (hz : rm2.cells = 0 ∧ rm2.slots = 0) (hcr : kc ≤ R.cells ∧ ks ≤ R.slots) (q0 : Nat) (he : w[q0]? = some (b, .inr (ci, fs))) (hc : G.2.1[ci]? = some (C, T, N)) (hM : CT l y bytes maxL rt rm2 G (.ref b :: As) w (pV w3)) (hn : As.length = na) (hst : st = As.reverse ++ .ref b :: rest) (hrm : (rest.map fun v => v.category).sum ≤ 8) (k1 : xj E l R cc nL ret own G A mc ms post kc ks w3 (pc + 3) (lv) (rest)) : xj E l R cc nL ret own G A mc ms post kc ks w (pc) (lv) (st) := by
  have hcs : kc + rm2.cells ≤ R.cells ∧ ks + rm2.slots ≤ R.slots := by rw [hz.1, hz.2]; exact hcr
  refine x_callV hd hlk hinm hsel hcode hini hy hR hcs q0 he hc hM hn hst hrm (fun v w2 hp => ?_)
  obtain ⟨rfl, rfl⟩ := hp
  rw [hz.1, hz.2]
  exact k1
theorem x_callV_X {y : MethodName} {bytes : ByteArray} {maxL index na : Nat} {rt : Option FieldType} {rm2 : Room} {post2 : Option Value → va_W → Prop} {C : String} {b : Nat} {T : u_T} {N ci : Nat} {fs : List Value} {As rest : List Value} (hd : decode cc pc = .ok (.invokevirtual index, 3)) (hlk : Cond.methodLink own index y ∈ big) (hinm : Cond.instanceMethod y ∈ big) (hsel : Cond.selects C y y ∈ big) (hcode : Cond.code y bytes maxL rt ∈ big) (hini : Cond.initialized y.cls ∈ big) (hy : y.cls ≠ "java/lang/invoke/MethodHandle" ∧ y.cls ≠ "java/lang/invoke/VarHandle" ∧ (parseMethodDescriptor y.desc).map (fun d => d.parameters.length) = some na) (hR : rm2.frames + 1 ≤ R.frames ∧ 8 + (maxL + 11) + rm2.locals ≤ R.locals) (hz : rm2.cells = 0 ∧ rm2.slots = 0) (hcr : kc ≤ R.cells ∧ ks ≤ R.slots) (q0 : Nat) (he : w[q0]? = some (b, .inr (ci, fs))) (hc : G.2.1[ci]? = some (C, T, N)) (hM : CT l y bytes maxL rt rm2 G (.ref b :: As) w (post2)) (hn : As.length = na) (hst : st = As.reverse ++ .ref b :: rest) (hrm : (rest.map fun v => v.category).sum ≤ 8) (k1 : ∀ (v : Option Value) (w2 : va_W), post2 v w2 → xj E l R cc nL ret own G A mc ms post kc ks w2 (pc + 3) (lv) (v.toList ++ rest)) : xj E l R cc nL ret own G A mc ms post kc ks w (pc) (lv) (st) := by
  have hcs : kc + rm2.cells ≤ R.cells ∧ ks + rm2.slots ≤ R.slots := by rw [hz.1, hz.2]; exact hcr
  refine x_callV hd hlk hinm hsel hcode hini hy hR hcs q0 he hc hM hn hst hrm (fun v w2 hp => ?_)
  rw [hz.1, hz.2]
  exact k1 v w2 hp
theorem x_callS {y : MethodName} {bytes : ByteArray} {maxL index na : Nat} {rt : Option FieldType} {rm2 : Room} {post2 : Option Value → va_W → Prop}  {As rest : List Value} (hd : decode cc pc = .ok (.invokestatic index, 3)) (hlk : Cond.methodLink own index y ∈ big) (hstt : Cond.static y ∈ big) (hcode : Cond.code y bytes maxL rt ∈ big) (hini : Cond.initialized y.cls ∈ big) (hy : y.cls ≠ "java/lang/invoke/MethodHandle" ∧ y.cls ≠ "java/lang/invoke/VarHandle" ∧ (parseMethodDescriptor y.desc).map (fun d => d.parameters.length) = some na) (hR : rm2.frames + 1 ≤ R.frames ∧ 8 + (maxL + 11) + rm2.locals ≤ R.locals) (hcs : kc + rm2.cells ≤ R.cells ∧ ks + rm2.slots ≤ R.slots) (hM : CT l y bytes maxL rt rm2 G As w (post2)) (hn : As.length = na) (hst : st = As.reverse ++ rest) (hrm : (rest.map fun v => v.category).sum ≤ 8) (kk : ∀ (v : Option Value) (w2 : va_W), post2 v w2 → xj E l R cc nL ret own G A mc ms post (kc + rm2.cells) (ks + rm2.slots) w2 (pc + 3) (lv) (v.toList ++ rest)) : xj E l R cc nL ret own G A mc ms post kc ks w (pc) (lv) (st) := by
  intro cx hA H locs ls hP hD hS hl
  subst hst
  have hts := cx.2.2.2.2.2.2.1
  have hlen : ∀ sig, parseMethodDescriptor y.desc = some sig → na = sig.parameters.length := by
    intro sig h
    have h2 := hy.2.2
    rw [h] at h2
    exact (Option.some.inj h2).symm
  have hpre := ct_pre (av := As) cx.2.2.2.2.2.2.2 hP hD
  exact xe_call (va_runS (As := As) (rest := rest) ⟨cx.1, cx.2.1, cx.2.2.1, cx.2.2.2.2.2.1, cx.2.2.2.2.2.2.1⟩ (hM H.size) ⟨⟨rfl, rfl, hR.1, hR.2, tbl_pay hts hcode, List.mem_cons_self, hts _ hcode, hts _ hini, ⟨hy.1, hy.2.1⟩, hlen, hts _ hlk⟩, hts _ hstt⟩ hpre rfl hn hl.1 rfl (lv_room hrm) hd hcs) cx hA hD hS hl kk
theorem x_callS_I {y : MethodName} {bytes : ByteArray} {maxL index na : Nat} {rt : Option FieldType} {rm2 : Room} {rv : Int32} {w3 : va_W}  {As rest : List Value} (hd : decode cc pc = .ok (.invokestatic index, 3)) (hlk : Cond.methodLink own index y ∈ big) (hstt : Cond.static y ∈ big) (hcode : Cond.code y bytes maxL rt ∈ big) (hini : Cond.initialized y.cls ∈ big) (hy : y.cls ≠ "java/lang/invoke/MethodHandle" ∧ y.cls ≠ "java/lang/invoke/VarHandle" ∧ (parseMethodDescriptor y.desc).map (fun d => d.parameters.length) = some na) (hR : rm2.frames + 1 ≤ R.frames ∧ 8 + (maxL + 11) + rm2.locals ≤ R.locals) (hz : rm2.cells = 0 ∧ rm2.slots = 0) (hcr : kc ≤ R.cells ∧ ks ≤ R.slots) (hM : CT l y bytes maxL rt rm2 G As w (pI rv w3)) (hn : As.length = na) (hst : st = As.reverse ++ rest) (hrm : (rest.map fun v => v.category).sum ≤ 8) (k1 : xj E l R cc nL ret own G A mc ms post kc ks w3 (pc + 3) (lv) (.int rv :: rest)) : xj E l R cc nL ret own G A mc ms post kc ks w (pc) (lv) (st) := by
  have hcs : kc + rm2.cells ≤ R.cells ∧ ks + rm2.slots ≤ R.slots := by rw [hz.1, hz.2]; exact hcr
  refine x_callS hd hlk hstt hcode hini hy hR hcs hM hn hst hrm (fun v w2 hp => ?_)
  obtain ⟨rfl, rfl⟩ := hp
  rw [hz.1, hz.2]
  exact k1
theorem x_callS_L {y : MethodName} {bytes : ByteArray} {maxL index na : Nat} {rt : Option FieldType} {rm2 : Room} {rv : Int64} {w3 : va_W}  {As rest : List Value} (hd : decode cc pc = .ok (.invokestatic index, 3)) (hlk : Cond.methodLink own index y ∈ big) (hstt : Cond.static y ∈ big) (hcode : Cond.code y bytes maxL rt ∈ big) (hini : Cond.initialized y.cls ∈ big) (hy : y.cls ≠ "java/lang/invoke/MethodHandle" ∧ y.cls ≠ "java/lang/invoke/VarHandle" ∧ (parseMethodDescriptor y.desc).map (fun d => d.parameters.length) = some na) (hR : rm2.frames + 1 ≤ R.frames ∧ 8 + (maxL + 11) + rm2.locals ≤ R.locals) (hz : rm2.cells = 0 ∧ rm2.slots = 0) (hcr : kc ≤ R.cells ∧ ks ≤ R.slots) (hM : CT l y bytes maxL rt rm2 G As w (pL rv w3)) (hn : As.length = na) (hst : st = As.reverse ++ rest) (hrm : (rest.map fun v => v.category).sum ≤ 8) (k1 : xj E l R cc nL ret own G A mc ms post kc ks w3 (pc + 3) (lv) (.long rv :: rest)) : xj E l R cc nL ret own G A mc ms post kc ks w (pc) (lv) (st) := by
  have hcs : kc + rm2.cells ≤ R.cells ∧ ks + rm2.slots ≤ R.slots := by rw [hz.1, hz.2]; exact hcr
  refine x_callS hd hlk hstt hcode hini hy hR hcs hM hn hst hrm (fun v w2 hp => ?_)
  obtain ⟨rfl, rfl⟩ := hp
  rw [hz.1, hz.2]
  exact k1
theorem x_callS_Z {y : MethodName} {bytes : ByteArray} {maxL index na : Nat} {rt : Option FieldType} {rm2 : Room}  {w3 : va_W}  {As rest : List Value} (hd : decode cc pc = .ok (.invokestatic index, 3)) (hlk : Cond.methodLink own index y ∈ big) (hstt : Cond.static y ∈ big) (hcode : Cond.code y bytes maxL rt ∈ big) (hini : Cond.initialized y.cls ∈ big) (hy : y.cls ≠ "java/lang/invoke/MethodHandle" ∧ y.cls ≠ "java/lang/invoke/VarHandle" ∧ (parseMethodDescriptor y.desc).map (fun d => d.parameters.length) = some na) (hR : rm2.frames + 1 ≤ R.frames ∧ 8 + (maxL + 11) + rm2.locals ≤ R.locals) (hz : rm2.cells = 0 ∧ rm2.slots = 0) (hcr : kc ≤ R.cells ∧ ks ≤ R.slots) (hM : CT l y bytes maxL rt rm2 G As w (pV w3)) (hn : As.length = na) (hst : st = As.reverse ++ rest) (hrm : (rest.map fun v => v.category).sum ≤ 8) (k1 : xj E l R cc nL ret own G A mc ms post kc ks w3 (pc + 3) (lv) (rest)) : xj E l R cc nL ret own G A mc ms post kc ks w (pc) (lv) (st) := by
  have hcs : kc + rm2.cells ≤ R.cells ∧ ks + rm2.slots ≤ R.slots := by rw [hz.1, hz.2]; exact hcr
  refine x_callS hd hlk hstt hcode hini hy hR hcs hM hn hst hrm (fun v w2 hp => ?_)
  obtain ⟨rfl, rfl⟩ := hp
  rw [hz.1, hz.2]
  exact k1
theorem x_callS_X {y : MethodName} {bytes : ByteArray} {maxL index na : Nat} {rt : Option FieldType} {rm2 : Room} {post2 : Option Value → va_W → Prop}  {As rest : List Value} (hd : decode cc pc = .ok (.invokestatic index, 3)) (hlk : Cond.methodLink own index y ∈ big) (hstt : Cond.static y ∈ big) (hcode : Cond.code y bytes maxL rt ∈ big) (hini : Cond.initialized y.cls ∈ big) (hy : y.cls ≠ "java/lang/invoke/MethodHandle" ∧ y.cls ≠ "java/lang/invoke/VarHandle" ∧ (parseMethodDescriptor y.desc).map (fun d => d.parameters.length) = some na) (hR : rm2.frames + 1 ≤ R.frames ∧ 8 + (maxL + 11) + rm2.locals ≤ R.locals) (hz : rm2.cells = 0 ∧ rm2.slots = 0) (hcr : kc ≤ R.cells ∧ ks ≤ R.slots) (hM : CT l y bytes maxL rt rm2 G As w (post2)) (hn : As.length = na) (hst : st = As.reverse ++ rest) (hrm : (rest.map fun v => v.category).sum ≤ 8) (k1 : ∀ (v : Option Value) (w2 : va_W), post2 v w2 → xj E l R cc nL ret own G A mc ms post kc ks w2 (pc + 3) (lv) (v.toList ++ rest)) : xj E l R cc nL ret own G A mc ms post kc ks w (pc) (lv) (st) := by
  have hcs : kc + rm2.cells ≤ R.cells ∧ ks + rm2.slots ≤ R.slots := by rw [hz.1, hz.2]; exact hcr
  refine x_callS hd hlk hstt hcode hini hy hR hcs hM hn hst hrm (fun v w2 hp => ?_)
  rw [hz.1, hz.2]
  exact k1 v w2 hp
theorem x_callSN {y : MethodName} {bytes : ByteArray} {maxL index na : Nat} {rt : Option FieldType} {rm2 : Room} {post2 : Option Value → va_W → Prop} {host : String} {As rest : List Value} (hd : decode cc pc = .ok (.invokestatic index, 3)) (hlk : Cond.methodLinkNest own index y host ∈ big) (hstt : Cond.static y ∈ big) (hcode : Cond.code y bytes maxL rt ∈ big) (hini : Cond.initialized y.cls ∈ big) (hy : y.cls ≠ "java/lang/invoke/MethodHandle" ∧ y.cls ≠ "java/lang/invoke/VarHandle" ∧ (parseMethodDescriptor y.desc).map (fun d => d.parameters.length) = some na) (hR : rm2.frames + 1 ≤ R.frames ∧ 8 + (maxL + 11) + rm2.locals ≤ R.locals) (hcs : kc + rm2.cells ≤ R.cells ∧ ks + rm2.slots ≤ R.slots) (hM : CT l y bytes maxL rt rm2 G As w (post2)) (hn : As.length = na) (hst : st = As.reverse ++ rest) (hrm : (rest.map fun v => v.category).sum ≤ 8) (kk : ∀ (v : Option Value) (w2 : va_W), post2 v w2 → xj E l R cc nL ret own G A mc ms post (kc + rm2.cells) (ks + rm2.slots) w2 (pc + 3) (lv) (v.toList ++ rest)) : xj E l R cc nL ret own G A mc ms post kc ks w (pc) (lv) (st) := by
  intro cx hA H locs ls hP hD hS hl
  subst hst
  have hts := cx.2.2.2.2.2.2.1
  have hlen : ∀ sig, parseMethodDescriptor y.desc = some sig → na = sig.parameters.length := by
    intro sig h
    have h2 := hy.2.2
    rw [h] at h2
    exact (Option.some.inj h2).symm
  have hpre := ct_pre (av := As) cx.2.2.2.2.2.2.2 hP hD
  exact xe_call (va_runSN (As := As) (rest := rest) ⟨cx.1, cx.2.1, cx.2.2.1, cx.2.2.2.2.2.1, cx.2.2.2.2.2.2.1⟩ (hM H.size) ⟨⟨⟨rfl, rfl, hR.1, hR.2, tbl_pay hts hcode, List.mem_cons_self⟩, hts _ hcode, hts _ hini, ⟨hy.1, hy.2.1⟩, hlen, hts _ hlk⟩, hts _ hstt, trivial⟩ hpre rfl hn hl.1 rfl (lv_room hrm) hd hcs) cx hA hD hS hl kk
theorem x_callSN_I {y : MethodName} {bytes : ByteArray} {maxL index na : Nat} {rt : Option FieldType} {rm2 : Room} {rv : Int32} {w3 : va_W} {host : String} {As rest : List Value} (hd : decode cc pc = .ok (.invokestatic index, 3)) (hlk : Cond.methodLinkNest own index y host ∈ big) (hstt : Cond.static y ∈ big) (hcode : Cond.code y bytes maxL rt ∈ big) (hini : Cond.initialized y.cls ∈ big) (hy : y.cls ≠ "java/lang/invoke/MethodHandle" ∧ y.cls ≠ "java/lang/invoke/VarHandle" ∧ (parseMethodDescriptor y.desc).map (fun d => d.parameters.length) = some na) (hR : rm2.frames + 1 ≤ R.frames ∧ 8 + (maxL + 11) + rm2.locals ≤ R.locals) (hz : rm2.cells = 0 ∧ rm2.slots = 0) (hcr : kc ≤ R.cells ∧ ks ≤ R.slots) (hM : CT l y bytes maxL rt rm2 G As w (pI rv w3)) (hn : As.length = na) (hst : st = As.reverse ++ rest) (hrm : (rest.map fun v => v.category).sum ≤ 8) (k1 : xj E l R cc nL ret own G A mc ms post kc ks w3 (pc + 3) (lv) (.int rv :: rest)) : xj E l R cc nL ret own G A mc ms post kc ks w (pc) (lv) (st) := by
  have hcs : kc + rm2.cells ≤ R.cells ∧ ks + rm2.slots ≤ R.slots := by rw [hz.1, hz.2]; exact hcr
  refine x_callSN hd hlk hstt hcode hini hy hR hcs hM hn hst hrm (fun v w2 hp => ?_)
  obtain ⟨rfl, rfl⟩ := hp
  rw [hz.1, hz.2]
  exact k1
theorem x_callSN_L {y : MethodName} {bytes : ByteArray} {maxL index na : Nat} {rt : Option FieldType} {rm2 : Room} {rv : Int64} {w3 : va_W} {host : String} {As rest : List Value} (hd : decode cc pc = .ok (.invokestatic index, 3)) (hlk : Cond.methodLinkNest own index y host ∈ big) (hstt : Cond.static y ∈ big) (hcode : Cond.code y bytes maxL rt ∈ big) (hini : Cond.initialized y.cls ∈ big) (hy : y.cls ≠ "java/lang/invoke/MethodHandle" ∧ y.cls ≠ "java/lang/invoke/VarHandle" ∧ (parseMethodDescriptor y.desc).map (fun d => d.parameters.length) = some na) (hR : rm2.frames + 1 ≤ R.frames ∧ 8 + (maxL + 11) + rm2.locals ≤ R.locals) (hz : rm2.cells = 0 ∧ rm2.slots = 0) (hcr : kc ≤ R.cells ∧ ks ≤ R.slots) (hM : CT l y bytes maxL rt rm2 G As w (pL rv w3)) (hn : As.length = na) (hst : st = As.reverse ++ rest) (hrm : (rest.map fun v => v.category).sum ≤ 8) (k1 : xj E l R cc nL ret own G A mc ms post kc ks w3 (pc + 3) (lv) (.long rv :: rest)) : xj E l R cc nL ret own G A mc ms post kc ks w (pc) (lv) (st) := by
  have hcs : kc + rm2.cells ≤ R.cells ∧ ks + rm2.slots ≤ R.slots := by rw [hz.1, hz.2]; exact hcr
  refine x_callSN hd hlk hstt hcode hini hy hR hcs hM hn hst hrm (fun v w2 hp => ?_)
  obtain ⟨rfl, rfl⟩ := hp
  rw [hz.1, hz.2]
  exact k1
theorem x_callSN_Z {y : MethodName} {bytes : ByteArray} {maxL index na : Nat} {rt : Option FieldType} {rm2 : Room}  {w3 : va_W} {host : String} {As rest : List Value} (hd : decode cc pc = .ok (.invokestatic index, 3)) (hlk : Cond.methodLinkNest own index y host ∈ big) (hstt : Cond.static y ∈ big) (hcode : Cond.code y bytes maxL rt ∈ big) (hini : Cond.initialized y.cls ∈ big) (hy : y.cls ≠ "java/lang/invoke/MethodHandle" ∧ y.cls ≠ "java/lang/invoke/VarHandle" ∧ (parseMethodDescriptor y.desc).map (fun d => d.parameters.length) = some na) (hR : rm2.frames + 1 ≤ R.frames ∧ 8 + (maxL + 11) + rm2.locals ≤ R.locals) (hz : rm2.cells = 0 ∧ rm2.slots = 0) (hcr : kc ≤ R.cells ∧ ks ≤ R.slots) (hM : CT l y bytes maxL rt rm2 G As w (pV w3)) (hn : As.length = na) (hst : st = As.reverse ++ rest) (hrm : (rest.map fun v => v.category).sum ≤ 8) (k1 : xj E l R cc nL ret own G A mc ms post kc ks w3 (pc + 3) (lv) (rest)) : xj E l R cc nL ret own G A mc ms post kc ks w (pc) (lv) (st) := by
  have hcs : kc + rm2.cells ≤ R.cells ∧ ks + rm2.slots ≤ R.slots := by rw [hz.1, hz.2]; exact hcr
  refine x_callSN hd hlk hstt hcode hini hy hR hcs hM hn hst hrm (fun v w2 hp => ?_)
  obtain ⟨rfl, rfl⟩ := hp
  rw [hz.1, hz.2]
  exact k1
theorem x_callSN_X {y : MethodName} {bytes : ByteArray} {maxL index na : Nat} {rt : Option FieldType} {rm2 : Room} {post2 : Option Value → va_W → Prop} {host : String} {As rest : List Value} (hd : decode cc pc = .ok (.invokestatic index, 3)) (hlk : Cond.methodLinkNest own index y host ∈ big) (hstt : Cond.static y ∈ big) (hcode : Cond.code y bytes maxL rt ∈ big) (hini : Cond.initialized y.cls ∈ big) (hy : y.cls ≠ "java/lang/invoke/MethodHandle" ∧ y.cls ≠ "java/lang/invoke/VarHandle" ∧ (parseMethodDescriptor y.desc).map (fun d => d.parameters.length) = some na) (hR : rm2.frames + 1 ≤ R.frames ∧ 8 + (maxL + 11) + rm2.locals ≤ R.locals) (hz : rm2.cells = 0 ∧ rm2.slots = 0) (hcr : kc ≤ R.cells ∧ ks ≤ R.slots) (hM : CT l y bytes maxL rt rm2 G As w (post2)) (hn : As.length = na) (hst : st = As.reverse ++ rest) (hrm : (rest.map fun v => v.category).sum ≤ 8) (k1 : ∀ (v : Option Value) (w2 : va_W), post2 v w2 → xj E l R cc nL ret own G A mc ms post kc ks w2 (pc + 3) (lv) (v.toList ++ rest)) : xj E l R cc nL ret own G A mc ms post kc ks w (pc) (lv) (st) := by
  have hcs : kc + rm2.cells ≤ R.cells ∧ ks + rm2.slots ≤ R.slots := by rw [hz.1, hz.2]; exact hcr
  refine x_callSN hd hlk hstt hcode hini hy hR hcs hM hn hst hrm (fun v w2 hp => ?_)
  rw [hz.1, hz.2]
  exact k1 v w2 hp
theorem x_callI {y : MethodName} {bytes : ByteArray} {maxL index na : Nat} {rm2 : Room} {post2 : Option Value → va_W → Prop} {b : Nat} {As rest : List Value} (hd : decode cc pc = .ok (.invokespecial index, 3)) (hlk : Cond.methodLink own index y ∈ big) (hinm : Cond.instanceMethod y ∈ big) (hy1 : y.name = "<init>") (hcode : Cond.code y bytes maxL none ∈ big) (hini : Cond.initialized y.cls ∈ big) (hy : y.cls ≠ "java/lang/invoke/MethodHandle" ∧ y.cls ≠ "java/lang/invoke/VarHandle" ∧ (parseMethodDescriptor y.desc).map (fun d => d.parameters.length) = some na) (hR : rm2.frames + 1 ≤ R.frames ∧ 8 + (maxL + 11) + rm2.locals ≤ R.locals) (hcs : kc + rm2.cells ≤ R.cells ∧ ks + rm2.slots ≤ R.slots) (hM : CT l y bytes maxL none rm2 G (.ref b :: As) w (post2)) (hn : As.length = na) (hst : st = As.reverse ++ .ref b :: rest) (hrm : (rest.map fun v => v.category).sum ≤ 8) (kk : ∀ (v : Option Value) (w2 : va_W), post2 v w2 → xj E l R cc nL ret own G A mc ms post (kc + rm2.cells) (ks + rm2.slots) w2 (pc + 3) (lv) (v.toList ++ rest)) : xj E l R cc nL ret own G A mc ms post kc ks w (pc) (lv) (st) := by
  intro cx hA H locs ls hP hD hS hl
  subst hst
  have hts := cx.2.2.2.2.2.2.1
  have hlen : ∀ sig, parseMethodDescriptor y.desc = some sig → na = sig.parameters.length := by
    intro sig h
    have h2 := hy.2.2
    rw [h] at h2
    exact (Option.some.inj h2).symm
  have hpre := ct_pre (av := .ref b :: As) cx.2.2.2.2.2.2.2 hP hD
  exact xe_call (va_runI (As := As) (rest := rest) ⟨cx.1, cx.2.1, cx.2.2.1, cx.2.2.2.2.2.1, cx.2.2.2.2.2.2.1⟩ (hM H.size) ⟨⟨rfl, rfl, hR.1, hR.2, tbl_pay hts hcode, List.mem_cons_self, hts _ hcode, hts _ hini, ⟨hy.1, hy.2.1⟩, hlen, hts _ hlk⟩, hy1, hts _ hinm⟩ hpre rfl hn hl.1 rfl (lv_room hrm) hd hcs) cx hA hD hS hl kk
theorem x_objInit {index a : Nat} (hd : decode cc pc = .ok (.invokespecial index, 3)) (hlk : Cond.methodLink own index objectInit ∈ big) (hin : Cond.instanceMethod objectInit ∈ big) (hcd : Cond.code objectInit ⟨#[0xb1]⟩ 1 none ∈ big) (hf : 1 ≤ R.frames) (hlc : (st.map fun v => v.category).sum + 12 ≤ R.locals) (k1 : xj E l R cc nL ret own G A mc ms post kc ks w (pc + 3) (lv) (st)) : xj E l R cc nL ret own G A mc ms post kc ks w (pc) (lv) (.ref a :: st) :=
  fun cx hA H locs ls hP hD hS hl => W.objInit cx.1 cx.2.1 cx.2.2.2.2.2.1 (cx.2.2.2.2.2.2.1 _ hlk) (cx.2.2.2.2.2.2.1 _ hin) (cx.2.2.2.2.2.2.1 _ hcd) rfl (hl.1.trans cx.2.2.1.symm) rfl hd hf (by show 2 * 0 + _ + 12 ≤ _; omega) (k1 cx hA H locs ls hP hD hS hl)
theorem x_newa {atype : ArrayType} {ty : FieldType} {N2 : Nat} {nn : Int32} {a0 : vp_A} (hd : decode cc pc = .ok (.newarray atype, 2)) (harr : Cond.arrayClass (newarray.typeOf atype) ∈ big) (hty : newarray.typeOf atype = ty) (ha : ∀ cA : ClassId, vp_cell cA a0 = arrV cA N2 (fun _ => defaultValue ty)) (hn : ¬ nn < 0) (hN : nn.toNatClampNeg = N2) (hbytes : N2 * componentBytes ty ≤ 536870912) (hcells : kc + 1 ≤ R.cells) (hslots : ks + N2 ≤ R.slots) (cA : ClassId) (hfc : ∀ s : State, tb G s → s.vm.findClass ("[" ++ ty.toString) = some cA)
    (k1 : ∀ q : Nat, xj E l R cc nL ret own G A mc ms post (kc + 1) (ks + N2) (w ++ [(q, .inl (cA, a0))]) (pc + 2) (lv) (.ref q :: st)) : xj E l R cc nL ret own G A mc ms post kc ks w (pc) (lv) (.int nn :: st) := by
  intro cx hA H locs ls hP hD hS hl
  subst hty
  refine va_newaK cx.1 cx.2.1 (cx.2.2.2.2.2.2.1 _ harr) rfl hd rfl hn hN hbytes hcells hslots rfl fun H1 cA1 e1 z1 o1 hAr hNm => ?_
  have hcc : cA1 = cA := Option.some.inj (hNm.symm.trans (hfc _ cx.2.2.2.2.2.2.2))
  subst hcc
  have hk : ∀ (k : Nat) (x : Nat × va_E), w[k]? = some x → H1[x.1]? = H[x.1]? := fun k x hx => o1 x.1 ((hP k x hx).lt)
  refine k1 H.size cx hA H1 locs ls ((hP.kept hk).app (fun k x hx => ?_)) (hD.push hP rfl (hA _ hS.1)) ⟨Nat.le_trans hS.1 (by omega), fun x h1 h2 => (o1 x (Nat.lt_of_lt_of_le h1 hS.1)).trans (hS.2.1 x h1 h2), hS.2.2⟩ hl
  have hz : k < 1 := (List.getElem?_eq_some_iff.mp hx).1
  rw [show k = 0 by omega] at hx
  cases hx
  show H1[H.size]? = some (vp_cell _ _)
  rw [ha]
  exact e1
theorem x_new {C : String} {T : u_T} {N ci index : Nat} {fs : List Value} (hd : decode cc pc = .ok (.new index, 3)) (hin : ∀ w ∈ u_ws C T N, w ∈ big) (ty : Nat → FieldType) (hty : ∀ k, k < N → parseFieldDescriptor (T k).2.2.1 = some (ty k)) (hlk : Cond.classLink own index C ∈ big) (hinst : Cond.instantiable C N ∈ big) (hini : Cond.initialized C ∈ big) (hc : G.2.1[ci]? = some (C, T, N)) (hfs : ∀ j, j < N → defaultValue (ty j) = vp_V fs j) (hcells : kc + 1 ≤ R.cells) (hslots : ks + N ≤ R.slots)
    (k1 : ∀ q : Nat, xj E l R cc nL ret own G A mc ms post (kc + 1) (ks + N) (w ++ [(q, .inr (ci, fs))]) (pc + 3) (lv) (.ref q :: st)) : xj E l R cc nL ret own G A mc ms post kc ks w (pc) (lv) (st) := by
  intro cx hA H locs ls hP hD hS hl
  have hts := cx.2.2.2.2.2.2.1
  exact va_new cx.1 cx.2.1 hts hin ty hty cx.2.2.2.2.2.1 (hts _ hlk) (hts _ hinst) (hts _ hini) cx.2.2.2.2.2.2.2 hP hD hS hA hc hfs hcells hslots hd (fun q H1 hP hD hS => k1 q cx hA H1 locs ls hP hD hS hl)
end XJ
