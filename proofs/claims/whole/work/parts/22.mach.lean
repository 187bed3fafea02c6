section MACH
variable {l : Launch} {D : va_G} {ad : Nat → Nat} {cI cL : ClassId} {par : Nat → Int32} {prm : Nat → Nat} {lin : Nat → Int32} {siz atm : Nat → Nat} {cnt : Nat} {own out bnd : Nat → Nat} {cal : Nat → Int32} {opr : Nat → Nat} {n ph oc : Nat} {P : Nat → Int32} {Q : Nat → Int64} {OC : Nat → Int32} {OP : Nat → Int64} {F : Nat → Int32} {S : Int64} {R : Int32} {vis nc : Nat} {gr md : Bool}
set_option maxHeartbeats 4000000 in
set_option maxRecDepth 100000 in
theorem t_JA_fill {aa nn : Nat} {f : Nat → Int32} {x : Int32} (hn : nn < 2147483648) : CT l y_JA_fill c_JA_fill 4 none (rmm 0 0) (gG D cI cL) [.ref aa, .int x] [(aa, .inl (cI, nn, .inl f))] (fun v w2 => ∃ e1, (v = none ∧ e1 = .inl (cI, nn, .inl (fun _ => x))) ∧ w2 = [(aa, e1)]) := by
  refine CT.of R_JA (by decide) rfl (Nat.le_of_ble_eq_true rfl) ?_
  intro E A hname
  refine x_iconst (pc := 0) (nI 0) d_JA_fill_0 (by decide) ?_
  refine x_istore_n (pc := 1) d_JA_fill_1 rfl (by decide) [(2, _), (0, _), (1, _)] rfl ?_
  refine x_aload_n (pc := 2) d_JA_fill_2 1 rfl ?_
  refine x_alen (pc := 3) d_JA_fill_3 0 0 rfl rfl ?_
  refine x_istore_n (pc := 4) d_JA_fill_4 rfl (by decide) [(3, _), (2, _), (0, _), (1, _)] rfl ?_
  have hlp : ∀ (fuel : Nat) (i : Nat) (g : Nat → Int32), nn - i < fuel → (i ≤ nn) → (∀ j, j < i → g j = x) → xj E l (rmm 0 0) c_JA_fill 4 none R_JA (gG D cI cL) A 0 0 (fun v w2 => ∃ e1, (v = none ∧ e1 = .inl (cI, nn, .inl (fun _ => x))) ∧ w2 = [(aa, e1)]) 0 0 [(aa, .inl (cI, nn, .inl g))] 5 [(2, .int (nI i)), (3, .int (nI nn)), (0, .ref aa), (1, .int x)] [] := by
    intro fuel
    induction fuel with
    | zero => intro i g hf; exact absurd hf (Nat.not_lt_zero _)
    | succ fuel ih =>
      intro i g hf hi hg
      refine x_iload_n (pc := 5) d_JA_fill_5 0 rfl ?_
      refine x_iload_n (pc := 6) d_JA_fill_6 1 rfl ?_
      first | refine x_icmp_geN (pc := 7) (tgt := 20) d_JA_fill_7 rfl (by omega) (by omega) ?_ ?_ | refine x_icmp_ge (pc := 7) (tgt := 20) d_JA_fill_7 rfl ?_ ?_
      · intro h7
        refine x_row (fun _ => x) 0 rfl (fun j hj => hg j (by omega)) ?_
        refine x_vret (pc := 20) d_JA_fill_20 rfl ?_
        exact ⟨_, ⟨rfl, rfl⟩, rfl⟩
      · intro h7
        refine x_aload_n (pc := 10) d_JA_fill_10 2 rfl ?_
        refine x_iload_n (pc := 11) d_JA_fill_11 0 rfl ?_
        refine x_iload_n (pc := 12) d_JA_fill_12 3 rfl ?_
        first | refine x_iastU (pc := 13) d_JA_fill_13 0 0 rfl rfl (by omega) (by omega) ?_ | refine x_iastN (pc := 13) d_JA_fill_13 0 0 rfl rfl (by omega) (by omega) _ rfl ?_
        refine x_iincN (pc := 14) d_JA_fill_14 0 rfl (by decide) [(2, _), (3, _), (0, _), (1, _)] rfl ?_
        refine x_goto (pc := 17) (tgt := 5) d_JA_fill_17 rfl ?_
        refine x_sub [0, 1, 2, 3] _ rfl ?_
        refine ih (i + 1) (upd g i x) (by omega) (by omega) (fun j hj => ?_)
        by_cases e : j = i
        · rw [e, upd_self]
        · rw [upd_ne _ _ e]
          exact hg j (by omega)
  refine x_sub [1, 0, 2, 3] _ rfl ?_
  exact hlp (nn + 1) 0 f (by omega) (by omega) (fun j hj => absurd hj (Nat.not_lt_zero j))
set_option maxHeartbeats 4000000 in
set_option maxRecDepth 100000 in
theorem t_JA_fill_JJV {aa nn : Nat} {f : Nat → Int64} {x : Int64} (hn : nn < 2147483648) : CT l y_JA_fill_JJV c_JA_fill_JJV 5 none (rmm 0 0) (gG D cI cL) [.ref aa, .long x] [(aa, .inl (cL, nn, .inr (.inl f)))] (fun v w2 => ∃ e1, (v = none ∧ e1 = .inl (cL, nn, .inr (.inl (fun _ => x)))) ∧ w2 = [(aa, e1)]) := by
  refine CT.of R_JA (by decide) rfl (Nat.le_of_ble_eq_true rfl) ?_
  intro E A hname
  refine x_iconst (pc := 0) (nI 0) d_JA_fill_JJV_0 (by decide) ?_
  refine x_istore_n (pc := 1) d_JA_fill_JJV_1 rfl (by decide) [(3, _), (0, _), (1, _)] rfl ?_
  refine x_aload_n (pc := 2) d_JA_fill_JJV_2 1 rfl ?_
  refine x_alen (pc := 3) d_JA_fill_JJV_3 0 1 rfl rfl ?_
  refine x_istore (pc := 4) d_JA_fill_JJV_4 (by decide) [(4, _), (3, _), (0, _), (1, _)] rfl ?_
  have hlp : ∀ (fuel : Nat) (i : Nat) (g : Nat → Int64), nn - i < fuel → (i ≤ nn) → (∀ j, j < i → g j = x) → xj E l (rmm 0 0) c_JA_fill_JJV 5 none R_JA (gG D cI cL) A 0 0 (fun v w2 => ∃ e1, (v = none ∧ e1 = .inl (cL, nn, .inr (.inl (fun _ => x)))) ∧ w2 = [(aa, e1)]) 0 0 [(aa, .inl (cL, nn, .inr (.inl g)))] 6 [(3, .int (nI i)), (4, .int (nI nn)), (0, .ref aa), (1, .long x)] [] := by
    intro fuel
    induction fuel with
    | zero => intro i g hf; exact absurd hf (Nat.not_lt_zero _)
    | succ fuel ih =>
      intro i g hf hi hg
      refine x_iload_n (pc := 6) d_JA_fill_JJV_6 0 rfl ?_
      refine x_iload (pc := 7) d_JA_fill_JJV_7 1 rfl ?_
      first | refine x_icmp_geN (pc := 9) (tgt := 22) d_JA_fill_JJV_9 rfl (by omega) (by omega) ?_ ?_ | refine x_icmp_ge (pc := 9) (tgt := 22) d_JA_fill_JJV_9 rfl ?_ ?_
      · intro h9
        refine x_rowL (fun _ => x) 0 rfl (fun j hj => hg j (by omega)) ?_
        refine x_vret (pc := 22) d_JA_fill_JJV_22 rfl ?_
        exact ⟨_, ⟨rfl, rfl⟩, rfl⟩
      · intro h9
        refine x_aload_n (pc := 12) d_JA_fill_JJV_12 2 rfl ?_
        refine x_iload_n (pc := 13) d_JA_fill_JJV_13 0 rfl ?_
        refine x_lload_n (pc := 14) d_JA_fill_JJV_14 3 rfl ?_
        refine x_lastN (pc := 15) d_JA_fill_JJV_15 0 1 rfl rfl (by omega) (by omega) (_) (rfl) ?_
        refine x_iincN (pc := 16) d_JA_fill_JJV_16 0 rfl (by decide) [(3, _), (4, _), (0, _), (1, _)] rfl ?_
        refine x_goto (pc := 19) (tgt := 6) d_JA_fill_JJV_19 rfl ?_
        refine x_sub [0, 1, 2, 3] _ rfl ?_
        refine ih (i + 1) (vp_updL g i x) (by omega) (by omega) (fun j hj => ?_)
        by_cases e : j = i
        · rw [e, updL_self]
        · rw [updL_ne _ _ e]
          exact hg j (by omega)
  refine x_sub [1, 0, 2, 3] _ rfl ?_
  exact hlp (nn + 1) 0 f (by omega) (by omega) (fun j hj => absurd hj (Nat.not_lt_zero j))
set_option maxHeartbeats 4000000 in
set_option maxRecDepth 100000 in
theorem t_M_forget  : CT l y_M_forget c_M_forget 1 none (rmm 0 0) (gG D cI cL) [.ref (ad 2)] (wC ad cI cL par prm lin siz atm cnt own out bnd cal opr n ph oc P Q OC OP F S R vis nc gr md) (pV (wC ad cI cL par prm lin siz atm cnt own out bnd cal opr n 0 oc P Q OC OP F S R vis nc gr md)) := by
  refine CT.of R_M (by decide) rfl (Nat.le_of_ble_eq_true rfl) ?_
  intro E A hname
  refine x_aload_n (pc := 0) d_M_forget_0 0 rfl ?_
  refine x_iconst (pc := 1) (nI 0) d_M_forget_1 (by decide) ?_
  refine x_put (pc := 2) (ci := 1) (ty := .int) d_M_forget_2 in_M t_M ty_M nm_M rfl 7 (by decide) k_M_31 rfl (by decide +kernel) rfl rfl 2 rfl (Nat.le_of_ble_eq_true rfl) (_) (rfl) ?_
  refine x_vret (pc := 5) d_M_forget_5 rfl ?_
  exact ⟨rfl, rfl⟩
set_option maxHeartbeats 4000000 in
set_option maxRecDepth 100000 in
theorem t_M_isStarted (hph : ph ≤ 4) : CT l y_M_isStarted c_M_isStarted 1 (some .boolean) (rmm 0 0) (gG D cI cL) [.ref (ad 2)] (wC ad cI cL par prm lin siz atm cnt own out bnd cal opr n ph oc P Q OC OP F S R vis nc gr md) (pI (bI (decide (¬ ph = 0))) (wC ad cI cL par prm lin siz atm cnt own out bnd cal opr n ph oc P Q OC OP F S R vis nc gr md)) := by
  refine CT.of R_M (by decide) rfl (Nat.le_of_ble_eq_true rfl) ?_
  intro E A hname
  refine x_aload_n (pc := 0) d_M_isStarted_0 0 rfl ?_
  refine x_get (pc := 1) (ci := 1) d_M_isStarted_1 in_M rfl 7 (by decide) k_M_31 2 rfl rfl ?_
  first | refine x_if_eqB (pc := 4) (tgt := 11) d_M_isStarted_4 rfl ?_ ?_ | refine x_if_eqL (pc := 4) (tgt := 11) d_M_isStarted_4 rfl ?_ ?_ | refine x_if_eqN (pc := 4) (tgt := 11) d_M_isStarted_4 rfl (by omega) ?_ ?_ | refine x_if_eq (pc := 4) (tgt := 11) d_M_isStarted_4 rfl ?_ ?_
  · intro h4
    refine x_iconst (pc := 11) (nI 0) d_M_isStarted_11 (by decide) ?_
    refine x_zret (pc := 12) d_M_isStarted_12 rfl (by first | rfl | exact bI_narrow _) ?_
    first | exact zt (decide_eq_true h4) | exact zf (decide_eq_false (fun q => q h4))
  · intro h4
    refine x_iconst (pc := 7) (nI 1) d_M_isStarted_7 (by decide) ?_
    refine x_goto (pc := 8) (tgt := 12) d_M_isStarted_8 rfl ?_
    refine x_zret (pc := 12) d_M_isStarted_12 rfl (by first | rfl | exact bI_narrow _) ?_
    first | exact zt (decide_eq_true h4) | exact zf (decide_eq_false (fun q => q h4))
set_option maxHeartbeats 4000000 in
set_option maxRecDepth 100000 in
theorem t_M_phase  : CT l y_M_phase c_M_phase 1 (some .int) (rmm 0 0) (gG D cI cL) [.ref (ad 2)] (wC ad cI cL par prm lin siz atm cnt own out bnd cal opr n ph oc P Q OC OP F S R vis nc gr md) (pI (nI ph) (wC ad cI cL par prm lin siz atm cnt own out bnd cal opr n ph oc P Q OC OP F S R vis nc gr md)) := by
  refine CT.of R_M (by decide) rfl (Nat.le_of_ble_eq_true rfl) ?_
  intro E A hname
  refine x_aload_n (pc := 0) d_M_phase_0 0 rfl ?_
  refine x_get (pc := 1) (ci := 1) d_M_phase_1 in_M rfl 7 (by decide) k_M_31 2 rfl rfl ?_
  refine x_iret (pc := 4) d_M_phase_4 rfl ?_
  exact ⟨rfl, rfl⟩
set_option maxHeartbeats 4000000 in
set_option maxRecDepth 100000 in
theorem t_M_outcome  : CT l y_M_outcome c_M_outcome 1 (some .int) (rmm 0 0) (gG D cI cL) [.ref (ad 2)] (wC ad cI cL par prm lin siz atm cnt own out bnd cal opr n ph oc P Q OC OP F S R vis nc gr md) (pI (nI oc) (wC ad cI cL par prm lin siz atm cnt own out bnd cal opr n ph oc P Q OC OP F S R vis nc gr md)) := by
  refine CT.of R_M (by decide) rfl (Nat.le_of_ble_eq_true rfl) ?_
  intro E A hname
  refine x_aload_n (pc := 0) d_M_outcome_0 0 rfl ?_
  refine x_get (pc := 1) (ci := 1) d_M_outcome_1 in_M rfl 8 (by decide) k_M_44 2 rfl rfl ?_
  refine x_iret (pc := 4) d_M_outcome_4 rfl ?_
  exact ⟨rfl, rfl⟩
set_option maxHeartbeats 4000000 in
set_option maxRecDepth 100000 in
theorem t_M_place (hn : n ≤ 64) : CT l y_M_place c_M_place 1 (some .int) (rmm 0 0) (gG D cI cL) [.ref (ad 2)] (wC ad cI cL par prm lin siz atm cnt own out bnd cal opr n ph oc P Q OC OP F S R vis nc gr md) (pI (nI (own n)) (wC ad cI cL par prm lin siz atm cnt own out bnd cal opr n ph oc P Q OC OP F S R vis nc gr md)) := by
  refine CT.of R_M (by decide) rfl (Nat.le_of_ble_eq_true rfl) ?_
  intro E A hname
  refine x_aload_n (pc := 0) d_M_place_0 0 rfl ?_
  refine x_get (pc := 1) (ci := 1) d_M_place_1 in_M rfl 1 (by decide) k_M_11 2 rfl rfl ?_
  refine x_aload_n (pc := 4) d_M_place_4 0 rfl ?_
  refine x_get (pc := 5) (ci := 1) d_M_place_5 in_M rfl 6 (by decide) k_M_35 2 rfl rfl ?_
  refine x_ialdN (pc := 8) d_M_place_8 9 0 rfl rfl (by omega) (by omega) ?_
  refine x_iret (pc := 9) d_M_place_9 rfl ?_
  exact ⟨rfl, rfl⟩
set_option maxHeartbeats 4000000 in
set_option maxRecDepth 100000 in
theorem t_M_calledFrom {x : Nat} (hx : x < 8) : CT l y_M_calledFrom c_M_calledFrom 2 (some .int) (rmm 0 0) (gG D cI cL) [.ref (ad 2), .int (nI x)] (wC ad cI cL par prm lin siz atm cnt own out bnd cal opr n ph oc P Q OC OP F S R vis nc gr md) (pI (cal x) (wC ad cI cL par prm lin siz atm cnt own out bnd cal opr n ph oc P Q OC OP F S R vis nc gr md)) := by
  refine CT.of R_M (by decide) rfl (Nat.le_of_ble_eq_true rfl) ?_
  intro E A hname
  refine x_aload_n (pc := 0) d_M_calledFrom_0 0 rfl ?_
  refine x_get (pc := 1) (ci := 1) d_M_calledFrom_1 in_M rfl 4 (by decide) k_M_21 2 rfl rfl ?_
  refine x_iload_n (pc := 4) d_M_calledFrom_4 1 rfl ?_
  refine x_ialdN (pc := 5) d_M_calledFrom_5 12 0 rfl rfl (by omega) (by omega) ?_
  refine x_iret (pc := 6) d_M_calledFrom_6 rfl ?_
  exact ⟨rfl, rfl⟩
set_option maxHeartbeats 4000000 in
set_option maxRecDepth 100000 in
theorem t_M_begin  : CT l y_M_begin c_M_begin 1 none (rmm 1 23) (gG D cI cL) [.ref (ad 2)] (wC ad cI cL par prm lin siz atm cnt own out bnd cal opr n ph oc P Q OC OP F S R vis nc gr md) (pV (wC ad cI cL par prm lin siz atm cnt own out bnd (fun _ => 0) opr 0 1 oc P Q OC OP F S R vis nc gr md)) := by
  refine CT.of R_M (by decide) rfl (Nat.le_of_ble_eq_true rfl) ?_
  intro E A hname
  refine x_aload_n (pc := 0) d_M_begin_0 0 rfl ?_
  refine x_iconst (pc := 1) (nI 1) d_M_begin_1 (by decide) ?_
  refine x_put (pc := 2) (ci := 1) (ty := .int) d_M_begin_2 in_M t_M ty_M nm_M rfl 7 (by decide) k_M_31 rfl (by decide +kernel) rfl rfl 2 rfl (Nat.le_of_ble_eq_true rfl) (_) (rfl) ?_
  refine x_aload_n (pc := 5) d_M_begin_5 0 rfl ?_
  refine x_iconst (pc := 6) (nI 0) d_M_begin_6 (by decide) ?_
  refine x_put (pc := 7) (ci := 1) (ty := .int) d_M_begin_7 in_M t_M ty_M nm_M rfl 6 (by decide) k_M_35 rfl (by decide +kernel) rfl rfl 2 rfl (Nat.le_of_ble_eq_true rfl) (_) (rfl) ?_
  refine x_aload_n (pc := 10) d_M_begin_10 0 rfl ?_
  refine x_get (pc := 11) (ci := 1) d_M_begin_11 in_M rfl 4 (by decide) k_M_21 2 rfl rfl ?_
  refine x_iconst (pc := 14) (nI 0) d_M_begin_14 (by decide) ?_
  refine x_callS_X (pc := 15) d_M_begin_15 k_M_38 ws_JA_fill w_JA_fill ini_JA wd_JA_fill ⟨by decide, by decide⟩ ⟨rfl, rfl⟩ ⟨Nat.zero_le _, Nat.zero_le _⟩ (CT.one 12 rfl (t_JA_fill (by decide))) rfl rfl (Nat.le_of_ble_eq_true rfl) (fun v15 w15 hp15 => ?_)
  obtain ⟨e1, ⟨rfl, rfl⟩, rfl⟩ := hp15
  refine x_vret (pc := 18) d_M_begin_18 rfl ?_
  exact ⟨rfl, rfl⟩
set_option maxHeartbeats 4000000 in
set_option maxRecDepth 100000 in
theorem t_M_bound {x i : Int32} (hw : pwf cnt par prm siz atm) (hm : mwf cnt par prm n own out bnd) : CT l y_M_bound c_M_bound 5 (some .int) (rmm 2 43) (gG D cI cL) [.ref (ad 2), .int x, .int i] (wC ad cI cL par prm lin siz atm cnt own out bnd cal opr n ph oc P Q OC OP F S R vis nc gr md) (pI (bval cnt prm n own out bnd x i) (wC ad cI cL par prm lin siz atm cnt own out bnd cal opr n ph oc P Q OC OP F S R vis nc gr md)) := by
  refine CT.of R_M (by decide) rfl (Nat.le_of_ble_eq_true rfl) ?_
  intro E A hname
  have hc8 : cnt ≤ 8 := hw.2.1
  have hp4 : ∀ l, l < 8 → prm l ≤ 4 := fun l h => Nat.le_trans (hw.2.2.2.1 l h) (by omega)
  have hn64 : n ≤ 64 := hm.1
  refine x_aload_n (pc := 0) d_M_bound_0 0 rfl ?_
  refine x_get (pc := 1) (ci := 1) d_M_bound_1 in_M rfl 0 (by decide) k_M_27 2 rfl rfl ?_
  refine x_iload_n (pc := 4) d_M_bound_4 1 rfl ?_
  refine x_iload_n (pc := 5) d_M_bound_5 2 rfl ?_
  refine x_callV_I (pc := 6) (ci := 2) d_M_bound_6 k_M_47 wi_P_hasParameter wv_P_hasParameter w_P_hasParameter ini_P wd_P_hasParameter ⟨by decide, by decide⟩ ⟨rfl, rfl⟩ ⟨Nat.zero_le _, Nat.zero_le _⟩ 1 rfl rfl (t_P_hasParameter hc8) rfl rfl (Nat.le_of_ble_eq_true rfl) ?_
  first | refine x_if_neB (pc := 9) (tgt := 14) d_M_bound_9 rfl ?_ ?_ | refine x_if_neL (pc := 9) (tgt := 14) d_M_bound_9 rfl ?_ ?_ | refine x_if_neN (pc := 9) (tgt := 14) d_M_bound_9 rfl (by omega) ?_ ?_ | refine x_if_ne (pc := 9) (tgt := 14) d_M_bound_9 rfl ?_ ?_
  · intro h9
    have hpt := h9
    obtain ⟨lx, ix, hlx, hix, rfl, rfl⟩ := hpr_of hc8 hp4 h9
    have hpx := hw.2.2.2.1 lx (by omega)
    refine x_aload_n (pc := 14) d_M_bound_14 0 rfl ?_
    refine x_get (pc := 15) (ci := 1) d_M_bound_15 in_M rfl 6 (by decide) k_M_35 2 rfl rfl ?_
    refine x_istore_n (pc := 18) d_M_bound_18 rfl (by decide) [(3, _), (0, _), (1, _), (2, _)] rfl ?_
    refine x_iconst (pc := 19) (nI 0) d_M_bound_19 (by decide) ?_
    refine x_istore (pc := 20) d_M_bound_20 (by decide) [(4, _), (3, _), (0, _), (1, _), (2, _)] rfl ?_
    have hlp : ∀ (fuel : Nat) (d : Nat) (e : Nat), 8 - d < fuel → (d ≤ 8) → (e ≤ n) → (mf own out lx 8 n = mf own out lx (8 - d) e) → xj E l (rmm 2 43) c_M_bound 5 (some .int) R_M (gG D cI cL) A 0 0 (pI (bval cnt prm n own out bnd (nI lx) (nI ix)) (wC ad cI cL par prm lin siz atm cnt own out bnd cal opr n ph oc P Q OC OP F S R vis nc gr md)) 0 0 (wC ad cI cL par prm lin siz atm cnt own out bnd cal opr n ph oc P Q OC OP F S R vis nc gr md) 22 [(4, .int (nI d)), (3, .int (nI e)), (0, .ref (ad 2)), (1, .int (nI lx)), (2, .int (nI ix))] [] := by
      intro fuel
      induction fuel with
      | zero => intro d e hf; exact absurd hf (Nat.not_lt_zero _)
      | succ fuel ih =>
        intro d e hf hd he hq
        have ho := hm.own_lt hw.1 he
        have hu := hm.out_le he
        refine x_iload (pc := 22) d_M_bound_22 0 rfl ?_
        refine x_bipush (pc := 24) (nI 8) d_M_bound_24 (by decide) ?_
        first | refine x_icmp_geN (pc := 26) (tgt := 63) d_M_bound_26 rfl (by omega) (by omega) ?_ ?_ | refine x_icmp_ge (pc := 26) (tgt := 63) d_M_bound_26 rfl ?_ ?_
        · intro h26
          refine x_iconst (pc := 63) (-1) d_M_bound_63 (by decide) ?_
          refine x_iret (pc := 64) d_M_bound_64 rfl ?_
          have e8 : 8 - d = 0 := by omega
          exact ⟨by rw [bval_none hpt (by omega) (by omega) (show mf own out lx 8 n = none by rw [hq, e8]; rfl)], rfl⟩
        · intro h26
          refine x_aload_n (pc := 29) d_M_bound_29 2 rfl ?_
          refine x_get (pc := 30) (ci := 1) d_M_bound_30 in_M rfl 1 (by decide) k_M_11 2 rfl rfl ?_
          refine x_iload_n (pc := 33) d_M_bound_33 1 rfl ?_
          refine x_ialdN (pc := 34) d_M_bound_34 9 0 rfl rfl (by omega) (by omega) ?_
          refine x_iload_n (pc := 35) d_M_bound_35 3 rfl ?_
          first | refine x_icmp_neN (pc := 36) (tgt := 50) d_M_bound_36 rfl (by omega) (by omega) ?_ ?_ | refine x_icmp_ne (pc := 36) (tgt := 50) d_M_bound_36 rfl ?_ ?_
          · intro h36
            refine x_aload_n (pc := 50) d_M_bound_50 2 rfl ?_
            refine x_get (pc := 51) (ci := 1) d_M_bound_51 in_M rfl 2 (by decide) k_M_15 2 rfl rfl ?_
            refine x_iload_n (pc := 54) d_M_bound_54 1 rfl ?_
            refine x_ialdN (pc := 55) d_M_bound_55 10 0 rfl rfl (by omega) (by omega) ?_
            refine x_istore_n (pc := 56) d_M_bound_56 rfl (by decide) [(3, _), (4, _), (0, _), (1, _), (2, _)] rfl ?_
            refine x_iincN (pc := 57) d_M_bound_57 1 rfl (by decide) [(4, _), (3, _), (0, _), (1, _), (2, _)] rfl ?_
            refine x_goto (pc := 60) (tgt := 22) d_M_bound_60 rfl ?_
            refine x_sub [0, 1, 2, 3, 4] _ rfl ?_
            have e8 : 8 - d = (8 - (d + 1)) + 1 := by omega
            exact ih (d + 1) (out e) (by omega) (by omega) (by omega) (by rw [hq, e8, mf_step h36])
          · intro h36
            refine x_aload_n (pc := 39) d_M_bound_39 2 rfl ?_
            refine x_get (pc := 40) (ci := 1) d_M_bound_40 in_M rfl 3 (by decide) k_M_18 2 rfl rfl ?_
            refine x_iload_n (pc := 43) d_M_bound_43 1 rfl ?_
            refine x_iconst (pc := 44) (nI 3) d_M_bound_44 (by decide) ?_
            first | refine x_imulN (pc := 45) d_M_bound_45 ?_ | refine x_imul (pc := 45) d_M_bound_45 ?_
            refine x_iload_n (pc := 46) d_M_bound_46 4 rfl ?_
            first | refine x_iaddN (pc := 47) d_M_bound_47 ?_ | refine x_iadd (pc := 47) d_M_bound_47 ?_
            refine x_ialdN (pc := 48) d_M_bound_48 11 0 rfl rfl (by omega) (by omega) ?_
            refine x_iret (pc := 49) d_M_bound_49 rfl ?_
            have e8 : 8 - d = (8 - (d + 1)) + 1 := by omega
            exact ⟨by rw [bval_some hpt (by omega) (by omega) (show mf own out lx 8 n = some e by rw [hq, e8, mf_hit h36]), Nat.mul_comm 3 e], rfl⟩
    refine x_sub [0, 1, 2, 3, 4] _ rfl ?_
    exact hlp 9 0 n (by omega) (by omega) (Nat.le_refl n) rfl
  · intro h9
    refine x_iconst (pc := 12) (-1) d_M_bound_12 (by decide) ?_
    refine x_iret (pc := 13) d_M_bound_13 rfl ?_
    exact ⟨by rw [bval_no h9], rfl⟩
set_option maxHeartbeats 4000000 in
set_option maxRecDepth 100000 in
theorem t_M_meaning {b : Nat} (hw : pwf cnt par prm siz atm) (hm : mwf cnt par prm n own out bnd) (hb : aok cnt par prm (own n) b) : CT l y_M_meaning c_M_meaning 2 (some .int) (rmm 3 67) (gG D cI cL) [.ref (ad 2), .int (nI b)] (wC ad cI cL par prm lin siz atm cnt own out bnd cal opr n ph oc P Q OC OP F S R vis nc gr md) (pI (nI (mval n own out bnd b)) (wC ad cI cL par prm lin siz atm cnt own out bnd cal opr n ph oc P Q OC OP F S R vis nc gr md)) := by
  refine CT.of R_M (by decide) rfl (Nat.le_of_ble_eq_true rfl) ?_
  intro E A hname
  have hc8 : cnt ≤ 8 := hw.2.1
  have hn64 : n ≤ 64 := hm.1
  have hb3 : b ≤ 302 := by rcases hb with q | q | q | q <;> omega
  refine x_iload_n (pc := 0) d_M_meaning_0 1 rfl ?_
  refine x_callSN_I (pc := 1) d_M_meaning_1 k_M_75 ws_C_isParameter w_C_isParameter ini_C wd_C_isParameter ⟨by decide, by decide⟩ ⟨rfl, rfl⟩ ⟨Nat.zero_le _, Nat.zero_le _⟩ (t_C_isParameter) rfl rfl (Nat.le_of_ble_eq_true rfl) ?_
  rw [lo_nI (by omega) (by omega) (by omega)]
  first | refine x_if_eqB (pc := 4) (tgt := 20) d_M_meaning_4 rfl ?_ ?_ | refine x_if_eqL (pc := 4) (tgt := 20) d_M_meaning_4 rfl ?_ ?_ | refine x_if_eqN (pc := 4) (tgt := 20) d_M_meaning_4 rfl (by omega) ?_ ?_ | refine x_if_eq (pc := 4) (tgt := 20) d_M_meaning_4 rfl ?_ ?_
  · intro h4
    have g4 := of_decide_eq_false h4
    refine x_iload_n (pc := 20) d_M_meaning_20 1 rfl ?_
    refine x_callSN_I (pc := 21) d_M_meaning_21 k_M_88 ws_C_isLambda w_C_isLambda ini_C wd_C_isLambda ⟨by decide, by decide⟩ ⟨rfl, rfl⟩ ⟨Nat.zero_le _, Nat.zero_le _⟩ (t_C_isLambda) rfl rfl (Nat.le_of_ble_eq_true rfl) ?_
    rw [lo_nI (by omega) (by omega) (by omega)]
    first | refine x_if_eqB (pc := 24) (tgt := 40) d_M_meaning_24 rfl ?_ ?_ | refine x_if_eqL (pc := 24) (tgt := 40) d_M_meaning_24 rfl ?_ ?_ | refine x_if_eqN (pc := 24) (tgt := 40) d_M_meaning_24 rfl (by omega) ?_ ?_ | refine x_if_eq (pc := 24) (tgt := 40) d_M_meaning_24 rfl ?_ ?_
    · intro h24
      have g24 := of_decide_eq_false h24
      refine x_iload_n (pc := 40) d_M_meaning_40 1 rfl ?_
      refine x_iret (pc := 41) d_M_meaning_41 rfl ?_
      unfold mval
      first | exact ⟨by rw [if_neg g4, if_pos g24], rfl⟩ | exact ⟨by rw [if_neg g4, if_neg g24], rfl⟩
    · intro h24
      have g24 := of_decide_eq_true h24
      refine x_aload_n (pc := 27) d_M_meaning_27 0 rfl ?_
      refine x_get (pc := 28) (ci := 1) d_M_meaning_28 in_M rfl 6 (by decide) k_M_35 2 rfl rfl ?_
      refine x_sipush (pc := 31) (nI 1000) d_M_meaning_31 (by decide) ?_
      first | refine x_imulN (pc := 34) d_M_meaning_34 ?_ | refine x_imul (pc := 34) d_M_meaning_34 ?_
      refine x_iload_n (pc := 35) d_M_meaning_35 1 rfl ?_
      first | refine x_iaddN (pc := 36) d_M_meaning_36 ?_ | refine x_iadd (pc := 36) d_M_meaning_36 ?_
      refine x_goto (pc := 37) (tgt := 41) d_M_meaning_37 rfl ?_
      refine x_iret (pc := 41) d_M_meaning_41 rfl ?_
      unfold mval
      first | exact ⟨by rw [if_neg g4, if_pos g24], rfl⟩ | exact ⟨by rw [if_neg g4, if_neg g24], rfl⟩
  · intro h4
    have g4 := of_decide_eq_true h4
    refine x_aload_n (pc := 7) d_M_meaning_7 0 rfl ?_
    refine x_iload_n (pc := 8) d_M_meaning_8 1 rfl ?_
    refine x_callSN_I (pc := 9) d_M_meaning_9 k_M_79 ws_C_lambdaOfParameter w_C_lambdaOfParameter ini_C wd_C_lambdaOfParameter ⟨by decide, by decide⟩ ⟨rfl, rfl⟩ ⟨Nat.zero_le _, Nat.zero_le _⟩ (t_C_lambdaOfParameter g4.1 (by omega)) rfl rfl (Nat.le_of_ble_eq_true rfl) ?_
    refine x_iload_n (pc := 12) d_M_meaning_12 1 rfl ?_
    refine x_callSN_I (pc := 13) d_M_meaning_13 k_M_82 ws_C_indexOfParameter w_C_indexOfParameter ini_C wd_C_indexOfParameter ⟨by decide, by decide⟩ ⟨rfl, rfl⟩ ⟨Nat.zero_le _, Nat.zero_le _⟩ (t_C_indexOfParameter g4.1 (by omega)) rfl rfl (Nat.le_of_ble_eq_true rfl) ?_
    refine x_callV_I (pc := 16) (ci := 1) d_M_meaning_16 k_M_85 wi_M_bound wv_M_bound w_M_bound ini_M wd_M_bound ⟨by decide, by decide⟩ ⟨rfl, rfl⟩ ⟨Nat.zero_le _, Nat.zero_le _⟩ 2 rfl rfl (t_M_bound hw hm) rfl rfl (Nat.le_of_ble_eq_true rfl) ?_
    refine x_iret (pc := 19) d_M_meaning_19 rfl ?_
    exact ⟨by rw [bval_mval hw hm hb g4.1 g4.2], rfl⟩
end MACH
