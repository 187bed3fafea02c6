section REF2
variable {l : Launch} {D : va_G} {ad : Nat → Nat} {cI cL : ClassId} {par : Nat → Int32} {prm siz atm : Nat → Nat} {cnt : Nat} {mo he en ap oc : Nat} {cal : Nat → Int32} {el : Nat → Nat} {eu : Nat → Int32} {ev ag : Nat → Nat} {an : Bool} {kk : Nat} {P : Nat → Int32} {Q : Nat → Int64} {S : Int64} {F : Nat → Int32} {R : Int32} {ch : Bool} {AP : Nat → Int32} {AQ : Nat → Int64}
set_option maxHeartbeats 4000000 in
set_option maxRecDepth 100000 in
theorem t_R_atom {x i : Int32} (hw : pwf cnt par prm siz atm) : CT l y_R_atom c_R_atom 3 (some .int) (rmm 1 21) (gG D cI cL) [.ref (ad 0), .int x, .int i] (wR ad cI cL par prm siz atm cnt mo he en ap oc cal el eu ev ag an kk P Q S F R ch AP AQ) (pI (aval cnt siz atm x i) (wR ad cI cL par prm siz atm cnt mo he en ap oc cal el eu ev ag an kk P Q S F R ch AP AQ)) := by
  refine CT.of R_R (by decide) rfl (Nat.le_of_ble_eq_true rfl) ?_
  intro E A hname
  refine x_aload_n (pc := 0) d_R_atom_0 0 rfl ?_
  refine x_iload_n (pc := 1) d_R_atom_1 1 rfl ?_
  refine x_callV_I (pc := 2) (ci := 4) d_R_atom_2 k_R_64 wi_R_isLambda wv_R_isLambda w_R_isLambda ini_R wd_R_isLambda ⟨by decide, by decide⟩ ⟨rfl, rfl⟩ ⟨Nat.zero_le _, Nat.zero_le _⟩ 0 rfl rfl (t_R_isLambda) rfl rfl (Nat.le_of_ble_eq_true rfl) ?_
  first | refine x_if_eqB (pc := 5) (tgt := 22) d_R_atom_5 rfl ?_ ?_ | refine x_if_eqL (pc := 5) (tgt := 22) d_R_atom_5 rfl ?_ ?_ | refine x_if_eqN (pc := 5) (tgt := 22) d_R_atom_5 rfl (by omega) ?_ ?_ | refine x_if_eq (pc := 5) (tgt := 22) d_R_atom_5 rfl ?_ ?_
  · intro h5
    refine x_iconst (pc := 22) (-1) d_R_atom_22 (by decide) ?_
    refine x_goto (pc := 23) (tgt := 36) d_R_atom_23 rfl ?_
    refine x_iret (pc := 36) d_R_atom_36 rfl ?_
    first
      | exact ⟨congrArg (fun z => some (Value.int z)) (aval_t (atm := atm) hpt (by omega) (by omega)).symm, rfl⟩
      | exact ⟨congrArg (fun z => some (Value.int z)) (aval_f (atm := atm) (show hpr cnt siz x i = false by unfold hpr; rw [h5]; rfl)).symm, rfl⟩
      | exact ⟨congrArg (fun z => some (Value.int z)) (aval_f (atm := atm) (show hpr cnt siz (nI lx) i = false by rw [hpr_nI hc8 hlx]; exact decide_eq_false (fun q => Int32.not_lt.mpr q.1 h9))).symm, rfl⟩
      | exact ⟨congrArg (fun z => some (Value.int z)) (aval_f (atm := atm) (show hpr cnt siz (nI lx) i = false by rw [hpr_nI hc8 hlx]; exact decide_eq_false (fun q => h19 q.2))).symm, rfl⟩
  · intro h5
    obtain ⟨lx, hlx, rfl⟩ := hl_of hw.2.1 h5
    have hc8 := hw.2.1
    have hz := hw.2.2.2.2.2.1 lx (by omega)
    refine x_iload_n (pc := 8) d_R_atom_8 2 rfl ?_
    refine x_if_lt (pc := 9) (tgt := 22) d_R_atom_9 rfl ?_ ?_
    · intro h9
      refine x_iconst (pc := 22) (-1) d_R_atom_22 (by decide) ?_
      refine x_goto (pc := 23) (tgt := 36) d_R_atom_23 rfl ?_
      refine x_iret (pc := 36) d_R_atom_36 rfl ?_
      first
        | exact ⟨congrArg (fun z => some (Value.int z)) (aval_t (atm := atm) hpt (by omega) (by omega)).symm, rfl⟩
        | exact ⟨congrArg (fun z => some (Value.int z)) (aval_f (atm := atm) (show hpr cnt siz x i = false by unfold hpr; rw [h5]; rfl)).symm, rfl⟩
        | exact ⟨congrArg (fun z => some (Value.int z)) (aval_f (atm := atm) (show hpr cnt siz (nI lx) i = false by rw [hpr_nI hc8 hlx]; exact decide_eq_false (fun q => Int32.not_lt.mpr q.1 h9))).symm, rfl⟩
        | exact ⟨congrArg (fun z => some (Value.int z)) (aval_f (atm := atm) (show hpr cnt siz (nI lx) i = false by rw [hpr_nI hc8 hlx]; exact decide_eq_false (fun q => h19 q.2))).symm, rfl⟩
    · intro h9
      refine x_iload_n (pc := 12) d_R_atom_12 2 rfl ?_
      refine x_aload_n (pc := 13) d_R_atom_13 0 rfl ?_
      refine x_get (pc := 14) (ci := 4) d_R_atom_14 in_R rfl 3 (by decide) k_R_20 0 rfl rfl ?_
      refine x_iload_n (pc := 17) d_R_atom_17 1 rfl ?_
      refine x_ialdN (pc := 18) d_R_atom_18 3 0 rfl rfl (by omega) (by omega) ?_
      refine x_icmp_lt (pc := 19) (tgt := 26) d_R_atom_19 rfl ?_ ?_
      · intro h19
        have hpt : hpr cnt siz (nI lx) i = true := by rw [hpr_nI hc8 hlx]; exact decide_eq_true ⟨Int32.not_lt.mp h9, h19⟩
        obtain ⟨l2, ix, _, hix, e1, rfl⟩ := hpr_of hc8 hw.2.2.2.2.2.1 hpt
        have e2 := nI_inj (by omega) (by omega) e1
        subst e2
        refine x_aload_n (pc := 26) d_R_atom_26 0 rfl ?_
        refine x_get (pc := 27) (ci := 4) d_R_atom_27 in_R rfl 4 (by decide) k_R_23 0 rfl rfl ?_
        refine x_iconst (pc := 30) (nI 4) d_R_atom_30 (by decide) ?_
        refine x_iload_n (pc := 31) d_R_atom_31 1 rfl ?_
        first | refine x_imulN (pc := 32) d_R_atom_32 ?_ | refine x_imul (pc := 32) d_R_atom_32 ?_
        refine x_iload_n (pc := 33) d_R_atom_33 2 rfl ?_
        first | refine x_iaddN (pc := 34) d_R_atom_34 ?_ | refine x_iadd (pc := 34) d_R_atom_34 ?_
        refine x_ialdN (pc := 35) d_R_atom_35 4 0 rfl rfl (by omega) (by omega) ?_
        refine x_iret (pc := 36) d_R_atom_36 rfl ?_
        first
          | exact ⟨congrArg (fun z => some (Value.int z)) (aval_t (atm := atm) hpt (by omega) (by omega)).symm, rfl⟩
          | exact ⟨congrArg (fun z => some (Value.int z)) (aval_f (atm := atm) (show hpr cnt siz x i = false by unfold hpr; rw [h5]; rfl)).symm, rfl⟩
          | exact ⟨congrArg (fun z => some (Value.int z)) (aval_f (atm := atm) (show hpr cnt siz (nI lx) i = false by rw [hpr_nI hc8 hlx]; exact decide_eq_false (fun q => Int32.not_lt.mpr q.1 h9))).symm, rfl⟩
          | exact ⟨congrArg (fun z => some (Value.int z)) (aval_f (atm := atm) (show hpr cnt siz (nI lx) i = false by rw [hpr_nI hc8 hlx]; exact decide_eq_false (fun q => h19 q.2))).symm, rfl⟩
      · intro h19
        refine x_iconst (pc := 22) (-1) d_R_atom_22 (by decide) ?_
        refine x_goto (pc := 23) (tgt := 36) d_R_atom_23 rfl ?_
        refine x_iret (pc := 36) d_R_atom_36 rfl ?_
        first
          | exact ⟨congrArg (fun z => some (Value.int z)) (aval_t (atm := atm) hpt (by omega) (by omega)).symm, rfl⟩
          | exact ⟨congrArg (fun z => some (Value.int z)) (aval_f (atm := atm) (show hpr cnt siz x i = false by unfold hpr; rw [h5]; rfl)).symm, rfl⟩
          | exact ⟨congrArg (fun z => some (Value.int z)) (aval_f (atm := atm) (show hpr cnt siz (nI lx) i = false by rw [hpr_nI hc8 hlx]; exact decide_eq_false (fun q => Int32.not_lt.mpr q.1 h9))).symm, rfl⟩
          | exact ⟨congrArg (fun z => some (Value.int z)) (aval_f (atm := atm) (show hpr cnt siz (nI lx) i = false by rw [hpr_nI hc8 hlx]; exact decide_eq_false (fun q => h19 q.2))).symm, rfl⟩
set_option maxHeartbeats 4000000 in
set_option maxRecDepth 100000 in
theorem t_R_start  : CT l y_R_start c_R_start 2 none (rmm 0 0) (gG D cI cL) [.ref (ad 0)] (wR ad cI cL par prm siz atm cnt mo he en ap oc cal el eu ev ag an kk P Q S F R ch AP AQ) (pV (wR ad cI cL par prm siz atm cnt 1 0 0 0 oc (fun _ => 0) (un el 0 0) (upd eu 0 (-1)) ev ag an kk P Q S F R ch AP AQ)) := by
  refine CT.of R_R (by decide) rfl (Nat.le_of_ble_eq_true rfl) ?_
  intro E A hname
  refine x_aload_n (pc := 0) d_R_start_0 0 rfl ?_
  refine x_iconst (pc := 1) (nI 1) d_R_start_1 (by decide) ?_
  refine x_put (pc := 2) (ci := 4) (ty := .int) d_R_start_2 in_R t_R ty_R nm_R rfl 5 (by decide) k_R_57 rfl (by decide +kernel) rfl rfl 0 rfl (Nat.le_of_ble_eq_true rfl) (_) (rfl) ?_
  refine x_aload_n (pc := 5) d_R_start_5 0 rfl ?_
  refine x_iconst (pc := 6) (nI 0) d_R_start_6 (by decide) ?_
  refine x_put (pc := 7) (ci := 4) (ty := .int) d_R_start_7 in_R t_R ty_R nm_R rfl 6 (by decide) k_R_78 rfl (by decide +kernel) rfl rfl 0 rfl (Nat.le_of_ble_eq_true rfl) (_) (rfl) ?_
  refine x_aload_n (pc := 10) d_R_start_10 0 rfl ?_
  refine x_iconst (pc := 11) (nI 0) d_R_start_11 (by decide) ?_
  refine x_put (pc := 12) (ci := 4) (ty := .int) d_R_start_12 in_R t_R ty_R nm_R rfl 7 (by decide) k_R_81 rfl (by decide +kernel) rfl rfl 0 rfl (Nat.le_of_ble_eq_true rfl) (_) (rfl) ?_
  refine x_aload_n (pc := 15) d_R_start_15 0 rfl ?_
  refine x_iconst (pc := 16) (nI 0) d_R_start_16 (by decide) ?_
  refine x_put (pc := 17) (ci := 4) (ty := .int) d_R_start_17 in_R t_R ty_R nm_R rfl 8 (by decide) k_R_84 rfl (by decide +kernel) rfl rfl 0 rfl (Nat.le_of_ble_eq_true rfl) (_) (rfl) ?_
  refine x_aload_n (pc := 20) d_R_start_20 0 rfl ?_
  refine x_get (pc := 21) (ci := 4) d_R_start_21 in_R rfl 11 (by decide) k_R_29 0 rfl rfl ?_
  refine x_iconst (pc := 24) (nI 0) d_R_start_24 (by decide) ?_
  refine x_iconst (pc := 25) (nI 0) d_R_start_25 (by decide) ?_
  first | refine x_iastU (pc := 26) d_R_start_26 6 0 rfl rfl (by omega) (by omega) ?_ | refine x_iastN (pc := 26) d_R_start_26 6 0 rfl rfl (by omega) (by omega) _ rfl ?_
  refine x_aload_n (pc := 27) d_R_start_27 0 rfl ?_
  refine x_get (pc := 28) (ci := 4) d_R_start_28 in_R rfl 12 (by decide) k_R_32 0 rfl rfl ?_
  refine x_iconst (pc := 31) (nI 0) d_R_start_31 (by decide) ?_
  refine x_iconst (pc := 32) (-1) d_R_start_32 (by decide) ?_
  first | refine x_iastU (pc := 33) d_R_start_33 7 0 rfl rfl (by omega) (by omega) ?_ | refine x_iastN (pc := 33) d_R_start_33 7 0 rfl rfl (by omega) (by omega) _ rfl ?_
  refine x_iconst (pc := 34) (nI 0) d_R_start_34 (by decide) ?_
  refine x_istore_n (pc := 35) d_R_start_35 rfl (by decide) [(1, _), (0, _)] rfl ?_
  have hlp : ∀ (fuel : Nat) (i : Nat) (g : Nat → Int32), 8 - i < fuel → (i ≤ 8) → (∀ j, j < i → g j = 0) → xj E l (rmm 0 0) c_R_start 2 none R_R (gG D cI cL) A 0 0 (pV (wR ad cI cL par prm siz atm cnt 1 0 0 0 oc (fun _ => 0) (un el 0 0) (upd eu 0 (-1)) ev ag an kk P Q S F R ch AP AQ)) 0 0 (wR ad cI cL par prm siz atm cnt 1 0 0 0 oc g (un el 0 0) (upd eu 0 (-1)) ev ag an kk P Q S F R ch AP AQ) 36 [(1, .int (nI i)), (0, .ref (ad 0))] [] := by
    intro fuel
    induction fuel with
    | zero => intro i g hf; exact absurd hf (Nat.not_lt_zero _)
    | succ fuel ih =>
      intro i g hf hi hg
      refine x_iload_n (pc := 36) d_R_start_36 0 rfl ?_
      refine x_bipush (pc := 37) (nI 8) d_R_start_37 (by decide) ?_
      first | refine x_icmp_geN (pc := 39) (tgt := 55) d_R_start_39 rfl (by omega) (by omega) ?_ ?_ | refine x_icmp_ge (pc := 39) (tgt := 55) d_R_start_39 rfl ?_ ?_
      · intro h39
        refine x_row (fun _ => 0) 5 rfl (fun j hj => hg j (by omega)) ?_
        refine x_vret (pc := 55) d_R_start_55 rfl ?_
        exact ⟨rfl, rfl⟩
      · intro h39
        refine x_aload_n (pc := 42) d_R_start_42 1 rfl ?_
        refine x_get (pc := 43) (ci := 4) d_R_start_43 in_R rfl 10 (by decide) k_R_26 0 rfl rfl ?_
        refine x_iload_n (pc := 46) d_R_start_46 0 rfl ?_
        refine x_iconst (pc := 47) (nI 0) d_R_start_47 (by decide) ?_
        first | refine x_iastU (pc := 48) d_R_start_48 5 0 rfl rfl (by omega) (by omega) ?_ | refine x_iastN (pc := 48) d_R_start_48 5 0 rfl rfl (by omega) (by omega) _ rfl ?_
        refine x_iincN (pc := 49) d_R_start_49 0 rfl (by decide) [(1, _), (0, _)] rfl ?_
        refine x_goto (pc := 52) (tgt := 36) d_R_start_52 rfl ?_
        refine x_sub [0, 1] _ rfl ?_
        refine ih (i + 1) (upd g i (nI 0)) (by omega) (by omega) (fun j hj => ?_)
        by_cases e : j = i
        · rw [e, upd_self]
          exact nI_0
        · rw [upd_ne _ _ e]
          exact hg j (by omega)
  refine x_sub [0, 1] _ rfl ?_
  exact hlp 9 0 cal (by omega) (by omega) (fun j hj => absurd hj (Nat.not_lt_zero j))
set_option maxHeartbeats 4000000 in
set_option maxRecDepth 100000 in
theorem t_R_envOf {n : Nat} {own out bnd : Nat → Nat} {lx e : Nat} (hw : pwf cnt par prm siz atm) (hm : mwf cnt par prm n own out bnd) (hr : rrel prm n own out bnd el eu ev) (hlx : lx < 8) (hle : e ≤ n) : CT l y_R_envOf c_R_envOf 4 (some .int) (rmm 0 0) (gG D cI cL) [.ref (ad 0), .int (nI lx), .int (nI e)] (wR ad cI cL par prm siz atm cnt mo he en ap oc cal el eu ev ag an kk P Q S F R ch AP AQ) (pI (eo (mf own out lx 8 e)) (wR ad cI cL par prm siz atm cnt mo he en ap oc cal el eu ev ag an kk P Q S F R ch AP AQ)) := by
  refine CT.of R_R (by decide) rfl (Nat.le_of_ble_eq_true rfl) ?_
  intro E A hname
  have hc8 : cnt ≤ 8 := hw.2.1
  have hn64 : n ≤ 64 := hm.1
  have hoe := hm.own_lt hw.1 hle
  refine x_iload_n (pc := 0) d_R_envOf_0 2 rfl ?_
  refine x_istore_n (pc := 1) d_R_envOf_1 rfl (by decide) [(3, _), (0, _), (1, _), (2, _)] rfl ?_
  have hlp : ∀ (fuel : Nat) (z : Int32) (m : Nat), m < fuel → ((∃ t f, t ≤ n ∧ z = nI t ∧ own t < f ∧ m = own t + 1 ∧ mf own out lx 8 e = mf own out lx f t) ∨ (z = -1 ∧ m = 0 ∧ mf own out lx 8 e = none)) → xj E l (rmm 0 0) c_R_envOf 4 (some .int) R_R (gG D cI cL) A 0 0 (pI (eo (mf own out lx 8 e)) (wR ad cI cL par prm siz atm cnt mo he en ap oc cal el eu ev ag an kk P Q S F R ch AP AQ)) 0 0 (wR ad cI cL par prm siz atm cnt mo he en ap oc cal el eu ev ag an kk P Q S F R ch AP AQ) 2 [(3, .int z), (0, .ref (ad 0)), (1, .int (nI lx)), (2, .int (nI e))] [] := by
    intro fuel
    induction fuel with
    | zero => intro z m hf; exact absurd hf (Nat.not_lt_zero _)
    | succ fuel ih =>
      intro z m hf hz
      rcases hz with ⟨t, f, ht, rfl, hf1, hmm, hq⟩ | ⟨rfl, hmm, hq⟩
      · refine x_iload_n (pc := 2) d_R_envOf_2 0 rfl ?_
        refine x_if_ltN (pc := 3) (tgt := 26) d_R_envOf_3 rfl (by omega) ?_
        · intro h3
          refine x_aload_n (pc := 6) d_R_envOf_6 1 rfl ?_
          refine x_get (pc := 7) (ci := 4) d_R_envOf_7 in_R rfl 11 (by decide) k_R_29 0 rfl rfl ?_
          refine x_iload_n (pc := 10) d_R_envOf_10 0 rfl ?_
          refine x_ialdN (pc := 11) d_R_envOf_11 6 0 rfl rfl (by omega) (by omega) ?_
          have hel := hr.1 t ht
          have hot := hm.own_lt hw.1 ht
          refine x_iload_n (pc := 12) d_R_envOf_12 2 rfl ?_
          first | refine x_icmp_eqN (pc := 13) (tgt := 26) d_R_envOf_13 rfl (by omega) (by omega) ?_ ?_ | refine x_icmp_eq (pc := 13) (tgt := 26) d_R_envOf_13 rfl ?_ ?_
          · intro h13
            refine x_iload_n (pc := 26) d_R_envOf_26 0 rfl ?_
            refine x_iret (pc := 27) d_R_envOf_27 rfl ?_
            exact ⟨congrArg (fun z => some (Value.int z)) (show nI t = eo (mf own out lx 8 e) by obtain ⟨f2, rfl⟩ := mf_one (own := own) (out := out) (lam := lx) hf1; rw [hq, mf_hit (by rw [← hr.1 t ht]; exact h13)]; rfl), rfl⟩
          · intro h13
            refine x_aload_n (pc := 16) d_R_envOf_16 1 rfl ?_
            refine x_get (pc := 17) (ci := 4) d_R_envOf_17 in_R rfl 12 (by decide) k_R_32 0 rfl rfl ?_
            refine x_iload_n (pc := 20) d_R_envOf_20 0 rfl ?_
            refine x_ialdN (pc := 21) d_R_envOf_21 7 0 rfl rfl (by omega) (by omega) ?_
            refine x_istore_n (pc := 22) d_R_envOf_22 rfl (by decide) [(3, _), (0, _), (1, _), (2, _)] rfl ?_
            refine x_goto (pc := 23) (tgt := 2) d_R_envOf_23 rfl ?_
            refine x_sub [0, 1, 2, 3] _ rfl ?_
            obtain ⟨m2, hlt, hz2⟩ := env_next hm hw.2.2.1 hc8 hw.1 hr ht hf1 hmm hq h13
            exact ih (eu t) m2 (by omega) hz2
      · refine x_iload_n (pc := 2) d_R_envOf_2 0 rfl ?_
        refine x_if_lt (pc := 3) (tgt := 26) d_R_envOf_3 rfl ?_ ?_
        · intro h3
          refine x_iload_n (pc := 26) d_R_envOf_26 0 rfl ?_
          refine x_iret (pc := 27) d_R_envOf_27 rfl ?_
          exact ⟨congrArg (fun z => some (Value.int z)) (show (-1 : Int32) = eo (mf own out lx 8 e) by rw [hq]; rfl), rfl⟩
        · intro h3
          exact absurd (by decide) h3
  refine x_sub [0, 1, 2, 3] _ rfl ?_
  exact hlp (own e + 2) (nI e) (own e + 1) (by omega) (Or.inl ⟨e, 8, hle, rfl, by omega, rfl, rfl⟩)
set_option maxHeartbeats 4000000 in
set_option maxRecDepth 100000 in
theorem t_R_valueOf {n : Nat} {own out bnd : Nat → Nat} {b : Nat} (hw : pwf cnt par prm siz atm) (hm : mwf cnt par prm n own out bnd) (hr : rrel prm n own out bnd el eu ev) (hen : en = n) (hb : aok cnt par prm (own n) b) : CT l y_R_valueOf c_R_valueOf 3 (some .int) (rmm 1 23) (gG D cI cL) [.ref (ad 0), .int (nI b)] (wR ad cI cL par prm siz atm cnt mo he en ap oc cal el eu ev ag an kk P Q S F R ch AP AQ) (pI (nI (enc (mval n own out bnd b))) (wR ad cI cL par prm siz atm cnt mo he en ap oc cal el eu ev ag an kk P Q S F R ch AP AQ)) := by
  refine CT.of R_R (by decide) rfl (Nat.le_of_ble_eq_true rfl) ?_
  intro E A hname
  have hc8 : cnt ≤ 8 := hw.2.1
  have hn64 : n ≤ 64 := hm.1
  have hbb : b ≤ 302 := by rcases hb with q | q | q | q <;> omega
  have hon := hm.own_lt hw.1 (Nat.le_refl n)
  refine x_iload_n (pc := 0) d_R_valueOf_0 1 rfl ?_
  refine x_bipush (pc := 1) (nI 100) d_R_valueOf_1 (by decide) ?_
  first | refine x_icmp_ltN (pc := 3) (tgt := 13) d_R_valueOf_3 rfl (by omega) (by omega) ?_ ?_ | refine x_icmp_lt (pc := 3) (tgt := 13) d_R_valueOf_3 rfl ?_ ?_
  · intro h3
    refine x_iload_n (pc := 13) d_R_valueOf_13 1 rfl ?_
    refine x_iret (pc := 14) d_R_valueOf_14 rfl ?_
    exact ⟨congrArg (fun z => some (Value.int z)) (congrArg nI (mval_con (by rcases hb with q | q | q | q <;> omega)).symm), rfl⟩
  · intro h3
    refine x_iload_n (pc := 6) d_R_valueOf_6 1 rfl ?_
    refine x_sipush (pc := 7) (nI 300) d_R_valueOf_7 (by decide) ?_
    first | refine x_icmp_ltN (pc := 10) (tgt := 15) d_R_valueOf_10 rfl (by omega) (by omega) ?_ ?_ | refine x_icmp_lt (pc := 10) (tgt := 15) d_R_valueOf_10 rfl ?_ ?_
    · intro h10
      refine x_iload_n (pc := 15) d_R_valueOf_15 1 rfl ?_
      refine x_sipush (pc := 16) (nI 200) d_R_valueOf_16 (by decide) ?_
      first | refine x_icmp_ltN (pc := 19) (tgt := 40) d_R_valueOf_19 rfl (by omega) (by omega) ?_ ?_ | refine x_icmp_lt (pc := 19) (tgt := 40) d_R_valueOf_19 rfl ?_ ?_
      · intro h19
        have hb3 : 100 ≤ b ∧ b < 180 := by rcases hb with q | q | q | q <;> omega
        have hb4 : aos par ((b - 100) / 10) (own n) ∧ (b - 100) % 10 < prm ((b - 100) / 10) := by
          rcases hb with q | q | ⟨_, _, _, q4, q5⟩ | q
          · omega
          · omega
          · exact ⟨q5, q4⟩
          · omega
        obtain ⟨e, hee⟩ := mf_found hm hw.2.2.1 hc8 hw.1 8 n (Nat.le_refl n) (by omega) hb4.1
        obtain ⟨g1, g2⟩ := mf_some hm 8 n e (Nat.le_refl n) hee
        have hpe := hw.2.2.2.1 ((b - 100) / 10) (by omega)
        subst hen
        refine x_aload_n (pc := 40) d_R_valueOf_40 0 rfl ?_
        refine x_iload_n (pc := 41) d_R_valueOf_41 1 rfl ?_
        refine x_bipush (pc := 42) (nI 100) d_R_valueOf_42 (by decide) ?_
        first | refine x_isubN (pc := 44) d_R_valueOf_44 (by omega) ?_ | refine x_isub (pc := 44) d_R_valueOf_44 ?_
        refine x_bipush (pc := 45) (nI 10) d_R_valueOf_45 (by decide) ?_
        first | refine x_idivN (pc := 47) d_R_valueOf_47 (by omega) (by omega) (by omega) ?_ | refine x_idiv (pc := 47) d_R_valueOf_47 (by decide) ?_
        refine x_aload_n (pc := 48) d_R_valueOf_48 0 rfl ?_
        refine x_get (pc := 49) (ci := 4) d_R_valueOf_49 in_R rfl 7 (by decide) k_R_81 0 rfl rfl ?_
        refine x_callV_I (pc := 52) (ci := 4) d_R_valueOf_52 k_R_87 wi_R_envOf wv_R_envOf w_R_envOf ini_R wd_R_envOf ⟨by decide, by decide⟩ ⟨rfl, rfl⟩ ⟨Nat.zero_le _, Nat.zero_le _⟩ 0 rfl rfl (t_R_envOf hw hm hr (by omega) (Nat.le_refl _)) rfl rfl (Nat.le_of_ble_eq_true rfl) ?_
        rw [hee]
        refine x_ti (show eo (some e) = nI e from rfl) ?_
        refine x_istore_n (pc := 55) d_R_valueOf_55 rfl (by decide) [(2, _), (0, _), (1, _)] rfl ?_
        refine x_iload_n (pc := 56) d_R_valueOf_56 0 rfl ?_
        refine x_if_geN (pc := 57) (tgt := 64) d_R_valueOf_57 rfl (by omega) ?_
        · intro h57
          refine x_aload_n (pc := 64) d_R_valueOf_64 1 rfl ?_
          refine x_get (pc := 65) (ci := 4) d_R_valueOf_65 in_R rfl 13 (by decide) k_R_35 0 rfl rfl ?_
          refine x_iconst (pc := 68) (nI 3) d_R_valueOf_68 (by decide) ?_
          refine x_iload_n (pc := 69) d_R_valueOf_69 0 rfl ?_
          first | refine x_imulN (pc := 70) d_R_valueOf_70 ?_ | refine x_imul (pc := 70) d_R_valueOf_70 ?_
          refine x_iload_n (pc := 71) d_R_valueOf_71 2 rfl ?_
          refine x_bipush (pc := 72) (nI 10) d_R_valueOf_72 (by decide) ?_
          first | refine x_iremN (pc := 74) d_R_valueOf_74 (by omega) (by omega) (by omega) ?_ | refine x_irem (pc := 74) d_R_valueOf_74 (by decide) ?_
          first | refine x_iaddN (pc := 75) d_R_valueOf_75 ?_ | refine x_iadd (pc := 75) d_R_valueOf_75 ?_
          refine x_ialdN (pc := 76) d_R_valueOf_76 8 0 rfl rfl (by omega) (by omega) ?_
          refine x_iret (pc := 77) d_R_valueOf_77 rfl ?_
          exact ⟨congrArg (fun z => some (Value.int z)) (congrArg nI (by rw [mval_par hb3.1 hb3.2 hee, show b % 10 = (b - 100) % 10 by omega]; exact hr.2.2.2 e _ g1 (by rw [g2]; exact hb4.2))), rfl⟩
      · intro h19
        refine x_sipush (pc := 22) (nI 1000) d_R_valueOf_22 (by decide) ?_
        refine x_bipush (pc := 25) (nI 100) d_R_valueOf_25 (by decide) ?_
        refine x_iload_n (pc := 27) d_R_valueOf_27 1 rfl ?_
        refine x_sipush (pc := 28) (nI 200) d_R_valueOf_28 (by decide) ?_
        first | refine x_isubN (pc := 31) d_R_valueOf_31 (by omega) ?_ | refine x_isub (pc := 31) d_R_valueOf_31 ?_
        first | refine x_imulN (pc := 32) d_R_valueOf_32 ?_ | refine x_imul (pc := 32) d_R_valueOf_32 ?_
        first | refine x_iaddN (pc := 33) d_R_valueOf_33 ?_ | refine x_iadd (pc := 33) d_R_valueOf_33 ?_
        refine x_aload_n (pc := 34) d_R_valueOf_34 0 rfl ?_
        refine x_get (pc := 35) (ci := 4) d_R_valueOf_35 in_R rfl 7 (by decide) k_R_81 0 rfl rfl ?_
        first | refine x_iaddN (pc := 38) d_R_valueOf_38 ?_ | refine x_iadd (pc := 38) d_R_valueOf_38 ?_
        refine x_iret (pc := 39) d_R_valueOf_39 rfl ?_
        exact ⟨congrArg (fun z => some (Value.int z)) (congrArg nI (by rw [mval_lam (by omega) (by rcases hb with q | q | q | q <;> omega), hen])), rfl⟩
    · intro h10
      refine x_iload_n (pc := 13) d_R_valueOf_13 1 rfl ?_
      refine x_iret (pc := 14) d_R_valueOf_14 rfl ?_
      exact ⟨congrArg (fun z => some (Value.int z)) (congrArg nI (mval_con (by rcases hb with q | q | q | q <;> omega)).symm), rfl⟩
set_option maxHeartbeats 4000000 in
set_option maxRecDepth 100000 in
theorem t_R_isNumber {w : va_W} {x : Nat} (hx : x < 2147483648) : CT l y_R_isNumber c_R_isNumber 1 (some .boolean) (rmm 0 0) (gG D cI cL) [.int (nI x)] w (pI (bI (decide (x < 10))) w) := by
  refine CT.of R_R (by decide) rfl (Nat.le_of_ble_eq_true rfl) ?_
  intro E A hname
  refine x_iload_n (pc := 0) d_R_isNumber_0 0 rfl ?_
  refine x_bipush (pc := 1) (nI 10) d_R_isNumber_1 (by decide) ?_
  first | refine x_icmp_geN (pc := 3) (tgt := 10) d_R_isNumber_3 rfl (by omega) (by omega) ?_ ?_ | refine x_icmp_ge (pc := 3) (tgt := 10) d_R_isNumber_3 rfl ?_ ?_
  · intro h3
    refine x_iconst (pc := 10) (nI 0) d_R_isNumber_10 (by decide) ?_
    refine x_zret (pc := 11) d_R_isNumber_11 rfl (by first | rfl | exact bI_narrow _) ?_
    first | exact zt (decide_eq_true (by omega)) | exact zf (decide_eq_false (by omega))
  · intro h3
    refine x_iconst (pc := 6) (nI 1) d_R_isNumber_6 (by decide) ?_
    refine x_goto (pc := 7) (tgt := 11) d_R_isNumber_7 rfl ?_
    refine x_zret (pc := 11) d_R_isNumber_11 rfl (by first | rfl | exact bI_narrow _) ?_
    first | exact zt (decide_eq_true (by omega)) | exact zf (decide_eq_false (by omega))
set_option maxHeartbeats 4000000 in
set_option maxRecDepth 100000 in
theorem t_R_told {w : va_W} {x : Nat} (hx : x < 2147483648) : CT l y_R_told c_R_told 1 (some .int) (rmm 0 0) (gG D cI cL) [.int (nI x)] w (pI (nI (if x < 1000 then x else 200 + (x - 1000) / 100)) w) := by
  refine CT.of R_R (by decide) rfl (Nat.le_of_ble_eq_true rfl) ?_
  intro E A hname
  refine x_iload_n (pc := 0) d_R_told_0 0 rfl ?_
  refine x_sipush (pc := 1) (nI 1000) d_R_told_1 (by decide) ?_
  first | refine x_icmp_geN (pc := 4) (tgt := 11) d_R_told_4 rfl (by omega) (by omega) ?_ ?_ | refine x_icmp_ge (pc := 4) (tgt := 11) d_R_told_4 rfl ?_ ?_
  · intro h4
    refine x_sipush (pc := 11) (nI 200) d_R_told_11 (by decide) ?_
    refine x_iload_n (pc := 14) d_R_told_14 0 rfl ?_
    refine x_sipush (pc := 15) (nI 1000) d_R_told_15 (by decide) ?_
    first | refine x_isubN (pc := 18) d_R_told_18 (by omega) ?_ | refine x_isub (pc := 18) d_R_told_18 ?_
    refine x_bipush (pc := 19) (nI 100) d_R_told_19 (by decide) ?_
    first | refine x_idivN (pc := 21) d_R_told_21 (by omega) (by omega) (by omega) ?_ | refine x_idiv (pc := 21) d_R_told_21 (by decide) ?_
    first | refine x_iaddN (pc := 22) d_R_told_22 ?_ | refine x_iadd (pc := 22) d_R_told_22 ?_
    refine x_iret (pc := 23) d_R_told_23 rfl ?_
    first | exact ⟨congrArg (fun z => some (Value.int z)) (congrArg nI (if_pos (by omega)).symm), rfl⟩ | exact ⟨congrArg (fun z => some (Value.int z)) (congrArg nI (if_neg (by omega)).symm), rfl⟩
  · intro h4
    refine x_iload_n (pc := 7) d_R_told_7 0 rfl ?_
    refine x_goto (pc := 8) (tgt := 23) d_R_told_8 rfl ?_
    refine x_iret (pc := 23) d_R_told_23 rfl ?_
    first | exact ⟨congrArg (fun z => some (Value.int z)) (congrArg nI (if_pos (by omega)).symm), rfl⟩ | exact ⟨congrArg (fun z => some (Value.int z)) (congrArg nI (if_neg (by omega)).symm), rfl⟩
set_option maxHeartbeats 4000000 in
set_option maxRecDepth 100000 in
theorem t_R_state  : CT l y_R_state c_R_state 1 (some .int) (rmm 0 0) (gG D cI cL) [.ref (ad 0)] (wR ad cI cL par prm siz atm cnt mo he en ap oc cal el eu ev ag an kk P Q S F R ch AP AQ) (pI (nI mo) (wR ad cI cL par prm siz atm cnt mo he en ap oc cal el eu ev ag an kk P Q S F R ch AP AQ)) := by
  refine CT.of R_R (by decide) rfl (Nat.le_of_ble_eq_true rfl) ?_
  intro E A hname
  refine x_aload_n (pc := 0) d_R_state_0 0 rfl ?_
  refine x_get (pc := 1) (ci := 4) d_R_state_1 in_R rfl 5 (by decide) k_R_57 0 rfl rfl ?_
  refine x_iret (pc := 4) d_R_state_4 rfl ?_
  exact ⟨rfl, rfl⟩
set_option maxHeartbeats 4000000 in
set_option maxRecDepth 100000 in
theorem t_R_at (hmo : mo ≤ 4) : CT l y_R_at c_R_at 1 (some .int) (rmm 0 0) (gG D cI cL) [.ref (ad 0)] (wR ad cI cL par prm siz atm cnt mo he en ap oc cal el eu ev ag an kk P Q S F R ch AP AQ) (pI (if mo = 0 then -1 else nI he) (wR ad cI cL par prm siz atm cnt mo he en ap oc cal el eu ev ag an kk P Q S F R ch AP AQ)) := by
  refine CT.of R_R (by decide) rfl (Nat.le_of_ble_eq_true rfl) ?_
  intro E A hname
  refine x_aload_n (pc := 0) d_R_at_0 0 rfl ?_
  refine x_get (pc := 1) (ci := 4) d_R_at_1 in_R rfl 5 (by decide) k_R_57 0 rfl rfl ?_
  first | refine x_if_neB (pc := 4) (tgt := 11) d_R_at_4 rfl ?_ ?_ | refine x_if_neL (pc := 4) (tgt := 11) d_R_at_4 rfl ?_ ?_ | refine x_if_neN (pc := 4) (tgt := 11) d_R_at_4 rfl (by omega) ?_ ?_ | refine x_if_ne (pc := 4) (tgt := 11) d_R_at_4 rfl ?_ ?_
  · intro h4
    refine x_aload_n (pc := 11) d_R_at_11 0 rfl ?_
    refine x_get (pc := 12) (ci := 4) d_R_at_12 in_R rfl 6 (by decide) k_R_78 0 rfl rfl ?_
    refine x_iret (pc := 15) d_R_at_15 rfl ?_
    first | exact ⟨congrArg (fun z => some (Value.int z)) (if_pos h4).symm, rfl⟩ | exact ⟨congrArg (fun z => some (Value.int z)) (if_neg h4).symm, rfl⟩
  · intro h4
    refine x_iconst (pc := 7) (-1) d_R_at_7 (by decide) ?_
    refine x_goto (pc := 8) (tgt := 15) d_R_at_8 rfl ?_
    refine x_iret (pc := 15) d_R_at_15 rfl ?_
    first | exact ⟨congrArg (fun z => some (Value.int z)) (if_pos h4).symm, rfl⟩ | exact ⟨congrArg (fun z => some (Value.int z)) (if_neg h4).symm, rfl⟩
set_option maxHeartbeats 4000000 in
set_option maxRecDepth 100000 in
theorem t_R_result (hmo : mo ≤ 4) (hoc : oc < 2147483648) : CT l y_R_result c_R_result 1 (some .int) (rmm 1 20) (gG D cI cL) [.ref (ad 0)] (wR ad cI cL par prm siz atm cnt mo he en ap oc cal el eu ev ag an kk P Q S F R ch AP AQ) (pI (if mo = 2 then nI (if oc < 1000 then oc else 200 + (oc - 1000) / 100) else -1) (wR ad cI cL par prm siz atm cnt mo he en ap oc cal el eu ev ag an kk P Q S F R ch AP AQ)) := by
  refine CT.of R_R (by decide) rfl (Nat.le_of_ble_eq_true rfl) ?_
  intro E A hname
  refine x_aload_n (pc := 0) d_R_result_0 0 rfl ?_
  refine x_get (pc := 1) (ci := 4) d_R_result_1 in_R rfl 5 (by decide) k_R_57 0 rfl rfl ?_
  refine x_iconst (pc := 4) (nI 2) d_R_result_4 (by decide) ?_
  first | refine x_icmp_neN (pc := 5) (tgt := 18) d_R_result_5 rfl (by omega) (by omega) ?_ ?_ | refine x_icmp_ne (pc := 5) (tgt := 18) d_R_result_5 rfl ?_ ?_
  · intro h5
    refine x_iconst (pc := 18) (-1) d_R_result_18 (by decide) ?_
    refine x_iret (pc := 19) d_R_result_19 rfl ?_
    first | exact ⟨congrArg (fun z => some (Value.int z)) (if_pos h5).symm, rfl⟩ | exact ⟨congrArg (fun z => some (Value.int z)) (if_neg h5).symm, rfl⟩
  · intro h5
    refine x_aload_n (pc := 8) d_R_result_8 0 rfl ?_
    refine x_get (pc := 9) (ci := 4) d_R_result_9 in_R rfl 9 (by decide) k_R_98 0 rfl rfl ?_
    refine x_callS_I (pc := 12) d_R_result_12 k_R_109 ws_R_told w_R_told ini_R wd_R_told ⟨by decide, by decide⟩ ⟨rfl, rfl⟩ ⟨Nat.zero_le _, Nat.zero_le _⟩ (t_R_told hoc) rfl rfl (Nat.le_of_ble_eq_true rfl) ?_
    refine x_goto (pc := 15) (tgt := 19) d_R_result_15 rfl ?_
    refine x_iret (pc := 19) d_R_result_19 rfl ?_
    first | exact ⟨congrArg (fun z => some (Value.int z)) (if_pos h5).symm, rfl⟩ | exact ⟨congrArg (fun z => some (Value.int z)) (if_neg h5).symm, rfl⟩
set_option maxHeartbeats 4000000 in
set_option maxRecDepth 100000 in
theorem t_R_called {x : Int32} (hc : cnt ≤ 8) (hmo : mo ≤ 4) : CT l y_R_called c_R_called 2 (some .int) (rmm 1 21) (gG D cI cL) [.ref (ad 0), .int x] (wR ad cI cL par prm siz atm cnt mo he en ap oc cal el eu ev ag an kk P Q S F R ch AP AQ) (pI (lval (decide (¬ mo = 0)) cnt cal x) (wR ad cI cL par prm siz atm cnt mo he en ap oc cal el eu ev ag an kk P Q S F R ch AP AQ)) := by
  refine CT.of R_R (by decide) rfl (Nat.le_of_ble_eq_true rfl) ?_
  intro E A hname
  refine x_aload_n (pc := 0) d_R_called_0 0 rfl ?_
  refine x_get (pc := 1) (ci := 4) d_R_called_1 in_R rfl 5 (by decide) k_R_57 0 rfl rfl ?_
  first | refine x_if_eqB (pc := 4) (tgt := 15) d_R_called_4 rfl ?_ ?_ | refine x_if_eqL (pc := 4) (tgt := 15) d_R_called_4 rfl ?_ ?_ | refine x_if_eqN (pc := 4) (tgt := 15) d_R_called_4 rfl (by omega) ?_ ?_ | refine x_if_eq (pc := 4) (tgt := 15) d_R_called_4 rfl ?_ ?_
  · intro h4
    refine x_iconst (pc := 15) (-1) d_R_called_15 (by decide) ?_
    refine x_goto (pc := 16) (tgt := 25) d_R_called_16 rfl ?_
    refine x_iret (pc := 25) d_R_called_25 rfl ?_
    first | exact ⟨congrArg (fun z => some (Value.int z)) (lval_t (f := cal) (decide_eq_true h4) hc hlx).symm, rfl⟩ | exact ⟨congrArg (fun z => some (Value.int z)) (lval_n (f := cal) h12).symm, rfl⟩ | exact ⟨congrArg (fun z => some (Value.int z)) (lval_0 (f := cal) (decide_eq_false (fun q => q h4))).symm, rfl⟩
  · intro h4
    refine x_aload_n (pc := 7) d_R_called_7 0 rfl ?_
    refine x_iload_n (pc := 8) d_R_called_8 1 rfl ?_
    refine x_callV_I (pc := 9) (ci := 4) d_R_called_9 k_R_64 wi_R_isLambda wv_R_isLambda w_R_isLambda ini_R wd_R_isLambda ⟨by decide, by decide⟩ ⟨rfl, rfl⟩ ⟨Nat.zero_le _, Nat.zero_le _⟩ 0 rfl rfl (t_R_isLambda) rfl rfl (Nat.le_of_ble_eq_true rfl) ?_
    first | refine x_if_neB (pc := 12) (tgt := 19) d_R_called_12 rfl ?_ ?_ | refine x_if_neL (pc := 12) (tgt := 19) d_R_called_12 rfl ?_ ?_ | refine x_if_neN (pc := 12) (tgt := 19) d_R_called_12 rfl (by omega) ?_ ?_ | refine x_if_ne (pc := 12) (tgt := 19) d_R_called_12 rfl ?_ ?_
    · intro h12
      obtain ⟨lx, hlx, rfl⟩ := hl_of hc h12
      refine x_aload_n (pc := 19) d_R_called_19 0 rfl ?_
      refine x_get (pc := 20) (ci := 4) d_R_called_20 in_R rfl 10 (by decide) k_R_26 0 rfl rfl ?_
      refine x_iload_n (pc := 23) d_R_called_23 1 rfl ?_
      refine x_ialdN (pc := 24) d_R_called_24 5 0 rfl rfl (by omega) (by omega) ?_
      refine x_iret (pc := 25) d_R_called_25 rfl ?_
      first | exact ⟨congrArg (fun z => some (Value.int z)) (lval_t (f := cal) (decide_eq_true h4) hc hlx).symm, rfl⟩ | exact ⟨congrArg (fun z => some (Value.int z)) (lval_n (f := cal) h12).symm, rfl⟩ | exact ⟨congrArg (fun z => some (Value.int z)) (lval_0 (f := cal) (decide_eq_false (fun q => q h4))).symm, rfl⟩
    · intro h12
      refine x_iconst (pc := 15) (-1) d_R_called_15 (by decide) ?_
      refine x_goto (pc := 16) (tgt := 25) d_R_called_16 rfl ?_
      refine x_iret (pc := 25) d_R_called_25 rfl ?_
      first | exact ⟨congrArg (fun z => some (Value.int z)) (lval_t (f := cal) (decide_eq_true h4) hc hlx).symm, rfl⟩ | exact ⟨congrArg (fun z => some (Value.int z)) (lval_n (f := cal) h12).symm, rfl⟩ | exact ⟨congrArg (fun z => some (Value.int z)) (lval_0 (f := cal) (decide_eq_false (fun q => q h4))).symm, rfl⟩
end REF2
