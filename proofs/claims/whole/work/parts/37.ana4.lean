section ANA4
variable {l : Launch} {D : va_G} {ad : Nat → Nat} {cI cL : ClassId} {par : Nat → Int32} {prm : Nat → Nat} {lin : Nat → Int32} {siz atm : Nat → Nat} {cnt : Nat} {own out bnd : Nat → Nat} {cal : Nat → Int32} {opr : Nat → Nat} {n ph oc : Nat} {P : Nat → Int32} {Q : Nat → Int64} {OC : Nat → Int32} {OP : Nat → Int64} {F : Nat → Int32} {S : Int64} {R : Int32} {vis nc : Nat} {gr md : Bool}
set_option maxHeartbeats 4000000 in
set_option maxRecDepth 100000 in
theorem t_A_constantsIn {lx i : Nat} (hl : lx < 8) (hi : i < 3) : CT l y_A_constantsIn c_A_constantsIn 5 (some .int) (rmm 1 22) (gG D cI cL) [.ref (ad 3), .int (nI lx), .int (nI i)] (wC ad cI cL par prm lin siz atm cnt own out bnd cal opr n ph oc P Q OC OP F S R vis nc gr md) (pI (orf (fun c => P (sl lx i c)) 8) (wC ad cI cL par prm lin siz atm cnt own out bnd cal opr n ph oc P Q OC OP F S R vis nc gr md)) := by
  refine CT.of R_A (by decide) rfl (Nat.le_of_ble_eq_true rfl) ?_
  intro E A hname
  refine x_iconst (pc := 0) (nI 0) d_A_constantsIn_0 (by decide) ?_
  refine x_istore_n (pc := 1) d_A_constantsIn_1 rfl (by decide) [(3, _), (0, _), (1, _), (2, _)] rfl ?_
  refine x_iconst (pc := 2) (nI 0) d_A_constantsIn_2 (by decide) ?_
  refine x_istore (pc := 3) d_A_constantsIn_3 (by decide) [(4, _), (3, _), (0, _), (1, _), (2, _)] rfl ?_
  have hlp : ∀ (fuel : Nat) (c : Nat), 8 - c < fuel → (c ≤ 8) → xj E l (rmm 1 22) c_A_constantsIn 5 (some .int) R_A (gG D cI cL) A 0 0 (pI (orf (fun c => P (sl lx i c)) 8) (wC ad cI cL par prm lin siz atm cnt own out bnd cal opr n ph oc P Q OC OP F S R vis nc gr md)) 0 0 (wC ad cI cL par prm lin siz atm cnt own out bnd cal opr n ph oc P Q OC OP F S R vis nc gr md) 5 [(4, .int (nI c)), (3, .int (orf (fun c => P (sl lx i c)) c)), (0, .ref (ad 3)), (1, .int (nI lx)), (2, .int (nI i))] [] := by
    intro fuel
    induction fuel with
    | zero => intro c hf; exact absurd hf (Nat.not_lt_zero _)
    | succ fuel ih =>
      intro c hf hc
      refine x_iload (pc := 5) d_A_constantsIn_5 0 rfl ?_
      refine x_bipush (pc := 7) (nI 8) d_A_constantsIn_7 (by decide) ?_
      first | refine x_icmp_geN (pc := 9) (tgt := 33) d_A_constantsIn_9 rfl (by omega) (by omega) ?_ ?_ | refine x_icmp_ge (pc := 9) (tgt := 33) d_A_constantsIn_9 rfl ?_ ?_
      · intro h9
        refine x_iload_n (pc := 33) d_A_constantsIn_33 1 rfl ?_
        refine x_iret (pc := 34) d_A_constantsIn_34 rfl ?_
        have e1 : c = 8 := by omega
        rw [e1]
        exact ⟨rfl, rfl⟩
      · intro h9
        refine x_iload_n (pc := 12) d_A_constantsIn_12 1 rfl ?_
        refine x_aload_n (pc := 13) d_A_constantsIn_13 2 rfl ?_
        refine x_get (pc := 14) (ci := 0) d_A_constantsIn_14 in_A rfl 1 (by decide) k_A_11 3 rfl rfl ?_
        refine x_iload_n (pc := 17) d_A_constantsIn_17 3 rfl ?_
        refine x_iload_n (pc := 18) d_A_constantsIn_18 4 rfl ?_
        refine x_iload (pc := 19) d_A_constantsIn_19 0 rfl ?_
        refine x_callS_I (pc := 21) d_A_constantsIn_21 k_A_48 ws_A_slot w_A_slot ini_A wd_A_slot ⟨by decide, by decide⟩ ⟨rfl, rfl⟩ ⟨Nat.zero_le _, Nat.zero_le _⟩ (t_A_slot) rfl rfl (Nat.le_of_ble_eq_true rfl) ?_
        refine x_ialdN (pc := 24) d_A_constantsIn_24 14 0 rfl rfl (by omega) (sl_lt hl hi (by omega)) ?_
        refine x_ior (pc := 25) d_A_constantsIn_25 ?_
        refine x_istore_n (pc := 26) d_A_constantsIn_26 rfl (by decide) [(3, _), (4, _), (0, _), (1, _), (2, _)] rfl ?_
        refine x_iincN (pc := 27) d_A_constantsIn_27 1 rfl (by decide) [(4, _), (3, _), (0, _), (1, _), (2, _)] rfl ?_
        refine x_goto (pc := 30) (tgt := 5) d_A_constantsIn_30 rfl ?_
        refine x_sub [0, 1, 2, 3, 4] _ rfl ?_
        exact ih (c + 1) (by omega) (by omega)
  refine x_sub [0, 1, 2, 3, 4] _ rfl ?_
  exact hlp 9 0 (by omega) (by omega)
set_option maxHeartbeats 4000000 in
set_option maxRecDepth 100000 in
theorem t_A_lambdasIn {lx i : Nat} (hl : lx < 8) (hi : i < 3) : CT l y_A_lambdasIn c_A_lambdasIn 7 (some .int) (rmm 1 22) (gG D cI cL) [.ref (ad 3), .int (nI lx), .int (nI i)] (wC ad cI cL par prm lin siz atm cnt own out bnd cal opr n ph oc P Q OC OP F S R vis nc gr md) (fun v w2 => ∃ r, (∀ m, bt r m = true ↔ m < 8 ∧ clos Q lx i m) ∧ v = some (.int r) ∧ w2 = (wC ad cI cL par prm lin siz atm cnt own out bnd cal opr n ph oc P Q OC OP F S R vis nc gr md)) := by
  refine CT.of R_A (by decide) rfl (Nat.le_of_ble_eq_true rfl) ?_
  intro E A hname
  refine x_lconst (pc := 0) 0 d_A_lambdasIn_0 (by decide) ?_
  refine x_lstore_n (pc := 1) d_A_lambdasIn_1 rfl (by decide) [(3, _), (0, _), (1, _), (2, _)] rfl ?_
  refine x_iconst (pc := 2) (nI 0) d_A_lambdasIn_2 (by decide) ?_
  refine x_istore (pc := 3) d_A_lambdasIn_3 (by decide) [(5, _), (3, _), (0, _), (1, _), (2, _)] rfl ?_
  have hlp : ∀ (fuel : Nat) (c : Nat), 8 - c < fuel → (c ≤ 8) → xj E l (rmm 1 22) c_A_lambdasIn 7 (some .int) R_A (gG D cI cL) A 0 0 (fun v w2 => ∃ r, (∀ m, bt r m = true ↔ m < 8 ∧ clos Q lx i m) ∧ v = some (.int r) ∧ w2 = (wC ad cI cL par prm lin siz atm cnt own out bnd cal opr n ph oc P Q OC OP F S R vis nc gr md)) 0 0 (wC ad cI cL par prm lin siz atm cnt own out bnd cal opr n ph oc P Q OC OP F S R vis nc gr md) 5 [(5, .int (nI c)), (3, .long (orl (fun c => Q (sl lx i c)) c)), (0, .ref (ad 3)), (1, .int (nI lx)), (2, .int (nI i))] [] := by
    intro fuel
    induction fuel with
    | zero => intro c hf; exact absurd hf (Nat.not_lt_zero _)
    | succ fuel ih =>
      intro c hf hc
      refine x_iload (pc := 5) d_A_lambdasIn_5 0 rfl ?_
      refine x_bipush (pc := 7) (nI 8) d_A_lambdasIn_7 (by decide) ?_
      first | refine x_icmp_geN (pc := 9) (tgt := 33) d_A_lambdasIn_9 rfl (by omega) (by omega) ?_ ?_ | refine x_icmp_ge (pc := 9) (tgt := 33) d_A_lambdasIn_9 rfl ?_ ?_
      · intro h9
        have e1 : c = 8 := by omega
        rw [e1]
        clear ih hf
        refine x_iconst (pc := 33) (nI 0) d_A_lambdasIn_33 (by decide) ?_
        refine x_istore (pc := 34) d_A_lambdasIn_34 (by decide) [(5, _), (3, _), (0, _), (1, _), (2, _)] rfl ?_
        refine x_iconst (pc := 36) (nI 0) d_A_lambdasIn_36 (by decide) ?_
        refine x_istore (pc := 37) d_A_lambdasIn_37 (by decide) [(6, _), (5, _), (3, _), (0, _), (1, _), (2, _)] rfl ?_
        have hlq : ∀ (fuel : Nat) (m : Nat) (r : Int32), 8 - m < fuel → (m ≤ 8) → (∀ z, bt r z = true ↔ z < m ∧ clos Q lx i z) → xj E l (rmm 1 22) c_A_lambdasIn 7 (some .int) R_A (gG D cI cL) A 0 0 (fun v w2 => ∃ r, (∀ m, bt r m = true ↔ m < 8 ∧ clos Q lx i m) ∧ v = some (.int r) ∧ w2 = (wC ad cI cL par prm lin siz atm cnt own out bnd cal opr n ph oc P Q OC OP F S R vis nc gr md)) 0 0 (wC ad cI cL par prm lin siz atm cnt own out bnd cal opr n ph oc P Q OC OP F S R vis nc gr md) 39 [(6, .int (nI m)), (5, .int r), (3, .long (orl (fun c => Q (sl lx i c)) 8)), (0, .ref (ad 3)), (1, .int (nI lx)), (2, .int (nI i))] [] := by
          intro fuel
          induction fuel with
          | zero => intro m r hf; exact absurd hf (Nat.not_lt_zero _)
          | succ fuel ih =>
            intro m r hf hm hr
            refine x_iload (pc := 39) d_A_lambdasIn_39 0 rfl ?_
            refine x_bipush (pc := 41) (nI 8) d_A_lambdasIn_41 (by decide) ?_
            first | refine x_icmp_geN (pc := 43) (tgt := 70) d_A_lambdasIn_43 rfl (by omega) (by omega) ?_ ?_ | refine x_icmp_ge (pc := 43) (tgt := 70) d_A_lambdasIn_43 rfl ?_ ?_
            · intro h43
              refine x_iload (pc := 70) d_A_lambdasIn_70 1 rfl ?_
              refine x_iret (pc := 72) d_A_lambdasIn_72 rfl ?_
              have e2 : m = 8 := by omega
              rw [e2] at hr
              exact ⟨r, hr, rfl, rfl⟩
            · intro h43
              refine x_lload_n (pc := 46) d_A_lambdasIn_46 2 rfl ?_
              refine x_iload (pc := 47) d_A_lambdasIn_47 0 rfl ?_
              refine x_callS_I (pc := 49) d_A_lambdasIn_49 k_A_40 ws_A_contoursIn w_A_contoursIn ini_A wd_A_contoursIn ⟨by decide, by decide⟩ ⟨rfl, rfl⟩ ⟨Nat.zero_le _, Nat.zero_le _⟩ (t_A_contoursIn) rfl rfl (Nat.le_of_ble_eq_true rfl) ?_
              first | refine x_if_eqB (pc := 52) (tgt := 64) d_A_lambdasIn_52 rfl ?_ ?_ | refine x_if_eqL (pc := 52) (tgt := 64) d_A_lambdasIn_52 rfl ?_ ?_ | refine x_if_eqN (pc := 52) (tgt := 64) d_A_lambdasIn_52 rfl (by omega) ?_ ?_ | refine x_if_eq (pc := 52) (tgt := 64) d_A_lambdasIn_52 rfl ?_ ?_
              · intro h52
                refine x_iincN (pc := 64) d_A_lambdasIn_64 0 rfl (by decide) [(6, _), (5, _), (3, _), (0, _), (1, _), (2, _)] rfl ?_
                refine x_goto (pc := 67) (tgt := 39) d_A_lambdasIn_67 rfl ?_
                refine x_sub [0, 1, 2, 3, 4, 5] _ rfl ?_
                first
                  | exact ih (m + 1) _ (by omega) (by omega) (clos_next hr (by omega) ((cin_ne (by omega)).mp h52))
                  | exact ih (m + 1) r (by omega) (by omega) (clos_same hr (by omega) h52)
              · intro h52
                refine x_iload (pc := 55) d_A_lambdasIn_55 1 rfl ?_
                refine x_iconst (pc := 57) (nI 1) d_A_lambdasIn_57 (by decide) ?_
                refine x_iload (pc := 58) d_A_lambdasIn_58 0 rfl ?_
                refine x_ishl (pc := 60) d_A_lambdasIn_60 ?_
                refine x_ior (pc := 61) d_A_lambdasIn_61 ?_
                refine x_istore (pc := 62) d_A_lambdasIn_62 (by decide) [(5, _), (6, _), (3, _), (0, _), (1, _), (2, _)] rfl ?_
                refine x_iincN (pc := 64) d_A_lambdasIn_64 1 rfl (by decide) [(6, _), (5, _), (3, _), (0, _), (1, _), (2, _)] rfl ?_
                refine x_goto (pc := 67) (tgt := 39) d_A_lambdasIn_67 rfl ?_
                refine x_sub [0, 1, 2, 3, 4, 5] _ rfl ?_
                first
                  | exact ih (m + 1) _ (by omega) (by omega) (clos_next hr (by omega) ((cin_ne (by omega)).mp h52))
                  | exact ih (m + 1) r (by omega) (by omega) (clos_same hr (by omega) h52)
        refine x_sub [0, 1, 2, 3, 4, 5] _ rfl ?_
        exact hlq 9 0 (nI 0) (by omega) (by omega) (fun z => ⟨fun q => (by rw [b_n0] at q; cases q), fun q => absurd q.1 (Nat.not_lt_zero z)⟩)
      · intro h9
        refine x_lload_n (pc := 12) d_A_lambdasIn_12 1 rfl ?_
        refine x_aload_n (pc := 13) d_A_lambdasIn_13 2 rfl ?_
        refine x_get (pc := 14) (ci := 0) d_A_lambdasIn_14 in_A rfl 2 (by decide) k_A_15 3 rfl rfl ?_
        refine x_iload_n (pc := 17) d_A_lambdasIn_17 3 rfl ?_
        refine x_iload_n (pc := 18) d_A_lambdasIn_18 4 rfl ?_
        refine x_iload (pc := 19) d_A_lambdasIn_19 0 rfl ?_
        refine x_callS_I (pc := 21) d_A_lambdasIn_21 k_A_48 ws_A_slot w_A_slot ini_A wd_A_slot ⟨by decide, by decide⟩ ⟨rfl, rfl⟩ ⟨Nat.zero_le _, Nat.zero_le _⟩ (t_A_slot) rfl rfl (Nat.le_of_ble_eq_true rfl) ?_
        refine x_laldN (pc := 24) d_A_lambdasIn_24 15 1 rfl rfl (by omega) (sl_lt hl hi (by omega)) ?_
        refine x_lor (pc := 25) d_A_lambdasIn_25 ?_
        refine x_lstore_n (pc := 26) d_A_lambdasIn_26 rfl (by decide) [(3, _), (5, _), (0, _), (1, _), (2, _)] rfl ?_
        refine x_iincN (pc := 27) d_A_lambdasIn_27 1 rfl (by decide) [(5, _), (3, _), (0, _), (1, _), (2, _)] rfl ?_
        refine x_goto (pc := 30) (tgt := 5) d_A_lambdasIn_30 rfl ?_
        refine x_sub [0, 1, 2, 3, 4] _ rfl ?_
        exact ih (c + 1) (by omega) (by omega)
  refine x_sub [0, 1, 2, 3, 4] _ rfl ?_
  exact hlp 9 0 (by omega) (by omega)
set_option maxHeartbeats 4000000 in
set_option maxRecDepth 100000 in
theorem t_A_emptySets  : CT l y_A_emptySets c_A_emptySets 1 none (rmm 1 24) (gG D cI cL) [.ref (ad 3)] (wC ad cI cL par prm lin siz atm cnt own out bnd cal opr n ph oc P Q OC OP F S R vis nc gr md) (pV (wC ad cI cL par prm lin siz atm cnt own out bnd cal opr n ph oc (fun _ => nI 0) (fun _ => 0) OC OP (fun _ => nI 0) S (nI 0) vis nc gr md)) := by
  refine CT.of R_A (by decide) rfl (Nat.le_of_ble_eq_true rfl) ?_
  intro E A hname
  refine x_aload_n (pc := 0) d_A_emptySets_0 0 rfl ?_
  refine x_get (pc := 1) (ci := 0) d_A_emptySets_1 in_A rfl 1 (by decide) k_A_11 3 rfl rfl ?_
  refine x_iconst (pc := 4) (nI 0) d_A_emptySets_4 (by decide) ?_
  refine x_callS_X (pc := 5) d_A_emptySets_5 k_A_76 ws_JA_fill w_JA_fill ini_JA wd_JA_fill ⟨by decide, by decide⟩ ⟨rfl, rfl⟩ ⟨Nat.zero_le _, Nat.zero_le _⟩ (CT.one 14 rfl (t_JA_fill (by omega))) rfl rfl (Nat.le_of_ble_eq_true rfl) (fun v5 w5 hp5 => ?_)
  obtain ⟨e1, ⟨rfl, rfl⟩, rfl⟩ := hp5
  refine x_aload_n (pc := 8) d_A_emptySets_8 0 rfl ?_
  refine x_get (pc := 9) (ci := 0) d_A_emptySets_9 in_A rfl 2 (by decide) k_A_15 3 rfl rfl ?_
  refine x_lconst (pc := 12) 0 d_A_emptySets_12 (by decide) ?_
  refine x_callS_X (pc := 13) d_A_emptySets_13 k_A_82 ws_JA_fill_JJV w_JA_fill_JJV ini_JA wd_JA_fill_JJV ⟨by decide, by decide⟩ ⟨rfl, rfl⟩ ⟨Nat.zero_le _, Nat.zero_le _⟩ (CT.one 15 rfl (t_JA_fill_JJV (by omega))) rfl rfl (Nat.le_of_ble_eq_true rfl) (fun v13 w13 hp13 => ?_)
  obtain ⟨e1, ⟨rfl, rfl⟩, rfl⟩ := hp13
  refine x_aload_n (pc := 16) d_A_emptySets_16 0 rfl ?_
  refine x_get (pc := 17) (ci := 0) d_A_emptySets_17 in_A rfl 5 (by decide) k_A_25 3 rfl rfl ?_
  refine x_iconst (pc := 20) (nI 0) d_A_emptySets_20 (by decide) ?_
  refine x_callS_X (pc := 21) d_A_emptySets_21 k_A_76 ws_JA_fill w_JA_fill ini_JA wd_JA_fill ⟨by decide, by decide⟩ ⟨rfl, rfl⟩ ⟨Nat.zero_le _, Nat.zero_le _⟩ (CT.one 18 rfl (t_JA_fill (by omega))) rfl rfl (Nat.le_of_ble_eq_true rfl) (fun v21 w21 hp21 => ?_)
  obtain ⟨e1, ⟨rfl, rfl⟩, rfl⟩ := hp21
  refine x_aload_n (pc := 24) d_A_emptySets_24 0 rfl ?_
  refine x_iconst (pc := 25) (nI 0) d_A_emptySets_25 (by decide) ?_
  refine x_put (pc := 26) (ci := 0) (ty := .int) d_A_emptySets_26 in_A t_A ty_A nm_A rfl 7 (by decide) k_A_44 rfl (by decide +kernel) rfl rfl 3 rfl (Nat.le_of_ble_eq_true rfl) (_) (rfl) ?_
  refine x_vret (pc := 29) d_A_emptySets_29 rfl ?_
  exact ⟨rfl, rfl⟩
set_option maxHeartbeats 4000000 in
set_option maxRecDepth 100000 in
theorem t_A_make {k : Nat} (hbc : ∀ {w : va_W} {x : Int64}, CT l y_JL_bitCount c_JL_bitCount 2 (some .int) (rmm 0 0) (gG D cI cL) [.long x] w (pI (nI (popL x)) w)) (hw : pwf cnt par prm siz atm) (hli : linok cnt par lin) (hk : k ≤ 1) (hO4 : OP 4 = 0) : CT l y_A_make c_A_make 4 (some .int) (rmm 5 128) (gG D cI cL) [.ref (ad 3), .int (nI k)] (wC ad cI cL par prm lin siz atm cnt own out bnd cal opr n ph oc P Q OC OP F S R vis nc gr md) (fun v w2 => ∃ P2 Q2 S2 F2 R2 g2 OC2 OP2 vi2 nc2, aleast cnt (anc par) prm siz atm k (ofw P2 Q2 S2 F2 R2) ∧ OP2 4 = 0 ∧ v = some (.int (nI (popL S2))) ∧ w2 = (wC ad cI cL par prm lin siz atm cnt own out bnd cal opr n ph oc P2 Q2 OC2 OP2 F2 S2 R2 vi2 nc2 g2 true)) := by
  refine CT.of R_A (by decide) rfl (Nat.le_of_ble_eq_true rfl) ?_
  intro E A hname
  have hc8 : cnt ≤ 8 := hw.2.1
  refine x_aload_n (pc := 0) d_A_make_0 0 rfl ?_
  refine x_callV_Z (pc := 1) (ci := 0) d_A_make_1 k_A_52 wi_A_emptySets wv_A_emptySets w_A_emptySets ini_A wd_A_emptySets ⟨by decide, by decide⟩ ⟨rfl, rfl⟩ ⟨Nat.zero_le _, Nat.zero_le _⟩ 3 rfl rfl (t_A_emptySets) rfl rfl (Nat.le_of_ble_eq_true rfl) ?_
  refine x_aload_n (pc := 4) d_A_make_4 0 rfl ?_
  refine x_iconst (pc := 5) (nI 0) d_A_make_5 (by decide) ?_
  refine x_iconst (pc := 6) (nI 0) d_A_make_6 (by decide) ?_
  refine x_callS_L (pc := 7) d_A_make_7 k_A_55 ws_A_pair w_A_pair ini_A wd_A_pair ⟨by decide, by decide⟩ ⟨rfl, rfl⟩ ⟨Nat.zero_le _, Nat.zero_le _⟩ (t_A_pair (m := 0) (c := 0)) rfl rfl (Nat.le_of_ble_eq_true rfl) ?_
  refine x_put (pc := 10) (ci := 0) (ty := .long) d_A_make_10 in_A t_A ty_A nm_A rfl 6 (by decide) k_A_36 rfl (by decide +kernel) rfl rfl 3 rfl (Nat.le_of_ble_eq_true rfl) (_) (rfl) ?_
  refine x_aload_n (pc := 13) d_A_make_13 0 rfl ?_
  refine x_iconst (pc := 14) (nI 1) d_A_make_14 (by decide) ?_
  refine x_put (pc := 15) (ci := 0) (ty := .boolean) d_A_make_15 in_A t_A ty_A nm_A rfl 10 (by decide) k_A_59 rfl (by decide +kernel) rfl rfl 3 rfl (Nat.le_of_ble_eq_true rfl) (_) (rfl) ?_
  refine x_iconst (pc := 18) (nI 0) d_A_make_18 (by decide) ?_
  refine x_istore_n (pc := 19) d_A_make_19 rfl (by decide) [(2, _), (0, _), (1, _)] rfl ?_
  have hlp : ∀ (fuel : Nat) (j : Nat) (P1 : Nat → Int32) (Q1 : Nat → Int64) (S1 : Int64) (F1 : Nat → Int32) (R1 : Int32) (g1 : Bool) (OC1 : Nat → Int32) (OP1 : Nat → Int64) (vi1 : Nat) (nc1 : Nat), 20000 - j < fuel → (j ≤ 20000) → (ainv cnt (anc par) prm siz atm k j g1 (ofw P1 Q1 S1 F1 R1)) → (OP1 4 = 0) → xj E l (rmm 5 128) c_A_make 4 (some .int) R_A (gG D cI cL) A 0 0 (fun v w2 => ∃ P2 Q2 S2 F2 R2 g2 OC2 OP2 vi2 nc2, aleast cnt (anc par) prm siz atm k (ofw P2 Q2 S2 F2 R2) ∧ OP2 4 = 0 ∧ v = some (.int (nI (popL S2))) ∧ w2 = (wC ad cI cL par prm lin siz atm cnt own out bnd cal opr n ph oc P2 Q2 OC2 OP2 F2 S2 R2 vi2 nc2 g2 true)) 0 0 (wC ad cI cL par prm lin siz atm cnt own out bnd cal opr n ph oc P1 Q1 OC1 OP1 F1 S1 R1 vi1 nc1 g1 md) 20 [(2, .int (nI j)), (0, .ref (ad 3)), (1, .int (nI k))] [] := by
    intro fuel
    induction fuel with
    | zero => intro j P1 Q1 S1 F1 R1 g1 OC1 OP1 vi1 nc1 hf; exact absurd hf (Nat.not_lt_zero _)
    | succ fuel ih =>
      intro j P1 Q1 S1 F1 R1 g1 OC1 OP1 vi1 nc1 hf hj hv ho
      refine x_aload_n (pc := 20) d_A_make_20 1 rfl ?_
      refine x_get (pc := 21) (ci := 0) d_A_make_21 in_A rfl 10 (by decide) k_A_59 3 rfl rfl ?_
      first | refine x_if_eqB (pc := 24) (tgt := 83) d_A_make_24 rfl ?_ ?_ | refine x_if_eqL (pc := 24) (tgt := 83) d_A_make_24 rfl ?_ ?_ | refine x_if_eqN (pc := 24) (tgt := 83) d_A_make_24 rfl (by omega) ?_ ?_ | refine x_if_eq (pc := 24) (tgt := 83) d_A_make_24 rfl ?_ ?_
      · intro h24
        refine x_aload_n (pc := 83) d_A_make_83 1 rfl ?_
        refine x_iconst (pc := 84) (nI 1) d_A_make_84 (by decide) ?_
        refine x_put (pc := 85) (ci := 0) (ty := .boolean) d_A_make_85 in_A t_A ty_A nm_A rfl 11 (by decide) k_A_32 rfl (by decide +kernel) rfl rfl 3 rfl (Nat.le_of_ble_eq_true rfl) (_) (rfl) ?_
        refine x_aload_n (pc := 88) d_A_make_88 1 rfl ?_
        refine x_get (pc := 89) (ci := 0) d_A_make_89 in_A rfl 6 (by decide) k_A_36 3 rfl rfl ?_
        refine x_callS_I (pc := 92) d_A_make_92 k_A_70 ws_JL_bitCount w_JL_bitCount ini_JL wd_JL_bitCount ⟨by decide, by decide⟩ ⟨rfl, rfl⟩ ⟨Nat.zero_le _, Nat.zero_le _⟩ (hbc) rfl rfl (Nat.le_of_ble_eq_true rfl) ?_
        refine x_iret (pc := 95) d_A_make_95 rfl ?_
        first | exact ⟨P1, Q1, S1, F1, R1, g1, OC1, OP1, vi1, nc1, ainv.done hv (Or.inl h24), ho, rfl, rfl⟩ | exact ⟨P1, Q1, S1, F1, R1, g1, OC1, OP1, vi1, nc1, ainv.done hv (Or.inr h31), ho, rfl, rfl⟩
      · intro h24
        refine x_iload_n (pc := 27) d_A_make_27 0 rfl ?_
        refine x_sipush (pc := 28) (nI 20000) d_A_make_28 (by decide) ?_
        first | refine x_icmp_geN (pc := 31) (tgt := 83) d_A_make_31 rfl (by omega) (by omega) ?_ ?_ | refine x_icmp_ge (pc := 31) (tgt := 83) d_A_make_31 rfl ?_ ?_
        · intro h31
          refine x_aload_n (pc := 83) d_A_make_83 1 rfl ?_
          refine x_iconst (pc := 84) (nI 1) d_A_make_84 (by decide) ?_
          refine x_put (pc := 85) (ci := 0) (ty := .boolean) d_A_make_85 in_A t_A ty_A nm_A rfl 11 (by decide) k_A_32 rfl (by decide +kernel) rfl rfl 3 rfl (Nat.le_of_ble_eq_true rfl) (_) (rfl) ?_
          refine x_aload_n (pc := 88) d_A_make_88 1 rfl ?_
          refine x_get (pc := 89) (ci := 0) d_A_make_89 in_A rfl 6 (by decide) k_A_36 3 rfl rfl ?_
          refine x_callS_I (pc := 92) d_A_make_92 k_A_70 ws_JL_bitCount w_JL_bitCount ini_JL wd_JL_bitCount ⟨by decide, by decide⟩ ⟨rfl, rfl⟩ ⟨Nat.zero_le _, Nat.zero_le _⟩ (hbc) rfl rfl (Nat.le_of_ble_eq_true rfl) ?_
          refine x_iret (pc := 95) d_A_make_95 rfl ?_
          first | exact ⟨P1, Q1, S1, F1, R1, g1, OC1, OP1, vi1, nc1, ainv.done hv (Or.inl h24), ho, rfl, rfl⟩ | exact ⟨P1, Q1, S1, F1, R1, g1, OC1, OP1, vi1, nc1, ainv.done hv (Or.inr h31), ho, rfl, rfl⟩
        · intro h31
          refine x_aload_n (pc := 34) d_A_make_34 1 rfl ?_
          refine x_iconst (pc := 35) (nI 0) d_A_make_35 (by decide) ?_
          refine x_put (pc := 36) (ci := 0) (ty := .boolean) d_A_make_36 in_A t_A ty_A nm_A rfl 10 (by decide) k_A_59 rfl (by decide +kernel) rfl rfl 3 rfl (Nat.le_of_ble_eq_true rfl) (_) (rfl) ?_
          refine x_iconst (pc := 39) (nI 0) d_A_make_39 (by decide) ?_
          refine x_istore_n (pc := 40) d_A_make_40 rfl (by decide) [(3, _), (2, _), (0, _), (1, _)] rfl ?_
          have hlq : ∀ (fuel : Nat) (s : Nat) (P3 : Nat → Int32) (Q3 : Nat → Int64) (S3 : Int64) (F3 : Nat → Int32) (R3 : Int32) (g3 : Bool) (OC3 : Nat → Int32) (OP3 : Nat → Int64) (vi3 : Nat) (nc3 : Nat), 64 - s < fuel → (s ≤ 64) → (apc (fun X Y => ∀ j, j < s → apassN cnt (anc par) prm siz atm k j X Y) false (ofw P1 Q1 S1 F1 R1) g3 (ofw P3 Q3 S3 F3 R3)) → (OP3 4 = 0) → xj E l (rmm 5 128) c_A_make 4 (some .int) R_A (gG D cI cL) A 0 0 (fun v w2 => ∃ P2 Q2 S2 F2 R2 g2 OC2 OP2 vi2 nc2, aleast cnt (anc par) prm siz atm k (ofw P2 Q2 S2 F2 R2) ∧ OP2 4 = 0 ∧ v = some (.int (nI (popL S2))) ∧ w2 = (wC ad cI cL par prm lin siz atm cnt own out bnd cal opr n ph oc P2 Q2 OC2 OP2 F2 S2 R2 vi2 nc2 g2 true)) 0 0 (wC ad cI cL par prm lin siz atm cnt own out bnd cal opr n ph oc P3 Q3 OC3 OP3 F3 S3 R3 vi3 nc3 g3 md) 41 [(3, .int (nI s)), (2, .int (nI j)), (0, .ref (ad 3)), (1, .int (nI k))] [] := by
            intro fuel
            induction fuel with
            | zero => intro s P3 Q3 S3 F3 R3 g3 OC3 OP3 vi3 nc3 hf; exact absurd hf (Nat.not_lt_zero _)
            | succ fuel ihq =>
              intro s P3 Q3 S3 F3 R3 g3 OC3 OP3 vi3 nc3 hf hs hq ho3
              have hsn := apassS hv.2.2.1 hq
              have hfu := snd_full hw hsn
              refine x_iload_n (pc := 41) d_A_make_41 0 rfl ?_
              refine x_bipush (pc := 42) (nI 64) d_A_make_42 (by decide) ?_
              first | refine x_icmp_geN (pc := 44) (tgt := 77) d_A_make_44 rfl (by omega) (by omega) ?_ ?_ | refine x_icmp_ge (pc := 44) (tgt := 77) d_A_make_44 rfl ?_ ?_
              · intro h44
                refine x_iincN (pc := 77) d_A_make_77 1 rfl (by decide) [(2, _), (3, _), (0, _), (1, _)] rfl ?_
                refine x_goto (pc := 80) (tgt := 20) d_A_make_80 rfl ?_
                refine x_sub [0, 2, 3] _ rfl ?_
                have e3 : s = 64 := by omega
                rw [e3] at hq
                rw [h24] at hv
                exact ih (j + 1) P3 Q3 S3 F3 R3 g3 OC3 OP3 vi3 nc3 (by omega) (by omega) (ainv.next hw.2.1 hv hq (ofw.fin _ _ _ _ _)) ho3
              · intro h44
                refine x_aload_n (pc := 47) d_A_make_47 2 rfl ?_
                refine x_get (pc := 48) (ci := 0) d_A_make_48 in_A rfl 6 (by decide) k_A_36 3 rfl rfl ?_
                refine x_iload_n (pc := 51) d_A_make_51 0 rfl ?_
                refine x_callS_I (pc := 52) d_A_make_52 k_A_62 ws_A_hasPair w_A_hasPair ini_A wd_A_hasPair ⟨by decide, by decide⟩ ⟨rfl, rfl⟩ ⟨Nat.zero_le _, Nat.zero_le _⟩ (t_A_hasPair (by omega)) rfl rfl (Nat.le_of_ble_eq_true rfl) ?_
                first | refine x_if_eqB (pc := 55) (tgt := 71) d_A_make_55 rfl ?_ ?_ | refine x_if_eqL (pc := 55) (tgt := 71) d_A_make_55 rfl ?_ ?_ | refine x_if_eqN (pc := 55) (tgt := 71) d_A_make_55 rfl (by omega) ?_ ?_ | refine x_if_eq (pc := 55) (tgt := 71) d_A_make_55 rfl ?_ ?_
                · intro h55
                  refine x_iincN (pc := 71) d_A_make_71 0 rfl (by decide) [(3, _), (2, _), (0, _), (1, _)] rfl ?_
                  refine x_goto (pc := 74) (tgt := 41) d_A_make_74 rfl ?_
                  refine x_sub [0, 1, 2, 3] _ rfl ?_
                  first
                    | exact ihq (s + 1) P4 Q4 S4 F4 R4 g4 OC4 OP4 vi4 nc4 (by omega) (by omega) (apc.next (N := apassN cnt (anc par) prm siz atm k) (fun j => apassN.amon _ _ _ _ _ _ j) hq (hap4.conv (fun Z hZ q h0 => q (by omega) (hZ.2.2.1 s h55) h0) (fun q _ _ h => q h))) ho4
                    | exact ihq (s + 1) P3 Q3 S3 F3 R3 g3 OC3 OP3 vi3 nc3 (by omega) (by omega) (apc.next (N := apassN cnt (anc par) prm siz atm k) (fun j => apassN.amon _ _ _ _ _ _ j) hq ((apc.skip g3 _).conv (fun _ _ _ => trivial) (fun _ _ q => bno h55 q))) ho3
                · intro h55
                  have hs8 : s < 8 * cnt := hfu.2.2.1 s h55
                  refine x_aload_n (pc := 58) d_A_make_58 2 rfl ?_
                  refine x_iload_n (pc := 59) d_A_make_59 0 rfl ?_
                  refine x_bipush (pc := 60) (nI 8) d_A_make_60 (by decide) ?_
                  first | refine x_idivN (pc := 62) d_A_make_62 (by omega) (by omega) (by omega) ?_ | refine x_idiv (pc := 62) d_A_make_62 (by decide) ?_
                  refine x_iload_n (pc := 63) d_A_make_63 0 rfl ?_
                  refine x_bipush (pc := 64) (nI 8) d_A_make_64 (by decide) ?_
                  first | refine x_iremN (pc := 66) d_A_make_66 (by omega) (by omega) (by omega) ?_ | refine x_irem (pc := 66) d_A_make_66 (by decide) ?_
                  refine x_iload_n (pc := 67) d_A_make_67 3 rfl ?_
                  refine x_callV_X (pc := 68) (ci := 0) d_A_make_68 k_A_66 wi_A_visit wv_A_visit w_A_visit ini_A wd_A_visit ⟨by decide, by decide⟩ ⟨rfl, rfl⟩ ⟨Nat.zero_le _, Nat.zero_le _⟩ 3 rfl rfl (t_A_visit hw hli (by omega) (by omega) hk ho3 (fun t q ht hq2 => hfu.2.1 t q ⟨ht, hq2⟩)) rfl rfl (Nat.le_of_ble_eq_true rfl) (fun v68 w68 hp68 => ?_)
                  obtain ⟨rfl, P4, Q4, S4, F4, R4, g4, OC4, OP4, vi4, nc4, hap4, ho4, rfl⟩ := hp68
                  refine x_iincN (pc := 71) d_A_make_71 0 rfl (by decide) [(3, _), (2, _), (0, _), (1, _)] rfl ?_
                  refine x_goto (pc := 74) (tgt := 41) d_A_make_74 rfl ?_
                  refine x_sub [0, 1, 2, 3] _ rfl ?_
                  first
                    | exact ihq (s + 1) P4 Q4 S4 F4 R4 g4 OC4 OP4 vi4 nc4 (by omega) (by omega) (apc.next (N := apassN cnt (anc par) prm siz atm k) (fun j => apassN.amon _ _ _ _ _ _ j) hq (hap4.conv (fun Z hZ q h0 => q (by omega) (hZ.2.2.1 s h55) h0) (fun q _ _ h => q h))) ho4
                    | exact ihq (s + 1) P3 Q3 S3 F3 R3 g3 OC3 OP3 vi3 nc3 (by omega) (by omega) (apc.next (N := apassN cnt (anc par) prm siz atm k) (fun j => apassN.amon _ _ _ _ _ _ j) hq ((apc.skip g3 _).conv (fun _ _ _ => trivial) (fun _ _ q => bno h55 q))) ho3
          refine x_sub [0, 1, 2, 3] _ rfl ?_
          exact hlq 65 0 P1 Q1 S1 F1 R1 false OC1 OP1 vi1 nc1 (by omega) (by omega) (apc.zero false _) ho
  refine x_sub [0, 1, 2] _ rfl ?_
  exact hlp 20001 0 (fun _ => nI 0) (fun _ => 0) (lP (8 * 0 + 0)) (fun _ => nI 0) (nI 0) true OC OP vis nc (by omega) (by omega) astart hO4
end ANA4
