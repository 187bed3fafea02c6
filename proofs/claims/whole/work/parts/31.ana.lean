section ANA
variable {l : Launch} {D : va_G} {ad : Nat → Nat} {cI cL : ClassId} {par : Nat → Int32} {prm : Nat → Nat} {lin : Nat → Int32} {siz atm : Nat → Nat} {cnt : Nat} {own out bnd : Nat → Nat} {cal : Nat → Int32} {opr : Nat → Nat} {n ph oc : Nat} {P : Nat → Int32} {Q : Nat → Int64} {OC : Nat → Int32} {OP : Nat → Int64} {F : Nat → Int32} {S : Int64} {R : Int32} {vis nc : Nat} {gr md : Bool}
set_option maxHeartbeats 4000000 in
set_option maxRecDepth 100000 in
theorem t_A_slot {w : va_W} {m i c : Nat} : CT l y_A_slot c_A_slot 3 (some .int) (rmm 0 0) (gG D cI cL) [.int (nI m), .int (nI i), .int (nI c)] w (pI (nI (sl m i c)) w) := by
  refine CT.of R_A (by decide) rfl (Nat.le_of_ble_eq_true rfl) ?_
  intro E A hname
  refine x_iload_n (pc := 0) d_A_slot_0 0 rfl ?_
  refine x_iconst (pc := 1) (nI 3) d_A_slot_1 (by decide) ?_
  first | refine x_imulN (pc := 2) d_A_slot_2 ?_ | refine x_imul (pc := 2) d_A_slot_2 ?_
  refine x_iload_n (pc := 3) d_A_slot_3 1 rfl ?_
  first | refine x_iaddN (pc := 4) d_A_slot_4 ?_ | refine x_iadd (pc := 4) d_A_slot_4 ?_
  refine x_bipush (pc := 5) (nI 8) d_A_slot_5 (by decide) ?_
  first | refine x_imulN (pc := 7) d_A_slot_7 ?_ | refine x_imul (pc := 7) d_A_slot_7 ?_
  refine x_iload_n (pc := 8) d_A_slot_8 2 rfl ?_
  first | refine x_iaddN (pc := 9) d_A_slot_9 ?_ | refine x_iadd (pc := 9) d_A_slot_9 ?_
  refine x_iret (pc := 10) d_A_slot_10 rfl ?_
  exact ⟨rfl, rfl⟩
set_option maxHeartbeats 4000000 in
set_option maxRecDepth 100000 in
theorem t_A_pair {w : va_W} {m c : Nat} : CT l y_A_pair c_A_pair 2 (some .long) (rmm 0 0) (gG D cI cL) [.int (nI m), .int (nI c)] w (pL (lP (8 * m + c)) w) := by
  refine CT.of R_A (by decide) rfl (Nat.le_of_ble_eq_true rfl) ?_
  intro E A hname
  refine x_lconst (pc := 0) 1 d_A_pair_0 (by decide) ?_
  refine x_bipush (pc := 1) (nI 8) d_A_pair_1 (by decide) ?_
  refine x_iload_n (pc := 3) d_A_pair_3 0 rfl ?_
  first | refine x_imulN (pc := 4) d_A_pair_4 ?_ | refine x_imul (pc := 4) d_A_pair_4 ?_
  refine x_iload_n (pc := 5) d_A_pair_5 1 rfl ?_
  first | refine x_iaddN (pc := 6) d_A_pair_6 ?_ | refine x_iadd (pc := 6) d_A_pair_6 ?_
  refine x_lshl (pc := 7) d_A_pair_7 ?_
  refine x_lret (pc := 8) d_A_pair_8 rfl ?_
  exact ⟨rfl, rfl⟩
set_option maxHeartbeats 4000000 in
set_option maxRecDepth 100000 in
theorem t_A_hasPair {w : va_W} {p : Int64} {q : Nat} (hq : q < 64) : CT l y_A_hasPair c_A_hasPair 3 (some .boolean) (rmm 0 0) (gG D cI cL) [.long p, .int (nI q)] w (pI (bI (bl p q)) w) := by
  refine CT.of R_A (by decide) rfl (Nat.le_of_ble_eq_true rfl) ?_
  intro E A hname
  refine x_lload_n (pc := 0) d_A_hasPair_0 0 rfl ?_
  refine x_iload_n (pc := 1) d_A_hasPair_1 1 rfl ?_
  refine x_lushr (pc := 2) d_A_hasPair_2 ?_
  refine x_lconst (pc := 3) 1 d_A_hasPair_3 (by decide) ?_
  refine x_land (pc := 4) d_A_hasPair_4 ?_
  refine x_lconst (pc := 5) 0 d_A_hasPair_5 (by decide) ?_
  refine x_lcmp (pc := 6) d_A_hasPair_6 ?_
  first | refine x_if_eqB (pc := 7) (tgt := 14) d_A_hasPair_7 rfl ?_ ?_ | refine x_if_eqL (pc := 7) (tgt := 14) d_A_hasPair_7 rfl ?_ ?_ | refine x_if_eqN (pc := 7) (tgt := 14) d_A_hasPair_7 rfl (by omega) ?_ ?_ | refine x_if_eq (pc := 7) (tgt := 14) d_A_hasPair_7 rfl ?_ ?_
  · intro h7
    refine x_iconst (pc := 14) (nI 0) d_A_hasPair_14 (by decide) ?_
    refine x_zret (pc := 15) d_A_hasPair_15 rfl (by first | rfl | exact bI_narrow _) ?_
    first | exact zt (Bool.of_not_eq_false (fun z => absurd ((l_has hq).mpr z) h7)) | exact zf ((l_has hq).mp h7)
  · intro h7
    refine x_iconst (pc := 10) (nI 1) d_A_hasPair_10 (by decide) ?_
    refine x_goto (pc := 11) (tgt := 15) d_A_hasPair_11 rfl ?_
    refine x_zret (pc := 15) d_A_hasPair_15 rfl (by first | rfl | exact bI_narrow _) ?_
    first | exact zt (Bool.of_not_eq_false (fun z => absurd ((l_has hq).mpr z) h7)) | exact zf ((l_has hq).mp h7)
set_option maxHeartbeats 4000000 in
set_option maxRecDepth 100000 in
theorem t_A_contoursIn {w : va_W} {p : Int64} {m : Nat} : CT l y_A_contoursIn c_A_contoursIn 3 (some .int) (rmm 0 0) (gG D cI cL) [.long p, .int (nI m)] w (pI (cin p m) w) := by
  refine CT.of R_A (by decide) rfl (Nat.le_of_ble_eq_true rfl) ?_
  intro E A hname
  refine x_lload_n (pc := 0) d_A_contoursIn_0 0 rfl ?_
  refine x_bipush (pc := 1) (nI 8) d_A_contoursIn_1 (by decide) ?_
  refine x_iload_n (pc := 3) d_A_contoursIn_3 1 rfl ?_
  first | refine x_imulN (pc := 4) d_A_contoursIn_4 ?_ | refine x_imul (pc := 4) d_A_contoursIn_4 ?_
  refine x_lushr (pc := 5) d_A_contoursIn_5 ?_
  refine x_l2i (pc := 6) d_A_contoursIn_6 ?_
  refine x_sipush (pc := 7) (nI 255) d_A_contoursIn_7 (by decide) ?_
  refine x_iand (pc := 10) d_A_contoursIn_10 ?_
  refine x_iret (pc := 11) d_A_contoursIn_11 rfl ?_
  exact ⟨rfl, rfl⟩
set_option maxHeartbeats 4000000 in
set_option maxRecDepth 100000 in
theorem t_A_constantBit {w : va_W} {x : Nat} (h1 : x < 10 ∨ 300 ≤ x) (h2 : x < 1000) : CT l y_A_constantBit c_A_constantBit 1 (some .int) (rmm 1 20) (gG D cI cL) [.int (nI x)] w (pI (nI (cbit x)) w) := by
  refine CT.of R_A (by decide) rfl (Nat.le_of_ble_eq_true rfl) ?_
  intro E A hname
  refine x_iload_n (pc := 0) d_A_constantBit_0 0 rfl ?_
  refine x_callSN_I (pc := 1) d_A_constantBit_1 k_A_151 ws_C_isNumber w_C_isNumber ini_C wd_C_isNumber ⟨by decide, by decide⟩ ⟨rfl, rfl⟩ ⟨Nat.zero_le _, Nat.zero_le _⟩ (t_C_isNumber) rfl rfl (Nat.le_of_ble_eq_true rfl) ?_
  rw [lo_nI (by omega) (by omega) (by omega)]
  first | refine x_if_eqB (pc := 4) (tgt := 11) d_A_constantBit_4 rfl ?_ ?_ | refine x_if_eqL (pc := 4) (tgt := 11) d_A_constantBit_4 rfl ?_ ?_ | refine x_if_eqN (pc := 4) (tgt := 11) d_A_constantBit_4 rfl (by omega) ?_ ?_ | refine x_if_eq (pc := 4) (tgt := 11) d_A_constantBit_4 rfl ?_ ?_
  · intro h4
    have g4 := of_decide_eq_false h4
    refine x_bipush (pc := 11) (nI 10) d_A_constantBit_11 (by decide) ?_
    refine x_iload_n (pc := 13) d_A_constantBit_13 0 rfl ?_
    first | refine x_iaddN (pc := 14) d_A_constantBit_14 ?_ | refine x_iadd (pc := 14) d_A_constantBit_14 ?_
    refine x_sipush (pc := 15) (nI 300) d_A_constantBit_15 (by decide) ?_
    first | refine x_isubN (pc := 18) d_A_constantBit_18 (by omega) ?_ | refine x_isub (pc := 18) d_A_constantBit_18 ?_
    refine x_iret (pc := 19) d_A_constantBit_19 rfl ?_
    unfold cbit
    first | exact ⟨by rw [if_pos g4.2], rfl⟩ | exact ⟨by rw [if_neg (by omega), show 10 + x - 300 = x - 290 by omega], rfl⟩
  · intro h4
    have g4 := of_decide_eq_true h4
    refine x_iload_n (pc := 7) d_A_constantBit_7 0 rfl ?_
    refine x_goto (pc := 8) (tgt := 19) d_A_constantBit_8 rfl ?_
    refine x_iret (pc := 19) d_A_constantBit_19 rfl ?_
    unfold cbit
    first | exact ⟨by rw [if_pos g4.2], rfl⟩ | exact ⟨by rw [if_neg (by omega), show 10 + x - 300 = x - 290 by omega], rfl⟩
set_option maxHeartbeats 4000000 in
set_option maxRecDepth 100000 in
theorem t_A_forget  : CT l y_A_forget c_A_forget 1 none (rmm 0 0) (gG D cI cL) [.ref (ad 3)] (wC ad cI cL par prm lin siz atm cnt own out bnd cal opr n ph oc P Q OC OP F S R vis nc gr md) (pV (wC ad cI cL par prm lin siz atm cnt own out bnd cal opr n ph oc P Q OC OP F S R vis nc gr false)) := by
  refine CT.of R_A (by decide) rfl (Nat.le_of_ble_eq_true rfl) ?_
  intro E A hname
  refine x_aload_n (pc := 0) d_A_forget_0 0 rfl ?_
  refine x_iconst (pc := 1) (nI 0) d_A_forget_1 (by decide) ?_
  refine x_put (pc := 2) (ci := 0) (ty := .boolean) d_A_forget_2 in_A t_A ty_A nm_A rfl 11 (by decide) k_A_32 rfl (by decide +kernel) rfl rfl 3 rfl (Nat.le_of_ble_eq_true rfl) (_) (rfl) ?_
  refine x_vret (pc := 5) d_A_forget_5 rfl ?_
  exact ⟨rfl, rfl⟩
set_option maxHeartbeats 4000000 in
set_option maxRecDepth 100000 in
theorem t_A_isMade  : CT l y_A_isMade c_A_isMade 1 (some .boolean) (rmm 0 0) (gG D cI cL) [.ref (ad 3)] (wC ad cI cL par prm lin siz atm cnt own out bnd cal opr n ph oc P Q OC OP F S R vis nc gr md) (pI (bI md) (wC ad cI cL par prm lin siz atm cnt own out bnd cal opr n ph oc P Q OC OP F S R vis nc gr md)) := by
  refine CT.of R_A (by decide) rfl (Nat.le_of_ble_eq_true rfl) ?_
  intro E A hname
  refine x_aload_n (pc := 0) d_A_isMade_0 0 rfl ?_
  refine x_get (pc := 1) (ci := 0) d_A_isMade_1 in_A rfl 11 (by decide) k_A_32 3 rfl rfl ?_
  refine x_zret (pc := 4) d_A_isMade_4 rfl (by first | rfl | exact bI_narrow _) ?_
  exact ⟨rfl, rfl⟩
set_option maxHeartbeats 4000000 in
set_option maxRecDepth 100000 in
theorem t_A_outcomes  : CT l y_A_outcomes c_A_outcomes 1 (some .int) (rmm 0 0) (gG D cI cL) [.ref (ad 3)] (wC ad cI cL par prm lin siz atm cnt own out bnd cal opr n ph oc P Q OC OP F S R vis nc gr md) (pI R (wC ad cI cL par prm lin siz atm cnt own out bnd cal opr n ph oc P Q OC OP F S R vis nc gr md)) := by
  refine CT.of R_A (by decide) rfl (Nat.le_of_ble_eq_true rfl) ?_
  intro E A hname
  refine x_aload_n (pc := 0) d_A_outcomes_0 0 rfl ?_
  refine x_get (pc := 1) (ci := 0) d_A_outcomes_1 in_A rfl 7 (by decide) k_A_44 3 rfl rfl ?_
  refine x_iret (pc := 4) d_A_outcomes_4 rfl ?_
  exact ⟨rfl, rfl⟩
set_option maxHeartbeats 4000000 in
set_option maxRecDepth 100000 in
theorem t_A_flowFrom {x : Nat} (hx : x < 8) : CT l y_A_flowFrom c_A_flowFrom 2 (some .int) (rmm 0 0) (gG D cI cL) [.ref (ad 3), .int (nI x)] (wC ad cI cL par prm lin siz atm cnt own out bnd cal opr n ph oc P Q OC OP F S R vis nc gr md) (pI (F x) (wC ad cI cL par prm lin siz atm cnt own out bnd cal opr n ph oc P Q OC OP F S R vis nc gr md)) := by
  refine CT.of R_A (by decide) rfl (Nat.le_of_ble_eq_true rfl) ?_
  intro E A hname
  refine x_aload_n (pc := 0) d_A_flowFrom_0 0 rfl ?_
  refine x_get (pc := 1) (ci := 0) d_A_flowFrom_1 in_A rfl 5 (by decide) k_A_25 3 rfl rfl ?_
  refine x_iload_n (pc := 4) d_A_flowFrom_4 1 rfl ?_
  refine x_ialdN (pc := 5) d_A_flowFrom_5 18 0 rfl rfl (by omega) (by omega) ?_
  refine x_iret (pc := 6) d_A_flowFrom_6 rfl ?_
  exact ⟨rfl, rfl⟩
set_option maxHeartbeats 4000000 in
set_option maxRecDepth 100000 in
theorem t_A_contoursOf {x : Nat} : CT l y_A_contoursOf c_A_contoursOf 2 (some .int) (rmm 1 22) (gG D cI cL) [.ref (ad 3), .int (nI x)] (wC ad cI cL par prm lin siz atm cnt own out bnd cal opr n ph oc P Q OC OP F S R vis nc gr md) (pI (cin S x) (wC ad cI cL par prm lin siz atm cnt own out bnd cal opr n ph oc P Q OC OP F S R vis nc gr md)) := by
  refine CT.of R_A (by decide) rfl (Nat.le_of_ble_eq_true rfl) ?_
  intro E A hname
  refine x_aload_n (pc := 0) d_A_contoursOf_0 0 rfl ?_
  refine x_get (pc := 1) (ci := 0) d_A_contoursOf_1 in_A rfl 6 (by decide) k_A_36 3 rfl rfl ?_
  refine x_iload_n (pc := 4) d_A_contoursOf_4 1 rfl ?_
  refine x_callS_I (pc := 5) d_A_contoursOf_5 k_A_40 ws_A_contoursIn w_A_contoursIn ini_A wd_A_contoursIn ⟨by decide, by decide⟩ ⟨rfl, rfl⟩ ⟨Nat.zero_le _, Nat.zero_le _⟩ (t_A_contoursIn) rfl rfl (Nat.le_of_ble_eq_true rfl) ?_
  refine x_iret (pc := 8) d_A_contoursOf_8 rfl ?_
  exact ⟨rfl, rfl⟩
set_option maxHeartbeats 4000000 in
set_option maxRecDepth 100000 in
theorem t_A_addState {m : Nat} (hm : m < 8) (hnc : nc < 8) : CT l y_A_addState c_A_addState 4 none (rmm 1 21) (gG D cI cL) [.ref (ad 3), .int (nI m)] (wC ad cI cL par prm lin siz atm cnt own out bnd cal opr n ph oc P Q OC OP F S R vis nc gr md) (fun v w2 => v = none ∧ ∃ P2 Q2 S2 F2 R2 g2, apc (asta (8 * m + nc)) gr (ofw P Q S F R) g2 (ofw P2 Q2 S2 F2 R2) ∧ w2 = (wC ad cI cL par prm lin siz atm cnt own out bnd cal opr n ph oc P2 Q2 OC OP F2 S2 R2 vis nc g2 md)) := by
  refine CT.of R_A (by decide) rfl (Nat.le_of_ble_eq_true rfl) ?_
  intro E A hname
  refine x_aload_n (pc := 0) d_A_addState_0 0 rfl ?_
  refine x_get (pc := 1) (ci := 0) d_A_addState_1 in_A rfl 6 (by decide) k_A_36 3 rfl rfl ?_
  refine x_iload_n (pc := 4) d_A_addState_4 1 rfl ?_
  refine x_aload_n (pc := 5) d_A_addState_5 0 rfl ?_
  refine x_get (pc := 6) (ci := 0) d_A_addState_6 in_A rfl 9 (by decide) k_A_94 3 rfl rfl ?_
  refine x_callS_L (pc := 9) d_A_addState_9 k_A_55 ws_A_pair w_A_pair ini_A wd_A_pair ⟨by decide, by decide⟩ ⟨rfl, rfl⟩ ⟨Nat.zero_le _, Nat.zero_le _⟩ (t_A_pair) rfl rfl (Nat.le_of_ble_eq_true rfl) ?_
  refine x_lor (pc := 12) d_A_addState_12 ?_
  refine x_lstore_n (pc := 13) d_A_addState_13 rfl (by decide) [(2, _), (0, _), (1, _)] rfl ?_
  refine x_lload_n (pc := 14) d_A_addState_14 0 rfl ?_
  refine x_aload_n (pc := 15) d_A_addState_15 1 rfl ?_
  refine x_get (pc := 16) (ci := 0) d_A_addState_16 in_A rfl 6 (by decide) k_A_36 3 rfl rfl ?_
  refine x_lcmp (pc := 19) d_A_addState_19 ?_
  first | refine x_if_eqB (pc := 20) (tgt := 33) d_A_addState_20 rfl ?_ ?_ | refine x_if_eqL (pc := 20) (tgt := 33) d_A_addState_20 rfl ?_ ?_ | refine x_if_eqN (pc := 20) (tgt := 33) d_A_addState_20 rfl (by omega) ?_ ?_ | refine x_if_eq (pc := 20) (tgt := 33) d_A_addState_20 rfl ?_ ?_
  · intro h20
    refine x_vret (pc := 33) d_A_addState_33 rfl ?_
    first | exact ⟨rfl, P, Q, S, F, R, gr, apc.staS gr ((l_orq (lP_bl (by omega))).mp h20), rfl⟩ | exact ⟨rfl, P, Q, _, F, R, true, apc.staN (by omega) gr (lP_bl (by omega)) (Bool.of_not_eq_true (fun z => h20 ((l_orq (lP_bl (by omega))).mpr z))), rfl⟩
  · intro h20
    refine x_aload_n (pc := 23) d_A_addState_23 1 rfl ?_
    refine x_lload_n (pc := 24) d_A_addState_24 0 rfl ?_
    refine x_put (pc := 25) (ci := 0) (ty := .long) d_A_addState_25 in_A t_A ty_A nm_A rfl 6 (by decide) k_A_36 rfl (by decide +kernel) rfl rfl 3 rfl (Nat.le_of_ble_eq_true rfl) (_) (rfl) ?_
    refine x_aload_n (pc := 28) d_A_addState_28 1 rfl ?_
    refine x_iconst (pc := 29) (nI 1) d_A_addState_29 (by decide) ?_
    refine x_put (pc := 30) (ci := 0) (ty := .boolean) d_A_addState_30 in_A t_A ty_A nm_A rfl 10 (by decide) k_A_59 rfl (by decide +kernel) rfl rfl 3 rfl (Nat.le_of_ble_eq_true rfl) (_) (rfl) ?_
    refine x_vret (pc := 33) d_A_addState_33 rfl ?_
    first | exact ⟨rfl, P, Q, S, F, R, gr, apc.staS gr ((l_orq (lP_bl (by omega))).mp h20), rfl⟩ | exact ⟨rfl, P, Q, _, F, R, true, apc.staN (by omega) gr (lP_bl (by omega)) (Bool.of_not_eq_true (fun z => h20 ((l_orq (lP_bl (by omega))).mpr z))), rfl⟩
set_option maxHeartbeats 4000000 in
set_option maxRecDepth 100000 in
theorem t_A_widen {s : Nat} {c : Int32} {p : Int64} (hs : s < 192) : CT l y_A_widen c_A_widen 8 none (rmm 0 0) (gG D cI cL) [.ref (ad 3), .int (nI s), .int c, .long p] (wC ad cI cL par prm lin siz atm cnt own out bnd cal opr n ph oc P Q OC OP F S R vis nc gr md) (fun v w2 => v = none ∧ ∃ P2 Q2 S2 F2 R2 g2, apc (awid s c p) gr (ofw P Q S F R) g2 (ofw P2 Q2 S2 F2 R2) ∧ w2 = (wC ad cI cL par prm lin siz atm cnt own out bnd cal opr n ph oc P2 Q2 OC OP F2 S2 R2 vis nc g2 md)) := by
  refine CT.of R_A (by decide) rfl (Nat.le_of_ble_eq_true rfl) ?_
  intro E A hname
  refine x_aload_n (pc := 0) d_A_widen_0 0 rfl ?_
  refine x_get (pc := 1) (ci := 0) d_A_widen_1 in_A rfl 1 (by decide) k_A_11 3 rfl rfl ?_
  refine x_iload_n (pc := 4) d_A_widen_4 1 rfl ?_
  refine x_ialdN (pc := 5) d_A_widen_5 14 0 rfl rfl (by omega) (by omega) ?_
  refine x_iload_n (pc := 6) d_A_widen_6 2 rfl ?_
  refine x_ior (pc := 7) d_A_widen_7 ?_
  refine x_istore (pc := 8) d_A_widen_8 (by decide) [(5, _), (0, _), (1, _), (2, _), (3, _)] rfl ?_
  refine x_aload_n (pc := 10) d_A_widen_10 1 rfl ?_
  refine x_get (pc := 11) (ci := 0) d_A_widen_11 in_A rfl 2 (by decide) k_A_15 3 rfl rfl ?_
  refine x_iload_n (pc := 14) d_A_widen_14 2 rfl ?_
  refine x_laldN (pc := 15) d_A_widen_15 15 1 rfl rfl (by omega) (by omega) ?_
  refine x_lload_n (pc := 16) d_A_widen_16 4 rfl ?_
  refine x_lor (pc := 17) d_A_widen_17 ?_
  refine x_lstore (pc := 18) d_A_widen_18 (by decide) [(6, _), (5, _), (0, _), (1, _), (2, _), (3, _)] rfl ?_
  refine x_iload (pc := 20) d_A_widen_20 1 rfl ?_
  refine x_aload_n (pc := 22) d_A_widen_22 2 rfl ?_
  refine x_get (pc := 23) (ci := 0) d_A_widen_23 in_A rfl 1 (by decide) k_A_11 3 rfl rfl ?_
  refine x_iload_n (pc := 26) d_A_widen_26 3 rfl ?_
  refine x_ialdN (pc := 27) d_A_widen_27 14 0 rfl rfl (by omega) (by omega) ?_
  refine x_icmp_ne (pc := 28) (tgt := 43) d_A_widen_28 rfl ?_ ?_
  · intro h28
    refine x_aload_n (pc := 43) d_A_widen_43 2 rfl ?_
    refine x_get (pc := 44) (ci := 0) d_A_widen_44 in_A rfl 1 (by decide) k_A_11 3 rfl rfl ?_
    refine x_iload_n (pc := 47) d_A_widen_47 3 rfl ?_
    refine x_iload (pc := 48) d_A_widen_48 1 rfl ?_
    first | refine x_iastU (pc := 50) d_A_widen_50 14 0 rfl rfl (by omega) (by omega) ?_ | refine x_iastN (pc := 50) d_A_widen_50 14 0 rfl rfl (by omega) (by omega) _ rfl ?_
    refine x_aload_n (pc := 51) d_A_widen_51 2 rfl ?_
    refine x_get (pc := 52) (ci := 0) d_A_widen_52 in_A rfl 2 (by decide) k_A_15 3 rfl rfl ?_
    refine x_iload_n (pc := 55) d_A_widen_55 3 rfl ?_
    refine x_lload (pc := 56) d_A_widen_56 0 rfl ?_
    refine x_lastN (pc := 58) d_A_widen_58 15 1 rfl rfl (by omega) (by omega) (_) (rfl) ?_
    refine x_aload_n (pc := 59) d_A_widen_59 2 rfl ?_
    refine x_iconst (pc := 60) (nI 1) d_A_widen_60 (by decide) ?_
    refine x_put (pc := 61) (ci := 0) (ty := .boolean) d_A_widen_61 in_A t_A ty_A nm_A rfl 10 (by decide) k_A_59 rfl (by decide +kernel) rfl rfl 3 rfl (Nat.le_of_ble_eq_true rfl) (_) (rfl) ?_
    refine x_vret (pc := 64) d_A_widen_64 rfl ?_
    first | exact ⟨rfl, P, Q, S, F, R, gr, apc.widS hs gr h28 h40, rfl⟩ | exact ⟨rfl, _, _, S, F, R, true, apc.widN hs gr (Or.inl h28), rfl⟩ | exact ⟨rfl, _, _, S, F, R, true, apc.widN hs gr (Or.inr h40), rfl⟩
  · intro h28
    refine x_lload (pc := 31) d_A_widen_31 0 rfl ?_
    refine x_aload_n (pc := 33) d_A_widen_33 2 rfl ?_
    refine x_get (pc := 34) (ci := 0) d_A_widen_34 in_A rfl 2 (by decide) k_A_15 3 rfl rfl ?_
    refine x_iload_n (pc := 37) d_A_widen_37 3 rfl ?_
    refine x_laldN (pc := 38) d_A_widen_38 15 1 rfl rfl (by omega) (by omega) ?_
    refine x_lcmp (pc := 39) d_A_widen_39 ?_
    first | refine x_if_eqB (pc := 40) (tgt := 64) d_A_widen_40 rfl ?_ ?_ | refine x_if_eqL (pc := 40) (tgt := 64) d_A_widen_40 rfl ?_ ?_ | refine x_if_eqN (pc := 40) (tgt := 64) d_A_widen_40 rfl (by omega) ?_ ?_ | refine x_if_eq (pc := 40) (tgt := 64) d_A_widen_40 rfl ?_ ?_
    · intro h40
      refine x_vret (pc := 64) d_A_widen_64 rfl ?_
      first | exact ⟨rfl, P, Q, S, F, R, gr, apc.widS hs gr h28 h40, rfl⟩ | exact ⟨rfl, _, _, S, F, R, true, apc.widN hs gr (Or.inl h28), rfl⟩ | exact ⟨rfl, _, _, S, F, R, true, apc.widN hs gr (Or.inr h40), rfl⟩
    · intro h40
      refine x_aload_n (pc := 43) d_A_widen_43 2 rfl ?_
      refine x_get (pc := 44) (ci := 0) d_A_widen_44 in_A rfl 1 (by decide) k_A_11 3 rfl rfl ?_
      refine x_iload_n (pc := 47) d_A_widen_47 3 rfl ?_
      refine x_iload (pc := 48) d_A_widen_48 1 rfl ?_
      first | refine x_iastU (pc := 50) d_A_widen_50 14 0 rfl rfl (by omega) (by omega) ?_ | refine x_iastN (pc := 50) d_A_widen_50 14 0 rfl rfl (by omega) (by omega) _ rfl ?_
      refine x_aload_n (pc := 51) d_A_widen_51 2 rfl ?_
      refine x_get (pc := 52) (ci := 0) d_A_widen_52 in_A rfl 2 (by decide) k_A_15 3 rfl rfl ?_
      refine x_iload_n (pc := 55) d_A_widen_55 3 rfl ?_
      refine x_lload (pc := 56) d_A_widen_56 0 rfl ?_
      refine x_lastN (pc := 58) d_A_widen_58 15 1 rfl rfl (by omega) (by omega) (_) (rfl) ?_
      refine x_aload_n (pc := 59) d_A_widen_59 2 rfl ?_
      refine x_iconst (pc := 60) (nI 1) d_A_widen_60 (by decide) ?_
      refine x_put (pc := 61) (ci := 0) (ty := .boolean) d_A_widen_61 in_A t_A ty_A nm_A rfl 10 (by decide) k_A_59 rfl (by decide +kernel) rfl rfl 3 rfl (Nat.le_of_ble_eq_true rfl) (_) (rfl) ?_
      refine x_vret (pc := 64) d_A_widen_64 rfl ?_
      first | exact ⟨rfl, P, Q, S, F, R, gr, apc.widS hs gr h28 h40, rfl⟩ | exact ⟨rfl, _, _, S, F, R, true, apc.widN hs gr (Or.inl h28), rfl⟩ | exact ⟨rfl, _, _, S, F, R, true, apc.widN hs gr (Or.inr h40), rfl⟩
set_option maxHeartbeats 4000000 in
set_option maxRecDepth 100000 in
theorem t_A_carryOver {m e : Nat} (hm : m < 8) (he : e < 8) (hnc : nc < 8) (hp : prm m ≤ 3) : CT l y_A_carryOver c_A_carryOver 5 none (rmm 1 27) (gG D cI cL) [.ref (ad 3), .int (nI m), .int (nI e)] (wC ad cI cL par prm lin siz atm cnt own out bnd cal opr n ph oc P Q OC OP F S R vis nc gr md) (fun v w2 => v = none ∧ ∃ P2 Q2 S2 F2 R2 g2, apc (fun X Y => ∀ i, i < prm m → acar prm m e nc i X Y) gr (ofw P Q S F R) g2 (ofw P2 Q2 S2 F2 R2) ∧ w2 = (wC ad cI cL par prm lin siz atm cnt own out bnd cal opr n ph oc P2 Q2 OC OP F2 S2 R2 vis nc g2 md)) := by
  refine CT.of R_A (by decide) rfl (Nat.le_of_ble_eq_true rfl) ?_
  intro E A hname
  refine x_iconst (pc := 0) (nI 0) d_A_carryOver_0 (by decide) ?_
  refine x_istore_n (pc := 1) d_A_carryOver_1 rfl (by decide) [(3, _), (0, _), (1, _), (2, _)] rfl ?_
  have hlp : ∀ (fuel : Nat) (i : Nat) (P1 : Nat → Int32) (Q1 : Nat → Int64) (S1 : Int64) (F1 : Nat → Int32) (R1 : Int32) (g1 : Bool), prm m - i < fuel → (i ≤ prm m) → (apc (fun X Y => ∀ j, j < i → acar prm m e nc j X Y) gr (ofw P Q S F R) g1 (ofw P1 Q1 S1 F1 R1)) → xj E l (rmm 1 27) c_A_carryOver 5 none R_A (gG D cI cL) A 0 0 (fun v w2 => v = none ∧ ∃ P2 Q2 S2 F2 R2 g2, apc (fun X Y => ∀ i, i < prm m → acar prm m e nc i X Y) gr (ofw P Q S F R) g2 (ofw P2 Q2 S2 F2 R2) ∧ w2 = (wC ad cI cL par prm lin siz atm cnt own out bnd cal opr n ph oc P2 Q2 OC OP F2 S2 R2 vis nc g2 md)) 0 0 (wC ad cI cL par prm lin siz atm cnt own out bnd cal opr n ph oc P1 Q1 OC OP F1 S1 R1 vis nc g1 md) 2 [(3, .int (nI i)), (0, .ref (ad 3)), (1, .int (nI m)), (2, .int (nI e))] [] := by
    intro fuel
    induction fuel with
    | zero => intro i P1 Q1 S1 F1 R1 g1 hf; exact absurd hf (Nat.not_lt_zero _)
    | succ fuel ih =>
      intro i P1 Q1 S1 F1 R1 g1 hf hi hq
      refine x_iload_n (pc := 2) d_A_carryOver_2 0 rfl ?_
      refine x_aload_n (pc := 3) d_A_carryOver_3 1 rfl ?_
      refine x_get (pc := 4) (ci := 0) d_A_carryOver_4 in_A rfl 0 (by decide) k_A_28 3 rfl rfl ?_
      refine x_iload_n (pc := 7) d_A_carryOver_7 2 rfl ?_
      refine x_callV_I (pc := 8) (ci := 2) d_A_carryOver_8 k_A_130 wi_P_paramsOf wv_P_paramsOf w_P_paramsOf ini_P wd_P_paramsOf ⟨by decide, by decide⟩ ⟨rfl, rfl⟩ ⟨Nat.zero_le _, Nat.zero_le _⟩ 1 rfl rfl (t_P_paramsOf hm) rfl rfl (Nat.le_of_ble_eq_true rfl) ?_
      first | refine x_icmp_geN (pc := 11) (tgt := 55) d_A_carryOver_11 rfl (by omega) (by omega) ?_ ?_ | refine x_icmp_ge (pc := 11) (tgt := 55) d_A_carryOver_11 rfl ?_ ?_
      · intro h11
        refine x_vret (pc := 55) d_A_carryOver_55 rfl ?_
        have e1 : i = prm m := by omega
        rw [e1] at hq
        exact ⟨rfl, P1, Q1, S1, F1, R1, g1, hq, rfl⟩
      · intro h11
        refine x_iload_n (pc := 14) d_A_carryOver_14 2 rfl ?_
        refine x_iload_n (pc := 15) d_A_carryOver_15 0 rfl ?_
        refine x_iload_n (pc := 16) d_A_carryOver_16 3 rfl ?_
        refine x_callS_I (pc := 17) d_A_carryOver_17 k_A_48 ws_A_slot w_A_slot ini_A wd_A_slot ⟨by decide, by decide⟩ ⟨rfl, rfl⟩ ⟨Nat.zero_le _, Nat.zero_le _⟩ (t_A_slot) rfl rfl (Nat.le_of_ble_eq_true rfl) ?_
        have hs1 := sl_lt (i := i) hm (by omega) he
        have hs2 := sl_lt (i := i) hm (by omega) hnc
        refine x_istore (pc := 20) d_A_carryOver_20 (by decide) [(4, _), (3, _), (0, _), (1, _), (2, _)] rfl ?_
        refine x_aload_n (pc := 22) d_A_carryOver_22 2 rfl ?_
        refine x_iload_n (pc := 23) d_A_carryOver_23 3 rfl ?_
        refine x_iload_n (pc := 24) d_A_carryOver_24 1 rfl ?_
        refine x_aload_n (pc := 25) d_A_carryOver_25 2 rfl ?_
        refine x_get (pc := 26) (ci := 0) d_A_carryOver_26 in_A rfl 9 (by decide) k_A_94 3 rfl rfl ?_
        refine x_callS_I (pc := 29) d_A_carryOver_29 k_A_48 ws_A_slot w_A_slot ini_A wd_A_slot ⟨by decide, by decide⟩ ⟨rfl, rfl⟩ ⟨Nat.zero_le _, Nat.zero_le _⟩ (t_A_slot) rfl rfl (Nat.le_of_ble_eq_true rfl) ?_
        refine x_aload_n (pc := 32) d_A_carryOver_32 2 rfl ?_
        refine x_get (pc := 33) (ci := 0) d_A_carryOver_33 in_A rfl 1 (by decide) k_A_11 3 rfl rfl ?_
        refine x_iload (pc := 36) d_A_carryOver_36 0 rfl ?_
        refine x_ialdN (pc := 38) d_A_carryOver_38 14 0 rfl rfl (by omega) (by omega) ?_
        refine x_aload_n (pc := 39) d_A_carryOver_39 2 rfl ?_
        refine x_get (pc := 40) (ci := 0) d_A_carryOver_40 in_A rfl 2 (by decide) k_A_15 3 rfl rfl ?_
        refine x_iload (pc := 43) d_A_carryOver_43 0 rfl ?_
        refine x_laldN (pc := 45) d_A_carryOver_45 15 1 rfl rfl (by omega) (by omega) ?_
        refine x_callV_X (pc := 46) (ci := 0) d_A_carryOver_46 k_A_140 wi_A_widen wv_A_widen w_A_widen ini_A wd_A_widen ⟨by decide, by decide⟩ ⟨rfl, rfl⟩ ⟨Nat.zero_le _, Nat.zero_le _⟩ 3 rfl rfl (t_A_widen hs2) rfl rfl (Nat.le_of_ble_eq_true rfl) (fun v46 w46 hp46 => ?_)
        obtain ⟨rfl, P2, Q2, S2, F2, R2, g2, hap2, rfl⟩ := hp46
        refine x_iincN (pc := 49) d_A_carryOver_49 1 rfl (by decide) [(3, _), (4, _), (0, _), (1, _), (2, _)] rfl ?_
        refine x_goto (pc := 52) (tgt := 2) d_A_carryOver_52 rfl ?_
        refine x_sub [0, 2, 3, 4] _ rfl ?_
        exact ih (i + 1) P2 Q2 S2 F2 R2 g2 (by omega) (by omega) (apc.next (fun j => acar.amon prm m e nc j) hq (apc.car (sl_lt hm (by omega) he) hap2))
  refine x_sub [0, 1, 2, 3] _ rfl ?_
  exact hlp (prm m + 1) 0 P Q S F R gr (by omega) (by omega) (apc.zero gr _)
set_option maxHeartbeats 4000000 in
set_option maxRecDepth 100000 in
theorem t_A_enter {m e first : Nat} (hw : pwf cnt par prm siz atm) (hli : linok cnt par lin) (hm : m < cnt) (he : e < 8) (hnc : nc < 8) (hvi : vis < 8) (hfi : first + prm m ≤ 5) : CT l y_A_enter c_A_enter 6 none (rmm 2 51) (gG D cI cL) [.ref (ad 3), .int (nI m), .int (nI e), .int (nI first)] (wC ad cI cL par prm lin siz atm cnt own out bnd cal opr n ph oc P Q OC OP F S R vis nc gr md) (fun v w2 => v = none ∧ ∃ P2 Q2 S2 F2 R2 g2, apc (acall (anc par) prm vis m e nc (fun i b => bt (OC (first + i)) b = true) (fun i b => bl (OP (first + i)) b = true)) gr (ofw P Q S F R) g2 (ofw P2 Q2 S2 F2 R2) ∧ w2 = (wC ad cI cL par prm lin siz atm cnt own out bnd cal opr n ph oc P2 Q2 OC OP F2 S2 R2 vis nc g2 md)) := by
  refine CT.of R_A (by decide) rfl (Nat.le_of_ble_eq_true rfl) ?_
  intro E A hname
  have hc8 : cnt ≤ 8 := hw.2.1
  have hpm := hw.2.2.2.1 m (by omega)
  refine x_aload_n (pc := 0) d_A_enter_0 0 rfl ?_
  refine x_get (pc := 1) (ci := 0) d_A_enter_1 in_A rfl 5 (by decide) k_A_25 3 rfl rfl ?_
  refine x_aload_n (pc := 4) d_A_enter_4 0 rfl ?_
  refine x_get (pc := 5) (ci := 0) d_A_enter_5 in_A rfl 8 (by decide) k_A_91 3 rfl rfl ?_
  refine x_dup2 (pc := 8) d_A_enter_8 rfl rfl ?_
  refine x_ialdN (pc := 9) d_A_enter_9 18 0 rfl rfl (by omega) (by omega) ?_
  refine x_iconst (pc := 10) (nI 1) d_A_enter_10 (by decide) ?_
  refine x_iload_n (pc := 11) d_A_enter_11 1 rfl ?_
  refine x_ishl (pc := 12) d_A_enter_12 ?_
  refine x_ior (pc := 13) d_A_enter_13 ?_
  first | refine x_iastU (pc := 14) d_A_enter_14 18 0 rfl rfl (by omega) (by omega) ?_ | refine x_iastN (pc := 14) d_A_enter_14 18 0 rfl rfl (by omega) (by omega) _ rfl ?_
  refine x_aload_n (pc := 15) d_A_enter_15 0 rfl ?_
  refine x_iload_n (pc := 16) d_A_enter_16 1 rfl ?_
  refine x_callV_X (pc := 17) (ci := 0) d_A_enter_17 k_A_136 wi_A_addState wv_A_addState w_A_addState ini_A wd_A_addState ⟨by decide, by decide⟩ ⟨rfl, rfl⟩ ⟨Nat.zero_le _, Nat.zero_le _⟩ 3 rfl rfl (t_A_addState (by omega) hnc) rfl rfl (Nat.le_of_ble_eq_true rfl) (fun v17 w17 hp17 => ?_)
  obtain ⟨rfl, Pa, Qa, Sa, Fa, Ra, ga, ha2, rfl⟩ := hp17
  have ha1 : apc (aflo vis m) gr (ofw P Q S F R) gr (ofw P Q S (upd F vis (F vis ||| 1 <<< (nI m &&& 31))) R) := apc.flo hvi gr gr (b_one m (by omega)) (Or.inl rfl)
  refine x_iconst (pc := 20) (nI 0) d_A_enter_20 (by decide) ?_
  refine x_istore (pc := 21) d_A_enter_21 (by decide) [(4, _), (0, _), (1, _), (2, _), (3, _)] rfl ?_
  have hlp : ∀ (fuel : Nat) (i : Nat) (P1 : Nat → Int32) (Q1 : Nat → Int64) (S1 : Int64) (F1 : Nat → Int32) (R1 : Int32) (g1 : Bool), prm m - i < fuel → (i ≤ prm m) → (apc (fun X Y => ∀ j, j < i → awid (sl m j nc) (OC (first + j)) (OP (first + j)) X Y) ga (ofw Pa Qa Sa Fa Ra) g1 (ofw P1 Q1 S1 F1 R1)) → xj E l (rmm 2 51) c_A_enter 6 none R_A (gG D cI cL) A 0 0 (fun v w2 => v = none ∧ ∃ P2 Q2 S2 F2 R2 g2, apc (acall (anc par) prm vis m e nc (fun i b => bt (OC (first + i)) b = true) (fun i b => bl (OP (first + i)) b = true)) gr (ofw P Q S F R) g2 (ofw P2 Q2 S2 F2 R2) ∧ w2 = (wC ad cI cL par prm lin siz atm cnt own out bnd cal opr n ph oc P2 Q2 OC OP F2 S2 R2 vis nc g2 md)) 0 0 (wC ad cI cL par prm lin siz atm cnt own out bnd cal opr n ph oc P1 Q1 OC OP F1 S1 R1 vis nc g1 md) 23 [(4, .int (nI i)), (0, .ref (ad 3)), (1, .int (nI m)), (2, .int (nI e)), (3, .int (nI first))] [] := by
    intro fuel
    induction fuel with
    | zero => intro i P1 Q1 S1 F1 R1 g1 hf; exact absurd hf (Nat.not_lt_zero _)
    | succ fuel ih =>
      intro i P1 Q1 S1 F1 R1 g1 hf hi hq
      refine x_iload (pc := 23) d_A_enter_23 0 rfl ?_
      refine x_aload_n (pc := 25) d_A_enter_25 1 rfl ?_
      refine x_get (pc := 26) (ci := 0) d_A_enter_26 in_A rfl 0 (by decide) k_A_28 3 rfl rfl ?_
      refine x_iload_n (pc := 29) d_A_enter_29 2 rfl ?_
      refine x_callV_I (pc := 30) (ci := 2) d_A_enter_30 k_A_130 wi_P_paramsOf wv_P_paramsOf w_P_paramsOf ini_P wd_P_paramsOf ⟨by decide, by decide⟩ ⟨rfl, rfl⟩ ⟨Nat.zero_le _, Nat.zero_le _⟩ 1 rfl rfl (t_P_paramsOf (by omega)) rfl rfl (Nat.le_of_ble_eq_true rfl) ?_
      first | refine x_icmp_geN (pc := 33) (tgt := 76) d_A_enter_33 rfl (by omega) (by omega) ?_ ?_ | refine x_icmp_ge (pc := 33) (tgt := 76) d_A_enter_33 rfl ?_ ?_
      · intro h33
        refine x_aload_n (pc := 76) d_A_enter_76 1 rfl ?_
        refine x_get (pc := 77) (ci := 0) d_A_enter_77 in_A rfl 0 (by decide) k_A_28 3 rfl rfl ?_
        refine x_iload_n (pc := 80) d_A_enter_80 2 rfl ?_
        refine x_callV_I (pc := 81) (ci := 2) d_A_enter_81 k_A_144 wi_P_lineageOf wv_P_lineageOf w_P_lineageOf ini_P wd_P_lineageOf ⟨by decide, by decide⟩ ⟨rfl, rfl⟩ ⟨Nat.zero_le _, Nat.zero_le _⟩ 1 rfl rfl (t_P_lineageOf (by omega)) rfl rfl (Nat.le_of_ble_eq_true rfl) ?_
        have e1 : i = prm m := by omega
        rw [e1] at hq
        clear ih hf
        refine x_istore (pc := 84) d_A_enter_84 (by decide) [(4, _), (0, _), (1, _), (2, _), (3, _)] rfl ?_
        refine x_iconst (pc := 86) (nI 0) d_A_enter_86 (by decide) ?_
        refine x_istore (pc := 87) d_A_enter_87 (by decide) [(5, _), (4, _), (0, _), (1, _), (2, _), (3, _)] rfl ?_
        have hlo : ∀ (fuel : Nat) (a : Nat) (P3 : Nat → Int32) (Q3 : Nat → Int64) (S3 : Int64) (F3 : Nat → Int32) (R3 : Int32) (g3 : Bool), m - a < fuel → (a ≤ m) → (apc (fun X Y => ∀ z, z < a → bt (lin m) z = true → ∀ i, i < prm z → acar prm z e nc i X Y) g1 (ofw P1 Q1 S1 F1 R1) g3 (ofw P3 Q3 S3 F3 R3)) → xj E l (rmm 2 51) c_A_enter 6 none R_A (gG D cI cL) A 0 0 (fun v w2 => v = none ∧ ∃ P2 Q2 S2 F2 R2 g2, apc (acall (anc par) prm vis m e nc (fun i b => bt (OC (first + i)) b = true) (fun i b => bl (OP (first + i)) b = true)) gr (ofw P Q S F R) g2 (ofw P2 Q2 S2 F2 R2) ∧ w2 = (wC ad cI cL par prm lin siz atm cnt own out bnd cal opr n ph oc P2 Q2 OC OP F2 S2 R2 vis nc g2 md)) 0 0 (wC ad cI cL par prm lin siz atm cnt own out bnd cal opr n ph oc P3 Q3 OC OP F3 S3 R3 vis nc g3 md) 89 [(5, .int (nI a)), (4, .int (lin m)), (0, .ref (ad 3)), (1, .int (nI m)), (2, .int (nI e)), (3, .int (nI first))] [] := by
          intro fuel
          induction fuel with
          | zero => intro a P3 Q3 S3 F3 R3 g3 hf; exact absurd hf (Nat.not_lt_zero _)
          | succ fuel ih =>
            intro a P3 Q3 S3 F3 R3 g3 hf ha hr
            refine x_iload (pc := 89) d_A_enter_89 0 rfl ?_
            refine x_iload_n (pc := 91) d_A_enter_91 3 rfl ?_
            first | refine x_icmp_geN (pc := 92) (tgt := 118) d_A_enter_92 rfl (by omega) (by omega) ?_ ?_ | refine x_icmp_ge (pc := 92) (tgt := 118) d_A_enter_92 rfl ?_ ?_
            · intro h92
              refine x_vret (pc := 118) d_A_enter_118 rfl ?_
              have e2 : a = m := by omega
              rw [e2] at hr
              exact ⟨rfl, P3, Q3, S3, F3, R3, g3, aenter hli hm hc8 ha1 ha2 hq hr, rfl⟩
            · intro h92
              refine x_iload (pc := 95) d_A_enter_95 1 rfl ?_
              refine x_iload (pc := 97) d_A_enter_97 0 rfl ?_
              refine x_callSN_I (pc := 99) d_A_enter_99 k_A_110 ws_C_has w_C_has ini_C wd_C_has ⟨by decide, by decide⟩ ⟨rfl, rfl⟩ ⟨Nat.zero_le _, Nat.zero_le _⟩ (t_C_has (by omega)) rfl rfl (Nat.le_of_ble_eq_true rfl) ?_
              first | refine x_if_eqB (pc := 102) (tgt := 112) d_A_enter_102 rfl ?_ ?_ | refine x_if_eqL (pc := 102) (tgt := 112) d_A_enter_102 rfl ?_ ?_ | refine x_if_eqN (pc := 102) (tgt := 112) d_A_enter_102 rfl (by omega) ?_ ?_ | refine x_if_eq (pc := 102) (tgt := 112) d_A_enter_102 rfl ?_ ?_
              · intro h102
                refine x_iincN (pc := 112) d_A_enter_112 0 rfl (by decide) [(5, _), (4, _), (0, _), (1, _), (2, _), (3, _)] rfl ?_
                refine x_goto (pc := 115) (tgt := 89) d_A_enter_115 rfl ?_
                refine x_sub [0, 1, 2, 3, 4, 5] _ rfl ?_
                first
                  | exact ih (a + 1) P4 Q4 S4 F4 R4 g4 (by omega) (by omega) (apc.next (N := fun a X Y => bt (lin m) a = true → ∀ i, i < prm a → acar prm a e nc i X Y) (fun a => (amon.all (fun i => (acar.amon prm a e nc i).imp)).imp) hr (hap4.conv (fun Z _ q => q h102) (fun q _ => q)))
                  | exact ih (a + 1) P3 Q3 S3 F3 R3 g3 (by omega) (by omega) (apc.next (N := fun a X Y => bt (lin m) a = true → ∀ i, i < prm a → acar prm a e nc i X Y) (fun a => (amon.all (fun i => (acar.amon prm a e nc i).imp)).imp) hr ((apc.skip g3 _).conv (fun _ _ _ => trivial) (fun _ q => by rw [h102] at q; cases q)))
              · intro h102
                refine x_aload_n (pc := 105) d_A_enter_105 2 rfl ?_
                refine x_iload (pc := 106) d_A_enter_106 0 rfl ?_
                refine x_iload_n (pc := 108) d_A_enter_108 4 rfl ?_
                refine x_callV_X (pc := 109) (ci := 0) d_A_enter_109 k_A_147 wi_A_carryOver wv_A_carryOver w_A_carryOver ini_A wd_A_carryOver ⟨by decide, by decide⟩ ⟨rfl, rfl⟩ ⟨Nat.zero_le _, Nat.zero_le _⟩ 3 rfl rfl (t_A_carryOver (by omega) he hnc (hw.2.2.2.1 a (by omega))) rfl rfl (Nat.le_of_ble_eq_true rfl) (fun v109 w109 hp109 => ?_)
                obtain ⟨rfl, P4, Q4, S4, F4, R4, g4, hap4, rfl⟩ := hp109
                refine x_iincN (pc := 112) d_A_enter_112 0 rfl (by decide) [(5, _), (4, _), (0, _), (1, _), (2, _), (3, _)] rfl ?_
                refine x_goto (pc := 115) (tgt := 89) d_A_enter_115 rfl ?_
                refine x_sub [0, 1, 2, 3, 4, 5] _ rfl ?_
                first
                  | exact ih (a + 1) P4 Q4 S4 F4 R4 g4 (by omega) (by omega) (apc.next (N := fun a X Y => bt (lin m) a = true → ∀ i, i < prm a → acar prm a e nc i X Y) (fun a => (amon.all (fun i => (acar.amon prm a e nc i).imp)).imp) hr (hap4.conv (fun Z _ q => q h102) (fun q _ => q)))
                  | exact ih (a + 1) P3 Q3 S3 F3 R3 g3 (by omega) (by omega) (apc.next (N := fun a X Y => bt (lin m) a = true → ∀ i, i < prm a → acar prm a e nc i X Y) (fun a => (amon.all (fun i => (acar.amon prm a e nc i).imp)).imp) hr ((apc.skip g3 _).conv (fun _ _ _ => trivial) (fun _ q => by rw [h102] at q; cases q)))
        refine x_sub [0, 1, 2, 3, 4, 5] _ rfl ?_
        exact hlo (m + 1) 0 P1 Q1 S1 F1 R1 g1 (by omega) (by omega) (apc.zero (N := fun a X Y => bt (lin m) a = true → ∀ i, i < prm a → acar prm a e nc i X Y) g1 _)
      · intro h33
        refine x_iload_n (pc := 36) d_A_enter_36 4 rfl ?_
        refine x_iload (pc := 37) d_A_enter_37 0 rfl ?_
        first | refine x_iaddN (pc := 39) d_A_enter_39 ?_ | refine x_iadd (pc := 39) d_A_enter_39 ?_
        refine x_istore (pc := 40) d_A_enter_40 (by decide) [(5, _), (4, _), (0, _), (1, _), (2, _), (3, _)] rfl ?_
        refine x_aload_n (pc := 42) d_A_enter_42 2 rfl ?_
        refine x_iload_n (pc := 43) d_A_enter_43 3 rfl ?_
        refine x_iload (pc := 44) d_A_enter_44 1 rfl ?_
        refine x_aload_n (pc := 46) d_A_enter_46 2 rfl ?_
        refine x_get (pc := 47) (ci := 0) d_A_enter_47 in_A rfl 9 (by decide) k_A_94 3 rfl rfl ?_
        refine x_callS_I (pc := 50) d_A_enter_50 k_A_48 ws_A_slot w_A_slot ini_A wd_A_slot ⟨by decide, by decide⟩ ⟨rfl, rfl⟩ ⟨Nat.zero_le _, Nat.zero_le _⟩ (t_A_slot) rfl rfl (Nat.le_of_ble_eq_true rfl) ?_
        refine x_aload_n (pc := 53) d_A_enter_53 2 rfl ?_
        refine x_get (pc := 54) (ci := 0) d_A_enter_54 in_A rfl 3 (by decide) k_A_19 3 rfl rfl ?_
        refine x_iload (pc := 57) d_A_enter_57 0 rfl ?_
        refine x_ialdN (pc := 59) d_A_enter_59 16 0 rfl rfl (by omega) (by omega) ?_
        refine x_aload_n (pc := 60) d_A_enter_60 2 rfl ?_
        refine x_get (pc := 61) (ci := 0) d_A_enter_61 in_A rfl 4 (by decide) k_A_22 3 rfl rfl ?_
        refine x_iload (pc := 64) d_A_enter_64 0 rfl ?_
        refine x_laldN (pc := 66) d_A_enter_66 17 1 rfl rfl (by omega) (by omega) ?_
        refine x_callV_X (pc := 67) (ci := 0) d_A_enter_67 k_A_140 wi_A_widen wv_A_widen w_A_widen ini_A wd_A_widen ⟨by decide, by decide⟩ ⟨rfl, rfl⟩ ⟨Nat.zero_le _, Nat.zero_le _⟩ 3 rfl rfl (t_A_widen (sl_lt (by omega) (by omega) hnc)) rfl rfl (Nat.le_of_ble_eq_true rfl) (fun v67 w67 hp67 => ?_)
        obtain ⟨rfl, P2, Q2, S2, F2, R2, g2, hap2, rfl⟩ := hp67
        refine x_iincN (pc := 70) d_A_enter_70 1 rfl (by decide) [(4, _), (5, _), (0, _), (1, _), (2, _), (3, _)] rfl ?_
        refine x_goto (pc := 73) (tgt := 23) d_A_enter_73 rfl ?_
        refine x_sub [0, 2, 3, 4, 5] _ rfl ?_
        exact ih (i + 1) P2 Q2 S2 F2 R2 g2 (by omega) (by omega) (apc.next (fun j => awid.amon _ _ _) hq hap2)
  refine x_sub [0, 1, 2, 3, 4] _ rfl ?_
  exact hlp (prm m + 1) 0 Pa Qa Sa Fa Ra ga (by omega) (by omega) (apc.zero ga _)
end ANA
