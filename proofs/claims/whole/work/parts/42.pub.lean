section PUB
variable {l : Launch} {D : va_G} {ad : Nat → Nat} {cI cL : ClassId}
variable {par : Nat → Int32} {prm : Nat → Nat} {lin : Nat → Int32} {siz atm : Nat → Nat} {cnt : Nat} {own out bnd : Nat → Nat} {cal : Nat → Int32} {opr : Nat → Nat} {n ph oc : Nat} {P : Nat → Int32} {Q : Nat → Int64} {OC : Nat → Int32} {OP : Nat → Int64} {F : Nat → Int32} {S : Int64} {R : Int32} {vis nc : Nat} {gr md : Bool}
set_option maxHeartbeats 4000000 in
set_option maxRecDepth 100000 in
theorem t_C_forgetRuns  : CT l y_C_forgetRuns c_C_forgetRuns 1 none (rmm 1 20) (gG D cI cL) [.ref (ad 0)] (wC ad cI cL par prm lin siz atm cnt own out bnd cal opr n ph oc P Q OC OP F S R vis nc gr md) (pV (wC ad cI cL par prm lin siz atm cnt own out bnd cal opr n 0 oc P Q OC OP F S R vis nc gr false)) := by
  refine CT.of R_C (by decide) rfl (Nat.le_of_ble_eq_true rfl) ?_
  intro E A hname
  refine x_aload_n (pc := 0) d_C_forgetRuns_0 0 rfl ?_
  refine x_get (pc := 1) (ci := 3) d_C_forgetRuns_1 in_C rfl 1 (by decide) k_C_21 0 rfl rfl ?_
  refine x_callV_Z (pc := 4) (ci := 1) d_C_forgetRuns_4 k_C_113 wi_M_forget wv_M_forget w_M_forget ini_M wd_M_forget ⟨by decide, by decide⟩ ⟨rfl, rfl⟩ ⟨Nat.zero_le _, Nat.zero_le _⟩ 2 rfl rfl (t_M_forget) rfl rfl (Nat.le_of_ble_eq_true rfl) ?_
  refine x_aload_n (pc := 7) d_C_forgetRuns_7 0 rfl ?_
  refine x_get (pc := 8) (ci := 3) d_C_forgetRuns_8 in_C rfl 2 (by decide) k_C_28 0 rfl rfl ?_
  refine x_callV_Z (pc := 11) (ci := 0) d_C_forgetRuns_11 k_C_116 wi_A_forget wv_A_forget w_A_forget ini_A wd_A_forget ⟨by decide, by decide⟩ ⟨rfl, rfl⟩ ⟨Nat.zero_le _, Nat.zero_le _⟩ 3 rfl rfl (t_A_forget) rfl rfl (Nat.le_of_ble_eq_true rfl) ?_
  refine x_vret (pc := 14) d_C_forgetRuns_14 rfl ?_
  exact ⟨rfl, rfl⟩
set_option maxHeartbeats 4000000 in
set_option maxRecDepth 100000 in
theorem t_C_lambda {x y : Int32} (hc : cnt ≤ 8) : CT l y_C_lambda c_C_lambda 4 (some .int) (rmm 2 44) (gG D cI cL) [.ref (ad 0), .int x, .int y] (wC ad cI cL par prm lin siz atm cnt own out bnd cal opr n ph oc P Q OC OP F S R vis nc gr md) (fun v w2 => (∃ p k, lamok cnt x y p k ∧ v = some (.int (nI cnt)) ∧ w2 = (wC ad cI cL (upd par cnt (nI p)) (un prm cnt k) (upd lin cnt (lin p ||| 1 <<< (nI cnt &&& 31))) (un siz cnt 0) atm (cnt + 1) own out bnd cal opr n 0 oc P Q OC OP F S R vis nc gr false)) ∨ ((¬ ∃ p k, lamok cnt x y p k) ∧ v = some (.int (-1)) ∧ w2 = (wC ad cI cL par prm lin siz atm cnt own out bnd cal opr n ph oc P Q OC OP F S R vis nc gr md))) := by
  refine CT.of R_C (by decide) rfl (Nat.le_of_ble_eq_true rfl) ?_
  intro E A hname
  refine x_aload_n (pc := 0) d_C_lambda_0 0 rfl ?_
  refine x_get (pc := 1) (ci := 3) d_C_lambda_1 in_C rfl 0 (by decide) k_C_10 0 rfl rfl ?_
  refine x_iload_n (pc := 4) d_C_lambda_4 1 rfl ?_
  refine x_iload_n (pc := 5) d_C_lambda_5 2 rfl ?_
  refine x_callV_X (pc := 6) (ci := 2) d_C_lambda_6 k_C_32 wi_P_makeLambda wv_P_makeLambda w_P_makeLambda ini_P wd_P_makeLambda ⟨by decide, by decide⟩ ⟨rfl, rfl⟩ ⟨Nat.zero_le _, Nat.zero_le _⟩ 1 rfl rfl (t_P_makeLambda hc) rfl rfl (Nat.le_of_ble_eq_true rfl) (fun v6 w6 hp6 => ?_)
  rcases hp6 with ⟨p, k, hk, rfl, rfl⟩ | ⟨hn, rfl, rfl⟩
  · refine x_istore_n (pc := 9) d_C_lambda_9 rfl (by decide) [(3, _), (0, _), (1, _), (2, _)] rfl ?_
    refine x_iload_n (pc := 10) d_C_lambda_10 0 rfl ?_
    refine x_iconst (pc := 11) (-1) d_C_lambda_11 (by decide) ?_
    refine x_icmp_eq (pc := 12) (tgt := 19) d_C_lambda_12 rfl ?_ ?_
    · intro h12
      exact absurd h12.symm (m1_ne (by omega))
    · intro h12
      refine x_aload_n (pc := 15) d_C_lambda_15 1 rfl ?_
      refine x_callV_Z (pc := 16) (ci := 3) d_C_lambda_16 k_C_36 wi_C_forgetRuns wv_C_forgetRuns w_C_forgetRuns ini_C wd_C_forgetRuns ⟨by decide, by decide⟩ ⟨rfl, rfl⟩ ⟨Nat.zero_le _, Nat.zero_le _⟩ 0 rfl rfl (t_C_forgetRuns) rfl rfl (Nat.le_of_ble_eq_true rfl) ?_
      refine x_iload_n (pc := 19) d_C_lambda_19 0 rfl ?_
      refine x_iret (pc := 20) d_C_lambda_20 rfl ?_
      exact Or.inl ⟨p, k, hk, rfl, rfl⟩
  · refine x_istore_n (pc := 9) d_C_lambda_9 rfl (by decide) [(3, _), (0, _), (1, _), (2, _)] rfl ?_
    refine x_iload_n (pc := 10) d_C_lambda_10 0 rfl ?_
    refine x_iconst (pc := 11) (-1) d_C_lambda_11 (by decide) ?_
    refine x_icmp_eq (pc := 12) (tgt := 19) d_C_lambda_12 rfl ?_ ?_
    · intro h12
      refine x_iload_n (pc := 19) d_C_lambda_19 0 rfl ?_
      refine x_iret (pc := 20) d_C_lambda_20 rfl ?_
      exact Or.inr ⟨hn, rfl, rfl⟩
    · intro h12
      exact absurd rfl h12
set_option maxHeartbeats 4000000 in
set_option maxRecDepth 100000 in
theorem t_C_put {x y : Int32} (hw : pwf cnt par prm siz atm) (hli : linok cnt par lin) : CT l y_C_put c_C_put 4 (some .boolean) (rmm 4 88) (gG D cI cL) [.ref (ad 0), .int x, .int y] (wC ad cI cL par prm lin siz atm cnt own out bnd cal opr n ph oc P Q OC OP F S R vis nc gr md) (fun v w2 => (∃ lx b, putok cnt par prm siz x y lx b ∧ v = some (.int (bI true)) ∧ w2 = (wC ad cI cL par prm lin (un siz lx (siz lx + 1)) (un atm (4 * lx + siz lx) b) cnt own out bnd cal opr n 0 oc P Q OC OP F S R vis nc gr false)) ∨ ((¬ ∃ lx b, putok cnt par prm siz x y lx b) ∧ v = some (.int (bI false)) ∧ w2 = (wC ad cI cL par prm lin siz atm cnt own out bnd cal opr n ph oc P Q OC OP F S R vis nc gr md))) := by
  refine CT.of R_C (by decide) rfl (Nat.le_of_ble_eq_true rfl) ?_
  intro E A hname
  refine x_aload_n (pc := 0) d_C_put_0 0 rfl ?_
  refine x_get (pc := 1) (ci := 3) d_C_put_1 in_C rfl 0 (by decide) k_C_10 0 rfl rfl ?_
  refine x_iload_n (pc := 4) d_C_put_4 1 rfl ?_
  refine x_iload_n (pc := 5) d_C_put_5 2 rfl ?_
  refine x_callV_X (pc := 6) (ci := 2) d_C_put_6 k_C_39 wi_P_append wv_P_append w_P_append ini_P wd_P_append ⟨by decide, by decide⟩ ⟨rfl, rfl⟩ ⟨Nat.zero_le _, Nat.zero_le _⟩ 1 rfl rfl (t_P_append hw hli) rfl rfl (Nat.le_of_ble_eq_true rfl) (fun v6 w6 hp6 => ?_)
  rcases hp6 with ⟨lx, b, hk, rfl, rfl⟩ | ⟨hn, rfl, rfl⟩
  · refine x_istore_n (pc := 9) d_C_put_9 rfl (by decide) [(3, _), (0, _), (1, _), (2, _)] rfl ?_
    refine x_iload_n (pc := 10) d_C_put_10 0 rfl ?_
    first | refine x_if_eqB (pc := 11) (tgt := 18) d_C_put_11 rfl ?_ ?_ | refine x_if_eqL (pc := 11) (tgt := 18) d_C_put_11 rfl ?_ ?_ | refine x_if_eqN (pc := 11) (tgt := 18) d_C_put_11 rfl (by omega) ?_ ?_ | refine x_if_eq (pc := 11) (tgt := 18) d_C_put_11 rfl ?_ ?_
    · intro h11
      cases h11
    · intro h11
      refine x_aload_n (pc := 14) d_C_put_14 1 rfl ?_
      refine x_callV_Z (pc := 15) (ci := 3) d_C_put_15 k_C_36 wi_C_forgetRuns wv_C_forgetRuns w_C_forgetRuns ini_C wd_C_forgetRuns ⟨by decide, by decide⟩ ⟨rfl, rfl⟩ ⟨Nat.zero_le _, Nat.zero_le _⟩ 0 rfl rfl (t_C_forgetRuns) rfl rfl (Nat.le_of_ble_eq_true rfl) ?_
      refine x_iload_n (pc := 18) d_C_put_18 0 rfl ?_
      refine x_zret (pc := 19) d_C_put_19 rfl (by first | rfl | exact bI_narrow _) ?_
      exact Or.inl ⟨lx, b, hk, rfl, rfl⟩
  · refine x_istore_n (pc := 9) d_C_put_9 rfl (by decide) [(3, _), (0, _), (1, _), (2, _)] rfl ?_
    refine x_iload_n (pc := 10) d_C_put_10 0 rfl ?_
    first | refine x_if_eqB (pc := 11) (tgt := 18) d_C_put_11 rfl ?_ ?_ | refine x_if_eqL (pc := 11) (tgt := 18) d_C_put_11 rfl ?_ ?_ | refine x_if_eqN (pc := 11) (tgt := 18) d_C_put_11 rfl (by omega) ?_ ?_ | refine x_if_eq (pc := 11) (tgt := 18) d_C_put_11 rfl ?_ ?_
    · intro h11
      refine x_iload_n (pc := 18) d_C_put_18 0 rfl ?_
      refine x_zret (pc := 19) d_C_put_19 rfl (by first | rfl | exact bI_narrow _) ?_
      exact Or.inr ⟨hn, rfl, rfl⟩
    · intro h11
      cases h11
set_option maxHeartbeats 4000000 in
set_option maxRecDepth 100000 in
theorem t_C_clear  : CT l y_C_clear c_C_clear 1 none (rmm 2 40) (gG D cI cL) [.ref (ad 0)] (wC ad cI cL par prm lin siz atm cnt own out bnd cal opr n ph oc P Q OC OP F S R vis nc gr md) (pV (wC ad cI cL par prm lin (un siz 0 0) atm 1 own out bnd cal opr n 0 oc P Q OC OP F S R vis nc gr false)) := by
  refine CT.of R_C (by decide) rfl (Nat.le_of_ble_eq_true rfl) ?_
  intro E A hname
  refine x_aload_n (pc := 0) d_C_clear_0 0 rfl ?_
  refine x_get (pc := 1) (ci := 3) d_C_clear_1 in_C rfl 0 (by decide) k_C_10 0 rfl rfl ?_
  refine x_callV_Z (pc := 4) (ci := 2) d_C_clear_4 k_C_43 wi_P_empty wv_P_empty w_P_empty ini_P wd_P_empty ⟨by decide, by decide⟩ ⟨rfl, rfl⟩ ⟨Nat.zero_le _, Nat.zero_le _⟩ 1 rfl rfl (t_P_empty) rfl rfl (Nat.le_of_ble_eq_true rfl) ?_
  refine x_aload_n (pc := 7) d_C_clear_7 0 rfl ?_
  refine x_callV_Z (pc := 8) (ci := 3) d_C_clear_8 k_C_36 wi_C_forgetRuns wv_C_forgetRuns w_C_forgetRuns ini_C wd_C_forgetRuns ⟨by decide, by decide⟩ ⟨rfl, rfl⟩ ⟨Nat.zero_le _, Nat.zero_le _⟩ 0 rfl rfl (t_C_forgetRuns) rfl rfl (Nat.le_of_ble_eq_true rfl) ?_
  refine x_vret (pc := 11) d_C_clear_11 rfl ?_
  exact ⟨rfl, rfl⟩
set_option maxHeartbeats 4000000 in
set_option maxRecDepth 100000 in
theorem t_C_lambdas  : CT l y_C_lambdas c_C_lambdas 1 (some .int) (rmm 1 20) (gG D cI cL) [.ref (ad 0)] (wC ad cI cL par prm lin siz atm cnt own out bnd cal opr n ph oc P Q OC OP F S R vis nc gr md) (pI (nI cnt) (wC ad cI cL par prm lin siz atm cnt own out bnd cal opr n ph oc P Q OC OP F S R vis nc gr md)) := by
  refine CT.of R_C (by decide) rfl (Nat.le_of_ble_eq_true rfl) ?_
  intro E A hname
  refine x_aload_n (pc := 0) d_C_lambdas_0 0 rfl ?_
  refine x_get (pc := 1) (ci := 3) d_C_lambdas_1 in_C rfl 0 (by decide) k_C_10 0 rfl rfl ?_
  refine x_callV_I (pc := 4) (ci := 2) d_C_lambdas_4 k_C_46 wi_P_size wv_P_size w_P_size ini_P wd_P_size ⟨by decide, by decide⟩ ⟨rfl, rfl⟩ ⟨Nat.zero_le _, Nat.zero_le _⟩ 1 rfl rfl (t_P_size) rfl rfl (Nat.le_of_ble_eq_true rfl) ?_
  refine x_iret (pc := 7) d_C_lambdas_7 rfl ?_
  exact ⟨rfl, rfl⟩
set_option maxHeartbeats 4000000 in
set_option maxRecDepth 100000 in
theorem t_C_atom {x i : Int32} (hw : pwf cnt par prm siz atm) : CT l y_C_atom c_C_atom 3 (some .int) (rmm 2 43) (gG D cI cL) [.ref (ad 0), .int x, .int i] (wC ad cI cL par prm lin siz atm cnt own out bnd cal opr n ph oc P Q OC OP F S R vis nc gr md) (pI (aval cnt siz atm x i) (wC ad cI cL par prm lin siz atm cnt own out bnd cal opr n ph oc P Q OC OP F S R vis nc gr md)) := by
  refine CT.of R_C (by decide) rfl (Nat.le_of_ble_eq_true rfl) ?_
  intro E A hname
  refine x_aload_n (pc := 0) d_C_atom_0 0 rfl ?_
  refine x_get (pc := 1) (ci := 3) d_C_atom_1 in_C rfl 0 (by decide) k_C_10 0 rfl rfl ?_
  refine x_iload_n (pc := 4) d_C_atom_4 1 rfl ?_
  refine x_iload_n (pc := 5) d_C_atom_5 2 rfl ?_
  refine x_callV_I (pc := 6) (ci := 2) d_C_atom_6 k_C_50 wi_P_hasAtom wv_P_hasAtom w_P_hasAtom ini_P wd_P_hasAtom ⟨by decide, by decide⟩ ⟨rfl, rfl⟩ ⟨Nat.zero_le _, Nat.zero_le _⟩ 1 rfl rfl (t_P_hasAtom hw.2.1) rfl rfl (Nat.le_of_ble_eq_true rfl) ?_
  first | refine x_if_eqB (pc := 9) (tgt := 24) d_C_atom_9 rfl ?_ ?_ | refine x_if_eqL (pc := 9) (tgt := 24) d_C_atom_9 rfl ?_ ?_ | refine x_if_eqN (pc := 9) (tgt := 24) d_C_atom_9 rfl (by omega) ?_ ?_ | refine x_if_eq (pc := 9) (tgt := 24) d_C_atom_9 rfl ?_ ?_
  · intro h9
    refine x_iconst (pc := 24) (-1) d_C_atom_24 (by decide) ?_
    refine x_iret (pc := 25) d_C_atom_25 rfl ?_
    first | exact ⟨congrArg (fun z => some (Value.int z)) (aval_t h9b (by omega) (by omega)).symm, rfl⟩ | exact ⟨congrArg (fun z => some (Value.int z)) (aval_f h9).symm, rfl⟩
  · intro h9
    have h9b := h9
    obtain ⟨lx, ix, hlx, hix, rfl, rfl⟩ := hpr_of hw.2.1 hw.2.2.2.2.2.1 h9
    have hc8 := hw.2.1
    have hz := hw.2.2.2.2.2.1 lx (by omega)
    refine x_aload_n (pc := 12) d_C_atom_12 0 rfl ?_
    refine x_get (pc := 13) (ci := 3) d_C_atom_13 in_C rfl 0 (by decide) k_C_10 0 rfl rfl ?_
    refine x_iload_n (pc := 16) d_C_atom_16 1 rfl ?_
    refine x_iload_n (pc := 17) d_C_atom_17 2 rfl ?_
    refine x_callV_I (pc := 18) (ci := 2) d_C_atom_18 k_C_53 wi_P_atomOf wv_P_atomOf w_P_atomOf ini_P wd_P_atomOf ⟨by decide, by decide⟩ ⟨rfl, rfl⟩ ⟨Nat.zero_le _, Nat.zero_le _⟩ 1 rfl rfl (t_P_atomOf (by omega) (by omega)) rfl rfl (Nat.le_of_ble_eq_true rfl) ?_
    refine x_goto (pc := 21) (tgt := 25) d_C_atom_21 rfl ?_
    refine x_iret (pc := 25) d_C_atom_25 rfl ?_
    first | exact ⟨congrArg (fun z => some (Value.int z)) (aval_t h9b (by omega) (by omega)).symm, rfl⟩ | exact ⟨congrArg (fun z => some (Value.int z)) (aval_f h9).symm, rfl⟩
set_option maxHeartbeats 4000000 in
set_option maxRecDepth 100000 in
theorem t_C_start  : CT l y_C_start c_C_start 1 none (rmm 2 43) (gG D cI cL) [.ref (ad 0)] (wC ad cI cL par prm lin siz atm cnt own out bnd cal opr n ph oc P Q OC OP F S R vis nc gr md) (pV (wC ad cI cL par prm lin siz atm cnt own out bnd (fun _ => 0) opr 0 1 oc P Q OC OP F S R vis nc gr md)) := by
  refine CT.of R_C (by decide) rfl (Nat.le_of_ble_eq_true rfl) ?_
  intro E A hname
  refine x_aload_n (pc := 0) d_C_start_0 0 rfl ?_
  refine x_get (pc := 1) (ci := 3) d_C_start_1 in_C rfl 1 (by decide) k_C_21 0 rfl rfl ?_
  refine x_callV_Z (pc := 4) (ci := 1) d_C_start_4 k_C_56 wi_M_begin wv_M_begin w_M_begin ini_M wd_M_begin ⟨by decide, by decide⟩ ⟨rfl, rfl⟩ ⟨Nat.zero_le _, Nat.zero_le _⟩ 2 rfl rfl (t_M_begin) rfl rfl (Nat.le_of_ble_eq_true rfl) ?_
  refine x_vret (pc := 7) d_C_start_7 rfl ?_
  exact ⟨rfl, rfl⟩
set_option maxHeartbeats 4000000 in
set_option maxRecDepth 100000 in
theorem t_C_step {x : Int32} (hw : pwf cnt par prm siz atm) (hph : ph ≤ 4) (hs : ¬ ph = 0 → swf cnt par prm (n, own, out, bnd, cal, ph, oc)) (hopr : ∀ i, i < 4 → opr i < 100000) : CT l y_C_step c_C_step 2 (some .int) (rmm 6 133) (gG D cI cL) [.ref (ad 0), .int x] (wC ad cI cL par prm lin siz atm cnt own out bnd cal opr n ph oc P Q OC OP F S R vis nc gr md) (fun v w2 => (∃ k s2 o2, k ≤ 100 ∧ x = nI k ∧ (¬ ph = 0) ∧ s2 = (madv prm siz atm k (n, own, out, bnd, cal, ph, oc)).1 ∧ swf cnt par prm s2 ∧ (∀ i, i < 4 → o2 i < 100000) ∧ v = some (.int (nI (madv prm siz atm k (n, own, out, bnd, cal, ph, oc)).2)) ∧ w2 = (wC ad cI cL par prm lin siz atm cnt s2.2.1 s2.2.2.1 s2.2.2.2.1 s2.2.2.2.2.1 o2 s2.1 s2.2.2.2.2.2.1 s2.2.2.2.2.2.2 P Q OC OP F S R vis nc gr md)) ∨ ((ph = 0 ∨ ¬ ∃ k, k ≤ 100 ∧ x = nI k) ∧ v = some (.int (-1)) ∧ w2 = (wC ad cI cL par prm lin siz atm cnt own out bnd cal opr n ph oc P Q OC OP F S R vis nc gr md))) := by
  refine CT.of R_C (by decide) rfl (Nat.le_of_ble_eq_true rfl) ?_
  intro E A hname
  refine x_iload_n (pc := 0) d_C_step_0 1 rfl ?_
  refine x_if_lt (pc := 1) (tgt := 20) d_C_step_1 rfl ?_ ?_
  · intro h1
    refine x_iconst (pc := 20) (-1) d_C_step_20 (by decide) ?_
    refine x_iret (pc := 21) d_C_step_21 rfl ?_
    first
      | exact Or.inr ⟨Or.inr (fun q => by obtain ⟨k, hk, rfl⟩ := q; exact nI_pos (by omega) h1), rfl, rfl⟩
      | exact Or.inr ⟨Or.inr (fun q => by obtain ⟨k, hk, rfl⟩ := q; exact nI_nlt (by omega) (by omega) h7), rfl, rfl⟩
      | exact Or.inr ⟨Or.inl (dn (of_decide_eq_false h17)), rfl, rfl⟩
  · intro h1
    refine x_iload_n (pc := 4) d_C_step_4 1 rfl ?_
    refine x_bipush (pc := 5) (nI 100) d_C_step_5 (by decide) ?_
    first | refine x_icmp_gtN (pc := 7) (tgt := 20) d_C_step_7 rfl (by omega) (by omega) ?_ ?_ | refine x_icmp_gt (pc := 7) (tgt := 20) d_C_step_7 rfl ?_ ?_
    · intro h7
      refine x_iconst (pc := 20) (-1) d_C_step_20 (by decide) ?_
      refine x_iret (pc := 21) d_C_step_21 rfl ?_
      first
        | exact Or.inr ⟨Or.inr (fun q => by obtain ⟨k, hk, rfl⟩ := q; exact nI_pos (by omega) h1), rfl, rfl⟩
        | exact Or.inr ⟨Or.inr (fun q => by obtain ⟨k, hk, rfl⟩ := q; exact nI_nlt (by omega) (by omega) h7), rfl, rfl⟩
        | exact Or.inr ⟨Or.inl (dn (of_decide_eq_false h17)), rfl, rfl⟩
    · intro h7
      obtain ⟨k, hk, rfl⟩ := k100_of h1 h7
      refine x_aload_n (pc := 10) d_C_step_10 0 rfl ?_
      refine x_get (pc := 11) (ci := 3) d_C_step_11 in_C rfl 1 (by decide) k_C_21 0 rfl rfl ?_
      refine x_callV_I (pc := 14) (ci := 1) d_C_step_14 k_C_59 wi_M_isStarted wv_M_isStarted w_M_isStarted ini_M wd_M_isStarted ⟨by decide, by decide⟩ ⟨rfl, rfl⟩ ⟨Nat.zero_le _, Nat.zero_le _⟩ 2 rfl rfl (t_M_isStarted hph) rfl rfl (Nat.le_of_ble_eq_true rfl) ?_
      first | refine x_if_neB (pc := 17) (tgt := 22) d_C_step_17 rfl ?_ ?_ | refine x_if_neL (pc := 17) (tgt := 22) d_C_step_17 rfl ?_ ?_ | refine x_if_neN (pc := 17) (tgt := 22) d_C_step_17 rfl (by omega) ?_ ?_ | refine x_if_ne (pc := 17) (tgt := 22) d_C_step_17 rfl ?_ ?_
      · intro h17
        have g17 := of_decide_eq_true h17
        refine x_aload_n (pc := 22) d_C_step_22 0 rfl ?_
        refine x_get (pc := 23) (ci := 3) d_C_step_23 in_C rfl 1 (by decide) k_C_21 0 rfl rfl ?_
        refine x_iload_n (pc := 26) d_C_step_26 1 rfl ?_
        refine x_callV_X (pc := 27) (ci := 1) d_C_step_27 k_C_63 wi_M_advance wv_M_advance w_M_advance ini_M wd_M_advance ⟨by decide, by decide⟩ ⟨rfl, rfl⟩ ⟨Nat.zero_le _, Nat.zero_le _⟩ 2 rfl rfl (t_M_advance hw (hs g17) hopr hk) rfl rfl (Nat.le_of_ble_eq_true rfl) (fun v27 w27 hp27 => ?_)
        obtain ⟨s2, o2, a1, a2, a3, rfl, rfl⟩ := hp27
        refine x_iret (pc := 30) d_C_step_30 rfl ?_
        exact Or.inl ⟨k, s2, o2, hk, rfl, g17, a1, a2, a3, rfl, rfl⟩
      · intro h17
        refine x_iconst (pc := 20) (-1) d_C_step_20 (by decide) ?_
        refine x_iret (pc := 21) d_C_step_21 rfl ?_
        first
          | exact Or.inr ⟨Or.inr (fun q => by obtain ⟨k, hk, rfl⟩ := q; exact nI_pos (by omega) h1), rfl, rfl⟩
          | exact Or.inr ⟨Or.inr (fun q => by obtain ⟨k, hk, rfl⟩ := q; exact nI_nlt (by omega) (by omega) h7), rfl, rfl⟩
          | exact Or.inr ⟨Or.inl (dn (of_decide_eq_false h17)), rfl, rfl⟩
set_option maxHeartbeats 4000000 in
set_option maxRecDepth 100000 in
theorem t_C_state  : CT l y_C_state c_C_state 1 (some .int) (rmm 1 20) (gG D cI cL) [.ref (ad 0)] (wC ad cI cL par prm lin siz atm cnt own out bnd cal opr n ph oc P Q OC OP F S R vis nc gr md) (pI (nI ph) (wC ad cI cL par prm lin siz atm cnt own out bnd cal opr n ph oc P Q OC OP F S R vis nc gr md)) := by
  refine CT.of R_C (by decide) rfl (Nat.le_of_ble_eq_true rfl) ?_
  intro E A hname
  refine x_aload_n (pc := 0) d_C_state_0 0 rfl ?_
  refine x_get (pc := 1) (ci := 3) d_C_state_1 in_C rfl 1 (by decide) k_C_21 0 rfl rfl ?_
  refine x_callV_I (pc := 4) (ci := 1) d_C_state_4 k_C_67 wi_M_phase wv_M_phase w_M_phase ini_M wd_M_phase ⟨by decide, by decide⟩ ⟨rfl, rfl⟩ ⟨Nat.zero_le _, Nat.zero_le _⟩ 2 rfl rfl (t_M_phase) rfl rfl (Nat.le_of_ble_eq_true rfl) ?_
  refine x_iret (pc := 7) d_C_state_7 rfl ?_
  exact ⟨rfl, rfl⟩
set_option maxHeartbeats 4000000 in
set_option maxRecDepth 100000 in
theorem t_C_at (hph : ph ≤ 4) (hn : ¬ ph = 0 → n ≤ 64) : CT l y_C_at c_C_at 1 (some .int) (rmm 1 20) (gG D cI cL) [.ref (ad 0)] (wC ad cI cL par prm lin siz atm cnt own out bnd cal opr n ph oc P Q OC OP F S R vis nc gr md) (pI (if ph = 0 then -1 else nI (own n)) (wC ad cI cL par prm lin siz atm cnt own out bnd cal opr n ph oc P Q OC OP F S R vis nc gr md)) := by
  refine CT.of R_C (by decide) rfl (Nat.le_of_ble_eq_true rfl) ?_
  intro E A hname
  refine x_aload_n (pc := 0) d_C_at_0 0 rfl ?_
  refine x_get (pc := 1) (ci := 3) d_C_at_1 in_C rfl 1 (by decide) k_C_21 0 rfl rfl ?_
  refine x_callV_I (pc := 4) (ci := 1) d_C_at_4 k_C_59 wi_M_isStarted wv_M_isStarted w_M_isStarted ini_M wd_M_isStarted ⟨by decide, by decide⟩ ⟨rfl, rfl⟩ ⟨Nat.zero_le _, Nat.zero_le _⟩ 2 rfl rfl (t_M_isStarted hph) rfl rfl (Nat.le_of_ble_eq_true rfl) ?_
  first | refine x_if_eqB (pc := 7) (tgt := 20) d_C_at_7 rfl ?_ ?_ | refine x_if_eqL (pc := 7) (tgt := 20) d_C_at_7 rfl ?_ ?_ | refine x_if_eqN (pc := 7) (tgt := 20) d_C_at_7 rfl (by omega) ?_ ?_ | refine x_if_eq (pc := 7) (tgt := 20) d_C_at_7 rfl ?_ ?_
  · intro h7
    have g7 := dn (of_decide_eq_false h7)
    refine x_iconst (pc := 20) (-1) d_C_at_20 (by decide) ?_
    refine x_iret (pc := 21) d_C_at_21 rfl ?_
    first | exact ⟨congrArg (fun z => some (Value.int z)) (if_neg g7).symm, rfl⟩ | exact ⟨congrArg (fun z => some (Value.int z)) (if_pos g7).symm, rfl⟩
  · intro h7
    have g7 := of_decide_eq_true h7
    refine x_aload_n (pc := 10) d_C_at_10 0 rfl ?_
    refine x_get (pc := 11) (ci := 3) d_C_at_11 in_C rfl 1 (by decide) k_C_21 0 rfl rfl ?_
    refine x_callV_I (pc := 14) (ci := 1) d_C_at_14 k_C_70 wi_M_place wv_M_place w_M_place ini_M wd_M_place ⟨by decide, by decide⟩ ⟨rfl, rfl⟩ ⟨Nat.zero_le _, Nat.zero_le _⟩ 2 rfl rfl (t_M_place (hn g7)) rfl rfl (Nat.le_of_ble_eq_true rfl) ?_
    refine x_goto (pc := 17) (tgt := 21) d_C_at_17 rfl ?_
    refine x_iret (pc := 21) d_C_at_21 rfl ?_
    first | exact ⟨congrArg (fun z => some (Value.int z)) (if_neg g7).symm, rfl⟩ | exact ⟨congrArg (fun z => some (Value.int z)) (if_pos g7).symm, rfl⟩
set_option maxHeartbeats 4000000 in
set_option maxRecDepth 100000 in
theorem t_C_value {x i : Int32} (hw : pwf cnt par prm siz atm) (hph : ph ≤ 4) (hm : ¬ ph = 0 → mwf cnt par prm n own out bnd) : CT l y_C_value c_C_value 3 (some .int) (rmm 3 67) (gG D cI cL) [.ref (ad 0), .int x, .int i] (wC ad cI cL par prm lin siz atm cnt own out bnd cal opr n ph oc P Q OC OP F S R vis nc gr md) (pI (if ph = 0 then -1 else tld (bval cnt prm n own out bnd x i)) (wC ad cI cL par prm lin siz atm cnt own out bnd cal opr n ph oc P Q OC OP F S R vis nc gr md)) := by
  refine CT.of R_C (by decide) rfl (Nat.le_of_ble_eq_true rfl) ?_
  intro E A hname
  refine x_aload_n (pc := 0) d_C_value_0 0 rfl ?_
  refine x_get (pc := 1) (ci := 3) d_C_value_1 in_C rfl 1 (by decide) k_C_21 0 rfl rfl ?_
  refine x_callV_I (pc := 4) (ci := 1) d_C_value_4 k_C_59 wi_M_isStarted wv_M_isStarted w_M_isStarted ini_M wd_M_isStarted ⟨by decide, by decide⟩ ⟨rfl, rfl⟩ ⟨Nat.zero_le _, Nat.zero_le _⟩ 2 rfl rfl (t_M_isStarted hph) rfl rfl (Nat.le_of_ble_eq_true rfl) ?_
  first | refine x_if_eqB (pc := 7) (tgt := 25) d_C_value_7 rfl ?_ ?_ | refine x_if_eqL (pc := 7) (tgt := 25) d_C_value_7 rfl ?_ ?_ | refine x_if_eqN (pc := 7) (tgt := 25) d_C_value_7 rfl (by omega) ?_ ?_ | refine x_if_eq (pc := 7) (tgt := 25) d_C_value_7 rfl ?_ ?_
  · intro h7
    have g7 := dn (of_decide_eq_false h7)
    refine x_iconst (pc := 25) (-1) d_C_value_25 (by decide) ?_
    refine x_iret (pc := 26) d_C_value_26 rfl ?_
    first | exact ⟨congrArg (fun z => some (Value.int z)) (if_neg g7).symm, rfl⟩ | exact ⟨congrArg (fun z => some (Value.int z)) (if_pos g7).symm, rfl⟩
  · intro h7
    have g7 := of_decide_eq_true h7
    refine x_aload_n (pc := 10) d_C_value_10 0 rfl ?_
    refine x_get (pc := 11) (ci := 3) d_C_value_11 in_C rfl 1 (by decide) k_C_21 0 rfl rfl ?_
    refine x_iload_n (pc := 14) d_C_value_14 1 rfl ?_
    refine x_iload_n (pc := 15) d_C_value_15 2 rfl ?_
    refine x_callV_I (pc := 16) (ci := 1) d_C_value_16 k_C_73 wi_M_bound wv_M_bound w_M_bound ini_M wd_M_bound ⟨by decide, by decide⟩ ⟨rfl, rfl⟩ ⟨Nat.zero_le _, Nat.zero_le _⟩ 2 rfl rfl (t_M_bound hw (hm g7)) rfl rfl (Nat.le_of_ble_eq_true rfl) ?_
    refine x_callS_I (pc := 19) d_C_value_19 k_C_76 ws_C_told w_C_told ini_C wd_C_told ⟨by decide, by decide⟩ ⟨rfl, rfl⟩ ⟨Nat.zero_le _, Nat.zero_le _⟩ (t_C_told) rfl rfl (Nat.le_of_ble_eq_true rfl) ?_
    refine x_goto (pc := 22) (tgt := 26) d_C_value_22 rfl ?_
    refine x_iret (pc := 26) d_C_value_26 rfl ?_
    first | exact ⟨congrArg (fun z => some (Value.int z)) (if_neg g7).symm, rfl⟩ | exact ⟨congrArg (fun z => some (Value.int z)) (if_pos g7).symm, rfl⟩
set_option maxHeartbeats 4000000 in
set_option maxRecDepth 100000 in
theorem t_C_result (hph : ph ≤ 4) : CT l y_C_result c_C_result 1 (some .int) (rmm 1 20) (gG D cI cL) [.ref (ad 0)] (wC ad cI cL par prm lin siz atm cnt own out bnd cal opr n ph oc P Q OC OP F S R vis nc gr md) (pI (if ph = 2 then tld (nI oc) else -1) (wC ad cI cL par prm lin siz atm cnt own out bnd cal opr n ph oc P Q OC OP F S R vis nc gr md)) := by
  refine CT.of R_C (by decide) rfl (Nat.le_of_ble_eq_true rfl) ?_
  intro E A hname
  refine x_aload_n (pc := 0) d_C_result_0 0 rfl ?_
  refine x_get (pc := 1) (ci := 3) d_C_result_1 in_C rfl 1 (by decide) k_C_21 0 rfl rfl ?_
  refine x_callV_I (pc := 4) (ci := 1) d_C_result_4 k_C_67 wi_M_phase wv_M_phase w_M_phase ini_M wd_M_phase ⟨by decide, by decide⟩ ⟨rfl, rfl⟩ ⟨Nat.zero_le _, Nat.zero_le _⟩ 2 rfl rfl (t_M_phase) rfl rfl (Nat.le_of_ble_eq_true rfl) ?_
  refine x_iconst (pc := 7) (nI 2) d_C_result_7 (by decide) ?_
  first | refine x_icmp_neN (pc := 8) (tgt := 24) d_C_result_8 rfl (by omega) (by omega) ?_ ?_ | refine x_icmp_ne (pc := 8) (tgt := 24) d_C_result_8 rfl ?_ ?_
  · intro h8
    refine x_iconst (pc := 24) (-1) d_C_result_24 (by decide) ?_
    refine x_iret (pc := 25) d_C_result_25 rfl ?_
    first | exact ⟨congrArg (fun z => some (Value.int z)) (if_pos h8).symm, rfl⟩ | exact ⟨congrArg (fun z => some (Value.int z)) (if_neg h8).symm, rfl⟩
  · intro h8
    refine x_aload_n (pc := 11) d_C_result_11 0 rfl ?_
    refine x_get (pc := 12) (ci := 3) d_C_result_12 in_C rfl 1 (by decide) k_C_21 0 rfl rfl ?_
    refine x_callV_I (pc := 15) (ci := 1) d_C_result_15 k_C_79 wi_M_outcome wv_M_outcome w_M_outcome ini_M wd_M_outcome ⟨by decide, by decide⟩ ⟨rfl, rfl⟩ ⟨Nat.zero_le _, Nat.zero_le _⟩ 2 rfl rfl (t_M_outcome) rfl rfl (Nat.le_of_ble_eq_true rfl) ?_
    refine x_callS_I (pc := 18) d_C_result_18 k_C_76 ws_C_told w_C_told ini_C wd_C_told ⟨by decide, by decide⟩ ⟨rfl, rfl⟩ ⟨Nat.zero_le _, Nat.zero_le _⟩ (t_C_told) rfl rfl (Nat.le_of_ble_eq_true rfl) ?_
    refine x_goto (pc := 21) (tgt := 25) d_C_result_21 rfl ?_
    refine x_iret (pc := 25) d_C_result_25 rfl ?_
    first | exact ⟨congrArg (fun z => some (Value.int z)) (if_pos h8).symm, rfl⟩ | exact ⟨congrArg (fun z => some (Value.int z)) (if_neg h8).symm, rfl⟩
set_option maxHeartbeats 4000000 in
set_option maxRecDepth 100000 in
theorem t_C_called {x : Int32} (hc : cnt ≤ 8) (hph : ph ≤ 4) : CT l y_C_called c_C_called 2 (some .int) (rmm 1 21) (gG D cI cL) [.ref (ad 0), .int x] (wC ad cI cL par prm lin siz atm cnt own out bnd cal opr n ph oc P Q OC OP F S R vis nc gr md) (pI (lval (decide (¬ ph = 0)) cnt cal x) (wC ad cI cL par prm lin siz atm cnt own out bnd cal opr n ph oc P Q OC OP F S R vis nc gr md)) := by
  refine CT.of R_C (by decide) rfl (Nat.le_of_ble_eq_true rfl) ?_
  intro E A hname
  refine x_aload_n (pc := 0) d_C_called_0 0 rfl ?_
  refine x_get (pc := 1) (ci := 3) d_C_called_1 in_C rfl 1 (by decide) k_C_21 0 rfl rfl ?_
  refine x_callV_I (pc := 4) (ci := 1) d_C_called_4 k_C_59 wi_M_isStarted wv_M_isStarted w_M_isStarted ini_M wd_M_isStarted ⟨by decide, by decide⟩ ⟨rfl, rfl⟩ ⟨Nat.zero_le _, Nat.zero_le _⟩ 2 rfl rfl (t_M_isStarted hph) rfl rfl (Nat.le_of_ble_eq_true rfl) ?_
  first | refine x_if_eqB (pc := 7) (tgt := 32) d_C_called_7 rfl ?_ ?_ | refine x_if_eqL (pc := 7) (tgt := 32) d_C_called_7 rfl ?_ ?_ | refine x_if_eqN (pc := 7) (tgt := 32) d_C_called_7 rfl (by omega) ?_ ?_ | refine x_if_eq (pc := 7) (tgt := 32) d_C_called_7 rfl ?_ ?_
  · intro h7
    refine x_iconst (pc := 32) (-1) d_C_called_32 (by decide) ?_
    refine x_iret (pc := 33) d_C_called_33 rfl ?_
    first | exact ⟨congrArg (fun z => some (Value.int z)) (lval_t h7 hc hlx).symm, rfl⟩ | exact ⟨congrArg (fun z => some (Value.int z)) (lval_0 h7).symm, rfl⟩ | exact ⟨congrArg (fun z => some (Value.int z)) (lval_n h18).symm, rfl⟩
  · intro h7
    refine x_aload_n (pc := 10) d_C_called_10 0 rfl ?_
    refine x_get (pc := 11) (ci := 3) d_C_called_11 in_C rfl 0 (by decide) k_C_10 0 rfl rfl ?_
    refine x_iload_n (pc := 14) d_C_called_14 1 rfl ?_
    refine x_callV_I (pc := 15) (ci := 2) d_C_called_15 k_C_82 wi_P_hasLambda wv_P_hasLambda w_P_hasLambda ini_P wd_P_hasLambda ⟨by decide, by decide⟩ ⟨rfl, rfl⟩ ⟨Nat.zero_le _, Nat.zero_le _⟩ 1 rfl rfl (t_P_hasLambda) rfl rfl (Nat.le_of_ble_eq_true rfl) ?_
    first | refine x_if_eqB (pc := 18) (tgt := 32) d_C_called_18 rfl ?_ ?_ | refine x_if_eqL (pc := 18) (tgt := 32) d_C_called_18 rfl ?_ ?_ | refine x_if_eqN (pc := 18) (tgt := 32) d_C_called_18 rfl (by omega) ?_ ?_ | refine x_if_eq (pc := 18) (tgt := 32) d_C_called_18 rfl ?_ ?_
    · intro h18
      refine x_iconst (pc := 32) (-1) d_C_called_32 (by decide) ?_
      refine x_iret (pc := 33) d_C_called_33 rfl ?_
      first | exact ⟨congrArg (fun z => some (Value.int z)) (lval_t h7 hc hlx).symm, rfl⟩ | exact ⟨congrArg (fun z => some (Value.int z)) (lval_0 h7).symm, rfl⟩ | exact ⟨congrArg (fun z => some (Value.int z)) (lval_n h18).symm, rfl⟩
    · intro h18
      obtain ⟨lx, hlx, rfl⟩ := hl_of hc h18
      refine x_aload_n (pc := 21) d_C_called_21 0 rfl ?_
      refine x_get (pc := 22) (ci := 3) d_C_called_22 in_C rfl 1 (by decide) k_C_21 0 rfl rfl ?_
      refine x_iload_n (pc := 25) d_C_called_25 1 rfl ?_
      refine x_callV_I (pc := 26) (ci := 1) d_C_called_26 k_C_86 wi_M_calledFrom wv_M_calledFrom w_M_calledFrom ini_M wd_M_calledFrom ⟨by decide, by decide⟩ ⟨rfl, rfl⟩ ⟨Nat.zero_le _, Nat.zero_le _⟩ 2 rfl rfl (t_M_calledFrom (by omega)) rfl rfl (Nat.le_of_ble_eq_true rfl) ?_
      refine x_goto (pc := 29) (tgt := 33) d_C_called_29 rfl ?_
      refine x_iret (pc := 33) d_C_called_33 rfl ?_
      first | exact ⟨congrArg (fun z => some (Value.int z)) (lval_t h7 hc hlx).symm, rfl⟩ | exact ⟨congrArg (fun z => some (Value.int z)) (lval_0 h7).symm, rfl⟩ | exact ⟨congrArg (fun z => some (Value.int z)) (lval_n h18).symm, rfl⟩
set_option maxHeartbeats 4000000 in
set_option maxRecDepth 100000 in
theorem t_C_flow {x : Int32} (hc : cnt ≤ 8) : CT l y_C_flow c_C_flow 2 (some .int) (rmm 1 21) (gG D cI cL) [.ref (ad 0), .int x] (wC ad cI cL par prm lin siz atm cnt own out bnd cal opr n ph oc P Q OC OP F S R vis nc gr md) (pI (lval (md) cnt F x) (wC ad cI cL par prm lin siz atm cnt own out bnd cal opr n ph oc P Q OC OP F S R vis nc gr md)) := by
  refine CT.of R_C (by decide) rfl (Nat.le_of_ble_eq_true rfl) ?_
  intro E A hname
  refine x_aload_n (pc := 0) d_C_flow_0 0 rfl ?_
  refine x_get (pc := 1) (ci := 3) d_C_flow_1 in_C rfl 2 (by decide) k_C_28 0 rfl rfl ?_
  refine x_callV_I (pc := 4) (ci := 0) d_C_flow_4 k_C_92 wi_A_isMade wv_A_isMade w_A_isMade ini_A wd_A_isMade ⟨by decide, by decide⟩ ⟨rfl, rfl⟩ ⟨Nat.zero_le _, Nat.zero_le _⟩ 3 rfl rfl (t_A_isMade) rfl rfl (Nat.le_of_ble_eq_true rfl) ?_
  first | refine x_if_eqB (pc := 7) (tgt := 32) d_C_flow_7 rfl ?_ ?_ | refine x_if_eqL (pc := 7) (tgt := 32) d_C_flow_7 rfl ?_ ?_ | refine x_if_eqN (pc := 7) (tgt := 32) d_C_flow_7 rfl (by omega) ?_ ?_ | refine x_if_eq (pc := 7) (tgt := 32) d_C_flow_7 rfl ?_ ?_
  · intro h7
    refine x_iconst (pc := 32) (-1) d_C_flow_32 (by decide) ?_
    refine x_iret (pc := 33) d_C_flow_33 rfl ?_
    first | exact ⟨congrArg (fun z => some (Value.int z)) (lval_t h7 hc hlx).symm, rfl⟩ | exact ⟨congrArg (fun z => some (Value.int z)) (lval_0 h7).symm, rfl⟩ | exact ⟨congrArg (fun z => some (Value.int z)) (lval_n h18).symm, rfl⟩
  · intro h7
    refine x_aload_n (pc := 10) d_C_flow_10 0 rfl ?_
    refine x_get (pc := 11) (ci := 3) d_C_flow_11 in_C rfl 0 (by decide) k_C_10 0 rfl rfl ?_
    refine x_iload_n (pc := 14) d_C_flow_14 1 rfl ?_
    refine x_callV_I (pc := 15) (ci := 2) d_C_flow_15 k_C_82 wi_P_hasLambda wv_P_hasLambda w_P_hasLambda ini_P wd_P_hasLambda ⟨by decide, by decide⟩ ⟨rfl, rfl⟩ ⟨Nat.zero_le _, Nat.zero_le _⟩ 1 rfl rfl (t_P_hasLambda) rfl rfl (Nat.le_of_ble_eq_true rfl) ?_
    first | refine x_if_eqB (pc := 18) (tgt := 32) d_C_flow_18 rfl ?_ ?_ | refine x_if_eqL (pc := 18) (tgt := 32) d_C_flow_18 rfl ?_ ?_ | refine x_if_eqN (pc := 18) (tgt := 32) d_C_flow_18 rfl (by omega) ?_ ?_ | refine x_if_eq (pc := 18) (tgt := 32) d_C_flow_18 rfl ?_ ?_
    · intro h18
      refine x_iconst (pc := 32) (-1) d_C_flow_32 (by decide) ?_
      refine x_iret (pc := 33) d_C_flow_33 rfl ?_
      first | exact ⟨congrArg (fun z => some (Value.int z)) (lval_t h7 hc hlx).symm, rfl⟩ | exact ⟨congrArg (fun z => some (Value.int z)) (lval_0 h7).symm, rfl⟩ | exact ⟨congrArg (fun z => some (Value.int z)) (lval_n h18).symm, rfl⟩
    · intro h18
      obtain ⟨lx, hlx, rfl⟩ := hl_of hc h18
      refine x_aload_n (pc := 21) d_C_flow_21 0 rfl ?_
      refine x_get (pc := 22) (ci := 3) d_C_flow_22 in_C rfl 2 (by decide) k_C_28 0 rfl rfl ?_
      refine x_iload_n (pc := 25) d_C_flow_25 1 rfl ?_
      refine x_callV_I (pc := 26) (ci := 0) d_C_flow_26 k_C_95 wi_A_flowFrom wv_A_flowFrom w_A_flowFrom ini_A wd_A_flowFrom ⟨by decide, by decide⟩ ⟨rfl, rfl⟩ ⟨Nat.zero_le _, Nat.zero_le _⟩ 3 rfl rfl (t_A_flowFrom (by omega)) rfl rfl (Nat.le_of_ble_eq_true rfl) ?_
      refine x_goto (pc := 29) (tgt := 33) d_C_flow_29 rfl ?_
      refine x_iret (pc := 33) d_C_flow_33 rfl ?_
      first | exact ⟨congrArg (fun z => some (Value.int z)) (lval_t h7 hc hlx).symm, rfl⟩ | exact ⟨congrArg (fun z => some (Value.int z)) (lval_0 h7).symm, rfl⟩ | exact ⟨congrArg (fun z => some (Value.int z)) (lval_n h18).symm, rfl⟩
set_option maxHeartbeats 4000000 in
set_option maxRecDepth 100000 in
theorem t_C_contours {x : Int32} (hc : cnt ≤ 8) : CT l y_C_contours c_C_contours 2 (some .int) (rmm 2 43) (gG D cI cL) [.ref (ad 0), .int x] (wC ad cI cL par prm lin siz atm cnt own out bnd cal opr n ph oc P Q OC OP F S R vis nc gr md) (pI (lval (md) cnt (cin S) x) (wC ad cI cL par prm lin siz atm cnt own out bnd cal opr n ph oc P Q OC OP F S R vis nc gr md)) := by
  refine CT.of R_C (by decide) rfl (Nat.le_of_ble_eq_true rfl) ?_
  intro E A hname
  refine x_aload_n (pc := 0) d_C_contours_0 0 rfl ?_
  refine x_get (pc := 1) (ci := 3) d_C_contours_1 in_C rfl 2 (by decide) k_C_28 0 rfl rfl ?_
  refine x_callV_I (pc := 4) (ci := 0) d_C_contours_4 k_C_92 wi_A_isMade wv_A_isMade w_A_isMade ini_A wd_A_isMade ⟨by decide, by decide⟩ ⟨rfl, rfl⟩ ⟨Nat.zero_le _, Nat.zero_le _⟩ 3 rfl rfl (t_A_isMade) rfl rfl (Nat.le_of_ble_eq_true rfl) ?_
  first | refine x_if_eqB (pc := 7) (tgt := 32) d_C_contours_7 rfl ?_ ?_ | refine x_if_eqL (pc := 7) (tgt := 32) d_C_contours_7 rfl ?_ ?_ | refine x_if_eqN (pc := 7) (tgt := 32) d_C_contours_7 rfl (by omega) ?_ ?_ | refine x_if_eq (pc := 7) (tgt := 32) d_C_contours_7 rfl ?_ ?_
  · intro h7
    refine x_iconst (pc := 32) (-1) d_C_contours_32 (by decide) ?_
    refine x_iret (pc := 33) d_C_contours_33 rfl ?_
    first | exact ⟨congrArg (fun z => some (Value.int z)) (lval_t h7 hc hlx).symm, rfl⟩ | exact ⟨congrArg (fun z => some (Value.int z)) (lval_0 h7).symm, rfl⟩ | exact ⟨congrArg (fun z => some (Value.int z)) (lval_n h18).symm, rfl⟩
  · intro h7
    refine x_aload_n (pc := 10) d_C_contours_10 0 rfl ?_
    refine x_get (pc := 11) (ci := 3) d_C_contours_11 in_C rfl 0 (by decide) k_C_10 0 rfl rfl ?_
    refine x_iload_n (pc := 14) d_C_contours_14 1 rfl ?_
    refine x_callV_I (pc := 15) (ci := 2) d_C_contours_15 k_C_82 wi_P_hasLambda wv_P_hasLambda w_P_hasLambda ini_P wd_P_hasLambda ⟨by decide, by decide⟩ ⟨rfl, rfl⟩ ⟨Nat.zero_le _, Nat.zero_le _⟩ 1 rfl rfl (t_P_hasLambda) rfl rfl (Nat.le_of_ble_eq_true rfl) ?_
    first | refine x_if_eqB (pc := 18) (tgt := 32) d_C_contours_18 rfl ?_ ?_ | refine x_if_eqL (pc := 18) (tgt := 32) d_C_contours_18 rfl ?_ ?_ | refine x_if_eqN (pc := 18) (tgt := 32) d_C_contours_18 rfl (by omega) ?_ ?_ | refine x_if_eq (pc := 18) (tgt := 32) d_C_contours_18 rfl ?_ ?_
    · intro h18
      refine x_iconst (pc := 32) (-1) d_C_contours_32 (by decide) ?_
      refine x_iret (pc := 33) d_C_contours_33 rfl ?_
      first | exact ⟨congrArg (fun z => some (Value.int z)) (lval_t h7 hc hlx).symm, rfl⟩ | exact ⟨congrArg (fun z => some (Value.int z)) (lval_0 h7).symm, rfl⟩ | exact ⟨congrArg (fun z => some (Value.int z)) (lval_n h18).symm, rfl⟩
    · intro h18
      obtain ⟨lx, hlx, rfl⟩ := hl_of hc h18
      refine x_aload_n (pc := 21) d_C_contours_21 0 rfl ?_
      refine x_get (pc := 22) (ci := 3) d_C_contours_22 in_C rfl 2 (by decide) k_C_28 0 rfl rfl ?_
      refine x_iload_n (pc := 25) d_C_contours_25 1 rfl ?_
      refine x_callV_I (pc := 26) (ci := 0) d_C_contours_26 k_C_98 wi_A_contoursOf wv_A_contoursOf w_A_contoursOf ini_A wd_A_contoursOf ⟨by decide, by decide⟩ ⟨rfl, rfl⟩ ⟨Nat.zero_le _, Nat.zero_le _⟩ 3 rfl rfl (t_A_contoursOf) rfl rfl (Nat.le_of_ble_eq_true rfl) ?_
      refine x_goto (pc := 29) (tgt := 33) d_C_contours_29 rfl ?_
      refine x_iret (pc := 33) d_C_contours_33 rfl ?_
      first | exact ⟨congrArg (fun z => some (Value.int z)) (lval_t h7 hc hlx).symm, rfl⟩ | exact ⟨congrArg (fun z => some (Value.int z)) (lval_0 h7).symm, rfl⟩ | exact ⟨congrArg (fun z => some (Value.int z)) (lval_n h18).symm, rfl⟩
set_option maxHeartbeats 4000000 in
set_option maxRecDepth 100000 in
theorem t_C_constants {x i : Int32} (hw : pwf cnt par prm siz atm) : CT l y_C_constants c_C_constants 3 (some .int) (rmm 2 46) (gG D cI cL) [.ref (ad 0), .int x, .int i] (wC ad cI cL par prm lin siz atm cnt own out bnd cal opr n ph oc P Q OC OP F S R vis nc gr md) (pI (qval md cnt prm (fun l j => orf (fun c => P (sl l j c)) 8) x i) (wC ad cI cL par prm lin siz atm cnt own out bnd cal opr n ph oc P Q OC OP F S R vis nc gr md)) := by
  refine CT.of R_C (by decide) rfl (Nat.le_of_ble_eq_true rfl) ?_
  intro E A hname
  refine x_aload_n (pc := 0) d_C_constants_0 0 rfl ?_
  refine x_get (pc := 1) (ci := 3) d_C_constants_1 in_C rfl 2 (by decide) k_C_28 0 rfl rfl ?_
  refine x_callV_I (pc := 4) (ci := 0) d_C_constants_4 k_C_92 wi_A_isMade wv_A_isMade w_A_isMade ini_A wd_A_isMade ⟨by decide, by decide⟩ ⟨rfl, rfl⟩ ⟨Nat.zero_le _, Nat.zero_le _⟩ 3 rfl rfl (t_A_isMade) rfl rfl (Nat.le_of_ble_eq_true rfl) ?_
  first | refine x_if_eqB (pc := 7) (tgt := 34) d_C_constants_7 rfl ?_ ?_ | refine x_if_eqL (pc := 7) (tgt := 34) d_C_constants_7 rfl ?_ ?_ | refine x_if_eqN (pc := 7) (tgt := 34) d_C_constants_7 rfl (by omega) ?_ ?_ | refine x_if_eq (pc := 7) (tgt := 34) d_C_constants_7 rfl ?_ ?_
  · intro h7
    refine x_iconst (pc := 34) (-1) d_C_constants_34 (by decide) ?_
    refine x_iret (pc := 35) d_C_constants_35 rfl ?_
    first | exact ⟨congrArg (fun z => some (Value.int z)) (qval_t (f := fun l j => orf (fun c => P (sl l j c)) 8) h7 h19b (by omega) (by omega)).symm, rfl⟩ | exact ⟨congrArg (fun z => some (Value.int z)) (qval_0 h7).symm, rfl⟩ | exact ⟨congrArg (fun z => some (Value.int z)) (qval_n h19).symm, rfl⟩
  · intro h7
    refine x_aload_n (pc := 10) d_C_constants_10 0 rfl ?_
    refine x_get (pc := 11) (ci := 3) d_C_constants_11 in_C rfl 0 (by decide) k_C_10 0 rfl rfl ?_
    refine x_iload_n (pc := 14) d_C_constants_14 1 rfl ?_
    refine x_iload_n (pc := 15) d_C_constants_15 2 rfl ?_
    refine x_callV_I (pc := 16) (ci := 2) d_C_constants_16 k_C_101 wi_P_hasParameter wv_P_hasParameter w_P_hasParameter ini_P wd_P_hasParameter ⟨by decide, by decide⟩ ⟨rfl, rfl⟩ ⟨Nat.zero_le _, Nat.zero_le _⟩ 1 rfl rfl (t_P_hasParameter hw.2.1) rfl rfl (Nat.le_of_ble_eq_true rfl) ?_
    first | refine x_if_eqB (pc := 19) (tgt := 34) d_C_constants_19 rfl ?_ ?_ | refine x_if_eqL (pc := 19) (tgt := 34) d_C_constants_19 rfl ?_ ?_ | refine x_if_eqN (pc := 19) (tgt := 34) d_C_constants_19 rfl (by omega) ?_ ?_ | refine x_if_eq (pc := 19) (tgt := 34) d_C_constants_19 rfl ?_ ?_
    · intro h19
      refine x_iconst (pc := 34) (-1) d_C_constants_34 (by decide) ?_
      refine x_iret (pc := 35) d_C_constants_35 rfl ?_
      first | exact ⟨congrArg (fun z => some (Value.int z)) (qval_t (f := fun l j => orf (fun c => P (sl l j c)) 8) h7 h19b (by omega) (by omega)).symm, rfl⟩ | exact ⟨congrArg (fun z => some (Value.int z)) (qval_0 h7).symm, rfl⟩ | exact ⟨congrArg (fun z => some (Value.int z)) (qval_n h19).symm, rfl⟩
    · intro h19
      have h19b := h19
      obtain ⟨lx, ix, hlx, hix, rfl, rfl⟩ := hpr_of hw.2.1 (fun l h => Nat.le_trans (hw.2.2.2.1 l h) (by omega)) h19
      have hc8 := hw.2.1
      have hpz := hw.2.2.2.1 lx (by omega)
      refine x_aload_n (pc := 22) d_C_constants_22 0 rfl ?_
      refine x_get (pc := 23) (ci := 3) d_C_constants_23 in_C rfl 2 (by decide) k_C_28 0 rfl rfl ?_
      refine x_iload_n (pc := 26) d_C_constants_26 1 rfl ?_
      refine x_iload_n (pc := 27) d_C_constants_27 2 rfl ?_
      refine x_callV_I (pc := 28) (ci := 0) d_C_constants_28 k_C_104 wi_A_constantsIn wv_A_constantsIn w_A_constantsIn ini_A wd_A_constantsIn ⟨by decide, by decide⟩ ⟨rfl, rfl⟩ ⟨Nat.zero_le _, Nat.zero_le _⟩ 3 rfl rfl (t_A_constantsIn (by omega) (by omega)) rfl rfl (Nat.le_of_ble_eq_true rfl) ?_
      refine x_goto (pc := 31) (tgt := 35) d_C_constants_31 rfl ?_
      refine x_iret (pc := 35) d_C_constants_35 rfl ?_
      first | exact ⟨congrArg (fun z => some (Value.int z)) (qval_t (f := fun l j => orf (fun c => P (sl l j c)) 8) h7 h19b (by omega) (by omega)).symm, rfl⟩ | exact ⟨congrArg (fun z => some (Value.int z)) (qval_0 h7).symm, rfl⟩ | exact ⟨congrArg (fun z => some (Value.int z)) (qval_n h19).symm, rfl⟩
set_option maxHeartbeats 4000000 in
set_option maxRecDepth 100000 in
theorem t_C_closures {x i : Int32} (hw : pwf cnt par prm siz atm) : CT l y_C_closures c_C_closures 3 (some .int) (rmm 2 48) (gG D cI cL) [.ref (ad 0), .int x, .int i] (wC ad cI cL par prm lin siz atm cnt own out bnd cal opr n ph oc P Q OC OP F S R vis nc gr md) (fun v w2 => (∃ lx ix r, md = true ∧ hpr cnt prm (nI lx) (nI ix) = true ∧ lx < cnt ∧ ix < prm lx ∧ x = nI lx ∧ i = nI ix ∧ (∀ m, bt r m = true ↔ m < 8 ∧ clos Q lx ix m) ∧ v = some (.int r) ∧ w2 = (wC ad cI cL par prm lin siz atm cnt own out bnd cal opr n ph oc P Q OC OP F S R vis nc gr md)) ∨ ((md = false ∨ hpr cnt prm x i = false) ∧ v = some (.int (-1)) ∧ w2 = (wC ad cI cL par prm lin siz atm cnt own out bnd cal opr n ph oc P Q OC OP F S R vis nc gr md))) := by
  refine CT.of R_C (by decide) rfl (Nat.le_of_ble_eq_true rfl) ?_
  intro E A hname
  refine x_aload_n (pc := 0) d_C_closures_0 0 rfl ?_
  refine x_get (pc := 1) (ci := 3) d_C_closures_1 in_C rfl 2 (by decide) k_C_28 0 rfl rfl ?_
  refine x_callV_I (pc := 4) (ci := 0) d_C_closures_4 k_C_92 wi_A_isMade wv_A_isMade w_A_isMade ini_A wd_A_isMade ⟨by decide, by decide⟩ ⟨rfl, rfl⟩ ⟨Nat.zero_le _, Nat.zero_le _⟩ 3 rfl rfl (t_A_isMade) rfl rfl (Nat.le_of_ble_eq_true rfl) ?_
  first | refine x_if_eqB (pc := 7) (tgt := 34) d_C_closures_7 rfl ?_ ?_ | refine x_if_eqL (pc := 7) (tgt := 34) d_C_closures_7 rfl ?_ ?_ | refine x_if_eqN (pc := 7) (tgt := 34) d_C_closures_7 rfl (by omega) ?_ ?_ | refine x_if_eq (pc := 7) (tgt := 34) d_C_closures_7 rfl ?_ ?_
  · intro h7
    refine x_iconst (pc := 34) (-1) d_C_closures_34 (by decide) ?_
    refine x_iret (pc := 35) d_C_closures_35 rfl ?_
    first | exact Or.inl ⟨lx, ix, r, h7, h19b, hlx, hix, rfl, rfl, hr, rfl, rfl⟩ | exact Or.inr ⟨Or.inl h7, rfl, rfl⟩ | exact Or.inr ⟨Or.inr h19, rfl, rfl⟩
  · intro h7
    refine x_aload_n (pc := 10) d_C_closures_10 0 rfl ?_
    refine x_get (pc := 11) (ci := 3) d_C_closures_11 in_C rfl 0 (by decide) k_C_10 0 rfl rfl ?_
    refine x_iload_n (pc := 14) d_C_closures_14 1 rfl ?_
    refine x_iload_n (pc := 15) d_C_closures_15 2 rfl ?_
    refine x_callV_I (pc := 16) (ci := 2) d_C_closures_16 k_C_101 wi_P_hasParameter wv_P_hasParameter w_P_hasParameter ini_P wd_P_hasParameter ⟨by decide, by decide⟩ ⟨rfl, rfl⟩ ⟨Nat.zero_le _, Nat.zero_le _⟩ 1 rfl rfl (t_P_hasParameter hw.2.1) rfl rfl (Nat.le_of_ble_eq_true rfl) ?_
    first | refine x_if_eqB (pc := 19) (tgt := 34) d_C_closures_19 rfl ?_ ?_ | refine x_if_eqL (pc := 19) (tgt := 34) d_C_closures_19 rfl ?_ ?_ | refine x_if_eqN (pc := 19) (tgt := 34) d_C_closures_19 rfl (by omega) ?_ ?_ | refine x_if_eq (pc := 19) (tgt := 34) d_C_closures_19 rfl ?_ ?_
    · intro h19
      refine x_iconst (pc := 34) (-1) d_C_closures_34 (by decide) ?_
      refine x_iret (pc := 35) d_C_closures_35 rfl ?_
      first | exact Or.inl ⟨lx, ix, r, h7, h19b, hlx, hix, rfl, rfl, hr, rfl, rfl⟩ | exact Or.inr ⟨Or.inl h7, rfl, rfl⟩ | exact Or.inr ⟨Or.inr h19, rfl, rfl⟩
    · intro h19
      have h19b := h19
      obtain ⟨lx, ix, hlx, hix, rfl, rfl⟩ := hpr_of hw.2.1 (fun l h => Nat.le_trans (hw.2.2.2.1 l h) (by omega)) h19
      have hc8 := hw.2.1
      have hpz := hw.2.2.2.1 lx (by omega)
      refine x_aload_n (pc := 22) d_C_closures_22 0 rfl ?_
      refine x_get (pc := 23) (ci := 3) d_C_closures_23 in_C rfl 2 (by decide) k_C_28 0 rfl rfl ?_
      refine x_iload_n (pc := 26) d_C_closures_26 1 rfl ?_
      refine x_iload_n (pc := 27) d_C_closures_27 2 rfl ?_
      refine x_callV_X (pc := 28) (ci := 0) d_C_closures_28 k_C_107 wi_A_lambdasIn wv_A_lambdasIn w_A_lambdasIn ini_A wd_A_lambdasIn ⟨by decide, by decide⟩ ⟨rfl, rfl⟩ ⟨Nat.zero_le _, Nat.zero_le _⟩ 3 rfl rfl (t_A_lambdasIn (by omega) (by omega)) rfl rfl (Nat.le_of_ble_eq_true rfl) (fun v28 w28 hp28 => ?_)
      obtain ⟨r, hr, rfl, rfl⟩ := hp28
      refine x_goto (pc := 31) (tgt := 35) d_C_closures_31 rfl ?_
      refine x_iret (pc := 35) d_C_closures_35 rfl ?_
      first | exact Or.inl ⟨lx, ix, r, h7, h19b, hlx, hix, rfl, rfl, hr, rfl, rfl⟩ | exact Or.inr ⟨Or.inl h7, rfl, rfl⟩ | exact Or.inr ⟨Or.inr h19, rfl, rfl⟩
set_option maxHeartbeats 4000000 in
set_option maxRecDepth 100000 in
theorem t_C_results  : CT l y_C_results c_C_results 1 (some .int) (rmm 1 20) (gG D cI cL) [.ref (ad 0)] (wC ad cI cL par prm lin siz atm cnt own out bnd cal opr n ph oc P Q OC OP F S R vis nc gr md) (pI (if md = true then R else -1) (wC ad cI cL par prm lin siz atm cnt own out bnd cal opr n ph oc P Q OC OP F S R vis nc gr md)) := by
  refine CT.of R_C (by decide) rfl (Nat.le_of_ble_eq_true rfl) ?_
  intro E A hname
  refine x_aload_n (pc := 0) d_C_results_0 0 rfl ?_
  refine x_get (pc := 1) (ci := 3) d_C_results_1 in_C rfl 2 (by decide) k_C_28 0 rfl rfl ?_
  refine x_callV_I (pc := 4) (ci := 0) d_C_results_4 k_C_92 wi_A_isMade wv_A_isMade w_A_isMade ini_A wd_A_isMade ⟨by decide, by decide⟩ ⟨rfl, rfl⟩ ⟨Nat.zero_le _, Nat.zero_le _⟩ 3 rfl rfl (t_A_isMade) rfl rfl (Nat.le_of_ble_eq_true rfl) ?_
  first | refine x_if_eqB (pc := 7) (tgt := 20) d_C_results_7 rfl ?_ ?_ | refine x_if_eqL (pc := 7) (tgt := 20) d_C_results_7 rfl ?_ ?_ | refine x_if_eqN (pc := 7) (tgt := 20) d_C_results_7 rfl (by omega) ?_ ?_ | refine x_if_eq (pc := 7) (tgt := 20) d_C_results_7 rfl ?_ ?_
  · intro h7
    refine x_iconst (pc := 20) (-1) d_C_results_20 (by decide) ?_
    refine x_iret (pc := 21) d_C_results_21 rfl ?_
    first | exact ⟨congrArg (fun z => some (Value.int z)) (if_pos h7).symm, rfl⟩ | exact ⟨congrArg (fun z => some (Value.int z)) (if_neg (by rw [h7]; decide)).symm, rfl⟩
  · intro h7
    refine x_aload_n (pc := 10) d_C_results_10 0 rfl ?_
    refine x_get (pc := 11) (ci := 3) d_C_results_11 in_C rfl 2 (by decide) k_C_28 0 rfl rfl ?_
    refine x_callV_I (pc := 14) (ci := 0) d_C_results_14 k_C_110 wi_A_outcomes wv_A_outcomes w_A_outcomes ini_A wd_A_outcomes ⟨by decide, by decide⟩ ⟨rfl, rfl⟩ ⟨Nat.zero_le _, Nat.zero_le _⟩ 3 rfl rfl (t_A_outcomes) rfl rfl (Nat.le_of_ble_eq_true rfl) ?_
    refine x_goto (pc := 17) (tgt := 21) d_C_results_17 rfl ?_
    refine x_iret (pc := 21) d_C_results_21 rfl ?_
    first | exact ⟨congrArg (fun z => some (Value.int z)) (if_pos h7).symm, rfl⟩ | exact ⟨congrArg (fun z => some (Value.int z)) (if_neg (by rw [h7]; decide)).symm, rfl⟩
set_option maxHeartbeats 4000000 in
set_option maxRecDepth 100000 in
theorem t_C_analyse {x : Int32} (hw : pwf cnt par prm siz atm) (hli : linok cnt par lin) (hO4 : OP 4 = 0) : CT l y_C_analyse c_C_analyse 2 (some .int) (rmm 6 151) (gG D cI cL) [.ref (ad 0), .int x] (wC ad cI cL par prm lin siz atm cnt own out bnd cal opr n ph oc P Q OC OP F S R vis nc gr md) (fun v w2 => (∃ k P2 Q2 S2 F2 R2 g2 OC2 OP2 vi2 nc2, k ≤ 1 ∧ x = nI k ∧ aleast cnt (anc par) prm siz atm k (ofw P2 Q2 S2 F2 R2) ∧ OP2 4 = 0 ∧ v = some (.int (nI (popL S2))) ∧ w2 = (wC ad cI cL par prm lin siz atm cnt own out bnd cal opr n ph oc P2 Q2 OC2 OP2 F2 S2 R2 vi2 nc2 g2 true)) ∨ ((¬ ∃ k, k ≤ 1 ∧ x = nI k) ∧ v = some (.int (-1)) ∧ w2 = (wC ad cI cL par prm lin siz atm cnt own out bnd cal opr n ph oc P Q OC OP F S R vis nc gr md))) := by
  refine CT.of R_C (by decide) rfl (Nat.le_of_ble_eq_true rfl) ?_
  intro E A hname
  refine x_iload_n (pc := 0) d_C_analyse_0 1 rfl ?_
  first | refine x_if_eqB (pc := 1) (tgt := 9) d_C_analyse_1 rfl ?_ ?_ | refine x_if_eqL (pc := 1) (tgt := 9) d_C_analyse_1 rfl ?_ ?_ | refine x_if_eqN (pc := 1) (tgt := 9) d_C_analyse_1 rfl (by omega) ?_ ?_ | refine x_if_eq (pc := 1) (tgt := 9) d_C_analyse_1 rfl ?_ ?_
  · intro h1
    have hx : x = nI 0 := h1
    subst hx
    have hk : (0 : Nat) ≤ 1 := by omega
    refine x_aload_n (pc := 9) d_C_analyse_9 0 rfl ?_
    refine x_get (pc := 10) (ci := 3) d_C_analyse_10 in_C rfl 2 (by decide) k_C_28 0 rfl rfl ?_
    refine x_iload_n (pc := 13) d_C_analyse_13 1 rfl ?_
    refine x_callV_X (pc := 14) (ci := 0) d_C_analyse_14 k_C_89 wi_A_make wv_A_make w_A_make ini_A wd_A_make ⟨by decide, by decide⟩ ⟨rfl, rfl⟩ ⟨Nat.zero_le _, Nat.zero_le _⟩ 3 rfl rfl (t_A_make t_JL_bitCount hw hli hk hO4) rfl rfl (Nat.le_of_ble_eq_true rfl) (fun v14 w14 hp14 => ?_)
    obtain ⟨P2, Q2, S2, F2, R2, g2, OC2, OP2, vi2, nc2, a1, a2, rfl, rfl⟩ := hp14
    refine x_goto (pc := 17) (tgt := 21) d_C_analyse_17 rfl ?_
    refine x_iret (pc := 21) d_C_analyse_21 rfl ?_
    first
      | exact Or.inl ⟨_, P2, Q2, S2, F2, R2, g2, OC2, OP2, vi2, nc2, hk, rfl, a1, a2, rfl, rfl⟩
      | exact Or.inr ⟨fun q => by
          obtain ⟨k, hk, rfl⟩ := q
          rcases (show k = 0 ∨ k = 1 by omega) with e | e
          · subst e
            exact h1 nI_0
          · subst e
            exact h6 rfl, rfl, rfl⟩
  · intro h1
    refine x_iload_n (pc := 4) d_C_analyse_4 1 rfl ?_
    refine x_iconst (pc := 5) (nI 1) d_C_analyse_5 (by decide) ?_
    refine x_icmp_ne (pc := 6) (tgt := 20) d_C_analyse_6 rfl ?_ ?_
    · intro h6
      refine x_iconst (pc := 20) (-1) d_C_analyse_20 (by decide) ?_
      refine x_iret (pc := 21) d_C_analyse_21 rfl ?_
      first
        | exact Or.inl ⟨_, P2, Q2, S2, F2, R2, g2, OC2, OP2, vi2, nc2, hk, rfl, a1, a2, rfl, rfl⟩
        | exact Or.inr ⟨fun q => by
            obtain ⟨k, hk, rfl⟩ := q
            rcases (show k = 0 ∨ k = 1 by omega) with e | e
            · subst e
              exact h1 nI_0
            · subst e
              exact h6 rfl, rfl, rfl⟩
    · intro h6
      subst h6
      have hk : (1 : Nat) ≤ 1 := by omega
      refine x_aload_n (pc := 9) d_C_analyse_9 0 rfl ?_
      refine x_get (pc := 10) (ci := 3) d_C_analyse_10 in_C rfl 2 (by decide) k_C_28 0 rfl rfl ?_
      refine x_iload_n (pc := 13) d_C_analyse_13 1 rfl ?_
      refine x_callV_X (pc := 14) (ci := 0) d_C_analyse_14 k_C_89 wi_A_make wv_A_make w_A_make ini_A wd_A_make ⟨by decide, by decide⟩ ⟨rfl, rfl⟩ ⟨Nat.zero_le _, Nat.zero_le _⟩ 3 rfl rfl (t_A_make t_JL_bitCount hw hli hk hO4) rfl rfl (Nat.le_of_ble_eq_true rfl) (fun v14 w14 hp14 => ?_)
      obtain ⟨P2, Q2, S2, F2, R2, g2, OC2, OP2, vi2, nc2, a1, a2, rfl, rfl⟩ := hp14
      refine x_goto (pc := 17) (tgt := 21) d_C_analyse_17 rfl ?_
      refine x_iret (pc := 21) d_C_analyse_21 rfl ?_
      first
        | exact Or.inl ⟨_, P2, Q2, S2, F2, R2, g2, OC2, OP2, vi2, nc2, hk, rfl, a1, a2, rfl, rfl⟩
        | exact Or.inr ⟨fun q => by
            obtain ⟨k, hk, rfl⟩ := q
            rcases (show k = 0 ∨ k = 1 by omega) with e | e
            · subst e
              exact h1 nI_0
            · subst e
              exact h6 rfl, rfl, rfl⟩
end PUB
