section MACH3
variable {l : Launch} {D : va_G} {ad : Nat → Nat} {cI cL : ClassId} {par : Nat → Int32} {prm : Nat → Nat} {lin : Nat → Int32} {siz atm : Nat → Nat} {cnt : Nat} {own out bnd : Nat → Nat} {cal : Nat → Int32} {opr : Nat → Nat} {n ph oc : Nat} {P : Nat → Int32} {Q : Nat → Int64} {OC : Nat → Int32} {OP : Nat → Int64} {F : Nat → Int32} {S : Int64} {R : Int32} {vis nc : Nat} {gr md : Bool}
set_option maxHeartbeats 4000000 in
set_option maxRecDepth 100000 in
theorem t_M_tryStep (hw : pwf cnt par prm siz atm) (hm : mwf cnt par prm n own out bnd) (hopr : ∀ i, i < 4 → opr i < 100000) : CT l y_M_tryStep c_M_tryStep 3 none (rmm 4 89) (gG D cI cL) [.ref (ad 2)] (wC ad cI cL par prm lin siz atm cnt own out bnd cal opr n ph oc P Q OC OP F S R vis nc gr md) (fun v w2 => v = none ∧ ∃ s2 o2, s2 = mstep prm siz atm (n, own, out, bnd, cal, ph, oc) ∧ (∀ i, i < 4 → o2 i < 100000) ∧ w2 = (wC ad cI cL par prm lin siz atm cnt s2.2.1 s2.2.2.1 s2.2.2.2.1 s2.2.2.2.2.1 o2 s2.1 s2.2.2.2.2.2.1 s2.2.2.2.2.2.2 P Q OC OP F S R vis nc gr md)) := by
  refine CT.of R_M (by decide) rfl (Nat.le_of_ble_eq_true rfl) ?_
  intro E A hname
  have hc8 : cnt ≤ 8 := hw.2.1
  have hn : n ≤ 64 := hm.1
  have ho := hm.own_lt hw.1 (Nat.le_refl n)
  have hz := hw.2.2.2.2.2.1 (own n) (by omega)
  refine x_aload_n (pc := 0) d_M_tryStep_0 0 rfl ?_
  refine x_get (pc := 1) (ci := 1) d_M_tryStep_1 in_M rfl 0 (by decide) k_M_27 2 rfl rfl ?_
  refine x_aload_n (pc := 4) d_M_tryStep_4 0 rfl ?_
  refine x_callV_I (pc := 5) (ci := 1) d_M_tryStep_5 k_M_56 wi_M_place wv_M_place w_M_place ini_M wd_M_place ⟨by decide, by decide⟩ ⟨rfl, rfl⟩ ⟨Nat.zero_le _, Nat.zero_le _⟩ 2 rfl rfl (t_M_place hn) rfl rfl (Nat.le_of_ble_eq_true rfl) ?_
  refine x_callV_I (pc := 8) (ci := 2) d_M_tryStep_8 k_M_60 wi_P_callLength wv_P_callLength w_P_callLength ini_P wd_P_callLength ⟨by decide, by decide⟩ ⟨rfl, rfl⟩ ⟨Nat.zero_le _, Nat.zero_le _⟩ 1 rfl rfl (t_P_callLength (by omega)) rfl rfl (Nat.le_of_ble_eq_true rfl) ?_
  refine x_istore_n (pc := 11) d_M_tryStep_11 rfl (by decide) [(1, _), (0, _)] rfl ?_
  refine x_iload_n (pc := 12) d_M_tryStep_12 0 rfl ?_
  first | refine x_if_neB (pc := 13) (tgt := 22) d_M_tryStep_13 rfl ?_ ?_ | refine x_if_neL (pc := 13) (tgt := 22) d_M_tryStep_13 rfl ?_ ?_ | refine x_if_neN (pc := 13) (tgt := 22) d_M_tryStep_13 rfl (by omega) ?_ ?_ | refine x_if_ne (pc := 13) (tgt := 22) d_M_tryStep_13 rfl ?_ ?_
  · intro h13
    refine x_iconst (pc := 22) (nI 0) d_M_tryStep_22 (by decide) ?_
    refine x_istore_n (pc := 23) d_M_tryStep_23 rfl (by decide) [(2, _), (1, _), (0, _)] rfl ?_
    have hlp : ∀ (fuel : Nat) (i : Nat), siz (own n) - i < fuel → (i ≤ siz (own n)) → xj E l (rmm 4 89) c_M_tryStep 3 none R_M (gG D cI cL) A 0 0 (fun v w2 => v = none ∧ ∃ s2 o2, s2 = mstep prm siz atm (n, own, out, bnd, cal, ph, oc) ∧ (∀ i, i < 4 → o2 i < 100000) ∧ w2 = (wC ad cI cL par prm lin siz atm cnt s2.2.1 s2.2.2.1 s2.2.2.2.1 s2.2.2.2.2.1 o2 s2.1 s2.2.2.2.2.2.1 s2.2.2.2.2.2.2 P Q OC OP F S R vis nc gr md)) 0 0 (wC ad cI cL par prm lin siz atm cnt own out bnd cal (bst opr 0 (mops atm (n, own, out, bnd, cal, ph, oc)) i) n ph oc P Q OC OP F S R vis nc gr md) 24 [(2, .int (nI i)), (0, .ref (ad 2)), (1, .int (nI (siz (own n))))] [] := by
      intro fuel
      induction fuel with
      | zero => intro i hf; exact absurd hf (Nat.not_lt_zero _)
      | succ fuel ih =>
        intro i hf hi
        refine x_iload_n (pc := 24) d_M_tryStep_24 0 rfl ?_
        refine x_iload_n (pc := 25) d_M_tryStep_25 2 rfl ?_
        first | refine x_icmp_geN (pc := 26) (tgt := 57) d_M_tryStep_26 rfl (by omega) (by omega) ?_ ?_ | refine x_icmp_ge (pc := 26) (tgt := 57) d_M_tryStep_26 rfl ?_ ?_
        · intro h26
          refine x_aload_n (pc := 57) d_M_tryStep_57 1 rfl ?_
          refine x_iload_n (pc := 58) d_M_tryStep_58 2 rfl ?_
          refine x_iconst (pc := 59) (nI 1) d_M_tryStep_59 (by decide) ?_
          first | refine x_isubN (pc := 60) d_M_tryStep_60 (by omega) ?_ | refine x_isub (pc := 60) d_M_tryStep_60 ?_
          refine x_callV_X (pc := 61) (ci := 1) d_M_tryStep_61 k_M_71 wi_M_applyOperator wv_M_applyOperator w_M_applyOperator ini_M wd_M_applyOperator ⟨by decide, by decide⟩ ⟨rfl, rfl⟩ ⟨Nat.zero_le _, Nat.zero_le _⟩ 2 rfl rfl (t_M_applyOperator hn (by omega) hw.2.2.2.1 (bst_small hopr i (fun j hj => vok_lt hn (mops_ok hw (s := (n, own, out, bnd, cal, ph, oc)) hm (i := j) (show j < siz (own n) by omega)))) (by omega)) rfl rfl (Nat.le_of_ble_eq_true rfl) (fun v61 w61 hp61 => ?_)
          obtain ⟨rfl, s2, o2, hs, ho2, rfl⟩ := hp61
          refine x_vret (pc := 64) d_M_tryStep_64 rfl ?_
          refine ⟨rfl, s2, o2, ?_, ho2, rfl⟩
          rw [hs, show siz (own n) - 1 + 1 = siz (own n) by omega]
          refine mdo_congr (by omega) (fun j hj => ?_)
          have e1 : i = siz (own n) := by omega
          have e2 := bst_in (bnd := opr) (b := 0) (f := mops atm (n, own, out, bnd, cal, ph, oc)) (i := j) i (by omega)
          rw [Nat.zero_add] at e2
          exact e2
        · intro h26
          refine x_aload_n (pc := 29) d_M_tryStep_29 1 rfl ?_
          refine x_get (pc := 30) (ci := 1) d_M_tryStep_30 in_M rfl 5 (by decide) k_M_24 2 rfl rfl ?_
          refine x_iload_n (pc := 33) d_M_tryStep_33 0 rfl ?_
          refine x_aload_n (pc := 34) d_M_tryStep_34 1 rfl ?_
          refine x_aload_n (pc := 35) d_M_tryStep_35 1 rfl ?_
          refine x_get (pc := 36) (ci := 1) d_M_tryStep_36 in_M rfl 0 (by decide) k_M_27 2 rfl rfl ?_
          refine x_aload_n (pc := 39) d_M_tryStep_39 1 rfl ?_
          refine x_callV_I (pc := 40) (ci := 1) d_M_tryStep_40 k_M_56 wi_M_place wv_M_place w_M_place ini_M wd_M_place ⟨by decide, by decide⟩ ⟨rfl, rfl⟩ ⟨Nat.zero_le _, Nat.zero_le _⟩ 2 rfl rfl (t_M_place hn) rfl rfl (Nat.le_of_ble_eq_true rfl) ?_
          refine x_iload_n (pc := 43) d_M_tryStep_43 0 rfl ?_
          refine x_callV_I (pc := 44) (ci := 2) d_M_tryStep_44 k_M_64 wi_P_atomOf wv_P_atomOf w_P_atomOf ini_P wd_P_atomOf ⟨by decide, by decide⟩ ⟨rfl, rfl⟩ ⟨Nat.zero_le _, Nat.zero_le _⟩ 1 rfl rfl (t_P_atomOf (by omega) (by omega)) rfl rfl (Nat.le_of_ble_eq_true rfl) ?_
          refine x_callV_I (pc := 47) (ci := 1) d_M_tryStep_47 k_M_68 wi_M_meaning wv_M_meaning w_M_meaning ini_M wd_M_meaning ⟨by decide, by decide⟩ ⟨rfl, rfl⟩ ⟨Nat.zero_le _, Nat.zero_le _⟩ 2 rfl rfl (t_M_meaning hw hm (hw.2.2.2.2.2.2 (own n) i (by omega) (by omega))) rfl rfl (Nat.le_of_ble_eq_true rfl) ?_
          first | refine x_iastU (pc := 50) d_M_tryStep_50 13 0 rfl rfl (by omega) (by omega) ?_ | refine x_iastN (pc := 50) d_M_tryStep_50 13 0 rfl rfl (by omega) (by omega) _ rfl ?_
          refine x_iincN (pc := 51) d_M_tryStep_51 0 rfl (by decide) [(2, _), (0, _), (1, _)] rfl ?_
          refine x_goto (pc := 54) (tgt := 24) d_M_tryStep_54 rfl ?_
          refine x_sub [0, 1, 2] _ rfl ?_
          refine x_w (w2 := (wC ad cI cL par prm lin siz atm cnt own out bnd cal (bst opr 0 (mops atm (n, own, out, bnd, cal, ph, oc)) (i + 1)) n ph oc P Q OC OP F S R vis nc gr md)) (by rw [bst_s0]; rfl) ?_
          exact ih (i + 1) (by omega) (by omega)
    refine x_sub [0, 2, 1] _ rfl ?_
    exact hlp (siz (own n) + 1) 0 (by omega) (by omega)
  · intro h13
    refine x_aload_n (pc := 16) d_M_tryStep_16 1 rfl ?_
    refine x_iconst (pc := 17) (nI 3) d_M_tryStep_17 (by decide) ?_
    refine x_put (pc := 18) (ci := 1) (ty := .int) d_M_tryStep_18 in_M t_M ty_M nm_M rfl 7 (by decide) k_M_31 rfl (by decide +kernel) rfl rfl 2 rfl (Nat.le_of_ble_eq_true rfl) (_) (rfl) ?_
    refine x_vret (pc := 21) d_M_tryStep_21 rfl ?_
    refine ⟨rfl, (n, own, out, bnd, cal, 3, oc), opr, ?_, hopr, rfl⟩
    unfold mstep
    have e0 : siz (own n) = 0 := h13
    show _ = mdo (mact prm (siz (own n)) _) _ _
    rw [e0]
    rfl
set_option maxHeartbeats 4000000 in
set_option maxRecDepth 100000 in
theorem t_M_advance {x : Nat} (hw : pwf cnt par prm siz atm) (hs : swf cnt par prm (n, own, out, bnd, cal, ph, oc)) (hopr : ∀ i, i < 4 → opr i < 100000) (hx : x ≤ 100) : CT l y_M_advance c_M_advance 3 (some .int) (rmm 5 111) (gG D cI cL) [.ref (ad 2), .int (nI x)] (wC ad cI cL par prm lin siz atm cnt own out bnd cal opr n ph oc P Q OC OP F S R vis nc gr md) (fun v w2 => ∃ s2 o2, s2 = (madv prm siz atm x (n, own, out, bnd, cal, ph, oc)).1 ∧ swf cnt par prm s2 ∧ (∀ i, i < 4 → o2 i < 100000) ∧ v = some (.int (nI (madv prm siz atm x (n, own, out, bnd, cal, ph, oc)).2)) ∧ w2 = (wC ad cI cL par prm lin siz atm cnt s2.2.1 s2.2.2.1 s2.2.2.2.1 s2.2.2.2.2.1 o2 s2.1 s2.2.2.2.2.2.1 s2.2.2.2.2.2.2 P Q OC OP F S R vis nc gr md)) := by
  refine CT.of R_M (by decide) rfl (Nat.le_of_ble_eq_true rfl) ?_
  intro E A hname
  refine x_iconst (pc := 0) (nI 0) d_M_advance_0 (by decide) ?_
  refine x_istore_n (pc := 1) d_M_advance_1 rfl (by decide) [(2, _), (0, _), (1, _)] rfl ?_
  have hlp : ∀ (fuel : Nat) (j : Nat) (s : AM) (o : Nat → Nat), x - j < fuel → (j ≤ x) → (swf cnt par prm s) → (∀ i, i < 4 → o i < 100000) → (madv prm siz atm x (n, own, out, bnd, cal, ph, oc) = ((madv prm siz atm (x - j) s).1, (madv prm siz atm (x - j) s).2 + j)) → xj E l (rmm 5 111) c_M_advance 3 (some .int) R_M (gG D cI cL) A 0 0 (fun v w2 => ∃ s2 o2, s2 = (madv prm siz atm x (n, own, out, bnd, cal, ph, oc)).1 ∧ swf cnt par prm s2 ∧ (∀ i, i < 4 → o2 i < 100000) ∧ v = some (.int (nI (madv prm siz atm x (n, own, out, bnd, cal, ph, oc)).2)) ∧ w2 = (wC ad cI cL par prm lin siz atm cnt s2.2.1 s2.2.2.1 s2.2.2.2.1 s2.2.2.2.2.1 o2 s2.1 s2.2.2.2.2.2.1 s2.2.2.2.2.2.2 P Q OC OP F S R vis nc gr md)) 0 0 (wC ad cI cL par prm lin siz atm cnt s.2.1 s.2.2.1 s.2.2.2.1 s.2.2.2.2.1 o s.1 s.2.2.2.2.2.1 s.2.2.2.2.2.2 P Q OC OP F S R vis nc gr md) 2 [(2, .int (nI j)), (0, .ref (ad 2)), (1, .int (nI x))] [] := by
    intro fuel
    induction fuel with
    | zero => intro j s o hf; exact absurd hf (Nat.not_lt_zero _)
    | succ fuel ih =>
      intro j s o hf hj hs ho hq
      have hph := hs.2.1
      refine x_iload_n (pc := 2) d_M_advance_2 0 rfl ?_
      refine x_iload_n (pc := 3) d_M_advance_3 2 rfl ?_
      first | refine x_icmp_geN (pc := 4) (tgt := 37) d_M_advance_4 rfl (by omega) (by omega) ?_ ?_ | refine x_icmp_ge (pc := 4) (tgt := 37) d_M_advance_4 rfl ?_ ?_
      · intro h4
        refine x_iload_n (pc := 37) d_M_advance_37 2 rfl ?_
        refine x_iret (pc := 38) d_M_advance_38 rfl ?_
        have e1 : x - j = 0 := by omega
        have e2 : j = x := by omega
        rw [hq, e1, madv_0]
        exact ⟨s, o, rfl, hs, ho, by rw [Nat.zero_add, e2], rfl⟩
      · intro h4
        refine x_aload_n (pc := 7) d_M_advance_7 1 rfl ?_
        refine x_get (pc := 8) (ci := 1) d_M_advance_8 in_M rfl 7 (by decide) k_M_31 2 rfl rfl ?_
        refine x_iconst (pc := 11) (nI 1) d_M_advance_11 (by decide) ?_
        first | refine x_icmp_eqN (pc := 12) (tgt := 17) d_M_advance_12 rfl (by omega) (by omega) ?_ ?_ | refine x_icmp_eq (pc := 12) (tgt := 17) d_M_advance_12 rfl ?_ ?_
        · intro h12
          refine x_aload_n (pc := 17) d_M_advance_17 1 rfl ?_
          refine x_callV_X (pc := 18) (ci := 1) d_M_advance_18 k_M_53 wi_M_tryStep wv_M_tryStep w_M_tryStep ini_M wd_M_tryStep ⟨by decide, by decide⟩ ⟨rfl, rfl⟩ ⟨Nat.zero_le _, Nat.zero_le _⟩ 2 rfl rfl (t_M_tryStep hw hs.1 ho) rfl rfl (Nat.le_of_ble_eq_true rfl) (fun v18 w18 hp18 => ?_)
          obtain ⟨rfl, s2, o2, hst, ho2, rfl⟩ := hp18
          have hst : s2 = mstep prm siz atm s := hst
          have hs2 : swf cnt par prm s2 := by rw [hst]; exact mstep_wf hw hs
          have hph2 := hs2.2.1
          refine x_aload_n (pc := 21) d_M_advance_21 1 rfl ?_
          refine x_get (pc := 22) (ci := 1) d_M_advance_22 in_M rfl 7 (by decide) k_M_31 2 rfl rfl ?_
          refine x_iconst (pc := 25) (nI 4) d_M_advance_25 (by decide) ?_
          first | refine x_icmp_neN (pc := 26) (tgt := 31) d_M_advance_26 rfl (by omega) (by omega) ?_ ?_ | refine x_icmp_ne (pc := 26) (tgt := 31) d_M_advance_26 rfl ?_ ?_
          · intro h26
            refine x_iincN (pc := 31) d_M_advance_31 0 rfl (by decide) [(2, _), (0, _), (1, _)] rfl ?_
            refine x_goto (pc := 34) (tgt := 2) d_M_advance_34 rfl ?_
            refine x_sub [0, 1, 2] _ rfl ?_
            refine ih (j + 1) s2 o2 (by omega) (by omega) hs2 ho2 ?_
            have e1 : x - j = (x - (j + 1)) + 1 := by omega
            rw [hq, e1, madv_go h12 (by rw [← hst]; exact h26), ← hst]
            show (_, _ + 1 + j) = (_, _ + (j + 1))
            rw [Nat.add_assoc, Nat.add_comm 1 j]
          · intro h26
            refine x_iload_n (pc := 29) d_M_advance_29 0 rfl ?_
            refine x_iret (pc := 30) d_M_advance_30 rfl ?_
            have e1 : x - j = (x - (j + 1)) + 1 := by omega
            rw [hq, e1, madv_full h12 (by rw [← hst]; exact h26), ← hst]
            exact ⟨s2, o2, rfl, hs2, ho2, by rw [Nat.zero_add], rfl⟩
        · intro h12
          refine x_iload_n (pc := 15) d_M_advance_15 0 rfl ?_
          refine x_iret (pc := 16) d_M_advance_16 rfl ?_
          have e1 : x - j = (x - (j + 1)) + 1 := by omega
          rw [hq, e1, madv_stop h12]
          exact ⟨s, o, rfl, hs, ho, by rw [Nat.zero_add], rfl⟩
  refine x_sub [0, 1, 2] _ rfl ?_
  exact hlp (x + 1) 0 (n, own, out, bnd, cal, ph, oc) opr (by omega) (by omega) hs hopr rfl
end MACH3
