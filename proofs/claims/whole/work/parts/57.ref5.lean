section REF5
variable {l : Launch} {D : va_G} {ad : Nat → Nat} {cI cL : ClassId} {par : Nat → Int32} {prm siz atm : Nat → Nat} {cnt : Nat} {mo he en ap oc : Nat} {cal : Nat → Int32} {el : Nat → Nat} {eu : Nat → Int32} {ev ag : Nat → Nat} {an : Bool} {kk : Nat} {P : Nat → Int32} {Q : Nat → Int64} {S : Int64} {F : Nat → Int32} {R : Int32} {ch : Bool} {AP : Nat → Int32} {AQ : Nat → Int64}
theorem t_R_move {n : Nat} {own out bnd : Nat → Nat} {cal2 : Nat → Int32} {ph oc2 : Nat} (hw : pwf cnt par prm siz atm) (hs : swf cnt par prm (n, own, out, bnd, cal2, ph, oc2)) (hr : rst prm (n, own, out, bnd, cal2, ph, oc2) mo he en ap oc cal el eu ev) (hph : ph = 1) (hag : ∀ i, i < 4 → ag i < 100000)  : CT l y_R_move c_R_move 4 (some .boolean) (rmm 2 45) (gG D cI cL) [.ref (ad 0)] (wR ad cI cL par prm siz atm cnt mo he en ap oc cal el eu ev ag an kk P Q S F R ch AP AQ) (fun v w2 => ∃ mo9 he9 en9 ap9 oc9 cal9 el9 eu9 ev9 ag9, rst prm (mstep prm siz atm (n, own, out, bnd, cal2, ph, oc2)) mo9 he9 en9 ap9 oc9 cal9 el9 eu9 ev9 ∧ (∀ i, i < 4 → ag9 i < 100000) ∧ v = some (.int (bI (decide (¬ (mstep prm siz atm (n, own, out, bnd, cal2, ph, oc2)).2.2.2.2.2.1 = 4)))) ∧ w2 = (wR ad cI cL par prm siz atm cnt mo9 he9 en9 ap9 oc9 cal9 el9 eu9 ev9 ag9 an kk P Q S F R ch AP AQ)) := by
  rcases Nat.eq_zero_or_pos (siz he) with hz | hz
  · exact t_R_move0 hw hs hr hph hag hz
  · exact t_R_move1 hw hs hr hph hag hz
theorem madv_halt {prm siz atm : Nat → Nat} {s : AM} (h : ¬ s.2.2.2.2.2.1 = 1) : ∀ k, madv prm siz atm k s = (s, 0)
  | 0 => rfl
  | _ + 1 => madv_stop h
set_option maxHeartbeats 4000000 in
set_option maxRecDepth 100000 in
theorem t_R_step {n : Nat} {own out bnd : Nat → Nat} {cal2 : Nat → Int32} {ph oc2 : Nat} {x : Int32} (hw : pwf cnt par prm siz atm) (hmo : mo ≤ 4) (hh : ¬ mo = 0 → swf cnt par prm (n, own, out, bnd, cal2, ph, oc2) ∧ rst prm (n, own, out, bnd, cal2, ph, oc2) mo he en ap oc cal el eu ev) (hag : ∀ i, i < 4 → ag i < 100000) : CT l y_R_step c_R_step 5 (some .int) (rmm 3 68) (gG D cI cL) [.ref (ad 0), .int x] (wR ad cI cL par prm siz atm cnt mo he en ap oc cal el eu ev ag an kk P Q S F R ch AP AQ) (fun v w2 => (∃ k, k ≤ 100 ∧ x = nI k ∧ (¬ mo = 0) ∧ ∃ mo9 he9 en9 ap9 oc9 cal9 el9 eu9 ev9 ag9, rst prm (madv prm siz atm k (n, own, out, bnd, cal2, ph, oc2)).1 mo9 he9 en9 ap9 oc9 cal9 el9 eu9 ev9 ∧ (∀ i, i < 4 → ag9 i < 100000) ∧ v = some (.int (nI (madv prm siz atm k (n, own, out, bnd, cal2, ph, oc2)).2)) ∧ w2 = (wR ad cI cL par prm siz atm cnt mo9 he9 en9 ap9 oc9 cal9 el9 eu9 ev9 ag9 an kk P Q S F R ch AP AQ)) ∨ ((mo = 0 ∨ ¬ ∃ k, k ≤ 100 ∧ x = nI k) ∧ v = some (.int (-1)) ∧ w2 = (wR ad cI cL par prm siz atm cnt mo he en ap oc cal el eu ev ag an kk P Q S F R ch AP AQ))) := by
  refine CT.of R_R (by decide) rfl (Nat.le_of_ble_eq_true rfl) ?_
  intro E A hname
  refine x_iload_n (pc := 0) d_R_step_0 1 rfl ?_
  refine x_if_lt (pc := 1) (tgt := 17) d_R_step_1 rfl ?_ ?_
  · intro h1
    refine x_iconst (pc := 17) (-1) d_R_step_17 (by decide) ?_
    refine x_iret (pc := 18) d_R_step_18 rfl ?_
    first
      | exact Or.inr ⟨Or.inr (fun q => by obtain ⟨k, hk, rfl⟩ := q; exact nI_pos (by omega) h1), rfl, rfl⟩
      | exact Or.inr ⟨Or.inr (fun q => by obtain ⟨k, hk, rfl⟩ := q; exact nI_nlt (by omega) (by omega) h7), rfl, rfl⟩
      | exact Or.inr ⟨Or.inl h14, rfl, rfl⟩
  · intro h1
    refine x_iload_n (pc := 4) d_R_step_4 1 rfl ?_
    refine x_bipush (pc := 5) (nI 100) d_R_step_5 (by decide) ?_
    first | refine x_icmp_gtN (pc := 7) (tgt := 17) d_R_step_7 rfl (by omega) (by omega) ?_ ?_ | refine x_icmp_gt (pc := 7) (tgt := 17) d_R_step_7 rfl ?_ ?_
    · intro h7
      refine x_iconst (pc := 17) (-1) d_R_step_17 (by decide) ?_
      refine x_iret (pc := 18) d_R_step_18 rfl ?_
      first
        | exact Or.inr ⟨Or.inr (fun q => by obtain ⟨k, hk, rfl⟩ := q; exact nI_pos (by omega) h1), rfl, rfl⟩
        | exact Or.inr ⟨Or.inr (fun q => by obtain ⟨k, hk, rfl⟩ := q; exact nI_nlt (by omega) (by omega) h7), rfl, rfl⟩
        | exact Or.inr ⟨Or.inl h14, rfl, rfl⟩
    · intro h7
      obtain ⟨k, hk, rfl⟩ := k100_of h1 h7
      refine x_aload_n (pc := 10) d_R_step_10 0 rfl ?_
      refine x_get (pc := 11) (ci := 4) d_R_step_11 in_R rfl 5 (by decide) k_R_57 0 rfl rfl ?_
      first | refine x_if_neB (pc := 14) (tgt := 19) d_R_step_14 rfl ?_ ?_ | refine x_if_neL (pc := 14) (tgt := 19) d_R_step_14 rfl ?_ ?_ | refine x_if_neN (pc := 14) (tgt := 19) d_R_step_14 rfl (by omega) ?_ ?_ | refine x_if_ne (pc := 14) (tgt := 19) d_R_step_14 rfl ?_ ?_
      · intro h14
        obtain ⟨hs0, hr0⟩ := hh h14
        refine x_iconst (pc := 19) (nI 0) d_R_step_19 (by decide) ?_
        refine x_istore_n (pc := 20) d_R_step_20 rfl (by decide) [(2, _), (0, _), (1, _)] rfl ?_
        refine x_iconst (pc := 21) (nI 0) d_R_step_21 (by decide) ?_
        refine x_istore_n (pc := 22) d_R_step_22 rfl (by decide) [(3, _), (2, _), (0, _), (1, _)] rfl ?_
        have hlp : ∀ (fuel : Nat) (t : Nat) (j : Nat) (s : AM) (mo1 : Nat) (he1 : Nat) (en1 : Nat) (ap1 : Nat) (oc1 : Nat) (cal1 : Nat → Int32) (el1 : Nat → Nat) (eu1 : Nat → Int32) (ev1 : Nat → Nat) (ag1 : Nat → Nat), k - t < fuel → (t ≤ k) → (j ≤ t) → (swf cnt par prm s) → (rst prm s mo1 he1 en1 ap1 oc1 cal1 el1 eu1 ev1) → (∀ i, i < 4 → ag1 i < 100000) → (madv prm siz atm k (n, own, out, bnd, cal2, ph, oc2) = ((madv prm siz atm (k - t) s).1, (madv prm siz atm (k - t) s).2 + j)) → xj E l (rmm 3 68) c_R_step 5 (some .int) R_R (gG D cI cL) A 0 0 (fun v w2 => (∃ k2, k2 ≤ 100 ∧ nI k = nI k2 ∧ (¬ mo = 0) ∧ ∃ mo9 he9 en9 ap9 oc9 cal9 el9 eu9 ev9 ag9, rst prm (madv prm siz atm k2 (n, own, out, bnd, cal2, ph, oc2)).1 mo9 he9 en9 ap9 oc9 cal9 el9 eu9 ev9 ∧ (∀ i, i < 4 → ag9 i < 100000) ∧ v = some (.int (nI (madv prm siz atm k2 (n, own, out, bnd, cal2, ph, oc2)).2)) ∧ w2 = (wR ad cI cL par prm siz atm cnt mo9 he9 en9 ap9 oc9 cal9 el9 eu9 ev9 ag9 an kk P Q S F R ch AP AQ)) ∨ ((mo = 0 ∨ ¬ ∃ k2, k2 ≤ 100 ∧ nI k = nI k2) ∧ v = some (.int (-1)) ∧ w2 = (wR ad cI cL par prm siz atm cnt mo he en ap oc cal el eu ev ag an kk P Q S F R ch AP AQ))) 0 0 (wR ad cI cL par prm siz atm cnt mo1 he1 en1 ap1 oc1 cal1 el1 eu1 ev1 ag1 an kk P Q S F R ch AP AQ) 23 [(3, .int (nI t)), (2, .int (nI j)), (0, .ref (ad 0)), (1, .int (nI k))] [] := by
          intro fuel
          induction fuel with
          | zero => intro t j s mo1 he1 en1 ap1 oc1 cal1 el1 eu1 ev1 ag1 hf; exact absurd hf (Nat.not_lt_zero _)
          | succ fuel ih =>
            intro t j s mo1 he1 en1 ap1 oc1 cal1 el1 eu1 ev1 ag1 hf ht hj hs hr hg hq
            have hp4 := hs.2.1
            have hmp : mo1 = s.2.2.2.2.2.1 := hr.1
            refine x_iload_n (pc := 23) d_R_step_23 0 rfl ?_
            refine x_iload_n (pc := 24) d_R_step_24 3 rfl ?_
            first | refine x_icmp_geN (pc := 25) (tgt := 61) d_R_step_25 rfl (by omega) (by omega) ?_ ?_ | refine x_icmp_ge (pc := 25) (tgt := 61) d_R_step_25 rfl ?_ ?_
            · intro h25
              refine x_iload_n (pc := 61) d_R_step_61 1 rfl ?_
              refine x_iret (pc := 62) d_R_step_62 rfl ?_
              first
                | exact Or.inl ⟨k, hk, rfl, h14, by rw [hq, show k - t = 0 by omega, madv_0]; exact ⟨mo1, he1, en1, ap1, oc1, cal1, el1, eu1, ev1, ag1, hr, hg, by rw [Nat.zero_add], rfl⟩⟩
                | exact Or.inl ⟨k, hk, rfl, h14, by rw [hq, madv_halt (show ¬ s.2.2.2.2.2.1 = 1 by omega)]; exact ⟨mo1, he1, en1, ap1, oc1, cal1, el1, eu1, ev1, ag1, hr, hg, by rw [Nat.zero_add], rfl⟩⟩
            · intro h25
              refine x_aload_n (pc := 28) d_R_step_28 2 rfl ?_
              refine x_get (pc := 29) (ci := 4) d_R_step_29 in_R rfl 5 (by decide) k_R_57 0 rfl rfl ?_
              refine x_iconst (pc := 32) (nI 1) d_R_step_32 (by decide) ?_
              first | refine x_icmp_neN (pc := 33) (tgt := 61) d_R_step_33 rfl (by omega) (by omega) ?_ ?_ | refine x_icmp_ne (pc := 33) (tgt := 61) d_R_step_33 rfl ?_ ?_
              · intro h33
                refine x_iload_n (pc := 61) d_R_step_61 1 rfl ?_
                refine x_iret (pc := 62) d_R_step_62 rfl ?_
                first
                  | exact Or.inl ⟨k, hk, rfl, h14, by rw [hq, show k - t = 0 by omega, madv_0]; exact ⟨mo1, he1, en1, ap1, oc1, cal1, el1, eu1, ev1, ag1, hr, hg, by rw [Nat.zero_add], rfl⟩⟩
                  | exact Or.inl ⟨k, hk, rfl, h14, by rw [hq, madv_halt (show ¬ s.2.2.2.2.2.1 = 1 by omega)]; exact ⟨mo1, he1, en1, ap1, oc1, cal1, el1, eu1, ev1, ag1, hr, hg, by rw [Nat.zero_add], rfl⟩⟩
              · intro h33
                refine x_aload_n (pc := 36) d_R_step_36 2 rfl ?_
                refine x_callV_X (pc := 37) (ci := 4) d_R_step_37 k_R_105 wi_R_move wv_R_move w_R_move ini_R wd_R_move ⟨by decide, by decide⟩ ⟨rfl, rfl⟩ ⟨Nat.zero_le _, Nat.zero_le _⟩ 0 rfl rfl (t_R_move (n := s.1) (own := s.2.1) (out := s.2.2.1) (bnd := s.2.2.2.1) (cal2 := s.2.2.2.2.1) (ph := s.2.2.2.2.2.1) (oc2 := s.2.2.2.2.2.2) hw hs hr (by omega) hg) rfl rfl (Nat.le_of_ble_eq_true rfl) (fun v37 w37 hp37 => ?_)
                obtain ⟨mo9, he9, en9, ap9, oc9, cal9, el9, eu9, ev9, ag9, hr9, hg9, rfl, rfl⟩ := hp37
                refine x_istore (pc := 40) d_R_step_40 (by decide) [(4, _), (3, _), (2, _), (0, _), (1, _)] rfl ?_
                refine x_iload (pc := 42) d_R_step_42 0 rfl ?_
                first | refine x_if_eqB (pc := 44) (tgt := 53) d_R_step_44 rfl ?_ ?_ | refine x_if_eqL (pc := 44) (tgt := 53) d_R_step_44 rfl ?_ ?_ | refine x_if_eqN (pc := 44) (tgt := 53) d_R_step_44 rfl (by omega) ?_ ?_ | refine x_if_eq (pc := 44) (tgt := 53) d_R_step_44 rfl ?_ ?_
                · intro h44
                  have g44 : (mstep prm siz atm s).2.2.2.2.2.1 = 4 := dn (of_decide_eq_false h44)
                  refine x_iload_n (pc := 53) d_R_step_53 2 rfl ?_
                  refine x_istore_n (pc := 54) d_R_step_54 rfl (by decide) [(2, _), (4, _), (3, _), (0, _), (1, _)] rfl ?_
                  refine x_iincN (pc := 55) d_R_step_55 2 rfl (by decide) [(3, _), (2, _), (4, _), (0, _), (1, _)] rfl ?_
                  refine x_goto (pc := 58) (tgt := 23) d_R_step_58 rfl ?_
                  refine x_sub [0, 1, 3, 4] _ rfl ?_
                  have e1 : k - t = (k - (t + 1)) + 1 := by omega
                  have hs2 := mstep_wf hw hs
                  have hp1 : s.2.2.2.2.2.1 = 1 := by omega
                  first
                    | exact ih (t + 1) j _ mo9 he9 en9 ap9 oc9 cal9 el9 eu9 ev9 ag9 (by omega) (by omega) (by omega) hs2 hr9 hg9 (by rw [hq, e1, madv_full hp1 g44, madv_halt (show ¬ (mstep prm siz atm s).2.2.2.2.2.1 = 1 by rw [g44]; decide)])
                    | exact ih (t + 1) (j + 1) _ mo9 he9 en9 ap9 oc9 cal9 el9 eu9 ev9 ag9 (by omega) (by omega) (by omega) hs2 hr9 hg9 (by rw [hq, e1, madv_go hp1 n44]; show (_, _ + 1 + j) = (_, _ + (j + 1)); rw [Nat.add_assoc, Nat.add_comm 1 j])
                · intro h44
                  have n44 : ¬ (mstep prm siz atm s).2.2.2.2.2.1 = 4 := of_decide_eq_true h44
                  refine x_iload_n (pc := 47) d_R_step_47 2 rfl ?_
                  refine x_iconst (pc := 48) (nI 1) d_R_step_48 (by decide) ?_
                  first | refine x_iaddN (pc := 49) d_R_step_49 ?_ | refine x_iadd (pc := 49) d_R_step_49 ?_
                  refine x_goto (pc := 50) (tgt := 54) d_R_step_50 rfl ?_
                  refine x_istore_n (pc := 54) d_R_step_54 rfl (by decide) [(2, _), (4, _), (3, _), (0, _), (1, _)] rfl ?_
                  refine x_iincN (pc := 55) d_R_step_55 2 rfl (by decide) [(3, _), (2, _), (4, _), (0, _), (1, _)] rfl ?_
                  refine x_goto (pc := 58) (tgt := 23) d_R_step_58 rfl ?_
                  refine x_sub [0, 1, 3, 4] _ rfl ?_
                  have e1 : k - t = (k - (t + 1)) + 1 := by omega
                  have hs2 := mstep_wf hw hs
                  have hp1 : s.2.2.2.2.2.1 = 1 := by omega
                  first
                    | exact ih (t + 1) j _ mo9 he9 en9 ap9 oc9 cal9 el9 eu9 ev9 ag9 (by omega) (by omega) (by omega) hs2 hr9 hg9 (by rw [hq, e1, madv_full hp1 g44, madv_halt (show ¬ (mstep prm siz atm s).2.2.2.2.2.1 = 1 by rw [g44]; decide)])
                    | exact ih (t + 1) (j + 1) _ mo9 he9 en9 ap9 oc9 cal9 el9 eu9 ev9 ag9 (by omega) (by omega) (by omega) hs2 hr9 hg9 (by rw [hq, e1, madv_go hp1 n44]; show (_, _ + 1 + j) = (_, _ + (j + 1)); rw [Nat.add_assoc, Nat.add_comm 1 j])
        refine x_sub [0, 1, 2, 3] _ rfl ?_
        exact hlp (k + 1) 0 0 (n, own, out, bnd, cal2, ph, oc2) mo he en ap oc cal el eu ev ag (by omega) (by omega) (by omega) hs0 hr0 hag rfl
      · intro h14
        refine x_iconst (pc := 17) (-1) d_R_step_17 (by decide) ?_
        refine x_iret (pc := 18) d_R_step_18 rfl ?_
        first
          | exact Or.inr ⟨Or.inr (fun q => by obtain ⟨k, hk, rfl⟩ := q; exact nI_pos (by omega) h1), rfl, rfl⟩
          | exact Or.inr ⟨Or.inr (fun q => by obtain ⟨k, hk, rfl⟩ := q; exact nI_nlt (by omega) (by omega) h7), rfl, rfl⟩
          | exact Or.inr ⟨Or.inl h14, rfl, rfl⟩
theorem t_R_envOfX {n : Nat} {own out bnd : Nat → Nat} {lx e : Nat} (hw : pwf cnt par prm siz atm) (hm : mwf cnt par prm n own out bnd) (hr : rrel prm n own out bnd el eu ev) (hlx : lx < 8) (hle : e ≤ n) : CT l y_R_envOf c_R_envOf 4 (some .int) (rmm 0 0) (gG D cI cL) [.ref (ad 0), .int (nI lx), .int (nI e)] (wR ad cI cL par prm siz atm cnt mo he en ap oc cal el eu ev ag an kk P Q S F R ch AP AQ) (fun v w2 => (∃ e2, mf own out lx 8 e = some e2 ∧ v = some (.int (nI e2)) ∧ w2 = (wR ad cI cL par prm siz atm cnt mo he en ap oc cal el eu ev ag an kk P Q S F R ch AP AQ)) ∨ (mf own out lx 8 e = none ∧ v = some (.int (-1)) ∧ w2 = (wR ad cI cL par prm siz atm cnt mo he en ap oc cal el eu ev ag an kk P Q S F R ch AP AQ))) := by
  refine (t_R_envOf hw hm hr hlx hle).mono (fun v w2 h => ?_)
  obtain ⟨rfl, rfl⟩ := h
  cases hh : mf own out lx 8 e with
  | none => exact Or.inr ⟨rfl, rfl, rfl⟩
  | some e2 => exact Or.inl ⟨e2, rfl, rfl, rfl⟩
set_option maxHeartbeats 4000000 in
set_option maxRecDepth 100000 in
theorem t_R_value {n : Nat} {own out bnd : Nat → Nat} {x i : Int32} (hw : pwf cnt par prm siz atm) (hmo : mo ≤ 4) (hh : ¬ mo = 0 → mwf cnt par prm n own out bnd ∧ rrel prm n own out bnd el eu ev ∧ en = n) : CT l y_R_value c_R_value 4 (some .int) (rmm 1 23) (gG D cI cL) [.ref (ad 0), .int x, .int i] (wR ad cI cL par prm siz atm cnt mo he en ap oc cal el eu ev ag an kk P Q S F R ch AP AQ) (pI (if mo = 0 then -1 else tld (bval cnt prm n own out bnd x i)) (wR ad cI cL par prm siz atm cnt mo he en ap oc cal el eu ev ag an kk P Q S F R ch AP AQ)) := by
  refine CT.of R_R (by decide) rfl (Nat.le_of_ble_eq_true rfl) ?_
  intro E A hname
  have hc8 : cnt ≤ 8 := hw.2.1
  have hp4 : ∀ l, l < 8 → prm l ≤ 4 := fun l h => Nat.le_trans (hw.2.2.2.1 l h) (by omega)
  refine x_aload_n (pc := 0) d_R_value_0 0 rfl ?_
  refine x_get (pc := 1) (ci := 4) d_R_value_1 in_R rfl 5 (by decide) k_R_57 0 rfl rfl ?_
  first | refine x_if_eqB (pc := 4) (tgt := 29) d_R_value_4 rfl ?_ ?_ | refine x_if_eqL (pc := 4) (tgt := 29) d_R_value_4 rfl ?_ ?_ | refine x_if_eqN (pc := 4) (tgt := 29) d_R_value_4 rfl (by omega) ?_ ?_ | refine x_if_eq (pc := 4) (tgt := 29) d_R_value_4 rfl ?_ ?_
  · intro h4
    refine x_iconst (pc := 29) (-1) d_R_value_29 (by decide) ?_
    refine x_iret (pc := 30) d_R_value_30 rfl ?_
    first
      | exact ⟨congrArg (fun z => some (Value.int z)) ((by rw [if_neg h4, bval_no (show hpr cnt prm (nI lx) i = false by rw [hpr_nI hc8 hlx]; exact decide_eq_false (fun q => h26 q.2)), tld_m1])), rfl⟩
      | exact ⟨congrArg (fun z => some (Value.int z)) ((by rw [if_neg h4, bval_no (show hpr cnt prm (nI lx) i = false by rw [hpr_nI hc8 hlx]; exact decide_eq_false (fun q => Int32.not_lt.mpr q.1 h16)), tld_m1])), rfl⟩
      | exact ⟨congrArg (fun z => some (Value.int z)) ((by rw [if_neg h4, bval_no (show hpr cnt prm x i = false by unfold hpr; rw [h12]; rfl), tld_m1])), rfl⟩
      | exact ⟨congrArg (fun z => some (Value.int z)) ((if_pos h4).symm), rfl⟩
  · intro h4
    obtain ⟨hm, hr, hen⟩ := hh h4
    refine x_aload_n (pc := 7) d_R_value_7 0 rfl ?_
    refine x_iload_n (pc := 8) d_R_value_8 1 rfl ?_
    refine x_callV_I (pc := 9) (ci := 4) d_R_value_9 k_R_64 wi_R_isLambda wv_R_isLambda w_R_isLambda ini_R wd_R_isLambda ⟨by decide, by decide⟩ ⟨rfl, rfl⟩ ⟨Nat.zero_le _, Nat.zero_le _⟩ 0 rfl rfl (t_R_isLambda) rfl rfl (Nat.le_of_ble_eq_true rfl) ?_
    first | refine x_if_eqB (pc := 12) (tgt := 29) d_R_value_12 rfl ?_ ?_ | refine x_if_eqL (pc := 12) (tgt := 29) d_R_value_12 rfl ?_ ?_ | refine x_if_eqN (pc := 12) (tgt := 29) d_R_value_12 rfl (by omega) ?_ ?_ | refine x_if_eq (pc := 12) (tgt := 29) d_R_value_12 rfl ?_ ?_
    · intro h12
      refine x_iconst (pc := 29) (-1) d_R_value_29 (by decide) ?_
      refine x_iret (pc := 30) d_R_value_30 rfl ?_
      first
        | exact ⟨congrArg (fun z => some (Value.int z)) ((by rw [if_neg h4, bval_no (show hpr cnt prm (nI lx) i = false by rw [hpr_nI hc8 hlx]; exact decide_eq_false (fun q => h26 q.2)), tld_m1])), rfl⟩
        | exact ⟨congrArg (fun z => some (Value.int z)) ((by rw [if_neg h4, bval_no (show hpr cnt prm (nI lx) i = false by rw [hpr_nI hc8 hlx]; exact decide_eq_false (fun q => Int32.not_lt.mpr q.1 h16)), tld_m1])), rfl⟩
        | exact ⟨congrArg (fun z => some (Value.int z)) ((by rw [if_neg h4, bval_no (show hpr cnt prm x i = false by unfold hpr; rw [h12]; rfl), tld_m1])), rfl⟩
        | exact ⟨congrArg (fun z => some (Value.int z)) ((if_pos h4).symm), rfl⟩
    · intro h12
      obtain ⟨lx, hlx, rfl⟩ := hl_of hc8 h12
      have hpx := hw.2.2.2.1 lx (by omega)
      refine x_iload_n (pc := 15) d_R_value_15 2 rfl ?_
      refine x_if_lt (pc := 16) (tgt := 29) d_R_value_16 rfl ?_ ?_
      · intro h16
        refine x_iconst (pc := 29) (-1) d_R_value_29 (by decide) ?_
        refine x_iret (pc := 30) d_R_value_30 rfl ?_
        first
          | exact ⟨congrArg (fun z => some (Value.int z)) ((by rw [if_neg h4, bval_no (show hpr cnt prm (nI lx) i = false by rw [hpr_nI hc8 hlx]; exact decide_eq_false (fun q => h26 q.2)), tld_m1])), rfl⟩
          | exact ⟨congrArg (fun z => some (Value.int z)) ((by rw [if_neg h4, bval_no (show hpr cnt prm (nI lx) i = false by rw [hpr_nI hc8 hlx]; exact decide_eq_false (fun q => Int32.not_lt.mpr q.1 h16)), tld_m1])), rfl⟩
          | exact ⟨congrArg (fun z => some (Value.int z)) ((by rw [if_neg h4, bval_no (show hpr cnt prm x i = false by unfold hpr; rw [h12]; rfl), tld_m1])), rfl⟩
          | exact ⟨congrArg (fun z => some (Value.int z)) ((if_pos h4).symm), rfl⟩
      · intro h16
        refine x_iload_n (pc := 19) d_R_value_19 2 rfl ?_
        refine x_aload_n (pc := 20) d_R_value_20 0 rfl ?_
        refine x_get (pc := 21) (ci := 4) d_R_value_21 in_R rfl 2 (by decide) k_R_17 0 rfl rfl ?_
        refine x_iload_n (pc := 24) d_R_value_24 1 rfl ?_
        refine x_ialdN (pc := 25) d_R_value_25 2 0 rfl rfl (by omega) (by omega) ?_
        refine x_icmp_lt (pc := 26) (tgt := 31) d_R_value_26 rfl ?_ ?_
        · intro h26
          have hpt : hpr cnt prm (nI lx) i = true := by rw [hpr_nI hc8 hlx]; exact decide_eq_true ⟨Int32.not_lt.mp h16, h26⟩
          obtain ⟨l2, ix, _, hix, e1, rfl⟩ := hpr_of hc8 hp4 hpt
          have e2 := nI_inj (by omega) (by omega) e1
          subst e2
          have hn64 := hm.1
          obtain rfl : n = en := hen.symm
          refine x_aload_n (pc := 31) d_R_value_31 0 rfl ?_
          refine x_iload_n (pc := 32) d_R_value_32 1 rfl ?_
          refine x_aload_n (pc := 33) d_R_value_33 0 rfl ?_
          refine x_get (pc := 34) (ci := 4) d_R_value_34 in_R rfl 7 (by decide) k_R_81 0 rfl rfl ?_
          refine x_callV_X (pc := 37) (ci := 4) d_R_value_37 k_R_87 wi_R_envOf wv_R_envOf w_R_envOf ini_R wd_R_envOf ⟨by decide, by decide⟩ ⟨rfl, rfl⟩ ⟨Nat.zero_le _, Nat.zero_le _⟩ 0 rfl rfl (t_R_envOfX hw hm hr (by omega) (Nat.le_refl _)) rfl rfl (Nat.le_of_ble_eq_true rfl) (fun v37 w37 hp37 => ?_)
          rcases hp37 with ⟨e, hmf, rfl, rfl⟩ | ⟨hmf, rfl, rfl⟩
          · have hsm := mf_some hm 8 n e (Nat.le_refl n) hmf
            have hvv := hm.2.2.2.2 e ix hsm.1 (by rw [hsm.2]; exact hix)
            have hev := hr.2.2.2 e ix hsm.1 (by rw [hsm.2]; exact hix)
            have hlt := vok_lt hn64 hvv
            have het := (enc_facts hn64 hvv).2.2.2.2.2.1
            refine x_istore_n (pc := 40) d_R_value_40 rfl (by decide) [(3, _), (0, _), (1, _), (2, _)] rfl ?_
            refine x_iload_n (pc := 41) d_R_value_41 0 rfl ?_
            refine x_if_geN (pc := 42) (tgt := 49) d_R_value_42 rfl (by omega) ?_
            · intro h42
              refine x_aload_n (pc := 49) d_R_value_49 1 rfl ?_
              refine x_get (pc := 50) (ci := 4) d_R_value_50 in_R rfl 13 (by decide) k_R_35 0 rfl rfl ?_
              refine x_iconst (pc := 53) (nI 3) d_R_value_53 (by decide) ?_
              refine x_iload_n (pc := 54) d_R_value_54 0 rfl ?_
              first | refine x_imulN (pc := 55) d_R_value_55 ?_ | refine x_imul (pc := 55) d_R_value_55 ?_
              refine x_iload_n (pc := 56) d_R_value_56 3 rfl ?_
              first | refine x_iaddN (pc := 57) d_R_value_57 ?_ | refine x_iadd (pc := 57) d_R_value_57 ?_
              refine x_ialdN (pc := 58) d_R_value_58 8 0 rfl rfl (by omega) (by omega) ?_
              rw [hev]
              refine x_callS_I (pc := 59) d_R_value_59 k_R_109 ws_R_told w_R_told ini_R wd_R_told ⟨by decide, by decide⟩ ⟨rfl, rfl⟩ ⟨Nat.zero_le _, Nat.zero_le _⟩ (t_R_told (by omega)) rfl rfl (Nat.le_of_ble_eq_true rfl) ?_
              refine x_iret (pc := 62) d_R_value_62 rfl ?_
              exact ⟨congrArg (fun z => some (Value.int z)) ((by rw [if_neg h4, bval_some hpt (by omega) (by omega) hmf, tld_nI (by omega), told_enc hn64 hvv])), rfl⟩
          · refine x_istore_n (pc := 40) d_R_value_40 rfl (by decide) [(3, _), (0, _), (1, _), (2, _)] rfl ?_
            refine x_iload_n (pc := 41) d_R_value_41 0 rfl ?_
            refine x_if_ge (pc := 42) (tgt := 49) d_R_value_42 rfl ?_ ?_
            · intro h42
              exact absurd h42 (by decide)
            · intro h42
              refine x_iconst (pc := 45) (-1) d_R_value_45 (by decide) ?_
              refine x_goto (pc := 46) (tgt := 62) d_R_value_46 rfl ?_
              refine x_iret (pc := 62) d_R_value_62 rfl ?_
              exact ⟨congrArg (fun z => some (Value.int z)) ((by rw [if_neg h4, bval_none hpt (by omega) (by omega) hmf, tld_m1])), rfl⟩
        · intro h26
          refine x_iconst (pc := 29) (-1) d_R_value_29 (by decide) ?_
          refine x_iret (pc := 30) d_R_value_30 rfl ?_
          first
            | exact ⟨congrArg (fun z => some (Value.int z)) ((by rw [if_neg h4, bval_no (show hpr cnt prm (nI lx) i = false by rw [hpr_nI hc8 hlx]; exact decide_eq_false (fun q => h26 q.2)), tld_m1])), rfl⟩
            | exact ⟨congrArg (fun z => some (Value.int z)) ((by rw [if_neg h4, bval_no (show hpr cnt prm (nI lx) i = false by rw [hpr_nI hc8 hlx]; exact decide_eq_false (fun q => Int32.not_lt.mpr q.1 h16)), tld_m1])), rfl⟩
            | exact ⟨congrArg (fun z => some (Value.int z)) ((by rw [if_neg h4, bval_no (show hpr cnt prm x i = false by unfold hpr; rw [h12]; rfl), tld_m1])), rfl⟩
            | exact ⟨congrArg (fun z => some (Value.int z)) ((if_pos h4).symm), rfl⟩
end REF5
