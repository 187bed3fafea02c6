section REF1
variable {l : Launch} {D : va_G} {ad : Nat → Nat} {cI cL : ClassId} {par : Nat → Int32} {prm siz atm : Nat → Nat} {cnt : Nat} {mo he en ap oc : Nat} {cal : Nat → Int32} {el : Nat → Nat} {eu : Nat → Int32} {ev ag : Nat → Nat} {an : Bool} {kk : Nat} {P : Nat → Int32} {Q : Nat → Int64} {S : Int64} {F : Nat → Int32} {R : Int32} {ch : Bool} {AP : Nat → Int32} {AQ : Nat → Int64}
set_option maxHeartbeats 4000000 in
set_option maxRecDepth 100000 in
theorem t_R_isLambda {x : Int32} : CT l y_R_isLambda c_R_isLambda 2 (some .boolean) (rmm 0 0) (gG D cI cL) [.ref (ad 0), .int x] (wR ad cI cL par prm siz atm cnt mo he en ap oc cal el eu ev ag an kk P Q S F R ch AP AQ) (pI (bI (hl cnt x)) (wR ad cI cL par prm siz atm cnt mo he en ap oc cal el eu ev ag an kk P Q S F R ch AP AQ)) := by
  refine CT.of R_R (by decide) rfl (Nat.le_of_ble_eq_true rfl) ?_
  intro E A hname
  refine x_iload_n (pc := 0) d_R_isLambda_0 1 rfl ?_
  refine x_if_lt (pc := 1) (tgt := 16) d_R_isLambda_1 rfl ?_ ?_
  · intro h1
    refine x_iconst (pc := 16) (nI 0) d_R_isLambda_16 (by decide) ?_
    refine x_zret (pc := 17) d_R_isLambda_17 rfl (by first | rfl | exact bI_narrow _) ?_
    unfold hl
    first | exact zt (by simp_all [← Int32.not_lt]) | exact zf (by simp_all [← Int32.not_lt])
  · intro h1
    refine x_iload_n (pc := 4) d_R_isLambda_4 1 rfl ?_
    refine x_aload_n (pc := 5) d_R_isLambda_5 0 rfl ?_
    refine x_get (pc := 6) (ci := 4) d_R_isLambda_6 in_R rfl 0 (by decide) k_R_7 0 rfl rfl ?_
    first | refine x_icmp_geN (pc := 9) (tgt := 16) d_R_isLambda_9 rfl (by omega) (by omega) ?_ ?_ | refine x_icmp_ge (pc := 9) (tgt := 16) d_R_isLambda_9 rfl ?_ ?_
    · intro h9
      refine x_iconst (pc := 16) (nI 0) d_R_isLambda_16 (by decide) ?_
      refine x_zret (pc := 17) d_R_isLambda_17 rfl (by first | rfl | exact bI_narrow _) ?_
      unfold hl
      first | exact zt (by simp_all [← Int32.not_lt]) | exact zf (by simp_all [← Int32.not_lt])
    · intro h9
      refine x_iconst (pc := 12) (nI 1) d_R_isLambda_12 (by decide) ?_
      refine x_goto (pc := 13) (tgt := 17) d_R_isLambda_13 rfl ?_
      refine x_zret (pc := 17) d_R_isLambda_17 rfl (by first | rfl | exact bI_narrow _) ?_
      unfold hl
      first | exact zt (by simp_all [← Int32.not_lt]) | exact zf (by simp_all [← Int32.not_lt])
set_option maxHeartbeats 4000000 in
set_option maxRecDepth 100000 in
theorem t_R_change  : CT l y_R_change c_R_change 1 none (rmm 0 0) (gG D cI cL) [.ref (ad 0)] (wR ad cI cL par prm siz atm cnt mo he en ap oc cal el eu ev ag an kk P Q S F R ch AP AQ) (pV (wR ad cI cL par prm siz atm cnt 0 he en ap oc cal el eu ev ag false kk P Q S F R ch AP AQ)) := by
  refine CT.of R_R (by decide) rfl (Nat.le_of_ble_eq_true rfl) ?_
  intro E A hname
  refine x_aload_n (pc := 0) d_R_change_0 0 rfl ?_
  refine x_iconst (pc := 1) (nI 0) d_R_change_1 (by decide) ?_
  refine x_put (pc := 2) (ci := 4) (ty := .int) d_R_change_2 in_R t_R ty_R nm_R rfl 5 (by decide) k_R_57 rfl (by decide +kernel) rfl rfl 0 rfl (Nat.le_of_ble_eq_true rfl) (_) (rfl) ?_
  refine x_aload_n (pc := 5) d_R_change_5 0 rfl ?_
  refine x_iconst (pc := 6) (nI 0) d_R_change_6 (by decide) ?_
  refine x_put (pc := 7) (ci := 4) (ty := .boolean) d_R_change_7 in_R t_R ty_R nm_R rfl 15 (by decide) k_R_60 rfl (by decide +kernel) rfl rfl 0 rfl (Nat.le_of_ble_eq_true rfl) (_) (rfl) ?_
  refine x_vret (pc := 10) d_R_change_10 rfl ?_
  exact ⟨rfl, rfl⟩
set_option maxHeartbeats 4000000 in
set_option maxRecDepth 100000 in
theorem t_R_lambda {x y : Int32} (hc : cnt ≤ 8) : CT l y_R_lambda c_R_lambda 3 (some .int) (rmm 1 21) (gG D cI cL) [.ref (ad 0), .int x, .int y] (wR ad cI cL par prm siz atm cnt mo he en ap oc cal el eu ev ag an kk P Q S F R ch AP AQ) (fun v w2 => (∃ p k, lamok cnt x y p k ∧ v = some (.int (nI cnt)) ∧ w2 = (wR ad cI cL (upd par cnt (nI p)) (un prm cnt k) (un siz cnt 0) atm (cnt + 1) 0 he en ap oc cal el eu ev ag false kk P Q S F R ch AP AQ)) ∨ ((¬ ∃ p k, lamok cnt x y p k) ∧ v = some (.int (-1)) ∧ w2 = (wR ad cI cL par prm siz atm cnt mo he en ap oc cal el eu ev ag an kk P Q S F R ch AP AQ))) := by
  refine CT.of R_R (by decide) rfl (Nat.le_of_ble_eq_true rfl) ?_
  intro E A hname
  refine x_aload_n (pc := 0) d_R_lambda_0 0 rfl ?_
  refine x_iload_n (pc := 1) d_R_lambda_1 1 rfl ?_
  refine x_callV_I (pc := 2) (ci := 4) d_R_lambda_2 k_R_64 wi_R_isLambda wv_R_isLambda w_R_isLambda ini_R wd_R_isLambda ⟨by decide, by decide⟩ ⟨rfl, rfl⟩ ⟨Nat.zero_le _, Nat.zero_le _⟩ 0 rfl rfl (t_R_isLambda) rfl rfl (Nat.le_of_ble_eq_true rfl) ?_
  first | refine x_if_eqB (pc := 5) (tgt := 26) d_R_lambda_5 rfl ?_ ?_ | refine x_if_eqL (pc := 5) (tgt := 26) d_R_lambda_5 rfl ?_ ?_ | refine x_if_eqN (pc := 5) (tgt := 26) d_R_lambda_5 rfl (by omega) ?_ ?_ | refine x_if_eq (pc := 5) (tgt := 26) d_R_lambda_5 rfl ?_ ?_
  · intro h5
    refine x_iconst (pc := 26) (-1) d_R_lambda_26 (by decide) ?_
    refine x_iret (pc := 27) d_R_lambda_27 rfl ?_
    refine Or.inr ⟨fun q => ?_, rfl, rfl⟩
    obtain ⟨p2, k2, q1, q2, q3, q4, q5⟩ := q
    first
      | (subst q4; rw [hl_in hc q2] at h5; cases h5)
      | (subst q5; exact absurd h9 (nI_pos (by omega)))
      | (subst q5; exact absurd h14 (nI_nlt (by omega) (by omega)))
      | omega
  · intro h5
    obtain ⟨p, hp, rfl⟩ := hl_of hc h5
    refine x_iload_n (pc := 8) d_R_lambda_8 2 rfl ?_
    refine x_if_lt (pc := 9) (tgt := 26) d_R_lambda_9 rfl ?_ ?_
    · intro h9
      refine x_iconst (pc := 26) (-1) d_R_lambda_26 (by decide) ?_
      refine x_iret (pc := 27) d_R_lambda_27 rfl ?_
      refine Or.inr ⟨fun q => ?_, rfl, rfl⟩
      obtain ⟨p2, k2, q1, q2, q3, q4, q5⟩ := q
      first
        | (subst q4; rw [hl_in hc q2] at h5; cases h5)
        | (subst q5; exact absurd h9 (nI_pos (by omega)))
        | (subst q5; exact absurd h14 (nI_nlt (by omega) (by omega)))
        | omega
    · intro h9
      refine x_iload_n (pc := 12) d_R_lambda_12 2 rfl ?_
      refine x_iconst (pc := 13) (nI 3) d_R_lambda_13 (by decide) ?_
      first | refine x_icmp_gtN (pc := 14) (tgt := 26) d_R_lambda_14 rfl (by omega) (by omega) ?_ ?_ | refine x_icmp_gt (pc := 14) (tgt := 26) d_R_lambda_14 rfl ?_ ?_
      · intro h14
        refine x_iconst (pc := 26) (-1) d_R_lambda_26 (by decide) ?_
        refine x_iret (pc := 27) d_R_lambda_27 rfl ?_
        refine Or.inr ⟨fun q => ?_, rfl, rfl⟩
        obtain ⟨p2, k2, q1, q2, q3, q4, q5⟩ := q
        first
          | (subst q4; rw [hl_in hc q2] at h5; cases h5)
          | (subst q5; exact absurd h9 (nI_pos (by omega)))
          | (subst q5; exact absurd h14 (nI_nlt (by omega) (by omega)))
          | omega
      · intro h14
        obtain ⟨k, hk, rfl⟩ := k3_of h9 h14
        refine x_aload_n (pc := 17) d_R_lambda_17 0 rfl ?_
        refine x_get (pc := 18) (ci := 4) d_R_lambda_18 in_R rfl 0 (by decide) k_R_7 0 rfl rfl ?_
        refine x_bipush (pc := 21) (nI 8) d_R_lambda_21 (by decide) ?_
        first | refine x_icmp_neN (pc := 23) (tgt := 28) d_R_lambda_23 rfl (by omega) (by omega) ?_ ?_ | refine x_icmp_ne (pc := 23) (tgt := 28) d_R_lambda_23 rfl ?_ ?_
        · intro h23
          refine x_aload_n (pc := 28) d_R_lambda_28 0 rfl ?_
          refine x_get (pc := 29) (ci := 4) d_R_lambda_29 in_R rfl 1 (by decide) k_R_13 0 rfl rfl ?_
          refine x_aload_n (pc := 32) d_R_lambda_32 0 rfl ?_
          refine x_get (pc := 33) (ci := 4) d_R_lambda_33 in_R rfl 0 (by decide) k_R_7 0 rfl rfl ?_
          refine x_iload_n (pc := 36) d_R_lambda_36 1 rfl ?_
          first | refine x_iastU (pc := 37) d_R_lambda_37 1 0 rfl rfl (by omega) (by omega) ?_ | refine x_iastN (pc := 37) d_R_lambda_37 1 0 rfl rfl (by omega) (by omega) _ rfl ?_
          refine x_aload_n (pc := 38) d_R_lambda_38 0 rfl ?_
          refine x_get (pc := 39) (ci := 4) d_R_lambda_39 in_R rfl 2 (by decide) k_R_17 0 rfl rfl ?_
          refine x_aload_n (pc := 42) d_R_lambda_42 0 rfl ?_
          refine x_get (pc := 43) (ci := 4) d_R_lambda_43 in_R rfl 0 (by decide) k_R_7 0 rfl rfl ?_
          refine x_iload_n (pc := 46) d_R_lambda_46 2 rfl ?_
          first | refine x_iastU (pc := 47) d_R_lambda_47 2 0 rfl rfl (by omega) (by omega) ?_ | refine x_iastN (pc := 47) d_R_lambda_47 2 0 rfl rfl (by omega) (by omega) _ rfl ?_
          refine x_aload_n (pc := 48) d_R_lambda_48 0 rfl ?_
          refine x_get (pc := 49) (ci := 4) d_R_lambda_49 in_R rfl 3 (by decide) k_R_20 0 rfl rfl ?_
          refine x_aload_n (pc := 52) d_R_lambda_52 0 rfl ?_
          refine x_get (pc := 53) (ci := 4) d_R_lambda_53 in_R rfl 0 (by decide) k_R_7 0 rfl rfl ?_
          refine x_iconst (pc := 56) (nI 0) d_R_lambda_56 (by decide) ?_
          first | refine x_iastU (pc := 57) d_R_lambda_57 3 0 rfl rfl (by omega) (by omega) ?_ | refine x_iastN (pc := 57) d_R_lambda_57 3 0 rfl rfl (by omega) (by omega) _ rfl ?_
          refine x_aload_n (pc := 58) d_R_lambda_58 0 rfl ?_
          refine x_dup (pc := 59) d_R_lambda_59 rfl ?_
          refine x_get (pc := 60) (ci := 4) d_R_lambda_60 in_R rfl 0 (by decide) k_R_7 0 rfl rfl ?_
          refine x_iconst (pc := 63) (nI 1) d_R_lambda_63 (by decide) ?_
          first | refine x_iaddN (pc := 64) d_R_lambda_64 ?_ | refine x_iadd (pc := 64) d_R_lambda_64 ?_
          refine x_put (pc := 65) (ci := 4) (ty := .int) d_R_lambda_65 in_R t_R ty_R nm_R rfl 0 (by decide) k_R_7 rfl (by decide +kernel) rfl rfl 0 rfl (Nat.le_of_ble_eq_true rfl) (_) (rfl) ?_
          refine x_aload_n (pc := 68) d_R_lambda_68 0 rfl ?_
          refine x_w (w2 := (wR ad cI cL (upd par cnt (nI p)) (un prm cnt k) (un siz cnt 0) atm (cnt + 1) mo he en ap oc cal el eu ev ag an kk P Q S F R ch AP AQ)) rfl ?_
          refine x_callV_Z (pc := 69) (ci := 4) d_R_lambda_69 k_R_68 wi_R_change wv_R_change w_R_change ini_R wd_R_change ⟨by decide, by decide⟩ ⟨rfl, rfl⟩ ⟨Nat.zero_le _, Nat.zero_le _⟩ 0 rfl rfl (t_R_change) rfl rfl (Nat.le_of_ble_eq_true rfl) ?_
          refine x_aload_n (pc := 72) d_R_lambda_72 0 rfl ?_
          refine x_get (pc := 73) (ci := 4) d_R_lambda_73 in_R rfl 0 (by decide) k_R_7 0 rfl rfl ?_
          refine x_iconst (pc := 76) (nI 1) d_R_lambda_76 (by decide) ?_
          first | refine x_isubN (pc := 77) d_R_lambda_77 (by omega) ?_ | refine x_isub (pc := 77) d_R_lambda_77 ?_
          refine x_iret (pc := 78) d_R_lambda_78 rfl ?_
          exact Or.inl ⟨p, k, ⟨by omega, hp, hk, rfl, rfl⟩, by rw [Nat.add_sub_cancel], rfl⟩
        · intro h23
          refine x_iconst (pc := 26) (-1) d_R_lambda_26 (by decide) ?_
          refine x_iret (pc := 27) d_R_lambda_27 rfl ?_
          refine Or.inr ⟨fun q => ?_, rfl, rfl⟩
          obtain ⟨p2, k2, q1, q2, q3, q4, q5⟩ := q
          first
            | (subst q4; rw [hl_in hc q2] at h5; cases h5)
            | (subst q5; exact absurd h9 (nI_pos (by omega)))
            | (subst q5; exact absurd h14 (nI_nlt (by omega) (by omega)))
            | omega
set_option maxHeartbeats 4000000 in
set_option maxRecDepth 100000 in
theorem t_R_around {a lx : Nat} (hp : parok cnt par) (hc8 : cnt ≤ 8) (hlx : lx < cnt) (ha : a < 8) : CT l y_R_around c_R_around 4 (some .boolean) (rmm 0 0) (gG D cI cL) [.ref (ad 0), .int (nI a), .int (nI lx)] (wR ad cI cL par prm siz atm cnt mo he en ap oc cal el eu ev ag an kk P Q S F R ch AP AQ) (pI (bI (ar par a lx)) (wR ad cI cL par prm siz atm cnt mo he en ap oc cal el eu ev ag an kk P Q S F R ch AP AQ)) := by
  refine CT.of R_R (by decide) rfl (Nat.le_of_ble_eq_true rfl) ?_
  intro E A hname
  refine x_iload_n (pc := 0) d_R_around_0 2 rfl ?_
  refine x_istore_n (pc := 1) d_R_around_1 rfl (by decide) [(3, _), (0, _), (1, _), (2, _)] rfl ?_
  have hlp : ∀ (fuel : Nat) (t : Nat), t < fuel → (t < cnt) → (aos par a lx ↔ aos par a t) → xj E l (rmm 0 0) c_R_around 4 (some .boolean) R_R (gG D cI cL) A 0 0 (pI (bI (ar par a lx)) (wR ad cI cL par prm siz atm cnt mo he en ap oc cal el eu ev ag an kk P Q S F R ch AP AQ)) 0 0 (wR ad cI cL par prm siz atm cnt mo he en ap oc cal el eu ev ag an kk P Q S F R ch AP AQ) 2 [(3, .int (nI t)), (0, .ref (ad 0)), (1, .int (nI a)), (2, .int (nI lx))] [] := by
    intro fuel
    induction fuel with
    | zero => intro t hf; exact absurd hf (Nat.not_lt_zero _)
    | succ fuel ih =>
      intro t hf ht hq
      refine x_iload_n (pc := 2) d_R_around_2 0 rfl ?_
      refine x_iload_n (pc := 3) d_R_around_3 2 rfl ?_
      first | refine x_icmp_leN (pc := 4) (tgt := 17) d_R_around_4 rfl (by omega) (by omega) ?_ ?_ | refine x_icmp_le (pc := 4) (tgt := 17) d_R_around_4 rfl ?_ ?_
      · intro h4
        refine x_iload_n (pc := 17) d_R_around_17 0 rfl ?_
        refine x_iload_n (pc := 18) d_R_around_18 2 rfl ?_
        first | refine x_icmp_neN (pc := 19) (tgt := 26) d_R_around_19 rfl (by omega) (by omega) ?_ ?_ | refine x_icmp_ne (pc := 19) (tgt := 26) d_R_around_19 rfl ?_ ?_
        · intro h19
          refine x_iconst (pc := 26) (nI 0) d_R_around_26 (by decide) ?_
          refine x_zret (pc := 27) d_R_around_27 rfl (by first | rfl | exact bI_narrow _) ?_
          first | exact zt (ar_t (hq.mpr (by rw [h19]; exact aos.self par a))) | exact zf (ar_f (fun z => by have := aos.le hp hc8 t a ht (hq.mp z); omega))
        · intro h19
          refine x_iconst (pc := 22) (nI 1) d_R_around_22 (by decide) ?_
          refine x_goto (pc := 23) (tgt := 27) d_R_around_23 rfl ?_
          refine x_zret (pc := 27) d_R_around_27 rfl (by first | rfl | exact bI_narrow _) ?_
          first | exact zt (ar_t (hq.mpr (by rw [h19]; exact aos.self par a))) | exact zf (ar_f (fun z => by have := aos.le hp hc8 t a ht (hq.mp z); omega))
      · intro h4
        refine x_aload_n (pc := 7) d_R_around_7 1 rfl ?_
        refine x_get (pc := 8) (ci := 4) d_R_around_8 in_R rfl 1 (by decide) k_R_13 0 rfl rfl ?_
        refine x_iload_n (pc := 11) d_R_around_11 0 rfl ?_
        refine x_ialdN (pc := 12) d_R_around_12 1 0 rfl rfl (by omega) (by omega) ?_
        have hpt := pa_lt hp hc8 (by omega) ht
        refine x_ti hpt.2 ?_
        refine x_istore_n (pc := 13) d_R_around_13 rfl (by decide) [(3, _), (0, _), (1, _), (2, _)] rfl ?_
        refine x_goto (pc := 14) (tgt := 2) d_R_around_14 rfl ?_
        refine x_sub [0, 1, 2, 3] _ rfl ?_
        exact ih (pa par t) (by omega) (by omega) (aos_one (cnt := cnt) hq h4)
  refine x_sub [0, 1, 2, 3] _ rfl ?_
  exact hlp (lx + 1) lx (by omega) hlx Iff.rfl
set_option maxHeartbeats 4000000 in
set_option maxRecDepth 100000 in
theorem t_R_mayStand {lx : Nat} {x : Int32} (hw : pwf cnt par prm siz atm) (hlx : lx < cnt) : CT l y_R_mayStand c_R_mayStand 4 (some .boolean) (rmm 1 23) (gG D cI cL) [.ref (ad 0), .int (nI lx), .int x] (wR ad cI cL par prm siz atm cnt mo he en ap oc cal el eu ev ag an kk P Q S F R ch AP AQ) (pI (bI (mst cnt par prm lx x)) (wR ad cI cL par prm siz atm cnt mo he en ap oc cal el eu ev ag an kk P Q S F R ch AP AQ)) := by
  refine CT.of R_R (by decide) rfl (Nat.le_of_ble_eq_true rfl) ?_
  intro E A hname
  have hc8 : cnt ≤ 8 := hw.2.1
  have hp0 : par 0 = -1 := hw.2.2.1.1
  refine x_iload_n (pc := 0) d_R_mayStand_0 2 rfl ?_
  refine x_if_lt (pc := 1) (tgt := 10) d_R_mayStand_1 rfl ?_ ?_
  · intro h1
    refine x_iload_n (pc := 10) d_R_mayStand_10 2 rfl ?_
    refine x_sipush (pc := 11) (nI 300) d_R_mayStand_11 (by decide) ?_
    refine x_icmp_lt (pc := 14) (tgt := 26) d_R_mayStand_14 rfl ?_ ?_
    · intro h14
      refine x_iload_n (pc := 26) d_R_mayStand_26 2 rfl ?_
      refine x_sipush (pc := 27) (nI 200) d_R_mayStand_27 (by decide) ?_
      refine x_icmp_lt (pc := 30) (tgt := 74) d_R_mayStand_30 rfl ?_ ?_
      · intro h30
        refine x_iload_n (pc := 74) d_R_mayStand_74 2 rfl ?_
        refine x_bipush (pc := 75) (nI 100) d_R_mayStand_75 (by decide) ?_
        refine x_icmp_lt (pc := 77) (tgt := 87) d_R_mayStand_77 rfl ?_ ?_
        · intro h77
          refine x_iconst (pc := 87) (nI 0) d_R_mayStand_87 (by decide) ?_
          refine x_zret (pc := 88) d_R_mayStand_88 rfl (by first | rfl | exact bI_narrow _) ?_
          refine zf (mst_f (fun z => ?_))
          obtain ⟨b, hb, e, h⟩ := z
          subst e
          try rw [nI_ltI (by omega) (by omega)] at h14
          try rw [nI_ltI (by omega) (by omega)] at h21
          try rw [nI_ltI (by omega) (by omega)] at h30
          try rw [nI_leI (by omega) (by omega)] at h37
          try rw [nI_ltI (by omega) (by omega)] at h77
          try rw [nI_leI (by omega) (by omega)] at h84
          try rw [nI_leI (by omega) (by omega)] at h7
          have h0 := nI_pos (n := b) (by omega)
          first | exact h0 h1 | (rcases h with q | q | q | q <;> omega)
        · intro h77
          refine x_iload_n (pc := 80) d_R_mayStand_80 2 rfl ?_
          refine x_sipush (pc := 81) (nI 179) d_R_mayStand_81 (by decide) ?_
          refine x_icmp_le (pc := 84) (tgt := 89) d_R_mayStand_84 rfl ?_ ?_
          · intro h84
            obtain ⟨b, hb1, hb2, rfl⟩ := le_of (x := x) (a := 100) (b := 179) (by decide) (decide_eq_true ⟨Int32.not_lt.mp h77, h84⟩) (by decide)
            refine x_iload_n (pc := 89) d_R_mayStand_89 2 rfl ?_
            refine x_bipush (pc := 90) (nI 100) d_R_mayStand_90 (by decide) ?_
            first | refine x_isubN (pc := 92) d_R_mayStand_92 (by omega) ?_ | refine x_isub (pc := 92) d_R_mayStand_92 ?_
            refine x_bipush (pc := 93) (nI 10) d_R_mayStand_93 (by decide) ?_
            first | refine x_idivN (pc := 95) d_R_mayStand_95 (by omega) (by omega) (by omega) ?_ | refine x_idiv (pc := 95) d_R_mayStand_95 (by decide) ?_
            refine x_istore_n (pc := 96) d_R_mayStand_96 rfl (by decide) [(3, _), (0, _), (1, _), (2, _)] rfl ?_
            refine x_aload_n (pc := 97) d_R_mayStand_97 1 rfl ?_
            refine x_iload_n (pc := 98) d_R_mayStand_98 0 rfl ?_
            refine x_callV_I (pc := 99) (ci := 4) d_R_mayStand_99 k_R_64 wi_R_isLambda wv_R_isLambda w_R_isLambda ini_R wd_R_isLambda ⟨by decide, by decide⟩ ⟨rfl, rfl⟩ ⟨Nat.zero_le _, Nat.zero_le _⟩ 0 rfl rfl (t_R_isLambda) rfl rfl (Nat.le_of_ble_eq_true rfl) ?_
            rw [hl_nI hc8 (by omega)]
            first | refine x_if_eqB (pc := 102) (tgt := 131) d_R_mayStand_102 rfl ?_ ?_ | refine x_if_eqL (pc := 102) (tgt := 131) d_R_mayStand_102 rfl ?_ ?_ | refine x_if_eqN (pc := 102) (tgt := 131) d_R_mayStand_102 rfl (by omega) ?_ ?_ | refine x_if_eq (pc := 102) (tgt := 131) d_R_mayStand_102 rfl ?_ ?_
            · intro h102
              have g102 := of_decide_eq_false h102
              refine x_iconst (pc := 131) (nI 0) d_R_mayStand_131 (by decide) ?_
              refine x_zret (pc := 132) d_R_mayStand_132 rfl (by first | rfl | exact bI_narrow _) ?_
              first
                | exact zt (mst_t ((mso_par hb1 (by omega)).mpr ⟨g102, by omega, ar_of h124⟩))
                | exact zf (mst_f (fun z => g102 ((mso_par hb1 (by omega)).mp z).1))
                | exact zf (mst_f (fun z => ar_no h124 ((mso_par hb1 (by omega)).mp z).2.2))
                | exact zf (mst_f (fun z => by
                    have q := ((mso_par hb1 (by omega)).mp z).2.1
                    omega))
            · intro h102
              have g102 := of_decide_eq_true h102
              have hpb := hw.2.2.2.1 ((b - 100) / 10) (by omega)
              refine x_iload_n (pc := 105) d_R_mayStand_105 3 rfl ?_
              refine x_bipush (pc := 106) (nI 10) d_R_mayStand_106 (by decide) ?_
              first | refine x_iremN (pc := 108) d_R_mayStand_108 (by omega) (by omega) (by omega) ?_ | refine x_irem (pc := 108) d_R_mayStand_108 (by decide) ?_
              refine x_aload_n (pc := 109) d_R_mayStand_109 1 rfl ?_
              refine x_get (pc := 110) (ci := 4) d_R_mayStand_110 in_R rfl 2 (by decide) k_R_17 0 rfl rfl ?_
              refine x_iload_n (pc := 113) d_R_mayStand_113 0 rfl ?_
              refine x_ialdN (pc := 114) d_R_mayStand_114 2 0 rfl rfl (by omega) (by omega) ?_
              first | refine x_icmp_geN (pc := 115) (tgt := 131) d_R_mayStand_115 rfl (by omega) (by omega) ?_ ?_ | refine x_icmp_ge (pc := 115) (tgt := 131) d_R_mayStand_115 rfl ?_ ?_
              · intro h115
                refine x_iconst (pc := 131) (nI 0) d_R_mayStand_131 (by decide) ?_
                refine x_zret (pc := 132) d_R_mayStand_132 rfl (by first | rfl | exact bI_narrow _) ?_
                first
                  | exact zt (mst_t ((mso_par hb1 (by omega)).mpr ⟨g102, by omega, ar_of h124⟩))
                  | exact zf (mst_f (fun z => g102 ((mso_par hb1 (by omega)).mp z).1))
                  | exact zf (mst_f (fun z => ar_no h124 ((mso_par hb1 (by omega)).mp z).2.2))
                  | exact zf (mst_f (fun z => by
                      have q := ((mso_par hb1 (by omega)).mp z).2.1
                      omega))
              · intro h115
                refine x_aload_n (pc := 118) d_R_mayStand_118 1 rfl ?_
                refine x_iload_n (pc := 119) d_R_mayStand_119 0 rfl ?_
                refine x_iload_n (pc := 120) d_R_mayStand_120 2 rfl ?_
                refine x_callV_I (pc := 121) (ci := 4) d_R_mayStand_121 k_R_71 wi_R_around wv_R_around w_R_around ini_R wd_R_around ⟨by decide, by decide⟩ ⟨rfl, rfl⟩ ⟨Nat.zero_le _, Nat.zero_le _⟩ 0 rfl rfl (t_R_around hw.2.2.1 hc8 hlx (by omega)) rfl rfl (Nat.le_of_ble_eq_true rfl) ?_
                first | refine x_if_eqB (pc := 124) (tgt := 131) d_R_mayStand_124 rfl ?_ ?_ | refine x_if_eqL (pc := 124) (tgt := 131) d_R_mayStand_124 rfl ?_ ?_ | refine x_if_eqN (pc := 124) (tgt := 131) d_R_mayStand_124 rfl (by omega) ?_ ?_ | refine x_if_eq (pc := 124) (tgt := 131) d_R_mayStand_124 rfl ?_ ?_
                · intro h124
                  refine x_iconst (pc := 131) (nI 0) d_R_mayStand_131 (by decide) ?_
                  refine x_zret (pc := 132) d_R_mayStand_132 rfl (by first | rfl | exact bI_narrow _) ?_
                  first
                    | exact zt (mst_t ((mso_par hb1 (by omega)).mpr ⟨g102, by omega, ar_of h124⟩))
                    | exact zf (mst_f (fun z => g102 ((mso_par hb1 (by omega)).mp z).1))
                    | exact zf (mst_f (fun z => ar_no h124 ((mso_par hb1 (by omega)).mp z).2.2))
                    | exact zf (mst_f (fun z => by
                        have q := ((mso_par hb1 (by omega)).mp z).2.1
                        omega))
                · intro h124
                  refine x_iconst (pc := 127) (nI 1) d_R_mayStand_127 (by decide) ?_
                  refine x_goto (pc := 128) (tgt := 132) d_R_mayStand_128 rfl ?_
                  refine x_zret (pc := 132) d_R_mayStand_132 rfl (by first | rfl | exact bI_narrow _) ?_
                  first
                    | exact zt (mst_t ((mso_par hb1 (by omega)).mpr ⟨g102, by omega, ar_of h124⟩))
                    | exact zf (mst_f (fun z => g102 ((mso_par hb1 (by omega)).mp z).1))
                    | exact zf (mst_f (fun z => ar_no h124 ((mso_par hb1 (by omega)).mp z).2.2))
                    | exact zf (mst_f (fun z => by
                        have q := ((mso_par hb1 (by omega)).mp z).2.1
                        omega))
          · intro h84
            refine x_iconst (pc := 87) (nI 0) d_R_mayStand_87 (by decide) ?_
            refine x_zret (pc := 88) d_R_mayStand_88 rfl (by first | rfl | exact bI_narrow _) ?_
            refine zf (mst_f (fun z => ?_))
            obtain ⟨b, hb, e, h⟩ := z
            subst e
            try rw [nI_ltI (by omega) (by omega)] at h14
            try rw [nI_ltI (by omega) (by omega)] at h21
            try rw [nI_ltI (by omega) (by omega)] at h30
            try rw [nI_leI (by omega) (by omega)] at h37
            try rw [nI_ltI (by omega) (by omega)] at h77
            try rw [nI_leI (by omega) (by omega)] at h84
            try rw [nI_leI (by omega) (by omega)] at h7
            have h0 := nI_pos (n := b) (by omega)
            first | exact h0 h1 | (rcases h with q | q | q | q <;> omega)
      · intro h30
        refine x_iload_n (pc := 33) d_R_mayStand_33 2 rfl ?_
        refine x_sipush (pc := 34) (nI 208) d_R_mayStand_34 (by decide) ?_
        refine x_icmp_ge (pc := 37) (tgt := 74) d_R_mayStand_37 rfl ?_ ?_
        · intro h37
          refine x_iload_n (pc := 74) d_R_mayStand_74 2 rfl ?_
          refine x_bipush (pc := 75) (nI 100) d_R_mayStand_75 (by decide) ?_
          refine x_icmp_lt (pc := 77) (tgt := 87) d_R_mayStand_77 rfl ?_ ?_
          · intro h77
            refine x_iconst (pc := 87) (nI 0) d_R_mayStand_87 (by decide) ?_
            refine x_zret (pc := 88) d_R_mayStand_88 rfl (by first | rfl | exact bI_narrow _) ?_
            refine zf (mst_f (fun z => ?_))
            obtain ⟨b, hb, e, h⟩ := z
            subst e
            try rw [nI_ltI (by omega) (by omega)] at h14
            try rw [nI_ltI (by omega) (by omega)] at h21
            try rw [nI_ltI (by omega) (by omega)] at h30
            try rw [nI_leI (by omega) (by omega)] at h37
            try rw [nI_ltI (by omega) (by omega)] at h77
            try rw [nI_leI (by omega) (by omega)] at h84
            try rw [nI_leI (by omega) (by omega)] at h7
            have h0 := nI_pos (n := b) (by omega)
            first | exact h0 h1 | (rcases h with q | q | q | q <;> omega)
          · intro h77
            refine x_iload_n (pc := 80) d_R_mayStand_80 2 rfl ?_
            refine x_sipush (pc := 81) (nI 179) d_R_mayStand_81 (by decide) ?_
            refine x_icmp_le (pc := 84) (tgt := 89) d_R_mayStand_84 rfl ?_ ?_
            · intro h84
              obtain ⟨b, hb1, hb2, rfl⟩ := le_of (x := x) (a := 100) (b := 179) (by decide) (decide_eq_true ⟨Int32.not_lt.mp h77, h84⟩) (by decide)
              refine x_iload_n (pc := 89) d_R_mayStand_89 2 rfl ?_
              refine x_bipush (pc := 90) (nI 100) d_R_mayStand_90 (by decide) ?_
              first | refine x_isubN (pc := 92) d_R_mayStand_92 (by omega) ?_ | refine x_isub (pc := 92) d_R_mayStand_92 ?_
              refine x_bipush (pc := 93) (nI 10) d_R_mayStand_93 (by decide) ?_
              first | refine x_idivN (pc := 95) d_R_mayStand_95 (by omega) (by omega) (by omega) ?_ | refine x_idiv (pc := 95) d_R_mayStand_95 (by decide) ?_
              refine x_istore_n (pc := 96) d_R_mayStand_96 rfl (by decide) [(3, _), (0, _), (1, _), (2, _)] rfl ?_
              refine x_aload_n (pc := 97) d_R_mayStand_97 1 rfl ?_
              refine x_iload_n (pc := 98) d_R_mayStand_98 0 rfl ?_
              refine x_callV_I (pc := 99) (ci := 4) d_R_mayStand_99 k_R_64 wi_R_isLambda wv_R_isLambda w_R_isLambda ini_R wd_R_isLambda ⟨by decide, by decide⟩ ⟨rfl, rfl⟩ ⟨Nat.zero_le _, Nat.zero_le _⟩ 0 rfl rfl (t_R_isLambda) rfl rfl (Nat.le_of_ble_eq_true rfl) ?_
              rw [hl_nI hc8 (by omega)]
              first | refine x_if_eqB (pc := 102) (tgt := 131) d_R_mayStand_102 rfl ?_ ?_ | refine x_if_eqL (pc := 102) (tgt := 131) d_R_mayStand_102 rfl ?_ ?_ | refine x_if_eqN (pc := 102) (tgt := 131) d_R_mayStand_102 rfl (by omega) ?_ ?_ | refine x_if_eq (pc := 102) (tgt := 131) d_R_mayStand_102 rfl ?_ ?_
              · intro h102
                have g102 := of_decide_eq_false h102
                refine x_iconst (pc := 131) (nI 0) d_R_mayStand_131 (by decide) ?_
                refine x_zret (pc := 132) d_R_mayStand_132 rfl (by first | rfl | exact bI_narrow _) ?_
                first
                  | exact zt (mst_t ((mso_par hb1 (by omega)).mpr ⟨g102, by omega, ar_of h124⟩))
                  | exact zf (mst_f (fun z => g102 ((mso_par hb1 (by omega)).mp z).1))
                  | exact zf (mst_f (fun z => ar_no h124 ((mso_par hb1 (by omega)).mp z).2.2))
                  | exact zf (mst_f (fun z => by
                      have q := ((mso_par hb1 (by omega)).mp z).2.1
                      omega))
              · intro h102
                have g102 := of_decide_eq_true h102
                have hpb := hw.2.2.2.1 ((b - 100) / 10) (by omega)
                refine x_iload_n (pc := 105) d_R_mayStand_105 3 rfl ?_
                refine x_bipush (pc := 106) (nI 10) d_R_mayStand_106 (by decide) ?_
                first | refine x_iremN (pc := 108) d_R_mayStand_108 (by omega) (by omega) (by omega) ?_ | refine x_irem (pc := 108) d_R_mayStand_108 (by decide) ?_
                refine x_aload_n (pc := 109) d_R_mayStand_109 1 rfl ?_
                refine x_get (pc := 110) (ci := 4) d_R_mayStand_110 in_R rfl 2 (by decide) k_R_17 0 rfl rfl ?_
                refine x_iload_n (pc := 113) d_R_mayStand_113 0 rfl ?_
                refine x_ialdN (pc := 114) d_R_mayStand_114 2 0 rfl rfl (by omega) (by omega) ?_
                first | refine x_icmp_geN (pc := 115) (tgt := 131) d_R_mayStand_115 rfl (by omega) (by omega) ?_ ?_ | refine x_icmp_ge (pc := 115) (tgt := 131) d_R_mayStand_115 rfl ?_ ?_
                · intro h115
                  refine x_iconst (pc := 131) (nI 0) d_R_mayStand_131 (by decide) ?_
                  refine x_zret (pc := 132) d_R_mayStand_132 rfl (by first | rfl | exact bI_narrow _) ?_
                  first
                    | exact zt (mst_t ((mso_par hb1 (by omega)).mpr ⟨g102, by omega, ar_of h124⟩))
                    | exact zf (mst_f (fun z => g102 ((mso_par hb1 (by omega)).mp z).1))
                    | exact zf (mst_f (fun z => ar_no h124 ((mso_par hb1 (by omega)).mp z).2.2))
                    | exact zf (mst_f (fun z => by
                        have q := ((mso_par hb1 (by omega)).mp z).2.1
                        omega))
                · intro h115
                  refine x_aload_n (pc := 118) d_R_mayStand_118 1 rfl ?_
                  refine x_iload_n (pc := 119) d_R_mayStand_119 0 rfl ?_
                  refine x_iload_n (pc := 120) d_R_mayStand_120 2 rfl ?_
                  refine x_callV_I (pc := 121) (ci := 4) d_R_mayStand_121 k_R_71 wi_R_around wv_R_around w_R_around ini_R wd_R_around ⟨by decide, by decide⟩ ⟨rfl, rfl⟩ ⟨Nat.zero_le _, Nat.zero_le _⟩ 0 rfl rfl (t_R_around hw.2.2.1 hc8 hlx (by omega)) rfl rfl (Nat.le_of_ble_eq_true rfl) ?_
                  first | refine x_if_eqB (pc := 124) (tgt := 131) d_R_mayStand_124 rfl ?_ ?_ | refine x_if_eqL (pc := 124) (tgt := 131) d_R_mayStand_124 rfl ?_ ?_ | refine x_if_eqN (pc := 124) (tgt := 131) d_R_mayStand_124 rfl (by omega) ?_ ?_ | refine x_if_eq (pc := 124) (tgt := 131) d_R_mayStand_124 rfl ?_ ?_
                  · intro h124
                    refine x_iconst (pc := 131) (nI 0) d_R_mayStand_131 (by decide) ?_
                    refine x_zret (pc := 132) d_R_mayStand_132 rfl (by first | rfl | exact bI_narrow _) ?_
                    first
                      | exact zt (mst_t ((mso_par hb1 (by omega)).mpr ⟨g102, by omega, ar_of h124⟩))
                      | exact zf (mst_f (fun z => g102 ((mso_par hb1 (by omega)).mp z).1))
                      | exact zf (mst_f (fun z => ar_no h124 ((mso_par hb1 (by omega)).mp z).2.2))
                      | exact zf (mst_f (fun z => by
                          have q := ((mso_par hb1 (by omega)).mp z).2.1
                          omega))
                  · intro h124
                    refine x_iconst (pc := 127) (nI 1) d_R_mayStand_127 (by decide) ?_
                    refine x_goto (pc := 128) (tgt := 132) d_R_mayStand_128 rfl ?_
                    refine x_zret (pc := 132) d_R_mayStand_132 rfl (by first | rfl | exact bI_narrow _) ?_
                    first
                      | exact zt (mst_t ((mso_par hb1 (by omega)).mpr ⟨g102, by omega, ar_of h124⟩))
                      | exact zf (mst_f (fun z => g102 ((mso_par hb1 (by omega)).mp z).1))
                      | exact zf (mst_f (fun z => ar_no h124 ((mso_par hb1 (by omega)).mp z).2.2))
                      | exact zf (mst_f (fun z => by
                          have q := ((mso_par hb1 (by omega)).mp z).2.1
                          omega))
            · intro h84
              refine x_iconst (pc := 87) (nI 0) d_R_mayStand_87 (by decide) ?_
              refine x_zret (pc := 88) d_R_mayStand_88 rfl (by first | rfl | exact bI_narrow _) ?_
              refine zf (mst_f (fun z => ?_))
              obtain ⟨b, hb, e, h⟩ := z
              subst e
              try rw [nI_ltI (by omega) (by omega)] at h14
              try rw [nI_ltI (by omega) (by omega)] at h21
              try rw [nI_ltI (by omega) (by omega)] at h30
              try rw [nI_leI (by omega) (by omega)] at h37
              try rw [nI_ltI (by omega) (by omega)] at h77
              try rw [nI_leI (by omega) (by omega)] at h84
              try rw [nI_leI (by omega) (by omega)] at h7
              have h0 := nI_pos (n := b) (by omega)
              first | exact h0 h1 | (rcases h with q | q | q | q <;> omega)
        · intro h37
          obtain ⟨b, hb1, hb2, rfl⟩ := lo_of (x := x) (a := 200) (b := 208) (by decide) (decide_eq_true ⟨Int32.not_lt.mp h30, Int32.not_le.mp h37⟩) (by decide)
          refine x_iload_n (pc := 40) d_R_mayStand_40 2 rfl ?_
          refine x_sipush (pc := 41) (nI 200) d_R_mayStand_41 (by decide) ?_
          first | refine x_isubN (pc := 44) d_R_mayStand_44 (by omega) ?_ | refine x_isub (pc := 44) d_R_mayStand_44 ?_
          refine x_istore_n (pc := 45) d_R_mayStand_45 rfl (by decide) [(3, _), (0, _), (1, _), (2, _)] rfl ?_
          refine x_iload_n (pc := 46) d_R_mayStand_46 0 rfl ?_
          first | refine x_if_leN (pc := 47) (tgt := 72) d_R_mayStand_47 rfl (by omega) ?_ ?_ | refine x_if_le (pc := 47) (tgt := 72) d_R_mayStand_47 rfl ?_ ?_
          · intro h47
            refine x_iconst (pc := 72) (nI 0) d_R_mayStand_72 (by decide) ?_
            refine x_zret (pc := 73) d_R_mayStand_73 rfl (by first | rfl | exact bI_narrow _) ?_
            first
              | exact zt (mst_t ((mso_lam hp0 (by omega) hb1 hb2).mpr ⟨g55, h65⟩))
              | exact zf (mst_f (fun z => h65 ((mso_lam hp0 (by omega) hb1 hb2).mp z).2))
              | exact zf (mst_f (fun z => g55 ((mso_lam hp0 (by omega) hb1 hb2).mp z).1))
              | exact zf (mst_f (fun z => by
                  have q := ((mso_lam hp0 (by omega) hb1 hb2).mp z).2
                  rw [h47, hp0] at q
                  exact m1_ne (by omega) q))
          · intro h47
            refine x_aload_n (pc := 50) d_R_mayStand_50 1 rfl ?_
            refine x_iload_n (pc := 51) d_R_mayStand_51 0 rfl ?_
            refine x_callV_I (pc := 52) (ci := 4) d_R_mayStand_52 k_R_64 wi_R_isLambda wv_R_isLambda w_R_isLambda ini_R wd_R_isLambda ⟨by decide, by decide⟩ ⟨rfl, rfl⟩ ⟨Nat.zero_le _, Nat.zero_le _⟩ 0 rfl rfl (t_R_isLambda) rfl rfl (Nat.le_of_ble_eq_true rfl) ?_
            rw [hl_nI hc8 (by omega)]
            first | refine x_if_eqB (pc := 55) (tgt := 72) d_R_mayStand_55 rfl ?_ ?_ | refine x_if_eqL (pc := 55) (tgt := 72) d_R_mayStand_55 rfl ?_ ?_ | refine x_if_eqN (pc := 55) (tgt := 72) d_R_mayStand_55 rfl (by omega) ?_ ?_ | refine x_if_eq (pc := 55) (tgt := 72) d_R_mayStand_55 rfl ?_ ?_
            · intro h55
              have g55 := of_decide_eq_false h55
              refine x_iconst (pc := 72) (nI 0) d_R_mayStand_72 (by decide) ?_
              refine x_zret (pc := 73) d_R_mayStand_73 rfl (by first | rfl | exact bI_narrow _) ?_
              first
                | exact zt (mst_t ((mso_lam hp0 (by omega) hb1 hb2).mpr ⟨g55, h65⟩))
                | exact zf (mst_f (fun z => h65 ((mso_lam hp0 (by omega) hb1 hb2).mp z).2))
                | exact zf (mst_f (fun z => g55 ((mso_lam hp0 (by omega) hb1 hb2).mp z).1))
                | exact zf (mst_f (fun z => by
                    have q := ((mso_lam hp0 (by omega) hb1 hb2).mp z).2
                    rw [h47, hp0] at q
                    exact m1_ne (by omega) q))
            · intro h55
              have g55 := of_decide_eq_true h55
              refine x_aload_n (pc := 58) d_R_mayStand_58 1 rfl ?_
              refine x_get (pc := 59) (ci := 4) d_R_mayStand_59 in_R rfl 1 (by decide) k_R_13 0 rfl rfl ?_
              refine x_iload_n (pc := 62) d_R_mayStand_62 0 rfl ?_
              refine x_ialdN (pc := 63) d_R_mayStand_63 1 0 rfl rfl (by omega) (by omega) ?_
              refine x_iload_n (pc := 64) d_R_mayStand_64 2 rfl ?_
              refine x_icmp_ne (pc := 65) (tgt := 72) d_R_mayStand_65 rfl ?_ ?_
              · intro h65
                refine x_iconst (pc := 72) (nI 0) d_R_mayStand_72 (by decide) ?_
                refine x_zret (pc := 73) d_R_mayStand_73 rfl (by first | rfl | exact bI_narrow _) ?_
                first
                  | exact zt (mst_t ((mso_lam hp0 (by omega) hb1 hb2).mpr ⟨g55, h65⟩))
                  | exact zf (mst_f (fun z => h65 ((mso_lam hp0 (by omega) hb1 hb2).mp z).2))
                  | exact zf (mst_f (fun z => g55 ((mso_lam hp0 (by omega) hb1 hb2).mp z).1))
                  | exact zf (mst_f (fun z => by
                      have q := ((mso_lam hp0 (by omega) hb1 hb2).mp z).2
                      rw [h47, hp0] at q
                      exact m1_ne (by omega) q))
              · intro h65
                refine x_iconst (pc := 68) (nI 1) d_R_mayStand_68 (by decide) ?_
                refine x_goto (pc := 69) (tgt := 73) d_R_mayStand_69 rfl ?_
                refine x_zret (pc := 73) d_R_mayStand_73 rfl (by first | rfl | exact bI_narrow _) ?_
                first
                  | exact zt (mst_t ((mso_lam hp0 (by omega) hb1 hb2).mpr ⟨g55, h65⟩))
                  | exact zf (mst_f (fun z => h65 ((mso_lam hp0 (by omega) hb1 hb2).mp z).2))
                  | exact zf (mst_f (fun z => g55 ((mso_lam hp0 (by omega) hb1 hb2).mp z).1))
                  | exact zf (mst_f (fun z => by
                      have q := ((mso_lam hp0 (by omega) hb1 hb2).mp z).2
                      rw [h47, hp0] at q
                      exact m1_ne (by omega) q))
    · intro h14
      refine x_iload_n (pc := 17) d_R_mayStand_17 2 rfl ?_
      refine x_sipush (pc := 18) (nI 302) d_R_mayStand_18 (by decide) ?_
      refine x_icmp_gt (pc := 21) (tgt := 26) d_R_mayStand_21 rfl ?_ ?_
      · intro h21
        refine x_iload_n (pc := 26) d_R_mayStand_26 2 rfl ?_
        refine x_sipush (pc := 27) (nI 200) d_R_mayStand_27 (by decide) ?_
        refine x_icmp_lt (pc := 30) (tgt := 74) d_R_mayStand_30 rfl ?_ ?_
        · intro h30
          refine x_iload_n (pc := 74) d_R_mayStand_74 2 rfl ?_
          refine x_bipush (pc := 75) (nI 100) d_R_mayStand_75 (by decide) ?_
          refine x_icmp_lt (pc := 77) (tgt := 87) d_R_mayStand_77 rfl ?_ ?_
          · intro h77
            refine x_iconst (pc := 87) (nI 0) d_R_mayStand_87 (by decide) ?_
            refine x_zret (pc := 88) d_R_mayStand_88 rfl (by first | rfl | exact bI_narrow _) ?_
            refine zf (mst_f (fun z => ?_))
            obtain ⟨b, hb, e, h⟩ := z
            subst e
            try rw [nI_ltI (by omega) (by omega)] at h14
            try rw [nI_ltI (by omega) (by omega)] at h21
            try rw [nI_ltI (by omega) (by omega)] at h30
            try rw [nI_leI (by omega) (by omega)] at h37
            try rw [nI_ltI (by omega) (by omega)] at h77
            try rw [nI_leI (by omega) (by omega)] at h84
            try rw [nI_leI (by omega) (by omega)] at h7
            have h0 := nI_pos (n := b) (by omega)
            first | exact h0 h1 | (rcases h with q | q | q | q <;> omega)
          · intro h77
            refine x_iload_n (pc := 80) d_R_mayStand_80 2 rfl ?_
            refine x_sipush (pc := 81) (nI 179) d_R_mayStand_81 (by decide) ?_
            refine x_icmp_le (pc := 84) (tgt := 89) d_R_mayStand_84 rfl ?_ ?_
            · intro h84
              obtain ⟨b, hb1, hb2, rfl⟩ := le_of (x := x) (a := 100) (b := 179) (by decide) (decide_eq_true ⟨Int32.not_lt.mp h77, h84⟩) (by decide)
              refine x_iload_n (pc := 89) d_R_mayStand_89 2 rfl ?_
              refine x_bipush (pc := 90) (nI 100) d_R_mayStand_90 (by decide) ?_
              first | refine x_isubN (pc := 92) d_R_mayStand_92 (by omega) ?_ | refine x_isub (pc := 92) d_R_mayStand_92 ?_
              refine x_bipush (pc := 93) (nI 10) d_R_mayStand_93 (by decide) ?_
              first | refine x_idivN (pc := 95) d_R_mayStand_95 (by omega) (by omega) (by omega) ?_ | refine x_idiv (pc := 95) d_R_mayStand_95 (by decide) ?_
              refine x_istore_n (pc := 96) d_R_mayStand_96 rfl (by decide) [(3, _), (0, _), (1, _), (2, _)] rfl ?_
              refine x_aload_n (pc := 97) d_R_mayStand_97 1 rfl ?_
              refine x_iload_n (pc := 98) d_R_mayStand_98 0 rfl ?_
              refine x_callV_I (pc := 99) (ci := 4) d_R_mayStand_99 k_R_64 wi_R_isLambda wv_R_isLambda w_R_isLambda ini_R wd_R_isLambda ⟨by decide, by decide⟩ ⟨rfl, rfl⟩ ⟨Nat.zero_le _, Nat.zero_le _⟩ 0 rfl rfl (t_R_isLambda) rfl rfl (Nat.le_of_ble_eq_true rfl) ?_
              rw [hl_nI hc8 (by omega)]
              first | refine x_if_eqB (pc := 102) (tgt := 131) d_R_mayStand_102 rfl ?_ ?_ | refine x_if_eqL (pc := 102) (tgt := 131) d_R_mayStand_102 rfl ?_ ?_ | refine x_if_eqN (pc := 102) (tgt := 131) d_R_mayStand_102 rfl (by omega) ?_ ?_ | refine x_if_eq (pc := 102) (tgt := 131) d_R_mayStand_102 rfl ?_ ?_
              · intro h102
                have g102 := of_decide_eq_false h102
                refine x_iconst (pc := 131) (nI 0) d_R_mayStand_131 (by decide) ?_
                refine x_zret (pc := 132) d_R_mayStand_132 rfl (by first | rfl | exact bI_narrow _) ?_
                first
                  | exact zt (mst_t ((mso_par hb1 (by omega)).mpr ⟨g102, by omega, ar_of h124⟩))
                  | exact zf (mst_f (fun z => g102 ((mso_par hb1 (by omega)).mp z).1))
                  | exact zf (mst_f (fun z => ar_no h124 ((mso_par hb1 (by omega)).mp z).2.2))
                  | exact zf (mst_f (fun z => by
                      have q := ((mso_par hb1 (by omega)).mp z).2.1
                      omega))
              · intro h102
                have g102 := of_decide_eq_true h102
                have hpb := hw.2.2.2.1 ((b - 100) / 10) (by omega)
                refine x_iload_n (pc := 105) d_R_mayStand_105 3 rfl ?_
                refine x_bipush (pc := 106) (nI 10) d_R_mayStand_106 (by decide) ?_
                first | refine x_iremN (pc := 108) d_R_mayStand_108 (by omega) (by omega) (by omega) ?_ | refine x_irem (pc := 108) d_R_mayStand_108 (by decide) ?_
                refine x_aload_n (pc := 109) d_R_mayStand_109 1 rfl ?_
                refine x_get (pc := 110) (ci := 4) d_R_mayStand_110 in_R rfl 2 (by decide) k_R_17 0 rfl rfl ?_
                refine x_iload_n (pc := 113) d_R_mayStand_113 0 rfl ?_
                refine x_ialdN (pc := 114) d_R_mayStand_114 2 0 rfl rfl (by omega) (by omega) ?_
                first | refine x_icmp_geN (pc := 115) (tgt := 131) d_R_mayStand_115 rfl (by omega) (by omega) ?_ ?_ | refine x_icmp_ge (pc := 115) (tgt := 131) d_R_mayStand_115 rfl ?_ ?_
                · intro h115
                  refine x_iconst (pc := 131) (nI 0) d_R_mayStand_131 (by decide) ?_
                  refine x_zret (pc := 132) d_R_mayStand_132 rfl (by first | rfl | exact bI_narrow _) ?_
                  first
                    | exact zt (mst_t ((mso_par hb1 (by omega)).mpr ⟨g102, by omega, ar_of h124⟩))
                    | exact zf (mst_f (fun z => g102 ((mso_par hb1 (by omega)).mp z).1))
                    | exact zf (mst_f (fun z => ar_no h124 ((mso_par hb1 (by omega)).mp z).2.2))
                    | exact zf (mst_f (fun z => by
                        have q := ((mso_par hb1 (by omega)).mp z).2.1
                        omega))
                · intro h115
                  refine x_aload_n (pc := 118) d_R_mayStand_118 1 rfl ?_
                  refine x_iload_n (pc := 119) d_R_mayStand_119 0 rfl ?_
                  refine x_iload_n (pc := 120) d_R_mayStand_120 2 rfl ?_
                  refine x_callV_I (pc := 121) (ci := 4) d_R_mayStand_121 k_R_71 wi_R_around wv_R_around w_R_around ini_R wd_R_around ⟨by decide, by decide⟩ ⟨rfl, rfl⟩ ⟨Nat.zero_le _, Nat.zero_le _⟩ 0 rfl rfl (t_R_around hw.2.2.1 hc8 hlx (by omega)) rfl rfl (Nat.le_of_ble_eq_true rfl) ?_
                  first | refine x_if_eqB (pc := 124) (tgt := 131) d_R_mayStand_124 rfl ?_ ?_ | refine x_if_eqL (pc := 124) (tgt := 131) d_R_mayStand_124 rfl ?_ ?_ | refine x_if_eqN (pc := 124) (tgt := 131) d_R_mayStand_124 rfl (by omega) ?_ ?_ | refine x_if_eq (pc := 124) (tgt := 131) d_R_mayStand_124 rfl ?_ ?_
                  · intro h124
                    refine x_iconst (pc := 131) (nI 0) d_R_mayStand_131 (by decide) ?_
                    refine x_zret (pc := 132) d_R_mayStand_132 rfl (by first | rfl | exact bI_narrow _) ?_
                    first
                      | exact zt (mst_t ((mso_par hb1 (by omega)).mpr ⟨g102, by omega, ar_of h124⟩))
                      | exact zf (mst_f (fun z => g102 ((mso_par hb1 (by omega)).mp z).1))
                      | exact zf (mst_f (fun z => ar_no h124 ((mso_par hb1 (by omega)).mp z).2.2))
                      | exact zf (mst_f (fun z => by
                          have q := ((mso_par hb1 (by omega)).mp z).2.1
                          omega))
                  · intro h124
                    refine x_iconst (pc := 127) (nI 1) d_R_mayStand_127 (by decide) ?_
                    refine x_goto (pc := 128) (tgt := 132) d_R_mayStand_128 rfl ?_
                    refine x_zret (pc := 132) d_R_mayStand_132 rfl (by first | rfl | exact bI_narrow _) ?_
                    first
                      | exact zt (mst_t ((mso_par hb1 (by omega)).mpr ⟨g102, by omega, ar_of h124⟩))
                      | exact zf (mst_f (fun z => g102 ((mso_par hb1 (by omega)).mp z).1))
                      | exact zf (mst_f (fun z => ar_no h124 ((mso_par hb1 (by omega)).mp z).2.2))
                      | exact zf (mst_f (fun z => by
                          have q := ((mso_par hb1 (by omega)).mp z).2.1
                          omega))
            · intro h84
              refine x_iconst (pc := 87) (nI 0) d_R_mayStand_87 (by decide) ?_
              refine x_zret (pc := 88) d_R_mayStand_88 rfl (by first | rfl | exact bI_narrow _) ?_
              refine zf (mst_f (fun z => ?_))
              obtain ⟨b, hb, e, h⟩ := z
              subst e
              try rw [nI_ltI (by omega) (by omega)] at h14
              try rw [nI_ltI (by omega) (by omega)] at h21
              try rw [nI_ltI (by omega) (by omega)] at h30
              try rw [nI_leI (by omega) (by omega)] at h37
              try rw [nI_ltI (by omega) (by omega)] at h77
              try rw [nI_leI (by omega) (by omega)] at h84
              try rw [nI_leI (by omega) (by omega)] at h7
              have h0 := nI_pos (n := b) (by omega)
              first | exact h0 h1 | (rcases h with q | q | q | q <;> omega)
        · intro h30
          refine x_iload_n (pc := 33) d_R_mayStand_33 2 rfl ?_
          refine x_sipush (pc := 34) (nI 208) d_R_mayStand_34 (by decide) ?_
          refine x_icmp_ge (pc := 37) (tgt := 74) d_R_mayStand_37 rfl ?_ ?_
          · intro h37
            refine x_iload_n (pc := 74) d_R_mayStand_74 2 rfl ?_
            refine x_bipush (pc := 75) (nI 100) d_R_mayStand_75 (by decide) ?_
            refine x_icmp_lt (pc := 77) (tgt := 87) d_R_mayStand_77 rfl ?_ ?_
            · intro h77
              refine x_iconst (pc := 87) (nI 0) d_R_mayStand_87 (by decide) ?_
              refine x_zret (pc := 88) d_R_mayStand_88 rfl (by first | rfl | exact bI_narrow _) ?_
              refine zf (mst_f (fun z => ?_))
              obtain ⟨b, hb, e, h⟩ := z
              subst e
              try rw [nI_ltI (by omega) (by omega)] at h14
              try rw [nI_ltI (by omega) (by omega)] at h21
              try rw [nI_ltI (by omega) (by omega)] at h30
              try rw [nI_leI (by omega) (by omega)] at h37
              try rw [nI_ltI (by omega) (by omega)] at h77
              try rw [nI_leI (by omega) (by omega)] at h84
              try rw [nI_leI (by omega) (by omega)] at h7
              have h0 := nI_pos (n := b) (by omega)
              first | exact h0 h1 | (rcases h with q | q | q | q <;> omega)
            · intro h77
              refine x_iload_n (pc := 80) d_R_mayStand_80 2 rfl ?_
              refine x_sipush (pc := 81) (nI 179) d_R_mayStand_81 (by decide) ?_
              refine x_icmp_le (pc := 84) (tgt := 89) d_R_mayStand_84 rfl ?_ ?_
              · intro h84
                obtain ⟨b, hb1, hb2, rfl⟩ := le_of (x := x) (a := 100) (b := 179) (by decide) (decide_eq_true ⟨Int32.not_lt.mp h77, h84⟩) (by decide)
                refine x_iload_n (pc := 89) d_R_mayStand_89 2 rfl ?_
                refine x_bipush (pc := 90) (nI 100) d_R_mayStand_90 (by decide) ?_
                first | refine x_isubN (pc := 92) d_R_mayStand_92 (by omega) ?_ | refine x_isub (pc := 92) d_R_mayStand_92 ?_
                refine x_bipush (pc := 93) (nI 10) d_R_mayStand_93 (by decide) ?_
                first | refine x_idivN (pc := 95) d_R_mayStand_95 (by omega) (by omega) (by omega) ?_ | refine x_idiv (pc := 95) d_R_mayStand_95 (by decide) ?_
                refine x_istore_n (pc := 96) d_R_mayStand_96 rfl (by decide) [(3, _), (0, _), (1, _), (2, _)] rfl ?_
                refine x_aload_n (pc := 97) d_R_mayStand_97 1 rfl ?_
                refine x_iload_n (pc := 98) d_R_mayStand_98 0 rfl ?_
                refine x_callV_I (pc := 99) (ci := 4) d_R_mayStand_99 k_R_64 wi_R_isLambda wv_R_isLambda w_R_isLambda ini_R wd_R_isLambda ⟨by decide, by decide⟩ ⟨rfl, rfl⟩ ⟨Nat.zero_le _, Nat.zero_le _⟩ 0 rfl rfl (t_R_isLambda) rfl rfl (Nat.le_of_ble_eq_true rfl) ?_
                rw [hl_nI hc8 (by omega)]
                first | refine x_if_eqB (pc := 102) (tgt := 131) d_R_mayStand_102 rfl ?_ ?_ | refine x_if_eqL (pc := 102) (tgt := 131) d_R_mayStand_102 rfl ?_ ?_ | refine x_if_eqN (pc := 102) (tgt := 131) d_R_mayStand_102 rfl (by omega) ?_ ?_ | refine x_if_eq (pc := 102) (tgt := 131) d_R_mayStand_102 rfl ?_ ?_
                · intro h102
                  have g102 := of_decide_eq_false h102
                  refine x_iconst (pc := 131) (nI 0) d_R_mayStand_131 (by decide) ?_
                  refine x_zret (pc := 132) d_R_mayStand_132 rfl (by first | rfl | exact bI_narrow _) ?_
                  first
                    | exact zt (mst_t ((mso_par hb1 (by omega)).mpr ⟨g102, by omega, ar_of h124⟩))
                    | exact zf (mst_f (fun z => g102 ((mso_par hb1 (by omega)).mp z).1))
                    | exact zf (mst_f (fun z => ar_no h124 ((mso_par hb1 (by omega)).mp z).2.2))
                    | exact zf (mst_f (fun z => by
                        have q := ((mso_par hb1 (by omega)).mp z).2.1
                        omega))
                · intro h102
                  have g102 := of_decide_eq_true h102
                  have hpb := hw.2.2.2.1 ((b - 100) / 10) (by omega)
                  refine x_iload_n (pc := 105) d_R_mayStand_105 3 rfl ?_
                  refine x_bipush (pc := 106) (nI 10) d_R_mayStand_106 (by decide) ?_
                  first | refine x_iremN (pc := 108) d_R_mayStand_108 (by omega) (by omega) (by omega) ?_ | refine x_irem (pc := 108) d_R_mayStand_108 (by decide) ?_
                  refine x_aload_n (pc := 109) d_R_mayStand_109 1 rfl ?_
                  refine x_get (pc := 110) (ci := 4) d_R_mayStand_110 in_R rfl 2 (by decide) k_R_17 0 rfl rfl ?_
                  refine x_iload_n (pc := 113) d_R_mayStand_113 0 rfl ?_
                  refine x_ialdN (pc := 114) d_R_mayStand_114 2 0 rfl rfl (by omega) (by omega) ?_
                  first | refine x_icmp_geN (pc := 115) (tgt := 131) d_R_mayStand_115 rfl (by omega) (by omega) ?_ ?_ | refine x_icmp_ge (pc := 115) (tgt := 131) d_R_mayStand_115 rfl ?_ ?_
                  · intro h115
                    refine x_iconst (pc := 131) (nI 0) d_R_mayStand_131 (by decide) ?_
                    refine x_zret (pc := 132) d_R_mayStand_132 rfl (by first | rfl | exact bI_narrow _) ?_
                    first
                      | exact zt (mst_t ((mso_par hb1 (by omega)).mpr ⟨g102, by omega, ar_of h124⟩))
                      | exact zf (mst_f (fun z => g102 ((mso_par hb1 (by omega)).mp z).1))
                      | exact zf (mst_f (fun z => ar_no h124 ((mso_par hb1 (by omega)).mp z).2.2))
                      | exact zf (mst_f (fun z => by
                          have q := ((mso_par hb1 (by omega)).mp z).2.1
                          omega))
                  · intro h115
                    refine x_aload_n (pc := 118) d_R_mayStand_118 1 rfl ?_
                    refine x_iload_n (pc := 119) d_R_mayStand_119 0 rfl ?_
                    refine x_iload_n (pc := 120) d_R_mayStand_120 2 rfl ?_
                    refine x_callV_I (pc := 121) (ci := 4) d_R_mayStand_121 k_R_71 wi_R_around wv_R_around w_R_around ini_R wd_R_around ⟨by decide, by decide⟩ ⟨rfl, rfl⟩ ⟨Nat.zero_le _, Nat.zero_le _⟩ 0 rfl rfl (t_R_around hw.2.2.1 hc8 hlx (by omega)) rfl rfl (Nat.le_of_ble_eq_true rfl) ?_
                    first | refine x_if_eqB (pc := 124) (tgt := 131) d_R_mayStand_124 rfl ?_ ?_ | refine x_if_eqL (pc := 124) (tgt := 131) d_R_mayStand_124 rfl ?_ ?_ | refine x_if_eqN (pc := 124) (tgt := 131) d_R_mayStand_124 rfl (by omega) ?_ ?_ | refine x_if_eq (pc := 124) (tgt := 131) d_R_mayStand_124 rfl ?_ ?_
                    · intro h124
                      refine x_iconst (pc := 131) (nI 0) d_R_mayStand_131 (by decide) ?_
                      refine x_zret (pc := 132) d_R_mayStand_132 rfl (by first | rfl | exact bI_narrow _) ?_
                      first
                        | exact zt (mst_t ((mso_par hb1 (by omega)).mpr ⟨g102, by omega, ar_of h124⟩))
                        | exact zf (mst_f (fun z => g102 ((mso_par hb1 (by omega)).mp z).1))
                        | exact zf (mst_f (fun z => ar_no h124 ((mso_par hb1 (by omega)).mp z).2.2))
                        | exact zf (mst_f (fun z => by
                            have q := ((mso_par hb1 (by omega)).mp z).2.1
                            omega))
                    · intro h124
                      refine x_iconst (pc := 127) (nI 1) d_R_mayStand_127 (by decide) ?_
                      refine x_goto (pc := 128) (tgt := 132) d_R_mayStand_128 rfl ?_
                      refine x_zret (pc := 132) d_R_mayStand_132 rfl (by first | rfl | exact bI_narrow _) ?_
                      first
                        | exact zt (mst_t ((mso_par hb1 (by omega)).mpr ⟨g102, by omega, ar_of h124⟩))
                        | exact zf (mst_f (fun z => g102 ((mso_par hb1 (by omega)).mp z).1))
                        | exact zf (mst_f (fun z => ar_no h124 ((mso_par hb1 (by omega)).mp z).2.2))
                        | exact zf (mst_f (fun z => by
                            have q := ((mso_par hb1 (by omega)).mp z).2.1
                            omega))
              · intro h84
                refine x_iconst (pc := 87) (nI 0) d_R_mayStand_87 (by decide) ?_
                refine x_zret (pc := 88) d_R_mayStand_88 rfl (by first | rfl | exact bI_narrow _) ?_
                refine zf (mst_f (fun z => ?_))
                obtain ⟨b, hb, e, h⟩ := z
                subst e
                try rw [nI_ltI (by omega) (by omega)] at h14
                try rw [nI_ltI (by omega) (by omega)] at h21
                try rw [nI_ltI (by omega) (by omega)] at h30
                try rw [nI_leI (by omega) (by omega)] at h37
                try rw [nI_ltI (by omega) (by omega)] at h77
                try rw [nI_leI (by omega) (by omega)] at h84
                try rw [nI_leI (by omega) (by omega)] at h7
                have h0 := nI_pos (n := b) (by omega)
                first | exact h0 h1 | (rcases h with q | q | q | q <;> omega)
          · intro h37
            obtain ⟨b, hb1, hb2, rfl⟩ := lo_of (x := x) (a := 200) (b := 208) (by decide) (decide_eq_true ⟨Int32.not_lt.mp h30, Int32.not_le.mp h37⟩) (by decide)
            refine x_iload_n (pc := 40) d_R_mayStand_40 2 rfl ?_
            refine x_sipush (pc := 41) (nI 200) d_R_mayStand_41 (by decide) ?_
            first | refine x_isubN (pc := 44) d_R_mayStand_44 (by omega) ?_ | refine x_isub (pc := 44) d_R_mayStand_44 ?_
            refine x_istore_n (pc := 45) d_R_mayStand_45 rfl (by decide) [(3, _), (0, _), (1, _), (2, _)] rfl ?_
            refine x_iload_n (pc := 46) d_R_mayStand_46 0 rfl ?_
            first | refine x_if_leN (pc := 47) (tgt := 72) d_R_mayStand_47 rfl (by omega) ?_ ?_ | refine x_if_le (pc := 47) (tgt := 72) d_R_mayStand_47 rfl ?_ ?_
            · intro h47
              refine x_iconst (pc := 72) (nI 0) d_R_mayStand_72 (by decide) ?_
              refine x_zret (pc := 73) d_R_mayStand_73 rfl (by first | rfl | exact bI_narrow _) ?_
              first
                | exact zt (mst_t ((mso_lam hp0 (by omega) hb1 hb2).mpr ⟨g55, h65⟩))
                | exact zf (mst_f (fun z => h65 ((mso_lam hp0 (by omega) hb1 hb2).mp z).2))
                | exact zf (mst_f (fun z => g55 ((mso_lam hp0 (by omega) hb1 hb2).mp z).1))
                | exact zf (mst_f (fun z => by
                    have q := ((mso_lam hp0 (by omega) hb1 hb2).mp z).2
                    rw [h47, hp0] at q
                    exact m1_ne (by omega) q))
            · intro h47
              refine x_aload_n (pc := 50) d_R_mayStand_50 1 rfl ?_
              refine x_iload_n (pc := 51) d_R_mayStand_51 0 rfl ?_
              refine x_callV_I (pc := 52) (ci := 4) d_R_mayStand_52 k_R_64 wi_R_isLambda wv_R_isLambda w_R_isLambda ini_R wd_R_isLambda ⟨by decide, by decide⟩ ⟨rfl, rfl⟩ ⟨Nat.zero_le _, Nat.zero_le _⟩ 0 rfl rfl (t_R_isLambda) rfl rfl (Nat.le_of_ble_eq_true rfl) ?_
              rw [hl_nI hc8 (by omega)]
              first | refine x_if_eqB (pc := 55) (tgt := 72) d_R_mayStand_55 rfl ?_ ?_ | refine x_if_eqL (pc := 55) (tgt := 72) d_R_mayStand_55 rfl ?_ ?_ | refine x_if_eqN (pc := 55) (tgt := 72) d_R_mayStand_55 rfl (by omega) ?_ ?_ | refine x_if_eq (pc := 55) (tgt := 72) d_R_mayStand_55 rfl ?_ ?_
              · intro h55
                have g55 := of_decide_eq_false h55
                refine x_iconst (pc := 72) (nI 0) d_R_mayStand_72 (by decide) ?_
                refine x_zret (pc := 73) d_R_mayStand_73 rfl (by first | rfl | exact bI_narrow _) ?_
                first
                  | exact zt (mst_t ((mso_lam hp0 (by omega) hb1 hb2).mpr ⟨g55, h65⟩))
                  | exact zf (mst_f (fun z => h65 ((mso_lam hp0 (by omega) hb1 hb2).mp z).2))
                  | exact zf (mst_f (fun z => g55 ((mso_lam hp0 (by omega) hb1 hb2).mp z).1))
                  | exact zf (mst_f (fun z => by
                      have q := ((mso_lam hp0 (by omega) hb1 hb2).mp z).2
                      rw [h47, hp0] at q
                      exact m1_ne (by omega) q))
              · intro h55
                have g55 := of_decide_eq_true h55
                refine x_aload_n (pc := 58) d_R_mayStand_58 1 rfl ?_
                refine x_get (pc := 59) (ci := 4) d_R_mayStand_59 in_R rfl 1 (by decide) k_R_13 0 rfl rfl ?_
                refine x_iload_n (pc := 62) d_R_mayStand_62 0 rfl ?_
                refine x_ialdN (pc := 63) d_R_mayStand_63 1 0 rfl rfl (by omega) (by omega) ?_
                refine x_iload_n (pc := 64) d_R_mayStand_64 2 rfl ?_
                refine x_icmp_ne (pc := 65) (tgt := 72) d_R_mayStand_65 rfl ?_ ?_
                · intro h65
                  refine x_iconst (pc := 72) (nI 0) d_R_mayStand_72 (by decide) ?_
                  refine x_zret (pc := 73) d_R_mayStand_73 rfl (by first | rfl | exact bI_narrow _) ?_
                  first
                    | exact zt (mst_t ((mso_lam hp0 (by omega) hb1 hb2).mpr ⟨g55, h65⟩))
                    | exact zf (mst_f (fun z => h65 ((mso_lam hp0 (by omega) hb1 hb2).mp z).2))
                    | exact zf (mst_f (fun z => g55 ((mso_lam hp0 (by omega) hb1 hb2).mp z).1))
                    | exact zf (mst_f (fun z => by
                        have q := ((mso_lam hp0 (by omega) hb1 hb2).mp z).2
                        rw [h47, hp0] at q
                        exact m1_ne (by omega) q))
                · intro h65
                  refine x_iconst (pc := 68) (nI 1) d_R_mayStand_68 (by decide) ?_
                  refine x_goto (pc := 69) (tgt := 73) d_R_mayStand_69 rfl ?_
                  refine x_zret (pc := 73) d_R_mayStand_73 rfl (by first | rfl | exact bI_narrow _) ?_
                  first
                    | exact zt (mst_t ((mso_lam hp0 (by omega) hb1 hb2).mpr ⟨g55, h65⟩))
                    | exact zf (mst_f (fun z => h65 ((mso_lam hp0 (by omega) hb1 hb2).mp z).2))
                    | exact zf (mst_f (fun z => g55 ((mso_lam hp0 (by omega) hb1 hb2).mp z).1))
                    | exact zf (mst_f (fun z => by
                        have q := ((mso_lam hp0 (by omega) hb1 hb2).mp z).2
                        rw [h47, hp0] at q
                        exact m1_ne (by omega) q))
      · intro h21
        refine x_iconst (pc := 24) (nI 1) d_R_mayStand_24 (by decide) ?_
        refine x_zret (pc := 25) d_R_mayStand_25 rfl (by first | rfl | exact bI_narrow _) ?_
        first | exact zt (mst_t (mso_num h1 h7)) | exact zt (mst_t (mso_pri h14 h21))
  · intro h1
    refine x_iload_n (pc := 4) d_R_mayStand_4 2 rfl ?_
    refine x_bipush (pc := 5) (nI 9) d_R_mayStand_5 (by decide) ?_
    refine x_icmp_le (pc := 7) (tgt := 24) d_R_mayStand_7 rfl ?_ ?_
    · intro h7
      refine x_iconst (pc := 24) (nI 1) d_R_mayStand_24 (by decide) ?_
      refine x_zret (pc := 25) d_R_mayStand_25 rfl (by first | rfl | exact bI_narrow _) ?_
      first | exact zt (mst_t (mso_num h1 h7)) | exact zt (mst_t (mso_pri h14 h21))
    · intro h7
      refine x_iload_n (pc := 10) d_R_mayStand_10 2 rfl ?_
      refine x_sipush (pc := 11) (nI 300) d_R_mayStand_11 (by decide) ?_
      refine x_icmp_lt (pc := 14) (tgt := 26) d_R_mayStand_14 rfl ?_ ?_
      · intro h14
        refine x_iload_n (pc := 26) d_R_mayStand_26 2 rfl ?_
        refine x_sipush (pc := 27) (nI 200) d_R_mayStand_27 (by decide) ?_
        refine x_icmp_lt (pc := 30) (tgt := 74) d_R_mayStand_30 rfl ?_ ?_
        · intro h30
          refine x_iload_n (pc := 74) d_R_mayStand_74 2 rfl ?_
          refine x_bipush (pc := 75) (nI 100) d_R_mayStand_75 (by decide) ?_
          refine x_icmp_lt (pc := 77) (tgt := 87) d_R_mayStand_77 rfl ?_ ?_
          · intro h77
            refine x_iconst (pc := 87) (nI 0) d_R_mayStand_87 (by decide) ?_
            refine x_zret (pc := 88) d_R_mayStand_88 rfl (by first | rfl | exact bI_narrow _) ?_
            refine zf (mst_f (fun z => ?_))
            obtain ⟨b, hb, e, h⟩ := z
            subst e
            try rw [nI_ltI (by omega) (by omega)] at h14
            try rw [nI_ltI (by omega) (by omega)] at h21
            try rw [nI_ltI (by omega) (by omega)] at h30
            try rw [nI_leI (by omega) (by omega)] at h37
            try rw [nI_ltI (by omega) (by omega)] at h77
            try rw [nI_leI (by omega) (by omega)] at h84
            try rw [nI_leI (by omega) (by omega)] at h7
            have h0 := nI_pos (n := b) (by omega)
            first | exact h0 h1 | (rcases h with q | q | q | q <;> omega)
          · intro h77
            refine x_iload_n (pc := 80) d_R_mayStand_80 2 rfl ?_
            refine x_sipush (pc := 81) (nI 179) d_R_mayStand_81 (by decide) ?_
            refine x_icmp_le (pc := 84) (tgt := 89) d_R_mayStand_84 rfl ?_ ?_
            · intro h84
              obtain ⟨b, hb1, hb2, rfl⟩ := le_of (x := x) (a := 100) (b := 179) (by decide) (decide_eq_true ⟨Int32.not_lt.mp h77, h84⟩) (by decide)
              refine x_iload_n (pc := 89) d_R_mayStand_89 2 rfl ?_
              refine x_bipush (pc := 90) (nI 100) d_R_mayStand_90 (by decide) ?_
              first | refine x_isubN (pc := 92) d_R_mayStand_92 (by omega) ?_ | refine x_isub (pc := 92) d_R_mayStand_92 ?_
              refine x_bipush (pc := 93) (nI 10) d_R_mayStand_93 (by decide) ?_
              first | refine x_idivN (pc := 95) d_R_mayStand_95 (by omega) (by omega) (by omega) ?_ | refine x_idiv (pc := 95) d_R_mayStand_95 (by decide) ?_
              refine x_istore_n (pc := 96) d_R_mayStand_96 rfl (by decide) [(3, _), (0, _), (1, _), (2, _)] rfl ?_
              refine x_aload_n (pc := 97) d_R_mayStand_97 1 rfl ?_
              refine x_iload_n (pc := 98) d_R_mayStand_98 0 rfl ?_
              refine x_callV_I (pc := 99) (ci := 4) d_R_mayStand_99 k_R_64 wi_R_isLambda wv_R_isLambda w_R_isLambda ini_R wd_R_isLambda ⟨by decide, by decide⟩ ⟨rfl, rfl⟩ ⟨Nat.zero_le _, Nat.zero_le _⟩ 0 rfl rfl (t_R_isLambda) rfl rfl (Nat.le_of_ble_eq_true rfl) ?_
              rw [hl_nI hc8 (by omega)]
              first | refine x_if_eqB (pc := 102) (tgt := 131) d_R_mayStand_102 rfl ?_ ?_ | refine x_if_eqL (pc := 102) (tgt := 131) d_R_mayStand_102 rfl ?_ ?_ | refine x_if_eqN (pc := 102) (tgt := 131) d_R_mayStand_102 rfl (by omega) ?_ ?_ | refine x_if_eq (pc := 102) (tgt := 131) d_R_mayStand_102 rfl ?_ ?_
              · intro h102
                have g102 := of_decide_eq_false h102
                refine x_iconst (pc := 131) (nI 0) d_R_mayStand_131 (by decide) ?_
                refine x_zret (pc := 132) d_R_mayStand_132 rfl (by first | rfl | exact bI_narrow _) ?_
                first
                  | exact zt (mst_t ((mso_par hb1 (by omega)).mpr ⟨g102, by omega, ar_of h124⟩))
                  | exact zf (mst_f (fun z => g102 ((mso_par hb1 (by omega)).mp z).1))
                  | exact zf (mst_f (fun z => ar_no h124 ((mso_par hb1 (by omega)).mp z).2.2))
                  | exact zf (mst_f (fun z => by
                      have q := ((mso_par hb1 (by omega)).mp z).2.1
                      omega))
              · intro h102
                have g102 := of_decide_eq_true h102
                have hpb := hw.2.2.2.1 ((b - 100) / 10) (by omega)
                refine x_iload_n (pc := 105) d_R_mayStand_105 3 rfl ?_
                refine x_bipush (pc := 106) (nI 10) d_R_mayStand_106 (by decide) ?_
                first | refine x_iremN (pc := 108) d_R_mayStand_108 (by omega) (by omega) (by omega) ?_ | refine x_irem (pc := 108) d_R_mayStand_108 (by decide) ?_
                refine x_aload_n (pc := 109) d_R_mayStand_109 1 rfl ?_
                refine x_get (pc := 110) (ci := 4) d_R_mayStand_110 in_R rfl 2 (by decide) k_R_17 0 rfl rfl ?_
                refine x_iload_n (pc := 113) d_R_mayStand_113 0 rfl ?_
                refine x_ialdN (pc := 114) d_R_mayStand_114 2 0 rfl rfl (by omega) (by omega) ?_
                first | refine x_icmp_geN (pc := 115) (tgt := 131) d_R_mayStand_115 rfl (by omega) (by omega) ?_ ?_ | refine x_icmp_ge (pc := 115) (tgt := 131) d_R_mayStand_115 rfl ?_ ?_
                · intro h115
                  refine x_iconst (pc := 131) (nI 0) d_R_mayStand_131 (by decide) ?_
                  refine x_zret (pc := 132) d_R_mayStand_132 rfl (by first | rfl | exact bI_narrow _) ?_
                  first
                    | exact zt (mst_t ((mso_par hb1 (by omega)).mpr ⟨g102, by omega, ar_of h124⟩))
                    | exact zf (mst_f (fun z => g102 ((mso_par hb1 (by omega)).mp z).1))
                    | exact zf (mst_f (fun z => ar_no h124 ((mso_par hb1 (by omega)).mp z).2.2))
                    | exact zf (mst_f (fun z => by
                        have q := ((mso_par hb1 (by omega)).mp z).2.1
                        omega))
                · intro h115
                  refine x_aload_n (pc := 118) d_R_mayStand_118 1 rfl ?_
                  refine x_iload_n (pc := 119) d_R_mayStand_119 0 rfl ?_
                  refine x_iload_n (pc := 120) d_R_mayStand_120 2 rfl ?_
                  refine x_callV_I (pc := 121) (ci := 4) d_R_mayStand_121 k_R_71 wi_R_around wv_R_around w_R_around ini_R wd_R_around ⟨by decide, by decide⟩ ⟨rfl, rfl⟩ ⟨Nat.zero_le _, Nat.zero_le _⟩ 0 rfl rfl (t_R_around hw.2.2.1 hc8 hlx (by omega)) rfl rfl (Nat.le_of_ble_eq_true rfl) ?_
                  first | refine x_if_eqB (pc := 124) (tgt := 131) d_R_mayStand_124 rfl ?_ ?_ | refine x_if_eqL (pc := 124) (tgt := 131) d_R_mayStand_124 rfl ?_ ?_ | refine x_if_eqN (pc := 124) (tgt := 131) d_R_mayStand_124 rfl (by omega) ?_ ?_ | refine x_if_eq (pc := 124) (tgt := 131) d_R_mayStand_124 rfl ?_ ?_
                  · intro h124
                    refine x_iconst (pc := 131) (nI 0) d_R_mayStand_131 (by decide) ?_
                    refine x_zret (pc := 132) d_R_mayStand_132 rfl (by first | rfl | exact bI_narrow _) ?_
                    first
                      | exact zt (mst_t ((mso_par hb1 (by omega)).mpr ⟨g102, by omega, ar_of h124⟩))
                      | exact zf (mst_f (fun z => g102 ((mso_par hb1 (by omega)).mp z).1))
                      | exact zf (mst_f (fun z => ar_no h124 ((mso_par hb1 (by omega)).mp z).2.2))
                      | exact zf (mst_f (fun z => by
                          have q := ((mso_par hb1 (by omega)).mp z).2.1
                          omega))
                  · intro h124
                    refine x_iconst (pc := 127) (nI 1) d_R_mayStand_127 (by decide) ?_
                    refine x_goto (pc := 128) (tgt := 132) d_R_mayStand_128 rfl ?_
                    refine x_zret (pc := 132) d_R_mayStand_132 rfl (by first | rfl | exact bI_narrow _) ?_
                    first
                      | exact zt (mst_t ((mso_par hb1 (by omega)).mpr ⟨g102, by omega, ar_of h124⟩))
                      | exact zf (mst_f (fun z => g102 ((mso_par hb1 (by omega)).mp z).1))
                      | exact zf (mst_f (fun z => ar_no h124 ((mso_par hb1 (by omega)).mp z).2.2))
                      | exact zf (mst_f (fun z => by
                          have q := ((mso_par hb1 (by omega)).mp z).2.1
                          omega))
            · intro h84
              refine x_iconst (pc := 87) (nI 0) d_R_mayStand_87 (by decide) ?_
              refine x_zret (pc := 88) d_R_mayStand_88 rfl (by first | rfl | exact bI_narrow _) ?_
              refine zf (mst_f (fun z => ?_))
              obtain ⟨b, hb, e, h⟩ := z
              subst e
              try rw [nI_ltI (by omega) (by omega)] at h14
              try rw [nI_ltI (by omega) (by omega)] at h21
              try rw [nI_ltI (by omega) (by omega)] at h30
              try rw [nI_leI (by omega) (by omega)] at h37
              try rw [nI_ltI (by omega) (by omega)] at h77
              try rw [nI_leI (by omega) (by omega)] at h84
              try rw [nI_leI (by omega) (by omega)] at h7
              have h0 := nI_pos (n := b) (by omega)
              first | exact h0 h1 | (rcases h with q | q | q | q <;> omega)
        · intro h30
          refine x_iload_n (pc := 33) d_R_mayStand_33 2 rfl ?_
          refine x_sipush (pc := 34) (nI 208) d_R_mayStand_34 (by decide) ?_
          refine x_icmp_ge (pc := 37) (tgt := 74) d_R_mayStand_37 rfl ?_ ?_
          · intro h37
            refine x_iload_n (pc := 74) d_R_mayStand_74 2 rfl ?_
            refine x_bipush (pc := 75) (nI 100) d_R_mayStand_75 (by decide) ?_
            refine x_icmp_lt (pc := 77) (tgt := 87) d_R_mayStand_77 rfl ?_ ?_
            · intro h77
              refine x_iconst (pc := 87) (nI 0) d_R_mayStand_87 (by decide) ?_
              refine x_zret (pc := 88) d_R_mayStand_88 rfl (by first | rfl | exact bI_narrow _) ?_
              refine zf (mst_f (fun z => ?_))
              obtain ⟨b, hb, e, h⟩ := z
              subst e
              try rw [nI_ltI (by omega) (by omega)] at h14
              try rw [nI_ltI (by omega) (by omega)] at h21
              try rw [nI_ltI (by omega) (by omega)] at h30
              try rw [nI_leI (by omega) (by omega)] at h37
              try rw [nI_ltI (by omega) (by omega)] at h77
              try rw [nI_leI (by omega) (by omega)] at h84
              try rw [nI_leI (by omega) (by omega)] at h7
              have h0 := nI_pos (n := b) (by omega)
              first | exact h0 h1 | (rcases h with q | q | q | q <;> omega)
            · intro h77
              refine x_iload_n (pc := 80) d_R_mayStand_80 2 rfl ?_
              refine x_sipush (pc := 81) (nI 179) d_R_mayStand_81 (by decide) ?_
              refine x_icmp_le (pc := 84) (tgt := 89) d_R_mayStand_84 rfl ?_ ?_
              · intro h84
                obtain ⟨b, hb1, hb2, rfl⟩ := le_of (x := x) (a := 100) (b := 179) (by decide) (decide_eq_true ⟨Int32.not_lt.mp h77, h84⟩) (by decide)
                refine x_iload_n (pc := 89) d_R_mayStand_89 2 rfl ?_
                refine x_bipush (pc := 90) (nI 100) d_R_mayStand_90 (by decide) ?_
                first | refine x_isubN (pc := 92) d_R_mayStand_92 (by omega) ?_ | refine x_isub (pc := 92) d_R_mayStand_92 ?_
                refine x_bipush (pc := 93) (nI 10) d_R_mayStand_93 (by decide) ?_
                first | refine x_idivN (pc := 95) d_R_mayStand_95 (by omega) (by omega) (by omega) ?_ | refine x_idiv (pc := 95) d_R_mayStand_95 (by decide) ?_
                refine x_istore_n (pc := 96) d_R_mayStand_96 rfl (by decide) [(3, _), (0, _), (1, _), (2, _)] rfl ?_
                refine x_aload_n (pc := 97) d_R_mayStand_97 1 rfl ?_
                refine x_iload_n (pc := 98) d_R_mayStand_98 0 rfl ?_
                refine x_callV_I (pc := 99) (ci := 4) d_R_mayStand_99 k_R_64 wi_R_isLambda wv_R_isLambda w_R_isLambda ini_R wd_R_isLambda ⟨by decide, by decide⟩ ⟨rfl, rfl⟩ ⟨Nat.zero_le _, Nat.zero_le _⟩ 0 rfl rfl (t_R_isLambda) rfl rfl (Nat.le_of_ble_eq_true rfl) ?_
                rw [hl_nI hc8 (by omega)]
                first | refine x_if_eqB (pc := 102) (tgt := 131) d_R_mayStand_102 rfl ?_ ?_ | refine x_if_eqL (pc := 102) (tgt := 131) d_R_mayStand_102 rfl ?_ ?_ | refine x_if_eqN (pc := 102) (tgt := 131) d_R_mayStand_102 rfl (by omega) ?_ ?_ | refine x_if_eq (pc := 102) (tgt := 131) d_R_mayStand_102 rfl ?_ ?_
                · intro h102
                  have g102 := of_decide_eq_false h102
                  refine x_iconst (pc := 131) (nI 0) d_R_mayStand_131 (by decide) ?_
                  refine x_zret (pc := 132) d_R_mayStand_132 rfl (by first | rfl | exact bI_narrow _) ?_
                  first
                    | exact zt (mst_t ((mso_par hb1 (by omega)).mpr ⟨g102, by omega, ar_of h124⟩))
                    | exact zf (mst_f (fun z => g102 ((mso_par hb1 (by omega)).mp z).1))
                    | exact zf (mst_f (fun z => ar_no h124 ((mso_par hb1 (by omega)).mp z).2.2))
                    | exact zf (mst_f (fun z => by
                        have q := ((mso_par hb1 (by omega)).mp z).2.1
                        omega))
                · intro h102
                  have g102 := of_decide_eq_true h102
                  have hpb := hw.2.2.2.1 ((b - 100) / 10) (by omega)
                  refine x_iload_n (pc := 105) d_R_mayStand_105 3 rfl ?_
                  refine x_bipush (pc := 106) (nI 10) d_R_mayStand_106 (by decide) ?_
                  first | refine x_iremN (pc := 108) d_R_mayStand_108 (by omega) (by omega) (by omega) ?_ | refine x_irem (pc := 108) d_R_mayStand_108 (by decide) ?_
                  refine x_aload_n (pc := 109) d_R_mayStand_109 1 rfl ?_
                  refine x_get (pc := 110) (ci := 4) d_R_mayStand_110 in_R rfl 2 (by decide) k_R_17 0 rfl rfl ?_
                  refine x_iload_n (pc := 113) d_R_mayStand_113 0 rfl ?_
                  refine x_ialdN (pc := 114) d_R_mayStand_114 2 0 rfl rfl (by omega) (by omega) ?_
                  first | refine x_icmp_geN (pc := 115) (tgt := 131) d_R_mayStand_115 rfl (by omega) (by omega) ?_ ?_ | refine x_icmp_ge (pc := 115) (tgt := 131) d_R_mayStand_115 rfl ?_ ?_
                  · intro h115
                    refine x_iconst (pc := 131) (nI 0) d_R_mayStand_131 (by decide) ?_
                    refine x_zret (pc := 132) d_R_mayStand_132 rfl (by first | rfl | exact bI_narrow _) ?_
                    first
                      | exact zt (mst_t ((mso_par hb1 (by omega)).mpr ⟨g102, by omega, ar_of h124⟩))
                      | exact zf (mst_f (fun z => g102 ((mso_par hb1 (by omega)).mp z).1))
                      | exact zf (mst_f (fun z => ar_no h124 ((mso_par hb1 (by omega)).mp z).2.2))
                      | exact zf (mst_f (fun z => by
                          have q := ((mso_par hb1 (by omega)).mp z).2.1
                          omega))
                  · intro h115
                    refine x_aload_n (pc := 118) d_R_mayStand_118 1 rfl ?_
                    refine x_iload_n (pc := 119) d_R_mayStand_119 0 rfl ?_
                    refine x_iload_n (pc := 120) d_R_mayStand_120 2 rfl ?_
                    refine x_callV_I (pc := 121) (ci := 4) d_R_mayStand_121 k_R_71 wi_R_around wv_R_around w_R_around ini_R wd_R_around ⟨by decide, by decide⟩ ⟨rfl, rfl⟩ ⟨Nat.zero_le _, Nat.zero_le _⟩ 0 rfl rfl (t_R_around hw.2.2.1 hc8 hlx (by omega)) rfl rfl (Nat.le_of_ble_eq_true rfl) ?_
                    first | refine x_if_eqB (pc := 124) (tgt := 131) d_R_mayStand_124 rfl ?_ ?_ | refine x_if_eqL (pc := 124) (tgt := 131) d_R_mayStand_124 rfl ?_ ?_ | refine x_if_eqN (pc := 124) (tgt := 131) d_R_mayStand_124 rfl (by omega) ?_ ?_ | refine x_if_eq (pc := 124) (tgt := 131) d_R_mayStand_124 rfl ?_ ?_
                    · intro h124
                      refine x_iconst (pc := 131) (nI 0) d_R_mayStand_131 (by decide) ?_
                      refine x_zret (pc := 132) d_R_mayStand_132 rfl (by first | rfl | exact bI_narrow _) ?_
                      first
                        | exact zt (mst_t ((mso_par hb1 (by omega)).mpr ⟨g102, by omega, ar_of h124⟩))
                        | exact zf (mst_f (fun z => g102 ((mso_par hb1 (by omega)).mp z).1))
                        | exact zf (mst_f (fun z => ar_no h124 ((mso_par hb1 (by omega)).mp z).2.2))
                        | exact zf (mst_f (fun z => by
                            have q := ((mso_par hb1 (by omega)).mp z).2.1
                            omega))
                    · intro h124
                      refine x_iconst (pc := 127) (nI 1) d_R_mayStand_127 (by decide) ?_
                      refine x_goto (pc := 128) (tgt := 132) d_R_mayStand_128 rfl ?_
                      refine x_zret (pc := 132) d_R_mayStand_132 rfl (by first | rfl | exact bI_narrow _) ?_
                      first
                        | exact zt (mst_t ((mso_par hb1 (by omega)).mpr ⟨g102, by omega, ar_of h124⟩))
                        | exact zf (mst_f (fun z => g102 ((mso_par hb1 (by omega)).mp z).1))
                        | exact zf (mst_f (fun z => ar_no h124 ((mso_par hb1 (by omega)).mp z).2.2))
                        | exact zf (mst_f (fun z => by
                            have q := ((mso_par hb1 (by omega)).mp z).2.1
                            omega))
              · intro h84
                refine x_iconst (pc := 87) (nI 0) d_R_mayStand_87 (by decide) ?_
                refine x_zret (pc := 88) d_R_mayStand_88 rfl (by first | rfl | exact bI_narrow _) ?_
                refine zf (mst_f (fun z => ?_))
                obtain ⟨b, hb, e, h⟩ := z
                subst e
                try rw [nI_ltI (by omega) (by omega)] at h14
                try rw [nI_ltI (by omega) (by omega)] at h21
                try rw [nI_ltI (by omega) (by omega)] at h30
                try rw [nI_leI (by omega) (by omega)] at h37
                try rw [nI_ltI (by omega) (by omega)] at h77
                try rw [nI_leI (by omega) (by omega)] at h84
                try rw [nI_leI (by omega) (by omega)] at h7
                have h0 := nI_pos (n := b) (by omega)
                first | exact h0 h1 | (rcases h with q | q | q | q <;> omega)
          · intro h37
            obtain ⟨b, hb1, hb2, rfl⟩ := lo_of (x := x) (a := 200) (b := 208) (by decide) (decide_eq_true ⟨Int32.not_lt.mp h30, Int32.not_le.mp h37⟩) (by decide)
            refine x_iload_n (pc := 40) d_R_mayStand_40 2 rfl ?_
            refine x_sipush (pc := 41) (nI 200) d_R_mayStand_41 (by decide) ?_
            first | refine x_isubN (pc := 44) d_R_mayStand_44 (by omega) ?_ | refine x_isub (pc := 44) d_R_mayStand_44 ?_
            refine x_istore_n (pc := 45) d_R_mayStand_45 rfl (by decide) [(3, _), (0, _), (1, _), (2, _)] rfl ?_
            refine x_iload_n (pc := 46) d_R_mayStand_46 0 rfl ?_
            first | refine x_if_leN (pc := 47) (tgt := 72) d_R_mayStand_47 rfl (by omega) ?_ ?_ | refine x_if_le (pc := 47) (tgt := 72) d_R_mayStand_47 rfl ?_ ?_
            · intro h47
              refine x_iconst (pc := 72) (nI 0) d_R_mayStand_72 (by decide) ?_
              refine x_zret (pc := 73) d_R_mayStand_73 rfl (by first | rfl | exact bI_narrow _) ?_
              first
                | exact zt (mst_t ((mso_lam hp0 (by omega) hb1 hb2).mpr ⟨g55, h65⟩))
                | exact zf (mst_f (fun z => h65 ((mso_lam hp0 (by omega) hb1 hb2).mp z).2))
                | exact zf (mst_f (fun z => g55 ((mso_lam hp0 (by omega) hb1 hb2).mp z).1))
                | exact zf (mst_f (fun z => by
                    have q := ((mso_lam hp0 (by omega) hb1 hb2).mp z).2
                    rw [h47, hp0] at q
                    exact m1_ne (by omega) q))
            · intro h47
              refine x_aload_n (pc := 50) d_R_mayStand_50 1 rfl ?_
              refine x_iload_n (pc := 51) d_R_mayStand_51 0 rfl ?_
              refine x_callV_I (pc := 52) (ci := 4) d_R_mayStand_52 k_R_64 wi_R_isLambda wv_R_isLambda w_R_isLambda ini_R wd_R_isLambda ⟨by decide, by decide⟩ ⟨rfl, rfl⟩ ⟨Nat.zero_le _, Nat.zero_le _⟩ 0 rfl rfl (t_R_isLambda) rfl rfl (Nat.le_of_ble_eq_true rfl) ?_
              rw [hl_nI hc8 (by omega)]
              first | refine x_if_eqB (pc := 55) (tgt := 72) d_R_mayStand_55 rfl ?_ ?_ | refine x_if_eqL (pc := 55) (tgt := 72) d_R_mayStand_55 rfl ?_ ?_ | refine x_if_eqN (pc := 55) (tgt := 72) d_R_mayStand_55 rfl (by omega) ?_ ?_ | refine x_if_eq (pc := 55) (tgt := 72) d_R_mayStand_55 rfl ?_ ?_
              · intro h55
                have g55 := of_decide_eq_false h55
                refine x_iconst (pc := 72) (nI 0) d_R_mayStand_72 (by decide) ?_
                refine x_zret (pc := 73) d_R_mayStand_73 rfl (by first | rfl | exact bI_narrow _) ?_
                first
                  | exact zt (mst_t ((mso_lam hp0 (by omega) hb1 hb2).mpr ⟨g55, h65⟩))
                  | exact zf (mst_f (fun z => h65 ((mso_lam hp0 (by omega) hb1 hb2).mp z).2))
                  | exact zf (mst_f (fun z => g55 ((mso_lam hp0 (by omega) hb1 hb2).mp z).1))
                  | exact zf (mst_f (fun z => by
                      have q := ((mso_lam hp0 (by omega) hb1 hb2).mp z).2
                      rw [h47, hp0] at q
                      exact m1_ne (by omega) q))
              · intro h55
                have g55 := of_decide_eq_true h55
                refine x_aload_n (pc := 58) d_R_mayStand_58 1 rfl ?_
                refine x_get (pc := 59) (ci := 4) d_R_mayStand_59 in_R rfl 1 (by decide) k_R_13 0 rfl rfl ?_
                refine x_iload_n (pc := 62) d_R_mayStand_62 0 rfl ?_
                refine x_ialdN (pc := 63) d_R_mayStand_63 1 0 rfl rfl (by omega) (by omega) ?_
                refine x_iload_n (pc := 64) d_R_mayStand_64 2 rfl ?_
                refine x_icmp_ne (pc := 65) (tgt := 72) d_R_mayStand_65 rfl ?_ ?_
                · intro h65
                  refine x_iconst (pc := 72) (nI 0) d_R_mayStand_72 (by decide) ?_
                  refine x_zret (pc := 73) d_R_mayStand_73 rfl (by first | rfl | exact bI_narrow _) ?_
                  first
                    | exact zt (mst_t ((mso_lam hp0 (by omega) hb1 hb2).mpr ⟨g55, h65⟩))
                    | exact zf (mst_f (fun z => h65 ((mso_lam hp0 (by omega) hb1 hb2).mp z).2))
                    | exact zf (mst_f (fun z => g55 ((mso_lam hp0 (by omega) hb1 hb2).mp z).1))
                    | exact zf (mst_f (fun z => by
                        have q := ((mso_lam hp0 (by omega) hb1 hb2).mp z).2
                        rw [h47, hp0] at q
                        exact m1_ne (by omega) q))
                · intro h65
                  refine x_iconst (pc := 68) (nI 1) d_R_mayStand_68 (by decide) ?_
                  refine x_goto (pc := 69) (tgt := 73) d_R_mayStand_69 rfl ?_
                  refine x_zret (pc := 73) d_R_mayStand_73 rfl (by first | rfl | exact bI_narrow _) ?_
                  first
                    | exact zt (mst_t ((mso_lam hp0 (by omega) hb1 hb2).mpr ⟨g55, h65⟩))
                    | exact zf (mst_f (fun z => h65 ((mso_lam hp0 (by omega) hb1 hb2).mp z).2))
                    | exact zf (mst_f (fun z => g55 ((mso_lam hp0 (by omega) hb1 hb2).mp z).1))
                    | exact zf (mst_f (fun z => by
                        have q := ((mso_lam hp0 (by omega) hb1 hb2).mp z).2
                        rw [h47, hp0] at q
                        exact m1_ne (by omega) q))
      · intro h14
        refine x_iload_n (pc := 17) d_R_mayStand_17 2 rfl ?_
        refine x_sipush (pc := 18) (nI 302) d_R_mayStand_18 (by decide) ?_
        refine x_icmp_gt (pc := 21) (tgt := 26) d_R_mayStand_21 rfl ?_ ?_
        · intro h21
          refine x_iload_n (pc := 26) d_R_mayStand_26 2 rfl ?_
          refine x_sipush (pc := 27) (nI 200) d_R_mayStand_27 (by decide) ?_
          refine x_icmp_lt (pc := 30) (tgt := 74) d_R_mayStand_30 rfl ?_ ?_
          · intro h30
            refine x_iload_n (pc := 74) d_R_mayStand_74 2 rfl ?_
            refine x_bipush (pc := 75) (nI 100) d_R_mayStand_75 (by decide) ?_
            refine x_icmp_lt (pc := 77) (tgt := 87) d_R_mayStand_77 rfl ?_ ?_
            · intro h77
              refine x_iconst (pc := 87) (nI 0) d_R_mayStand_87 (by decide) ?_
              refine x_zret (pc := 88) d_R_mayStand_88 rfl (by first | rfl | exact bI_narrow _) ?_
              refine zf (mst_f (fun z => ?_))
              obtain ⟨b, hb, e, h⟩ := z
              subst e
              try rw [nI_ltI (by omega) (by omega)] at h14
              try rw [nI_ltI (by omega) (by omega)] at h21
              try rw [nI_ltI (by omega) (by omega)] at h30
              try rw [nI_leI (by omega) (by omega)] at h37
              try rw [nI_ltI (by omega) (by omega)] at h77
              try rw [nI_leI (by omega) (by omega)] at h84
              try rw [nI_leI (by omega) (by omega)] at h7
              have h0 := nI_pos (n := b) (by omega)
              first | exact h0 h1 | (rcases h with q | q | q | q <;> omega)
            · intro h77
              refine x_iload_n (pc := 80) d_R_mayStand_80 2 rfl ?_
              refine x_sipush (pc := 81) (nI 179) d_R_mayStand_81 (by decide) ?_
              refine x_icmp_le (pc := 84) (tgt := 89) d_R_mayStand_84 rfl ?_ ?_
              · intro h84
                obtain ⟨b, hb1, hb2, rfl⟩ := le_of (x := x) (a := 100) (b := 179) (by decide) (decide_eq_true ⟨Int32.not_lt.mp h77, h84⟩) (by decide)
                refine x_iload_n (pc := 89) d_R_mayStand_89 2 rfl ?_
                refine x_bipush (pc := 90) (nI 100) d_R_mayStand_90 (by decide) ?_
                first | refine x_isubN (pc := 92) d_R_mayStand_92 (by omega) ?_ | refine x_isub (pc := 92) d_R_mayStand_92 ?_
                refine x_bipush (pc := 93) (nI 10) d_R_mayStand_93 (by decide) ?_
                first | refine x_idivN (pc := 95) d_R_mayStand_95 (by omega) (by omega) (by omega) ?_ | refine x_idiv (pc := 95) d_R_mayStand_95 (by decide) ?_
                refine x_istore_n (pc := 96) d_R_mayStand_96 rfl (by decide) [(3, _), (0, _), (1, _), (2, _)] rfl ?_
                refine x_aload_n (pc := 97) d_R_mayStand_97 1 rfl ?_
                refine x_iload_n (pc := 98) d_R_mayStand_98 0 rfl ?_
                refine x_callV_I (pc := 99) (ci := 4) d_R_mayStand_99 k_R_64 wi_R_isLambda wv_R_isLambda w_R_isLambda ini_R wd_R_isLambda ⟨by decide, by decide⟩ ⟨rfl, rfl⟩ ⟨Nat.zero_le _, Nat.zero_le _⟩ 0 rfl rfl (t_R_isLambda) rfl rfl (Nat.le_of_ble_eq_true rfl) ?_
                rw [hl_nI hc8 (by omega)]
                first | refine x_if_eqB (pc := 102) (tgt := 131) d_R_mayStand_102 rfl ?_ ?_ | refine x_if_eqL (pc := 102) (tgt := 131) d_R_mayStand_102 rfl ?_ ?_ | refine x_if_eqN (pc := 102) (tgt := 131) d_R_mayStand_102 rfl (by omega) ?_ ?_ | refine x_if_eq (pc := 102) (tgt := 131) d_R_mayStand_102 rfl ?_ ?_
                · intro h102
                  have g102 := of_decide_eq_false h102
                  refine x_iconst (pc := 131) (nI 0) d_R_mayStand_131 (by decide) ?_
                  refine x_zret (pc := 132) d_R_mayStand_132 rfl (by first | rfl | exact bI_narrow _) ?_
                  first
                    | exact zt (mst_t ((mso_par hb1 (by omega)).mpr ⟨g102, by omega, ar_of h124⟩))
                    | exact zf (mst_f (fun z => g102 ((mso_par hb1 (by omega)).mp z).1))
                    | exact zf (mst_f (fun z => ar_no h124 ((mso_par hb1 (by omega)).mp z).2.2))
                    | exact zf (mst_f (fun z => by
                        have q := ((mso_par hb1 (by omega)).mp z).2.1
                        omega))
                · intro h102
                  have g102 := of_decide_eq_true h102
                  have hpb := hw.2.2.2.1 ((b - 100) / 10) (by omega)
                  refine x_iload_n (pc := 105) d_R_mayStand_105 3 rfl ?_
                  refine x_bipush (pc := 106) (nI 10) d_R_mayStand_106 (by decide) ?_
                  first | refine x_iremN (pc := 108) d_R_mayStand_108 (by omega) (by omega) (by omega) ?_ | refine x_irem (pc := 108) d_R_mayStand_108 (by decide) ?_
                  refine x_aload_n (pc := 109) d_R_mayStand_109 1 rfl ?_
                  refine x_get (pc := 110) (ci := 4) d_R_mayStand_110 in_R rfl 2 (by decide) k_R_17 0 rfl rfl ?_
                  refine x_iload_n (pc := 113) d_R_mayStand_113 0 rfl ?_
                  refine x_ialdN (pc := 114) d_R_mayStand_114 2 0 rfl rfl (by omega) (by omega) ?_
                  first | refine x_icmp_geN (pc := 115) (tgt := 131) d_R_mayStand_115 rfl (by omega) (by omega) ?_ ?_ | refine x_icmp_ge (pc := 115) (tgt := 131) d_R_mayStand_115 rfl ?_ ?_
                  · intro h115
                    refine x_iconst (pc := 131) (nI 0) d_R_mayStand_131 (by decide) ?_
                    refine x_zret (pc := 132) d_R_mayStand_132 rfl (by first | rfl | exact bI_narrow _) ?_
                    first
                      | exact zt (mst_t ((mso_par hb1 (by omega)).mpr ⟨g102, by omega, ar_of h124⟩))
                      | exact zf (mst_f (fun z => g102 ((mso_par hb1 (by omega)).mp z).1))
                      | exact zf (mst_f (fun z => ar_no h124 ((mso_par hb1 (by omega)).mp z).2.2))
                      | exact zf (mst_f (fun z => by
                          have q := ((mso_par hb1 (by omega)).mp z).2.1
                          omega))
                  · intro h115
                    refine x_aload_n (pc := 118) d_R_mayStand_118 1 rfl ?_
                    refine x_iload_n (pc := 119) d_R_mayStand_119 0 rfl ?_
                    refine x_iload_n (pc := 120) d_R_mayStand_120 2 rfl ?_
                    refine x_callV_I (pc := 121) (ci := 4) d_R_mayStand_121 k_R_71 wi_R_around wv_R_around w_R_around ini_R wd_R_around ⟨by decide, by decide⟩ ⟨rfl, rfl⟩ ⟨Nat.zero_le _, Nat.zero_le _⟩ 0 rfl rfl (t_R_around hw.2.2.1 hc8 hlx (by omega)) rfl rfl (Nat.le_of_ble_eq_true rfl) ?_
                    first | refine x_if_eqB (pc := 124) (tgt := 131) d_R_mayStand_124 rfl ?_ ?_ | refine x_if_eqL (pc := 124) (tgt := 131) d_R_mayStand_124 rfl ?_ ?_ | refine x_if_eqN (pc := 124) (tgt := 131) d_R_mayStand_124 rfl (by omega) ?_ ?_ | refine x_if_eq (pc := 124) (tgt := 131) d_R_mayStand_124 rfl ?_ ?_
                    · intro h124
                      refine x_iconst (pc := 131) (nI 0) d_R_mayStand_131 (by decide) ?_
                      refine x_zret (pc := 132) d_R_mayStand_132 rfl (by first | rfl | exact bI_narrow _) ?_
                      first
                        | exact zt (mst_t ((mso_par hb1 (by omega)).mpr ⟨g102, by omega, ar_of h124⟩))
                        | exact zf (mst_f (fun z => g102 ((mso_par hb1 (by omega)).mp z).1))
                        | exact zf (mst_f (fun z => ar_no h124 ((mso_par hb1 (by omega)).mp z).2.2))
                        | exact zf (mst_f (fun z => by
                            have q := ((mso_par hb1 (by omega)).mp z).2.1
                            omega))
                    · intro h124
                      refine x_iconst (pc := 127) (nI 1) d_R_mayStand_127 (by decide) ?_
                      refine x_goto (pc := 128) (tgt := 132) d_R_mayStand_128 rfl ?_
                      refine x_zret (pc := 132) d_R_mayStand_132 rfl (by first | rfl | exact bI_narrow _) ?_
                      first
                        | exact zt (mst_t ((mso_par hb1 (by omega)).mpr ⟨g102, by omega, ar_of h124⟩))
                        | exact zf (mst_f (fun z => g102 ((mso_par hb1 (by omega)).mp z).1))
                        | exact zf (mst_f (fun z => ar_no h124 ((mso_par hb1 (by omega)).mp z).2.2))
                        | exact zf (mst_f (fun z => by
                            have q := ((mso_par hb1 (by omega)).mp z).2.1
                            omega))
              · intro h84
                refine x_iconst (pc := 87) (nI 0) d_R_mayStand_87 (by decide) ?_
                refine x_zret (pc := 88) d_R_mayStand_88 rfl (by first | rfl | exact bI_narrow _) ?_
                refine zf (mst_f (fun z => ?_))
                obtain ⟨b, hb, e, h⟩ := z
                subst e
                try rw [nI_ltI (by omega) (by omega)] at h14
                try rw [nI_ltI (by omega) (by omega)] at h21
                try rw [nI_ltI (by omega) (by omega)] at h30
                try rw [nI_leI (by omega) (by omega)] at h37
                try rw [nI_ltI (by omega) (by omega)] at h77
                try rw [nI_leI (by omega) (by omega)] at h84
                try rw [nI_leI (by omega) (by omega)] at h7
                have h0 := nI_pos (n := b) (by omega)
                first | exact h0 h1 | (rcases h with q | q | q | q <;> omega)
          · intro h30
            refine x_iload_n (pc := 33) d_R_mayStand_33 2 rfl ?_
            refine x_sipush (pc := 34) (nI 208) d_R_mayStand_34 (by decide) ?_
            refine x_icmp_ge (pc := 37) (tgt := 74) d_R_mayStand_37 rfl ?_ ?_
            · intro h37
              refine x_iload_n (pc := 74) d_R_mayStand_74 2 rfl ?_
              refine x_bipush (pc := 75) (nI 100) d_R_mayStand_75 (by decide) ?_
              refine x_icmp_lt (pc := 77) (tgt := 87) d_R_mayStand_77 rfl ?_ ?_
              · intro h77
                refine x_iconst (pc := 87) (nI 0) d_R_mayStand_87 (by decide) ?_
                refine x_zret (pc := 88) d_R_mayStand_88 rfl (by first | rfl | exact bI_narrow _) ?_
                refine zf (mst_f (fun z => ?_))
                obtain ⟨b, hb, e, h⟩ := z
                subst e
                try rw [nI_ltI (by omega) (by omega)] at h14
                try rw [nI_ltI (by omega) (by omega)] at h21
                try rw [nI_ltI (by omega) (by omega)] at h30
                try rw [nI_leI (by omega) (by omega)] at h37
                try rw [nI_ltI (by omega) (by omega)] at h77
                try rw [nI_leI (by omega) (by omega)] at h84
                try rw [nI_leI (by omega) (by omega)] at h7
                have h0 := nI_pos (n := b) (by omega)
                first | exact h0 h1 | (rcases h with q | q | q | q <;> omega)
              · intro h77
                refine x_iload_n (pc := 80) d_R_mayStand_80 2 rfl ?_
                refine x_sipush (pc := 81) (nI 179) d_R_mayStand_81 (by decide) ?_
                refine x_icmp_le (pc := 84) (tgt := 89) d_R_mayStand_84 rfl ?_ ?_
                · intro h84
                  obtain ⟨b, hb1, hb2, rfl⟩ := le_of (x := x) (a := 100) (b := 179) (by decide) (decide_eq_true ⟨Int32.not_lt.mp h77, h84⟩) (by decide)
                  refine x_iload_n (pc := 89) d_R_mayStand_89 2 rfl ?_
                  refine x_bipush (pc := 90) (nI 100) d_R_mayStand_90 (by decide) ?_
                  first | refine x_isubN (pc := 92) d_R_mayStand_92 (by omega) ?_ | refine x_isub (pc := 92) d_R_mayStand_92 ?_
                  refine x_bipush (pc := 93) (nI 10) d_R_mayStand_93 (by decide) ?_
                  first | refine x_idivN (pc := 95) d_R_mayStand_95 (by omega) (by omega) (by omega) ?_ | refine x_idiv (pc := 95) d_R_mayStand_95 (by decide) ?_
                  refine x_istore_n (pc := 96) d_R_mayStand_96 rfl (by decide) [(3, _), (0, _), (1, _), (2, _)] rfl ?_
                  refine x_aload_n (pc := 97) d_R_mayStand_97 1 rfl ?_
                  refine x_iload_n (pc := 98) d_R_mayStand_98 0 rfl ?_
                  refine x_callV_I (pc := 99) (ci := 4) d_R_mayStand_99 k_R_64 wi_R_isLambda wv_R_isLambda w_R_isLambda ini_R wd_R_isLambda ⟨by decide, by decide⟩ ⟨rfl, rfl⟩ ⟨Nat.zero_le _, Nat.zero_le _⟩ 0 rfl rfl (t_R_isLambda) rfl rfl (Nat.le_of_ble_eq_true rfl) ?_
                  rw [hl_nI hc8 (by omega)]
                  first | refine x_if_eqB (pc := 102) (tgt := 131) d_R_mayStand_102 rfl ?_ ?_ | refine x_if_eqL (pc := 102) (tgt := 131) d_R_mayStand_102 rfl ?_ ?_ | refine x_if_eqN (pc := 102) (tgt := 131) d_R_mayStand_102 rfl (by omega) ?_ ?_ | refine x_if_eq (pc := 102) (tgt := 131) d_R_mayStand_102 rfl ?_ ?_
                  · intro h102
                    have g102 := of_decide_eq_false h102
                    refine x_iconst (pc := 131) (nI 0) d_R_mayStand_131 (by decide) ?_
                    refine x_zret (pc := 132) d_R_mayStand_132 rfl (by first | rfl | exact bI_narrow _) ?_
                    first
                      | exact zt (mst_t ((mso_par hb1 (by omega)).mpr ⟨g102, by omega, ar_of h124⟩))
                      | exact zf (mst_f (fun z => g102 ((mso_par hb1 (by omega)).mp z).1))
                      | exact zf (mst_f (fun z => ar_no h124 ((mso_par hb1 (by omega)).mp z).2.2))
                      | exact zf (mst_f (fun z => by
                          have q := ((mso_par hb1 (by omega)).mp z).2.1
                          omega))
                  · intro h102
                    have g102 := of_decide_eq_true h102
                    have hpb := hw.2.2.2.1 ((b - 100) / 10) (by omega)
                    refine x_iload_n (pc := 105) d_R_mayStand_105 3 rfl ?_
                    refine x_bipush (pc := 106) (nI 10) d_R_mayStand_106 (by decide) ?_
                    first | refine x_iremN (pc := 108) d_R_mayStand_108 (by omega) (by omega) (by omega) ?_ | refine x_irem (pc := 108) d_R_mayStand_108 (by decide) ?_
                    refine x_aload_n (pc := 109) d_R_mayStand_109 1 rfl ?_
                    refine x_get (pc := 110) (ci := 4) d_R_mayStand_110 in_R rfl 2 (by decide) k_R_17 0 rfl rfl ?_
                    refine x_iload_n (pc := 113) d_R_mayStand_113 0 rfl ?_
                    refine x_ialdN (pc := 114) d_R_mayStand_114 2 0 rfl rfl (by omega) (by omega) ?_
                    first | refine x_icmp_geN (pc := 115) (tgt := 131) d_R_mayStand_115 rfl (by omega) (by omega) ?_ ?_ | refine x_icmp_ge (pc := 115) (tgt := 131) d_R_mayStand_115 rfl ?_ ?_
                    · intro h115
                      refine x_iconst (pc := 131) (nI 0) d_R_mayStand_131 (by decide) ?_
                      refine x_zret (pc := 132) d_R_mayStand_132 rfl (by first | rfl | exact bI_narrow _) ?_
                      first
                        | exact zt (mst_t ((mso_par hb1 (by omega)).mpr ⟨g102, by omega, ar_of h124⟩))
                        | exact zf (mst_f (fun z => g102 ((mso_par hb1 (by omega)).mp z).1))
                        | exact zf (mst_f (fun z => ar_no h124 ((mso_par hb1 (by omega)).mp z).2.2))
                        | exact zf (mst_f (fun z => by
                            have q := ((mso_par hb1 (by omega)).mp z).2.1
                            omega))
                    · intro h115
                      refine x_aload_n (pc := 118) d_R_mayStand_118 1 rfl ?_
                      refine x_iload_n (pc := 119) d_R_mayStand_119 0 rfl ?_
                      refine x_iload_n (pc := 120) d_R_mayStand_120 2 rfl ?_
                      refine x_callV_I (pc := 121) (ci := 4) d_R_mayStand_121 k_R_71 wi_R_around wv_R_around w_R_around ini_R wd_R_around ⟨by decide, by decide⟩ ⟨rfl, rfl⟩ ⟨Nat.zero_le _, Nat.zero_le _⟩ 0 rfl rfl (t_R_around hw.2.2.1 hc8 hlx (by omega)) rfl rfl (Nat.le_of_ble_eq_true rfl) ?_
                      first | refine x_if_eqB (pc := 124) (tgt := 131) d_R_mayStand_124 rfl ?_ ?_ | refine x_if_eqL (pc := 124) (tgt := 131) d_R_mayStand_124 rfl ?_ ?_ | refine x_if_eqN (pc := 124) (tgt := 131) d_R_mayStand_124 rfl (by omega) ?_ ?_ | refine x_if_eq (pc := 124) (tgt := 131) d_R_mayStand_124 rfl ?_ ?_
                      · intro h124
                        refine x_iconst (pc := 131) (nI 0) d_R_mayStand_131 (by decide) ?_
                        refine x_zret (pc := 132) d_R_mayStand_132 rfl (by first | rfl | exact bI_narrow _) ?_
                        first
                          | exact zt (mst_t ((mso_par hb1 (by omega)).mpr ⟨g102, by omega, ar_of h124⟩))
                          | exact zf (mst_f (fun z => g102 ((mso_par hb1 (by omega)).mp z).1))
                          | exact zf (mst_f (fun z => ar_no h124 ((mso_par hb1 (by omega)).mp z).2.2))
                          | exact zf (mst_f (fun z => by
                              have q := ((mso_par hb1 (by omega)).mp z).2.1
                              omega))
                      · intro h124
                        refine x_iconst (pc := 127) (nI 1) d_R_mayStand_127 (by decide) ?_
                        refine x_goto (pc := 128) (tgt := 132) d_R_mayStand_128 rfl ?_
                        refine x_zret (pc := 132) d_R_mayStand_132 rfl (by first | rfl | exact bI_narrow _) ?_
                        first
                          | exact zt (mst_t ((mso_par hb1 (by omega)).mpr ⟨g102, by omega, ar_of h124⟩))
                          | exact zf (mst_f (fun z => g102 ((mso_par hb1 (by omega)).mp z).1))
                          | exact zf (mst_f (fun z => ar_no h124 ((mso_par hb1 (by omega)).mp z).2.2))
                          | exact zf (mst_f (fun z => by
                              have q := ((mso_par hb1 (by omega)).mp z).2.1
                              omega))
                · intro h84
                  refine x_iconst (pc := 87) (nI 0) d_R_mayStand_87 (by decide) ?_
                  refine x_zret (pc := 88) d_R_mayStand_88 rfl (by first | rfl | exact bI_narrow _) ?_
                  refine zf (mst_f (fun z => ?_))
                  obtain ⟨b, hb, e, h⟩ := z
                  subst e
                  try rw [nI_ltI (by omega) (by omega)] at h14
                  try rw [nI_ltI (by omega) (by omega)] at h21
                  try rw [nI_ltI (by omega) (by omega)] at h30
                  try rw [nI_leI (by omega) (by omega)] at h37
                  try rw [nI_ltI (by omega) (by omega)] at h77
                  try rw [nI_leI (by omega) (by omega)] at h84
                  try rw [nI_leI (by omega) (by omega)] at h7
                  have h0 := nI_pos (n := b) (by omega)
                  first | exact h0 h1 | (rcases h with q | q | q | q <;> omega)
            · intro h37
              obtain ⟨b, hb1, hb2, rfl⟩ := lo_of (x := x) (a := 200) (b := 208) (by decide) (decide_eq_true ⟨Int32.not_lt.mp h30, Int32.not_le.mp h37⟩) (by decide)
              refine x_iload_n (pc := 40) d_R_mayStand_40 2 rfl ?_
              refine x_sipush (pc := 41) (nI 200) d_R_mayStand_41 (by decide) ?_
              first | refine x_isubN (pc := 44) d_R_mayStand_44 (by omega) ?_ | refine x_isub (pc := 44) d_R_mayStand_44 ?_
              refine x_istore_n (pc := 45) d_R_mayStand_45 rfl (by decide) [(3, _), (0, _), (1, _), (2, _)] rfl ?_
              refine x_iload_n (pc := 46) d_R_mayStand_46 0 rfl ?_
              first | refine x_if_leN (pc := 47) (tgt := 72) d_R_mayStand_47 rfl (by omega) ?_ ?_ | refine x_if_le (pc := 47) (tgt := 72) d_R_mayStand_47 rfl ?_ ?_
              · intro h47
                refine x_iconst (pc := 72) (nI 0) d_R_mayStand_72 (by decide) ?_
                refine x_zret (pc := 73) d_R_mayStand_73 rfl (by first | rfl | exact bI_narrow _) ?_
                first
                  | exact zt (mst_t ((mso_lam hp0 (by omega) hb1 hb2).mpr ⟨g55, h65⟩))
                  | exact zf (mst_f (fun z => h65 ((mso_lam hp0 (by omega) hb1 hb2).mp z).2))
                  | exact zf (mst_f (fun z => g55 ((mso_lam hp0 (by omega) hb1 hb2).mp z).1))
                  | exact zf (mst_f (fun z => by
                      have q := ((mso_lam hp0 (by omega) hb1 hb2).mp z).2
                      rw [h47, hp0] at q
                      exact m1_ne (by omega) q))
              · intro h47
                refine x_aload_n (pc := 50) d_R_mayStand_50 1 rfl ?_
                refine x_iload_n (pc := 51) d_R_mayStand_51 0 rfl ?_
                refine x_callV_I (pc := 52) (ci := 4) d_R_mayStand_52 k_R_64 wi_R_isLambda wv_R_isLambda w_R_isLambda ini_R wd_R_isLambda ⟨by decide, by decide⟩ ⟨rfl, rfl⟩ ⟨Nat.zero_le _, Nat.zero_le _⟩ 0 rfl rfl (t_R_isLambda) rfl rfl (Nat.le_of_ble_eq_true rfl) ?_
                rw [hl_nI hc8 (by omega)]
                first | refine x_if_eqB (pc := 55) (tgt := 72) d_R_mayStand_55 rfl ?_ ?_ | refine x_if_eqL (pc := 55) (tgt := 72) d_R_mayStand_55 rfl ?_ ?_ | refine x_if_eqN (pc := 55) (tgt := 72) d_R_mayStand_55 rfl (by omega) ?_ ?_ | refine x_if_eq (pc := 55) (tgt := 72) d_R_mayStand_55 rfl ?_ ?_
                · intro h55
                  have g55 := of_decide_eq_false h55
                  refine x_iconst (pc := 72) (nI 0) d_R_mayStand_72 (by decide) ?_
                  refine x_zret (pc := 73) d_R_mayStand_73 rfl (by first | rfl | exact bI_narrow _) ?_
                  first
                    | exact zt (mst_t ((mso_lam hp0 (by omega) hb1 hb2).mpr ⟨g55, h65⟩))
                    | exact zf (mst_f (fun z => h65 ((mso_lam hp0 (by omega) hb1 hb2).mp z).2))
                    | exact zf (mst_f (fun z => g55 ((mso_lam hp0 (by omega) hb1 hb2).mp z).1))
                    | exact zf (mst_f (fun z => by
                        have q := ((mso_lam hp0 (by omega) hb1 hb2).mp z).2
                        rw [h47, hp0] at q
                        exact m1_ne (by omega) q))
                · intro h55
                  have g55 := of_decide_eq_true h55
                  refine x_aload_n (pc := 58) d_R_mayStand_58 1 rfl ?_
                  refine x_get (pc := 59) (ci := 4) d_R_mayStand_59 in_R rfl 1 (by decide) k_R_13 0 rfl rfl ?_
                  refine x_iload_n (pc := 62) d_R_mayStand_62 0 rfl ?_
                  refine x_ialdN (pc := 63) d_R_mayStand_63 1 0 rfl rfl (by omega) (by omega) ?_
                  refine x_iload_n (pc := 64) d_R_mayStand_64 2 rfl ?_
                  refine x_icmp_ne (pc := 65) (tgt := 72) d_R_mayStand_65 rfl ?_ ?_
                  · intro h65
                    refine x_iconst (pc := 72) (nI 0) d_R_mayStand_72 (by decide) ?_
                    refine x_zret (pc := 73) d_R_mayStand_73 rfl (by first | rfl | exact bI_narrow _) ?_
                    first
                      | exact zt (mst_t ((mso_lam hp0 (by omega) hb1 hb2).mpr ⟨g55, h65⟩))
                      | exact zf (mst_f (fun z => h65 ((mso_lam hp0 (by omega) hb1 hb2).mp z).2))
                      | exact zf (mst_f (fun z => g55 ((mso_lam hp0 (by omega) hb1 hb2).mp z).1))
                      | exact zf (mst_f (fun z => by
                          have q := ((mso_lam hp0 (by omega) hb1 hb2).mp z).2
                          rw [h47, hp0] at q
                          exact m1_ne (by omega) q))
                  · intro h65
                    refine x_iconst (pc := 68) (nI 1) d_R_mayStand_68 (by decide) ?_
                    refine x_goto (pc := 69) (tgt := 73) d_R_mayStand_69 rfl ?_
                    refine x_zret (pc := 73) d_R_mayStand_73 rfl (by first | rfl | exact bI_narrow _) ?_
                    first
                      | exact zt (mst_t ((mso_lam hp0 (by omega) hb1 hb2).mpr ⟨g55, h65⟩))
                      | exact zf (mst_f (fun z => h65 ((mso_lam hp0 (by omega) hb1 hb2).mp z).2))
                      | exact zf (mst_f (fun z => g55 ((mso_lam hp0 (by omega) hb1 hb2).mp z).1))
                      | exact zf (mst_f (fun z => by
                          have q := ((mso_lam hp0 (by omega) hb1 hb2).mp z).2
                          rw [h47, hp0] at q
                          exact m1_ne (by omega) q))
        · intro h21
          refine x_iconst (pc := 24) (nI 1) d_R_mayStand_24 (by decide) ?_
          refine x_zret (pc := 25) d_R_mayStand_25 rfl (by first | rfl | exact bI_narrow _) ?_
          first | exact zt (mst_t (mso_num h1 h7)) | exact zt (mst_t (mso_pri h14 h21))
set_option maxHeartbeats 4000000 in
set_option maxRecDepth 100000 in
theorem t_R_put {x y : Int32} (hw : pwf cnt par prm siz atm) : CT l y_R_put c_R_put 3 (some .boolean) (rmm 2 46) (gG D cI cL) [.ref (ad 0), .int x, .int y] (wR ad cI cL par prm siz atm cnt mo he en ap oc cal el eu ev ag an kk P Q S F R ch AP AQ) (fun v w2 => (∃ lx b, putok cnt par prm siz x y lx b ∧ v = some (.int (bI true)) ∧ w2 = (wR ad cI cL par prm (un siz lx (siz lx + 1)) (un atm (4 * lx + siz lx) b) cnt 0 he en ap oc cal el eu ev ag false kk P Q S F R ch AP AQ)) ∨ ((¬ ∃ lx b, putok cnt par prm siz x y lx b) ∧ v = some (.int (bI false)) ∧ w2 = (wR ad cI cL par prm siz atm cnt mo he en ap oc cal el eu ev ag an kk P Q S F R ch AP AQ))) := by
  refine CT.of R_R (by decide) rfl (Nat.le_of_ble_eq_true rfl) ?_
  intro E A hname
  have hc8 : cnt ≤ 8 := hw.2.1
  refine x_aload_n (pc := 0) d_R_put_0 0 rfl ?_
  refine x_iload_n (pc := 1) d_R_put_1 1 rfl ?_
  refine x_callV_I (pc := 2) (ci := 4) d_R_put_2 k_R_64 wi_R_isLambda wv_R_isLambda w_R_isLambda ini_R wd_R_isLambda ⟨by decide, by decide⟩ ⟨rfl, rfl⟩ ⟨Nat.zero_le _, Nat.zero_le _⟩ 0 rfl rfl (t_R_isLambda) rfl rfl (Nat.le_of_ble_eq_true rfl) ?_
  first | refine x_if_eqB (pc := 5) (tgt := 27) d_R_put_5 rfl ?_ ?_ | refine x_if_eqL (pc := 5) (tgt := 27) d_R_put_5 rfl ?_ ?_ | refine x_if_eqN (pc := 5) (tgt := 27) d_R_put_5 rfl (by omega) ?_ ?_ | refine x_if_eq (pc := 5) (tgt := 27) d_R_put_5 rfl ?_ ?_
  · intro h5
    refine x_iconst (pc := 27) (nI 0) d_R_put_27 (by decide) ?_
    refine x_zret (pc := 28) d_R_put_28 rfl (by first | rfl | exact bI_narrow _) ?_
    refine Or.inr ⟨fun q => ?_, rfl, rfl⟩
    obtain ⟨l2, b2, q1, q2, q3, q4, q5, q6⟩ := q
    first
      | (subst q5; rw [hl_in hc8 q1] at h5; cases h5)
      | (have e := nI_inj (by omega) (by omega) q5; subst e; omega)
      | (have e := nI_inj (by omega) (by omega) q5; subst e; exact mst_no h24 ⟨b2, q3, q6, q4⟩)
  · intro h5
    obtain ⟨lx, hlx, rfl⟩ := hl_of hc8 h5
    have hz := hw.2.2.2.2.2.1 lx (by omega)
    refine x_aload_n (pc := 8) d_R_put_8 0 rfl ?_
    refine x_get (pc := 9) (ci := 4) d_R_put_9 in_R rfl 3 (by decide) k_R_20 0 rfl rfl ?_
    refine x_iload_n (pc := 12) d_R_put_12 1 rfl ?_
    refine x_ialdN (pc := 13) d_R_put_13 3 0 rfl rfl (by omega) (by omega) ?_
    refine x_iconst (pc := 14) (nI 4) d_R_put_14 (by decide) ?_
    first | refine x_icmp_eqN (pc := 15) (tgt := 27) d_R_put_15 rfl (by omega) (by omega) ?_ ?_ | refine x_icmp_eq (pc := 15) (tgt := 27) d_R_put_15 rfl ?_ ?_
    · intro h15
      refine x_iconst (pc := 27) (nI 0) d_R_put_27 (by decide) ?_
      refine x_zret (pc := 28) d_R_put_28 rfl (by first | rfl | exact bI_narrow _) ?_
      refine Or.inr ⟨fun q => ?_, rfl, rfl⟩
      obtain ⟨l2, b2, q1, q2, q3, q4, q5, q6⟩ := q
      first
        | (subst q5; rw [hl_in hc8 q1] at h5; cases h5)
        | (have e := nI_inj (by omega) (by omega) q5; subst e; omega)
        | (have e := nI_inj (by omega) (by omega) q5; subst e; exact mst_no h24 ⟨b2, q3, q6, q4⟩)
    · intro h15
      refine x_aload_n (pc := 18) d_R_put_18 0 rfl ?_
      refine x_iload_n (pc := 19) d_R_put_19 1 rfl ?_
      refine x_iload_n (pc := 20) d_R_put_20 2 rfl ?_
      refine x_callV_I (pc := 21) (ci := 4) d_R_put_21 k_R_75 wi_R_mayStand wv_R_mayStand w_R_mayStand ini_R wd_R_mayStand ⟨by decide, by decide⟩ ⟨rfl, rfl⟩ ⟨Nat.zero_le _, Nat.zero_le _⟩ 0 rfl rfl (t_R_mayStand hw hlx) rfl rfl (Nat.le_of_ble_eq_true rfl) ?_
      first | refine x_if_neB (pc := 24) (tgt := 29) d_R_put_24 rfl ?_ ?_ | refine x_if_neL (pc := 24) (tgt := 29) d_R_put_24 rfl ?_ ?_ | refine x_if_neN (pc := 24) (tgt := 29) d_R_put_24 rfl (by omega) ?_ ?_ | refine x_if_ne (pc := 24) (tgt := 29) d_R_put_24 rfl ?_ ?_
      · intro h24
        obtain ⟨b, hb, rfl, hok⟩ := mst_of h24
        refine x_aload_n (pc := 29) d_R_put_29 0 rfl ?_
        refine x_get (pc := 30) (ci := 4) d_R_put_30 in_R rfl 4 (by decide) k_R_23 0 rfl rfl ?_
        refine x_iconst (pc := 33) (nI 4) d_R_put_33 (by decide) ?_
        refine x_iload_n (pc := 34) d_R_put_34 1 rfl ?_
        first | refine x_imulN (pc := 35) d_R_put_35 ?_ | refine x_imul (pc := 35) d_R_put_35 ?_
        refine x_aload_n (pc := 36) d_R_put_36 0 rfl ?_
        refine x_get (pc := 37) (ci := 4) d_R_put_37 in_R rfl 3 (by decide) k_R_20 0 rfl rfl ?_
        refine x_iload_n (pc := 40) d_R_put_40 1 rfl ?_
        refine x_ialdN (pc := 41) d_R_put_41 3 0 rfl rfl (by omega) (by omega) ?_
        first | refine x_iaddN (pc := 42) d_R_put_42 ?_ | refine x_iadd (pc := 42) d_R_put_42 ?_
        refine x_iload_n (pc := 43) d_R_put_43 2 rfl ?_
        first | refine x_iastU (pc := 44) d_R_put_44 4 0 rfl rfl (by omega) (by omega) ?_ | refine x_iastN (pc := 44) d_R_put_44 4 0 rfl rfl (by omega) (by omega) _ rfl ?_
        refine x_aload_n (pc := 45) d_R_put_45 0 rfl ?_
        refine x_get (pc := 46) (ci := 4) d_R_put_46 in_R rfl 3 (by decide) k_R_20 0 rfl rfl ?_
        refine x_iload_n (pc := 49) d_R_put_49 1 rfl ?_
        refine x_dup2 (pc := 50) d_R_put_50 rfl rfl ?_
        refine x_ialdN (pc := 51) d_R_put_51 3 0 rfl rfl (by omega) (by omega) ?_
        refine x_iconst (pc := 52) (nI 1) d_R_put_52 (by decide) ?_
        first | refine x_iaddN (pc := 53) d_R_put_53 ?_ | refine x_iadd (pc := 53) d_R_put_53 ?_
        first | refine x_iastU (pc := 54) d_R_put_54 3 0 rfl rfl (by omega) (by omega) ?_ | refine x_iastN (pc := 54) d_R_put_54 3 0 rfl rfl (by omega) (by omega) _ rfl ?_
        refine x_aload_n (pc := 55) d_R_put_55 0 rfl ?_
        refine x_w (w2 := (wR ad cI cL par prm (un siz lx (siz lx + 1)) (un atm (4 * lx + siz lx) b) cnt mo he en ap oc cal el eu ev ag an kk P Q S F R ch AP AQ)) rfl ?_
        refine x_callV_Z (pc := 56) (ci := 4) d_R_put_56 k_R_68 wi_R_change wv_R_change w_R_change ini_R wd_R_change ⟨by decide, by decide⟩ ⟨rfl, rfl⟩ ⟨Nat.zero_le _, Nat.zero_le _⟩ 0 rfl rfl (t_R_change) rfl rfl (Nat.le_of_ble_eq_true rfl) ?_
        refine x_iconst (pc := 59) (nI 1) d_R_put_59 (by decide) ?_
        refine x_zret (pc := 60) d_R_put_60 rfl (by first | rfl | exact bI_narrow _) ?_
        exact Or.inl ⟨lx, b, ⟨hlx, by omega, hb, hok, rfl, rfl⟩, rfl, rfl⟩
      · intro h24
        refine x_iconst (pc := 27) (nI 0) d_R_put_27 (by decide) ?_
        refine x_zret (pc := 28) d_R_put_28 rfl (by first | rfl | exact bI_narrow _) ?_
        refine Or.inr ⟨fun q => ?_, rfl, rfl⟩
        obtain ⟨l2, b2, q1, q2, q3, q4, q5, q6⟩ := q
        first
          | (subst q5; rw [hl_in hc8 q1] at h5; cases h5)
          | (have e := nI_inj (by omega) (by omega) q5; subst e; omega)
          | (have e := nI_inj (by omega) (by omega) q5; subst e; exact mst_no h24 ⟨b2, q3, q6, q4⟩)
set_option maxHeartbeats 4000000 in
set_option maxRecDepth 100000 in
theorem t_R_clear  : CT l y_R_clear c_R_clear 1 none (rmm 1 20) (gG D cI cL) [.ref (ad 0)] (wR ad cI cL par prm siz atm cnt mo he en ap oc cal el eu ev ag an kk P Q S F R ch AP AQ) (pV (wR ad cI cL par prm (un siz 0 0) atm 1 0 he en ap oc cal el eu ev ag false kk P Q S F R ch AP AQ)) := by
  refine CT.of R_R (by decide) rfl (Nat.le_of_ble_eq_true rfl) ?_
  intro E A hname
  refine x_aload_n (pc := 0) d_R_clear_0 0 rfl ?_
  refine x_iconst (pc := 1) (nI 1) d_R_clear_1 (by decide) ?_
  refine x_put (pc := 2) (ci := 4) (ty := .int) d_R_clear_2 in_R t_R ty_R nm_R rfl 0 (by decide) k_R_7 rfl (by decide +kernel) rfl rfl 0 rfl (Nat.le_of_ble_eq_true rfl) (_) (rfl) ?_
  refine x_aload_n (pc := 5) d_R_clear_5 0 rfl ?_
  refine x_get (pc := 6) (ci := 4) d_R_clear_6 in_R rfl 3 (by decide) k_R_20 0 rfl rfl ?_
  refine x_iconst (pc := 9) (nI 0) d_R_clear_9 (by decide) ?_
  refine x_iconst (pc := 10) (nI 0) d_R_clear_10 (by decide) ?_
  first | refine x_iastU (pc := 11) d_R_clear_11 3 0 rfl rfl (by omega) (by omega) ?_ | refine x_iastN (pc := 11) d_R_clear_11 3 0 rfl rfl (by omega) (by omega) _ rfl ?_
  refine x_aload_n (pc := 12) d_R_clear_12 0 rfl ?_
  refine x_w (w2 := (wR ad cI cL par prm (un siz 0 0) atm 1 mo he en ap oc cal el eu ev ag an kk P Q S F R ch AP AQ)) rfl ?_
  refine x_callV_Z (pc := 13) (ci := 4) d_R_clear_13 k_R_68 wi_R_change wv_R_change w_R_change ini_R wd_R_change ⟨by decide, by decide⟩ ⟨rfl, rfl⟩ ⟨Nat.zero_le _, Nat.zero_le _⟩ 0 rfl rfl (t_R_change) rfl rfl (Nat.le_of_ble_eq_true rfl) ?_
  refine x_vret (pc := 16) d_R_clear_16 rfl ?_
  exact ⟨rfl, rfl⟩
set_option maxHeartbeats 4000000 in
set_option maxRecDepth 100000 in
theorem t_R_lambdas  : CT l y_R_lambdas c_R_lambdas 1 (some .int) (rmm 0 0) (gG D cI cL) [.ref (ad 0)] (wR ad cI cL par prm siz atm cnt mo he en ap oc cal el eu ev ag an kk P Q S F R ch AP AQ) (pI (nI cnt) (wR ad cI cL par prm siz atm cnt mo he en ap oc cal el eu ev ag an kk P Q S F R ch AP AQ)) := by
  refine CT.of R_R (by decide) rfl (Nat.le_of_ble_eq_true rfl) ?_
  intro E A hname
  refine x_aload_n (pc := 0) d_R_lambdas_0 0 rfl ?_
  refine x_get (pc := 1) (ci := 4) d_R_lambdas_1 in_R rfl 0 (by decide) k_R_7 0 rfl rfl ?_
  refine x_iret (pc := 4) d_R_lambdas_4 rfl ?_
  exact ⟨rfl, rfl⟩
end REF1
