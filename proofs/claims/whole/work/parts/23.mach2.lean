section MACH2
variable {l : Launch} {D : va_G} {ad : Nat → Nat} {cI cL : ClassId} {par : Nat → Int32} {prm : Nat → Nat} {lin : Nat → Int32} {siz atm : Nat → Nat} {cnt : Nat} {own out bnd : Nat → Nat} {cal : Nat → Int32} {opr : Nat → Nat} {n ph oc : Nat} {P : Nat → Int32} {Q : Nat → Int64} {OC : Nat → Int32} {OP : Nat → Int64} {F : Nat → Int32} {S : Int64} {R : Int32} {vis nc : Nat} {gr md : Bool}
set_option maxHeartbeats 4000000 in
set_option maxRecDepth 100000 in
theorem t_M_enter {mm e k xx : Nat} (hn : n ≤ 64) (ho : own n < 8) (hm8 : mm < 32) (hk : k ≤ 3) : CT l y_M_enter c_M_enter 5 none (rmm 1 20) (gG D cI cL) [.ref (ad 2), .int (nI mm), .int (nI e), .int (nI k)] (wC ad cI cL par prm lin siz atm cnt own out bnd cal opr n ph oc P Q OC OP F S R vis nc gr md) (fun v w2 => v = none ∧ ∃ s2, s2 = mdo (2, mm, e, k, xx) (fun i => opr (1 + i)) (n, own, out, bnd, cal, ph, oc) ∧ w2 = (wC ad cI cL par prm lin siz atm cnt s2.2.1 s2.2.2.1 s2.2.2.2.1 s2.2.2.2.2.1 opr s2.1 s2.2.2.2.2.2.1 s2.2.2.2.2.2.2 P Q OC OP F S R vis nc gr md)) := by
  refine CT.of R_M (by decide) rfl (Nat.le_of_ble_eq_true rfl) ?_
  intro E A hname
  refine x_aload_n (pc := 0) d_M_enter_0 0 rfl ?_
  refine x_get (pc := 1) (ci := 1) d_M_enter_1 in_M rfl 6 (by decide) k_M_35 2 rfl rfl ?_
  refine x_bipush (pc := 4) (nI 64) d_M_enter_4 (by decide) ?_
  first | refine x_icmp_neN (pc := 6) (tgt := 15) d_M_enter_6 rfl (by omega) (by omega) ?_ ?_ | refine x_icmp_ne (pc := 6) (tgt := 15) d_M_enter_6 rfl ?_ ?_
  · intro h6
    refine x_aload_n (pc := 15) d_M_enter_15 0 rfl ?_
    refine x_get (pc := 16) (ci := 1) d_M_enter_16 in_M rfl 4 (by decide) k_M_21 2 rfl rfl ?_
    refine x_aload_n (pc := 19) d_M_enter_19 0 rfl ?_
    refine x_callV_I (pc := 20) (ci := 1) d_M_enter_20 k_M_56 wi_M_place wv_M_place w_M_place ini_M wd_M_place ⟨by decide, by decide⟩ ⟨rfl, rfl⟩ ⟨Nat.zero_le _, Nat.zero_le _⟩ 2 rfl rfl (t_M_place hn) rfl rfl (Nat.le_of_ble_eq_true rfl) ?_
    refine x_dup2 (pc := 23) d_M_enter_23 rfl rfl ?_
    refine x_ialdN (pc := 24) d_M_enter_24 12 0 rfl rfl (by omega) (by omega) ?_
    refine x_iconst (pc := 25) (nI 1) d_M_enter_25 (by decide) ?_
    refine x_iload_n (pc := 26) d_M_enter_26 1 rfl ?_
    refine x_ishl (pc := 27) d_M_enter_27 ?_
    refine x_ior (pc := 28) d_M_enter_28 ?_
    first | refine x_iastU (pc := 29) d_M_enter_29 12 0 rfl rfl (by omega) (by omega) ?_ | refine x_iastN (pc := 29) d_M_enter_29 12 0 rfl rfl (by omega) (by omega) _ rfl ?_
    refine x_aload_n (pc := 30) d_M_enter_30 0 rfl ?_
    refine x_dup (pc := 31) d_M_enter_31 rfl ?_
    refine x_get (pc := 32) (ci := 1) d_M_enter_32 in_M rfl 6 (by decide) k_M_35 2 rfl rfl ?_
    refine x_iconst (pc := 35) (nI 1) d_M_enter_35 (by decide) ?_
    first | refine x_iaddN (pc := 36) d_M_enter_36 ?_ | refine x_iadd (pc := 36) d_M_enter_36 ?_
    refine x_put (pc := 37) (ci := 1) (ty := .int) d_M_enter_37 in_M t_M ty_M nm_M rfl 6 (by decide) k_M_35 rfl (by decide +kernel) rfl rfl 2 rfl (Nat.le_of_ble_eq_true rfl) (_) (rfl) ?_
    refine x_aload_n (pc := 40) d_M_enter_40 0 rfl ?_
    refine x_get (pc := 41) (ci := 1) d_M_enter_41 in_M rfl 1 (by decide) k_M_11 2 rfl rfl ?_
    refine x_aload_n (pc := 44) d_M_enter_44 0 rfl ?_
    refine x_get (pc := 45) (ci := 1) d_M_enter_45 in_M rfl 6 (by decide) k_M_35 2 rfl rfl ?_
    refine x_iload_n (pc := 48) d_M_enter_48 1 rfl ?_
    first | refine x_iastU (pc := 49) d_M_enter_49 9 0 rfl rfl (by omega) (by omega) ?_ | refine x_iastN (pc := 49) d_M_enter_49 9 0 rfl rfl (by omega) (by omega) _ rfl ?_
    refine x_aload_n (pc := 50) d_M_enter_50 0 rfl ?_
    refine x_get (pc := 51) (ci := 1) d_M_enter_51 in_M rfl 2 (by decide) k_M_15 2 rfl rfl ?_
    refine x_aload_n (pc := 54) d_M_enter_54 0 rfl ?_
    refine x_get (pc := 55) (ci := 1) d_M_enter_55 in_M rfl 6 (by decide) k_M_35 2 rfl rfl ?_
    refine x_iload_n (pc := 58) d_M_enter_58 2 rfl ?_
    first | refine x_iastU (pc := 59) d_M_enter_59 10 0 rfl rfl (by omega) (by omega) ?_ | refine x_iastN (pc := 59) d_M_enter_59 10 0 rfl rfl (by omega) (by omega) _ rfl ?_
    refine x_iconst (pc := 60) (nI 0) d_M_enter_60 (by decide) ?_
    refine x_istore (pc := 61) d_M_enter_61 (by decide) [(4, _), (0, _), (1, _), (2, _), (3, _)] rfl ?_
    have hlp : ∀ (fuel : Nat) (i : Nat), k - i < fuel → (i ≤ k) → xj E l (rmm 1 20) c_M_enter 5 none R_M (gG D cI cL) A 0 0 (fun v w2 => v = none ∧ ∃ s2, s2 = mdo (2, mm, e, k, xx) (fun i => opr (1 + i)) (n, own, out, bnd, cal, ph, oc) ∧ w2 = (wC ad cI cL par prm lin siz atm cnt s2.2.1 s2.2.2.1 s2.2.2.2.1 s2.2.2.2.2.1 opr s2.1 s2.2.2.2.2.2.1 s2.2.2.2.2.2.2 P Q OC OP F S R vis nc gr md)) 0 0 (wC ad cI cL par prm lin siz atm cnt (un own (n + 1) mm) (un out (n + 1) e) (bst bnd (3 * (n + 1)) (fun i => opr (1 + i)) i) (upd cal (own n) (cal (own n) ||| 1 <<< (nI mm &&& 31))) opr (n + 1) ph oc P Q OC OP F S R vis nc gr md) 63 [(4, .int (nI i)), (0, .ref (ad 2)), (1, .int (nI mm)), (2, .int (nI e)), (3, .int (nI k))] [] := by
      intro fuel
      induction fuel with
      | zero => intro i hf; exact absurd hf (Nat.not_lt_zero _)
      | succ fuel ih =>
        intro i hf hi
        refine x_iload (pc := 63) d_M_enter_63 0 rfl ?_
        refine x_iload_n (pc := 65) d_M_enter_65 4 rfl ?_
        first | refine x_icmp_geN (pc := 66) (tgt := 98) d_M_enter_66 rfl (by omega) (by omega) ?_ ?_ | refine x_icmp_ge (pc := 66) (tgt := 98) d_M_enter_66 rfl ?_ ?_
        · intro h66
          refine x_vret (pc := 98) d_M_enter_98 rfl ?_
          have e1 : i = k := by omega
          subst e1
          exact ⟨rfl, _, (mdo_enter h6).symm, rfl⟩
        · intro h66
          refine x_aload_n (pc := 69) d_M_enter_69 1 rfl ?_
          refine x_get (pc := 70) (ci := 1) d_M_enter_70 in_M rfl 3 (by decide) k_M_18 2 rfl rfl ?_
          refine x_aload_n (pc := 73) d_M_enter_73 1 rfl ?_
          refine x_get (pc := 74) (ci := 1) d_M_enter_74 in_M rfl 6 (by decide) k_M_35 2 rfl rfl ?_
          refine x_iconst (pc := 77) (nI 3) d_M_enter_77 (by decide) ?_
          first | refine x_imulN (pc := 78) d_M_enter_78 ?_ | refine x_imul (pc := 78) d_M_enter_78 ?_
          refine x_iload (pc := 79) d_M_enter_79 0 rfl ?_
          first | refine x_iaddN (pc := 81) d_M_enter_81 ?_ | refine x_iadd (pc := 81) d_M_enter_81 ?_
          refine x_aload_n (pc := 82) d_M_enter_82 1 rfl ?_
          refine x_get (pc := 83) (ci := 1) d_M_enter_83 in_M rfl 5 (by decide) k_M_24 2 rfl rfl ?_
          refine x_iconst (pc := 86) (nI 1) d_M_enter_86 (by decide) ?_
          refine x_iload (pc := 87) d_M_enter_87 0 rfl ?_
          first | refine x_iaddN (pc := 89) d_M_enter_89 ?_ | refine x_iadd (pc := 89) d_M_enter_89 ?_
          refine x_ialdN (pc := 90) d_M_enter_90 13 0 rfl rfl (by omega) (by omega) ?_
          rw [Nat.mul_comm (n + 1) 3]
          first | refine x_iastU (pc := 91) d_M_enter_91 11 0 rfl rfl (by omega) (by omega) ?_ | refine x_iastN (pc := 91) d_M_enter_91 11 0 rfl rfl (by omega) (by omega) _ rfl ?_
          refine x_iincN (pc := 92) d_M_enter_92 0 rfl (by decide) [(4, _), (0, _), (1, _), (2, _), (3, _)] rfl ?_
          refine x_goto (pc := 95) (tgt := 63) d_M_enter_95 rfl ?_
          refine x_sub [0, 1, 2, 3, 4] _ rfl ?_
          exact ih (i + 1) (by omega) (by omega)
    refine x_sub [0, 1, 2, 3, 4] _ rfl ?_
    exact hlp (k + 1) 0 (by omega) (by omega)
  · intro h6
    refine x_aload_n (pc := 9) d_M_enter_9 0 rfl ?_
    refine x_iconst (pc := 10) (nI 4) d_M_enter_10 (by decide) ?_
    refine x_put (pc := 11) (ci := 1) (ty := .int) d_M_enter_11 in_M t_M ty_M nm_M rfl 7 (by decide) k_M_31 rfl (by decide +kernel) rfl rfl 2 rfl (Nat.le_of_ble_eq_true rfl) (_) (rfl) ?_
    refine x_vret (pc := 14) d_M_enter_14 rfl ?_
    exact ⟨rfl, _, (mdo_full h6).symm, rfl⟩
set_option maxHeartbeats 4000000 in
set_option maxRecDepth 100000 in
theorem t_M_applyDirectly {f k : Nat} (hn : n ≤ 64) (ho : own n < 8) (hp : ∀ l, l < 8 → prm l ≤ 3) (hf : f < 2147483648) (hk : k ≤ 3) : CT l y_M_applyDirectly c_M_applyDirectly 4 none (rmm 2 44) (gG D cI cL) [.ref (ad 2), .int (nI f), .int (nI k)] (wC ad cI cL par prm lin siz atm cnt own out bnd cal opr n ph oc P Q OC OP F S R vis nc gr md) (fun v w2 => v = none ∧ ∃ s2, s2 = mdo (mdir prm f k (opr 1)) (fun i => opr (1 + i)) (n, own, out, bnd, cal, ph, oc) ∧ w2 = (wC ad cI cL par prm lin siz atm cnt s2.2.1 s2.2.2.1 s2.2.2.2.1 s2.2.2.2.2.1 opr s2.1 s2.2.2.2.2.2.1 s2.2.2.2.2.2.2 P Q OC OP F S R vis nc gr md)) := by
  refine CT.of R_M (by decide) rfl (Nat.le_of_ble_eq_true rfl) ?_
  intro E A hname
  refine x_iload_n (pc := 0) d_M_applyDirectly_0 1 rfl ?_
  refine x_callSN_I (pc := 1) d_M_applyDirectly_1 k_M_98 ws_C_told w_C_told ini_C wd_C_told ⟨by decide, by decide⟩ ⟨rfl, rfl⟩ ⟨Nat.zero_le _, Nat.zero_le _⟩ (t_C_told) rfl rfl (Nat.le_of_ble_eq_true rfl) ?_
  rw [nI_rem (by omega) (by omega)]
  refine x_istore_n (pc := 4) d_M_applyDirectly_4 rfl (by decide) [(3, _), (0, _), (1, _), (2, _)] rfl ?_
  refine x_iload_n (pc := 5) d_M_applyDirectly_5 0 rfl ?_
  refine x_callSN_I (pc := 6) d_M_applyDirectly_6 k_M_88 ws_C_isLambda w_C_isLambda ini_C wd_C_isLambda ⟨by decide, by decide⟩ ⟨rfl, rfl⟩ ⟨Nat.zero_le _, Nat.zero_le _⟩ (t_C_isLambda) rfl rfl (Nat.le_of_ble_eq_true rfl) ?_
  rw [lo_nI (by omega) (by omega) (by omega)]
  first | refine x_if_eqB (pc := 9) (tgt := 46) d_M_applyDirectly_9 rfl ?_ ?_ | refine x_if_eqL (pc := 9) (tgt := 46) d_M_applyDirectly_9 rfl ?_ ?_ | refine x_if_eqN (pc := 9) (tgt := 46) d_M_applyDirectly_9 rfl (by omega) ?_ ?_ | refine x_if_eq (pc := 9) (tgt := 46) d_M_applyDirectly_9 rfl ?_ ?_
  · intro h9
    have g9 := of_decide_eq_false h9
    refine x_iload_n (pc := 46) d_M_applyDirectly_46 2 rfl ?_
    refine x_sipush (pc := 47) (nI 300) d_M_applyDirectly_47 (by decide) ?_
    first | refine x_icmp_neN (pc := 50) (tgt := 76) d_M_applyDirectly_50 rfl (by omega) (by omega) ?_ ?_ | refine x_icmp_ne (pc := 50) (tgt := 76) d_M_applyDirectly_50 rfl ?_ ?_
    · intro h50
      refine x_aload_n (pc := 76) d_M_applyDirectly_76 1 rfl ?_
      refine x_iconst (pc := 77) (nI 3) d_M_applyDirectly_77 (by decide) ?_
      refine x_put (pc := 78) (ci := 1) (ty := .int) d_M_applyDirectly_78 in_M t_M ty_M nm_M rfl 7 (by decide) k_M_31 rfl (by decide +kernel) rfl rfl 2 rfl (Nat.le_of_ble_eq_true rfl) (_) (rfl) ?_
      refine x_vret (pc := 81) d_M_applyDirectly_81 rfl ?_
      first
        | exact ⟨rfl, s2, by rw [mdir_2 g9 h25]; exact hs, rfl⟩
        | exact ⟨rfl, (n, own, out, bnd, cal, 2, opr 1), by rw [mdir_1 h50 h55]; rfl, rfl⟩
        | exact ⟨rfl, (n, own, out, bnd, cal, 3, oc), by rw [mdir_0 (fun q => g9 q.1) (fun q => h50 q.1)]; rfl, rfl⟩
        | exact ⟨rfl, (n, own, out, bnd, cal, 3, oc), by rw [mdir_0 (fun q => g9 q.1) (fun q => h55 q.2)]; rfl, rfl⟩
        | exact ⟨rfl, (n, own, out, bnd, cal, 3, oc), by rw [mdir_0 (fun q => h25 q.2) (fun q => h50 q.1)]; rfl, rfl⟩
        | exact ⟨rfl, (n, own, out, bnd, cal, 3, oc), by rw [mdir_0 (fun q => h25 q.2) (fun q => h55 q.2)]; rfl, rfl⟩
    · intro h50
      refine x_iload_n (pc := 53) d_M_applyDirectly_53 3 rfl ?_
      refine x_iconst (pc := 54) (nI 1) d_M_applyDirectly_54 (by decide) ?_
      first | refine x_icmp_neN (pc := 55) (tgt := 76) d_M_applyDirectly_55 rfl (by omega) (by omega) ?_ ?_ | refine x_icmp_ne (pc := 55) (tgt := 76) d_M_applyDirectly_55 rfl ?_ ?_
      · intro h55
        refine x_aload_n (pc := 76) d_M_applyDirectly_76 1 rfl ?_
        refine x_iconst (pc := 77) (nI 3) d_M_applyDirectly_77 (by decide) ?_
        refine x_put (pc := 78) (ci := 1) (ty := .int) d_M_applyDirectly_78 in_M t_M ty_M nm_M rfl 7 (by decide) k_M_31 rfl (by decide +kernel) rfl rfl 2 rfl (Nat.le_of_ble_eq_true rfl) (_) (rfl) ?_
        refine x_vret (pc := 81) d_M_applyDirectly_81 rfl ?_
        first
          | exact ⟨rfl, s2, by rw [mdir_2 g9 h25]; exact hs, rfl⟩
          | exact ⟨rfl, (n, own, out, bnd, cal, 2, opr 1), by rw [mdir_1 h50 h55]; rfl, rfl⟩
          | exact ⟨rfl, (n, own, out, bnd, cal, 3, oc), by rw [mdir_0 (fun q => g9 q.1) (fun q => h50 q.1)]; rfl, rfl⟩
          | exact ⟨rfl, (n, own, out, bnd, cal, 3, oc), by rw [mdir_0 (fun q => g9 q.1) (fun q => h55 q.2)]; rfl, rfl⟩
          | exact ⟨rfl, (n, own, out, bnd, cal, 3, oc), by rw [mdir_0 (fun q => h25 q.2) (fun q => h50 q.1)]; rfl, rfl⟩
          | exact ⟨rfl, (n, own, out, bnd, cal, 3, oc), by rw [mdir_0 (fun q => h25 q.2) (fun q => h55 q.2)]; rfl, rfl⟩
      · intro h55
        refine x_aload_n (pc := 58) d_M_applyDirectly_58 1 rfl ?_
        refine x_aload_n (pc := 59) d_M_applyDirectly_59 1 rfl ?_
        refine x_get (pc := 60) (ci := 1) d_M_applyDirectly_60 in_M rfl 5 (by decide) k_M_24 2 rfl rfl ?_
        refine x_iconst (pc := 63) (nI 1) d_M_applyDirectly_63 (by decide) ?_
        refine x_ialdN (pc := 64) d_M_applyDirectly_64 13 0 rfl rfl (by omega) (by omega) ?_
        refine x_put (pc := 65) (ci := 1) (ty := .int) d_M_applyDirectly_65 in_M t_M ty_M nm_M rfl 8 (by decide) k_M_44 rfl (by decide +kernel) rfl rfl 2 rfl (Nat.le_of_ble_eq_true rfl) (_) (rfl) ?_
        refine x_aload_n (pc := 68) d_M_applyDirectly_68 1 rfl ?_
        refine x_iconst (pc := 69) (nI 2) d_M_applyDirectly_69 (by decide) ?_
        refine x_put (pc := 70) (ci := 1) (ty := .int) d_M_applyDirectly_70 in_M t_M ty_M nm_M rfl 7 (by decide) k_M_31 rfl (by decide +kernel) rfl rfl 2 rfl (Nat.le_of_ble_eq_true rfl) (_) (rfl) ?_
        refine x_goto (pc := 73) (tgt := 81) d_M_applyDirectly_73 rfl ?_
        refine x_vret (pc := 81) d_M_applyDirectly_81 rfl ?_
        first
          | exact ⟨rfl, s2, by rw [mdir_2 g9 h25]; exact hs, rfl⟩
          | exact ⟨rfl, (n, own, out, bnd, cal, 2, opr 1), by rw [mdir_1 h50 h55]; rfl, rfl⟩
          | exact ⟨rfl, (n, own, out, bnd, cal, 3, oc), by rw [mdir_0 (fun q => g9 q.1) (fun q => h50 q.1)]; rfl, rfl⟩
          | exact ⟨rfl, (n, own, out, bnd, cal, 3, oc), by rw [mdir_0 (fun q => g9 q.1) (fun q => h55 q.2)]; rfl, rfl⟩
          | exact ⟨rfl, (n, own, out, bnd, cal, 3, oc), by rw [mdir_0 (fun q => h25 q.2) (fun q => h50 q.1)]; rfl, rfl⟩
          | exact ⟨rfl, (n, own, out, bnd, cal, 3, oc), by rw [mdir_0 (fun q => h25 q.2) (fun q => h55 q.2)]; rfl, rfl⟩
  · intro h9
    have g9 := of_decide_eq_true h9
    have hpp := hp (f % 1000 - 200) (by omega)
    refine x_aload_n (pc := 12) d_M_applyDirectly_12 1 rfl ?_
    refine x_get (pc := 13) (ci := 1) d_M_applyDirectly_13 in_M rfl 0 (by decide) k_M_27 2 rfl rfl ?_
    refine x_iload_n (pc := 16) d_M_applyDirectly_16 0 rfl ?_
    refine x_sipush (pc := 17) (nI 200) d_M_applyDirectly_17 (by decide) ?_
    first | refine x_isubN (pc := 20) d_M_applyDirectly_20 (by omega) ?_ | refine x_isub (pc := 20) d_M_applyDirectly_20 ?_
    refine x_callV_I (pc := 21) (ci := 2) d_M_applyDirectly_21 k_M_101 wi_P_paramsOf wv_P_paramsOf w_P_paramsOf ini_P wd_P_paramsOf ⟨by decide, by decide⟩ ⟨rfl, rfl⟩ ⟨Nat.zero_le _, Nat.zero_le _⟩ 1 rfl rfl (t_P_paramsOf (by omega)) rfl rfl (Nat.le_of_ble_eq_true rfl) ?_
    refine x_iload_n (pc := 24) d_M_applyDirectly_24 3 rfl ?_
    first | refine x_icmp_neN (pc := 25) (tgt := 46) d_M_applyDirectly_25 rfl (by omega) (by omega) ?_ ?_ | refine x_icmp_ne (pc := 25) (tgt := 46) d_M_applyDirectly_25 rfl ?_ ?_
    · intro h25
      refine x_iload_n (pc := 46) d_M_applyDirectly_46 2 rfl ?_
      refine x_sipush (pc := 47) (nI 300) d_M_applyDirectly_47 (by decide) ?_
      first | refine x_icmp_neN (pc := 50) (tgt := 76) d_M_applyDirectly_50 rfl (by omega) (by omega) ?_ ?_ | refine x_icmp_ne (pc := 50) (tgt := 76) d_M_applyDirectly_50 rfl ?_ ?_
      · intro h50
        refine x_aload_n (pc := 76) d_M_applyDirectly_76 1 rfl ?_
        refine x_iconst (pc := 77) (nI 3) d_M_applyDirectly_77 (by decide) ?_
        refine x_put (pc := 78) (ci := 1) (ty := .int) d_M_applyDirectly_78 in_M t_M ty_M nm_M rfl 7 (by decide) k_M_31 rfl (by decide +kernel) rfl rfl 2 rfl (Nat.le_of_ble_eq_true rfl) (_) (rfl) ?_
        refine x_vret (pc := 81) d_M_applyDirectly_81 rfl ?_
        first
          | exact ⟨rfl, s2, by rw [mdir_2 g9 h25]; exact hs, rfl⟩
          | exact ⟨rfl, (n, own, out, bnd, cal, 2, opr 1), by rw [mdir_1 h50 h55]; rfl, rfl⟩
          | exact ⟨rfl, (n, own, out, bnd, cal, 3, oc), by rw [mdir_0 (fun q => g9 q.1) (fun q => h50 q.1)]; rfl, rfl⟩
          | exact ⟨rfl, (n, own, out, bnd, cal, 3, oc), by rw [mdir_0 (fun q => g9 q.1) (fun q => h55 q.2)]; rfl, rfl⟩
          | exact ⟨rfl, (n, own, out, bnd, cal, 3, oc), by rw [mdir_0 (fun q => h25 q.2) (fun q => h50 q.1)]; rfl, rfl⟩
          | exact ⟨rfl, (n, own, out, bnd, cal, 3, oc), by rw [mdir_0 (fun q => h25 q.2) (fun q => h55 q.2)]; rfl, rfl⟩
      · intro h50
        refine x_iload_n (pc := 53) d_M_applyDirectly_53 3 rfl ?_
        refine x_iconst (pc := 54) (nI 1) d_M_applyDirectly_54 (by decide) ?_
        first | refine x_icmp_neN (pc := 55) (tgt := 76) d_M_applyDirectly_55 rfl (by omega) (by omega) ?_ ?_ | refine x_icmp_ne (pc := 55) (tgt := 76) d_M_applyDirectly_55 rfl ?_ ?_
        · intro h55
          refine x_aload_n (pc := 76) d_M_applyDirectly_76 1 rfl ?_
          refine x_iconst (pc := 77) (nI 3) d_M_applyDirectly_77 (by decide) ?_
          refine x_put (pc := 78) (ci := 1) (ty := .int) d_M_applyDirectly_78 in_M t_M ty_M nm_M rfl 7 (by decide) k_M_31 rfl (by decide +kernel) rfl rfl 2 rfl (Nat.le_of_ble_eq_true rfl) (_) (rfl) ?_
          refine x_vret (pc := 81) d_M_applyDirectly_81 rfl ?_
          first
            | exact ⟨rfl, s2, by rw [mdir_2 g9 h25]; exact hs, rfl⟩
            | exact ⟨rfl, (n, own, out, bnd, cal, 2, opr 1), by rw [mdir_1 h50 h55]; rfl, rfl⟩
            | exact ⟨rfl, (n, own, out, bnd, cal, 3, oc), by rw [mdir_0 (fun q => g9 q.1) (fun q => h50 q.1)]; rfl, rfl⟩
            | exact ⟨rfl, (n, own, out, bnd, cal, 3, oc), by rw [mdir_0 (fun q => g9 q.1) (fun q => h55 q.2)]; rfl, rfl⟩
            | exact ⟨rfl, (n, own, out, bnd, cal, 3, oc), by rw [mdir_0 (fun q => h25 q.2) (fun q => h50 q.1)]; rfl, rfl⟩
            | exact ⟨rfl, (n, own, out, bnd, cal, 3, oc), by rw [mdir_0 (fun q => h25 q.2) (fun q => h55 q.2)]; rfl, rfl⟩
        · intro h55
          refine x_aload_n (pc := 58) d_M_applyDirectly_58 1 rfl ?_
          refine x_aload_n (pc := 59) d_M_applyDirectly_59 1 rfl ?_
          refine x_get (pc := 60) (ci := 1) d_M_applyDirectly_60 in_M rfl 5 (by decide) k_M_24 2 rfl rfl ?_
          refine x_iconst (pc := 63) (nI 1) d_M_applyDirectly_63 (by decide) ?_
          refine x_ialdN (pc := 64) d_M_applyDirectly_64 13 0 rfl rfl (by omega) (by omega) ?_
          refine x_put (pc := 65) (ci := 1) (ty := .int) d_M_applyDirectly_65 in_M t_M ty_M nm_M rfl 8 (by decide) k_M_44 rfl (by decide +kernel) rfl rfl 2 rfl (Nat.le_of_ble_eq_true rfl) (_) (rfl) ?_
          refine x_aload_n (pc := 68) d_M_applyDirectly_68 1 rfl ?_
          refine x_iconst (pc := 69) (nI 2) d_M_applyDirectly_69 (by decide) ?_
          refine x_put (pc := 70) (ci := 1) (ty := .int) d_M_applyDirectly_70 in_M t_M ty_M nm_M rfl 7 (by decide) k_M_31 rfl (by decide +kernel) rfl rfl 2 rfl (Nat.le_of_ble_eq_true rfl) (_) (rfl) ?_
          refine x_goto (pc := 73) (tgt := 81) d_M_applyDirectly_73 rfl ?_
          refine x_vret (pc := 81) d_M_applyDirectly_81 rfl ?_
          first
            | exact ⟨rfl, s2, by rw [mdir_2 g9 h25]; exact hs, rfl⟩
            | exact ⟨rfl, (n, own, out, bnd, cal, 2, opr 1), by rw [mdir_1 h50 h55]; rfl, rfl⟩
            | exact ⟨rfl, (n, own, out, bnd, cal, 3, oc), by rw [mdir_0 (fun q => g9 q.1) (fun q => h50 q.1)]; rfl, rfl⟩
            | exact ⟨rfl, (n, own, out, bnd, cal, 3, oc), by rw [mdir_0 (fun q => g9 q.1) (fun q => h55 q.2)]; rfl, rfl⟩
            | exact ⟨rfl, (n, own, out, bnd, cal, 3, oc), by rw [mdir_0 (fun q => h25 q.2) (fun q => h50 q.1)]; rfl, rfl⟩
            | exact ⟨rfl, (n, own, out, bnd, cal, 3, oc), by rw [mdir_0 (fun q => h25 q.2) (fun q => h55 q.2)]; rfl, rfl⟩
    · intro h25
      refine x_aload_n (pc := 28) d_M_applyDirectly_28 1 rfl ?_
      refine x_iload_n (pc := 29) d_M_applyDirectly_29 0 rfl ?_
      refine x_sipush (pc := 30) (nI 200) d_M_applyDirectly_30 (by decide) ?_
      first | refine x_isubN (pc := 33) d_M_applyDirectly_33 (by omega) ?_ | refine x_isub (pc := 33) d_M_applyDirectly_33 ?_
      refine x_iload_n (pc := 34) d_M_applyDirectly_34 2 rfl ?_
      refine x_sipush (pc := 35) (nI 1000) d_M_applyDirectly_35 (by decide) ?_
      first | refine x_idivN (pc := 38) d_M_applyDirectly_38 (by omega) (by omega) (by omega) ?_ | refine x_idiv (pc := 38) d_M_applyDirectly_38 (by decide) ?_
      refine x_iload_n (pc := 39) d_M_applyDirectly_39 3 rfl ?_
      refine x_callV_X (pc := 40) (ci := 1) d_M_applyDirectly_40 k_M_104 wi_M_enter wv_M_enter w_M_enter ini_M wd_M_enter ⟨by decide, by decide⟩ ⟨rfl, rfl⟩ ⟨Nat.zero_le _, Nat.zero_le _⟩ 2 rfl rfl (t_M_enter (xx := opr 1) hn ho (by omega) hk) rfl rfl (Nat.le_of_ble_eq_true rfl) (fun v40 w40 hp40 => ?_)
      obtain ⟨rfl, s2, hs, rfl⟩ := hp40
      refine x_goto (pc := 43) (tgt := 81) d_M_applyDirectly_43 rfl ?_
      refine x_vret (pc := 81) d_M_applyDirectly_81 rfl ?_
      first
        | exact ⟨rfl, s2, by rw [mdir_2 g9 h25]; exact hs, rfl⟩
        | exact ⟨rfl, (n, own, out, bnd, cal, 2, opr 1), by rw [mdir_1 h50 h55]; rfl, rfl⟩
        | exact ⟨rfl, (n, own, out, bnd, cal, 3, oc), by rw [mdir_0 (fun q => g9 q.1) (fun q => h50 q.1)]; rfl, rfl⟩
        | exact ⟨rfl, (n, own, out, bnd, cal, 3, oc), by rw [mdir_0 (fun q => g9 q.1) (fun q => h55 q.2)]; rfl, rfl⟩
        | exact ⟨rfl, (n, own, out, bnd, cal, 3, oc), by rw [mdir_0 (fun q => h25 q.2) (fun q => h50 q.1)]; rfl, rfl⟩
        | exact ⟨rfl, (n, own, out, bnd, cal, 3, oc), by rw [mdir_0 (fun q => h25 q.2) (fun q => h55 q.2)]; rfl, rfl⟩
set_option maxHeartbeats 4000000 in
set_option maxRecDepth 100000 in
theorem t_M_applyOperator {k : Nat} (hn : n ≤ 64) (ho : own n < 8) (hp : ∀ l, l < 8 → prm l ≤ 3) (hopr : ∀ i, i < 4 → opr i < 100000) (hk : k ≤ 3) : CT l y_M_applyOperator c_M_applyOperator 3 none (rmm 3 67) (gG D cI cL) [.ref (ad 2), .int (nI k)] (wC ad cI cL par prm lin siz atm cnt own out bnd cal opr n ph oc P Q OC OP F S R vis nc gr md) (fun v w2 => v = none ∧ ∃ s2 o2, s2 = mdo (mact prm (k + 1) opr) (mar opr (mfst (k + 1) opr)) (n, own, out, bnd, cal, ph, oc) ∧ (∀ i, i < 4 → o2 i < 100000) ∧ w2 = (wC ad cI cL par prm lin siz atm cnt s2.2.1 s2.2.2.1 s2.2.2.2.1 s2.2.2.2.2.1 o2 s2.1 s2.2.2.2.2.2.1 s2.2.2.2.2.2.2 P Q OC OP F S R vis nc gr md)) := by
  refine CT.of R_M (by decide) rfl (Nat.le_of_ble_eq_true rfl) ?_
  intro E A hname
  have ho0 := hopr 0 (by omega)
  have ho1 := hopr 1 (by omega)
  have ho2 := hopr 2 (by omega)
  have ho3 := hopr 3 (by omega)
  refine x_iload_n (pc := 0) d_M_applyOperator_0 1 rfl ?_
  refine x_iconst (pc := 1) (nI 3) d_M_applyOperator_1 (by decide) ?_
  first | refine x_icmp_neN (pc := 2) (tgt := 21) d_M_applyOperator_2 rfl (by omega) (by omega) ?_ ?_ | refine x_icmp_ne (pc := 2) (tgt := 21) d_M_applyOperator_2 rfl ?_ ?_
  · intro h2
    refine x_iconst (pc := 21) (nI 0) d_M_applyOperator_21 (by decide) ?_
    refine x_istore_n (pc := 22) d_M_applyOperator_22 rfl (by decide) [(2, _), (0, _), (1, _)] rfl ?_
    refine x_iload_n (pc := 23) d_M_applyOperator_23 0 rfl ?_
    refine x_if_eqN (pc := 24) (tgt := 71) d_M_applyOperator_24 rfl (by decide) (fun _ => ?_) (fun q => absurd rfl q)
    refine x_iload_n (pc := 71) d_M_applyOperator_71 0 rfl ?_
    refine x_if_eqN (pc := 72) (tgt := 135) d_M_applyOperator_72 rfl (by decide) (fun _ => ?_) (fun q => absurd rfl q)
    refine x_aload_n (pc := 135) d_M_applyOperator_135 1 rfl ?_
    refine x_aload_n (pc := 136) d_M_applyOperator_136 1 rfl ?_
    refine x_get (pc := 137) (ci := 1) d_M_applyOperator_137 in_M rfl 5 (by decide) k_M_24 2 rfl rfl ?_
    refine x_iconst (pc := 140) (nI 0) d_M_applyOperator_140 (by decide) ?_
    refine x_ialdN (pc := 141) d_M_applyOperator_141 13 0 rfl rfl (by omega) (by omega) ?_
    refine x_iload_n (pc := 142) d_M_applyOperator_142 2 rfl ?_
    refine x_callV_X (pc := 143) (ci := 1) d_M_applyOperator_143 k_M_94 wi_M_applyDirectly wv_M_applyDirectly w_M_applyDirectly ini_M wd_M_applyDirectly ⟨by decide, by decide⟩ ⟨rfl, rfl⟩ ⟨Nat.zero_le _, Nat.zero_le _⟩ 2 rfl rfl (t_M_applyDirectly hn ho hp (by omega) hk) rfl rfl (Nat.le_of_ble_eq_true rfl) (fun v143 w143 hp143 => ?_)
    obtain ⟨rfl, s2, hs, rfl⟩ := hp143
    refine x_vret (pc := 146) d_M_applyOperator_146 rfl ?_
    refine ⟨rfl, s2, _, ?_, by first | exact hopr | exact un_small hopr (by omega), rfl⟩
    rw [hs]
    first
      | exact (mact_if (by omega) (by omega) (by omega) (by first | exact (if_pos (by omega)).symm | exact (if_neg (by omega)).symm)).symm
      | exact (mact_add (by omega) (by omega) (by omega) (by omega)).symm
      | exact (mact_oth (by omega) (by omega)).symm
  · intro h2
    refine x_aload_n (pc := 5) d_M_applyOperator_5 0 rfl ?_
    refine x_get (pc := 6) (ci := 1) d_M_applyOperator_6 in_M rfl 5 (by decide) k_M_24 2 rfl rfl ?_
    refine x_iconst (pc := 9) (nI 1) d_M_applyOperator_9 (by decide) ?_
    refine x_ialdN (pc := 10) d_M_applyOperator_10 13 0 rfl rfl (by omega) (by omega) ?_
    refine x_callSN_I (pc := 11) d_M_applyOperator_11 k_M_91 ws_C_isNumber w_C_isNumber ini_C wd_C_isNumber ⟨by decide, by decide⟩ ⟨rfl, rfl⟩ ⟨Nat.zero_le _, Nat.zero_le _⟩ (t_C_isNumber) rfl rfl (Nat.le_of_ble_eq_true rfl) ?_
    rw [lo_nI (by omega) (by omega) (by omega)]
    first | refine x_if_eqB (pc := 14) (tgt := 21) d_M_applyOperator_14 rfl ?_ ?_ | refine x_if_eqL (pc := 14) (tgt := 21) d_M_applyOperator_14 rfl ?_ ?_ | refine x_if_eqN (pc := 14) (tgt := 21) d_M_applyOperator_14 rfl (by omega) ?_ ?_ | refine x_if_eq (pc := 14) (tgt := 21) d_M_applyOperator_14 rfl ?_ ?_
    · intro h14
      have g14 := of_decide_eq_false h14
      refine x_iconst (pc := 21) (nI 0) d_M_applyOperator_21 (by decide) ?_
      refine x_istore_n (pc := 22) d_M_applyOperator_22 rfl (by decide) [(2, _), (0, _), (1, _)] rfl ?_
      refine x_iload_n (pc := 23) d_M_applyOperator_23 0 rfl ?_
      refine x_if_eqN (pc := 24) (tgt := 71) d_M_applyOperator_24 rfl (by decide) (fun _ => ?_) (fun q => absurd rfl q)
      refine x_iload_n (pc := 71) d_M_applyOperator_71 0 rfl ?_
      refine x_if_eqN (pc := 72) (tgt := 135) d_M_applyOperator_72 rfl (by decide) (fun _ => ?_) (fun q => absurd rfl q)
      refine x_aload_n (pc := 135) d_M_applyOperator_135 1 rfl ?_
      refine x_aload_n (pc := 136) d_M_applyOperator_136 1 rfl ?_
      refine x_get (pc := 137) (ci := 1) d_M_applyOperator_137 in_M rfl 5 (by decide) k_M_24 2 rfl rfl ?_
      refine x_iconst (pc := 140) (nI 0) d_M_applyOperator_140 (by decide) ?_
      refine x_ialdN (pc := 141) d_M_applyOperator_141 13 0 rfl rfl (by omega) (by omega) ?_
      refine x_iload_n (pc := 142) d_M_applyOperator_142 2 rfl ?_
      refine x_callV_X (pc := 143) (ci := 1) d_M_applyOperator_143 k_M_94 wi_M_applyDirectly wv_M_applyDirectly w_M_applyDirectly ini_M wd_M_applyDirectly ⟨by decide, by decide⟩ ⟨rfl, rfl⟩ ⟨Nat.zero_le _, Nat.zero_le _⟩ 2 rfl rfl (t_M_applyDirectly hn ho hp (by omega) hk) rfl rfl (Nat.le_of_ble_eq_true rfl) (fun v143 w143 hp143 => ?_)
      obtain ⟨rfl, s2, hs, rfl⟩ := hp143
      refine x_vret (pc := 146) d_M_applyOperator_146 rfl ?_
      refine ⟨rfl, s2, _, ?_, by first | exact hopr | exact un_small hopr (by omega), rfl⟩
      rw [hs]
      first
        | exact (mact_if (by omega) (by omega) (by omega) (by first | exact (if_pos (by omega)).symm | exact (if_neg (by omega)).symm)).symm
        | exact (mact_add (by omega) (by omega) (by omega) (by omega)).symm
        | exact (mact_oth (by omega) (by omega)).symm
    · intro h14
      have g14 := of_decide_eq_true h14
      refine x_iconst (pc := 17) (nI 1) d_M_applyOperator_17 (by decide) ?_
      refine x_goto (pc := 18) (tgt := 22) d_M_applyOperator_18 rfl ?_
      refine x_istore_n (pc := 22) d_M_applyOperator_22 rfl (by decide) [(2, _), (0, _), (1, _)] rfl ?_
      refine x_iload_n (pc := 23) d_M_applyOperator_23 0 rfl ?_
      refine x_if_eqN (pc := 24) (tgt := 71) d_M_applyOperator_24 rfl (by decide) (fun q => absurd q (by decide)) (fun _ => ?_)
      refine x_aload_n (pc := 27) d_M_applyOperator_27 1 rfl ?_
      refine x_get (pc := 28) (ci := 1) d_M_applyOperator_28 in_M rfl 5 (by decide) k_M_24 2 rfl rfl ?_
      refine x_iconst (pc := 31) (nI 0) d_M_applyOperator_31 (by decide) ?_
      refine x_ialdN (pc := 32) d_M_applyOperator_32 13 0 rfl rfl (by omega) (by omega) ?_
      refine x_sipush (pc := 33) (nI 302) d_M_applyOperator_33 (by decide) ?_
      first | refine x_icmp_neN (pc := 36) (tgt := 71) d_M_applyOperator_36 rfl (by omega) (by omega) ?_ ?_ | refine x_icmp_ne (pc := 36) (tgt := 71) d_M_applyOperator_36 rfl ?_ ?_
      · intro h36
        refine x_iload_n (pc := 71) d_M_applyOperator_71 0 rfl ?_
        refine x_if_eqN (pc := 72) (tgt := 135) d_M_applyOperator_72 rfl (by decide) (fun q => absurd q (by decide)) (fun _ => ?_)
        refine x_aload_n (pc := 75) d_M_applyOperator_75 1 rfl ?_
        refine x_get (pc := 76) (ci := 1) d_M_applyOperator_76 in_M rfl 5 (by decide) k_M_24 2 rfl rfl ?_
        refine x_iconst (pc := 79) (nI 0) d_M_applyOperator_79 (by decide) ?_
        refine x_ialdN (pc := 80) d_M_applyOperator_80 13 0 rfl rfl (by omega) (by omega) ?_
        refine x_sipush (pc := 81) (nI 301) d_M_applyOperator_81 (by decide) ?_
        first | refine x_icmp_neN (pc := 84) (tgt := 135) d_M_applyOperator_84 rfl (by omega) (by omega) ?_ ?_ | refine x_icmp_ne (pc := 84) (tgt := 135) d_M_applyOperator_84 rfl ?_ ?_
        · intro h84
          refine x_aload_n (pc := 135) d_M_applyOperator_135 1 rfl ?_
          refine x_aload_n (pc := 136) d_M_applyOperator_136 1 rfl ?_
          refine x_get (pc := 137) (ci := 1) d_M_applyOperator_137 in_M rfl 5 (by decide) k_M_24 2 rfl rfl ?_
          refine x_iconst (pc := 140) (nI 0) d_M_applyOperator_140 (by decide) ?_
          refine x_ialdN (pc := 141) d_M_applyOperator_141 13 0 rfl rfl (by omega) (by omega) ?_
          refine x_iload_n (pc := 142) d_M_applyOperator_142 2 rfl ?_
          refine x_callV_X (pc := 143) (ci := 1) d_M_applyOperator_143 k_M_94 wi_M_applyDirectly wv_M_applyDirectly w_M_applyDirectly ini_M wd_M_applyDirectly ⟨by decide, by decide⟩ ⟨rfl, rfl⟩ ⟨Nat.zero_le _, Nat.zero_le _⟩ 2 rfl rfl (t_M_applyDirectly hn ho hp (by omega) hk) rfl rfl (Nat.le_of_ble_eq_true rfl) (fun v143 w143 hp143 => ?_)
          obtain ⟨rfl, s2, hs, rfl⟩ := hp143
          refine x_vret (pc := 146) d_M_applyOperator_146 rfl ?_
          refine ⟨rfl, s2, _, ?_, by first | exact hopr | exact un_small hopr (by omega), rfl⟩
          rw [hs]
          first
            | exact (mact_if (by omega) (by omega) (by omega) (by first | exact (if_pos (by omega)).symm | exact (if_neg (by omega)).symm)).symm
            | exact (mact_add (by omega) (by omega) (by omega) (by omega)).symm
            | exact (mact_oth (by omega) (by omega)).symm
        · intro h84
          refine x_aload_n (pc := 87) d_M_applyOperator_87 1 rfl ?_
          refine x_get (pc := 88) (ci := 1) d_M_applyOperator_88 in_M rfl 5 (by decide) k_M_24 2 rfl rfl ?_
          refine x_iconst (pc := 91) (nI 2) d_M_applyOperator_91 (by decide) ?_
          refine x_ialdN (pc := 92) d_M_applyOperator_92 13 0 rfl rfl (by omega) (by omega) ?_
          refine x_callSN_I (pc := 93) d_M_applyOperator_93 k_M_91 ws_C_isNumber w_C_isNumber ini_C wd_C_isNumber ⟨by decide, by decide⟩ ⟨rfl, rfl⟩ ⟨Nat.zero_le _, Nat.zero_le _⟩ (t_C_isNumber) rfl rfl (Nat.le_of_ble_eq_true rfl) ?_
          rw [lo_nI (by omega) (by omega) (by omega)]
          first | refine x_if_eqB (pc := 96) (tgt := 135) d_M_applyOperator_96 rfl ?_ ?_ | refine x_if_eqL (pc := 96) (tgt := 135) d_M_applyOperator_96 rfl ?_ ?_ | refine x_if_eqN (pc := 96) (tgt := 135) d_M_applyOperator_96 rfl (by omega) ?_ ?_ | refine x_if_eq (pc := 96) (tgt := 135) d_M_applyOperator_96 rfl ?_ ?_
          · intro h96
            have g96 := of_decide_eq_false h96
            refine x_aload_n (pc := 135) d_M_applyOperator_135 1 rfl ?_
            refine x_aload_n (pc := 136) d_M_applyOperator_136 1 rfl ?_
            refine x_get (pc := 137) (ci := 1) d_M_applyOperator_137 in_M rfl 5 (by decide) k_M_24 2 rfl rfl ?_
            refine x_iconst (pc := 140) (nI 0) d_M_applyOperator_140 (by decide) ?_
            refine x_ialdN (pc := 141) d_M_applyOperator_141 13 0 rfl rfl (by omega) (by omega) ?_
            refine x_iload_n (pc := 142) d_M_applyOperator_142 2 rfl ?_
            refine x_callV_X (pc := 143) (ci := 1) d_M_applyOperator_143 k_M_94 wi_M_applyDirectly wv_M_applyDirectly w_M_applyDirectly ini_M wd_M_applyDirectly ⟨by decide, by decide⟩ ⟨rfl, rfl⟩ ⟨Nat.zero_le _, Nat.zero_le _⟩ 2 rfl rfl (t_M_applyDirectly hn ho hp (by omega) hk) rfl rfl (Nat.le_of_ble_eq_true rfl) (fun v143 w143 hp143 => ?_)
            obtain ⟨rfl, s2, hs, rfl⟩ := hp143
            refine x_vret (pc := 146) d_M_applyOperator_146 rfl ?_
            refine ⟨rfl, s2, _, ?_, by first | exact hopr | exact un_small hopr (by omega), rfl⟩
            rw [hs]
            first
              | exact (mact_if (by omega) (by omega) (by omega) (by first | exact (if_pos (by omega)).symm | exact (if_neg (by omega)).symm)).symm
              | exact (mact_add (by omega) (by omega) (by omega) (by omega)).symm
              | exact (mact_oth (by omega) (by omega)).symm
          · intro h96
            have g96 := of_decide_eq_true h96
            refine x_aload_n (pc := 99) d_M_applyOperator_99 1 rfl ?_
            refine x_get (pc := 100) (ci := 1) d_M_applyOperator_100 in_M rfl 5 (by decide) k_M_24 2 rfl rfl ?_
            refine x_iconst (pc := 103) (nI 1) d_M_applyOperator_103 (by decide) ?_
            refine x_aload_n (pc := 104) d_M_applyOperator_104 1 rfl ?_
            refine x_get (pc := 105) (ci := 1) d_M_applyOperator_105 in_M rfl 5 (by decide) k_M_24 2 rfl rfl ?_
            refine x_iconst (pc := 108) (nI 1) d_M_applyOperator_108 (by decide) ?_
            refine x_ialdN (pc := 109) d_M_applyOperator_109 13 0 rfl rfl (by omega) (by omega) ?_
            refine x_aload_n (pc := 110) d_M_applyOperator_110 1 rfl ?_
            refine x_get (pc := 111) (ci := 1) d_M_applyOperator_111 in_M rfl 5 (by decide) k_M_24 2 rfl rfl ?_
            refine x_iconst (pc := 114) (nI 2) d_M_applyOperator_114 (by decide) ?_
            refine x_ialdN (pc := 115) d_M_applyOperator_115 13 0 rfl rfl (by omega) (by omega) ?_
            first | refine x_iaddN (pc := 116) d_M_applyOperator_116 ?_ | refine x_iadd (pc := 116) d_M_applyOperator_116 ?_
            refine x_bipush (pc := 117) (nI 10) d_M_applyOperator_117 (by decide) ?_
            first | refine x_iremN (pc := 119) d_M_applyOperator_119 (by omega) (by omega) (by omega) ?_ | refine x_irem (pc := 119) d_M_applyOperator_119 (by decide) ?_
            first | refine x_iastU (pc := 120) d_M_applyOperator_120 13 0 rfl rfl (by omega) (by omega) ?_ | refine x_iastN (pc := 120) d_M_applyOperator_120 13 0 rfl rfl (by omega) (by omega) _ rfl ?_
            refine x_aload_n (pc := 121) d_M_applyOperator_121 1 rfl ?_
            refine x_aload_n (pc := 122) d_M_applyOperator_122 1 rfl ?_
            refine x_get (pc := 123) (ci := 1) d_M_applyOperator_123 in_M rfl 5 (by decide) k_M_24 2 rfl rfl ?_
            refine x_iconst (pc := 126) (nI 3) d_M_applyOperator_126 (by decide) ?_
            refine x_ialdN (pc := 127) d_M_applyOperator_127 13 0 rfl rfl (by omega) (by omega) ?_
            refine x_iconst (pc := 128) (nI 1) d_M_applyOperator_128 (by decide) ?_
            refine x_callV_X (pc := 129) (ci := 1) d_M_applyOperator_129 k_M_94 wi_M_applyDirectly wv_M_applyDirectly w_M_applyDirectly ini_M wd_M_applyDirectly ⟨by decide, by decide⟩ ⟨rfl, rfl⟩ ⟨Nat.zero_le _, Nat.zero_le _⟩ 2 rfl rfl (t_M_applyDirectly hn ho hp (by rw [un_ne _ _ (by decide)]; omega) (by omega)) rfl rfl (Nat.le_of_ble_eq_true rfl) (fun v129 w129 hp129 => ?_)
            obtain ⟨rfl, s2, hs, rfl⟩ := hp129
            refine x_goto (pc := 132) (tgt := 146) d_M_applyOperator_132 rfl ?_
            refine x_vret (pc := 146) d_M_applyOperator_146 rfl ?_
            refine ⟨rfl, s2, _, ?_, by first | exact hopr | exact un_small hopr (by omega), rfl⟩
            rw [hs]
            first
              | exact (mact_if (by omega) (by omega) (by omega) (by first | exact (if_pos (by omega)).symm | exact (if_neg (by omega)).symm)).symm
              | exact (mact_add (by omega) (by omega) (by omega) (by omega)).symm
              | exact (mact_oth (by omega) (by omega)).symm
      · intro h36
        refine x_aload_n (pc := 39) d_M_applyOperator_39 1 rfl ?_
        refine x_aload_n (pc := 40) d_M_applyOperator_40 1 rfl ?_
        refine x_get (pc := 41) (ci := 1) d_M_applyOperator_41 in_M rfl 5 (by decide) k_M_24 2 rfl rfl ?_
        refine x_iconst (pc := 44) (nI 1) d_M_applyOperator_44 (by decide) ?_
        refine x_ialdN (pc := 45) d_M_applyOperator_45 13 0 rfl rfl (by omega) (by omega) ?_
        first | refine x_if_neB (pc := 46) (tgt := 58) d_M_applyOperator_46 rfl ?_ ?_ | refine x_if_neL (pc := 46) (tgt := 58) d_M_applyOperator_46 rfl ?_ ?_ | refine x_if_neN (pc := 46) (tgt := 58) d_M_applyOperator_46 rfl (by omega) ?_ ?_ | refine x_if_ne (pc := 46) (tgt := 58) d_M_applyOperator_46 rfl ?_ ?_
        · intro h46
          refine x_aload_n (pc := 58) d_M_applyOperator_58 1 rfl ?_
          refine x_get (pc := 59) (ci := 1) d_M_applyOperator_59 in_M rfl 5 (by decide) k_M_24 2 rfl rfl ?_
          refine x_iconst (pc := 62) (nI 3) d_M_applyOperator_62 (by decide) ?_
          refine x_ialdN (pc := 63) d_M_applyOperator_63 13 0 rfl rfl (by omega) (by omega) ?_
          refine x_iconst (pc := 64) (nI 0) d_M_applyOperator_64 (by decide) ?_
          refine x_callV_X (pc := 65) (ci := 1) d_M_applyOperator_65 k_M_94 wi_M_applyDirectly wv_M_applyDirectly w_M_applyDirectly ini_M wd_M_applyDirectly ⟨by decide, by decide⟩ ⟨rfl, rfl⟩ ⟨Nat.zero_le _, Nat.zero_le _⟩ 2 rfl rfl (t_M_applyDirectly hn ho hp (by omega) (by omega)) rfl rfl (Nat.le_of_ble_eq_true rfl) (fun v65 w65 hp65 => ?_)
          obtain ⟨rfl, s2, hs, rfl⟩ := hp65
          refine x_goto (pc := 68) (tgt := 146) d_M_applyOperator_68 rfl ?_
          refine x_vret (pc := 146) d_M_applyOperator_146 rfl ?_
          refine ⟨rfl, s2, _, ?_, by first | exact hopr | exact un_small hopr (by omega), rfl⟩
          rw [hs]
          first
            | exact (mact_if (by omega) (by omega) (by omega) (by first | exact (if_pos (by omega)).symm | exact (if_neg (by omega)).symm)).symm
            | exact (mact_add (by omega) (by omega) (by omega) (by omega)).symm
            | exact (mact_oth (by omega) (by omega)).symm
        · intro h46
          refine x_aload_n (pc := 49) d_M_applyOperator_49 1 rfl ?_
          refine x_get (pc := 50) (ci := 1) d_M_applyOperator_50 in_M rfl 5 (by decide) k_M_24 2 rfl rfl ?_
          refine x_iconst (pc := 53) (nI 2) d_M_applyOperator_53 (by decide) ?_
          refine x_ialdN (pc := 54) d_M_applyOperator_54 13 0 rfl rfl (by omega) (by omega) ?_
          refine x_goto (pc := 55) (tgt := 64) d_M_applyOperator_55 rfl ?_
          refine x_iconst (pc := 64) (nI 0) d_M_applyOperator_64 (by decide) ?_
          refine x_callV_X (pc := 65) (ci := 1) d_M_applyOperator_65 k_M_94 wi_M_applyDirectly wv_M_applyDirectly w_M_applyDirectly ini_M wd_M_applyDirectly ⟨by decide, by decide⟩ ⟨rfl, rfl⟩ ⟨Nat.zero_le _, Nat.zero_le _⟩ 2 rfl rfl (t_M_applyDirectly hn ho hp (by omega) (by omega)) rfl rfl (Nat.le_of_ble_eq_true rfl) (fun v65 w65 hp65 => ?_)
          obtain ⟨rfl, s2, hs, rfl⟩ := hp65
          refine x_goto (pc := 68) (tgt := 146) d_M_applyOperator_68 rfl ?_
          refine x_vret (pc := 146) d_M_applyOperator_146 rfl ?_
          refine ⟨rfl, s2, _, ?_, by first | exact hopr | exact un_small hopr (by omega), rfl⟩
          rw [hs]
          first
            | exact (mact_if (by omega) (by omega) (by omega) (by first | exact (if_pos (by omega)).symm | exact (if_neg (by omega)).symm)).symm
            | exact (mact_add (by omega) (by omega) (by omega) (by omega)).symm
            | exact (mact_oth (by omega) (by omega)).symm
end MACH2
