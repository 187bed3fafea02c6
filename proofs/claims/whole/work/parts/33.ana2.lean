section ANA2
variable {l : Launch} {D : va_G} {ad : Nat → Nat} {cI cL : ClassId} {par : Nat → Int32} {prm : Nat → Nat} {lin : Nat → Int32} {siz atm : Nat → Nat} {cnt : Nat} {own out bnd : Nat → Nat} {cal : Nat → Int32} {opr : Nat → Nat} {n ph oc : Nat} {P : Nat → Int32} {Q : Nat → Int64} {OC : Nat → Int32} {OP : Nat → Int64} {F : Nat → Int32} {S : Int64} {R : Int32} {vis nc : Nat} {gr md : Bool}
set_option maxHeartbeats 4000000 in
set_option maxRecDepth 100000 in
theorem t_A_applyDirectly {op first k : Nat} (hw : pwf cnt par prm siz atm) (hli : linok cnt par lin) (hnc : nc < 8) (hvi : vis < 8) (hop : op < 5) (hfi : first < 5) (hfk : first + k ≤ 5) (hO : ∀ q, bl (OP op) q = true → q < 8 * cnt) : CT l y_A_applyDirectly c_A_applyDirectly 7 none (rmm 3 76) (gG D cI cL) [.ref (ad 3), .int (nI op), .int (nI first), .int (nI k)] (wC ad cI cL par prm lin siz atm cnt own out bnd cal opr n ph oc P Q OC OP F S R vis nc gr md) (fun v w2 => v = none ∧ ∃ P2 Q2 S2 F2 R2 g2, apc (adir cnt par prm vis nc k (OC op) (OP op) (OC first) (OP first) (fun i b => bt (OC (first + i)) b = true) (fun i b => bl (OP (first + i)) b = true)) gr (ofw P Q S F R) g2 (ofw P2 Q2 S2 F2 R2) ∧ w2 = (wC ad cI cL par prm lin siz atm cnt own out bnd cal opr n ph oc P2 Q2 OC OP F2 S2 R2 vis nc g2 md)) := by
  refine CT.of R_A (by decide) rfl (Nat.le_of_ble_eq_true rfl) ?_
  intro E A hname
  have hc8 : cnt ≤ 8 := hw.2.1
  have hlp : ∀ (fuel : Nat) (i : Nat) (P1 : Nat → Int32) (Q1 : Nat → Int64) (S1 : Int64) (F1 : Nat → Int32) (R1 : Int32) (g1 : Bool), 64 - i < fuel → (i ≤ 64) → (apc (fun X Y => (k = 1 → bt (OC op) 10 = true → ares (fun b => bt (OC first) b = true) (fun b => bl (OP first) b = true) Y) ∧ ∀ j, j < i → adj par prm vis nc k (OP op) (fun i b => bt (OC (first + i)) b = true) (fun i b => bl (OP (first + i)) b = true) j X Y) gr (ofw P Q S F R) g1 (ofw P1 Q1 S1 F1 R1)) → xj E l (rmm 3 76) c_A_applyDirectly 7 none R_A (gG D cI cL) A 0 0 (fun v w2 => v = none ∧ ∃ P2 Q2 S2 F2 R2 g2, apc (adir cnt par prm vis nc k (OC op) (OP op) (OC first) (OP first) (fun i b => bt (OC (first + i)) b = true) (fun i b => bl (OP (first + i)) b = true)) gr (ofw P Q S F R) g2 (ofw P2 Q2 S2 F2 R2) ∧ w2 = (wC ad cI cL par prm lin siz atm cnt own out bnd cal opr n ph oc P2 Q2 OC OP F2 S2 R2 vis nc g2 md)) 0 0 (wC ad cI cL par prm lin siz atm cnt own out bnd cal opr n ph oc P1 Q1 OC OP F1 S1 R1 vis nc g1 md) 76 [(6, .int (nI i)), (4, .long (OP op)), (0, .ref (ad 3)), (1, .int (nI op)), (2, .int (nI first)), (3, .int (nI k))] [] := by
    intro fuel
    induction fuel with
    | zero => intro i P1 Q1 S1 F1 R1 g1 hf; exact absurd hf (Nat.not_lt_zero _)
    | succ fuel ih =>
      intro i P1 Q1 S1 F1 R1 g1 hf hi hq
      refine x_iload (pc := 76) d_A_applyDirectly_76 0 rfl ?_
      refine x_bipush (pc := 78) (nI 64) d_A_applyDirectly_78 (by decide) ?_
      first | refine x_icmp_geN (pc := 80) (tgt := 130) d_A_applyDirectly_80 rfl (by omega) (by omega) ?_ ?_ | refine x_icmp_ge (pc := 80) (tgt := 130) d_A_applyDirectly_80 rfl ?_ ?_
      · intro h80
        refine x_vret (pc := 130) d_A_applyDirectly_130 rfl ?_
        have e1 : i = 64 := by omega
        rw [e1] at hq
        exact ⟨rfl, P1, Q1, S1, F1, R1, g1, adir.of hO hc8 hq, rfl⟩
      · intro h80
        refine x_lload (pc := 83) d_A_applyDirectly_83 1 rfl ?_
        refine x_iload (pc := 85) d_A_applyDirectly_85 0 rfl ?_
        refine x_callS_I (pc := 87) d_A_applyDirectly_87 k_A_62 ws_A_hasPair w_A_hasPair ini_A wd_A_hasPair ⟨by decide, by decide⟩ ⟨rfl, rfl⟩ ⟨Nat.zero_le _, Nat.zero_le _⟩ (t_A_hasPair (by omega)) rfl rfl (Nat.le_of_ble_eq_true rfl) ?_
        first | refine x_if_eqB (pc := 90) (tgt := 124) d_A_applyDirectly_90 rfl ?_ ?_ | refine x_if_eqL (pc := 90) (tgt := 124) d_A_applyDirectly_90 rfl ?_ ?_ | refine x_if_eqN (pc := 90) (tgt := 124) d_A_applyDirectly_90 rfl (by omega) ?_ ?_ | refine x_if_eq (pc := 90) (tgt := 124) d_A_applyDirectly_90 rfl ?_ ?_
        · intro h90
          refine x_iincN (pc := 124) d_A_applyDirectly_124 0 rfl (by decide) [(6, _), (4, _), (0, _), (1, _), (2, _), (3, _)] rfl ?_
          refine x_goto (pc := 127) (tgt := 76) d_A_applyDirectly_127 rfl ?_
          refine x_sub [0, 1, 2, 3, 4, 5] _ rfl ?_
          first
            | exact ih (i + 1) P2 Q2 S2 F2 R2 g2 (by omega) (by omega) (apc.nextA (N0 := fun X Y => (k = 1 → bt (OC op) 10 = true → ares (fun b => bt (OC first) b = true) (fun b => bl (OP first) b = true) Y)) (N := adj par prm vis nc k (OP op) (fun i b => bt (OC (first + i)) b = true) (fun i b => bl (OP (first + i)) b = true)) ((ares.amon _ _).imp.imp) (fun j => adj.amon _ _ _ _ _ _ _ _ j) hq (hap2.conv (fun Z _ q => q h90 h106) (fun q _ _ => q)))
            | exact ih (i + 1) P1 Q1 S1 F1 R1 g1 (by omega) (by omega) (apc.nextA (N0 := fun X Y => (k = 1 → bt (OC op) 10 = true → ares (fun b => bt (OC first) b = true) (fun b => bl (OP first) b = true) Y)) (N := adj par prm vis nc k (OP op) (fun i b => bt (OC (first + i)) b = true) (fun i b => bl (OP (first + i)) b = true)) ((ares.amon _ _).imp.imp) (fun j => adj.amon _ _ _ _ _ _ _ _ j) hq ((apc.skip g1 _).conv (fun _ _ _ => trivial) (fun _ q => bno h90 q)))
            | exact ih (i + 1) P1 Q1 S1 F1 R1 g1 (by omega) (by omega) (apc.nextA (N0 := fun X Y => (k = 1 → bt (OC op) 10 = true → ares (fun b => bt (OC first) b = true) (fun b => bl (OP first) b = true) Y)) (N := adj par prm vis nc k (OP op) (fun i b => bt (OC (first + i)) b = true) (fun i b => bl (OP (first + i)) b = true)) ((ares.amon _ _).imp.imp) (fun j => adj.amon _ _ _ _ _ _ _ _ j) hq ((apc.skip g1 _).conv (fun _ _ _ => trivial) (fun _ _ q => absurd q h106)))
        · intro h90
          have hj := hO i h90
          have hpj := hw.2.2.2.1 (i / 8) (by omega)
          refine x_aload_n (pc := 93) d_A_applyDirectly_93 2 rfl ?_
          refine x_get (pc := 94) (ci := 0) d_A_applyDirectly_94 in_A rfl 0 (by decide) k_A_28 3 rfl rfl ?_
          refine x_iload (pc := 97) d_A_applyDirectly_97 0 rfl ?_
          refine x_bipush (pc := 99) (nI 8) d_A_applyDirectly_99 (by decide) ?_
          first | refine x_idivN (pc := 101) d_A_applyDirectly_101 (by omega) (by omega) (by omega) ?_ | refine x_idiv (pc := 101) d_A_applyDirectly_101 (by decide) ?_
          refine x_callV_I (pc := 102) (ci := 2) d_A_applyDirectly_102 k_A_130 wi_P_paramsOf wv_P_paramsOf w_P_paramsOf ini_P wd_P_paramsOf ⟨by decide, by decide⟩ ⟨rfl, rfl⟩ ⟨Nat.zero_le _, Nat.zero_le _⟩ 1 rfl rfl (t_P_paramsOf (by omega)) rfl rfl (Nat.le_of_ble_eq_true rfl) ?_
          refine x_iload_n (pc := 105) d_A_applyDirectly_105 5 rfl ?_
          first | refine x_icmp_neN (pc := 106) (tgt := 124) d_A_applyDirectly_106 rfl (by omega) (by omega) ?_ ?_ | refine x_icmp_ne (pc := 106) (tgt := 124) d_A_applyDirectly_106 rfl ?_ ?_
          · intro h106
            refine x_iincN (pc := 124) d_A_applyDirectly_124 0 rfl (by decide) [(6, _), (4, _), (0, _), (1, _), (2, _), (3, _)] rfl ?_
            refine x_goto (pc := 127) (tgt := 76) d_A_applyDirectly_127 rfl ?_
            refine x_sub [0, 1, 2, 3, 4, 5] _ rfl ?_
            first
              | exact ih (i + 1) P2 Q2 S2 F2 R2 g2 (by omega) (by omega) (apc.nextA (N0 := fun X Y => (k = 1 → bt (OC op) 10 = true → ares (fun b => bt (OC first) b = true) (fun b => bl (OP first) b = true) Y)) (N := adj par prm vis nc k (OP op) (fun i b => bt (OC (first + i)) b = true) (fun i b => bl (OP (first + i)) b = true)) ((ares.amon _ _).imp.imp) (fun j => adj.amon _ _ _ _ _ _ _ _ j) hq (hap2.conv (fun Z _ q => q h90 h106) (fun q _ _ => q)))
              | exact ih (i + 1) P1 Q1 S1 F1 R1 g1 (by omega) (by omega) (apc.nextA (N0 := fun X Y => (k = 1 → bt (OC op) 10 = true → ares (fun b => bt (OC first) b = true) (fun b => bl (OP first) b = true) Y)) (N := adj par prm vis nc k (OP op) (fun i b => bt (OC (first + i)) b = true) (fun i b => bl (OP (first + i)) b = true)) ((ares.amon _ _).imp.imp) (fun j => adj.amon _ _ _ _ _ _ _ _ j) hq ((apc.skip g1 _).conv (fun _ _ _ => trivial) (fun _ q => bno h90 q)))
              | exact ih (i + 1) P1 Q1 S1 F1 R1 g1 (by omega) (by omega) (apc.nextA (N0 := fun X Y => (k = 1 → bt (OC op) 10 = true → ares (fun b => bt (OC first) b = true) (fun b => bl (OP first) b = true) Y)) (N := adj par prm vis nc k (OP op) (fun i b => bt (OC (first + i)) b = true) (fun i b => bl (OP (first + i)) b = true)) ((ares.amon _ _).imp.imp) (fun j => adj.amon _ _ _ _ _ _ _ _ j) hq ((apc.skip g1 _).conv (fun _ _ _ => trivial) (fun _ _ q => absurd q h106)))
          · intro h106
            refine x_aload_n (pc := 109) d_A_applyDirectly_109 2 rfl ?_
            refine x_iload (pc := 110) d_A_applyDirectly_110 0 rfl ?_
            refine x_bipush (pc := 112) (nI 8) d_A_applyDirectly_112 (by decide) ?_
            first | refine x_idivN (pc := 114) d_A_applyDirectly_114 (by omega) (by omega) (by omega) ?_ | refine x_idiv (pc := 114) d_A_applyDirectly_114 (by decide) ?_
            refine x_iload (pc := 115) d_A_applyDirectly_115 0 rfl ?_
            refine x_bipush (pc := 117) (nI 8) d_A_applyDirectly_117 (by decide) ?_
            first | refine x_iremN (pc := 119) d_A_applyDirectly_119 (by omega) (by omega) (by omega) ?_ | refine x_irem (pc := 119) d_A_applyDirectly_119 (by decide) ?_
            refine x_iload_n (pc := 120) d_A_applyDirectly_120 4 rfl ?_
            refine x_callV_X (pc := 121) (ci := 0) d_A_applyDirectly_121 k_A_133 wi_A_enter wv_A_enter w_A_enter ini_A wd_A_enter ⟨by decide, by decide⟩ ⟨rfl, rfl⟩ ⟨Nat.zero_le _, Nat.zero_le _⟩ 3 rfl rfl (t_A_enter hw hli (by omega) (by omega) hnc hvi (by omega)) rfl rfl (Nat.le_of_ble_eq_true rfl) (fun v121 w121 hp121 => ?_)
            obtain ⟨rfl, P2, Q2, S2, F2, R2, g2, hap2, rfl⟩ := hp121
            refine x_iincN (pc := 124) d_A_applyDirectly_124 0 rfl (by decide) [(6, _), (4, _), (0, _), (1, _), (2, _), (3, _)] rfl ?_
            refine x_goto (pc := 127) (tgt := 76) d_A_applyDirectly_127 rfl ?_
            refine x_sub [0, 1, 2, 3, 4, 5] _ rfl ?_
            first
              | exact ih (i + 1) P2 Q2 S2 F2 R2 g2 (by omega) (by omega) (apc.nextA (N0 := fun X Y => (k = 1 → bt (OC op) 10 = true → ares (fun b => bt (OC first) b = true) (fun b => bl (OP first) b = true) Y)) (N := adj par prm vis nc k (OP op) (fun i b => bt (OC (first + i)) b = true) (fun i b => bl (OP (first + i)) b = true)) ((ares.amon _ _).imp.imp) (fun j => adj.amon _ _ _ _ _ _ _ _ j) hq (hap2.conv (fun Z _ q => q h90 h106) (fun q _ _ => q)))
              | exact ih (i + 1) P1 Q1 S1 F1 R1 g1 (by omega) (by omega) (apc.nextA (N0 := fun X Y => (k = 1 → bt (OC op) 10 = true → ares (fun b => bt (OC first) b = true) (fun b => bl (OP first) b = true) Y)) (N := adj par prm vis nc k (OP op) (fun i b => bt (OC (first + i)) b = true) (fun i b => bl (OP (first + i)) b = true)) ((ares.amon _ _).imp.imp) (fun j => adj.amon _ _ _ _ _ _ _ _ j) hq ((apc.skip g1 _).conv (fun _ _ _ => trivial) (fun _ q => bno h90 q)))
              | exact ih (i + 1) P1 Q1 S1 F1 R1 g1 (by omega) (by omega) (apc.nextA (N0 := fun X Y => (k = 1 → bt (OC op) 10 = true → ares (fun b => bt (OC first) b = true) (fun b => bl (OP first) b = true) Y)) (N := adj par prm vis nc k (OP op) (fun i b => bt (OC (first + i)) b = true) (fun i b => bl (OP (first + i)) b = true)) ((ares.amon _ _).imp.imp) (fun j => adj.amon _ _ _ _ _ _ _ _ j) hq ((apc.skip g1 _).conv (fun _ _ _ => trivial) (fun _ _ q => absurd q h106)))
  refine x_iload_n (pc := 0) d_A_applyDirectly_0 3 rfl ?_
  refine x_iconst (pc := 1) (nI 1) d_A_applyDirectly_1 (by decide) ?_
  first | refine x_icmp_neN (pc := 2) (tgt := 65) d_A_applyDirectly_2 rfl (by omega) (by omega) ?_ ?_ | refine x_icmp_ne (pc := 2) (tgt := 65) d_A_applyDirectly_2 rfl ?_ ?_
  · intro h2
    refine x_aload_n (pc := 65) d_A_applyDirectly_65 0 rfl ?_
    refine x_get (pc := 66) (ci := 0) d_A_applyDirectly_66 in_A rfl 4 (by decide) k_A_22 3 rfl rfl ?_
    refine x_iload_n (pc := 69) d_A_applyDirectly_69 1 rfl ?_
    refine x_laldN (pc := 70) d_A_applyDirectly_70 17 1 rfl rfl (by omega) (by omega) ?_
    refine x_lstore (pc := 71) d_A_applyDirectly_71 (by decide) [(4, _), (0, _), (1, _), (2, _), (3, _)] rfl ?_
    refine x_iconst (pc := 73) (nI 0) d_A_applyDirectly_73 (by decide) ?_
    refine x_istore (pc := 74) d_A_applyDirectly_74 (by decide) [(6, _), (4, _), (0, _), (1, _), (2, _), (3, _)] rfl ?_
    refine x_sub [0, 1, 2, 3, 4, 5] _ rfl ?_
    first
      | exact hlp 65 0 P Q S F R gr (by omega) (by omega) (apc.zeroA ((apc.skip gr _).conv (fun _ _ _ => trivial) (fun _ q => absurd q h2)))
      | exact hlp 65 0 P Q S F R gr (by omega) (by omega) (apc.zeroA ((apc.skip gr _).conv (fun _ _ _ => trivial) (fun _ _ q => bno h20 q)))
      | exact hlp 65 0 P Q S F _ gr (by omega) (by omega) (apc.zeroA ((apc.res0 h51).conv (fun _ _ q => q h2 h20) (fun q _ _ => q)))
      | exact hlp 65 0 P Q S F _ gr (by omega) (by omega) (apc.zeroA ((apc.res1 h51).conv (fun _ _ q => q h2 h20) (fun q _ _ => q)))
  · intro h2
    refine x_aload_n (pc := 5) d_A_applyDirectly_5 0 rfl ?_
    refine x_get (pc := 6) (ci := 0) d_A_applyDirectly_6 in_A rfl 3 (by decide) k_A_19 3 rfl rfl ?_
    refine x_iload_n (pc := 9) d_A_applyDirectly_9 1 rfl ?_
    refine x_ialdN (pc := 10) d_A_applyDirectly_10 16 0 rfl rfl (by omega) (by omega) ?_
    refine x_sipush (pc := 11) (nI 300) d_A_applyDirectly_11 (by decide) ?_
    refine x_callS_I (pc := 14) d_A_applyDirectly_14 k_A_107 ws_A_constantBit w_A_constantBit ini_A wd_A_constantBit ⟨by decide, by decide⟩ ⟨rfl, rfl⟩ ⟨Nat.zero_le _, Nat.zero_le _⟩ (t_A_constantBit (x := 300) (Or.inr (by decide)) (by decide)) rfl rfl (Nat.le_of_ble_eq_true rfl) ?_
    rw [show cbit 300 = 10 from rfl]
    refine x_callSN_I (pc := 17) d_A_applyDirectly_17 k_A_110 ws_C_has w_C_has ini_C wd_C_has ⟨by decide, by decide⟩ ⟨rfl, rfl⟩ ⟨Nat.zero_le _, Nat.zero_le _⟩ (t_C_has (by decide)) rfl rfl (Nat.le_of_ble_eq_true rfl) ?_
    first | refine x_if_eqB (pc := 20) (tgt := 65) d_A_applyDirectly_20 rfl ?_ ?_ | refine x_if_eqL (pc := 20) (tgt := 65) d_A_applyDirectly_20 rfl ?_ ?_ | refine x_if_eqN (pc := 20) (tgt := 65) d_A_applyDirectly_20 rfl (by omega) ?_ ?_ | refine x_if_eq (pc := 20) (tgt := 65) d_A_applyDirectly_20 rfl ?_ ?_
    · intro h20
      refine x_aload_n (pc := 65) d_A_applyDirectly_65 0 rfl ?_
      refine x_get (pc := 66) (ci := 0) d_A_applyDirectly_66 in_A rfl 4 (by decide) k_A_22 3 rfl rfl ?_
      refine x_iload_n (pc := 69) d_A_applyDirectly_69 1 rfl ?_
      refine x_laldN (pc := 70) d_A_applyDirectly_70 17 1 rfl rfl (by omega) (by omega) ?_
      refine x_lstore (pc := 71) d_A_applyDirectly_71 (by decide) [(4, _), (0, _), (1, _), (2, _), (3, _)] rfl ?_
      refine x_iconst (pc := 73) (nI 0) d_A_applyDirectly_73 (by decide) ?_
      refine x_istore (pc := 74) d_A_applyDirectly_74 (by decide) [(6, _), (4, _), (0, _), (1, _), (2, _), (3, _)] rfl ?_
      refine x_sub [0, 1, 2, 3, 4, 5] _ rfl ?_
      first
        | exact hlp 65 0 P Q S F R gr (by omega) (by omega) (apc.zeroA ((apc.skip gr _).conv (fun _ _ _ => trivial) (fun _ q => absurd q h2)))
        | exact hlp 65 0 P Q S F R gr (by omega) (by omega) (apc.zeroA ((apc.skip gr _).conv (fun _ _ _ => trivial) (fun _ _ q => bno h20 q)))
        | exact hlp 65 0 P Q S F _ gr (by omega) (by omega) (apc.zeroA ((apc.res0 h51).conv (fun _ _ q => q h2 h20) (fun q _ _ => q)))
        | exact hlp 65 0 P Q S F _ gr (by omega) (by omega) (apc.zeroA ((apc.res1 h51).conv (fun _ _ q => q h2 h20) (fun q _ _ => q)))
    · intro h20
      refine x_aload_n (pc := 23) d_A_applyDirectly_23 0 rfl ?_
      refine x_dup (pc := 24) d_A_applyDirectly_24 rfl ?_
      refine x_get (pc := 25) (ci := 0) d_A_applyDirectly_25 in_A rfl 7 (by decide) k_A_44 3 rfl rfl ?_
      refine x_aload_n (pc := 28) d_A_applyDirectly_28 0 rfl ?_
      refine x_get (pc := 29) (ci := 0) d_A_applyDirectly_29 in_A rfl 3 (by decide) k_A_19 3 rfl rfl ?_
      refine x_iload_n (pc := 32) d_A_applyDirectly_32 2 rfl ?_
      refine x_ialdN (pc := 33) d_A_applyDirectly_33 16 0 rfl rfl (by omega) (by omega) ?_
      refine x_ior (pc := 34) d_A_applyDirectly_34 ?_
      refine x_put (pc := 35) (ci := 0) (ty := .int) d_A_applyDirectly_35 in_A t_A ty_A nm_A rfl 7 (by decide) k_A_44 rfl (by decide +kernel) rfl rfl 3 rfl (Nat.le_of_ble_eq_true rfl) (_) (rfl) ?_
      refine x_aload_n (pc := 38) d_A_applyDirectly_38 0 rfl ?_
      refine x_dup (pc := 39) d_A_applyDirectly_39 rfl ?_
      refine x_get (pc := 40) (ci := 0) d_A_applyDirectly_40 in_A rfl 7 (by decide) k_A_44 3 rfl rfl ?_
      refine x_aload_n (pc := 43) d_A_applyDirectly_43 0 rfl ?_
      refine x_get (pc := 44) (ci := 0) d_A_applyDirectly_44 in_A rfl 4 (by decide) k_A_22 3 rfl rfl ?_
      refine x_iload_n (pc := 47) d_A_applyDirectly_47 2 rfl ?_
      refine x_laldN (pc := 48) d_A_applyDirectly_48 17 1 rfl rfl (by omega) (by omega) ?_
      refine x_lconst (pc := 49) 0 d_A_applyDirectly_49 (by decide) ?_
      refine x_lcmp (pc := 50) d_A_applyDirectly_50 ?_
      first | refine x_if_neB (pc := 51) (tgt := 58) d_A_applyDirectly_51 rfl ?_ ?_ | refine x_if_neL (pc := 51) (tgt := 58) d_A_applyDirectly_51 rfl ?_ ?_ | refine x_if_neN (pc := 51) (tgt := 58) d_A_applyDirectly_51 rfl (by omega) ?_ ?_ | refine x_if_ne (pc := 51) (tgt := 58) d_A_applyDirectly_51 rfl ?_ ?_
      · intro h51
        refine x_sipush (pc := 58) (nI 8192) d_A_applyDirectly_58 (by decide) ?_
        refine x_ior (pc := 61) d_A_applyDirectly_61 ?_
        refine x_put (pc := 62) (ci := 0) (ty := .int) d_A_applyDirectly_62 in_A t_A ty_A nm_A rfl 7 (by decide) k_A_44 rfl (by decide +kernel) rfl rfl 3 rfl (Nat.le_of_ble_eq_true rfl) (_) (rfl) ?_
        refine x_aload_n (pc := 65) d_A_applyDirectly_65 0 rfl ?_
        refine x_get (pc := 66) (ci := 0) d_A_applyDirectly_66 in_A rfl 4 (by decide) k_A_22 3 rfl rfl ?_
        refine x_iload_n (pc := 69) d_A_applyDirectly_69 1 rfl ?_
        refine x_laldN (pc := 70) d_A_applyDirectly_70 17 1 rfl rfl (by omega) (by omega) ?_
        refine x_lstore (pc := 71) d_A_applyDirectly_71 (by decide) [(4, _), (0, _), (1, _), (2, _), (3, _)] rfl ?_
        refine x_iconst (pc := 73) (nI 0) d_A_applyDirectly_73 (by decide) ?_
        refine x_istore (pc := 74) d_A_applyDirectly_74 (by decide) [(6, _), (4, _), (0, _), (1, _), (2, _), (3, _)] rfl ?_
        refine x_sub [0, 1, 2, 3, 4, 5] _ rfl ?_
        first
          | exact hlp 65 0 P Q S F R gr (by omega) (by omega) (apc.zeroA ((apc.skip gr _).conv (fun _ _ _ => trivial) (fun _ q => absurd q h2)))
          | exact hlp 65 0 P Q S F R gr (by omega) (by omega) (apc.zeroA ((apc.skip gr _).conv (fun _ _ _ => trivial) (fun _ _ q => bno h20 q)))
          | exact hlp 65 0 P Q S F _ gr (by omega) (by omega) (apc.zeroA ((apc.res0 h51).conv (fun _ _ q => q h2 h20) (fun q _ _ => q)))
          | exact hlp 65 0 P Q S F _ gr (by omega) (by omega) (apc.zeroA ((apc.res1 h51).conv (fun _ _ q => q h2 h20) (fun q _ _ => q)))
      · intro h51
        refine x_iconst (pc := 54) (nI 0) d_A_applyDirectly_54 (by decide) ?_
        refine x_goto (pc := 55) (tgt := 61) d_A_applyDirectly_55 rfl ?_
        refine x_ior (pc := 61) d_A_applyDirectly_61 ?_
        refine x_put (pc := 62) (ci := 0) (ty := .int) d_A_applyDirectly_62 in_A t_A ty_A nm_A rfl 7 (by decide) k_A_44 rfl (by decide +kernel) rfl rfl 3 rfl (Nat.le_of_ble_eq_true rfl) (_) (rfl) ?_
        refine x_aload_n (pc := 65) d_A_applyDirectly_65 0 rfl ?_
        refine x_get (pc := 66) (ci := 0) d_A_applyDirectly_66 in_A rfl 4 (by decide) k_A_22 3 rfl rfl ?_
        refine x_iload_n (pc := 69) d_A_applyDirectly_69 1 rfl ?_
        refine x_laldN (pc := 70) d_A_applyDirectly_70 17 1 rfl rfl (by omega) (by omega) ?_
        refine x_lstore (pc := 71) d_A_applyDirectly_71 (by decide) [(4, _), (0, _), (1, _), (2, _), (3, _)] rfl ?_
        refine x_iconst (pc := 73) (nI 0) d_A_applyDirectly_73 (by decide) ?_
        refine x_istore (pc := 74) d_A_applyDirectly_74 (by decide) [(6, _), (4, _), (0, _), (1, _), (2, _), (3, _)] rfl ?_
        refine x_sub [0, 1, 2, 3, 4, 5] _ rfl ?_
        first
          | exact hlp 65 0 P Q S F R gr (by omega) (by omega) (apc.zeroA ((apc.skip gr _).conv (fun _ _ _ => trivial) (fun _ q => absurd q h2)))
          | exact hlp 65 0 P Q S F R gr (by omega) (by omega) (apc.zeroA ((apc.skip gr _).conv (fun _ _ _ => trivial) (fun _ _ q => bno h20 q)))
          | exact hlp 65 0 P Q S F _ gr (by omega) (by omega) (apc.zeroA ((apc.res0 h51).conv (fun _ _ q => q h2 h20) (fun q _ _ => q)))
          | exact hlp 65 0 P Q S F _ gr (by omega) (by omega) (apc.zeroA ((apc.res1 h51).conv (fun _ _ q => q h2 h20) (fun q _ _ => q)))
set_option maxHeartbeats 4000000 in
set_option maxRecDepth 100000 in
theorem t_A_loadOperand {lx c i : Nat} (hw : pwf cnt par prm siz atm) (hi : i < 5) (hc : c < 8) (hok : aok cnt par prm lx (atm (4 * lx + i))) : CT l y_A_loadOperand c_A_loadOperand 5 none (rmm 2 40) (gG D cI cL) [.ref (ad 3), .int (nI i), .int (nI (atm (4 * lx + i))), .int (nI c)] (wC ad cI cL par prm lin siz atm cnt own out bnd cal opr n ph oc P Q OC OP F S R vis nc gr md) (fun v w2 => v = none ∧ ∃ OC2 OP2, (∀ j, ¬ j = i → OC2 j = OC j ∧ OP2 j = OP j) ∧ ldok atm (ofw P Q S F R) lx c i (OC2 i) (OP2 i) ∧ w2 = (wC ad cI cL par prm lin siz atm cnt own out bnd cal opr n ph oc P Q OC2 OP2 F S R vis nc gr md)) := by
  refine CT.of R_A (by decide) rfl (Nat.le_of_ble_eq_true rfl) ?_
  intro E A hname
  have hc8 : cnt ≤ 8 := hw.2.1
  have hb3 : atm (4 * lx + i) ≤ 302 := by rcases hok with q | q | q | q <;> omega
  refine x_aload_n (pc := 0) d_A_loadOperand_0 0 rfl ?_
  refine x_get (pc := 1) (ci := 0) d_A_loadOperand_1 in_A rfl 3 (by decide) k_A_19 3 rfl rfl ?_
  refine x_iload_n (pc := 4) d_A_loadOperand_4 1 rfl ?_
  refine x_iconst (pc := 5) (nI 0) d_A_loadOperand_5 (by decide) ?_
  first | refine x_iastU (pc := 6) d_A_loadOperand_6 16 0 rfl rfl (by omega) (by omega) ?_ | refine x_iastN (pc := 6) d_A_loadOperand_6 16 0 rfl rfl (by omega) (by omega) _ rfl ?_
  refine x_aload_n (pc := 7) d_A_loadOperand_7 0 rfl ?_
  refine x_get (pc := 8) (ci := 0) d_A_loadOperand_8 in_A rfl 4 (by decide) k_A_22 3 rfl rfl ?_
  refine x_iload_n (pc := 11) d_A_loadOperand_11 1 rfl ?_
  refine x_lconst (pc := 12) 0 d_A_loadOperand_12 (by decide) ?_
  refine x_lastN (pc := 13) d_A_loadOperand_13 17 1 rfl rfl (by omega) (by omega) (_) (rfl) ?_
  refine x_iload_n (pc := 14) d_A_loadOperand_14 2 rfl ?_
  refine x_callSN_I (pc := 15) d_A_loadOperand_15 k_A_117 ws_C_isParameter w_C_isParameter ini_C wd_C_isParameter ⟨by decide, by decide⟩ ⟨rfl, rfl⟩ ⟨Nat.zero_le _, Nat.zero_le _⟩ (t_C_isParameter) rfl rfl (Nat.le_of_ble_eq_true rfl) ?_
  rw [lo_nI (by omega) (by omega) (by omega)]
  first | refine x_if_eqB (pc := 18) (tgt := 64) d_A_loadOperand_18 rfl ?_ ?_ | refine x_if_eqL (pc := 18) (tgt := 64) d_A_loadOperand_18 rfl ?_ ?_ | refine x_if_eqN (pc := 18) (tgt := 64) d_A_loadOperand_18 rfl (by omega) ?_ ?_ | refine x_if_eq (pc := 18) (tgt := 64) d_A_loadOperand_18 rfl ?_ ?_
  · intro h18
    have g18 := of_decide_eq_false h18
    refine x_iload_n (pc := 64) d_A_loadOperand_64 2 rfl ?_
    refine x_callSN_I (pc := 65) d_A_loadOperand_65 k_A_127 ws_C_isLambda w_C_isLambda ini_C wd_C_isLambda ⟨by decide, by decide⟩ ⟨rfl, rfl⟩ ⟨Nat.zero_le _, Nat.zero_le _⟩ (t_C_isLambda) rfl rfl (Nat.le_of_ble_eq_true rfl) ?_
    rw [lo_nI (by omega) (by omega) (by omega)]
    first | refine x_if_eqB (pc := 68) (tgt := 89) d_A_loadOperand_68 rfl ?_ ?_ | refine x_if_eqL (pc := 68) (tgt := 89) d_A_loadOperand_68 rfl ?_ ?_ | refine x_if_eqN (pc := 68) (tgt := 89) d_A_loadOperand_68 rfl (by omega) ?_ ?_ | refine x_if_eq (pc := 68) (tgt := 89) d_A_loadOperand_68 rfl ?_ ?_
    · intro h68
      have g68 := of_decide_eq_false h68
      have hcn : atm (4 * lx + i) < 10 ∨ (300 ≤ atm (4 * lx + i) ∧ atm (4 * lx + i) ≤ 302) := by
        rcases hok with q | q | q | q
        · exact Or.inl q
        · exact Or.inr q
        · omega
        · omega
      refine x_aload_n (pc := 89) d_A_loadOperand_89 0 rfl ?_
      refine x_get (pc := 90) (ci := 0) d_A_loadOperand_90 in_A rfl 3 (by decide) k_A_19 3 rfl rfl ?_
      refine x_iload_n (pc := 93) d_A_loadOperand_93 1 rfl ?_
      refine x_iconst (pc := 94) (nI 1) d_A_loadOperand_94 (by decide) ?_
      refine x_iload_n (pc := 95) d_A_loadOperand_95 2 rfl ?_
      refine x_callS_I (pc := 96) d_A_loadOperand_96 k_A_107 ws_A_constantBit w_A_constantBit ini_A wd_A_constantBit ⟨by decide, by decide⟩ ⟨rfl, rfl⟩ ⟨Nat.zero_le _, Nat.zero_le _⟩ (t_A_constantBit (by omega) (by omega)) rfl rfl (Nat.le_of_ble_eq_true rfl) ?_
      refine x_ishl (pc := 99) d_A_loadOperand_99 ?_
      first | refine x_iastU (pc := 100) d_A_loadOperand_100 16 0 rfl rfl (by omega) (by omega) ?_ | refine x_iastN (pc := 100) d_A_loadOperand_100 16 0 rfl rfl (by omega) (by omega) _ rfl ?_
      refine x_vret (pc := 101) d_A_loadOperand_101 rfl ?_
      first
        | exact ⟨rfl, _, _, (fun j hj => ⟨by simp [upd, hj], by simp [vp_updL, hj]⟩), by rw [upd_self, updL_self]; exact ldok.par g18.1 g18.2 hsl, rfl⟩
        | exact ⟨rfl, _, _, (fun j hj => ⟨by simp [upd, hj], by simp [vp_updL, hj]⟩), by rw [upd_self, updL_self]; exact ldok.lam g68.1 g68.2 hc, rfl⟩
        | exact ⟨rfl, _, _, (fun j hj => ⟨by simp [upd, hj], by simp [vp_updL, hj]⟩), by rw [upd_self, updL_self]; exact ldok.con hcn, rfl⟩
    · intro h68
      have g68 := of_decide_eq_true h68
      refine x_aload_n (pc := 71) d_A_loadOperand_71 0 rfl ?_
      refine x_get (pc := 72) (ci := 0) d_A_loadOperand_72 in_A rfl 4 (by decide) k_A_22 3 rfl rfl ?_
      refine x_iload_n (pc := 75) d_A_loadOperand_75 1 rfl ?_
      refine x_iload_n (pc := 76) d_A_loadOperand_76 2 rfl ?_
      refine x_sipush (pc := 77) (nI 200) d_A_loadOperand_77 (by decide) ?_
      first | refine x_isubN (pc := 80) d_A_loadOperand_80 (by omega) ?_ | refine x_isub (pc := 80) d_A_loadOperand_80 ?_
      refine x_iload_n (pc := 81) d_A_loadOperand_81 3 rfl ?_
      refine x_callS_L (pc := 82) d_A_loadOperand_82 k_A_55 ws_A_pair w_A_pair ini_A wd_A_pair ⟨by decide, by decide⟩ ⟨rfl, rfl⟩ ⟨Nat.zero_le _, Nat.zero_le _⟩ (t_A_pair) rfl rfl (Nat.le_of_ble_eq_true rfl) ?_
      refine x_lastN (pc := 85) d_A_loadOperand_85 17 1 rfl rfl (by omega) (by omega) (_) (rfl) ?_
      refine x_goto (pc := 86) (tgt := 101) d_A_loadOperand_86 rfl ?_
      refine x_vret (pc := 101) d_A_loadOperand_101 rfl ?_
      first
        | exact ⟨rfl, _, _, (fun j hj => ⟨by simp [upd, hj], by simp [vp_updL, hj]⟩), by rw [upd_self, updL_self]; exact ldok.par g18.1 g18.2 hsl, rfl⟩
        | exact ⟨rfl, _, _, (fun j hj => ⟨by simp [upd, hj], by simp [vp_updL, hj]⟩), by rw [upd_self, updL_self]; exact ldok.lam g68.1 g68.2 hc, rfl⟩
        | exact ⟨rfl, _, _, (fun j hj => ⟨by simp [upd, hj], by simp [vp_updL, hj]⟩), by rw [upd_self, updL_self]; exact ldok.con hcn, rfl⟩
  · intro h18
    have g18 := of_decide_eq_true h18
    have hpi : (atm (4 * lx + i) - 100) % 10 < 3 := by
      rcases hok with q | q | ⟨_, _, q3, q4, _⟩ | q
      · omega
      · omega
      · have := hw.2.2.2.1 _ (show (atm (4 * lx + i) - 100) / 10 < 8 by omega)
        omega
      · omega
    have hsl := sl_lt (m := (atm (4 * lx + i) - 100) / 10) (by omega) hpi hc
    refine x_iload_n (pc := 21) d_A_loadOperand_21 2 rfl ?_
    refine x_callSN_I (pc := 22) d_A_loadOperand_22 k_A_121 ws_C_lambdaOfParameter w_C_lambdaOfParameter ini_C wd_C_lambdaOfParameter ⟨by decide, by decide⟩ ⟨rfl, rfl⟩ ⟨Nat.zero_le _, Nat.zero_le _⟩ (t_C_lambdaOfParameter g18.1 (by omega)) rfl rfl (Nat.le_of_ble_eq_true rfl) ?_
    refine x_iload_n (pc := 25) d_A_loadOperand_25 2 rfl ?_
    refine x_callSN_I (pc := 26) d_A_loadOperand_26 k_A_124 ws_C_indexOfParameter w_C_indexOfParameter ini_C wd_C_indexOfParameter ⟨by decide, by decide⟩ ⟨rfl, rfl⟩ ⟨Nat.zero_le _, Nat.zero_le _⟩ (t_C_indexOfParameter g18.1 (by omega)) rfl rfl (Nat.le_of_ble_eq_true rfl) ?_
    refine x_iload_n (pc := 29) d_A_loadOperand_29 3 rfl ?_
    refine x_callS_I (pc := 30) d_A_loadOperand_30 k_A_48 ws_A_slot w_A_slot ini_A wd_A_slot ⟨by decide, by decide⟩ ⟨rfl, rfl⟩ ⟨Nat.zero_le _, Nat.zero_le _⟩ (t_A_slot) rfl rfl (Nat.le_of_ble_eq_true rfl) ?_
    refine x_istore (pc := 33) d_A_loadOperand_33 (by decide) [(4, _), (0, _), (1, _), (2, _), (3, _)] rfl ?_
    refine x_aload_n (pc := 35) d_A_loadOperand_35 1 rfl ?_
    refine x_get (pc := 36) (ci := 0) d_A_loadOperand_36 in_A rfl 3 (by decide) k_A_19 3 rfl rfl ?_
    refine x_iload_n (pc := 39) d_A_loadOperand_39 2 rfl ?_
    refine x_aload_n (pc := 40) d_A_loadOperand_40 1 rfl ?_
    refine x_get (pc := 41) (ci := 0) d_A_loadOperand_41 in_A rfl 1 (by decide) k_A_11 3 rfl rfl ?_
    refine x_iload (pc := 44) d_A_loadOperand_44 0 rfl ?_
    refine x_ialdN (pc := 46) d_A_loadOperand_46 14 0 rfl rfl (by omega) (by omega) ?_
    first | refine x_iastU (pc := 47) d_A_loadOperand_47 16 0 rfl rfl (by omega) (by omega) ?_ | refine x_iastN (pc := 47) d_A_loadOperand_47 16 0 rfl rfl (by omega) (by omega) _ rfl ?_
    refine x_aload_n (pc := 48) d_A_loadOperand_48 1 rfl ?_
    refine x_get (pc := 49) (ci := 0) d_A_loadOperand_49 in_A rfl 4 (by decide) k_A_22 3 rfl rfl ?_
    refine x_iload_n (pc := 52) d_A_loadOperand_52 2 rfl ?_
    refine x_aload_n (pc := 53) d_A_loadOperand_53 1 rfl ?_
    refine x_get (pc := 54) (ci := 0) d_A_loadOperand_54 in_A rfl 2 (by decide) k_A_15 3 rfl rfl ?_
    refine x_iload (pc := 57) d_A_loadOperand_57 0 rfl ?_
    refine x_laldN (pc := 59) d_A_loadOperand_59 15 1 rfl rfl (by omega) (by omega) ?_
    refine x_lastN (pc := 60) d_A_loadOperand_60 17 1 rfl rfl (by omega) (by omega) (_) (rfl) ?_
    refine x_goto (pc := 61) (tgt := 101) d_A_loadOperand_61 rfl ?_
    refine x_vret (pc := 101) d_A_loadOperand_101 rfl ?_
    first
      | exact ⟨rfl, _, _, (fun j hj => ⟨by simp [upd, hj], by simp [vp_updL, hj]⟩), by rw [upd_self, updL_self]; exact ldok.par g18.1 g18.2 hsl, rfl⟩
      | exact ⟨rfl, _, _, (fun j hj => ⟨by simp [upd, hj], by simp [vp_updL, hj]⟩), by rw [upd_self, updL_self]; exact ldok.lam g68.1 g68.2 hc, rfl⟩
      | exact ⟨rfl, _, _, (fun j hj => ⟨by simp [upd, hj], by simp [vp_updL, hj]⟩), by rw [upd_self, updL_self]; exact ldok.con hcn, rfl⟩
set_option maxHeartbeats 4000000 in
set_option maxRecDepth 100000 in
theorem t_A_loadSums {f1 f2 : Int32} (h2 : ∀ y, bt f2 y = true → y < 10) : CT l y_A_loadSums c_A_loadSums 6 (some .boolean) (rmm 1 21) (gG D cI cL) [.ref (ad 3), .int f1, .int f2] (wC ad cI cL par prm lin siz atm cnt own out bnd cal opr n ph oc P Q OC OP F S R vis nc gr md) (fun v w2 => ∃ sm, (∀ b, bt sm b = true ↔ asum (fun x => bt f1 x = true) (fun y => bt f2 y = true) b) ∧ v = some (.int (bI (decide (¬ sm = 0)))) ∧ w2 = (wC ad cI cL par prm lin siz atm cnt own out bnd cal opr n ph oc P Q (upd OC 4 sm) OP F S R vis nc gr md)) := by
  refine CT.of R_A (by decide) rfl (Nat.le_of_ble_eq_true rfl) ?_
  intro E A hname
  refine x_iconst (pc := 0) (nI 0) d_A_loadSums_0 (by decide) ?_
  refine x_istore_n (pc := 1) d_A_loadSums_1 rfl (by decide) [(3, _), (0, _), (1, _), (2, _)] rfl ?_
  refine x_iconst (pc := 2) (nI 0) d_A_loadSums_2 (by decide) ?_
  refine x_istore (pc := 3) d_A_loadSums_3 (by decide) [(4, _), (3, _), (0, _), (1, _), (2, _)] rfl ?_
  have hlp : ∀ (fuel : Nat) (i : Nat) (s : Int32), 10 - i < fuel → (i ≤ 10) → (∀ b, bt s b = true ↔ ∃ x, x < i ∧ bt f1 x = true ∧ ∃ y, y < 10 ∧ bt f2 y = true ∧ b = (x + y) % 10) → xj E l (rmm 1 21) c_A_loadSums 6 (some .boolean) R_A (gG D cI cL) A 0 0 (fun v w2 => ∃ sm, (∀ b, bt sm b = true ↔ asum (fun x => bt f1 x = true) (fun y => bt f2 y = true) b) ∧ v = some (.int (bI (decide (¬ sm = 0)))) ∧ w2 = (wC ad cI cL par prm lin siz atm cnt own out bnd cal opr n ph oc P Q (upd OC 4 sm) OP F S R vis nc gr md)) 0 0 (wC ad cI cL par prm lin siz atm cnt own out bnd cal opr n ph oc P Q OC OP F S R vis nc gr md) 5 [(4, .int (nI i)), (3, .int s), (0, .ref (ad 3)), (1, .int f1), (2, .int f2)] [] := by
    intro fuel
    induction fuel with
    | zero => intro i s hf; exact absurd hf (Nat.not_lt_zero _)
    | succ fuel ih =>
      intro i s hf hi hs
      refine x_iload (pc := 5) d_A_loadSums_5 0 rfl ?_
      refine x_bipush (pc := 7) (nI 10) d_A_loadSums_7 (by decide) ?_
      first | refine x_icmp_geN (pc := 9) (tgt := 48) d_A_loadSums_9 rfl (by omega) (by omega) ?_ ?_ | refine x_icmp_ge (pc := 9) (tgt := 48) d_A_loadSums_9 rfl ?_ ?_
      · intro h9
        refine x_aload_n (pc := 48) d_A_loadSums_48 2 rfl ?_
        refine x_get (pc := 49) (ci := 0) d_A_loadSums_49 in_A rfl 3 (by decide) k_A_19 3 rfl rfl ?_
        refine x_iconst (pc := 52) (nI 4) d_A_loadSums_52 (by decide) ?_
        refine x_iload_n (pc := 53) d_A_loadSums_53 1 rfl ?_
        first | refine x_iastU (pc := 54) d_A_loadSums_54 16 0 rfl rfl (by omega) (by omega) ?_ | refine x_iastN (pc := 54) d_A_loadSums_54 16 0 rfl rfl (by omega) (by omega) _ rfl ?_
        refine x_iload_n (pc := 55) d_A_loadSums_55 1 rfl ?_
        first | refine x_if_eqB (pc := 56) (tgt := 63) d_A_loadSums_56 rfl ?_ ?_ | refine x_if_eqL (pc := 56) (tgt := 63) d_A_loadSums_56 rfl ?_ ?_ | refine x_if_eqN (pc := 56) (tgt := 63) d_A_loadSums_56 rfl (by omega) ?_ ?_ | refine x_if_eq (pc := 56) (tgt := 63) d_A_loadSums_56 rfl ?_ ?_
        · intro h56
          refine x_iconst (pc := 63) (nI 0) d_A_loadSums_63 (by decide) ?_
          refine x_zret (pc := 64) d_A_loadSums_64 rfl (by first | rfl | exact bI_narrow _) ?_
          have e1 : i = 10 := by omega
          rw [e1] at hs
          have hsum : ∀ b, bt s b = true ↔ asum (fun x => bt f1 x = true) (fun y => bt f2 y = true) b := sum_asum hs
          first
            | exact ⟨s, hsum, by rw [decide_eq_true h56]; rfl, rfl⟩
            | exact ⟨s, hsum, by rw [decide_eq_false (fun q => q h56)]; rfl, rfl⟩
        · intro h56
          refine x_iconst (pc := 59) (nI 1) d_A_loadSums_59 (by decide) ?_
          refine x_goto (pc := 60) (tgt := 64) d_A_loadSums_60 rfl ?_
          refine x_zret (pc := 64) d_A_loadSums_64 rfl (by first | rfl | exact bI_narrow _) ?_
          have e1 : i = 10 := by omega
          rw [e1] at hs
          have hsum : ∀ b, bt s b = true ↔ asum (fun x => bt f1 x = true) (fun y => bt f2 y = true) b := sum_asum hs
          first
            | exact ⟨s, hsum, by rw [decide_eq_true h56]; rfl, rfl⟩
            | exact ⟨s, hsum, by rw [decide_eq_false (fun q => q h56)]; rfl, rfl⟩
      · intro h9
        refine x_iload_n (pc := 12) d_A_loadSums_12 3 rfl ?_
        refine x_iload (pc := 13) d_A_loadSums_13 0 rfl ?_
        refine x_callSN_I (pc := 15) d_A_loadSums_15 k_A_110 ws_C_has w_C_has ini_C wd_C_has ⟨by decide, by decide⟩ ⟨rfl, rfl⟩ ⟨Nat.zero_le _, Nat.zero_le _⟩ (t_C_has (by omega)) rfl rfl (Nat.le_of_ble_eq_true rfl) ?_
        first | refine x_if_eqB (pc := 18) (tgt := 42) d_A_loadSums_18 rfl ?_ ?_ | refine x_if_eqL (pc := 18) (tgt := 42) d_A_loadSums_18 rfl ?_ ?_ | refine x_if_eqN (pc := 18) (tgt := 42) d_A_loadSums_18 rfl (by omega) ?_ ?_ | refine x_if_eq (pc := 18) (tgt := 42) d_A_loadSums_18 rfl ?_ ?_
        · intro h18
          refine x_iincN (pc := 42) d_A_loadSums_42 0 rfl (by decide) [(4, _), (3, _), (0, _), (1, _), (2, _)] rfl ?_
          refine x_goto (pc := 45) (tgt := 5) d_A_loadSums_45 rfl ?_
          refine x_sub [0, 1, 2, 3, 4] _ rfl ?_
          first
            | exact ih (i + 1) _ (by omega) (by omega) (sum_next hs h18 (by omega) h2)
            | exact ih (i + 1) s (by omega) (by omega) (sum_same hs h18)
        · intro h18
          refine x_iload_n (pc := 21) d_A_loadSums_21 4 rfl ?_
          refine x_iload (pc := 22) d_A_loadSums_22 0 rfl ?_
          refine x_ishl (pc := 24) d_A_loadSums_24 ?_
          refine x_istore (pc := 25) d_A_loadSums_25 (by decide) [(5, _), (4, _), (3, _), (0, _), (1, _), (2, _)] rfl ?_
          refine x_iload_n (pc := 27) d_A_loadSums_27 2 rfl ?_
          refine x_iload (pc := 28) d_A_loadSums_28 0 rfl ?_
          refine x_iload (pc := 30) d_A_loadSums_30 0 rfl ?_
          refine x_bipush (pc := 32) (nI 10) d_A_loadSums_32 (by decide) ?_
          refine x_iushr (pc := 34) d_A_loadSums_34 ?_
          refine x_ior (pc := 35) d_A_loadSums_35 ?_
          refine x_sipush (pc := 36) (nI 1023) d_A_loadSums_36 (by decide) ?_
          refine x_iand (pc := 39) d_A_loadSums_39 ?_
          refine x_ior (pc := 40) d_A_loadSums_40 ?_
          refine x_istore_n (pc := 41) d_A_loadSums_41 rfl (by decide) [(3, _), (5, _), (4, _), (0, _), (1, _), (2, _)] rfl ?_
          refine x_iincN (pc := 42) d_A_loadSums_42 2 rfl (by decide) [(4, _), (3, _), (5, _), (0, _), (1, _), (2, _)] rfl ?_
          refine x_goto (pc := 45) (tgt := 5) d_A_loadSums_45 rfl ?_
          refine x_sub [0, 1, 3, 4, 5] _ rfl ?_
          first
            | exact ih (i + 1) _ (by omega) (by omega) (sum_next hs h18 (by omega) h2)
            | exact ih (i + 1) s (by omega) (by omega) (sum_same hs h18)
  refine x_sub [0, 1, 2, 3, 4] _ rfl ?_
  refine hlp 11 0 (nI 0) (by omega) (by omega) (fun b => ?_)
  rw [b_n0]
  exact ⟨fun q => (by cases q), fun q => (by obtain ⟨x, hx, _⟩ := q; omega)⟩
end ANA2
