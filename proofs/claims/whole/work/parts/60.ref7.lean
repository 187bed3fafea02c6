section REF7
variable {l : Launch} {D : va_G} {ad : Nat → Nat} {cI cL : ClassId} {par : Nat → Int32} {prm siz atm : Nat → Nat} {cnt : Nat} {mo he en ap oc : Nat} {cal : Nat → Int32} {el : Nat → Nat} {eu : Nat → Int32} {ev ag : Nat → Nat} {an : Bool} {kk : Nat} {P : Nat → Int32} {Q : Nat → Int64} {S : Int64} {F : Nat → Int32} {R : Int32} {ch : Bool} {AP : Nat → Int32} {AQ : Nat → Int64}
set_option maxHeartbeats 4000000 in
set_option maxRecDepth 100000 in
theorem t_R_callPair {m e lx to : Nat} (hw : pwf cnt par prm siz atm) (hm : m < cnt) (hee : e < 8) (hlx : lx < 8) (hto : to < 8) : CT l y_R_callPair c_R_callPair 10 none (rmm 1 24) (gG D cI cL) [.ref (ad 0), .int (nI m), .int (nI e), .int (nI lx), .int (nI to)] (wR ad cI cL par prm siz atm cnt mo he en ap oc cal el eu ev ag an kk P Q S F R ch AP AQ) (fun v w2 => v = none ∧ ∃ P2 Q2 S2 F2 R2 g2, apc (acp par prm lx m e to) ch (ofw P Q S F R) g2 (ofw P2 Q2 S2 F2 R2) ∧ w2 = (wR ad cI cL par prm siz atm cnt mo he en ap oc cal el eu ev ag an kk P2 Q2 S2 F2 R2 g2 AP AQ)) := by
  refine CT.of R_R (by decide) rfl (Nat.le_of_ble_eq_true rfl) ?_
  intro E A hname
  have hc8 : cnt ≤ 8 := hw.2.1
  have hc79 : ∀ (Sa : Int64) (Fa : Nat → Int32) (ga : Bool), (apc (asf (8 * m + to) lx m) ch (ofw P Q S F R) ga (ofw P Q Sa Fa R)) → xj E l (rmm 1 24) c_R_callPair 10 none R_R (gG D cI cL) A 0 0 (fun v w2 => v = none ∧ ∃ P2 Q2 S2 F2 R2 g2, apc (acp par prm lx m e to) ch (ofw P Q S F R) g2 (ofw P2 Q2 S2 F2 R2) ∧ w2 = (wR ad cI cL par prm siz atm cnt mo he en ap oc cal el eu ev ag an kk P2 Q2 S2 F2 R2 g2 AP AQ)) 0 0 (wR ad cI cL par prm siz atm cnt mo he en ap oc cal el eu ev ag an kk P Q Sa Fa R ga AP AQ) 79 [(0, .ref (ad 0)), (1, .int (nI m)), (2, .int (nI e)), (3, .int (nI lx)), (4, .int (nI to))] [] := by
    intro Sa Fa ga ha
    refine x_aload_n (pc := 79) d_R_callPair_79 0 rfl ?_
    refine x_get (pc := 80) (ci := 4) d_R_callPair_80 in_R rfl 1 (by decide) k_R_13 0 rfl rfl ?_
    refine x_iload_n (pc := 83) d_R_callPair_83 1 rfl ?_
    refine x_ialdN (pc := 84) d_R_callPair_84 1 0 rfl rfl (by omega) (by omega) ?_
    refine x_istore (pc := 85) d_R_callPair_85 (by decide) [(7, _), (0, _), (1, _), (2, _), (3, _), (4, _)] rfl ?_
    have hlp : ∀ (fuel : Nat) (t : Nat) (P1 : Nat → Int32) (Q1 : Nat → Int64) (S1 : Int64) (F1 : Nat → Int32) (R1 : Int32) (g1 : Bool), t < fuel → (t ≤ m) → (∀ a, a < t → (aos par a m ↔ aos par a t)) → (apc (ach par prm m e to t) ga (ofw P Q Sa Fa R) g1 (ofw P1 Q1 S1 F1 R1)) → xj E l (rmm 1 24) c_R_callPair 10 none R_R (gG D cI cL) A 0 0 (fun v w2 => v = none ∧ ∃ P2 Q2 S2 F2 R2 g2, apc (acp par prm lx m e to) ch (ofw P Q S F R) g2 (ofw P2 Q2 S2 F2 R2) ∧ w2 = (wR ad cI cL par prm siz atm cnt mo he en ap oc cal el eu ev ag an kk P2 Q2 S2 F2 R2 g2 AP AQ)) 0 0 (wR ad cI cL par prm siz atm cnt mo he en ap oc cal el eu ev ag an kk P1 Q1 S1 F1 R1 g1 AP AQ) 87 [(7, .int (par t)), (0, .ref (ad 0)), (1, .int (nI m)), (2, .int (nI e)), (3, .int (nI lx)), (4, .int (nI to))] [] := by
      intro fuel
      induction fuel with
      | zero => intro t P1 Q1 S1 F1 R1 g1 hf; exact absurd hf (Nat.not_lt_zero _)
      | succ fuel ih =>
        intro t P1 Q1 S1 F1 R1 g1 hf ht hq hr
        refine x_iload (pc := 87) d_R_callPair_87 0 rfl ?_
        refine x_if_lt (pc := 89) (tgt := 164) d_R_callPair_89 rfl ?_ ?_
        · intro h89
          refine x_vret (pc := 164) d_R_callPair_164 rfl ?_
          have e0 : t = 0 := Nat.eq_zero_of_not_pos (fun z => by
            have hpt := pa_lt hw.2.2.1 hc8 z (by omega)
            rw [hpt.2] at h89
            exact nI_pos (by omega) h89)
          rw [e0] at hr
          exact ⟨rfl, P1, Q1, S1, F1, R1, g1, apc.seq (asf.amon _ _ _) (ach.amon _ _ _ _ _ _) ha hr, rfl⟩
        · intro h89
          have h0t : 0 < t := Nat.pos_of_ne_zero (fun z => h89 (by rw [z, hw.2.2.1.1]; decide))
          have hpt := pa_lt hw.2.2.1 hc8 h0t (by omega)
          have hp3 := hw.2.2.2.1 (pa par t) (by omega)
          rw [hpt.2]
          refine x_iconst (pc := 92) (nI 0) d_R_callPair_92 (by decide) ?_
          refine x_istore (pc := 93) d_R_callPair_93 (by decide) [(8, _), (7, _), (0, _), (1, _), (2, _), (3, _), (4, _)] rfl ?_
          have hli : ∀ (fuel : Nat) (i : Nat) (P3 : Nat → Int32) (Q3 : Nat → Int64) (S3 : Int64) (F3 : Nat → Int32) (R3 : Int32) (g3 : Bool), prm (pa par t) - i < fuel → (i ≤ prm (pa par t)) → (apc (fun X Y => ∀ j, j < i → acar prm (pa par t) e to j X Y) g1 (ofw P1 Q1 S1 F1 R1) g3 (ofw P3 Q3 S3 F3 R3)) → xj E l (rmm 1 24) c_R_callPair 10 none R_R (gG D cI cL) A 0 0 (fun v w2 => v = none ∧ ∃ P2 Q2 S2 F2 R2 g2, apc (acp par prm lx m e to) ch (ofw P Q S F R) g2 (ofw P2 Q2 S2 F2 R2) ∧ w2 = (wR ad cI cL par prm siz atm cnt mo he en ap oc cal el eu ev ag an kk P2 Q2 S2 F2 R2 g2 AP AQ)) 0 0 (wR ad cI cL par prm siz atm cnt mo he en ap oc cal el eu ev ag an kk P3 Q3 S3 F3 R3 g3 AP AQ) 95 [(8, .int (nI i)), (7, .int (nI (pa par t))), (0, .ref (ad 0)), (1, .int (nI m)), (2, .int (nI e)), (3, .int (nI lx)), (4, .int (nI to))] [] := by
            intro fuel
            induction fuel with
            | zero => intro i P3 Q3 S3 F3 R3 g3 hf; exact absurd hf (Nat.not_lt_zero _)
            | succ fuel ihi =>
              intro i P3 Q3 S3 F3 R3 g3 hf hi hs
              refine x_iload (pc := 95) d_R_callPair_95 0 rfl ?_
              refine x_aload_n (pc := 97) d_R_callPair_97 2 rfl ?_
              refine x_get (pc := 98) (ci := 4) d_R_callPair_98 in_R rfl 2 (by decide) k_R_17 0 rfl rfl ?_
              refine x_iload (pc := 101) d_R_callPair_101 1 rfl ?_
              refine x_ialdN (pc := 103) d_R_callPair_103 2 0 rfl rfl (by omega) (by omega) ?_
              first | refine x_icmp_geN (pc := 104) (tgt := 152) d_R_callPair_104 rfl (by omega) (by omega) ?_ ?_ | refine x_icmp_ge (pc := 104) (tgt := 152) d_R_callPair_104 rfl ?_ ?_
              · intro h104
                have e1 : i = prm (pa par t) := by omega
                rw [e1] at hs
                refine x_aload_n (pc := 152) d_R_callPair_152 2 rfl ?_
                refine x_get (pc := 153) (ci := 4) d_R_callPair_153 in_R rfl 1 (by decide) k_R_13 0 rfl rfl ?_
                refine x_iload (pc := 156) d_R_callPair_156 1 rfl ?_
                refine x_ialdN (pc := 158) d_R_callPair_158 1 0 rfl rfl (by omega) (by omega) ?_
                refine x_istore (pc := 159) d_R_callPair_159 (by decide) [(7, _), (8, _), (0, _), (1, _), (2, _), (3, _), (4, _)] rfl ?_
                refine x_goto (pc := 161) (tgt := 87) d_R_callPair_161 rfl ?_
                refine x_sub [0, 2, 3, 4, 5, 6] _ rfl ?_
                exact ih (pa par t) P3 Q3 S3 F3 R3 g3 (by omega) (by omega) (ach_q hw.2.2.1 hc8 (by omega) h0t hq) (ach_next hw.2.2.1 hc8 (by omega) h0t ht hq hr hs)
              · intro h104
                have hs1 := sl_lt (m := pa par t) (i := i) (by omega) (by omega) hee
                have hs2 := sl_lt (m := pa par t) (i := i) (by omega) (by omega) hto
                refine x_bipush (pc := 107) (nI 8) d_R_callPair_107 (by decide) ?_
                refine x_iconst (pc := 109) (nI 3) d_R_callPair_109 (by decide) ?_
                refine x_iload (pc := 110) d_R_callPair_110 1 rfl ?_
                first | refine x_imulN (pc := 112) d_R_callPair_112 ?_ | refine x_imul (pc := 112) d_R_callPair_112 ?_
                refine x_iload (pc := 113) d_R_callPair_113 0 rfl ?_
                first | refine x_iaddN (pc := 115) d_R_callPair_115 ?_ | refine x_iadd (pc := 115) d_R_callPair_115 ?_
                first | refine x_imulN (pc := 116) d_R_callPair_116 ?_ | refine x_imul (pc := 116) d_R_callPair_116 ?_
                refine x_istore (pc := 117) d_R_callPair_117 (by decide) [(9, _), (8, _), (7, _), (0, _), (1, _), (2, _), (3, _), (4, _)] rfl ?_
                refine x_aload_n (pc := 119) d_R_callPair_119 3 rfl ?_
                refine x_iload (pc := 120) d_R_callPair_120 0 rfl ?_
                refine x_iload (pc := 122) d_R_callPair_122 7 rfl ?_
                first | refine x_iaddN (pc := 124) d_R_callPair_124 ?_ | refine x_iadd (pc := 124) d_R_callPair_124 ?_
                refine x_ti (y := nI (sl (pa par t) i to)) (congrArg nI (by unfold sl; omega)) ?_
                refine x_aload_n (pc := 125) d_R_callPair_125 3 rfl ?_
                refine x_get (pc := 126) (ci := 4) d_R_callPair_126 in_R rfl 17 (by decide) k_R_41 0 rfl rfl ?_
                refine x_iload (pc := 129) d_R_callPair_129 0 rfl ?_
                refine x_iload_n (pc := 131) d_R_callPair_131 5 rfl ?_
                first | refine x_iaddN (pc := 132) d_R_callPair_132 ?_ | refine x_iadd (pc := 132) d_R_callPair_132 ?_
                refine x_ti (y := nI (sl (pa par t) i e)) (congrArg nI (by unfold sl; omega)) ?_
                refine x_ialdN (pc := 133) d_R_callPair_133 10 0 rfl rfl (by omega) (by omega) ?_
                refine x_aload_n (pc := 134) d_R_callPair_134 3 rfl ?_
                refine x_get (pc := 135) (ci := 4) d_R_callPair_135 in_R rfl 18 (by decide) k_R_44 0 rfl rfl ?_
                refine x_iload (pc := 138) d_R_callPair_138 0 rfl ?_
                refine x_iload_n (pc := 140) d_R_callPair_140 5 rfl ?_
                first | refine x_iaddN (pc := 141) d_R_callPair_141 ?_ | refine x_iadd (pc := 141) d_R_callPair_141 ?_
                refine x_ti (y := nI (sl (pa par t) i e)) (congrArg nI (by unfold sl; omega)) ?_
                refine x_laldN (pc := 142) d_R_callPair_142 11 1 rfl rfl (by omega) (by omega) ?_
                refine x_callV_X (pc := 143) (ci := 4) d_R_callPair_143 k_R_124 wi_R_grow wv_R_grow w_R_grow ini_R wd_R_grow ⟨by decide, by decide⟩ ⟨rfl, rfl⟩ ⟨Nat.zero_le _, Nat.zero_le _⟩ 0 rfl rfl (t_R_grow hs2) rfl rfl (Nat.le_of_ble_eq_true rfl) (fun v143 w143 hp143 => ?_)
                obtain ⟨rfl, P4, Q4, S4, F4, R4, g4, hap4, rfl⟩ := hp143
                refine x_iincN (pc := 146) d_R_callPair_146 1 rfl (by decide) [(8, _), (9, _), (7, _), (0, _), (1, _), (2, _), (3, _), (4, _)] rfl ?_
                refine x_goto (pc := 149) (tgt := 95) d_R_callPair_149 rfl ?_
                refine x_sub [0, 2, 3, 4, 5, 6, 7] _ rfl ?_
                exact ihi (i + 1) P4 Q4 S4 F4 R4 g4 (by omega) (by omega) (apc.next (fun j => acar.amon prm (pa par t) e to j) hs (apc.car hs1 hap4))
          refine x_sub [0, 1, 2, 3, 4, 5, 6] _ rfl ?_
          exact hli (prm (pa par t) + 1) 0 P1 Q1 S1 F1 R1 g1 (by omega) (by omega) (apc.zero g1 _)
    refine x_sub [0, 1, 2, 3, 4, 5] _ rfl ?_
    exact hlp (m + 1) m P Q Sa Fa R ga (by omega) (Nat.le_refl m) (fun a _ => Iff.rfl) (ach.zero ga _)
  refine x_lconst (pc := 0) 1 d_R_callPair_0 (by decide) ?_
  refine x_bipush (pc := 1) (nI 8) d_R_callPair_1 (by decide) ?_
  refine x_iload_n (pc := 3) d_R_callPair_3 1 rfl ?_
  first | refine x_imulN (pc := 4) d_R_callPair_4 ?_ | refine x_imul (pc := 4) d_R_callPair_4 ?_
  refine x_iload (pc := 5) d_R_callPair_5 4 rfl ?_
  first | refine x_iaddN (pc := 7) d_R_callPair_7 ?_ | refine x_iadd (pc := 7) d_R_callPair_7 ?_
  refine x_lshl (pc := 8) d_R_callPair_8 ?_
  refine x_tl (y := lP (8 * m + to)) rfl ?_
  refine x_lstore (pc := 9) d_R_callPair_9 (by decide) [(5, _), (0, _), (1, _), (2, _), (3, _), (4, _)] rfl ?_
  refine x_aload_n (pc := 11) d_R_callPair_11 1 rfl ?_
  refine x_aload_n (pc := 12) d_R_callPair_12 1 rfl ?_
  refine x_get (pc := 13) (ci := 4) d_R_callPair_13 in_R rfl 22 (by decide) k_R_114 0 rfl rfl ?_
  first | refine x_if_neB (pc := 16) (tgt := 44) d_R_callPair_16 rfl ?_ ?_ | refine x_if_neL (pc := 16) (tgt := 44) d_R_callPair_16 rfl ?_ ?_ | refine x_if_neN (pc := 16) (tgt := 44) d_R_callPair_16 rfl (by omega) ?_ ?_ | refine x_if_ne (pc := 16) (tgt := 44) d_R_callPair_16 rfl ?_ ?_
  · intro h16
    refine x_iconst (pc := 44) (nI 1) d_R_callPair_44 (by decide) ?_
    refine x_goto (pc := 45) (tgt := 49) d_R_callPair_45 rfl ?_
    refine x_put (pc := 49) (ci := 4) (ty := .boolean) d_R_callPair_49 in_R t_R ty_R nm_R rfl 22 (by decide) k_R_114 rfl (by decide +kernel) rfl rfl 0 rfl (Nat.le_of_ble_eq_true rfl) (_) (rfl) ?_
    refine x_aload_n (pc := 52) d_R_callPair_52 1 rfl ?_
    refine x_aload_n (pc := 53) d_R_callPair_53 1 rfl ?_
    refine x_get (pc := 54) (ci := 4) d_R_callPair_54 in_R rfl 19 (by decide) k_R_128 0 rfl rfl ?_
    refine x_lload (pc := 57) d_R_callPair_57 0 rfl ?_
    refine x_lor (pc := 59) d_R_callPair_59 ?_
    refine x_put (pc := 60) (ci := 4) (ty := .long) d_R_callPair_60 in_R t_R ty_R nm_R rfl 19 (by decide) k_R_128 rfl (by decide +kernel) rfl rfl 0 rfl (Nat.le_of_ble_eq_true rfl) (_) (rfl) ?_
    refine x_aload_n (pc := 63) d_R_callPair_63 1 rfl ?_
    refine x_get (pc := 64) (ci := 4) d_R_callPair_64 in_R rfl 20 (by decide) k_R_48 0 rfl rfl ?_
    refine x_iload_n (pc := 67) d_R_callPair_67 4 rfl ?_
    refine x_aload_n (pc := 68) d_R_callPair_68 1 rfl ?_
    refine x_get (pc := 69) (ci := 4) d_R_callPair_69 in_R rfl 20 (by decide) k_R_48 0 rfl rfl ?_
    refine x_iload_n (pc := 72) d_R_callPair_72 4 rfl ?_
    refine x_ialdN (pc := 73) d_R_callPair_73 12 0 rfl rfl (by omega) (by omega) ?_
    refine x_iconst (pc := 74) (nI 1) d_R_callPair_74 (by decide) ?_
    refine x_iload_n (pc := 75) d_R_callPair_75 2 rfl ?_
    refine x_ishl (pc := 76) d_R_callPair_76 ?_
    refine x_ior (pc := 77) d_R_callPair_77 ?_
    first | refine x_iastU (pc := 78) d_R_callPair_78 12 0 rfl rfl (by omega) (by omega) ?_ | refine x_iastN (pc := 78) d_R_callPair_78 12 0 rfl rfl (by omega) (by omega) _ rfl ?_
    refine x_sub [1, 2, 3, 4, 5] _ rfl ?_
    first
      | exact hc79 _ _ true (apc.sfT (by omega) hlx (lP_bl (by omega)) (b_one m (by omega)) h16)
      | exact hc79 _ _ true (apc.sfS (by omega) hlx (lP_bl (by omega)) (b_one m (by omega)) ((l_and0 (by omega)).mp h28))
      | exact hc79 _ _ true (apc.sfF hlx (lP_bl (by omega)) (b_one m (by omega)) (Bool.of_not_eq_false (fun z => h28 ((l_and0 (by omega)).mpr z))) ((hs0 (by omega)).mp h41))
      | exact hc79 _ _ false (apc.sfN hlx (lP_bl (by omega)) (b_one m (by omega)) h16 (Bool.of_not_eq_false (fun z => h28 ((l_and0 (by omega)).mpr z))))
  · intro h16
    refine x_aload_n (pc := 19) d_R_callPair_19 1 rfl ?_
    refine x_get (pc := 20) (ci := 4) d_R_callPair_20 in_R rfl 19 (by decide) k_R_128 0 rfl rfl ?_
    refine x_lload (pc := 23) d_R_callPair_23 0 rfl ?_
    refine x_land (pc := 25) d_R_callPair_25 ?_
    refine x_lconst (pc := 26) 0 d_R_callPair_26 (by decide) ?_
    refine x_lcmp (pc := 27) d_R_callPair_27 ?_
    refine x_if_eqL (pc := 28) (tgt := 44) d_R_callPair_28 rfl ?_ ?_
    · intro h28
      refine x_iconst (pc := 44) (nI 1) d_R_callPair_44 (by decide) ?_
      refine x_goto (pc := 45) (tgt := 49) d_R_callPair_45 rfl ?_
      refine x_put (pc := 49) (ci := 4) (ty := .boolean) d_R_callPair_49 in_R t_R ty_R nm_R rfl 22 (by decide) k_R_114 rfl (by decide +kernel) rfl rfl 0 rfl (Nat.le_of_ble_eq_true rfl) (_) (rfl) ?_
      refine x_aload_n (pc := 52) d_R_callPair_52 1 rfl ?_
      refine x_aload_n (pc := 53) d_R_callPair_53 1 rfl ?_
      refine x_get (pc := 54) (ci := 4) d_R_callPair_54 in_R rfl 19 (by decide) k_R_128 0 rfl rfl ?_
      refine x_lload (pc := 57) d_R_callPair_57 0 rfl ?_
      refine x_lor (pc := 59) d_R_callPair_59 ?_
      refine x_put (pc := 60) (ci := 4) (ty := .long) d_R_callPair_60 in_R t_R ty_R nm_R rfl 19 (by decide) k_R_128 rfl (by decide +kernel) rfl rfl 0 rfl (Nat.le_of_ble_eq_true rfl) (_) (rfl) ?_
      refine x_aload_n (pc := 63) d_R_callPair_63 1 rfl ?_
      refine x_get (pc := 64) (ci := 4) d_R_callPair_64 in_R rfl 20 (by decide) k_R_48 0 rfl rfl ?_
      refine x_iload_n (pc := 67) d_R_callPair_67 4 rfl ?_
      refine x_aload_n (pc := 68) d_R_callPair_68 1 rfl ?_
      refine x_get (pc := 69) (ci := 4) d_R_callPair_69 in_R rfl 20 (by decide) k_R_48 0 rfl rfl ?_
      refine x_iload_n (pc := 72) d_R_callPair_72 4 rfl ?_
      refine x_ialdN (pc := 73) d_R_callPair_73 12 0 rfl rfl (by omega) (by omega) ?_
      refine x_iconst (pc := 74) (nI 1) d_R_callPair_74 (by decide) ?_
      refine x_iload_n (pc := 75) d_R_callPair_75 2 rfl ?_
      refine x_ishl (pc := 76) d_R_callPair_76 ?_
      refine x_ior (pc := 77) d_R_callPair_77 ?_
      first | refine x_iastU (pc := 78) d_R_callPair_78 12 0 rfl rfl (by omega) (by omega) ?_ | refine x_iastN (pc := 78) d_R_callPair_78 12 0 rfl rfl (by omega) (by omega) _ rfl ?_
      refine x_sub [1, 2, 3, 4, 5] _ rfl ?_
      first
        | exact hc79 _ _ true (apc.sfT (by omega) hlx (lP_bl (by omega)) (b_one m (by omega)) h16)
        | exact hc79 _ _ true (apc.sfS (by omega) hlx (lP_bl (by omega)) (b_one m (by omega)) ((l_and0 (by omega)).mp h28))
        | exact hc79 _ _ true (apc.sfF hlx (lP_bl (by omega)) (b_one m (by omega)) (Bool.of_not_eq_false (fun z => h28 ((l_and0 (by omega)).mpr z))) ((hs0 (by omega)).mp h41))
        | exact hc79 _ _ false (apc.sfN hlx (lP_bl (by omega)) (b_one m (by omega)) h16 (Bool.of_not_eq_false (fun z => h28 ((l_and0 (by omega)).mpr z))))
    · intro h28
      refine x_aload_n (pc := 31) d_R_callPair_31 1 rfl ?_
      refine x_get (pc := 32) (ci := 4) d_R_callPair_32 in_R rfl 20 (by decide) k_R_48 0 rfl rfl ?_
      refine x_iload_n (pc := 35) d_R_callPair_35 4 rfl ?_
      refine x_ialdN (pc := 36) d_R_callPair_36 12 0 rfl rfl (by omega) (by omega) ?_
      refine x_iload_n (pc := 37) d_R_callPair_37 2 rfl ?_
      refine x_ishr (pc := 38) d_R_callPair_38 ?_
      refine x_iconst (pc := 39) (nI 1) d_R_callPair_39 (by decide) ?_
      refine x_iand (pc := 40) d_R_callPair_40 ?_
      refine x_if_ne (pc := 41) (tgt := 48) d_R_callPair_41 rfl ?_ ?_
      · intro h41
        refine x_iconst (pc := 48) (nI 0) d_R_callPair_48 (by decide) ?_
        refine x_put (pc := 49) (ci := 4) (ty := .boolean) d_R_callPair_49 in_R t_R ty_R nm_R rfl 22 (by decide) k_R_114 rfl (by decide +kernel) rfl rfl 0 rfl (Nat.le_of_ble_eq_true rfl) (_) (rfl) ?_
        refine x_aload_n (pc := 52) d_R_callPair_52 1 rfl ?_
        refine x_aload_n (pc := 53) d_R_callPair_53 1 rfl ?_
        refine x_get (pc := 54) (ci := 4) d_R_callPair_54 in_R rfl 19 (by decide) k_R_128 0 rfl rfl ?_
        refine x_lload (pc := 57) d_R_callPair_57 0 rfl ?_
        refine x_lor (pc := 59) d_R_callPair_59 ?_
        refine x_put (pc := 60) (ci := 4) (ty := .long) d_R_callPair_60 in_R t_R ty_R nm_R rfl 19 (by decide) k_R_128 rfl (by decide +kernel) rfl rfl 0 rfl (Nat.le_of_ble_eq_true rfl) (_) (rfl) ?_
        refine x_aload_n (pc := 63) d_R_callPair_63 1 rfl ?_
        refine x_get (pc := 64) (ci := 4) d_R_callPair_64 in_R rfl 20 (by decide) k_R_48 0 rfl rfl ?_
        refine x_iload_n (pc := 67) d_R_callPair_67 4 rfl ?_
        refine x_aload_n (pc := 68) d_R_callPair_68 1 rfl ?_
        refine x_get (pc := 69) (ci := 4) d_R_callPair_69 in_R rfl 20 (by decide) k_R_48 0 rfl rfl ?_
        refine x_iload_n (pc := 72) d_R_callPair_72 4 rfl ?_
        refine x_ialdN (pc := 73) d_R_callPair_73 12 0 rfl rfl (by omega) (by omega) ?_
        refine x_iconst (pc := 74) (nI 1) d_R_callPair_74 (by decide) ?_
        refine x_iload_n (pc := 75) d_R_callPair_75 2 rfl ?_
        refine x_ishl (pc := 76) d_R_callPair_76 ?_
        refine x_ior (pc := 77) d_R_callPair_77 ?_
        first | refine x_iastU (pc := 78) d_R_callPair_78 12 0 rfl rfl (by omega) (by omega) ?_ | refine x_iastN (pc := 78) d_R_callPair_78 12 0 rfl rfl (by omega) (by omega) _ rfl ?_
        refine x_sub [1, 2, 3, 4, 5] _ rfl ?_
        first
          | exact hc79 _ _ true (apc.sfT (by omega) hlx (lP_bl (by omega)) (b_one m (by omega)) h16)
          | exact hc79 _ _ true (apc.sfS (by omega) hlx (lP_bl (by omega)) (b_one m (by omega)) ((l_and0 (by omega)).mp h28))
          | exact hc79 _ _ true (apc.sfF hlx (lP_bl (by omega)) (b_one m (by omega)) (Bool.of_not_eq_false (fun z => h28 ((l_and0 (by omega)).mpr z))) ((hs0 (by omega)).mp h41))
          | exact hc79 _ _ false (apc.sfN hlx (lP_bl (by omega)) (b_one m (by omega)) h16 (Bool.of_not_eq_false (fun z => h28 ((l_and0 (by omega)).mpr z))))
      · intro h41
        refine x_iconst (pc := 44) (nI 1) d_R_callPair_44 (by decide) ?_
        refine x_goto (pc := 45) (tgt := 49) d_R_callPair_45 rfl ?_
        refine x_put (pc := 49) (ci := 4) (ty := .boolean) d_R_callPair_49 in_R t_R ty_R nm_R rfl 22 (by decide) k_R_114 rfl (by decide +kernel) rfl rfl 0 rfl (Nat.le_of_ble_eq_true rfl) (_) (rfl) ?_
        refine x_aload_n (pc := 52) d_R_callPair_52 1 rfl ?_
        refine x_aload_n (pc := 53) d_R_callPair_53 1 rfl ?_
        refine x_get (pc := 54) (ci := 4) d_R_callPair_54 in_R rfl 19 (by decide) k_R_128 0 rfl rfl ?_
        refine x_lload (pc := 57) d_R_callPair_57 0 rfl ?_
        refine x_lor (pc := 59) d_R_callPair_59 ?_
        refine x_put (pc := 60) (ci := 4) (ty := .long) d_R_callPair_60 in_R t_R ty_R nm_R rfl 19 (by decide) k_R_128 rfl (by decide +kernel) rfl rfl 0 rfl (Nat.le_of_ble_eq_true rfl) (_) (rfl) ?_
        refine x_aload_n (pc := 63) d_R_callPair_63 1 rfl ?_
        refine x_get (pc := 64) (ci := 4) d_R_callPair_64 in_R rfl 20 (by decide) k_R_48 0 rfl rfl ?_
        refine x_iload_n (pc := 67) d_R_callPair_67 4 rfl ?_
        refine x_aload_n (pc := 68) d_R_callPair_68 1 rfl ?_
        refine x_get (pc := 69) (ci := 4) d_R_callPair_69 in_R rfl 20 (by decide) k_R_48 0 rfl rfl ?_
        refine x_iload_n (pc := 72) d_R_callPair_72 4 rfl ?_
        refine x_ialdN (pc := 73) d_R_callPair_73 12 0 rfl rfl (by omega) (by omega) ?_
        refine x_iconst (pc := 74) (nI 1) d_R_callPair_74 (by decide) ?_
        refine x_iload_n (pc := 75) d_R_callPair_75 2 rfl ?_
        refine x_ishl (pc := 76) d_R_callPair_76 ?_
        refine x_ior (pc := 77) d_R_callPair_77 ?_
        first | refine x_iastU (pc := 78) d_R_callPair_78 12 0 rfl rfl (by omega) (by omega) ?_ | refine x_iastN (pc := 78) d_R_callPair_78 12 0 rfl rfl (by omega) (by omega) _ rfl ?_
        refine x_sub [1, 2, 3, 4, 5] _ rfl ?_
        first
          | exact hc79 _ _ true (apc.sfT (by omega) hlx (lP_bl (by omega)) (b_one m (by omega)) h16)
          | exact hc79 _ _ true (apc.sfS (by omega) hlx (lP_bl (by omega)) (b_one m (by omega)) ((l_and0 (by omega)).mp h28))
          | exact hc79 _ _ true (apc.sfF hlx (lP_bl (by omega)) (b_one m (by omega)) (Bool.of_not_eq_false (fun z => h28 ((l_and0 (by omega)).mpr z))) ((hs0 (by omega)).mp h41))
          | exact hc79 _ _ false (apc.sfN hlx (lP_bl (by omega)) (b_one m (by omega)) h16 (Bool.of_not_eq_false (fun z => h28 ((l_and0 (by omega)).mpr z))))
set_option maxHeartbeats 4000000 in
set_option maxRecDepth 100000 in
theorem t_R_applyPairs {O : Int64} {lx n first : Nat} (hw : pwf cnt par prm siz atm) (hk : kk ≤ 1) (hlx : lx < 8) (hn : n ≤ 3) (hfi : first + n ≤ 4) : CT l y_R_applyPairs c_R_applyPairs 10 none (rmm 2 53) (gG D cI cL) [.ref (ad 0), .long O, .int (nI lx), .int (nI n), .int (nI first)] (wR ad cI cL par prm siz atm cnt mo he en ap oc cal el eu ev ag an kk P Q S F R ch AP AQ) (fun v w2 => v = none ∧ ∃ P2 Q2 S2 F2 R2 g2, apc (acalls cnt (anc par) prm lx (if kk = 1 then lx else 0) n (fun b => bl O b = true) (fun i b => bt (AP (first + i)) b = true) (fun i b => bl (AQ (first + i)) b = true)) ch (ofw P Q S F R) g2 (ofw P2 Q2 S2 F2 R2) ∧ w2 = (wR ad cI cL par prm siz atm cnt mo he en ap oc cal el eu ev ag an kk P2 Q2 S2 F2 R2 g2 AP AQ)) := by
  refine CT.of R_R (by decide) rfl (Nat.le_of_ble_eq_true rfl) ?_
  intro E A hname
  have hc8 : cnt ≤ 8 := hw.2.1
  have hto : (if kk = 1 then lx else 0) < 8 := by split <;> omega
  have hc13 : xj E l (rmm 2 53) c_R_applyPairs 10 none R_R (gG D cI cL) A 0 0 (fun v w2 => v = none ∧ ∃ P2 Q2 S2 F2 R2 g2, apc (acalls cnt (anc par) prm lx (if kk = 1 then lx else 0) n (fun b => bl O b = true) (fun i b => bt (AP (first + i)) b = true) (fun i b => bl (AQ (first + i)) b = true)) ch (ofw P Q S F R) g2 (ofw P2 Q2 S2 F2 R2) ∧ w2 = (wR ad cI cL par prm siz atm cnt mo he en ap oc cal el eu ev ag an kk P2 Q2 S2 F2 R2 g2 AP AQ)) 0 0 (wR ad cI cL par prm siz atm cnt mo he en ap oc cal el eu ev ag an kk P Q S F R ch AP AQ) 13 [(0, .ref (ad 0)), (1, .long O), (3, .int (nI lx)), (4, .int (nI n)), (5, .int (nI first))] [.int (nI (if kk = 1 then lx else 0))] := by
    refine x_istore (pc := 13) d_R_applyPairs_13 (by decide) [(6, _), (0, _), (1, _), (3, _), (4, _), (5, _)] rfl ?_
    refine x_iconst (pc := 15) (nI 0) d_R_applyPairs_15 (by decide) ?_
    refine x_istore (pc := 16) d_R_applyPairs_16 (by decide) [(7, _), (6, _), (0, _), (1, _), (3, _), (4, _), (5, _)] rfl ?_
    have hlp : ∀ (fuel : Nat) (m : Nat) (P1 : Nat → Int32) (Q1 : Nat → Int64) (S1 : Int64) (F1 : Nat → Int32) (R1 : Int32) (g1 : Bool), cnt - m < fuel → (m ≤ cnt) → (apc (fun X Y => ∀ j, j < 8 * m → adj par prm lx (if kk = 1 then lx else 0) n O (fun i b => bt (AP (first + i)) b = true) (fun i b => bl (AQ (first + i)) b = true) j X Y) ch (ofw P Q S F R) g1 (ofw P1 Q1 S1 F1 R1)) → xj E l (rmm 2 53) c_R_applyPairs 10 none R_R (gG D cI cL) A 0 0 (fun v w2 => v = none ∧ ∃ P2 Q2 S2 F2 R2 g2, apc (acalls cnt (anc par) prm lx (if kk = 1 then lx else 0) n (fun b => bl O b = true) (fun i b => bt (AP (first + i)) b = true) (fun i b => bl (AQ (first + i)) b = true)) ch (ofw P Q S F R) g2 (ofw P2 Q2 S2 F2 R2) ∧ w2 = (wR ad cI cL par prm siz atm cnt mo he en ap oc cal el eu ev ag an kk P2 Q2 S2 F2 R2 g2 AP AQ)) 0 0 (wR ad cI cL par prm siz atm cnt mo he en ap oc cal el eu ev ag an kk P1 Q1 S1 F1 R1 g1 AP AQ) 18 [(7, .int (nI m)), (6, .int (nI (if kk = 1 then lx else 0))), (0, .ref (ad 0)), (1, .long O), (3, .int (nI lx)), (4, .int (nI n)), (5, .int (nI first))] [] := by
      intro fuel
      induction fuel with
      | zero => intro m P1 Q1 S1 F1 R1 g1 hf; exact absurd hf (Nat.not_lt_zero _)
      | succ fuel ih =>
        intro m P1 Q1 S1 F1 R1 g1 hf hm hq
        refine x_iload (pc := 18) d_R_applyPairs_18 0 rfl ?_
        refine x_aload_n (pc := 20) d_R_applyPairs_20 2 rfl ?_
        refine x_get (pc := 21) (ci := 4) d_R_applyPairs_21 in_R rfl 0 (by decide) k_R_7 0 rfl rfl ?_
        first | refine x_icmp_geN (pc := 24) (tgt := 142) d_R_applyPairs_24 rfl (by omega) (by omega) ?_ ?_ | refine x_icmp_ge (pc := 24) (tgt := 142) d_R_applyPairs_24 rfl ?_ ?_
        · intro h24
          refine x_vret (pc := 142) d_R_applyPairs_142 rfl ?_
          have e2 : m = cnt := by omega
          rw [e2] at hq
          exact ⟨rfl, P1, Q1, S1, F1, R1, g1, acalls_of hq, rfl⟩
        · intro h24
          have hpm := hw.2.2.2.1 m (by omega)
          refine x_iconst (pc := 27) (nI 0) d_R_applyPairs_27 (by decide) ?_
          refine x_istore (pc := 28) d_R_applyPairs_28 (by decide) [(8, _), (7, _), (6, _), (0, _), (1, _), (3, _), (4, _), (5, _)] rfl ?_
          have hle : ∀ (fuel : Nat) (e : Nat) (P3 : Nat → Int32) (Q3 : Nat → Int64) (S3 : Int64) (F3 : Nat → Int32) (R3 : Int32) (g3 : Bool), 8 - e < fuel → (e ≤ 8) → (apc (fun X Y => ∀ j, j < 8 * m + e → adj par prm lx (if kk = 1 then lx else 0) n O (fun i b => bt (AP (first + i)) b = true) (fun i b => bl (AQ (first + i)) b = true) j X Y) ch (ofw P Q S F R) g3 (ofw P3 Q3 S3 F3 R3)) → xj E l (rmm 2 53) c_R_applyPairs 10 none R_R (gG D cI cL) A 0 0 (fun v w2 => v = none ∧ ∃ P2 Q2 S2 F2 R2 g2, apc (acalls cnt (anc par) prm lx (if kk = 1 then lx else 0) n (fun b => bl O b = true) (fun i b => bt (AP (first + i)) b = true) (fun i b => bl (AQ (first + i)) b = true)) ch (ofw P Q S F R) g2 (ofw P2 Q2 S2 F2 R2) ∧ w2 = (wR ad cI cL par prm siz atm cnt mo he en ap oc cal el eu ev ag an kk P2 Q2 S2 F2 R2 g2 AP AQ)) 0 0 (wR ad cI cL par prm siz atm cnt mo he en ap oc cal el eu ev ag an kk P3 Q3 S3 F3 R3 g3 AP AQ) 30 [(8, .int (nI e)), (7, .int (nI m)), (6, .int (nI (if kk = 1 then lx else 0))), (0, .ref (ad 0)), (1, .long O), (3, .int (nI lx)), (4, .int (nI n)), (5, .int (nI first))] [] := by
            intro fuel
            induction fuel with
            | zero => intro e P3 Q3 S3 F3 R3 g3 hf; exact absurd hf (Nat.not_lt_zero _)
            | succ fuel ihe =>
              intro e P3 Q3 S3 F3 R3 g3 hf hee hr
              refine x_iload (pc := 30) d_R_applyPairs_30 0 rfl ?_
              refine x_bipush (pc := 32) (nI 8) d_R_applyPairs_32 (by decide) ?_
              first | refine x_icmp_geN (pc := 34) (tgt := 136) d_R_applyPairs_34 rfl (by omega) (by omega) ?_ ?_ | refine x_icmp_ge (pc := 34) (tgt := 136) d_R_applyPairs_34 rfl ?_ ?_
              · intro h34
                refine x_iincN (pc := 136) d_R_applyPairs_136 1 rfl (by decide) [(7, _), (8, _), (6, _), (0, _), (1, _), (3, _), (4, _), (5, _)] rfl ?_
                refine x_goto (pc := 139) (tgt := 18) d_R_applyPairs_139 rfl ?_
                refine x_sub [0, 2, 3, 4, 5, 6, 7] _ rfl ?_
                have e8 : e = 8 := by omega
                rw [e8] at hr
                exact ih (m + 1) P3 Q3 S3 F3 R3 g3 (by omega) (by omega) hr
              · intro h34
                refine x_lload_n (pc := 37) d_R_applyPairs_37 4 rfl ?_
                refine x_bipush (pc := 38) (nI 8) d_R_applyPairs_38 (by decide) ?_
                refine x_iload (pc := 40) d_R_applyPairs_40 1 rfl ?_
                first | refine x_imulN (pc := 42) d_R_applyPairs_42 ?_ | refine x_imul (pc := 42) d_R_applyPairs_42 ?_
                refine x_iload (pc := 43) d_R_applyPairs_43 0 rfl ?_
                first | refine x_iaddN (pc := 45) d_R_applyPairs_45 ?_ | refine x_iadd (pc := 45) d_R_applyPairs_45 ?_
                refine x_lushr (pc := 46) d_R_applyPairs_46 ?_
                refine x_lconst (pc := 47) 1 d_R_applyPairs_47 (by decide) ?_
                refine x_land (pc := 48) d_R_applyPairs_48 ?_
                refine x_lconst (pc := 49) 1 d_R_applyPairs_49 (by decide) ?_
                refine x_lcmp (pc := 50) d_R_applyPairs_50 ?_
                refine x_if_neL (pc := 51) (tgt := 130) d_R_applyPairs_51 rfl ?_ ?_
                · intro h51
                  refine x_iincN (pc := 130) d_R_applyPairs_130 0 rfl (by decide) [(8, _), (7, _), (6, _), (0, _), (1, _), (3, _), (4, _), (5, _)] rfl ?_
                  refine x_goto (pc := 133) (tgt := 30) d_R_applyPairs_133 rfl ?_
                  refine x_sub [0, 1, 2, 3, 4, 5, 6, 7] _ rfl ?_
                  first
                    | exact ihe (e + 1) P5 Q5 S5 F5 R5 g5 (by omega) (by omega) (apc.next (N := adj par prm lx (if kk = 1 then lx else 0) n O (fun i b => bt (AP (first + i)) b = true) (fun i b => bl (AQ (first + i)) b = true)) (fun j => adj.amon _ _ _ _ _ _ _ _ j) hr (adj_at (by omega) ((hl1 (by omega)).mp h51) h63 (acall_of hap4 hs2)))
                    | exact ihe (e + 1) P3 Q3 S3 F3 R3 g3 (by omega) (by omega) (apc.next (N := adj par prm lx (if kk = 1 then lx else 0) n O (fun i b => bt (AP (first + i)) b = true) (fun i b => bl (AQ (first + i)) b = true)) (fun j => adj.amon _ _ _ _ _ _ _ _ j) hr (adj_no (by omega) (Or.inl (hl1n (by omega) h51))))
                    | exact ihe (e + 1) P3 Q3 S3 F3 R3 g3 (by omega) (by omega) (apc.next (N := adj par prm lx (if kk = 1 then lx else 0) n O (fun i b => bt (AP (first + i)) b = true) (fun i b => bl (AQ (first + i)) b = true)) (fun j => adj.amon _ _ _ _ _ _ _ _ j) hr (adj_no (by omega) (Or.inr h63)))
                · intro h51
                  refine x_aload_n (pc := 54) d_R_applyPairs_54 3 rfl ?_
                  refine x_get (pc := 55) (ci := 4) d_R_applyPairs_55 in_R rfl 2 (by decide) k_R_17 0 rfl rfl ?_
                  refine x_iload (pc := 58) d_R_applyPairs_58 1 rfl ?_
                  refine x_ialdN (pc := 60) d_R_applyPairs_60 2 0 rfl rfl (by omega) (by omega) ?_
                  refine x_iload (pc := 61) d_R_applyPairs_61 6 rfl ?_
                  first | refine x_icmp_neN (pc := 63) (tgt := 130) d_R_applyPairs_63 rfl (by omega) (by omega) ?_ ?_ | refine x_icmp_ne (pc := 63) (tgt := 130) d_R_applyPairs_63 rfl ?_ ?_
                  · intro h63
                    refine x_iincN (pc := 130) d_R_applyPairs_130 0 rfl (by decide) [(8, _), (7, _), (6, _), (0, _), (1, _), (3, _), (4, _), (5, _)] rfl ?_
                    refine x_goto (pc := 133) (tgt := 30) d_R_applyPairs_133 rfl ?_
                    refine x_sub [0, 1, 2, 3, 4, 5, 6, 7] _ rfl ?_
                    first
                      | exact ihe (e + 1) P5 Q5 S5 F5 R5 g5 (by omega) (by omega) (apc.next (N := adj par prm lx (if kk = 1 then lx else 0) n O (fun i b => bt (AP (first + i)) b = true) (fun i b => bl (AQ (first + i)) b = true)) (fun j => adj.amon _ _ _ _ _ _ _ _ j) hr (adj_at (by omega) ((hl1 (by omega)).mp h51) h63 (acall_of hap4 hs2)))
                      | exact ihe (e + 1) P3 Q3 S3 F3 R3 g3 (by omega) (by omega) (apc.next (N := adj par prm lx (if kk = 1 then lx else 0) n O (fun i b => bt (AP (first + i)) b = true) (fun i b => bl (AQ (first + i)) b = true)) (fun j => adj.amon _ _ _ _ _ _ _ _ j) hr (adj_no (by omega) (Or.inl (hl1n (by omega) h51))))
                      | exact ihe (e + 1) P3 Q3 S3 F3 R3 g3 (by omega) (by omega) (apc.next (N := adj par prm lx (if kk = 1 then lx else 0) n O (fun i b => bt (AP (first + i)) b = true) (fun i b => bl (AQ (first + i)) b = true)) (fun j => adj.amon _ _ _ _ _ _ _ _ j) hr (adj_no (by omega) (Or.inr h63)))
                  · intro h63
                    refine x_aload_n (pc := 66) d_R_applyPairs_66 3 rfl ?_
                    refine x_iload (pc := 67) d_R_applyPairs_67 1 rfl ?_
                    refine x_iload (pc := 69) d_R_applyPairs_69 0 rfl ?_
                    refine x_iload_n (pc := 71) d_R_applyPairs_71 5 rfl ?_
                    refine x_iload (pc := 72) d_R_applyPairs_72 2 rfl ?_
                    refine x_callV_X (pc := 74) (ci := 4) d_R_applyPairs_74 k_R_120 wi_R_callPair wv_R_callPair w_R_callPair ini_R wd_R_callPair ⟨by decide, by decide⟩ ⟨rfl, rfl⟩ ⟨Nat.zero_le _, Nat.zero_le _⟩ 0 rfl rfl (t_R_callPair hw (by omega) (by omega) hlx hto) rfl rfl (Nat.le_of_ble_eq_true rfl) (fun v74 w74 hp74 => ?_)
                    obtain ⟨rfl, P4, Q4, S4, F4, R4, g4, hap4, rfl⟩ := hp74
                    refine x_iconst (pc := 77) (nI 0) d_R_applyPairs_77 (by decide) ?_
                    refine x_istore (pc := 78) d_R_applyPairs_78 (by decide) [(9, _), (8, _), (7, _), (6, _), (0, _), (1, _), (3, _), (4, _), (5, _)] rfl ?_
                    have hla : ∀ (fuel : Nat) (i : Nat) (P5 : Nat → Int32) (Q5 : Nat → Int64) (S5 : Int64) (F5 : Nat → Int32) (R5 : Int32) (g5 : Bool), n - i < fuel → (i ≤ n) → (apc (fun X Y => ∀ j, j < i → awid (sl m j (if kk = 1 then lx else 0)) (AP (first + j)) (AQ (first + j)) X Y) g4 (ofw P4 Q4 S4 F4 R4) g5 (ofw P5 Q5 S5 F5 R5)) → xj E l (rmm 2 53) c_R_applyPairs 10 none R_R (gG D cI cL) A 0 0 (fun v w2 => v = none ∧ ∃ P2 Q2 S2 F2 R2 g2, apc (acalls cnt (anc par) prm lx (if kk = 1 then lx else 0) n (fun b => bl O b = true) (fun i b => bt (AP (first + i)) b = true) (fun i b => bl (AQ (first + i)) b = true)) ch (ofw P Q S F R) g2 (ofw P2 Q2 S2 F2 R2) ∧ w2 = (wR ad cI cL par prm siz atm cnt mo he en ap oc cal el eu ev ag an kk P2 Q2 S2 F2 R2 g2 AP AQ)) 0 0 (wR ad cI cL par prm siz atm cnt mo he en ap oc cal el eu ev ag an kk P5 Q5 S5 F5 R5 g5 AP AQ) 80 [(9, .int (nI i)), (8, .int (nI e)), (7, .int (nI m)), (6, .int (nI (if kk = 1 then lx else 0))), (0, .ref (ad 0)), (1, .long O), (3, .int (nI lx)), (4, .int (nI n)), (5, .int (nI first))] [] := by
                      intro fuel
                      induction fuel with
                      | zero => intro i P5 Q5 S5 F5 R5 g5 hf; exact absurd hf (Nat.not_lt_zero _)
                      | succ fuel iha =>
                        intro i P5 Q5 S5 F5 R5 g5 hf hi hs
                        refine x_iload (pc := 80) d_R_applyPairs_80 0 rfl ?_
                        refine x_iload (pc := 82) d_R_applyPairs_82 7 rfl ?_
                        first | refine x_icmp_geN (pc := 84) (tgt := 130) d_R_applyPairs_84 rfl (by omega) (by omega) ?_ ?_ | refine x_icmp_ge (pc := 84) (tgt := 130) d_R_applyPairs_84 rfl ?_ ?_
                        · intro h84
                          have e1 : i = n := by omega
                          have hs2 := hs
                          rw [e1, ← h63] at hs2
                          refine x_iincN (pc := 130) d_R_applyPairs_130 1 rfl (by decide) [(8, _), (9, _), (7, _), (6, _), (0, _), (1, _), (3, _), (4, _), (5, _)] rfl ?_
                          refine x_goto (pc := 133) (tgt := 30) d_R_applyPairs_133 rfl ?_
                          refine x_sub [0, 2, 3, 4, 5, 6, 7, 8] _ rfl ?_
                          first
                            | exact ihe (e + 1) P5 Q5 S5 F5 R5 g5 (by omega) (by omega) (apc.next (N := adj par prm lx (if kk = 1 then lx else 0) n O (fun i b => bt (AP (first + i)) b = true) (fun i b => bl (AQ (first + i)) b = true)) (fun j => adj.amon _ _ _ _ _ _ _ _ j) hr (adj_at (by omega) ((hl1 (by omega)).mp h51) h63 (acall_of hap4 hs2)))
                            | exact ihe (e + 1) P3 Q3 S3 F3 R3 g3 (by omega) (by omega) (apc.next (N := adj par prm lx (if kk = 1 then lx else 0) n O (fun i b => bt (AP (first + i)) b = true) (fun i b => bl (AQ (first + i)) b = true)) (fun j => adj.amon _ _ _ _ _ _ _ _ j) hr (adj_no (by omega) (Or.inl (hl1n (by omega) h51))))
                            | exact ihe (e + 1) P3 Q3 S3 F3 R3 g3 (by omega) (by omega) (apc.next (N := adj par prm lx (if kk = 1 then lx else 0) n O (fun i b => bt (AP (first + i)) b = true) (fun i b => bl (AQ (first + i)) b = true)) (fun j => adj.amon _ _ _ _ _ _ _ _ j) hr (adj_no (by omega) (Or.inr h63)))
                        · intro h84
                          refine x_aload_n (pc := 87) d_R_applyPairs_87 4 rfl ?_
                          refine x_bipush (pc := 88) (nI 8) d_R_applyPairs_88 (by decide) ?_
                          refine x_iconst (pc := 90) (nI 3) d_R_applyPairs_90 (by decide) ?_
                          refine x_iload (pc := 91) d_R_applyPairs_91 2 rfl ?_
                          first | refine x_imulN (pc := 93) d_R_applyPairs_93 ?_ | refine x_imul (pc := 93) d_R_applyPairs_93 ?_
                          refine x_iload (pc := 94) d_R_applyPairs_94 0 rfl ?_
                          first | refine x_iaddN (pc := 96) d_R_applyPairs_96 ?_ | refine x_iadd (pc := 96) d_R_applyPairs_96 ?_
                          first | refine x_imulN (pc := 97) d_R_applyPairs_97 ?_ | refine x_imul (pc := 97) d_R_applyPairs_97 ?_
                          refine x_iload (pc := 98) d_R_applyPairs_98 3 rfl ?_
                          first | refine x_iaddN (pc := 100) d_R_applyPairs_100 ?_ | refine x_iadd (pc := 100) d_R_applyPairs_100 ?_
                          refine x_ti (y := nI (sl m i (if kk = 1 then lx else 0))) (congrArg nI (by unfold sl; omega)) ?_
                          refine x_aload_n (pc := 101) d_R_applyPairs_101 4 rfl ?_
                          refine x_get (pc := 102) (ci := 4) d_R_applyPairs_102 in_R rfl 23 (by decide) k_R_51 0 rfl rfl ?_
                          refine x_iload (pc := 105) d_R_applyPairs_105 8 rfl ?_
                          refine x_iload (pc := 107) d_R_applyPairs_107 0 rfl ?_
                          first | refine x_iaddN (pc := 109) d_R_applyPairs_109 ?_ | refine x_iadd (pc := 109) d_R_applyPairs_109 ?_
                          refine x_ialdN (pc := 110) d_R_applyPairs_110 13 0 rfl rfl (by omega) (by omega) ?_
                          refine x_aload_n (pc := 111) d_R_applyPairs_111 4 rfl ?_
                          refine x_get (pc := 112) (ci := 4) d_R_applyPairs_112 in_R rfl 24 (by decide) k_R_54 0 rfl rfl ?_
                          refine x_iload (pc := 115) d_R_applyPairs_115 8 rfl ?_
                          refine x_iload (pc := 117) d_R_applyPairs_117 0 rfl ?_
                          first | refine x_iaddN (pc := 119) d_R_applyPairs_119 ?_ | refine x_iadd (pc := 119) d_R_applyPairs_119 ?_
                          refine x_laldN (pc := 120) d_R_applyPairs_120 14 1 rfl rfl (by omega) (by omega) ?_
                          refine x_callV_X (pc := 121) (ci := 4) d_R_applyPairs_121 k_R_124 wi_R_grow wv_R_grow w_R_grow ini_R wd_R_grow ⟨by decide, by decide⟩ ⟨rfl, rfl⟩ ⟨Nat.zero_le _, Nat.zero_le _⟩ 0 rfl rfl (t_R_grow (sl_lt (by omega) (by omega) hto)) rfl rfl (Nat.le_of_ble_eq_true rfl) (fun v121 w121 hp121 => ?_)
                          obtain ⟨rfl, P6, Q6, S6, F6, R6, g6, hap6, rfl⟩ := hp121
                          refine x_iincN (pc := 124) d_R_applyPairs_124 0 rfl (by decide) [(9, _), (8, _), (7, _), (6, _), (0, _), (1, _), (3, _), (4, _), (5, _)] rfl ?_
                          refine x_goto (pc := 127) (tgt := 80) d_R_applyPairs_127 rfl ?_
                          refine x_sub [0, 1, 2, 3, 4, 5, 6, 7, 8] _ rfl ?_
                          exact iha (i + 1) P6 Q6 S6 F6 R6 g6 (by omega) (by omega) (apc.next (fun j => awid.amon _ _ _) hs hap6)
                    refine x_sub [0, 1, 2, 3, 4, 5, 6, 7, 8] _ rfl ?_
                    exact hla (n + 1) 0 P4 Q4 S4 F4 R4 g4 (by omega) (by omega) (apc.zero g4 _)
          refine x_sub [0, 1, 2, 3, 4, 5, 6, 7] _ rfl ?_
          exact hle 9 0 P1 Q1 S1 F1 R1 g1 (by omega) (by omega) hq
    refine x_sub [0, 1, 2, 3, 4, 5, 6] _ rfl ?_
    exact hlp (cnt + 1) 0 P Q S F R ch (by omega) (by omega) (apc.zero ch _)
  refine x_aload_n (pc := 0) d_R_applyPairs_0 0 rfl ?_
  refine x_get (pc := 1) (ci := 4) d_R_applyPairs_1 in_R rfl 16 (by decide) k_R_117 0 rfl rfl ?_
  refine x_iconst (pc := 4) (nI 1) d_R_applyPairs_4 (by decide) ?_
  first | refine x_icmp_neN (pc := 5) (tgt := 12) d_R_applyPairs_5 rfl (by omega) (by omega) ?_ ?_ | refine x_icmp_ne (pc := 5) (tgt := 12) d_R_applyPairs_5 rfl ?_ ?_
  · intro h5
    refine x_iconst (pc := 12) (nI 0) d_R_applyPairs_12 (by decide) ?_
    refine x_sub [0, 1, 2, 3, 4] _ rfl ?_
    first | exact x_ti (y := nI (if kk = 1 then lx else 0)) (congrArg nI (if_pos h5).symm) hc13 | exact x_ti (y := nI (if kk = 1 then lx else 0)) (congrArg nI (if_neg h5).symm) hc13
  · intro h5
    refine x_iload_n (pc := 8) d_R_applyPairs_8 2 rfl ?_
    refine x_goto (pc := 9) (tgt := 13) d_R_applyPairs_9 rfl ?_
    refine x_sub [0, 1, 2, 3, 4] _ rfl ?_
    first | exact x_ti (y := nI (if kk = 1 then lx else 0)) (congrArg nI (if_pos h5).symm) hc13 | exact x_ti (y := nI (if kk = 1 then lx else 0)) (congrArg nI (if_neg h5).symm) hc13
end REF7
