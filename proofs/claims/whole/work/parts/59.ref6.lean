section REF6
variable {l : Launch} {D : va_G} {ad : Nat → Nat} {cI cL : ClassId} {par : Nat → Int32} {prm siz atm : Nat → Nat} {cnt : Nat} {mo he en ap oc : Nat} {cal : Nat → Int32} {el : Nat → Nat} {eu : Nat → Int32} {ev ag : Nat → Nat} {an : Bool} {kk : Nat} {P : Nat → Int32} {Q : Nat → Int64} {S : Int64} {F : Nat → Int32} {R : Int32} {ch : Bool} {AP : Nat → Int32} {AQ : Nat → Int64}
set_option maxHeartbeats 4000000 in
set_option maxRecDepth 100000 in
theorem t_R_grow {s : Nat} {c : Int32} {p : Int64} (hs : s < 192) : CT l y_R_grow c_R_grow 5 none (rmm 0 0) (gG D cI cL) [.ref (ad 0), .int (nI s), .int c, .long p] (wR ad cI cL par prm siz atm cnt mo he en ap oc cal el eu ev ag an kk P Q S F R ch AP AQ) (fun v w2 => v = none ∧ ∃ P2 Q2 S2 F2 R2 g2, apc (awid s c p) ch (ofw P Q S F R) g2 (ofw P2 Q2 S2 F2 R2) ∧ w2 = (wR ad cI cL par prm siz atm cnt mo he en ap oc cal el eu ev ag an kk P2 Q2 S2 F2 R2 g2 AP AQ)) := by
  refine CT.of R_R (by decide) rfl (Nat.le_of_ble_eq_true rfl) ?_
  intro E A hname
  refine x_iload_n (pc := 0) d_R_grow_0 2 rfl ?_
  refine x_aload_n (pc := 1) d_R_grow_1 0 rfl ?_
  refine x_get (pc := 2) (ci := 4) d_R_grow_2 in_R rfl 17 (by decide) k_R_41 0 rfl rfl ?_
  refine x_iload_n (pc := 5) d_R_grow_5 1 rfl ?_
  refine x_ialdN (pc := 6) d_R_grow_6 10 0 rfl rfl (by omega) (by omega) ?_
  refine x_iconst (pc := 7) (-1) d_R_grow_7 (by decide) ?_
  refine x_ixor (pc := 8) d_R_grow_8 ?_
  refine x_iand (pc := 9) d_R_grow_9 ?_
  refine x_if_ne (pc := 10) (tgt := 30) d_R_grow_10 rfl ?_ ?_
  · intro h10
    refine x_aload_n (pc := 30) d_R_grow_30 0 rfl ?_
    refine x_get (pc := 31) (ci := 4) d_R_grow_31 in_R rfl 17 (by decide) k_R_41 0 rfl rfl ?_
    refine x_iload_n (pc := 34) d_R_grow_34 1 rfl ?_
    refine x_aload_n (pc := 35) d_R_grow_35 0 rfl ?_
    refine x_get (pc := 36) (ci := 4) d_R_grow_36 in_R rfl 17 (by decide) k_R_41 0 rfl rfl ?_
    refine x_iload_n (pc := 39) d_R_grow_39 1 rfl ?_
    refine x_ialdN (pc := 40) d_R_grow_40 10 0 rfl rfl (by omega) (by omega) ?_
    refine x_iload_n (pc := 41) d_R_grow_41 2 rfl ?_
    refine x_ior (pc := 42) d_R_grow_42 ?_
    first | refine x_iastU (pc := 43) d_R_grow_43 10 0 rfl rfl (by omega) (by omega) ?_ | refine x_iastN (pc := 43) d_R_grow_43 10 0 rfl rfl (by omega) (by omega) _ rfl ?_
    refine x_aload_n (pc := 44) d_R_grow_44 0 rfl ?_
    refine x_get (pc := 45) (ci := 4) d_R_grow_45 in_R rfl 18 (by decide) k_R_44 0 rfl rfl ?_
    refine x_iload_n (pc := 48) d_R_grow_48 1 rfl ?_
    refine x_aload_n (pc := 49) d_R_grow_49 0 rfl ?_
    refine x_get (pc := 50) (ci := 4) d_R_grow_50 in_R rfl 18 (by decide) k_R_44 0 rfl rfl ?_
    refine x_iload_n (pc := 53) d_R_grow_53 1 rfl ?_
    refine x_laldN (pc := 54) d_R_grow_54 11 1 rfl rfl (by omega) (by omega) ?_
    refine x_lload_n (pc := 55) d_R_grow_55 3 rfl ?_
    refine x_lor (pc := 56) d_R_grow_56 ?_
    refine x_lastN (pc := 57) d_R_grow_57 11 1 rfl rfl (by omega) (by omega) (_) (rfl) ?_
    refine x_aload_n (pc := 58) d_R_grow_58 0 rfl ?_
    refine x_iconst (pc := 59) (nI 1) d_R_grow_59 (by decide) ?_
    refine x_put (pc := 60) (ci := 4) (ty := .boolean) d_R_grow_60 in_R t_R ty_R nm_R rfl 22 (by decide) k_R_114 rfl (by decide +kernel) rfl rfl 0 rfl (Nat.le_of_ble_eq_true rfl) (_) (rfl) ?_
    refine x_vret (pc := 63) d_R_grow_63 rfl ?_
    first | exact ⟨rfl, P, Q, S, F, R, ch, apc.widS hs ch (b_sub.mp h10) (l_sub.mp h27), rfl⟩ | exact ⟨rfl, _, _, S, F, R, true, apc.widN hs ch (Or.inl (fun q => h10 (b_sub.mpr q))), rfl⟩ | exact ⟨rfl, _, _, S, F, R, true, apc.widN hs ch (Or.inr (fun q => h27 (l_sub.mpr q))), rfl⟩
  · intro h10
    refine x_lload_n (pc := 13) d_R_grow_13 3 rfl ?_
    refine x_aload_n (pc := 14) d_R_grow_14 0 rfl ?_
    refine x_get (pc := 15) (ci := 4) d_R_grow_15 in_R rfl 18 (by decide) k_R_44 0 rfl rfl ?_
    refine x_iload_n (pc := 18) d_R_grow_18 1 rfl ?_
    refine x_laldN (pc := 19) d_R_grow_19 11 1 rfl rfl (by omega) (by omega) ?_
    refine x_ldc2 (pc := 20) d_R_grow_20 k_R_112 ?_
    refine x_lxor (pc := 23) d_R_grow_23 ?_
    refine x_land (pc := 24) d_R_grow_24 ?_
    refine x_lconst (pc := 25) 0 d_R_grow_25 (by decide) ?_
    refine x_lcmp (pc := 26) d_R_grow_26 ?_
    refine x_if_eqL (pc := 27) (tgt := 63) d_R_grow_27 rfl ?_ ?_
    · intro h27
      refine x_vret (pc := 63) d_R_grow_63 rfl ?_
      first | exact ⟨rfl, P, Q, S, F, R, ch, apc.widS hs ch (b_sub.mp h10) (l_sub.mp h27), rfl⟩ | exact ⟨rfl, _, _, S, F, R, true, apc.widN hs ch (Or.inl (fun q => h10 (b_sub.mpr q))), rfl⟩ | exact ⟨rfl, _, _, S, F, R, true, apc.widN hs ch (Or.inr (fun q => h27 (l_sub.mpr q))), rfl⟩
    · intro h27
      refine x_aload_n (pc := 30) d_R_grow_30 0 rfl ?_
      refine x_get (pc := 31) (ci := 4) d_R_grow_31 in_R rfl 17 (by decide) k_R_41 0 rfl rfl ?_
      refine x_iload_n (pc := 34) d_R_grow_34 1 rfl ?_
      refine x_aload_n (pc := 35) d_R_grow_35 0 rfl ?_
      refine x_get (pc := 36) (ci := 4) d_R_grow_36 in_R rfl 17 (by decide) k_R_41 0 rfl rfl ?_
      refine x_iload_n (pc := 39) d_R_grow_39 1 rfl ?_
      refine x_ialdN (pc := 40) d_R_grow_40 10 0 rfl rfl (by omega) (by omega) ?_
      refine x_iload_n (pc := 41) d_R_grow_41 2 rfl ?_
      refine x_ior (pc := 42) d_R_grow_42 ?_
      first | refine x_iastU (pc := 43) d_R_grow_43 10 0 rfl rfl (by omega) (by omega) ?_ | refine x_iastN (pc := 43) d_R_grow_43 10 0 rfl rfl (by omega) (by omega) _ rfl ?_
      refine x_aload_n (pc := 44) d_R_grow_44 0 rfl ?_
      refine x_get (pc := 45) (ci := 4) d_R_grow_45 in_R rfl 18 (by decide) k_R_44 0 rfl rfl ?_
      refine x_iload_n (pc := 48) d_R_grow_48 1 rfl ?_
      refine x_aload_n (pc := 49) d_R_grow_49 0 rfl ?_
      refine x_get (pc := 50) (ci := 4) d_R_grow_50 in_R rfl 18 (by decide) k_R_44 0 rfl rfl ?_
      refine x_iload_n (pc := 53) d_R_grow_53 1 rfl ?_
      refine x_laldN (pc := 54) d_R_grow_54 11 1 rfl rfl (by omega) (by omega) ?_
      refine x_lload_n (pc := 55) d_R_grow_55 3 rfl ?_
      refine x_lor (pc := 56) d_R_grow_56 ?_
      refine x_lastN (pc := 57) d_R_grow_57 11 1 rfl rfl (by omega) (by omega) (_) (rfl) ?_
      refine x_aload_n (pc := 58) d_R_grow_58 0 rfl ?_
      refine x_iconst (pc := 59) (nI 1) d_R_grow_59 (by decide) ?_
      refine x_put (pc := 60) (ci := 4) (ty := .boolean) d_R_grow_60 in_R t_R ty_R nm_R rfl 22 (by decide) k_R_114 rfl (by decide +kernel) rfl rfl 0 rfl (Nat.le_of_ble_eq_true rfl) (_) (rfl) ?_
      refine x_vret (pc := 63) d_R_grow_63 rfl ?_
      first | exact ⟨rfl, P, Q, S, F, R, ch, apc.widS hs ch (b_sub.mp h10) (l_sub.mp h27), rfl⟩ | exact ⟨rfl, _, _, S, F, R, true, apc.widN hs ch (Or.inl (fun q => h10 (b_sub.mpr q))), rfl⟩ | exact ⟨rfl, _, _, S, F, R, true, apc.widN hs ch (Or.inr (fun q => h27 (l_sub.mpr q))), rfl⟩
set_option maxHeartbeats 4000000 in
set_option maxRecDepth 100000 in
theorem t_R_look {lx c i : Nat} (hw : pwf cnt par prm siz atm) (hlx : lx < 8) (hi : i < 4) (hc : c < 8) (hok : aok cnt par prm lx (atm (4 * lx + i))) : CT l y_R_look c_R_look 6 none (rmm 0 0) (gG D cI cL) [.ref (ad 0), .int (nI lx), .int (nI c), .int (nI i)] (wR ad cI cL par prm siz atm cnt mo he en ap oc cal el eu ev ag an kk P Q S F R ch AP AQ) (fun v w2 => v = none ∧ ∃ AP2 AQ2, (∀ j, ¬ j = i → AP2 j = AP j ∧ AQ2 j = AQ j) ∧ ldok atm (ofw P Q S F R) lx c i (AP2 i) (AQ2 i) ∧ w2 = (wR ad cI cL par prm siz atm cnt mo he en ap oc cal el eu ev ag an kk P Q S F R ch AP2 AQ2)) := by
  refine CT.of R_R (by decide) rfl (Nat.le_of_ble_eq_true rfl) ?_
  intro E A hname
  have hc8 : cnt ≤ 8 := hw.2.1
  have hb3 : atm (4 * lx + i) ≤ 302 := by rcases hok with q | q | q | q <;> omega
  refine x_aload_n (pc := 0) d_R_look_0 0 rfl ?_
  refine x_get (pc := 1) (ci := 4) d_R_look_1 in_R rfl 4 (by decide) k_R_23 0 rfl rfl ?_
  refine x_iconst (pc := 4) (nI 4) d_R_look_4 (by decide) ?_
  refine x_iload_n (pc := 5) d_R_look_5 1 rfl ?_
  first | refine x_imulN (pc := 6) d_R_look_6 ?_ | refine x_imul (pc := 6) d_R_look_6 ?_
  refine x_iload_n (pc := 7) d_R_look_7 3 rfl ?_
  first | refine x_iaddN (pc := 8) d_R_look_8 ?_ | refine x_iadd (pc := 8) d_R_look_8 ?_
  refine x_ialdN (pc := 9) d_R_look_9 4 0 rfl rfl (by omega) (by omega) ?_
  refine x_istore (pc := 10) d_R_look_10 (by decide) [(4, _), (0, _), (1, _), (2, _), (3, _)] rfl ?_
  refine x_aload_n (pc := 12) d_R_look_12 1 rfl ?_
  refine x_get (pc := 13) (ci := 4) d_R_look_13 in_R rfl 23 (by decide) k_R_51 0 rfl rfl ?_
  refine x_iload_n (pc := 16) d_R_look_16 4 rfl ?_
  refine x_iconst (pc := 17) (nI 0) d_R_look_17 (by decide) ?_
  first | refine x_iastU (pc := 18) d_R_look_18 13 0 rfl rfl (by omega) (by omega) ?_ | refine x_iastN (pc := 18) d_R_look_18 13 0 rfl rfl (by omega) (by omega) _ rfl ?_
  refine x_aload_n (pc := 19) d_R_look_19 1 rfl ?_
  refine x_get (pc := 20) (ci := 4) d_R_look_20 in_R rfl 24 (by decide) k_R_54 0 rfl rfl ?_
  refine x_iload_n (pc := 23) d_R_look_23 4 rfl ?_
  refine x_lconst (pc := 24) 0 d_R_look_24 (by decide) ?_
  refine x_lastN (pc := 25) d_R_look_25 14 1 rfl rfl (by omega) (by omega) (_) (rfl) ?_
  refine x_iload (pc := 26) d_R_look_26 0 rfl ?_
  refine x_bipush (pc := 28) (nI 10) d_R_look_28 (by decide) ?_
  first | refine x_icmp_geN (pc := 30) (tgt := 46) d_R_look_30 rfl (by omega) (by omega) ?_ ?_ | refine x_icmp_ge (pc := 30) (tgt := 46) d_R_look_30 rfl ?_ ?_
  · intro h30
    refine x_iload (pc := 46) d_R_look_46 0 rfl ?_
    refine x_sipush (pc := 48) (nI 300) d_R_look_48 (by decide) ?_
    first | refine x_icmp_ltN (pc := 51) (tgt := 74) d_R_look_51 rfl (by omega) (by omega) ?_ ?_ | refine x_icmp_lt (pc := 51) (tgt := 74) d_R_look_51 rfl ?_ ?_
    · intro h51
      refine x_iload (pc := 74) d_R_look_74 0 rfl ?_
      refine x_sipush (pc := 76) (nI 200) d_R_look_76 (by decide) ?_
      first | refine x_icmp_ltN (pc := 79) (tgt := 104) d_R_look_79 rfl (by omega) (by omega) ?_ ?_ | refine x_icmp_lt (pc := 79) (tgt := 104) d_R_look_79 rfl ?_ ?_
      · intro h79
        have hpi : (atm (4 * lx + i) - 100) % 10 < 3 := by
          rcases hok with q | q | ⟨_, _, q3, q4, _⟩ | q
          · omega
          · omega
          · have := hw.2.2.2.1 _ (show (atm (4 * lx + i) - 100) / 10 < 8 by omega)
            omega
          · omega
        have g1 : 100 ≤ atm (4 * lx + i) ∧ atm (4 * lx + i) < 180 := by rcases hok with q | q | q | q <;> omega
        have hsl := sl_lt (m := (atm (4 * lx + i) - 100) / 10) (by omega) hpi hc
        have hK : ldok atm (ofw P Q S F R) lx c i (P (sl ((atm (4 * lx + i) - 100) / 10) ((atm (4 * lx + i) - 100) % 10) c)) (Q (sl ((atm (4 * lx + i) - 100) / 10) ((atm (4 * lx + i) - 100) % 10) c)) := ldok.par g1.1 g1.2 hsl
        refine x_bipush (pc := 104) (nI 8) d_R_look_104 (by decide) ?_
        refine x_iconst (pc := 106) (nI 3) d_R_look_106 (by decide) ?_
        refine x_iload (pc := 107) d_R_look_107 0 rfl ?_
        refine x_bipush (pc := 109) (nI 100) d_R_look_109 (by decide) ?_
        first | refine x_isubN (pc := 111) d_R_look_111 (by omega) ?_ | refine x_isub (pc := 111) d_R_look_111 ?_
        refine x_bipush (pc := 112) (nI 10) d_R_look_112 (by decide) ?_
        first | refine x_idivN (pc := 114) d_R_look_114 (by omega) (by omega) (by omega) ?_ | refine x_idiv (pc := 114) d_R_look_114 (by decide) ?_
        first | refine x_imulN (pc := 115) d_R_look_115 ?_ | refine x_imul (pc := 115) d_R_look_115 ?_
        refine x_iload (pc := 116) d_R_look_116 0 rfl ?_
        refine x_bipush (pc := 118) (nI 10) d_R_look_118 (by decide) ?_
        first | refine x_iremN (pc := 120) d_R_look_120 (by omega) (by omega) (by omega) ?_ | refine x_irem (pc := 120) d_R_look_120 (by decide) ?_
        first | refine x_iaddN (pc := 121) d_R_look_121 ?_ | refine x_iadd (pc := 121) d_R_look_121 ?_
        first | refine x_imulN (pc := 122) d_R_look_122 ?_ | refine x_imul (pc := 122) d_R_look_122 ?_
        refine x_iload_n (pc := 123) d_R_look_123 3 rfl ?_
        first | refine x_iaddN (pc := 124) d_R_look_124 ?_ | refine x_iadd (pc := 124) d_R_look_124 ?_
        refine x_ti (y := nI (sl ((atm (4 * lx + i) - 100) / 10) ((atm (4 * lx + i) - 100) % 10) c)) (congrArg nI (by unfold sl; omega)) ?_
        refine x_istore (pc := 125) d_R_look_125 (by decide) [(5, _), (4, _), (0, _), (1, _), (2, _), (3, _)] rfl ?_
        refine x_aload_n (pc := 127) d_R_look_127 2 rfl ?_
        refine x_get (pc := 128) (ci := 4) d_R_look_128 in_R rfl 23 (by decide) k_R_51 0 rfl rfl ?_
        refine x_iload_n (pc := 131) d_R_look_131 5 rfl ?_
        refine x_aload_n (pc := 132) d_R_look_132 2 rfl ?_
        refine x_get (pc := 133) (ci := 4) d_R_look_133 in_R rfl 17 (by decide) k_R_41 0 rfl rfl ?_
        refine x_iload (pc := 136) d_R_look_136 0 rfl ?_
        refine x_ialdN (pc := 138) d_R_look_138 10 0 rfl rfl (by omega) (by omega) ?_
        first | refine x_iastU (pc := 139) d_R_look_139 13 0 rfl rfl (by omega) (by omega) ?_ | refine x_iastN (pc := 139) d_R_look_139 13 0 rfl rfl (by omega) (by omega) _ rfl ?_
        refine x_aload_n (pc := 140) d_R_look_140 2 rfl ?_
        refine x_get (pc := 141) (ci := 4) d_R_look_141 in_R rfl 24 (by decide) k_R_54 0 rfl rfl ?_
        refine x_iload_n (pc := 144) d_R_look_144 5 rfl ?_
        refine x_aload_n (pc := 145) d_R_look_145 2 rfl ?_
        refine x_get (pc := 146) (ci := 4) d_R_look_146 in_R rfl 18 (by decide) k_R_44 0 rfl rfl ?_
        refine x_iload (pc := 149) d_R_look_149 0 rfl ?_
        refine x_laldN (pc := 151) d_R_look_151 11 1 rfl rfl (by omega) (by omega) ?_
        refine x_lastN (pc := 152) d_R_look_152 14 1 rfl rfl (by omega) (by omega) (_) (rfl) ?_
        refine x_vret (pc := 153) d_R_look_153 rfl ?_
        exact ⟨rfl, _, _, (fun j hj => ⟨by simp [upd, hj], by simp [vp_updL, hj]⟩), by rw [upd_self, updL_self]; exact hK, rfl⟩
      · intro h79
        have g1 : 200 ≤ atm (4 * lx + i) ∧ atm (4 * lx + i) < 208 := by rcases hok with q | q | q | q <;> omega
        have hK : ldok atm (ofw P Q S F R) lx c i (nI 0) (lP (8 * (atm (4 * lx + i) - 200) + c)) := ldok.lam g1.1 g1.2 hc
        refine x_aload_n (pc := 82) d_R_look_82 1 rfl ?_
        refine x_get (pc := 83) (ci := 4) d_R_look_83 in_R rfl 24 (by decide) k_R_54 0 rfl rfl ?_
        refine x_iload_n (pc := 86) d_R_look_86 4 rfl ?_
        refine x_lconst (pc := 87) 1 d_R_look_87 (by decide) ?_
        refine x_bipush (pc := 88) (nI 8) d_R_look_88 (by decide) ?_
        refine x_iload (pc := 90) d_R_look_90 0 rfl ?_
        refine x_sipush (pc := 92) (nI 200) d_R_look_92 (by decide) ?_
        first | refine x_isubN (pc := 95) d_R_look_95 (by omega) ?_ | refine x_isub (pc := 95) d_R_look_95 ?_
        first | refine x_imulN (pc := 96) d_R_look_96 ?_ | refine x_imul (pc := 96) d_R_look_96 ?_
        refine x_iload_n (pc := 97) d_R_look_97 3 rfl ?_
        first | refine x_iaddN (pc := 98) d_R_look_98 ?_ | refine x_iadd (pc := 98) d_R_look_98 ?_
        refine x_lshl (pc := 99) d_R_look_99 ?_
        refine x_lastN (pc := 100) d_R_look_100 14 1 rfl rfl (by omega) (by omega) (_) (rfl) ?_
        refine x_goto (pc := 101) (tgt := 153) d_R_look_101 rfl ?_
        refine x_vret (pc := 153) d_R_look_153 rfl ?_
        exact ⟨rfl, _, _, (fun j hj => ⟨by simp [upd, hj], by simp [vp_updL, hj]⟩), by rw [upd_self, updL_self]; exact hK, rfl⟩
    · intro h51
      have hK : ldok atm (ofw P Q S F R) lx c i (nI 1 <<< (nI (atm (4 * lx + i) - 300 + 10) &&& 31)) 0 := ldok.pri (by omega) hb3
      refine x_aload_n (pc := 54) d_R_look_54 1 rfl ?_
      refine x_get (pc := 55) (ci := 4) d_R_look_55 in_R rfl 23 (by decide) k_R_51 0 rfl rfl ?_
      refine x_iload_n (pc := 58) d_R_look_58 4 rfl ?_
      refine x_iconst (pc := 59) (nI 1) d_R_look_59 (by decide) ?_
      refine x_iload (pc := 60) d_R_look_60 0 rfl ?_
      refine x_sipush (pc := 62) (nI 300) d_R_look_62 (by decide) ?_
      first | refine x_isubN (pc := 65) d_R_look_65 (by omega) ?_ | refine x_isub (pc := 65) d_R_look_65 ?_
      refine x_bipush (pc := 66) (nI 10) d_R_look_66 (by decide) ?_
      first | refine x_iaddN (pc := 68) d_R_look_68 ?_ | refine x_iadd (pc := 68) d_R_look_68 ?_
      refine x_ishl (pc := 69) d_R_look_69 ?_
      first | refine x_iastU (pc := 70) d_R_look_70 13 0 rfl rfl (by omega) (by omega) ?_ | refine x_iastN (pc := 70) d_R_look_70 13 0 rfl rfl (by omega) (by omega) _ rfl ?_
      refine x_goto (pc := 71) (tgt := 153) d_R_look_71 rfl ?_
      refine x_vret (pc := 153) d_R_look_153 rfl ?_
      exact ⟨rfl, _, _, (fun j hj => ⟨by simp [upd, hj], by simp [vp_updL, hj]⟩), by rw [upd_self, updL_self]; exact hK, rfl⟩
  · intro h30
    have hK : ldok atm (ofw P Q S F R) lx c i (nI 1 <<< (nI (atm (4 * lx + i)) &&& 31)) 0 := ldok.num (by omega)
    refine x_aload_n (pc := 33) d_R_look_33 1 rfl ?_
    refine x_get (pc := 34) (ci := 4) d_R_look_34 in_R rfl 23 (by decide) k_R_51 0 rfl rfl ?_
    refine x_iload_n (pc := 37) d_R_look_37 4 rfl ?_
    refine x_iconst (pc := 38) (nI 1) d_R_look_38 (by decide) ?_
    refine x_iload (pc := 39) d_R_look_39 0 rfl ?_
    refine x_ishl (pc := 41) d_R_look_41 ?_
    first | refine x_iastU (pc := 42) d_R_look_42 13 0 rfl rfl (by omega) (by omega) ?_ | refine x_iastN (pc := 42) d_R_look_42 13 0 rfl rfl (by omega) (by omega) _ rfl ?_
    refine x_goto (pc := 43) (tgt := 153) d_R_look_43 rfl ?_
    refine x_vret (pc := 153) d_R_look_153 rfl ?_
    exact ⟨rfl, _, _, (fun j hj => ⟨by simp [upd, hj], by simp [vp_updL, hj]⟩), by rw [upd_self, updL_self]; exact hK, rfl⟩
set_option maxHeartbeats 4000000 in
set_option maxRecDepth 100000 in
theorem t_R_answer {i : Nat} (hi : i < 4) : CT l y_R_answer c_R_answer 3 none (rmm 0 0) (gG D cI cL) [.ref (ad 0), .int (nI i)] (wR ad cI cL par prm siz atm cnt mo he en ap oc cal el eu ev ag an kk P Q S F R ch AP AQ) (fun v w2 => v = none ∧ ∃ P2 Q2 S2 F2 R2 g2, apc (fun _ Y => ares (fun b => bt (AP i) b = true) (fun b => bl (AQ i) b = true) Y) ch (ofw P Q S F R) g2 (ofw P2 Q2 S2 F2 R2) ∧ w2 = (wR ad cI cL par prm siz atm cnt mo he en ap oc cal el eu ev ag an kk P2 Q2 S2 F2 R2 g2 AP AQ)) := by
  refine CT.of R_R (by decide) rfl (Nat.le_of_ble_eq_true rfl) ?_
  intro E A hname
  refine x_aload_n (pc := 0) d_R_answer_0 0 rfl ?_
  refine x_get (pc := 1) (ci := 4) d_R_answer_1 in_R rfl 23 (by decide) k_R_51 0 rfl rfl ?_
  refine x_iload_n (pc := 4) d_R_answer_4 1 rfl ?_
  refine x_ialdN (pc := 5) d_R_answer_5 13 0 rfl rfl (by omega) (by omega) ?_
  refine x_aload_n (pc := 6) d_R_answer_6 0 rfl ?_
  refine x_get (pc := 7) (ci := 4) d_R_answer_7 in_R rfl 24 (by decide) k_R_54 0 rfl rfl ?_
  refine x_iload_n (pc := 10) d_R_answer_10 1 rfl ?_
  refine x_laldN (pc := 11) d_R_answer_11 14 1 rfl rfl (by omega) (by omega) ?_
  refine x_lconst (pc := 12) 0 d_R_answer_12 (by decide) ?_
  refine x_lcmp (pc := 13) d_R_answer_13 ?_
  refine x_if_eqL (pc := 14) (tgt := 23) d_R_answer_14 rfl ?_ ?_
  · intro h14
    refine x_iconst (pc := 23) (nI 0) d_R_answer_23 (by decide) ?_
    refine x_ior (pc := 24) d_R_answer_24 ?_
    refine x_istore_n (pc := 25) d_R_answer_25 rfl (by decide) [(2, _), (0, _), (1, _)] rfl ?_
    refine x_aload_n (pc := 26) d_R_answer_26 1 rfl ?_
    refine x_aload_n (pc := 27) d_R_answer_27 1 rfl ?_
    refine x_get (pc := 28) (ci := 4) d_R_answer_28 in_R rfl 22 (by decide) k_R_114 0 rfl rfl ?_
    first | refine x_if_neB (pc := 31) (tgt := 45) d_R_answer_31 rfl ?_ ?_ | refine x_if_neL (pc := 31) (tgt := 45) d_R_answer_31 rfl ?_ ?_ | refine x_if_neN (pc := 31) (tgt := 45) d_R_answer_31 rfl (by omega) ?_ ?_ | refine x_if_ne (pc := 31) (tgt := 45) d_R_answer_31 rfl ?_ ?_
    · intro h31
      refine x_iconst (pc := 45) (nI 1) d_R_answer_45 (by decide) ?_
      refine x_goto (pc := 46) (tgt := 50) d_R_answer_46 rfl ?_
      refine x_put (pc := 50) (ci := 4) (ty := .boolean) d_R_answer_50 in_R t_R ty_R nm_R rfl 22 (by decide) k_R_114 rfl (by decide +kernel) rfl rfl 0 rfl (Nat.le_of_ble_eq_true rfl) (_) (rfl) ?_
      refine x_aload_n (pc := 53) d_R_answer_53 1 rfl ?_
      refine x_aload_n (pc := 54) d_R_answer_54 1 rfl ?_
      refine x_get (pc := 55) (ci := 4) d_R_answer_55 in_R rfl 21 (by decide) k_R_132 0 rfl rfl ?_
      refine x_iload_n (pc := 58) d_R_answer_58 0 rfl ?_
      refine x_ior (pc := 59) d_R_answer_59 ?_
      refine x_put (pc := 60) (ci := 4) (ty := .int) d_R_answer_60 in_R t_R ty_R nm_R rfl 21 (by decide) k_R_132 rfl (by decide +kernel) rfl rfl 0 rfl (Nat.le_of_ble_eq_true rfl) (_) (rfl) ?_
      refine x_vret (pc := 63) d_R_answer_63 rfl ?_
      first | exact ⟨rfl, P, Q, S, F, _, true, apc.resV (rv0 h14) (Or.inl h31.symm), rfl⟩ | exact ⟨rfl, P, Q, S, F, _, true, apc.resV (rv0 h14) (Or.inr ⟨rfl, fun q => h42 (b_sub.mpr q)⟩), rfl⟩ | exact ⟨rfl, P, Q, S, F, _, false, apc.resV (rv0 h14) (Or.inl h31.symm), rfl⟩ | exact ⟨rfl, P, Q, S, F, _, true, apc.resV (rv1 h14) (Or.inl h31.symm), rfl⟩ | exact ⟨rfl, P, Q, S, F, _, true, apc.resV (rv1 h14) (Or.inr ⟨rfl, fun q => h42 (b_sub.mpr q)⟩), rfl⟩ | exact ⟨rfl, P, Q, S, F, _, false, apc.resV (rv1 h14) (Or.inl h31.symm), rfl⟩
    · intro h31
      refine x_iload_n (pc := 34) d_R_answer_34 0 rfl ?_
      refine x_aload_n (pc := 35) d_R_answer_35 1 rfl ?_
      refine x_get (pc := 36) (ci := 4) d_R_answer_36 in_R rfl 21 (by decide) k_R_132 0 rfl rfl ?_
      refine x_iconst (pc := 39) (-1) d_R_answer_39 (by decide) ?_
      refine x_ixor (pc := 40) d_R_answer_40 ?_
      refine x_iand (pc := 41) d_R_answer_41 ?_
      refine x_if_eq (pc := 42) (tgt := 49) d_R_answer_42 rfl ?_ ?_
      · intro h42
        refine x_iconst (pc := 49) (nI 0) d_R_answer_49 (by decide) ?_
        refine x_put (pc := 50) (ci := 4) (ty := .boolean) d_R_answer_50 in_R t_R ty_R nm_R rfl 22 (by decide) k_R_114 rfl (by decide +kernel) rfl rfl 0 rfl (Nat.le_of_ble_eq_true rfl) (_) (rfl) ?_
        refine x_aload_n (pc := 53) d_R_answer_53 1 rfl ?_
        refine x_aload_n (pc := 54) d_R_answer_54 1 rfl ?_
        refine x_get (pc := 55) (ci := 4) d_R_answer_55 in_R rfl 21 (by decide) k_R_132 0 rfl rfl ?_
        refine x_iload_n (pc := 58) d_R_answer_58 0 rfl ?_
        refine x_ior (pc := 59) d_R_answer_59 ?_
        refine x_put (pc := 60) (ci := 4) (ty := .int) d_R_answer_60 in_R t_R ty_R nm_R rfl 21 (by decide) k_R_132 rfl (by decide +kernel) rfl rfl 0 rfl (Nat.le_of_ble_eq_true rfl) (_) (rfl) ?_
        refine x_vret (pc := 63) d_R_answer_63 rfl ?_
        first | exact ⟨rfl, P, Q, S, F, _, true, apc.resV (rv0 h14) (Or.inl h31.symm), rfl⟩ | exact ⟨rfl, P, Q, S, F, _, true, apc.resV (rv0 h14) (Or.inr ⟨rfl, fun q => h42 (b_sub.mpr q)⟩), rfl⟩ | exact ⟨rfl, P, Q, S, F, _, false, apc.resV (rv0 h14) (Or.inl h31.symm), rfl⟩ | exact ⟨rfl, P, Q, S, F, _, true, apc.resV (rv1 h14) (Or.inl h31.symm), rfl⟩ | exact ⟨rfl, P, Q, S, F, _, true, apc.resV (rv1 h14) (Or.inr ⟨rfl, fun q => h42 (b_sub.mpr q)⟩), rfl⟩ | exact ⟨rfl, P, Q, S, F, _, false, apc.resV (rv1 h14) (Or.inl h31.symm), rfl⟩
      · intro h42
        refine x_iconst (pc := 45) (nI 1) d_R_answer_45 (by decide) ?_
        refine x_goto (pc := 46) (tgt := 50) d_R_answer_46 rfl ?_
        refine x_put (pc := 50) (ci := 4) (ty := .boolean) d_R_answer_50 in_R t_R ty_R nm_R rfl 22 (by decide) k_R_114 rfl (by decide +kernel) rfl rfl 0 rfl (Nat.le_of_ble_eq_true rfl) (_) (rfl) ?_
        refine x_aload_n (pc := 53) d_R_answer_53 1 rfl ?_
        refine x_aload_n (pc := 54) d_R_answer_54 1 rfl ?_
        refine x_get (pc := 55) (ci := 4) d_R_answer_55 in_R rfl 21 (by decide) k_R_132 0 rfl rfl ?_
        refine x_iload_n (pc := 58) d_R_answer_58 0 rfl ?_
        refine x_ior (pc := 59) d_R_answer_59 ?_
        refine x_put (pc := 60) (ci := 4) (ty := .int) d_R_answer_60 in_R t_R ty_R nm_R rfl 21 (by decide) k_R_132 rfl (by decide +kernel) rfl rfl 0 rfl (Nat.le_of_ble_eq_true rfl) (_) (rfl) ?_
        refine x_vret (pc := 63) d_R_answer_63 rfl ?_
        first | exact ⟨rfl, P, Q, S, F, _, true, apc.resV (rv0 h14) (Or.inl h31.symm), rfl⟩ | exact ⟨rfl, P, Q, S, F, _, true, apc.resV (rv0 h14) (Or.inr ⟨rfl, fun q => h42 (b_sub.mpr q)⟩), rfl⟩ | exact ⟨rfl, P, Q, S, F, _, false, apc.resV (rv0 h14) (Or.inl h31.symm), rfl⟩ | exact ⟨rfl, P, Q, S, F, _, true, apc.resV (rv1 h14) (Or.inl h31.symm), rfl⟩ | exact ⟨rfl, P, Q, S, F, _, true, apc.resV (rv1 h14) (Or.inr ⟨rfl, fun q => h42 (b_sub.mpr q)⟩), rfl⟩ | exact ⟨rfl, P, Q, S, F, _, false, apc.resV (rv1 h14) (Or.inl h31.symm), rfl⟩
  · intro h14
    refine x_sipush (pc := 17) (nI 8192) d_R_answer_17 (by decide) ?_
    refine x_goto (pc := 20) (tgt := 24) d_R_answer_20 rfl ?_
    refine x_ior (pc := 24) d_R_answer_24 ?_
    refine x_istore_n (pc := 25) d_R_answer_25 rfl (by decide) [(2, _), (0, _), (1, _)] rfl ?_
    refine x_aload_n (pc := 26) d_R_answer_26 1 rfl ?_
    refine x_aload_n (pc := 27) d_R_answer_27 1 rfl ?_
    refine x_get (pc := 28) (ci := 4) d_R_answer_28 in_R rfl 22 (by decide) k_R_114 0 rfl rfl ?_
    first | refine x_if_neB (pc := 31) (tgt := 45) d_R_answer_31 rfl ?_ ?_ | refine x_if_neL (pc := 31) (tgt := 45) d_R_answer_31 rfl ?_ ?_ | refine x_if_neN (pc := 31) (tgt := 45) d_R_answer_31 rfl (by omega) ?_ ?_ | refine x_if_ne (pc := 31) (tgt := 45) d_R_answer_31 rfl ?_ ?_
    · intro h31
      refine x_iconst (pc := 45) (nI 1) d_R_answer_45 (by decide) ?_
      refine x_goto (pc := 46) (tgt := 50) d_R_answer_46 rfl ?_
      refine x_put (pc := 50) (ci := 4) (ty := .boolean) d_R_answer_50 in_R t_R ty_R nm_R rfl 22 (by decide) k_R_114 rfl (by decide +kernel) rfl rfl 0 rfl (Nat.le_of_ble_eq_true rfl) (_) (rfl) ?_
      refine x_aload_n (pc := 53) d_R_answer_53 1 rfl ?_
      refine x_aload_n (pc := 54) d_R_answer_54 1 rfl ?_
      refine x_get (pc := 55) (ci := 4) d_R_answer_55 in_R rfl 21 (by decide) k_R_132 0 rfl rfl ?_
      refine x_iload_n (pc := 58) d_R_answer_58 0 rfl ?_
      refine x_ior (pc := 59) d_R_answer_59 ?_
      refine x_put (pc := 60) (ci := 4) (ty := .int) d_R_answer_60 in_R t_R ty_R nm_R rfl 21 (by decide) k_R_132 rfl (by decide +kernel) rfl rfl 0 rfl (Nat.le_of_ble_eq_true rfl) (_) (rfl) ?_
      refine x_vret (pc := 63) d_R_answer_63 rfl ?_
      first | exact ⟨rfl, P, Q, S, F, _, true, apc.resV (rv0 h14) (Or.inl h31.symm), rfl⟩ | exact ⟨rfl, P, Q, S, F, _, true, apc.resV (rv0 h14) (Or.inr ⟨rfl, fun q => h42 (b_sub.mpr q)⟩), rfl⟩ | exact ⟨rfl, P, Q, S, F, _, false, apc.resV (rv0 h14) (Or.inl h31.symm), rfl⟩ | exact ⟨rfl, P, Q, S, F, _, true, apc.resV (rv1 h14) (Or.inl h31.symm), rfl⟩ | exact ⟨rfl, P, Q, S, F, _, true, apc.resV (rv1 h14) (Or.inr ⟨rfl, fun q => h42 (b_sub.mpr q)⟩), rfl⟩ | exact ⟨rfl, P, Q, S, F, _, false, apc.resV (rv1 h14) (Or.inl h31.symm), rfl⟩
    · intro h31
      refine x_iload_n (pc := 34) d_R_answer_34 0 rfl ?_
      refine x_aload_n (pc := 35) d_R_answer_35 1 rfl ?_
      refine x_get (pc := 36) (ci := 4) d_R_answer_36 in_R rfl 21 (by decide) k_R_132 0 rfl rfl ?_
      refine x_iconst (pc := 39) (-1) d_R_answer_39 (by decide) ?_
      refine x_ixor (pc := 40) d_R_answer_40 ?_
      refine x_iand (pc := 41) d_R_answer_41 ?_
      refine x_if_eq (pc := 42) (tgt := 49) d_R_answer_42 rfl ?_ ?_
      · intro h42
        refine x_iconst (pc := 49) (nI 0) d_R_answer_49 (by decide) ?_
        refine x_put (pc := 50) (ci := 4) (ty := .boolean) d_R_answer_50 in_R t_R ty_R nm_R rfl 22 (by decide) k_R_114 rfl (by decide +kernel) rfl rfl 0 rfl (Nat.le_of_ble_eq_true rfl) (_) (rfl) ?_
        refine x_aload_n (pc := 53) d_R_answer_53 1 rfl ?_
        refine x_aload_n (pc := 54) d_R_answer_54 1 rfl ?_
        refine x_get (pc := 55) (ci := 4) d_R_answer_55 in_R rfl 21 (by decide) k_R_132 0 rfl rfl ?_
        refine x_iload_n (pc := 58) d_R_answer_58 0 rfl ?_
        refine x_ior (pc := 59) d_R_answer_59 ?_
        refine x_put (pc := 60) (ci := 4) (ty := .int) d_R_answer_60 in_R t_R ty_R nm_R rfl 21 (by decide) k_R_132 rfl (by decide +kernel) rfl rfl 0 rfl (Nat.le_of_ble_eq_true rfl) (_) (rfl) ?_
        refine x_vret (pc := 63) d_R_answer_63 rfl ?_
        first | exact ⟨rfl, P, Q, S, F, _, true, apc.resV (rv0 h14) (Or.inl h31.symm), rfl⟩ | exact ⟨rfl, P, Q, S, F, _, true, apc.resV (rv0 h14) (Or.inr ⟨rfl, fun q => h42 (b_sub.mpr q)⟩), rfl⟩ | exact ⟨rfl, P, Q, S, F, _, false, apc.resV (rv0 h14) (Or.inl h31.symm), rfl⟩ | exact ⟨rfl, P, Q, S, F, _, true, apc.resV (rv1 h14) (Or.inl h31.symm), rfl⟩ | exact ⟨rfl, P, Q, S, F, _, true, apc.resV (rv1 h14) (Or.inr ⟨rfl, fun q => h42 (b_sub.mpr q)⟩), rfl⟩ | exact ⟨rfl, P, Q, S, F, _, false, apc.resV (rv1 h14) (Or.inl h31.symm), rfl⟩
      · intro h42
        refine x_iconst (pc := 45) (nI 1) d_R_answer_45 (by decide) ?_
        refine x_goto (pc := 46) (tgt := 50) d_R_answer_46 rfl ?_
        refine x_put (pc := 50) (ci := 4) (ty := .boolean) d_R_answer_50 in_R t_R ty_R nm_R rfl 22 (by decide) k_R_114 rfl (by decide +kernel) rfl rfl 0 rfl (Nat.le_of_ble_eq_true rfl) (_) (rfl) ?_
        refine x_aload_n (pc := 53) d_R_answer_53 1 rfl ?_
        refine x_aload_n (pc := 54) d_R_answer_54 1 rfl ?_
        refine x_get (pc := 55) (ci := 4) d_R_answer_55 in_R rfl 21 (by decide) k_R_132 0 rfl rfl ?_
        refine x_iload_n (pc := 58) d_R_answer_58 0 rfl ?_
        refine x_ior (pc := 59) d_R_answer_59 ?_
        refine x_put (pc := 60) (ci := 4) (ty := .int) d_R_answer_60 in_R t_R ty_R nm_R rfl 21 (by decide) k_R_132 rfl (by decide +kernel) rfl rfl 0 rfl (Nat.le_of_ble_eq_true rfl) (_) (rfl) ?_
        refine x_vret (pc := 63) d_R_answer_63 rfl ?_
        first | exact ⟨rfl, P, Q, S, F, _, true, apc.resV (rv0 h14) (Or.inl h31.symm), rfl⟩ | exact ⟨rfl, P, Q, S, F, _, true, apc.resV (rv0 h14) (Or.inr ⟨rfl, fun q => h42 (b_sub.mpr q)⟩), rfl⟩ | exact ⟨rfl, P, Q, S, F, _, false, apc.resV (rv0 h14) (Or.inl h31.symm), rfl⟩ | exact ⟨rfl, P, Q, S, F, _, true, apc.resV (rv1 h14) (Or.inl h31.symm), rfl⟩ | exact ⟨rfl, P, Q, S, F, _, true, apc.resV (rv1 h14) (Or.inr ⟨rfl, fun q => h42 (b_sub.mpr q)⟩), rfl⟩ | exact ⟨rfl, P, Q, S, F, _, false, apc.resV (rv1 h14) (Or.inl h31.symm), rfl⟩
set_option maxHeartbeats 4000000 in
set_option maxRecDepth 100000 in
theorem t_R_sums {w : va_W} {f1 f2 : Int32} : CT l y_R_sums c_R_sums 6 (some .int) (rmm 0 0) (gG D cI cL) [.int f1, .int f2] w (fun v w2 => ∃ sm, (∀ b, bt sm b = true ↔ asum (fun x => bt f1 x = true) (fun y => bt f2 y = true) b) ∧ v = some (.int sm) ∧ w2 = w) := by
  refine CT.of R_R (by decide) rfl (Nat.le_of_ble_eq_true rfl) ?_
  intro E A hname
  refine x_iconst (pc := 0) (nI 0) d_R_sums_0 (by decide) ?_
  refine x_istore_n (pc := 1) d_R_sums_1 rfl (by decide) [(2, _), (0, _), (1, _)] rfl ?_
  refine x_iconst (pc := 2) (nI 0) d_R_sums_2 (by decide) ?_
  refine x_istore_n (pc := 3) d_R_sums_3 rfl (by decide) [(3, _), (2, _), (0, _), (1, _)] rfl ?_
  have hlp : ∀ (fuel : Nat) (i : Nat) (s : Int32), 10 - i < fuel → (i ≤ 10) → (smk f1 f2 s (10 * i)) → xj E l (rmm 0 0) c_R_sums 6 (some .int) R_R (gG D cI cL) A 0 0 (fun v w2 => ∃ sm, (∀ b, bt sm b = true ↔ asum (fun x => bt f1 x = true) (fun y => bt f2 y = true) b) ∧ v = some (.int sm) ∧ w2 = w) 0 0 w 4 [(3, .int (nI i)), (2, .int s), (0, .int f1), (1, .int f2)] [] := by
    intro fuel
    induction fuel with
    | zero => intro i s hf; exact absurd hf (Nat.not_lt_zero _)
    | succ fuel ih =>
      intro i s hf hi hs
      refine x_iload_n (pc := 4) d_R_sums_4 0 rfl ?_
      refine x_bipush (pc := 5) (nI 10) d_R_sums_5 (by decide) ?_
      first | refine x_icmp_geN (pc := 7) (tgt := 79) d_R_sums_7 rfl (by omega) (by omega) ?_ ?_ | refine x_icmp_ge (pc := 7) (tgt := 79) d_R_sums_7 rfl ?_ ?_
      · intro h7
        refine x_iload_n (pc := 79) d_R_sums_79 1 rfl ?_
        refine x_iret (pc := 80) d_R_sums_80 rfl ?_
        have e2 : i = 10 := by omega
        rw [e2] at hs
        exact ⟨s, smk.all hs, rfl, rfl⟩
      · intro h7
        refine x_iconst (pc := 10) (nI 0) d_R_sums_10 (by decide) ?_
        refine x_istore (pc := 11) d_R_sums_11 (by decide) [(4, _), (3, _), (2, _), (0, _), (1, _)] rfl ?_
        have hlq : ∀ (fuel : Nat) (j : Nat) (s2 : Int32), 10 - j < fuel → (j ≤ 10) → (smk f1 f2 s2 (10 * i + j)) → xj E l (rmm 0 0) c_R_sums 6 (some .int) R_R (gG D cI cL) A 0 0 (fun v w2 => ∃ sm, (∀ b, bt sm b = true ↔ asum (fun x => bt f1 x = true) (fun y => bt f2 y = true) b) ∧ v = some (.int sm) ∧ w2 = w) 0 0 w 13 [(4, .int (nI j)), (3, .int (nI i)), (2, .int s2), (0, .int f1), (1, .int f2)] [] := by
          intro fuel
          induction fuel with
          | zero => intro j s2 hf; exact absurd hf (Nat.not_lt_zero _)
          | succ fuel ihq =>
            intro j s2 hf hj0 hj
            refine x_iload (pc := 13) d_R_sums_13 0 rfl ?_
            refine x_bipush (pc := 15) (nI 10) d_R_sums_15 (by decide) ?_
            first | refine x_icmp_geN (pc := 17) (tgt := 73) d_R_sums_17 rfl (by omega) (by omega) ?_ ?_ | refine x_icmp_ge (pc := 17) (tgt := 73) d_R_sums_17 rfl ?_ ?_
            · intro h17
              refine x_iincN (pc := 73) d_R_sums_73 1 rfl (by decide) [(3, _), (4, _), (2, _), (0, _), (1, _)] rfl ?_
              refine x_goto (pc := 76) (tgt := 4) d_R_sums_76 rfl ?_
              refine x_sub [0, 2, 3, 4] _ rfl ?_
              have e1 : j = 10 := by omega
              rw [e1] at hj
              exact ih (i + 1) s2 (by omega) (by omega) hj
            · intro h17
              refine x_iload_n (pc := 20) d_R_sums_20 3 rfl ?_
              refine x_iload_n (pc := 21) d_R_sums_21 1 rfl ?_
              refine x_ishr (pc := 22) d_R_sums_22 ?_
              refine x_iconst (pc := 23) (nI 1) d_R_sums_23 (by decide) ?_
              refine x_iand (pc := 24) d_R_sums_24 ?_
              refine x_iconst (pc := 25) (nI 1) d_R_sums_25 (by decide) ?_
              refine x_icmp_ne (pc := 26) (tgt := 43) d_R_sums_26 rfl ?_ ?_
              · intro h26
                refine x_iconst (pc := 43) (nI 0) d_R_sums_43 (by decide) ?_
                refine x_istore (pc := 44) d_R_sums_44 (by decide) [(5, _), (4, _), (3, _), (2, _), (0, _), (1, _)] rfl ?_
                refine x_iload (pc := 46) d_R_sums_46 0 rfl ?_
                refine x_if_eqN (pc := 48) (tgt := 65) d_R_sums_48 rfl (by decide) (fun _ => ?_) (fun q => absurd rfl q)
                refine x_iload_n (pc := 65) d_R_sums_65 3 rfl ?_
                refine x_istore_n (pc := 66) d_R_sums_66 rfl (by decide) [(2, _), (5, _), (4, _), (3, _), (0, _), (1, _)] rfl ?_
                refine x_iincN (pc := 67) d_R_sums_67 2 rfl (by decide) [(4, _), (2, _), (5, _), (3, _), (0, _), (1, _)] rfl ?_
                refine x_goto (pc := 70) (tgt := 13) d_R_sums_70 rfl ?_
                refine x_sub [0, 3, 1, 4, 5] _ rfl ?_
                first
                  | exact ihq (j + 1) _ (by omega) (by omega) (hj.next (by omega) ((hs1 (by omega)).mp h26) ((hs1 (by omega)).mp h36))
                  | exact ihq (j + 1) s2 (by omega) (by omega) (hj.same (by omega) (Or.inl (hs1n (by omega) h26)))
                  | exact ihq (j + 1) s2 (by omega) (by omega) (hj.same (by omega) (Or.inr (hs1n (by omega) h36)))
              · intro h26
                refine x_iload_n (pc := 29) d_R_sums_29 4 rfl ?_
                refine x_iload (pc := 30) d_R_sums_30 0 rfl ?_
                refine x_ishr (pc := 32) d_R_sums_32 ?_
                refine x_iconst (pc := 33) (nI 1) d_R_sums_33 (by decide) ?_
                refine x_iand (pc := 34) d_R_sums_34 ?_
                refine x_iconst (pc := 35) (nI 1) d_R_sums_35 (by decide) ?_
                refine x_icmp_ne (pc := 36) (tgt := 43) d_R_sums_36 rfl ?_ ?_
                · intro h36
                  refine x_iconst (pc := 43) (nI 0) d_R_sums_43 (by decide) ?_
                  refine x_istore (pc := 44) d_R_sums_44 (by decide) [(5, _), (4, _), (3, _), (2, _), (0, _), (1, _)] rfl ?_
                  refine x_iload (pc := 46) d_R_sums_46 0 rfl ?_
                  refine x_if_eqN (pc := 48) (tgt := 65) d_R_sums_48 rfl (by decide) (fun _ => ?_) (fun q => absurd rfl q)
                  refine x_iload_n (pc := 65) d_R_sums_65 3 rfl ?_
                  refine x_istore_n (pc := 66) d_R_sums_66 rfl (by decide) [(2, _), (5, _), (4, _), (3, _), (0, _), (1, _)] rfl ?_
                  refine x_iincN (pc := 67) d_R_sums_67 2 rfl (by decide) [(4, _), (2, _), (5, _), (3, _), (0, _), (1, _)] rfl ?_
                  refine x_goto (pc := 70) (tgt := 13) d_R_sums_70 rfl ?_
                  refine x_sub [0, 3, 1, 4, 5] _ rfl ?_
                  first
                    | exact ihq (j + 1) _ (by omega) (by omega) (hj.next (by omega) ((hs1 (by omega)).mp h26) ((hs1 (by omega)).mp h36))
                    | exact ihq (j + 1) s2 (by omega) (by omega) (hj.same (by omega) (Or.inl (hs1n (by omega) h26)))
                    | exact ihq (j + 1) s2 (by omega) (by omega) (hj.same (by omega) (Or.inr (hs1n (by omega) h36)))
                · intro h36
                  refine x_iconst (pc := 39) (nI 1) d_R_sums_39 (by decide) ?_
                  refine x_goto (pc := 40) (tgt := 44) d_R_sums_40 rfl ?_
                  refine x_istore (pc := 44) d_R_sums_44 (by decide) [(5, _), (4, _), (3, _), (2, _), (0, _), (1, _)] rfl ?_
                  refine x_iload (pc := 46) d_R_sums_46 0 rfl ?_
                  refine x_if_eqN (pc := 48) (tgt := 65) d_R_sums_48 rfl (by decide) (fun q => absurd q (by decide)) (fun _ => ?_)
                  refine x_iload_n (pc := 51) d_R_sums_51 3 rfl ?_
                  refine x_iconst (pc := 52) (nI 1) d_R_sums_52 (by decide) ?_
                  refine x_iload_n (pc := 53) d_R_sums_53 2 rfl ?_
                  refine x_iload (pc := 54) d_R_sums_54 1 rfl ?_
                  first | refine x_iaddN (pc := 56) d_R_sums_56 ?_ | refine x_iadd (pc := 56) d_R_sums_56 ?_
                  refine x_bipush (pc := 57) (nI 10) d_R_sums_57 (by decide) ?_
                  first | refine x_iremN (pc := 59) d_R_sums_59 (by omega) (by omega) (by omega) ?_ | refine x_irem (pc := 59) d_R_sums_59 (by decide) ?_
                  refine x_ishl (pc := 60) d_R_sums_60 ?_
                  refine x_ior (pc := 61) d_R_sums_61 ?_
                  refine x_goto (pc := 62) (tgt := 66) d_R_sums_62 rfl ?_
                  refine x_istore_n (pc := 66) d_R_sums_66 rfl (by decide) [(2, _), (5, _), (4, _), (3, _), (0, _), (1, _)] rfl ?_
                  refine x_iincN (pc := 67) d_R_sums_67 2 rfl (by decide) [(4, _), (2, _), (5, _), (3, _), (0, _), (1, _)] rfl ?_
                  refine x_goto (pc := 70) (tgt := 13) d_R_sums_70 rfl ?_
                  refine x_sub [0, 3, 1, 4, 5] _ rfl ?_
                  first
                    | exact ihq (j + 1) _ (by omega) (by omega) (hj.next (by omega) ((hs1 (by omega)).mp h26) ((hs1 (by omega)).mp h36))
                    | exact ihq (j + 1) s2 (by omega) (by omega) (hj.same (by omega) (Or.inl (hs1n (by omega) h26)))
                    | exact ihq (j + 1) s2 (by omega) (by omega) (hj.same (by omega) (Or.inr (hs1n (by omega) h36)))
        refine x_sub [0, 1, 2, 3, 4] _ rfl ?_
        exact hlq 11 0 s (by omega) (by omega) hs
  refine x_sub [0, 1, 2, 3] _ rfl ?_
  exact hlp 11 0 (nI 0) (by omega) (by omega) (smk.zero f1 f2)
end REF6
