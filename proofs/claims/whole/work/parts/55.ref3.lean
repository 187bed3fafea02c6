section REF3
variable {l : Launch} {D : va_G} {ad : Nat → Nat} {cI cL : ClassId} {par : Nat → Int32} {prm siz atm : Nat → Nat} {cnt : Nat} {mo he en ap oc : Nat} {cal : Nat → Int32} {el : Nat → Nat} {eu : Nat → Int32} {ev ag : Nat → Nat} {an : Bool} {kk : Nat} {P : Nat → Int32} {Q : Nat → Int64} {S : Int64} {F : Nat → Int32} {R : Int32} {ch : Bool} {AP : Nat → Int32} {AQ : Nat → Int64}
set_option maxHeartbeats 4000000 in
set_option maxRecDepth 100000 in
theorem t_R_enter {mm e k : Nat} (hhe : he < 8) (hap : ap < 64) (hmm : mm < 32) (hk : k ≤ 3) : CT l y_R_enter c_R_enter 5 none (rmm 0 0) (gG D cI cL) [.ref (ad 0), .int (nI mm), .int (nI e), .int (nI k)] (wR ad cI cL par prm siz atm cnt mo he en ap oc cal el eu ev ag an kk P Q S F R ch AP AQ) (pV (wR ad cI cL par prm siz atm cnt mo mm (ap + 1) (ap + 1) oc (upd cal he (cal he ||| 1 <<< (nI mm &&& 31))) (un el (ap + 1) mm) (upd eu (ap + 1) (nI e)) (bst ev (3 * (ap + 1)) ag k) ag an kk P Q S F R ch AP AQ)) := by
  refine CT.of R_R (by decide) rfl (Nat.le_of_ble_eq_true rfl) ?_
  intro E A hname
  refine x_aload_n (pc := 0) d_R_enter_0 0 rfl ?_
  refine x_get (pc := 1) (ci := 4) d_R_enter_1 in_R rfl 10 (by decide) k_R_26 0 rfl rfl ?_
  refine x_aload_n (pc := 4) d_R_enter_4 0 rfl ?_
  refine x_get (pc := 5) (ci := 4) d_R_enter_5 in_R rfl 6 (by decide) k_R_78 0 rfl rfl ?_
  refine x_aload_n (pc := 8) d_R_enter_8 0 rfl ?_
  refine x_get (pc := 9) (ci := 4) d_R_enter_9 in_R rfl 10 (by decide) k_R_26 0 rfl rfl ?_
  refine x_aload_n (pc := 12) d_R_enter_12 0 rfl ?_
  refine x_get (pc := 13) (ci := 4) d_R_enter_13 in_R rfl 6 (by decide) k_R_78 0 rfl rfl ?_
  refine x_ialdN (pc := 16) d_R_enter_16 5 0 rfl rfl (by omega) (by omega) ?_
  refine x_iconst (pc := 17) (nI 1) d_R_enter_17 (by decide) ?_
  refine x_iload_n (pc := 18) d_R_enter_18 1 rfl ?_
  refine x_ishl (pc := 19) d_R_enter_19 ?_
  refine x_ior (pc := 20) d_R_enter_20 ?_
  first | refine x_iastU (pc := 21) d_R_enter_21 5 0 rfl rfl (by omega) (by omega) ?_ | refine x_iastN (pc := 21) d_R_enter_21 5 0 rfl rfl (by omega) (by omega) _ rfl ?_
  refine x_aload_n (pc := 22) d_R_enter_22 0 rfl ?_
  refine x_dup (pc := 23) d_R_enter_23 rfl ?_
  refine x_get (pc := 24) (ci := 4) d_R_enter_24 in_R rfl 8 (by decide) k_R_84 0 rfl rfl ?_
  refine x_iconst (pc := 27) (nI 1) d_R_enter_27 (by decide) ?_
  first | refine x_iaddN (pc := 28) d_R_enter_28 ?_ | refine x_iadd (pc := 28) d_R_enter_28 ?_
  refine x_put (pc := 29) (ci := 4) (ty := .int) d_R_enter_29 in_R t_R ty_R nm_R rfl 8 (by decide) k_R_84 rfl (by decide +kernel) rfl rfl 0 rfl (Nat.le_of_ble_eq_true rfl) (_) (rfl) ?_
  refine x_aload_n (pc := 32) d_R_enter_32 0 rfl ?_
  refine x_get (pc := 33) (ci := 4) d_R_enter_33 in_R rfl 11 (by decide) k_R_29 0 rfl rfl ?_
  refine x_aload_n (pc := 36) d_R_enter_36 0 rfl ?_
  refine x_get (pc := 37) (ci := 4) d_R_enter_37 in_R rfl 8 (by decide) k_R_84 0 rfl rfl ?_
  refine x_iload_n (pc := 40) d_R_enter_40 1 rfl ?_
  first | refine x_iastU (pc := 41) d_R_enter_41 6 0 rfl rfl (by omega) (by omega) ?_ | refine x_iastN (pc := 41) d_R_enter_41 6 0 rfl rfl (by omega) (by omega) _ rfl ?_
  refine x_aload_n (pc := 42) d_R_enter_42 0 rfl ?_
  refine x_get (pc := 43) (ci := 4) d_R_enter_43 in_R rfl 12 (by decide) k_R_32 0 rfl rfl ?_
  refine x_aload_n (pc := 46) d_R_enter_46 0 rfl ?_
  refine x_get (pc := 47) (ci := 4) d_R_enter_47 in_R rfl 8 (by decide) k_R_84 0 rfl rfl ?_
  refine x_iload_n (pc := 50) d_R_enter_50 2 rfl ?_
  first | refine x_iastU (pc := 51) d_R_enter_51 7 0 rfl rfl (by omega) (by omega) ?_ | refine x_iastN (pc := 51) d_R_enter_51 7 0 rfl rfl (by omega) (by omega) _ rfl ?_
  refine x_iconst (pc := 52) (nI 0) d_R_enter_52 (by decide) ?_
  refine x_istore (pc := 53) d_R_enter_53 (by decide) [(4, _), (0, _), (1, _), (2, _), (3, _)] rfl ?_
  have hlp : ∀ (fuel : Nat) (i : Nat), k - i < fuel → (i ≤ k) → xj E l (rmm 0 0) c_R_enter 5 none R_R (gG D cI cL) A 0 0 (pV (wR ad cI cL par prm siz atm cnt mo mm (ap + 1) (ap + 1) oc (upd cal he (cal he ||| 1 <<< (nI mm &&& 31))) (un el (ap + 1) mm) (upd eu (ap + 1) (nI e)) (bst ev (3 * (ap + 1)) ag k) ag an kk P Q S F R ch AP AQ)) 0 0 (wR ad cI cL par prm siz atm cnt mo he en (ap + 1) oc (upd cal he (cal he ||| 1 <<< (nI mm &&& 31))) (un el (ap + 1) mm) (upd eu (ap + 1) (nI e)) (bst ev (3 * (ap + 1)) ag i) ag an kk P Q S F R ch AP AQ) 55 [(4, .int (nI i)), (0, .ref (ad 0)), (1, .int (nI mm)), (2, .int (nI e)), (3, .int (nI k))] [] := by
    intro fuel
    induction fuel with
    | zero => intro i hf; exact absurd hf (Nat.not_lt_zero _)
    | succ fuel ih =>
      intro i hf hi
      refine x_iload (pc := 55) d_R_enter_55 0 rfl ?_
      refine x_iload_n (pc := 57) d_R_enter_57 4 rfl ?_
      first | refine x_icmp_geN (pc := 58) (tgt := 88) d_R_enter_58 rfl (by omega) (by omega) ?_ ?_ | refine x_icmp_ge (pc := 58) (tgt := 88) d_R_enter_58 rfl ?_ ?_
      · intro h58
        refine x_aload_n (pc := 88) d_R_enter_88 1 rfl ?_
        refine x_aload_n (pc := 89) d_R_enter_89 1 rfl ?_
        refine x_get (pc := 90) (ci := 4) d_R_enter_90 in_R rfl 8 (by decide) k_R_84 0 rfl rfl ?_
        refine x_put (pc := 93) (ci := 4) (ty := .int) d_R_enter_93 in_R t_R ty_R nm_R rfl 7 (by decide) k_R_81 rfl (by decide +kernel) rfl rfl 0 rfl (Nat.le_of_ble_eq_true rfl) (_) (rfl) ?_
        refine x_aload_n (pc := 96) d_R_enter_96 1 rfl ?_
        refine x_iload_n (pc := 97) d_R_enter_97 2 rfl ?_
        refine x_put (pc := 98) (ci := 4) (ty := .int) d_R_enter_98 in_R t_R ty_R nm_R rfl 6 (by decide) k_R_78 rfl (by decide +kernel) rfl rfl 0 rfl (Nat.le_of_ble_eq_true rfl) (_) (rfl) ?_
        refine x_vret (pc := 101) d_R_enter_101 rfl ?_
        have e1 : i = k := by omega
        subst e1
        exact ⟨rfl, rfl⟩
      · intro h58
        refine x_aload_n (pc := 61) d_R_enter_61 1 rfl ?_
        refine x_get (pc := 62) (ci := 4) d_R_enter_62 in_R rfl 13 (by decide) k_R_35 0 rfl rfl ?_
        refine x_iconst (pc := 65) (nI 3) d_R_enter_65 (by decide) ?_
        refine x_aload_n (pc := 66) d_R_enter_66 1 rfl ?_
        refine x_get (pc := 67) (ci := 4) d_R_enter_67 in_R rfl 8 (by decide) k_R_84 0 rfl rfl ?_
        first | refine x_imulN (pc := 70) d_R_enter_70 ?_ | refine x_imul (pc := 70) d_R_enter_70 ?_
        refine x_iload (pc := 71) d_R_enter_71 0 rfl ?_
        first | refine x_iaddN (pc := 73) d_R_enter_73 ?_ | refine x_iadd (pc := 73) d_R_enter_73 ?_
        refine x_aload_n (pc := 74) d_R_enter_74 1 rfl ?_
        refine x_get (pc := 75) (ci := 4) d_R_enter_75 in_R rfl 14 (by decide) k_R_38 0 rfl rfl ?_
        refine x_iload (pc := 78) d_R_enter_78 0 rfl ?_
        refine x_ialdN (pc := 80) d_R_enter_80 9 0 rfl rfl (by omega) (by omega) ?_
        first | refine x_iastU (pc := 81) d_R_enter_81 8 0 rfl rfl (by omega) (by omega) ?_ | refine x_iastN (pc := 81) d_R_enter_81 8 0 rfl rfl (by omega) (by omega) _ rfl ?_
        refine x_iincN (pc := 82) d_R_enter_82 0 rfl (by decide) [(4, _), (0, _), (1, _), (2, _), (3, _)] rfl ?_
        refine x_goto (pc := 85) (tgt := 55) d_R_enter_85 rfl ?_
        refine x_sub [0, 1, 2, 3, 4] _ rfl ?_
        exact ih (i + 1) (by omega) (by omega)
  refine x_sub [0, 1, 2, 3, 4] _ rfl ?_
  exact hlp (k + 1) 0 (by omega) (by omega)
set_option maxHeartbeats 4000000 in
set_option maxRecDepth 100000 in
theorem t_R_move0 {n : Nat} {own out bnd : Nat → Nat} {cal2 : Nat → Int32} {ph oc2 : Nat} (hw : pwf cnt par prm siz atm) (hs : swf cnt par prm (n, own, out, bnd, cal2, ph, oc2)) (hr : rst prm (n, own, out, bnd, cal2, ph, oc2) mo he en ap oc cal el eu ev) (hph : ph = 1) (hag : ∀ i, i < 4 → ag i < 100000) (hz : siz he = 0) : CT l y_R_move c_R_move 4 (some .boolean) (rmm 2 45) (gG D cI cL) [.ref (ad 0)] (wR ad cI cL par prm siz atm cnt mo he en ap oc cal el eu ev ag an kk P Q S F R ch AP AQ) (fun v w2 => ∃ mo9 he9 en9 ap9 oc9 cal9 el9 eu9 ev9 ag9, rst prm (mstep prm siz atm (n, own, out, bnd, cal2, ph, oc2)) mo9 he9 en9 ap9 oc9 cal9 el9 eu9 ev9 ∧ (∀ i, i < 4 → ag9 i < 100000) ∧ v = some (.int (bI (decide (¬ (mstep prm siz atm (n, own, out, bnd, cal2, ph, oc2)).2.2.2.2.2.1 = 4)))) ∧ w2 = (wR ad cI cL par prm siz atm cnt mo9 he9 en9 ap9 oc9 cal9 el9 eu9 ev9 ag9 an kk P Q S F R ch AP AQ)) := by
  refine CT.of R_R (by decide) rfl (Nat.le_of_ble_eq_true rfl) ?_
  intro E A hname
  have hhe : he = own n := hr.2.2.2.1
  have hap : ap = n := hr.2.1
  have hn64 : n ≤ 64 := hs.1.1
  have hon := hs.1.own_lt hw.1 (Nat.le_refl n)
  have hon : own n < cnt := hon
  have hc8 := hw.2.1
  have hh8 : he < 8 := by omega
  refine x_aload_n (pc := 0) d_R_move_0 0 rfl ?_
  refine x_get (pc := 1) (ci := 4) d_R_move_1 in_R rfl 3 (by decide) k_R_20 0 rfl rfl ?_
  refine x_aload_n (pc := 4) d_R_move_4 0 rfl ?_
  refine x_get (pc := 5) (ci := 4) d_R_move_5 in_R rfl 6 (by decide) k_R_78 0 rfl rfl ?_
  refine x_ialdN (pc := 8) d_R_move_8 3 0 rfl rfl (by omega) (by omega) ?_
  rw [hz]
  refine x_iconst (pc := 9) (nI 1) d_R_move_9 (by decide) ?_
  first | refine x_isubN (pc := 10) d_R_move_10 (by omega) ?_ | refine x_isub (pc := 10) d_R_move_10 ?_
  refine x_ti (show nI 0 - nI 1 = -1 by decide) ?_
  refine x_istore_n (pc := 11) d_R_move_11 rfl (by decide) [(1, _), (0, _)] rfl ?_
  refine x_iload_n (pc := 12) d_R_move_12 0 rfl ?_
  refine x_if_ge (pc := 13) (tgt := 20) d_R_move_13 rfl ?_ ?_
  · intro h13
    exact absurd h13 (by decide)
  · intro h13
    refine x_iconst (pc := 16) (nI 0) d_R_move_16 (by decide) ?_
    refine x_goto (pc := 17) (tgt := 35) d_R_move_17 rfl ?_
    refine x_istore_n (pc := 35) d_R_move_35 rfl (by decide) [(2, _), (1, _), (0, _)] rfl ?_
    refine x_iconst (pc := 36) (nI 0) d_R_move_36 (by decide) ?_
    refine x_istore_n (pc := 37) d_R_move_37 rfl (by decide) [(3, _), (2, _), (1, _), (0, _)] rfl ?_
    refine x_iload_n (pc := 38) d_R_move_38 0 rfl ?_
    refine x_iload_n (pc := 39) d_R_move_39 2 rfl ?_
    refine x_icmp_ge (pc := 40) (tgt := 74) d_R_move_40 rfl ?_ ?_
    · intro h40
      refine x_iload_n (pc := 74) d_R_move_74 1 rfl ?_
      refine x_sipush (pc := 75) (nI 301) d_R_move_75 (by decide) ?_
      first | refine x_icmp_neN (pc := 78) (tgt := 144) d_R_move_78 rfl (by omega) (by omega) ?_ ?_ | refine x_icmp_ne (pc := 78) (tgt := 144) d_R_move_78 rfl ?_ ?_
      · intro h78
        refine x_iload_n (pc := 144) d_R_move_144 1 rfl ?_
        refine x_sipush (pc := 145) (nI 302) d_R_move_145 (by decide) ?_
        first | refine x_icmp_neN (pc := 148) (tgt := 195) d_R_move_148 rfl (by omega) (by omega) ?_ ?_ | refine x_icmp_ne (pc := 148) (tgt := 195) d_R_move_148 rfl ?_ ?_
        · intro h148
          refine x_iload_n (pc := 195) d_R_move_195 1 rfl ?_
          refine x_sipush (pc := 196) (nI 1000) d_R_move_196 (by decide) ?_
          first | refine x_icmp_ltN (pc := 199) (tgt := 213) d_R_move_199 rfl (by omega) (by omega) ?_ ?_ | refine x_icmp_lt (pc := 199) (tgt := 213) d_R_move_199 rfl ?_ ?_
          · intro h199
            refine x_iconst (pc := 213) (nI 0) d_R_move_213 (by decide) ?_
            refine x_istore_n (pc := 214) d_R_move_214 rfl (by decide) [(3, _), (2, _), (1, _), (0, _)] rfl ?_
            refine x_iload_n (pc := 215) d_R_move_215 1 rfl ?_
            refine x_sipush (pc := 216) (nI 300) d_R_move_216 (by decide) ?_
            first | refine x_icmp_neN (pc := 219) (tgt := 245) d_R_move_219 rfl (by omega) (by omega) ?_ ?_ | refine x_icmp_ne (pc := 219) (tgt := 245) d_R_move_219 rfl ?_ ?_
            · intro h219
              refine x_iload_n (pc := 245) d_R_move_245 1 rfl ?_
              refine x_sipush (pc := 246) (nI 1000) d_R_move_246 (by decide) ?_
              first | refine x_icmp_ltN (pc := 249) (tgt := 295) d_R_move_249 rfl (by omega) (by omega) ?_ ?_ | refine x_icmp_lt (pc := 249) (tgt := 295) d_R_move_249 rfl ?_ ?_
              · intro h249
                refine x_aload_n (pc := 295) d_R_move_295 3 rfl ?_
                refine x_iconst (pc := 296) (nI 3) d_R_move_296 (by decide) ?_
                refine x_put (pc := 297) (ci := 4) (ty := .int) d_R_move_297 in_R t_R ty_R nm_R rfl 5 (by decide) k_R_57 rfl (by decide +kernel) rfl rfl 0 rfl (Nat.le_of_ble_eq_true rfl) (_) (rfl) ?_
                refine x_iconst (pc := 300) (nI 1) d_R_move_300 (by decide) ?_
                refine x_zret (pc := 301) d_R_move_301 rfl (by first | rfl | exact bI_narrow _) ?_
                have e0 : mstep prm siz atm (n, own, out, bnd, cal2, ph, oc2) = (n, own, out, bnd, cal2, 3, oc2) := by
                  unfold mstep
                  have e1 : siz (own n) = 0 := by rw [← hhe]; exact hz
                  show mdo (mact prm (siz (own n)) _) _ _ = _
                  rw [e1]
                  rfl
                rw [e0]
                exact ⟨3, he, en, ap, oc, cal, el, eu, ev, ag, rst_mode hr (by decide), hag, rfl, rfl⟩
              · intro h249
                exact absurd (by decide) h249
            · intro h219
              exact absurd h219 (by decide)
          · intro h199
            exact absurd (by decide) h199
        · intro h148
          exact absurd h148 (by decide)
      · intro h78
        exact absurd h78 (by decide)
    · intro h40
      exact absurd (by decide) h40
end REF3
