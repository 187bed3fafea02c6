section LAWL
variable {l : Launch} {D : va_G} {ad ad2 : Nat → Nat} {cI cL : ClassId} {E : XE} {A : Nat → Prop} {b L : Nat} {xs : Nat → Int32}
set_option maxHeartbeats 4000000 in
set_option maxRecDepth 100000 in
theorem lw_sw (hX : scr E A b L xs) {i t : Nat} (ht : t ≤ 31) (hi3 : i + 3 ≤ L) {w : va_W} (hst : lst ad ad2 cI cL w) (cont : ∀ w2, lst ad ad2 cI cL w2 → xj E l room_1 code 4 ret "ClosureFlowsLaw" (gG D cI cL) A 34 1651 (fun v _ => v = some (.int (nI 1))) 34 1651 w2 520 [(3, .int (nI i)), (0, .ref b), (1, .ref (ad 0)), (2, .ref (ad2 0))] []) : xj E l room_1 code 4 ret "ClosureFlowsLaw" (gG D cI cL) A 34 1651 (fun v _ => v = some (.int (nI 1))) 34 1651 w 32 [(3, .int (nI i)), (0, .ref b), (1, .ref (ad 0)), (2, .ref (ad2 0))] [.int (nI t)] := by
  by_cases q0 : t = 0
  · subst q0
    exact x_tabI (pc := 32) (off := 88) (tgt := 120) d_L_law_32 (by decide) (by decide) (by decide +kernel) rfl (lw_0 hX hi3 hst cont)
  by_cases q1 : t = 1
  · subst q1
    exact x_tabI (pc := 32) (off := 121) (tgt := 153) d_L_law_32 (by decide) (by decide) (by decide +kernel) rfl (lw_1 hX hi3 hst cont)
  by_cases q2 : t = 2
  · subst q2
    exact x_tabI (pc := 32) (off := 154) (tgt := 186) d_L_law_32 (by decide) (by decide) (by decide +kernel) rfl (lw_2 hX hi3 hst cont)
  by_cases q3 : t = 3
  · subst q3
    exact x_tabI (pc := 32) (off := 165) (tgt := 197) d_L_law_32 (by decide) (by decide) (by decide +kernel) rfl (lw_3 hX hi3 hst cont)
  by_cases q4 : t = 4
  · subst q4
    exact x_tabI (pc := 32) (off := 178) (tgt := 210) d_L_law_32 (by decide) (by decide) (by decide +kernel) rfl (lw_4 hX hi3 hst cont)
  by_cases q5 : t = 5
  · subst q5
    exact x_tabI (pc := 32) (off := 211) (tgt := 243) d_L_law_32 (by decide) (by decide) (by decide +kernel) rfl (lw_5 hX hi3 hst cont)
  by_cases q6 : t = 6
  · subst q6
    exact x_tabI (pc := 32) (off := 222) (tgt := 254) d_L_law_32 (by decide) (by decide) (by decide +kernel) rfl (lw_6 hX hi3 hst cont)
  by_cases q7 : t = 7
  · subst q7
    exact x_tabI (pc := 32) (off := 245) (tgt := 277) d_L_law_32 (by decide) (by decide) (by decide +kernel) rfl (lw_7 hX hi3 hst cont)
  by_cases q8 : t = 8
  · subst q8
    exact x_tabI (pc := 32) (off := 258) (tgt := 290) d_L_law_32 (by decide) (by decide) (by decide +kernel) rfl (lw_8 hX hi3 hst cont)
  by_cases q9 : t = 9
  · subst q9
    exact x_tabI (pc := 32) (off := 271) (tgt := 303) d_L_law_32 (by decide) (by decide) (by decide +kernel) rfl (lw_9 hX hi3 hst cont)
  by_cases q10 : t = 10
  · subst q10
    exact x_tabI (pc := 32) (off := 304) (tgt := 336) d_L_law_32 (by decide) (by decide) (by decide +kernel) rfl (lw_10 hX hi3 hst cont)
  by_cases q11 : t = 11
  · subst q11
    exact x_tabI (pc := 32) (off := 317) (tgt := 349) d_L_law_32 (by decide) (by decide) (by decide +kernel) rfl (lw_11 hX hi3 hst cont)
  by_cases q12 : t = 12
  · subst q12
    exact x_tabI (pc := 32) (off := 340) (tgt := 372) d_L_law_32 (by decide) (by decide) (by decide +kernel) rfl (lw_12 hX hi3 hst cont)
  by_cases q13 : t = 13
  · subst q13
    exact x_tabI (pc := 32) (off := 363) (tgt := 395) d_L_law_32 (by decide) (by decide) (by decide +kernel) rfl (lw_13 hX hi3 hst cont)
  by_cases q14 : t = 14
  · subst q14
    exact x_tabI (pc := 32) (off := 386) (tgt := 418) d_L_law_32 (by decide) (by decide) (by decide +kernel) rfl (lw_14 hX hi3 hst cont)
  by_cases q15 : t = 15
  · subst q15
    exact x_tabI (pc := 32) (off := 409) (tgt := 441) d_L_law_32 (by decide) (by decide) (by decide +kernel) rfl (lw_15 hX hi3 hst cont)
  by_cases q16 : t = 16
  · subst q16
    exact x_tabI (pc := 32) (off := 442) (tgt := 474) d_L_law_32 (by decide) (by decide) (by decide +kernel) rfl (lw_16 hX hi3 hst cont)
  by_cases q17 : t = 17
  · subst q17
    exact x_tabI (pc := 32) (off := 475) (tgt := 507) d_L_law_32 (by decide) (by decide) (by decide +kernel) rfl (lw_17 hX hi3 hst cont)
  exact x_tabO (pc := 32) (tgt := 520) d_L_law_32 (Or.inr (by rw [nI_toInt (by omega)]; omega)) rfl (cont _ hst)
set_option maxHeartbeats 4000000 in
set_option maxRecDepth 100000 in
theorem lw_loop (hX : scr E A b L xs) : ∀ (f i : Nat) (w : va_W), L - i < f → i ≤ L → lst ad ad2 cI cL w → xj E l room_1 code 4 ret "ClosureFlowsLaw" (gG D cI cL) A 34 1651 (fun v _ => v = some (.int (nI 1))) 34 1651 w 18 [(3, .int (nI i)), (0, .ref b), (1, .ref (ad 0)), (2, .ref (ad2 0))] [] := by
  intro f
  induction f with
  | zero => exact fun i w hf => absurd hf (Nat.not_lt_zero _)
  | succ f ih =>
    intro i w hf hi hst
    have hL := hX.2.2.2
    refine x_iload_n (pc := 18) d_L_law_18 0 rfl ?_
    refine x_aload_n (pc := 19) d_L_law_19 1 rfl ?_
    refine x_slen (pc := 20) hX d_L_law_20 ?_
    refine x_iconst (pc := 21) (nI 3) d_L_law_21 (by decide) ?_
    refine x_isub (pc := 22) d_L_law_22 ?_
    refine x_icmp_gt (pc := 23) (tgt := 526) d_L_law_23 rfl (fun _ => ?_) (fun h23 => ?_)
    · refine x_iconst (pc := 526) (nI 1) d_L_law_526 (by decide) ?_
      exact x_zret (pc := 527) d_L_law_527 rfl rfl rfl
    · have hi3 := law_lt hL hi h23
      refine x_aload_n (pc := 26) d_L_law_26 1 rfl ?_
      refine x_iload_n (pc := 27) d_L_law_27 0 rfl ?_
      refine x_sld (pc := 28) hX d_L_law_28 (by omega) ?_
      refine x_bipush (pc := 29) (nI 31) d_L_law_29 (by decide) ?_
      refine x_iand (pc := 31) d_L_law_31 ?_
      obtain ⟨t, ht, hte, -⟩ := nI_and (xs i) 31 (by decide)
      refine x_ti (pc := 32) hte ?_
      refine lw_sw hX ht hi3 hst (fun w2 h2 => ?_)
      refine x_iinc (pc := 520) d_L_law_520 0 rfl (nI (i + 3)) (by rw [show Int32.ofInt 3 = nI 3 by decide]; exact nI_add i 3) (by decide) _ rfl ?_
      refine x_goto (pc := 523) (tgt := 18) d_L_law_523 rfl ?_
      exact ih (i + 3) w2 (by omega) (by omega) h2
set_option maxHeartbeats 4000000 in
set_option maxRecDepth 100000 in
theorem lw_entry (hX : scr E A b L xs) : xj E l room_1 code 4 ret "ClosureFlowsLaw" (gG D cI cL) A 34 1651 (fun v _ => v = some (.int (nI 1))) 0 0 [] 0 [(0, .ref b)] [] := by
  refine x_new (pc := 0) (ci := 3) (fs := [.null, .null, .null]) d_L_law_0 in_C t_C ty_C k_L_7 inst_C ini_C rfl (by decide +kernel) (Nat.le_of_ble_eq_true rfl) (Nat.le_of_ble_eq_true rfl) (fun q => ?_)
  refine x_w (w2 := [(q, .inr (3, [.null, .null, .null]))]) rfl ?_
  refine x_dup (pc := 3) d_L_law_3 rfl ?_
  refine x_callI (pc := 4) (As := []) (rest := [.ref q]) d_L_law_4 k_L_9 wi_C_init rfl w_C_init ini_C wd_C_init ⟨by decide, by decide⟩ ⟨(Nat.le_of_ble_eq_true rfl), (Nat.le_of_ble_eq_true rfl)⟩ t_C_init rfl rfl (Nat.le_of_ble_eq_true rfl) (fun v4 w4 hp4 => ?_)
  obtain ⟨rfl, ad, rfl, rfl⟩ := hp4
  refine x_astore_n (pc := 7) d_L_law_7 (i := 1) rfl (by decide) [(1, .ref (ad 0)), (0, .ref b)] rfl ?_
  refine x_new (pc := 8) (ci := 4) (fs := [.int 0, .null, .null, .null, .null, .int 0, .int 0, .int 0, .int 0, .int 0, .null, .null, .null, .null, .null, .int 0, .int 0, .null, .null, .long 0, .null, .int 0, .int 0, .null, .null]) d_L_law_8 in_R t_R ty_R k_L_10 inst_R ini_R rfl (by decide +kernel) (Nat.le_of_ble_eq_true rfl) (Nat.le_of_ble_eq_true rfl) (fun q2 => ?_)
  refine x_dup (pc := 11) d_L_law_11 rfl ?_
  refine x_callI (pc := 12) (As := []) (rest := [.ref q2]) d_L_law_12 k_L_12 wi_R_init rfl w_R_init ini_R wd_R_init ⟨by decide, by decide⟩ ⟨(Nat.le_of_ble_eq_true rfl), (Nat.le_of_ble_eq_true rfl)⟩ (CT.right t_R_init) rfl rfl (Nat.le_of_ble_eq_true rfl) (fun v12 w12 hp12 => ?_)
  obtain ⟨w12q, ⟨rfl, ad2, rfl, rfl⟩, rfl⟩ := hp12
  refine x_astore_n (pc := 15) d_L_law_15 (i := 2) rfl (by decide) [(2, .ref (ad2 0)), (1, .ref (ad 0)), (0, .ref b)] rfl ?_
  refine x_iconst (pc := 16) (nI 0) d_L_law_16 (by decide) ?_
  refine x_istore_n (pc := 17) d_L_law_17 (i := 3) rfl (by decide) [(3, .int (nI 0)), (2, .ref (ad2 0)), (1, .ref (ad 0)), (0, .ref b)] rfl ?_
  refine x_sub [0, 3, 2, 1] [(3, .int (nI 0)), (0, .ref b), (1, .ref (ad 0)), (2, .ref (ad2 0))] rfl ?_
  exact lw_loop hX (L + 1) 0 _ (by omega) (Nat.zero_le _) lst_0
end LAWL
