section PROG
variable {l : Launch} {D : va_G} {ad : Nat → Nat} {cI cL : ClassId}
set_option maxHeartbeats 4000000 in
set_option maxRecDepth 100000 in
theorem t_C_isNumber {w : va_W} {x : Int32} : CT l y_C_isNumber c_C_isNumber 1 (some .boolean) (rmm 0 0) (gG D cI cL) [.int x] w (pI (bI (decide (nI 0 ≤ x ∧ x < nI 10))) w) := by
  refine CT.of R_C (by decide) rfl (Nat.le_of_ble_eq_true rfl) ?_
  intro E A hname
  refine x_iload_n (pc := 0) d_C_isNumber_0 0 rfl ?_
  refine x_if_lt (pc := 1) (tgt := 14) d_C_isNumber_1 rfl ?_ ?_
  · intro h1
    refine x_iconst (pc := 14) (nI 0) d_C_isNumber_14 (by decide) ?_
    refine x_zret (pc := 15) d_C_isNumber_15 rfl (by first | rfl | exact bI_narrow _) ?_
    rw [nI_0]
    first | exact zt (by simp_all [← Int32.not_lt]) | exact zf (by simp_all [← Int32.not_lt])
  · intro h1
    refine x_iload_n (pc := 4) d_C_isNumber_4 0 rfl ?_
    refine x_bipush (pc := 5) (nI 10) d_C_isNumber_5 (by decide) ?_
    first | refine x_icmp_geN (pc := 7) (tgt := 14) d_C_isNumber_7 rfl (by omega) (by omega) ?_ ?_ | refine x_icmp_ge (pc := 7) (tgt := 14) d_C_isNumber_7 rfl ?_ ?_
    · intro h7
      refine x_iconst (pc := 14) (nI 0) d_C_isNumber_14 (by decide) ?_
      refine x_zret (pc := 15) d_C_isNumber_15 rfl (by first | rfl | exact bI_narrow _) ?_
      rw [nI_0]
      first | exact zt (by simp_all [← Int32.not_lt]) | exact zf (by simp_all [← Int32.not_lt])
    · intro h7
      refine x_iconst (pc := 10) (nI 1) d_C_isNumber_10 (by decide) ?_
      refine x_goto (pc := 11) (tgt := 15) d_C_isNumber_11 rfl ?_
      refine x_zret (pc := 15) d_C_isNumber_15 rfl (by first | rfl | exact bI_narrow _) ?_
      rw [nI_0]
      first | exact zt (by simp_all [← Int32.not_lt]) | exact zf (by simp_all [← Int32.not_lt])
set_option maxHeartbeats 4000000 in
set_option maxRecDepth 100000 in
theorem t_C_isPrimitive {w : va_W} {x : Int32} : CT l y_C_isPrimitive c_C_isPrimitive 1 (some .boolean) (rmm 0 0) (gG D cI cL) [.int x] w (pI (bI (decide (nI 300 ≤ x ∧ x ≤ nI 302))) w) := by
  refine CT.of R_C (by decide) rfl (Nat.le_of_ble_eq_true rfl) ?_
  intro E A hname
  refine x_iload_n (pc := 0) d_C_isPrimitive_0 0 rfl ?_
  refine x_sipush (pc := 1) (nI 300) d_C_isPrimitive_1 (by decide) ?_
  first | refine x_icmp_ltN (pc := 4) (tgt := 18) d_C_isPrimitive_4 rfl (by omega) (by omega) ?_ ?_ | refine x_icmp_lt (pc := 4) (tgt := 18) d_C_isPrimitive_4 rfl ?_ ?_
  · intro h4
    refine x_iconst (pc := 18) (nI 0) d_C_isPrimitive_18 (by decide) ?_
    refine x_zret (pc := 19) d_C_isPrimitive_19 rfl (by first | rfl | exact bI_narrow _) ?_
    first | exact zt (by simp_all [← Int32.not_lt]) | exact zf (by simp_all [← Int32.not_lt])
  · intro h4
    refine x_iload_n (pc := 7) d_C_isPrimitive_7 0 rfl ?_
    refine x_sipush (pc := 8) (nI 302) d_C_isPrimitive_8 (by decide) ?_
    first | refine x_icmp_gtN (pc := 11) (tgt := 18) d_C_isPrimitive_11 rfl (by omega) (by omega) ?_ ?_ | refine x_icmp_gt (pc := 11) (tgt := 18) d_C_isPrimitive_11 rfl ?_ ?_
    · intro h11
      refine x_iconst (pc := 18) (nI 0) d_C_isPrimitive_18 (by decide) ?_
      refine x_zret (pc := 19) d_C_isPrimitive_19 rfl (by first | rfl | exact bI_narrow _) ?_
      first | exact zt (by simp_all [← Int32.not_lt]) | exact zf (by simp_all [← Int32.not_lt])
    · intro h11
      refine x_iconst (pc := 14) (nI 1) d_C_isPrimitive_14 (by decide) ?_
      refine x_goto (pc := 15) (tgt := 19) d_C_isPrimitive_15 rfl ?_
      refine x_zret (pc := 19) d_C_isPrimitive_19 rfl (by first | rfl | exact bI_narrow _) ?_
      first | exact zt (by simp_all [← Int32.not_lt]) | exact zf (by simp_all [← Int32.not_lt])
set_option maxHeartbeats 4000000 in
set_option maxRecDepth 100000 in
theorem t_C_isParameter {w : va_W} {x : Int32} : CT l y_C_isParameter c_C_isParameter 1 (some .boolean) (rmm 0 0) (gG D cI cL) [.int x] w (pI (bI (decide (nI 100 ≤ x ∧ x < nI 180))) w) := by
  refine CT.of R_C (by decide) rfl (Nat.le_of_ble_eq_true rfl) ?_
  intro E A hname
  refine x_iload_n (pc := 0) d_C_isParameter_0 0 rfl ?_
  refine x_bipush (pc := 1) (nI 100) d_C_isParameter_1 (by decide) ?_
  first | refine x_icmp_ltN (pc := 3) (tgt := 17) d_C_isParameter_3 rfl (by omega) (by omega) ?_ ?_ | refine x_icmp_lt (pc := 3) (tgt := 17) d_C_isParameter_3 rfl ?_ ?_
  · intro h3
    refine x_iconst (pc := 17) (nI 0) d_C_isParameter_17 (by decide) ?_
    refine x_zret (pc := 18) d_C_isParameter_18 rfl (by first | rfl | exact bI_narrow _) ?_
    first | exact zt (by simp_all [← Int32.not_lt]) | exact zf (by simp_all [← Int32.not_lt])
  · intro h3
    refine x_iload_n (pc := 6) d_C_isParameter_6 0 rfl ?_
    refine x_sipush (pc := 7) (nI 180) d_C_isParameter_7 (by decide) ?_
    first | refine x_icmp_geN (pc := 10) (tgt := 17) d_C_isParameter_10 rfl (by omega) (by omega) ?_ ?_ | refine x_icmp_ge (pc := 10) (tgt := 17) d_C_isParameter_10 rfl ?_ ?_
    · intro h10
      refine x_iconst (pc := 17) (nI 0) d_C_isParameter_17 (by decide) ?_
      refine x_zret (pc := 18) d_C_isParameter_18 rfl (by first | rfl | exact bI_narrow _) ?_
      first | exact zt (by simp_all [← Int32.not_lt]) | exact zf (by simp_all [← Int32.not_lt])
    · intro h10
      refine x_iconst (pc := 13) (nI 1) d_C_isParameter_13 (by decide) ?_
      refine x_goto (pc := 14) (tgt := 18) d_C_isParameter_14 rfl ?_
      refine x_zret (pc := 18) d_C_isParameter_18 rfl (by first | rfl | exact bI_narrow _) ?_
      first | exact zt (by simp_all [← Int32.not_lt]) | exact zf (by simp_all [← Int32.not_lt])
set_option maxHeartbeats 4000000 in
set_option maxRecDepth 100000 in
theorem t_C_isLambda {w : va_W} {x : Int32} : CT l y_C_isLambda c_C_isLambda 1 (some .boolean) (rmm 0 0) (gG D cI cL) [.int x] w (pI (bI (decide (nI 200 ≤ x ∧ x < nI 208))) w) := by
  refine CT.of R_C (by decide) rfl (Nat.le_of_ble_eq_true rfl) ?_
  intro E A hname
  refine x_iload_n (pc := 0) d_C_isLambda_0 0 rfl ?_
  refine x_sipush (pc := 1) (nI 200) d_C_isLambda_1 (by decide) ?_
  first | refine x_icmp_ltN (pc := 4) (tgt := 18) d_C_isLambda_4 rfl (by omega) (by omega) ?_ ?_ | refine x_icmp_lt (pc := 4) (tgt := 18) d_C_isLambda_4 rfl ?_ ?_
  · intro h4
    refine x_iconst (pc := 18) (nI 0) d_C_isLambda_18 (by decide) ?_
    refine x_zret (pc := 19) d_C_isLambda_19 rfl (by first | rfl | exact bI_narrow _) ?_
    first | exact zt (by simp_all [← Int32.not_lt]) | exact zf (by simp_all [← Int32.not_lt])
  · intro h4
    refine x_iload_n (pc := 7) d_C_isLambda_7 0 rfl ?_
    refine x_sipush (pc := 8) (nI 208) d_C_isLambda_8 (by decide) ?_
    first | refine x_icmp_geN (pc := 11) (tgt := 18) d_C_isLambda_11 rfl (by omega) (by omega) ?_ ?_ | refine x_icmp_ge (pc := 11) (tgt := 18) d_C_isLambda_11 rfl ?_ ?_
    · intro h11
      refine x_iconst (pc := 18) (nI 0) d_C_isLambda_18 (by decide) ?_
      refine x_zret (pc := 19) d_C_isLambda_19 rfl (by first | rfl | exact bI_narrow _) ?_
      first | exact zt (by simp_all [← Int32.not_lt]) | exact zf (by simp_all [← Int32.not_lt])
    · intro h11
      refine x_iconst (pc := 14) (nI 1) d_C_isLambda_14 (by decide) ?_
      refine x_goto (pc := 15) (tgt := 19) d_C_isLambda_15 rfl ?_
      refine x_zret (pc := 19) d_C_isLambda_19 rfl (by first | rfl | exact bI_narrow _) ?_
      first | exact zt (by simp_all [← Int32.not_lt]) | exact zf (by simp_all [← Int32.not_lt])
set_option maxHeartbeats 4000000 in
set_option maxRecDepth 100000 in
theorem t_C_lambdaOfParameter {w : va_W} {x : Nat} (h0 : 100 ≤ x) (h1 : x < 2147483648) : CT l y_C_lambdaOfParameter c_C_lambdaOfParameter 1 (some .int) (rmm 0 0) (gG D cI cL) [.int (nI x)] w (pI (nI ((x - 100) / 10)) w) := by
  refine CT.of R_C (by decide) rfl (Nat.le_of_ble_eq_true rfl) ?_
  intro E A hname
  refine x_iload_n (pc := 0) d_C_lambdaOfParameter_0 0 rfl ?_
  refine x_bipush (pc := 1) (nI 100) d_C_lambdaOfParameter_1 (by decide) ?_
  first | refine x_isubN (pc := 3) d_C_lambdaOfParameter_3 (by omega) ?_ | refine x_isub (pc := 3) d_C_lambdaOfParameter_3 ?_
  refine x_bipush (pc := 4) (nI 10) d_C_lambdaOfParameter_4 (by decide) ?_
  first | refine x_idivN (pc := 6) d_C_lambdaOfParameter_6 (by omega) (by omega) (by omega) ?_ | refine x_idiv (pc := 6) d_C_lambdaOfParameter_6 (by decide) ?_
  refine x_iret (pc := 7) d_C_lambdaOfParameter_7 rfl ?_
  exact ⟨rfl, rfl⟩
set_option maxHeartbeats 4000000 in
set_option maxRecDepth 100000 in
theorem t_C_indexOfParameter {w : va_W} {x : Nat} (h0 : 100 ≤ x) (h1 : x < 2147483648) : CT l y_C_indexOfParameter c_C_indexOfParameter 1 (some .int) (rmm 0 0) (gG D cI cL) [.int (nI x)] w (pI (nI ((x - 100) % 10)) w) := by
  refine CT.of R_C (by decide) rfl (Nat.le_of_ble_eq_true rfl) ?_
  intro E A hname
  refine x_iload_n (pc := 0) d_C_indexOfParameter_0 0 rfl ?_
  refine x_bipush (pc := 1) (nI 100) d_C_indexOfParameter_1 (by decide) ?_
  first | refine x_isubN (pc := 3) d_C_indexOfParameter_3 (by omega) ?_ | refine x_isub (pc := 3) d_C_indexOfParameter_3 ?_
  refine x_bipush (pc := 4) (nI 10) d_C_indexOfParameter_4 (by decide) ?_
  first | refine x_iremN (pc := 6) d_C_indexOfParameter_6 (by omega) (by omega) (by omega) ?_ | refine x_irem (pc := 6) d_C_indexOfParameter_6 (by decide) ?_
  refine x_iret (pc := 7) d_C_indexOfParameter_7 rfl ?_
  exact ⟨rfl, rfl⟩
set_option maxHeartbeats 4000000 in
set_option maxRecDepth 100000 in
theorem t_C_told {w : va_W} {x : Int32} : CT l y_C_told c_C_told 1 (some .int) (rmm 0 0) (gG D cI cL) [.int x] w (pI (x - x / nI 1000 * nI 1000) w) := by
  refine CT.of R_C (by decide) rfl (Nat.le_of_ble_eq_true rfl) ?_
  intro E A hname
  refine x_iload_n (pc := 0) d_C_told_0 0 rfl ?_
  refine x_sipush (pc := 1) (nI 1000) d_C_told_1 (by decide) ?_
  first | refine x_iremN (pc := 4) d_C_told_4 (by omega) (by omega) (by omega) ?_ | refine x_irem (pc := 4) d_C_told_4 (by decide) ?_
  refine x_iret (pc := 5) d_C_told_5 rfl ?_
  exact ⟨rfl, rfl⟩
set_option maxHeartbeats 4000000 in
set_option maxRecDepth 100000 in
theorem t_C_has {w : va_W} {x : Int32} {j : Nat} (hj : j < 32) : CT l y_C_has c_C_has 2 (some .boolean) (rmm 0 0) (gG D cI cL) [.int x, .int (nI j)] w (pI (bI (bt x j)) w) := by
  refine CT.of R_C (by decide) rfl (Nat.le_of_ble_eq_true rfl) ?_
  intro E A hname
  refine x_iload_n (pc := 0) d_C_has_0 0 rfl ?_
  refine x_iload_n (pc := 1) d_C_has_1 1 rfl ?_
  refine x_iushr (pc := 2) d_C_has_2 ?_
  refine x_iconst (pc := 3) (nI 1) d_C_has_3 (by decide) ?_
  refine x_iand (pc := 4) d_C_has_4 ?_
  first | refine x_if_eqB (pc := 5) (tgt := 12) d_C_has_5 rfl ?_ ?_ | refine x_if_eqL (pc := 5) (tgt := 12) d_C_has_5 rfl ?_ ?_ | refine x_if_eqN (pc := 5) (tgt := 12) d_C_has_5 rfl (by omega) ?_ ?_ | refine x_if_eq (pc := 5) (tgt := 12) d_C_has_5 rfl ?_ ?_
  · intro h5
    refine x_iconst (pc := 12) (nI 0) d_C_has_12 (by decide) ?_
    refine x_zret (pc := 13) d_C_has_13 rfl (by first | rfl | exact bI_narrow _) ?_
    first | exact zt (Bool.of_not_eq_false (fun q => absurd ((b_has hj).mpr q) (by assumption))) | exact zf ((b_has hj).mp (by assumption))
  · intro h5
    refine x_iconst (pc := 8) (nI 1) d_C_has_8 (by decide) ?_
    refine x_goto (pc := 9) (tgt := 13) d_C_has_9 rfl ?_
    refine x_zret (pc := 13) d_C_has_13 rfl (by first | rfl | exact bI_narrow _) ?_
    first | exact zt (Bool.of_not_eq_false (fun q => absurd ((b_has hj).mpr q) (by assumption))) | exact zf ((b_has hj).mp (by assumption))
variable {par : Nat → Int32} {prm : Nat → Nat} {lin : Nat → Int32} {siz atm : Nat → Nat} {cnt : Nat} {own out bnd : Nat → Nat} {cal : Nat → Int32} {opr : Nat → Nat} {n ph oc : Nat} {P : Nat → Int32} {Q : Nat → Int64} {OC : Nat → Int32} {OP : Nat → Int64} {F : Nat → Int32} {S : Int64} {R : Int32} {vis nc : Nat} {gr md : Bool}
set_option maxHeartbeats 4000000 in
set_option maxRecDepth 100000 in
theorem t_P_size  : CT l y_P_size c_P_size 1 (some .int) (rmm 0 0) (gG D cI cL) [.ref (ad 1)] (wC ad cI cL par prm lin siz atm cnt own out bnd cal opr n ph oc P Q OC OP F S R vis nc gr md) (pI (nI cnt) (wC ad cI cL par prm lin siz atm cnt own out bnd cal opr n ph oc P Q OC OP F S R vis nc gr md)) := by
  refine CT.of R_P (by decide) rfl (Nat.le_of_ble_eq_true rfl) ?_
  intro E A hname
  refine x_aload_n (pc := 0) d_P_size_0 0 rfl ?_
  refine x_get (pc := 1) (ci := 2) d_P_size_1 in_P rfl 5 (by decide) k_P_27 1 rfl rfl ?_
  refine x_iret (pc := 4) d_P_size_4 rfl ?_
  exact ⟨rfl, rfl⟩
set_option maxHeartbeats 4000000 in
set_option maxRecDepth 100000 in
theorem t_P_hasLambda {x : Int32} : CT l y_P_hasLambda c_P_hasLambda 2 (some .boolean) (rmm 0 0) (gG D cI cL) [.ref (ad 1), .int x] (wC ad cI cL par prm lin siz atm cnt own out bnd cal opr n ph oc P Q OC OP F S R vis nc gr md) (pI (bI (hl cnt x)) (wC ad cI cL par prm lin siz atm cnt own out bnd cal opr n ph oc P Q OC OP F S R vis nc gr md)) := by
  refine CT.of R_P (by decide) rfl (Nat.le_of_ble_eq_true rfl) ?_
  intro E A hname
  refine x_iload_n (pc := 0) d_P_hasLambda_0 1 rfl ?_
  refine x_if_lt (pc := 1) (tgt := 16) d_P_hasLambda_1 rfl ?_ ?_
  · intro h1
    refine x_iconst (pc := 16) (nI 0) d_P_hasLambda_16 (by decide) ?_
    refine x_zret (pc := 17) d_P_hasLambda_17 rfl (by first | rfl | exact bI_narrow _) ?_
    unfold hl
    first | exact zt (by simp_all [← Int32.not_lt]) | exact zf (by simp_all [← Int32.not_lt])
  · intro h1
    refine x_iload_n (pc := 4) d_P_hasLambda_4 1 rfl ?_
    refine x_aload_n (pc := 5) d_P_hasLambda_5 0 rfl ?_
    refine x_get (pc := 6) (ci := 2) d_P_hasLambda_6 in_P rfl 5 (by decide) k_P_27 1 rfl rfl ?_
    first | refine x_icmp_geN (pc := 9) (tgt := 16) d_P_hasLambda_9 rfl (by omega) (by omega) ?_ ?_ | refine x_icmp_ge (pc := 9) (tgt := 16) d_P_hasLambda_9 rfl ?_ ?_
    · intro h9
      refine x_iconst (pc := 16) (nI 0) d_P_hasLambda_16 (by decide) ?_
      refine x_zret (pc := 17) d_P_hasLambda_17 rfl (by first | rfl | exact bI_narrow _) ?_
      unfold hl
      first | exact zt (by simp_all [← Int32.not_lt]) | exact zf (by simp_all [← Int32.not_lt])
    · intro h9
      refine x_iconst (pc := 12) (nI 1) d_P_hasLambda_12 (by decide) ?_
      refine x_goto (pc := 13) (tgt := 17) d_P_hasLambda_13 rfl ?_
      refine x_zret (pc := 17) d_P_hasLambda_17 rfl (by first | rfl | exact bI_narrow _) ?_
      unfold hl
      first | exact zt (by simp_all [← Int32.not_lt]) | exact zf (by simp_all [← Int32.not_lt])
set_option maxHeartbeats 4000000 in
set_option maxRecDepth 100000 in
theorem t_P_hasParameter {x i : Int32} (hc : cnt ≤ 8) : CT l y_P_hasParameter c_P_hasParameter 3 (some .boolean) (rmm 1 21) (gG D cI cL) [.ref (ad 1), .int x, .int i] (wC ad cI cL par prm lin siz atm cnt own out bnd cal opr n ph oc P Q OC OP F S R vis nc gr md) (pI (bI (hpr cnt prm x i)) (wC ad cI cL par prm lin siz atm cnt own out bnd cal opr n ph oc P Q OC OP F S R vis nc gr md)) := by
  refine CT.of R_P (by decide) rfl (Nat.le_of_ble_eq_true rfl) ?_
  intro E A hname
  refine x_aload_n (pc := 0) d_P_hasParameter_0 0 rfl ?_
  refine x_iload_n (pc := 1) d_P_hasParameter_1 1 rfl ?_
  refine x_callV_I (pc := 2) (ci := 2) d_P_hasParameter_2 k_P_31 wi_P_hasLambda wv_P_hasLambda w_P_hasLambda ini_P wd_P_hasLambda ⟨by decide, by decide⟩ ⟨rfl, rfl⟩ ⟨Nat.zero_le _, Nat.zero_le _⟩ 1 rfl rfl (t_P_hasLambda) rfl rfl (Nat.le_of_ble_eq_true rfl) ?_
  first | refine x_if_eqB (pc := 5) (tgt := 26) d_P_hasParameter_5 rfl ?_ ?_ | refine x_if_eqL (pc := 5) (tgt := 26) d_P_hasParameter_5 rfl ?_ ?_ | refine x_if_eqN (pc := 5) (tgt := 26) d_P_hasParameter_5 rfl (by omega) ?_ ?_ | refine x_if_eq (pc := 5) (tgt := 26) d_P_hasParameter_5 rfl ?_ ?_
  · intro h5
    refine x_iconst (pc := 26) (nI 0) d_P_hasParameter_26 (by decide) ?_
    refine x_zret (pc := 27) d_P_hasParameter_27 rfl (by first | rfl | exact bI_narrow _) ?_
    first | exact zf (by unfold hpr; rw [h5]; rfl) | (rw [hpr_nI hc hlx]; first | exact zt (by simp_all [← Int32.not_lt]) | exact zf (by simp_all [← Int32.not_lt]))
  · intro h5
    obtain ⟨lx, hlx, rfl⟩ := hl_of hc h5
    refine x_iload_n (pc := 8) d_P_hasParameter_8 2 rfl ?_
    refine x_if_lt (pc := 9) (tgt := 26) d_P_hasParameter_9 rfl ?_ ?_
    · intro h9
      refine x_iconst (pc := 26) (nI 0) d_P_hasParameter_26 (by decide) ?_
      refine x_zret (pc := 27) d_P_hasParameter_27 rfl (by first | rfl | exact bI_narrow _) ?_
      first | exact zf (by unfold hpr; rw [h5]; rfl) | (rw [hpr_nI hc hlx]; first | exact zt (by simp_all [← Int32.not_lt]) | exact zf (by simp_all [← Int32.not_lt]))
    · intro h9
      refine x_iload_n (pc := 12) d_P_hasParameter_12 2 rfl ?_
      refine x_aload_n (pc := 13) d_P_hasParameter_13 0 rfl ?_
      refine x_get (pc := 14) (ci := 2) d_P_hasParameter_14 in_P rfl 1 (by decide) k_P_15 1 rfl rfl ?_
      refine x_iload_n (pc := 17) d_P_hasParameter_17 1 rfl ?_
      refine x_ialdN (pc := 18) d_P_hasParameter_18 5 0 rfl rfl (by decide) (by omega) ?_
      first | refine x_icmp_geN (pc := 19) (tgt := 26) d_P_hasParameter_19 rfl (by omega) (by omega) ?_ ?_ | refine x_icmp_ge (pc := 19) (tgt := 26) d_P_hasParameter_19 rfl ?_ ?_
      · intro h19
        refine x_iconst (pc := 26) (nI 0) d_P_hasParameter_26 (by decide) ?_
        refine x_zret (pc := 27) d_P_hasParameter_27 rfl (by first | rfl | exact bI_narrow _) ?_
        first | exact zf (by unfold hpr; rw [h5]; rfl) | (rw [hpr_nI hc hlx]; first | exact zt (by simp_all [← Int32.not_lt]) | exact zf (by simp_all [← Int32.not_lt]))
      · intro h19
        refine x_iconst (pc := 22) (nI 1) d_P_hasParameter_22 (by decide) ?_
        refine x_goto (pc := 23) (tgt := 27) d_P_hasParameter_23 rfl ?_
        refine x_zret (pc := 27) d_P_hasParameter_27 rfl (by first | rfl | exact bI_narrow _) ?_
        first | exact zf (by unfold hpr; rw [h5]; rfl) | (rw [hpr_nI hc hlx]; first | exact zt (by simp_all [← Int32.not_lt]) | exact zf (by simp_all [← Int32.not_lt]))
set_option maxHeartbeats 4000000 in
set_option maxRecDepth 100000 in
theorem t_P_hasAtom {x i : Int32} (hc : cnt ≤ 8) : CT l y_P_hasAtom c_P_hasAtom 3 (some .boolean) (rmm 1 21) (gG D cI cL) [.ref (ad 1), .int x, .int i] (wC ad cI cL par prm lin siz atm cnt own out bnd cal opr n ph oc P Q OC OP F S R vis nc gr md) (pI (bI (hpr cnt siz x i)) (wC ad cI cL par prm lin siz atm cnt own out bnd cal opr n ph oc P Q OC OP F S R vis nc gr md)) := by
  refine CT.of R_P (by decide) rfl (Nat.le_of_ble_eq_true rfl) ?_
  intro E A hname
  refine x_aload_n (pc := 0) d_P_hasAtom_0 0 rfl ?_
  refine x_iload_n (pc := 1) d_P_hasAtom_1 1 rfl ?_
  refine x_callV_I (pc := 2) (ci := 2) d_P_hasAtom_2 k_P_31 wi_P_hasLambda wv_P_hasLambda w_P_hasLambda ini_P wd_P_hasLambda ⟨by decide, by decide⟩ ⟨rfl, rfl⟩ ⟨Nat.zero_le _, Nat.zero_le _⟩ 1 rfl rfl (t_P_hasLambda) rfl rfl (Nat.le_of_ble_eq_true rfl) ?_
  first | refine x_if_eqB (pc := 5) (tgt := 26) d_P_hasAtom_5 rfl ?_ ?_ | refine x_if_eqL (pc := 5) (tgt := 26) d_P_hasAtom_5 rfl ?_ ?_ | refine x_if_eqN (pc := 5) (tgt := 26) d_P_hasAtom_5 rfl (by omega) ?_ ?_ | refine x_if_eq (pc := 5) (tgt := 26) d_P_hasAtom_5 rfl ?_ ?_
  · intro h5
    refine x_iconst (pc := 26) (nI 0) d_P_hasAtom_26 (by decide) ?_
    refine x_zret (pc := 27) d_P_hasAtom_27 rfl (by first | rfl | exact bI_narrow _) ?_
    first | exact zf (by unfold hpr; rw [h5]; rfl) | (rw [hpr_nI hc hlx]; first | exact zt (by simp_all [← Int32.not_lt]) | exact zf (by simp_all [← Int32.not_lt]))
  · intro h5
    obtain ⟨lx, hlx, rfl⟩ := hl_of hc h5
    refine x_iload_n (pc := 8) d_P_hasAtom_8 2 rfl ?_
    refine x_if_lt (pc := 9) (tgt := 26) d_P_hasAtom_9 rfl ?_ ?_
    · intro h9
      refine x_iconst (pc := 26) (nI 0) d_P_hasAtom_26 (by decide) ?_
      refine x_zret (pc := 27) d_P_hasAtom_27 rfl (by first | rfl | exact bI_narrow _) ?_
      first | exact zf (by unfold hpr; rw [h5]; rfl) | (rw [hpr_nI hc hlx]; first | exact zt (by simp_all [← Int32.not_lt]) | exact zf (by simp_all [← Int32.not_lt]))
    · intro h9
      refine x_iload_n (pc := 12) d_P_hasAtom_12 2 rfl ?_
      refine x_aload_n (pc := 13) d_P_hasAtom_13 0 rfl ?_
      refine x_get (pc := 14) (ci := 2) d_P_hasAtom_14 in_P rfl 3 (by decide) k_P_21 1 rfl rfl ?_
      refine x_iload_n (pc := 17) d_P_hasAtom_17 1 rfl ?_
      refine x_ialdN (pc := 18) d_P_hasAtom_18 7 0 rfl rfl (by decide) (by omega) ?_
      first | refine x_icmp_geN (pc := 19) (tgt := 26) d_P_hasAtom_19 rfl (by omega) (by omega) ?_ ?_ | refine x_icmp_ge (pc := 19) (tgt := 26) d_P_hasAtom_19 rfl ?_ ?_
      · intro h19
        refine x_iconst (pc := 26) (nI 0) d_P_hasAtom_26 (by decide) ?_
        refine x_zret (pc := 27) d_P_hasAtom_27 rfl (by first | rfl | exact bI_narrow _) ?_
        first | exact zf (by unfold hpr; rw [h5]; rfl) | (rw [hpr_nI hc hlx]; first | exact zt (by simp_all [← Int32.not_lt]) | exact zf (by simp_all [← Int32.not_lt]))
      · intro h19
        refine x_iconst (pc := 22) (nI 1) d_P_hasAtom_22 (by decide) ?_
        refine x_goto (pc := 23) (tgt := 27) d_P_hasAtom_23 rfl ?_
        refine x_zret (pc := 27) d_P_hasAtom_27 rfl (by first | rfl | exact bI_narrow _) ?_
        first | exact zf (by unfold hpr; rw [h5]; rfl) | (rw [hpr_nI hc hlx]; first | exact zt (by simp_all [← Int32.not_lt]) | exact zf (by simp_all [← Int32.not_lt]))
set_option maxHeartbeats 4000000 in
set_option maxRecDepth 100000 in
theorem t_P_paramsOf {x : Nat} (hx : x < 8) : CT l y_P_paramsOf c_P_paramsOf 2 (some .int) (rmm 0 0) (gG D cI cL) [.ref (ad 1), .int (nI x)] (wC ad cI cL par prm lin siz atm cnt own out bnd cal opr n ph oc P Q OC OP F S R vis nc gr md) (pI (nI (prm x)) (wC ad cI cL par prm lin siz atm cnt own out bnd cal opr n ph oc P Q OC OP F S R vis nc gr md)) := by
  refine CT.of R_P (by decide) rfl (Nat.le_of_ble_eq_true rfl) ?_
  intro E A hname
  refine x_aload_n (pc := 0) d_P_paramsOf_0 0 rfl ?_
  refine x_get (pc := 1) (ci := 2) d_P_paramsOf_1 in_P rfl 1 (by decide) k_P_15 1 rfl rfl ?_
  refine x_iload_n (pc := 4) d_P_paramsOf_4 1 rfl ?_
  refine x_ialdN (pc := 5) d_P_paramsOf_5 5 0 rfl rfl (by decide) (by omega) ?_
  refine x_iret (pc := 6) d_P_paramsOf_6 rfl ?_
  exact ⟨rfl, rfl⟩
set_option maxHeartbeats 4000000 in
set_option maxRecDepth 100000 in
theorem t_P_callLength {x : Nat} (hx : x < 8) : CT l y_P_callLength c_P_callLength 2 (some .int) (rmm 0 0) (gG D cI cL) [.ref (ad 1), .int (nI x)] (wC ad cI cL par prm lin siz atm cnt own out bnd cal opr n ph oc P Q OC OP F S R vis nc gr md) (pI (nI (siz x)) (wC ad cI cL par prm lin siz atm cnt own out bnd cal opr n ph oc P Q OC OP F S R vis nc gr md)) := by
  refine CT.of R_P (by decide) rfl (Nat.le_of_ble_eq_true rfl) ?_
  intro E A hname
  refine x_aload_n (pc := 0) d_P_callLength_0 0 rfl ?_
  refine x_get (pc := 1) (ci := 2) d_P_callLength_1 in_P rfl 3 (by decide) k_P_21 1 rfl rfl ?_
  refine x_iload_n (pc := 4) d_P_callLength_4 1 rfl ?_
  refine x_ialdN (pc := 5) d_P_callLength_5 7 0 rfl rfl (by decide) (by omega) ?_
  refine x_iret (pc := 6) d_P_callLength_6 rfl ?_
  exact ⟨rfl, rfl⟩
set_option maxHeartbeats 4000000 in
set_option maxRecDepth 100000 in
theorem t_P_lineageOf {x : Nat} (hx : x < 8) : CT l y_P_lineageOf c_P_lineageOf 2 (some .int) (rmm 0 0) (gG D cI cL) [.ref (ad 1), .int (nI x)] (wC ad cI cL par prm lin siz atm cnt own out bnd cal opr n ph oc P Q OC OP F S R vis nc gr md) (pI (lin x) (wC ad cI cL par prm lin siz atm cnt own out bnd cal opr n ph oc P Q OC OP F S R vis nc gr md)) := by
  refine CT.of R_P (by decide) rfl (Nat.le_of_ble_eq_true rfl) ?_
  intro E A hname
  refine x_aload_n (pc := 0) d_P_lineageOf_0 0 rfl ?_
  refine x_get (pc := 1) (ci := 2) d_P_lineageOf_1 in_P rfl 2 (by decide) k_P_18 1 rfl rfl ?_
  refine x_iload_n (pc := 4) d_P_lineageOf_4 1 rfl ?_
  refine x_ialdN (pc := 5) d_P_lineageOf_5 6 0 rfl rfl (by decide) (by omega) ?_
  refine x_iret (pc := 6) d_P_lineageOf_6 rfl ?_
  exact ⟨rfl, rfl⟩
set_option maxHeartbeats 4000000 in
set_option maxRecDepth 100000 in
theorem t_P_atomOf {x i : Nat} (hx : x < 8) (hi : i < 4) : CT l y_P_atomOf c_P_atomOf 3 (some .int) (rmm 0 0) (gG D cI cL) [.ref (ad 1), .int (nI x), .int (nI i)] (wC ad cI cL par prm lin siz atm cnt own out bnd cal opr n ph oc P Q OC OP F S R vis nc gr md) (pI (nI (atm (4 * x + i))) (wC ad cI cL par prm lin siz atm cnt own out bnd cal opr n ph oc P Q OC OP F S R vis nc gr md)) := by
  refine CT.of R_P (by decide) rfl (Nat.le_of_ble_eq_true rfl) ?_
  intro E A hname
  refine x_aload_n (pc := 0) d_P_atomOf_0 0 rfl ?_
  refine x_get (pc := 1) (ci := 2) d_P_atomOf_1 in_P rfl 4 (by decide) k_P_24 1 rfl rfl ?_
  refine x_iload_n (pc := 4) d_P_atomOf_4 1 rfl ?_
  refine x_iconst (pc := 5) (nI 4) d_P_atomOf_5 (by decide) ?_
  first | refine x_imulN (pc := 6) d_P_atomOf_6 ?_ | refine x_imul (pc := 6) d_P_atomOf_6 ?_
  refine x_iload_n (pc := 7) d_P_atomOf_7 2 rfl ?_
  first | refine x_iaddN (pc := 8) d_P_atomOf_8 ?_ | refine x_iadd (pc := 8) d_P_atomOf_8 ?_
  refine x_ialdN (pc := 9) d_P_atomOf_9 8 0 rfl rfl (by decide) (by omega) ?_
  refine x_iret (pc := 10) d_P_atomOf_10 rfl ?_
  exact ⟨by rw [Nat.mul_comm 4 x], rfl⟩
set_option maxHeartbeats 4000000 in
set_option maxRecDepth 100000 in
theorem t_P_empty  : CT l y_P_empty c_P_empty 1 none (rmm 0 0) (gG D cI cL) [.ref (ad 1)] (wC ad cI cL par prm lin siz atm cnt own out bnd cal opr n ph oc P Q OC OP F S R vis nc gr md) (pV (wC ad cI cL par prm lin (un siz 0 0) atm 1 own out bnd cal opr n ph oc P Q OC OP F S R vis nc gr md)) := by
  refine CT.of R_P (by decide) rfl (Nat.le_of_ble_eq_true rfl) ?_
  intro E A hname
  refine x_aload_n (pc := 0) d_P_empty_0 0 rfl ?_
  refine x_get (pc := 1) (ci := 2) d_P_empty_1 in_P rfl 3 (by decide) k_P_21 1 rfl rfl ?_
  refine x_iconst (pc := 4) (nI 0) d_P_empty_4 (by decide) ?_
  refine x_iconst (pc := 5) (nI 0) d_P_empty_5 (by decide) ?_
  first | refine x_iastU (pc := 6) d_P_empty_6 7 0 rfl rfl (by decide) (by omega) ?_ | refine x_iastN (pc := 6) d_P_empty_6 7 0 rfl rfl (by decide) (by omega) _ rfl ?_
  refine x_aload_n (pc := 7) d_P_empty_7 0 rfl ?_
  refine x_iconst (pc := 8) (nI 1) d_P_empty_8 (by decide) ?_
  refine x_put (pc := 9) (ci := 2) (ty := .int) d_P_empty_9 in_P t_P ty_P nm_P rfl 5 (by decide) k_P_27 rfl (by decide +kernel) rfl rfl 1 rfl (Nat.le_of_ble_eq_true rfl) (_) (rfl) ?_
  refine x_vret (pc := 12) d_P_empty_12 rfl ?_
  exact ⟨rfl, rfl⟩
set_option maxHeartbeats 4000000 in
set_option maxRecDepth 100000 in
theorem t_P_makeLambda {x y : Int32} (hc : cnt ≤ 8) : CT l y_P_makeLambda c_P_makeLambda 4 (some .int) (rmm 1 21) (gG D cI cL) [.ref (ad 1), .int x, .int y] (wC ad cI cL par prm lin siz atm cnt own out bnd cal opr n ph oc P Q OC OP F S R vis nc gr md) (fun v w2 => (∃ p k, lamok cnt x y p k ∧ v = some (.int (nI cnt)) ∧ w2 = (wC ad cI cL (upd par cnt (nI p)) (un prm cnt k) (upd lin cnt (lin p ||| 1 <<< (nI cnt &&& 31))) (un siz cnt 0) atm (cnt + 1) own out bnd cal opr n ph oc P Q OC OP F S R vis nc gr md)) ∨ ((¬ ∃ p k, lamok cnt x y p k) ∧ v = some (.int (-1)) ∧ w2 = (wC ad cI cL par prm lin siz atm cnt own out bnd cal opr n ph oc P Q OC OP F S R vis nc gr md))) := by
  refine CT.of R_P (by decide) rfl (Nat.le_of_ble_eq_true rfl) ?_
  intro E A hname
  refine x_aload_n (pc := 0) d_P_makeLambda_0 0 rfl ?_
  refine x_iload_n (pc := 1) d_P_makeLambda_1 1 rfl ?_
  refine x_callV_I (pc := 2) (ci := 2) d_P_makeLambda_2 k_P_31 wi_P_hasLambda wv_P_hasLambda w_P_hasLambda ini_P wd_P_hasLambda ⟨by decide, by decide⟩ ⟨rfl, rfl⟩ ⟨Nat.zero_le _, Nat.zero_le _⟩ 1 rfl rfl (t_P_hasLambda) rfl rfl (Nat.le_of_ble_eq_true rfl) ?_
  first | refine x_if_eqB (pc := 5) (tgt := 26) d_P_makeLambda_5 rfl ?_ ?_ | refine x_if_eqL (pc := 5) (tgt := 26) d_P_makeLambda_5 rfl ?_ ?_ | refine x_if_eqN (pc := 5) (tgt := 26) d_P_makeLambda_5 rfl (by omega) ?_ ?_ | refine x_if_eq (pc := 5) (tgt := 26) d_P_makeLambda_5 rfl ?_ ?_
  · intro h5
    refine x_iconst (pc := 26) (-1) d_P_makeLambda_26 (by decide) ?_
    refine x_iret (pc := 27) d_P_makeLambda_27 rfl ?_
    refine Or.inr ⟨fun q => ?_, rfl, rfl⟩
    obtain ⟨p2, k2, q1, q2, q3, q4, q5⟩ := q
    first
      | (subst q4; rw [hl_in hc q2] at h5; cases h5)
      | (subst q5; exact absurd h9 (nI_pos (by omega)))
      | (subst q5; exact absurd h14 (nI_nlt (by omega) (by omega)))
      | omega
  · intro h5
    obtain ⟨p, hp, rfl⟩ := hl_of hc h5
    refine x_iload_n (pc := 8) d_P_makeLambda_8 2 rfl ?_
    refine x_if_lt (pc := 9) (tgt := 26) d_P_makeLambda_9 rfl ?_ ?_
    · intro h9
      refine x_iconst (pc := 26) (-1) d_P_makeLambda_26 (by decide) ?_
      refine x_iret (pc := 27) d_P_makeLambda_27 rfl ?_
      refine Or.inr ⟨fun q => ?_, rfl, rfl⟩
      obtain ⟨p2, k2, q1, q2, q3, q4, q5⟩ := q
      first
        | (subst q4; rw [hl_in hc q2] at h5; cases h5)
        | (subst q5; exact absurd h9 (nI_pos (by omega)))
        | (subst q5; exact absurd h14 (nI_nlt (by omega) (by omega)))
        | omega
    · intro h9
      refine x_iload_n (pc := 12) d_P_makeLambda_12 2 rfl ?_
      refine x_iconst (pc := 13) (nI 3) d_P_makeLambda_13 (by decide) ?_
      first | refine x_icmp_gtN (pc := 14) (tgt := 26) d_P_makeLambda_14 rfl (by omega) (by omega) ?_ ?_ | refine x_icmp_gt (pc := 14) (tgt := 26) d_P_makeLambda_14 rfl ?_ ?_
      · intro h14
        refine x_iconst (pc := 26) (-1) d_P_makeLambda_26 (by decide) ?_
        refine x_iret (pc := 27) d_P_makeLambda_27 rfl ?_
        refine Or.inr ⟨fun q => ?_, rfl, rfl⟩
        obtain ⟨p2, k2, q1, q2, q3, q4, q5⟩ := q
        first
          | (subst q4; rw [hl_in hc q2] at h5; cases h5)
          | (subst q5; exact absurd h9 (nI_pos (by omega)))
          | (subst q5; exact absurd h14 (nI_nlt (by omega) (by omega)))
          | omega
      · intro h14
        obtain ⟨k, hk, rfl⟩ := k3_of h9 h14
        refine x_aload_n (pc := 17) d_P_makeLambda_17 0 rfl ?_
        refine x_get (pc := 18) (ci := 2) d_P_makeLambda_18 in_P rfl 5 (by decide) k_P_27 1 rfl rfl ?_
        refine x_bipush (pc := 21) (nI 8) d_P_makeLambda_21 (by decide) ?_
        first | refine x_icmp_neN (pc := 23) (tgt := 28) d_P_makeLambda_23 rfl (by omega) (by omega) ?_ ?_ | refine x_icmp_ne (pc := 23) (tgt := 28) d_P_makeLambda_23 rfl ?_ ?_
        · intro h23
          refine x_aload_n (pc := 28) d_P_makeLambda_28 0 rfl ?_
          refine x_get (pc := 29) (ci := 2) d_P_makeLambda_29 in_P rfl 5 (by decide) k_P_27 1 rfl rfl ?_
          refine x_istore_n (pc := 32) d_P_makeLambda_32 rfl (by decide) [(3, _), (0, _), (1, _), (2, _)] rfl ?_
          refine x_aload_n (pc := 33) d_P_makeLambda_33 1 rfl ?_
          refine x_get (pc := 34) (ci := 2) d_P_makeLambda_34 in_P rfl 0 (by decide) k_P_9 1 rfl rfl ?_
          refine x_iload_n (pc := 37) d_P_makeLambda_37 0 rfl ?_
          refine x_iload_n (pc := 38) d_P_makeLambda_38 2 rfl ?_
          first | refine x_iastU (pc := 39) d_P_makeLambda_39 4 0 rfl rfl (by decide) (by omega) ?_ | refine x_iastN (pc := 39) d_P_makeLambda_39 4 0 rfl rfl (by decide) (by omega) _ rfl ?_
          refine x_aload_n (pc := 40) d_P_makeLambda_40 1 rfl ?_
          refine x_get (pc := 41) (ci := 2) d_P_makeLambda_41 in_P rfl 1 (by decide) k_P_15 1 rfl rfl ?_
          refine x_iload_n (pc := 44) d_P_makeLambda_44 0 rfl ?_
          refine x_iload_n (pc := 45) d_P_makeLambda_45 3 rfl ?_
          first | refine x_iastU (pc := 46) d_P_makeLambda_46 5 0 rfl rfl (by decide) (by omega) ?_ | refine x_iastN (pc := 46) d_P_makeLambda_46 5 0 rfl rfl (by decide) (by omega) _ rfl ?_
          refine x_aload_n (pc := 47) d_P_makeLambda_47 1 rfl ?_
          refine x_get (pc := 48) (ci := 2) d_P_makeLambda_48 in_P rfl 2 (by decide) k_P_18 1 rfl rfl ?_
          refine x_iload_n (pc := 51) d_P_makeLambda_51 0 rfl ?_
          refine x_aload_n (pc := 52) d_P_makeLambda_52 1 rfl ?_
          refine x_get (pc := 53) (ci := 2) d_P_makeLambda_53 in_P rfl 2 (by decide) k_P_18 1 rfl rfl ?_
          refine x_iload_n (pc := 56) d_P_makeLambda_56 2 rfl ?_
          refine x_ialdN (pc := 57) d_P_makeLambda_57 6 0 rfl rfl (by decide) (by omega) ?_
          refine x_iconst (pc := 58) (nI 1) d_P_makeLambda_58 (by decide) ?_
          refine x_iload_n (pc := 59) d_P_makeLambda_59 0 rfl ?_
          refine x_ishl (pc := 60) d_P_makeLambda_60 ?_
          refine x_ior (pc := 61) d_P_makeLambda_61 ?_
          first | refine x_iastU (pc := 62) d_P_makeLambda_62 6 0 rfl rfl (by decide) (by omega) ?_ | refine x_iastN (pc := 62) d_P_makeLambda_62 6 0 rfl rfl (by decide) (by omega) _ rfl ?_
          refine x_aload_n (pc := 63) d_P_makeLambda_63 1 rfl ?_
          refine x_get (pc := 64) (ci := 2) d_P_makeLambda_64 in_P rfl 3 (by decide) k_P_21 1 rfl rfl ?_
          refine x_iload_n (pc := 67) d_P_makeLambda_67 0 rfl ?_
          refine x_iconst (pc := 68) (nI 0) d_P_makeLambda_68 (by decide) ?_
          first | refine x_iastU (pc := 69) d_P_makeLambda_69 7 0 rfl rfl (by decide) (by omega) ?_ | refine x_iastN (pc := 69) d_P_makeLambda_69 7 0 rfl rfl (by decide) (by omega) _ rfl ?_
          refine x_aload_n (pc := 70) d_P_makeLambda_70 1 rfl ?_
          refine x_dup (pc := 71) d_P_makeLambda_71 rfl ?_
          refine x_get (pc := 72) (ci := 2) d_P_makeLambda_72 in_P rfl 5 (by decide) k_P_27 1 rfl rfl ?_
          refine x_iconst (pc := 75) (nI 1) d_P_makeLambda_75 (by decide) ?_
          first | refine x_iaddN (pc := 76) d_P_makeLambda_76 ?_ | refine x_iadd (pc := 76) d_P_makeLambda_76 ?_
          refine x_put (pc := 77) (ci := 2) (ty := .int) d_P_makeLambda_77 in_P t_P ty_P nm_P rfl 5 (by decide) k_P_27 rfl (by decide +kernel) rfl rfl 1 rfl (Nat.le_of_ble_eq_true rfl) (_) (rfl) ?_
          refine x_iload_n (pc := 80) d_P_makeLambda_80 0 rfl ?_
          refine x_iret (pc := 81) d_P_makeLambda_81 rfl ?_
          exact Or.inl ⟨p, k, ⟨by omega, hp, hk, rfl, rfl⟩, rfl, rfl⟩
        · intro h23
          refine x_iconst (pc := 26) (-1) d_P_makeLambda_26 (by decide) ?_
          refine x_iret (pc := 27) d_P_makeLambda_27 rfl ?_
          refine Or.inr ⟨fun q => ?_, rfl, rfl⟩
          obtain ⟨p2, k2, q1, q2, q3, q4, q5⟩ := q
          first
            | (subst q4; rw [hl_in hc q2] at h5; cases h5)
            | (subst q5; exact absurd h9 (nI_pos (by omega)))
            | (subst q5; exact absurd h14 (nI_nlt (by omega) (by omega)))
            | omega
set_option maxHeartbeats 4000000 in
set_option maxRecDepth 100000 in
theorem t_P_mayStand {lx : Nat} {x : Int32} (hw : pwf cnt par prm siz atm) (hli : linok cnt par lin) (hlx : lx < cnt) : CT l y_P_mayStand c_P_mayStand 4 (some .boolean) (rmm 2 43) (gG D cI cL) [.ref (ad 1), .int (nI lx), .int x] (wC ad cI cL par prm lin siz atm cnt own out bnd cal opr n ph oc P Q OC OP F S R vis nc gr md) (pI (bI (mst cnt par prm lx x)) (wC ad cI cL par prm lin siz atm cnt own out bnd cal opr n ph oc P Q OC OP F S R vis nc gr md)) := by
  refine CT.of R_P (by decide) rfl (Nat.le_of_ble_eq_true rfl) ?_
  intro E A hname
  have hc8 : cnt ≤ 8 := hw.2.1
  have hp0 : par 0 = -1 := hw.2.2.1.1
  have hp4 : ∀ l, l < 8 → prm l ≤ 4 := fun l h => Nat.le_trans (hw.2.2.2.1 l h) (by omega)
  refine x_iload_n (pc := 0) d_P_mayStand_0 2 rfl ?_
  refine x_callSN_I (pc := 1) d_P_mayStand_1 k_P_39 ws_C_isParameter w_C_isParameter ini_C wd_C_isParameter ⟨by decide, by decide⟩ ⟨rfl, rfl⟩ ⟨Nat.zero_le _, Nat.zero_le _⟩ (t_C_isParameter) rfl rfl (Nat.le_of_ble_eq_true rfl) ?_
  first | refine x_if_eqB (pc := 4) (tgt := 43) d_P_mayStand_4 rfl ?_ ?_ | refine x_if_eqL (pc := 4) (tgt := 43) d_P_mayStand_4 rfl ?_ ?_ | refine x_if_eqN (pc := 4) (tgt := 43) d_P_mayStand_4 rfl (by omega) ?_ ?_ | refine x_if_eq (pc := 4) (tgt := 43) d_P_mayStand_4 rfl ?_ ?_
  · intro h4
    refine x_iload_n (pc := 43) d_P_mayStand_43 2 rfl ?_
    refine x_callSN_I (pc := 44) d_P_mayStand_44 k_P_55 ws_C_isLambda w_C_isLambda ini_C wd_C_isLambda ⟨by decide, by decide⟩ ⟨rfl, rfl⟩ ⟨Nat.zero_le _, Nat.zero_le _⟩ (t_C_isLambda) rfl rfl (Nat.le_of_ble_eq_true rfl) ?_
    first | refine x_if_eqB (pc := 47) (tgt := 80) d_P_mayStand_47 rfl ?_ ?_ | refine x_if_eqL (pc := 47) (tgt := 80) d_P_mayStand_47 rfl ?_ ?_ | refine x_if_eqN (pc := 47) (tgt := 80) d_P_mayStand_47 rfl (by omega) ?_ ?_ | refine x_if_eq (pc := 47) (tgt := 80) d_P_mayStand_47 rfl ?_ ?_
    · intro h47
      refine x_iload_n (pc := 80) d_P_mayStand_80 2 rfl ?_
      refine x_callSN_I (pc := 81) d_P_mayStand_81 k_P_58 ws_C_isNumber w_C_isNumber ini_C wd_C_isNumber ⟨by decide, by decide⟩ ⟨rfl, rfl⟩ ⟨Nat.zero_le _, Nat.zero_le _⟩ (t_C_isNumber) rfl rfl (Nat.le_of_ble_eq_true rfl) ?_
      first | refine x_if_neB (pc := 84) (tgt := 94) d_P_mayStand_84 rfl ?_ ?_ | refine x_if_neL (pc := 84) (tgt := 94) d_P_mayStand_84 rfl ?_ ?_ | refine x_if_neN (pc := 84) (tgt := 94) d_P_mayStand_84 rfl (by omega) ?_ ?_ | refine x_if_ne (pc := 84) (tgt := 94) d_P_mayStand_84 rfl ?_ ?_
      · intro h84
        refine x_iconst (pc := 94) (nI 1) d_P_mayStand_94 (by decide) ?_
        refine x_goto (pc := 95) (tgt := 99) d_P_mayStand_95 rfl ?_
        refine x_zret (pc := 99) d_P_mayStand_99 rfl (by first | rfl | exact bI_narrow _) ?_
        first
          | exact zt (mst_t ((mso_oth h4 h47).mpr (Or.inl h84)))
          | exact zt (mst_t ((mso_oth h4 h47).mpr (Or.inr h91)))
          | exact zf (mst_f (fun z => by
              have q := (mso_oth h4 h47).mp z
              rw [h84, h91] at q
              rcases q with q | q <;> cases q))
      · intro h84
        refine x_iload_n (pc := 87) d_P_mayStand_87 2 rfl ?_
        refine x_callSN_I (pc := 88) d_P_mayStand_88 k_P_61 ws_C_isPrimitive w_C_isPrimitive ini_C wd_C_isPrimitive ⟨by decide, by decide⟩ ⟨rfl, rfl⟩ ⟨Nat.zero_le _, Nat.zero_le _⟩ (t_C_isPrimitive) rfl rfl (Nat.le_of_ble_eq_true rfl) ?_
        first | refine x_if_eqB (pc := 91) (tgt := 98) d_P_mayStand_91 rfl ?_ ?_ | refine x_if_eqL (pc := 91) (tgt := 98) d_P_mayStand_91 rfl ?_ ?_ | refine x_if_eqN (pc := 91) (tgt := 98) d_P_mayStand_91 rfl (by omega) ?_ ?_ | refine x_if_eq (pc := 91) (tgt := 98) d_P_mayStand_91 rfl ?_ ?_
        · intro h91
          refine x_iconst (pc := 98) (nI 0) d_P_mayStand_98 (by decide) ?_
          refine x_zret (pc := 99) d_P_mayStand_99 rfl (by first | rfl | exact bI_narrow _) ?_
          first
            | exact zt (mst_t ((mso_oth h4 h47).mpr (Or.inl h84)))
            | exact zt (mst_t ((mso_oth h4 h47).mpr (Or.inr h91)))
            | exact zf (mst_f (fun z => by
                have q := (mso_oth h4 h47).mp z
                rw [h84, h91] at q
                rcases q with q | q <;> cases q))
        · intro h91
          refine x_iconst (pc := 94) (nI 1) d_P_mayStand_94 (by decide) ?_
          refine x_goto (pc := 95) (tgt := 99) d_P_mayStand_95 rfl ?_
          refine x_zret (pc := 99) d_P_mayStand_99 rfl (by first | rfl | exact bI_narrow _) ?_
          first
            | exact zt (mst_t ((mso_oth h4 h47).mpr (Or.inl h84)))
            | exact zt (mst_t ((mso_oth h4 h47).mpr (Or.inr h91)))
            | exact zf (mst_f (fun z => by
                have q := (mso_oth h4 h47).mp z
                rw [h84, h91] at q
                rcases q with q | q <;> cases q))
    · intro h47
      obtain ⟨b, hb1, hb2, rfl⟩ := lo_of (by decide) h47 (by decide)
      refine x_iload_n (pc := 50) d_P_mayStand_50 2 rfl ?_
      refine x_sipush (pc := 51) (nI 200) d_P_mayStand_51 (by decide) ?_
      first | refine x_isubN (pc := 54) d_P_mayStand_54 (by omega) ?_ | refine x_isub (pc := 54) d_P_mayStand_54 ?_
      refine x_istore_n (pc := 55) d_P_mayStand_55 rfl (by decide) [(3, _), (0, _), (1, _), (2, _)] rfl ?_
      refine x_aload_n (pc := 56) d_P_mayStand_56 1 rfl ?_
      refine x_iload_n (pc := 57) d_P_mayStand_57 0 rfl ?_
      refine x_callV_I (pc := 58) (ci := 2) d_P_mayStand_58 k_P_31 wi_P_hasLambda wv_P_hasLambda w_P_hasLambda ini_P wd_P_hasLambda ⟨by decide, by decide⟩ ⟨rfl, rfl⟩ ⟨Nat.zero_le _, Nat.zero_le _⟩ 1 rfl rfl (t_P_hasLambda) rfl rfl (Nat.le_of_ble_eq_true rfl) ?_
      rw [hl_nI hc8 (by omega)]
      first | refine x_if_eqB (pc := 61) (tgt := 78) d_P_mayStand_61 rfl ?_ ?_ | refine x_if_eqL (pc := 61) (tgt := 78) d_P_mayStand_61 rfl ?_ ?_ | refine x_if_eqN (pc := 61) (tgt := 78) d_P_mayStand_61 rfl (by omega) ?_ ?_ | refine x_if_eq (pc := 61) (tgt := 78) d_P_mayStand_61 rfl ?_ ?_
      · intro h61
        have g61 := of_decide_eq_false h61
        refine x_iconst (pc := 78) (nI 0) d_P_mayStand_78 (by decide) ?_
        refine x_zret (pc := 79) d_P_mayStand_79 rfl (by first | rfl | exact bI_narrow _) ?_
        first
          | exact zt (mst_t ((mso_lam hp0 (by omega) hb1 hb2).mpr ⟨g61, h71⟩))
          | exact zf (mst_f (fun z => g61 ((mso_lam hp0 (by omega) hb1 hb2).mp z).1))
          | exact zf (mst_f (fun z => h71 ((mso_lam hp0 (by omega) hb1 hb2).mp z).2))
      · intro h61
        have g61 := of_decide_eq_true h61
        refine x_aload_n (pc := 64) d_P_mayStand_64 1 rfl ?_
        refine x_get (pc := 65) (ci := 2) d_P_mayStand_65 in_P rfl 0 (by decide) k_P_9 1 rfl rfl ?_
        refine x_iload_n (pc := 68) d_P_mayStand_68 0 rfl ?_
        refine x_ialdN (pc := 69) d_P_mayStand_69 4 0 rfl rfl (by decide) (by omega) ?_
        refine x_iload_n (pc := 70) d_P_mayStand_70 2 rfl ?_
        first | refine x_icmp_neN (pc := 71) (tgt := 78) d_P_mayStand_71 rfl (by omega) (by omega) ?_ ?_ | refine x_icmp_ne (pc := 71) (tgt := 78) d_P_mayStand_71 rfl ?_ ?_
        · intro h71
          refine x_iconst (pc := 78) (nI 0) d_P_mayStand_78 (by decide) ?_
          refine x_zret (pc := 79) d_P_mayStand_79 rfl (by first | rfl | exact bI_narrow _) ?_
          first
            | exact zt (mst_t ((mso_lam hp0 (by omega) hb1 hb2).mpr ⟨g61, h71⟩))
            | exact zf (mst_f (fun z => g61 ((mso_lam hp0 (by omega) hb1 hb2).mp z).1))
            | exact zf (mst_f (fun z => h71 ((mso_lam hp0 (by omega) hb1 hb2).mp z).2))
        · intro h71
          refine x_iconst (pc := 74) (nI 1) d_P_mayStand_74 (by decide) ?_
          refine x_goto (pc := 75) (tgt := 79) d_P_mayStand_75 rfl ?_
          refine x_zret (pc := 79) d_P_mayStand_79 rfl (by first | rfl | exact bI_narrow _) ?_
          first
            | exact zt (mst_t ((mso_lam hp0 (by omega) hb1 hb2).mpr ⟨g61, h71⟩))
            | exact zf (mst_f (fun z => g61 ((mso_lam hp0 (by omega) hb1 hb2).mp z).1))
            | exact zf (mst_f (fun z => h71 ((mso_lam hp0 (by omega) hb1 hb2).mp z).2))
  · intro h4
    obtain ⟨b, hb1, hb2, rfl⟩ := lo_of (by decide) h4 (by decide)
    refine x_iload_n (pc := 7) d_P_mayStand_7 2 rfl ?_
    refine x_callSN_I (pc := 8) d_P_mayStand_8 k_P_42 ws_C_lambdaOfParameter w_C_lambdaOfParameter ini_C wd_C_lambdaOfParameter ⟨by decide, by decide⟩ ⟨rfl, rfl⟩ ⟨Nat.zero_le _, Nat.zero_le _⟩ (t_C_lambdaOfParameter hb1 (by omega)) rfl rfl (Nat.le_of_ble_eq_true rfl) ?_
    refine x_istore_n (pc := 11) d_P_mayStand_11 rfl (by decide) [(3, _), (0, _), (1, _), (2, _)] rfl ?_
    refine x_aload_n (pc := 12) d_P_mayStand_12 1 rfl ?_
    refine x_iload_n (pc := 13) d_P_mayStand_13 0 rfl ?_
    refine x_iload_n (pc := 14) d_P_mayStand_14 3 rfl ?_
    refine x_callSN_I (pc := 15) d_P_mayStand_15 k_P_46 ws_C_indexOfParameter w_C_indexOfParameter ini_C wd_C_indexOfParameter ⟨by decide, by decide⟩ ⟨rfl, rfl⟩ ⟨Nat.zero_le _, Nat.zero_le _⟩ (t_C_indexOfParameter hb1 (by omega)) rfl rfl (Nat.le_of_ble_eq_true rfl) ?_
    refine x_callV_I (pc := 18) (ci := 2) d_P_mayStand_18 k_P_49 wi_P_hasParameter wv_P_hasParameter w_P_hasParameter ini_P wd_P_hasParameter ⟨by decide, by decide⟩ ⟨rfl, rfl⟩ ⟨Nat.zero_le _, Nat.zero_le _⟩ 1 rfl rfl (t_P_hasParameter hc8) rfl rfl (Nat.le_of_ble_eq_true rfl) ?_
    rw [hpr_nn hc8 hp4 (by omega) (by omega)]
    first | refine x_if_eqB (pc := 21) (tgt := 41) d_P_mayStand_21 rfl ?_ ?_ | refine x_if_eqL (pc := 21) (tgt := 41) d_P_mayStand_21 rfl ?_ ?_ | refine x_if_eqN (pc := 21) (tgt := 41) d_P_mayStand_21 rfl (by omega) ?_ ?_ | refine x_if_eq (pc := 21) (tgt := 41) d_P_mayStand_21 rfl ?_ ?_
    · intro h21
      have g21 := of_decide_eq_false h21
      refine x_iconst (pc := 41) (nI 0) d_P_mayStand_41 (by decide) ?_
      refine x_zret (pc := 42) d_P_mayStand_42 rfl (by first | rfl | exact bI_narrow _) ?_
      first
        | exact zt (mst_t ((mso_par hb1 hb2).mpr ⟨g21.1, g21.2, (hli lx _ hlx (by omega)).mp h34⟩))
        | exact zf (mst_f (fun z => g21 ⟨((mso_par hb1 hb2).mp z).1, ((mso_par hb1 hb2).mp z).2.1⟩))
        | exact zf (mst_f (fun z => by
            have q := ((mso_par hb1 hb2).mp z).2.2
            rw [(hli lx _ hlx (by omega)).mpr q] at h34
            cases h34))
    · intro h21
      have g21 := of_decide_eq_true h21
      refine x_aload_n (pc := 24) d_P_mayStand_24 1 rfl ?_
      refine x_get (pc := 25) (ci := 2) d_P_mayStand_25 in_P rfl 2 (by decide) k_P_18 1 rfl rfl ?_
      refine x_iload_n (pc := 28) d_P_mayStand_28 2 rfl ?_
      refine x_ialdN (pc := 29) d_P_mayStand_29 6 0 rfl rfl (by decide) (by omega) ?_
      refine x_iload_n (pc := 30) d_P_mayStand_30 0 rfl ?_
      refine x_callSN_I (pc := 31) d_P_mayStand_31 k_P_52 ws_C_has w_C_has ini_C wd_C_has ⟨by decide, by decide⟩ ⟨rfl, rfl⟩ ⟨Nat.zero_le _, Nat.zero_le _⟩ (t_C_has (by omega)) rfl rfl (Nat.le_of_ble_eq_true rfl) ?_
      first | refine x_if_eqB (pc := 34) (tgt := 41) d_P_mayStand_34 rfl ?_ ?_ | refine x_if_eqL (pc := 34) (tgt := 41) d_P_mayStand_34 rfl ?_ ?_ | refine x_if_eqN (pc := 34) (tgt := 41) d_P_mayStand_34 rfl (by omega) ?_ ?_ | refine x_if_eq (pc := 34) (tgt := 41) d_P_mayStand_34 rfl ?_ ?_
      · intro h34
        refine x_iconst (pc := 41) (nI 0) d_P_mayStand_41 (by decide) ?_
        refine x_zret (pc := 42) d_P_mayStand_42 rfl (by first | rfl | exact bI_narrow _) ?_
        first
          | exact zt (mst_t ((mso_par hb1 hb2).mpr ⟨g21.1, g21.2, (hli lx _ hlx (by omega)).mp h34⟩))
          | exact zf (mst_f (fun z => g21 ⟨((mso_par hb1 hb2).mp z).1, ((mso_par hb1 hb2).mp z).2.1⟩))
          | exact zf (mst_f (fun z => by
              have q := ((mso_par hb1 hb2).mp z).2.2
              rw [(hli lx _ hlx (by omega)).mpr q] at h34
              cases h34))
      · intro h34
        refine x_iconst (pc := 37) (nI 1) d_P_mayStand_37 (by decide) ?_
        refine x_goto (pc := 38) (tgt := 42) d_P_mayStand_38 rfl ?_
        refine x_zret (pc := 42) d_P_mayStand_42 rfl (by first | rfl | exact bI_narrow _) ?_
        first
          | exact zt (mst_t ((mso_par hb1 hb2).mpr ⟨g21.1, g21.2, (hli lx _ hlx (by omega)).mp h34⟩))
          | exact zf (mst_f (fun z => g21 ⟨((mso_par hb1 hb2).mp z).1, ((mso_par hb1 hb2).mp z).2.1⟩))
          | exact zf (mst_f (fun z => by
              have q := ((mso_par hb1 hb2).mp z).2.2
              rw [(hli lx _ hlx (by omega)).mpr q] at h34
              cases h34))
set_option maxHeartbeats 4000000 in
set_option maxRecDepth 100000 in
theorem t_P_append {x y : Int32} (hw : pwf cnt par prm siz atm) (hli : linok cnt par lin) : CT l y_P_append c_P_append 3 (some .boolean) (rmm 3 66) (gG D cI cL) [.ref (ad 1), .int x, .int y] (wC ad cI cL par prm lin siz atm cnt own out bnd cal opr n ph oc P Q OC OP F S R vis nc gr md) (fun v w2 => (∃ lx b, putok cnt par prm siz x y lx b ∧ v = some (.int (bI true)) ∧ w2 = (wC ad cI cL par prm lin (un siz lx (siz lx + 1)) (un atm (4 * lx + siz lx) b) cnt own out bnd cal opr n ph oc P Q OC OP F S R vis nc gr md)) ∨ ((¬ ∃ lx b, putok cnt par prm siz x y lx b) ∧ v = some (.int (bI false)) ∧ w2 = (wC ad cI cL par prm lin siz atm cnt own out bnd cal opr n ph oc P Q OC OP F S R vis nc gr md))) := by
  refine CT.of R_P (by decide) rfl (Nat.le_of_ble_eq_true rfl) ?_
  intro E A hname
  have hc8 : cnt ≤ 8 := hw.2.1
  refine x_aload_n (pc := 0) d_P_append_0 0 rfl ?_
  refine x_iload_n (pc := 1) d_P_append_1 1 rfl ?_
  refine x_callV_I (pc := 2) (ci := 2) d_P_append_2 k_P_31 wi_P_hasLambda wv_P_hasLambda w_P_hasLambda ini_P wd_P_hasLambda ⟨by decide, by decide⟩ ⟨rfl, rfl⟩ ⟨Nat.zero_le _, Nat.zero_le _⟩ 1 rfl rfl (t_P_hasLambda) rfl rfl (Nat.le_of_ble_eq_true rfl) ?_
  first | refine x_if_eqB (pc := 5) (tgt := 27) d_P_append_5 rfl ?_ ?_ | refine x_if_eqL (pc := 5) (tgt := 27) d_P_append_5 rfl ?_ ?_ | refine x_if_eqN (pc := 5) (tgt := 27) d_P_append_5 rfl (by omega) ?_ ?_ | refine x_if_eq (pc := 5) (tgt := 27) d_P_append_5 rfl ?_ ?_
  · intro h5
    refine x_iconst (pc := 27) (nI 0) d_P_append_27 (by decide) ?_
    refine x_zret (pc := 28) d_P_append_28 rfl (by first | rfl | exact bI_narrow _) ?_
    refine Or.inr ⟨fun q => ?_, rfl, rfl⟩
    obtain ⟨l2, b2, q1, q2, q3, q4, q5, q6⟩ := q
    first
      | (subst q5; rw [hl_in hc8 q1] at h5; cases h5)
      | (have e := nI_inj (by omega) (by omega) q5; subst e; omega)
      | (have e := nI_inj (by omega) (by omega) q5; subst e; exact mst_no h24 ⟨b2, q3, q6, q4⟩)
  · intro h5
    obtain ⟨lx, hlx, rfl⟩ := hl_of hc8 h5
    have hz := hw.2.2.2.2.2.1 lx (by omega)
    refine x_aload_n (pc := 8) d_P_append_8 0 rfl ?_
    refine x_get (pc := 9) (ci := 2) d_P_append_9 in_P rfl 3 (by decide) k_P_21 1 rfl rfl ?_
    refine x_iload_n (pc := 12) d_P_append_12 1 rfl ?_
    refine x_ialdN (pc := 13) d_P_append_13 7 0 rfl rfl (by decide) (by omega) ?_
    refine x_iconst (pc := 14) (nI 4) d_P_append_14 (by decide) ?_
    first | refine x_icmp_eqN (pc := 15) (tgt := 27) d_P_append_15 rfl (by omega) (by omega) ?_ ?_ | refine x_icmp_eq (pc := 15) (tgt := 27) d_P_append_15 rfl ?_ ?_
    · intro h15
      refine x_iconst (pc := 27) (nI 0) d_P_append_27 (by decide) ?_
      refine x_zret (pc := 28) d_P_append_28 rfl (by first | rfl | exact bI_narrow _) ?_
      refine Or.inr ⟨fun q => ?_, rfl, rfl⟩
      obtain ⟨l2, b2, q1, q2, q3, q4, q5, q6⟩ := q
      first
        | (subst q5; rw [hl_in hc8 q1] at h5; cases h5)
        | (have e := nI_inj (by omega) (by omega) q5; subst e; omega)
        | (have e := nI_inj (by omega) (by omega) q5; subst e; exact mst_no h24 ⟨b2, q3, q6, q4⟩)
    · intro h15
      refine x_aload_n (pc := 18) d_P_append_18 0 rfl ?_
      refine x_iload_n (pc := 19) d_P_append_19 1 rfl ?_
      refine x_iload_n (pc := 20) d_P_append_20 2 rfl ?_
      refine x_callV_I (pc := 21) (ci := 2) d_P_append_21 k_P_35 wi_P_mayStand wv_P_mayStand w_P_mayStand ini_P wd_P_mayStand ⟨by decide, by decide⟩ ⟨rfl, rfl⟩ ⟨Nat.zero_le _, Nat.zero_le _⟩ 1 rfl rfl (t_P_mayStand hw hli hlx) rfl rfl (Nat.le_of_ble_eq_true rfl) ?_
      first | refine x_if_neB (pc := 24) (tgt := 29) d_P_append_24 rfl ?_ ?_ | refine x_if_neL (pc := 24) (tgt := 29) d_P_append_24 rfl ?_ ?_ | refine x_if_neN (pc := 24) (tgt := 29) d_P_append_24 rfl (by omega) ?_ ?_ | refine x_if_ne (pc := 24) (tgt := 29) d_P_append_24 rfl ?_ ?_
      · intro h24
        obtain ⟨b, hb, rfl, hok⟩ := mst_of h24
        refine x_aload_n (pc := 29) d_P_append_29 0 rfl ?_
        refine x_get (pc := 30) (ci := 2) d_P_append_30 in_P rfl 4 (by decide) k_P_24 1 rfl rfl ?_
        refine x_iload_n (pc := 33) d_P_append_33 1 rfl ?_
        refine x_iconst (pc := 34) (nI 4) d_P_append_34 (by decide) ?_
        first | refine x_imulN (pc := 35) d_P_append_35 ?_ | refine x_imul (pc := 35) d_P_append_35 ?_
        refine x_aload_n (pc := 36) d_P_append_36 0 rfl ?_
        refine x_get (pc := 37) (ci := 2) d_P_append_37 in_P rfl 3 (by decide) k_P_21 1 rfl rfl ?_
        refine x_iload_n (pc := 40) d_P_append_40 1 rfl ?_
        refine x_ialdN (pc := 41) d_P_append_41 7 0 rfl rfl (by decide) (by omega) ?_
        first | refine x_iaddN (pc := 42) d_P_append_42 ?_ | refine x_iadd (pc := 42) d_P_append_42 ?_
        refine x_iload_n (pc := 43) d_P_append_43 2 rfl ?_
        rw [Nat.mul_comm lx 4]
        first | refine x_iastU (pc := 44) d_P_append_44 8 0 rfl rfl (by decide) (by omega) ?_ | refine x_iastN (pc := 44) d_P_append_44 8 0 rfl rfl (by decide) (by omega) _ rfl ?_
        refine x_aload_n (pc := 45) d_P_append_45 0 rfl ?_
        refine x_get (pc := 46) (ci := 2) d_P_append_46 in_P rfl 3 (by decide) k_P_21 1 rfl rfl ?_
        refine x_iload_n (pc := 49) d_P_append_49 1 rfl ?_
        refine x_dup2 (pc := 50) d_P_append_50 rfl rfl ?_
        refine x_ialdN (pc := 51) d_P_append_51 7 0 rfl rfl (by decide) (by omega) ?_
        refine x_iconst (pc := 52) (nI 1) d_P_append_52 (by decide) ?_
        first | refine x_iaddN (pc := 53) d_P_append_53 ?_ | refine x_iadd (pc := 53) d_P_append_53 ?_
        first | refine x_iastU (pc := 54) d_P_append_54 7 0 rfl rfl (by decide) (by omega) ?_ | refine x_iastN (pc := 54) d_P_append_54 7 0 rfl rfl (by decide) (by omega) _ rfl ?_
        refine x_iconst (pc := 55) (nI 1) d_P_append_55 (by decide) ?_
        refine x_zret (pc := 56) d_P_append_56 rfl (by first | rfl | exact bI_narrow _) ?_
        exact Or.inl ⟨lx, b, ⟨hlx, by omega, hb, hok, rfl, rfl⟩, rfl, rfl⟩
      · intro h24
        refine x_iconst (pc := 27) (nI 0) d_P_append_27 (by decide) ?_
        refine x_zret (pc := 28) d_P_append_28 rfl (by first | rfl | exact bI_narrow _) ?_
        refine Or.inr ⟨fun q => ?_, rfl, rfl⟩
        obtain ⟨l2, b2, q1, q2, q3, q4, q5, q6⟩ := q
        first
          | (subst q5; rw [hl_in hc8 q1] at h5; cases h5)
          | (have e := nI_inj (by omega) (by omega) q5; subst e; omega)
          | (have e := nI_inj (by omega) (by omega) q5; subst e; exact mst_no h24 ⟨b2, q3, q6, q4⟩)
end PROG
