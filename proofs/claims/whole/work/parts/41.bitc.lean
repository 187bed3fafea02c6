section BITC
variable {l : Launch} {D : va_G} {ad : Nat → Nat} {cI cL : ClassId}
set_option maxHeartbeats 4000000 in
set_option maxRecDepth 100000 in
theorem t_JL_bitCount {w : va_W} {x : Int64} : CT l y_JL_bitCount c_JL_bitCount 2 (some .int) (rmm 0 0) (gG D cI cL) [.long x] w (pI (nI (popL x)) w) := by
  refine CT.of R_JL (by decide) rfl (Nat.le_of_ble_eq_true rfl) ?_
  intro E A hname
  refine x_lload_n (pc := 0) d_JL_bitCount_0 0 rfl ?_
  refine x_lload_n (pc := 1) d_JL_bitCount_1 0 rfl ?_
  refine x_iconst (pc := 2) (nI 1) d_JL_bitCount_2 (by decide) ?_
  refine x_lushr (pc := 3) d_JL_bitCount_3 ?_
  refine x_ldc2 (pc := 4) d_JL_bitCount_4 k_JL_314 ?_
  refine x_land (pc := 7) d_JL_bitCount_7 ?_
  refine x_lsub (pc := 8) d_JL_bitCount_8 ?_
  refine x_tl (y := bc1 x) rfl ?_
  refine x_lstore_n (pc := 9) d_JL_bitCount_9 rfl (by decide) [(0, _)] rfl ?_
  refine x_lload_n (pc := 10) d_JL_bitCount_10 0 rfl ?_
  refine x_ldc2 (pc := 11) d_JL_bitCount_11 k_JL_316 ?_
  refine x_land (pc := 14) d_JL_bitCount_14 ?_
  refine x_lload_n (pc := 15) d_JL_bitCount_15 0 rfl ?_
  refine x_iconst (pc := 16) (nI 2) d_JL_bitCount_16 (by decide) ?_
  refine x_lushr (pc := 17) d_JL_bitCount_17 ?_
  refine x_ldc2 (pc := 18) d_JL_bitCount_18 k_JL_316 ?_
  refine x_land (pc := 21) d_JL_bitCount_21 ?_
  refine x_ladd (pc := 22) d_JL_bitCount_22 ?_
  refine x_tl (y := bc2 (bc1 x)) rfl ?_
  refine x_lstore_n (pc := 23) d_JL_bitCount_23 rfl (by decide) [(0, _)] rfl ?_
  refine x_lload_n (pc := 24) d_JL_bitCount_24 0 rfl ?_
  refine x_lload_n (pc := 25) d_JL_bitCount_25 0 rfl ?_
  refine x_iconst (pc := 26) (nI 4) d_JL_bitCount_26 (by decide) ?_
  refine x_lushr (pc := 27) d_JL_bitCount_27 ?_
  refine x_ladd (pc := 28) d_JL_bitCount_28 ?_
  refine x_ldc2 (pc := 29) d_JL_bitCount_29 k_JL_318 ?_
  refine x_land (pc := 32) d_JL_bitCount_32 ?_
  refine x_tl (y := bc3 (bc2 (bc1 x))) rfl ?_
  refine x_lstore_n (pc := 33) d_JL_bitCount_33 rfl (by decide) [(0, _)] rfl ?_
  refine x_lload_n (pc := 34) d_JL_bitCount_34 0 rfl ?_
  refine x_lload_n (pc := 35) d_JL_bitCount_35 0 rfl ?_
  refine x_bipush (pc := 36) (nI 8) d_JL_bitCount_36 (by decide) ?_
  refine x_lushr (pc := 38) d_JL_bitCount_38 ?_
  refine x_ladd (pc := 39) d_JL_bitCount_39 ?_
  refine x_tl (y := bc4 (bc3 (bc2 (bc1 x))) 8) rfl ?_
  refine x_lstore_n (pc := 40) d_JL_bitCount_40 rfl (by decide) [(0, _)] rfl ?_
  refine x_lload_n (pc := 41) d_JL_bitCount_41 0 rfl ?_
  refine x_lload_n (pc := 42) d_JL_bitCount_42 0 rfl ?_
  refine x_bipush (pc := 43) (nI 16) d_JL_bitCount_43 (by decide) ?_
  refine x_lushr (pc := 45) d_JL_bitCount_45 ?_
  refine x_ladd (pc := 46) d_JL_bitCount_46 ?_
  refine x_tl (y := bc4 (bc4 (bc3 (bc2 (bc1 x))) 8) 16) rfl ?_
  refine x_lstore_n (pc := 47) d_JL_bitCount_47 rfl (by decide) [(0, _)] rfl ?_
  refine x_lload_n (pc := 48) d_JL_bitCount_48 0 rfl ?_
  refine x_lload_n (pc := 49) d_JL_bitCount_49 0 rfl ?_
  refine x_bipush (pc := 50) (nI 32) d_JL_bitCount_50 (by decide) ?_
  refine x_lushr (pc := 52) d_JL_bitCount_52 ?_
  refine x_ladd (pc := 53) d_JL_bitCount_53 ?_
  refine x_tl (y := bc4 (bc4 (bc4 (bc3 (bc2 (bc1 x))) 8) 16) 32) rfl ?_
  refine x_lstore_n (pc := 54) d_JL_bitCount_54 rfl (by decide) [(0, _)] rfl ?_
  refine x_lload_n (pc := 55) d_JL_bitCount_55 0 rfl ?_
  refine x_l2i (pc := 56) d_JL_bitCount_56 ?_
  refine x_bipush (pc := 57) (nI 127) d_JL_bitCount_57 (by decide) ?_
  refine x_iand (pc := 59) d_JL_bitCount_59 ?_
  refine x_iret (pc := 60) d_JL_bitCount_60 rfl ?_
  exact ⟨congrArg (fun z => some (Value.int z)) (bitc (x := x) rfl rfl rfl rfl rfl rfl), rfl⟩
end BITC
