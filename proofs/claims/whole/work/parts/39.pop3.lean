theorem vb_s (X n : Nat) : vbytes X (n + 1) = popN (X % 256) 8 + 256 * vbytes (X / 256) n := rfl
theorem sb_s (X n : Nat) : sumB X (n + 1) = popN (X % 256) 8 + sumB (X / 256) n := rfl
theorem sb_0 (X : Nat) : sumB X 0 = 0 := rfl
theorem bitN (Y v a4 a5 a6 : Nat) (hv : v = vbytes Y 8) (h4 : a4 = v + v / 256) (h5 : a5 = a4 + a4 / 65536) (h6 : a6 = a5 + a5 / 4294967296) : a6 % 128 = popN Y 64 := by
  have hp : ∀ Z, popN Z 8 ≤ 8 := fun Z => popN_le Z 8
  have e0 := vb_s Y 7
  have e1 := vb_s (Y / 256) 6
  have e2 := vb_s (Y / 256 / 256) 5
  have e3 := vb_s (Y / 256 / 256 / 256) 4
  have e4 := vb_s (Y / 256 / 256 / 256 / 256) 3
  have e5 := vb_s (Y / 256 / 256 / 256 / 256 / 256) 2
  have e6 := vb_s (Y / 256 / 256 / 256 / 256 / 256 / 256) 1
  have e7 := vb_s (Y / 256 / 256 / 256 / 256 / 256 / 256 / 256) 0
  obtain ⟨f1, f2, f3⟩ := bytes_sum (hp _) (hp _) (hp _) (hp _) (hp _) (hp _) (hp _) (hp _) e0 e1 e2 e3 e4 e5 e6 e7
  have f4 := bytes_mod e0 e1 e2 e3 e4 e5 e6 e7
  have hs : popN Y 64 = sumB Y 8 := popN_sumB 8 Y
  have hl := popN_le Y 64
  rw [sb_s, sb_s, sb_s, sb_s, sb_s, sb_s, sb_s, sb_s, sb_0] at hs
  rw [h6, h5, h4, hv, f1, f2, f3, f4, ← hs]
  clear f1 f2 f3 f4 e0 e1 e2 e3 e4 e5 e6 e7 hs h6 h5 h4 hv hp
  generalize popN Y 64 = z at *
  rw [Nat.add_mul_mod_self_left, Nat.mod_eq_of_lt (by omega)]
theorem bnd4 {v a4 a5 a6 : Nat} (h : v ≤ 578721382704613384) (h4 : a4 = v + v / 256) (h5 : a5 = a4 + a4 / 65536) (h6 : a6 = a5 + a5 / 4294967296) : a4 ≤ 1200000000000000000 ∧ a5 ≤ 2400000000000000000 ∧ a6 ≤ 4800000000000000000 := by
  have g1 : v / 256 ≤ v := Nat.div_le_self _ _
  have g2 : a4 / 65536 ≤ a4 := Nat.div_le_self _ _
  have g3 : a5 / 4294967296 ≤ a5 := Nat.div_le_self _ _
  omega
theorem and127 {x : Int64} : (x.toInt32 &&& nI 127) = nI (x.toBitVec.toNat % 128) := by
  refine b_ext (fun i hi => ?_)
  have k : ∀ i, i < 32 → bt (nI 127) i = decide (i < 7) := by decide +kernel
  rw [b_and, k i hi, toI_bt x i hi]
  have hb : (x.toBitVec.toNat % 128) < 2 ^ 32 := by omega
  unfold bl bt
  show (x.toBitVec.toNat.testBit i && decide (i < 7)) = (BitVec.ofNat 32 (x.toBitVec.toNat % 128)).toNat.testBit i
  rw [BitVec.toNat_ofNat, Nat.mod_eq_of_lt hb, show (128 : Nat) = 2 ^ 7 from rfl, Nat.testBit_mod_two_pow]
  cases x.toBitVec.toNat.testBit i <;> cases decide (i < 7) <;> rfl
theorem bit1 {x : Int64} : (x - (usr x 1 &&& (6148914691236517205 : Int64))).toBitVec.toNat = q1 8 x.toBitVec.toNat := by
  have c5 : (6148914691236517205 : Int64).toBitVec.toNat = mk8 85 8 := by decide +kernel
  have e : (usr x 1 &&& (6148914691236517205 : Int64)).toBitVec.toNat = x.toBitVec.toNat / 2 &&& mk8 85 8 := by rw [and_nat, usr_nat (by omega), c5, Nat.pow_one]
  have l1 : x.toBitVec.toNat / 2 &&& mk8 85 8 ≤ x.toBitVec.toNat / 2 := Nat.and_le_left
  have l2 : x.toBitVec.toNat / 2 ≤ x.toBitVec.toNat := Nat.div_le_self _ _
  rw [sub_nat (by rw [e]; exact Nat.le_trans l1 l2), e]
  rfl
theorem bit2 {a : Int64} : ((a &&& (3689348814741910323 : Int64)) + (usr a 2 &&& (3689348814741910323 : Int64))).toBitVec.toNat = q2 8 a.toBitVec.toNat ∧ q2 8 a.toBitVec.toNat ≤ 7378697629483820646 := by
  have c3 : (3689348814741910323 : Int64).toBitVec.toNat = mk8 51 8 := by decide +kernel
  have k3 : mk8 51 8 = 3689348814741910323 := by decide +kernel
  have e1 : (a &&& (3689348814741910323 : Int64)).toBitVec.toNat = a.toBitVec.toNat &&& mk8 51 8 := by rw [and_nat, c3]
  have e2 : (usr a 2 &&& (3689348814741910323 : Int64)).toBitVec.toNat = a.toBitVec.toNat / 4 &&& mk8 51 8 := by rw [and_nat, usr_nat (by omega), c3]
  have l1 : a.toBitVec.toNat &&& mk8 51 8 ≤ mk8 51 8 := Nat.and_le_right
  have l2 : a.toBitVec.toNat / 4 &&& mk8 51 8 ≤ mk8 51 8 := Nat.and_le_right
  rw [k3] at l1 l2
  refine ⟨?_, ?_⟩
  · rw [add_nat (by rw [e1, e2, k3]; generalize a.toBitVec.toNat &&& 3689348814741910323 = u at *; generalize a.toBitVec.toNat / 4 &&& 3689348814741910323 = w at *; omega), e1, e2]
    rfl
  · unfold q2
    rw [k3]
    generalize a.toBitVec.toNat &&& 3689348814741910323 = u at *
    generalize a.toBitVec.toNat / 4 &&& 3689348814741910323 = w at *
    omega
theorem bit3 {a : Int64} (h : a.toBitVec.toNat ≤ 7378697629483820646) : ((a + usr a 4) &&& (1085102592571150095 : Int64)).toBitVec.toNat = q3 8 a.toBitVec.toNat := by
  have cF : (1085102592571150095 : Int64).toBitVec.toNat = mk8 15 8 := by decide +kernel
  have e1 : (usr a 4).toBitVec.toNat = a.toBitVec.toNat / 16 := by rw [usr_nat (by omega)]
  rw [and_nat, add_nat (by rw [e1]; generalize a.toBitVec.toNat = u at *; omega), e1, cF]
  rfl
theorem bitc {x a1 a2 a3 a4 a5 a6 : Int64} (h1 : a1 = x - (usr x 1 &&& (6148914691236517205 : Int64))) (h2 : a2 = (a1 &&& (3689348814741910323 : Int64)) + (usr a1 2 &&& (3689348814741910323 : Int64))) (h3 : a3 = (a2 + usr a2 4) &&& (1085102592571150095 : Int64)) (h4 : a4 = a3 + usr a3 8) (h5 : a5 = a4 + usr a4 16) (h6 : a6 = a5 + usr a5 32) : a6.toInt32 &&& nI 127 = nI (popL x) := by
  have n1 : a1.toBitVec.toNat = q1 8 x.toBitVec.toNat := by rw [h1]; exact bit1
  have n2 : a2.toBitVec.toNat = q2 8 a1.toBitVec.toNat := by rw [h2]; exact bit2.1
  have n2b : a2.toBitVec.toNat ≤ 7378697629483820646 := by rw [n2]; exact bit2.2
  have n3 : a3.toBitVec.toNat = vbytes x.toBitVec.toNat 8 := by rw [h3, bit3 n2b, n2, n1, q_bytes]
  have k1 : 8 * mk8 1 8 = 578721382704613384 := by decide +kernel
  have hv := vb_le 8 x.toBitVec.toNat
  rw [← n3, k1] at hv
  obtain ⟨b4, b5, b6⟩ := bnd4 hv rfl rfl rfl
  have u8 : (usr a3 8).toBitVec.toNat = a3.toBitVec.toNat / 256 := usr_nat (by omega)
  have n4 : a4.toBitVec.toNat = a3.toBitVec.toNat + a3.toBitVec.toNat / 256 := by
    rw [h4, add_nat (by rw [u8]; exact Nat.lt_of_le_of_lt b4 (by decide)), u8]
  have u16 : (usr a4 16).toBitVec.toNat = a4.toBitVec.toNat / 65536 := usr_nat (by omega)
  have n5 : a5.toBitVec.toNat = a4.toBitVec.toNat + a4.toBitVec.toNat / 65536 := by
    rw [h5, add_nat (by rw [u16, n4]; exact Nat.lt_of_le_of_lt b5 (by decide)), u16]
  have u32 : (usr a5 32).toBitVec.toNat = a5.toBitVec.toNat / 4294967296 := usr_nat (by omega)
  have n6 : a6.toBitVec.toNat = a5.toBitVec.toNat + a5.toBitVec.toNat / 4294967296 := by
    rw [h6, add_nat (by rw [u32, n5, n4]; exact Nat.lt_of_le_of_lt b6 (by decide)), u32]
  rw [and127, bitN x.toBitVec.toNat a3.toBitVec.toNat a4.toBitVec.toNat a5.toBitVec.toNat a6.toBitVec.toNat n3 n4 n5 n6]
  rfl
