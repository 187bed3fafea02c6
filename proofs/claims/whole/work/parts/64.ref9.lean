section REF9
variable {l : Launch} {D : va_G} {ad : Nat → Nat} {cI cL : ClassId} {par : Nat → Int32} {prm siz atm : Nat → Nat} {cnt : Nat} {mo he en ap oc : Nat} {cal : Nat → Int32} {el : Nat → Nat} {eu : Nat → Int32} {ev ag : Nat → Nat} {an : Bool} {kk : Nat} {P : Nat → Int32} {Q : Nat → Int64} {S : Int64} {F : Nat → Int32} {R : Int32} {ch : Bool} {AP : Nat → Int32} {AQ : Nat → Int64}
set_option maxHeartbeats 4000000 in
set_option maxRecDepth 100000 in
theorem t_R_analyse {x : Int32} (hw : pwf cnt par prm siz atm) : CT l y_R_analyse c_R_analyse 5 (some .int) (rmm 4 107) (gG D cI cL) [.ref (ad 0), .int x] (wR ad cI cL par prm siz atm cnt mo he en ap oc cal el eu ev ag an kk P Q S F R ch AP AQ) (fun v w2 => (∃ k2 P2 Q2 S2 F2 R2 g2 AP2 AQ2, k2 ≤ 1 ∧ x = nI k2 ∧ aleast cnt (anc par) prm siz atm k2 (ofw P2 Q2 S2 F2 R2) ∧ v = some (.int (nI (popL S2))) ∧ w2 = (wR ad cI cL par prm siz atm cnt mo he en ap oc cal el eu ev ag true k2 P2 Q2 S2 F2 R2 g2 AP2 AQ2)) ∨ ((¬ ∃ k2, k2 ≤ 1 ∧ x = nI k2) ∧ v = some (.int (-1)) ∧ w2 = (wR ad cI cL par prm siz atm cnt mo he en ap oc cal el eu ev ag an kk P Q S F R ch AP AQ))) := by
  refine CT.of R_R (by decide) rfl (Nat.le_of_ble_eq_true rfl) ?_
  intro E A hname
  have hc8 : cnt ≤ 8 := hw.2.1
  have hc11 : ∀ (k : Nat), (k ≤ 1) → (x = nI k) → xj E l (rmm 4 107) c_R_analyse 5 (some .int) R_R (gG D cI cL) A 0 0 (fun v w2 => (∃ k2 P2 Q2 S2 F2 R2 g2 AP2 AQ2, k2 ≤ 1 ∧ x = nI k2 ∧ aleast cnt (anc par) prm siz atm k2 (ofw P2 Q2 S2 F2 R2) ∧ v = some (.int (nI (popL S2))) ∧ w2 = (wR ad cI cL par prm siz atm cnt mo he en ap oc cal el eu ev ag true k2 P2 Q2 S2 F2 R2 g2 AP2 AQ2)) ∨ ((¬ ∃ k2, k2 ≤ 1 ∧ x = nI k2) ∧ v = some (.int (-1)) ∧ w2 = (wR ad cI cL par prm siz atm cnt mo he en ap oc cal el eu ev ag an kk P Q S F R ch AP AQ))) 0 0 (wR ad cI cL par prm siz atm cnt mo he en ap oc cal el eu ev ag an kk P Q S F R ch AP AQ) 11 [(0, .ref (ad 0)), (1, .int (nI k))] [] := by
    intro k hk hx
    subst hx
    have hc180 : ∀ (P4 : Nat → Int32) (Q4 : Nat → Int64) (S4 : Int64) (F4 : Nat → Int32) (R4 : Int32) (g4 : Bool) (AP4 : Nat → Int32) (AQ4 : Nat → Int64), (aleast cnt (anc par) prm siz atm k (ofw P4 Q4 S4 F4 R4)) → xj E l (rmm 4 107) c_R_analyse 5 (some .int) R_R (gG D cI cL) A 0 0 (fun v w2 => (∃ k2 P2 Q2 S2 F2 R2 g2 AP2 AQ2, k2 ≤ 1 ∧ nI k = nI k2 ∧ aleast cnt (anc par) prm siz atm k2 (ofw P2 Q2 S2 F2 R2) ∧ v = some (.int (nI (popL S2))) ∧ w2 = (wR ad cI cL par prm siz atm cnt mo he en ap oc cal el eu ev ag true k2 P2 Q2 S2 F2 R2 g2 AP2 AQ2)) ∨ ((¬ ∃ k2, k2 ≤ 1 ∧ nI k = nI k2) ∧ v = some (.int (-1)) ∧ w2 = (wR ad cI cL par prm siz atm cnt mo he en ap oc cal el eu ev ag an kk P Q S F R ch AP AQ))) 0 0 (wR ad cI cL par prm siz atm cnt mo he en ap oc cal el eu ev ag true k P4 Q4 S4 F4 R4 g4 AP4 AQ4) 180 [(0, .ref (ad 0)), (1, .int (nI k))] [] := by
      intro P4 Q4 S4 F4 R4 g4 AP4 AQ4 hal
      refine x_iconst (pc := 180) (nI 0) d_R_analyse_180 (by decide) ?_
      refine x_istore_n (pc := 181) d_R_analyse_181 rfl (by decide) [(2, _), (0, _), (1, _)] rfl ?_
      refine x_iconst (pc := 182) (nI 0) d_R_analyse_182 (by decide) ?_
      refine x_istore_n (pc := 183) d_R_analyse_183 rfl (by decide) [(3, _), (2, _), (0, _), (1, _)] rfl ?_
      have hlz : ∀ (fuel : Nat) (i : Nat), 64 - i < fuel → (i ≤ 64) → xj E l (rmm 4 107) c_R_analyse 5 (some .int) R_R (gG D cI cL) A 0 0 (fun v w2 => (∃ k2 P2 Q2 S2 F2 R2 g2 AP2 AQ2, k2 ≤ 1 ∧ nI k = nI k2 ∧ aleast cnt (anc par) prm siz atm k2 (ofw P2 Q2 S2 F2 R2) ∧ v = some (.int (nI (popL S2))) ∧ w2 = (wR ad cI cL par prm siz atm cnt mo he en ap oc cal el eu ev ag true k2 P2 Q2 S2 F2 R2 g2 AP2 AQ2)) ∨ ((¬ ∃ k2, k2 ≤ 1 ∧ nI k = nI k2) ∧ v = some (.int (-1)) ∧ w2 = (wR ad cI cL par prm siz atm cnt mo he en ap oc cal el eu ev ag an kk P Q S F R ch AP AQ))) 0 0 (wR ad cI cL par prm siz atm cnt mo he en ap oc cal el eu ev ag true k P4 Q4 S4 F4 R4 g4 AP4 AQ4) 184 [(3, .int (nI i)), (2, .int (nI (popN S4.toBitVec.toNat i))), (0, .ref (ad 0)), (1, .int (nI k))] [] := by
        intro fuel
        induction fuel with
        | zero => intro i hf; exact absurd hf (Nat.not_lt_zero _)
        | succ fuel ih =>
          intro i hf hi
          refine x_iload_n (pc := 184) d_R_analyse_184 0 rfl ?_
          refine x_bipush (pc := 185) (nI 64) d_R_analyse_185 (by decide) ?_
          first | refine x_icmp_geN (pc := 187) (tgt := 217) d_R_analyse_187 rfl (by omega) (by omega) ?_ ?_ | refine x_icmp_ge (pc := 187) (tgt := 217) d_R_analyse_187 rfl ?_ ?_
          · intro h187
            refine x_iload_n (pc := 217) d_R_analyse_217 1 rfl ?_
            refine x_iret (pc := 218) d_R_analyse_218 rfl ?_
            have e1 : i = 64 := by omega
            rw [e1]
            exact Or.inl ⟨k, P4, Q4, S4, F4, R4, g4, AP4, AQ4, hk, rfl, hal, rfl, rfl⟩
          · intro h187
            refine x_aload_n (pc := 190) d_R_analyse_190 2 rfl ?_
            refine x_get (pc := 191) (ci := 4) d_R_analyse_191 in_R rfl 19 (by decide) k_R_128 0 rfl rfl ?_
            refine x_iload_n (pc := 194) d_R_analyse_194 0 rfl ?_
            refine x_lushr (pc := 195) d_R_analyse_195 ?_
            refine x_lconst (pc := 196) 1 d_R_analyse_196 (by decide) ?_
            refine x_land (pc := 197) d_R_analyse_197 ?_
            refine x_lconst (pc := 198) 1 d_R_analyse_198 (by decide) ?_
            refine x_lcmp (pc := 199) d_R_analyse_199 ?_
            refine x_if_neL (pc := 200) (tgt := 209) d_R_analyse_200 rfl ?_ ?_
            · intro h200
              refine x_iload_n (pc := 209) d_R_analyse_209 1 rfl ?_
              refine x_istore_n (pc := 210) d_R_analyse_210 rfl (by decide) [(2, _), (3, _), (0, _), (1, _)] rfl ?_
              refine x_iincN (pc := 211) d_R_analyse_211 1 rfl (by decide) [(3, _), (2, _), (0, _), (1, _)] rfl ?_
              refine x_goto (pc := 214) (tgt := 184) d_R_analyse_214 rfl ?_
              refine x_sub [0, 1, 2, 3] _ rfl ?_
              first
                | (rw [← popS ((hl1 (by omega)).mp h200)]; exact ih (i + 1) (by omega) (by omega))
                | (rw [← popZ (hl1n (by omega) h200)]; exact ih (i + 1) (by omega) (by omega))
            · intro h200
              refine x_iload_n (pc := 203) d_R_analyse_203 1 rfl ?_
              refine x_iconst (pc := 204) (nI 1) d_R_analyse_204 (by decide) ?_
              first | refine x_iaddN (pc := 205) d_R_analyse_205 ?_ | refine x_iadd (pc := 205) d_R_analyse_205 ?_
              refine x_goto (pc := 206) (tgt := 210) d_R_analyse_206 rfl ?_
              refine x_istore_n (pc := 210) d_R_analyse_210 rfl (by decide) [(2, _), (3, _), (0, _), (1, _)] rfl ?_
              refine x_iincN (pc := 211) d_R_analyse_211 1 rfl (by decide) [(3, _), (2, _), (0, _), (1, _)] rfl ?_
              refine x_goto (pc := 214) (tgt := 184) d_R_analyse_214 rfl ?_
              refine x_sub [0, 1, 2, 3] _ rfl ?_
              first
                | (rw [← popS ((hl1 (by omega)).mp h200)]; exact ih (i + 1) (by omega) (by omega))
                | (rw [← popZ (hl1n (by omega) h200)]; exact ih (i + 1) (by omega) (by omega))
      refine x_sub [0, 1, 2, 3] _ rfl ?_
      exact hlz 65 0 (by omega) (by omega)
    refine x_aload_n (pc := 11) d_R_analyse_11 0 rfl ?_
    refine x_iload_n (pc := 12) d_R_analyse_12 1 rfl ?_
    refine x_put (pc := 13) (ci := 4) (ty := .int) d_R_analyse_13 in_R t_R ty_R nm_R rfl 16 (by decide) k_R_117 rfl (by decide +kernel) rfl rfl 0 rfl (Nat.le_of_ble_eq_true rfl) (_) (rfl) ?_
    refine x_aload_n (pc := 16) d_R_analyse_16 0 rfl ?_
    refine x_iconst (pc := 17) (nI 1) d_R_analyse_17 (by decide) ?_
    refine x_put (pc := 18) (ci := 4) (ty := .boolean) d_R_analyse_18 in_R t_R ty_R nm_R rfl 15 (by decide) k_R_60 rfl (by decide +kernel) rfl rfl 0 rfl (Nat.le_of_ble_eq_true rfl) (_) (rfl) ?_
    refine x_iconst (pc := 21) (nI 0) d_R_analyse_21 (by decide) ?_
    refine x_istore_n (pc := 22) d_R_analyse_22 rfl (by decide) [(2, _), (0, _), (1, _)] rfl ?_
    have hla : ∀ (fuel : Nat) (i : Nat) (P1 : Nat → Int32) (Q1 : Nat → Int64), 192 - i < fuel → (i ≤ 192) → (∀ j, j < i → P1 j = nI 0 ∧ Q1 j = 0) → xj E l (rmm 4 107) c_R_analyse 5 (some .int) R_R (gG D cI cL) A 0 0 (fun v w2 => (∃ k2 P2 Q2 S2 F2 R2 g2 AP2 AQ2, k2 ≤ 1 ∧ nI k = nI k2 ∧ aleast cnt (anc par) prm siz atm k2 (ofw P2 Q2 S2 F2 R2) ∧ v = some (.int (nI (popL S2))) ∧ w2 = (wR ad cI cL par prm siz atm cnt mo he en ap oc cal el eu ev ag true k2 P2 Q2 S2 F2 R2 g2 AP2 AQ2)) ∨ ((¬ ∃ k2, k2 ≤ 1 ∧ nI k = nI k2) ∧ v = some (.int (-1)) ∧ w2 = (wR ad cI cL par prm siz atm cnt mo he en ap oc cal el eu ev ag an kk P Q S F R ch AP AQ))) 0 0 (wR ad cI cL par prm siz atm cnt mo he en ap oc cal el eu ev ag true k P1 Q1 S F R ch AP AQ) 23 [(2, .int (nI i)), (0, .ref (ad 0)), (1, .int (nI k))] [] := by
      intro fuel
      induction fuel with
      | zero => intro i P1 Q1 hf; exact absurd hf (Nat.not_lt_zero _)
      | succ fuel ih =>
        intro i P1 Q1 hf hi hP
        refine x_iload_n (pc := 23) d_R_analyse_23 0 rfl ?_
        refine x_sipush (pc := 24) (nI 192) d_R_analyse_24 (by decide) ?_
        first | refine x_icmp_geN (pc := 27) (tgt := 50) d_R_analyse_27 rfl (by omega) (by omega) ?_ ?_ | refine x_icmp_ge (pc := 27) (tgt := 50) d_R_analyse_27 rfl ?_ ?_
        · intro h27
          have e1 : i = 192 := by omega
          rw [e1] at hP
          clear ih hf
          refine x_iconst (pc := 50) (nI 0) d_R_analyse_50 (by decide) ?_
          refine x_istore_n (pc := 51) d_R_analyse_51 rfl (by decide) [(2, _), (0, _), (1, _)] rfl ?_
          have hlb : ∀ (fuel : Nat) (i2 : Nat) (F1 : Nat → Int32), 8 - i2 < fuel → (i2 ≤ 8) → (∀ j, j < i2 → F1 j = nI 0) → xj E l (rmm 4 107) c_R_analyse 5 (some .int) R_R (gG D cI cL) A 0 0 (fun v w2 => (∃ k2 P2 Q2 S2 F2 R2 g2 AP2 AQ2, k2 ≤ 1 ∧ nI k = nI k2 ∧ aleast cnt (anc par) prm siz atm k2 (ofw P2 Q2 S2 F2 R2) ∧ v = some (.int (nI (popL S2))) ∧ w2 = (wR ad cI cL par prm siz atm cnt mo he en ap oc cal el eu ev ag true k2 P2 Q2 S2 F2 R2 g2 AP2 AQ2)) ∨ ((¬ ∃ k2, k2 ≤ 1 ∧ nI k = nI k2) ∧ v = some (.int (-1)) ∧ w2 = (wR ad cI cL par prm siz atm cnt mo he en ap oc cal el eu ev ag an kk P Q S F R ch AP AQ))) 0 0 (wR ad cI cL par prm siz atm cnt mo he en ap oc cal el eu ev ag true k P1 Q1 S F1 R ch AP AQ) 52 [(2, .int (nI i2)), (0, .ref (ad 0)), (1, .int (nI k))] [] := by
            intro fuel
            induction fuel with
            | zero => intro i2 F1 hf; exact absurd hf (Nat.not_lt_zero _)
            | succ fuel ih =>
              intro i2 F1 hf hi2 hF
              refine x_iload_n (pc := 52) d_R_analyse_52 0 rfl ?_
              refine x_bipush (pc := 53) (nI 8) d_R_analyse_53 (by decide) ?_
              first | refine x_icmp_geN (pc := 55) (tgt := 71) d_R_analyse_55 rfl (by omega) (by omega) ?_ ?_ | refine x_icmp_ge (pc := 55) (tgt := 71) d_R_analyse_55 rfl ?_ ?_
              · intro h55
                have e2 : i2 = 8 := by omega
                rw [e2] at hF
                clear ih hf
                refine x_aload_n (pc := 71) d_R_analyse_71 1 rfl ?_
                refine x_lconst (pc := 72) 1 d_R_analyse_72 (by decide) ?_
                refine x_put (pc := 73) (ci := 4) (ty := .long) d_R_analyse_73 in_R t_R ty_R nm_R rfl 19 (by decide) k_R_128 rfl (by decide +kernel) rfl rfl 0 rfl (Nat.le_of_ble_eq_true rfl) (_) (rfl) ?_
                refine x_aload_n (pc := 76) d_R_analyse_76 1 rfl ?_
                refine x_iconst (pc := 77) (nI 0) d_R_analyse_77 (by decide) ?_
                refine x_put (pc := 78) (ci := 4) (ty := .int) d_R_analyse_78 in_R t_R ty_R nm_R rfl 21 (by decide) k_R_132 rfl (by decide +kernel) rfl rfl 0 rfl (Nat.le_of_ble_eq_true rfl) (_) (rfl) ?_
                refine x_aload_n (pc := 81) d_R_analyse_81 1 rfl ?_
                refine x_iconst (pc := 82) (nI 1) d_R_analyse_82 (by decide) ?_
                refine x_put (pc := 83) (ci := 4) (ty := .boolean) d_R_analyse_83 in_R t_R ty_R nm_R rfl 22 (by decide) k_R_114 rfl (by decide +kernel) rfl rfl 0 rfl (Nat.le_of_ble_eq_true rfl) (_) (rfl) ?_
                refine x_iconst (pc := 86) (nI 0) d_R_analyse_86 (by decide) ?_
                refine x_istore_n (pc := 87) d_R_analyse_87 rfl (by decide) [(2, _), (0, _), (1, _)] rfl ?_
                have hlp : ∀ (fuel : Nat) (j : Nat) (P3 : Nat → Int32) (Q3 : Nat → Int64) (S3 : Int64) (F3 : Nat → Int32) (R3 : Int32) (g3 : Bool) (AP3 : Nat → Int32) (AQ3 : Nat → Int64), 20000 - j < fuel → (j ≤ 20000) → (ainv cnt (anc par) prm siz atm k j g3 (ofw P3 Q3 S3 F3 R3)) → xj E l (rmm 4 107) c_R_analyse 5 (some .int) R_R (gG D cI cL) A 0 0 (fun v w2 => (∃ k2 P2 Q2 S2 F2 R2 g2 AP2 AQ2, k2 ≤ 1 ∧ nI k = nI k2 ∧ aleast cnt (anc par) prm siz atm k2 (ofw P2 Q2 S2 F2 R2) ∧ v = some (.int (nI (popL S2))) ∧ w2 = (wR ad cI cL par prm siz atm cnt mo he en ap oc cal el eu ev ag true k2 P2 Q2 S2 F2 R2 g2 AP2 AQ2)) ∨ ((¬ ∃ k2, k2 ≤ 1 ∧ nI k = nI k2) ∧ v = some (.int (-1)) ∧ w2 = (wR ad cI cL par prm siz atm cnt mo he en ap oc cal el eu ev ag an kk P Q S F R ch AP AQ))) 0 0 (wR ad cI cL par prm siz atm cnt mo he en ap oc cal el eu ev ag true k P3 Q3 S3 F3 R3 g3 AP3 AQ3) 88 [(2, .int (nI j)), (0, .ref (ad 0)), (1, .int (nI k))] [] := by
                  intro fuel
                  induction fuel with
                  | zero => intro j P3 Q3 S3 F3 R3 g3 AP3 AQ3 hf; exact absurd hf (Nat.not_lt_zero _)
                  | succ fuel ih =>
                    intro j P3 Q3 S3 F3 R3 g3 AP3 AQ3 hf hj hv
                    refine x_iload_n (pc := 88) d_R_analyse_88 0 rfl ?_
                    refine x_sipush (pc := 89) (nI 20000) d_R_analyse_89 (by decide) ?_
                    first | refine x_icmp_geN (pc := 92) (tgt := 180) d_R_analyse_92 rfl (by omega) (by omega) ?_ ?_ | refine x_icmp_ge (pc := 92) (tgt := 180) d_R_analyse_92 rfl ?_ ?_
                    · intro h92
                      refine x_sub [1, 2] _ rfl ?_
                      first | exact hc180 P3 Q3 S3 F3 R3 g3 AP3 AQ3 (ainv.done hv (Or.inl h99)) | exact hc180 P3 Q3 S3 F3 R3 g3 AP3 AQ3 (ainv.done hv (Or.inr h92))
                    · intro h92
                      refine x_aload_n (pc := 95) d_R_analyse_95 1 rfl ?_
                      refine x_get (pc := 96) (ci := 4) d_R_analyse_96 in_R rfl 22 (by decide) k_R_114 0 rfl rfl ?_
                      first | refine x_if_eqB (pc := 99) (tgt := 180) d_R_analyse_99 rfl ?_ ?_ | refine x_if_eqL (pc := 99) (tgt := 180) d_R_analyse_99 rfl ?_ ?_ | refine x_if_eqN (pc := 99) (tgt := 180) d_R_analyse_99 rfl (by omega) ?_ ?_ | refine x_if_eq (pc := 99) (tgt := 180) d_R_analyse_99 rfl ?_ ?_
                      · intro h99
                        refine x_sub [1, 2] _ rfl ?_
                        first | exact hc180 P3 Q3 S3 F3 R3 g3 AP3 AQ3 (ainv.done hv (Or.inl h99)) | exact hc180 P3 Q3 S3 F3 R3 g3 AP3 AQ3 (ainv.done hv (Or.inr h92))
                      · intro h99
                        refine x_aload_n (pc := 102) d_R_analyse_102 1 rfl ?_
                        refine x_iconst (pc := 103) (nI 0) d_R_analyse_103 (by decide) ?_
                        refine x_put (pc := 104) (ci := 4) (ty := .boolean) d_R_analyse_104 in_R t_R ty_R nm_R rfl 22 (by decide) k_R_114 rfl (by decide +kernel) rfl rfl 0 rfl (Nat.le_of_ble_eq_true rfl) (_) (rfl) ?_
                        refine x_iconst (pc := 107) (nI 0) d_R_analyse_107 (by decide) ?_
                        refine x_istore_n (pc := 108) d_R_analyse_108 rfl (by decide) [(3, _), (2, _), (0, _), (1, _)] rfl ?_
                        have hlm : ∀ (fuel : Nat) (m : Nat) (P5 : Nat → Int32) (Q5 : Nat → Int64) (S5 : Int64) (F5 : Nat → Int32) (R5 : Int32) (g5 : Bool) (AP5 : Nat → Int32) (AQ5 : Nat → Int64), cnt - m < fuel → (m ≤ cnt) → (apc (fun X Y => ∀ j, j < 8 * m → apassN cnt (anc par) prm siz atm k j X Y) false (ofw P3 Q3 S3 F3 R3) g5 (ofw P5 Q5 S5 F5 R5)) → xj E l (rmm 4 107) c_R_analyse 5 (some .int) R_R (gG D cI cL) A 0 0 (fun v w2 => (∃ k2 P2 Q2 S2 F2 R2 g2 AP2 AQ2, k2 ≤ 1 ∧ nI k = nI k2 ∧ aleast cnt (anc par) prm siz atm k2 (ofw P2 Q2 S2 F2 R2) ∧ v = some (.int (nI (popL S2))) ∧ w2 = (wR ad cI cL par prm siz atm cnt mo he en ap oc cal el eu ev ag true k2 P2 Q2 S2 F2 R2 g2 AP2 AQ2)) ∨ ((¬ ∃ k2, k2 ≤ 1 ∧ nI k = nI k2) ∧ v = some (.int (-1)) ∧ w2 = (wR ad cI cL par prm siz atm cnt mo he en ap oc cal el eu ev ag an kk P Q S F R ch AP AQ))) 0 0 (wR ad cI cL par prm siz atm cnt mo he en ap oc cal el eu ev ag true k P5 Q5 S5 F5 R5 g5 AP5 AQ5) 109 [(3, .int (nI m)), (2, .int (nI j)), (0, .ref (ad 0)), (1, .int (nI k))] [] := by
                          intro fuel
                          induction fuel with
                          | zero => intro m P5 Q5 S5 F5 R5 g5 AP5 AQ5 hf; exact absurd hf (Nat.not_lt_zero _)
                          | succ fuel ihm =>
                            intro m P5 Q5 S5 F5 R5 g5 AP5 AQ5 hf hm hq
                            refine x_iload_n (pc := 109) d_R_analyse_109 0 rfl ?_
                            refine x_aload_n (pc := 110) d_R_analyse_110 2 rfl ?_
                            refine x_get (pc := 111) (ci := 4) d_R_analyse_111 in_R rfl 0 (by decide) k_R_7 0 rfl rfl ?_
                            first | refine x_icmp_geN (pc := 114) (tgt := 174) d_R_analyse_114 rfl (by omega) (by omega) ?_ ?_ | refine x_icmp_ge (pc := 114) (tgt := 174) d_R_analyse_114 rfl ?_ ?_
                            · intro h114
                              refine x_iincN (pc := 174) d_R_analyse_174 1 rfl (by decide) [(2, _), (3, _), (0, _), (1, _)] rfl ?_
                              refine x_goto (pc := 177) (tgt := 88) d_R_analyse_177 rfl ?_
                              refine x_sub [0, 2, 3] _ rfl ?_
                              have e3 : m = cnt := by omega
                              rw [e3] at hq
                              rw [h99] at hv
                              exact ih (j + 1) P5 Q5 S5 F5 R5 g5 AP5 AQ5 (by omega) (by omega) (ainv.next hw.2.1 hv (apn_all hw.2.1 hq) (ofw.fin _ _ _ _ _))
                            · intro h114
                              have hz4 := hw.2.2.2.2.2.1 m (by omega)
                              refine x_iconst (pc := 117) (nI 0) d_R_analyse_117 (by decide) ?_
                              refine x_istore (pc := 118) d_R_analyse_118 (by decide) [(4, _), (3, _), (2, _), (0, _), (1, _)] rfl ?_
                              have hlc : ∀ (fuel : Nat) (c : Nat) (P7 : Nat → Int32) (Q7 : Nat → Int64) (S7 : Int64) (F7 : Nat → Int32) (R7 : Int32) (g7 : Bool) (AP7 : Nat → Int32) (AQ7 : Nat → Int64), 8 - c < fuel → (c ≤ 8) → (apc (fun X Y => ∀ j, j < 8 * m + c → apassN cnt (anc par) prm siz atm k j X Y) false (ofw P3 Q3 S3 F3 R3) g7 (ofw P7 Q7 S7 F7 R7)) → xj E l (rmm 4 107) c_R_analyse 5 (some .int) R_R (gG D cI cL) A 0 0 (fun v w2 => (∃ k2 P2 Q2 S2 F2 R2 g2 AP2 AQ2, k2 ≤ 1 ∧ nI k = nI k2 ∧ aleast cnt (anc par) prm siz atm k2 (ofw P2 Q2 S2 F2 R2) ∧ v = some (.int (nI (popL S2))) ∧ w2 = (wR ad cI cL par prm siz atm cnt mo he en ap oc cal el eu ev ag true k2 P2 Q2 S2 F2 R2 g2 AP2 AQ2)) ∨ ((¬ ∃ k2, k2 ≤ 1 ∧ nI k = nI k2) ∧ v = some (.int (-1)) ∧ w2 = (wR ad cI cL par prm siz atm cnt mo he en ap oc cal el eu ev ag an kk P Q S F R ch AP AQ))) 0 0 (wR ad cI cL par prm siz atm cnt mo he en ap oc cal el eu ev ag true k P7 Q7 S7 F7 R7 g7 AP7 AQ7) 120 [(4, .int (nI c)), (3, .int (nI m)), (2, .int (nI j)), (0, .ref (ad 0)), (1, .int (nI k))] [] := by
                                intro fuel
                                induction fuel with
                                | zero => intro c P7 Q7 S7 F7 R7 g7 AP7 AQ7 hf; exact absurd hf (Nat.not_lt_zero _)
                                | succ fuel ihc =>
                                  intro c P7 Q7 S7 F7 R7 g7 AP7 AQ7 hf hc hr
                                  refine x_iload (pc := 120) d_R_analyse_120 0 rfl ?_
                                  refine x_bipush (pc := 122) (nI 8) d_R_analyse_122 (by decide) ?_
                                  first | refine x_icmp_geN (pc := 124) (tgt := 168) d_R_analyse_124 rfl (by omega) (by omega) ?_ ?_ | refine x_icmp_ge (pc := 124) (tgt := 168) d_R_analyse_124 rfl ?_ ?_
                                  · intro h124
                                    refine x_iincN (pc := 168) d_R_analyse_168 1 rfl (by decide) [(3, _), (4, _), (2, _), (0, _), (1, _)] rfl ?_
                                    refine x_goto (pc := 171) (tgt := 109) d_R_analyse_171 rfl ?_
                                    refine x_sub [0, 2, 3, 4] _ rfl ?_
                                    have e8 : c = 8 := by omega
                                    rw [e8] at hr
                                    exact ihm (m + 1) P7 Q7 S7 F7 R7 g7 AP7 AQ7 (by omega) (by omega) hr
                                  · intro h124
                                    refine x_aload_n (pc := 127) d_R_analyse_127 3 rfl ?_
                                    refine x_get (pc := 128) (ci := 4) d_R_analyse_128 in_R rfl 19 (by decide) k_R_128 0 rfl rfl ?_
                                    refine x_bipush (pc := 131) (nI 8) d_R_analyse_131 (by decide) ?_
                                    refine x_iload_n (pc := 133) d_R_analyse_133 1 rfl ?_
                                    first | refine x_imulN (pc := 134) d_R_analyse_134 ?_ | refine x_imul (pc := 134) d_R_analyse_134 ?_
                                    refine x_iload (pc := 135) d_R_analyse_135 0 rfl ?_
                                    first | refine x_iaddN (pc := 137) d_R_analyse_137 ?_ | refine x_iadd (pc := 137) d_R_analyse_137 ?_
                                    refine x_lushr (pc := 138) d_R_analyse_138 ?_
                                    refine x_lconst (pc := 139) 1 d_R_analyse_139 (by decide) ?_
                                    refine x_land (pc := 140) d_R_analyse_140 ?_
                                    refine x_lconst (pc := 141) 1 d_R_analyse_141 (by decide) ?_
                                    refine x_lcmp (pc := 142) d_R_analyse_142 ?_
                                    refine x_if_neL (pc := 143) (tgt := 162) d_R_analyse_143 rfl ?_ ?_
                                    · intro h143
                                      refine x_iincN (pc := 162) d_R_analyse_162 0 rfl (by decide) [(4, _), (3, _), (2, _), (0, _), (1, _)] rfl ?_
                                      refine x_goto (pc := 165) (tgt := 120) d_R_analyse_165 rfl ?_
                                      refine x_sub [0, 1, 2, 3, 4] _ rfl ?_
                                      first
                                        | exact ihc (c + 1) P9 Q9 S9 F9 R9 g9 AP9 AQ9 (by omega) (by omega) (apc.next (N := apassN cnt (anc par) prm siz atm k) (fun j => apassN.amon _ _ _ _ _ _ j) hr (apn_at (by omega) (by omega) ((hl1 (by omega)).mp h143) h152 hap9))
                                        | exact ihc (c + 1) P7 Q7 S7 F7 R7 g7 AP7 AQ7 (by omega) (by omega) (apc.next (N := apassN cnt (anc par) prm siz atm k) (fun j => apassN.amon _ _ _ _ _ _ j) hr (apn_no (by omega) (Or.inl (fun q => bno (hl1n (by omega) h143) q))))
                                        | exact ihc (c + 1) P7 Q7 S7 F7 R7 g7 AP7 AQ7 (by omega) (by omega) (apc.next (N := apassN cnt (anc par) prm siz atm k) (fun j => apassN.amon _ _ _ _ _ _ j) hr (apn_no (by omega) (Or.inr h152)))
                                    · intro h143
                                      refine x_aload_n (pc := 146) d_R_analyse_146 3 rfl ?_
                                      refine x_get (pc := 147) (ci := 4) d_R_analyse_147 in_R rfl 3 (by decide) k_R_20 0 rfl rfl ?_
                                      refine x_iload_n (pc := 150) d_R_analyse_150 1 rfl ?_
                                      refine x_ialdN (pc := 151) d_R_analyse_151 3 0 rfl rfl (by omega) (by omega) ?_
                                      first | refine x_if_leN (pc := 152) (tgt := 162) d_R_analyse_152 rfl (by omega) ?_ ?_ | refine x_if_le (pc := 152) (tgt := 162) d_R_analyse_152 rfl ?_ ?_
                                      · intro h152
                                        refine x_iincN (pc := 162) d_R_analyse_162 0 rfl (by decide) [(4, _), (3, _), (2, _), (0, _), (1, _)] rfl ?_
                                        refine x_goto (pc := 165) (tgt := 120) d_R_analyse_165 rfl ?_
                                        refine x_sub [0, 1, 2, 3, 4] _ rfl ?_
                                        first
                                          | exact ihc (c + 1) P9 Q9 S9 F9 R9 g9 AP9 AQ9 (by omega) (by omega) (apc.next (N := apassN cnt (anc par) prm siz atm k) (fun j => apassN.amon _ _ _ _ _ _ j) hr (apn_at (by omega) (by omega) ((hl1 (by omega)).mp h143) h152 hap9))
                                          | exact ihc (c + 1) P7 Q7 S7 F7 R7 g7 AP7 AQ7 (by omega) (by omega) (apc.next (N := apassN cnt (anc par) prm siz atm k) (fun j => apassN.amon _ _ _ _ _ _ j) hr (apn_no (by omega) (Or.inl (fun q => bno (hl1n (by omega) h143) q))))
                                          | exact ihc (c + 1) P7 Q7 S7 F7 R7 g7 AP7 AQ7 (by omega) (by omega) (apc.next (N := apassN cnt (anc par) prm siz atm k) (fun j => apassN.amon _ _ _ _ _ _ j) hr (apn_no (by omega) (Or.inr h152)))
                                      · intro h152
                                        refine x_aload_n (pc := 155) d_R_analyse_155 3 rfl ?_
                                        refine x_iload_n (pc := 156) d_R_analyse_156 1 rfl ?_
                                        refine x_iload (pc := 157) d_R_analyse_157 0 rfl ?_
                                        refine x_callV_X (pc := 159) (ci := 4) d_R_analyse_159 k_R_149 wi_R_visit wv_R_visit w_R_visit ini_R wd_R_visit ⟨by decide, by decide⟩ ⟨rfl, rfl⟩ ⟨Nat.zero_le _, Nat.zero_le _⟩ 0 rfl rfl (t_R_visit hw hk (by omega) (by omega) h152) rfl rfl (Nat.le_of_ble_eq_true rfl) (fun v159 w159 hp159 => ?_)
                                        obtain ⟨rfl, P9, Q9, S9, F9, R9, g9, AP9, AQ9, hap9, rfl⟩ := hp159
                                        refine x_iincN (pc := 162) d_R_analyse_162 0 rfl (by decide) [(4, _), (3, _), (2, _), (0, _), (1, _)] rfl ?_
                                        refine x_goto (pc := 165) (tgt := 120) d_R_analyse_165 rfl ?_
                                        refine x_sub [0, 1, 2, 3, 4] _ rfl ?_
                                        first
                                          | exact ihc (c + 1) P9 Q9 S9 F9 R9 g9 AP9 AQ9 (by omega) (by omega) (apc.next (N := apassN cnt (anc par) prm siz atm k) (fun j => apassN.amon _ _ _ _ _ _ j) hr (apn_at (by omega) (by omega) ((hl1 (by omega)).mp h143) h152 hap9))
                                          | exact ihc (c + 1) P7 Q7 S7 F7 R7 g7 AP7 AQ7 (by omega) (by omega) (apc.next (N := apassN cnt (anc par) prm siz atm k) (fun j => apassN.amon _ _ _ _ _ _ j) hr (apn_no (by omega) (Or.inl (fun q => bno (hl1n (by omega) h143) q))))
                                          | exact ihc (c + 1) P7 Q7 S7 F7 R7 g7 AP7 AQ7 (by omega) (by omega) (apc.next (N := apassN cnt (anc par) prm siz atm k) (fun j => apassN.amon _ _ _ _ _ _ j) hr (apn_no (by omega) (Or.inr h152)))
                              refine x_sub [0, 1, 2, 3, 4] _ rfl ?_
                              exact hlc 9 0 P5 Q5 S5 F5 R5 g5 AP5 AQ5 (by omega) (by omega) hq
                        refine x_sub [0, 1, 2, 3] _ rfl ?_
                        exact hlm (cnt + 1) 0 P3 Q3 S3 F3 R3 false AP3 AQ3 (by omega) (by omega) (apc.zero false _)
                refine x_sub [0, 1, 2] _ rfl ?_
                exact hlp 20001 0 P1 Q1 1 F1 (nI 0) true AP AQ (by omega) (by omega) (astart2 hP hF)
              · intro h55
                refine x_aload_n (pc := 58) d_R_analyse_58 1 rfl ?_
                refine x_get (pc := 59) (ci := 4) d_R_analyse_59 in_R rfl 20 (by decide) k_R_48 0 rfl rfl ?_
                refine x_iload_n (pc := 62) d_R_analyse_62 0 rfl ?_
                refine x_iconst (pc := 63) (nI 0) d_R_analyse_63 (by decide) ?_
                first | refine x_iastU (pc := 64) d_R_analyse_64 12 0 rfl rfl (by omega) (by omega) ?_ | refine x_iastN (pc := 64) d_R_analyse_64 12 0 rfl rfl (by omega) (by omega) _ rfl ?_
                refine x_iincN (pc := 65) d_R_analyse_65 0 rfl (by decide) [(2, _), (0, _), (1, _)] rfl ?_
                refine x_goto (pc := 68) (tgt := 52) d_R_analyse_68 rfl ?_
                refine x_sub [0, 1, 2] _ rfl ?_
                exact ih (i2 + 1) _ (by omega) (by omega) (ff_next hF)
          refine x_sub [0, 1, 2] _ rfl ?_
          exact hlb 9 0 F (by omega) (by omega) (fun j hj => absurd hj (Nat.not_lt_zero j))
        · intro h27
          refine x_aload_n (pc := 30) d_R_analyse_30 1 rfl ?_
          refine x_get (pc := 31) (ci := 4) d_R_analyse_31 in_R rfl 17 (by decide) k_R_41 0 rfl rfl ?_
          refine x_iload_n (pc := 34) d_R_analyse_34 0 rfl ?_
          refine x_iconst (pc := 35) (nI 0) d_R_analyse_35 (by decide) ?_
          first | refine x_iastU (pc := 36) d_R_analyse_36 10 0 rfl rfl (by omega) (by omega) ?_ | refine x_iastN (pc := 36) d_R_analyse_36 10 0 rfl rfl (by omega) (by omega) _ rfl ?_
          refine x_aload_n (pc := 37) d_R_analyse_37 1 rfl ?_
          refine x_get (pc := 38) (ci := 4) d_R_analyse_38 in_R rfl 18 (by decide) k_R_44 0 rfl rfl ?_
          refine x_iload_n (pc := 41) d_R_analyse_41 0 rfl ?_
          refine x_lconst (pc := 42) 0 d_R_analyse_42 (by decide) ?_
          refine x_lastN (pc := 43) d_R_analyse_43 11 1 rfl rfl (by omega) (by omega) (_) (rfl) ?_
          refine x_iincN (pc := 44) d_R_analyse_44 0 rfl (by decide) [(2, _), (0, _), (1, _)] rfl ?_
          refine x_goto (pc := 47) (tgt := 23) d_R_analyse_47 rfl ?_
          refine x_sub [0, 1, 2] _ rfl ?_
          exact ih (i + 1) _ _ (by omega) (by omega) (fz_next hP)
    refine x_sub [0, 1, 2] _ rfl ?_
    exact hla 193 0 P Q (by omega) (by omega) (fun j hj => absurd hj (Nat.not_lt_zero j))
  refine x_iload_n (pc := 0) d_R_analyse_0 1 rfl ?_
  first | refine x_if_eqB (pc := 1) (tgt := 11) d_R_analyse_1 rfl ?_ ?_ | refine x_if_eqL (pc := 1) (tgt := 11) d_R_analyse_1 rfl ?_ ?_ | refine x_if_eqN (pc := 1) (tgt := 11) d_R_analyse_1 rfl (by omega) ?_ ?_ | refine x_if_eq (pc := 1) (tgt := 11) d_R_analyse_1 rfl ?_ ?_
  · intro h1
    have hx : x = nI 0 := h1
    subst hx
    refine x_sub [0, 1] _ rfl ?_
    first | exact hc11 0 (by omega) rfl | exact hc11 1 (by omega) rfl
  · intro h1
    refine x_iload_n (pc := 4) d_R_analyse_4 1 rfl ?_
    refine x_iconst (pc := 5) (nI 1) d_R_analyse_5 (by decide) ?_
    refine x_icmp_eq (pc := 6) (tgt := 11) d_R_analyse_6 rfl ?_ ?_
    · intro h6
      subst h6
      refine x_sub [0, 1] _ rfl ?_
      first | exact hc11 0 (by omega) rfl | exact hc11 1 (by omega) rfl
    · intro h6
      refine x_iconst (pc := 9) (-1) d_R_analyse_9 (by decide) ?_
      refine x_iret (pc := 10) d_R_analyse_10 rfl ?_
      exact Or.inr ⟨fun q => by
          obtain ⟨k, hk, rfl⟩ := q
          rcases (show k = 0 ∨ k = 1 by omega) with e | e
          · subst e
            exact h1 nI_0
          · subst e
            exact h6 rfl, rfl, rfl⟩
set_option maxHeartbeats 4000000 in
set_option maxRecDepth 100000 in
theorem t_R_flow {x : Int32} (hc : cnt ≤ 8) : CT l y_R_flow c_R_flow 2 (some .int) (rmm 1 21) (gG D cI cL) [.ref (ad 0), .int x] (wR ad cI cL par prm siz atm cnt mo he en ap oc cal el eu ev ag an kk P Q S F R ch AP AQ) (pI (lval an cnt F x) (wR ad cI cL par prm siz atm cnt mo he en ap oc cal el eu ev ag an kk P Q S F R ch AP AQ)) := by
  refine CT.of R_R (by decide) rfl (Nat.le_of_ble_eq_true rfl) ?_
  intro E A hname
  refine x_aload_n (pc := 0) d_R_flow_0 0 rfl ?_
  refine x_get (pc := 1) (ci := 4) d_R_flow_1 in_R rfl 15 (by decide) k_R_60 0 rfl rfl ?_
  first | refine x_if_eqB (pc := 4) (tgt := 15) d_R_flow_4 rfl ?_ ?_ | refine x_if_eqL (pc := 4) (tgt := 15) d_R_flow_4 rfl ?_ ?_ | refine x_if_eqN (pc := 4) (tgt := 15) d_R_flow_4 rfl (by omega) ?_ ?_ | refine x_if_eq (pc := 4) (tgt := 15) d_R_flow_4 rfl ?_ ?_
  · intro h4
    refine x_iconst (pc := 15) (-1) d_R_flow_15 (by decide) ?_
    refine x_goto (pc := 16) (tgt := 25) d_R_flow_16 rfl ?_
    refine x_iret (pc := 25) d_R_flow_25 rfl ?_
    first | exact ⟨congrArg (fun z => some (Value.int z)) ((lval_t h4 hc hlx).symm), rfl⟩ | exact ⟨congrArg (fun z => some (Value.int z)) ((lval_0 h4).symm), rfl⟩ | exact ⟨congrArg (fun z => some (Value.int z)) ((lval_n h12).symm), rfl⟩
  · intro h4
    refine x_aload_n (pc := 7) d_R_flow_7 0 rfl ?_
    refine x_iload_n (pc := 8) d_R_flow_8 1 rfl ?_
    refine x_callV_I (pc := 9) (ci := 4) d_R_flow_9 k_R_64 wi_R_isLambda wv_R_isLambda w_R_isLambda ini_R wd_R_isLambda ⟨by decide, by decide⟩ ⟨rfl, rfl⟩ ⟨Nat.zero_le _, Nat.zero_le _⟩ 0 rfl rfl (t_R_isLambda) rfl rfl (Nat.le_of_ble_eq_true rfl) ?_
    first | refine x_if_neB (pc := 12) (tgt := 19) d_R_flow_12 rfl ?_ ?_ | refine x_if_neL (pc := 12) (tgt := 19) d_R_flow_12 rfl ?_ ?_ | refine x_if_neN (pc := 12) (tgt := 19) d_R_flow_12 rfl (by omega) ?_ ?_ | refine x_if_ne (pc := 12) (tgt := 19) d_R_flow_12 rfl ?_ ?_
    · intro h12
      obtain ⟨lx, hlx, rfl⟩ := hl_of hc h12
      refine x_aload_n (pc := 19) d_R_flow_19 0 rfl ?_
      refine x_get (pc := 20) (ci := 4) d_R_flow_20 in_R rfl 20 (by decide) k_R_48 0 rfl rfl ?_
      refine x_iload_n (pc := 23) d_R_flow_23 1 rfl ?_
      refine x_ialdN (pc := 24) d_R_flow_24 12 0 rfl rfl (by omega) (by omega) ?_
      refine x_iret (pc := 25) d_R_flow_25 rfl ?_
      first | exact ⟨congrArg (fun z => some (Value.int z)) ((lval_t h4 hc hlx).symm), rfl⟩ | exact ⟨congrArg (fun z => some (Value.int z)) ((lval_0 h4).symm), rfl⟩ | exact ⟨congrArg (fun z => some (Value.int z)) ((lval_n h12).symm), rfl⟩
    · intro h12
      refine x_iconst (pc := 15) (-1) d_R_flow_15 (by decide) ?_
      refine x_goto (pc := 16) (tgt := 25) d_R_flow_16 rfl ?_
      refine x_iret (pc := 25) d_R_flow_25 rfl ?_
      first | exact ⟨congrArg (fun z => some (Value.int z)) ((lval_t h4 hc hlx).symm), rfl⟩ | exact ⟨congrArg (fun z => some (Value.int z)) ((lval_0 h4).symm), rfl⟩ | exact ⟨congrArg (fun z => some (Value.int z)) ((lval_n h12).symm), rfl⟩
set_option maxHeartbeats 4000000 in
set_option maxRecDepth 100000 in
theorem t_R_contours {x : Int32} (hc : cnt ≤ 8) : CT l y_R_contours c_R_contours 2 (some .int) (rmm 1 21) (gG D cI cL) [.ref (ad 0), .int x] (wR ad cI cL par prm siz atm cnt mo he en ap oc cal el eu ev ag an kk P Q S F R ch AP AQ) (pI (lval an cnt (cin S) x) (wR ad cI cL par prm siz atm cnt mo he en ap oc cal el eu ev ag an kk P Q S F R ch AP AQ)) := by
  refine CT.of R_R (by decide) rfl (Nat.le_of_ble_eq_true rfl) ?_
  intro E A hname
  refine x_aload_n (pc := 0) d_R_contours_0 0 rfl ?_
  refine x_get (pc := 1) (ci := 4) d_R_contours_1 in_R rfl 15 (by decide) k_R_60 0 rfl rfl ?_
  first | refine x_if_eqB (pc := 4) (tgt := 15) d_R_contours_4 rfl ?_ ?_ | refine x_if_eqL (pc := 4) (tgt := 15) d_R_contours_4 rfl ?_ ?_ | refine x_if_eqN (pc := 4) (tgt := 15) d_R_contours_4 rfl (by omega) ?_ ?_ | refine x_if_eq (pc := 4) (tgt := 15) d_R_contours_4 rfl ?_ ?_
  · intro h4
    refine x_iconst (pc := 15) (-1) d_R_contours_15 (by decide) ?_
    refine x_goto (pc := 16) (tgt := 33) d_R_contours_16 rfl ?_
    refine x_iret (pc := 33) d_R_contours_33 rfl ?_
    first | exact ⟨congrArg (fun z => some (Value.int z)) ((lval_t h4 hc hlx).symm), rfl⟩ | exact ⟨congrArg (fun z => some (Value.int z)) ((lval_0 h4).symm), rfl⟩ | exact ⟨congrArg (fun z => some (Value.int z)) ((lval_n h12).symm), rfl⟩
  · intro h4
    refine x_aload_n (pc := 7) d_R_contours_7 0 rfl ?_
    refine x_iload_n (pc := 8) d_R_contours_8 1 rfl ?_
    refine x_callV_I (pc := 9) (ci := 4) d_R_contours_9 k_R_64 wi_R_isLambda wv_R_isLambda w_R_isLambda ini_R wd_R_isLambda ⟨by decide, by decide⟩ ⟨rfl, rfl⟩ ⟨Nat.zero_le _, Nat.zero_le _⟩ 0 rfl rfl (t_R_isLambda) rfl rfl (Nat.le_of_ble_eq_true rfl) ?_
    first | refine x_if_neB (pc := 12) (tgt := 19) d_R_contours_12 rfl ?_ ?_ | refine x_if_neL (pc := 12) (tgt := 19) d_R_contours_12 rfl ?_ ?_ | refine x_if_neN (pc := 12) (tgt := 19) d_R_contours_12 rfl (by omega) ?_ ?_ | refine x_if_ne (pc := 12) (tgt := 19) d_R_contours_12 rfl ?_ ?_
    · intro h12
      obtain ⟨lx, hlx, rfl⟩ := hl_of hc h12
      refine x_aload_n (pc := 19) d_R_contours_19 0 rfl ?_
      refine x_get (pc := 20) (ci := 4) d_R_contours_20 in_R rfl 19 (by decide) k_R_128 0 rfl rfl ?_
      refine x_bipush (pc := 23) (nI 8) d_R_contours_23 (by decide) ?_
      refine x_iload_n (pc := 25) d_R_contours_25 1 rfl ?_
      first | refine x_imulN (pc := 26) d_R_contours_26 ?_ | refine x_imul (pc := 26) d_R_contours_26 ?_
      refine x_lushr (pc := 27) d_R_contours_27 ?_
      refine x_ldc2 (pc := 28) d_R_contours_28 k_R_153 ?_
      refine x_land (pc := 31) d_R_contours_31 ?_
      refine x_l2i (pc := 32) d_R_contours_32 ?_
      refine x_ti (y := cin S lx) (cin2 _) ?_
      refine x_iret (pc := 33) d_R_contours_33 rfl ?_
      first | exact ⟨congrArg (fun z => some (Value.int z)) ((lval_t h4 hc hlx).symm), rfl⟩ | exact ⟨congrArg (fun z => some (Value.int z)) ((lval_0 h4).symm), rfl⟩ | exact ⟨congrArg (fun z => some (Value.int z)) ((lval_n h12).symm), rfl⟩
    · intro h12
      refine x_iconst (pc := 15) (-1) d_R_contours_15 (by decide) ?_
      refine x_goto (pc := 16) (tgt := 33) d_R_contours_16 rfl ?_
      refine x_iret (pc := 33) d_R_contours_33 rfl ?_
      first | exact ⟨congrArg (fun z => some (Value.int z)) ((lval_t h4 hc hlx).symm), rfl⟩ | exact ⟨congrArg (fun z => some (Value.int z)) ((lval_0 h4).symm), rfl⟩ | exact ⟨congrArg (fun z => some (Value.int z)) ((lval_n h12).symm), rfl⟩
set_option maxHeartbeats 4000000 in
set_option maxRecDepth 100000 in
theorem t_R_isParameter {x i : Int32} (hc : cnt ≤ 8) : CT l y_R_isParameter c_R_isParameter 3 (some .boolean) (rmm 1 21) (gG D cI cL) [.ref (ad 0), .int x, .int i] (wR ad cI cL par prm siz atm cnt mo he en ap oc cal el eu ev ag an kk P Q S F R ch AP AQ) (pI (bI (an && hpr cnt prm x i)) (wR ad cI cL par prm siz atm cnt mo he en ap oc cal el eu ev ag an kk P Q S F R ch AP AQ)) := by
  refine CT.of R_R (by decide) rfl (Nat.le_of_ble_eq_true rfl) ?_
  intro E A hname
  refine x_aload_n (pc := 0) d_R_isParameter_0 0 rfl ?_
  refine x_get (pc := 1) (ci := 4) d_R_isParameter_1 in_R rfl 15 (by decide) k_R_60 0 rfl rfl ?_
  first | refine x_if_eqB (pc := 4) (tgt := 33) d_R_isParameter_4 rfl ?_ ?_ | refine x_if_eqL (pc := 4) (tgt := 33) d_R_isParameter_4 rfl ?_ ?_ | refine x_if_eqN (pc := 4) (tgt := 33) d_R_isParameter_4 rfl (by omega) ?_ ?_ | refine x_if_eq (pc := 4) (tgt := 33) d_R_isParameter_4 rfl ?_ ?_
  · intro h4
    refine x_iconst (pc := 33) (nI 0) d_R_isParameter_33 (by decide) ?_
    refine x_zret (pc := 34) d_R_isParameter_34 rfl (by first | rfl | exact bI_narrow _) ?_
    first
      | exact zt (by rw [h4, hpr_nI hc hlx, decide_eq_true ⟨Int32.not_lt.mp h16, Int32.not_le.mp h26⟩]; rfl)
      | exact zt (by rw [h4, hpr_nI hc hlx, decide_eq_true ⟨Int32.not_lt.mp h16, h26⟩]; rfl)
      | exact zf (by rw [h4]; rfl)
      | exact zf (by rw [show hpr cnt prm x i = false by unfold hpr; rw [h12]; rfl, Bool.and_false])
      | exact zf (by rw [hpr_nI hc hlx, decide_eq_false (fun q => Int32.not_lt.mpr q.1 h16), Bool.and_false])
      | exact zf (by rw [hpr_nI hc hlx, decide_eq_false (fun q => Int32.not_lt.mpr h26 q.2), Bool.and_false])
  · intro h4
    refine x_aload_n (pc := 7) d_R_isParameter_7 0 rfl ?_
    refine x_iload_n (pc := 8) d_R_isParameter_8 1 rfl ?_
    refine x_callV_I (pc := 9) (ci := 4) d_R_isParameter_9 k_R_64 wi_R_isLambda wv_R_isLambda w_R_isLambda ini_R wd_R_isLambda ⟨by decide, by decide⟩ ⟨rfl, rfl⟩ ⟨Nat.zero_le _, Nat.zero_le _⟩ 0 rfl rfl (t_R_isLambda) rfl rfl (Nat.le_of_ble_eq_true rfl) ?_
    first | refine x_if_eqB (pc := 12) (tgt := 33) d_R_isParameter_12 rfl ?_ ?_ | refine x_if_eqL (pc := 12) (tgt := 33) d_R_isParameter_12 rfl ?_ ?_ | refine x_if_eqN (pc := 12) (tgt := 33) d_R_isParameter_12 rfl (by omega) ?_ ?_ | refine x_if_eq (pc := 12) (tgt := 33) d_R_isParameter_12 rfl ?_ ?_
    · intro h12
      refine x_iconst (pc := 33) (nI 0) d_R_isParameter_33 (by decide) ?_
      refine x_zret (pc := 34) d_R_isParameter_34 rfl (by first | rfl | exact bI_narrow _) ?_
      first
        | exact zt (by rw [h4, hpr_nI hc hlx, decide_eq_true ⟨Int32.not_lt.mp h16, Int32.not_le.mp h26⟩]; rfl)
        | exact zt (by rw [h4, hpr_nI hc hlx, decide_eq_true ⟨Int32.not_lt.mp h16, h26⟩]; rfl)
        | exact zf (by rw [h4]; rfl)
        | exact zf (by rw [show hpr cnt prm x i = false by unfold hpr; rw [h12]; rfl, Bool.and_false])
        | exact zf (by rw [hpr_nI hc hlx, decide_eq_false (fun q => Int32.not_lt.mpr q.1 h16), Bool.and_false])
        | exact zf (by rw [hpr_nI hc hlx, decide_eq_false (fun q => Int32.not_lt.mpr h26 q.2), Bool.and_false])
    · intro h12
      obtain ⟨lx, hlx, rfl⟩ := hl_of hc h12
      refine x_iload_n (pc := 15) d_R_isParameter_15 2 rfl ?_
      refine x_if_lt (pc := 16) (tgt := 33) d_R_isParameter_16 rfl ?_ ?_
      · intro h16
        refine x_iconst (pc := 33) (nI 0) d_R_isParameter_33 (by decide) ?_
        refine x_zret (pc := 34) d_R_isParameter_34 rfl (by first | rfl | exact bI_narrow _) ?_
        first
          | exact zt (by rw [h4, hpr_nI hc hlx, decide_eq_true ⟨Int32.not_lt.mp h16, Int32.not_le.mp h26⟩]; rfl)
          | exact zt (by rw [h4, hpr_nI hc hlx, decide_eq_true ⟨Int32.not_lt.mp h16, h26⟩]; rfl)
          | exact zf (by rw [h4]; rfl)
          | exact zf (by rw [show hpr cnt prm x i = false by unfold hpr; rw [h12]; rfl, Bool.and_false])
          | exact zf (by rw [hpr_nI hc hlx, decide_eq_false (fun q => Int32.not_lt.mpr q.1 h16), Bool.and_false])
          | exact zf (by rw [hpr_nI hc hlx, decide_eq_false (fun q => Int32.not_lt.mpr h26 q.2), Bool.and_false])
      · intro h16
        refine x_iload_n (pc := 19) d_R_isParameter_19 2 rfl ?_
        refine x_aload_n (pc := 20) d_R_isParameter_20 0 rfl ?_
        refine x_get (pc := 21) (ci := 4) d_R_isParameter_21 in_R rfl 2 (by decide) k_R_17 0 rfl rfl ?_
        refine x_iload_n (pc := 24) d_R_isParameter_24 1 rfl ?_
        refine x_ialdN (pc := 25) d_R_isParameter_25 2 0 rfl rfl (by omega) (by omega) ?_
        refine x_icmp_ge (pc := 26) (tgt := 33) d_R_isParameter_26 rfl ?_ ?_
        · intro h26
          refine x_iconst (pc := 33) (nI 0) d_R_isParameter_33 (by decide) ?_
          refine x_zret (pc := 34) d_R_isParameter_34 rfl (by first | rfl | exact bI_narrow _) ?_
          first
            | exact zt (by rw [h4, hpr_nI hc hlx, decide_eq_true ⟨Int32.not_lt.mp h16, Int32.not_le.mp h26⟩]; rfl)
            | exact zt (by rw [h4, hpr_nI hc hlx, decide_eq_true ⟨Int32.not_lt.mp h16, h26⟩]; rfl)
            | exact zf (by rw [h4]; rfl)
            | exact zf (by rw [show hpr cnt prm x i = false by unfold hpr; rw [h12]; rfl, Bool.and_false])
            | exact zf (by rw [hpr_nI hc hlx, decide_eq_false (fun q => Int32.not_lt.mpr q.1 h16), Bool.and_false])
            | exact zf (by rw [hpr_nI hc hlx, decide_eq_false (fun q => Int32.not_lt.mpr h26 q.2), Bool.and_false])
        · intro h26
          refine x_iconst (pc := 29) (nI 1) d_R_isParameter_29 (by decide) ?_
          refine x_goto (pc := 30) (tgt := 34) d_R_isParameter_30 rfl ?_
          refine x_zret (pc := 34) d_R_isParameter_34 rfl (by first | rfl | exact bI_narrow _) ?_
          first
            | exact zt (by rw [h4, hpr_nI hc hlx, decide_eq_true ⟨Int32.not_lt.mp h16, Int32.not_le.mp h26⟩]; rfl)
            | exact zt (by rw [h4, hpr_nI hc hlx, decide_eq_true ⟨Int32.not_lt.mp h16, h26⟩]; rfl)
            | exact zf (by rw [h4]; rfl)
            | exact zf (by rw [show hpr cnt prm x i = false by unfold hpr; rw [h12]; rfl, Bool.and_false])
            | exact zf (by rw [hpr_nI hc hlx, decide_eq_false (fun q => Int32.not_lt.mpr q.1 h16), Bool.and_false])
            | exact zf (by rw [hpr_nI hc hlx, decide_eq_false (fun q => Int32.not_lt.mpr h26 q.2), Bool.and_false])
set_option maxHeartbeats 4000000 in
set_option maxRecDepth 100000 in
theorem t_R_constants {x i : Int32} (hw : pwf cnt par prm siz atm) : CT l y_R_constants c_R_constants 5 (some .int) (rmm 2 43) (gG D cI cL) [.ref (ad 0), .int x, .int i] (wR ad cI cL par prm siz atm cnt mo he en ap oc cal el eu ev ag an kk P Q S F R ch AP AQ) (pI (qval an cnt prm (fun l j => orf (fun c => P (sl l j c)) 8) x i) (wR ad cI cL par prm siz atm cnt mo he en ap oc cal el eu ev ag an kk P Q S F R ch AP AQ)) := by
  refine CT.of R_R (by decide) rfl (Nat.le_of_ble_eq_true rfl) ?_
  intro E A hname
  refine x_aload_n (pc := 0) d_R_constants_0 0 rfl ?_
  refine x_iload_n (pc := 1) d_R_constants_1 1 rfl ?_
  refine x_iload_n (pc := 2) d_R_constants_2 2 rfl ?_
  refine x_callV_I (pc := 3) (ci := 4) d_R_constants_3 k_R_155 wi_R_isParameter wv_R_isParameter w_R_isParameter ini_R wd_R_isParameter ⟨by decide, by decide⟩ ⟨rfl, rfl⟩ ⟨Nat.zero_le _, Nat.zero_le _⟩ 0 rfl rfl (t_R_isParameter hw.2.1) rfl rfl (Nat.le_of_ble_eq_true rfl) ?_
  first | refine x_if_neB (pc := 6) (tgt := 11) d_R_constants_6 rfl ?_ ?_ | refine x_if_neL (pc := 6) (tgt := 11) d_R_constants_6 rfl ?_ ?_ | refine x_if_neN (pc := 6) (tgt := 11) d_R_constants_6 rfl (by omega) ?_ ?_ | refine x_if_ne (pc := 6) (tgt := 11) d_R_constants_6 rfl ?_ ?_
  · intro h6
    obtain ⟨h6a, h6b⟩ := Bool.and_eq_true_iff.mp h6
    obtain ⟨lx, ix, hlx, hix, rfl, rfl⟩ := hpr_of hw.2.1 (fun l h => Nat.le_trans (hw.2.2.2.1 l h) (by omega)) h6b
    have hc8 := hw.2.1
    have hpz := hw.2.2.2.1 lx (by omega)
    refine x_iconst (pc := 11) (nI 0) d_R_constants_11 (by decide) ?_
    refine x_istore_n (pc := 12) d_R_constants_12 rfl (by decide) [(3, _), (0, _), (1, _), (2, _)] rfl ?_
    refine x_iconst (pc := 13) (nI 0) d_R_constants_13 (by decide) ?_
    refine x_istore (pc := 14) d_R_constants_14 (by decide) [(4, _), (3, _), (0, _), (1, _), (2, _)] rfl ?_
    have hlp : ∀ (fuel : Nat) (c : Nat), 8 - c < fuel → (c ≤ 8) → xj E l (rmm 2 43) c_R_constants 5 (some .int) R_R (gG D cI cL) A 0 0 (pI (qval an cnt prm (fun l j => orf (fun c => P (sl l j c)) 8) (nI lx) (nI ix)) (wR ad cI cL par prm siz atm cnt mo he en ap oc cal el eu ev ag an kk P Q S F R ch AP AQ)) 0 0 (wR ad cI cL par prm siz atm cnt mo he en ap oc cal el eu ev ag an kk P Q S F R ch AP AQ) 16 [(4, .int (nI c)), (3, .int (orf (fun c => P (sl lx ix c)) c)), (0, .ref (ad 0)), (1, .int (nI lx)), (2, .int (nI ix))] [] := by
      intro fuel
      induction fuel with
      | zero => intro c hf; exact absurd hf (Nat.not_lt_zero _)
      | succ fuel ih =>
        intro c hf hc
        refine x_iload (pc := 16) d_R_constants_16 0 rfl ?_
        refine x_bipush (pc := 18) (nI 8) d_R_constants_18 (by decide) ?_
        first | refine x_icmp_geN (pc := 20) (tgt := 48) d_R_constants_20 rfl (by omega) (by omega) ?_ ?_ | refine x_icmp_ge (pc := 20) (tgt := 48) d_R_constants_20 rfl ?_ ?_
        · intro h20
          refine x_iload_n (pc := 48) d_R_constants_48 1 rfl ?_
          refine x_iret (pc := 49) d_R_constants_49 rfl ?_
          have e1 : c = 8 := by omega
          rw [e1]
          exact ⟨congrArg (fun z => some (Value.int z)) ((qval_t (f := (fun l j => orf (fun c => P (sl l j c)) 8)) h6a h6b (by omega) (by omega)).symm), rfl⟩
        · intro h20
          refine x_iload_n (pc := 23) d_R_constants_23 1 rfl ?_
          refine x_aload_n (pc := 24) d_R_constants_24 2 rfl ?_
          refine x_get (pc := 25) (ci := 4) d_R_constants_25 in_R rfl 17 (by decide) k_R_41 0 rfl rfl ?_
          refine x_bipush (pc := 28) (nI 8) d_R_constants_28 (by decide) ?_
          refine x_iconst (pc := 30) (nI 3) d_R_constants_30 (by decide) ?_
          refine x_iload_n (pc := 31) d_R_constants_31 3 rfl ?_
          first | refine x_imulN (pc := 32) d_R_constants_32 ?_ | refine x_imul (pc := 32) d_R_constants_32 ?_
          refine x_iload_n (pc := 33) d_R_constants_33 4 rfl ?_
          first | refine x_iaddN (pc := 34) d_R_constants_34 ?_ | refine x_iadd (pc := 34) d_R_constants_34 ?_
          first | refine x_imulN (pc := 35) d_R_constants_35 ?_ | refine x_imul (pc := 35) d_R_constants_35 ?_
          refine x_iload (pc := 36) d_R_constants_36 0 rfl ?_
          first | refine x_iaddN (pc := 38) d_R_constants_38 ?_ | refine x_iadd (pc := 38) d_R_constants_38 ?_
          refine x_ti (y := nI (sl lx ix c)) (congrArg nI (by unfold sl; omega)) ?_
          refine x_ialdN (pc := 39) d_R_constants_39 10 0 rfl rfl (by omega) (sl_lt (by omega) (by omega) (by omega)) ?_
          refine x_ior (pc := 40) d_R_constants_40 ?_
          refine x_istore_n (pc := 41) d_R_constants_41 rfl (by decide) [(3, _), (4, _), (0, _), (1, _), (2, _)] rfl ?_
          refine x_iincN (pc := 42) d_R_constants_42 1 rfl (by decide) [(4, _), (3, _), (0, _), (1, _), (2, _)] rfl ?_
          refine x_goto (pc := 45) (tgt := 16) d_R_constants_45 rfl ?_
          refine x_sub [0, 1, 2, 3, 4] _ rfl ?_
          exact ih (c + 1) (by omega) (by omega)
    refine x_sub [0, 1, 2, 3, 4] _ rfl ?_
    exact hlp 9 0 (by omega) (by omega)
  · intro h6
    refine x_iconst (pc := 9) (-1) d_R_constants_9 (by decide) ?_
    refine x_iret (pc := 10) d_R_constants_10 rfl ?_
    rcases Bool.and_eq_false_iff.mp h6 with q | q
    · exact ⟨congrArg (fun z => some (Value.int z)) ((qval_0 q).symm), rfl⟩
    · exact ⟨congrArg (fun z => some (Value.int z)) ((qval_n q).symm), rfl⟩
set_option maxHeartbeats 4000000 in
set_option maxRecDepth 100000 in
theorem t_R_closures {x i : Int32} (hw : pwf cnt par prm siz atm) : CT l y_R_closures c_R_closures 7 (some .int) (rmm 2 43) (gG D cI cL) [.ref (ad 0), .int x, .int i] (wR ad cI cL par prm siz atm cnt mo he en ap oc cal el eu ev ag an kk P Q S F R ch AP AQ) (fun v w2 => (∃ l2 i2 r, an = true ∧ hpr cnt prm (nI l2) (nI i2) = true ∧ l2 < cnt ∧ i2 < prm l2 ∧ x = nI l2 ∧ i = nI i2 ∧ (∀ m, bt r m = true ↔ m < 8 ∧ clos Q l2 i2 m) ∧ v = some (.int r) ∧ w2 = (wR ad cI cL par prm siz atm cnt mo he en ap oc cal el eu ev ag an kk P Q S F R ch AP AQ)) ∨ ((an = false ∨ hpr cnt prm (x) (i) = false) ∧ v = some (.int (-1)) ∧ w2 = (wR ad cI cL par prm siz atm cnt mo he en ap oc cal el eu ev ag an kk P Q S F R ch AP AQ))) := by
  refine CT.of R_R (by decide) rfl (Nat.le_of_ble_eq_true rfl) ?_
  intro E A hname
  refine x_aload_n (pc := 0) d_R_closures_0 0 rfl ?_
  refine x_iload_n (pc := 1) d_R_closures_1 1 rfl ?_
  refine x_iload_n (pc := 2) d_R_closures_2 2 rfl ?_
  refine x_callV_I (pc := 3) (ci := 4) d_R_closures_3 k_R_155 wi_R_isParameter wv_R_isParameter w_R_isParameter ini_R wd_R_isParameter ⟨by decide, by decide⟩ ⟨rfl, rfl⟩ ⟨Nat.zero_le _, Nat.zero_le _⟩ 0 rfl rfl (t_R_isParameter hw.2.1) rfl rfl (Nat.le_of_ble_eq_true rfl) ?_
  first | refine x_if_neB (pc := 6) (tgt := 11) d_R_closures_6 rfl ?_ ?_ | refine x_if_neL (pc := 6) (tgt := 11) d_R_closures_6 rfl ?_ ?_ | refine x_if_neN (pc := 6) (tgt := 11) d_R_closures_6 rfl (by omega) ?_ ?_ | refine x_if_ne (pc := 6) (tgt := 11) d_R_closures_6 rfl ?_ ?_
  · intro h6
    obtain ⟨h6a, h6b⟩ := Bool.and_eq_true_iff.mp h6
    obtain ⟨lx, ix, hlx, hix, rfl, rfl⟩ := hpr_of hw.2.1 (fun l h => Nat.le_trans (hw.2.2.2.1 l h) (by omega)) h6b
    have hc8 := hw.2.1
    have hpz := hw.2.2.2.1 lx (by omega)
    refine x_iconst (pc := 11) (nI 0) d_R_closures_11 (by decide) ?_
    refine x_istore_n (pc := 12) d_R_closures_12 rfl (by decide) [(3, _), (0, _), (1, _), (2, _)] rfl ?_
    refine x_iconst (pc := 13) (nI 0) d_R_closures_13 (by decide) ?_
    refine x_istore (pc := 14) d_R_closures_14 (by decide) [(4, _), (3, _), (0, _), (1, _), (2, _)] rfl ?_
    have hlp : ∀ (fuel : Nat) (c : Nat) (r : Int32), 8 - c < fuel → (c ≤ 8) → (cck Q lx ix r (8 * c)) → xj E l (rmm 2 43) c_R_closures 7 (some .int) R_R (gG D cI cL) A 0 0 (fun v w2 => (∃ l2 i2 r, an = true ∧ hpr cnt prm (nI l2) (nI i2) = true ∧ l2 < cnt ∧ i2 < prm l2 ∧ nI lx = nI l2 ∧ nI ix = nI i2 ∧ (∀ m, bt r m = true ↔ m < 8 ∧ clos Q l2 i2 m) ∧ v = some (.int r) ∧ w2 = (wR ad cI cL par prm siz atm cnt mo he en ap oc cal el eu ev ag an kk P Q S F R ch AP AQ)) ∨ ((an = false ∨ hpr cnt prm (nI lx) (nI ix) = false) ∧ v = some (.int (-1)) ∧ w2 = (wR ad cI cL par prm siz atm cnt mo he en ap oc cal el eu ev ag an kk P Q S F R ch AP AQ))) 0 0 (wR ad cI cL par prm siz atm cnt mo he en ap oc cal el eu ev ag an kk P Q S F R ch AP AQ) 16 [(4, .int (nI c)), (3, .int r), (0, .ref (ad 0)), (1, .int (nI lx)), (2, .int (nI ix))] [] := by
      intro fuel
      induction fuel with
      | zero => intro c r hf; exact absurd hf (Nat.not_lt_zero _)
      | succ fuel ih =>
        intro c r hf hc hr
        refine x_iload (pc := 16) d_R_closures_16 0 rfl ?_
        refine x_bipush (pc := 18) (nI 8) d_R_closures_18 (by decide) ?_
        first | refine x_icmp_geN (pc := 20) (tgt := 99) d_R_closures_20 rfl (by omega) (by omega) ?_ ?_ | refine x_icmp_ge (pc := 20) (tgt := 99) d_R_closures_20 rfl ?_ ?_
        · intro h20
          refine x_iload_n (pc := 99) d_R_closures_99 1 rfl ?_
          refine x_iret (pc := 100) d_R_closures_100 rfl ?_
          have e2 : c = 8 := by omega
          rw [e2] at hr
          exact Or.inl ⟨lx, ix, r, h6a, h6b, hlx, hix, rfl, rfl, hr.all, rfl, rfl⟩
        · intro h20
          refine x_iconst (pc := 23) (nI 0) d_R_closures_23 (by decide) ?_
          refine x_istore (pc := 24) d_R_closures_24 (by decide) [(5, _), (4, _), (3, _), (0, _), (1, _), (2, _)] rfl ?_
          have hlq : ∀ (fuel : Nat) (m : Nat) (r2 : Int32), 8 - m < fuel → (m ≤ 8) → (cck Q lx ix r2 (8 * c + m)) → xj E l (rmm 2 43) c_R_closures 7 (some .int) R_R (gG D cI cL) A 0 0 (fun v w2 => (∃ l2 i2 r, an = true ∧ hpr cnt prm (nI l2) (nI i2) = true ∧ l2 < cnt ∧ i2 < prm l2 ∧ nI lx = nI l2 ∧ nI ix = nI i2 ∧ (∀ m, bt r m = true ↔ m < 8 ∧ clos Q l2 i2 m) ∧ v = some (.int r) ∧ w2 = (wR ad cI cL par prm siz atm cnt mo he en ap oc cal el eu ev ag an kk P Q S F R ch AP AQ)) ∨ ((an = false ∨ hpr cnt prm (nI lx) (nI ix) = false) ∧ v = some (.int (-1)) ∧ w2 = (wR ad cI cL par prm siz atm cnt mo he en ap oc cal el eu ev ag an kk P Q S F R ch AP AQ))) 0 0 (wR ad cI cL par prm siz atm cnt mo he en ap oc cal el eu ev ag an kk P Q S F R ch AP AQ) 26 [(5, .int (nI m)), (4, .int (nI c)), (3, .int r2), (0, .ref (ad 0)), (1, .int (nI lx)), (2, .int (nI ix))] [] := by
            intro fuel
            induction fuel with
            | zero => intro m r2 hf; exact absurd hf (Nat.not_lt_zero _)
            | succ fuel ihq =>
              intro m r2 hf hm hs
              refine x_iload (pc := 26) d_R_closures_26 0 rfl ?_
              refine x_bipush (pc := 28) (nI 8) d_R_closures_28 (by decide) ?_
              first | refine x_icmp_geN (pc := 30) (tgt := 93) d_R_closures_30 rfl (by omega) (by omega) ?_ ?_ | refine x_icmp_ge (pc := 30) (tgt := 93) d_R_closures_30 rfl ?_ ?_
              · intro h30
                refine x_iincN (pc := 93) d_R_closures_93 1 rfl (by decide) [(4, _), (5, _), (3, _), (0, _), (1, _), (2, _)] rfl ?_
                refine x_goto (pc := 96) (tgt := 16) d_R_closures_96 rfl ?_
                refine x_sub [0, 2, 3, 4, 5] _ rfl ?_
                have e1 : m = 8 := by omega
                rw [e1] at hs
                exact ih (c + 1) r2 (by omega) (by omega) hs
              · intro h30
                refine x_aload_n (pc := 33) d_R_closures_33 3 rfl ?_
                refine x_get (pc := 34) (ci := 4) d_R_closures_34 in_R rfl 18 (by decide) k_R_44 0 rfl rfl ?_
                refine x_bipush (pc := 37) (nI 8) d_R_closures_37 (by decide) ?_
                refine x_iconst (pc := 39) (nI 3) d_R_closures_39 (by decide) ?_
                refine x_iload_n (pc := 40) d_R_closures_40 4 rfl ?_
                first | refine x_imulN (pc := 41) d_R_closures_41 ?_ | refine x_imul (pc := 41) d_R_closures_41 ?_
                refine x_iload_n (pc := 42) d_R_closures_42 5 rfl ?_
                first | refine x_iaddN (pc := 43) d_R_closures_43 ?_ | refine x_iadd (pc := 43) d_R_closures_43 ?_
                first | refine x_imulN (pc := 44) d_R_closures_44 ?_ | refine x_imul (pc := 44) d_R_closures_44 ?_
                refine x_iload (pc := 45) d_R_closures_45 1 rfl ?_
                first | refine x_iaddN (pc := 47) d_R_closures_47 ?_ | refine x_iadd (pc := 47) d_R_closures_47 ?_
                refine x_ti (y := nI (sl lx ix c)) (congrArg nI (by unfold sl; omega)) ?_
                refine x_laldN (pc := 48) d_R_closures_48 11 1 rfl rfl (by omega) (sl_lt (by omega) (by omega) (by omega)) ?_
                refine x_bipush (pc := 49) (nI 8) d_R_closures_49 (by decide) ?_
                refine x_iload (pc := 51) d_R_closures_51 0 rfl ?_
                first | refine x_imulN (pc := 53) d_R_closures_53 ?_ | refine x_imul (pc := 53) d_R_closures_53 ?_
                refine x_lushr (pc := 54) d_R_closures_54 ?_
                refine x_ldc2 (pc := 55) d_R_closures_55 k_R_153 ?_
                refine x_land (pc := 58) d_R_closures_58 ?_
                refine x_tl (y := cw (Q (sl lx ix c)) m) rfl ?_
                refine x_lconst (pc := 59) 0 d_R_closures_59 (by decide) ?_
                refine x_lcmp (pc := 60) d_R_closures_60 ?_
                refine x_if_eqL (pc := 61) (tgt := 68) d_R_closures_61 rfl ?_ ?_
                · intro h61
                  refine x_iconst (pc := 68) (nI 0) d_R_closures_68 (by decide) ?_
                  refine x_istore (pc := 69) d_R_closures_69 (by decide) [(6, _), (5, _), (4, _), (3, _), (0, _), (1, _), (2, _)] rfl ?_
                  refine x_iload (pc := 71) d_R_closures_71 0 rfl ?_
                  refine x_if_eqN (pc := 73) (tgt := 85) d_R_closures_73 rfl (by decide) (fun _ => ?_) (fun q => absurd rfl q)
                  refine x_iload_n (pc := 85) d_R_closures_85 3 rfl ?_
                  refine x_istore_n (pc := 86) d_R_closures_86 rfl (by decide) [(3, _), (6, _), (5, _), (4, _), (0, _), (1, _), (2, _)] rfl ?_
                  refine x_iincN (pc := 87) d_R_closures_87 2 rfl (by decide) [(5, _), (3, _), (6, _), (4, _), (0, _), (1, _), (2, _)] rfl ?_
                  refine x_goto (pc := 90) (tgt := 26) d_R_closures_90 rfl ?_
                  refine x_sub [0, 3, 1, 4, 5, 6] _ rfl ?_
                  first
                    | exact ihq (m + 1) _ (by omega) (by omega) (hs.next (by omega) h61)
                    | exact ihq (m + 1) _ (by omega) (by omega) (hs.same (by omega) h61)
                · intro h61
                  refine x_iconst (pc := 64) (nI 1) d_R_closures_64 (by decide) ?_
                  refine x_goto (pc := 65) (tgt := 69) d_R_closures_65 rfl ?_
                  refine x_istore (pc := 69) d_R_closures_69 (by decide) [(6, _), (5, _), (4, _), (3, _), (0, _), (1, _), (2, _)] rfl ?_
                  refine x_iload (pc := 71) d_R_closures_71 0 rfl ?_
                  refine x_if_eqN (pc := 73) (tgt := 85) d_R_closures_73 rfl (by decide) (fun q => absurd q (by decide)) (fun _ => ?_)
                  refine x_iload_n (pc := 76) d_R_closures_76 3 rfl ?_
                  refine x_iconst (pc := 77) (nI 1) d_R_closures_77 (by decide) ?_
                  refine x_iload (pc := 78) d_R_closures_78 1 rfl ?_
                  refine x_ishl (pc := 80) d_R_closures_80 ?_
                  refine x_ior (pc := 81) d_R_closures_81 ?_
                  refine x_goto (pc := 82) (tgt := 86) d_R_closures_82 rfl ?_
                  refine x_istore_n (pc := 86) d_R_closures_86 rfl (by decide) [(3, _), (6, _), (5, _), (4, _), (0, _), (1, _), (2, _)] rfl ?_
                  refine x_iincN (pc := 87) d_R_closures_87 2 rfl (by decide) [(5, _), (3, _), (6, _), (4, _), (0, _), (1, _), (2, _)] rfl ?_
                  refine x_goto (pc := 90) (tgt := 26) d_R_closures_90 rfl ?_
                  refine x_sub [0, 3, 1, 4, 5, 6] _ rfl ?_
                  first
                    | exact ihq (m + 1) _ (by omega) (by omega) (hs.next (by omega) h61)
                    | exact ihq (m + 1) _ (by omega) (by omega) (hs.same (by omega) h61)
          refine x_sub [0, 1, 2, 3, 4, 5] _ rfl ?_
          exact hlq 9 0 r (by omega) (by omega) hr
    refine x_sub [0, 1, 2, 3, 4] _ rfl ?_
    exact hlp 9 0 (nI 0) (by omega) (by omega) (cck.zero Q lx ix)
  · intro h6
    refine x_iconst (pc := 9) (-1) d_R_closures_9 (by decide) ?_
    refine x_iret (pc := 10) d_R_closures_10 rfl ?_
    rcases Bool.and_eq_false_iff.mp h6 with q | q
    · exact Or.inr ⟨Or.inl q, rfl, rfl⟩
    · exact Or.inr ⟨Or.inr q, rfl, rfl⟩
set_option maxHeartbeats 4000000 in
set_option maxRecDepth 100000 in
theorem t_R_results  : CT l y_R_results c_R_results 1 (some .int) (rmm 0 0) (gG D cI cL) [.ref (ad 0)] (wR ad cI cL par prm siz atm cnt mo he en ap oc cal el eu ev ag an kk P Q S F R ch AP AQ) (pI (if an = true then R else -1) (wR ad cI cL par prm siz atm cnt mo he en ap oc cal el eu ev ag an kk P Q S F R ch AP AQ)) := by
  refine CT.of R_R (by decide) rfl (Nat.le_of_ble_eq_true rfl) ?_
  intro E A hname
  refine x_aload_n (pc := 0) d_R_results_0 0 rfl ?_
  refine x_get (pc := 1) (ci := 4) d_R_results_1 in_R rfl 15 (by decide) k_R_60 0 rfl rfl ?_
  first | refine x_if_eqB (pc := 4) (tgt := 14) d_R_results_4 rfl ?_ ?_ | refine x_if_eqL (pc := 4) (tgt := 14) d_R_results_4 rfl ?_ ?_ | refine x_if_eqN (pc := 4) (tgt := 14) d_R_results_4 rfl (by omega) ?_ ?_ | refine x_if_eq (pc := 4) (tgt := 14) d_R_results_4 rfl ?_ ?_
  · intro h4
    refine x_iconst (pc := 14) (-1) d_R_results_14 (by decide) ?_
    refine x_iret (pc := 15) d_R_results_15 rfl ?_
    first | exact ⟨congrArg (fun z => some (Value.int z)) (if_pos h4).symm, rfl⟩ | exact ⟨congrArg (fun z => some (Value.int z)) (if_neg (by rw [h4]; decide)).symm, rfl⟩
  · intro h4
    refine x_aload_n (pc := 7) d_R_results_7 0 rfl ?_
    refine x_get (pc := 8) (ci := 4) d_R_results_8 in_R rfl 21 (by decide) k_R_132 0 rfl rfl ?_
    refine x_goto (pc := 11) (tgt := 15) d_R_results_11 rfl ?_
    refine x_iret (pc := 15) d_R_results_15 rfl ?_
    first | exact ⟨congrArg (fun z => some (Value.int z)) (if_pos h4).symm, rfl⟩ | exact ⟨congrArg (fun z => some (Value.int z)) (if_neg (by rw [h4]; decide)).symm, rfl⟩
end REF9
