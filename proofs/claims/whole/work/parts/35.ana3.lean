section ANA3
variable {l : Launch} {D : va_G} {ad : Nat → Nat} {cI cL : ClassId} {par : Nat → Int32} {prm : Nat → Nat} {lin : Nat → Int32} {siz atm : Nat → Nat} {cnt : Nat} {own out bnd : Nat → Nat} {cal : Nat → Int32} {opr : Nat → Nat} {n ph oc : Nat} {P : Nat → Int32} {Q : Nat → Int64} {OC : Nat → Int32} {OP : Nat → Int64} {F : Nat → Int32} {S : Int64} {R : Int32} {vis nc : Nat} {gr md : Bool}
set_option maxHeartbeats 4000000 in
set_option maxRecDepth 100000 in
theorem t_A_visit {lx c k : Nat} (hw : pwf cnt par prm siz atm) (hli : linok cnt par lin) (hlx : lx < cnt) (hc : c < 8) (hk : k ≤ 1) (hO4 : OP 4 = 0) (hQ : ∀ s q, s < 192 → bl (Q s) q = true → q < 8 * cnt) : CT l y_A_visit c_A_visit 7 none (rmm 4 102) (gG D cI cL) [.ref (ad 3), .int (nI lx), .int (nI c), .int (nI k)] (wC ad cI cL par prm lin siz atm cnt own out bnd cal opr n ph oc P Q OC OP F S R vis nc gr md) (fun v w2 => v = none ∧ ∃ P2 Q2 S2 F2 R2 g2 OC2 OP2 vis2 nc2, apc (fun X Y => 0 < siz lx → avis cnt (anc par) prm siz atm k lx c X Y) gr (ofw P Q S F R) g2 (ofw P2 Q2 S2 F2 R2) ∧ OP2 4 = 0 ∧ w2 = (wC ad cI cL par prm lin siz atm cnt own out bnd cal opr n ph oc P2 Q2 OC2 OP2 F2 S2 R2 vis2 nc2 g2 md)) := by
  refine CT.of R_A (by decide) rfl (Nat.le_of_ble_eq_true rfl) ?_
  intro E A hname
  have hc8 : cnt ≤ 8 := hw.2.1
  have hlx8 : lx < 8 := by omega
  have hz4 := hw.2.2.2.2.2.1 lx hlx8
  have hto : (if k = 1 then lx else 0) < 8 := by split <;> omega
  have hc32 : (¬ siz lx = 0) → xj E l (rmm 4 102) c_A_visit 7 none R_A (gG D cI cL) A 0 0 (fun v w2 => v = none ∧ ∃ P2 Q2 S2 F2 R2 g2 OC2 OP2 vis2 nc2, apc (fun X Y => 0 < siz lx → avis cnt (anc par) prm siz atm k lx c X Y) gr (ofw P Q S F R) g2 (ofw P2 Q2 S2 F2 R2) ∧ OP2 4 = 0 ∧ w2 = (wC ad cI cL par prm lin siz atm cnt own out bnd cal opr n ph oc P2 Q2 OC2 OP2 F2 S2 R2 vis2 nc2 g2 md)) 0 0 (wC ad cI cL par prm lin siz atm cnt own out bnd cal opr n ph oc P Q OC OP F S R lx nc gr md) 32 [(4, .int (nI (siz lx))), (0, .ref (ad 3)), (1, .int (nI lx)), (2, .int (nI c)), (3, .int (nI k))] [.int (nI (if k = 1 then lx else 0)), .ref (ad 3)] := by
    intro hz
    refine x_put (pc := 32) (ci := 0) (ty := .int) d_A_visit_32 in_A t_A ty_A nm_A rfl 9 (by decide) k_A_94 rfl (by decide +kernel) rfl rfl 3 rfl (Nat.le_of_ble_eq_true rfl) (_) (rfl) ?_
    refine x_iconst (pc := 35) (nI 0) d_A_visit_35 (by decide) ?_
    refine x_istore (pc := 36) d_A_visit_36 (by decide) [(5, _), (4, _), (0, _), (1, _), (2, _), (3, _)] rfl ?_
    have hlp : ∀ (fuel : Nat) (i : Nat) (OC1 : Nat → Int32) (OP1 : Nat → Int64), siz lx - i < fuel → (i ≤ siz lx) → (∀ j, j < i → ldok atm (ofw P Q S F R) lx c j (OC1 j) (OP1 j)) → (OP1 4 = 0) → xj E l (rmm 4 102) c_A_visit 7 none R_A (gG D cI cL) A 0 0 (fun v w2 => v = none ∧ ∃ P2 Q2 S2 F2 R2 g2 OC2 OP2 vis2 nc2, apc (fun X Y => 0 < siz lx → avis cnt (anc par) prm siz atm k lx c X Y) gr (ofw P Q S F R) g2 (ofw P2 Q2 S2 F2 R2) ∧ OP2 4 = 0 ∧ w2 = (wC ad cI cL par prm lin siz atm cnt own out bnd cal opr n ph oc P2 Q2 OC2 OP2 F2 S2 R2 vis2 nc2 g2 md)) 0 0 (wC ad cI cL par prm lin siz atm cnt own out bnd cal opr n ph oc P Q OC1 OP1 F S R lx (if k = 1 then lx else 0) gr md) 38 [(5, .int (nI i)), (4, .int (nI (siz lx))), (0, .ref (ad 3)), (1, .int (nI lx)), (2, .int (nI c)), (3, .int (nI k))] [] := by
      intro fuel
      induction fuel with
      | zero => intro i OC1 OP1 hf; exact absurd hf (Nat.not_lt_zero _)
      | succ fuel ih =>
        intro i OC1 OP1 hf hi hld ho4
        refine x_iload (pc := 38) d_A_visit_38 0 rfl ?_
        refine x_iload (pc := 40) d_A_visit_40 1 rfl ?_
        first | refine x_icmp_geN (pc := 42) (tgt := 68) d_A_visit_42 rfl (by omega) (by omega) ?_ ?_ | refine x_icmp_ge (pc := 42) (tgt := 68) d_A_visit_42 rfl ?_ ?_
        · intro h42
          have e1 : i = siz lx := by omega
          have hOO : ∀ j, j < siz lx → ∀ q, bl (OP1 j) q = true → q < 8 * cnt := fun j hj q hq => an_p_lt hw hQ hlx hc hj (((hld j (by omega)).2 q).mp hq)
          clear ih hf
          refine x_aload_n (pc := 68) d_A_visit_68 2 rfl ?_
          refine x_iconst (pc := 69) (nI 0) d_A_visit_69 (by decide) ?_
          refine x_iconst (pc := 70) (nI 1) d_A_visit_70 (by decide) ?_
          refine x_iload (pc := 71) d_A_visit_71 1 rfl ?_
          refine x_iconst (pc := 73) (nI 1) d_A_visit_73 (by decide) ?_
          first | refine x_isubN (pc := 74) d_A_visit_74 (by omega) ?_ | refine x_isub (pc := 74) d_A_visit_74 ?_
          refine x_callV_X (pc := 75) (ci := 0) d_A_visit_75 k_A_104 wi_A_applyDirectly wv_A_applyDirectly w_A_applyDirectly ini_A wd_A_applyDirectly ⟨by decide, by decide⟩ ⟨rfl, rfl⟩ ⟨Nat.zero_le _, Nat.zero_le _⟩ 3 rfl rfl (t_A_applyDirectly (op := 0) (first := 1) hw hli hto hlx8 (by omega) (by omega) (by omega) (hOO 0 (by omega))) rfl rfl (Nat.le_of_ble_eq_true rfl) (fun v75 w75 hp75 => ?_)
          obtain ⟨rfl, Pa, Qa, Sa, Fa, Ra, ga, hap1, rfl⟩ := hp75
          have hn1 := adir_1 (by omega) hap1
          have hc94 : xj E l (rmm 4 102) c_A_visit 7 none R_A (gG D cI cL) A 0 0 (fun v w2 => v = none ∧ ∃ P2 Q2 S2 F2 R2 g2 OC2 OP2 vis2 nc2, apc (fun X Y => 0 < siz lx → avis cnt (anc par) prm siz atm k lx c X Y) gr (ofw P Q S F R) g2 (ofw P2 Q2 S2 F2 R2) ∧ OP2 4 = 0 ∧ w2 = (wC ad cI cL par prm lin siz atm cnt own out bnd cal opr n ph oc P2 Q2 OC2 OP2 F2 S2 R2 vis2 nc2 g2 md)) 0 0 (wC ad cI cL par prm lin siz atm cnt own out bnd cal opr n ph oc Pa Qa OC1 OP1 Fa Sa Ra lx (if k = 1 then lx else 0) ga md) 94 [(4, .int (nI (siz lx))), (0, .ref (ad 3)), (1, .int (nI lx)), (2, .int (nI c)), (3, .int (nI k))] [.int (opw (siz lx) (OC1 0))] := by
            refine x_istore (pc := 94) d_A_visit_94 (by decide) [(5, _), (4, _), (0, _), (1, _), (2, _), (3, _)] rfl ?_
            have hc148 : ∀ (OC3 : Nat → Int32) (Pb : Nat → Int32) (Qb : Nat → Int64) (Sb : Int64) (Fb : Nat → Int32) (Rb : Int32) (gb : Bool), (∀ j, j < 4 → OC3 j = OC1 j) → (apc (aN2 cnt par prm (siz lx) (if k = 1 then lx else 0) lx (cC OC1) (cB OP1)) ga (ofw Pa Qa Sa Fa Ra) gb (ofw Pb Qb Sb Fb Rb)) → xj E l (rmm 4 102) c_A_visit 7 none R_A (gG D cI cL) A 0 0 (fun v w2 => v = none ∧ ∃ P2 Q2 S2 F2 R2 g2 OC2 OP2 vis2 nc2, apc (fun X Y => 0 < siz lx → avis cnt (anc par) prm siz atm k lx c X Y) gr (ofw P Q S F R) g2 (ofw P2 Q2 S2 F2 R2) ∧ OP2 4 = 0 ∧ w2 = (wC ad cI cL par prm lin siz atm cnt own out bnd cal opr n ph oc P2 Q2 OC2 OP2 F2 S2 R2 vis2 nc2 g2 md)) 0 0 (wC ad cI cL par prm lin siz atm cnt own out bnd cal opr n ph oc Pb Qb OC3 OP1 Fb Sb Rb lx (if k = 1 then lx else 0) gb md) 148 [(5, .int (opw (siz lx) (OC1 0))), (6, .int (OC1 1 &&& nI 1023)), (4, .int (nI (siz lx))), (0, .ref (ad 3)), (1, .int (nI lx)), (2, .int (nI c)), (3, .int (nI k))] [] := by
              intro OC3 Pb Qb Sb Fb Rb gb h3 hn2
              have hc178 : ∀ (Pc : Nat → Int32) (Qc : Nat → Int64) (Sc : Int64) (Fc : Nat → Int32) (Rc : Int32) (gc : Bool), (apc (aN3 cnt par prm (siz lx) (if k = 1 then lx else 0) lx (cC OC1) (cB OP1)) gb (ofw Pb Qb Sb Fb Rb) gc (ofw Pc Qc Sc Fc Rc)) → xj E l (rmm 4 102) c_A_visit 7 none R_A (gG D cI cL) A 0 0 (fun v w2 => v = none ∧ ∃ P2 Q2 S2 F2 R2 g2 OC2 OP2 vis2 nc2, apc (fun X Y => 0 < siz lx → avis cnt (anc par) prm siz atm k lx c X Y) gr (ofw P Q S F R) g2 (ofw P2 Q2 S2 F2 R2) ∧ OP2 4 = 0 ∧ w2 = (wC ad cI cL par prm lin siz atm cnt own out bnd cal opr n ph oc P2 Q2 OC2 OP2 F2 S2 R2 vis2 nc2 g2 md)) 0 0 (wC ad cI cL par prm lin siz atm cnt own out bnd cal opr n ph oc Pc Qc OC3 OP1 Fc Sc Rc lx (if k = 1 then lx else 0) gc md) 178 [(5, .int (opw (siz lx) (OC1 0))), (6, .int (OC1 1 &&& nI 1023)), (4, .int (nI (siz lx))), (0, .ref (ad 3)), (1, .int (nI lx)), (2, .int (nI c)), (3, .int (nI k))] [] := by
                intro Pc Qc Sc Fc Rc gc hn3
                refine x_iload (pc := 178) d_A_visit_178 0 rfl ?_
                refine x_sipush (pc := 180) (nI 302) d_A_visit_180 (by decide) ?_
                refine x_callS_I (pc := 183) d_A_visit_183 k_A_107 ws_A_constantBit w_A_constantBit ini_A wd_A_constantBit ⟨by decide, by decide⟩ ⟨rfl, rfl⟩ ⟨Nat.zero_le _, Nat.zero_le _⟩ (t_A_constantBit (x := 302) (Or.inr (by decide)) (by decide)) rfl rfl (Nat.le_of_ble_eq_true rfl) ?_
                rw [show cbit 302 = 12 from rfl]
                refine x_callSN_I (pc := 186) d_A_visit_186 k_A_110 ws_C_has w_C_has ini_C wd_C_has ⟨by decide, by decide⟩ ⟨rfl, rfl⟩ ⟨Nat.zero_le _, Nat.zero_le _⟩ (t_C_has (by decide)) rfl rfl (Nat.le_of_ble_eq_true rfl) ?_
                first | refine x_if_eqB (pc := 189) (tgt := 205) d_A_visit_189 rfl ?_ ?_ | refine x_if_eqL (pc := 189) (tgt := 205) d_A_visit_189 rfl ?_ ?_ | refine x_if_eqN (pc := 189) (tgt := 205) d_A_visit_189 rfl (by omega) ?_ ?_ | refine x_if_eq (pc := 189) (tgt := 205) d_A_visit_189 rfl ?_ ?_
                · intro h189
                  refine x_vret (pc := 205) d_A_visit_205 rfl ?_
                  have fin : ∀ {Xd : AX} {gd : Bool}, apc (aN4 cnt par prm (siz lx) (if k = 1 then lx else 0) lx (cC OC1) (cB OP1)) gc (ofw Pc Qc Sc Fc Rc) gd Xd → apc (fun X Y => 0 < siz lx → avis cnt (anc par) prm siz atm k lx c X Y) gr (ofw P Q S F R) gd Xd := fun h4 => (avis.of (fun j b hj => (hld j (by omega)).1 b) (fun j b hj => (hld j (by omega)).2 b) (avis_all hn1 hn2 hn3 h4)).conv (fun Z _ q => q (by omega)) (fun q _ => q)
                  first
                    | exact ⟨rfl, Pd, Qd, Sd, Fd, Rd, gd, OC3, OP1, _, _, fin ((adir_3 (OP := OP1) (op := 3) hap4).conv (fun _ _ q => q h12b.1 h12b.2 (gt1.mp h195)) (fun q _ _ _ => q)), ho4, rfl⟩
                    | exact ⟨rfl, Pc, Qc, Sc, Fc, Rc, gc, OC3, OP1, _, _, fin ((apc.skip gc _).conv (fun _ _ _ => trivial) (fun _ e q _ => bno (opw_f h189 e) q)), ho4, rfl⟩
                    | exact ⟨rfl, Pc, Qc, Sc, Fc, Rc, gc, OC3, OP1, _, _, fin ((apc.skip gc _).conv (fun _ _ _ => trivial) (fun _ e _ q => absurd h195 (gt1.mpr q))), ho4, rfl⟩
                · intro h189
                  have h12b := opw_t h189
                  refine x_iload (pc := 192) d_A_visit_192 1 rfl ?_
                  refine x_iconst (pc := 194) (nI 1) d_A_visit_194 (by decide) ?_
                  refine x_icmp_le (pc := 195) (tgt := 205) d_A_visit_195 rfl ?_ ?_
                  · intro h195
                    refine x_vret (pc := 205) d_A_visit_205 rfl ?_
                    have fin : ∀ {Xd : AX} {gd : Bool}, apc (aN4 cnt par prm (siz lx) (if k = 1 then lx else 0) lx (cC OC1) (cB OP1)) gc (ofw Pc Qc Sc Fc Rc) gd Xd → apc (fun X Y => 0 < siz lx → avis cnt (anc par) prm siz atm k lx c X Y) gr (ofw P Q S F R) gd Xd := fun h4 => (avis.of (fun j b hj => (hld j (by omega)).1 b) (fun j b hj => (hld j (by omega)).2 b) (avis_all hn1 hn2 hn3 h4)).conv (fun Z _ q => q (by omega)) (fun q _ => q)
                    first
                      | exact ⟨rfl, Pd, Qd, Sd, Fd, Rd, gd, OC3, OP1, _, _, fin ((adir_3 (OP := OP1) (op := 3) hap4).conv (fun _ _ q => q h12b.1 h12b.2 (gt1.mp h195)) (fun q _ _ _ => q)), ho4, rfl⟩
                      | exact ⟨rfl, Pc, Qc, Sc, Fc, Rc, gc, OC3, OP1, _, _, fin ((apc.skip gc _).conv (fun _ _ _ => trivial) (fun _ e q _ => bno (opw_f h189 e) q)), ho4, rfl⟩
                      | exact ⟨rfl, Pc, Qc, Sc, Fc, Rc, gc, OC3, OP1, _, _, fin ((apc.skip gc _).conv (fun _ _ _ => trivial) (fun _ e _ q => absurd h195 (gt1.mpr q))), ho4, rfl⟩
                  · intro h195
                    refine x_aload_n (pc := 198) d_A_visit_198 3 rfl ?_
                    refine x_iconst (pc := 199) (nI 3) d_A_visit_199 (by decide) ?_
                    refine x_iconst (pc := 200) (nI 1) d_A_visit_200 (by decide) ?_
                    refine x_iconst (pc := 201) (nI 0) d_A_visit_201 (by decide) ?_
                    refine x_callV_X (pc := 202) (ci := 0) d_A_visit_202 k_A_104 wi_A_applyDirectly wv_A_applyDirectly w_A_applyDirectly ini_A wd_A_applyDirectly ⟨by decide, by decide⟩ ⟨rfl, rfl⟩ ⟨Nat.zero_le _, Nat.zero_le _⟩ 3 rfl rfl (t_A_applyDirectly (op := 3) (first := 1) hw hli hto hlx8 (by omega) (by omega) (by omega) (hOO 3 (by omega))) rfl rfl (Nat.le_of_ble_eq_true rfl) (fun v202 w202 hp202 => ?_)
                    obtain ⟨rfl, Pd, Qd, Sd, Fd, Rd, gd, hap4, rfl⟩ := hp202
                    refine x_vret (pc := 205) d_A_visit_205 rfl ?_
                    have fin : ∀ {Xd : AX} {gd : Bool}, apc (aN4 cnt par prm (siz lx) (if k = 1 then lx else 0) lx (cC OC1) (cB OP1)) gc (ofw Pc Qc Sc Fc Rc) gd Xd → apc (fun X Y => 0 < siz lx → avis cnt (anc par) prm siz atm k lx c X Y) gr (ofw P Q S F R) gd Xd := fun h4 => (avis.of (fun j b hj => (hld j (by omega)).1 b) (fun j b hj => (hld j (by omega)).2 b) (avis_all hn1 hn2 hn3 h4)).conv (fun Z _ q => q (by omega)) (fun q _ => q)
                    first
                      | exact ⟨rfl, Pd, Qd, Sd, Fd, Rd, gd, OC3, OP1, _, _, fin ((adir_3 (OP := OP1) (op := 3) hap4).conv (fun _ _ q => q h12b.1 h12b.2 (gt1.mp h195)) (fun q _ _ _ => q)), ho4, rfl⟩
                      | exact ⟨rfl, Pc, Qc, Sc, Fc, Rc, gc, OC3, OP1, _, _, fin ((apc.skip gc _).conv (fun _ _ _ => trivial) (fun _ e q _ => bno (opw_f h189 e) q)), ho4, rfl⟩
                      | exact ⟨rfl, Pc, Qc, Sc, Fc, Rc, gc, OC3, OP1, _, _, fin ((apc.skip gc _).conv (fun _ _ _ => trivial) (fun _ e _ q => absurd h195 (gt1.mpr q))), ho4, rfl⟩
              refine x_iload (pc := 148) d_A_visit_148 0 rfl ?_
              refine x_sipush (pc := 150) (nI 302) d_A_visit_150 (by decide) ?_
              refine x_callS_I (pc := 153) d_A_visit_153 k_A_107 ws_A_constantBit w_A_constantBit ini_A wd_A_constantBit ⟨by decide, by decide⟩ ⟨rfl, rfl⟩ ⟨Nat.zero_le _, Nat.zero_le _⟩ (t_A_constantBit (x := 302) (Or.inr (by decide)) (by decide)) rfl rfl (Nat.le_of_ble_eq_true rfl) ?_
              rw [show cbit 302 = 12 from rfl]
              refine x_callSN_I (pc := 156) d_A_visit_156 k_A_110 ws_C_has w_C_has ini_C wd_C_has ⟨by decide, by decide⟩ ⟨rfl, rfl⟩ ⟨Nat.zero_le _, Nat.zero_le _⟩ (t_C_has (by decide)) rfl rfl (Nat.le_of_ble_eq_true rfl) ?_
              first | refine x_if_eqB (pc := 159) (tgt := 178) d_A_visit_159 rfl ?_ ?_ | refine x_if_eqL (pc := 159) (tgt := 178) d_A_visit_159 rfl ?_ ?_ | refine x_if_eqN (pc := 159) (tgt := 178) d_A_visit_159 rfl (by omega) ?_ ?_ | refine x_if_eq (pc := 159) (tgt := 178) d_A_visit_159 rfl ?_ ?_
              · intro h159
                refine x_sub [0, 1, 2, 3, 4, 5, 6] _ rfl ?_
                first
                  | exact hc178 Pc Qc Sc Fc Rc gc ((adir_3 (OP := OP1) (op := 2) hap3).conv (fun _ _ q => q h12b.1 h12b.2 (mask_0 h168)) (fun q _ _ _ => q))
                  | exact hc178 Pb Qb Sb Fb Rb gb ((apc.skip gb _).conv (fun _ _ _ => trivial) (fun _ e q _ => bno (opw_f h159 e) q))
                  | exact hc178 Pb Qb Sb Fb Rb gb ((apc.skip gb _).conv (fun _ _ _ => trivial) (fun _ e _ q => bno (mask_0f h168) q))
              · intro h159
                have h12b := opw_t h159
                refine x_iload (pc := 162) d_A_visit_162 1 rfl ?_
                refine x_iconst (pc := 164) (nI 0) d_A_visit_164 (by decide) ?_
                refine x_callSN_I (pc := 165) d_A_visit_165 k_A_110 ws_C_has w_C_has ini_C wd_C_has ⟨by decide, by decide⟩ ⟨rfl, rfl⟩ ⟨Nat.zero_le _, Nat.zero_le _⟩ (t_C_has (j := 0) (by decide)) rfl rfl (Nat.le_of_ble_eq_true rfl) ?_
                first | refine x_if_eqB (pc := 168) (tgt := 178) d_A_visit_168 rfl ?_ ?_ | refine x_if_eqL (pc := 168) (tgt := 178) d_A_visit_168 rfl ?_ ?_ | refine x_if_eqN (pc := 168) (tgt := 178) d_A_visit_168 rfl (by omega) ?_ ?_ | refine x_if_eq (pc := 168) (tgt := 178) d_A_visit_168 rfl ?_ ?_
                · intro h168
                  refine x_sub [0, 1, 2, 3, 4, 5, 6] _ rfl ?_
                  first
                    | exact hc178 Pc Qc Sc Fc Rc gc ((adir_3 (OP := OP1) (op := 2) hap3).conv (fun _ _ q => q h12b.1 h12b.2 (mask_0 h168)) (fun q _ _ _ => q))
                    | exact hc178 Pb Qb Sb Fb Rb gb ((apc.skip gb _).conv (fun _ _ _ => trivial) (fun _ e q _ => bno (opw_f h159 e) q))
                    | exact hc178 Pb Qb Sb Fb Rb gb ((apc.skip gb _).conv (fun _ _ _ => trivial) (fun _ e _ q => bno (mask_0f h168) q))
                · intro h168
                  refine x_aload_n (pc := 171) d_A_visit_171 3 rfl ?_
                  refine x_iconst (pc := 172) (nI 2) d_A_visit_172 (by decide) ?_
                  refine x_iconst (pc := 173) (nI 1) d_A_visit_173 (by decide) ?_
                  refine x_iconst (pc := 174) (nI 0) d_A_visit_174 (by decide) ?_
                  refine x_callV_X (pc := 175) (ci := 0) d_A_visit_175 k_A_104 wi_A_applyDirectly wv_A_applyDirectly w_A_applyDirectly ini_A wd_A_applyDirectly ⟨by decide, by decide⟩ ⟨rfl, rfl⟩ ⟨Nat.zero_le _, Nat.zero_le _⟩ 3 rfl rfl (t_A_applyDirectly (op := 2) (first := 1) hw hli hto hlx8 (by omega) (by omega) (by omega) (hOO 2 (by omega))) rfl rfl (Nat.le_of_ble_eq_true rfl) (fun v175 w175 hp175 => ?_)
                  obtain ⟨rfl, Pc, Qc, Sc, Fc, Rc, gc, hap3, rfl⟩ := hp175
                  refine x_sub [0, 1, 2, 3, 4, 5, 6] _ rfl ?_
                  first
                    | exact hc178 Pc Qc Sc Fc Rc gc ((adir_3 (OP := OP1) (op := 2) hap3).conv (fun _ _ q => q h12b.1 h12b.2 (mask_0 h168)) (fun q _ _ _ => q))
                    | exact hc178 Pb Qb Sb Fb Rb gb ((apc.skip gb _).conv (fun _ _ _ => trivial) (fun _ e q _ => bno (opw_f h159 e) q))
                    | exact hc178 Pb Qb Sb Fb Rb gb ((apc.skip gb _).conv (fun _ _ _ => trivial) (fun _ e _ q => bno (mask_0f h168) q))
            refine x_aload_n (pc := 96) d_A_visit_96 2 rfl ?_
            refine x_get (pc := 97) (ci := 0) d_A_visit_97 in_A rfl 3 (by decide) k_A_19 3 rfl rfl ?_
            refine x_iconst (pc := 100) (nI 1) d_A_visit_100 (by decide) ?_
            refine x_ialdN (pc := 101) d_A_visit_101 16 0 rfl rfl (by omega) (by omega) ?_
            refine x_sipush (pc := 102) (nI 1023) d_A_visit_102 (by decide) ?_
            refine x_iand (pc := 105) d_A_visit_105 ?_
            refine x_istore (pc := 106) d_A_visit_106 (by decide) [(6, _), (5, _), (4, _), (0, _), (1, _), (2, _), (3, _)] rfl ?_
            refine x_iload (pc := 108) d_A_visit_108 1 rfl ?_
            refine x_sipush (pc := 110) (nI 301) d_A_visit_110 (by decide) ?_
            refine x_callS_I (pc := 113) d_A_visit_113 k_A_107 ws_A_constantBit w_A_constantBit ini_A wd_A_constantBit ⟨by decide, by decide⟩ ⟨rfl, rfl⟩ ⟨Nat.zero_le _, Nat.zero_le _⟩ (t_A_constantBit (x := 301) (Or.inr (by decide)) (by decide)) rfl rfl (Nat.le_of_ble_eq_true rfl) ?_
            rw [show cbit 301 = 11 from rfl]
            refine x_callSN_I (pc := 116) d_A_visit_116 k_A_110 ws_C_has w_C_has ini_C wd_C_has ⟨by decide, by decide⟩ ⟨rfl, rfl⟩ ⟨Nat.zero_le _, Nat.zero_le _⟩ (t_C_has (by decide)) rfl rfl (Nat.le_of_ble_eq_true rfl) ?_
            first | refine x_if_eqB (pc := 119) (tgt := 148) d_A_visit_119 rfl ?_ ?_ | refine x_if_eqL (pc := 119) (tgt := 148) d_A_visit_119 rfl ?_ ?_ | refine x_if_eqN (pc := 119) (tgt := 148) d_A_visit_119 rfl (by omega) ?_ ?_ | refine x_if_eq (pc := 119) (tgt := 148) d_A_visit_119 rfl ?_ ?_
            · intro h119
              refine x_sub [1, 0, 2, 3, 4, 5, 6] _ rfl ?_
              first
                | exact hc148 (upd OC1 4 sm) Pb Qb Sb Fb Rb gb (fun j hj => upd_ne _ _ (by omega)) hn2
                | exact hc148 OC1 Pa Qa Sa Fa Ra ga (fun j hj => rfl) ((apc.skip ga _).conv (fun _ _ _ => trivial) (fun _ e q _ => bno (opw_f h119 e) q))
                | exact hc148 (upd OC1 4 sm) Pa Qa Sa Fa Ra ga (fun j hj => upd_ne _ _ (by omega)) ((apc.skip ga _).conv (fun _ _ _ => trivial) (fun _ e q s => absurd s (fun s => sum_none hsm h138 s)))
            · intro h119
              have h11 := opw_t h119
              refine x_aload_n (pc := 122) d_A_visit_122 3 rfl ?_
              refine x_iload (pc := 123) d_A_visit_123 0 rfl ?_
              refine x_aload_n (pc := 125) d_A_visit_125 3 rfl ?_
              refine x_get (pc := 126) (ci := 0) d_A_visit_126 in_A rfl 3 (by decide) k_A_19 3 rfl rfl ?_
              refine x_iconst (pc := 129) (nI 2) d_A_visit_129 (by decide) ?_
              refine x_ialdN (pc := 130) d_A_visit_130 16 0 rfl rfl (by omega) (by omega) ?_
              refine x_sipush (pc := 131) (nI 1023) d_A_visit_131 (by decide) ?_
              refine x_iand (pc := 134) d_A_visit_134 ?_
              refine x_callV_X (pc := 135) (ci := 0) d_A_visit_135 k_A_114 wi_A_loadSums wv_A_loadSums w_A_loadSums ini_A wd_A_loadSums ⟨by decide, by decide⟩ ⟨rfl, rfl⟩ ⟨Nat.zero_le _, Nat.zero_le _⟩ 3 rfl rfl (t_A_loadSums (fun y hy => mask_lt y hy)) rfl rfl (Nat.le_of_ble_eq_true rfl) (fun v135 w135 hp135 => ?_)
              obtain ⟨sm, hsm, rfl, rfl⟩ := hp135
              have hsm := sum_mask hsm
              first | refine x_if_eqB (pc := 138) (tgt := 148) d_A_visit_138 rfl ?_ ?_ | refine x_if_eqL (pc := 138) (tgt := 148) d_A_visit_138 rfl ?_ ?_ | refine x_if_eqN (pc := 138) (tgt := 148) d_A_visit_138 rfl (by omega) ?_ ?_ | refine x_if_eq (pc := 138) (tgt := 148) d_A_visit_138 rfl ?_ ?_
              · intro h138
                refine x_sub [1, 0, 2, 3, 4, 5, 6] _ rfl ?_
                first
                  | exact hc148 (upd OC1 4 sm) Pb Qb Sb Fb Rb gb (fun j hj => upd_ne _ _ (by omega)) hn2
                  | exact hc148 OC1 Pa Qa Sa Fa Ra ga (fun j hj => rfl) ((apc.skip ga _).conv (fun _ _ _ => trivial) (fun _ e q _ => bno (opw_f h119 e) q))
                  | exact hc148 (upd OC1 4 sm) Pa Qa Sa Fa Ra ga (fun j hj => upd_ne _ _ (by omega)) ((apc.skip ga _).conv (fun _ _ _ => trivial) (fun _ e q s => absurd s (fun s => sum_none hsm h138 s)))
              · intro h138
                refine x_aload_n (pc := 141) d_A_visit_141 3 rfl ?_
                refine x_iconst (pc := 142) (nI 3) d_A_visit_142 (by decide) ?_
                refine x_iconst (pc := 143) (nI 4) d_A_visit_143 (by decide) ?_
                refine x_iconst (pc := 144) (nI 1) d_A_visit_144 (by decide) ?_
                refine x_callV_X (pc := 145) (ci := 0) d_A_visit_145 k_A_104 wi_A_applyDirectly wv_A_applyDirectly w_A_applyDirectly ini_A wd_A_applyDirectly ⟨by decide, by decide⟩ ⟨rfl, rfl⟩ ⟨Nat.zero_le _, Nat.zero_le _⟩ 3 rfl rfl (t_A_applyDirectly (op := 3) (first := 4) hw hli hto hlx8 (by omega) (by omega) (by omega) (hOO 3 (by omega))) rfl rfl (Nat.le_of_ble_eq_true rfl) (fun v145 w145 hp145 => ?_)
                obtain ⟨rfl, Pb, Qb, Sb, Fb, Rb, gb, hap2, rfl⟩ := hp145
                have hn2 := adir_2 (n := siz lx) (OC := OC1) (OC3 := upd OC1 4 sm) rfl rfl ho4 hsm (of_decide_eq_true h138) h11 hap2
                refine x_sub [1, 0, 2, 3, 4, 5, 6] _ rfl ?_
                first
                  | exact hc148 (upd OC1 4 sm) Pb Qb Sb Fb Rb gb (fun j hj => upd_ne _ _ (by omega)) hn2
                  | exact hc148 OC1 Pa Qa Sa Fa Ra ga (fun j hj => rfl) ((apc.skip ga _).conv (fun _ _ _ => trivial) (fun _ e q _ => bno (opw_f h119 e) q))
                  | exact hc148 (upd OC1 4 sm) Pa Qa Sa Fa Ra ga (fun j hj => upd_ne _ _ (by omega)) ((apc.skip ga _).conv (fun _ _ _ => trivial) (fun _ e q s => absurd s (fun s => sum_none hsm h138 s)))
          refine x_iload (pc := 78) d_A_visit_78 1 rfl ?_
          refine x_iconst (pc := 80) (nI 4) d_A_visit_80 (by decide) ?_
          first | refine x_icmp_neN (pc := 81) (tgt := 93) d_A_visit_81 rfl (by omega) (by omega) ?_ ?_ | refine x_icmp_ne (pc := 81) (tgt := 93) d_A_visit_81 rfl ?_ ?_
          · intro h81
            refine x_iconst (pc := 93) (nI 0) d_A_visit_93 (by decide) ?_
            refine x_sub [1, 2, 3, 4, 5] _ rfl ?_
            first | (refine x_ti (show OC1 0 = (opw (siz lx) (OC1 0)) from (if_pos h81).symm) ?_; exact hc94) | (refine x_ti (show nI 0 = (opw (siz lx) (OC1 0)) from (if_neg h81).symm) ?_; exact hc94)
          · intro h81
            refine x_aload_n (pc := 84) d_A_visit_84 2 rfl ?_
            refine x_get (pc := 85) (ci := 0) d_A_visit_85 in_A rfl 3 (by decide) k_A_19 3 rfl rfl ?_
            refine x_iconst (pc := 88) (nI 0) d_A_visit_88 (by decide) ?_
            refine x_ialdN (pc := 89) d_A_visit_89 16 0 rfl rfl (by omega) (by omega) ?_
            refine x_goto (pc := 90) (tgt := 94) d_A_visit_90 rfl ?_
            refine x_sub [1, 2, 3, 4, 5] _ rfl ?_
            first | (refine x_ti (show OC1 0 = (opw (siz lx) (OC1 0)) from (if_pos h81).symm) ?_; exact hc94) | (refine x_ti (show nI 0 = (opw (siz lx) (OC1 0)) from (if_neg h81).symm) ?_; exact hc94)
        · intro h42
          refine x_aload_n (pc := 45) d_A_visit_45 2 rfl ?_
          refine x_iload (pc := 46) d_A_visit_46 0 rfl ?_
          refine x_aload_n (pc := 48) d_A_visit_48 2 rfl ?_
          refine x_get (pc := 49) (ci := 0) d_A_visit_49 in_A rfl 0 (by decide) k_A_28 3 rfl rfl ?_
          refine x_iload_n (pc := 52) d_A_visit_52 3 rfl ?_
          refine x_iload (pc := 53) d_A_visit_53 0 rfl ?_
          refine x_callV_I (pc := 55) (ci := 2) d_A_visit_55 k_A_97 wi_P_atomOf wv_P_atomOf w_P_atomOf ini_P wd_P_atomOf ⟨by decide, by decide⟩ ⟨rfl, rfl⟩ ⟨Nat.zero_le _, Nat.zero_le _⟩ 1 rfl rfl (t_P_atomOf hlx8 (by omega)) rfl rfl (Nat.le_of_ble_eq_true rfl) ?_
          refine x_iload_n (pc := 58) d_A_visit_58 4 rfl ?_
          refine x_callV_X (pc := 59) (ci := 0) d_A_visit_59 k_A_101 wi_A_loadOperand wv_A_loadOperand w_A_loadOperand ini_A wd_A_loadOperand ⟨by decide, by decide⟩ ⟨rfl, rfl⟩ ⟨Nat.zero_le _, Nat.zero_le _⟩ 3 rfl rfl (t_A_loadOperand hw (by omega) hc (hw.2.2.2.2.2.2 lx i hlx (by omega))) rfl rfl (Nat.le_of_ble_eq_true rfl) (fun v59 w59 hp59 => ?_)
          obtain ⟨rfl, OC2, OP2, hkp, hlo, rfl⟩ := hp59
          refine x_iincN (pc := 62) d_A_visit_62 0 rfl (by decide) [(5, _), (4, _), (0, _), (1, _), (2, _), (3, _)] rfl ?_
          refine x_goto (pc := 65) (tgt := 38) d_A_visit_65 rfl ?_
          refine x_sub [0, 1, 2, 3, 4, 5] _ rfl ?_
          refine ih (i + 1) OC2 OP2 (by omega) (by omega) (fun j hj => ?_) (by rw [(hkp 4 (by omega)).2]; exact ho4)
          by_cases e : j = i
          · rw [e]
            exact hlo
          · rw [(hkp j e).1, (hkp j e).2]
            exact hld j (by omega)
    refine x_sub [0, 1, 2, 3, 4, 5] _ rfl ?_
    exact hlp (siz lx + 1) 0 OC OP (by omega) (by omega) (fun j hj => absurd hj (Nat.not_lt_zero j)) hO4
  refine x_aload_n (pc := 0) d_A_visit_0 0 rfl ?_
  refine x_get (pc := 1) (ci := 0) d_A_visit_1 in_A rfl 0 (by decide) k_A_28 3 rfl rfl ?_
  refine x_iload_n (pc := 4) d_A_visit_4 1 rfl ?_
  refine x_callV_I (pc := 5) (ci := 2) d_A_visit_5 k_A_85 wi_P_callLength wv_P_callLength w_P_callLength ini_P wd_P_callLength ⟨by decide, by decide⟩ ⟨rfl, rfl⟩ ⟨Nat.zero_le _, Nat.zero_le _⟩ 1 rfl rfl (t_P_callLength hlx8) rfl rfl (Nat.le_of_ble_eq_true rfl) ?_
  refine x_istore (pc := 8) d_A_visit_8 (by decide) [(4, _), (0, _), (1, _), (2, _), (3, _)] rfl ?_
  refine x_iload (pc := 10) d_A_visit_10 0 rfl ?_
  first | refine x_if_neB (pc := 12) (tgt := 16) d_A_visit_12 rfl ?_ ?_ | refine x_if_neL (pc := 12) (tgt := 16) d_A_visit_12 rfl ?_ ?_ | refine x_if_neN (pc := 12) (tgt := 16) d_A_visit_12 rfl (by omega) ?_ ?_ | refine x_if_ne (pc := 12) (tgt := 16) d_A_visit_12 rfl ?_ ?_
  · intro h12
    refine x_aload_n (pc := 16) d_A_visit_16 1 rfl ?_
    refine x_iload_n (pc := 17) d_A_visit_17 2 rfl ?_
    refine x_put (pc := 18) (ci := 0) (ty := .int) d_A_visit_18 in_A t_A ty_A nm_A rfl 8 (by decide) k_A_91 rfl (by decide +kernel) rfl rfl 3 rfl (Nat.le_of_ble_eq_true rfl) (_) (rfl) ?_
    refine x_aload_n (pc := 21) d_A_visit_21 1 rfl ?_
    refine x_iload_n (pc := 22) d_A_visit_22 4 rfl ?_
    refine x_iconst (pc := 23) (nI 1) d_A_visit_23 (by decide) ?_
    first | refine x_icmp_neN (pc := 24) (tgt := 31) d_A_visit_24 rfl (by omega) (by omega) ?_ ?_ | refine x_icmp_ne (pc := 24) (tgt := 31) d_A_visit_24 rfl ?_ ?_
    · intro h24
      refine x_iconst (pc := 31) (nI 0) d_A_visit_31 (by decide) ?_
      refine x_sub [0, 1, 2, 3, 4] _ rfl ?_
      first | exact x_ti (y := nI (if k = 1 then lx else 0)) (congrArg nI (if_pos h24).symm) (hc32 h12) | exact x_ti (y := nI (if k = 1 then lx else 0)) (congrArg nI (if_neg h24).symm) (hc32 h12)
    · intro h24
      refine x_iload_n (pc := 27) d_A_visit_27 2 rfl ?_
      refine x_goto (pc := 28) (tgt := 32) d_A_visit_28 rfl ?_
      refine x_sub [0, 1, 2, 3, 4] _ rfl ?_
      first | exact x_ti (y := nI (if k = 1 then lx else 0)) (congrArg nI (if_pos h24).symm) (hc32 h12) | exact x_ti (y := nI (if k = 1 then lx else 0)) (congrArg nI (if_neg h24).symm) (hc32 h12)
  · intro h12
    refine x_vret (pc := 15) d_A_visit_15 rfl ?_
    exact ⟨rfl, P, Q, S, F, R, gr, OC, OP, vis, nc, (apc.skip gr _).conv (fun _ _ _ => trivial) (fun _ q => absurd h12 (by omega)), hO4, rfl⟩
end ANA3
