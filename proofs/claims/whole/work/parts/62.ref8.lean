section REF8
variable {l : Launch} {D : va_G} {ad : Nat → Nat} {cI cL : ClassId} {par : Nat → Int32} {prm siz atm : Nat → Nat} {cnt : Nat} {mo he en ap oc : Nat} {cal : Nat → Int32} {el : Nat → Nat} {eu : Nat → Int32} {ev ag : Nat → Nat} {an : Bool} {kk : Nat} {P : Nat → Int32} {Q : Nat → Int64} {S : Int64} {F : Nat → Int32} {R : Int32} {ch : Bool} {AP : Nat → Int32} {AQ : Nat → Int64}
set_option maxHeartbeats 4000000 in
set_option maxRecDepth 100000 in
theorem t_R_visit {lx c : Nat} (hw : pwf cnt par prm siz atm) (hk : kk ≤ 1) (hlx : lx < cnt) (hc : c < 8) (hz : 0 < siz lx) : CT l y_R_visit c_R_visit 6 none (rmm 3 82) (gG D cI cL) [.ref (ad 0), .int (nI lx), .int (nI c)] (wR ad cI cL par prm siz atm cnt mo he en ap oc cal el eu ev ag an kk P Q S F R ch AP AQ) (fun v w2 => v = none ∧ ∃ P2 Q2 S2 F2 R2 g2 AP2 AQ2, apc (avis cnt (anc par) prm siz atm kk lx c) ch (ofw P Q S F R) g2 (ofw P2 Q2 S2 F2 R2) ∧ w2 = (wR ad cI cL par prm siz atm cnt mo he en ap oc cal el eu ev ag an kk P2 Q2 S2 F2 R2 g2 AP2 AQ2)) := by
  refine CT.of R_R (by decide) rfl (Nat.le_of_ble_eq_true rfl) ?_
  intro E A hname
  have hc8 : cnt ≤ 8 := hw.2.1
  have hlx8 : lx < 8 := by omega
  have hz4 := hw.2.2.2.2.2.1 lx hlx8
  refine x_iconst (pc := 0) (nI 0) d_R_visit_0 (by decide) ?_
  refine x_istore_n (pc := 1) d_R_visit_1 rfl (by decide) [(3, _), (0, _), (1, _), (2, _)] rfl ?_
  have hlp : ∀ (fuel : Nat) (i : Nat) (AP1 : Nat → Int32) (AQ1 : Nat → Int64), siz lx - i < fuel → (i ≤ siz lx) → (∀ j, j < i → ldok atm (ofw P Q S F R) lx c j (AP1 j) (AQ1 j)) → xj E l (rmm 3 82) c_R_visit 6 none R_R (gG D cI cL) A 0 0 (fun v w2 => v = none ∧ ∃ P2 Q2 S2 F2 R2 g2 AP2 AQ2, apc (avis cnt (anc par) prm siz atm kk lx c) ch (ofw P Q S F R) g2 (ofw P2 Q2 S2 F2 R2) ∧ w2 = (wR ad cI cL par prm siz atm cnt mo he en ap oc cal el eu ev ag an kk P2 Q2 S2 F2 R2 g2 AP2 AQ2)) 0 0 (wR ad cI cL par prm siz atm cnt mo he en ap oc cal el eu ev ag an kk P Q S F R ch AP1 AQ1) 2 [(3, .int (nI i)), (0, .ref (ad 0)), (1, .int (nI lx)), (2, .int (nI c))] [] := by
    intro fuel
    induction fuel with
    | zero => intro i AP1 AQ1 hf; exact absurd hf (Nat.not_lt_zero _)
    | succ fuel ih =>
      intro i AP1 AQ1 hf hi hld
      refine x_iload_n (pc := 2) d_R_visit_2 0 rfl ?_
      refine x_aload_n (pc := 3) d_R_visit_3 1 rfl ?_
      refine x_get (pc := 4) (ci := 4) d_R_visit_4 in_R rfl 3 (by decide) k_R_20 0 rfl rfl ?_
      refine x_iload_n (pc := 7) d_R_visit_7 2 rfl ?_
      refine x_ialdN (pc := 8) d_R_visit_8 3 0 rfl rfl (by omega) (by omega) ?_
      first | refine x_icmp_geN (pc := 9) (tgt := 25) d_R_visit_9 rfl (by omega) (by omega) ?_ ?_ | refine x_icmp_ge (pc := 9) (tgt := 25) d_R_visit_9 rfl ?_ ?_
      · intro h9
        have e1 : i = siz lx := by omega
        clear ih hf
        refine x_aload_n (pc := 25) d_R_visit_25 1 rfl ?_
        refine x_get (pc := 26) (ci := 4) d_R_visit_26 in_R rfl 3 (by decide) k_R_20 0 rfl rfl ?_
        refine x_iload_n (pc := 29) d_R_visit_29 2 rfl ?_
        refine x_ialdN (pc := 30) d_R_visit_30 3 0 rfl rfl (by omega) (by omega) ?_
        refine x_iconst (pc := 31) (nI 1) d_R_visit_31 (by decide) ?_
        first | refine x_isubN (pc := 32) d_R_visit_32 (by omega) ?_ | refine x_isub (pc := 32) d_R_visit_32 ?_
        refine x_istore_n (pc := 33) d_R_visit_33 rfl (by decide) [(3, _), (0, _), (1, _), (2, _)] rfl ?_
        refine x_aload_n (pc := 34) d_R_visit_34 1 rfl ?_
        refine x_get (pc := 35) (ci := 4) d_R_visit_35 in_R rfl 23 (by decide) k_R_51 0 rfl rfl ?_
        refine x_iconst (pc := 38) (nI 0) d_R_visit_38 (by decide) ?_
        refine x_ialdN (pc := 39) d_R_visit_39 13 0 rfl rfl (by omega) (by omega) ?_
        refine x_istore (pc := 40) d_R_visit_40 (by decide) [(4, _), (3, _), (0, _), (1, _), (2, _)] rfl ?_
        refine x_aload_n (pc := 42) d_R_visit_42 2 rfl ?_
        refine x_aload_n (pc := 43) d_R_visit_43 2 rfl ?_
        refine x_get (pc := 44) (ci := 4) d_R_visit_44 in_R rfl 24 (by decide) k_R_54 0 rfl rfl ?_
        refine x_iconst (pc := 47) (nI 0) d_R_visit_47 (by decide) ?_
        refine x_laldN (pc := 48) d_R_visit_48 14 1 rfl rfl (by omega) (by omega) ?_
        refine x_iload_n (pc := 49) d_R_visit_49 3 rfl ?_
        refine x_iload_n (pc := 50) d_R_visit_50 1 rfl ?_
        refine x_iconst (pc := 51) (nI 1) d_R_visit_51 (by decide) ?_
        refine x_callV_X (pc := 52) (ci := 4) d_R_visit_52 k_R_138 wi_R_applyPairs wv_R_applyPairs w_R_applyPairs ini_R wd_R_applyPairs ⟨by decide, by decide⟩ ⟨rfl, rfl⟩ ⟨Nat.zero_le _, Nat.zero_le _⟩ 0 rfl rfl (t_R_applyPairs hw hk hlx8 (by omega) (by omega)) rfl rfl (Nat.le_of_ble_eq_true rfl) (fun v52 w52 hp52 => ?_)
        obtain ⟨rfl, Pa, Qa, Sa, Fa, Ra, ga, hapa, rfl⟩ := hp52
        have hc76 : ∀ (Pb : Nat → Int32) (Qb : Nat → Int64) (Sb : Int64) (Fb : Nat → Int32) (Rb : Int32) (gb : Bool), (apc (aN1 cnt par prm (siz lx) (if kk = 1 then lx else 0) lx (cC AP1) (cB AQ1)) ch (ofw P Q S F R) gb (ofw Pb Qb Sb Fb Rb)) → xj E l (rmm 3 82) c_R_visit 6 none R_R (gG D cI cL) A 0 0 (fun v w2 => v = none ∧ ∃ P2 Q2 S2 F2 R2 g2 AP2 AQ2, apc (avis cnt (anc par) prm siz atm kk lx c) ch (ofw P Q S F R) g2 (ofw P2 Q2 S2 F2 R2) ∧ w2 = (wR ad cI cL par prm siz atm cnt mo he en ap oc cal el eu ev ag an kk P2 Q2 S2 F2 R2 g2 AP2 AQ2)) 0 0 (wR ad cI cL par prm siz atm cnt mo he en ap oc cal el eu ev ag an kk Pb Qb Sb Fb Rb gb AP1 AQ1) 76 [(4, .int (AP1 0)), (3, .int (nI (siz lx - 1))), (0, .ref (ad 0)), (1, .int (nI lx)), (2, .int (nI c))] [] := by
          intro Pb Qb Sb Fb Rb gb hn1
          have hc143 : ∀ (Pd : Nat → Int32) (Qd : Nat → Int64) (Sd : Int64) (Fd : Nat → Int32) (Rd : Int32) (gd : Bool), (apc (fun X Y => aN3 cnt par prm (siz lx) (if kk = 1 then lx else 0) lx (cC AP1) (cB AQ1) X Y ∧ aN4 cnt par prm (siz lx) (if kk = 1 then lx else 0) lx (cC AP1) (cB AQ1) X Y) gb (ofw Pb Qb Sb Fb Rb) gd (ofw Pd Qd Sd Fd Rd)) → xj E l (rmm 3 82) c_R_visit 6 none R_R (gG D cI cL) A 0 0 (fun v w2 => v = none ∧ ∃ P2 Q2 S2 F2 R2 g2 AP2 AQ2, apc (avis cnt (anc par) prm siz atm kk lx c) ch (ofw P Q S F R) g2 (ofw P2 Q2 S2 F2 R2) ∧ w2 = (wR ad cI cL par prm siz atm cnt mo he en ap oc cal el eu ev ag an kk P2 Q2 S2 F2 R2 g2 AP2 AQ2)) 0 0 (wR ad cI cL par prm siz atm cnt mo he en ap oc cal el eu ev ag an kk Pd Qd Sd Fd Rd gd AP1 AQ1) 143 [(4, .int (AP1 0)), (3, .int (nI (siz lx - 1))), (0, .ref (ad 0)), (1, .int (nI lx)), (2, .int (nI c))] [] := by
            intro Pd Qd Sd Fd Rd gd hn34
            refine x_iload (pc := 143) d_R_visit_143 0 rfl ?_
            refine x_bipush (pc := 145) (nI 11) d_R_visit_145 (by decide) ?_
            refine x_ishr (pc := 147) d_R_visit_147 ?_
            refine x_iconst (pc := 148) (nI 1) d_R_visit_148 (by decide) ?_
            refine x_iand (pc := 149) d_R_visit_149 ?_
            refine x_iconst (pc := 150) (nI 1) d_R_visit_150 (by decide) ?_
            refine x_icmp_ne (pc := 151) (tgt := 229) d_R_visit_151 rfl ?_ ?_
            · intro h151
              refine x_vret (pc := 229) d_R_visit_229 rfl ?_
              have fin : ∀ {Xd : AX} {gz : Bool}, apc (aN2 cnt par prm (siz lx) (if kk = 1 then lx else 0) lx (cC AP1) (cB AQ1)) gd (ofw Pd Qd Sd Fd Rd) gz Xd → apc (avis cnt (anc par) prm siz atm kk lx c) ch (ofw P Q S F R) gz Xd := fun h2 => avis.of (fun j b hj => (hld j (by omega)).1 b) (fun j b hj => (hld j (by omega)).2 b) (avis_all2 hn1 hn34 h2)
              first
                | exact ⟨rfl, Pv, Qv, Sv, Fv, Rv, gv, _, _, fin (rN2a hsm h178 ⟨hn4, hb11⟩ ((hs1 (by omega)).mp h221) hA hR), rfl⟩
                | exact ⟨rfl, Pw, Qw, Sw, Fw, Rw, gw, _, _, fin (rN2b hsm h178 ⟨hn4, hb11⟩ (hs1n (by omega) h221) hA), rfl⟩
                | exact ⟨rfl, Pd, Qd, Sd, Fd, Rd, gd, _, _, fin ((apc.skip gd _).conv (fun _ _ _ => trivial) (fun _ _ _ s => absurd s (fun s => sum_none2 hsm h178 s))), rfl⟩
                | exact ⟨rfl, Pd, Qd, Sd, Fd, Rd, gd, _, _, fin ((apc.skip gd _).conv (fun _ _ _ => trivial) (fun _ e => absurd e (by omega))), rfl⟩
                | exact ⟨rfl, Pd, Qd, Sd, Fd, Rd, gd, _, _, fin ((apc.skip gd _).conv (fun _ _ _ => trivial) (fun _ _ q => bno (hs1n (by omega) h151) q)), rfl⟩
            · intro h151
              refine x_iload_n (pc := 154) d_R_visit_154 1 rfl ?_
              refine x_iconst (pc := 155) (nI 3) d_R_visit_155 (by decide) ?_
              first | refine x_icmp_neN (pc := 156) (tgt := 229) d_R_visit_156 rfl (by omega) (by omega) ?_ ?_ | refine x_icmp_ne (pc := 156) (tgt := 229) d_R_visit_156 rfl ?_ ?_
              · intro h156
                refine x_vret (pc := 229) d_R_visit_229 rfl ?_
                have fin : ∀ {Xd : AX} {gz : Bool}, apc (aN2 cnt par prm (siz lx) (if kk = 1 then lx else 0) lx (cC AP1) (cB AQ1)) gd (ofw Pd Qd Sd Fd Rd) gz Xd → apc (avis cnt (anc par) prm siz atm kk lx c) ch (ofw P Q S F R) gz Xd := fun h2 => avis.of (fun j b hj => (hld j (by omega)).1 b) (fun j b hj => (hld j (by omega)).2 b) (avis_all2 hn1 hn34 h2)
                first
                  | exact ⟨rfl, Pv, Qv, Sv, Fv, Rv, gv, _, _, fin (rN2a hsm h178 ⟨hn4, hb11⟩ ((hs1 (by omega)).mp h221) hA hR), rfl⟩
                  | exact ⟨rfl, Pw, Qw, Sw, Fw, Rw, gw, _, _, fin (rN2b hsm h178 ⟨hn4, hb11⟩ (hs1n (by omega) h221) hA), rfl⟩
                  | exact ⟨rfl, Pd, Qd, Sd, Fd, Rd, gd, _, _, fin ((apc.skip gd _).conv (fun _ _ _ => trivial) (fun _ _ _ s => absurd s (fun s => sum_none2 hsm h178 s))), rfl⟩
                  | exact ⟨rfl, Pd, Qd, Sd, Fd, Rd, gd, _, _, fin ((apc.skip gd _).conv (fun _ _ _ => trivial) (fun _ e => absurd e (by omega))), rfl⟩
                  | exact ⟨rfl, Pd, Qd, Sd, Fd, Rd, gd, _, _, fin ((apc.skip gd _).conv (fun _ _ _ => trivial) (fun _ _ q => bno (hs1n (by omega) h151) q)), rfl⟩
              · intro h156
                have hn4 : siz lx = 4 := by omega
                have hb11 : bt (AP1 0) 11 = true := (hs1 (by omega)).mp h151
                refine x_aload_n (pc := 159) d_R_visit_159 2 rfl ?_
                refine x_get (pc := 160) (ci := 4) d_R_visit_160 in_R rfl 23 (by decide) k_R_51 0 rfl rfl ?_
                refine x_iconst (pc := 163) (nI 1) d_R_visit_163 (by decide) ?_
                refine x_ialdN (pc := 164) d_R_visit_164 13 0 rfl rfl (by omega) (by omega) ?_
                refine x_aload_n (pc := 165) d_R_visit_165 2 rfl ?_
                refine x_get (pc := 166) (ci := 4) d_R_visit_166 in_R rfl 23 (by decide) k_R_51 0 rfl rfl ?_
                refine x_iconst (pc := 169) (nI 2) d_R_visit_169 (by decide) ?_
                refine x_ialdN (pc := 170) d_R_visit_170 13 0 rfl rfl (by omega) (by omega) ?_
                refine x_callS_X (pc := 171) d_R_visit_171 k_R_146 ws_R_sums w_R_sums ini_R wd_R_sums ⟨by decide, by decide⟩ ⟨rfl, rfl⟩ ⟨Nat.zero_le _, Nat.zero_le _⟩ (t_R_sums) rfl rfl (Nat.le_of_ble_eq_true rfl) (fun v171 w171 hp171 => ?_)
                obtain ⟨sm, hsm, rfl, rfl⟩ := hp171
                refine x_istore (pc := 174) d_R_visit_174 (by decide) [(5, _), (4, _), (3, _), (0, _), (1, _), (2, _)] rfl ?_
                refine x_iload (pc := 176) d_R_visit_176 0 rfl ?_
                first | refine x_if_eqB (pc := 178) (tgt := 229) d_R_visit_178 rfl ?_ ?_ | refine x_if_eqL (pc := 178) (tgt := 229) d_R_visit_178 rfl ?_ ?_ | refine x_if_eqN (pc := 178) (tgt := 229) d_R_visit_178 rfl (by omega) ?_ ?_ | refine x_if_eq (pc := 178) (tgt := 229) d_R_visit_178 rfl ?_ ?_
                · intro h178
                  refine x_vret (pc := 229) d_R_visit_229 rfl ?_
                  have fin : ∀ {Xd : AX} {gz : Bool}, apc (aN2 cnt par prm (siz lx) (if kk = 1 then lx else 0) lx (cC AP1) (cB AQ1)) gd (ofw Pd Qd Sd Fd Rd) gz Xd → apc (avis cnt (anc par) prm siz atm kk lx c) ch (ofw P Q S F R) gz Xd := fun h2 => avis.of (fun j b hj => (hld j (by omega)).1 b) (fun j b hj => (hld j (by omega)).2 b) (avis_all2 hn1 hn34 h2)
                  first
                    | exact ⟨rfl, Pv, Qv, Sv, Fv, Rv, gv, _, _, fin (rN2a hsm h178 ⟨hn4, hb11⟩ ((hs1 (by omega)).mp h221) hA hR), rfl⟩
                    | exact ⟨rfl, Pw, Qw, Sw, Fw, Rw, gw, _, _, fin (rN2b hsm h178 ⟨hn4, hb11⟩ (hs1n (by omega) h221) hA), rfl⟩
                    | exact ⟨rfl, Pd, Qd, Sd, Fd, Rd, gd, _, _, fin ((apc.skip gd _).conv (fun _ _ _ => trivial) (fun _ _ _ s => absurd s (fun s => sum_none2 hsm h178 s))), rfl⟩
                    | exact ⟨rfl, Pd, Qd, Sd, Fd, Rd, gd, _, _, fin ((apc.skip gd _).conv (fun _ _ _ => trivial) (fun _ e => absurd e (by omega))), rfl⟩
                    | exact ⟨rfl, Pd, Qd, Sd, Fd, Rd, gd, _, _, fin ((apc.skip gd _).conv (fun _ _ _ => trivial) (fun _ _ q => bno (hs1n (by omega) h151) q)), rfl⟩
                · intro h178
                  refine x_aload_n (pc := 181) d_R_visit_181 3 rfl ?_
                  refine x_get (pc := 182) (ci := 4) d_R_visit_182 in_R rfl 23 (by decide) k_R_51 0 rfl rfl ?_
                  refine x_iconst (pc := 185) (nI 1) d_R_visit_185 (by decide) ?_
                  refine x_iload (pc := 186) d_R_visit_186 0 rfl ?_
                  first | refine x_iastU (pc := 188) d_R_visit_188 13 0 rfl rfl (by omega) (by omega) ?_ | refine x_iastN (pc := 188) d_R_visit_188 13 0 rfl rfl (by omega) (by omega) _ rfl ?_
                  refine x_aload_n (pc := 189) d_R_visit_189 3 rfl ?_
                  refine x_get (pc := 190) (ci := 4) d_R_visit_190 in_R rfl 24 (by decide) k_R_54 0 rfl rfl ?_
                  refine x_iconst (pc := 193) (nI 1) d_R_visit_193 (by decide) ?_
                  refine x_lconst (pc := 194) 0 d_R_visit_194 (by decide) ?_
                  refine x_lastN (pc := 195) d_R_visit_195 14 1 rfl rfl (by omega) (by omega) (_) (rfl) ?_
                  refine x_aload_n (pc := 196) d_R_visit_196 3 rfl ?_
                  refine x_aload_n (pc := 197) d_R_visit_197 3 rfl ?_
                  refine x_get (pc := 198) (ci := 4) d_R_visit_198 in_R rfl 24 (by decide) k_R_54 0 rfl rfl ?_
                  refine x_iconst (pc := 201) (nI 3) d_R_visit_201 (by decide) ?_
                  refine x_laldN (pc := 202) d_R_visit_202 14 1 rfl rfl (by omega) (by omega) ?_
                  refine x_iload_n (pc := 203) d_R_visit_203 4 rfl ?_
                  refine x_iconst (pc := 204) (nI 1) d_R_visit_204 (by decide) ?_
                  refine x_iconst (pc := 205) (nI 1) d_R_visit_205 (by decide) ?_
                  refine x_callV_X (pc := 206) (ci := 4) d_R_visit_206 k_R_138 wi_R_applyPairs wv_R_applyPairs w_R_applyPairs ini_R wd_R_applyPairs ⟨by decide, by decide⟩ ⟨rfl, rfl⟩ ⟨Nat.zero_le _, Nat.zero_le _⟩ 0 rfl rfl (t_R_applyPairs hw hk hlx8 (by omega) (by omega)) rfl rfl (Nat.le_of_ble_eq_true rfl) (fun v206 w206 hp206 => ?_)
                  obtain ⟨rfl, Pw, Qw, Sw, Fw, Rw, gw, hapw, rfl⟩ := hp206
                  have hA := rN2c (OC := AP1) (OP := AQ1) (OC3 := upd AP1 1 sm) (OP3 := vp_updL AQ1 1 0) rfl rfl rfl hsm hapw
                  refine x_aload_n (pc := 209) d_R_visit_209 3 rfl ?_
                  refine x_get (pc := 210) (ci := 4) d_R_visit_210 in_R rfl 23 (by decide) k_R_51 0 rfl rfl ?_
                  refine x_iconst (pc := 213) (nI 3) d_R_visit_213 (by decide) ?_
                  refine x_ialdN (pc := 214) d_R_visit_214 13 0 rfl rfl (by omega) (by omega) ?_
                  refine x_bipush (pc := 215) (nI 10) d_R_visit_215 (by decide) ?_
                  refine x_ishr (pc := 217) d_R_visit_217 ?_
                  refine x_iconst (pc := 218) (nI 1) d_R_visit_218 (by decide) ?_
                  refine x_iand (pc := 219) d_R_visit_219 ?_
                  refine x_iconst (pc := 220) (nI 1) d_R_visit_220 (by decide) ?_
                  refine x_icmp_ne (pc := 221) (tgt := 229) d_R_visit_221 rfl ?_ ?_
                  · intro h221
                    refine x_vret (pc := 229) d_R_visit_229 rfl ?_
                    have fin : ∀ {Xd : AX} {gz : Bool}, apc (aN2 cnt par prm (siz lx) (if kk = 1 then lx else 0) lx (cC AP1) (cB AQ1)) gd (ofw Pd Qd Sd Fd Rd) gz Xd → apc (avis cnt (anc par) prm siz atm kk lx c) ch (ofw P Q S F R) gz Xd := fun h2 => avis.of (fun j b hj => (hld j (by omega)).1 b) (fun j b hj => (hld j (by omega)).2 b) (avis_all2 hn1 hn34 h2)
                    first
                      | exact ⟨rfl, Pv, Qv, Sv, Fv, Rv, gv, _, _, fin (rN2a hsm h178 ⟨hn4, hb11⟩ ((hs1 (by omega)).mp h221) hA hR), rfl⟩
                      | exact ⟨rfl, Pw, Qw, Sw, Fw, Rw, gw, _, _, fin (rN2b hsm h178 ⟨hn4, hb11⟩ (hs1n (by omega) h221) hA), rfl⟩
                      | exact ⟨rfl, Pd, Qd, Sd, Fd, Rd, gd, _, _, fin ((apc.skip gd _).conv (fun _ _ _ => trivial) (fun _ _ _ s => absurd s (fun s => sum_none2 hsm h178 s))), rfl⟩
                      | exact ⟨rfl, Pd, Qd, Sd, Fd, Rd, gd, _, _, fin ((apc.skip gd _).conv (fun _ _ _ => trivial) (fun _ e => absurd e (by omega))), rfl⟩
                      | exact ⟨rfl, Pd, Qd, Sd, Fd, Rd, gd, _, _, fin ((apc.skip gd _).conv (fun _ _ _ => trivial) (fun _ _ q => bno (hs1n (by omega) h151) q)), rfl⟩
                  · intro h221
                    refine x_aload_n (pc := 224) d_R_visit_224 3 rfl ?_
                    refine x_iconst (pc := 225) (nI 1) d_R_visit_225 (by decide) ?_
                    refine x_callV_X (pc := 226) (ci := 4) d_R_visit_226 k_R_142 wi_R_answer wv_R_answer w_R_answer ini_R wd_R_answer ⟨by decide, by decide⟩ ⟨rfl, rfl⟩ ⟨Nat.zero_le _, Nat.zero_le _⟩ 0 rfl rfl (t_R_answer (by omega)) rfl rfl (Nat.le_of_ble_eq_true rfl) (fun v226 w226 hp226 => ?_)
                    obtain ⟨rfl, Pv, Qv, Sv, Fv, Rv, gv, hapv, rfl⟩ := hp226
                    have hR := rN2r (OC := AP1) (OC3 := upd AP1 1 sm) (OP3 := vp_updL AQ1 1 0) rfl rfl hsm hapv
                    refine x_vret (pc := 229) d_R_visit_229 rfl ?_
                    have fin : ∀ {Xd : AX} {gz : Bool}, apc (aN2 cnt par prm (siz lx) (if kk = 1 then lx else 0) lx (cC AP1) (cB AQ1)) gd (ofw Pd Qd Sd Fd Rd) gz Xd → apc (avis cnt (anc par) prm siz atm kk lx c) ch (ofw P Q S F R) gz Xd := fun h2 => avis.of (fun j b hj => (hld j (by omega)).1 b) (fun j b hj => (hld j (by omega)).2 b) (avis_all2 hn1 hn34 h2)
                    first
                      | exact ⟨rfl, Pv, Qv, Sv, Fv, Rv, gv, _, _, fin (rN2a hsm h178 ⟨hn4, hb11⟩ ((hs1 (by omega)).mp h221) hA hR), rfl⟩
                      | exact ⟨rfl, Pw, Qw, Sw, Fw, Rw, gw, _, _, fin (rN2b hsm h178 ⟨hn4, hb11⟩ (hs1n (by omega) h221) hA), rfl⟩
                      | exact ⟨rfl, Pd, Qd, Sd, Fd, Rd, gd, _, _, fin ((apc.skip gd _).conv (fun _ _ _ => trivial) (fun _ _ _ s => absurd s (fun s => sum_none2 hsm h178 s))), rfl⟩
                      | exact ⟨rfl, Pd, Qd, Sd, Fd, Rd, gd, _, _, fin ((apc.skip gd _).conv (fun _ _ _ => trivial) (fun _ e => absurd e (by omega))), rfl⟩
                      | exact ⟨rfl, Pd, Qd, Sd, Fd, Rd, gd, _, _, fin ((apc.skip gd _).conv (fun _ _ _ => trivial) (fun _ _ q => bno (hs1n (by omega) h151) q)), rfl⟩
          refine x_iload (pc := 76) d_R_visit_76 0 rfl ?_
          refine x_bipush (pc := 78) (nI 12) d_R_visit_78 (by decide) ?_
          refine x_ishr (pc := 80) d_R_visit_80 ?_
          refine x_iconst (pc := 81) (nI 1) d_R_visit_81 (by decide) ?_
          refine x_iand (pc := 82) d_R_visit_82 ?_
          refine x_iconst (pc := 83) (nI 1) d_R_visit_83 (by decide) ?_
          refine x_icmp_ne (pc := 84) (tgt := 143) d_R_visit_84 rfl ?_ ?_
          · intro h84
            refine x_sub [0, 1, 2, 3, 4] _ rfl ?_
            first
              | exact hc143 Px Qx Sx Fx Rx gx (apc.seq aN3.amon aN4.amon hn3 ((rN0 (OP := AQ1) (op := 3) rfl hapx).conv (fun _ _ q => q hn4 hb12 (gt2.mp h127)) (fun q _ _ _ => q)))
              | exact hc143 Pc Qc Sc Fc Rc gc (hn3.conv (fun _ _ q => q.1) (fun q => ⟨q, fun _ _ s => absurd h127 (gt2.mpr s)⟩))
              | exact hc143 Pb Qb Sb Fb Rb gb ((apc.skip gb _).conv (fun _ _ _ => trivial) (fun _ => ⟨fun e => absurd e (by omega), fun e => absurd e (by omega)⟩))
              | exact hc143 Pb Qb Sb Fb Rb gb ((apc.skip gb _).conv (fun _ _ _ => trivial) (fun _ => ⟨fun _ q _ => bno (hs1n (by omega) h84) q, fun _ q _ => bno (hs1n (by omega) h84) q⟩))
          · intro h84
            refine x_iload_n (pc := 87) d_R_visit_87 1 rfl ?_
            refine x_iconst (pc := 88) (nI 3) d_R_visit_88 (by decide) ?_
            first | refine x_icmp_neN (pc := 89) (tgt := 143) d_R_visit_89 rfl (by omega) (by omega) ?_ ?_ | refine x_icmp_ne (pc := 89) (tgt := 143) d_R_visit_89 rfl ?_ ?_
            · intro h89
              refine x_sub [0, 1, 2, 3, 4] _ rfl ?_
              first
                | exact hc143 Px Qx Sx Fx Rx gx (apc.seq aN3.amon aN4.amon hn3 ((rN0 (OP := AQ1) (op := 3) rfl hapx).conv (fun _ _ q => q hn4 hb12 (gt2.mp h127)) (fun q _ _ _ => q)))
                | exact hc143 Pc Qc Sc Fc Rc gc (hn3.conv (fun _ _ q => q.1) (fun q => ⟨q, fun _ _ s => absurd h127 (gt2.mpr s)⟩))
                | exact hc143 Pb Qb Sb Fb Rb gb ((apc.skip gb _).conv (fun _ _ _ => trivial) (fun _ => ⟨fun e => absurd e (by omega), fun e => absurd e (by omega)⟩))
                | exact hc143 Pb Qb Sb Fb Rb gb ((apc.skip gb _).conv (fun _ _ _ => trivial) (fun _ => ⟨fun _ q _ => bno (hs1n (by omega) h84) q, fun _ q _ => bno (hs1n (by omega) h84) q⟩))
            · intro h89
              have hn4 : siz lx = 4 := by omega
              have hb12 : bt (AP1 0) 12 = true := (hs1 (by omega)).mp h84
              have hc117 : ∀ (Pc : Nat → Int32) (Qc : Nat → Int64) (Sc : Int64) (Fc : Nat → Int32) (Rc : Int32) (gc : Bool), (apc (aN3 cnt par prm (siz lx) (if kk = 1 then lx else 0) lx (cC AP1) (cB AQ1)) gb (ofw Pb Qb Sb Fb Rb) gc (ofw Pc Qc Sc Fc Rc)) → xj E l (rmm 3 82) c_R_visit 6 none R_R (gG D cI cL) A 0 0 (fun v w2 => v = none ∧ ∃ P2 Q2 S2 F2 R2 g2 AP2 AQ2, apc (avis cnt (anc par) prm siz atm kk lx c) ch (ofw P Q S F R) g2 (ofw P2 Q2 S2 F2 R2) ∧ w2 = (wR ad cI cL par prm siz atm cnt mo he en ap oc cal el eu ev ag an kk P2 Q2 S2 F2 R2 g2 AP2 AQ2)) 0 0 (wR ad cI cL par prm siz atm cnt mo he en ap oc cal el eu ev ag an kk Pc Qc Sc Fc Rc gc AP1 AQ1) 117 [(4, .int (AP1 0)), (3, .int (nI (siz lx - 1))), (0, .ref (ad 0)), (1, .int (nI lx)), (2, .int (nI c))] [] := by
                intro Pc Qc Sc Fc Rc gc hn3
                refine x_aload_n (pc := 117) d_R_visit_117 2 rfl ?_
                refine x_get (pc := 118) (ci := 4) d_R_visit_118 in_R rfl 23 (by decide) k_R_51 0 rfl rfl ?_
                refine x_iconst (pc := 121) (nI 1) d_R_visit_121 (by decide) ?_
                refine x_ialdN (pc := 122) d_R_visit_122 13 0 rfl rfl (by omega) (by omega) ?_
                refine x_sipush (pc := 123) (nI 1022) d_R_visit_123 (by decide) ?_
                refine x_iand (pc := 126) d_R_visit_126 ?_
                refine x_if_eq (pc := 127) (tgt := 143) d_R_visit_127 rfl ?_ ?_
                · intro h127
                  refine x_sub [0, 1, 2, 3, 4] _ rfl ?_
                  first
                    | exact hc143 Px Qx Sx Fx Rx gx (apc.seq aN3.amon aN4.amon hn3 ((rN0 (OP := AQ1) (op := 3) rfl hapx).conv (fun _ _ q => q hn4 hb12 (gt2.mp h127)) (fun q _ _ _ => q)))
                    | exact hc143 Pc Qc Sc Fc Rc gc (hn3.conv (fun _ _ q => q.1) (fun q => ⟨q, fun _ _ s => absurd h127 (gt2.mpr s)⟩))
                    | exact hc143 Pb Qb Sb Fb Rb gb ((apc.skip gb _).conv (fun _ _ _ => trivial) (fun _ => ⟨fun e => absurd e (by omega), fun e => absurd e (by omega)⟩))
                    | exact hc143 Pb Qb Sb Fb Rb gb ((apc.skip gb _).conv (fun _ _ _ => trivial) (fun _ => ⟨fun _ q _ => bno (hs1n (by omega) h84) q, fun _ q _ => bno (hs1n (by omega) h84) q⟩))
                · intro h127
                  refine x_aload_n (pc := 130) d_R_visit_130 2 rfl ?_
                  refine x_aload_n (pc := 131) d_R_visit_131 2 rfl ?_
                  refine x_get (pc := 132) (ci := 4) d_R_visit_132 in_R rfl 24 (by decide) k_R_54 0 rfl rfl ?_
                  refine x_iconst (pc := 135) (nI 3) d_R_visit_135 (by decide) ?_
                  refine x_laldN (pc := 136) d_R_visit_136 14 1 rfl rfl (by omega) (by omega) ?_
                  refine x_iload_n (pc := 137) d_R_visit_137 3 rfl ?_
                  refine x_iconst (pc := 138) (nI 0) d_R_visit_138 (by decide) ?_
                  refine x_iconst (pc := 139) (nI 1) d_R_visit_139 (by decide) ?_
                  refine x_callV_X (pc := 140) (ci := 4) d_R_visit_140 k_R_138 wi_R_applyPairs wv_R_applyPairs w_R_applyPairs ini_R wd_R_applyPairs ⟨by decide, by decide⟩ ⟨rfl, rfl⟩ ⟨Nat.zero_le _, Nat.zero_le _⟩ 0 rfl rfl (t_R_applyPairs hw hk hlx8 (by omega) (by omega)) rfl rfl (Nat.le_of_ble_eq_true rfl) (fun v140 w140 hp140 => ?_)
                  obtain ⟨rfl, Px, Qx, Sx, Fx, Rx, gx, hapx, rfl⟩ := hp140
                  refine x_sub [0, 1, 2, 3, 4] _ rfl ?_
                  first
                    | exact hc143 Px Qx Sx Fx Rx gx (apc.seq aN3.amon aN4.amon hn3 ((rN0 (OP := AQ1) (op := 3) rfl hapx).conv (fun _ _ q => q hn4 hb12 (gt2.mp h127)) (fun q _ _ _ => q)))
                    | exact hc143 Pc Qc Sc Fc Rc gc (hn3.conv (fun _ _ q => q.1) (fun q => ⟨q, fun _ _ s => absurd h127 (gt2.mpr s)⟩))
                    | exact hc143 Pb Qb Sb Fb Rb gb ((apc.skip gb _).conv (fun _ _ _ => trivial) (fun _ => ⟨fun e => absurd e (by omega), fun e => absurd e (by omega)⟩))
                    | exact hc143 Pb Qb Sb Fb Rb gb ((apc.skip gb _).conv (fun _ _ _ => trivial) (fun _ => ⟨fun _ q _ => bno (hs1n (by omega) h84) q, fun _ q _ => bno (hs1n (by omega) h84) q⟩))
              refine x_aload_n (pc := 92) d_R_visit_92 2 rfl ?_
              refine x_get (pc := 93) (ci := 4) d_R_visit_93 in_R rfl 23 (by decide) k_R_51 0 rfl rfl ?_
              refine x_iconst (pc := 96) (nI 1) d_R_visit_96 (by decide) ?_
              refine x_ialdN (pc := 97) d_R_visit_97 13 0 rfl rfl (by omega) (by omega) ?_
              refine x_iconst (pc := 98) (nI 1) d_R_visit_98 (by decide) ?_
              refine x_iand (pc := 99) d_R_visit_99 ?_
              refine x_iconst (pc := 100) (nI 1) d_R_visit_100 (by decide) ?_
              refine x_icmp_ne (pc := 101) (tgt := 117) d_R_visit_101 rfl ?_ ?_
              · intro h101
                refine x_sub [0, 1, 2, 3, 4] _ rfl ?_
                first
                  | exact hc117 Py Qy Sy Fy Ry gy ((rN0 (OP := AQ1) (op := 2) rfl hapy).conv (fun _ _ q => q hn4 hb12 (an1.mp h101)) (fun q _ _ _ => q))
                  | exact hc117 Pb Qb Sb Fb Rb gb ((apc.skip gb _).conv (fun _ _ _ => trivial) (fun _ _ _ q => bno (an1n h101) q))
              · intro h101
                refine x_aload_n (pc := 104) d_R_visit_104 2 rfl ?_
                refine x_aload_n (pc := 105) d_R_visit_105 2 rfl ?_
                refine x_get (pc := 106) (ci := 4) d_R_visit_106 in_R rfl 24 (by decide) k_R_54 0 rfl rfl ?_
                refine x_iconst (pc := 109) (nI 2) d_R_visit_109 (by decide) ?_
                refine x_laldN (pc := 110) d_R_visit_110 14 1 rfl rfl (by omega) (by omega) ?_
                refine x_iload_n (pc := 111) d_R_visit_111 3 rfl ?_
                refine x_iconst (pc := 112) (nI 0) d_R_visit_112 (by decide) ?_
                refine x_iconst (pc := 113) (nI 1) d_R_visit_113 (by decide) ?_
                refine x_callV_X (pc := 114) (ci := 4) d_R_visit_114 k_R_138 wi_R_applyPairs wv_R_applyPairs w_R_applyPairs ini_R wd_R_applyPairs ⟨by decide, by decide⟩ ⟨rfl, rfl⟩ ⟨Nat.zero_le _, Nat.zero_le _⟩ 0 rfl rfl (t_R_applyPairs hw hk hlx8 (by omega) (by omega)) rfl rfl (Nat.le_of_ble_eq_true rfl) (fun v114 w114 hp114 => ?_)
                obtain ⟨rfl, Py, Qy, Sy, Fy, Ry, gy, hapy, rfl⟩ := hp114
                refine x_sub [0, 1, 2, 3, 4] _ rfl ?_
                first
                  | exact hc117 Py Qy Sy Fy Ry gy ((rN0 (OP := AQ1) (op := 2) rfl hapy).conv (fun _ _ q => q hn4 hb12 (an1.mp h101)) (fun q _ _ _ => q))
                  | exact hc117 Pb Qb Sb Fb Rb gb ((apc.skip gb _).conv (fun _ _ _ => trivial) (fun _ _ _ q => bno (an1n h101) q))
        refine x_iload (pc := 55) d_R_visit_55 0 rfl ?_
        refine x_bipush (pc := 57) (nI 10) d_R_visit_57 (by decide) ?_
        refine x_ishr (pc := 59) d_R_visit_59 ?_
        refine x_iconst (pc := 60) (nI 1) d_R_visit_60 (by decide) ?_
        refine x_iand (pc := 61) d_R_visit_61 ?_
        refine x_iconst (pc := 62) (nI 1) d_R_visit_62 (by decide) ?_
        refine x_icmp_ne (pc := 63) (tgt := 76) d_R_visit_63 rfl ?_ ?_
        · intro h63
          refine x_sub [0, 1, 2, 3, 4] _ rfl ?_
          first
            | exact hc76 Pz Qz Sz Fz Rz gz (rN1a hapa hapz h68 ((hs1 (by omega)).mp h63))
            | exact hc76 Pa Qa Sa Fa Ra ga (rN1b hapa (Or.inl h68))
            | exact hc76 Pa Qa Sa Fa Ra ga (rN1b hapa (Or.inr (hs1n (by omega) h63)))
        · intro h63
          refine x_iload_n (pc := 66) d_R_visit_66 1 rfl ?_
          refine x_iconst (pc := 67) (nI 1) d_R_visit_67 (by decide) ?_
          first | refine x_icmp_neN (pc := 68) (tgt := 76) d_R_visit_68 rfl (by omega) (by omega) ?_ ?_ | refine x_icmp_ne (pc := 68) (tgt := 76) d_R_visit_68 rfl ?_ ?_
          · intro h68
            refine x_sub [0, 1, 2, 3, 4] _ rfl ?_
            first
              | exact hc76 Pz Qz Sz Fz Rz gz (rN1a hapa hapz h68 ((hs1 (by omega)).mp h63))
              | exact hc76 Pa Qa Sa Fa Ra ga (rN1b hapa (Or.inl h68))
              | exact hc76 Pa Qa Sa Fa Ra ga (rN1b hapa (Or.inr (hs1n (by omega) h63)))
          · intro h68
            refine x_aload_n (pc := 71) d_R_visit_71 2 rfl ?_
            refine x_iconst (pc := 72) (nI 1) d_R_visit_72 (by decide) ?_
            refine x_callV_X (pc := 73) (ci := 4) d_R_visit_73 k_R_142 wi_R_answer wv_R_answer w_R_answer ini_R wd_R_answer ⟨by decide, by decide⟩ ⟨rfl, rfl⟩ ⟨Nat.zero_le _, Nat.zero_le _⟩ 0 rfl rfl (t_R_answer (by omega)) rfl rfl (Nat.le_of_ble_eq_true rfl) (fun v73 w73 hp73 => ?_)
            obtain ⟨rfl, Pz, Qz, Sz, Fz, Rz, gz, hapz, rfl⟩ := hp73
            refine x_sub [0, 1, 2, 3, 4] _ rfl ?_
            first
              | exact hc76 Pz Qz Sz Fz Rz gz (rN1a hapa hapz h68 ((hs1 (by omega)).mp h63))
              | exact hc76 Pa Qa Sa Fa Ra ga (rN1b hapa (Or.inl h68))
              | exact hc76 Pa Qa Sa Fa Ra ga (rN1b hapa (Or.inr (hs1n (by omega) h63)))
      · intro h9
        refine x_aload_n (pc := 12) d_R_visit_12 1 rfl ?_
        refine x_iload_n (pc := 13) d_R_visit_13 2 rfl ?_
        refine x_iload_n (pc := 14) d_R_visit_14 3 rfl ?_
        refine x_iload_n (pc := 15) d_R_visit_15 0 rfl ?_
        refine x_callV_X (pc := 16) (ci := 4) d_R_visit_16 k_R_135 wi_R_look wv_R_look w_R_look ini_R wd_R_look ⟨by decide, by decide⟩ ⟨rfl, rfl⟩ ⟨Nat.zero_le _, Nat.zero_le _⟩ 0 rfl rfl (t_R_look hw hlx8 (by omega) hc (hw.2.2.2.2.2.2 lx i hlx (by omega))) rfl rfl (Nat.le_of_ble_eq_true rfl) (fun v16 w16 hp16 => ?_)
        obtain ⟨rfl, AP2, AQ2, hkp, hlo, rfl⟩ := hp16
        refine x_iincN (pc := 19) d_R_visit_19 0 rfl (by decide) [(3, _), (0, _), (1, _), (2, _)] rfl ?_
        refine x_goto (pc := 22) (tgt := 2) d_R_visit_22 rfl ?_
        refine x_sub [0, 1, 2, 3] _ rfl ?_
        refine ih (i + 1) AP2 AQ2 (by omega) (by omega) (fun j hj => ?_)
        by_cases e : j = i
        · rw [e]
          exact hlo
        · rw [(hkp j e).1, (hkp j e).2]
          exact hld j (by omega)
  refine x_sub [0, 1, 2, 3] _ rfl ?_
  exact hlp (siz lx + 1) 0 AP AQ (by omega) (by omega) (fun j hj => absurd hj (Nat.not_lt_zero j))
end REF8
