section LAWC
variable {l : Launch} {D : va_G} {ad ad2 : Nat → Nat} {cI cL : ClassId} {E : XE} {A : Nat → Prop} {b L i : Nat} {xs : Nat → Int32}
set_option maxHeartbeats 4000000 in
set_option maxRecDepth 100000 in
theorem lw_0 (hX : scr E A b L xs) (hi3 : i + 3 ≤ L) {w : va_W} (hst : lst ad ad2 cI cL w) (cont : ∀ w2, lst ad ad2 cI cL w2 → xj E l room_1 code 4 ret "ClosureFlowsLaw" (gG D cI cL) A 34 1651 (fun v _ => v = some (.int (nI 1))) 34 1651 (w2) 520 [(3, .int (nI i)), (0, .ref b), (1, .ref (ad 0)), (2, .ref (ad2 0))] []) : xj E l room_1 code 4 ret "ClosureFlowsLaw" (gG D cI cL) A 34 1651 (fun v _ => v = some (.int (nI 1))) 34 1651 (w) 120 [(3, .int (nI i)), (0, .ref b), (1, .ref (ad 0)), (2, .ref (ad2 0))] [] := by
  obtain ⟨par, prm, lin, siz, atm, cnt, own, out, bnd, cal, opr, n, ph, oc, P, Q, OC, OP, F, S, R, vis, nc, gr, md, mo, he, en, ap, ocr, calr, el, eu, ev, ag, an, kk, Pr, Qr, Sr, Fr, Rr, ch, AP, AQ, hi, rfl⟩ := hst
  have hi0 := hi
  obtain ⟨hw, hli, ho0, hu0, hmo, hph, hrun, hop, hag, hO4, han, hsa⟩ := hi
  have hc8 : cnt ≤ 8 := hw.2.1
  have hL := hX.2.2.2
  subst hmo
  subst han
  refine x_aload_n (pc := 120) d_L_law_120 2 rfl ?_
  refine x_aload_n (pc := 121) d_L_law_121 1 rfl ?_
  refine x_iload_n (pc := 122) d_L_law_122 0 rfl ?_
  refine x_iconst (pc := 123) (nI 1) d_L_law_123 (by decide) ?_
  refine x_iaddN (pc := 124) d_L_law_124 ?_
  refine x_sld (pc := 125) hX d_L_law_125 (by omega) ?_
  refine x_aload_n (pc := 126) d_L_law_126 1 rfl ?_
  refine x_iload_n (pc := 127) d_L_law_127 0 rfl ?_
  refine x_iconst (pc := 128) (nI 2) d_L_law_128 (by decide) ?_
  refine x_iaddN (pc := 129) d_L_law_129 ?_
  refine x_sld (pc := 130) hX d_L_law_130 (by omega) ?_
  refine x_callV_X (pc := 131) (ci := 3) d_L_law_131 k_L_13 wi_C_lambda wv_C_lambda w_C_lambda ini_C wd_C_lambda ⟨by decide, by decide⟩ ⟨rfl, rfl⟩ ⟨Nat.le_of_ble_eq_true rfl, Nat.le_of_ble_eq_true rfl⟩ 0 rfl rfl (CT.left (t_C_lambda hc8)) rfl rfl (Nat.le_of_ble_eq_true rfl) (fun v1 w1 hp1 => ?_)
  obtain ⟨u1, hp1, rfl⟩ := hp1
  rcases hp1 with ⟨p, k, hk, rfl, rfl⟩ | ⟨hn, rfl, rfl⟩
  · refine x_aload_n (pc := 134) d_L_law_134 3 rfl ?_
    refine x_aload_n (pc := 135) d_L_law_135 1 rfl ?_
    refine x_iload_n (pc := 136) d_L_law_136 0 rfl ?_
    refine x_iconst (pc := 137) (nI 1) d_L_law_137 (by decide) ?_
    refine x_iaddN (pc := 138) d_L_law_138 ?_
    refine x_sld (pc := 139) hX d_L_law_139 (by omega) ?_
    refine x_aload_n (pc := 140) d_L_law_140 1 rfl ?_
    refine x_iload_n (pc := 141) d_L_law_141 0 rfl ?_
    refine x_iconst (pc := 142) (nI 2) d_L_law_142 (by decide) ?_
    refine x_iaddN (pc := 143) d_L_law_143 ?_
    refine x_sld (pc := 144) hX d_L_law_144 (by omega) ?_
    refine x_callV_X (pc := 145) (ci := 4) d_L_law_145 k_L_17 wi_R_lambda wv_R_lambda w_R_lambda ini_R wd_R_lambda ⟨by decide, by decide⟩ ⟨rfl, rfl⟩ ⟨Nat.le_of_ble_eq_true rfl, Nat.le_of_ble_eq_true rfl⟩ 19 rfl rfl (CT.right (t_R_lambda hc8)) rfl rfl (Nat.le_of_ble_eq_true rfl) (fun v2 w2 hp2 => ?_)
    obtain ⟨u2, hp2, rfl⟩ := hp2
    rcases hp2 with ⟨p2, k2, hk2, rfl, rfl⟩ | ⟨hn2, rfl, rfl⟩
    · obtain ⟨rfl, rfl⟩ := lam_un hk2 hk
      exact x_icmp_eq (pc := 148) (tgt := 520) d_L_law_148 rfl (fun _ => cont _ ⟨(upd par cnt (nI p)), (un prm cnt k), (upd lin cnt (lin p ||| 1 <<< (nI cnt &&& 31))), (un siz cnt 0), atm, (cnt + 1), own, out, bnd, cal, opr, n, 0, oc, P, Q, OC, OP, F, S, R, vis, nc, gr, false, 0, he, en, ap, ocr, calr, el, eu, ev, ag, false, kk, Pr, Qr, Sr, Fr, Rr, ch, AP, AQ, hi0.lam hk, rfl⟩) (fun h => absurd (rfl) h)
    · exact absurd ⟨_, _, hk⟩ hn2
  · refine x_aload_n (pc := 134) d_L_law_134 3 rfl ?_
    refine x_aload_n (pc := 135) d_L_law_135 1 rfl ?_
    refine x_iload_n (pc := 136) d_L_law_136 0 rfl ?_
    refine x_iconst (pc := 137) (nI 1) d_L_law_137 (by decide) ?_
    refine x_iaddN (pc := 138) d_L_law_138 ?_
    refine x_sld (pc := 139) hX d_L_law_139 (by omega) ?_
    refine x_aload_n (pc := 140) d_L_law_140 1 rfl ?_
    refine x_iload_n (pc := 141) d_L_law_141 0 rfl ?_
    refine x_iconst (pc := 142) (nI 2) d_L_law_142 (by decide) ?_
    refine x_iaddN (pc := 143) d_L_law_143 ?_
    refine x_sld (pc := 144) hX d_L_law_144 (by omega) ?_
    refine x_callV_X (pc := 145) (ci := 4) d_L_law_145 k_L_17 wi_R_lambda wv_R_lambda w_R_lambda ini_R wd_R_lambda ⟨by decide, by decide⟩ ⟨rfl, rfl⟩ ⟨Nat.le_of_ble_eq_true rfl, Nat.le_of_ble_eq_true rfl⟩ 19 rfl rfl (CT.right (t_R_lambda hc8)) rfl rfl (Nat.le_of_ble_eq_true rfl) (fun v2 w2 hp2 => ?_)
    obtain ⟨u2, hp2, rfl⟩ := hp2
    rcases hp2 with ⟨p2, k2, hk2, rfl, rfl⟩ | ⟨hn2, rfl, rfl⟩
    · exact absurd ⟨_, _, hk2⟩ hn
    · exact x_icmp_eq (pc := 148) (tgt := 520) d_L_law_148 rfl (fun _ => cont _ ⟨par, prm, lin, siz, atm, cnt, own, out, bnd, cal, opr, n, mo, oc, P, Q, OC, OP, F, S, R, vis, nc, gr, an, mo, he, en, ap, ocr, calr, el, eu, ev, ag, an, kk, Pr, Qr, Sr, Fr, Rr, ch, AP, AQ, hi0, rfl⟩) (fun h => absurd (rfl) h)
set_option maxHeartbeats 4000000 in
set_option maxRecDepth 100000 in
theorem lw_1 (hX : scr E A b L xs) (hi3 : i + 3 ≤ L) {w : va_W} (hst : lst ad ad2 cI cL w) (cont : ∀ w2, lst ad ad2 cI cL w2 → xj E l room_1 code 4 ret "ClosureFlowsLaw" (gG D cI cL) A 34 1651 (fun v _ => v = some (.int (nI 1))) 34 1651 (w2) 520 [(3, .int (nI i)), (0, .ref b), (1, .ref (ad 0)), (2, .ref (ad2 0))] []) : xj E l room_1 code 4 ret "ClosureFlowsLaw" (gG D cI cL) A 34 1651 (fun v _ => v = some (.int (nI 1))) 34 1651 (w) 153 [(3, .int (nI i)), (0, .ref b), (1, .ref (ad 0)), (2, .ref (ad2 0))] [] := by
  obtain ⟨par, prm, lin, siz, atm, cnt, own, out, bnd, cal, opr, n, ph, oc, P, Q, OC, OP, F, S, R, vis, nc, gr, md, mo, he, en, ap, ocr, calr, el, eu, ev, ag, an, kk, Pr, Qr, Sr, Fr, Rr, ch, AP, AQ, hi, rfl⟩ := hst
  have hi0 := hi
  obtain ⟨hw, hli, ho0, hu0, hmo, hph, hrun, hop, hag, hO4, han, hsa⟩ := hi
  have hc8 : cnt ≤ 8 := hw.2.1
  have hL := hX.2.2.2
  subst hmo
  subst han
  refine x_aload_n (pc := 153) d_L_law_153 2 rfl ?_
  refine x_aload_n (pc := 154) d_L_law_154 1 rfl ?_
  refine x_iload_n (pc := 155) d_L_law_155 0 rfl ?_
  refine x_iconst (pc := 156) (nI 1) d_L_law_156 (by decide) ?_
  refine x_iaddN (pc := 157) d_L_law_157 ?_
  refine x_sld (pc := 158) hX d_L_law_158 (by omega) ?_
  refine x_aload_n (pc := 159) d_L_law_159 1 rfl ?_
  refine x_iload_n (pc := 160) d_L_law_160 0 rfl ?_
  refine x_iconst (pc := 161) (nI 2) d_L_law_161 (by decide) ?_
  refine x_iaddN (pc := 162) d_L_law_162 ?_
  refine x_sld (pc := 163) hX d_L_law_163 (by omega) ?_
  refine x_callV_X (pc := 164) (ci := 3) d_L_law_164 k_L_18 wi_C_put wv_C_put w_C_put ini_C wd_C_put ⟨by decide, by decide⟩ ⟨rfl, rfl⟩ ⟨Nat.le_of_ble_eq_true rfl, Nat.le_of_ble_eq_true rfl⟩ 0 rfl rfl (CT.left (t_C_put hw hli)) rfl rfl (Nat.le_of_ble_eq_true rfl) (fun v1 w1 hp1 => ?_)
  obtain ⟨u1, hp1, rfl⟩ := hp1
  rcases hp1 with ⟨p, k, hk, rfl, rfl⟩ | ⟨hn, rfl, rfl⟩
  · refine x_aload_n (pc := 167) d_L_law_167 3 rfl ?_
    refine x_aload_n (pc := 168) d_L_law_168 1 rfl ?_
    refine x_iload_n (pc := 169) d_L_law_169 0 rfl ?_
    refine x_iconst (pc := 170) (nI 1) d_L_law_170 (by decide) ?_
    refine x_iaddN (pc := 171) d_L_law_171 ?_
    refine x_sld (pc := 172) hX d_L_law_172 (by omega) ?_
    refine x_aload_n (pc := 173) d_L_law_173 1 rfl ?_
    refine x_iload_n (pc := 174) d_L_law_174 0 rfl ?_
    refine x_iconst (pc := 175) (nI 2) d_L_law_175 (by decide) ?_
    refine x_iaddN (pc := 176) d_L_law_176 ?_
    refine x_sld (pc := 177) hX d_L_law_177 (by omega) ?_
    refine x_callV_X (pc := 178) (ci := 4) d_L_law_178 k_L_22 wi_R_put wv_R_put w_R_put ini_R wd_R_put ⟨by decide, by decide⟩ ⟨rfl, rfl⟩ ⟨Nat.le_of_ble_eq_true rfl, Nat.le_of_ble_eq_true rfl⟩ 19 rfl rfl (CT.right (t_R_put hw)) rfl rfl (Nat.le_of_ble_eq_true rfl) (fun v2 w2 hp2 => ?_)
    obtain ⟨u2, hp2, rfl⟩ := hp2
    rcases hp2 with ⟨p2, k2, hk2, rfl, rfl⟩ | ⟨hn2, rfl, rfl⟩
    · obtain ⟨rfl, rfl⟩ := put_un hc8 hk2 hk
      exact x_icmp_eq (pc := 181) (tgt := 520) d_L_law_181 rfl (fun _ => cont _ ⟨par, prm, lin, (un siz p (siz p + 1)), (un atm (4 * p + siz p) k), cnt, own, out, bnd, cal, opr, n, 0, oc, P, Q, OC, OP, F, S, R, vis, nc, gr, false, 0, he, en, ap, ocr, calr, el, eu, ev, ag, false, kk, Pr, Qr, Sr, Fr, Rr, ch, AP, AQ, hi0.put hk, rfl⟩) (fun h => absurd (rfl) h)
    · exact absurd ⟨_, _, hk⟩ hn2
  · refine x_aload_n (pc := 167) d_L_law_167 3 rfl ?_
    refine x_aload_n (pc := 168) d_L_law_168 1 rfl ?_
    refine x_iload_n (pc := 169) d_L_law_169 0 rfl ?_
    refine x_iconst (pc := 170) (nI 1) d_L_law_170 (by decide) ?_
    refine x_iaddN (pc := 171) d_L_law_171 ?_
    refine x_sld (pc := 172) hX d_L_law_172 (by omega) ?_
    refine x_aload_n (pc := 173) d_L_law_173 1 rfl ?_
    refine x_iload_n (pc := 174) d_L_law_174 0 rfl ?_
    refine x_iconst (pc := 175) (nI 2) d_L_law_175 (by decide) ?_
    refine x_iaddN (pc := 176) d_L_law_176 ?_
    refine x_sld (pc := 177) hX d_L_law_177 (by omega) ?_
    refine x_callV_X (pc := 178) (ci := 4) d_L_law_178 k_L_22 wi_R_put wv_R_put w_R_put ini_R wd_R_put ⟨by decide, by decide⟩ ⟨rfl, rfl⟩ ⟨Nat.le_of_ble_eq_true rfl, Nat.le_of_ble_eq_true rfl⟩ 19 rfl rfl (CT.right (t_R_put hw)) rfl rfl (Nat.le_of_ble_eq_true rfl) (fun v2 w2 hp2 => ?_)
    obtain ⟨u2, hp2, rfl⟩ := hp2
    rcases hp2 with ⟨p2, k2, hk2, rfl, rfl⟩ | ⟨hn2, rfl, rfl⟩
    · exact absurd ⟨_, _, hk2⟩ hn
    · exact x_icmp_eq (pc := 181) (tgt := 520) d_L_law_181 rfl (fun _ => cont _ ⟨par, prm, lin, siz, atm, cnt, own, out, bnd, cal, opr, n, mo, oc, P, Q, OC, OP, F, S, R, vis, nc, gr, an, mo, he, en, ap, ocr, calr, el, eu, ev, ag, an, kk, Pr, Qr, Sr, Fr, Rr, ch, AP, AQ, hi0, rfl⟩) (fun h => absurd (rfl) h)
set_option maxHeartbeats 4000000 in
set_option maxRecDepth 100000 in
theorem lw_2 (hX : scr E A b L xs) (hi3 : i + 3 ≤ L) {w : va_W} (hst : lst ad ad2 cI cL w) (cont : ∀ w2, lst ad ad2 cI cL w2 → xj E l room_1 code 4 ret "ClosureFlowsLaw" (gG D cI cL) A 34 1651 (fun v _ => v = some (.int (nI 1))) 34 1651 (w2) 520 [(3, .int (nI i)), (0, .ref b), (1, .ref (ad 0)), (2, .ref (ad2 0))] []) : xj E l room_1 code 4 ret "ClosureFlowsLaw" (gG D cI cL) A 34 1651 (fun v _ => v = some (.int (nI 1))) 34 1651 (w) 186 [(3, .int (nI i)), (0, .ref b), (1, .ref (ad 0)), (2, .ref (ad2 0))] [] := by
  obtain ⟨par, prm, lin, siz, atm, cnt, own, out, bnd, cal, opr, n, ph, oc, P, Q, OC, OP, F, S, R, vis, nc, gr, md, mo, he, en, ap, ocr, calr, el, eu, ev, ag, an, kk, Pr, Qr, Sr, Fr, Rr, ch, AP, AQ, hi, rfl⟩ := hst
  have hi0 := hi
  obtain ⟨hw, hli, ho0, hu0, hmo, hph, hrun, hop, hag, hO4, han, hsa⟩ := hi
  have hc8 : cnt ≤ 8 := hw.2.1
  have hL := hX.2.2.2
  subst hmo
  subst han
  refine x_aload_n (pc := 186) d_L_law_186 2 rfl ?_
  refine x_callV_X (pc := 187) (ci := 3) d_L_law_187 k_L_23 wi_C_clear wv_C_clear w_C_clear ini_C wd_C_clear ⟨by decide, by decide⟩ ⟨rfl, rfl⟩ ⟨Nat.le_of_ble_eq_true rfl, Nat.le_of_ble_eq_true rfl⟩ 0 rfl rfl (CT.left (t_C_clear)) rfl rfl (Nat.le_of_ble_eq_true rfl) (fun v1 w1 hp1 => ?_)
  obtain ⟨u1, hp1, rfl⟩ := hp1
  obtain ⟨rfl, rfl⟩ := hp1
  refine x_aload_n (pc := 190) d_L_law_190 3 rfl ?_
  refine x_callV_X (pc := 191) (ci := 4) d_L_law_191 k_L_26 wi_R_clear wv_R_clear w_R_clear ini_R wd_R_clear ⟨by decide, by decide⟩ ⟨rfl, rfl⟩ ⟨Nat.le_of_ble_eq_true rfl, Nat.le_of_ble_eq_true rfl⟩ 19 rfl rfl (CT.right (t_R_clear)) rfl rfl (Nat.le_of_ble_eq_true rfl) (fun v2 w2 hp2 => ?_)
  obtain ⟨u2, hp2, rfl⟩ := hp2
  obtain ⟨rfl, rfl⟩ := hp2
  refine x_goto (pc := 194) (tgt := 520) d_L_law_194 rfl ?_
  exact cont _ ⟨par, prm, lin, (un siz 0 0), atm, 1, own, out, bnd, cal, opr, n, 0, oc, P, Q, OC, OP, F, S, R, vis, nc, gr, false, 0, he, en, ap, ocr, calr, el, eu, ev, ag, false, kk, Pr, Qr, Sr, Fr, Rr, ch, AP, AQ, hi0.clr, rfl⟩
set_option maxHeartbeats 4000000 in
set_option maxRecDepth 100000 in
theorem lw_3 (hX : scr E A b L xs) (hi3 : i + 3 ≤ L) {w : va_W} (hst : lst ad ad2 cI cL w) (cont : ∀ w2, lst ad ad2 cI cL w2 → xj E l room_1 code 4 ret "ClosureFlowsLaw" (gG D cI cL) A 34 1651 (fun v _ => v = some (.int (nI 1))) 34 1651 (w2) 520 [(3, .int (nI i)), (0, .ref b), (1, .ref (ad 0)), (2, .ref (ad2 0))] []) : xj E l room_1 code 4 ret "ClosureFlowsLaw" (gG D cI cL) A 34 1651 (fun v _ => v = some (.int (nI 1))) 34 1651 (w) 197 [(3, .int (nI i)), (0, .ref b), (1, .ref (ad 0)), (2, .ref (ad2 0))] [] := by
  obtain ⟨par, prm, lin, siz, atm, cnt, own, out, bnd, cal, opr, n, ph, oc, P, Q, OC, OP, F, S, R, vis, nc, gr, md, mo, he, en, ap, ocr, calr, el, eu, ev, ag, an, kk, Pr, Qr, Sr, Fr, Rr, ch, AP, AQ, hi, rfl⟩ := hst
  have hi0 := hi
  obtain ⟨hw, hli, ho0, hu0, hmo, hph, hrun, hop, hag, hO4, han, hsa⟩ := hi
  have hc8 : cnt ≤ 8 := hw.2.1
  have hL := hX.2.2.2
  subst hmo
  subst han
  refine x_aload_n (pc := 197) d_L_law_197 2 rfl ?_
  refine x_callV_X (pc := 198) (ci := 3) d_L_law_198 k_L_27 wi_C_lambdas wv_C_lambdas w_C_lambdas ini_C wd_C_lambdas ⟨by decide, by decide⟩ ⟨rfl, rfl⟩ ⟨Nat.le_of_ble_eq_true rfl, Nat.le_of_ble_eq_true rfl⟩ 0 rfl rfl (CT.left (t_C_lambdas)) rfl rfl (Nat.le_of_ble_eq_true rfl) (fun v1 w1 hp1 => ?_)
  obtain ⟨u1, hp1, rfl⟩ := hp1
  obtain ⟨rfl, rfl⟩ := hp1
  refine x_aload_n (pc := 201) d_L_law_201 3 rfl ?_
  refine x_callV_X (pc := 202) (ci := 4) d_L_law_202 k_L_31 wi_R_lambdas wv_R_lambdas w_R_lambdas ini_R wd_R_lambdas ⟨by decide, by decide⟩ ⟨rfl, rfl⟩ ⟨Nat.le_of_ble_eq_true rfl, Nat.le_of_ble_eq_true rfl⟩ 19 rfl rfl (CT.right (t_R_lambdas)) rfl rfl (Nat.le_of_ble_eq_true rfl) (fun v2 w2 hp2 => ?_)
  obtain ⟨u2, hp2, rfl⟩ := hp2
  obtain ⟨rfl, rfl⟩ := hp2
  exact x_icmp_eq (pc := 205) (tgt := 520) d_L_law_205 rfl (fun _ => cont _ ⟨par, prm, lin, siz, atm, cnt, own, out, bnd, cal, opr, n, mo, oc, P, Q, OC, OP, F, S, R, vis, nc, gr, an, mo, he, en, ap, ocr, calr, el, eu, ev, ag, an, kk, Pr, Qr, Sr, Fr, Rr, ch, AP, AQ, hi0, rfl⟩) (fun h => absurd (rfl) h)
set_option maxHeartbeats 4000000 in
set_option maxRecDepth 100000 in
theorem lw_4 (hX : scr E A b L xs) (hi3 : i + 3 ≤ L) {w : va_W} (hst : lst ad ad2 cI cL w) (cont : ∀ w2, lst ad ad2 cI cL w2 → xj E l room_1 code 4 ret "ClosureFlowsLaw" (gG D cI cL) A 34 1651 (fun v _ => v = some (.int (nI 1))) 34 1651 (w2) 520 [(3, .int (nI i)), (0, .ref b), (1, .ref (ad 0)), (2, .ref (ad2 0))] []) : xj E l room_1 code 4 ret "ClosureFlowsLaw" (gG D cI cL) A 34 1651 (fun v _ => v = some (.int (nI 1))) 34 1651 (w) 210 [(3, .int (nI i)), (0, .ref b), (1, .ref (ad 0)), (2, .ref (ad2 0))] [] := by
  obtain ⟨par, prm, lin, siz, atm, cnt, own, out, bnd, cal, opr, n, ph, oc, P, Q, OC, OP, F, S, R, vis, nc, gr, md, mo, he, en, ap, ocr, calr, el, eu, ev, ag, an, kk, Pr, Qr, Sr, Fr, Rr, ch, AP, AQ, hi, rfl⟩ := hst
  have hi0 := hi
  obtain ⟨hw, hli, ho0, hu0, hmo, hph, hrun, hop, hag, hO4, han, hsa⟩ := hi
  have hc8 : cnt ≤ 8 := hw.2.1
  have hL := hX.2.2.2
  subst hmo
  subst han
  refine x_aload_n (pc := 210) d_L_law_210 2 rfl ?_
  refine x_aload_n (pc := 211) d_L_law_211 1 rfl ?_
  refine x_iload_n (pc := 212) d_L_law_212 0 rfl ?_
  refine x_iconst (pc := 213) (nI 1) d_L_law_213 (by decide) ?_
  refine x_iaddN (pc := 214) d_L_law_214 ?_
  refine x_sld (pc := 215) hX d_L_law_215 (by omega) ?_
  refine x_aload_n (pc := 216) d_L_law_216 1 rfl ?_
  refine x_iload_n (pc := 217) d_L_law_217 0 rfl ?_
  refine x_iconst (pc := 218) (nI 2) d_L_law_218 (by decide) ?_
  refine x_iaddN (pc := 219) d_L_law_219 ?_
  refine x_sld (pc := 220) hX d_L_law_220 (by omega) ?_
  refine x_callV_X (pc := 221) (ci := 3) d_L_law_221 k_L_32 wi_C_atom wv_C_atom w_C_atom ini_C wd_C_atom ⟨by decide, by decide⟩ ⟨rfl, rfl⟩ ⟨Nat.le_of_ble_eq_true rfl, Nat.le_of_ble_eq_true rfl⟩ 0 rfl rfl (CT.left (t_C_atom hw)) rfl rfl (Nat.le_of_ble_eq_true rfl) (fun v1 w1 hp1 => ?_)
  obtain ⟨u1, hp1, rfl⟩ := hp1
  obtain ⟨rfl, rfl⟩ := hp1
  refine x_aload_n (pc := 224) d_L_law_224 3 rfl ?_
  refine x_aload_n (pc := 225) d_L_law_225 1 rfl ?_
  refine x_iload_n (pc := 226) d_L_law_226 0 rfl ?_
  refine x_iconst (pc := 227) (nI 1) d_L_law_227 (by decide) ?_
  refine x_iaddN (pc := 228) d_L_law_228 ?_
  refine x_sld (pc := 229) hX d_L_law_229 (by omega) ?_
  refine x_aload_n (pc := 230) d_L_law_230 1 rfl ?_
  refine x_iload_n (pc := 231) d_L_law_231 0 rfl ?_
  refine x_iconst (pc := 232) (nI 2) d_L_law_232 (by decide) ?_
  refine x_iaddN (pc := 233) d_L_law_233 ?_
  refine x_sld (pc := 234) hX d_L_law_234 (by omega) ?_
  refine x_callV_X (pc := 235) (ci := 4) d_L_law_235 k_L_35 wi_R_atom wv_R_atom w_R_atom ini_R wd_R_atom ⟨by decide, by decide⟩ ⟨rfl, rfl⟩ ⟨Nat.le_of_ble_eq_true rfl, Nat.le_of_ble_eq_true rfl⟩ 19 rfl rfl (CT.right (t_R_atom hw)) rfl rfl (Nat.le_of_ble_eq_true rfl) (fun v2 w2 hp2 => ?_)
  obtain ⟨u2, hp2, rfl⟩ := hp2
  obtain ⟨rfl, rfl⟩ := hp2
  exact x_icmp_eq (pc := 238) (tgt := 520) d_L_law_238 rfl (fun _ => cont _ ⟨par, prm, lin, siz, atm, cnt, own, out, bnd, cal, opr, n, mo, oc, P, Q, OC, OP, F, S, R, vis, nc, gr, an, mo, he, en, ap, ocr, calr, el, eu, ev, ag, an, kk, Pr, Qr, Sr, Fr, Rr, ch, AP, AQ, hi0, rfl⟩) (fun h => absurd (rfl) h)
set_option maxHeartbeats 4000000 in
set_option maxRecDepth 100000 in
theorem lw_5 (hX : scr E A b L xs) (hi3 : i + 3 ≤ L) {w : va_W} (hst : lst ad ad2 cI cL w) (cont : ∀ w2, lst ad ad2 cI cL w2 → xj E l room_1 code 4 ret "ClosureFlowsLaw" (gG D cI cL) A 34 1651 (fun v _ => v = some (.int (nI 1))) 34 1651 (w2) 520 [(3, .int (nI i)), (0, .ref b), (1, .ref (ad 0)), (2, .ref (ad2 0))] []) : xj E l room_1 code 4 ret "ClosureFlowsLaw" (gG D cI cL) A 34 1651 (fun v _ => v = some (.int (nI 1))) 34 1651 (w) 243 [(3, .int (nI i)), (0, .ref b), (1, .ref (ad 0)), (2, .ref (ad2 0))] [] := by
  obtain ⟨par, prm, lin, siz, atm, cnt, own, out, bnd, cal, opr, n, ph, oc, P, Q, OC, OP, F, S, R, vis, nc, gr, md, mo, he, en, ap, ocr, calr, el, eu, ev, ag, an, kk, Pr, Qr, Sr, Fr, Rr, ch, AP, AQ, hi, rfl⟩ := hst
  have hi0 := hi
  obtain ⟨hw, hli, ho0, hu0, hmo, hph, hrun, hop, hag, hO4, han, hsa⟩ := hi
  have hc8 : cnt ≤ 8 := hw.2.1
  have hL := hX.2.2.2
  subst hmo
  subst han
  refine x_aload_n (pc := 243) d_L_law_243 2 rfl ?_
  refine x_callV_X (pc := 244) (ci := 3) d_L_law_244 k_L_36 wi_C_start wv_C_start w_C_start ini_C wd_C_start ⟨by decide, by decide⟩ ⟨rfl, rfl⟩ ⟨Nat.le_of_ble_eq_true rfl, Nat.le_of_ble_eq_true rfl⟩ 0 rfl rfl (CT.left (t_C_start)) rfl rfl (Nat.le_of_ble_eq_true rfl) (fun v1 w1 hp1 => ?_)
  obtain ⟨u1, hp1, rfl⟩ := hp1
  obtain ⟨rfl, rfl⟩ := hp1
  refine x_aload_n (pc := 247) d_L_law_247 3 rfl ?_
  refine x_callV_X (pc := 248) (ci := 4) d_L_law_248 k_L_39 wi_R_start wv_R_start w_R_start ini_R wd_R_start ⟨by decide, by decide⟩ ⟨rfl, rfl⟩ ⟨Nat.le_of_ble_eq_true rfl, Nat.le_of_ble_eq_true rfl⟩ 19 rfl rfl (CT.right (t_R_start)) rfl rfl (Nat.le_of_ble_eq_true rfl) (fun v2 w2 hp2 => ?_)
  obtain ⟨u2, hp2, rfl⟩ := hp2
  obtain ⟨rfl, rfl⟩ := hp2
  refine x_goto (pc := 251) (tgt := 520) d_L_law_251 rfl ?_
  exact cont _ ⟨par, prm, lin, siz, atm, cnt, own, out, bnd, (fun _ => 0), opr, 0, 1, oc, P, Q, OC, OP, F, S, R, vis, nc, gr, an, 1, 0, 0, 0, ocr, (fun _ => 0), (un el 0 0), (upd eu 0 (-1)), ev, ag, an, kk, Pr, Qr, Sr, Fr, Rr, ch, AP, AQ, hi0.sta, rfl⟩
set_option maxHeartbeats 4000000 in
set_option maxRecDepth 100000 in
theorem lw_6 (hX : scr E A b L xs) (hi3 : i + 3 ≤ L) {w : va_W} (hst : lst ad ad2 cI cL w) (cont : ∀ w2, lst ad ad2 cI cL w2 → xj E l room_1 code 4 ret "ClosureFlowsLaw" (gG D cI cL) A 34 1651 (fun v _ => v = some (.int (nI 1))) 34 1651 (w2) 520 [(3, .int (nI i)), (0, .ref b), (1, .ref (ad 0)), (2, .ref (ad2 0))] []) : xj E l room_1 code 4 ret "ClosureFlowsLaw" (gG D cI cL) A 34 1651 (fun v _ => v = some (.int (nI 1))) 34 1651 (w) 254 [(3, .int (nI i)), (0, .ref b), (1, .ref (ad 0)), (2, .ref (ad2 0))] [] := by
  obtain ⟨par, prm, lin, siz, atm, cnt, own, out, bnd, cal, opr, n, ph, oc, P, Q, OC, OP, F, S, R, vis, nc, gr, md, mo, he, en, ap, ocr, calr, el, eu, ev, ag, an, kk, Pr, Qr, Sr, Fr, Rr, ch, AP, AQ, hi, rfl⟩ := hst
  have hi0 := hi
  obtain ⟨hw, hli, ho0, hu0, hmo, hph, hrun, hop, hag, hO4, han, hsa⟩ := hi
  have hc8 : cnt ≤ 8 := hw.2.1
  have hL := hX.2.2.2
  subst hmo
  subst han
  refine x_aload_n (pc := 254) d_L_law_254 2 rfl ?_
  refine x_aload_n (pc := 255) d_L_law_255 1 rfl ?_
  refine x_iload_n (pc := 256) d_L_law_256 0 rfl ?_
  refine x_iconst (pc := 257) (nI 1) d_L_law_257 (by decide) ?_
  refine x_iaddN (pc := 258) d_L_law_258 ?_
  refine x_sld (pc := 259) hX d_L_law_259 (by omega) ?_
  refine x_callV_X (pc := 260) (ci := 3) d_L_law_260 k_L_40 wi_C_step wv_C_step w_C_step ini_C wd_C_step ⟨by decide, by decide⟩ ⟨rfl, rfl⟩ ⟨Nat.le_of_ble_eq_true rfl, Nat.le_of_ble_eq_true rfl⟩ 0 rfl rfl (CT.left (t_C_step hw hph (fun q => (hrun q).1) hop)) rfl rfl (Nat.le_of_ble_eq_true rfl) (fun v1 w1 hp1 => ?_)
  obtain ⟨u1, hp1, rfl⟩ := hp1
  rcases hp1 with ⟨k, s2, o2, hk, hx, hp0, rfl, hs2, ho2, rfl, rfl⟩ | ⟨hn, rfl, rfl⟩
  · refine x_aload_n (pc := 263) d_L_law_263 3 rfl ?_
    refine x_aload_n (pc := 264) d_L_law_264 1 rfl ?_
    refine x_iload_n (pc := 265) d_L_law_265 0 rfl ?_
    refine x_iconst (pc := 266) (nI 1) d_L_law_266 (by decide) ?_
    refine x_iaddN (pc := 267) d_L_law_267 ?_
    refine x_sld (pc := 268) hX d_L_law_268 (by omega) ?_
    refine x_callV_X (pc := 269) (ci := 4) d_L_law_269 k_L_44 wi_R_step wv_R_step w_R_step ini_R wd_R_step ⟨by decide, by decide⟩ ⟨rfl, rfl⟩ ⟨Nat.le_of_ble_eq_true rfl, Nat.le_of_ble_eq_true rfl⟩ 19 rfl rfl (CT.right (t_R_step (n := n) (own := own) (out := out) (bnd := bnd) (cal2 := cal) (ph := mo) (oc2 := oc) hw hph hrun hag)) rfl rfl (Nat.le_of_ble_eq_true rfl) (fun v2 w2 hp2 => ?_)
    obtain ⟨u2, hp2, rfl⟩ := hp2
    rcases hp2 with ⟨k2, hk2, hx2, hp02, mo9, he9, en9, ap9, oc9, cal9, el9, eu9, ev9, ag9, hr9, hg9, rfl, rfl⟩ | ⟨hn2, rfl, rfl⟩
    · obtain rfl := nI_inj (by omega) (by omega) (hx.symm.trans hx2)
      exact x_icmp_eq (pc := 272) (tgt := 520) d_L_law_272 rfl (fun _ => cont _ ⟨par, prm, lin, siz, atm, cnt, _, _, _, _, o2, _, _, _, P, Q, OC, OP, F, S, R, vis, nc, gr, an, mo9, he9, en9, ap9, oc9, cal9, el9, eu9, ev9, ag9, an, kk, Pr, Qr, Sr, Fr, Rr, ch, AP, AQ, (hi0.stp hs2 ho2 hr9 hg9), rfl⟩) (fun h => absurd (rfl) h)
    · exact absurd hn2 (fun q => q.elim hp0 (fun q => q ⟨k, hk, hx⟩))
  · refine x_aload_n (pc := 263) d_L_law_263 3 rfl ?_
    refine x_aload_n (pc := 264) d_L_law_264 1 rfl ?_
    refine x_iload_n (pc := 265) d_L_law_265 0 rfl ?_
    refine x_iconst (pc := 266) (nI 1) d_L_law_266 (by decide) ?_
    refine x_iaddN (pc := 267) d_L_law_267 ?_
    refine x_sld (pc := 268) hX d_L_law_268 (by omega) ?_
    refine x_callV_X (pc := 269) (ci := 4) d_L_law_269 k_L_44 wi_R_step wv_R_step w_R_step ini_R wd_R_step ⟨by decide, by decide⟩ ⟨rfl, rfl⟩ ⟨Nat.le_of_ble_eq_true rfl, Nat.le_of_ble_eq_true rfl⟩ 19 rfl rfl (CT.right (t_R_step (n := n) (own := own) (out := out) (bnd := bnd) (cal2 := cal) (ph := mo) (oc2 := oc) hw hph hrun hag)) rfl rfl (Nat.le_of_ble_eq_true rfl) (fun v2 w2 hp2 => ?_)
    obtain ⟨u2, hp2, rfl⟩ := hp2
    rcases hp2 with ⟨k2, hk2, hx2, hp02, mo9, he9, en9, ap9, oc9, cal9, el9, eu9, ev9, ag9, hr9, hg9, rfl, rfl⟩ | ⟨hn2, rfl, rfl⟩
    · exact absurd hn (fun q => q.elim hp02 (fun q => q ⟨k2, hk2, hx2⟩))
    · exact x_icmp_eq (pc := 272) (tgt := 520) d_L_law_272 rfl (fun _ => cont _ ⟨par, prm, lin, siz, atm, cnt, own, out, bnd, cal, opr, n, mo, oc, P, Q, OC, OP, F, S, R, vis, nc, gr, an, mo, he, en, ap, ocr, calr, el, eu, ev, ag, an, kk, Pr, Qr, Sr, Fr, Rr, ch, AP, AQ, hi0, rfl⟩) (fun h => absurd (rfl) h)
set_option maxHeartbeats 4000000 in
set_option maxRecDepth 100000 in
theorem lw_7 (hX : scr E A b L xs) (hi3 : i + 3 ≤ L) {w : va_W} (hst : lst ad ad2 cI cL w) (cont : ∀ w2, lst ad ad2 cI cL w2 → xj E l room_1 code 4 ret "ClosureFlowsLaw" (gG D cI cL) A 34 1651 (fun v _ => v = some (.int (nI 1))) 34 1651 (w2) 520 [(3, .int (nI i)), (0, .ref b), (1, .ref (ad 0)), (2, .ref (ad2 0))] []) : xj E l room_1 code 4 ret "ClosureFlowsLaw" (gG D cI cL) A 34 1651 (fun v _ => v = some (.int (nI 1))) 34 1651 (w) 277 [(3, .int (nI i)), (0, .ref b), (1, .ref (ad 0)), (2, .ref (ad2 0))] [] := by
  obtain ⟨par, prm, lin, siz, atm, cnt, own, out, bnd, cal, opr, n, ph, oc, P, Q, OC, OP, F, S, R, vis, nc, gr, md, mo, he, en, ap, ocr, calr, el, eu, ev, ag, an, kk, Pr, Qr, Sr, Fr, Rr, ch, AP, AQ, hi, rfl⟩ := hst
  have hi0 := hi
  obtain ⟨hw, hli, ho0, hu0, hmo, hph, hrun, hop, hag, hO4, han, hsa⟩ := hi
  have hc8 : cnt ≤ 8 := hw.2.1
  have hL := hX.2.2.2
  subst hmo
  subst han
  refine x_aload_n (pc := 277) d_L_law_277 2 rfl ?_
  refine x_callV_X (pc := 278) (ci := 3) d_L_law_278 k_L_45 wi_C_state wv_C_state w_C_state ini_C wd_C_state ⟨by decide, by decide⟩ ⟨rfl, rfl⟩ ⟨Nat.le_of_ble_eq_true rfl, Nat.le_of_ble_eq_true rfl⟩ 0 rfl rfl (CT.left (t_C_state)) rfl rfl (Nat.le_of_ble_eq_true rfl) (fun v1 w1 hp1 => ?_)
  obtain ⟨u1, hp1, rfl⟩ := hp1
  obtain ⟨rfl, rfl⟩ := hp1
  refine x_aload_n (pc := 281) d_L_law_281 3 rfl ?_
  refine x_callV_X (pc := 282) (ci := 4) d_L_law_282 k_L_48 wi_R_state wv_R_state w_R_state ini_R wd_R_state ⟨by decide, by decide⟩ ⟨rfl, rfl⟩ ⟨Nat.le_of_ble_eq_true rfl, Nat.le_of_ble_eq_true rfl⟩ 19 rfl rfl (CT.right (t_R_state)) rfl rfl (Nat.le_of_ble_eq_true rfl) (fun v2 w2 hp2 => ?_)
  obtain ⟨u2, hp2, rfl⟩ := hp2
  obtain ⟨rfl, rfl⟩ := hp2
  exact x_icmp_eq (pc := 285) (tgt := 520) d_L_law_285 rfl (fun _ => cont _ ⟨par, prm, lin, siz, atm, cnt, own, out, bnd, cal, opr, n, mo, oc, P, Q, OC, OP, F, S, R, vis, nc, gr, an, mo, he, en, ap, ocr, calr, el, eu, ev, ag, an, kk, Pr, Qr, Sr, Fr, Rr, ch, AP, AQ, hi0, rfl⟩) (fun h => absurd (rfl) h)
set_option maxHeartbeats 4000000 in
set_option maxRecDepth 100000 in
theorem lw_8 (hX : scr E A b L xs) (hi3 : i + 3 ≤ L) {w : va_W} (hst : lst ad ad2 cI cL w) (cont : ∀ w2, lst ad ad2 cI cL w2 → xj E l room_1 code 4 ret "ClosureFlowsLaw" (gG D cI cL) A 34 1651 (fun v _ => v = some (.int (nI 1))) 34 1651 (w2) 520 [(3, .int (nI i)), (0, .ref b), (1, .ref (ad 0)), (2, .ref (ad2 0))] []) : xj E l room_1 code 4 ret "ClosureFlowsLaw" (gG D cI cL) A 34 1651 (fun v _ => v = some (.int (nI 1))) 34 1651 (w) 290 [(3, .int (nI i)), (0, .ref b), (1, .ref (ad 0)), (2, .ref (ad2 0))] [] := by
  obtain ⟨par, prm, lin, siz, atm, cnt, own, out, bnd, cal, opr, n, ph, oc, P, Q, OC, OP, F, S, R, vis, nc, gr, md, mo, he, en, ap, ocr, calr, el, eu, ev, ag, an, kk, Pr, Qr, Sr, Fr, Rr, ch, AP, AQ, hi, rfl⟩ := hst
  have hi0 := hi
  obtain ⟨hw, hli, ho0, hu0, hmo, hph, hrun, hop, hag, hO4, han, hsa⟩ := hi
  have hc8 : cnt ≤ 8 := hw.2.1
  have hL := hX.2.2.2
  subst hmo
  subst han
  refine x_aload_n (pc := 290) d_L_law_290 2 rfl ?_
  refine x_callV_X (pc := 291) (ci := 3) d_L_law_291 k_L_49 wi_C_at wv_C_at w_C_at ini_C wd_C_at ⟨by decide, by decide⟩ ⟨rfl, rfl⟩ ⟨Nat.le_of_ble_eq_true rfl, Nat.le_of_ble_eq_true rfl⟩ 0 rfl rfl (CT.left (t_C_at hph (fun q => (hrun q).1.1.1))) rfl rfl (Nat.le_of_ble_eq_true rfl) (fun v1 w1 hp1 => ?_)
  obtain ⟨u1, hp1, rfl⟩ := hp1
  obtain ⟨rfl, rfl⟩ := hp1
  refine x_aload_n (pc := 294) d_L_law_294 3 rfl ?_
  refine x_callV_X (pc := 295) (ci := 4) d_L_law_295 k_L_52 wi_R_at wv_R_at w_R_at ini_R wd_R_at ⟨by decide, by decide⟩ ⟨rfl, rfl⟩ ⟨Nat.le_of_ble_eq_true rfl, Nat.le_of_ble_eq_true rfl⟩ 19 rfl rfl (CT.right (t_R_at hph)) rfl rfl (Nat.le_of_ble_eq_true rfl) (fun v2 w2 hp2 => ?_)
  obtain ⟨u2, hp2, rfl⟩ := hp2
  obtain ⟨rfl, rfl⟩ := hp2
  exact x_icmp_eq (pc := 298) (tgt := 520) d_L_law_298 rfl (fun _ => cont _ ⟨par, prm, lin, siz, atm, cnt, own, out, bnd, cal, opr, n, mo, oc, P, Q, OC, OP, F, S, R, vis, nc, gr, an, mo, he, en, ap, ocr, calr, el, eu, ev, ag, an, kk, Pr, Qr, Sr, Fr, Rr, ch, AP, AQ, hi0, rfl⟩) (fun h => absurd ((by
    by_cases q : mo = 0
    · rw [if_pos q, if_pos q]
    · rw [if_neg q, if_neg q]
      exact congrArg nI (hrun q).2.2.2.2.1.symm)) h)
set_option maxHeartbeats 4000000 in
set_option maxRecDepth 100000 in
theorem lw_9 (hX : scr E A b L xs) (hi3 : i + 3 ≤ L) {w : va_W} (hst : lst ad ad2 cI cL w) (cont : ∀ w2, lst ad ad2 cI cL w2 → xj E l room_1 code 4 ret "ClosureFlowsLaw" (gG D cI cL) A 34 1651 (fun v _ => v = some (.int (nI 1))) 34 1651 (w2) 520 [(3, .int (nI i)), (0, .ref b), (1, .ref (ad 0)), (2, .ref (ad2 0))] []) : xj E l room_1 code 4 ret "ClosureFlowsLaw" (gG D cI cL) A 34 1651 (fun v _ => v = some (.int (nI 1))) 34 1651 (w) 303 [(3, .int (nI i)), (0, .ref b), (1, .ref (ad 0)), (2, .ref (ad2 0))] [] := by
  obtain ⟨par, prm, lin, siz, atm, cnt, own, out, bnd, cal, opr, n, ph, oc, P, Q, OC, OP, F, S, R, vis, nc, gr, md, mo, he, en, ap, ocr, calr, el, eu, ev, ag, an, kk, Pr, Qr, Sr, Fr, Rr, ch, AP, AQ, hi, rfl⟩ := hst
  have hi0 := hi
  obtain ⟨hw, hli, ho0, hu0, hmo, hph, hrun, hop, hag, hO4, han, hsa⟩ := hi
  have hc8 : cnt ≤ 8 := hw.2.1
  have hL := hX.2.2.2
  subst hmo
  subst han
  refine x_aload_n (pc := 303) d_L_law_303 2 rfl ?_
  refine x_aload_n (pc := 304) d_L_law_304 1 rfl ?_
  refine x_iload_n (pc := 305) d_L_law_305 0 rfl ?_
  refine x_iconst (pc := 306) (nI 1) d_L_law_306 (by decide) ?_
  refine x_iaddN (pc := 307) d_L_law_307 ?_
  refine x_sld (pc := 308) hX d_L_law_308 (by omega) ?_
  refine x_aload_n (pc := 309) d_L_law_309 1 rfl ?_
  refine x_iload_n (pc := 310) d_L_law_310 0 rfl ?_
  refine x_iconst (pc := 311) (nI 2) d_L_law_311 (by decide) ?_
  refine x_iaddN (pc := 312) d_L_law_312 ?_
  refine x_sld (pc := 313) hX d_L_law_313 (by omega) ?_
  refine x_callV_X (pc := 314) (ci := 3) d_L_law_314 k_L_53 wi_C_value wv_C_value w_C_value ini_C wd_C_value ⟨by decide, by decide⟩ ⟨rfl, rfl⟩ ⟨Nat.le_of_ble_eq_true rfl, Nat.le_of_ble_eq_true rfl⟩ 0 rfl rfl (CT.left (t_C_value hw hph (fun q => (hrun q).1.1))) rfl rfl (Nat.le_of_ble_eq_true rfl) (fun v1 w1 hp1 => ?_)
  obtain ⟨u1, hp1, rfl⟩ := hp1
  obtain ⟨rfl, rfl⟩ := hp1
  refine x_aload_n (pc := 317) d_L_law_317 3 rfl ?_
  refine x_aload_n (pc := 318) d_L_law_318 1 rfl ?_
  refine x_iload_n (pc := 319) d_L_law_319 0 rfl ?_
  refine x_iconst (pc := 320) (nI 1) d_L_law_320 (by decide) ?_
  refine x_iaddN (pc := 321) d_L_law_321 ?_
  refine x_sld (pc := 322) hX d_L_law_322 (by omega) ?_
  refine x_aload_n (pc := 323) d_L_law_323 1 rfl ?_
  refine x_iload_n (pc := 324) d_L_law_324 0 rfl ?_
  refine x_iconst (pc := 325) (nI 2) d_L_law_325 (by decide) ?_
  refine x_iaddN (pc := 326) d_L_law_326 ?_
  refine x_sld (pc := 327) hX d_L_law_327 (by omega) ?_
  refine x_callV_X (pc := 328) (ci := 4) d_L_law_328 k_L_56 wi_R_value wv_R_value w_R_value ini_R wd_R_value ⟨by decide, by decide⟩ ⟨rfl, rfl⟩ ⟨Nat.le_of_ble_eq_true rfl, Nat.le_of_ble_eq_true rfl⟩ 19 rfl rfl (CT.right (t_R_value (n := n) (own := own) (out := out) (bnd := bnd) hw hph (fun q => ⟨(hrun q).1.1, (hrun q).2.2.2.2.2.1, (hrun q).2.2.2.1⟩))) rfl rfl (Nat.le_of_ble_eq_true rfl) (fun v2 w2 hp2 => ?_)
  obtain ⟨u2, hp2, rfl⟩ := hp2
  obtain ⟨rfl, rfl⟩ := hp2
  exact x_icmp_eq (pc := 331) (tgt := 520) d_L_law_331 rfl (fun _ => cont _ ⟨par, prm, lin, siz, atm, cnt, own, out, bnd, cal, opr, n, mo, oc, P, Q, OC, OP, F, S, R, vis, nc, gr, an, mo, he, en, ap, ocr, calr, el, eu, ev, ag, an, kk, Pr, Qr, Sr, Fr, Rr, ch, AP, AQ, hi0, rfl⟩) (fun h => absurd (rfl) h)
set_option maxHeartbeats 4000000 in
set_option maxRecDepth 100000 in
theorem lw_10 (hX : scr E A b L xs) (hi3 : i + 3 ≤ L) {w : va_W} (hst : lst ad ad2 cI cL w) (cont : ∀ w2, lst ad ad2 cI cL w2 → xj E l room_1 code 4 ret "ClosureFlowsLaw" (gG D cI cL) A 34 1651 (fun v _ => v = some (.int (nI 1))) 34 1651 (w2) 520 [(3, .int (nI i)), (0, .ref b), (1, .ref (ad 0)), (2, .ref (ad2 0))] []) : xj E l room_1 code 4 ret "ClosureFlowsLaw" (gG D cI cL) A 34 1651 (fun v _ => v = some (.int (nI 1))) 34 1651 (w) 336 [(3, .int (nI i)), (0, .ref b), (1, .ref (ad 0)), (2, .ref (ad2 0))] [] := by
  obtain ⟨par, prm, lin, siz, atm, cnt, own, out, bnd, cal, opr, n, ph, oc, P, Q, OC, OP, F, S, R, vis, nc, gr, md, mo, he, en, ap, ocr, calr, el, eu, ev, ag, an, kk, Pr, Qr, Sr, Fr, Rr, ch, AP, AQ, hi, rfl⟩ := hst
  have hi0 := hi
  obtain ⟨hw, hli, ho0, hu0, hmo, hph, hrun, hop, hag, hO4, han, hsa⟩ := hi
  have hc8 : cnt ≤ 8 := hw.2.1
  have hL := hX.2.2.2
  subst hmo
  subst han
  have hres : mo = 2 → ocr < 2147483648 := by
    intro q
    have h1 := hrun (by omega)
    have h2 := h1.1.2.2 q
    have h3 : ocr = enc oc := h1.2.2.2.2.2.2.2 q
    have h4 : enc oc < 2000 := (enc_facts h1.1.1.1 h2).2.2.2.2.2.1
    omega
  refine x_aload_n (pc := 336) d_L_law_336 2 rfl ?_
  refine x_callV_X (pc := 337) (ci := 3) d_L_law_337 k_L_57 wi_C_result wv_C_result w_C_result ini_C wd_C_result ⟨by decide, by decide⟩ ⟨rfl, rfl⟩ ⟨Nat.le_of_ble_eq_true rfl, Nat.le_of_ble_eq_true rfl⟩ 0 rfl rfl (CT.left (t_C_result hph)) rfl rfl (Nat.le_of_ble_eq_true rfl) (fun v1 w1 hp1 => ?_)
  obtain ⟨u1, hp1, rfl⟩ := hp1
  obtain ⟨rfl, rfl⟩ := hp1
  refine x_aload_n (pc := 340) d_L_law_340 3 rfl ?_
  refine x_callV_X (pc := 341) (ci := 4) d_L_law_341 k_L_60 wi_R_result wv_R_result w_R_result ini_R wd_R_result ⟨by decide, by decide⟩ ⟨rfl, rfl⟩ ⟨Nat.le_of_ble_eq_true rfl, Nat.le_of_ble_eq_true rfl⟩ 19 rfl rfl (CT.right (t_R_resultX hph (fun q => hres q))) rfl rfl (Nat.le_of_ble_eq_true rfl) (fun v2 w2 hp2 => ?_)
  obtain ⟨u2, hp2, rfl⟩ := hp2
  obtain ⟨rfl, rfl⟩ := hp2
  exact x_icmp_eq (pc := 344) (tgt := 520) d_L_law_344 rfl (fun _ => cont _ ⟨par, prm, lin, siz, atm, cnt, own, out, bnd, cal, opr, n, mo, oc, P, Q, OC, OP, F, S, R, vis, nc, gr, an, mo, he, en, ap, ocr, calr, el, eu, ev, ag, an, kk, Pr, Qr, Sr, Fr, Rr, ch, AP, AQ, hi0, rfl⟩) (fun h => absurd ((by
    by_cases q : mo = 2
    · rw [if_pos q, if_pos q]
      have h1 := hrun (by omega)
      have h2 := h1.1.2.2 q
      have h3 : ocr = enc oc := h1.2.2.2.2.2.2.2 q
      rw [h3, told_enc h1.1.1.1 h2, tld_nI (Nat.lt_trans (vok_lt h1.1.1.1 h2) (by omega))]
    · rw [if_neg q, if_neg q])) h)
set_option maxHeartbeats 4000000 in
set_option maxRecDepth 100000 in
theorem lw_11 (hX : scr E A b L xs) (hi3 : i + 3 ≤ L) {w : va_W} (hst : lst ad ad2 cI cL w) (cont : ∀ w2, lst ad ad2 cI cL w2 → xj E l room_1 code 4 ret "ClosureFlowsLaw" (gG D cI cL) A 34 1651 (fun v _ => v = some (.int (nI 1))) 34 1651 (w2) 520 [(3, .int (nI i)), (0, .ref b), (1, .ref (ad 0)), (2, .ref (ad2 0))] []) : xj E l room_1 code 4 ret "ClosureFlowsLaw" (gG D cI cL) A 34 1651 (fun v _ => v = some (.int (nI 1))) 34 1651 (w) 349 [(3, .int (nI i)), (0, .ref b), (1, .ref (ad 0)), (2, .ref (ad2 0))] [] := by
  obtain ⟨par, prm, lin, siz, atm, cnt, own, out, bnd, cal, opr, n, ph, oc, P, Q, OC, OP, F, S, R, vis, nc, gr, md, mo, he, en, ap, ocr, calr, el, eu, ev, ag, an, kk, Pr, Qr, Sr, Fr, Rr, ch, AP, AQ, hi, rfl⟩ := hst
  have hi0 := hi
  obtain ⟨hw, hli, ho0, hu0, hmo, hph, hrun, hop, hag, hO4, han, hsa⟩ := hi
  have hc8 : cnt ≤ 8 := hw.2.1
  have hL := hX.2.2.2
  subst hmo
  subst han
  refine x_aload_n (pc := 349) d_L_law_349 2 rfl ?_
  refine x_aload_n (pc := 350) d_L_law_350 1 rfl ?_
  refine x_iload_n (pc := 351) d_L_law_351 0 rfl ?_
  refine x_iconst (pc := 352) (nI 1) d_L_law_352 (by decide) ?_
  refine x_iaddN (pc := 353) d_L_law_353 ?_
  refine x_sld (pc := 354) hX d_L_law_354 (by omega) ?_
  refine x_callV_X (pc := 355) (ci := 3) d_L_law_355 k_L_61 wi_C_called wv_C_called w_C_called ini_C wd_C_called ⟨by decide, by decide⟩ ⟨rfl, rfl⟩ ⟨Nat.le_of_ble_eq_true rfl, Nat.le_of_ble_eq_true rfl⟩ 0 rfl rfl (CT.left (t_C_called hc8 hph)) rfl rfl (Nat.le_of_ble_eq_true rfl) (fun v1 w1 hp1 => ?_)
  obtain ⟨u1, hp1, rfl⟩ := hp1
  obtain ⟨rfl, rfl⟩ := hp1
  refine x_aload_n (pc := 358) d_L_law_358 3 rfl ?_
  refine x_aload_n (pc := 359) d_L_law_359 1 rfl ?_
  refine x_iload_n (pc := 360) d_L_law_360 0 rfl ?_
  refine x_iconst (pc := 361) (nI 1) d_L_law_361 (by decide) ?_
  refine x_iaddN (pc := 362) d_L_law_362 ?_
  refine x_sld (pc := 363) hX d_L_law_363 (by omega) ?_
  refine x_callV_X (pc := 364) (ci := 4) d_L_law_364 k_L_64 wi_R_called wv_R_called w_R_called ini_R wd_R_called ⟨by decide, by decide⟩ ⟨rfl, rfl⟩ ⟨Nat.le_of_ble_eq_true rfl, Nat.le_of_ble_eq_true rfl⟩ 19 rfl rfl (CT.right (t_R_called hc8 hph)) rfl rfl (Nat.le_of_ble_eq_true rfl) (fun v2 w2 hp2 => ?_)
  obtain ⟨u2, hp2, rfl⟩ := hp2
  obtain ⟨rfl, rfl⟩ := hp2
  exact x_icmp_eq (pc := 367) (tgt := 520) d_L_law_367 rfl (fun _ => cont _ ⟨par, prm, lin, siz, atm, cnt, own, out, bnd, cal, opr, n, mo, oc, P, Q, OC, OP, F, S, R, vis, nc, gr, an, mo, he, en, ap, ocr, calr, el, eu, ev, ag, an, kk, Pr, Qr, Sr, Fr, Rr, ch, AP, AQ, hi0, rfl⟩) (fun h => absurd (lval_cg hc8 (fun q l hl => ((hrun (of_decide_eq_true q)).2.2.2.2.2.2.1 l (by omega)).symm)) h)
set_option maxHeartbeats 4000000 in
set_option maxRecDepth 100000 in
theorem lw_12 (hX : scr E A b L xs) (hi3 : i + 3 ≤ L) {w : va_W} (hst : lst ad ad2 cI cL w) (cont : ∀ w2, lst ad ad2 cI cL w2 → xj E l room_1 code 4 ret "ClosureFlowsLaw" (gG D cI cL) A 34 1651 (fun v _ => v = some (.int (nI 1))) 34 1651 (w2) 520 [(3, .int (nI i)), (0, .ref b), (1, .ref (ad 0)), (2, .ref (ad2 0))] []) : xj E l room_1 code 4 ret "ClosureFlowsLaw" (gG D cI cL) A 34 1651 (fun v _ => v = some (.int (nI 1))) 34 1651 (w) 372 [(3, .int (nI i)), (0, .ref b), (1, .ref (ad 0)), (2, .ref (ad2 0))] [] := by
  obtain ⟨par, prm, lin, siz, atm, cnt, own, out, bnd, cal, opr, n, ph, oc, P, Q, OC, OP, F, S, R, vis, nc, gr, md, mo, he, en, ap, ocr, calr, el, eu, ev, ag, an, kk, Pr, Qr, Sr, Fr, Rr, ch, AP, AQ, hi, rfl⟩ := hst
  have hi0 := hi
  obtain ⟨hw, hli, ho0, hu0, hmo, hph, hrun, hop, hag, hO4, han, hsa⟩ := hi
  have hc8 : cnt ≤ 8 := hw.2.1
  have hL := hX.2.2.2
  subst hmo
  subst han
  refine x_aload_n (pc := 372) d_L_law_372 2 rfl ?_
  refine x_aload_n (pc := 373) d_L_law_373 1 rfl ?_
  refine x_iload_n (pc := 374) d_L_law_374 0 rfl ?_
  refine x_iconst (pc := 375) (nI 1) d_L_law_375 (by decide) ?_
  refine x_iaddN (pc := 376) d_L_law_376 ?_
  refine x_sld (pc := 377) hX d_L_law_377 (by omega) ?_
  refine x_callV_X (pc := 378) (ci := 3) d_L_law_378 k_L_65 wi_C_analyse wv_C_analyse w_C_analyse ini_C wd_C_analyse ⟨by decide, by decide⟩ ⟨rfl, rfl⟩ ⟨Nat.le_of_ble_eq_true rfl, Nat.le_of_ble_eq_true rfl⟩ 0 rfl rfl (CT.left (t_C_analyse hw hli hO4)) rfl rfl (Nat.le_of_ble_eq_true rfl) (fun v1 w1 hp1 => ?_)
  obtain ⟨u1, hp1, rfl⟩ := hp1
  rcases hp1 with ⟨k, P2, Q2, S2, F2, R2, g2, OC2, OP2, vi2, nc2, hk, hx, ha1, ha2, rfl, rfl⟩ | ⟨hn, rfl, rfl⟩
  · refine x_aload_n (pc := 381) d_L_law_381 3 rfl ?_
    refine x_aload_n (pc := 382) d_L_law_382 1 rfl ?_
    refine x_iload_n (pc := 383) d_L_law_383 0 rfl ?_
    refine x_iconst (pc := 384) (nI 1) d_L_law_384 (by decide) ?_
    refine x_iaddN (pc := 385) d_L_law_385 ?_
    refine x_sld (pc := 386) hX d_L_law_386 (by omega) ?_
    refine x_callV_X (pc := 387) (ci := 4) d_L_law_387 k_L_68 wi_R_analyse wv_R_analyse w_R_analyse ini_R wd_R_analyse ⟨by decide, by decide⟩ ⟨rfl, rfl⟩ ⟨Nat.le_of_ble_eq_true rfl, Nat.le_of_ble_eq_true rfl⟩ 19 rfl rfl (CT.right (t_R_analyse hw)) rfl rfl (Nat.le_of_ble_eq_true rfl) (fun v2 w2 hp2 => ?_)
    obtain ⟨u2, hp2, rfl⟩ := hp2
    rcases hp2 with ⟨k2, P3, Q3, S3, F3, R3, g3, AP3, AQ3, hk2, hx2, hb1, rfl, rfl⟩ | ⟨hn2, rfl, rfl⟩
    · obtain rfl := nI_inj (by omega) (by omega) (hx.symm.trans hx2)
      exact x_icmp_eq (pc := 390) (tgt := 520) d_L_law_390 rfl (fun _ => cont _ ⟨par, prm, lin, siz, atm, cnt, own, out, bnd, cal, opr, n, mo, oc, P2, Q2, OC2, OP2, F2, S2, R2, vi2, nc2, g2, true, mo, he, en, ap, ocr, calr, el, eu, ev, ag, true, _, P3, Q3, S3, F3, R3, g3, AP3, AQ3, (hi0.ana ha1 hb1 ha2), rfl⟩) (fun h => absurd (by rw [(ofw_eq (aleast.eq ha1 hb1)).2.1]) h)
    · exact absurd ⟨k, hk, hx⟩ hn2
  · refine x_aload_n (pc := 381) d_L_law_381 3 rfl ?_
    refine x_aload_n (pc := 382) d_L_law_382 1 rfl ?_
    refine x_iload_n (pc := 383) d_L_law_383 0 rfl ?_
    refine x_iconst (pc := 384) (nI 1) d_L_law_384 (by decide) ?_
    refine x_iaddN (pc := 385) d_L_law_385 ?_
    refine x_sld (pc := 386) hX d_L_law_386 (by omega) ?_
    refine x_callV_X (pc := 387) (ci := 4) d_L_law_387 k_L_68 wi_R_analyse wv_R_analyse w_R_analyse ini_R wd_R_analyse ⟨by decide, by decide⟩ ⟨rfl, rfl⟩ ⟨Nat.le_of_ble_eq_true rfl, Nat.le_of_ble_eq_true rfl⟩ 19 rfl rfl (CT.right (t_R_analyse hw)) rfl rfl (Nat.le_of_ble_eq_true rfl) (fun v2 w2 hp2 => ?_)
    obtain ⟨u2, hp2, rfl⟩ := hp2
    rcases hp2 with ⟨k2, P3, Q3, S3, F3, R3, g3, AP3, AQ3, hk2, hx2, hb1, rfl, rfl⟩ | ⟨hn2, rfl, rfl⟩
    · exact absurd ⟨k2, hk2, hx2⟩ hn
    · exact x_icmp_eq (pc := 390) (tgt := 520) d_L_law_390 rfl (fun _ => cont _ ⟨par, prm, lin, siz, atm, cnt, own, out, bnd, cal, opr, n, mo, oc, P, Q, OC, OP, F, S, R, vis, nc, gr, an, mo, he, en, ap, ocr, calr, el, eu, ev, ag, an, kk, Pr, Qr, Sr, Fr, Rr, ch, AP, AQ, hi0, rfl⟩) (fun h => absurd (rfl) h)
set_option maxHeartbeats 4000000 in
set_option maxRecDepth 100000 in
theorem lw_13 (hX : scr E A b L xs) (hi3 : i + 3 ≤ L) {w : va_W} (hst : lst ad ad2 cI cL w) (cont : ∀ w2, lst ad ad2 cI cL w2 → xj E l room_1 code 4 ret "ClosureFlowsLaw" (gG D cI cL) A 34 1651 (fun v _ => v = some (.int (nI 1))) 34 1651 (w2) 520 [(3, .int (nI i)), (0, .ref b), (1, .ref (ad 0)), (2, .ref (ad2 0))] []) : xj E l room_1 code 4 ret "ClosureFlowsLaw" (gG D cI cL) A 34 1651 (fun v _ => v = some (.int (nI 1))) 34 1651 (w) 395 [(3, .int (nI i)), (0, .ref b), (1, .ref (ad 0)), (2, .ref (ad2 0))] [] := by
  obtain ⟨par, prm, lin, siz, atm, cnt, own, out, bnd, cal, opr, n, ph, oc, P, Q, OC, OP, F, S, R, vis, nc, gr, md, mo, he, en, ap, ocr, calr, el, eu, ev, ag, an, kk, Pr, Qr, Sr, Fr, Rr, ch, AP, AQ, hi, rfl⟩ := hst
  have hi0 := hi
  obtain ⟨hw, hli, ho0, hu0, hmo, hph, hrun, hop, hag, hO4, han, hsa⟩ := hi
  have hc8 : cnt ≤ 8 := hw.2.1
  have hL := hX.2.2.2
  subst hmo
  subst han
  refine x_aload_n (pc := 395) d_L_law_395 2 rfl ?_
  refine x_aload_n (pc := 396) d_L_law_396 1 rfl ?_
  refine x_iload_n (pc := 397) d_L_law_397 0 rfl ?_
  refine x_iconst (pc := 398) (nI 1) d_L_law_398 (by decide) ?_
  refine x_iaddN (pc := 399) d_L_law_399 ?_
  refine x_sld (pc := 400) hX d_L_law_400 (by omega) ?_
  refine x_callV_X (pc := 401) (ci := 3) d_L_law_401 k_L_69 wi_C_flow wv_C_flow w_C_flow ini_C wd_C_flow ⟨by decide, by decide⟩ ⟨rfl, rfl⟩ ⟨Nat.le_of_ble_eq_true rfl, Nat.le_of_ble_eq_true rfl⟩ 0 rfl rfl (CT.left (t_C_flow hc8)) rfl rfl (Nat.le_of_ble_eq_true rfl) (fun v1 w1 hp1 => ?_)
  obtain ⟨u1, hp1, rfl⟩ := hp1
  obtain ⟨rfl, rfl⟩ := hp1
  refine x_aload_n (pc := 404) d_L_law_404 3 rfl ?_
  refine x_aload_n (pc := 405) d_L_law_405 1 rfl ?_
  refine x_iload_n (pc := 406) d_L_law_406 0 rfl ?_
  refine x_iconst (pc := 407) (nI 1) d_L_law_407 (by decide) ?_
  refine x_iaddN (pc := 408) d_L_law_408 ?_
  refine x_sld (pc := 409) hX d_L_law_409 (by omega) ?_
  refine x_callV_X (pc := 410) (ci := 4) d_L_law_410 k_L_72 wi_R_flow wv_R_flow w_R_flow ini_R wd_R_flow ⟨by decide, by decide⟩ ⟨rfl, rfl⟩ ⟨Nat.le_of_ble_eq_true rfl, Nat.le_of_ble_eq_true rfl⟩ 19 rfl rfl (CT.right (t_R_flow hc8)) rfl rfl (Nat.le_of_ble_eq_true rfl) (fun v2 w2 hp2 => ?_)
  obtain ⟨u2, hp2, rfl⟩ := hp2
  obtain ⟨rfl, rfl⟩ := hp2
  exact x_icmp_eq (pc := 413) (tgt := 520) d_L_law_413 rfl (fun _ => cont _ ⟨par, prm, lin, siz, atm, cnt, own, out, bnd, cal, opr, n, mo, oc, P, Q, OC, OP, F, S, R, vis, nc, gr, an, mo, he, en, ap, ocr, calr, el, eu, ev, ag, an, kk, Pr, Qr, Sr, Fr, Rr, ch, AP, AQ, hi0, rfl⟩) (fun h => absurd (lval_cg hc8 (fun q l hl => (ofw_eq (hsa q)).2.2.1 l (by omega))) h)
set_option maxHeartbeats 4000000 in
set_option maxRecDepth 100000 in
theorem lw_14 (hX : scr E A b L xs) (hi3 : i + 3 ≤ L) {w : va_W} (hst : lst ad ad2 cI cL w) (cont : ∀ w2, lst ad ad2 cI cL w2 → xj E l room_1 code 4 ret "ClosureFlowsLaw" (gG D cI cL) A 34 1651 (fun v _ => v = some (.int (nI 1))) 34 1651 (w2) 520 [(3, .int (nI i)), (0, .ref b), (1, .ref (ad 0)), (2, .ref (ad2 0))] []) : xj E l room_1 code 4 ret "ClosureFlowsLaw" (gG D cI cL) A 34 1651 (fun v _ => v = some (.int (nI 1))) 34 1651 (w) 418 [(3, .int (nI i)), (0, .ref b), (1, .ref (ad 0)), (2, .ref (ad2 0))] [] := by
  obtain ⟨par, prm, lin, siz, atm, cnt, own, out, bnd, cal, opr, n, ph, oc, P, Q, OC, OP, F, S, R, vis, nc, gr, md, mo, he, en, ap, ocr, calr, el, eu, ev, ag, an, kk, Pr, Qr, Sr, Fr, Rr, ch, AP, AQ, hi, rfl⟩ := hst
  have hi0 := hi
  obtain ⟨hw, hli, ho0, hu0, hmo, hph, hrun, hop, hag, hO4, han, hsa⟩ := hi
  have hc8 : cnt ≤ 8 := hw.2.1
  have hL := hX.2.2.2
  subst hmo
  subst han
  refine x_aload_n (pc := 418) d_L_law_418 2 rfl ?_
  refine x_aload_n (pc := 419) d_L_law_419 1 rfl ?_
  refine x_iload_n (pc := 420) d_L_law_420 0 rfl ?_
  refine x_iconst (pc := 421) (nI 1) d_L_law_421 (by decide) ?_
  refine x_iaddN (pc := 422) d_L_law_422 ?_
  refine x_sld (pc := 423) hX d_L_law_423 (by omega) ?_
  refine x_callV_X (pc := 424) (ci := 3) d_L_law_424 k_L_73 wi_C_contours wv_C_contours w_C_contours ini_C wd_C_contours ⟨by decide, by decide⟩ ⟨rfl, rfl⟩ ⟨Nat.le_of_ble_eq_true rfl, Nat.le_of_ble_eq_true rfl⟩ 0 rfl rfl (CT.left (t_C_contours hc8)) rfl rfl (Nat.le_of_ble_eq_true rfl) (fun v1 w1 hp1 => ?_)
  obtain ⟨u1, hp1, rfl⟩ := hp1
  obtain ⟨rfl, rfl⟩ := hp1
  refine x_aload_n (pc := 427) d_L_law_427 3 rfl ?_
  refine x_aload_n (pc := 428) d_L_law_428 1 rfl ?_
  refine x_iload_n (pc := 429) d_L_law_429 0 rfl ?_
  refine x_iconst (pc := 430) (nI 1) d_L_law_430 (by decide) ?_
  refine x_iaddN (pc := 431) d_L_law_431 ?_
  refine x_sld (pc := 432) hX d_L_law_432 (by omega) ?_
  refine x_callV_X (pc := 433) (ci := 4) d_L_law_433 k_L_76 wi_R_contours wv_R_contours w_R_contours ini_R wd_R_contours ⟨by decide, by decide⟩ ⟨rfl, rfl⟩ ⟨Nat.le_of_ble_eq_true rfl, Nat.le_of_ble_eq_true rfl⟩ 19 rfl rfl (CT.right (t_R_contours hc8)) rfl rfl (Nat.le_of_ble_eq_true rfl) (fun v2 w2 hp2 => ?_)
  obtain ⟨u2, hp2, rfl⟩ := hp2
  obtain ⟨rfl, rfl⟩ := hp2
  exact x_icmp_eq (pc := 436) (tgt := 520) d_L_law_436 rfl (fun _ => cont _ ⟨par, prm, lin, siz, atm, cnt, own, out, bnd, cal, opr, n, mo, oc, P, Q, OC, OP, F, S, R, vis, nc, gr, an, mo, he, en, ap, ocr, calr, el, eu, ev, ag, an, kk, Pr, Qr, Sr, Fr, Rr, ch, AP, AQ, hi0, rfl⟩) (fun h => absurd (lval_cg hc8 (fun q l hl => by rw [(ofw_eq (hsa q)).2.1])) h)
set_option maxHeartbeats 4000000 in
set_option maxRecDepth 100000 in
theorem lw_15 (hX : scr E A b L xs) (hi3 : i + 3 ≤ L) {w : va_W} (hst : lst ad ad2 cI cL w) (cont : ∀ w2, lst ad ad2 cI cL w2 → xj E l room_1 code 4 ret "ClosureFlowsLaw" (gG D cI cL) A 34 1651 (fun v _ => v = some (.int (nI 1))) 34 1651 (w2) 520 [(3, .int (nI i)), (0, .ref b), (1, .ref (ad 0)), (2, .ref (ad2 0))] []) : xj E l room_1 code 4 ret "ClosureFlowsLaw" (gG D cI cL) A 34 1651 (fun v _ => v = some (.int (nI 1))) 34 1651 (w) 441 [(3, .int (nI i)), (0, .ref b), (1, .ref (ad 0)), (2, .ref (ad2 0))] [] := by
  obtain ⟨par, prm, lin, siz, atm, cnt, own, out, bnd, cal, opr, n, ph, oc, P, Q, OC, OP, F, S, R, vis, nc, gr, md, mo, he, en, ap, ocr, calr, el, eu, ev, ag, an, kk, Pr, Qr, Sr, Fr, Rr, ch, AP, AQ, hi, rfl⟩ := hst
  have hi0 := hi
  obtain ⟨hw, hli, ho0, hu0, hmo, hph, hrun, hop, hag, hO4, han, hsa⟩ := hi
  have hc8 : cnt ≤ 8 := hw.2.1
  have hL := hX.2.2.2
  subst hmo
  subst han
  refine x_aload_n (pc := 441) d_L_law_441 2 rfl ?_
  refine x_aload_n (pc := 442) d_L_law_442 1 rfl ?_
  refine x_iload_n (pc := 443) d_L_law_443 0 rfl ?_
  refine x_iconst (pc := 444) (nI 1) d_L_law_444 (by decide) ?_
  refine x_iaddN (pc := 445) d_L_law_445 ?_
  refine x_sld (pc := 446) hX d_L_law_446 (by omega) ?_
  refine x_aload_n (pc := 447) d_L_law_447 1 rfl ?_
  refine x_iload_n (pc := 448) d_L_law_448 0 rfl ?_
  refine x_iconst (pc := 449) (nI 2) d_L_law_449 (by decide) ?_
  refine x_iaddN (pc := 450) d_L_law_450 ?_
  refine x_sld (pc := 451) hX d_L_law_451 (by omega) ?_
  refine x_callV_X (pc := 452) (ci := 3) d_L_law_452 k_L_77 wi_C_constants wv_C_constants w_C_constants ini_C wd_C_constants ⟨by decide, by decide⟩ ⟨rfl, rfl⟩ ⟨Nat.le_of_ble_eq_true rfl, Nat.le_of_ble_eq_true rfl⟩ 0 rfl rfl (CT.left (t_C_constants hw)) rfl rfl (Nat.le_of_ble_eq_true rfl) (fun v1 w1 hp1 => ?_)
  obtain ⟨u1, hp1, rfl⟩ := hp1
  obtain ⟨rfl, rfl⟩ := hp1
  refine x_aload_n (pc := 455) d_L_law_455 3 rfl ?_
  refine x_aload_n (pc := 456) d_L_law_456 1 rfl ?_
  refine x_iload_n (pc := 457) d_L_law_457 0 rfl ?_
  refine x_iconst (pc := 458) (nI 1) d_L_law_458 (by decide) ?_
  refine x_iaddN (pc := 459) d_L_law_459 ?_
  refine x_sld (pc := 460) hX d_L_law_460 (by omega) ?_
  refine x_aload_n (pc := 461) d_L_law_461 1 rfl ?_
  refine x_iload_n (pc := 462) d_L_law_462 0 rfl ?_
  refine x_iconst (pc := 463) (nI 2) d_L_law_463 (by decide) ?_
  refine x_iaddN (pc := 464) d_L_law_464 ?_
  refine x_sld (pc := 465) hX d_L_law_465 (by omega) ?_
  refine x_callV_X (pc := 466) (ci := 4) d_L_law_466 k_L_80 wi_R_constants wv_R_constants w_R_constants ini_R wd_R_constants ⟨by decide, by decide⟩ ⟨rfl, rfl⟩ ⟨Nat.le_of_ble_eq_true rfl, Nat.le_of_ble_eq_true rfl⟩ 19 rfl rfl (CT.right (t_R_constants hw)) rfl rfl (Nat.le_of_ble_eq_true rfl) (fun v2 w2 hp2 => ?_)
  obtain ⟨u2, hp2, rfl⟩ := hp2
  obtain ⟨rfl, rfl⟩ := hp2
  exact x_icmp_eq (pc := 469) (tgt := 520) d_L_law_469 rfl (fun _ => cont _ ⟨par, prm, lin, siz, atm, cnt, own, out, bnd, cal, opr, n, mo, oc, P, Q, OC, OP, F, S, R, vis, nc, gr, an, mo, he, en, ap, ocr, calr, el, eu, ev, ag, an, kk, Pr, Qr, Sr, Fr, Rr, ch, AP, AQ, hi0, rfl⟩) (fun h => absurd (qval_cg hc8 (fun l h => Nat.le_trans (hw.2.2.2.1 l h) (by omega)) (fun q l j hl hj => orf_cg 8 (fun c hc => ((ofw_eq (hsa q)).1 _ (sl_lt (by omega) (by have := hw.2.2.2.1 l (by omega); omega) hc)).1))) h)
set_option maxHeartbeats 4000000 in
set_option maxRecDepth 100000 in
theorem lw_16 (hX : scr E A b L xs) (hi3 : i + 3 ≤ L) {w : va_W} (hst : lst ad ad2 cI cL w) (cont : ∀ w2, lst ad ad2 cI cL w2 → xj E l room_1 code 4 ret "ClosureFlowsLaw" (gG D cI cL) A 34 1651 (fun v _ => v = some (.int (nI 1))) 34 1651 (w2) 520 [(3, .int (nI i)), (0, .ref b), (1, .ref (ad 0)), (2, .ref (ad2 0))] []) : xj E l room_1 code 4 ret "ClosureFlowsLaw" (gG D cI cL) A 34 1651 (fun v _ => v = some (.int (nI 1))) 34 1651 (w) 474 [(3, .int (nI i)), (0, .ref b), (1, .ref (ad 0)), (2, .ref (ad2 0))] [] := by
  obtain ⟨par, prm, lin, siz, atm, cnt, own, out, bnd, cal, opr, n, ph, oc, P, Q, OC, OP, F, S, R, vis, nc, gr, md, mo, he, en, ap, ocr, calr, el, eu, ev, ag, an, kk, Pr, Qr, Sr, Fr, Rr, ch, AP, AQ, hi, rfl⟩ := hst
  have hi0 := hi
  obtain ⟨hw, hli, ho0, hu0, hmo, hph, hrun, hop, hag, hO4, han, hsa⟩ := hi
  have hc8 : cnt ≤ 8 := hw.2.1
  have hL := hX.2.2.2
  subst hmo
  subst han
  refine x_aload_n (pc := 474) d_L_law_474 2 rfl ?_
  refine x_aload_n (pc := 475) d_L_law_475 1 rfl ?_
  refine x_iload_n (pc := 476) d_L_law_476 0 rfl ?_
  refine x_iconst (pc := 477) (nI 1) d_L_law_477 (by decide) ?_
  refine x_iaddN (pc := 478) d_L_law_478 ?_
  refine x_sld (pc := 479) hX d_L_law_479 (by omega) ?_
  refine x_aload_n (pc := 480) d_L_law_480 1 rfl ?_
  refine x_iload_n (pc := 481) d_L_law_481 0 rfl ?_
  refine x_iconst (pc := 482) (nI 2) d_L_law_482 (by decide) ?_
  refine x_iaddN (pc := 483) d_L_law_483 ?_
  refine x_sld (pc := 484) hX d_L_law_484 (by omega) ?_
  refine x_callV_X (pc := 485) (ci := 3) d_L_law_485 k_L_81 wi_C_closures wv_C_closures w_C_closures ini_C wd_C_closures ⟨by decide, by decide⟩ ⟨rfl, rfl⟩ ⟨Nat.le_of_ble_eq_true rfl, Nat.le_of_ble_eq_true rfl⟩ 0 rfl rfl (CT.left (t_C_closures hw)) rfl rfl (Nat.le_of_ble_eq_true rfl) (fun v1 w1 hp1 => ?_)
  obtain ⟨u1, hp1, rfl⟩ := hp1
  rcases hp1 with ⟨lx, ix, r, hm, hh, hlx, hix, hx, hy, hr, rfl, rfl⟩ | ⟨hn, rfl, rfl⟩
  · refine x_aload_n (pc := 488) d_L_law_488 3 rfl ?_
    refine x_aload_n (pc := 489) d_L_law_489 1 rfl ?_
    refine x_iload_n (pc := 490) d_L_law_490 0 rfl ?_
    refine x_iconst (pc := 491) (nI 1) d_L_law_491 (by decide) ?_
    refine x_iaddN (pc := 492) d_L_law_492 ?_
    refine x_sld (pc := 493) hX d_L_law_493 (by omega) ?_
    refine x_aload_n (pc := 494) d_L_law_494 1 rfl ?_
    refine x_iload_n (pc := 495) d_L_law_495 0 rfl ?_
    refine x_iconst (pc := 496) (nI 2) d_L_law_496 (by decide) ?_
    refine x_iaddN (pc := 497) d_L_law_497 ?_
    refine x_sld (pc := 498) hX d_L_law_498 (by omega) ?_
    refine x_callV_X (pc := 499) (ci := 4) d_L_law_499 k_L_84 wi_R_closures wv_R_closures w_R_closures ini_R wd_R_closures ⟨by decide, by decide⟩ ⟨rfl, rfl⟩ ⟨Nat.le_of_ble_eq_true rfl, Nat.le_of_ble_eq_true rfl⟩ 19 rfl rfl (CT.right (t_R_closures hw)) rfl rfl (Nat.le_of_ble_eq_true rfl) (fun v2 w2 hp2 => ?_)
    obtain ⟨u2, hp2, rfl⟩ := hp2
    rcases hp2 with ⟨l2, i2, r2, hm2, hh2, hl2, hi2, hx2, hy2, hr2, rfl, rfl⟩ | ⟨hn2, rfl, rfl⟩
    · obtain rfl := nI_inj (by omega) (by omega) (hx.symm.trans hx2)
      have hpz := hw.2.2.2.1 lx (by omega)
      obtain rfl := nI_inj (by omega) (by omega) (hy.symm.trans hy2)
      exact x_icmp_eq (pc := 502) (tgt := 520) d_L_law_502 rfl (fun _ => cont _ ⟨par, prm, lin, siz, atm, cnt, own, out, bnd, cal, opr, n, mo, oc, P, Q, OC, OP, F, S, R, vis, nc, gr, an, mo, he, en, ap, ocr, calr, el, eu, ev, ag, an, kk, Pr, Qr, Sr, Fr, Rr, ch, AP, AQ, hi0, rfl⟩) (fun h => absurd (b_same (fun m => by rw [hr m, hr2 m, clos_cg (by omega) (by omega) (fun s hs => ((ofw_eq (hsa hm)).1 s hs).2)])) h)
    · rcases hn2 with q | q
      · exact bno q hm
      · rw [hx, hy] at q
        exact bno q hh
  · refine x_aload_n (pc := 488) d_L_law_488 3 rfl ?_
    refine x_aload_n (pc := 489) d_L_law_489 1 rfl ?_
    refine x_iload_n (pc := 490) d_L_law_490 0 rfl ?_
    refine x_iconst (pc := 491) (nI 1) d_L_law_491 (by decide) ?_
    refine x_iaddN (pc := 492) d_L_law_492 ?_
    refine x_sld (pc := 493) hX d_L_law_493 (by omega) ?_
    refine x_aload_n (pc := 494) d_L_law_494 1 rfl ?_
    refine x_iload_n (pc := 495) d_L_law_495 0 rfl ?_
    refine x_iconst (pc := 496) (nI 2) d_L_law_496 (by decide) ?_
    refine x_iaddN (pc := 497) d_L_law_497 ?_
    refine x_sld (pc := 498) hX d_L_law_498 (by omega) ?_
    refine x_callV_X (pc := 499) (ci := 4) d_L_law_499 k_L_84 wi_R_closures wv_R_closures w_R_closures ini_R wd_R_closures ⟨by decide, by decide⟩ ⟨rfl, rfl⟩ ⟨Nat.le_of_ble_eq_true rfl, Nat.le_of_ble_eq_true rfl⟩ 19 rfl rfl (CT.right (t_R_closures hw)) rfl rfl (Nat.le_of_ble_eq_true rfl) (fun v2 w2 hp2 => ?_)
    obtain ⟨u2, hp2, rfl⟩ := hp2
    rcases hp2 with ⟨l2, i2, r2, hm2, hh2, hl2, hi2, hx2, hy2, hr2, rfl, rfl⟩ | ⟨hn2, rfl, rfl⟩
    · rcases hn with q | q
      · exact bno q hm2
      · rw [hx2, hy2] at q
        exact bno q hh2
    · exact x_icmp_eq (pc := 502) (tgt := 520) d_L_law_502 rfl (fun _ => cont _ ⟨par, prm, lin, siz, atm, cnt, own, out, bnd, cal, opr, n, mo, oc, P, Q, OC, OP, F, S, R, vis, nc, gr, an, mo, he, en, ap, ocr, calr, el, eu, ev, ag, an, kk, Pr, Qr, Sr, Fr, Rr, ch, AP, AQ, hi0, rfl⟩) (fun h => absurd (rfl) h)
set_option maxHeartbeats 4000000 in
set_option maxRecDepth 100000 in
theorem lw_17 (hX : scr E A b L xs) (hi3 : i + 3 ≤ L) {w : va_W} (hst : lst ad ad2 cI cL w) (cont : ∀ w2, lst ad ad2 cI cL w2 → xj E l room_1 code 4 ret "ClosureFlowsLaw" (gG D cI cL) A 34 1651 (fun v _ => v = some (.int (nI 1))) 34 1651 (w2) 520 [(3, .int (nI i)), (0, .ref b), (1, .ref (ad 0)), (2, .ref (ad2 0))] []) : xj E l room_1 code 4 ret "ClosureFlowsLaw" (gG D cI cL) A 34 1651 (fun v _ => v = some (.int (nI 1))) 34 1651 (w) 507 [(3, .int (nI i)), (0, .ref b), (1, .ref (ad 0)), (2, .ref (ad2 0))] [] := by
  obtain ⟨par, prm, lin, siz, atm, cnt, own, out, bnd, cal, opr, n, ph, oc, P, Q, OC, OP, F, S, R, vis, nc, gr, md, mo, he, en, ap, ocr, calr, el, eu, ev, ag, an, kk, Pr, Qr, Sr, Fr, Rr, ch, AP, AQ, hi, rfl⟩ := hst
  have hi0 := hi
  obtain ⟨hw, hli, ho0, hu0, hmo, hph, hrun, hop, hag, hO4, han, hsa⟩ := hi
  have hc8 : cnt ≤ 8 := hw.2.1
  have hL := hX.2.2.2
  subst hmo
  subst han
  refine x_aload_n (pc := 507) d_L_law_507 2 rfl ?_
  refine x_callV_X (pc := 508) (ci := 3) d_L_law_508 k_L_85 wi_C_results wv_C_results w_C_results ini_C wd_C_results ⟨by decide, by decide⟩ ⟨rfl, rfl⟩ ⟨Nat.le_of_ble_eq_true rfl, Nat.le_of_ble_eq_true rfl⟩ 0 rfl rfl (CT.left (t_C_results)) rfl rfl (Nat.le_of_ble_eq_true rfl) (fun v1 w1 hp1 => ?_)
  obtain ⟨u1, hp1, rfl⟩ := hp1
  obtain ⟨rfl, rfl⟩ := hp1
  refine x_aload_n (pc := 511) d_L_law_511 3 rfl ?_
  refine x_callV_X (pc := 512) (ci := 4) d_L_law_512 k_L_88 wi_R_results wv_R_results w_R_results ini_R wd_R_results ⟨by decide, by decide⟩ ⟨rfl, rfl⟩ ⟨Nat.le_of_ble_eq_true rfl, Nat.le_of_ble_eq_true rfl⟩ 19 rfl rfl (CT.right (t_R_results)) rfl rfl (Nat.le_of_ble_eq_true rfl) (fun v2 w2 hp2 => ?_)
  obtain ⟨u2, hp2, rfl⟩ := hp2
  obtain ⟨rfl, rfl⟩ := hp2
  exact x_icmp_eq (pc := 515) (tgt := 520) d_L_law_515 rfl (fun _ => cont _ ⟨par, prm, lin, siz, atm, cnt, own, out, bnd, cal, opr, n, mo, oc, P, Q, OC, OP, F, S, R, vis, nc, gr, an, mo, he, en, ap, ocr, calr, el, eu, ev, ag, an, kk, Pr, Qr, Sr, Fr, Rr, ch, AP, AQ, hi0, rfl⟩) (fun h => absurd ((by
    by_cases q : an = true
    · rw [if_pos q, if_pos q, (ofw_eq (hsa q)).2.2.2]
    · rw [if_neg q, if_neg q])) h)
end LAWC
