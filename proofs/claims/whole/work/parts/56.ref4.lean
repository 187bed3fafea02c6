section REF4
variable {l : Launch} {D : va_G} {ad : Nat → Nat} {cI cL : ClassId} {par : Nat → Int32} {prm siz atm : Nat → Nat} {cnt : Nat} {mo he en ap oc : Nat} {cal : Nat → Int32} {el : Nat → Nat} {eu : Nat → Int32} {ev ag : Nat → Nat} {an : Bool} {kk : Nat} {P : Nat → Int32} {Q : Nat → Int64} {S : Int64} {F : Nat → Int32} {R : Int32} {ch : Bool} {AP : Nat → Int32} {AQ : Nat → Int64}
set_option maxHeartbeats 4000000 in
set_option maxRecDepth 100000 in
theorem t_R_move1 {n : Nat} {own out bnd : Nat → Nat} {cal2 : Nat → Int32} {ph oc2 : Nat} (hw : pwf cnt par prm siz atm) (hs : swf cnt par prm (n, own, out, bnd, cal2, ph, oc2)) (hr : rst prm (n, own, out, bnd, cal2, ph, oc2) mo he en ap oc cal el eu ev) (hph : ph = 1) (hag : ∀ i, i < 4 → ag i < 100000) (hz : 0 < siz he) : CT l y_R_move c_R_move 4 (some .boolean) (rmm 2 45) (gG D cI cL) [.ref (ad 0)] (wR ad cI cL par prm siz atm cnt mo he en ap oc cal el eu ev ag an kk P Q S F R ch AP AQ) (fun v w2 => ∃ mo9 he9 en9 ap9 oc9 cal9 el9 eu9 ev9 ag9, rst prm (mstep prm siz atm (n, own, out, bnd, cal2, ph, oc2)) mo9 he9 en9 ap9 oc9 cal9 el9 eu9 ev9 ∧ (∀ i, i < 4 → ag9 i < 100000) ∧ v = some (.int (bI (decide (¬ (mstep prm siz atm (n, own, out, bnd, cal2, ph, oc2)).2.2.2.2.2.1 = 4)))) ∧ w2 = (wR ad cI cL par prm siz atm cnt mo9 he9 en9 ap9 oc9 cal9 el9 eu9 ev9 ag9 an kk P Q S F R ch AP AQ)) := by
  refine CT.of R_R (by decide) rfl (Nat.le_of_ble_eq_true rfl) ?_
  intro E A hname
  obtain rfl : n = ap := hr.2.1.symm
  obtain rfl : n = en := hr.2.2.1.symm
  obtain rfl : ph = mo := hr.1.symm
  obtain rfl : he = own n := hr.2.2.2.1
  have hrr : rrel prm n own out bnd el eu ev := hr.2.2.2.2.1
  have hm1 : mwf cnt par prm n own out bnd := hs.1
  have hn64 : n ≤ 64 := hm1.1
  have hon : own n < cnt := hm1.own_lt hw.1 (Nat.le_refl n)
  have hc8 := hw.2.1
  have hz4 := hw.2.2.2.2.2.1 (own n) (by omega)
  have hzp : 0 < siz (own n) := hz
  have hO : ∀ i, i < siz (own n) → vok cnt par n own (mops atm (n, own, out, bnd, cal2, ph, oc2) i) := fun i hi => mops_ok hw (s := (n, own, out, bnd, cal2, ph, oc2)) hm1 hi
  have hA : ∀ i, i < siz (own n) → aok cnt par prm (own n) (atm (4 * own n + i)) := fun i hi => hw.2.2.2.2.2.2 (own n) i hon hi
  have hpj : ∀ j, j ≤ n → prm (own j) ≤ 3 := fun j hj => hw.2.2.2.1 (own j) (by have := hm1.own_lt hw.1 hj; omega)
  refine x_aload_n (pc := 0) d_R_move_0 0 rfl ?_
  refine x_get (pc := 1) (ci := 4) d_R_move_1 in_R rfl 3 (by decide) k_R_20 0 rfl rfl ?_
  refine x_aload_n (pc := 4) d_R_move_4 0 rfl ?_
  refine x_get (pc := 5) (ci := 4) d_R_move_5 in_R rfl 6 (by decide) k_R_78 0 rfl rfl ?_
  refine x_ialdN (pc := 8) d_R_move_8 3 0 rfl rfl (by omega) (by omega) ?_
  refine x_iconst (pc := 9) (nI 1) d_R_move_9 (by decide) ?_
  first | refine x_isubN (pc := 10) d_R_move_10 (by omega) ?_ | refine x_isub (pc := 10) d_R_move_10 ?_
  refine x_istore_n (pc := 11) d_R_move_11 rfl (by decide) [(1, _), (0, _)] rfl ?_
  refine x_iload_n (pc := 12) d_R_move_12 0 rfl ?_
  refine x_if_geN (pc := 13) (tgt := 20) d_R_move_13 rfl (by omega) ?_
  · intro h13
    refine x_aload_n (pc := 20) d_R_move_20 1 rfl ?_
    refine x_aload_n (pc := 21) d_R_move_21 1 rfl ?_
    refine x_get (pc := 22) (ci := 4) d_R_move_22 in_R rfl 4 (by decide) k_R_23 0 rfl rfl ?_
    refine x_iconst (pc := 25) (nI 4) d_R_move_25 (by decide) ?_
    refine x_aload_n (pc := 26) d_R_move_26 1 rfl ?_
    refine x_get (pc := 27) (ci := 4) d_R_move_27 in_R rfl 6 (by decide) k_R_78 0 rfl rfl ?_
    first | refine x_imulN (pc := 30) d_R_move_30 ?_ | refine x_imul (pc := 30) d_R_move_30 ?_
    refine x_ialdN (pc := 31) d_R_move_31 4 0 rfl rfl (by omega) (by omega) ?_
    refine x_callV_I (pc := 32) (ci := 4) d_R_move_32 k_R_91 wi_R_valueOf wv_R_valueOf w_R_valueOf ini_R wd_R_valueOf ⟨by decide, by decide⟩ ⟨rfl, rfl⟩ ⟨Nat.zero_le _, Nat.zero_le _⟩ 0 rfl rfl (t_R_valueOf hw hs.1 hrr rfl (hA 0 (by omega))) rfl rfl (Nat.le_of_ble_eq_true rfl) ?_
    refine x_ti (show _ = nI (enc (mops atm (n, own, out, bnd, cal2, ph, oc2) 0)) from rfl) ?_
    refine x_istore_n (pc := 35) d_R_move_35 rfl (by decide) [(2, _), (1, _), (0, _)] rfl ?_
    refine x_iconst (pc := 36) (nI 0) d_R_move_36 (by decide) ?_
    refine x_istore_n (pc := 37) d_R_move_37 rfl (by decide) [(3, _), (2, _), (1, _), (0, _)] rfl ?_
    have hlp : ∀ (fuel : Nat) (i : Nat), (siz (own n) - 1) - i < fuel → (i ≤ (siz (own n) - 1)) → xj E l (rmm 2 45) c_R_move 4 (some .boolean) R_R (gG D cI cL) A 0 0 (fun v w2 => ∃ mo9 he9 en9 ap9 oc9 cal9 el9 eu9 ev9 ag9, rst prm (mstep prm siz atm (n, own, out, bnd, cal2, ph, oc2)) mo9 he9 en9 ap9 oc9 cal9 el9 eu9 ev9 ∧ (∀ i, i < 4 → ag9 i < 100000) ∧ v = some (.int (bI (decide (¬ (mstep prm siz atm (n, own, out, bnd, cal2, ph, oc2)).2.2.2.2.2.1 = 4)))) ∧ w2 = (wR ad cI cL par prm siz atm cnt mo9 he9 en9 ap9 oc9 cal9 el9 eu9 ev9 ag9 an kk P Q S F R ch AP AQ)) 0 0 (wR ad cI cL par prm siz atm cnt ph (own n) n n oc cal el eu ev (bst ag 0 (fun i => enc (mops atm (n, own, out, bnd, cal2, ph, oc2) (1 + i))) i) an kk P Q S F R ch AP AQ) 38 [(3, .int (nI i)), (2, .int (nI (enc (mops atm (n, own, out, bnd, cal2, ph, oc2) 0)))), (1, .int (nI (siz (own n) - 1))), (0, .ref (ad 0))] [] := by
      intro fuel
      induction fuel with
      | zero => intro i hf; exact absurd hf (Nat.not_lt_zero _)
      | succ fuel ih =>
        intro i hf hi
        refine x_iload_n (pc := 38) d_R_move_38 0 rfl ?_
        refine x_iload_n (pc := 39) d_R_move_39 2 rfl ?_
        first | refine x_icmp_geN (pc := 40) (tgt := 74) d_R_move_40 rfl (by omega) (by omega) ?_ ?_ | refine x_icmp_ge (pc := 40) (tgt := 74) d_R_move_40 rfl ?_ ?_
        · intro h40
          have e1 : i = (siz (own n) - 1) := by omega
          have hag4 : ∀ j, j < 4 → (bst ag 0 (fun i => enc (mops atm (n, own, out, bnd, cal2, ph, oc2) (1 + i))) i) j < 100000 := bst_small hag i (fun j hj => by have := (enc_facts hn64 (hO (1 + j) (by omega))).2.2.2.2.2.1; omega)
          have hgg : ∀ j, j < (siz (own n) - 1) → (bst ag 0 (fun i => enc (mops atm (n, own, out, bnd, cal2, ph, oc2) (1 + i))) i) j = enc (mops atm (n, own, out, bnd, cal2, ph, oc2) (1 + j)) := by
            intro j hj
            have e2 := bst_in (bnd := ag) (b := 0) (f := fun i => enc (mops atm (n, own, out, bnd, cal2, ph, oc2) (1 + i))) (i := j) i (by omega)
            rw [Nat.zero_add] at e2
            exact e2
          generalize (bst ag 0 (fun i => enc (mops atm (n, own, out, bnd, cal2, ph, oc2) (1 + i))) i) = ag1 at hag4 hgg ⊢
          clear ih hf
          have EE := fun i (hi : i < siz (own n)) => enc_facts hn64 (hO i hi)
          have hb0 := (EE 0 hzp).2.2.2.2.2.1
          have ha0 := hag4 0 (by omega)
          have ha1 := hag4 1 (by omega)
          have ha2 := hag4 2 (by omega)
          have hc195 : ∀ (f : Nat) (k : Nat) (u : Nat) (x : Nat) (g : Nat → Nat) (ag2 : Nat → Nat), (u = enc f) → (mstep prm siz atm (n, own, out, bnd, cal2, ph, oc2) = mdo (mdir prm f k x) g (n, own, out, bnd, cal2, ph, oc2)) → (vok cnt par n own f) → (k ≤ 3) → (∀ i, i < k → ag2 i = enc (g i)) → (k = 1 → x = g 0) → (∀ i, i < 4 → ag2 i < 100000) → xj E l (rmm 2 45) c_R_move 4 (some .boolean) R_R (gG D cI cL) A 0 0 (fun v w2 => ∃ mo9 he9 en9 ap9 oc9 cal9 el9 eu9 ev9 ag9, rst prm (mstep prm siz atm (n, own, out, bnd, cal2, ph, oc2)) mo9 he9 en9 ap9 oc9 cal9 el9 eu9 ev9 ∧ (∀ i, i < 4 → ag9 i < 100000) ∧ v = some (.int (bI (decide (¬ (mstep prm siz atm (n, own, out, bnd, cal2, ph, oc2)).2.2.2.2.2.1 = 4)))) ∧ w2 = (wR ad cI cL par prm siz atm cnt mo9 he9 en9 ap9 oc9 cal9 el9 eu9 ev9 ag9 an kk P Q S F R ch AP AQ)) 0 0 (wR ad cI cL par prm siz atm cnt ph (own n) n n oc cal el eu ev ag2 an kk P Q S F R ch AP AQ) 195 [(2, .int (nI u)), (1, .int (nI k)), (0, .ref (ad 0))] [] := by
            intro f k u x g ag2 hu hst hvf hkk hg2 hx hag2
            have hE := fun (_ : Unit) => enc_facts hn64 hvf
            have hub : u < 2000 := by rw [hu]; exact (hE ()).2.2.2.2.2.1
            have hc215 : ∀ (mm : Nat), (1000 ≤ u → mm = f % 1000 - 200 ∧ mm < 8) → xj E l (rmm 2 45) c_R_move 4 (some .boolean) R_R (gG D cI cL) A 0 0 (fun v w2 => ∃ mo9 he9 en9 ap9 oc9 cal9 el9 eu9 ev9 ag9, rst prm (mstep prm siz atm (n, own, out, bnd, cal2, ph, oc2)) mo9 he9 en9 ap9 oc9 cal9 el9 eu9 ev9 ∧ (∀ i, i < 4 → ag9 i < 100000) ∧ v = some (.int (bI (decide (¬ (mstep prm siz atm (n, own, out, bnd, cal2, ph, oc2)).2.2.2.2.2.1 = 4)))) ∧ w2 = (wR ad cI cL par prm siz atm cnt mo9 he9 en9 ap9 oc9 cal9 el9 eu9 ev9 ag9 an kk P Q S F R ch AP AQ)) 0 0 (wR ad cI cL par prm siz atm cnt ph (own n) n n oc cal el eu ev ag2 an kk P Q S F R ch AP AQ) 215 [(3, .int (nI mm)), (2, .int (nI u)), (1, .int (nI k)), (0, .ref (ad 0))] [] := by
              intro mm hmm
              refine x_iload_n (pc := 215) d_R_move_215 1 rfl ?_
              refine x_sipush (pc := 216) (nI 300) d_R_move_216 (by decide) ?_
              first | refine x_icmp_neN (pc := 219) (tgt := 245) d_R_move_219 rfl (by omega) (by omega) ?_ ?_ | refine x_icmp_ne (pc := 219) (tgt := 245) d_R_move_219 rfl ?_ ?_
              · intro h219
                refine x_iload_n (pc := 245) d_R_move_245 1 rfl ?_
                refine x_sipush (pc := 246) (nI 1000) d_R_move_246 (by decide) ?_
                first | refine x_icmp_ltN (pc := 249) (tgt := 295) d_R_move_249 rfl (by omega) (by omega) ?_ ?_ | refine x_icmp_lt (pc := 249) (tgt := 295) d_R_move_249 rfl ?_ ?_
                · intro h249
                  refine x_aload_n (pc := 295) d_R_move_295 3 rfl ?_
                  refine x_iconst (pc := 296) (nI 3) d_R_move_296 (by decide) ?_
                  refine x_put (pc := 297) (ci := 4) (ty := .int) d_R_move_297 in_R t_R ty_R nm_R rfl 5 (by decide) k_R_57 rfl (by decide +kernel) rfl rfl 0 rfl (Nat.le_of_ble_eq_true rfl) (_) (rfl) ?_
                  refine x_iconst (pc := 300) (nI 1) d_R_move_300 (by decide) ?_
                  refine x_zret (pc := 301) d_R_move_301 rfl (by first | rfl | exact bI_narrow _) ?_
                  first
                    | (rw [hst, mdir_1 ((hE ()).2.2.1.mp (by rw [← hu]; exact h219)) h224]; exact ⟨2, own n, n, n, ag2 0, cal, el, eu, ev, ag2, rst_done hr (by rw [hg2 0 (by omega), hx h224]), hag2, rfl, rfl⟩)
                    | (rw [hst, mdir_2 hla (by rw [← hm8.1]; exact h259), mdo_enter h268, ← hm8.1, ← ((hE ()).2.2.2.2.2.2.2 hue).2, ← hu]; exact ⟨ph, mm, n + 1, n + 1, oc, _, _, _, _, ag2, rst_enter hr (by omega) (by omega) hpj h259 hg2, hag2, by rw [hph]; rfl, rfl⟩)
                    | (rw [hst, mdir_0 (fun q => absurd ((hE ()).2.1.mpr q.1) (by rw [← hu]; omega)) (fun q => h219 (hu.trans ((hE ()).2.2.1.mpr q.1)))]; exact ⟨3, own n, n, n, oc, cal, el, eu, ev, ag2, rst_mode hr (by decide), hag2, rfl, rfl⟩)
                    | (rw [hst, mdir_0 (fun q => absurd ((hE ()).2.1.mpr q.1) (by rw [← hu]; omega)) (fun q => h224 q.2)]; exact ⟨3, own n, n, n, oc, cal, el, eu, ev, ag2, rst_mode hr (by decide), hag2, rfl, rfl⟩)
                    | (rw [hst, mdir_0 (fun q => h259 (by rw [hm8.1]; exact q.2)) (fun q => by have := q.1; omega)]; exact ⟨3, own n, n, n, oc, cal, el, eu, ev, ag2, rst_mode hr (by decide), hag2, rfl, rfl⟩)
                · intro h249
                  have hm8 := hmm (by omega)
                  have hpm := hw.2.2.2.1 mm hm8.2
                  have hue : 1000 ≤ enc f := by rw [← hu]; omega
                  have hla := (hE ()).2.1.mp hue
                  refine x_aload_n (pc := 252) d_R_move_252 3 rfl ?_
                  refine x_get (pc := 253) (ci := 4) d_R_move_253 in_R rfl 2 (by decide) k_R_17 0 rfl rfl ?_
                  refine x_iload_n (pc := 256) d_R_move_256 0 rfl ?_
                  refine x_ialdN (pc := 257) d_R_move_257 2 0 rfl rfl (by omega) (by omega) ?_
                  refine x_iload_n (pc := 258) d_R_move_258 2 rfl ?_
                  first | refine x_icmp_neN (pc := 259) (tgt := 295) d_R_move_259 rfl (by omega) (by omega) ?_ ?_ | refine x_icmp_ne (pc := 259) (tgt := 295) d_R_move_259 rfl ?_ ?_
                  · intro h259
                    refine x_aload_n (pc := 295) d_R_move_295 3 rfl ?_
                    refine x_iconst (pc := 296) (nI 3) d_R_move_296 (by decide) ?_
                    refine x_put (pc := 297) (ci := 4) (ty := .int) d_R_move_297 in_R t_R ty_R nm_R rfl 5 (by decide) k_R_57 rfl (by decide +kernel) rfl rfl 0 rfl (Nat.le_of_ble_eq_true rfl) (_) (rfl) ?_
                    refine x_iconst (pc := 300) (nI 1) d_R_move_300 (by decide) ?_
                    refine x_zret (pc := 301) d_R_move_301 rfl (by first | rfl | exact bI_narrow _) ?_
                    first
                      | (rw [hst, mdir_1 ((hE ()).2.2.1.mp (by rw [← hu]; exact h219)) h224]; exact ⟨2, own n, n, n, ag2 0, cal, el, eu, ev, ag2, rst_done hr (by rw [hg2 0 (by omega), hx h224]), hag2, rfl, rfl⟩)
                      | (rw [hst, mdir_2 hla (by rw [← hm8.1]; exact h259), mdo_enter h268, ← hm8.1, ← ((hE ()).2.2.2.2.2.2.2 hue).2, ← hu]; exact ⟨ph, mm, n + 1, n + 1, oc, _, _, _, _, ag2, rst_enter hr (by omega) (by omega) hpj h259 hg2, hag2, by rw [hph]; rfl, rfl⟩)
                      | (rw [hst, mdir_0 (fun q => absurd ((hE ()).2.1.mpr q.1) (by rw [← hu]; omega)) (fun q => h219 (hu.trans ((hE ()).2.2.1.mpr q.1)))]; exact ⟨3, own n, n, n, oc, cal, el, eu, ev, ag2, rst_mode hr (by decide), hag2, rfl, rfl⟩)
                      | (rw [hst, mdir_0 (fun q => absurd ((hE ()).2.1.mpr q.1) (by rw [← hu]; omega)) (fun q => h224 q.2)]; exact ⟨3, own n, n, n, oc, cal, el, eu, ev, ag2, rst_mode hr (by decide), hag2, rfl, rfl⟩)
                      | (rw [hst, mdir_0 (fun q => h259 (by rw [hm8.1]; exact q.2)) (fun q => by have := q.1; omega)]; exact ⟨3, own n, n, n, oc, cal, el, eu, ev, ag2, rst_mode hr (by decide), hag2, rfl, rfl⟩)
                  · intro h259
                    refine x_aload_n (pc := 262) d_R_move_262 3 rfl ?_
                    refine x_get (pc := 263) (ci := 4) d_R_move_263 in_R rfl 8 (by decide) k_R_84 0 rfl rfl ?_
                    refine x_bipush (pc := 266) (nI 64) d_R_move_266 (by decide) ?_
                    first | refine x_icmp_neN (pc := 268) (tgt := 278) d_R_move_268 rfl (by omega) (by omega) ?_ ?_ | refine x_icmp_ne (pc := 268) (tgt := 278) d_R_move_268 rfl ?_ ?_
                    · intro h268
                      refine x_aload_n (pc := 278) d_R_move_278 3 rfl ?_
                      refine x_iload_n (pc := 279) d_R_move_279 0 rfl ?_
                      refine x_iload_n (pc := 280) d_R_move_280 1 rfl ?_
                      refine x_sipush (pc := 281) (nI 1000) d_R_move_281 (by decide) ?_
                      first | refine x_isubN (pc := 284) d_R_move_284 (by omega) ?_ | refine x_isub (pc := 284) d_R_move_284 ?_
                      refine x_bipush (pc := 285) (nI 100) d_R_move_285 (by decide) ?_
                      first | refine x_iremN (pc := 287) d_R_move_287 (by omega) (by omega) (by omega) ?_ | refine x_irem (pc := 287) d_R_move_287 (by decide) ?_
                      refine x_iload_n (pc := 288) d_R_move_288 2 rfl ?_
                      refine x_callV_Z (pc := 289) (ci := 4) d_R_move_289 k_R_101 wi_R_enter wv_R_enter w_R_enter ini_R wd_R_enter ⟨by decide, by decide⟩ ⟨rfl, rfl⟩ ⟨Nat.zero_le _, Nat.zero_le _⟩ 0 rfl rfl (t_R_enter (by omega) (by omega) (by omega) hkk) rfl rfl (Nat.le_of_ble_eq_true rfl) ?_
                      refine x_goto (pc := 292) (tgt := 300) d_R_move_292 rfl ?_
                      refine x_iconst (pc := 300) (nI 1) d_R_move_300 (by decide) ?_
                      refine x_zret (pc := 301) d_R_move_301 rfl (by first | rfl | exact bI_narrow _) ?_
                      first
                        | (rw [hst, mdir_1 ((hE ()).2.2.1.mp (by rw [← hu]; exact h219)) h224]; exact ⟨2, own n, n, n, ag2 0, cal, el, eu, ev, ag2, rst_done hr (by rw [hg2 0 (by omega), hx h224]), hag2, rfl, rfl⟩)
                        | (rw [hst, mdir_2 hla (by rw [← hm8.1]; exact h259), mdo_enter h268, ← hm8.1, ← ((hE ()).2.2.2.2.2.2.2 hue).2, ← hu]; exact ⟨ph, mm, n + 1, n + 1, oc, _, _, _, _, ag2, rst_enter hr (by omega) (by omega) hpj h259 hg2, hag2, by rw [hph]; rfl, rfl⟩)
                        | (rw [hst, mdir_0 (fun q => absurd ((hE ()).2.1.mpr q.1) (by rw [← hu]; omega)) (fun q => h219 (hu.trans ((hE ()).2.2.1.mpr q.1)))]; exact ⟨3, own n, n, n, oc, cal, el, eu, ev, ag2, rst_mode hr (by decide), hag2, rfl, rfl⟩)
                        | (rw [hst, mdir_0 (fun q => absurd ((hE ()).2.1.mpr q.1) (by rw [← hu]; omega)) (fun q => h224 q.2)]; exact ⟨3, own n, n, n, oc, cal, el, eu, ev, ag2, rst_mode hr (by decide), hag2, rfl, rfl⟩)
                        | (rw [hst, mdir_0 (fun q => h259 (by rw [hm8.1]; exact q.2)) (fun q => by have := q.1; omega)]; exact ⟨3, own n, n, n, oc, cal, el, eu, ev, ag2, rst_mode hr (by decide), hag2, rfl, rfl⟩)
                    · intro h268
                      refine x_aload_n (pc := 271) d_R_move_271 3 rfl ?_
                      refine x_iconst (pc := 272) (nI 4) d_R_move_272 (by decide) ?_
                      refine x_put (pc := 273) (ci := 4) (ty := .int) d_R_move_273 in_R t_R ty_R nm_R rfl 5 (by decide) k_R_57 rfl (by decide +kernel) rfl rfl 0 rfl (Nat.le_of_ble_eq_true rfl) (_) (rfl) ?_
                      refine x_iconst (pc := 276) (nI 0) d_R_move_276 (by decide) ?_
                      refine x_zret (pc := 277) d_R_move_277 rfl (by first | rfl | exact bI_narrow _) ?_
                      rw [hst, mdir_2 hla (by rw [← hm8.1]; exact h259), mdo_full h268]
                      exact ⟨4, own n, n, n, oc, cal, el, eu, ev, ag2, rst_mode hr (by decide), hag2, rfl, rfl⟩
              · intro h219
                refine x_iload_n (pc := 222) d_R_move_222 2 rfl ?_
                refine x_iconst (pc := 223) (nI 1) d_R_move_223 (by decide) ?_
                first | refine x_icmp_neN (pc := 224) (tgt := 245) d_R_move_224 rfl (by omega) (by omega) ?_ ?_ | refine x_icmp_ne (pc := 224) (tgt := 245) d_R_move_224 rfl ?_ ?_
                · intro h224
                  refine x_iload_n (pc := 245) d_R_move_245 1 rfl ?_
                  refine x_sipush (pc := 246) (nI 1000) d_R_move_246 (by decide) ?_
                  first | refine x_icmp_ltN (pc := 249) (tgt := 295) d_R_move_249 rfl (by omega) (by omega) ?_ ?_ | refine x_icmp_lt (pc := 249) (tgt := 295) d_R_move_249 rfl ?_ ?_
                  · intro h249
                    refine x_aload_n (pc := 295) d_R_move_295 3 rfl ?_
                    refine x_iconst (pc := 296) (nI 3) d_R_move_296 (by decide) ?_
                    refine x_put (pc := 297) (ci := 4) (ty := .int) d_R_move_297 in_R t_R ty_R nm_R rfl 5 (by decide) k_R_57 rfl (by decide +kernel) rfl rfl 0 rfl (Nat.le_of_ble_eq_true rfl) (_) (rfl) ?_
                    refine x_iconst (pc := 300) (nI 1) d_R_move_300 (by decide) ?_
                    refine x_zret (pc := 301) d_R_move_301 rfl (by first | rfl | exact bI_narrow _) ?_
                    first
                      | (rw [hst, mdir_1 ((hE ()).2.2.1.mp (by rw [← hu]; exact h219)) h224]; exact ⟨2, own n, n, n, ag2 0, cal, el, eu, ev, ag2, rst_done hr (by rw [hg2 0 (by omega), hx h224]), hag2, rfl, rfl⟩)
                      | (rw [hst, mdir_2 hla (by rw [← hm8.1]; exact h259), mdo_enter h268, ← hm8.1, ← ((hE ()).2.2.2.2.2.2.2 hue).2, ← hu]; exact ⟨ph, mm, n + 1, n + 1, oc, _, _, _, _, ag2, rst_enter hr (by omega) (by omega) hpj h259 hg2, hag2, by rw [hph]; rfl, rfl⟩)
                      | (rw [hst, mdir_0 (fun q => absurd ((hE ()).2.1.mpr q.1) (by rw [← hu]; omega)) (fun q => h219 (hu.trans ((hE ()).2.2.1.mpr q.1)))]; exact ⟨3, own n, n, n, oc, cal, el, eu, ev, ag2, rst_mode hr (by decide), hag2, rfl, rfl⟩)
                      | (rw [hst, mdir_0 (fun q => absurd ((hE ()).2.1.mpr q.1) (by rw [← hu]; omega)) (fun q => h224 q.2)]; exact ⟨3, own n, n, n, oc, cal, el, eu, ev, ag2, rst_mode hr (by decide), hag2, rfl, rfl⟩)
                      | (rw [hst, mdir_0 (fun q => h259 (by rw [hm8.1]; exact q.2)) (fun q => by have := q.1; omega)]; exact ⟨3, own n, n, n, oc, cal, el, eu, ev, ag2, rst_mode hr (by decide), hag2, rfl, rfl⟩)
                  · intro h249
                    have hm8 := hmm (by omega)
                    have hpm := hw.2.2.2.1 mm hm8.2
                    have hue : 1000 ≤ enc f := by rw [← hu]; omega
                    have hla := (hE ()).2.1.mp hue
                    refine x_aload_n (pc := 252) d_R_move_252 3 rfl ?_
                    refine x_get (pc := 253) (ci := 4) d_R_move_253 in_R rfl 2 (by decide) k_R_17 0 rfl rfl ?_
                    refine x_iload_n (pc := 256) d_R_move_256 0 rfl ?_
                    refine x_ialdN (pc := 257) d_R_move_257 2 0 rfl rfl (by omega) (by omega) ?_
                    refine x_iload_n (pc := 258) d_R_move_258 2 rfl ?_
                    first | refine x_icmp_neN (pc := 259) (tgt := 295) d_R_move_259 rfl (by omega) (by omega) ?_ ?_ | refine x_icmp_ne (pc := 259) (tgt := 295) d_R_move_259 rfl ?_ ?_
                    · intro h259
                      refine x_aload_n (pc := 295) d_R_move_295 3 rfl ?_
                      refine x_iconst (pc := 296) (nI 3) d_R_move_296 (by decide) ?_
                      refine x_put (pc := 297) (ci := 4) (ty := .int) d_R_move_297 in_R t_R ty_R nm_R rfl 5 (by decide) k_R_57 rfl (by decide +kernel) rfl rfl 0 rfl (Nat.le_of_ble_eq_true rfl) (_) (rfl) ?_
                      refine x_iconst (pc := 300) (nI 1) d_R_move_300 (by decide) ?_
                      refine x_zret (pc := 301) d_R_move_301 rfl (by first | rfl | exact bI_narrow _) ?_
                      first
                        | (rw [hst, mdir_1 ((hE ()).2.2.1.mp (by rw [← hu]; exact h219)) h224]; exact ⟨2, own n, n, n, ag2 0, cal, el, eu, ev, ag2, rst_done hr (by rw [hg2 0 (by omega), hx h224]), hag2, rfl, rfl⟩)
                        | (rw [hst, mdir_2 hla (by rw [← hm8.1]; exact h259), mdo_enter h268, ← hm8.1, ← ((hE ()).2.2.2.2.2.2.2 hue).2, ← hu]; exact ⟨ph, mm, n + 1, n + 1, oc, _, _, _, _, ag2, rst_enter hr (by omega) (by omega) hpj h259 hg2, hag2, by rw [hph]; rfl, rfl⟩)
                        | (rw [hst, mdir_0 (fun q => absurd ((hE ()).2.1.mpr q.1) (by rw [← hu]; omega)) (fun q => h219 (hu.trans ((hE ()).2.2.1.mpr q.1)))]; exact ⟨3, own n, n, n, oc, cal, el, eu, ev, ag2, rst_mode hr (by decide), hag2, rfl, rfl⟩)
                        | (rw [hst, mdir_0 (fun q => absurd ((hE ()).2.1.mpr q.1) (by rw [← hu]; omega)) (fun q => h224 q.2)]; exact ⟨3, own n, n, n, oc, cal, el, eu, ev, ag2, rst_mode hr (by decide), hag2, rfl, rfl⟩)
                        | (rw [hst, mdir_0 (fun q => h259 (by rw [hm8.1]; exact q.2)) (fun q => by have := q.1; omega)]; exact ⟨3, own n, n, n, oc, cal, el, eu, ev, ag2, rst_mode hr (by decide), hag2, rfl, rfl⟩)
                    · intro h259
                      refine x_aload_n (pc := 262) d_R_move_262 3 rfl ?_
                      refine x_get (pc := 263) (ci := 4) d_R_move_263 in_R rfl 8 (by decide) k_R_84 0 rfl rfl ?_
                      refine x_bipush (pc := 266) (nI 64) d_R_move_266 (by decide) ?_
                      first | refine x_icmp_neN (pc := 268) (tgt := 278) d_R_move_268 rfl (by omega) (by omega) ?_ ?_ | refine x_icmp_ne (pc := 268) (tgt := 278) d_R_move_268 rfl ?_ ?_
                      · intro h268
                        refine x_aload_n (pc := 278) d_R_move_278 3 rfl ?_
                        refine x_iload_n (pc := 279) d_R_move_279 0 rfl ?_
                        refine x_iload_n (pc := 280) d_R_move_280 1 rfl ?_
                        refine x_sipush (pc := 281) (nI 1000) d_R_move_281 (by decide) ?_
                        first | refine x_isubN (pc := 284) d_R_move_284 (by omega) ?_ | refine x_isub (pc := 284) d_R_move_284 ?_
                        refine x_bipush (pc := 285) (nI 100) d_R_move_285 (by decide) ?_
                        first | refine x_iremN (pc := 287) d_R_move_287 (by omega) (by omega) (by omega) ?_ | refine x_irem (pc := 287) d_R_move_287 (by decide) ?_
                        refine x_iload_n (pc := 288) d_R_move_288 2 rfl ?_
                        refine x_callV_Z (pc := 289) (ci := 4) d_R_move_289 k_R_101 wi_R_enter wv_R_enter w_R_enter ini_R wd_R_enter ⟨by decide, by decide⟩ ⟨rfl, rfl⟩ ⟨Nat.zero_le _, Nat.zero_le _⟩ 0 rfl rfl (t_R_enter (by omega) (by omega) (by omega) hkk) rfl rfl (Nat.le_of_ble_eq_true rfl) ?_
                        refine x_goto (pc := 292) (tgt := 300) d_R_move_292 rfl ?_
                        refine x_iconst (pc := 300) (nI 1) d_R_move_300 (by decide) ?_
                        refine x_zret (pc := 301) d_R_move_301 rfl (by first | rfl | exact bI_narrow _) ?_
                        first
                          | (rw [hst, mdir_1 ((hE ()).2.2.1.mp (by rw [← hu]; exact h219)) h224]; exact ⟨2, own n, n, n, ag2 0, cal, el, eu, ev, ag2, rst_done hr (by rw [hg2 0 (by omega), hx h224]), hag2, rfl, rfl⟩)
                          | (rw [hst, mdir_2 hla (by rw [← hm8.1]; exact h259), mdo_enter h268, ← hm8.1, ← ((hE ()).2.2.2.2.2.2.2 hue).2, ← hu]; exact ⟨ph, mm, n + 1, n + 1, oc, _, _, _, _, ag2, rst_enter hr (by omega) (by omega) hpj h259 hg2, hag2, by rw [hph]; rfl, rfl⟩)
                          | (rw [hst, mdir_0 (fun q => absurd ((hE ()).2.1.mpr q.1) (by rw [← hu]; omega)) (fun q => h219 (hu.trans ((hE ()).2.2.1.mpr q.1)))]; exact ⟨3, own n, n, n, oc, cal, el, eu, ev, ag2, rst_mode hr (by decide), hag2, rfl, rfl⟩)
                          | (rw [hst, mdir_0 (fun q => absurd ((hE ()).2.1.mpr q.1) (by rw [← hu]; omega)) (fun q => h224 q.2)]; exact ⟨3, own n, n, n, oc, cal, el, eu, ev, ag2, rst_mode hr (by decide), hag2, rfl, rfl⟩)
                          | (rw [hst, mdir_0 (fun q => h259 (by rw [hm8.1]; exact q.2)) (fun q => by have := q.1; omega)]; exact ⟨3, own n, n, n, oc, cal, el, eu, ev, ag2, rst_mode hr (by decide), hag2, rfl, rfl⟩)
                      · intro h268
                        refine x_aload_n (pc := 271) d_R_move_271 3 rfl ?_
                        refine x_iconst (pc := 272) (nI 4) d_R_move_272 (by decide) ?_
                        refine x_put (pc := 273) (ci := 4) (ty := .int) d_R_move_273 in_R t_R ty_R nm_R rfl 5 (by decide) k_R_57 rfl (by decide +kernel) rfl rfl 0 rfl (Nat.le_of_ble_eq_true rfl) (_) (rfl) ?_
                        refine x_iconst (pc := 276) (nI 0) d_R_move_276 (by decide) ?_
                        refine x_zret (pc := 277) d_R_move_277 rfl (by first | rfl | exact bI_narrow _) ?_
                        rw [hst, mdir_2 hla (by rw [← hm8.1]; exact h259), mdo_full h268]
                        exact ⟨4, own n, n, n, oc, cal, el, eu, ev, ag2, rst_mode hr (by decide), hag2, rfl, rfl⟩
                · intro h224
                  refine x_aload_n (pc := 227) d_R_move_227 3 rfl ?_
                  refine x_aload_n (pc := 228) d_R_move_228 3 rfl ?_
                  refine x_get (pc := 229) (ci := 4) d_R_move_229 in_R rfl 14 (by decide) k_R_38 0 rfl rfl ?_
                  refine x_iconst (pc := 232) (nI 0) d_R_move_232 (by decide) ?_
                  refine x_ialdN (pc := 233) d_R_move_233 9 0 rfl rfl (by omega) (by omega) ?_
                  refine x_put (pc := 234) (ci := 4) (ty := .int) d_R_move_234 in_R t_R ty_R nm_R rfl 9 (by decide) k_R_98 rfl (by decide +kernel) rfl rfl 0 rfl (Nat.le_of_ble_eq_true rfl) (_) (rfl) ?_
                  refine x_aload_n (pc := 237) d_R_move_237 3 rfl ?_
                  refine x_iconst (pc := 238) (nI 2) d_R_move_238 (by decide) ?_
                  refine x_put (pc := 239) (ci := 4) (ty := .int) d_R_move_239 in_R t_R ty_R nm_R rfl 5 (by decide) k_R_57 rfl (by decide +kernel) rfl rfl 0 rfl (Nat.le_of_ble_eq_true rfl) (_) (rfl) ?_
                  refine x_goto (pc := 242) (tgt := 300) d_R_move_242 rfl ?_
                  refine x_iconst (pc := 300) (nI 1) d_R_move_300 (by decide) ?_
                  refine x_zret (pc := 301) d_R_move_301 rfl (by first | rfl | exact bI_narrow _) ?_
                  first
                    | (rw [hst, mdir_1 ((hE ()).2.2.1.mp (by rw [← hu]; exact h219)) h224]; exact ⟨2, own n, n, n, ag2 0, cal, el, eu, ev, ag2, rst_done hr (by rw [hg2 0 (by omega), hx h224]), hag2, rfl, rfl⟩)
                    | (rw [hst, mdir_2 hla (by rw [← hm8.1]; exact h259), mdo_enter h268, ← hm8.1, ← ((hE ()).2.2.2.2.2.2.2 hue).2, ← hu]; exact ⟨ph, mm, n + 1, n + 1, oc, _, _, _, _, ag2, rst_enter hr (by omega) (by omega) hpj h259 hg2, hag2, by rw [hph]; rfl, rfl⟩)
                    | (rw [hst, mdir_0 (fun q => absurd ((hE ()).2.1.mpr q.1) (by rw [← hu]; omega)) (fun q => h219 (hu.trans ((hE ()).2.2.1.mpr q.1)))]; exact ⟨3, own n, n, n, oc, cal, el, eu, ev, ag2, rst_mode hr (by decide), hag2, rfl, rfl⟩)
                    | (rw [hst, mdir_0 (fun q => absurd ((hE ()).2.1.mpr q.1) (by rw [← hu]; omega)) (fun q => h224 q.2)]; exact ⟨3, own n, n, n, oc, cal, el, eu, ev, ag2, rst_mode hr (by decide), hag2, rfl, rfl⟩)
                    | (rw [hst, mdir_0 (fun q => h259 (by rw [hm8.1]; exact q.2)) (fun q => by have := q.1; omega)]; exact ⟨3, own n, n, n, oc, cal, el, eu, ev, ag2, rst_mode hr (by decide), hag2, rfl, rfl⟩)
            refine x_iload_n (pc := 195) d_R_move_195 0 rfl ?_
            refine x_sipush (pc := 196) (nI 1000) d_R_move_196 (by decide) ?_
            first | refine x_icmp_ltN (pc := 199) (tgt := 213) d_R_move_199 rfl (by omega) (by omega) ?_ ?_ | refine x_icmp_lt (pc := 199) (tgt := 213) d_R_move_199 rfl ?_ ?_
            · intro h199
              refine x_iconst (pc := 213) (nI 0) d_R_move_213 (by decide) ?_
              refine x_istore_n (pc := 214) d_R_move_214 rfl (by decide) [(3, _), (2, _), (1, _), (0, _)] rfl ?_
              refine x_sub [0, 1, 2, 3] _ rfl ?_
              first
                | exact hc215 0 (fun q => absurd h199 (by omega))
                | exact hc215 ((u - 1000) / 100) (fun q => by
                    have q2 : 1000 ≤ enc f := by rw [← hu]; exact q
                    have z := (hE ()).2.2.2.2.2.2.2 q2
                    have z2 := (hE ()).2.1.mp q2
                    rw [hu, z.1]
                    omega)
            · intro h199
              refine x_iload_n (pc := 202) d_R_move_202 0 rfl ?_
              refine x_sipush (pc := 203) (nI 1000) d_R_move_203 (by decide) ?_
              first | refine x_isubN (pc := 206) d_R_move_206 (by omega) ?_ | refine x_isub (pc := 206) d_R_move_206 ?_
              refine x_bipush (pc := 207) (nI 100) d_R_move_207 (by decide) ?_
              first | refine x_idivN (pc := 209) d_R_move_209 (by omega) (by omega) (by omega) ?_ | refine x_idiv (pc := 209) d_R_move_209 (by decide) ?_
              refine x_goto (pc := 210) (tgt := 214) d_R_move_210 rfl ?_
              refine x_istore_n (pc := 214) d_R_move_214 rfl (by decide) [(3, _), (2, _), (1, _), (0, _)] rfl ?_
              refine x_sub [0, 1, 2, 3] _ rfl ?_
              first
                | exact hc215 0 (fun q => absurd h199 (by omega))
                | exact hc215 ((u - 1000) / 100) (fun q => by
                    have q2 : 1000 ≤ enc f := by rw [← hu]; exact q
                    have z := (hE ()).2.2.2.2.2.2.2 q2
                    have z2 := (hE ()).2.1.mp q2
                    rw [hu, z.1]
                    omega)
          have hc144 : (¬ ((((siz (own n) - 1) = 3 ∧ (mops atm (n, own, out, bnd, cal2, ph, oc2) 1) < 10) ∧ (mops atm (n, own, out, bnd, cal2, ph, oc2) 0) = 301) ∧ (mops atm (n, own, out, bnd, cal2, ph, oc2) 2) < 10)) → xj E l (rmm 2 45) c_R_move 4 (some .boolean) R_R (gG D cI cL) A 0 0 (fun v w2 => ∃ mo9 he9 en9 ap9 oc9 cal9 el9 eu9 ev9 ag9, rst prm (mstep prm siz atm (n, own, out, bnd, cal2, ph, oc2)) mo9 he9 en9 ap9 oc9 cal9 el9 eu9 ev9 ∧ (∀ i, i < 4 → ag9 i < 100000) ∧ v = some (.int (bI (decide (¬ (mstep prm siz atm (n, own, out, bnd, cal2, ph, oc2)).2.2.2.2.2.1 = 4)))) ∧ w2 = (wR ad cI cL par prm siz atm cnt mo9 he9 en9 ap9 oc9 cal9 el9 eu9 ev9 ag9 an kk P Q S F R ch AP AQ)) 0 0 (wR ad cI cL par prm siz atm cnt ph (own n) n n oc cal el eu ev ag1 an kk P Q S F R ch AP AQ) 144 [(2, .int (nI (enc (mops atm (n, own, out, bnd, cal2, ph, oc2) 0)))), (1, .int (nI (siz (own n) - 1))), (0, .ref (ad 0))] [] := by
            intro hN2
            refine x_iload_n (pc := 144) d_R_move_144 0 rfl ?_
            refine x_sipush (pc := 145) (nI 302) d_R_move_145 (by decide) ?_
            first | refine x_icmp_neN (pc := 148) (tgt := 195) d_R_move_148 rfl (by omega) (by omega) ?_ ?_ | refine x_icmp_ne (pc := 148) (tgt := 195) d_R_move_148 rfl ?_ ?_
            · intro h148
              refine x_sub [0, 1, 2] _ rfl ?_
              first
                | exact hc195 ((un (mops atm (n, own, out, bnd, cal2, ph, oc2)) 1 (((mops atm (n, own, out, bnd, cal2, ph, oc2) 1) + (mops atm (n, own, out, bnd, cal2, ph, oc2) 2)) % 10)) 3) 1 (ag1 2) ((un (mops atm (n, own, out, bnd, cal2, ph, oc2)) 1 (((mops atm (n, own, out, bnd, cal2, ph, oc2) 1) + (mops atm (n, own, out, bnd, cal2, ph, oc2) 2)) % 10)) 1) (fun i => (un (mops atm (n, own, out, bnd, cal2, ph, oc2)) 1 (((mops atm (n, own, out, bnd, cal2, ph, oc2) 1) + (mops atm (n, own, out, bnd, cal2, ph, oc2) 2)) % 10)) (1 + i)) _ (by rw [q2, un_ne _ _ (by decide)]) (show mstep prm siz atm (n, own, out, bnd, cal2, ph, oc2) = _ from (by unfold mstep; show mdo (mact prm (siz (own n)) _) (mar _ (mfst (siz (own n)) _)) _ = _; rw [hs4]; exact mact_add rfl a1 a0 a2)) (by rw [un_ne _ _ (by decide)]; exact hO 3 (by omega)) (by omega) (fun i hi => mv_add ⟨by omega, by omega⟩ a1 (by omega)) (fun _ => rfl) (un0_small hag4 (by omega))
                | exact hc195 (mops atm (n, own, out, bnd, cal2, ph, oc2) 2) 0 (ag1 1) (mops atm (n, own, out, bnd, cal2, ph, oc2) 1) (fun i => mops atm (n, own, out, bnd, cal2, ph, oc2) (1 + i)) ag1 q1 (show mstep prm siz atm (n, own, out, bnd, cal2, ph, oc2) = _ from (by unfold mstep; show mdo (mact prm (siz (own n)) _) (mar _ (mfst (siz (own n)) _)) _ = _; rw [hs4]; exact mact_if rfl a1 a0 (if_pos (by omega)).symm)) (hO 2 (by omega)) (by omega) (fun i hi => absurd hi (Nat.not_lt_zero i)) (fun q => absurd q (by decide)) hag4
                | exact hc195 (mops atm (n, own, out, bnd, cal2, ph, oc2) 3) 0 (ag1 2) (mops atm (n, own, out, bnd, cal2, ph, oc2) 1) (fun i => mops atm (n, own, out, bnd, cal2, ph, oc2) (1 + i)) ag1 q2 (show mstep prm siz atm (n, own, out, bnd, cal2, ph, oc2) = _ from (by unfold mstep; show mdo (mact prm (siz (own n)) _) (mar _ (mfst (siz (own n)) _)) _ = _; rw [hs4]; exact mact_if rfl a1 a0 (if_neg (by omega)).symm)) (hO 3 (by omega)) (by omega) (fun i hi => absurd hi (Nat.not_lt_zero i)) (fun q => absurd q (by decide)) hag4
                | exact hc195 (mops atm (n, own, out, bnd, cal2, ph, oc2) 0) (siz (own n) - 1) (enc (mops atm (n, own, out, bnd, cal2, ph, oc2) 0)) (mops atm (n, own, out, bnd, cal2, ph, oc2) 1) (fun i => mops atm (n, own, out, bnd, cal2, ph, oc2) (1 + i)) ag1 rfl (mv_oth hzp (fun q => g165 (by rw [q0]; exact (EE 1 (by omega)).1.mpr q.1.2)) hN2) (hO 0 hzp) (by omega) (fun i hi => hgg i hi) (fun _ => rfl) hag4
                | exact hc195 (mops atm (n, own, out, bnd, cal2, ph, oc2) 0) (siz (own n) - 1) (enc (mops atm (n, own, out, bnd, cal2, ph, oc2) 0)) (mops atm (n, own, out, bnd, cal2, ph, oc2) 1) (fun i => mops atm (n, own, out, bnd, cal2, ph, oc2) (1 + i)) ag1 rfl (mv_oth hzp (fun q => h153 q.1.1) hN2) (hO 0 hzp) (by omega) (fun i hi => hgg i hi) (fun _ => rfl) hag4
                | exact hc195 (mops atm (n, own, out, bnd, cal2, ph, oc2) 0) (siz (own n) - 1) (enc (mops atm (n, own, out, bnd, cal2, ph, oc2) 0)) (mops atm (n, own, out, bnd, cal2, ph, oc2) 1) (fun i => mops atm (n, own, out, bnd, cal2, ph, oc2) (1 + i)) ag1 rfl (mv_oth hzp (fun q => h148 ((EE 0 hzp).2.2.2.2.1.mpr q.2)) hN2) (hO 0 hzp) (by omega) (fun i hi => hgg i hi) (fun _ => rfl) hag4
            · intro h148
              refine x_iload_n (pc := 151) d_R_move_151 1 rfl ?_
              refine x_iconst (pc := 152) (nI 3) d_R_move_152 (by decide) ?_
              first | refine x_icmp_neN (pc := 153) (tgt := 195) d_R_move_153 rfl (by omega) (by omega) ?_ ?_ | refine x_icmp_ne (pc := 153) (tgt := 195) d_R_move_153 rfl ?_ ?_
              · intro h153
                refine x_sub [0, 1, 2] _ rfl ?_
                first
                  | exact hc195 ((un (mops atm (n, own, out, bnd, cal2, ph, oc2)) 1 (((mops atm (n, own, out, bnd, cal2, ph, oc2) 1) + (mops atm (n, own, out, bnd, cal2, ph, oc2) 2)) % 10)) 3) 1 (ag1 2) ((un (mops atm (n, own, out, bnd, cal2, ph, oc2)) 1 (((mops atm (n, own, out, bnd, cal2, ph, oc2) 1) + (mops atm (n, own, out, bnd, cal2, ph, oc2) 2)) % 10)) 1) (fun i => (un (mops atm (n, own, out, bnd, cal2, ph, oc2)) 1 (((mops atm (n, own, out, bnd, cal2, ph, oc2) 1) + (mops atm (n, own, out, bnd, cal2, ph, oc2) 2)) % 10)) (1 + i)) _ (by rw [q2, un_ne _ _ (by decide)]) (show mstep prm siz atm (n, own, out, bnd, cal2, ph, oc2) = _ from (by unfold mstep; show mdo (mact prm (siz (own n)) _) (mar _ (mfst (siz (own n)) _)) _ = _; rw [hs4]; exact mact_add rfl a1 a0 a2)) (by rw [un_ne _ _ (by decide)]; exact hO 3 (by omega)) (by omega) (fun i hi => mv_add ⟨by omega, by omega⟩ a1 (by omega)) (fun _ => rfl) (un0_small hag4 (by omega))
                  | exact hc195 (mops atm (n, own, out, bnd, cal2, ph, oc2) 2) 0 (ag1 1) (mops atm (n, own, out, bnd, cal2, ph, oc2) 1) (fun i => mops atm (n, own, out, bnd, cal2, ph, oc2) (1 + i)) ag1 q1 (show mstep prm siz atm (n, own, out, bnd, cal2, ph, oc2) = _ from (by unfold mstep; show mdo (mact prm (siz (own n)) _) (mar _ (mfst (siz (own n)) _)) _ = _; rw [hs4]; exact mact_if rfl a1 a0 (if_pos (by omega)).symm)) (hO 2 (by omega)) (by omega) (fun i hi => absurd hi (Nat.not_lt_zero i)) (fun q => absurd q (by decide)) hag4
                  | exact hc195 (mops atm (n, own, out, bnd, cal2, ph, oc2) 3) 0 (ag1 2) (mops atm (n, own, out, bnd, cal2, ph, oc2) 1) (fun i => mops atm (n, own, out, bnd, cal2, ph, oc2) (1 + i)) ag1 q2 (show mstep prm siz atm (n, own, out, bnd, cal2, ph, oc2) = _ from (by unfold mstep; show mdo (mact prm (siz (own n)) _) (mar _ (mfst (siz (own n)) _)) _ = _; rw [hs4]; exact mact_if rfl a1 a0 (if_neg (by omega)).symm)) (hO 3 (by omega)) (by omega) (fun i hi => absurd hi (Nat.not_lt_zero i)) (fun q => absurd q (by decide)) hag4
                  | exact hc195 (mops atm (n, own, out, bnd, cal2, ph, oc2) 0) (siz (own n) - 1) (enc (mops atm (n, own, out, bnd, cal2, ph, oc2) 0)) (mops atm (n, own, out, bnd, cal2, ph, oc2) 1) (fun i => mops atm (n, own, out, bnd, cal2, ph, oc2) (1 + i)) ag1 rfl (mv_oth hzp (fun q => g165 (by rw [q0]; exact (EE 1 (by omega)).1.mpr q.1.2)) hN2) (hO 0 hzp) (by omega) (fun i hi => hgg i hi) (fun _ => rfl) hag4
                  | exact hc195 (mops atm (n, own, out, bnd, cal2, ph, oc2) 0) (siz (own n) - 1) (enc (mops atm (n, own, out, bnd, cal2, ph, oc2) 0)) (mops atm (n, own, out, bnd, cal2, ph, oc2) 1) (fun i => mops atm (n, own, out, bnd, cal2, ph, oc2) (1 + i)) ag1 rfl (mv_oth hzp (fun q => h153 q.1.1) hN2) (hO 0 hzp) (by omega) (fun i hi => hgg i hi) (fun _ => rfl) hag4
                  | exact hc195 (mops atm (n, own, out, bnd, cal2, ph, oc2) 0) (siz (own n) - 1) (enc (mops atm (n, own, out, bnd, cal2, ph, oc2) 0)) (mops atm (n, own, out, bnd, cal2, ph, oc2) 1) (fun i => mops atm (n, own, out, bnd, cal2, ph, oc2) (1 + i)) ag1 rfl (mv_oth hzp (fun q => h148 ((EE 0 hzp).2.2.2.2.1.mpr q.2)) hN2) (hO 0 hzp) (by omega) (fun i hi => hgg i hi) (fun _ => rfl) hag4
              · intro h153
                have q0 : ag1 0 = enc (mops atm (n, own, out, bnd, cal2, ph, oc2) 1) := hgg 0 (by omega)
                have q1 : ag1 1 = enc (mops atm (n, own, out, bnd, cal2, ph, oc2) 2) := hgg 1 (by omega)
                have q2 : ag1 2 = enc (mops atm (n, own, out, bnd, cal2, ph, oc2) 3) := hgg 2 (by omega)
                refine x_aload_n (pc := 156) d_R_move_156 2 rfl ?_
                refine x_get (pc := 157) (ci := 4) d_R_move_157 in_R rfl 14 (by decide) k_R_38 0 rfl rfl ?_
                refine x_iconst (pc := 160) (nI 0) d_R_move_160 (by decide) ?_
                refine x_ialdN (pc := 161) d_R_move_161 9 0 rfl rfl (by omega) (by omega) ?_
                refine x_callS_I (pc := 162) d_R_move_162 k_R_95 ws_R_isNumber w_R_isNumber ini_R wd_R_isNumber ⟨by decide, by decide⟩ ⟨rfl, rfl⟩ ⟨Nat.zero_le _, Nat.zero_le _⟩ (t_R_isNumber (by omega)) rfl rfl (Nat.le_of_ble_eq_true rfl) ?_
                first | refine x_if_eqB (pc := 165) (tgt := 195) d_R_move_165 rfl ?_ ?_ | refine x_if_eqL (pc := 165) (tgt := 195) d_R_move_165 rfl ?_ ?_ | refine x_if_eqN (pc := 165) (tgt := 195) d_R_move_165 rfl (by omega) ?_ ?_ | refine x_if_eq (pc := 165) (tgt := 195) d_R_move_165 rfl ?_ ?_
                · intro h165
                  have g165 := of_decide_eq_false h165
                  refine x_sub [0, 1, 2] _ rfl ?_
                  first
                    | exact hc195 ((un (mops atm (n, own, out, bnd, cal2, ph, oc2)) 1 (((mops atm (n, own, out, bnd, cal2, ph, oc2) 1) + (mops atm (n, own, out, bnd, cal2, ph, oc2) 2)) % 10)) 3) 1 (ag1 2) ((un (mops atm (n, own, out, bnd, cal2, ph, oc2)) 1 (((mops atm (n, own, out, bnd, cal2, ph, oc2) 1) + (mops atm (n, own, out, bnd, cal2, ph, oc2) 2)) % 10)) 1) (fun i => (un (mops atm (n, own, out, bnd, cal2, ph, oc2)) 1 (((mops atm (n, own, out, bnd, cal2, ph, oc2) 1) + (mops atm (n, own, out, bnd, cal2, ph, oc2) 2)) % 10)) (1 + i)) _ (by rw [q2, un_ne _ _ (by decide)]) (show mstep prm siz atm (n, own, out, bnd, cal2, ph, oc2) = _ from (by unfold mstep; show mdo (mact prm (siz (own n)) _) (mar _ (mfst (siz (own n)) _)) _ = _; rw [hs4]; exact mact_add rfl a1 a0 a2)) (by rw [un_ne _ _ (by decide)]; exact hO 3 (by omega)) (by omega) (fun i hi => mv_add ⟨by omega, by omega⟩ a1 (by omega)) (fun _ => rfl) (un0_small hag4 (by omega))
                    | exact hc195 (mops atm (n, own, out, bnd, cal2, ph, oc2) 2) 0 (ag1 1) (mops atm (n, own, out, bnd, cal2, ph, oc2) 1) (fun i => mops atm (n, own, out, bnd, cal2, ph, oc2) (1 + i)) ag1 q1 (show mstep prm siz atm (n, own, out, bnd, cal2, ph, oc2) = _ from (by unfold mstep; show mdo (mact prm (siz (own n)) _) (mar _ (mfst (siz (own n)) _)) _ = _; rw [hs4]; exact mact_if rfl a1 a0 (if_pos (by omega)).symm)) (hO 2 (by omega)) (by omega) (fun i hi => absurd hi (Nat.not_lt_zero i)) (fun q => absurd q (by decide)) hag4
                    | exact hc195 (mops atm (n, own, out, bnd, cal2, ph, oc2) 3) 0 (ag1 2) (mops atm (n, own, out, bnd, cal2, ph, oc2) 1) (fun i => mops atm (n, own, out, bnd, cal2, ph, oc2) (1 + i)) ag1 q2 (show mstep prm siz atm (n, own, out, bnd, cal2, ph, oc2) = _ from (by unfold mstep; show mdo (mact prm (siz (own n)) _) (mar _ (mfst (siz (own n)) _)) _ = _; rw [hs4]; exact mact_if rfl a1 a0 (if_neg (by omega)).symm)) (hO 3 (by omega)) (by omega) (fun i hi => absurd hi (Nat.not_lt_zero i)) (fun q => absurd q (by decide)) hag4
                    | exact hc195 (mops atm (n, own, out, bnd, cal2, ph, oc2) 0) (siz (own n) - 1) (enc (mops atm (n, own, out, bnd, cal2, ph, oc2) 0)) (mops atm (n, own, out, bnd, cal2, ph, oc2) 1) (fun i => mops atm (n, own, out, bnd, cal2, ph, oc2) (1 + i)) ag1 rfl (mv_oth hzp (fun q => g165 (by rw [q0]; exact (EE 1 (by omega)).1.mpr q.1.2)) hN2) (hO 0 hzp) (by omega) (fun i hi => hgg i hi) (fun _ => rfl) hag4
                    | exact hc195 (mops atm (n, own, out, bnd, cal2, ph, oc2) 0) (siz (own n) - 1) (enc (mops atm (n, own, out, bnd, cal2, ph, oc2) 0)) (mops atm (n, own, out, bnd, cal2, ph, oc2) 1) (fun i => mops atm (n, own, out, bnd, cal2, ph, oc2) (1 + i)) ag1 rfl (mv_oth hzp (fun q => h153 q.1.1) hN2) (hO 0 hzp) (by omega) (fun i hi => hgg i hi) (fun _ => rfl) hag4
                    | exact hc195 (mops atm (n, own, out, bnd, cal2, ph, oc2) 0) (siz (own n) - 1) (enc (mops atm (n, own, out, bnd, cal2, ph, oc2) 0)) (mops atm (n, own, out, bnd, cal2, ph, oc2) 1) (fun i => mops atm (n, own, out, bnd, cal2, ph, oc2) (1 + i)) ag1 rfl (mv_oth hzp (fun q => h148 ((EE 0 hzp).2.2.2.2.1.mpr q.2)) hN2) (hO 0 hzp) (by omega) (fun i hi => hgg i hi) (fun _ => rfl) hag4
                · intro h165
                  have g165 := of_decide_eq_true h165
                  have a0 := (EE 0 hzp).2.2.2.2.1.mp h148
                  have a1 := (EE 1 (by omega)).1.mp (by rw [← q0]; exact g165)
                  have b1 := (EE 1 (by omega)).2.2.2.2.2.2.1 a1
                  have hs4 : siz (own n) = 3 + 1 := by omega
                  refine x_aload_n (pc := 168) d_R_move_168 2 rfl ?_
                  refine x_get (pc := 169) (ci := 4) d_R_move_169 in_R rfl 14 (by decide) k_R_38 0 rfl rfl ?_
                  refine x_iconst (pc := 172) (nI 0) d_R_move_172 (by decide) ?_
                  refine x_ialdN (pc := 173) d_R_move_173 9 0 rfl rfl (by omega) (by omega) ?_
                  first | refine x_if_neB (pc := 174) (tgt := 186) d_R_move_174 rfl ?_ ?_ | refine x_if_neL (pc := 174) (tgt := 186) d_R_move_174 rfl ?_ ?_ | refine x_if_neN (pc := 174) (tgt := 186) d_R_move_174 rfl (by omega) ?_ ?_ | refine x_if_ne (pc := 174) (tgt := 186) d_R_move_174 rfl ?_ ?_
                  · intro h174
                    refine x_aload_n (pc := 186) d_R_move_186 2 rfl ?_
                    refine x_get (pc := 187) (ci := 4) d_R_move_187 in_R rfl 14 (by decide) k_R_38 0 rfl rfl ?_
                    refine x_iconst (pc := 190) (nI 2) d_R_move_190 (by decide) ?_
                    refine x_ialdN (pc := 191) d_R_move_191 9 0 rfl rfl (by omega) (by omega) ?_
                    refine x_istore_n (pc := 192) d_R_move_192 rfl (by decide) [(2, _), (1, _), (0, _)] rfl ?_
                    refine x_iconst (pc := 193) (nI 0) d_R_move_193 (by decide) ?_
                    refine x_istore_n (pc := 194) d_R_move_194 rfl (by decide) [(1, _), (2, _), (0, _)] rfl ?_
                    refine x_sub [1, 0, 2] _ rfl ?_
                    first
                      | exact hc195 ((un (mops atm (n, own, out, bnd, cal2, ph, oc2)) 1 (((mops atm (n, own, out, bnd, cal2, ph, oc2) 1) + (mops atm (n, own, out, bnd, cal2, ph, oc2) 2)) % 10)) 3) 1 (ag1 2) ((un (mops atm (n, own, out, bnd, cal2, ph, oc2)) 1 (((mops atm (n, own, out, bnd, cal2, ph, oc2) 1) + (mops atm (n, own, out, bnd, cal2, ph, oc2) 2)) % 10)) 1) (fun i => (un (mops atm (n, own, out, bnd, cal2, ph, oc2)) 1 (((mops atm (n, own, out, bnd, cal2, ph, oc2) 1) + (mops atm (n, own, out, bnd, cal2, ph, oc2) 2)) % 10)) (1 + i)) _ (by rw [q2, un_ne _ _ (by decide)]) (show mstep prm siz atm (n, own, out, bnd, cal2, ph, oc2) = _ from (by unfold mstep; show mdo (mact prm (siz (own n)) _) (mar _ (mfst (siz (own n)) _)) _ = _; rw [hs4]; exact mact_add rfl a1 a0 a2)) (by rw [un_ne _ _ (by decide)]; exact hO 3 (by omega)) (by omega) (fun i hi => mv_add ⟨by omega, by omega⟩ a1 (by omega)) (fun _ => rfl) (un0_small hag4 (by omega))
                      | exact hc195 (mops atm (n, own, out, bnd, cal2, ph, oc2) 2) 0 (ag1 1) (mops atm (n, own, out, bnd, cal2, ph, oc2) 1) (fun i => mops atm (n, own, out, bnd, cal2, ph, oc2) (1 + i)) ag1 q1 (show mstep prm siz atm (n, own, out, bnd, cal2, ph, oc2) = _ from (by unfold mstep; show mdo (mact prm (siz (own n)) _) (mar _ (mfst (siz (own n)) _)) _ = _; rw [hs4]; exact mact_if rfl a1 a0 (if_pos (by omega)).symm)) (hO 2 (by omega)) (by omega) (fun i hi => absurd hi (Nat.not_lt_zero i)) (fun q => absurd q (by decide)) hag4
                      | exact hc195 (mops atm (n, own, out, bnd, cal2, ph, oc2) 3) 0 (ag1 2) (mops atm (n, own, out, bnd, cal2, ph, oc2) 1) (fun i => mops atm (n, own, out, bnd, cal2, ph, oc2) (1 + i)) ag1 q2 (show mstep prm siz atm (n, own, out, bnd, cal2, ph, oc2) = _ from (by unfold mstep; show mdo (mact prm (siz (own n)) _) (mar _ (mfst (siz (own n)) _)) _ = _; rw [hs4]; exact mact_if rfl a1 a0 (if_neg (by omega)).symm)) (hO 3 (by omega)) (by omega) (fun i hi => absurd hi (Nat.not_lt_zero i)) (fun q => absurd q (by decide)) hag4
                      | exact hc195 (mops atm (n, own, out, bnd, cal2, ph, oc2) 0) (siz (own n) - 1) (enc (mops atm (n, own, out, bnd, cal2, ph, oc2) 0)) (mops atm (n, own, out, bnd, cal2, ph, oc2) 1) (fun i => mops atm (n, own, out, bnd, cal2, ph, oc2) (1 + i)) ag1 rfl (mv_oth hzp (fun q => g165 (by rw [q0]; exact (EE 1 (by omega)).1.mpr q.1.2)) hN2) (hO 0 hzp) (by omega) (fun i hi => hgg i hi) (fun _ => rfl) hag4
                      | exact hc195 (mops atm (n, own, out, bnd, cal2, ph, oc2) 0) (siz (own n) - 1) (enc (mops atm (n, own, out, bnd, cal2, ph, oc2) 0)) (mops atm (n, own, out, bnd, cal2, ph, oc2) 1) (fun i => mops atm (n, own, out, bnd, cal2, ph, oc2) (1 + i)) ag1 rfl (mv_oth hzp (fun q => h153 q.1.1) hN2) (hO 0 hzp) (by omega) (fun i hi => hgg i hi) (fun _ => rfl) hag4
                      | exact hc195 (mops atm (n, own, out, bnd, cal2, ph, oc2) 0) (siz (own n) - 1) (enc (mops atm (n, own, out, bnd, cal2, ph, oc2) 0)) (mops atm (n, own, out, bnd, cal2, ph, oc2) 1) (fun i => mops atm (n, own, out, bnd, cal2, ph, oc2) (1 + i)) ag1 rfl (mv_oth hzp (fun q => h148 ((EE 0 hzp).2.2.2.2.1.mpr q.2)) hN2) (hO 0 hzp) (by omega) (fun i hi => hgg i hi) (fun _ => rfl) hag4
                  · intro h174
                    refine x_aload_n (pc := 177) d_R_move_177 2 rfl ?_
                    refine x_get (pc := 178) (ci := 4) d_R_move_178 in_R rfl 14 (by decide) k_R_38 0 rfl rfl ?_
                    refine x_iconst (pc := 181) (nI 1) d_R_move_181 (by decide) ?_
                    refine x_ialdN (pc := 182) d_R_move_182 9 0 rfl rfl (by omega) (by omega) ?_
                    refine x_goto (pc := 183) (tgt := 192) d_R_move_183 rfl ?_
                    refine x_istore_n (pc := 192) d_R_move_192 rfl (by decide) [(2, _), (1, _), (0, _)] rfl ?_
                    refine x_iconst (pc := 193) (nI 0) d_R_move_193 (by decide) ?_
                    refine x_istore_n (pc := 194) d_R_move_194 rfl (by decide) [(1, _), (2, _), (0, _)] rfl ?_
                    refine x_sub [1, 0, 2] _ rfl ?_
                    first
                      | exact hc195 ((un (mops atm (n, own, out, bnd, cal2, ph, oc2)) 1 (((mops atm (n, own, out, bnd, cal2, ph, oc2) 1) + (mops atm (n, own, out, bnd, cal2, ph, oc2) 2)) % 10)) 3) 1 (ag1 2) ((un (mops atm (n, own, out, bnd, cal2, ph, oc2)) 1 (((mops atm (n, own, out, bnd, cal2, ph, oc2) 1) + (mops atm (n, own, out, bnd, cal2, ph, oc2) 2)) % 10)) 1) (fun i => (un (mops atm (n, own, out, bnd, cal2, ph, oc2)) 1 (((mops atm (n, own, out, bnd, cal2, ph, oc2) 1) + (mops atm (n, own, out, bnd, cal2, ph, oc2) 2)) % 10)) (1 + i)) _ (by rw [q2, un_ne _ _ (by decide)]) (show mstep prm siz atm (n, own, out, bnd, cal2, ph, oc2) = _ from (by unfold mstep; show mdo (mact prm (siz (own n)) _) (mar _ (mfst (siz (own n)) _)) _ = _; rw [hs4]; exact mact_add rfl a1 a0 a2)) (by rw [un_ne _ _ (by decide)]; exact hO 3 (by omega)) (by omega) (fun i hi => mv_add ⟨by omega, by omega⟩ a1 (by omega)) (fun _ => rfl) (un0_small hag4 (by omega))
                      | exact hc195 (mops atm (n, own, out, bnd, cal2, ph, oc2) 2) 0 (ag1 1) (mops atm (n, own, out, bnd, cal2, ph, oc2) 1) (fun i => mops atm (n, own, out, bnd, cal2, ph, oc2) (1 + i)) ag1 q1 (show mstep prm siz atm (n, own, out, bnd, cal2, ph, oc2) = _ from (by unfold mstep; show mdo (mact prm (siz (own n)) _) (mar _ (mfst (siz (own n)) _)) _ = _; rw [hs4]; exact mact_if rfl a1 a0 (if_pos (by omega)).symm)) (hO 2 (by omega)) (by omega) (fun i hi => absurd hi (Nat.not_lt_zero i)) (fun q => absurd q (by decide)) hag4
                      | exact hc195 (mops atm (n, own, out, bnd, cal2, ph, oc2) 3) 0 (ag1 2) (mops atm (n, own, out, bnd, cal2, ph, oc2) 1) (fun i => mops atm (n, own, out, bnd, cal2, ph, oc2) (1 + i)) ag1 q2 (show mstep prm siz atm (n, own, out, bnd, cal2, ph, oc2) = _ from (by unfold mstep; show mdo (mact prm (siz (own n)) _) (mar _ (mfst (siz (own n)) _)) _ = _; rw [hs4]; exact mact_if rfl a1 a0 (if_neg (by omega)).symm)) (hO 3 (by omega)) (by omega) (fun i hi => absurd hi (Nat.not_lt_zero i)) (fun q => absurd q (by decide)) hag4
                      | exact hc195 (mops atm (n, own, out, bnd, cal2, ph, oc2) 0) (siz (own n) - 1) (enc (mops atm (n, own, out, bnd, cal2, ph, oc2) 0)) (mops atm (n, own, out, bnd, cal2, ph, oc2) 1) (fun i => mops atm (n, own, out, bnd, cal2, ph, oc2) (1 + i)) ag1 rfl (mv_oth hzp (fun q => g165 (by rw [q0]; exact (EE 1 (by omega)).1.mpr q.1.2)) hN2) (hO 0 hzp) (by omega) (fun i hi => hgg i hi) (fun _ => rfl) hag4
                      | exact hc195 (mops atm (n, own, out, bnd, cal2, ph, oc2) 0) (siz (own n) - 1) (enc (mops atm (n, own, out, bnd, cal2, ph, oc2) 0)) (mops atm (n, own, out, bnd, cal2, ph, oc2) 1) (fun i => mops atm (n, own, out, bnd, cal2, ph, oc2) (1 + i)) ag1 rfl (mv_oth hzp (fun q => h153 q.1.1) hN2) (hO 0 hzp) (by omega) (fun i hi => hgg i hi) (fun _ => rfl) hag4
                      | exact hc195 (mops atm (n, own, out, bnd, cal2, ph, oc2) 0) (siz (own n) - 1) (enc (mops atm (n, own, out, bnd, cal2, ph, oc2) 0)) (mops atm (n, own, out, bnd, cal2, ph, oc2) 1) (fun i => mops atm (n, own, out, bnd, cal2, ph, oc2) (1 + i)) ag1 rfl (mv_oth hzp (fun q => h148 ((EE 0 hzp).2.2.2.2.1.mpr q.2)) hN2) (hO 0 hzp) (by omega) (fun i hi => hgg i hi) (fun _ => rfl) hag4
          refine x_iload_n (pc := 74) d_R_move_74 1 rfl ?_
          refine x_sipush (pc := 75) (nI 301) d_R_move_75 (by decide) ?_
          first | refine x_icmp_neN (pc := 78) (tgt := 144) d_R_move_78 rfl (by omega) (by omega) ?_ ?_ | refine x_icmp_ne (pc := 78) (tgt := 144) d_R_move_78 rfl ?_ ?_
          · intro h78
            refine x_sub [1, 2, 3] _ rfl ?_
            first
              | exact hc144 (fun q => g107 (by rw [q1]; exact (EE 2 (by omega)).1.mpr q.2))
              | exact hc144 (fun q => g95 (by rw [q0]; exact (EE 1 (by omega)).1.mpr q.1.1.2))
              | exact hc144 (fun q => h83 q.1.1.1)
              | exact hc144 (fun q => h78 ((EE 0 hzp).2.2.2.1.mpr q.1.2))
          · intro h78
            refine x_iload_n (pc := 81) d_R_move_81 2 rfl ?_
            refine x_iconst (pc := 82) (nI 3) d_R_move_82 (by decide) ?_
            first | refine x_icmp_neN (pc := 83) (tgt := 144) d_R_move_83 rfl (by omega) (by omega) ?_ ?_ | refine x_icmp_ne (pc := 83) (tgt := 144) d_R_move_83 rfl ?_ ?_
            · intro h83
              refine x_sub [1, 2, 3] _ rfl ?_
              first
                | exact hc144 (fun q => g107 (by rw [q1]; exact (EE 2 (by omega)).1.mpr q.2))
                | exact hc144 (fun q => g95 (by rw [q0]; exact (EE 1 (by omega)).1.mpr q.1.1.2))
                | exact hc144 (fun q => h83 q.1.1.1)
                | exact hc144 (fun q => h78 ((EE 0 hzp).2.2.2.1.mpr q.1.2))
            · intro h83
              have q0 : ag1 0 = enc (mops atm (n, own, out, bnd, cal2, ph, oc2) 1) := hgg 0 (by omega)
              have q1 : ag1 1 = enc (mops atm (n, own, out, bnd, cal2, ph, oc2) 2) := hgg 1 (by omega)
              have q2 : ag1 2 = enc (mops atm (n, own, out, bnd, cal2, ph, oc2) 3) := hgg 2 (by omega)
              refine x_aload_n (pc := 86) d_R_move_86 3 rfl ?_
              refine x_get (pc := 87) (ci := 4) d_R_move_87 in_R rfl 14 (by decide) k_R_38 0 rfl rfl ?_
              refine x_iconst (pc := 90) (nI 0) d_R_move_90 (by decide) ?_
              refine x_ialdN (pc := 91) d_R_move_91 9 0 rfl rfl (by omega) (by omega) ?_
              refine x_callS_I (pc := 92) d_R_move_92 k_R_95 ws_R_isNumber w_R_isNumber ini_R wd_R_isNumber ⟨by decide, by decide⟩ ⟨rfl, rfl⟩ ⟨Nat.zero_le _, Nat.zero_le _⟩ (t_R_isNumber (by omega)) rfl rfl (Nat.le_of_ble_eq_true rfl) ?_
              first | refine x_if_eqB (pc := 95) (tgt := 144) d_R_move_95 rfl ?_ ?_ | refine x_if_eqL (pc := 95) (tgt := 144) d_R_move_95 rfl ?_ ?_ | refine x_if_eqN (pc := 95) (tgt := 144) d_R_move_95 rfl (by omega) ?_ ?_ | refine x_if_eq (pc := 95) (tgt := 144) d_R_move_95 rfl ?_ ?_
              · intro h95
                have g95 := of_decide_eq_false h95
                refine x_sub [1, 2, 3] _ rfl ?_
                first
                  | exact hc144 (fun q => g107 (by rw [q1]; exact (EE 2 (by omega)).1.mpr q.2))
                  | exact hc144 (fun q => g95 (by rw [q0]; exact (EE 1 (by omega)).1.mpr q.1.1.2))
                  | exact hc144 (fun q => h83 q.1.1.1)
                  | exact hc144 (fun q => h78 ((EE 0 hzp).2.2.2.1.mpr q.1.2))
              · intro h95
                have g95 := of_decide_eq_true h95
                refine x_aload_n (pc := 98) d_R_move_98 3 rfl ?_
                refine x_get (pc := 99) (ci := 4) d_R_move_99 in_R rfl 14 (by decide) k_R_38 0 rfl rfl ?_
                refine x_iconst (pc := 102) (nI 1) d_R_move_102 (by decide) ?_
                refine x_ialdN (pc := 103) d_R_move_103 9 0 rfl rfl (by omega) (by omega) ?_
                refine x_callS_I (pc := 104) d_R_move_104 k_R_95 ws_R_isNumber w_R_isNumber ini_R wd_R_isNumber ⟨by decide, by decide⟩ ⟨rfl, rfl⟩ ⟨Nat.zero_le _, Nat.zero_le _⟩ (t_R_isNumber (by omega)) rfl rfl (Nat.le_of_ble_eq_true rfl) ?_
                first | refine x_if_eqB (pc := 107) (tgt := 144) d_R_move_107 rfl ?_ ?_ | refine x_if_eqL (pc := 107) (tgt := 144) d_R_move_107 rfl ?_ ?_ | refine x_if_eqN (pc := 107) (tgt := 144) d_R_move_107 rfl (by omega) ?_ ?_ | refine x_if_eq (pc := 107) (tgt := 144) d_R_move_107 rfl ?_ ?_
                · intro h107
                  have g107 := of_decide_eq_false h107
                  refine x_sub [1, 2, 3] _ rfl ?_
                  first
                    | exact hc144 (fun q => g107 (by rw [q1]; exact (EE 2 (by omega)).1.mpr q.2))
                    | exact hc144 (fun q => g95 (by rw [q0]; exact (EE 1 (by omega)).1.mpr q.1.1.2))
                    | exact hc144 (fun q => h83 q.1.1.1)
                    | exact hc144 (fun q => h78 ((EE 0 hzp).2.2.2.1.mpr q.1.2))
                · intro h107
                  have g107 := of_decide_eq_true h107
                  have a0 := (EE 0 hzp).2.2.2.1.mp h78
                  have a1 := (EE 1 (by omega)).1.mp (by rw [← q0]; exact g95)
                  have a2 := (EE 2 (by omega)).1.mp (by rw [← q1]; exact g107)
                  have b1 := (EE 1 (by omega)).2.2.2.2.2.2.1 a1
                  have b2 := (EE 2 (by omega)).2.2.2.2.2.2.1 a2
                  have hs4 : siz (own n) = 3 + 1 := by omega
                  refine x_aload_n (pc := 110) d_R_move_110 3 rfl ?_
                  refine x_get (pc := 111) (ci := 4) d_R_move_111 in_R rfl 14 (by decide) k_R_38 0 rfl rfl ?_
                  refine x_iconst (pc := 114) (nI 2) d_R_move_114 (by decide) ?_
                  refine x_ialdN (pc := 115) d_R_move_115 9 0 rfl rfl (by omega) (by omega) ?_
                  refine x_istore_n (pc := 116) d_R_move_116 rfl (by decide) [(2, _), (3, _), (1, _), (0, _)] rfl ?_
                  refine x_aload_n (pc := 117) d_R_move_117 3 rfl ?_
                  refine x_get (pc := 118) (ci := 4) d_R_move_118 in_R rfl 14 (by decide) k_R_38 0 rfl rfl ?_
                  refine x_iconst (pc := 121) (nI 0) d_R_move_121 (by decide) ?_
                  refine x_aload_n (pc := 122) d_R_move_122 3 rfl ?_
                  refine x_get (pc := 123) (ci := 4) d_R_move_123 in_R rfl 14 (by decide) k_R_38 0 rfl rfl ?_
                  refine x_iconst (pc := 126) (nI 0) d_R_move_126 (by decide) ?_
                  refine x_ialdN (pc := 127) d_R_move_127 9 0 rfl rfl (by omega) (by omega) ?_
                  refine x_aload_n (pc := 128) d_R_move_128 3 rfl ?_
                  refine x_get (pc := 129) (ci := 4) d_R_move_129 in_R rfl 14 (by decide) k_R_38 0 rfl rfl ?_
                  refine x_iconst (pc := 132) (nI 1) d_R_move_132 (by decide) ?_
                  refine x_ialdN (pc := 133) d_R_move_133 9 0 rfl rfl (by omega) (by omega) ?_
                  first | refine x_iaddN (pc := 134) d_R_move_134 ?_ | refine x_iadd (pc := 134) d_R_move_134 ?_
                  refine x_bipush (pc := 135) (nI 10) d_R_move_135 (by decide) ?_
                  first | refine x_iremN (pc := 137) d_R_move_137 (by omega) (by omega) (by omega) ?_ | refine x_irem (pc := 137) d_R_move_137 (by decide) ?_
                  first | refine x_iastU (pc := 138) d_R_move_138 9 0 rfl rfl (by omega) (by omega) ?_ | refine x_iastN (pc := 138) d_R_move_138 9 0 rfl rfl (by omega) (by omega) _ rfl ?_
                  refine x_iconst (pc := 139) (nI 1) d_R_move_139 (by decide) ?_
                  refine x_istore_n (pc := 140) d_R_move_140 rfl (by decide) [(1, _), (2, _), (3, _), (0, _)] rfl ?_
                  refine x_goto (pc := 141) (tgt := 195) d_R_move_141 rfl ?_
                  refine x_sub [1, 0, 3] _ rfl ?_
                  first
                    | exact hc195 ((un (mops atm (n, own, out, bnd, cal2, ph, oc2)) 1 (((mops atm (n, own, out, bnd, cal2, ph, oc2) 1) + (mops atm (n, own, out, bnd, cal2, ph, oc2) 2)) % 10)) 3) 1 (ag1 2) ((un (mops atm (n, own, out, bnd, cal2, ph, oc2)) 1 (((mops atm (n, own, out, bnd, cal2, ph, oc2) 1) + (mops atm (n, own, out, bnd, cal2, ph, oc2) 2)) % 10)) 1) (fun i => (un (mops atm (n, own, out, bnd, cal2, ph, oc2)) 1 (((mops atm (n, own, out, bnd, cal2, ph, oc2) 1) + (mops atm (n, own, out, bnd, cal2, ph, oc2) 2)) % 10)) (1 + i)) _ (by rw [q2, un_ne _ _ (by decide)]) (show mstep prm siz atm (n, own, out, bnd, cal2, ph, oc2) = _ from (by unfold mstep; show mdo (mact prm (siz (own n)) _) (mar _ (mfst (siz (own n)) _)) _ = _; rw [hs4]; exact mact_add rfl a1 a0 a2)) (by rw [un_ne _ _ (by decide)]; exact hO 3 (by omega)) (by omega) (fun i hi => mv_add ⟨by omega, by omega⟩ a1 (by omega)) (fun _ => rfl) (un0_small hag4 (by omega))
                    | exact hc195 (mops atm (n, own, out, bnd, cal2, ph, oc2) 2) 0 (ag1 1) (mops atm (n, own, out, bnd, cal2, ph, oc2) 1) (fun i => mops atm (n, own, out, bnd, cal2, ph, oc2) (1 + i)) ag1 q1 (show mstep prm siz atm (n, own, out, bnd, cal2, ph, oc2) = _ from (by unfold mstep; show mdo (mact prm (siz (own n)) _) (mar _ (mfst (siz (own n)) _)) _ = _; rw [hs4]; exact mact_if rfl a1 a0 (if_pos (by omega)).symm)) (hO 2 (by omega)) (by omega) (fun i hi => absurd hi (Nat.not_lt_zero i)) (fun q => absurd q (by decide)) hag4
                    | exact hc195 (mops atm (n, own, out, bnd, cal2, ph, oc2) 3) 0 (ag1 2) (mops atm (n, own, out, bnd, cal2, ph, oc2) 1) (fun i => mops atm (n, own, out, bnd, cal2, ph, oc2) (1 + i)) ag1 q2 (show mstep prm siz atm (n, own, out, bnd, cal2, ph, oc2) = _ from (by unfold mstep; show mdo (mact prm (siz (own n)) _) (mar _ (mfst (siz (own n)) _)) _ = _; rw [hs4]; exact mact_if rfl a1 a0 (if_neg (by omega)).symm)) (hO 3 (by omega)) (by omega) (fun i hi => absurd hi (Nat.not_lt_zero i)) (fun q => absurd q (by decide)) hag4
                    | exact hc195 (mops atm (n, own, out, bnd, cal2, ph, oc2) 0) (siz (own n) - 1) (enc (mops atm (n, own, out, bnd, cal2, ph, oc2) 0)) (mops atm (n, own, out, bnd, cal2, ph, oc2) 1) (fun i => mops atm (n, own, out, bnd, cal2, ph, oc2) (1 + i)) ag1 rfl (mv_oth hzp (fun q => g165 (by rw [q0]; exact (EE 1 (by omega)).1.mpr q.1.2)) hN2) (hO 0 hzp) (by omega) (fun i hi => hgg i hi) (fun _ => rfl) hag4
                    | exact hc195 (mops atm (n, own, out, bnd, cal2, ph, oc2) 0) (siz (own n) - 1) (enc (mops atm (n, own, out, bnd, cal2, ph, oc2) 0)) (mops atm (n, own, out, bnd, cal2, ph, oc2) 1) (fun i => mops atm (n, own, out, bnd, cal2, ph, oc2) (1 + i)) ag1 rfl (mv_oth hzp (fun q => h153 q.1.1) hN2) (hO 0 hzp) (by omega) (fun i hi => hgg i hi) (fun _ => rfl) hag4
                    | exact hc195 (mops atm (n, own, out, bnd, cal2, ph, oc2) 0) (siz (own n) - 1) (enc (mops atm (n, own, out, bnd, cal2, ph, oc2) 0)) (mops atm (n, own, out, bnd, cal2, ph, oc2) 1) (fun i => mops atm (n, own, out, bnd, cal2, ph, oc2) (1 + i)) ag1 rfl (mv_oth hzp (fun q => h148 ((EE 0 hzp).2.2.2.2.1.mpr q.2)) hN2) (hO 0 hzp) (by omega) (fun i hi => hgg i hi) (fun _ => rfl) hag4
        · intro h40
          refine x_aload_n (pc := 43) d_R_move_43 3 rfl ?_
          refine x_get (pc := 44) (ci := 4) d_R_move_44 in_R rfl 14 (by decide) k_R_38 0 rfl rfl ?_
          refine x_iload_n (pc := 47) d_R_move_47 0 rfl ?_
          refine x_aload_n (pc := 48) d_R_move_48 3 rfl ?_
          refine x_aload_n (pc := 49) d_R_move_49 3 rfl ?_
          refine x_get (pc := 50) (ci := 4) d_R_move_50 in_R rfl 4 (by decide) k_R_23 0 rfl rfl ?_
          refine x_iconst (pc := 53) (nI 4) d_R_move_53 (by decide) ?_
          refine x_aload_n (pc := 54) d_R_move_54 3 rfl ?_
          refine x_get (pc := 55) (ci := 4) d_R_move_55 in_R rfl 6 (by decide) k_R_78 0 rfl rfl ?_
          first | refine x_imulN (pc := 58) d_R_move_58 ?_ | refine x_imul (pc := 58) d_R_move_58 ?_
          refine x_iconst (pc := 59) (nI 1) d_R_move_59 (by decide) ?_
          first | refine x_iaddN (pc := 60) d_R_move_60 ?_ | refine x_iadd (pc := 60) d_R_move_60 ?_
          refine x_iload_n (pc := 61) d_R_move_61 0 rfl ?_
          first | refine x_iaddN (pc := 62) d_R_move_62 ?_ | refine x_iadd (pc := 62) d_R_move_62 ?_
          refine x_ialdN (pc := 63) d_R_move_63 4 0 rfl rfl (by omega) (by omega) ?_
          rw [show 4 * own n + 1 + i = 4 * own n + (1 + i) from Nat.add_assoc _ _ _]
          refine x_callV_I (pc := 64) (ci := 4) d_R_move_64 k_R_91 wi_R_valueOf wv_R_valueOf w_R_valueOf ini_R wd_R_valueOf ⟨by decide, by decide⟩ ⟨rfl, rfl⟩ ⟨Nat.zero_le _, Nat.zero_le _⟩ 0 rfl rfl (t_R_valueOf hw hs.1 hrr rfl (hA (1 + i) (by omega))) rfl rfl (Nat.le_of_ble_eq_true rfl) ?_
          first | refine x_iastU (pc := 67) d_R_move_67 9 0 rfl rfl (by omega) (by omega) ?_ | refine x_iastN (pc := 67) d_R_move_67 9 0 rfl rfl (by omega) (by omega) _ rfl ?_
          refine x_iincN (pc := 68) d_R_move_68 0 rfl (by decide) [(3, _), (2, _), (1, _), (0, _)] rfl ?_
          refine x_goto (pc := 71) (tgt := 38) d_R_move_71 rfl ?_
          refine x_sub [0, 1, 2, 3] _ rfl ?_
          refine x_w (w2 := (wR ad cI cL par prm siz atm cnt ph (own n) n n oc cal el eu ev (bst ag 0 (fun i => enc (mops atm (n, own, out, bnd, cal2, ph, oc2) (1 + i))) (i + 1)) an kk P Q S F R ch AP AQ)) (by rw [bst_s0]; rfl) ?_
          exact ih (i + 1) (by omega) (by omega)
    refine x_sub [0, 1, 2, 3] _ rfl ?_
    exact hlp ((siz (own n) - 1) + 1) 0 (by omega) (by omega)
end REF4
