section
variable {G : GG} {b L : Nat} {xs : Nat → Int32} {l : Launch} {h : Hp} {kc ks ax am : Nat}
set_option maxHeartbeats 4000000 in
set_option maxRecDepth 20000 in
theorem lc_say (hL : L ≤ 256) {i : Nat} (hi : i + 4 ≤ L) (hs : SYS G ax am h) (ih : ∀ h' : Hp, SYS G ax am h' → EL G b L xs l 1195 [some (.ref b), some (.ref ax), some (.ref am), some (.int (zI (i : Int)))] [] h' kc ks) : EL G b L xs l 188 [some (.ref b), some (.ref ax), some (.ref am), some (.int (zI (i : Int)))] [] h (kc + 12) (ks + 106) := by
  obtain ⟨A, N, K, F, P, T, V, O, im, IL, la, ma, ik, rfl, rfl, hA, hK, hW, hP, hT, hI, hq, hk, rfl⟩ := hs
  refine EL.aload_n (i := 1) dL_law_188 rfl rfl ?_
  refine EL.aload_n (i := 0) dL_law_189 rfl rfl ?_
  refine EL.iload_n (i := 3) dL_law_190 rfl rfl ?_
  refine EL.iconst dL_law_191 ?_
  refine EL.iadd dL_law_192 ?_
  refine EL.sld (i + 1) (by omega) (by omega) hL dL_law_193 ?_
  refine EL.callV (d := 29) (ci := 6) (M' := mX6_say) (as := [.int (zI (sc xs (i + 1)))]) (rest := []) ml_L_13 im_X6_say se_X6_say rfl co_X6_say dL_law_194 (hX6 hA _ _) (c_X6_say 26 hA hK hW hP hT (sc xs (i + 1)) (sc_in xs _)) (by decide) rfl rfl (Nat.le_of_ble_eq_true rfl) (Nat.zero_le _) (Nat.zero_le _) (fun v1 h1 q1 => ?_)
  obtain ⟨rfl, rfl⟩ := q1
  refine EL.sts (st' := [.int (zI (sayR K (sc xs (i + 1))))]) rfl ?_
  refine EL.aload_n (i := 2) dL_law_197 rfl rfl ?_
  refine EL.aload_n (i := 0) dL_law_198 rfl rfl ?_
  refine EL.iload_n (i := 3) dL_law_199 rfl rfl ?_
  refine EL.iconst dL_law_200 ?_
  refine EL.iadd dL_law_201 ?_
  refine EL.sld (i + 1) (by omega) (by omega) hL dL_law_202 ?_
  refine EL.callV (d := 29) (ci := 7) (M' := mX7_say) (as := [.int (zI (sc xs (i + 1)))]) (rest := [.int (zI (sayR K (sc xs (i + 1))))]) ml_L_17 im_X7_say se_X7_say rfl co_X7_say dL_law_203 (hX7 hA _ _) (c_X7_say 27 hA hK hW hP hT  (sc xs (i + 1)) (sc_in xs _)) (by decide) rfl rfl (Nat.le_of_ble_eq_true rfl) (Nat.zero_le _) (Nat.zero_le _) (fun v2 h2 q2 => ?_)
  obtain ⟨rfl, rfl⟩ := q2
  refine EL.sts (st' := [.int (zI (sayR K (sc xs (i + 1)))), .int (zI (sayR K (sc xs (i + 1))))]) rfl ?_
  refine EL.eqv (t := 1195) dL_law_206 (by decide) ?_
  exact EL.kle (by omega) (by omega) (ih _ ⟨A, N, sayK K (sc xs (i + 1)), F, P, T, V, O, im, IL, la, ma, ik, rfl, rfl, hA, sayK_W hK, hW, hP, hT, hI, hq, hk, rfl⟩)
set_option maxHeartbeats 4000000 in
set_option maxRecDepth 20000 in
theorem lc_wipe (hL : L ≤ 256) {i : Nat} (hi : i + 4 ≤ L) (hs : SYS G ax am h) (ih : ∀ h' : Hp, SYS G ax am h' → EL G b L xs l 1195 [some (.ref b), some (.ref ax), some (.ref am), some (.int (zI (i : Int)))] [] h' kc ks) : EL G b L xs l 211 [some (.ref b), some (.ref ax), some (.ref am), some (.int (zI (i : Int)))] [] h (kc + 12) (ks + 106) := by
  obtain ⟨A, N, K, F, P, T, V, O, im, IL, la, ma, ik, rfl, rfl, hA, hK, hW, hP, hT, hI, hq, hk, rfl⟩ := hs
  refine EL.aload_n (i := 1) dL_law_211 rfl rfl ?_
  refine EL.callV (d := 29) (ci := 6) (M' := mX6_wipe) (as := []) (rest := []) ml_L_18 im_X6_wipe se_X6_wipe rfl co_X6_wipe dL_law_212 (hX6 hA _ _) (c_X6_wipe 28 hA hK hW hP hT  ) (by decide) rfl rfl (Nat.le_of_ble_eq_true rfl) (Nat.zero_le _) (Nat.zero_le _) (fun v1 h1 q1 => ?_)
  obtain ⟨rfl, rfl⟩ := q1
  refine EL.sts (st' := [.int (zI ((K.1 : Int)))]) rfl ?_
  refine EL.aload_n (i := 2) dL_law_215 rfl rfl ?_
  refine EL.callV (d := 29) (ci := 7) (M' := mX7_wipe) (as := []) (rest := [.int (zI ((K.1 : Int)))]) ml_L_22 im_X7_wipe se_X7_wipe rfl co_X7_wipe dL_law_216 (hX7 hA _ _) (c_X7_wipe 28 hA hK hW hP hT   ) (by decide) rfl rfl (Nat.le_of_ble_eq_true rfl) (Nat.zero_le _) (Nat.zero_le _) (fun v2 h2 q2 => ?_)
  obtain ⟨rfl, rfl⟩ := q2
  refine EL.sts (st' := [.int (zI ((K.1 : Int))), .int (zI ((K.1 : Int)))]) rfl ?_
  refine EL.eqv (t := 1195) dL_law_219 (by decide) ?_
  exact EL.kle (by omega) (by omega) (ih _ ⟨A, N, (0, K.2), F, P, T, V, O, im, IL, la, ma, ik, rfl, rfl, hA, WFK_0 _, hW, hP, hT, hI, hq, hk, rfl⟩)
set_option maxHeartbeats 4000000 in
set_option maxRecDepth 20000 in
theorem lc_fault (hL : L ≤ 256) {i : Nat} (hi : i + 4 ≤ L) (hs : SYS G ax am h) (ih : ∀ h' : Hp, SYS G ax am h' → EL G b L xs l 1195 [some (.ref b), some (.ref ax), some (.ref am), some (.int (zI (i : Int)))] [] h' kc ks) : EL G b L xs l 224 [some (.ref b), some (.ref ax), some (.ref am), some (.int (zI (i : Int)))] [] h (kc + 12) (ks + 106) := by
  obtain ⟨A, N, K, F, P, T, V, O, im, IL, la, ma, ik, rfl, rfl, hA, hK, hW, hP, hT, hI, hq, hk, rfl⟩ := hs
  refine EL.aload_n (i := 1) dL_law_224 rfl rfl ?_
  refine EL.aload_n (i := 0) dL_law_225 rfl rfl ?_
  refine EL.iload_n (i := 3) dL_law_226 rfl rfl ?_
  refine EL.iconst dL_law_227 ?_
  refine EL.iadd dL_law_228 ?_
  refine EL.sld (i + 1) (by omega) (by omega) hL dL_law_229 ?_
  refine EL.callV (d := 29) (ci := 6) (M' := mX6_fault) (as := [.int (zI (sc xs (i + 1)))]) (rest := []) ml_L_23 im_X6_fault se_X6_fault rfl co_X6_fault dL_law_230 (hX6 hA _ _) (c_X6_fault 25 hA hK hW hP hT (sc xs (i + 1)) (sc_in xs _)) (by decide) rfl rfl (Nat.le_of_ble_eq_true rfl) (Nat.zero_le _) (Nat.zero_le _) (fun v1 h1 q1 => ?_)
  obtain ⟨rfl, rfl⟩ := q1
  refine EL.sts (st' := [.int (zI (faultR K (sc xs (i + 1))))]) rfl ?_
  refine EL.aload_n (i := 2) dL_law_233 rfl rfl ?_
  refine EL.aload_n (i := 0) dL_law_234 rfl rfl ?_
  refine EL.iload_n (i := 3) dL_law_235 rfl rfl ?_
  refine EL.iconst dL_law_236 ?_
  refine EL.iadd dL_law_237 ?_
  refine EL.sld (i + 1) (by omega) (by omega) hL dL_law_238 ?_
  refine EL.callV (d := 29) (ci := 7) (M' := mX7_fault) (as := [.int (zI (sc xs (i + 1)))]) (rest := [.int (zI (faultR K (sc xs (i + 1))))]) ml_L_26 im_X7_fault se_X7_fault rfl co_X7_fault dL_law_239 (hX7 hA _ _) (c_X7_fault 25 (hMod hA) hW hK hP hT (sc xs (i + 1)) (sc_in xs _)) (by decide) rfl rfl (Nat.le_of_ble_eq_true rfl) (Nat.zero_le _) (Nat.zero_le _) (fun v2 h2 q2 => ?_)
  obtain ⟨rfl, rfl⟩ := q2
  refine EL.sts (st' := [.int (zI (faultR K (sc xs (i + 1)))), .int (zI (faultR K (sc xs (i + 1))))]) rfl ?_
  refine EL.eqv (t := 1195) dL_law_242 (by decide) ?_
  exact EL.kle (by omega) (by omega) (ih _ ⟨A, N, K, F, P, T, V, O, im, IL, la, ma, ik, rfl, rfl, hA, hK, hW, hP, hT, hI, hq, hk, rfl⟩)
set_option maxHeartbeats 4000000 in
set_option maxRecDepth 20000 in
theorem lc_born (hL : L ≤ 256) {i : Nat} (hi : i + 4 ≤ L) (hs : SYS G ax am h) (ih : ∀ h' : Hp, SYS G ax am h' → EL G b L xs l 1195 [some (.ref b), some (.ref ax), some (.ref am), some (.int (zI (i : Int)))] [] h' kc ks) : EL G b L xs l 247 [some (.ref b), some (.ref ax), some (.ref am), some (.int (zI (i : Int)))] [] h (kc + 12) (ks + 106) := by
  obtain ⟨A, N, K, F, P, T, V, O, im, IL, la, ma, ik, rfl, rfl, hA, hK, hW, hP, hT, hI, hq, hk, rfl⟩ := hs
  refine EL.aload_n (i := 1) dL_law_247 rfl rfl ?_
  refine EL.aload_n (i := 0) dL_law_248 rfl rfl ?_
  refine EL.iload_n (i := 3) dL_law_249 rfl rfl ?_
  refine EL.iconst dL_law_250 ?_
  refine EL.iadd dL_law_251 ?_
  refine EL.sld (i + 1) (by omega) (by omega) hL dL_law_252 ?_
  refine EL.aload_n (i := 0) dL_law_253 rfl rfl ?_
  refine EL.iload_n (i := 3) dL_law_254 rfl rfl ?_
  refine EL.iconst dL_law_255 ?_
  refine EL.iadd dL_law_256 ?_
  refine EL.sld (i + 2) (by omega) (by omega) hL dL_law_257 ?_
  refine EL.callV (d := 29) (ci := 6) (M' := mX6_born) (as := [.int (zI (sc xs (i + 1))), .int (zI (sc xs (i + 2)))]) (rest := []) ml_L_27 im_X6_born se_X6_born rfl co_X6_born dL_law_258 (hX6 hA _ _) (c_X6_born 25 hA hK hW hP hT (sc xs (i + 1)) (sc xs (i + 2)) (sc_in xs _) (sc_in xs _)) (by decide) rfl rfl (Nat.le_of_ble_eq_true rfl) (Nat.zero_le _) (Nat.zero_le _) (fun v1 h1 q1 => ?_)
  obtain ⟨rfl, rfl⟩ := q1
  refine EL.sts (st' := [.int (zI (bornR K (sc xs (i + 1)) (sc xs (i + 2))))]) rfl ?_
  refine EL.aload_n (i := 2) dL_law_261 rfl rfl ?_
  refine EL.aload_n (i := 0) dL_law_262 rfl rfl ?_
  refine EL.iload_n (i := 3) dL_law_263 rfl rfl ?_
  refine EL.iconst dL_law_264 ?_
  refine EL.iadd dL_law_265 ?_
  refine EL.sld (i + 1) (by omega) (by omega) hL dL_law_266 ?_
  refine EL.aload_n (i := 0) dL_law_267 rfl rfl ?_
  refine EL.iload_n (i := 3) dL_law_268 rfl rfl ?_
  refine EL.iconst dL_law_269 ?_
  refine EL.iadd dL_law_270 ?_
  refine EL.sld (i + 2) (by omega) (by omega) hL dL_law_271 ?_
  refine EL.callV (d := 29) (ci := 7) (M' := mX7_born) (as := [.int (zI (sc xs (i + 1))), .int (zI (sc xs (i + 2)))]) (rest := [.int (zI (bornR K (sc xs (i + 1)) (sc xs (i + 2))))]) ml_L_31 im_X7_born se_X7_born rfl co_X7_born dL_law_272 (hX7 hA _ _) (c_X7_born 25 hA hK hW hP hT  (sc xs (i + 1)) (sc xs (i + 2)) (sc_in xs _) (sc_in xs _)) (by decide) rfl rfl (Nat.le_of_ble_eq_true rfl) (Nat.zero_le _) (Nat.zero_le _) (fun v2 h2 q2 => ?_)
  obtain ⟨rfl, rfl⟩ := q2
  refine EL.sts (st' := [.int (zI (bornR K (sc xs (i + 1)) (sc xs (i + 2)))), .int (zI (bornR K (sc xs (i + 1)) (sc xs (i + 2))))]) rfl ?_
  refine EL.eqv (t := 1195) dL_law_275 (by decide) ?_
  exact EL.kle (by omega) (by omega) (ih _ ⟨A, N, if bornD K (sc xs (i + 1)) (sc xs (i + 2)) then (0, K.2) else K, if bornD K (sc xs (i + 1)) (sc xs (i + 2)) then bornF F ((sc xs (i + 1))).toNat (sc xs (i + 2)) K else F, P, T, V, O, im, IL, la, ma, ik, rfl, rfl, hA, bornK_W hK, bornD_F hW, hP, hT, hI, hq, hk, rfl⟩)
set_option maxHeartbeats 4000000 in
set_option maxRecDepth 20000 in
theorem lc_exile (hL : L ≤ 256) {i : Nat} (hi : i + 4 ≤ L) (hs : SYS G ax am h) (ih : ∀ h' : Hp, SYS G ax am h' → EL G b L xs l 1195 [some (.ref b), some (.ref ax), some (.ref am), some (.int (zI (i : Int)))] [] h' kc ks) : EL G b L xs l 280 [some (.ref b), some (.ref ax), some (.ref am), some (.int (zI (i : Int)))] [] h (kc + 12) (ks + 106) := by
  obtain ⟨A, N, K, F, P, T, V, O, im, IL, la, ma, ik, rfl, rfl, hA, hK, hW, hP, hT, hI, hq, hk, rfl⟩ := hs
  refine EL.aload_n (i := 1) dL_law_280 rfl rfl ?_
  refine EL.aload_n (i := 0) dL_law_281 rfl rfl ?_
  refine EL.iload_n (i := 3) dL_law_282 rfl rfl ?_
  refine EL.iconst dL_law_283 ?_
  refine EL.iadd dL_law_284 ?_
  refine EL.sld (i + 1) (by omega) (by omega) hL dL_law_285 ?_
  refine EL.callV (d := 29) (ci := 6) (M' := mX6_exile) (as := [.int (zI (sc xs (i + 1)))]) (rest := []) ml_L_32 im_X6_exile se_X6_exile rfl co_X6_exile dL_law_286 (hX6 hA _ _) (c_X6_exile 25 hA hK hW hP hT (sc xs (i + 1)) (sc_in xs _)) (by decide) rfl rfl (Nat.le_of_ble_eq_true rfl) (Nat.zero_le _) (Nat.zero_le _) (fun v1 h1 q1 => ?_)
  obtain ⟨rfl, rfl⟩ := q1
  refine EL.sts (st' := [.int (zI (exR F (sc xs (i + 1))))]) rfl ?_
  refine EL.aload_n (i := 2) dL_law_289 rfl rfl ?_
  refine EL.aload_n (i := 0) dL_law_290 rfl rfl ?_
  refine EL.iload_n (i := 3) dL_law_291 rfl rfl ?_
  refine EL.iconst dL_law_292 ?_
  refine EL.iadd dL_law_293 ?_
  refine EL.sld (i + 1) (by omega) (by omega) hL dL_law_294 ?_
  refine EL.callV (d := 29) (ci := 7) (M' := mX7_exile) (as := [.int (zI (sc xs (i + 1)))]) (rest := [.int (zI (exR F (sc xs (i + 1))))]) ml_L_35 im_X7_exile se_X7_exile rfl co_X7_exile dL_law_295 (hX7 hA _ _) (c_X7_exile 26 hA hK hW hP hT  (sc xs (i + 1)) (sc_in xs _)) (by decide) rfl rfl (Nat.le_of_ble_eq_true rfl) (Nat.zero_le _) (Nat.zero_le _) (fun v2 h2 q2 => ?_)
  obtain ⟨rfl, rfl⟩ := q2
  refine EL.sts (st' := [.int (zI (exR F (sc xs (i + 1)))), .int (zI (exR F (sc xs (i + 1))))]) rfl ?_
  refine EL.eqv (t := 1195) dL_law_298 (by decide) ?_
  exact EL.kle (by omega) (by omega) (ih _ ⟨A, N, K, exF F (sc xs (i + 1)), P, T, V, O, im, IL, la, ma, ik, rfl, rfl, hA, hK, exF_W hW, hP, hT, hI, hq, hk, rfl⟩)
set_option maxHeartbeats 4000000 in
set_option maxRecDepth 20000 in
theorem lc_plan (hL : L ≤ 256) {i : Nat} (hi : i + 4 ≤ L) (hs : SYS G ax am h) (ih : ∀ h' : Hp, SYS G ax am h' → EL G b L xs l 1195 [some (.ref b), some (.ref ax), some (.ref am), some (.int (zI (i : Int)))] [] h' kc ks) : EL G b L xs l 303 [some (.ref b), some (.ref ax), some (.ref am), some (.int (zI (i : Int)))] [] h (kc + 12) (ks + 106) := by
  obtain ⟨A, N, K, F, P, T, V, O, im, IL, la, ma, ik, rfl, rfl, hA, hK, hW, hP, hT, hI, hq, hk, rfl⟩ := hs
  refine EL.aload_n (i := 1) dL_law_303 rfl rfl ?_
  refine EL.callV (d := 29) (ci := 6) (M' := mX6_plan) (as := []) (rest := []) ml_L_36 im_X6_plan se_X6_plan rfl co_X6_plan dL_law_304 (hX6 hA _ _) (c_X6_plan 25 hA hK hW hP hT  ) (by decide) rfl rfl (Nat.le_of_ble_eq_true rfl) (Nat.zero_le _) (Nat.zero_le _) (fun v1 h1 q1 => ?_)
  obtain ⟨rfl, rfl⟩ := q1
  refine EL.sts (st' := [.int (zI (planR K P))]) rfl ?_
  refine EL.aload_n (i := 2) dL_law_307 rfl rfl ?_
  refine EL.callV (d := 29) (ci := 7) (M' := mX7_plan) (as := []) (rest := [.int (zI (planR K P))]) ml_L_39 im_X7_plan se_X7_plan rfl co_X7_plan dL_law_308 (hX7 hA _ _) (c_X7_plan 25 hA hK hW hP hT   ) (by decide) rfl rfl (Nat.le_of_ble_eq_true rfl) (Nat.zero_le _) (Nat.zero_le _) (fun v2 h2 q2 => ?_)
  obtain ⟨rfl, rfl⟩ := q2
  refine EL.sts (st' := [.int (zI (planR K P)), .int (zI (planR K P))]) rfl ?_
  refine EL.eqv (t := 1195) dL_law_311 (by decide) ?_
  exact EL.kle (by omega) (by omega) (ih _ ⟨A, N, planK K, F, planP K P, T, V, O, im, IL, la, ma, ik, rfl, rfl, hA, planK_W hK, hW, planP_W hP, hT, hI, hq, hk, rfl⟩)
set_option maxHeartbeats 4000000 in
set_option maxRecDepth 20000 in
theorem lc_today (hL : L ≤ 256) {i : Nat} (hi : i + 4 ≤ L) (hs : SYS G ax am h) (ih : ∀ h' : Hp, SYS G ax am h' → EL G b L xs l 1195 [some (.ref b), some (.ref ax), some (.ref am), some (.int (zI (i : Int)))] [] h' kc ks) : EL G b L xs l 316 [some (.ref b), some (.ref ax), some (.ref am), some (.int (zI (i : Int)))] [] h (kc + 12) (ks + 106) := by
  obtain ⟨A, N, K, F, P, T, V, O, im, IL, la, ma, ik, rfl, rfl, hA, hK, hW, hP, hT, hI, hq, hk, rfl⟩ := hs
  refine EL.aload_n (i := 1) dL_law_316 rfl rfl ?_
  refine EL.aload_n (i := 0) dL_law_317 rfl rfl ?_
  refine EL.iload_n (i := 3) dL_law_318 rfl rfl ?_
  refine EL.iconst dL_law_319 ?_
  refine EL.iadd dL_law_320 ?_
  refine EL.sld (i + 1) (by omega) (by omega) hL dL_law_321 ?_
  refine EL.aload_n (i := 0) dL_law_322 rfl rfl ?_
  refine EL.iload_n (i := 3) dL_law_323 rfl rfl ?_
  refine EL.iconst dL_law_324 ?_
  refine EL.iadd dL_law_325 ?_
  refine EL.sld (i + 2) (by omega) (by omega) hL dL_law_326 ?_
  refine EL.callV (d := 29) (ci := 6) (M' := mX6_today) (as := [.int (zI (sc xs (i + 1))), .int (zI (sc xs (i + 2)))]) (rest := []) ml_L_40 im_X6_today se_X6_today rfl co_X6_today dL_law_327 (hX6 hA _ _) (c_X6_today 25 hA hK hW hP hT (sc xs (i + 1)) (sc xs (i + 2)) (sc_in xs _) (sc_in xs _)) (by decide) rfl rfl (Nat.le_of_ble_eq_true rfl) (Nat.zero_le _) (Nat.zero_le _) (fun v1 h1 q1 => ?_)
  obtain ⟨rfl, rfl⟩ := q1
  refine EL.sts (st' := [.int (zI (todayR F (sc xs (i + 1)) (sc xs (i + 2))))]) rfl ?_
  refine EL.aload_n (i := 2) dL_law_330 rfl rfl ?_
  refine EL.aload_n (i := 0) dL_law_331 rfl rfl ?_
  refine EL.iload_n (i := 3) dL_law_332 rfl rfl ?_
  refine EL.iconst dL_law_333 ?_
  refine EL.iadd dL_law_334 ?_
  refine EL.sld (i + 1) (by omega) (by omega) hL dL_law_335 ?_
  refine EL.aload_n (i := 0) dL_law_336 rfl rfl ?_
  refine EL.iload_n (i := 3) dL_law_337 rfl rfl ?_
  refine EL.iconst dL_law_338 ?_
  refine EL.iadd dL_law_339 ?_
  refine EL.sld (i + 2) (by omega) (by omega) hL dL_law_340 ?_
  refine EL.callV (d := 29) (ci := 7) (M' := mX7_today) (as := [.int (zI (sc xs (i + 1))), .int (zI (sc xs (i + 2)))]) (rest := [.int (zI (todayR F (sc xs (i + 1)) (sc xs (i + 2))))]) ml_L_43 im_X7_today se_X7_today rfl co_X7_today dL_law_341 (hX7 hA _ _) (c_X7_today 26 (hMod hA) hW hK hP hT (sc xs (i + 1)) (sc xs (i + 2)) (sc_in xs _) (sc_in xs _)) (by decide) rfl rfl (Nat.le_of_ble_eq_true rfl) (Nat.zero_le _) (Nat.zero_le _) (fun v2 h2 q2 => ?_)
  obtain ⟨rfl, rfl⟩ := q2
  refine EL.sts (st' := [.int (zI (todayR F (sc xs (i + 1)) (sc xs (i + 2)))), .int (zI (todayR F (sc xs (i + 1)) (sc xs (i + 2))))]) rfl ?_
  refine EL.eqv (t := 1195) dL_law_344 (by decide) ?_
  exact EL.kle (by omega) (by omega) (ih _ ⟨A, N, K, F, P, T, V, O, im, IL, la, ma, ik, rfl, rfl, hA, hK, hW, hP, hT, hI, hq, hk, rfl⟩)
set_option maxHeartbeats 4000000 in
set_option maxRecDepth 20000 in
theorem lc_same (hL : L ≤ 256) {i : Nat} (hi : i + 4 ≤ L) (hs : SYS G ax am h) (ih : ∀ h' : Hp, SYS G ax am h' → EL G b L xs l 1195 [some (.ref b), some (.ref ax), some (.ref am), some (.int (zI (i : Int)))] [] h' kc ks) : EL G b L xs l 349 [some (.ref b), some (.ref ax), some (.ref am), some (.int (zI (i : Int)))] [] h (kc + 12) (ks + 106) := by
  obtain ⟨A, N, K, F, P, T, V, O, im, IL, la, ma, ik, rfl, rfl, hA, hK, hW, hP, hT, hI, hq, hk, rfl⟩ := hs
  refine EL.aload_n (i := 1) dL_law_349 rfl rfl ?_
  refine EL.aload_n (i := 0) dL_law_350 rfl rfl ?_
  refine EL.iload_n (i := 3) dL_law_351 rfl rfl ?_
  refine EL.iconst dL_law_352 ?_
  refine EL.iadd dL_law_353 ?_
  refine EL.sld (i + 1) (by omega) (by omega) hL dL_law_354 ?_
  refine EL.aload_n (i := 0) dL_law_355 rfl rfl ?_
  refine EL.iload_n (i := 3) dL_law_356 rfl rfl ?_
  refine EL.iconst dL_law_357 ?_
  refine EL.iadd dL_law_358 ?_
  refine EL.sld (i + 2) (by omega) (by omega) hL dL_law_359 ?_
  refine EL.callV (d := 29) (ci := 6) (M' := mX6_same) (as := [.int (zI (sc xs (i + 1))), .int (zI (sc xs (i + 2)))]) (rest := []) ml_L_44 im_X6_same se_X6_same rfl co_X6_same dL_law_360 (hX6 hA _ _) (c_X6_same 25 hA hK hW hP hT (sc xs (i + 1)) (sc xs (i + 2)) (sc_in xs _) (sc_in xs _)) (by decide) rfl rfl (Nat.le_of_ble_eq_true rfl) (Nat.zero_le _) (Nat.zero_le _) (fun v1 h1 q1 => ?_)
  obtain ⟨rfl, rfl⟩ := q1
  refine EL.sts (st' := [.int (zI (sameR F (sc xs (i + 1)) (sc xs (i + 2))))]) rfl ?_
  refine EL.aload_n (i := 2) dL_law_363 rfl rfl ?_
  refine EL.aload_n (i := 0) dL_law_364 rfl rfl ?_
  refine EL.iload_n (i := 3) dL_law_365 rfl rfl ?_
  refine EL.iconst dL_law_366 ?_
  refine EL.iadd dL_law_367 ?_
  refine EL.sld (i + 1) (by omega) (by omega) hL dL_law_368 ?_
  refine EL.aload_n (i := 0) dL_law_369 rfl rfl ?_
  refine EL.iload_n (i := 3) dL_law_370 rfl rfl ?_
  refine EL.iconst dL_law_371 ?_
  refine EL.iadd dL_law_372 ?_
  refine EL.sld (i + 2) (by omega) (by omega) hL dL_law_373 ?_
  refine EL.callV (d := 29) (ci := 7) (M' := mX7_same) (as := [.int (zI (sc xs (i + 1))), .int (zI (sc xs (i + 2)))]) (rest := [.int (zI (sameR F (sc xs (i + 1)) (sc xs (i + 2))))]) ml_L_47 im_X7_same se_X7_same rfl co_X7_same dL_law_374 (hX7 hA _ _) (c_X7_same 26 (hMod hA) hW hK hP hT (sc xs (i + 1)) (sc xs (i + 2)) (sc_in xs _) (sc_in xs _)) (by decide) rfl rfl (Nat.le_of_ble_eq_true rfl) (Nat.zero_le _) (Nat.zero_le _) (fun v2 h2 q2 => ?_)
  obtain ⟨rfl, rfl⟩ := q2
  refine EL.sts (st' := [.int (zI (sameR F (sc xs (i + 1)) (sc xs (i + 2)))), .int (zI (sameR F (sc xs (i + 1)) (sc xs (i + 2))))]) rfl ?_
  refine EL.eqv (t := 1195) dL_law_377 (by decide) ?_
  exact EL.kle (by omega) (by omega) (ih _ ⟨A, N, K, F, P, T, V, O, im, IL, la, ma, ik, rfl, rfl, hA, hK, hW, hP, hT, hI, hq, hk, rfl⟩)
set_option maxHeartbeats 4000000 in
set_option maxRecDepth 20000 in
theorem lc_next (hL : L ≤ 256) {i : Nat} (hi : i + 4 ≤ L) (hs : SYS G ax am h) (ih : ∀ h' : Hp, SYS G ax am h' → EL G b L xs l 1195 [some (.ref b), some (.ref ax), some (.ref am), some (.int (zI (i : Int)))] [] h' kc ks) : EL G b L xs l 382 [some (.ref b), some (.ref ax), some (.ref am), some (.int (zI (i : Int)))] [] h (kc + 12) (ks + 106) := by
  obtain ⟨A, N, K, F, P, T, V, O, im, IL, la, ma, ik, rfl, rfl, hA, hK, hW, hP, hT, hI, hq, hk, rfl⟩ := hs
  refine EL.aload_n (i := 1) dL_law_382 rfl rfl ?_
  refine EL.aload_n (i := 0) dL_law_383 rfl rfl ?_
  refine EL.iload_n (i := 3) dL_law_384 rfl rfl ?_
  refine EL.iconst dL_law_385 ?_
  refine EL.iadd dL_law_386 ?_
  refine EL.sld (i + 1) (by omega) (by omega) hL dL_law_387 ?_
  refine EL.aload_n (i := 0) dL_law_388 rfl rfl ?_
  refine EL.iload_n (i := 3) dL_law_389 rfl rfl ?_
  refine EL.iconst dL_law_390 ?_
  refine EL.iadd dL_law_391 ?_
  refine EL.sld (i + 2) (by omega) (by omega) hL dL_law_392 ?_
  refine EL.aload_n (i := 0) dL_law_393 rfl rfl ?_
  refine EL.iload_n (i := 3) dL_law_394 rfl rfl ?_
  refine EL.iconst dL_law_395 ?_
  refine EL.iadd dL_law_396 ?_
  refine EL.sld (i + 3) (by omega) (by omega) hL dL_law_397 ?_
  refine EL.callV (d := 29) (ci := 6) (M' := mX6_next) (as := [.int (zI (sc xs (i + 1))), .int (zI (sc xs (i + 2))), .int (zI (sc xs (i + 3)))]) (rest := []) ml_L_48 im_X6_next se_X6_next rfl co_X6_next dL_law_398 (hX6 hA _ _) (c_X6_next 25 hA hK hW hP hT (sc xs (i + 1)) (sc xs (i + 2)) (sc xs (i + 3)) (sc_in xs _) (sc_in xs _) (sc_in xs _)) (by decide) rfl rfl (Nat.le_of_ble_eq_true rfl) (Nat.zero_le _) (Nat.zero_le _) (fun v1 h1 q1 => ?_)
  obtain ⟨rfl, rfl⟩ := q1
  refine EL.sts (st' := [.int (zI (nextR F (sc xs (i + 1)) (sc xs (i + 2)) (sc xs (i + 3))))]) rfl ?_
  refine EL.aload_n (i := 2) dL_law_401 rfl rfl ?_
  refine EL.aload_n (i := 0) dL_law_402 rfl rfl ?_
  refine EL.iload_n (i := 3) dL_law_403 rfl rfl ?_
  refine EL.iconst dL_law_404 ?_
  refine EL.iadd dL_law_405 ?_
  refine EL.sld (i + 1) (by omega) (by omega) hL dL_law_406 ?_
  refine EL.aload_n (i := 0) dL_law_407 rfl rfl ?_
  refine EL.iload_n (i := 3) dL_law_408 rfl rfl ?_
  refine EL.iconst dL_law_409 ?_
  refine EL.iadd dL_law_410 ?_
  refine EL.sld (i + 2) (by omega) (by omega) hL dL_law_411 ?_
  refine EL.aload_n (i := 0) dL_law_412 rfl rfl ?_
  refine EL.iload_n (i := 3) dL_law_413 rfl rfl ?_
  refine EL.iconst dL_law_414 ?_
  refine EL.iadd dL_law_415 ?_
  refine EL.sld (i + 3) (by omega) (by omega) hL dL_law_416 ?_
  refine EL.callV (d := 29) (ci := 7) (M' := mX7_next) (as := [.int (zI (sc xs (i + 1))), .int (zI (sc xs (i + 2))), .int (zI (sc xs (i + 3)))]) (rest := [.int (zI (nextR F (sc xs (i + 1)) (sc xs (i + 2)) (sc xs (i + 3))))]) ml_L_52 im_X7_next se_X7_next rfl co_X7_next dL_law_417 (hX7 hA _ _) (c_X7_next 26 (hMod hA) hW hK hP hT (sc xs (i + 1)) (sc xs (i + 2)) (sc xs (i + 3)) (sc_in xs _) (sc_in xs _) (sc_in xs _)) (by decide) rfl rfl (Nat.le_of_ble_eq_true rfl) (Nat.zero_le _) (Nat.zero_le _) (fun v2 h2 q2 => ?_)
  obtain ⟨rfl, rfl⟩ := q2
  refine EL.sts (st' := [.int (zI (nextR F (sc xs (i + 1)) (sc xs (i + 2)) (sc xs (i + 3)))), .int (zI (nextR F (sc xs (i + 1)) (sc xs (i + 2)) (sc xs (i + 3))))]) rfl ?_
  refine EL.eqv (t := 1195) dL_law_420 (by decide) ?_
  exact EL.kle (by omega) (by omega) (ih _ ⟨A, N, K, F, P, T, V, O, im, IL, la, ma, ik, rfl, rfl, hA, hK, hW, hP, hT, hI, hq, hk, rfl⟩)
set_option maxHeartbeats 4000000 in
set_option maxRecDepth 20000 in
theorem lc_meet (hL : L ≤ 256) {i : Nat} (hi : i + 4 ≤ L) (hs : SYS G ax am h) (ih : ∀ h' : Hp, SYS G ax am h' → EL G b L xs l 1195 [some (.ref b), some (.ref ax), some (.ref am), some (.int (zI (i : Int)))] [] h' kc ks) : EL G b L xs l 425 [some (.ref b), some (.ref ax), some (.ref am), some (.int (zI (i : Int)))] [] h (kc + 12) (ks + 106) := by
  obtain ⟨A, N, K, F, P, T, V, O, im, IL, la, ma, ik, rfl, rfl, hA, hK, hW, hP, hT, hI, hq, hk, rfl⟩ := hs
  refine EL.aload_n (i := 1) dL_law_425 rfl rfl ?_
  refine EL.aload_n (i := 0) dL_law_426 rfl rfl ?_
  refine EL.iload_n (i := 3) dL_law_427 rfl rfl ?_
  refine EL.iconst dL_law_428 ?_
  refine EL.iadd dL_law_429 ?_
  refine EL.sld (i + 1) (by omega) (by omega) hL dL_law_430 ?_
  refine EL.aload_n (i := 0) dL_law_431 rfl rfl ?_
  refine EL.iload_n (i := 3) dL_law_432 rfl rfl ?_
  refine EL.iconst dL_law_433 ?_
  refine EL.iadd dL_law_434 ?_
  refine EL.sld (i + 2) (by omega) (by omega) hL dL_law_435 ?_
  refine EL.aload_n (i := 0) dL_law_436 rfl rfl ?_
  refine EL.iload_n (i := 3) dL_law_437 rfl rfl ?_
  refine EL.iconst dL_law_438 ?_
  refine EL.iadd dL_law_439 ?_
  refine EL.sld (i + 3) (by omega) (by omega) hL dL_law_440 ?_
  refine EL.callV (d := 29) (ci := 6) (M' := mX6_meet) (as := [.int (zI (sc xs (i + 1))), .int (zI (sc xs (i + 2))), .int (zI (sc xs (i + 3)))]) (rest := []) ml_L_53 im_X6_meet se_X6_meet rfl co_X6_meet dL_law_441 (hX6 hA _ _) (c_X6_meet 25 hA hK hW hP hT (sc xs (i + 1)) (sc xs (i + 2)) (sc xs (i + 3)) (sc_in xs _) (sc_in xs _) (sc_in xs _)) (by decide) rfl rfl (Nat.le_of_ble_eq_true rfl) (Nat.zero_le _) (Nat.zero_le _) (fun v1 h1 q1 => ?_)
  obtain ⟨rfl, rfl⟩ := q1
  refine EL.sts (st' := [.int (zI (meetR F (sc xs (i + 1)) (sc xs (i + 2)) (sc xs (i + 3))))]) rfl ?_
  refine EL.aload_n (i := 2) dL_law_444 rfl rfl ?_
  refine EL.aload_n (i := 0) dL_law_445 rfl rfl ?_
  refine EL.iload_n (i := 3) dL_law_446 rfl rfl ?_
  refine EL.iconst dL_law_447 ?_
  refine EL.iadd dL_law_448 ?_
  refine EL.sld (i + 1) (by omega) (by omega) hL dL_law_449 ?_
  refine EL.aload_n (i := 0) dL_law_450 rfl rfl ?_
  refine EL.iload_n (i := 3) dL_law_451 rfl rfl ?_
  refine EL.iconst dL_law_452 ?_
  refine EL.iadd dL_law_453 ?_
  refine EL.sld (i + 2) (by omega) (by omega) hL dL_law_454 ?_
  refine EL.aload_n (i := 0) dL_law_455 rfl rfl ?_
  refine EL.iload_n (i := 3) dL_law_456 rfl rfl ?_
  refine EL.iconst dL_law_457 ?_
  refine EL.iadd dL_law_458 ?_
  refine EL.sld (i + 3) (by omega) (by omega) hL dL_law_459 ?_
  refine EL.callV (d := 29) (ci := 7) (M' := mX7_meet) (as := [.int (zI (sc xs (i + 1))), .int (zI (sc xs (i + 2))), .int (zI (sc xs (i + 3)))]) (rest := [.int (zI (meetR F (sc xs (i + 1)) (sc xs (i + 2)) (sc xs (i + 3))))]) ml_L_56 im_X7_meet se_X7_meet rfl co_X7_meet dL_law_460 (hX7 hA _ _) (c_X7_meet 25 (hMod hA) hW hK hP hT (sc xs (i + 1)) (sc xs (i + 2)) (sc xs (i + 3)) (sc_in xs _) (sc_in xs _) (sc_in xs _)) (by decide) rfl rfl (Nat.le_of_ble_eq_true rfl) (Nat.zero_le _) (Nat.zero_le _) (fun v2 h2 q2 => ?_)
  obtain ⟨rfl, rfl⟩ := q2
  refine EL.sts (st' := [.int (zI (meetR F (sc xs (i + 1)) (sc xs (i + 2)) (sc xs (i + 3)))), .int (zI (meetR F (sc xs (i + 1)) (sc xs (i + 2)) (sc xs (i + 3))))]) rfl ?_
  refine EL.eqv (t := 1195) dL_law_463 (by decide) ?_
  exact EL.kle (by omega) (by omega) (ih _ ⟨A, N, K, F, P, T, V, O, im, IL, la, ma, ik, rfl, rfl, hA, hK, hW, hP, hT, hI, hq, hk, rfl⟩)
set_option maxHeartbeats 4000000 in
set_option maxRecDepth 20000 in
theorem lc_shared (hL : L ≤ 256) {i : Nat} (hi : i + 4 ≤ L) (hs : SYS G ax am h) (ih : ∀ h' : Hp, SYS G ax am h' → EL G b L xs l 1195 [some (.ref b), some (.ref ax), some (.ref am), some (.int (zI (i : Int)))] [] h' kc ks) : EL G b L xs l 468 [some (.ref b), some (.ref ax), some (.ref am), some (.int (zI (i : Int)))] [] h (kc + 12) (ks + 106) := by
  obtain ⟨A, N, K, F, P, T, V, O, im, IL, la, ma, ik, rfl, rfl, hA, hK, hW, hP, hT, hI, hq, hk, rfl⟩ := hs
  refine EL.aload_n (i := 1) dL_law_468 rfl rfl ?_
  refine EL.aload_n (i := 0) dL_law_469 rfl rfl ?_
  refine EL.iload_n (i := 3) dL_law_470 rfl rfl ?_
  refine EL.iconst dL_law_471 ?_
  refine EL.iadd dL_law_472 ?_
  refine EL.sld (i + 1) (by omega) (by omega) hL dL_law_473 ?_
  refine EL.aload_n (i := 0) dL_law_474 rfl rfl ?_
  refine EL.iload_n (i := 3) dL_law_475 rfl rfl ?_
  refine EL.iconst dL_law_476 ?_
  refine EL.iadd dL_law_477 ?_
  refine EL.sld (i + 2) (by omega) (by omega) hL dL_law_478 ?_
  refine EL.callV (d := 29) (ci := 6) (M' := mX6_shared) (as := [.int (zI (sc xs (i + 1))), .int (zI (sc xs (i + 2)))]) (rest := []) ml_L_57 im_X6_shared se_X6_shared rfl co_X6_shared dL_law_479 (hX6 hA _ _) (c_X6_shared 24 hA hK hW hP hT (sc xs (i + 1)) (sc xs (i + 2)) (sc_in xs _) (sc_in xs _)) (by decide) rfl rfl (Nat.le_of_ble_eq_true rfl) (Nat.zero_le _) (Nat.zero_le _) (fun v1 h1 q1 => ?_)
  obtain ⟨rfl, rfl⟩ := q1
  refine EL.sts (st' := [.int (zI (sharedR F (sc xs (i + 1)) (sc xs (i + 2))))]) rfl ?_
  refine EL.aload_n (i := 2) dL_law_482 rfl rfl ?_
  refine EL.aload_n (i := 0) dL_law_483 rfl rfl ?_
  refine EL.iload_n (i := 3) dL_law_484 rfl rfl ?_
  refine EL.iconst dL_law_485 ?_
  refine EL.iadd dL_law_486 ?_
  refine EL.sld (i + 1) (by omega) (by omega) hL dL_law_487 ?_
  refine EL.aload_n (i := 0) dL_law_488 rfl rfl ?_
  refine EL.iload_n (i := 3) dL_law_489 rfl rfl ?_
  refine EL.iconst dL_law_490 ?_
  refine EL.iadd dL_law_491 ?_
  refine EL.sld (i + 2) (by omega) (by omega) hL dL_law_492 ?_
  refine EL.callV (d := 29) (ci := 7) (M' := mX7_shared) (as := [.int (zI (sc xs (i + 1))), .int (zI (sc xs (i + 2)))]) (rest := [.int (zI (sharedR F (sc xs (i + 1)) (sc xs (i + 2))))]) ml_L_60 im_X7_shared se_X7_shared rfl co_X7_shared dL_law_493 (hX7 hA _ _) (c_X7_shared 25 (hMod hA) hW hK hP hT (sc xs (i + 1)) (sc xs (i + 2)) (sc_in xs _) (sc_in xs _)) (by decide) rfl rfl (Nat.le_of_ble_eq_true rfl) (Nat.zero_le _) (Nat.zero_le _) (fun v2 h2 q2 => ?_)
  obtain ⟨rfl, rfl⟩ := q2
  refine EL.sts (st' := [.int (zI (sharedR F (sc xs (i + 1)) (sc xs (i + 2)))), .int (zI (sharedR F (sc xs (i + 1)) (sc xs (i + 2))))]) rfl ?_
  refine EL.eqv (t := 1195) dL_law_496 (by decide) ?_
  exact EL.kle (by omega) (by omega) (ih _ ⟨A, N, K, F, P, T, V, O, im, IL, la, ma, ik, rfl, rfl, hA, hK, hW, hP, hT, hI, hq, hk, rfl⟩)
set_option maxHeartbeats 4000000 in
set_option maxRecDepth 20000 in
theorem lc_never (hL : L ≤ 256) {i : Nat} (hi : i + 4 ≤ L) (hs : SYS G ax am h) (ih : ∀ h' : Hp, SYS G ax am h' → EL G b L xs l 1195 [some (.ref b), some (.ref ax), some (.ref am), some (.int (zI (i : Int)))] [] h' kc ks) : EL G b L xs l 501 [some (.ref b), some (.ref ax), some (.ref am), some (.int (zI (i : Int)))] [] h (kc + 12) (ks + 106) := by
  obtain ⟨A, N, K, F, P, T, V, O, im, IL, la, ma, ik, rfl, rfl, hA, hK, hW, hP, hT, hI, hq, hk, rfl⟩ := hs
  refine EL.aload_n (i := 1) dL_law_501 rfl rfl ?_
  refine EL.aload_n (i := 0) dL_law_502 rfl rfl ?_
  refine EL.iload_n (i := 3) dL_law_503 rfl rfl ?_
  refine EL.iconst dL_law_504 ?_
  refine EL.iadd dL_law_505 ?_
  refine EL.sld (i + 1) (by omega) (by omega) hL dL_law_506 ?_
  refine EL.callV (d := 29) (ci := 6) (M' := mX6_never) (as := [.int (zI (sc xs (i + 1)))]) (rest := []) ml_L_61 im_X6_never se_X6_never rfl co_X6_never dL_law_507 (hX6 hA _ _) (c_X6_never 22 hA hK hW hP hT (sc xs (i + 1)) (sc_in xs _)) (by decide) rfl rfl (Nat.le_of_ble_eq_true rfl) (Nat.zero_le _) (Nat.zero_le _) (fun v1 h1 q1 => ?_)
  obtain ⟨rfl, rfl⟩ := q1
  refine EL.sts (st' := [.int (zI (prR (nvF F) (sc xs (i + 1))))]) rfl ?_
  refine EL.aload_n (i := 2) dL_law_510 rfl rfl ?_
  refine EL.aload_n (i := 0) dL_law_511 rfl rfl ?_
  refine EL.iload_n (i := 3) dL_law_512 rfl rfl ?_
  refine EL.iconst dL_law_513 ?_
  refine EL.iadd dL_law_514 ?_
  refine EL.sld (i + 1) (by omega) (by omega) hL dL_law_515 ?_
  refine EL.callV (d := 29) (ci := 7) (M' := mX7_never) (as := [.int (zI (sc xs (i + 1)))]) (rest := [.int (zI (prR (nvF F) (sc xs (i + 1))))]) ml_L_64 im_X7_never se_X7_never rfl co_X7_never dL_law_516 (hX7 hA _ _) (c_X7_never 25 (hMod hA) hW hK hP hT (sc xs (i + 1)) (sc_in xs _)) (by decide) rfl rfl (Nat.le_of_ble_eq_true rfl) (Nat.zero_le _) (Nat.zero_le _) (fun v2 h2 q2 => ?_)
  obtain ⟨rfl, rfl⟩ := q2
  refine EL.sts (st' := [.int (zI (prR (nvF F) (sc xs (i + 1)))), .int (zI (prR (nvF F) (sc xs (i + 1))))]) rfl ?_
  refine EL.eqv (t := 1195) dL_law_519 (by decide) ?_
  exact EL.kle (by omega) (by omega) (ih _ ⟨A, N, K, F, P, T, V, O, im, IL, la, ma, ik, rfl, rfl, hA, hK, hW, hP, hT, hI, hq, hk, rfl⟩)
set_option maxHeartbeats 4000000 in
set_option maxRecDepth 20000 in
theorem lc_market (hL : L ≤ 256) {i : Nat} (hi : i + 4 ≤ L) (hs : SYS G ax am h) (ih : ∀ h' : Hp, SYS G ax am h' → EL G b L xs l 1195 [some (.ref b), some (.ref ax), some (.ref am), some (.int (zI (i : Int)))] [] h' kc ks) : EL G b L xs l 524 [some (.ref b), some (.ref ax), some (.ref am), some (.int (zI (i : Int)))] [] h (kc + 12) (ks + 106) := by
  obtain ⟨A, N, K, F, P, T, V, O, im, IL, la, ma, ik, rfl, rfl, hA, hK, hW, hP, hT, hI, hq, hk, rfl⟩ := hs
  refine EL.aload_n (i := 1) dL_law_524 rfl rfl ?_
  refine EL.aload_n (i := 0) dL_law_525 rfl rfl ?_
  refine EL.iload_n (i := 3) dL_law_526 rfl rfl ?_
  refine EL.iconst dL_law_527 ?_
  refine EL.iadd dL_law_528 ?_
  refine EL.sld (i + 1) (by omega) (by omega) hL dL_law_529 ?_
  refine EL.aload_n (i := 0) dL_law_530 rfl rfl ?_
  refine EL.iload_n (i := 3) dL_law_531 rfl rfl ?_
  refine EL.iconst dL_law_532 ?_
  refine EL.iadd dL_law_533 ?_
  refine EL.sld (i + 2) (by omega) (by omega) hL dL_law_534 ?_
  refine EL.aload_n (i := 0) dL_law_535 rfl rfl ?_
  refine EL.iload_n (i := 3) dL_law_536 rfl rfl ?_
  refine EL.iconst dL_law_537 ?_
  refine EL.iadd dL_law_538 ?_
  refine EL.sld (i + 3) (by omega) (by omega) hL dL_law_539 ?_
  refine EL.callV (d := 29) (ci := 6) (M' := mX6_market) (as := [.int (zI (sc xs (i + 1))), .int (zI (sc xs (i + 2))), .int (zI (sc xs (i + 3)))]) (rest := []) ml_L_65 im_X6_market se_X6_market rfl co_X6_market dL_law_540 (hX6 hA _ _) (c_X6_market 22 hA hK hW hP hT (sc xs (i + 1)) (sc xs (i + 2)) (sc xs (i + 3)) (sc_in xs _) (sc_in xs _) (sc_in xs _)) (by decide) rfl rfl (Nat.le_of_ble_eq_true rfl) (Nat.zero_le _) (Nat.zero_le _) (fun v1 h1 q1 => ?_)
  obtain ⟨rfl, rfl⟩ := q1
  refine EL.sts (st' := [.int (zI (marketR F (sc xs (i + 1)) (sc xs (i + 2)) (sc xs (i + 3))))]) rfl ?_
  refine EL.aload_n (i := 2) dL_law_543 rfl rfl ?_
  refine EL.aload_n (i := 0) dL_law_544 rfl rfl ?_
  refine EL.iload_n (i := 3) dL_law_545 rfl rfl ?_
  refine EL.iconst dL_law_546 ?_
  refine EL.iadd dL_law_547 ?_
  refine EL.sld (i + 1) (by omega) (by omega) hL dL_law_548 ?_
  refine EL.aload_n (i := 0) dL_law_549 rfl rfl ?_
  refine EL.iload_n (i := 3) dL_law_550 rfl rfl ?_
  refine EL.iconst dL_law_551 ?_
  refine EL.iadd dL_law_552 ?_
  refine EL.sld (i + 2) (by omega) (by omega) hL dL_law_553 ?_
  refine EL.aload_n (i := 0) dL_law_554 rfl rfl ?_
  refine EL.iload_n (i := 3) dL_law_555 rfl rfl ?_
  refine EL.iconst dL_law_556 ?_
  refine EL.iadd dL_law_557 ?_
  refine EL.sld (i + 3) (by omega) (by omega) hL dL_law_558 ?_
  refine EL.callV (d := 29) (ci := 7) (M' := mX7_market) (as := [.int (zI (sc xs (i + 1))), .int (zI (sc xs (i + 2))), .int (zI (sc xs (i + 3)))]) (rest := [.int (zI (marketR F (sc xs (i + 1)) (sc xs (i + 2)) (sc xs (i + 3))))]) ml_L_68 im_X7_market se_X7_market rfl co_X7_market dL_law_559 (hX7 hA _ _) (c_X7_market 25 (hMod hA) hW hK hP hT (sc xs (i + 1)) (sc xs (i + 2)) (sc xs (i + 3)) (sc_in xs _) (sc_in xs _) (sc_in xs _)) (by decide) rfl rfl (Nat.le_of_ble_eq_true rfl) (Nat.zero_le _) (Nat.zero_le _) (fun v2 h2 q2 => ?_)
  obtain ⟨rfl, rfl⟩ := q2
  refine EL.sts (st' := [.int (zI (marketR F (sc xs (i + 1)) (sc xs (i + 2)) (sc xs (i + 3)))), .int (zI (marketR F (sc xs (i + 1)) (sc xs (i + 2)) (sc xs (i + 3))))]) rfl ?_
  refine EL.eqv (t := 1195) dL_law_562 (by decide) ?_
  exact EL.kle (by omega) (by omega) (ih _ ⟨A, N, K, F, P, T, V, O, im, IL, la, ma, ik, rfl, rfl, hA, hK, hW, hP, hT, hI, hq, hk, rfl⟩)
set_option maxHeartbeats 4000000 in
set_option maxRecDepth 20000 in
theorem lc_can (hL : L ≤ 256) {i : Nat} (hi : i + 4 ≤ L) (hs : SYS G ax am h) (ih : ∀ h' : Hp, SYS G ax am h' → EL G b L xs l 1195 [some (.ref b), some (.ref ax), some (.ref am), some (.int (zI (i : Int)))] [] h' kc ks) : EL G b L xs l 567 [some (.ref b), some (.ref ax), some (.ref am), some (.int (zI (i : Int)))] [] h (kc + 12) (ks + 106) := by
  obtain ⟨A, N, K, F, P, T, V, O, im, IL, la, ma, ik, rfl, rfl, hA, hK, hW, hP, hT, hI, hq, hk, rfl⟩ := hs
  refine EL.aload_n (i := 1) dL_law_567 rfl rfl ?_
  refine EL.aload_n (i := 0) dL_law_568 rfl rfl ?_
  refine EL.iload_n (i := 3) dL_law_569 rfl rfl ?_
  refine EL.iconst dL_law_570 ?_
  refine EL.iadd dL_law_571 ?_
  refine EL.sld (i + 1) (by omega) (by omega) hL dL_law_572 ?_
  refine EL.aload_n (i := 0) dL_law_573 rfl rfl ?_
  refine EL.iload_n (i := 3) dL_law_574 rfl rfl ?_
  refine EL.iconst dL_law_575 ?_
  refine EL.iadd dL_law_576 ?_
  refine EL.sld (i + 2) (by omega) (by omega) hL dL_law_577 ?_
  refine EL.callV (d := 29) (ci := 6) (M' := mX6_can) (as := [.int (zI (sc xs (i + 1))), .int (zI (sc xs (i + 2)))]) (rest := []) ml_L_69 im_X6_can se_X6_can rfl co_X6_can dL_law_578 (hX6 hA _ _) (c_X6_can 24 hA hK hW hP hT (sc xs (i + 1)) (sc xs (i + 2)) (sc_in xs _) (sc_in xs _)) (by decide) rfl rfl (Nat.le_of_ble_eq_true rfl) (Nat.zero_le _) (Nat.zero_le _) (fun v1 h1 q1 => ?_)
  obtain ⟨rfl, rfl⟩ := q1
  refine EL.sts (st' := [.int (zI (canR F P (sc xs (i + 1)) (sc xs (i + 2))))]) rfl ?_
  refine EL.aload_n (i := 2) dL_law_581 rfl rfl ?_
  refine EL.aload_n (i := 0) dL_law_582 rfl rfl ?_
  refine EL.iload_n (i := 3) dL_law_583 rfl rfl ?_
  refine EL.iconst dL_law_584 ?_
  refine EL.iadd dL_law_585 ?_
  refine EL.sld (i + 1) (by omega) (by omega) hL dL_law_586 ?_
  refine EL.aload_n (i := 0) dL_law_587 rfl rfl ?_
  refine EL.iload_n (i := 3) dL_law_588 rfl rfl ?_
  refine EL.iconst dL_law_589 ?_
  refine EL.iadd dL_law_590 ?_
  refine EL.sld (i + 2) (by omega) (by omega) hL dL_law_591 ?_
  refine EL.callV (d := 29) (ci := 7) (M' := mX7_can) (as := [.int (zI (sc xs (i + 1))), .int (zI (sc xs (i + 2)))]) (rest := [.int (zI (canR F P (sc xs (i + 1)) (sc xs (i + 2))))]) ml_L_72 im_X7_can se_X7_can rfl co_X7_can dL_law_592 (hX7 hA _ _) (c_X7_can 25 (hMod hA) hW hK hP hT (sc xs (i + 1)) (sc xs (i + 2)) (sc_in xs _) (sc_in xs _)) (by decide) rfl rfl (Nat.le_of_ble_eq_true rfl) (Nat.zero_le _) (Nat.zero_le _) (fun v2 h2 q2 => ?_)
  obtain ⟨rfl, rfl⟩ := q2
  refine EL.sts (st' := [.int (zI (canR F P (sc xs (i + 1)) (sc xs (i + 2)))), .int (zI (canR F P (sc xs (i + 1)) (sc xs (i + 2))))]) rfl ?_
  refine EL.eqv (t := 1195) dL_law_595 (by decide) ?_
  exact EL.kle (by omega) (by omega) (ih _ ⟨A, N, K, F, P, T, V, O, im, IL, la, ma, ik, rfl, rfl, hA, hK, hW, hP, hT, hI, hq, hk, rfl⟩)
set_option maxHeartbeats 4000000 in
set_option maxRecDepth 20000 in
theorem lc_month (hL : L ≤ 256) {i : Nat} (hi : i + 4 ≤ L) (hs : SYS G ax am h) (ih : ∀ h' : Hp, SYS G ax am h' → EL G b L xs l 1195 [some (.ref b), some (.ref ax), some (.ref am), some (.int (zI (i : Int)))] [] h' kc ks) : EL G b L xs l 600 [some (.ref b), some (.ref ax), some (.ref am), some (.int (zI (i : Int)))] [] h (kc + 12) (ks + 106) := by
  obtain ⟨A, N, K, F, P, T, V, O, im, IL, la, ma, ik, rfl, rfl, hA, hK, hW, hP, hT, hI, hq, hk, rfl⟩ := hs
  refine EL.aload_n (i := 1) dL_law_600 rfl rfl ?_
  refine EL.aload_n (i := 0) dL_law_601 rfl rfl ?_
  refine EL.iload_n (i := 3) dL_law_602 rfl rfl ?_
  refine EL.iconst dL_law_603 ?_
  refine EL.iadd dL_law_604 ?_
  refine EL.sld (i + 1) (by omega) (by omega) hL dL_law_605 ?_
  refine EL.aload_n (i := 0) dL_law_606 rfl rfl ?_
  refine EL.iload_n (i := 3) dL_law_607 rfl rfl ?_
  refine EL.iconst dL_law_608 ?_
  refine EL.iadd dL_law_609 ?_
  refine EL.sld (i + 2) (by omega) (by omega) hL dL_law_610 ?_
  refine EL.callV (d := 29) (ci := 6) (M' := mX6_month) (as := [.int (zI (sc xs (i + 1))), .int (zI (sc xs (i + 2)))]) (rest := []) ml_L_73 im_X6_month se_X6_month rfl co_X6_month dL_law_611 (hX6 hA _ _) (c_X6_month 18 hA hK hW hP hT (sc xs (i + 1)) (sc xs (i + 2)) (sc_in xs _) (sc_in xs _)) (by decide) rfl rfl (Nat.le_of_ble_eq_true rfl) (Nat.zero_le _) (Nat.zero_le _) (fun v1 h1 q1 => ?_)
  obtain ⟨rfl, O', rfl⟩ := q1
  refine EL.sts (st' := [.int (zI (monthR F P (sc xs (i + 1)) (sc xs (i + 2))))]) rfl ?_
  refine EL.aload_n (i := 2) dL_law_614 rfl rfl ?_
  refine EL.aload_n (i := 0) dL_law_615 rfl rfl ?_
  refine EL.iload_n (i := 3) dL_law_616 rfl rfl ?_
  refine EL.iconst dL_law_617 ?_
  refine EL.iadd dL_law_618 ?_
  refine EL.sld (i + 1) (by omega) (by omega) hL dL_law_619 ?_
  refine EL.aload_n (i := 0) dL_law_620 rfl rfl ?_
  refine EL.iload_n (i := 3) dL_law_621 rfl rfl ?_
  refine EL.iconst dL_law_622 ?_
  refine EL.iadd dL_law_623 ?_
  refine EL.sld (i + 2) (by omega) (by omega) hL dL_law_624 ?_
  refine EL.callV (d := 29) (ci := 7) (M' := mX7_month) (as := [.int (zI (sc xs (i + 1))), .int (zI (sc xs (i + 2)))]) (rest := [.int (zI (monthR F P (sc xs (i + 1)) (sc xs (i + 2))))]) ml_L_76 im_X7_month se_X7_month rfl co_X7_month dL_law_625 (hX7 hA _ _) (c_X7_month 23 hA hK hW hP hT  (sc xs (i + 1)) (sc xs (i + 2)) (sc_in xs _) (sc_in xs _)) (by decide) rfl rfl (Nat.le_of_ble_eq_true rfl) (Nat.zero_le _) (Nat.zero_le _) (fun v2 h2 q2 => ?_)
  obtain ⟨rfl, la', rfl⟩ := q2
  refine EL.sts (st' := [.int (zI (monthR F P (sc xs (i + 1)) (sc xs (i + 2)))), .int (zI (monthR F P (sc xs (i + 1)) (sc xs (i + 2))))]) rfl ?_
  refine EL.eqv (t := 1195) dL_law_628 (by decide) ?_
  exact EL.kle (by omega) (by omega) (ih _ ⟨A, N, K, F, P, T, V, O', im, IL, la', ma, ik, rfl, rfl, hA, hK, hW, hP, hT, hI, hq, hk, rfl⟩)
set_option maxHeartbeats 4000000 in
set_option maxRecDepth 20000 in
theorem lc_barred (hL : L ≤ 256) {i : Nat} (hi : i + 4 ≤ L) (hs : SYS G ax am h) (ih : ∀ h' : Hp, SYS G ax am h' → EL G b L xs l 1195 [some (.ref b), some (.ref ax), some (.ref am), some (.int (zI (i : Int)))] [] h' kc ks) : EL G b L xs l 633 [some (.ref b), some (.ref ax), some (.ref am), some (.int (zI (i : Int)))] [] h (kc + 12) (ks + 106) := by
  obtain ⟨A, N, K, F, P, T, V, O, im, IL, la, ma, ik, rfl, rfl, hA, hK, hW, hP, hT, hI, hq, hk, rfl⟩ := hs
  refine EL.aload_n (i := 1) dL_law_633 rfl rfl ?_
  refine EL.callV (d := 29) (ci := 6) (M' := mX6_barred) (as := []) (rest := []) ml_L_77 im_X6_barred se_X6_barred rfl co_X6_barred dL_law_634 (hX6 hA _ _) (c_X6_barred 23 hA hK hW hP hT  ) (by decide) rfl rfl (Nat.le_of_ble_eq_true rfl) (Nat.zero_le _) (Nat.zero_le _) (fun v1 h1 q1 => ?_)
  obtain ⟨rfl, rfl⟩ := q1
  refine EL.sts (st' := [.int (zI (barredR F P))]) rfl ?_
  refine EL.aload_n (i := 2) dL_law_637 rfl rfl ?_
  refine EL.callV (d := 29) (ci := 7) (M' := mX7_barred) (as := []) (rest := [.int (zI (barredR F P))]) ml_L_80 im_X7_barred se_X7_barred rfl co_X7_barred dL_law_638 (hX7 hA _ _) (c_X7_barred 24 (hMod hA) hW hK hP hT  ) (by decide) rfl rfl (Nat.le_of_ble_eq_true rfl) (Nat.zero_le _) (Nat.zero_le _) (fun v2 h2 q2 => ?_)
  obtain ⟨rfl, rfl⟩ := q2
  refine EL.sts (st' := [.int (zI (barredR F P)), .int (zI (barredR F P))]) rfl ?_
  refine EL.eqv (t := 1195) dL_law_641 (by decide) ?_
  exact EL.kle (by omega) (by omega) (ih _ ⟨A, N, K, F, P, T, V, O, im, IL, la, ma, ik, rfl, rfl, hA, hK, hW, hP, hT, hI, hq, hk, rfl⟩)
set_option maxHeartbeats 4000000 in
set_option maxRecDepth 20000 in
theorem lc_why (hL : L ≤ 256) {i : Nat} (hi : i + 4 ≤ L) (hs : SYS G ax am h) (ih : ∀ h' : Hp, SYS G ax am h' → EL G b L xs l 1195 [some (.ref b), some (.ref ax), some (.ref am), some (.int (zI (i : Int)))] [] h' kc ks) : EL G b L xs l 646 [some (.ref b), some (.ref ax), some (.ref am), some (.int (zI (i : Int)))] [] h (kc + 12) (ks + 106) := by
  obtain ⟨A, N, K, F, P, T, V, O, im, IL, la, ma, ik, rfl, rfl, hA, hK, hW, hP, hT, hI, hq, hk, rfl⟩ := hs
  refine EL.aload_n (i := 1) dL_law_646 rfl rfl ?_
  refine EL.aload_n (i := 0) dL_law_647 rfl rfl ?_
  refine EL.iload_n (i := 3) dL_law_648 rfl rfl ?_
  refine EL.iconst dL_law_649 ?_
  refine EL.iadd dL_law_650 ?_
  refine EL.sld (i + 1) (by omega) (by omega) hL dL_law_651 ?_
  refine EL.callV (d := 29) (ci := 6) (M' := mX6_why) (as := [.int (zI (sc xs (i + 1)))]) (rest := []) ml_L_81 im_X6_why se_X6_why rfl co_X6_why dL_law_652 (hX6 hA _ _) (c_X6_why 23 hA hK hW hP hT (sc xs (i + 1)) (sc_in xs _)) (by decide) rfl rfl (Nat.le_of_ble_eq_true rfl) (Nat.zero_le _) (Nat.zero_le _) (fun v1 h1 q1 => ?_)
  obtain ⟨rfl, rfl⟩ := q1
  refine EL.sts (st' := [.int (zI (whyR F P (sc xs (i + 1))))]) rfl ?_
  refine EL.aload_n (i := 2) dL_law_655 rfl rfl ?_
  refine EL.aload_n (i := 0) dL_law_656 rfl rfl ?_
  refine EL.iload_n (i := 3) dL_law_657 rfl rfl ?_
  refine EL.iconst dL_law_658 ?_
  refine EL.iadd dL_law_659 ?_
  refine EL.sld (i + 1) (by omega) (by omega) hL dL_law_660 ?_
  refine EL.callV (d := 29) (ci := 7) (M' := mX7_why) (as := [.int (zI (sc xs (i + 1)))]) (rest := [.int (zI (whyR F P (sc xs (i + 1))))]) ml_L_84 im_X7_why se_X7_why rfl co_X7_why dL_law_661 (hX7 hA _ _) (c_X7_why 24 (hMod hA) hW hK hP hT (sc xs (i + 1)) (sc_in xs _)) (by decide) rfl rfl (Nat.le_of_ble_eq_true rfl) (Nat.zero_le _) (Nat.zero_le _) (fun v2 h2 q2 => ?_)
  obtain ⟨rfl, rfl⟩ := q2
  refine EL.sts (st' := [.int (zI (whyR F P (sc xs (i + 1)))), .int (zI (whyR F P (sc xs (i + 1))))]) rfl ?_
  refine EL.eqv (t := 1195) dL_law_664 (by decide) ?_
  exact EL.kle (by omega) (by omega) (ih _ ⟨A, N, K, F, P, T, V, O, im, IL, la, ma, ik, rfl, rfl, hA, hK, hW, hP, hT, hI, hq, hk, rfl⟩)
set_option maxHeartbeats 4000000 in
set_option maxRecDepth 20000 in
theorem lc_common (hL : L ≤ 256) {i : Nat} (hi : i + 4 ≤ L) (hs : SYS G ax am h) (ih : ∀ h' : Hp, SYS G ax am h' → EL G b L xs l 1195 [some (.ref b), some (.ref ax), some (.ref am), some (.int (zI (i : Int)))] [] h' kc ks) : EL G b L xs l 669 [some (.ref b), some (.ref ax), some (.ref am), some (.int (zI (i : Int)))] [] h (kc + 12) (ks + 106) := by
  obtain ⟨A, N, K, F, P, T, V, O, im, IL, la, ma, ik, rfl, rfl, hA, hK, hW, hP, hT, hI, hq, hk, rfl⟩ := hs
  refine EL.aload_n (i := 1) dL_law_669 rfl rfl ?_
  refine EL.aload_n (i := 0) dL_law_670 rfl rfl ?_
  refine EL.iload_n (i := 3) dL_law_671 rfl rfl ?_
  refine EL.iconst dL_law_672 ?_
  refine EL.iadd dL_law_673 ?_
  refine EL.sld (i + 1) (by omega) (by omega) hL dL_law_674 ?_
  refine EL.aload_n (i := 0) dL_law_675 rfl rfl ?_
  refine EL.iload_n (i := 3) dL_law_676 rfl rfl ?_
  refine EL.iconst dL_law_677 ?_
  refine EL.iadd dL_law_678 ?_
  refine EL.sld (i + 2) (by omega) (by omega) hL dL_law_679 ?_
  refine EL.aload_n (i := 0) dL_law_680 rfl rfl ?_
  refine EL.iload_n (i := 3) dL_law_681 rfl rfl ?_
  refine EL.iconst dL_law_682 ?_
  refine EL.iadd dL_law_683 ?_
  refine EL.sld (i + 3) (by omega) (by omega) hL dL_law_684 ?_
  refine EL.callV (d := 29) (ci := 6) (M' := mX6_common) (as := [.int (zI (sc xs (i + 1))), .int (zI (sc xs (i + 2))), .int (zI (sc xs (i + 3)))]) (rest := []) ml_L_85 im_X6_common se_X6_common rfl co_X6_common dL_law_685 (hX6 hA _ _) (c_X6_common 25 hA hK hW hP hT (sc xs (i + 1)) (sc xs (i + 2)) (sc xs (i + 3)) (sc_in xs _) (sc_in xs _) (sc_in xs _)) (by decide) rfl rfl (Nat.le_of_ble_eq_true rfl) (Nat.zero_le _) (Nat.zero_le _) (fun v1 h1 q1 => ?_)
  obtain ⟨rfl, rfl⟩ := q1
  refine EL.sts (st' := [.int (zI (commonR F (sc xs (i + 1)) (sc xs (i + 2)) (sc xs (i + 3))))]) rfl ?_
  refine EL.aload_n (i := 2) dL_law_688 rfl rfl ?_
  refine EL.aload_n (i := 0) dL_law_689 rfl rfl ?_
  refine EL.iload_n (i := 3) dL_law_690 rfl rfl ?_
  refine EL.iconst dL_law_691 ?_
  refine EL.iadd dL_law_692 ?_
  refine EL.sld (i + 1) (by omega) (by omega) hL dL_law_693 ?_
  refine EL.aload_n (i := 0) dL_law_694 rfl rfl ?_
  refine EL.iload_n (i := 3) dL_law_695 rfl rfl ?_
  refine EL.iconst dL_law_696 ?_
  refine EL.iadd dL_law_697 ?_
  refine EL.sld (i + 2) (by omega) (by omega) hL dL_law_698 ?_
  refine EL.aload_n (i := 0) dL_law_699 rfl rfl ?_
  refine EL.iload_n (i := 3) dL_law_700 rfl rfl ?_
  refine EL.iconst dL_law_701 ?_
  refine EL.iadd dL_law_702 ?_
  refine EL.sld (i + 3) (by omega) (by omega) hL dL_law_703 ?_
  refine EL.callV (d := 29) (ci := 7) (M' := mX7_common) (as := [.int (zI (sc xs (i + 1))), .int (zI (sc xs (i + 2))), .int (zI (sc xs (i + 3)))]) (rest := [.int (zI (commonR F (sc xs (i + 1)) (sc xs (i + 2)) (sc xs (i + 3))))]) ml_L_88 im_X7_common se_X7_common rfl co_X7_common dL_law_704 (hX7 hA _ _) (c_X7_common 25 (hMod hA) hW hK hP hT (sc xs (i + 1)) (sc xs (i + 2)) (sc xs (i + 3)) (sc_in xs _) (sc_in xs _) (sc_in xs _)) (by decide) rfl rfl (Nat.le_of_ble_eq_true rfl) (Nat.zero_le _) (Nat.zero_le _) (fun v2 h2 q2 => ?_)
  obtain ⟨rfl, rfl⟩ := q2
  refine EL.sts (st' := [.int (zI (commonR F (sc xs (i + 1)) (sc xs (i + 2)) (sc xs (i + 3)))), .int (zI (commonR F (sc xs (i + 1)) (sc xs (i + 2)) (sc xs (i + 3))))]) rfl ?_
  refine EL.eqv (t := 1195) dL_law_707 (by decide) ?_
  exact EL.kle (by omega) (by omega) (ih _ ⟨A, N, K, F, P, T, V, O, im, IL, la, ma, ik, rfl, rfl, hA, hK, hW, hP, hT, hI, hq, hk, rfl⟩)
set_option maxHeartbeats 4000000 in
set_option maxRecDepth 20000 in
theorem lc_wedding (hL : L ≤ 256) {i : Nat} (hi : i + 4 ≤ L) (hs : SYS G ax am h) (ih : ∀ h' : Hp, SYS G ax am h' → EL G b L xs l 1195 [some (.ref b), some (.ref ax), some (.ref am), some (.int (zI (i : Int)))] [] h' kc ks) : EL G b L xs l 712 [some (.ref b), some (.ref ax), some (.ref am), some (.int (zI (i : Int)))] [] h (kc + 12) (ks + 106) := by
  obtain ⟨A, N, K, F, P, T, V, O, im, IL, la, ma, ik, rfl, rfl, hA, hK, hW, hP, hT, hI, hq, hk, rfl⟩ := hs
  refine EL.aload_n (i := 1) dL_law_712 rfl rfl ?_
  refine EL.aload_n (i := 0) dL_law_713 rfl rfl ?_
  refine EL.iload_n (i := 3) dL_law_714 rfl rfl ?_
  refine EL.iconst dL_law_715 ?_
  refine EL.iadd dL_law_716 ?_
  refine EL.sld (i + 1) (by omega) (by omega) hL dL_law_717 ?_
  refine EL.aload_n (i := 0) dL_law_718 rfl rfl ?_
  refine EL.iload_n (i := 3) dL_law_719 rfl rfl ?_
  refine EL.iconst dL_law_720 ?_
  refine EL.iadd dL_law_721 ?_
  refine EL.sld (i + 2) (by omega) (by omega) hL dL_law_722 ?_
  refine EL.aload_n (i := 0) dL_law_723 rfl rfl ?_
  refine EL.iload_n (i := 3) dL_law_724 rfl rfl ?_
  refine EL.iconst dL_law_725 ?_
  refine EL.iadd dL_law_726 ?_
  refine EL.sld (i + 3) (by omega) (by omega) hL dL_law_727 ?_
  refine EL.callV (d := 29) (ci := 6) (M' := mX6_wedding) (as := [.int (zI (sc xs (i + 1))), .int (zI (sc xs (i + 2))), .int (zI (sc xs (i + 3)))]) (rest := []) ml_L_89 im_X6_wedding se_X6_wedding rfl co_X6_wedding dL_law_728 (hX6 hA _ _) (c_X6_wedding 22 hA hK hW hP hT (sc xs (i + 1)) (sc xs (i + 2)) (sc xs (i + 3)) (sc_in xs _) (sc_in xs _) (sc_in xs _)) (by decide) rfl rfl (Nat.le_of_ble_eq_true rfl) (Nat.zero_le _) (Nat.zero_le _) (fun v1 h1 q1 => ?_)
  obtain ⟨rfl, rfl⟩ := q1
  refine EL.sts (st' := [.int (zI (wedR F (sc xs (i + 1)) (sc xs (i + 2)) (sc xs (i + 3))))]) rfl ?_
  refine EL.aload_n (i := 2) dL_law_731 rfl rfl ?_
  refine EL.aload_n (i := 0) dL_law_732 rfl rfl ?_
  refine EL.iload_n (i := 3) dL_law_733 rfl rfl ?_
  refine EL.iconst dL_law_734 ?_
  refine EL.iadd dL_law_735 ?_
  refine EL.sld (i + 1) (by omega) (by omega) hL dL_law_736 ?_
  refine EL.aload_n (i := 0) dL_law_737 rfl rfl ?_
  refine EL.iload_n (i := 3) dL_law_738 rfl rfl ?_
  refine EL.iconst dL_law_739 ?_
  refine EL.iadd dL_law_740 ?_
  refine EL.sld (i + 2) (by omega) (by omega) hL dL_law_741 ?_
  refine EL.aload_n (i := 0) dL_law_742 rfl rfl ?_
  refine EL.iload_n (i := 3) dL_law_743 rfl rfl ?_
  refine EL.iconst dL_law_744 ?_
  refine EL.iadd dL_law_745 ?_
  refine EL.sld (i + 3) (by omega) (by omega) hL dL_law_746 ?_
  refine EL.callV (d := 29) (ci := 7) (M' := mX7_wedding) (as := [.int (zI (sc xs (i + 1))), .int (zI (sc xs (i + 2))), .int (zI (sc xs (i + 3)))]) (rest := [.int (zI (wedR F (sc xs (i + 1)) (sc xs (i + 2)) (sc xs (i + 3))))]) ml_L_92 im_X7_wedding se_X7_wedding rfl co_X7_wedding dL_law_747 (hX7 hA _ _) (c_X7_wedding 25 (hMod hA) hW hK hP hT (sc xs (i + 1)) (sc xs (i + 2)) (sc xs (i + 3)) (sc_in xs _) (sc_in xs _) (sc_in xs _)) (by decide) rfl rfl (Nat.le_of_ble_eq_true rfl) (Nat.zero_le _) (Nat.zero_le _) (fun v2 h2 q2 => ?_)
  obtain ⟨rfl, rfl⟩ := q2
  refine EL.sts (st' := [.int (zI (wedR F (sc xs (i + 1)) (sc xs (i + 2)) (sc xs (i + 3)))), .int (zI (wedR F (sc xs (i + 1)) (sc xs (i + 2)) (sc xs (i + 3))))]) rfl ?_
  refine EL.eqv (t := 1195) dL_law_750 (by decide) ?_
  exact EL.kle (by omega) (by omega) (ih _ ⟨A, N, K, F, P, T, V, O, im, IL, la, ma, ik, rfl, rfl, hA, hK, hW, hP, hT, hI, hq, hk, rfl⟩)
set_option maxHeartbeats 4000000 in
set_option maxRecDepth 20000 in
theorem lc_best (hL : L ≤ 256) {i : Nat} (hi : i + 4 ≤ L) (hs : SYS G ax am h) (ih : ∀ h' : Hp, SYS G ax am h' → EL G b L xs l 1195 [some (.ref b), some (.ref ax), some (.ref am), some (.int (zI (i : Int)))] [] h' kc ks) : EL G b L xs l 755 [some (.ref b), some (.ref ax), some (.ref am), some (.int (zI (i : Int)))] [] h (kc + 12) (ks + 106) := by
  obtain ⟨A, N, K, F, P, T, V, O, im, IL, la, ma, ik, rfl, rfl, hA, hK, hW, hP, hT, hI, hq, hk, rfl⟩ := hs
  refine EL.aload_n (i := 1) dL_law_755 rfl rfl ?_
  refine EL.aload_n (i := 0) dL_law_756 rfl rfl ?_
  refine EL.iload_n (i := 3) dL_law_757 rfl rfl ?_
  refine EL.iconst dL_law_758 ?_
  refine EL.iadd dL_law_759 ?_
  refine EL.sld (i + 1) (by omega) (by omega) hL dL_law_760 ?_
  refine EL.aload_n (i := 0) dL_law_761 rfl rfl ?_
  refine EL.iload_n (i := 3) dL_law_762 rfl rfl ?_
  refine EL.iconst dL_law_763 ?_
  refine EL.iadd dL_law_764 ?_
  refine EL.sld (i + 2) (by omega) (by omega) hL dL_law_765 ?_
  refine EL.callV (d := 29) (ci := 6) (M' := mX6_best) (as := [.int (zI (sc xs (i + 1))), .int (zI (sc xs (i + 2)))]) (rest := []) ml_L_93 im_X6_best se_X6_best rfl co_X6_best dL_law_766 (hX6 hA _ _) (c_X6_best 24 hA hK hW hP hT (sc xs (i + 1)) (sc xs (i + 2)) (sc_in xs _) (sc_in xs _)) (by decide) rfl rfl (Nat.le_of_ble_eq_true rfl) (Nat.zero_le _) (Nat.zero_le _) (fun v1 h1 q1 => ?_)
  obtain ⟨rfl, rfl⟩ := q1
  refine EL.sts (st' := [.int (zI (bestR F (sc xs (i + 1)) (sc xs (i + 2))))]) rfl ?_
  refine EL.aload_n (i := 2) dL_law_769 rfl rfl ?_
  refine EL.aload_n (i := 0) dL_law_770 rfl rfl ?_
  refine EL.iload_n (i := 3) dL_law_771 rfl rfl ?_
  refine EL.iconst dL_law_772 ?_
  refine EL.iadd dL_law_773 ?_
  refine EL.sld (i + 1) (by omega) (by omega) hL dL_law_774 ?_
  refine EL.aload_n (i := 0) dL_law_775 rfl rfl ?_
  refine EL.iload_n (i := 3) dL_law_776 rfl rfl ?_
  refine EL.iconst dL_law_777 ?_
  refine EL.iadd dL_law_778 ?_
  refine EL.sld (i + 2) (by omega) (by omega) hL dL_law_779 ?_
  refine EL.callV (d := 29) (ci := 7) (M' := mX7_best) (as := [.int (zI (sc xs (i + 1))), .int (zI (sc xs (i + 2)))]) (rest := [.int (zI (bestR F (sc xs (i + 1)) (sc xs (i + 2))))]) ml_L_96 im_X7_best se_X7_best rfl co_X7_best dL_law_780 (hX7 hA _ _) (c_X7_best 26 (hMod hA) hW hK hP hT (sc xs (i + 1)) (sc xs (i + 2)) (sc_in xs _) (sc_in xs _)) (by decide) rfl rfl (Nat.le_of_ble_eq_true rfl) (Nat.zero_le _) (Nat.zero_le _) (fun v2 h2 q2 => ?_)
  obtain ⟨rfl, rfl⟩ := q2
  refine EL.sts (st' := [.int (zI (bestR F (sc xs (i + 1)) (sc xs (i + 2)))), .int (zI (bestR F (sc xs (i + 1)) (sc xs (i + 2))))]) rfl ?_
  refine EL.eqv (t := 1195) dL_law_783 (by decide) ?_
  exact EL.kle (by omega) (by omega) (ih _ ⟨A, N, K, F, P, T, V, O, im, IL, la, ma, ik, rfl, rfl, hA, hK, hW, hP, hT, hI, hq, hk, rfl⟩)
set_option maxHeartbeats 4000000 in
set_option maxRecDepth 20000 in
theorem lc_feast (hL : L ≤ 256) {i : Nat} (hi : i + 4 ≤ L) (hs : SYS G ax am h) (ih : ∀ h' : Hp, SYS G ax am h' → EL G b L xs l 1195 [some (.ref b), some (.ref ax), some (.ref am), some (.int (zI (i : Int)))] [] h' kc ks) : EL G b L xs l 788 [some (.ref b), some (.ref ax), some (.ref am), some (.int (zI (i : Int)))] [] h (kc + 12) (ks + 106) := by
  obtain ⟨A, N, K, F, P, T, V, O, im, IL, la, ma, ik, rfl, rfl, hA, hK, hW, hP, hT, hI, hq, hk, rfl⟩ := hs
  refine EL.aload_n (i := 1) dL_law_788 rfl rfl ?_
  refine EL.aload_n (i := 0) dL_law_789 rfl rfl ?_
  refine EL.iload_n (i := 3) dL_law_790 rfl rfl ?_
  refine EL.iconst dL_law_791 ?_
  refine EL.iadd dL_law_792 ?_
  refine EL.sld (i + 1) (by omega) (by omega) hL dL_law_793 ?_
  refine EL.callV (d := 29) (ci := 6) (M' := mX6_feast) (as := [.int (zI (sc xs (i + 1)))]) (rest := []) ml_L_97 im_X6_feast se_X6_feast rfl co_X6_feast dL_law_794 (hX6 hA _ _) (c_X6_feast 25 hA hK hW hP hT (sc xs (i + 1)) (sc_in xs _)) (by decide) rfl rfl (Nat.le_of_ble_eq_true rfl) (Nat.zero_le _) (Nat.zero_le _) (fun v1 h1 q1 => ?_)
  obtain ⟨rfl, V', rfl⟩ := q1
  refine EL.sts (st' := [.int (zI (feastR F (sc xs (i + 1))))]) rfl ?_
  refine EL.aload_n (i := 2) dL_law_797 rfl rfl ?_
  refine EL.aload_n (i := 0) dL_law_798 rfl rfl ?_
  refine EL.iload_n (i := 3) dL_law_799 rfl rfl ?_
  refine EL.iconst dL_law_800 ?_
  refine EL.iadd dL_law_801 ?_
  refine EL.sld (i + 1) (by omega) (by omega) hL dL_law_802 ?_
  refine EL.callV (d := 29) (ci := 7) (M' := mX7_feast) (as := [.int (zI (sc xs (i + 1)))]) (rest := [.int (zI (feastR F (sc xs (i + 1))))]) ml_L_100 im_X7_feast se_X7_feast rfl co_X7_feast dL_law_803 (hX7 hA _ _) (c_X7_feast 25 (hMod hA) hW hK hP hT (sc xs (i + 1)) (sc_in xs _)) (by decide) rfl rfl (Nat.le_of_ble_eq_true rfl) (Nat.zero_le _) (Nat.zero_le _) (fun v2 h2 q2 => ?_)
  obtain ⟨rfl, rfl⟩ := q2
  refine EL.sts (st' := [.int (zI (feastR F (sc xs (i + 1)))), .int (zI (feastR F (sc xs (i + 1))))]) rfl ?_
  refine EL.eqv (t := 1195) dL_law_806 (by decide) ?_
  exact EL.kle (by omega) (by omega) (ih _ ⟨A, N, K, F, P, T, V', O, im, IL, la, ma, ik, rfl, rfl, hA, hK, hW, hP, hT, hI, hq, hk, rfl⟩)
set_option maxHeartbeats 4000000 in
set_option maxRecDepth 20000 in
theorem lc_feasts (hL : L ≤ 256) {i : Nat} (hi : i + 4 ≤ L) (hs : SYS G ax am h) (ih : ∀ h' : Hp, SYS G ax am h' → EL G b L xs l 1195 [some (.ref b), some (.ref ax), some (.ref am), some (.int (zI (i : Int)))] [] h' kc ks) : EL G b L xs l 811 [some (.ref b), some (.ref ax), some (.ref am), some (.int (zI (i : Int)))] [] h (kc + 12) (ks + 106) := by
  obtain ⟨A, N, K, F, P, T, V, O, im, IL, la, ma, ik, rfl, rfl, hA, hK, hW, hP, hT, hI, hq, hk, rfl⟩ := hs
  refine EL.aload_n (i := 1) dL_law_811 rfl rfl ?_
  refine EL.aload_n (i := 0) dL_law_812 rfl rfl ?_
  refine EL.iload_n (i := 3) dL_law_813 rfl rfl ?_
  refine EL.iconst dL_law_814 ?_
  refine EL.iadd dL_law_815 ?_
  refine EL.sld (i + 1) (by omega) (by omega) hL dL_law_816 ?_
  refine EL.callV (d := 29) (ci := 6) (M' := mX6_feasts) (as := [.int (zI (sc xs (i + 1)))]) (rest := []) ml_L_101 im_X6_feasts se_X6_feasts rfl co_X6_feasts dL_law_817 (hX6 hA _ _) (c_X6_feasts 25 hA hK hW hP hT (sc xs (i + 1)) (sc_in xs _)) (by decide) rfl rfl (Nat.le_of_ble_eq_true rfl) (Nat.zero_le _) (Nat.zero_le _) (fun v1 h1 q1 => ?_)
  obtain ⟨rfl, V', rfl⟩ := q1
  refine EL.sts (st' := [.int (zI (feastsR F (sc xs (i + 1))))]) rfl ?_
  refine EL.aload_n (i := 2) dL_law_820 rfl rfl ?_
  refine EL.aload_n (i := 0) dL_law_821 rfl rfl ?_
  refine EL.iload_n (i := 3) dL_law_822 rfl rfl ?_
  refine EL.iconst dL_law_823 ?_
  refine EL.iadd dL_law_824 ?_
  refine EL.sld (i + 1) (by omega) (by omega) hL dL_law_825 ?_
  refine EL.callV (d := 29) (ci := 7) (M' := mX7_feasts) (as := [.int (zI (sc xs (i + 1)))]) (rest := [.int (zI (feastsR F (sc xs (i + 1))))]) ml_L_104 im_X7_feasts se_X7_feasts rfl co_X7_feasts dL_law_826 (hX7 hA _ _) (c_X7_feasts 25 (hMod hA) hW hK hP hT (sc xs (i + 1)) (sc_in xs _)) (by decide) rfl rfl (Nat.le_of_ble_eq_true rfl) (Nat.zero_le _) (Nat.zero_le _) (fun v2 h2 q2 => ?_)
  obtain ⟨rfl, rfl⟩ := q2
  refine EL.sts (st' := [.int (zI (feastsR F (sc xs (i + 1)))), .int (zI (feastsR F (sc xs (i + 1))))]) rfl ?_
  refine EL.eqv (t := 1195) dL_law_829 (by decide) ?_
  exact EL.kle (by omega) (by omega) (ih _ ⟨A, N, K, F, P, T, V', O, im, IL, la, ma, ik, rfl, rfl, hA, hK, hW, hP, hT, hI, hq, hk, rfl⟩)
set_option maxHeartbeats 4000000 in
set_option maxRecDepth 20000 in
theorem lc_poor (hL : L ≤ 256) {i : Nat} (hi : i + 4 ≤ L) (hs : SYS G ax am h) (ih : ∀ h' : Hp, SYS G ax am h' → EL G b L xs l 1195 [some (.ref b), some (.ref ax), some (.ref am), some (.int (zI (i : Int)))] [] h' kc ks) : EL G b L xs l 834 [some (.ref b), some (.ref ax), some (.ref am), some (.int (zI (i : Int)))] [] h (kc + 12) (ks + 106) := by
  obtain ⟨A, N, K, F, P, T, V, O, im, IL, la, ma, ik, rfl, rfl, hA, hK, hW, hP, hT, hI, hq, hk, rfl⟩ := hs
  refine EL.aload_n (i := 1) dL_law_834 rfl rfl ?_
  refine EL.callV (d := 29) (ci := 6) (M' := mX6_poor) (as := []) (rest := []) ml_L_105 im_X6_poor se_X6_poor rfl co_X6_poor dL_law_835 (hX6 hA _ _) (c_X6_poor 25 hA hK hW hP hT  ) (by decide) rfl rfl (Nat.le_of_ble_eq_true rfl) (Nat.zero_le _) (Nat.zero_le _) (fun v1 h1 q1 => ?_)
  obtain ⟨rfl, V', rfl⟩ := q1
  refine EL.sts (st' := [.int (zI (poorR F))]) rfl ?_
  refine EL.aload_n (i := 2) dL_law_838 rfl rfl ?_
  refine EL.callV (d := 29) (ci := 7) (M' := mX7_poor) (as := []) (rest := [.int (zI (poorR F))]) ml_L_108 im_X7_poor se_X7_poor rfl co_X7_poor dL_law_839 (hX7 hA _ _) (c_X7_poor 25 (hMod hA) hW hK hP hT  ) (by decide) rfl rfl (Nat.le_of_ble_eq_true rfl) (Nat.zero_le _) (Nat.zero_le _) (fun v2 h2 q2 => ?_)
  obtain ⟨rfl, rfl⟩ := q2
  refine EL.sts (st' := [.int (zI (poorR F)), .int (zI (poorR F))]) rfl ?_
  refine EL.eqv (t := 1195) dL_law_842 (by decide) ?_
  exact EL.kle (by omega) (by omega) (ih _ ⟨A, N, K, F, P, T, V', O, im, IL, la, ma, ik, rfl, rfl, hA, hK, hW, hP, hT, hI, hq, hk, rfl⟩)
set_option maxHeartbeats 4000000 in
set_option maxRecDepth 20000 in
theorem lc_twins (hL : L ≤ 256) {i : Nat} (hi : i + 4 ≤ L) (hs : SYS G ax am h) (ih : ∀ h' : Hp, SYS G ax am h' → EL G b L xs l 1195 [some (.ref b), some (.ref ax), some (.ref am), some (.int (zI (i : Int)))] [] h' kc ks) : EL G b L xs l 847 [some (.ref b), some (.ref ax), some (.ref am), some (.int (zI (i : Int)))] [] h (kc + 12) (ks + 106) := by
  obtain ⟨A, N, K, F, P, T, V, O, im, IL, la, ma, ik, rfl, rfl, hA, hK, hW, hP, hT, hI, hq, hk, rfl⟩ := hs
  refine EL.aload_n (i := 1) dL_law_847 rfl rfl ?_
  refine EL.aload_n (i := 0) dL_law_848 rfl rfl ?_
  refine EL.iload_n (i := 3) dL_law_849 rfl rfl ?_
  refine EL.iconst dL_law_850 ?_
  refine EL.iadd dL_law_851 ?_
  refine EL.sld (i + 1) (by omega) (by omega) hL dL_law_852 ?_
  refine EL.callV (d := 29) (ci := 6) (M' := mX6_twins) (as := [.int (zI (sc xs (i + 1)))]) (rest := []) ml_L_109 im_X6_twins se_X6_twins rfl co_X6_twins dL_law_853 (hX6 hA _ _) (c_X6_twins 22 hA hK hW hP hT (sc xs (i + 1)) (sc_in xs _)) (by decide) rfl rfl (Nat.le_of_ble_eq_true rfl) (Nat.zero_le _) (Nat.zero_le _) (fun v1 h1 q1 => ?_)
  obtain ⟨rfl, rfl⟩ := q1
  refine EL.sts (st' := [.int (zI (prR (twF F) (sc xs (i + 1))))]) rfl ?_
  refine EL.aload_n (i := 2) dL_law_856 rfl rfl ?_
  refine EL.aload_n (i := 0) dL_law_857 rfl rfl ?_
  refine EL.iload_n (i := 3) dL_law_858 rfl rfl ?_
  refine EL.iconst dL_law_859 ?_
  refine EL.iadd dL_law_860 ?_
  refine EL.sld (i + 1) (by omega) (by omega) hL dL_law_861 ?_
  refine EL.callV (d := 29) (ci := 7) (M' := mX7_twins) (as := [.int (zI (sc xs (i + 1)))]) (rest := [.int (zI (prR (twF F) (sc xs (i + 1))))]) ml_L_112 im_X7_twins se_X7_twins rfl co_X7_twins dL_law_862 (hX7 hA _ _) (c_X7_twins 25 (hMod hA) hW hK hP hT (sc xs (i + 1)) (sc_in xs _)) (by decide) rfl rfl (Nat.le_of_ble_eq_true rfl) (Nat.zero_le _) (Nat.zero_le _) (fun v2 h2 q2 => ?_)
  obtain ⟨rfl, rfl⟩ := q2
  refine EL.sts (st' := [.int (zI (prR (twF F) (sc xs (i + 1)))), .int (zI (prR (twF F) (sc xs (i + 1))))]) rfl ?_
  refine EL.eqv (t := 1195) dL_law_865 (by decide) ?_
  exact EL.kle (by omega) (by omega) (ih _ ⟨A, N, K, F, P, T, V, O, im, IL, la, ma, ik, rfl, rfl, hA, hK, hW, hP, hT, hI, hq, hk, rfl⟩)
set_option maxHeartbeats 4000000 in
set_option maxRecDepth 20000 in
theorem lc_oneOrder (hL : L ≤ 256) {i : Nat} (hi : i + 4 ≤ L) (hs : SYS G ax am h) (ih : ∀ h' : Hp, SYS G ax am h' → EL G b L xs l 1195 [some (.ref b), some (.ref ax), some (.ref am), some (.int (zI (i : Int)))] [] h' kc ks) : EL G b L xs l 870 [some (.ref b), some (.ref ax), some (.ref am), some (.int (zI (i : Int)))] [] h (kc + 12) (ks + 106) := by
  obtain ⟨A, N, K, F, P, T, V, O, im, IL, la, ma, ik, rfl, rfl, hA, hK, hW, hP, hT, hI, hq, hk, rfl⟩ := hs
  refine EL.aload_n (i := 1) dL_law_870 rfl rfl ?_
  refine EL.aload_n (i := 0) dL_law_871 rfl rfl ?_
  refine EL.iload_n (i := 3) dL_law_872 rfl rfl ?_
  refine EL.iconst dL_law_873 ?_
  refine EL.iadd dL_law_874 ?_
  refine EL.sld (i + 1) (by omega) (by omega) hL dL_law_875 ?_
  refine EL.aload_n (i := 0) dL_law_876 rfl rfl ?_
  refine EL.iload_n (i := 3) dL_law_877 rfl rfl ?_
  refine EL.iconst dL_law_878 ?_
  refine EL.iadd dL_law_879 ?_
  refine EL.sld (i + 2) (by omega) (by omega) hL dL_law_880 ?_
  refine EL.callV (d := 29) (ci := 6) (M' := mX6_oneOrder) (as := [.int (zI (sc xs (i + 1))), .int (zI (sc xs (i + 2)))]) (rest := []) ml_L_113 im_X6_oneOrder se_X6_oneOrder rfl co_X6_oneOrder dL_law_881 (hX6 hA _ _) (c_X6_oneOrder 22 hA hK hW hP hT (sc xs (i + 1)) (sc xs (i + 2)) (sc_in xs _) (sc_in xs _)) (by decide) rfl rfl (Nat.le_of_ble_eq_true rfl) (Nat.zero_le _) (Nat.zero_le _) (fun v1 h1 q1 => ?_)
  obtain ⟨rfl, rfl⟩ := q1
  refine EL.sts (st' := [.int (zI (oneR F (sc xs (i + 1)) (sc xs (i + 2))))]) rfl ?_
  refine EL.aload_n (i := 2) dL_law_884 rfl rfl ?_
  refine EL.aload_n (i := 0) dL_law_885 rfl rfl ?_
  refine EL.iload_n (i := 3) dL_law_886 rfl rfl ?_
  refine EL.iconst dL_law_887 ?_
  refine EL.iadd dL_law_888 ?_
  refine EL.sld (i + 1) (by omega) (by omega) hL dL_law_889 ?_
  refine EL.aload_n (i := 0) dL_law_890 rfl rfl ?_
  refine EL.iload_n (i := 3) dL_law_891 rfl rfl ?_
  refine EL.iconst dL_law_892 ?_
  refine EL.iadd dL_law_893 ?_
  refine EL.sld (i + 2) (by omega) (by omega) hL dL_law_894 ?_
  refine EL.callV (d := 29) (ci := 7) (M' := mX7_oneOrder) (as := [.int (zI (sc xs (i + 1))), .int (zI (sc xs (i + 2)))]) (rest := [.int (zI (oneR F (sc xs (i + 1)) (sc xs (i + 2))))]) ml_L_116 im_X7_oneOrder se_X7_oneOrder rfl co_X7_oneOrder dL_law_895 (hX7 hA _ _) (c_X7_oneOrder 24 (hMod hA) hW hK hP hT (sc xs (i + 1)) (sc xs (i + 2)) (sc_in xs _) (sc_in xs _)) (by decide) rfl rfl (Nat.le_of_ble_eq_true rfl) (Nat.zero_le _) (Nat.zero_le _) (fun v2 h2 q2 => ?_)
  obtain ⟨rfl, rfl⟩ := q2
  refine EL.sts (st' := [.int (zI (oneR F (sc xs (i + 1)) (sc xs (i + 2)))), .int (zI (oneR F (sc xs (i + 1)) (sc xs (i + 2))))]) rfl ?_
  refine EL.eqv (t := 1195) dL_law_898 (by decide) ?_
  exact EL.kle (by omega) (by omega) (ih _ ⟨A, N, K, F, P, T, V, O, im, IL, la, ma, ik, rfl, rfl, hA, hK, hW, hP, hT, hI, hq, hk, rfl⟩)
set_option maxHeartbeats 4000000 in
set_option maxRecDepth 20000 in
theorem lc_seen (hL : L ≤ 256) {i : Nat} (hi : i + 4 ≤ L) (hs : SYS G ax am h) (ih : ∀ h' : Hp, SYS G ax am h' → EL G b L xs l 1195 [some (.ref b), some (.ref ax), some (.ref am), some (.int (zI (i : Int)))] [] h' kc ks) : EL G b L xs l 903 [some (.ref b), some (.ref ax), some (.ref am), some (.int (zI (i : Int)))] [] h (kc + 12) (ks + 106) := by
  obtain ⟨A, N, K, F, P, T, V, O, im, IL, la, ma, ik, rfl, rfl, hA, hK, hW, hP, hT, hI, hq, hk, rfl⟩ := hs
  refine EL.aload_n (i := 1) dL_law_903 rfl rfl ?_
  refine EL.aload_n (i := 0) dL_law_904 rfl rfl ?_
  refine EL.iload_n (i := 3) dL_law_905 rfl rfl ?_
  refine EL.iconst dL_law_906 ?_
  refine EL.iadd dL_law_907 ?_
  refine EL.sld (i + 1) (by omega) (by omega) hL dL_law_908 ?_
  refine EL.aload_n (i := 0) dL_law_909 rfl rfl ?_
  refine EL.iload_n (i := 3) dL_law_910 rfl rfl ?_
  refine EL.iconst dL_law_911 ?_
  refine EL.iadd dL_law_912 ?_
  refine EL.sld (i + 2) (by omega) (by omega) hL dL_law_913 ?_
  refine EL.callV (d := 29) (ci := 6) (M' := mX6_seen) (as := [.int (zI (sc xs (i + 1))), .int (zI (sc xs (i + 2)))]) (rest := []) ml_L_117 im_X6_seen se_X6_seen rfl co_X6_seen dL_law_914 (hX6 hA _ _) (c_X6_seen 26 hA hK hW hP hT (sc xs (i + 1)) (sc xs (i + 2)) (sc_in xs _) (sc_in xs _)) (by decide) rfl rfl (Nat.le_of_ble_eq_true rfl) (Nat.zero_le _) (Nat.zero_le _) (fun v1 h1 q1 => ?_)
  obtain ⟨rfl, rfl⟩ := q1
  refine EL.sts (st' := [.int (zI (seenR T (sc xs (i + 1)) (sc xs (i + 2))))]) rfl ?_
  refine EL.aload_n (i := 2) dL_law_917 rfl rfl ?_
  refine EL.aload_n (i := 0) dL_law_918 rfl rfl ?_
  refine EL.iload_n (i := 3) dL_law_919 rfl rfl ?_
  refine EL.iconst dL_law_920 ?_
  refine EL.iadd dL_law_921 ?_
  refine EL.sld (i + 1) (by omega) (by omega) hL dL_law_922 ?_
  refine EL.aload_n (i := 0) dL_law_923 rfl rfl ?_
  refine EL.iload_n (i := 3) dL_law_924 rfl rfl ?_
  refine EL.iconst dL_law_925 ?_
  refine EL.iadd dL_law_926 ?_
  refine EL.sld (i + 2) (by omega) (by omega) hL dL_law_927 ?_
  refine EL.callV (d := 29) (ci := 7) (M' := mX7_seen) (as := [.int (zI (sc xs (i + 1))), .int (zI (sc xs (i + 2)))]) (rest := [.int (zI (seenR T (sc xs (i + 1)) (sc xs (i + 2))))]) ml_L_120 im_X7_seen se_X7_seen rfl co_X7_seen dL_law_928 (hX7 hA _ _) (c_X7_seen 26 hA hK hW hP hT  (sc xs (i + 1)) (sc xs (i + 2)) (sc_in xs _) (sc_in xs _)) (by decide) rfl rfl (Nat.le_of_ble_eq_true rfl) (Nat.zero_le _) (Nat.zero_le _) (fun v2 h2 q2 => ?_)
  obtain ⟨rfl, rfl⟩ := q2
  refine EL.sts (st' := [.int (zI (seenR T (sc xs (i + 1)) (sc xs (i + 2)))), .int (zI (seenR T (sc xs (i + 1)) (sc xs (i + 2))))]) rfl ?_
  refine EL.eqv (t := 1195) dL_law_931 (by decide) ?_
  exact EL.kle (by omega) (by omega) (ih _ ⟨A, N, K, F, P, seenT T (sc xs (i + 1)) (sc xs (i + 2)), V, O, im, IL, la, ma, ik, rfl, rfl, hA, hK, hW, hP, seenT_W hT, hI, hq, hk, rfl⟩)
set_option maxHeartbeats 4000000 in
set_option maxRecDepth 20000 in
theorem lc_forget (hL : L ≤ 256) {i : Nat} (hi : i + 4 ≤ L) (hs : SYS G ax am h) (ih : ∀ h' : Hp, SYS G ax am h' → EL G b L xs l 1195 [some (.ref b), some (.ref ax), some (.ref am), some (.int (zI (i : Int)))] [] h' kc ks) : EL G b L xs l 936 [some (.ref b), some (.ref ax), some (.ref am), some (.int (zI (i : Int)))] [] h (kc + 12) (ks + 106) := by
  obtain ⟨A, N, K, F, P, T, V, O, im, IL, la, ma, ik, rfl, rfl, hA, hK, hW, hP, hT, hI, hq, hk, rfl⟩ := hs
  refine EL.aload_n (i := 1) dL_law_936 rfl rfl ?_
  refine EL.callV (d := 29) (ci := 6) (M' := mX6_forget) (as := []) (rest := []) ml_L_121 im_X6_forget se_X6_forget rfl co_X6_forget dL_law_937 (hX6 hA _ _) (c_X6_forget 28 hA hK hW hP hT  ) (by decide) rfl rfl (Nat.le_of_ble_eq_true rfl) (Nat.zero_le _) (Nat.zero_le _) (fun v1 h1 q1 => ?_)
  obtain ⟨rfl, rfl⟩ := q1
  refine EL.sts (st' := [.int (zI ((T.1 : Int)))]) rfl ?_
  refine EL.aload_n (i := 2) dL_law_940 rfl rfl ?_
  refine EL.callV (d := 29) (ci := 7) (M' := mX7_forget) (as := []) (rest := [.int (zI ((T.1 : Int)))]) ml_L_124 im_X7_forget se_X7_forget rfl co_X7_forget dL_law_941 (hX7 hA _ _) (c_X7_forget 28 hA hK hW hP hT   ) (by decide) rfl rfl (Nat.le_of_ble_eq_true rfl) (Nat.zero_le _) (Nat.zero_le _) (fun v2 h2 q2 => ?_)
  obtain ⟨rfl, rfl⟩ := q2
  refine EL.sts (st' := [.int (zI ((T.1 : Int))), .int (zI ((T.1 : Int)))]) rfl ?_
  refine EL.eqv (t := 1195) dL_law_944 (by decide) ?_
  exact EL.kle (by omega) (by omega) (ih _ ⟨A, N, K, F, P, (0, T.2), V, O, im, IL, la, ma, ik, rfl, rfl, hA, hK, hW, hP, WFT_0 _, hI, hq, hk, rfl⟩)
set_option maxHeartbeats 4000000 in
set_option maxRecDepth 20000 in
theorem lc_whose (hL : L ≤ 256) {i : Nat} (hi : i + 4 ≤ L) (hs : SYS G ax am h) (ih : ∀ h' : Hp, SYS G ax am h' → EL G b L xs l 1195 [some (.ref b), some (.ref ax), some (.ref am), some (.int (zI (i : Int)))] [] h' kc ks) : EL G b L xs l 949 [some (.ref b), some (.ref ax), some (.ref am), some (.int (zI (i : Int)))] [] h (kc + 12) (ks + 106) := by
  obtain ⟨A, N, K, F, P, T, V, O, im, IL, la, ma, ik, rfl, rfl, hA, hK, hW, hP, hT, hI, hq, hk, rfl⟩ := hs
  refine EL.aload_n (i := 1) dL_law_949 rfl rfl ?_
  refine EL.aload_n (i := 0) dL_law_950 rfl rfl ?_
  refine EL.iload_n (i := 3) dL_law_951 rfl rfl ?_
  refine EL.iconst dL_law_952 ?_
  refine EL.iadd dL_law_953 ?_
  refine EL.sld (i + 1) (by omega) (by omega) hL dL_law_954 ?_
  refine EL.callV (d := 29) (ci := 6) (M' := mX6_whose) (as := [.int (zI (sc xs (i + 1)))]) (rest := []) ml_L_125 im_X6_whose se_X6_whose rfl co_X6_whose dL_law_955 (hX6 hA _ _) (c_X6_whose 25 hA hK hW hP hT (sc xs (i + 1)) (sc_in xs _)) (by decide) rfl rfl (Nat.le_of_ble_eq_true rfl) (Nat.zero_le _) (Nat.zero_le _) (fun v1 h1 q1 => ?_)
  obtain ⟨rfl, rfl⟩ := q1
  refine EL.sts (st' := [.int (zI (whoseR F T (sc xs (i + 1))))]) rfl ?_
  refine EL.aload_n (i := 2) dL_law_958 rfl rfl ?_
  refine EL.aload_n (i := 0) dL_law_959 rfl rfl ?_
  refine EL.iload_n (i := 3) dL_law_960 rfl rfl ?_
  refine EL.iconst dL_law_961 ?_
  refine EL.iadd dL_law_962 ?_
  refine EL.sld (i + 1) (by omega) (by omega) hL dL_law_963 ?_
  refine EL.callV (d := 29) (ci := 7) (M' := mX7_whose) (as := [.int (zI (sc xs (i + 1)))]) (rest := [.int (zI (whoseR F T (sc xs (i + 1))))]) ml_L_128 im_X7_whose se_X7_whose rfl co_X7_whose dL_law_964 (hX7 hA _ _) (c_X7_whose 26 (hMod hA) hW hK hP hT (sc xs (i + 1)) (sc_in xs _)) (by decide) rfl rfl (Nat.le_of_ble_eq_true rfl) (Nat.zero_le _) (Nat.zero_le _) (fun v2 h2 q2 => ?_)
  obtain ⟨rfl, rfl⟩ := q2
  refine EL.sts (st' := [.int (zI (whoseR F T (sc xs (i + 1)))), .int (zI (whoseR F T (sc xs (i + 1))))]) rfl ?_
  refine EL.eqv (t := 1195) dL_law_967 (by decide) ?_
  exact EL.kle (by omega) (by omega) (ih _ ⟨A, N, K, F, P, T, V, O, im, IL, la, ma, ik, rfl, rfl, hA, hK, hW, hP, hT, hI, hq, hk, rfl⟩)
set_option maxHeartbeats 4000000 in
set_option maxRecDepth 20000 in
theorem lc_sure (hL : L ≤ 256) {i : Nat} (hi : i + 4 ≤ L) (hs : SYS G ax am h) (ih : ∀ h' : Hp, SYS G ax am h' → EL G b L xs l 1195 [some (.ref b), some (.ref ax), some (.ref am), some (.int (zI (i : Int)))] [] h' kc ks) : EL G b L xs l 972 [some (.ref b), some (.ref ax), some (.ref am), some (.int (zI (i : Int)))] [] h (kc + 12) (ks + 106) := by
  obtain ⟨A, N, K, F, P, T, V, O, im, IL, la, ma, ik, rfl, rfl, hA, hK, hW, hP, hT, hI, hq, hk, rfl⟩ := hs
  refine EL.aload_n (i := 1) dL_law_972 rfl rfl ?_
  refine EL.aload_n (i := 0) dL_law_973 rfl rfl ?_
  refine EL.iload_n (i := 3) dL_law_974 rfl rfl ?_
  refine EL.iconst dL_law_975 ?_
  refine EL.iadd dL_law_976 ?_
  refine EL.sld (i + 1) (by omega) (by omega) hL dL_law_977 ?_
  refine EL.callV (d := 29) (ci := 6) (M' := mX6_sure) (as := [.int (zI (sc xs (i + 1)))]) (rest := []) ml_L_129 im_X6_sure se_X6_sure rfl co_X6_sure dL_law_978 (hX6 hA _ _) (c_X6_sure 25 hA hK hW hP hT (sc xs (i + 1)) (sc_in xs _)) (by decide) rfl rfl (Nat.le_of_ble_eq_true rfl) (Nat.zero_le _) (Nat.zero_le _) (fun v1 h1 q1 => ?_)
  obtain ⟨rfl, rfl⟩ := q1
  refine EL.sts (st' := [.int (zI (sureR F T (sc xs (i + 1))))]) rfl ?_
  refine EL.aload_n (i := 2) dL_law_981 rfl rfl ?_
  refine EL.aload_n (i := 0) dL_law_982 rfl rfl ?_
  refine EL.iload_n (i := 3) dL_law_983 rfl rfl ?_
  refine EL.iconst dL_law_984 ?_
  refine EL.iadd dL_law_985 ?_
  refine EL.sld (i + 1) (by omega) (by omega) hL dL_law_986 ?_
  refine EL.callV (d := 29) (ci := 7) (M' := mX7_sure) (as := [.int (zI (sc xs (i + 1)))]) (rest := [.int (zI (sureR F T (sc xs (i + 1))))]) ml_L_132 im_X7_sure se_X7_sure rfl co_X7_sure dL_law_987 (hX7 hA _ _) (c_X7_sure 26 (hMod hA) hW hK hP hT (sc xs (i + 1)) (sc_in xs _)) (by decide) rfl rfl (Nat.le_of_ble_eq_true rfl) (Nat.zero_le _) (Nat.zero_le _) (fun v2 h2 q2 => ?_)
  obtain ⟨rfl, rfl⟩ := q2
  refine EL.sts (st' := [.int (zI (sureR F T (sc xs (i + 1)))), .int (zI (sureR F T (sc xs (i + 1))))]) rfl ?_
  refine EL.eqv (t := 1195) dL_law_990 (by decide) ?_
  exact EL.kle (by omega) (by omega) (ih _ ⟨A, N, K, F, P, T, V, O, im, IL, la, ma, ik, rfl, rfl, hA, hK, hW, hP, hT, hI, hq, hk, rfl⟩)
set_option maxHeartbeats 4000000 in
set_option maxRecDepth 20000 in
theorem lc_chance (hL : L ≤ 256) {i : Nat} (hi : i + 4 ≤ L) (hs : SYS G ax am h) (ih : ∀ h' : Hp, SYS G ax am h' → EL G b L xs l 1195 [some (.ref b), some (.ref ax), some (.ref am), some (.int (zI (i : Int)))] [] h' kc ks) : EL G b L xs l 995 [some (.ref b), some (.ref ax), some (.ref am), some (.int (zI (i : Int)))] [] h (kc + 12) (ks + 106) := by
  obtain ⟨A, N, K, F, P, T, V, O, im, IL, la, ma, ik, rfl, rfl, hA, hK, hW, hP, hT, hI, hq, hk, rfl⟩ := hs
  refine EL.aload_n (i := 1) dL_law_995 rfl rfl ?_
  refine EL.aload_n (i := 0) dL_law_996 rfl rfl ?_
  refine EL.iload_n (i := 3) dL_law_997 rfl rfl ?_
  refine EL.iconst dL_law_998 ?_
  refine EL.iadd dL_law_999 ?_
  refine EL.sld (i + 1) (by omega) (by omega) hL dL_law_1000 ?_
  refine EL.aload_n (i := 0) dL_law_1001 rfl rfl ?_
  refine EL.iload_n (i := 3) dL_law_1002 rfl rfl ?_
  refine EL.iconst dL_law_1003 ?_
  refine EL.iadd dL_law_1004 ?_
  refine EL.sld (i + 2) (by omega) (by omega) hL dL_law_1005 ?_
  refine EL.aload_n (i := 0) dL_law_1006 rfl rfl ?_
  refine EL.iload_n (i := 3) dL_law_1007 rfl rfl ?_
  refine EL.iconst dL_law_1008 ?_
  refine EL.iadd dL_law_1009 ?_
  refine EL.sld (i + 3) (by omega) (by omega) hL dL_law_1010 ?_
  refine EL.callV (d := 29) (ci := 6) (M' := mX6_chance) (as := [.int (zI (sc xs (i + 1))), .int (zI (sc xs (i + 2))), .int (zI (sc xs (i + 3)))]) (rest := []) ml_L_133 im_X6_chance se_X6_chance rfl co_X6_chance dL_law_1011 (hX6 hA _ _) (c_X6_chance 25 hA hK hW hP hT (sc xs (i + 1)) (sc xs (i + 2)) (sc xs (i + 3)) (sc_in xs _) (sc_in xs _) (sc_in xs _)) (by decide) rfl rfl (Nat.le_of_ble_eq_true rfl) (Nat.zero_le _) (Nat.zero_le _) (fun v1 h1 q1 => ?_)
  obtain ⟨rfl, rfl⟩ := q1
  refine EL.sts (st' := [.long (chanceR (sc xs (i + 1)) (sc xs (i + 2)) (sc xs (i + 3)))]) rfl ?_
  refine EL.aload_n (i := 2) dL_law_1014 rfl rfl ?_
  refine EL.aload_n (i := 0) dL_law_1015 rfl rfl ?_
  refine EL.iload_n (i := 3) dL_law_1016 rfl rfl ?_
  refine EL.iconst dL_law_1017 ?_
  refine EL.iadd dL_law_1018 ?_
  refine EL.sld (i + 1) (by omega) (by omega) hL dL_law_1019 ?_
  refine EL.aload_n (i := 0) dL_law_1020 rfl rfl ?_
  refine EL.iload_n (i := 3) dL_law_1021 rfl rfl ?_
  refine EL.iconst dL_law_1022 ?_
  refine EL.iadd dL_law_1023 ?_
  refine EL.sld (i + 2) (by omega) (by omega) hL dL_law_1024 ?_
  refine EL.aload_n (i := 0) dL_law_1025 rfl rfl ?_
  refine EL.iload_n (i := 3) dL_law_1026 rfl rfl ?_
  refine EL.iconst dL_law_1027 ?_
  refine EL.iadd dL_law_1028 ?_
  refine EL.sld (i + 3) (by omega) (by omega) hL dL_law_1029 ?_
  refine EL.callV (d := 29) (ci := 7) (M' := mX7_chance) (as := [.int (zI (sc xs (i + 1))), .int (zI (sc xs (i + 2))), .int (zI (sc xs (i + 3)))]) (rest := [.long (chanceR (sc xs (i + 1)) (sc xs (i + 2)) (sc xs (i + 3)))]) ml_L_137 im_X7_chance se_X7_chance rfl co_X7_chance dL_law_1030 (hX7 hA _ _) (c_X7_chance 26 (hMod hA) hW hK hP hT (sc xs (i + 1)) (sc xs (i + 2)) (sc xs (i + 3)) (sc_in xs _) (sc_in xs _) (sc_in xs _)) (by decide) rfl rfl (Nat.le_of_ble_eq_true rfl) (Nat.zero_le _) (Nat.zero_le _) (fun v2 h2 q2 => ?_)
  obtain ⟨rfl, rfl⟩ := q2
  refine EL.sts (st' := [.long (chanceR (sc xs (i + 1)) (sc xs (i + 2)) (sc xs (i + 3))), .long (chanceR (sc xs (i + 1)) (sc xs (i + 2)) (sc xs (i + 3)))]) rfl ?_
  refine EL.eql (t := 1195) dL_law_1033 dL_law_1034 (by decide) ?_
  exact EL.kle (by omega) (by omega) (ih _ ⟨A, N, K, F, P, T, V, O, im, IL, la, ma, ik, rfl, rfl, hA, hK, hW, hP, hT, hI, hq, hk, rfl⟩)
set_option maxHeartbeats 4000000 in
set_option maxRecDepth 20000 in
theorem lc_shares (hL : L ≤ 256) {i : Nat} (hi : i + 4 ≤ L) (hs : SYS G ax am h) (ih : ∀ h' : Hp, SYS G ax am h' → EL G b L xs l 1195 [some (.ref b), some (.ref ax), some (.ref am), some (.int (zI (i : Int)))] [] h' kc ks) : EL G b L xs l 1039 [some (.ref b), some (.ref ax), some (.ref am), some (.int (zI (i : Int)))] [] h (kc + 12) (ks + 106) := by
  obtain ⟨A, N, K, F, P, T, V, O, im, IL, la, ma, ik, rfl, rfl, hA, hK, hW, hP, hT, hI, hq, hk, rfl⟩ := hs
  refine EL.aload_n (i := 1) dL_law_1039 rfl rfl ?_
  refine EL.aload_n (i := 0) dL_law_1040 rfl rfl ?_
  refine EL.iload_n (i := 3) dL_law_1041 rfl rfl ?_
  refine EL.iconst dL_law_1042 ?_
  refine EL.iadd dL_law_1043 ?_
  refine EL.sld (i + 1) (by omega) (by omega) hL dL_law_1044 ?_
  refine EL.aload_n (i := 0) dL_law_1045 rfl rfl ?_
  refine EL.iload_n (i := 3) dL_law_1046 rfl rfl ?_
  refine EL.iconst dL_law_1047 ?_
  refine EL.iadd dL_law_1048 ?_
  refine EL.sld (i + 2) (by omega) (by omega) hL dL_law_1049 ?_
  refine EL.aload_n (i := 0) dL_law_1050 rfl rfl ?_
  refine EL.iload_n (i := 3) dL_law_1051 rfl rfl ?_
  refine EL.iconst dL_law_1052 ?_
  refine EL.iadd dL_law_1053 ?_
  refine EL.sld (i + 3) (by omega) (by omega) hL dL_law_1054 ?_
  refine EL.callV (d := 29) (ci := 6) (M' := mX6_shares) (as := [.int (zI (sc xs (i + 1))), .int (zI (sc xs (i + 2))), .int (zI (sc xs (i + 3)))]) (rest := []) ml_L_138 im_X6_shares se_X6_shares rfl co_X6_shares dL_law_1055 (hX6 hA _ _) (c_X6_shares 25 hA hK hW hP hT (sc xs (i + 1)) (sc xs (i + 2)) (sc xs (i + 3)) (sc_in xs _) (sc_in xs _) (sc_in xs _)) (by decide) rfl rfl (Nat.le_of_ble_eq_true rfl) (Nat.zero_le _) (Nat.zero_le _) (fun v1 h1 q1 => ?_)
  obtain ⟨rfl, rfl⟩ := q1
  refine EL.sts (st' := [.long (sharesR F (sc xs (i + 1)) (sc xs (i + 2)) (sc xs (i + 3)))]) rfl ?_
  refine EL.aload_n (i := 2) dL_law_1058 rfl rfl ?_
  refine EL.aload_n (i := 0) dL_law_1059 rfl rfl ?_
  refine EL.iload_n (i := 3) dL_law_1060 rfl rfl ?_
  refine EL.iconst dL_law_1061 ?_
  refine EL.iadd dL_law_1062 ?_
  refine EL.sld (i + 1) (by omega) (by omega) hL dL_law_1063 ?_
  refine EL.aload_n (i := 0) dL_law_1064 rfl rfl ?_
  refine EL.iload_n (i := 3) dL_law_1065 rfl rfl ?_
  refine EL.iconst dL_law_1066 ?_
  refine EL.iadd dL_law_1067 ?_
  refine EL.sld (i + 2) (by omega) (by omega) hL dL_law_1068 ?_
  refine EL.aload_n (i := 0) dL_law_1069 rfl rfl ?_
  refine EL.iload_n (i := 3) dL_law_1070 rfl rfl ?_
  refine EL.iconst dL_law_1071 ?_
  refine EL.iadd dL_law_1072 ?_
  refine EL.sld (i + 3) (by omega) (by omega) hL dL_law_1073 ?_
  refine EL.callV (d := 29) (ci := 7) (M' := mX7_shares) (as := [.int (zI (sc xs (i + 1))), .int (zI (sc xs (i + 2))), .int (zI (sc xs (i + 3)))]) (rest := [.long (sharesR F (sc xs (i + 1)) (sc xs (i + 2)) (sc xs (i + 3)))]) ml_L_141 im_X7_shares se_X7_shares rfl co_X7_shares dL_law_1074 (hX7 hA _ _) (c_X7_shares 26 (hMod hA) hW hK hP hT (sc xs (i + 1)) (sc xs (i + 2)) (sc xs (i + 3)) (sc_in xs _) (sc_in xs _) (sc_in xs _)) (by decide) rfl rfl (Nat.le_of_ble_eq_true rfl) (Nat.zero_le _) (Nat.zero_le _) (fun v2 h2 q2 => ?_)
  obtain ⟨rfl, rfl⟩ := q2
  refine EL.sts (st' := [.long (sharesR F (sc xs (i + 1)) (sc xs (i + 2)) (sc xs (i + 3))), .long (sharesR F (sc xs (i + 1)) (sc xs (i + 2)) (sc xs (i + 3)))]) rfl ?_
  refine EL.eql (t := 1195) dL_law_1077 dL_law_1078 (by decide) ?_
  exact EL.kle (by omega) (by omega) (ih _ ⟨A, N, K, F, P, T, V, O, im, IL, la, ma, ik, rfl, rfl, hA, hK, hW, hP, hT, hI, hq, hk, rfl⟩)
set_option maxHeartbeats 4000000 in
set_option maxRecDepth 20000 in
theorem lc_year (hL : L ≤ 256) {i : Nat} (hi : i + 4 ≤ L) (hs : SYS G ax am h) (ih : ∀ h' : Hp, SYS G ax am h' → EL G b L xs l 1195 [some (.ref b), some (.ref ax), some (.ref am), some (.int (zI (i : Int)))] [] h' kc ks) : EL G b L xs l 1083 [some (.ref b), some (.ref ax), some (.ref am), some (.int (zI (i : Int)))] [] h (kc + 12) (ks + 106) := by
  obtain ⟨A, N, K, F, P, T, V, O, im, IL, la, ma, ik, rfl, rfl, hA, hK, hW, hP, hT, hI, hq, hk, rfl⟩ := hs
  refine EL.aload_n (i := 1) dL_law_1083 rfl rfl ?_
  refine EL.aload_n (i := 0) dL_law_1084 rfl rfl ?_
  refine EL.iload_n (i := 3) dL_law_1085 rfl rfl ?_
  refine EL.iconst dL_law_1086 ?_
  refine EL.iadd dL_law_1087 ?_
  refine EL.sld (i + 1) (by omega) (by omega) hL dL_law_1088 ?_
  refine EL.aload_n (i := 0) dL_law_1089 rfl rfl ?_
  refine EL.iload_n (i := 3) dL_law_1090 rfl rfl ?_
  refine EL.iconst dL_law_1091 ?_
  refine EL.iadd dL_law_1092 ?_
  refine EL.sld (i + 2) (by omega) (by omega) hL dL_law_1093 ?_
  refine EL.aload_n (i := 0) dL_law_1094 rfl rfl ?_
  refine EL.iload_n (i := 3) dL_law_1095 rfl rfl ?_
  refine EL.iconst dL_law_1096 ?_
  refine EL.iadd dL_law_1097 ?_
  refine EL.sld (i + 3) (by omega) (by omega) hL dL_law_1098 ?_
  refine EL.callV (d := 29) (ci := 6) (M' := mX6_year) (as := [.int (zI (sc xs (i + 1))), .int (zI (sc xs (i + 2))), .int (zI (sc xs (i + 3)))]) (rest := []) ml_L_142 im_X6_year se_X6_year rfl co_X6_year dL_law_1099 (hX6 hA _ _) (c_X6_year 24 hA hK hW hP hT (sc xs (i + 1)) (sc xs (i + 2)) (sc xs (i + 3)) (sc_in xs _) (sc_in xs _) (sc_in xs _)) (by decide) rfl rfl (Nat.le_of_ble_eq_true rfl) (Nat.zero_le _) (Nat.zero_le _) (fun v1 h1 q1 => ?_)
  obtain ⟨rfl, rfl⟩ := q1
  refine EL.sts (st' := [.int (zI (yearR F (sc xs (i + 1)) (sc xs (i + 2)) (sc xs (i + 3))))]) rfl ?_
  refine EL.aload_n (i := 2) dL_law_1102 rfl rfl ?_
  refine EL.aload_n (i := 0) dL_law_1103 rfl rfl ?_
  refine EL.iload_n (i := 3) dL_law_1104 rfl rfl ?_
  refine EL.iconst dL_law_1105 ?_
  refine EL.iadd dL_law_1106 ?_
  refine EL.sld (i + 1) (by omega) (by omega) hL dL_law_1107 ?_
  refine EL.aload_n (i := 0) dL_law_1108 rfl rfl ?_
  refine EL.iload_n (i := 3) dL_law_1109 rfl rfl ?_
  refine EL.iconst dL_law_1110 ?_
  refine EL.iadd dL_law_1111 ?_
  refine EL.sld (i + 2) (by omega) (by omega) hL dL_law_1112 ?_
  refine EL.aload_n (i := 0) dL_law_1113 rfl rfl ?_
  refine EL.iload_n (i := 3) dL_law_1114 rfl rfl ?_
  refine EL.iconst dL_law_1115 ?_
  refine EL.iadd dL_law_1116 ?_
  refine EL.sld (i + 3) (by omega) (by omega) hL dL_law_1117 ?_
  refine EL.callV (d := 29) (ci := 7) (M' := mX7_year) (as := [.int (zI (sc xs (i + 1))), .int (zI (sc xs (i + 2))), .int (zI (sc xs (i + 3)))]) (rest := [.int (zI (yearR F (sc xs (i + 1)) (sc xs (i + 2)) (sc xs (i + 3))))]) ml_L_145 im_X7_year se_X7_year rfl co_X7_year dL_law_1118 (hX7 hA _ _) (c_X7_year 26 (hMod hA) hW hK hP hT (sc xs (i + 1)) (sc xs (i + 2)) (sc xs (i + 3)) (sc_in xs _) (sc_in xs _) (sc_in xs _)) (by decide) rfl rfl (Nat.le_of_ble_eq_true rfl) (Nat.zero_le _) (Nat.zero_le _) (fun v2 h2 q2 => ?_)
  obtain ⟨rfl, rfl⟩ := q2
  refine EL.sts (st' := [.int (zI (yearR F (sc xs (i + 1)) (sc xs (i + 2)) (sc xs (i + 3)))), .int (zI (yearR F (sc xs (i + 1)) (sc xs (i + 2)) (sc xs (i + 3))))]) rfl ?_
  refine EL.eqv (t := 1195) dL_law_1121 (by decide) ?_
  exact EL.kle (by omega) (by omega) (ih _ ⟨A, N, K, F, P, T, V, O, im, IL, la, ma, ik, rfl, rfl, hA, hK, hW, hP, hT, hI, hq, hk, rfl⟩)
set_option maxHeartbeats 4000000 in
set_option maxRecDepth 20000 in
theorem lc_image (hL : L ≤ 256) {i : Nat} (hi : i + 4 ≤ L) (hs : SYS G ax am h) (ih : ∀ h' : Hp, SYS G ax am h' → EL G b L xs l 1195 [some (.ref b), some (.ref ax), some (.ref am), some (.int (zI (i : Int)))] [] h' kc ks) : EL G b L xs l 1126 [some (.ref b), some (.ref ax), some (.ref am), some (.int (zI (i : Int)))] [] h (kc + 12) (ks + 106) := by
  obtain ⟨A, N, K, F, P, T, V, O, im, IL, la, ma, ik, rfl, rfl, hA, hK, hW, hP, hT, hI, hq, hk, rfl⟩ := hs
  refine EL.aload_n (i := 1) dL_law_1126 rfl rfl ?_
  refine EL.aload_n (i := 0) dL_law_1127 rfl rfl ?_
  refine EL.iload_n (i := 3) dL_law_1128 rfl rfl ?_
  refine EL.iconst dL_law_1129 ?_
  refine EL.iadd dL_law_1130 ?_
  refine EL.sld (i + 1) (by omega) (by omega) hL dL_law_1131 ?_
  refine EL.callV (d := 29) (ci := 6) (M' := mX6_image) (as := [.int (zI (sc xs (i + 1)))]) (rest := []) ml_L_146 im_X6_image se_X6_image rfl co_X6_image dL_law_1132 (hX6 hA _ _) (c_X6_image 25 hA hK hW hP hT hI (sc xs (i + 1)) (sc_in xs _)) (by decide) rfl rfl (Nat.le_of_ble_eq_true rfl) (by omega) (by omega) (fun v1 h1 q1 => ?_)
  obtain ⟨rfl, A', N', im', IL', hNN, hAA, hA2, hI2, hk2, rfl⟩ := q1
  refine EL.sts (st' := [.int (zI (imgR (sc xs (i + 1))))]) rfl ?_
  have e0 : A' 0 = A 0 := hAA 0 (by have := hA.1; omega)
  have e11 : A' 11 = A 11 := hAA 11 (by have := hA.1; omega)
  rw [← e0, ← e11] at ih ⊢
  refine EL.aload_n (i := 2) dL_law_1135 rfl rfl ?_
  refine EL.aload_n (i := 0) dL_law_1136 rfl rfl ?_
  refine EL.iload_n (i := 3) dL_law_1137 rfl rfl ?_
  refine EL.iconst dL_law_1138 ?_
  refine EL.iadd dL_law_1139 ?_
  refine EL.sld (i + 1) (by omega) (by omega) hL dL_law_1140 ?_
  refine EL.callV (d := 29) (ci := 7) (M' := mX7_image) (as := [.int (zI (sc xs (i + 1)))]) (rest := [.int (zI (imgR (sc xs (i + 1))))]) ml_L_149 im_X7_image se_X7_image rfl co_X7_image dL_law_1141 (hX7 hA2 _ _) (c_X7_image 27 hA2 hK hW hP hT hq  (sc xs (i + 1)) (sc_in xs _)) (by decide) rfl rfl (Nat.le_of_ble_eq_true rfl) (Nat.zero_le _) (Nat.zero_le _) (fun v2 h2 q2 => ?_)
  obtain ⟨rfl, M2, ik2, hq2, rfl⟩ := q2
  refine EL.sts (st' := [.int (zI (imgR (sc xs (i + 1)))), .int (zI (imgR (sc xs (i + 1))))]) rfl ?_
  refine EL.eqv (t := 1195) dL_law_1144 (by decide) ?_
  exact EL.kle (by omega) (by omega) (ih _ ⟨A', N', K, F, P, T, V, O, im', IL', la, M2, ik2, rfl, rfl, hA2, hK, hW, hP, hT, hI2, by rw [hk2]; exact hq2, by rw [hk2]; exact imgK_W hk ⟨hW, hP, hT⟩, rfl⟩)
set_option maxHeartbeats 4000000 in
set_option maxRecDepth 20000 in
theorem lc_restore (hL : L ≤ 256) {i : Nat} (hi : i + 4 ≤ L) (hs : SYS G ax am h) (ih : ∀ h' : Hp, SYS G ax am h' → EL G b L xs l 1195 [some (.ref b), some (.ref ax), some (.ref am), some (.int (zI (i : Int)))] [] h' kc ks) : EL G b L xs l 1149 [some (.ref b), some (.ref ax), some (.ref am), some (.int (zI (i : Int)))] [] h (kc + 12) (ks + 106) := by
  obtain ⟨A, N, K, F, P, T, V, O, im, IL, la, ma, ik, rfl, rfl, hA, hK, hW, hP, hT, hI, hq, hk, rfl⟩ := hs
  refine EL.aload_n (i := 1) dL_law_1149 rfl rfl ?_
  refine EL.aload_n (i := 0) dL_law_1150 rfl rfl ?_
  refine EL.iload_n (i := 3) dL_law_1151 rfl rfl ?_
  refine EL.iconst dL_law_1152 ?_
  refine EL.iadd dL_law_1153 ?_
  refine EL.sld (i + 1) (by omega) (by omega) hL dL_law_1154 ?_
  refine EL.callV (d := 29) (ci := 6) (M' := mX6_restore) (as := [.int (zI (sc xs (i + 1)))]) (rest := []) ml_L_150 im_X6_restore se_X6_restore rfl co_X6_restore dL_law_1155 (hX6 hA _ _) (c_X6_restore 25 hA hK hW hP hT hI (sc xs (i + 1)) (sc_in xs _)) (by decide) rfl rfl (Nat.le_of_ble_eq_true rfl) (Nat.zero_le _) (Nat.zero_le _) (fun v1 h1 q1 => ?_)
  obtain ⟨rfl, rfl⟩ := q1
  refine EL.sts (st' := [.int (zI (restR (kp im IL) (sc xs (i + 1))))]) rfl ?_
  refine EL.aload_n (i := 2) dL_law_1158 rfl rfl ?_
  refine EL.aload_n (i := 0) dL_law_1159 rfl rfl ?_
  refine EL.iload_n (i := 3) dL_law_1160 rfl rfl ?_
  refine EL.iconst dL_law_1161 ?_
  refine EL.iadd dL_law_1162 ?_
  refine EL.sld (i + 1) (by omega) (by omega) hL dL_law_1163 ?_
  refine EL.callV (d := 29) (ci := 7) (M' := mX7_restore) (as := [.int (zI (sc xs (i + 1)))]) (rest := [.int (zI (restR (kp im IL) (sc xs (i + 1))))]) ml_L_153 im_X7_restore se_X7_restore rfl co_X7_restore dL_law_1164 (hX7 hA _ _) (c_X7_restore 27 hA hK hW hP hT hq  (sc xs (i + 1)) (sc_in xs _)) (by decide) rfl rfl (Nat.le_of_ble_eq_true rfl) (Nat.zero_le _) (Nat.zero_le _) (fun v2 h2 q2 => ?_)
  obtain ⟨rfl, rfl⟩ := q2
  refine EL.sts (st' := [.int (zI (restR (kp im IL) (sc xs (i + 1)))), .int (zI (restR (kp im IL) (sc xs (i + 1))))]) rfl ?_
  refine EL.eqv (t := 1195) dL_law_1167 (by decide) ?_
  exact EL.kle (by omega) (by omega) (ih _ ⟨A, N, K, (restL (kp im IL) (F, P, T) (sc xs (i + 1))).1, (restL (kp im IL) (F, P, T) (sc xs (i + 1))).2.1, (restL (kp im IL) (F, P, T) (sc xs (i + 1))).2.2, V, O, im, IL, la, ma, ik, rfl, rfl, hA, hK, (restL_W hk ⟨hW, hP, hT⟩).1, (restL_W hk ⟨hW, hP, hT⟩).2.1, (restL_W hk ⟨hW, hP, hT⟩).2.2, hI, hq, hk, rfl⟩)
set_option maxHeartbeats 4000000 in
set_option maxRecDepth 20000 in
theorem lc_told (hL : L ≤ 256) {i : Nat} (hi : i + 4 ≤ L) (hs : SYS G ax am h) (ih : ∀ h' : Hp, SYS G ax am h' → EL G b L xs l 1195 [some (.ref b), some (.ref ax), some (.ref am), some (.int (zI (i : Int)))] [] h' kc ks) : EL G b L xs l 1172 [some (.ref b), some (.ref ax), some (.ref am), some (.int (zI (i : Int)))] [] h (kc + 12) (ks + 106) := by
  obtain ⟨A, N, K, F, P, T, V, O, im, IL, la, ma, ik, rfl, rfl, hA, hK, hW, hP, hT, hI, hq, hk, rfl⟩ := hs
  refine EL.aload_n (i := 1) dL_law_1172 rfl rfl ?_
  refine EL.aload_n (i := 0) dL_law_1173 rfl rfl ?_
  refine EL.iload_n (i := 3) dL_law_1174 rfl rfl ?_
  refine EL.iconst dL_law_1175 ?_
  refine EL.iadd dL_law_1176 ?_
  refine EL.sld (i + 1) (by omega) (by omega) hL dL_law_1177 ?_
  refine EL.callV (d := 29) (ci := 6) (M' := mX6_told) (as := [.int (zI (sc xs (i + 1)))]) (rest := []) ml_L_154 im_X6_told se_X6_told rfl co_X6_told dL_law_1178 (hX6 hA _ _) (c_X6_told 24 hA hK hW hP hT (sc xs (i + 1)) (sc_in xs _)) (by decide) rfl rfl (Nat.le_of_ble_eq_true rfl) (Nat.zero_le _) (Nat.zero_le _) (fun v1 h1 q1 => ?_)
  obtain ⟨rfl, rfl⟩ := q1
  refine EL.sts (st' := [.int (zI (toldR K F P T (sc xs (i + 1))))]) rfl ?_
  refine EL.aload_n (i := 2) dL_law_1181 rfl rfl ?_
  refine EL.aload_n (i := 0) dL_law_1182 rfl rfl ?_
  refine EL.iload_n (i := 3) dL_law_1183 rfl rfl ?_
  refine EL.iconst dL_law_1184 ?_
  refine EL.iadd dL_law_1185 ?_
  refine EL.sld (i + 1) (by omega) (by omega) hL dL_law_1186 ?_
  refine EL.callV (d := 29) (ci := 7) (M' := mX7_told) (as := [.int (zI (sc xs (i + 1)))]) (rest := [.int (zI (toldR K F P T (sc xs (i + 1))))]) ml_L_157 im_X7_told se_X7_told rfl co_X7_told dL_law_1187 (hX7 hA _ _) (c_X7_told 26 (hMod hA) hW hK hP hT (sc xs (i + 1)) (sc_in xs _)) (by decide) rfl rfl (Nat.le_of_ble_eq_true rfl) (Nat.zero_le _) (Nat.zero_le _) (fun v2 h2 q2 => ?_)
  obtain ⟨rfl, rfl⟩ := q2
  refine EL.sts (st' := [.int (zI (toldR K F P T (sc xs (i + 1)))), .int (zI (toldR K F P T (sc xs (i + 1))))]) rfl ?_
  refine EL.eqv (t := 1195) dL_law_1190 (by decide) ?_
  exact EL.kle (by omega) (by omega) (ih _ ⟨A, N, K, F, P, T, V, O, im, IL, la, ma, ik, rfl, rfl, hA, hK, hW, hP, hT, hI, hq, hk, rfl⟩)
end
