theorem lw_in {i L : Nat} (hL : L ≤ 3584) {k : Nat} (hk : k < 7) (hi : i + 7 ≤ L) {z : Int32} (hz : nI k = z) : vp_in (nI i + z) L := by
  rw [← hz, nI_add]
  exact vp_in_nI (by omega) (by omega)
theorem lw_up {i : Nat} : nI i + Int32.ofInt 7 = nI (i + 7) := nI_add i 7
theorem lw_gt {i L : Nat} (hi : i ≤ L) (hL : L ≤ 3584) : nI L - 7 < nI i ↔ ¬ i + 7 ≤ L := by
  have e : (nI L - nI 7).toInt = (L : Int) - (7 : Nat) := pk_sub_toInt (by omega) (by decide)
  rw [Int32.lt_iff_toInt_lt, show (7 : Int32) = nI 7 from rfl, e, nI_toInt (by omega)]
  omega
theorem w_c_count (l : Launch) (G : xG) (nm : String) {P : State → Prop} {rt : Option FieldType} {Z : List Frame → Array Value → State → State → Prop} {b L : Nat} {xs : Nat → Int32} (hP : ∀ s, P s → xScr G b L xs s) (hL : L ≤ 3584) {i : Nat} (hi : i + 7 ≤ L) {I : xI} (hr : RI I) (kk : ∀ I, RI I → XW l G room_1 ⟨"RoundAndRoundLaw", nm, ""⟩ code 4 rt (xKL P) Z 75 (xm G xYf I) 75 4269 1768 [(0, .ref b), (1, .ref (xg G 0)), (2, .ref (xg G 59)), (3, .int (nI i))] []) : XW l G room_1 ⟨"RoundAndRoundLaw", nm, ""⟩ code 4 rt (xKL P) Z 75 (xm G xYf I) 75 4269 188 [(0, .ref b), (1, .ref (xg G 0)), (2, .ref (xg G 59)), (3, .int (nI i))] [] := by
  obtain ⟨J, J', v, cx, cm, hr'⟩ := s_count l G (d := 100) 75 (by decide) hr (xs (nI i + 1).toNatClampNeg)
  refine X_aload_n d_law_188 rfl rfl ?_
  refine X_aload_n d_law_189 rfl rfl ?_
  refine X_iload_n d_law_190 rfl rfl ?_
  refine X_iconst (v := 1) d_law_191 rfl ?_
  refine X_iadd d_law_192 ?_
  refine X_sldJ hP (lw_in hL (k := 1) (by decide) hi rfl) d_law_193 ?_
  refine X_callV (rest := []) cx lk_X_count ml_Law_13 (xm_obj rfl) rfl rfl (Nat.le_of_ble_eq_true rfl) ⟨(Nat.le_of_ble_eq_true rfl), (Nat.le_of_ble_eq_true rfl)⟩ ⟨(Nat.le_of_ble_eq_true rfl), (Nat.le_of_ble_eq_true rfl)⟩ d_law_194 rfl ?_
  refine X_aload_n d_law_197 rfl rfl ?_
  refine X_aload_n d_law_198 rfl rfl ?_
  refine X_iload_n d_law_199 rfl rfl ?_
  refine X_iconst (v := 1) d_law_200 rfl ?_
  refine X_iadd d_law_201 ?_
  refine X_sldJ hP (lw_in hL (k := 1) (by decide) hi rfl) d_law_202 ?_
  refine X_callV (rest := [.int v]) cm lk_Model_count ml_Law_17 (xm_obj rfl) rfl rfl (Nat.le_of_ble_eq_true rfl) ⟨(Nat.le_of_ble_eq_true rfl), (Nat.le_of_ble_eq_true rfl)⟩ ⟨(Nat.le_of_ble_eq_true rfl), (Nat.le_of_ble_eq_true rfl)⟩ d_law_203 rfl ?_
  exact X_icmp_eq (tgt := 1768) d_law_206 (by decide) (fun _ => kk J' hr') (fun hne => absurd rfl hne)
theorem w_c_feed (l : Launch) (G : xG) (nm : String) {P : State → Prop} {rt : Option FieldType} {Z : List Frame → Array Value → State → State → Prop} {b L : Nat} {xs : Nat → Int32} (hP : ∀ s, P s → xScr G b L xs s) (hL : L ≤ 3584) {i : Nat} (hi : i + 7 ≤ L) {I : xI} (hr : RI I) (kk : ∀ I, RI I → XW l G room_1 ⟨"RoundAndRoundLaw", nm, ""⟩ code 4 rt (xKL P) Z 75 (xm G xYf I) 75 4269 1768 [(0, .ref b), (1, .ref (xg G 0)), (2, .ref (xg G 59)), (3, .int (nI i))] []) : XW l G room_1 ⟨"RoundAndRoundLaw", nm, ""⟩ code 4 rt (xKL P) Z 75 (xm G xYf I) 75 4269 211 [(0, .ref b), (1, .ref (xg G 0)), (2, .ref (xg G 59)), (3, .int (nI i))] [] := by
  obtain ⟨J, J', v, cx, cm, hr'⟩ := s_feed l G (d := 100) 75 (by decide) hr (xs (nI i + 1).toNatClampNeg) (xs (nI i + 2).toNatClampNeg) (xs (nI i + 3).toNatClampNeg) (xs (nI i + 4).toNatClampNeg) (xs (nI i + 5).toNatClampNeg) (xs (nI i + 6).toNatClampNeg)
  refine X_aload_n d_law_211 rfl rfl ?_
  refine X_aload_n d_law_212 rfl rfl ?_
  refine X_iload_n d_law_213 rfl rfl ?_
  refine X_iconst (v := 1) d_law_214 rfl ?_
  refine X_iadd d_law_215 ?_
  refine X_sldJ hP (lw_in hL (k := 1) (by decide) hi rfl) d_law_216 ?_
  refine X_aload_n d_law_217 rfl rfl ?_
  refine X_iload_n d_law_218 rfl rfl ?_
  refine X_iconst (v := 2) d_law_219 rfl ?_
  refine X_iadd d_law_220 ?_
  refine X_sldJ hP (lw_in hL (k := 2) (by decide) hi rfl) d_law_221 ?_
  refine X_aload_n d_law_222 rfl rfl ?_
  refine X_iload_n d_law_223 rfl rfl ?_
  refine X_iconst (v := 3) d_law_224 rfl ?_
  refine X_iadd d_law_225 ?_
  refine X_sldJ hP (lw_in hL (k := 3) (by decide) hi rfl) d_law_226 ?_
  refine X_aload_n d_law_227 rfl rfl ?_
  refine X_iload_n d_law_228 rfl rfl ?_
  refine X_iconst (v := 4) d_law_229 rfl ?_
  refine X_iadd d_law_230 ?_
  refine X_sldJ hP (lw_in hL (k := 4) (by decide) hi rfl) d_law_231 ?_
  refine X_aload_n d_law_232 rfl rfl ?_
  refine X_iload_n d_law_233 rfl rfl ?_
  refine X_iconst (v := 5) d_law_234 rfl ?_
  refine X_iadd d_law_235 ?_
  refine X_sldJ hP (lw_in hL (k := 5) (by decide) hi rfl) d_law_236 ?_
  refine X_aload_n d_law_237 rfl rfl ?_
  refine X_iload_n d_law_238 rfl rfl ?_
  refine X_bipush (v := 6) d_law_239 rfl ?_
  refine X_iadd d_law_241 ?_
  refine X_sldJ hP (lw_in hL (k := 6) (by decide) hi rfl) d_law_242 ?_
  refine X_callV (rest := []) cx lk_X_feed ml_Law_18 (xm_obj rfl) rfl rfl (Nat.le_of_ble_eq_true rfl) ⟨(Nat.le_of_ble_eq_true rfl), (Nat.le_of_ble_eq_true rfl)⟩ ⟨(Nat.le_of_ble_eq_true rfl), (Nat.le_of_ble_eq_true rfl)⟩ d_law_243 rfl ?_
  refine X_aload_n d_law_246 rfl rfl ?_
  refine X_aload_n d_law_247 rfl rfl ?_
  refine X_iload_n d_law_248 rfl rfl ?_
  refine X_iconst (v := 1) d_law_249 rfl ?_
  refine X_iadd d_law_250 ?_
  refine X_sldJ hP (lw_in hL (k := 1) (by decide) hi rfl) d_law_251 ?_
  refine X_aload_n d_law_252 rfl rfl ?_
  refine X_iload_n d_law_253 rfl rfl ?_
  refine X_iconst (v := 2) d_law_254 rfl ?_
  refine X_iadd d_law_255 ?_
  refine X_sldJ hP (lw_in hL (k := 2) (by decide) hi rfl) d_law_256 ?_
  refine X_aload_n d_law_257 rfl rfl ?_
  refine X_iload_n d_law_258 rfl rfl ?_
  refine X_iconst (v := 3) d_law_259 rfl ?_
  refine X_iadd d_law_260 ?_
  refine X_sldJ hP (lw_in hL (k := 3) (by decide) hi rfl) d_law_261 ?_
  refine X_aload_n d_law_262 rfl rfl ?_
  refine X_iload_n d_law_263 rfl rfl ?_
  refine X_iconst (v := 4) d_law_264 rfl ?_
  refine X_iadd d_law_265 ?_
  refine X_sldJ hP (lw_in hL (k := 4) (by decide) hi rfl) d_law_266 ?_
  refine X_aload_n d_law_267 rfl rfl ?_
  refine X_iload_n d_law_268 rfl rfl ?_
  refine X_iconst (v := 5) d_law_269 rfl ?_
  refine X_iadd d_law_270 ?_
  refine X_sldJ hP (lw_in hL (k := 5) (by decide) hi rfl) d_law_271 ?_
  refine X_aload_n d_law_272 rfl rfl ?_
  refine X_iload_n d_law_273 rfl rfl ?_
  refine X_bipush (v := 6) d_law_274 rfl ?_
  refine X_iadd d_law_276 ?_
  refine X_sldJ hP (lw_in hL (k := 6) (by decide) hi rfl) d_law_277 ?_
  refine X_callV (rest := [.int v]) cm lk_Model_feed ml_Law_22 (xm_obj rfl) rfl rfl (Nat.le_of_ble_eq_true rfl) ⟨(Nat.le_of_ble_eq_true rfl), (Nat.le_of_ble_eq_true rfl)⟩ ⟨(Nat.le_of_ble_eq_true rfl), (Nat.le_of_ble_eq_true rfl)⟩ d_law_278 rfl ?_
  exact X_icmp_eq (tgt := 1768) d_law_281 (by decide) (fun _ => kk J' hr') (fun hne => absurd rfl hne)
theorem w_c_text (l : Launch) (G : xG) (nm : String) {P : State → Prop} {rt : Option FieldType} {Z : List Frame → Array Value → State → State → Prop} {b L : Nat} {xs : Nat → Int32} (hP : ∀ s, P s → xScr G b L xs s) (hL : L ≤ 3584) {i : Nat} (hi : i + 7 ≤ L) {I : xI} (hr : RI I) (kk : ∀ I, RI I → XW l G room_1 ⟨"RoundAndRoundLaw", nm, ""⟩ code 4 rt (xKL P) Z 75 (xm G xYf I) 75 4269 1768 [(0, .ref b), (1, .ref (xg G 0)), (2, .ref (xg G 59)), (3, .int (nI i))] []) : XW l G room_1 ⟨"RoundAndRoundLaw", nm, ""⟩ code 4 rt (xKL P) Z 75 (xm G xYf I) 75 4269 286 [(0, .ref b), (1, .ref (xg G 0)), (2, .ref (xg G 59)), (3, .int (nI i))] [] := by
  obtain ⟨J, J', v, cx, cm, hr'⟩ := s_text l G (d := 100) 75 (by decide) hr
  refine X_aload_n d_law_286 rfl rfl ?_
  refine X_callV (rest := []) cx lk_X_text ml_Law_23 (xm_obj rfl) rfl rfl (Nat.le_of_ble_eq_true rfl) ⟨(Nat.le_of_ble_eq_true rfl), (Nat.le_of_ble_eq_true rfl)⟩ ⟨(Nat.le_of_ble_eq_true rfl), (Nat.le_of_ble_eq_true rfl)⟩ d_law_287 rfl ?_
  refine X_aload_n d_law_290 rfl rfl ?_
  refine X_callV (rest := [.int v]) cm lk_Model_text ml_Law_27 (xm_obj rfl) rfl rfl (Nat.le_of_ble_eq_true rfl) ⟨(Nat.le_of_ble_eq_true rfl), (Nat.le_of_ble_eq_true rfl)⟩ ⟨(Nat.le_of_ble_eq_true rfl), (Nat.le_of_ble_eq_true rfl)⟩ d_law_291 rfl ?_
  exact X_icmp_eq (tgt := 1768) d_law_294 (by decide) (fun _ => kk J' hr') (fun hne => absurd rfl hne)
theorem w_c_force (l : Launch) (G : xG) (nm : String) {P : State → Prop} {rt : Option FieldType} {Z : List Frame → Array Value → State → State → Prop} {b L : Nat} {xs : Nat → Int32} (hP : ∀ s, P s → xScr G b L xs s) (hL : L ≤ 3584) {i : Nat} (hi : i + 7 ≤ L) {I : xI} (hr : RI I) (kk : ∀ I, RI I → XW l G room_1 ⟨"RoundAndRoundLaw", nm, ""⟩ code 4 rt (xKL P) Z 75 (xm G xYf I) 75 4269 1768 [(0, .ref b), (1, .ref (xg G 0)), (2, .ref (xg G 59)), (3, .int (nI i))] []) : XW l G room_1 ⟨"RoundAndRoundLaw", nm, ""⟩ code 4 rt (xKL P) Z 75 (xm G xYf I) 75 4269 299 [(0, .ref b), (1, .ref (xg G 0)), (2, .ref (xg G 59)), (3, .int (nI i))] [] := by
  obtain ⟨J, J', v, cx, cm, hr'⟩ := s_force l G (d := 100) 75 (by decide) hr (xs (nI i + 1).toNatClampNeg)
  refine X_aload_n d_law_299 rfl rfl ?_
  refine X_aload_n d_law_300 rfl rfl ?_
  refine X_iload_n d_law_301 rfl rfl ?_
  refine X_iconst (v := 1) d_law_302 rfl ?_
  refine X_iadd d_law_303 ?_
  refine X_sldJ hP (lw_in hL (k := 1) (by decide) hi rfl) d_law_304 ?_
  refine X_callV (rest := []) cx lk_X_force ml_Law_28 (xm_obj rfl) rfl rfl (Nat.le_of_ble_eq_true rfl) ⟨(Nat.le_of_ble_eq_true rfl), (Nat.le_of_ble_eq_true rfl)⟩ ⟨(Nat.le_of_ble_eq_true rfl), (Nat.le_of_ble_eq_true rfl)⟩ d_law_305 rfl ?_
  refine X_aload_n d_law_308 rfl rfl ?_
  refine X_aload_n d_law_309 rfl rfl ?_
  refine X_iload_n d_law_310 rfl rfl ?_
  refine X_iconst (v := 1) d_law_311 rfl ?_
  refine X_iadd d_law_312 ?_
  refine X_sldJ hP (lw_in hL (k := 1) (by decide) hi rfl) d_law_313 ?_
  refine X_callV (rest := [.int v]) cm lk_Model_force ml_Law_31 (xm_obj rfl) rfl rfl (Nat.le_of_ble_eq_true rfl) ⟨(Nat.le_of_ble_eq_true rfl), (Nat.le_of_ble_eq_true rfl)⟩ ⟨(Nat.le_of_ble_eq_true rfl), (Nat.le_of_ble_eq_true rfl)⟩ d_law_314 rfl ?_
  exact X_icmp_eq (tgt := 1768) d_law_317 (by decide) (fun _ => kk J' hr') (fun hne => absurd rfl hne)
theorem w_c_asks (l : Launch) (G : xG) (nm : String) {P : State → Prop} {rt : Option FieldType} {Z : List Frame → Array Value → State → State → Prop} {b L : Nat} {xs : Nat → Int32} (hP : ∀ s, P s → xScr G b L xs s) (hL : L ≤ 3584) {i : Nat} (hi : i + 7 ≤ L) {I : xI} (hr : RI I) (kk : ∀ I, RI I → XW l G room_1 ⟨"RoundAndRoundLaw", nm, ""⟩ code 4 rt (xKL P) Z 75 (xm G xYf I) 75 4269 1768 [(0, .ref b), (1, .ref (xg G 0)), (2, .ref (xg G 59)), (3, .int (nI i))] []) : XW l G room_1 ⟨"RoundAndRoundLaw", nm, ""⟩ code 4 rt (xKL P) Z 75 (xm G xYf I) 75 4269 322 [(0, .ref b), (1, .ref (xg G 0)), (2, .ref (xg G 59)), (3, .int (nI i))] [] := by
  obtain ⟨J, J', v, cx, cm, hr'⟩ := s_asks l G (d := 100) 75 (by decide) hr (xs (nI i + 1).toNatClampNeg) (xs (nI i + 2).toNatClampNeg) (xs (nI i + 3).toNatClampNeg)
  refine X_aload_n d_law_322 rfl rfl ?_
  refine X_aload_n d_law_323 rfl rfl ?_
  refine X_iload_n d_law_324 rfl rfl ?_
  refine X_iconst (v := 1) d_law_325 rfl ?_
  refine X_iadd d_law_326 ?_
  refine X_sldJ hP (lw_in hL (k := 1) (by decide) hi rfl) d_law_327 ?_
  refine X_aload_n d_law_328 rfl rfl ?_
  refine X_iload_n d_law_329 rfl rfl ?_
  refine X_iconst (v := 2) d_law_330 rfl ?_
  refine X_iadd d_law_331 ?_
  refine X_sldJ hP (lw_in hL (k := 2) (by decide) hi rfl) d_law_332 ?_
  refine X_aload_n d_law_333 rfl rfl ?_
  refine X_iload_n d_law_334 rfl rfl ?_
  refine X_iconst (v := 3) d_law_335 rfl ?_
  refine X_iadd d_law_336 ?_
  refine X_sldJ hP (lw_in hL (k := 3) (by decide) hi rfl) d_law_337 ?_
  refine X_callV (rest := []) cx lk_X_asks ml_Law_32 (xm_obj rfl) rfl rfl (Nat.le_of_ble_eq_true rfl) ⟨(Nat.le_of_ble_eq_true rfl), (Nat.le_of_ble_eq_true rfl)⟩ ⟨(Nat.le_of_ble_eq_true rfl), (Nat.le_of_ble_eq_true rfl)⟩ d_law_338 rfl ?_
  refine X_aload_n d_law_341 rfl rfl ?_
  refine X_aload_n d_law_342 rfl rfl ?_
  refine X_iload_n d_law_343 rfl rfl ?_
  refine X_iconst (v := 1) d_law_344 rfl ?_
  refine X_iadd d_law_345 ?_
  refine X_sldJ hP (lw_in hL (k := 1) (by decide) hi rfl) d_law_346 ?_
  refine X_aload_n d_law_347 rfl rfl ?_
  refine X_iload_n d_law_348 rfl rfl ?_
  refine X_iconst (v := 2) d_law_349 rfl ?_
  refine X_iadd d_law_350 ?_
  refine X_sldJ hP (lw_in hL (k := 2) (by decide) hi rfl) d_law_351 ?_
  refine X_aload_n d_law_352 rfl rfl ?_
  refine X_iload_n d_law_353 rfl rfl ?_
  refine X_iconst (v := 3) d_law_354 rfl ?_
  refine X_iadd d_law_355 ?_
  refine X_sldJ hP (lw_in hL (k := 3) (by decide) hi rfl) d_law_356 ?_
  refine X_callV (rest := [.int v]) cm lk_Model_asks ml_Law_36 (xm_obj rfl) rfl rfl (Nat.le_of_ble_eq_true rfl) ⟨(Nat.le_of_ble_eq_true rfl), (Nat.le_of_ble_eq_true rfl)⟩ ⟨(Nat.le_of_ble_eq_true rfl), (Nat.le_of_ble_eq_true rfl)⟩ d_law_357 rfl ?_
  exact X_icmp_eq (tgt := 1768) d_law_360 (by decide) (fun _ => kk J' hr') (fun hne => absurd rfl hne)
theorem w_c_head (l : Launch) (G : xG) (nm : String) {P : State → Prop} {rt : Option FieldType} {Z : List Frame → Array Value → State → State → Prop} {b L : Nat} {xs : Nat → Int32} (hP : ∀ s, P s → xScr G b L xs s) (hL : L ≤ 3584) {i : Nat} (hi : i + 7 ≤ L) {I : xI} (hr : RI I) (kk : ∀ I, RI I → XW l G room_1 ⟨"RoundAndRoundLaw", nm, ""⟩ code 4 rt (xKL P) Z 75 (xm G xYf I) 75 4269 1768 [(0, .ref b), (1, .ref (xg G 0)), (2, .ref (xg G 59)), (3, .int (nI i))] []) : XW l G room_1 ⟨"RoundAndRoundLaw", nm, ""⟩ code 4 rt (xKL P) Z 75 (xm G xYf I) 75 4269 365 [(0, .ref b), (1, .ref (xg G 0)), (2, .ref (xg G 59)), (3, .int (nI i))] [] := by
  obtain ⟨J, J', v, cx, cm, hr'⟩ := s_head l G (d := 100) 75 (by decide) hr (xs (nI i + 1).toNatClampNeg) (xs (nI i + 2).toNatClampNeg)
  refine X_aload_n d_law_365 rfl rfl ?_
  refine X_aload_n d_law_366 rfl rfl ?_
  refine X_iload_n d_law_367 rfl rfl ?_
  refine X_iconst (v := 1) d_law_368 rfl ?_
  refine X_iadd d_law_369 ?_
  refine X_sldJ hP (lw_in hL (k := 1) (by decide) hi rfl) d_law_370 ?_
  refine X_aload_n d_law_371 rfl rfl ?_
  refine X_iload_n d_law_372 rfl rfl ?_
  refine X_iconst (v := 2) d_law_373 rfl ?_
  refine X_iadd d_law_374 ?_
  refine X_sldJ hP (lw_in hL (k := 2) (by decide) hi rfl) d_law_375 ?_
  refine X_callV (rest := []) cx lk_X_head ml_Law_37 (xm_obj rfl) rfl rfl (Nat.le_of_ble_eq_true rfl) ⟨(Nat.le_of_ble_eq_true rfl), (Nat.le_of_ble_eq_true rfl)⟩ ⟨(Nat.le_of_ble_eq_true rfl), (Nat.le_of_ble_eq_true rfl)⟩ d_law_376 rfl ?_
  refine X_aload_n d_law_379 rfl rfl ?_
  refine X_aload_n d_law_380 rfl rfl ?_
  refine X_iload_n d_law_381 rfl rfl ?_
  refine X_iconst (v := 1) d_law_382 rfl ?_
  refine X_iadd d_law_383 ?_
  refine X_sldJ hP (lw_in hL (k := 1) (by decide) hi rfl) d_law_384 ?_
  refine X_aload_n d_law_385 rfl rfl ?_
  refine X_iload_n d_law_386 rfl rfl ?_
  refine X_iconst (v := 2) d_law_387 rfl ?_
  refine X_iadd d_law_388 ?_
  refine X_sldJ hP (lw_in hL (k := 2) (by decide) hi rfl) d_law_389 ?_
  refine X_callV (rest := [.int v]) cm lk_Model_head ml_Law_41 (xm_obj rfl) rfl rfl (Nat.le_of_ble_eq_true rfl) ⟨(Nat.le_of_ble_eq_true rfl), (Nat.le_of_ble_eq_true rfl)⟩ ⟨(Nat.le_of_ble_eq_true rfl), (Nat.le_of_ble_eq_true rfl)⟩ d_law_390 rfl ?_
  exact X_icmp_eq (tgt := 1768) d_law_393 (by decide) (fun _ => kk J' hr') (fun hne => absurd rfl hne)
theorem w_c_set (l : Launch) (G : xG) (nm : String) {P : State → Prop} {rt : Option FieldType} {Z : List Frame → Array Value → State → State → Prop} {b L : Nat} {xs : Nat → Int32} (hP : ∀ s, P s → xScr G b L xs s) (hL : L ≤ 3584) {i : Nat} (hi : i + 7 ≤ L) {I : xI} (hr : RI I) (kk : ∀ I, RI I → XW l G room_1 ⟨"RoundAndRoundLaw", nm, ""⟩ code 4 rt (xKL P) Z 75 (xm G xYf I) 75 4269 1768 [(0, .ref b), (1, .ref (xg G 0)), (2, .ref (xg G 59)), (3, .int (nI i))] []) : XW l G room_1 ⟨"RoundAndRoundLaw", nm, ""⟩ code 4 rt (xKL P) Z 75 (xm G xYf I) 75 4269 398 [(0, .ref b), (1, .ref (xg G 0)), (2, .ref (xg G 59)), (3, .int (nI i))] [] := by
  obtain ⟨J, J', v, cx, cm, hr'⟩ := s_set l G (d := 100) 75 (by decide) hr (xs (nI i + 1).toNatClampNeg) (xs (nI i + 2).toNatClampNeg) (xs (nI i + 3).toNatClampNeg)
  refine X_aload_n d_law_398 rfl rfl ?_
  refine X_aload_n d_law_399 rfl rfl ?_
  refine X_iload_n d_law_400 rfl rfl ?_
  refine X_iconst (v := 1) d_law_401 rfl ?_
  refine X_iadd d_law_402 ?_
  refine X_sldJ hP (lw_in hL (k := 1) (by decide) hi rfl) d_law_403 ?_
  refine X_aload_n d_law_404 rfl rfl ?_
  refine X_iload_n d_law_405 rfl rfl ?_
  refine X_iconst (v := 2) d_law_406 rfl ?_
  refine X_iadd d_law_407 ?_
  refine X_sldJ hP (lw_in hL (k := 2) (by decide) hi rfl) d_law_408 ?_
  refine X_aload_n d_law_409 rfl rfl ?_
  refine X_iload_n d_law_410 rfl rfl ?_
  refine X_iconst (v := 3) d_law_411 rfl ?_
  refine X_iadd d_law_412 ?_
  refine X_sldJ hP (lw_in hL (k := 3) (by decide) hi rfl) d_law_413 ?_
  refine X_callV (rest := []) cx lk_X_set ml_Law_42 (xm_obj rfl) rfl rfl (Nat.le_of_ble_eq_true rfl) ⟨(Nat.le_of_ble_eq_true rfl), (Nat.le_of_ble_eq_true rfl)⟩ ⟨(Nat.le_of_ble_eq_true rfl), (Nat.le_of_ble_eq_true rfl)⟩ d_law_414 rfl ?_
  refine X_aload_n d_law_417 rfl rfl ?_
  refine X_aload_n d_law_418 rfl rfl ?_
  refine X_iload_n d_law_419 rfl rfl ?_
  refine X_iconst (v := 1) d_law_420 rfl ?_
  refine X_iadd d_law_421 ?_
  refine X_sldJ hP (lw_in hL (k := 1) (by decide) hi rfl) d_law_422 ?_
  refine X_aload_n d_law_423 rfl rfl ?_
  refine X_iload_n d_law_424 rfl rfl ?_
  refine X_iconst (v := 2) d_law_425 rfl ?_
  refine X_iadd d_law_426 ?_
  refine X_sldJ hP (lw_in hL (k := 2) (by decide) hi rfl) d_law_427 ?_
  refine X_aload_n d_law_428 rfl rfl ?_
  refine X_iload_n d_law_429 rfl rfl ?_
  refine X_iconst (v := 3) d_law_430 rfl ?_
  refine X_iadd d_law_431 ?_
  refine X_sldJ hP (lw_in hL (k := 3) (by decide) hi rfl) d_law_432 ?_
  refine X_callV (rest := [.int v]) cm lk_Model_set ml_Law_45 (xm_obj rfl) rfl rfl (Nat.le_of_ble_eq_true rfl) ⟨(Nat.le_of_ble_eq_true rfl), (Nat.le_of_ble_eq_true rfl)⟩ ⟨(Nat.le_of_ble_eq_true rfl), (Nat.le_of_ble_eq_true rfl)⟩ d_law_433 rfl ?_
  exact X_icmp_eq (tgt := 1768) d_law_436 (by decide) (fun _ => kk J' hr') (fun hne => absurd rfl hne)
theorem w_c_told (l : Launch) (G : xG) (nm : String) {P : State → Prop} {rt : Option FieldType} {Z : List Frame → Array Value → State → State → Prop} {b L : Nat} {xs : Nat → Int32} (hP : ∀ s, P s → xScr G b L xs s) (hL : L ≤ 3584) {i : Nat} (hi : i + 7 ≤ L) {I : xI} (hr : RI I) (kk : ∀ I, RI I → XW l G room_1 ⟨"RoundAndRoundLaw", nm, ""⟩ code 4 rt (xKL P) Z 75 (xm G xYf I) 75 4269 1768 [(0, .ref b), (1, .ref (xg G 0)), (2, .ref (xg G 59)), (3, .int (nI i))] []) : XW l G room_1 ⟨"RoundAndRoundLaw", nm, ""⟩ code 4 rt (xKL P) Z 75 (xm G xYf I) 75 4269 441 [(0, .ref b), (1, .ref (xg G 0)), (2, .ref (xg G 59)), (3, .int (nI i))] [] := by
  obtain ⟨J, J', v, cx, cm, hr'⟩ := s_told l G (d := 100) 75 (by decide) hr (xs (nI i + 1).toNatClampNeg) (xs (nI i + 2).toNatClampNeg)
  refine X_aload_n d_law_441 rfl rfl ?_
  refine X_aload_n d_law_442 rfl rfl ?_
  refine X_iload_n d_law_443 rfl rfl ?_
  refine X_iconst (v := 1) d_law_444 rfl ?_
  refine X_iadd d_law_445 ?_
  refine X_sldJ hP (lw_in hL (k := 1) (by decide) hi rfl) d_law_446 ?_
  refine X_aload_n d_law_447 rfl rfl ?_
  refine X_iload_n d_law_448 rfl rfl ?_
  refine X_iconst (v := 2) d_law_449 rfl ?_
  refine X_iadd d_law_450 ?_
  refine X_sldJ hP (lw_in hL (k := 2) (by decide) hi rfl) d_law_451 ?_
  refine X_callV (rest := []) cx lk_X_told ml_Law_46 (xm_obj rfl) rfl rfl (Nat.le_of_ble_eq_true rfl) ⟨(Nat.le_of_ble_eq_true rfl), (Nat.le_of_ble_eq_true rfl)⟩ ⟨(Nat.le_of_ble_eq_true rfl), (Nat.le_of_ble_eq_true rfl)⟩ d_law_452 rfl ?_
  refine X_aload_n d_law_455 rfl rfl ?_
  refine X_aload_n d_law_456 rfl rfl ?_
  refine X_iload_n d_law_457 rfl rfl ?_
  refine X_iconst (v := 1) d_law_458 rfl ?_
  refine X_iadd d_law_459 ?_
  refine X_sldJ hP (lw_in hL (k := 1) (by decide) hi rfl) d_law_460 ?_
  refine X_aload_n d_law_461 rfl rfl ?_
  refine X_iload_n d_law_462 rfl rfl ?_
  refine X_iconst (v := 2) d_law_463 rfl ?_
  refine X_iadd d_law_464 ?_
  refine X_sldJ hP (lw_in hL (k := 2) (by decide) hi rfl) d_law_465 ?_
  refine X_callV (rest := [.int v]) cm lk_Model_told ml_Law_49 (xm_obj rfl) rfl rfl (Nat.le_of_ble_eq_true rfl) ⟨(Nat.le_of_ble_eq_true rfl), (Nat.le_of_ble_eq_true rfl)⟩ ⟨(Nat.le_of_ble_eq_true rfl), (Nat.le_of_ble_eq_true rfl)⟩ d_law_466 rfl ?_
  exact X_icmp_eq (tgt := 1768) d_law_469 (by decide) (fun _ => kk J' hr') (fun hne => absurd rfl hne)
theorem w_c_turn (l : Launch) (G : xG) (nm : String) {P : State → Prop} {rt : Option FieldType} {Z : List Frame → Array Value → State → State → Prop} {b L : Nat} {xs : Nat → Int32} (hP : ∀ s, P s → xScr G b L xs s) (hL : L ≤ 3584) {i : Nat} (hi : i + 7 ≤ L) {I : xI} (hr : RI I) (kk : ∀ I, RI I → XW l G room_1 ⟨"RoundAndRoundLaw", nm, ""⟩ code 4 rt (xKL P) Z 75 (xm G xYf I) 75 4269 1768 [(0, .ref b), (1, .ref (xg G 0)), (2, .ref (xg G 59)), (3, .int (nI i))] []) : XW l G room_1 ⟨"RoundAndRoundLaw", nm, ""⟩ code 4 rt (xKL P) Z 75 (xm G xYf I) 75 4269 474 [(0, .ref b), (1, .ref (xg G 0)), (2, .ref (xg G 59)), (3, .int (nI i))] [] := by
  obtain ⟨J, J', v, cx, cm, hr'⟩ := s_turn l G (d := 100) 75 (by decide) hr (xs (nI i + 1).toNatClampNeg) (xs (nI i + 2).toNatClampNeg) (xs (nI i + 3).toNatClampNeg)
  refine X_aload_n d_law_474 rfl rfl ?_
  refine X_aload_n d_law_475 rfl rfl ?_
  refine X_iload_n d_law_476 rfl rfl ?_
  refine X_iconst (v := 1) d_law_477 rfl ?_
  refine X_iadd d_law_478 ?_
  refine X_sldJ hP (lw_in hL (k := 1) (by decide) hi rfl) d_law_479 ?_
  refine X_aload_n d_law_480 rfl rfl ?_
  refine X_iload_n d_law_481 rfl rfl ?_
  refine X_iconst (v := 2) d_law_482 rfl ?_
  refine X_iadd d_law_483 ?_
  refine X_sldJ hP (lw_in hL (k := 2) (by decide) hi rfl) d_law_484 ?_
  refine X_aload_n d_law_485 rfl rfl ?_
  refine X_iload_n d_law_486 rfl rfl ?_
  refine X_iconst (v := 3) d_law_487 rfl ?_
  refine X_iadd d_law_488 ?_
  refine X_sldJ hP (lw_in hL (k := 3) (by decide) hi rfl) d_law_489 ?_
  refine X_callV (rest := []) cx lk_X_turn ml_Law_50 (xm_obj rfl) rfl rfl (Nat.le_of_ble_eq_true rfl) ⟨(Nat.le_of_ble_eq_true rfl), (Nat.le_of_ble_eq_true rfl)⟩ ⟨(Nat.le_of_ble_eq_true rfl), (Nat.le_of_ble_eq_true rfl)⟩ d_law_490 rfl ?_
  refine X_aload_n d_law_493 rfl rfl ?_
  refine X_aload_n d_law_494 rfl rfl ?_
  refine X_iload_n d_law_495 rfl rfl ?_
  refine X_iconst (v := 1) d_law_496 rfl ?_
  refine X_iadd d_law_497 ?_
  refine X_sldJ hP (lw_in hL (k := 1) (by decide) hi rfl) d_law_498 ?_
  refine X_aload_n d_law_499 rfl rfl ?_
  refine X_iload_n d_law_500 rfl rfl ?_
  refine X_iconst (v := 2) d_law_501 rfl ?_
  refine X_iadd d_law_502 ?_
  refine X_sldJ hP (lw_in hL (k := 2) (by decide) hi rfl) d_law_503 ?_
  refine X_aload_n d_law_504 rfl rfl ?_
  refine X_iload_n d_law_505 rfl rfl ?_
  refine X_iconst (v := 3) d_law_506 rfl ?_
  refine X_iadd d_law_507 ?_
  refine X_sldJ hP (lw_in hL (k := 3) (by decide) hi rfl) d_law_508 ?_
  refine X_callV (rest := [.int v]) cm lk_Model_turn ml_Law_53 (xm_obj rfl) rfl rfl (Nat.le_of_ble_eq_true rfl) ⟨(Nat.le_of_ble_eq_true rfl), (Nat.le_of_ble_eq_true rfl)⟩ ⟨(Nat.le_of_ble_eq_true rfl), (Nat.le_of_ble_eq_true rfl)⟩ d_law_509 rfl ?_
  exact X_icmp_eq (tgt := 1768) d_law_512 (by decide) (fun _ => kk J' hr') (fun hne => absurd rfl hne)
theorem w_c_rest (l : Launch) (G : xG) (nm : String) {P : State → Prop} {rt : Option FieldType} {Z : List Frame → Array Value → State → State → Prop} {b L : Nat} {xs : Nat → Int32} (hP : ∀ s, P s → xScr G b L xs s) (hL : L ≤ 3584) {i : Nat} (hi : i + 7 ≤ L) {I : xI} (hr : RI I) (kk : ∀ I, RI I → XW l G room_1 ⟨"RoundAndRoundLaw", nm, ""⟩ code 4 rt (xKL P) Z 75 (xm G xYf I) 75 4269 1768 [(0, .ref b), (1, .ref (xg G 0)), (2, .ref (xg G 59)), (3, .int (nI i))] []) : XW l G room_1 ⟨"RoundAndRoundLaw", nm, ""⟩ code 4 rt (xKL P) Z 75 (xm G xYf I) 75 4269 517 [(0, .ref b), (1, .ref (xg G 0)), (2, .ref (xg G 59)), (3, .int (nI i))] [] := by
  obtain ⟨J, J', v, cx, cm, hr'⟩ := s_rest l G (d := 100) 75 (by decide) hr (xs (nI i + 1).toNatClampNeg) (xs (nI i + 2).toNatClampNeg) (xs (nI i + 3).toNatClampNeg)
  refine X_aload_n d_law_517 rfl rfl ?_
  refine X_aload_n d_law_518 rfl rfl ?_
  refine X_iload_n d_law_519 rfl rfl ?_
  refine X_iconst (v := 1) d_law_520 rfl ?_
  refine X_iadd d_law_521 ?_
  refine X_sldJ hP (lw_in hL (k := 1) (by decide) hi rfl) d_law_522 ?_
  refine X_aload_n d_law_523 rfl rfl ?_
  refine X_iload_n d_law_524 rfl rfl ?_
  refine X_iconst (v := 2) d_law_525 rfl ?_
  refine X_iadd d_law_526 ?_
  refine X_sldJ hP (lw_in hL (k := 2) (by decide) hi rfl) d_law_527 ?_
  refine X_aload_n d_law_528 rfl rfl ?_
  refine X_iload_n d_law_529 rfl rfl ?_
  refine X_iconst (v := 3) d_law_530 rfl ?_
  refine X_iadd d_law_531 ?_
  refine X_sldJ hP (lw_in hL (k := 3) (by decide) hi rfl) d_law_532 ?_
  refine X_callV (rest := []) cx lk_X_rest ml_Law_54 (xm_obj rfl) rfl rfl (Nat.le_of_ble_eq_true rfl) ⟨(Nat.le_of_ble_eq_true rfl), (Nat.le_of_ble_eq_true rfl)⟩ ⟨(Nat.le_of_ble_eq_true rfl), (Nat.le_of_ble_eq_true rfl)⟩ d_law_533 rfl ?_
  refine X_aload_n d_law_536 rfl rfl ?_
  refine X_aload_n d_law_537 rfl rfl ?_
  refine X_iload_n d_law_538 rfl rfl ?_
  refine X_iconst (v := 1) d_law_539 rfl ?_
  refine X_iadd d_law_540 ?_
  refine X_sldJ hP (lw_in hL (k := 1) (by decide) hi rfl) d_law_541 ?_
  refine X_aload_n d_law_542 rfl rfl ?_
  refine X_iload_n d_law_543 rfl rfl ?_
  refine X_iconst (v := 2) d_law_544 rfl ?_
  refine X_iadd d_law_545 ?_
  refine X_sldJ hP (lw_in hL (k := 2) (by decide) hi rfl) d_law_546 ?_
  refine X_aload_n d_law_547 rfl rfl ?_
  refine X_iload_n d_law_548 rfl rfl ?_
  refine X_iconst (v := 3) d_law_549 rfl ?_
  refine X_iadd d_law_550 ?_
  refine X_sldJ hP (lw_in hL (k := 3) (by decide) hi rfl) d_law_551 ?_
  refine X_callV (rest := [.int v]) cm lk_Model_rest ml_Law_57 (xm_obj rfl) rfl rfl (Nat.le_of_ble_eq_true rfl) ⟨(Nat.le_of_ble_eq_true rfl), (Nat.le_of_ble_eq_true rfl)⟩ ⟨(Nat.le_of_ble_eq_true rfl), (Nat.le_of_ble_eq_true rfl)⟩ d_law_552 rfl ?_
  exact X_icmp_eq (tgt := 1768) d_law_555 (by decide) (fun _ => kk J' hr') (fun hne => absurd rfl hne)
theorem w_c_walk (l : Launch) (G : xG) (nm : String) {P : State → Prop} {rt : Option FieldType} {Z : List Frame → Array Value → State → State → Prop} {b L : Nat} {xs : Nat → Int32} (hP : ∀ s, P s → xScr G b L xs s) (hL : L ≤ 3584) {i : Nat} (hi : i + 7 ≤ L) {I : xI} (hr : RI I) (kk : ∀ I, RI I → XW l G room_1 ⟨"RoundAndRoundLaw", nm, ""⟩ code 4 rt (xKL P) Z 75 (xm G xYf I) 75 4269 1768 [(0, .ref b), (1, .ref (xg G 0)), (2, .ref (xg G 59)), (3, .int (nI i))] []) : XW l G room_1 ⟨"RoundAndRoundLaw", nm, ""⟩ code 4 rt (xKL P) Z 75 (xm G xYf I) 75 4269 560 [(0, .ref b), (1, .ref (xg G 0)), (2, .ref (xg G 59)), (3, .int (nI i))] [] := by
  obtain ⟨J, J', v, cx, cm, hr'⟩ := s_walk l G (d := 100) 75 (by decide) hr (xs (nI i + 1).toNatClampNeg) (xs (nI i + 2).toNatClampNeg) (xs (nI i + 3).toNatClampNeg)
  refine X_aload_n d_law_560 rfl rfl ?_
  refine X_aload_n d_law_561 rfl rfl ?_
  refine X_iload_n d_law_562 rfl rfl ?_
  refine X_iconst (v := 1) d_law_563 rfl ?_
  refine X_iadd d_law_564 ?_
  refine X_sldJ hP (lw_in hL (k := 1) (by decide) hi rfl) d_law_565 ?_
  refine X_aload_n d_law_566 rfl rfl ?_
  refine X_iload_n d_law_567 rfl rfl ?_
  refine X_iconst (v := 2) d_law_568 rfl ?_
  refine X_iadd d_law_569 ?_
  refine X_sldJ hP (lw_in hL (k := 2) (by decide) hi rfl) d_law_570 ?_
  refine X_aload_n d_law_571 rfl rfl ?_
  refine X_iload_n d_law_572 rfl rfl ?_
  refine X_iconst (v := 3) d_law_573 rfl ?_
  refine X_iadd d_law_574 ?_
  refine X_sldJ hP (lw_in hL (k := 3) (by decide) hi rfl) d_law_575 ?_
  refine X_callV (rest := []) cx lk_X_walk ml_Law_58 (xm_obj rfl) rfl rfl (Nat.le_of_ble_eq_true rfl) ⟨(Nat.le_of_ble_eq_true rfl), (Nat.le_of_ble_eq_true rfl)⟩ ⟨(Nat.le_of_ble_eq_true rfl), (Nat.le_of_ble_eq_true rfl)⟩ d_law_576 rfl ?_
  refine X_aload_n d_law_579 rfl rfl ?_
  refine X_aload_n d_law_580 rfl rfl ?_
  refine X_iload_n d_law_581 rfl rfl ?_
  refine X_iconst (v := 1) d_law_582 rfl ?_
  refine X_iadd d_law_583 ?_
  refine X_sldJ hP (lw_in hL (k := 1) (by decide) hi rfl) d_law_584 ?_
  refine X_aload_n d_law_585 rfl rfl ?_
  refine X_iload_n d_law_586 rfl rfl ?_
  refine X_iconst (v := 2) d_law_587 rfl ?_
  refine X_iadd d_law_588 ?_
  refine X_sldJ hP (lw_in hL (k := 2) (by decide) hi rfl) d_law_589 ?_
  refine X_aload_n d_law_590 rfl rfl ?_
  refine X_iload_n d_law_591 rfl rfl ?_
  refine X_iconst (v := 3) d_law_592 rfl ?_
  refine X_iadd d_law_593 ?_
  refine X_sldJ hP (lw_in hL (k := 3) (by decide) hi rfl) d_law_594 ?_
  refine X_callV (rest := [.int v]) cm lk_Model_walk ml_Law_61 (xm_obj rfl) rfl rfl (Nat.le_of_ble_eq_true rfl) ⟨(Nat.le_of_ble_eq_true rfl), (Nat.le_of_ble_eq_true rfl)⟩ ⟨(Nat.le_of_ble_eq_true rfl), (Nat.le_of_ble_eq_true rfl)⟩ d_law_595 rfl ?_
  exact X_icmp_eq (tgt := 1768) d_law_598 (by decide) (fun _ => kk J' hr') (fun hne => absurd rfl hne)
theorem w_c_up (l : Launch) (G : xG) (nm : String) {P : State → Prop} {rt : Option FieldType} {Z : List Frame → Array Value → State → State → Prop} {b L : Nat} {xs : Nat → Int32} (hP : ∀ s, P s → xScr G b L xs s) (hL : L ≤ 3584) {i : Nat} (hi : i + 7 ≤ L) {I : xI} (hr : RI I) (kk : ∀ I, RI I → XW l G room_1 ⟨"RoundAndRoundLaw", nm, ""⟩ code 4 rt (xKL P) Z 75 (xm G xYf I) 75 4269 1768 [(0, .ref b), (1, .ref (xg G 0)), (2, .ref (xg G 59)), (3, .int (nI i))] []) : XW l G room_1 ⟨"RoundAndRoundLaw", nm, ""⟩ code 4 rt (xKL P) Z 75 (xm G xYf I) 75 4269 603 [(0, .ref b), (1, .ref (xg G 0)), (2, .ref (xg G 59)), (3, .int (nI i))] [] := by
  obtain ⟨J, J', v, cx, cm, hr'⟩ := s_up l G (d := 100) 75 (by decide) hr (xs (nI i + 1).toNatClampNeg)
  refine X_aload_n d_law_603 rfl rfl ?_
  refine X_aload_n d_law_604 rfl rfl ?_
  refine X_iload_n d_law_605 rfl rfl ?_
  refine X_iconst (v := 1) d_law_606 rfl ?_
  refine X_iadd d_law_607 ?_
  refine X_sldJ hP (lw_in hL (k := 1) (by decide) hi rfl) d_law_608 ?_
  refine X_callV (rest := []) cx lk_X_up ml_Law_62 (xm_obj rfl) rfl rfl (Nat.le_of_ble_eq_true rfl) ⟨(Nat.le_of_ble_eq_true rfl), (Nat.le_of_ble_eq_true rfl)⟩ ⟨(Nat.le_of_ble_eq_true rfl), (Nat.le_of_ble_eq_true rfl)⟩ d_law_609 rfl ?_
  refine X_aload_n d_law_612 rfl rfl ?_
  refine X_aload_n d_law_613 rfl rfl ?_
  refine X_iload_n d_law_614 rfl rfl ?_
  refine X_iconst (v := 1) d_law_615 rfl ?_
  refine X_iadd d_law_616 ?_
  refine X_sldJ hP (lw_in hL (k := 1) (by decide) hi rfl) d_law_617 ?_
  refine X_callV (rest := [.int v]) cm lk_Model_up ml_Law_65 (xm_obj rfl) rfl rfl (Nat.le_of_ble_eq_true rfl) ⟨(Nat.le_of_ble_eq_true rfl), (Nat.le_of_ble_eq_true rfl)⟩ ⟨(Nat.le_of_ble_eq_true rfl), (Nat.le_of_ble_eq_true rfl)⟩ d_law_618 rfl ?_
  exact X_icmp_eq (tgt := 1768) d_law_621 (by decide) (fun _ => kk J' hr') (fun hne => absurd rfl hne)
theorem w_c_ends (l : Launch) (G : xG) (nm : String) {P : State → Prop} {rt : Option FieldType} {Z : List Frame → Array Value → State → State → Prop} {b L : Nat} {xs : Nat → Int32} (hP : ∀ s, P s → xScr G b L xs s) (hL : L ≤ 3584) {i : Nat} (hi : i + 7 ≤ L) {I : xI} (hr : RI I) (kk : ∀ I, RI I → XW l G room_1 ⟨"RoundAndRoundLaw", nm, ""⟩ code 4 rt (xKL P) Z 75 (xm G xYf I) 75 4269 1768 [(0, .ref b), (1, .ref (xg G 0)), (2, .ref (xg G 59)), (3, .int (nI i))] []) : XW l G room_1 ⟨"RoundAndRoundLaw", nm, ""⟩ code 4 rt (xKL P) Z 75 (xm G xYf I) 75 4269 626 [(0, .ref b), (1, .ref (xg G 0)), (2, .ref (xg G 59)), (3, .int (nI i))] [] := by
  obtain ⟨J, J', v, cx, cm, hr'⟩ := s_ends l G (d := 100) 75 (by decide) hr (xs (nI i + 1).toNatClampNeg) (xs (nI i + 2).toNatClampNeg) (xs (nI i + 3).toNatClampNeg) (xs (nI i + 4).toNatClampNeg) (xs (nI i + 5).toNatClampNeg)
  refine X_aload_n d_law_626 rfl rfl ?_
  refine X_aload_n d_law_627 rfl rfl ?_
  refine X_iload_n d_law_628 rfl rfl ?_
  refine X_iconst (v := 1) d_law_629 rfl ?_
  refine X_iadd d_law_630 ?_
  refine X_sldJ hP (lw_in hL (k := 1) (by decide) hi rfl) d_law_631 ?_
  refine X_aload_n d_law_632 rfl rfl ?_
  refine X_iload_n d_law_633 rfl rfl ?_
  refine X_iconst (v := 2) d_law_634 rfl ?_
  refine X_iadd d_law_635 ?_
  refine X_sldJ hP (lw_in hL (k := 2) (by decide) hi rfl) d_law_636 ?_
  refine X_aload_n d_law_637 rfl rfl ?_
  refine X_iload_n d_law_638 rfl rfl ?_
  refine X_iconst (v := 3) d_law_639 rfl ?_
  refine X_iadd d_law_640 ?_
  refine X_sldJ hP (lw_in hL (k := 3) (by decide) hi rfl) d_law_641 ?_
  refine X_aload_n d_law_642 rfl rfl ?_
  refine X_iload_n d_law_643 rfl rfl ?_
  refine X_iconst (v := 4) d_law_644 rfl ?_
  refine X_iadd d_law_645 ?_
  refine X_sldJ hP (lw_in hL (k := 4) (by decide) hi rfl) d_law_646 ?_
  refine X_aload_n d_law_647 rfl rfl ?_
  refine X_iload_n d_law_648 rfl rfl ?_
  refine X_iconst (v := 5) d_law_649 rfl ?_
  refine X_iadd d_law_650 ?_
  refine X_sldJ hP (lw_in hL (k := 5) (by decide) hi rfl) d_law_651 ?_
  refine X_callV (rest := []) cx lk_X_ends ml_Law_66 (xm_obj rfl) rfl rfl (Nat.le_of_ble_eq_true rfl) ⟨(Nat.le_of_ble_eq_true rfl), (Nat.le_of_ble_eq_true rfl)⟩ ⟨(Nat.le_of_ble_eq_true rfl), (Nat.le_of_ble_eq_true rfl)⟩ d_law_652 rfl ?_
  refine X_aload_n d_law_655 rfl rfl ?_
  refine X_aload_n d_law_656 rfl rfl ?_
  refine X_iload_n d_law_657 rfl rfl ?_
  refine X_iconst (v := 1) d_law_658 rfl ?_
  refine X_iadd d_law_659 ?_
  refine X_sldJ hP (lw_in hL (k := 1) (by decide) hi rfl) d_law_660 ?_
  refine X_aload_n d_law_661 rfl rfl ?_
  refine X_iload_n d_law_662 rfl rfl ?_
  refine X_iconst (v := 2) d_law_663 rfl ?_
  refine X_iadd d_law_664 ?_
  refine X_sldJ hP (lw_in hL (k := 2) (by decide) hi rfl) d_law_665 ?_
  refine X_aload_n d_law_666 rfl rfl ?_
  refine X_iload_n d_law_667 rfl rfl ?_
  refine X_iconst (v := 3) d_law_668 rfl ?_
  refine X_iadd d_law_669 ?_
  refine X_sldJ hP (lw_in hL (k := 3) (by decide) hi rfl) d_law_670 ?_
  refine X_aload_n d_law_671 rfl rfl ?_
  refine X_iload_n d_law_672 rfl rfl ?_
  refine X_iconst (v := 4) d_law_673 rfl ?_
  refine X_iadd d_law_674 ?_
  refine X_sldJ hP (lw_in hL (k := 4) (by decide) hi rfl) d_law_675 ?_
  refine X_aload_n d_law_676 rfl rfl ?_
  refine X_iload_n d_law_677 rfl rfl ?_
  refine X_iconst (v := 5) d_law_678 rfl ?_
  refine X_iadd d_law_679 ?_
  refine X_sldJ hP (lw_in hL (k := 5) (by decide) hi rfl) d_law_680 ?_
  refine X_callV (rest := [.int v]) cm lk_Model_ends ml_Law_70 (xm_obj rfl) rfl rfl (Nat.le_of_ble_eq_true rfl) ⟨(Nat.le_of_ble_eq_true rfl), (Nat.le_of_ble_eq_true rfl)⟩ ⟨(Nat.le_of_ble_eq_true rfl), (Nat.le_of_ble_eq_true rfl)⟩ d_law_681 rfl ?_
  exact X_icmp_eq (tgt := 1768) d_law_684 (by decide) (fun _ => kk J' hr') (fun hne => absurd rfl hne)
theorem w_c_stands (l : Launch) (G : xG) (nm : String) {P : State → Prop} {rt : Option FieldType} {Z : List Frame → Array Value → State → State → Prop} {b L : Nat} {xs : Nat → Int32} (hP : ∀ s, P s → xScr G b L xs s) (hL : L ≤ 3584) {i : Nat} (hi : i + 7 ≤ L) {I : xI} (hr : RI I) (kk : ∀ I, RI I → XW l G room_1 ⟨"RoundAndRoundLaw", nm, ""⟩ code 4 rt (xKL P) Z 75 (xm G xYf I) 75 4269 1768 [(0, .ref b), (1, .ref (xg G 0)), (2, .ref (xg G 59)), (3, .int (nI i))] []) : XW l G room_1 ⟨"RoundAndRoundLaw", nm, ""⟩ code 4 rt (xKL P) Z 75 (xm G xYf I) 75 4269 689 [(0, .ref b), (1, .ref (xg G 0)), (2, .ref (xg G 59)), (3, .int (nI i))] [] := by
  obtain ⟨J, J', v, cx, cm, hr'⟩ := s_stands l G (d := 100) 75 (by decide) hr (xs (nI i + 1).toNatClampNeg) (xs (nI i + 2).toNatClampNeg)
  refine X_aload_n d_law_689 rfl rfl ?_
  refine X_aload_n d_law_690 rfl rfl ?_
  refine X_iload_n d_law_691 rfl rfl ?_
  refine X_iconst (v := 1) d_law_692 rfl ?_
  refine X_iadd d_law_693 ?_
  refine X_sldJ hP (lw_in hL (k := 1) (by decide) hi rfl) d_law_694 ?_
  refine X_aload_n d_law_695 rfl rfl ?_
  refine X_iload_n d_law_696 rfl rfl ?_
  refine X_iconst (v := 2) d_law_697 rfl ?_
  refine X_iadd d_law_698 ?_
  refine X_sldJ hP (lw_in hL (k := 2) (by decide) hi rfl) d_law_699 ?_
  refine X_callV (rest := []) cx lk_X_stands ml_Law_71 (xm_obj rfl) rfl rfl (Nat.le_of_ble_eq_true rfl) ⟨(Nat.le_of_ble_eq_true rfl), (Nat.le_of_ble_eq_true rfl)⟩ ⟨(Nat.le_of_ble_eq_true rfl), (Nat.le_of_ble_eq_true rfl)⟩ d_law_700 rfl ?_
  refine X_aload_n d_law_703 rfl rfl ?_
  refine X_aload_n d_law_704 rfl rfl ?_
  refine X_iload_n d_law_705 rfl rfl ?_
  refine X_iconst (v := 1) d_law_706 rfl ?_
  refine X_iadd d_law_707 ?_
  refine X_sldJ hP (lw_in hL (k := 1) (by decide) hi rfl) d_law_708 ?_
  refine X_aload_n d_law_709 rfl rfl ?_
  refine X_iload_n d_law_710 rfl rfl ?_
  refine X_iconst (v := 2) d_law_711 rfl ?_
  refine X_iadd d_law_712 ?_
  refine X_sldJ hP (lw_in hL (k := 2) (by decide) hi rfl) d_law_713 ?_
  refine X_callV (rest := [.int v]) cm lk_Model_stands ml_Law_74 (xm_obj rfl) rfl rfl (Nat.le_of_ble_eq_true rfl) ⟨(Nat.le_of_ble_eq_true rfl), (Nat.le_of_ble_eq_true rfl)⟩ ⟨(Nat.le_of_ble_eq_true rfl), (Nat.le_of_ble_eq_true rfl)⟩ d_law_714 rfl ?_
  exact X_icmp_eq (tgt := 1768) d_law_717 (by decide) (fun _ => kk J' hr') (fun hne => absurd rfl hne)
theorem w_c_undo (l : Launch) (G : xG) (nm : String) {P : State → Prop} {rt : Option FieldType} {Z : List Frame → Array Value → State → State → Prop} {b L : Nat} {xs : Nat → Int32} (hP : ∀ s, P s → xScr G b L xs s) (hL : L ≤ 3584) {i : Nat} (hi : i + 7 ≤ L) {I : xI} (hr : RI I) (kk : ∀ I, RI I → XW l G room_1 ⟨"RoundAndRoundLaw", nm, ""⟩ code 4 rt (xKL P) Z 75 (xm G xYf I) 75 4269 1768 [(0, .ref b), (1, .ref (xg G 0)), (2, .ref (xg G 59)), (3, .int (nI i))] []) : XW l G room_1 ⟨"RoundAndRoundLaw", nm, ""⟩ code 4 rt (xKL P) Z 75 (xm G xYf I) 75 4269 722 [(0, .ref b), (1, .ref (xg G 0)), (2, .ref (xg G 59)), (3, .int (nI i))] [] := by
  obtain ⟨J, J', v, cx, cm, hr'⟩ := s_undo l G (d := 100) 75 (by decide) hr (xs (nI i + 1).toNatClampNeg) (xs (nI i + 2).toNatClampNeg) (xs (nI i + 3).toNatClampNeg)
  refine X_aload_n d_law_722 rfl rfl ?_
  refine X_aload_n d_law_723 rfl rfl ?_
  refine X_iload_n d_law_724 rfl rfl ?_
  refine X_iconst (v := 1) d_law_725 rfl ?_
  refine X_iadd d_law_726 ?_
  refine X_sldJ hP (lw_in hL (k := 1) (by decide) hi rfl) d_law_727 ?_
  refine X_aload_n d_law_728 rfl rfl ?_
  refine X_iload_n d_law_729 rfl rfl ?_
  refine X_iconst (v := 2) d_law_730 rfl ?_
  refine X_iadd d_law_731 ?_
  refine X_sldJ hP (lw_in hL (k := 2) (by decide) hi rfl) d_law_732 ?_
  refine X_aload_n d_law_733 rfl rfl ?_
  refine X_iload_n d_law_734 rfl rfl ?_
  refine X_iconst (v := 3) d_law_735 rfl ?_
  refine X_iadd d_law_736 ?_
  refine X_sldJ hP (lw_in hL (k := 3) (by decide) hi rfl) d_law_737 ?_
  refine X_callV (rest := []) cx lk_X_undo ml_Law_75 (xm_obj rfl) rfl rfl (Nat.le_of_ble_eq_true rfl) ⟨(Nat.le_of_ble_eq_true rfl), (Nat.le_of_ble_eq_true rfl)⟩ ⟨(Nat.le_of_ble_eq_true rfl), (Nat.le_of_ble_eq_true rfl)⟩ d_law_738 rfl ?_
  refine X_aload_n d_law_741 rfl rfl ?_
  refine X_aload_n d_law_742 rfl rfl ?_
  refine X_iload_n d_law_743 rfl rfl ?_
  refine X_iconst (v := 1) d_law_744 rfl ?_
  refine X_iadd d_law_745 ?_
  refine X_sldJ hP (lw_in hL (k := 1) (by decide) hi rfl) d_law_746 ?_
  refine X_aload_n d_law_747 rfl rfl ?_
  refine X_iload_n d_law_748 rfl rfl ?_
  refine X_iconst (v := 2) d_law_749 rfl ?_
  refine X_iadd d_law_750 ?_
  refine X_sldJ hP (lw_in hL (k := 2) (by decide) hi rfl) d_law_751 ?_
  refine X_aload_n d_law_752 rfl rfl ?_
  refine X_iload_n d_law_753 rfl rfl ?_
  refine X_iconst (v := 3) d_law_754 rfl ?_
  refine X_iadd d_law_755 ?_
  refine X_sldJ hP (lw_in hL (k := 3) (by decide) hi rfl) d_law_756 ?_
  refine X_callV (rest := [.int v]) cm lk_Model_undo ml_Law_78 (xm_obj rfl) rfl rfl (Nat.le_of_ble_eq_true rfl) ⟨(Nat.le_of_ble_eq_true rfl), (Nat.le_of_ble_eq_true rfl)⟩ ⟨(Nat.le_of_ble_eq_true rfl), (Nat.le_of_ble_eq_true rfl)⟩ d_law_757 rfl ?_
  exact X_icmp_eq (tgt := 1768) d_law_760 (by decide) (fun _ => kk J' hr') (fun hne => absurd rfl hne)
theorem w_c_fine (l : Launch) (G : xG) (nm : String) {P : State → Prop} {rt : Option FieldType} {Z : List Frame → Array Value → State → State → Prop} {b L : Nat} {xs : Nat → Int32} (hP : ∀ s, P s → xScr G b L xs s) (hL : L ≤ 3584) {i : Nat} (hi : i + 7 ≤ L) {I : xI} (hr : RI I) (kk : ∀ I, RI I → XW l G room_1 ⟨"RoundAndRoundLaw", nm, ""⟩ code 4 rt (xKL P) Z 75 (xm G xYf I) 75 4269 1768 [(0, .ref b), (1, .ref (xg G 0)), (2, .ref (xg G 59)), (3, .int (nI i))] []) : XW l G room_1 ⟨"RoundAndRoundLaw", nm, ""⟩ code 4 rt (xKL P) Z 75 (xm G xYf I) 75 4269 765 [(0, .ref b), (1, .ref (xg G 0)), (2, .ref (xg G 59)), (3, .int (nI i))] [] := by
  obtain ⟨J, J', v, cx, cm, hr'⟩ := s_fine l G (d := 100) 75 (by decide) hr (xs (nI i + 1).toNatClampNeg) (xs (nI i + 2).toNatClampNeg)
  refine X_aload_n d_law_765 rfl rfl ?_
  refine X_aload_n d_law_766 rfl rfl ?_
  refine X_iload_n d_law_767 rfl rfl ?_
  refine X_iconst (v := 1) d_law_768 rfl ?_
  refine X_iadd d_law_769 ?_
  refine X_sldJ hP (lw_in hL (k := 1) (by decide) hi rfl) d_law_770 ?_
  refine X_aload_n d_law_771 rfl rfl ?_
  refine X_iload_n d_law_772 rfl rfl ?_
  refine X_iconst (v := 2) d_law_773 rfl ?_
  refine X_iadd d_law_774 ?_
  refine X_sldJ hP (lw_in hL (k := 2) (by decide) hi rfl) d_law_775 ?_
  refine X_callV (rest := []) cx lk_X_fine ml_Law_79 (xm_obj rfl) rfl rfl (Nat.le_of_ble_eq_true rfl) ⟨(Nat.le_of_ble_eq_true rfl), (Nat.le_of_ble_eq_true rfl)⟩ ⟨(Nat.le_of_ble_eq_true rfl), (Nat.le_of_ble_eq_true rfl)⟩ d_law_776 rfl ?_
  refine X_aload_n d_law_779 rfl rfl ?_
  refine X_aload_n d_law_780 rfl rfl ?_
  refine X_iload_n d_law_781 rfl rfl ?_
  refine X_iconst (v := 1) d_law_782 rfl ?_
  refine X_iadd d_law_783 ?_
  refine X_sldJ hP (lw_in hL (k := 1) (by decide) hi rfl) d_law_784 ?_
  refine X_aload_n d_law_785 rfl rfl ?_
  refine X_iload_n d_law_786 rfl rfl ?_
  refine X_iconst (v := 2) d_law_787 rfl ?_
  refine X_iadd d_law_788 ?_
  refine X_sldJ hP (lw_in hL (k := 2) (by decide) hi rfl) d_law_789 ?_
  refine X_callV (rest := [.int v]) cm lk_Model_fine ml_Law_82 (xm_obj rfl) rfl rfl (Nat.le_of_ble_eq_true rfl) ⟨(Nat.le_of_ble_eq_true rfl), (Nat.le_of_ble_eq_true rfl)⟩ ⟨(Nat.le_of_ble_eq_true rfl), (Nat.le_of_ble_eq_true rfl)⟩ d_law_790 rfl ?_
  exact X_icmp_eq (tgt := 1768) d_law_793 (by decide) (fun _ => kk J' hr') (fun hne => absurd rfl hne)
theorem w_c_race (l : Launch) (G : xG) (nm : String) {P : State → Prop} {rt : Option FieldType} {Z : List Frame → Array Value → State → State → Prop} {b L : Nat} {xs : Nat → Int32} (hP : ∀ s, P s → xScr G b L xs s) (hL : L ≤ 3584) {i : Nat} (hi : i + 7 ≤ L) {I : xI} (hr : RI I) (kk : ∀ I, RI I → XW l G room_1 ⟨"RoundAndRoundLaw", nm, ""⟩ code 4 rt (xKL P) Z 75 (xm G xYf I) 75 4269 1768 [(0, .ref b), (1, .ref (xg G 0)), (2, .ref (xg G 59)), (3, .int (nI i))] []) : XW l G room_1 ⟨"RoundAndRoundLaw", nm, ""⟩ code 4 rt (xKL P) Z 75 (xm G xYf I) 75 4269 798 [(0, .ref b), (1, .ref (xg G 0)), (2, .ref (xg G 59)), (3, .int (nI i))] [] := by
  obtain ⟨J, J', v, cx, cm, hr'⟩ := s_race l G (d := 100) 75 (by decide) hr (xs (nI i + 1).toNatClampNeg) (xs (nI i + 2).toNatClampNeg) (xs (nI i + 3).toNatClampNeg) (xs (nI i + 4).toNatClampNeg) (xs (nI i + 5).toNatClampNeg)
  refine X_aload_n d_law_798 rfl rfl ?_
  refine X_aload_n d_law_799 rfl rfl ?_
  refine X_iload_n d_law_800 rfl rfl ?_
  refine X_iconst (v := 1) d_law_801 rfl ?_
  refine X_iadd d_law_802 ?_
  refine X_sldJ hP (lw_in hL (k := 1) (by decide) hi rfl) d_law_803 ?_
  refine X_aload_n d_law_804 rfl rfl ?_
  refine X_iload_n d_law_805 rfl rfl ?_
  refine X_iconst (v := 2) d_law_806 rfl ?_
  refine X_iadd d_law_807 ?_
  refine X_sldJ hP (lw_in hL (k := 2) (by decide) hi rfl) d_law_808 ?_
  refine X_aload_n d_law_809 rfl rfl ?_
  refine X_iload_n d_law_810 rfl rfl ?_
  refine X_iconst (v := 3) d_law_811 rfl ?_
  refine X_iadd d_law_812 ?_
  refine X_sldJ hP (lw_in hL (k := 3) (by decide) hi rfl) d_law_813 ?_
  refine X_aload_n d_law_814 rfl rfl ?_
  refine X_iload_n d_law_815 rfl rfl ?_
  refine X_iconst (v := 4) d_law_816 rfl ?_
  refine X_iadd d_law_817 ?_
  refine X_sldJ hP (lw_in hL (k := 4) (by decide) hi rfl) d_law_818 ?_
  refine X_aload_n d_law_819 rfl rfl ?_
  refine X_iload_n d_law_820 rfl rfl ?_
  refine X_iconst (v := 5) d_law_821 rfl ?_
  refine X_iadd d_law_822 ?_
  refine X_sldJ hP (lw_in hL (k := 5) (by decide) hi rfl) d_law_823 ?_
  refine X_callV (rest := []) cx lk_X_race ml_Law_83 (xm_obj rfl) rfl rfl (Nat.le_of_ble_eq_true rfl) ⟨(Nat.le_of_ble_eq_true rfl), (Nat.le_of_ble_eq_true rfl)⟩ ⟨(Nat.le_of_ble_eq_true rfl), (Nat.le_of_ble_eq_true rfl)⟩ d_law_824 rfl ?_
  refine X_aload_n d_law_827 rfl rfl ?_
  refine X_aload_n d_law_828 rfl rfl ?_
  refine X_iload_n d_law_829 rfl rfl ?_
  refine X_iconst (v := 1) d_law_830 rfl ?_
  refine X_iadd d_law_831 ?_
  refine X_sldJ hP (lw_in hL (k := 1) (by decide) hi rfl) d_law_832 ?_
  refine X_aload_n d_law_833 rfl rfl ?_
  refine X_iload_n d_law_834 rfl rfl ?_
  refine X_iconst (v := 2) d_law_835 rfl ?_
  refine X_iadd d_law_836 ?_
  refine X_sldJ hP (lw_in hL (k := 2) (by decide) hi rfl) d_law_837 ?_
  refine X_aload_n d_law_838 rfl rfl ?_
  refine X_iload_n d_law_839 rfl rfl ?_
  refine X_iconst (v := 3) d_law_840 rfl ?_
  refine X_iadd d_law_841 ?_
  refine X_sldJ hP (lw_in hL (k := 3) (by decide) hi rfl) d_law_842 ?_
  refine X_aload_n d_law_843 rfl rfl ?_
  refine X_iload_n d_law_844 rfl rfl ?_
  refine X_iconst (v := 4) d_law_845 rfl ?_
  refine X_iadd d_law_846 ?_
  refine X_sldJ hP (lw_in hL (k := 4) (by decide) hi rfl) d_law_847 ?_
  refine X_aload_n d_law_848 rfl rfl ?_
  refine X_iload_n d_law_849 rfl rfl ?_
  refine X_iconst (v := 5) d_law_850 rfl ?_
  refine X_iadd d_law_851 ?_
  refine X_sldJ hP (lw_in hL (k := 5) (by decide) hi rfl) d_law_852 ?_
  refine X_callV (rest := [.int v]) cm lk_Model_race ml_Law_86 (xm_obj rfl) rfl rfl (Nat.le_of_ble_eq_true rfl) ⟨(Nat.le_of_ble_eq_true rfl), (Nat.le_of_ble_eq_true rfl)⟩ ⟨(Nat.le_of_ble_eq_true rfl), (Nat.le_of_ble_eq_true rfl)⟩ d_law_853 rfl ?_
  exact X_icmp_eq (tgt := 1768) d_law_856 (by decide) (fun _ => kk J' hr') (fun hne => absurd rfl hne)
theorem w_c_wins (l : Launch) (G : xG) (nm : String) {P : State → Prop} {rt : Option FieldType} {Z : List Frame → Array Value → State → State → Prop} {b L : Nat} {xs : Nat → Int32} (hP : ∀ s, P s → xScr G b L xs s) (hL : L ≤ 3584) {i : Nat} (hi : i + 7 ≤ L) {I : xI} (hr : RI I) (kk : ∀ I, RI I → XW l G room_1 ⟨"RoundAndRoundLaw", nm, ""⟩ code 4 rt (xKL P) Z 75 (xm G xYf I) 75 4269 1768 [(0, .ref b), (1, .ref (xg G 0)), (2, .ref (xg G 59)), (3, .int (nI i))] []) : XW l G room_1 ⟨"RoundAndRoundLaw", nm, ""⟩ code 4 rt (xKL P) Z 75 (xm G xYf I) 75 4269 861 [(0, .ref b), (1, .ref (xg G 0)), (2, .ref (xg G 59)), (3, .int (nI i))] [] := by
  obtain ⟨J, J', v, cx, cm, hr'⟩ := s_wins l G (d := 100) 75 (by decide) hr (xs (nI i + 1).toNatClampNeg) (xs (nI i + 2).toNatClampNeg) (xs (nI i + 3).toNatClampNeg) (xs (nI i + 4).toNatClampNeg)
  refine X_aload_n d_law_861 rfl rfl ?_
  refine X_aload_n d_law_862 rfl rfl ?_
  refine X_iload_n d_law_863 rfl rfl ?_
  refine X_iconst (v := 1) d_law_864 rfl ?_
  refine X_iadd d_law_865 ?_
  refine X_sldJ hP (lw_in hL (k := 1) (by decide) hi rfl) d_law_866 ?_
  refine X_aload_n d_law_867 rfl rfl ?_
  refine X_iload_n d_law_868 rfl rfl ?_
  refine X_iconst (v := 2) d_law_869 rfl ?_
  refine X_iadd d_law_870 ?_
  refine X_sldJ hP (lw_in hL (k := 2) (by decide) hi rfl) d_law_871 ?_
  refine X_aload_n d_law_872 rfl rfl ?_
  refine X_iload_n d_law_873 rfl rfl ?_
  refine X_iconst (v := 3) d_law_874 rfl ?_
  refine X_iadd d_law_875 ?_
  refine X_sldJ hP (lw_in hL (k := 3) (by decide) hi rfl) d_law_876 ?_
  refine X_aload_n d_law_877 rfl rfl ?_
  refine X_iload_n d_law_878 rfl rfl ?_
  refine X_iconst (v := 4) d_law_879 rfl ?_
  refine X_iadd d_law_880 ?_
  refine X_sldJ hP (lw_in hL (k := 4) (by decide) hi rfl) d_law_881 ?_
  refine X_callV (rest := []) cx lk_X_wins ml_Law_87 (xm_obj rfl) rfl rfl (Nat.le_of_ble_eq_true rfl) ⟨(Nat.le_of_ble_eq_true rfl), (Nat.le_of_ble_eq_true rfl)⟩ ⟨(Nat.le_of_ble_eq_true rfl), (Nat.le_of_ble_eq_true rfl)⟩ d_law_882 rfl ?_
  refine X_aload_n d_law_885 rfl rfl ?_
  refine X_aload_n d_law_886 rfl rfl ?_
  refine X_iload_n d_law_887 rfl rfl ?_
  refine X_iconst (v := 1) d_law_888 rfl ?_
  refine X_iadd d_law_889 ?_
  refine X_sldJ hP (lw_in hL (k := 1) (by decide) hi rfl) d_law_890 ?_
  refine X_aload_n d_law_891 rfl rfl ?_
  refine X_iload_n d_law_892 rfl rfl ?_
  refine X_iconst (v := 2) d_law_893 rfl ?_
  refine X_iadd d_law_894 ?_
  refine X_sldJ hP (lw_in hL (k := 2) (by decide) hi rfl) d_law_895 ?_
  refine X_aload_n d_law_896 rfl rfl ?_
  refine X_iload_n d_law_897 rfl rfl ?_
  refine X_iconst (v := 3) d_law_898 rfl ?_
  refine X_iadd d_law_899 ?_
  refine X_sldJ hP (lw_in hL (k := 3) (by decide) hi rfl) d_law_900 ?_
  refine X_aload_n d_law_901 rfl rfl ?_
  refine X_iload_n d_law_902 rfl rfl ?_
  refine X_iconst (v := 4) d_law_903 rfl ?_
  refine X_iadd d_law_904 ?_
  refine X_sldJ hP (lw_in hL (k := 4) (by decide) hi rfl) d_law_905 ?_
  refine X_callV (rest := [.int v]) cm lk_Model_wins ml_Law_91 (xm_obj rfl) rfl rfl (Nat.le_of_ble_eq_true rfl) ⟨(Nat.le_of_ble_eq_true rfl), (Nat.le_of_ble_eq_true rfl)⟩ ⟨(Nat.le_of_ble_eq_true rfl), (Nat.le_of_ble_eq_true rfl)⟩ d_law_906 rfl ?_
  exact X_icmp_eq (tgt := 1768) d_law_909 (by decide) (fun _ => kk J' hr') (fun hne => absurd rfl hne)
theorem w_c_pace (l : Launch) (G : xG) (nm : String) {P : State → Prop} {rt : Option FieldType} {Z : List Frame → Array Value → State → State → Prop} {b L : Nat} {xs : Nat → Int32} (hP : ∀ s, P s → xScr G b L xs s) (hL : L ≤ 3584) {i : Nat} (hi : i + 7 ≤ L) {I : xI} (hr : RI I) (kk : ∀ I, RI I → XW l G room_1 ⟨"RoundAndRoundLaw", nm, ""⟩ code 4 rt (xKL P) Z 75 (xm G xYf I) 75 4269 1768 [(0, .ref b), (1, .ref (xg G 0)), (2, .ref (xg G 59)), (3, .int (nI i))] []) : XW l G room_1 ⟨"RoundAndRoundLaw", nm, ""⟩ code 4 rt (xKL P) Z 75 (xm G xYf I) 75 4269 914 [(0, .ref b), (1, .ref (xg G 0)), (2, .ref (xg G 59)), (3, .int (nI i))] [] := by
  obtain ⟨J, J', v, cx, cm, hr'⟩ := s_pace l G (d := 100) 75 (by decide) hr (xs (nI i + 1).toNatClampNeg) (xs (nI i + 2).toNatClampNeg) (xs (nI i + 3).toNatClampNeg) (xs (nI i + 4).toNatClampNeg) (xs (nI i + 5).toNatClampNeg)
  refine X_aload_n d_law_914 rfl rfl ?_
  refine X_aload_n d_law_915 rfl rfl ?_
  refine X_iload_n d_law_916 rfl rfl ?_
  refine X_iconst (v := 1) d_law_917 rfl ?_
  refine X_iadd d_law_918 ?_
  refine X_sldJ hP (lw_in hL (k := 1) (by decide) hi rfl) d_law_919 ?_
  refine X_aload_n d_law_920 rfl rfl ?_
  refine X_iload_n d_law_921 rfl rfl ?_
  refine X_iconst (v := 2) d_law_922 rfl ?_
  refine X_iadd d_law_923 ?_
  refine X_sldJ hP (lw_in hL (k := 2) (by decide) hi rfl) d_law_924 ?_
  refine X_aload_n d_law_925 rfl rfl ?_
  refine X_iload_n d_law_926 rfl rfl ?_
  refine X_iconst (v := 3) d_law_927 rfl ?_
  refine X_iadd d_law_928 ?_
  refine X_sldJ hP (lw_in hL (k := 3) (by decide) hi rfl) d_law_929 ?_
  refine X_aload_n d_law_930 rfl rfl ?_
  refine X_iload_n d_law_931 rfl rfl ?_
  refine X_iconst (v := 4) d_law_932 rfl ?_
  refine X_iadd d_law_933 ?_
  refine X_sldJ hP (lw_in hL (k := 4) (by decide) hi rfl) d_law_934 ?_
  refine X_aload_n d_law_935 rfl rfl ?_
  refine X_iload_n d_law_936 rfl rfl ?_
  refine X_iconst (v := 5) d_law_937 rfl ?_
  refine X_iadd d_law_938 ?_
  refine X_sldJ hP (lw_in hL (k := 5) (by decide) hi rfl) d_law_939 ?_
  refine X_callV (rest := []) cx lk_X_pace ml_Law_92 (xm_obj rfl) rfl rfl (Nat.le_of_ble_eq_true rfl) ⟨(Nat.le_of_ble_eq_true rfl), (Nat.le_of_ble_eq_true rfl)⟩ ⟨(Nat.le_of_ble_eq_true rfl), (Nat.le_of_ble_eq_true rfl)⟩ d_law_940 rfl ?_
  refine X_aload_n d_law_943 rfl rfl ?_
  refine X_aload_n d_law_944 rfl rfl ?_
  refine X_iload_n d_law_945 rfl rfl ?_
  refine X_iconst (v := 1) d_law_946 rfl ?_
  refine X_iadd d_law_947 ?_
  refine X_sldJ hP (lw_in hL (k := 1) (by decide) hi rfl) d_law_948 ?_
  refine X_aload_n d_law_949 rfl rfl ?_
  refine X_iload_n d_law_950 rfl rfl ?_
  refine X_iconst (v := 2) d_law_951 rfl ?_
  refine X_iadd d_law_952 ?_
  refine X_sldJ hP (lw_in hL (k := 2) (by decide) hi rfl) d_law_953 ?_
  refine X_aload_n d_law_954 rfl rfl ?_
  refine X_iload_n d_law_955 rfl rfl ?_
  refine X_iconst (v := 3) d_law_956 rfl ?_
  refine X_iadd d_law_957 ?_
  refine X_sldJ hP (lw_in hL (k := 3) (by decide) hi rfl) d_law_958 ?_
  refine X_aload_n d_law_959 rfl rfl ?_
  refine X_iload_n d_law_960 rfl rfl ?_
  refine X_iconst (v := 4) d_law_961 rfl ?_
  refine X_iadd d_law_962 ?_
  refine X_sldJ hP (lw_in hL (k := 4) (by decide) hi rfl) d_law_963 ?_
  refine X_aload_n d_law_964 rfl rfl ?_
  refine X_iload_n d_law_965 rfl rfl ?_
  refine X_iconst (v := 5) d_law_966 rfl ?_
  refine X_iadd d_law_967 ?_
  refine X_sldJ hP (lw_in hL (k := 5) (by decide) hi rfl) d_law_968 ?_
  refine X_callV (rest := [.int v]) cm lk_Model_pace ml_Law_95 (xm_obj rfl) rfl rfl (Nat.le_of_ble_eq_true rfl) ⟨(Nat.le_of_ble_eq_true rfl), (Nat.le_of_ble_eq_true rfl)⟩ ⟨(Nat.le_of_ble_eq_true rfl), (Nat.le_of_ble_eq_true rfl)⟩ d_law_969 rfl ?_
  exact X_icmp_eq (tgt := 1768) d_law_972 (by decide) (fun _ => kk J' hr') (fun hne => absurd rfl hne)
theorem w_c_roses (l : Launch) (G : xG) (nm : String) {P : State → Prop} {rt : Option FieldType} {Z : List Frame → Array Value → State → State → Prop} {b L : Nat} {xs : Nat → Int32} (hP : ∀ s, P s → xScr G b L xs s) (hL : L ≤ 3584) {i : Nat} (hi : i + 7 ≤ L) {I : xI} (hr : RI I) (kk : ∀ I, RI I → XW l G room_1 ⟨"RoundAndRoundLaw", nm, ""⟩ code 4 rt (xKL P) Z 75 (xm G xYf I) 75 4269 1768 [(0, .ref b), (1, .ref (xg G 0)), (2, .ref (xg G 59)), (3, .int (nI i))] []) : XW l G room_1 ⟨"RoundAndRoundLaw", nm, ""⟩ code 4 rt (xKL P) Z 75 (xm G xYf I) 75 4269 977 [(0, .ref b), (1, .ref (xg G 0)), (2, .ref (xg G 59)), (3, .int (nI i))] [] := by
  obtain ⟨J, J', v, cx, cm, hr'⟩ := s_roses l G (d := 100) 75 (by decide) hr (xs (nI i + 1).toNatClampNeg) (xs (nI i + 2).toNatClampNeg) (xs (nI i + 3).toNatClampNeg) (xs (nI i + 4).toNatClampNeg) (xs (nI i + 5).toNatClampNeg)
  refine X_aload_n d_law_977 rfl rfl ?_
  refine X_aload_n d_law_978 rfl rfl ?_
  refine X_iload_n d_law_979 rfl rfl ?_
  refine X_iconst (v := 1) d_law_980 rfl ?_
  refine X_iadd d_law_981 ?_
  refine X_sldJ hP (lw_in hL (k := 1) (by decide) hi rfl) d_law_982 ?_
  refine X_aload_n d_law_983 rfl rfl ?_
  refine X_iload_n d_law_984 rfl rfl ?_
  refine X_iconst (v := 2) d_law_985 rfl ?_
  refine X_iadd d_law_986 ?_
  refine X_sldJ hP (lw_in hL (k := 2) (by decide) hi rfl) d_law_987 ?_
  refine X_aload_n d_law_988 rfl rfl ?_
  refine X_iload_n d_law_989 rfl rfl ?_
  refine X_iconst (v := 3) d_law_990 rfl ?_
  refine X_iadd d_law_991 ?_
  refine X_sldJ hP (lw_in hL (k := 3) (by decide) hi rfl) d_law_992 ?_
  refine X_aload_n d_law_993 rfl rfl ?_
  refine X_iload_n d_law_994 rfl rfl ?_
  refine X_iconst (v := 4) d_law_995 rfl ?_
  refine X_iadd d_law_996 ?_
  refine X_sldJ hP (lw_in hL (k := 4) (by decide) hi rfl) d_law_997 ?_
  refine X_aload_n d_law_998 rfl rfl ?_
  refine X_iload_n d_law_999 rfl rfl ?_
  refine X_iconst (v := 5) d_law_1000 rfl ?_
  refine X_iadd d_law_1001 ?_
  refine X_sldJ hP (lw_in hL (k := 5) (by decide) hi rfl) d_law_1002 ?_
  refine X_callV (rest := []) cx lk_X_roses ml_Law_96 (xm_obj rfl) rfl rfl (Nat.le_of_ble_eq_true rfl) ⟨(Nat.le_of_ble_eq_true rfl), (Nat.le_of_ble_eq_true rfl)⟩ ⟨(Nat.le_of_ble_eq_true rfl), (Nat.le_of_ble_eq_true rfl)⟩ d_law_1003 rfl ?_
  refine X_aload_n d_law_1006 rfl rfl ?_
  refine X_aload_n d_law_1007 rfl rfl ?_
  refine X_iload_n d_law_1008 rfl rfl ?_
  refine X_iconst (v := 1) d_law_1009 rfl ?_
  refine X_iadd d_law_1010 ?_
  refine X_sldJ hP (lw_in hL (k := 1) (by decide) hi rfl) d_law_1011 ?_
  refine X_aload_n d_law_1012 rfl rfl ?_
  refine X_iload_n d_law_1013 rfl rfl ?_
  refine X_iconst (v := 2) d_law_1014 rfl ?_
  refine X_iadd d_law_1015 ?_
  refine X_sldJ hP (lw_in hL (k := 2) (by decide) hi rfl) d_law_1016 ?_
  refine X_aload_n d_law_1017 rfl rfl ?_
  refine X_iload_n d_law_1018 rfl rfl ?_
  refine X_iconst (v := 3) d_law_1019 rfl ?_
  refine X_iadd d_law_1020 ?_
  refine X_sldJ hP (lw_in hL (k := 3) (by decide) hi rfl) d_law_1021 ?_
  refine X_aload_n d_law_1022 rfl rfl ?_
  refine X_iload_n d_law_1023 rfl rfl ?_
  refine X_iconst (v := 4) d_law_1024 rfl ?_
  refine X_iadd d_law_1025 ?_
  refine X_sldJ hP (lw_in hL (k := 4) (by decide) hi rfl) d_law_1026 ?_
  refine X_aload_n d_law_1027 rfl rfl ?_
  refine X_iload_n d_law_1028 rfl rfl ?_
  refine X_iconst (v := 5) d_law_1029 rfl ?_
  refine X_iadd d_law_1030 ?_
  refine X_sldJ hP (lw_in hL (k := 5) (by decide) hi rfl) d_law_1031 ?_
  refine X_callV (rest := [.int v]) cm lk_Model_roses ml_Law_99 (xm_obj rfl) rfl rfl (Nat.le_of_ble_eq_true rfl) ⟨(Nat.le_of_ble_eq_true rfl), (Nat.le_of_ble_eq_true rfl)⟩ ⟨(Nat.le_of_ble_eq_true rfl), (Nat.le_of_ble_eq_true rfl)⟩ d_law_1032 rfl ?_
  exact X_icmp_eq (tgt := 1768) d_law_1035 (by decide) (fun _ => kk J' hr') (fun hne => absurd rfl hne)
theorem w_c_judge (l : Launch) (G : xG) (nm : String) {P : State → Prop} {rt : Option FieldType} {Z : List Frame → Array Value → State → State → Prop} {b L : Nat} {xs : Nat → Int32} (hP : ∀ s, P s → xScr G b L xs s) (hL : L ≤ 3584) {i : Nat} (hi : i + 7 ≤ L) {I : xI} (hr : RI I) (kk : ∀ I, RI I → XW l G room_1 ⟨"RoundAndRoundLaw", nm, ""⟩ code 4 rt (xKL P) Z 75 (xm G xYf I) 75 4269 1768 [(0, .ref b), (1, .ref (xg G 0)), (2, .ref (xg G 59)), (3, .int (nI i))] []) : XW l G room_1 ⟨"RoundAndRoundLaw", nm, ""⟩ code 4 rt (xKL P) Z 75 (xm G xYf I) 75 4269 1040 [(0, .ref b), (1, .ref (xg G 0)), (2, .ref (xg G 59)), (3, .int (nI i))] [] := by
  obtain ⟨J, J', v, cx, cm, hr'⟩ := s_judge l G (d := 100) 75 (by decide) hr (xs (nI i + 1).toNatClampNeg) (xs (nI i + 2).toNatClampNeg) (xs (nI i + 3).toNatClampNeg) (xs (nI i + 4).toNatClampNeg)
  refine X_aload_n d_law_1040 rfl rfl ?_
  refine X_aload_n d_law_1041 rfl rfl ?_
  refine X_iload_n d_law_1042 rfl rfl ?_
  refine X_iconst (v := 1) d_law_1043 rfl ?_
  refine X_iadd d_law_1044 ?_
  refine X_sldJ hP (lw_in hL (k := 1) (by decide) hi rfl) d_law_1045 ?_
  refine X_aload_n d_law_1046 rfl rfl ?_
  refine X_iload_n d_law_1047 rfl rfl ?_
  refine X_iconst (v := 2) d_law_1048 rfl ?_
  refine X_iadd d_law_1049 ?_
  refine X_sldJ hP (lw_in hL (k := 2) (by decide) hi rfl) d_law_1050 ?_
  refine X_aload_n d_law_1051 rfl rfl ?_
  refine X_iload_n d_law_1052 rfl rfl ?_
  refine X_iconst (v := 3) d_law_1053 rfl ?_
  refine X_iadd d_law_1054 ?_
  refine X_sldJ hP (lw_in hL (k := 3) (by decide) hi rfl) d_law_1055 ?_
  refine X_aload_n d_law_1056 rfl rfl ?_
  refine X_iload_n d_law_1057 rfl rfl ?_
  refine X_iconst (v := 4) d_law_1058 rfl ?_
  refine X_iadd d_law_1059 ?_
  refine X_sldJ hP (lw_in hL (k := 4) (by decide) hi rfl) d_law_1060 ?_
  refine X_callV (rest := []) cx lk_X_judge ml_Law_100 (xm_obj rfl) rfl rfl (Nat.le_of_ble_eq_true rfl) ⟨(Nat.le_of_ble_eq_true rfl), (Nat.le_of_ble_eq_true rfl)⟩ ⟨(Nat.le_of_ble_eq_true rfl), (Nat.le_of_ble_eq_true rfl)⟩ d_law_1061 rfl ?_
  refine X_aload_n d_law_1064 rfl rfl ?_
  refine X_aload_n d_law_1065 rfl rfl ?_
  refine X_iload_n d_law_1066 rfl rfl ?_
  refine X_iconst (v := 1) d_law_1067 rfl ?_
  refine X_iadd d_law_1068 ?_
  refine X_sldJ hP (lw_in hL (k := 1) (by decide) hi rfl) d_law_1069 ?_
  refine X_aload_n d_law_1070 rfl rfl ?_
  refine X_iload_n d_law_1071 rfl rfl ?_
  refine X_iconst (v := 2) d_law_1072 rfl ?_
  refine X_iadd d_law_1073 ?_
  refine X_sldJ hP (lw_in hL (k := 2) (by decide) hi rfl) d_law_1074 ?_
  refine X_aload_n d_law_1075 rfl rfl ?_
  refine X_iload_n d_law_1076 rfl rfl ?_
  refine X_iconst (v := 3) d_law_1077 rfl ?_
  refine X_iadd d_law_1078 ?_
  refine X_sldJ hP (lw_in hL (k := 3) (by decide) hi rfl) d_law_1079 ?_
  refine X_aload_n d_law_1080 rfl rfl ?_
  refine X_iload_n d_law_1081 rfl rfl ?_
  refine X_iconst (v := 4) d_law_1082 rfl ?_
  refine X_iadd d_law_1083 ?_
  refine X_sldJ hP (lw_in hL (k := 4) (by decide) hi rfl) d_law_1084 ?_
  refine X_callV (rest := [.int v]) cm lk_Model_judge ml_Law_103 (xm_obj rfl) rfl rfl (Nat.le_of_ble_eq_true rfl) ⟨(Nat.le_of_ble_eq_true rfl), (Nat.le_of_ble_eq_true rfl)⟩ ⟨(Nat.le_of_ble_eq_true rfl), (Nat.le_of_ble_eq_true rfl)⟩ d_law_1085 rfl ?_
  exact X_icmp_eq (tgt := 1768) d_law_1088 (by decide) (fun _ => kk J' hr') (fun hne => absurd rfl hne)
theorem w_c_turned (l : Launch) (G : xG) (nm : String) {P : State → Prop} {rt : Option FieldType} {Z : List Frame → Array Value → State → State → Prop} {b L : Nat} {xs : Nat → Int32} (hP : ∀ s, P s → xScr G b L xs s) (hL : L ≤ 3584) {i : Nat} (hi : i + 7 ≤ L) {I : xI} (hr : RI I) (kk : ∀ I, RI I → XW l G room_1 ⟨"RoundAndRoundLaw", nm, ""⟩ code 4 rt (xKL P) Z 75 (xm G xYf I) 75 4269 1768 [(0, .ref b), (1, .ref (xg G 0)), (2, .ref (xg G 59)), (3, .int (nI i))] []) : XW l G room_1 ⟨"RoundAndRoundLaw", nm, ""⟩ code 4 rt (xKL P) Z 75 (xm G xYf I) 75 4269 1093 [(0, .ref b), (1, .ref (xg G 0)), (2, .ref (xg G 59)), (3, .int (nI i))] [] := by
  obtain ⟨J, J', v, cx, cm, hr'⟩ := s_turned l G (d := 100) 75 (by decide) hr (xs (nI i + 1).toNatClampNeg) (xs (nI i + 2).toNatClampNeg) (xs (nI i + 3).toNatClampNeg) (xs (nI i + 4).toNatClampNeg)
  refine X_aload_n d_law_1093 rfl rfl ?_
  refine X_aload_n d_law_1094 rfl rfl ?_
  refine X_iload_n d_law_1095 rfl rfl ?_
  refine X_iconst (v := 1) d_law_1096 rfl ?_
  refine X_iadd d_law_1097 ?_
  refine X_sldJ hP (lw_in hL (k := 1) (by decide) hi rfl) d_law_1098 ?_
  refine X_aload_n d_law_1099 rfl rfl ?_
  refine X_iload_n d_law_1100 rfl rfl ?_
  refine X_iconst (v := 2) d_law_1101 rfl ?_
  refine X_iadd d_law_1102 ?_
  refine X_sldJ hP (lw_in hL (k := 2) (by decide) hi rfl) d_law_1103 ?_
  refine X_aload_n d_law_1104 rfl rfl ?_
  refine X_iload_n d_law_1105 rfl rfl ?_
  refine X_iconst (v := 3) d_law_1106 rfl ?_
  refine X_iadd d_law_1107 ?_
  refine X_sldJ hP (lw_in hL (k := 3) (by decide) hi rfl) d_law_1108 ?_
  refine X_aload_n d_law_1109 rfl rfl ?_
  refine X_iload_n d_law_1110 rfl rfl ?_
  refine X_iconst (v := 4) d_law_1111 rfl ?_
  refine X_iadd d_law_1112 ?_
  refine X_sldJ hP (lw_in hL (k := 4) (by decide) hi rfl) d_law_1113 ?_
  refine X_callV (rest := []) cx lk_X_turned ml_Law_104 (xm_obj rfl) rfl rfl (Nat.le_of_ble_eq_true rfl) ⟨(Nat.le_of_ble_eq_true rfl), (Nat.le_of_ble_eq_true rfl)⟩ ⟨(Nat.le_of_ble_eq_true rfl), (Nat.le_of_ble_eq_true rfl)⟩ d_law_1114 rfl ?_
  refine X_aload_n d_law_1117 rfl rfl ?_
  refine X_aload_n d_law_1118 rfl rfl ?_
  refine X_iload_n d_law_1119 rfl rfl ?_
  refine X_iconst (v := 1) d_law_1120 rfl ?_
  refine X_iadd d_law_1121 ?_
  refine X_sldJ hP (lw_in hL (k := 1) (by decide) hi rfl) d_law_1122 ?_
  refine X_aload_n d_law_1123 rfl rfl ?_
  refine X_iload_n d_law_1124 rfl rfl ?_
  refine X_iconst (v := 2) d_law_1125 rfl ?_
  refine X_iadd d_law_1126 ?_
  refine X_sldJ hP (lw_in hL (k := 2) (by decide) hi rfl) d_law_1127 ?_
  refine X_aload_n d_law_1128 rfl rfl ?_
  refine X_iload_n d_law_1129 rfl rfl ?_
  refine X_iconst (v := 3) d_law_1130 rfl ?_
  refine X_iadd d_law_1131 ?_
  refine X_sldJ hP (lw_in hL (k := 3) (by decide) hi rfl) d_law_1132 ?_
  refine X_aload_n d_law_1133 rfl rfl ?_
  refine X_iload_n d_law_1134 rfl rfl ?_
  refine X_iconst (v := 4) d_law_1135 rfl ?_
  refine X_iadd d_law_1136 ?_
  refine X_sldJ hP (lw_in hL (k := 4) (by decide) hi rfl) d_law_1137 ?_
  refine X_callV (rest := [.int v]) cm lk_Model_turned ml_Law_107 (xm_obj rfl) rfl rfl (Nat.le_of_ble_eq_true rfl) ⟨(Nat.le_of_ble_eq_true rfl), (Nat.le_of_ble_eq_true rfl)⟩ ⟨(Nat.le_of_ble_eq_true rfl), (Nat.le_of_ble_eq_true rfl)⟩ d_law_1138 rfl ?_
  exact X_icmp_eq (tgt := 1768) d_law_1141 (by decide) (fun _ => kk J' hr') (fun hne => absurd rfl hne)
theorem w_c_kinds (l : Launch) (G : xG) (nm : String) {P : State → Prop} {rt : Option FieldType} {Z : List Frame → Array Value → State → State → Prop} {b L : Nat} {xs : Nat → Int32} (hP : ∀ s, P s → xScr G b L xs s) (hL : L ≤ 3584) {i : Nat} (hi : i + 7 ≤ L) {I : xI} (hr : RI I) (kk : ∀ I, RI I → XW l G room_1 ⟨"RoundAndRoundLaw", nm, ""⟩ code 4 rt (xKL P) Z 75 (xm G xYf I) 75 4269 1768 [(0, .ref b), (1, .ref (xg G 0)), (2, .ref (xg G 59)), (3, .int (nI i))] []) : XW l G room_1 ⟨"RoundAndRoundLaw", nm, ""⟩ code 4 rt (xKL P) Z 75 (xm G xYf I) 75 4269 1146 [(0, .ref b), (1, .ref (xg G 0)), (2, .ref (xg G 59)), (3, .int (nI i))] [] := by
  obtain ⟨J, J', v, cx, cm, hr'⟩ := s_kinds l G (d := 100) 75 (by decide) hr (xs (nI i + 1).toNatClampNeg) (xs (nI i + 2).toNatClampNeg) (xs (nI i + 3).toNatClampNeg) (xs (nI i + 4).toNatClampNeg) (xs (nI i + 5).toNatClampNeg)
  refine X_aload_n d_law_1146 rfl rfl ?_
  refine X_aload_n d_law_1147 rfl rfl ?_
  refine X_iload_n d_law_1148 rfl rfl ?_
  refine X_iconst (v := 1) d_law_1149 rfl ?_
  refine X_iadd d_law_1150 ?_
  refine X_sldJ hP (lw_in hL (k := 1) (by decide) hi rfl) d_law_1151 ?_
  refine X_aload_n d_law_1152 rfl rfl ?_
  refine X_iload_n d_law_1153 rfl rfl ?_
  refine X_iconst (v := 2) d_law_1154 rfl ?_
  refine X_iadd d_law_1155 ?_
  refine X_sldJ hP (lw_in hL (k := 2) (by decide) hi rfl) d_law_1156 ?_
  refine X_aload_n d_law_1157 rfl rfl ?_
  refine X_iload_n d_law_1158 rfl rfl ?_
  refine X_iconst (v := 3) d_law_1159 rfl ?_
  refine X_iadd d_law_1160 ?_
  refine X_sldJ hP (lw_in hL (k := 3) (by decide) hi rfl) d_law_1161 ?_
  refine X_aload_n d_law_1162 rfl rfl ?_
  refine X_iload_n d_law_1163 rfl rfl ?_
  refine X_iconst (v := 4) d_law_1164 rfl ?_
  refine X_iadd d_law_1165 ?_
  refine X_sldJ hP (lw_in hL (k := 4) (by decide) hi rfl) d_law_1166 ?_
  refine X_aload_n d_law_1167 rfl rfl ?_
  refine X_iload_n d_law_1168 rfl rfl ?_
  refine X_iconst (v := 5) d_law_1169 rfl ?_
  refine X_iadd d_law_1170 ?_
  refine X_sldJ hP (lw_in hL (k := 5) (by decide) hi rfl) d_law_1171 ?_
  refine X_callV (rest := []) cx lk_X_kinds ml_Law_108 (xm_obj rfl) rfl rfl (Nat.le_of_ble_eq_true rfl) ⟨(Nat.le_of_ble_eq_true rfl), (Nat.le_of_ble_eq_true rfl)⟩ ⟨(Nat.le_of_ble_eq_true rfl), (Nat.le_of_ble_eq_true rfl)⟩ d_law_1172 rfl ?_
  refine X_aload_n d_law_1175 rfl rfl ?_
  refine X_aload_n d_law_1176 rfl rfl ?_
  refine X_iload_n d_law_1177 rfl rfl ?_
  refine X_iconst (v := 1) d_law_1178 rfl ?_
  refine X_iadd d_law_1179 ?_
  refine X_sldJ hP (lw_in hL (k := 1) (by decide) hi rfl) d_law_1180 ?_
  refine X_aload_n d_law_1181 rfl rfl ?_
  refine X_iload_n d_law_1182 rfl rfl ?_
  refine X_iconst (v := 2) d_law_1183 rfl ?_
  refine X_iadd d_law_1184 ?_
  refine X_sldJ hP (lw_in hL (k := 2) (by decide) hi rfl) d_law_1185 ?_
  refine X_aload_n d_law_1186 rfl rfl ?_
  refine X_iload_n d_law_1187 rfl rfl ?_
  refine X_iconst (v := 3) d_law_1188 rfl ?_
  refine X_iadd d_law_1189 ?_
  refine X_sldJ hP (lw_in hL (k := 3) (by decide) hi rfl) d_law_1190 ?_
  refine X_aload_n d_law_1191 rfl rfl ?_
  refine X_iload_n d_law_1192 rfl rfl ?_
  refine X_iconst (v := 4) d_law_1193 rfl ?_
  refine X_iadd d_law_1194 ?_
  refine X_sldJ hP (lw_in hL (k := 4) (by decide) hi rfl) d_law_1195 ?_
  refine X_aload_n d_law_1196 rfl rfl ?_
  refine X_iload_n d_law_1197 rfl rfl ?_
  refine X_iconst (v := 5) d_law_1198 rfl ?_
  refine X_iadd d_law_1199 ?_
  refine X_sldJ hP (lw_in hL (k := 5) (by decide) hi rfl) d_law_1200 ?_
  refine X_callV (rest := [.int v]) cm lk_Model_kinds ml_Law_111 (xm_obj rfl) rfl rfl (Nat.le_of_ble_eq_true rfl) ⟨(Nat.le_of_ble_eq_true rfl), (Nat.le_of_ble_eq_true rfl)⟩ ⟨(Nat.le_of_ble_eq_true rfl), (Nat.le_of_ble_eq_true rfl)⟩ d_law_1201 rfl ?_
  exact X_icmp_eq (tgt := 1768) d_law_1204 (by decide) (fun _ => kk J' hr') (fun hne => absurd rfl hne)
theorem w_c_laws (l : Launch) (G : xG) (nm : String) {P : State → Prop} {rt : Option FieldType} {Z : List Frame → Array Value → State → State → Prop} {b L : Nat} {xs : Nat → Int32} (hP : ∀ s, P s → xScr G b L xs s) (hL : L ≤ 3584) {i : Nat} (hi : i + 7 ≤ L) {I : xI} (hr : RI I) (kk : ∀ I, RI I → XW l G room_1 ⟨"RoundAndRoundLaw", nm, ""⟩ code 4 rt (xKL P) Z 75 (xm G xYf I) 75 4269 1768 [(0, .ref b), (1, .ref (xg G 0)), (2, .ref (xg G 59)), (3, .int (nI i))] []) : XW l G room_1 ⟨"RoundAndRoundLaw", nm, ""⟩ code 4 rt (xKL P) Z 75 (xm G xYf I) 75 4269 1209 [(0, .ref b), (1, .ref (xg G 0)), (2, .ref (xg G 59)), (3, .int (nI i))] [] := by
  obtain ⟨J, J', v, cx, cm, hr'⟩ := s_laws l G (d := 100) 75 (by decide) hr (xs (nI i + 1).toNatClampNeg) (xs (nI i + 2).toNatClampNeg) (xs (nI i + 3).toNatClampNeg) (xs (nI i + 4).toNatClampNeg)
  refine X_aload_n d_law_1209 rfl rfl ?_
  refine X_aload_n d_law_1210 rfl rfl ?_
  refine X_iload_n d_law_1211 rfl rfl ?_
  refine X_iconst (v := 1) d_law_1212 rfl ?_
  refine X_iadd d_law_1213 ?_
  refine X_sldJ hP (lw_in hL (k := 1) (by decide) hi rfl) d_law_1214 ?_
  refine X_aload_n d_law_1215 rfl rfl ?_
  refine X_iload_n d_law_1216 rfl rfl ?_
  refine X_iconst (v := 2) d_law_1217 rfl ?_
  refine X_iadd d_law_1218 ?_
  refine X_sldJ hP (lw_in hL (k := 2) (by decide) hi rfl) d_law_1219 ?_
  refine X_aload_n d_law_1220 rfl rfl ?_
  refine X_iload_n d_law_1221 rfl rfl ?_
  refine X_iconst (v := 3) d_law_1222 rfl ?_
  refine X_iadd d_law_1223 ?_
  refine X_sldJ hP (lw_in hL (k := 3) (by decide) hi rfl) d_law_1224 ?_
  refine X_aload_n d_law_1225 rfl rfl ?_
  refine X_iload_n d_law_1226 rfl rfl ?_
  refine X_iconst (v := 4) d_law_1227 rfl ?_
  refine X_iadd d_law_1228 ?_
  refine X_sldJ hP (lw_in hL (k := 4) (by decide) hi rfl) d_law_1229 ?_
  refine X_callV (rest := []) cx lk_X_laws ml_Law_112 (xm_obj rfl) rfl rfl (Nat.le_of_ble_eq_true rfl) ⟨(Nat.le_of_ble_eq_true rfl), (Nat.le_of_ble_eq_true rfl)⟩ ⟨(Nat.le_of_ble_eq_true rfl), (Nat.le_of_ble_eq_true rfl)⟩ d_law_1230 rfl ?_
  refine X_aload_n d_law_1233 rfl rfl ?_
  refine X_aload_n d_law_1234 rfl rfl ?_
  refine X_iload_n d_law_1235 rfl rfl ?_
  refine X_iconst (v := 1) d_law_1236 rfl ?_
  refine X_iadd d_law_1237 ?_
  refine X_sldJ hP (lw_in hL (k := 1) (by decide) hi rfl) d_law_1238 ?_
  refine X_aload_n d_law_1239 rfl rfl ?_
  refine X_iload_n d_law_1240 rfl rfl ?_
  refine X_iconst (v := 2) d_law_1241 rfl ?_
  refine X_iadd d_law_1242 ?_
  refine X_sldJ hP (lw_in hL (k := 2) (by decide) hi rfl) d_law_1243 ?_
  refine X_aload_n d_law_1244 rfl rfl ?_
  refine X_iload_n d_law_1245 rfl rfl ?_
  refine X_iconst (v := 3) d_law_1246 rfl ?_
  refine X_iadd d_law_1247 ?_
  refine X_sldJ hP (lw_in hL (k := 3) (by decide) hi rfl) d_law_1248 ?_
  refine X_aload_n d_law_1249 rfl rfl ?_
  refine X_iload_n d_law_1250 rfl rfl ?_
  refine X_iconst (v := 4) d_law_1251 rfl ?_
  refine X_iadd d_law_1252 ?_
  refine X_sldJ hP (lw_in hL (k := 4) (by decide) hi rfl) d_law_1253 ?_
  refine X_callV (rest := [.int v]) cm lk_Model_laws ml_Law_115 (xm_obj rfl) rfl rfl (Nat.le_of_ble_eq_true rfl) ⟨(Nat.le_of_ble_eq_true rfl), (Nat.le_of_ble_eq_true rfl)⟩ ⟨(Nat.le_of_ble_eq_true rfl), (Nat.le_of_ble_eq_true rfl)⟩ d_law_1254 rfl ?_
  exact X_icmp_eq (tgt := 1768) d_law_1257 (by decide) (fun _ => kk J' hr') (fun hne => absurd rfl hne)
theorem w_c_whose (l : Launch) (G : xG) (nm : String) {P : State → Prop} {rt : Option FieldType} {Z : List Frame → Array Value → State → State → Prop} {b L : Nat} {xs : Nat → Int32} (hP : ∀ s, P s → xScr G b L xs s) (hL : L ≤ 3584) {i : Nat} (hi : i + 7 ≤ L) {I : xI} (hr : RI I) (kk : ∀ I, RI I → XW l G room_1 ⟨"RoundAndRoundLaw", nm, ""⟩ code 4 rt (xKL P) Z 75 (xm G xYf I) 75 4269 1768 [(0, .ref b), (1, .ref (xg G 0)), (2, .ref (xg G 59)), (3, .int (nI i))] []) : XW l G room_1 ⟨"RoundAndRoundLaw", nm, ""⟩ code 4 rt (xKL P) Z 75 (xm G xYf I) 75 4269 1262 [(0, .ref b), (1, .ref (xg G 0)), (2, .ref (xg G 59)), (3, .int (nI i))] [] := by
  obtain ⟨J, J', v, cx, cm, hr'⟩ := s_whose l G (d := 100) 75 (by decide) hr (xs (nI i + 1).toNatClampNeg) (xs (nI i + 2).toNatClampNeg) (xs (nI i + 3).toNatClampNeg)
  refine X_aload_n d_law_1262 rfl rfl ?_
  refine X_aload_n d_law_1263 rfl rfl ?_
  refine X_iload_n d_law_1264 rfl rfl ?_
  refine X_iconst (v := 1) d_law_1265 rfl ?_
  refine X_iadd d_law_1266 ?_
  refine X_sldJ hP (lw_in hL (k := 1) (by decide) hi rfl) d_law_1267 ?_
  refine X_aload_n d_law_1268 rfl rfl ?_
  refine X_iload_n d_law_1269 rfl rfl ?_
  refine X_iconst (v := 2) d_law_1270 rfl ?_
  refine X_iadd d_law_1271 ?_
  refine X_sldJ hP (lw_in hL (k := 2) (by decide) hi rfl) d_law_1272 ?_
  refine X_aload_n d_law_1273 rfl rfl ?_
  refine X_iload_n d_law_1274 rfl rfl ?_
  refine X_iconst (v := 3) d_law_1275 rfl ?_
  refine X_iadd d_law_1276 ?_
  refine X_sldJ hP (lw_in hL (k := 3) (by decide) hi rfl) d_law_1277 ?_
  refine X_callV (rest := []) cx lk_X_whose ml_Law_116 (xm_obj rfl) rfl rfl (Nat.le_of_ble_eq_true rfl) ⟨(Nat.le_of_ble_eq_true rfl), (Nat.le_of_ble_eq_true rfl)⟩ ⟨(Nat.le_of_ble_eq_true rfl), (Nat.le_of_ble_eq_true rfl)⟩ d_law_1278 rfl ?_
  refine X_aload_n d_law_1281 rfl rfl ?_
  refine X_aload_n d_law_1282 rfl rfl ?_
  refine X_iload_n d_law_1283 rfl rfl ?_
  refine X_iconst (v := 1) d_law_1284 rfl ?_
  refine X_iadd d_law_1285 ?_
  refine X_sldJ hP (lw_in hL (k := 1) (by decide) hi rfl) d_law_1286 ?_
  refine X_aload_n d_law_1287 rfl rfl ?_
  refine X_iload_n d_law_1288 rfl rfl ?_
  refine X_iconst (v := 2) d_law_1289 rfl ?_
  refine X_iadd d_law_1290 ?_
  refine X_sldJ hP (lw_in hL (k := 2) (by decide) hi rfl) d_law_1291 ?_
  refine X_aload_n d_law_1292 rfl rfl ?_
  refine X_iload_n d_law_1293 rfl rfl ?_
  refine X_iconst (v := 3) d_law_1294 rfl ?_
  refine X_iadd d_law_1295 ?_
  refine X_sldJ hP (lw_in hL (k := 3) (by decide) hi rfl) d_law_1296 ?_
  refine X_callV (rest := [.int v]) cm lk_Model_whose ml_Law_119 (xm_obj rfl) rfl rfl (Nat.le_of_ble_eq_true rfl) ⟨(Nat.le_of_ble_eq_true rfl), (Nat.le_of_ble_eq_true rfl)⟩ ⟨(Nat.le_of_ble_eq_true rfl), (Nat.le_of_ble_eq_true rfl)⟩ d_law_1297 rfl ?_
  exact X_icmp_eq (tgt := 1768) d_law_1300 (by decide) (fun _ => kk J' hr') (fun hne => absurd rfl hne)
theorem w_c_film (l : Launch) (G : xG) (nm : String) {P : State → Prop} {rt : Option FieldType} {Z : List Frame → Array Value → State → State → Prop} {b L : Nat} {xs : Nat → Int32} (hP : ∀ s, P s → xScr G b L xs s) (hL : L ≤ 3584) {i : Nat} (hi : i + 7 ≤ L) {I : xI} (hr : RI I) (kk : ∀ I, RI I → XW l G room_1 ⟨"RoundAndRoundLaw", nm, ""⟩ code 4 rt (xKL P) Z 75 (xm G xYf I) 75 4269 1768 [(0, .ref b), (1, .ref (xg G 0)), (2, .ref (xg G 59)), (3, .int (nI i))] []) : XW l G room_1 ⟨"RoundAndRoundLaw", nm, ""⟩ code 4 rt (xKL P) Z 75 (xm G xYf I) 75 4269 1305 [(0, .ref b), (1, .ref (xg G 0)), (2, .ref (xg G 59)), (3, .int (nI i))] [] := by
  obtain ⟨J, J', v, cx, cm, hr'⟩ := s_film l G (d := 100) 75 (by decide) hr (xs (nI i + 1).toNatClampNeg) (xs (nI i + 2).toNatClampNeg) (xs (nI i + 3).toNatClampNeg) (xs (nI i + 4).toNatClampNeg) (xs (nI i + 5).toNatClampNeg)
  refine X_aload_n d_law_1305 rfl rfl ?_
  refine X_aload_n d_law_1306 rfl rfl ?_
  refine X_iload_n d_law_1307 rfl rfl ?_
  refine X_iconst (v := 1) d_law_1308 rfl ?_
  refine X_iadd d_law_1309 ?_
  refine X_sldJ hP (lw_in hL (k := 1) (by decide) hi rfl) d_law_1310 ?_
  refine X_aload_n d_law_1311 rfl rfl ?_
  refine X_iload_n d_law_1312 rfl rfl ?_
  refine X_iconst (v := 2) d_law_1313 rfl ?_
  refine X_iadd d_law_1314 ?_
  refine X_sldJ hP (lw_in hL (k := 2) (by decide) hi rfl) d_law_1315 ?_
  refine X_aload_n d_law_1316 rfl rfl ?_
  refine X_iload_n d_law_1317 rfl rfl ?_
  refine X_iconst (v := 3) d_law_1318 rfl ?_
  refine X_iadd d_law_1319 ?_
  refine X_sldJ hP (lw_in hL (k := 3) (by decide) hi rfl) d_law_1320 ?_
  refine X_aload_n d_law_1321 rfl rfl ?_
  refine X_iload_n d_law_1322 rfl rfl ?_
  refine X_iconst (v := 4) d_law_1323 rfl ?_
  refine X_iadd d_law_1324 ?_
  refine X_sldJ hP (lw_in hL (k := 4) (by decide) hi rfl) d_law_1325 ?_
  refine X_aload_n d_law_1326 rfl rfl ?_
  refine X_iload_n d_law_1327 rfl rfl ?_
  refine X_iconst (v := 5) d_law_1328 rfl ?_
  refine X_iadd d_law_1329 ?_
  refine X_sldJ hP (lw_in hL (k := 5) (by decide) hi rfl) d_law_1330 ?_
  refine X_callV (rest := []) cx lk_X_film ml_Law_120 (xm_obj rfl) rfl rfl (Nat.le_of_ble_eq_true rfl) ⟨(Nat.le_of_ble_eq_true rfl), (Nat.le_of_ble_eq_true rfl)⟩ ⟨(Nat.le_of_ble_eq_true rfl), (Nat.le_of_ble_eq_true rfl)⟩ d_law_1331 rfl ?_
  refine X_aload_n d_law_1334 rfl rfl ?_
  refine X_aload_n d_law_1335 rfl rfl ?_
  refine X_iload_n d_law_1336 rfl rfl ?_
  refine X_iconst (v := 1) d_law_1337 rfl ?_
  refine X_iadd d_law_1338 ?_
  refine X_sldJ hP (lw_in hL (k := 1) (by decide) hi rfl) d_law_1339 ?_
  refine X_aload_n d_law_1340 rfl rfl ?_
  refine X_iload_n d_law_1341 rfl rfl ?_
  refine X_iconst (v := 2) d_law_1342 rfl ?_
  refine X_iadd d_law_1343 ?_
  refine X_sldJ hP (lw_in hL (k := 2) (by decide) hi rfl) d_law_1344 ?_
  refine X_aload_n d_law_1345 rfl rfl ?_
  refine X_iload_n d_law_1346 rfl rfl ?_
  refine X_iconst (v := 3) d_law_1347 rfl ?_
  refine X_iadd d_law_1348 ?_
  refine X_sldJ hP (lw_in hL (k := 3) (by decide) hi rfl) d_law_1349 ?_
  refine X_aload_n d_law_1350 rfl rfl ?_
  refine X_iload_n d_law_1351 rfl rfl ?_
  refine X_iconst (v := 4) d_law_1352 rfl ?_
  refine X_iadd d_law_1353 ?_
  refine X_sldJ hP (lw_in hL (k := 4) (by decide) hi rfl) d_law_1354 ?_
  refine X_aload_n d_law_1355 rfl rfl ?_
  refine X_iload_n d_law_1356 rfl rfl ?_
  refine X_iconst (v := 5) d_law_1357 rfl ?_
  refine X_iadd d_law_1358 ?_
  refine X_sldJ hP (lw_in hL (k := 5) (by decide) hi rfl) d_law_1359 ?_
  refine X_callV (rest := [.int v]) cm lk_Model_film ml_Law_123 (xm_obj rfl) rfl rfl (Nat.le_of_ble_eq_true rfl) ⟨(Nat.le_of_ble_eq_true rfl), (Nat.le_of_ble_eq_true rfl)⟩ ⟨(Nat.le_of_ble_eq_true rfl), (Nat.le_of_ble_eq_true rfl)⟩ d_law_1360 rfl ?_
  exact X_icmp_eq (tgt := 1768) d_law_1363 (by decide) (fun _ => kk J' hr') (fun hne => absurd rfl hne)
theorem w_c_drawn (l : Launch) (G : xG) (nm : String) {P : State → Prop} {rt : Option FieldType} {Z : List Frame → Array Value → State → State → Prop} {b L : Nat} {xs : Nat → Int32} (hP : ∀ s, P s → xScr G b L xs s) (hL : L ≤ 3584) {i : Nat} (hi : i + 7 ≤ L) {I : xI} (hr : RI I) (kk : ∀ I, RI I → XW l G room_1 ⟨"RoundAndRoundLaw", nm, ""⟩ code 4 rt (xKL P) Z 75 (xm G xYf I) 75 4269 1768 [(0, .ref b), (1, .ref (xg G 0)), (2, .ref (xg G 59)), (3, .int (nI i))] []) : XW l G room_1 ⟨"RoundAndRoundLaw", nm, ""⟩ code 4 rt (xKL P) Z 75 (xm G xYf I) 75 4269 1368 [(0, .ref b), (1, .ref (xg G 0)), (2, .ref (xg G 59)), (3, .int (nI i))] [] := by
  obtain ⟨J, J', v, cx, cm, hr'⟩ := s_drawn l G (d := 100) 75 (by decide) hr (xs (nI i + 1).toNatClampNeg) (xs (nI i + 2).toNatClampNeg) (xs (nI i + 3).toNatClampNeg) (xs (nI i + 4).toNatClampNeg) (xs (nI i + 5).toNatClampNeg)
  refine X_aload_n d_law_1368 rfl rfl ?_
  refine X_aload_n d_law_1369 rfl rfl ?_
  refine X_iload_n d_law_1370 rfl rfl ?_
  refine X_iconst (v := 1) d_law_1371 rfl ?_
  refine X_iadd d_law_1372 ?_
  refine X_sldJ hP (lw_in hL (k := 1) (by decide) hi rfl) d_law_1373 ?_
  refine X_aload_n d_law_1374 rfl rfl ?_
  refine X_iload_n d_law_1375 rfl rfl ?_
  refine X_iconst (v := 2) d_law_1376 rfl ?_
  refine X_iadd d_law_1377 ?_
  refine X_sldJ hP (lw_in hL (k := 2) (by decide) hi rfl) d_law_1378 ?_
  refine X_aload_n d_law_1379 rfl rfl ?_
  refine X_iload_n d_law_1380 rfl rfl ?_
  refine X_iconst (v := 3) d_law_1381 rfl ?_
  refine X_iadd d_law_1382 ?_
  refine X_sldJ hP (lw_in hL (k := 3) (by decide) hi rfl) d_law_1383 ?_
  refine X_aload_n d_law_1384 rfl rfl ?_
  refine X_iload_n d_law_1385 rfl rfl ?_
  refine X_iconst (v := 4) d_law_1386 rfl ?_
  refine X_iadd d_law_1387 ?_
  refine X_sldJ hP (lw_in hL (k := 4) (by decide) hi rfl) d_law_1388 ?_
  refine X_aload_n d_law_1389 rfl rfl ?_
  refine X_iload_n d_law_1390 rfl rfl ?_
  refine X_iconst (v := 5) d_law_1391 rfl ?_
  refine X_iadd d_law_1392 ?_
  refine X_sldJ hP (lw_in hL (k := 5) (by decide) hi rfl) d_law_1393 ?_
  refine X_callV (rest := []) cx lk_X_drawn ml_Law_124 (xm_obj rfl) rfl rfl (Nat.le_of_ble_eq_true rfl) ⟨(Nat.le_of_ble_eq_true rfl), (Nat.le_of_ble_eq_true rfl)⟩ ⟨(Nat.le_of_ble_eq_true rfl), (Nat.le_of_ble_eq_true rfl)⟩ d_law_1394 rfl ?_
  refine X_aload_n d_law_1397 rfl rfl ?_
  refine X_aload_n d_law_1398 rfl rfl ?_
  refine X_iload_n d_law_1399 rfl rfl ?_
  refine X_iconst (v := 1) d_law_1400 rfl ?_
  refine X_iadd d_law_1401 ?_
  refine X_sldJ hP (lw_in hL (k := 1) (by decide) hi rfl) d_law_1402 ?_
  refine X_aload_n d_law_1403 rfl rfl ?_
  refine X_iload_n d_law_1404 rfl rfl ?_
  refine X_iconst (v := 2) d_law_1405 rfl ?_
  refine X_iadd d_law_1406 ?_
  refine X_sldJ hP (lw_in hL (k := 2) (by decide) hi rfl) d_law_1407 ?_
  refine X_aload_n d_law_1408 rfl rfl ?_
  refine X_iload_n d_law_1409 rfl rfl ?_
  refine X_iconst (v := 3) d_law_1410 rfl ?_
  refine X_iadd d_law_1411 ?_
  refine X_sldJ hP (lw_in hL (k := 3) (by decide) hi rfl) d_law_1412 ?_
  refine X_aload_n d_law_1413 rfl rfl ?_
  refine X_iload_n d_law_1414 rfl rfl ?_
  refine X_iconst (v := 4) d_law_1415 rfl ?_
  refine X_iadd d_law_1416 ?_
  refine X_sldJ hP (lw_in hL (k := 4) (by decide) hi rfl) d_law_1417 ?_
  refine X_aload_n d_law_1418 rfl rfl ?_
  refine X_iload_n d_law_1419 rfl rfl ?_
  refine X_iconst (v := 5) d_law_1420 rfl ?_
  refine X_iadd d_law_1421 ?_
  refine X_sldJ hP (lw_in hL (k := 5) (by decide) hi rfl) d_law_1422 ?_
  refine X_callV (rest := [.int v]) cm lk_Model_drawn ml_Law_127 (xm_obj rfl) rfl rfl (Nat.le_of_ble_eq_true rfl) ⟨(Nat.le_of_ble_eq_true rfl), (Nat.le_of_ble_eq_true rfl)⟩ ⟨(Nat.le_of_ble_eq_true rfl), (Nat.le_of_ble_eq_true rfl)⟩ d_law_1423 rfl ?_
  exact X_icmp_eq (tgt := 1768) d_law_1426 (by decide) (fun _ => kk J' hr') (fun hne => absurd rfl hne)
theorem w_c_odds (l : Launch) (G : xG) (nm : String) {P : State → Prop} {rt : Option FieldType} {Z : List Frame → Array Value → State → State → Prop} {b L : Nat} {xs : Nat → Int32} (hP : ∀ s, P s → xScr G b L xs s) (hL : L ≤ 3584) {i : Nat} (hi : i + 7 ≤ L) {I : xI} (hr : RI I) (kk : ∀ I, RI I → XW l G room_1 ⟨"RoundAndRoundLaw", nm, ""⟩ code 4 rt (xKL P) Z 75 (xm G xYf I) 75 4269 1768 [(0, .ref b), (1, .ref (xg G 0)), (2, .ref (xg G 59)), (3, .int (nI i))] []) : XW l G room_1 ⟨"RoundAndRoundLaw", nm, ""⟩ code 4 rt (xKL P) Z 75 (xm G xYf I) 75 4269 1431 [(0, .ref b), (1, .ref (xg G 0)), (2, .ref (xg G 59)), (3, .int (nI i))] [] := by
  obtain ⟨J, J', v, cx, cm, hr'⟩ := s_odds l G (d := 100) 75 (by decide) hr (xs (nI i + 1).toNatClampNeg) (xs (nI i + 2).toNatClampNeg) (xs (nI i + 3).toNatClampNeg) (xs (nI i + 4).toNatClampNeg) (xs (nI i + 5).toNatClampNeg) (xs (nI i + 6).toNatClampNeg)
  refine X_aload_n d_law_1431 rfl rfl ?_
  refine X_aload_n d_law_1432 rfl rfl ?_
  refine X_iload_n d_law_1433 rfl rfl ?_
  refine X_iconst (v := 1) d_law_1434 rfl ?_
  refine X_iadd d_law_1435 ?_
  refine X_sldJ hP (lw_in hL (k := 1) (by decide) hi rfl) d_law_1436 ?_
  refine X_aload_n d_law_1437 rfl rfl ?_
  refine X_iload_n d_law_1438 rfl rfl ?_
  refine X_iconst (v := 2) d_law_1439 rfl ?_
  refine X_iadd d_law_1440 ?_
  refine X_sldJ hP (lw_in hL (k := 2) (by decide) hi rfl) d_law_1441 ?_
  refine X_aload_n d_law_1442 rfl rfl ?_
  refine X_iload_n d_law_1443 rfl rfl ?_
  refine X_iconst (v := 3) d_law_1444 rfl ?_
  refine X_iadd d_law_1445 ?_
  refine X_sldJ hP (lw_in hL (k := 3) (by decide) hi rfl) d_law_1446 ?_
  refine X_aload_n d_law_1447 rfl rfl ?_
  refine X_iload_n d_law_1448 rfl rfl ?_
  refine X_iconst (v := 4) d_law_1449 rfl ?_
  refine X_iadd d_law_1450 ?_
  refine X_sldJ hP (lw_in hL (k := 4) (by decide) hi rfl) d_law_1451 ?_
  refine X_aload_n d_law_1452 rfl rfl ?_
  refine X_iload_n d_law_1453 rfl rfl ?_
  refine X_iconst (v := 5) d_law_1454 rfl ?_
  refine X_iadd d_law_1455 ?_
  refine X_sldJ hP (lw_in hL (k := 5) (by decide) hi rfl) d_law_1456 ?_
  refine X_aload_n d_law_1457 rfl rfl ?_
  refine X_iload_n d_law_1458 rfl rfl ?_
  refine X_bipush (v := 6) d_law_1459 rfl ?_
  refine X_iadd d_law_1461 ?_
  refine X_sldJ hP (lw_in hL (k := 6) (by decide) hi rfl) d_law_1462 ?_
  refine X_callV (rest := []) cx lk_X_odds ml_Law_128 (xm_obj rfl) rfl rfl (Nat.le_of_ble_eq_true rfl) ⟨(Nat.le_of_ble_eq_true rfl), (Nat.le_of_ble_eq_true rfl)⟩ ⟨(Nat.le_of_ble_eq_true rfl), (Nat.le_of_ble_eq_true rfl)⟩ d_law_1463 rfl ?_
  refine X_aload_n d_law_1466 rfl rfl ?_
  refine X_aload_n d_law_1467 rfl rfl ?_
  refine X_iload_n d_law_1468 rfl rfl ?_
  refine X_iconst (v := 1) d_law_1469 rfl ?_
  refine X_iadd d_law_1470 ?_
  refine X_sldJ hP (lw_in hL (k := 1) (by decide) hi rfl) d_law_1471 ?_
  refine X_aload_n d_law_1472 rfl rfl ?_
  refine X_iload_n d_law_1473 rfl rfl ?_
  refine X_iconst (v := 2) d_law_1474 rfl ?_
  refine X_iadd d_law_1475 ?_
  refine X_sldJ hP (lw_in hL (k := 2) (by decide) hi rfl) d_law_1476 ?_
  refine X_aload_n d_law_1477 rfl rfl ?_
  refine X_iload_n d_law_1478 rfl rfl ?_
  refine X_iconst (v := 3) d_law_1479 rfl ?_
  refine X_iadd d_law_1480 ?_
  refine X_sldJ hP (lw_in hL (k := 3) (by decide) hi rfl) d_law_1481 ?_
  refine X_aload_n d_law_1482 rfl rfl ?_
  refine X_iload_n d_law_1483 rfl rfl ?_
  refine X_iconst (v := 4) d_law_1484 rfl ?_
  refine X_iadd d_law_1485 ?_
  refine X_sldJ hP (lw_in hL (k := 4) (by decide) hi rfl) d_law_1486 ?_
  refine X_aload_n d_law_1487 rfl rfl ?_
  refine X_iload_n d_law_1488 rfl rfl ?_
  refine X_iconst (v := 5) d_law_1489 rfl ?_
  refine X_iadd d_law_1490 ?_
  refine X_sldJ hP (lw_in hL (k := 5) (by decide) hi rfl) d_law_1491 ?_
  refine X_aload_n d_law_1492 rfl rfl ?_
  refine X_iload_n d_law_1493 rfl rfl ?_
  refine X_bipush (v := 6) d_law_1494 rfl ?_
  refine X_iadd d_law_1496 ?_
  refine X_sldJ hP (lw_in hL (k := 6) (by decide) hi rfl) d_law_1497 ?_
  refine X_callV (rest := [.long v]) cm lk_Model_odds ml_Law_132 (xm_obj rfl) rfl rfl (Nat.le_of_ble_eq_true rfl) ⟨(Nat.le_of_ble_eq_true rfl), (Nat.le_of_ble_eq_true rfl)⟩ ⟨(Nat.le_of_ble_eq_true rfl), (Nat.le_of_ble_eq_true rfl)⟩ d_law_1498 rfl ?_
  refine X_lcmp d_law_1501 ?_
  exact X_if_eq (tgt := 1768) d_law_1502 (by decide) (fun _ => kk J' hr') (fun hne => absurd ((lg_cmp_eq v v).mpr rfl) hne)
theorem w_c_image (l : Launch) (G : xG) (nm : String) {P : State → Prop} {rt : Option FieldType} {Z : List Frame → Array Value → State → State → Prop} {b L : Nat} {xs : Nat → Int32} (hP : ∀ s, P s → xScr G b L xs s) (hL : L ≤ 3584) {i : Nat} (hi : i + 7 ≤ L) {I : xI} (hr : RI I) (kk : ∀ I, RI I → XW l G room_1 ⟨"RoundAndRoundLaw", nm, ""⟩ code 4 rt (xKL P) Z 75 (xm G xYf I) 75 4269 1768 [(0, .ref b), (1, .ref (xg G 0)), (2, .ref (xg G 59)), (3, .int (nI i))] []) : XW l G room_1 ⟨"RoundAndRoundLaw", nm, ""⟩ code 4 rt (xKL P) Z 75 (xm G xYf I) 75 4269 1507 [(0, .ref b), (1, .ref (xg G 0)), (2, .ref (xg G 59)), (3, .int (nI i))] [] := by
  obtain ⟨J, J', v, cx, cm, hr'⟩ := s_image l G (d := 100) 75 (by decide) hr
  refine X_aload_n d_law_1507 rfl rfl ?_
  refine X_callV (rest := []) cx lk_X_image ml_Law_133 (xm_obj rfl) rfl rfl (Nat.le_of_ble_eq_true rfl) ⟨(Nat.le_of_ble_eq_true rfl), (Nat.le_of_ble_eq_true rfl)⟩ ⟨(Nat.le_of_ble_eq_true rfl), (Nat.le_of_ble_eq_true rfl)⟩ d_law_1508 rfl ?_
  refine X_aload_n d_law_1511 rfl rfl ?_
  refine X_callV (rest := [.int v]) cm lk_Model_image ml_Law_136 (xm_obj rfl) rfl rfl (Nat.le_of_ble_eq_true rfl) ⟨(Nat.le_of_ble_eq_true rfl), (Nat.le_of_ble_eq_true rfl)⟩ ⟨(Nat.le_of_ble_eq_true rfl), (Nat.le_of_ble_eq_true rfl)⟩ d_law_1512 rfl ?_
  exact X_icmp_eq (tgt := 1768) d_law_1515 (by decide) (fun _ => kk J' hr') (fun hne => absurd rfl hne)
theorem w_c_back (l : Launch) (G : xG) (nm : String) {P : State → Prop} {rt : Option FieldType} {Z : List Frame → Array Value → State → State → Prop} {b L : Nat} {xs : Nat → Int32} (hP : ∀ s, P s → xScr G b L xs s) (hL : L ≤ 3584) {i : Nat} (hi : i + 7 ≤ L) {I : xI} (hr : RI I) (kk : ∀ I, RI I → XW l G room_1 ⟨"RoundAndRoundLaw", nm, ""⟩ code 4 rt (xKL P) Z 75 (xm G xYf I) 75 4269 1768 [(0, .ref b), (1, .ref (xg G 0)), (2, .ref (xg G 59)), (3, .int (nI i))] []) : XW l G room_1 ⟨"RoundAndRoundLaw", nm, ""⟩ code 4 rt (xKL P) Z 75 (xm G xYf I) 75 4269 1520 [(0, .ref b), (1, .ref (xg G 0)), (2, .ref (xg G 59)), (3, .int (nI i))] [] := by
  obtain ⟨J, J', v, cx, cm, hr'⟩ := s_back l G (d := 100) 75 (by decide) hr
  refine X_aload_n d_law_1520 rfl rfl ?_
  refine X_callV (rest := []) cx lk_X_back ml_Law_137 (xm_obj rfl) rfl rfl (Nat.le_of_ble_eq_true rfl) ⟨(Nat.le_of_ble_eq_true rfl), (Nat.le_of_ble_eq_true rfl)⟩ ⟨(Nat.le_of_ble_eq_true rfl), (Nat.le_of_ble_eq_true rfl)⟩ d_law_1521 rfl ?_
  refine X_aload_n d_law_1524 rfl rfl ?_
  refine X_callV (rest := [.int v]) cm lk_Model_back ml_Law_140 (xm_obj rfl) rfl rfl (Nat.le_of_ble_eq_true rfl) ⟨(Nat.le_of_ble_eq_true rfl), (Nat.le_of_ble_eq_true rfl)⟩ ⟨(Nat.le_of_ble_eq_true rfl), (Nat.le_of_ble_eq_true rfl)⟩ d_law_1525 rfl ?_
  exact X_icmp_eq (tgt := 1768) d_law_1528 (by decide) (fun _ => kk J' hr') (fun hne => absurd rfl hne)
theorem w_c_sheet (l : Launch) (G : xG) (nm : String) {P : State → Prop} {rt : Option FieldType} {Z : List Frame → Array Value → State → State → Prop} {b L : Nat} {xs : Nat → Int32} (hP : ∀ s, P s → xScr G b L xs s) (hL : L ≤ 3584) {i : Nat} (hi : i + 7 ≤ L) {I : xI} (hr : RI I) (kk : ∀ I, RI I → XW l G room_1 ⟨"RoundAndRoundLaw", nm, ""⟩ code 4 rt (xKL P) Z 75 (xm G xYf I) 75 4269 1768 [(0, .ref b), (1, .ref (xg G 0)), (2, .ref (xg G 59)), (3, .int (nI i))] []) : XW l G room_1 ⟨"RoundAndRoundLaw", nm, ""⟩ code 4 rt (xKL P) Z 75 (xm G xYf I) 75 4269 1533 [(0, .ref b), (1, .ref (xg G 0)), (2, .ref (xg G 59)), (3, .int (nI i))] [] := by
  obtain ⟨J, J', v, cx, cm, hr'⟩ := s_sheet l G (d := 100) 75 (by decide) hr (xs (nI i + 1).toNatClampNeg) (xs (nI i + 2).toNatClampNeg) (xs (nI i + 3).toNatClampNeg)
  refine X_aload_n d_law_1533 rfl rfl ?_
  refine X_aload_n d_law_1534 rfl rfl ?_
  refine X_iload_n d_law_1535 rfl rfl ?_
  refine X_iconst (v := 1) d_law_1536 rfl ?_
  refine X_iadd d_law_1537 ?_
  refine X_sldJ hP (lw_in hL (k := 1) (by decide) hi rfl) d_law_1538 ?_
  refine X_aload_n d_law_1539 rfl rfl ?_
  refine X_iload_n d_law_1540 rfl rfl ?_
  refine X_iconst (v := 2) d_law_1541 rfl ?_
  refine X_iadd d_law_1542 ?_
  refine X_sldJ hP (lw_in hL (k := 2) (by decide) hi rfl) d_law_1543 ?_
  refine X_aload_n d_law_1544 rfl rfl ?_
  refine X_iload_n d_law_1545 rfl rfl ?_
  refine X_iconst (v := 3) d_law_1546 rfl ?_
  refine X_iadd d_law_1547 ?_
  refine X_sldJ hP (lw_in hL (k := 3) (by decide) hi rfl) d_law_1548 ?_
  refine X_callV (rest := []) cx lk_X_sheet ml_Law_141 (xm_obj rfl) rfl rfl (Nat.le_of_ble_eq_true rfl) ⟨(Nat.le_of_ble_eq_true rfl), (Nat.le_of_ble_eq_true rfl)⟩ ⟨(Nat.le_of_ble_eq_true rfl), (Nat.le_of_ble_eq_true rfl)⟩ d_law_1549 rfl ?_
  refine X_aload_n d_law_1552 rfl rfl ?_
  refine X_aload_n d_law_1553 rfl rfl ?_
  refine X_iload_n d_law_1554 rfl rfl ?_
  refine X_iconst (v := 1) d_law_1555 rfl ?_
  refine X_iadd d_law_1556 ?_
  refine X_sldJ hP (lw_in hL (k := 1) (by decide) hi rfl) d_law_1557 ?_
  refine X_aload_n d_law_1558 rfl rfl ?_
  refine X_iload_n d_law_1559 rfl rfl ?_
  refine X_iconst (v := 2) d_law_1560 rfl ?_
  refine X_iadd d_law_1561 ?_
  refine X_sldJ hP (lw_in hL (k := 2) (by decide) hi rfl) d_law_1562 ?_
  refine X_aload_n d_law_1563 rfl rfl ?_
  refine X_iload_n d_law_1564 rfl rfl ?_
  refine X_iconst (v := 3) d_law_1565 rfl ?_
  refine X_iadd d_law_1566 ?_
  refine X_sldJ hP (lw_in hL (k := 3) (by decide) hi rfl) d_law_1567 ?_
  refine X_callV (rest := [.int v]) cm lk_Model_sheet ml_Law_144 (xm_obj rfl) rfl rfl (Nat.le_of_ble_eq_true rfl) ⟨(Nat.le_of_ble_eq_true rfl), (Nat.le_of_ble_eq_true rfl)⟩ ⟨(Nat.le_of_ble_eq_true rfl), (Nat.le_of_ble_eq_true rfl)⟩ d_law_1568 rfl ?_
  exact X_icmp_eq (tgt := 1768) d_law_1571 (by decide) (fun _ => kk J' hr') (fun hne => absurd rfl hne)
theorem w_c_cell (l : Launch) (G : xG) (nm : String) {P : State → Prop} {rt : Option FieldType} {Z : List Frame → Array Value → State → State → Prop} {b L : Nat} {xs : Nat → Int32} (hP : ∀ s, P s → xScr G b L xs s) (hL : L ≤ 3584) {i : Nat} (hi : i + 7 ≤ L) {I : xI} (hr : RI I) (kk : ∀ I, RI I → XW l G room_1 ⟨"RoundAndRoundLaw", nm, ""⟩ code 4 rt (xKL P) Z 75 (xm G xYf I) 75 4269 1768 [(0, .ref b), (1, .ref (xg G 0)), (2, .ref (xg G 59)), (3, .int (nI i))] []) : XW l G room_1 ⟨"RoundAndRoundLaw", nm, ""⟩ code 4 rt (xKL P) Z 75 (xm G xYf I) 75 4269 1576 [(0, .ref b), (1, .ref (xg G 0)), (2, .ref (xg G 59)), (3, .int (nI i))] [] := by
  obtain ⟨J, J', v, cx, cm, hr'⟩ := s_cell l G (d := 100) 75 (by decide) hr (xs (nI i + 1).toNatClampNeg) (xs (nI i + 2).toNatClampNeg) (xs (nI i + 3).toNatClampNeg)
  refine X_aload_n d_law_1576 rfl rfl ?_
  refine X_aload_n d_law_1577 rfl rfl ?_
  refine X_iload_n d_law_1578 rfl rfl ?_
  refine X_iconst (v := 1) d_law_1579 rfl ?_
  refine X_iadd d_law_1580 ?_
  refine X_sldJ hP (lw_in hL (k := 1) (by decide) hi rfl) d_law_1581 ?_
  refine X_aload_n d_law_1582 rfl rfl ?_
  refine X_iload_n d_law_1583 rfl rfl ?_
  refine X_iconst (v := 2) d_law_1584 rfl ?_
  refine X_iadd d_law_1585 ?_
  refine X_sldJ hP (lw_in hL (k := 2) (by decide) hi rfl) d_law_1586 ?_
  refine X_aload_n d_law_1587 rfl rfl ?_
  refine X_iload_n d_law_1588 rfl rfl ?_
  refine X_iconst (v := 3) d_law_1589 rfl ?_
  refine X_iadd d_law_1590 ?_
  refine X_sldJ hP (lw_in hL (k := 3) (by decide) hi rfl) d_law_1591 ?_
  refine X_callV (rest := []) cx lk_X_cell ml_Law_145 (xm_obj rfl) rfl rfl (Nat.le_of_ble_eq_true rfl) ⟨(Nat.le_of_ble_eq_true rfl), (Nat.le_of_ble_eq_true rfl)⟩ ⟨(Nat.le_of_ble_eq_true rfl), (Nat.le_of_ble_eq_true rfl)⟩ d_law_1592 rfl ?_
  refine X_aload_n d_law_1595 rfl rfl ?_
  refine X_aload_n d_law_1596 rfl rfl ?_
  refine X_iload_n d_law_1597 rfl rfl ?_
  refine X_iconst (v := 1) d_law_1598 rfl ?_
  refine X_iadd d_law_1599 ?_
  refine X_sldJ hP (lw_in hL (k := 1) (by decide) hi rfl) d_law_1600 ?_
  refine X_aload_n d_law_1601 rfl rfl ?_
  refine X_iload_n d_law_1602 rfl rfl ?_
  refine X_iconst (v := 2) d_law_1603 rfl ?_
  refine X_iadd d_law_1604 ?_
  refine X_sldJ hP (lw_in hL (k := 2) (by decide) hi rfl) d_law_1605 ?_
  refine X_aload_n d_law_1606 rfl rfl ?_
  refine X_iload_n d_law_1607 rfl rfl ?_
  refine X_iconst (v := 3) d_law_1608 rfl ?_
  refine X_iadd d_law_1609 ?_
  refine X_sldJ hP (lw_in hL (k := 3) (by decide) hi rfl) d_law_1610 ?_
  refine X_callV (rest := [.int v]) cm lk_Model_cell ml_Law_148 (xm_obj rfl) rfl rfl (Nat.le_of_ble_eq_true rfl) ⟨(Nat.le_of_ble_eq_true rfl), (Nat.le_of_ble_eq_true rfl)⟩ ⟨(Nat.le_of_ble_eq_true rfl), (Nat.le_of_ble_eq_true rfl)⟩ d_law_1611 rfl ?_
  exact X_icmp_eq (tgt := 1768) d_law_1614 (by decide) (fun _ => kk J' hr') (fun hne => absurd rfl hne)
theorem w_c_copy (l : Launch) (G : xG) (nm : String) {P : State → Prop} {rt : Option FieldType} {Z : List Frame → Array Value → State → State → Prop} {b L : Nat} {xs : Nat → Int32} (hP : ∀ s, P s → xScr G b L xs s) (hL : L ≤ 3584) {i : Nat} (hi : i + 7 ≤ L) {I : xI} (hr : RI I) (kk : ∀ I, RI I → XW l G room_1 ⟨"RoundAndRoundLaw", nm, ""⟩ code 4 rt (xKL P) Z 75 (xm G xYf I) 75 4269 1768 [(0, .ref b), (1, .ref (xg G 0)), (2, .ref (xg G 59)), (3, .int (nI i))] []) : XW l G room_1 ⟨"RoundAndRoundLaw", nm, ""⟩ code 4 rt (xKL P) Z 75 (xm G xYf I) 75 4269 1619 [(0, .ref b), (1, .ref (xg G 0)), (2, .ref (xg G 59)), (3, .int (nI i))] [] := by
  obtain ⟨J, J', v, cx, cm, hr'⟩ := s_copy l G (d := 100) 75 (by decide) hr (xs (nI i + 1).toNatClampNeg) (xs (nI i + 2).toNatClampNeg) (xs (nI i + 3).toNatClampNeg) (xs (nI i + 4).toNatClampNeg) (xs (nI i + 5).toNatClampNeg)
  refine X_aload_n d_law_1619 rfl rfl ?_
  refine X_aload_n d_law_1620 rfl rfl ?_
  refine X_iload_n d_law_1621 rfl rfl ?_
  refine X_iconst (v := 1) d_law_1622 rfl ?_
  refine X_iadd d_law_1623 ?_
  refine X_sldJ hP (lw_in hL (k := 1) (by decide) hi rfl) d_law_1624 ?_
  refine X_aload_n d_law_1625 rfl rfl ?_
  refine X_iload_n d_law_1626 rfl rfl ?_
  refine X_iconst (v := 2) d_law_1627 rfl ?_
  refine X_iadd d_law_1628 ?_
  refine X_sldJ hP (lw_in hL (k := 2) (by decide) hi rfl) d_law_1629 ?_
  refine X_aload_n d_law_1630 rfl rfl ?_
  refine X_iload_n d_law_1631 rfl rfl ?_
  refine X_iconst (v := 3) d_law_1632 rfl ?_
  refine X_iadd d_law_1633 ?_
  refine X_sldJ hP (lw_in hL (k := 3) (by decide) hi rfl) d_law_1634 ?_
  refine X_aload_n d_law_1635 rfl rfl ?_
  refine X_iload_n d_law_1636 rfl rfl ?_
  refine X_iconst (v := 4) d_law_1637 rfl ?_
  refine X_iadd d_law_1638 ?_
  refine X_sldJ hP (lw_in hL (k := 4) (by decide) hi rfl) d_law_1639 ?_
  refine X_aload_n d_law_1640 rfl rfl ?_
  refine X_iload_n d_law_1641 rfl rfl ?_
  refine X_iconst (v := 5) d_law_1642 rfl ?_
  refine X_iadd d_law_1643 ?_
  refine X_sldJ hP (lw_in hL (k := 5) (by decide) hi rfl) d_law_1644 ?_
  refine X_callV (rest := []) cx lk_X_copy ml_Law_149 (xm_obj rfl) rfl rfl (Nat.le_of_ble_eq_true rfl) ⟨(Nat.le_of_ble_eq_true rfl), (Nat.le_of_ble_eq_true rfl)⟩ ⟨(Nat.le_of_ble_eq_true rfl), (Nat.le_of_ble_eq_true rfl)⟩ d_law_1645 rfl ?_
  refine X_aload_n d_law_1648 rfl rfl ?_
  refine X_aload_n d_law_1649 rfl rfl ?_
  refine X_iload_n d_law_1650 rfl rfl ?_
  refine X_iconst (v := 1) d_law_1651 rfl ?_
  refine X_iadd d_law_1652 ?_
  refine X_sldJ hP (lw_in hL (k := 1) (by decide) hi rfl) d_law_1653 ?_
  refine X_aload_n d_law_1654 rfl rfl ?_
  refine X_iload_n d_law_1655 rfl rfl ?_
  refine X_iconst (v := 2) d_law_1656 rfl ?_
  refine X_iadd d_law_1657 ?_
  refine X_sldJ hP (lw_in hL (k := 2) (by decide) hi rfl) d_law_1658 ?_
  refine X_aload_n d_law_1659 rfl rfl ?_
  refine X_iload_n d_law_1660 rfl rfl ?_
  refine X_iconst (v := 3) d_law_1661 rfl ?_
  refine X_iadd d_law_1662 ?_
  refine X_sldJ hP (lw_in hL (k := 3) (by decide) hi rfl) d_law_1663 ?_
  refine X_aload_n d_law_1664 rfl rfl ?_
  refine X_iload_n d_law_1665 rfl rfl ?_
  refine X_iconst (v := 4) d_law_1666 rfl ?_
  refine X_iadd d_law_1667 ?_
  refine X_sldJ hP (lw_in hL (k := 4) (by decide) hi rfl) d_law_1668 ?_
  refine X_aload_n d_law_1669 rfl rfl ?_
  refine X_iload_n d_law_1670 rfl rfl ?_
  refine X_iconst (v := 5) d_law_1671 rfl ?_
  refine X_iadd d_law_1672 ?_
  refine X_sldJ hP (lw_in hL (k := 5) (by decide) hi rfl) d_law_1673 ?_
  refine X_callV (rest := [.int v]) cm lk_Model_copy ml_Law_152 (xm_obj rfl) rfl rfl (Nat.le_of_ble_eq_true rfl) ⟨(Nat.le_of_ble_eq_true rfl), (Nat.le_of_ble_eq_true rfl)⟩ ⟨(Nat.le_of_ble_eq_true rfl), (Nat.le_of_ble_eq_true rfl)⟩ d_law_1674 rfl ?_
  exact X_icmp_eq (tgt := 1768) d_law_1677 (by decide) (fun _ => kk J' hr') (fun hne => absurd rfl hne)
theorem w_c_headsBy (l : Launch) (G : xG) (nm : String) {P : State → Prop} {rt : Option FieldType} {Z : List Frame → Array Value → State → State → Prop} {b L : Nat} {xs : Nat → Int32} (hP : ∀ s, P s → xScr G b L xs s) (hL : L ≤ 3584) {i : Nat} (hi : i + 7 ≤ L) {I : xI} (hr : RI I) (kk : ∀ I, RI I → XW l G room_1 ⟨"RoundAndRoundLaw", nm, ""⟩ code 4 rt (xKL P) Z 75 (xm G xYf I) 75 4269 1768 [(0, .ref b), (1, .ref (xg G 0)), (2, .ref (xg G 59)), (3, .int (nI i))] []) : XW l G room_1 ⟨"RoundAndRoundLaw", nm, ""⟩ code 4 rt (xKL P) Z 75 (xm G xYf I) 75 4269 1682 [(0, .ref b), (1, .ref (xg G 0)), (2, .ref (xg G 59)), (3, .int (nI i))] [] := by
  obtain ⟨J, J', v, cx, cm, hr'⟩ := s_headsBy l G (d := 100) 75 (by decide) hr (xs (nI i + 1).toNatClampNeg) (xs (nI i + 2).toNatClampNeg) (xs (nI i + 3).toNatClampNeg) (xs (nI i + 4).toNatClampNeg)
  refine X_aload_n d_law_1682 rfl rfl ?_
  refine X_aload_n d_law_1683 rfl rfl ?_
  refine X_iload_n d_law_1684 rfl rfl ?_
  refine X_iconst (v := 1) d_law_1685 rfl ?_
  refine X_iadd d_law_1686 ?_
  refine X_sldJ hP (lw_in hL (k := 1) (by decide) hi rfl) d_law_1687 ?_
  refine X_aload_n d_law_1688 rfl rfl ?_
  refine X_iload_n d_law_1689 rfl rfl ?_
  refine X_iconst (v := 2) d_law_1690 rfl ?_
  refine X_iadd d_law_1691 ?_
  refine X_sldJ hP (lw_in hL (k := 2) (by decide) hi rfl) d_law_1692 ?_
  refine X_aload_n d_law_1693 rfl rfl ?_
  refine X_iload_n d_law_1694 rfl rfl ?_
  refine X_iconst (v := 3) d_law_1695 rfl ?_
  refine X_iadd d_law_1696 ?_
  refine X_sldJ hP (lw_in hL (k := 3) (by decide) hi rfl) d_law_1697 ?_
  refine X_aload_n d_law_1698 rfl rfl ?_
  refine X_iload_n d_law_1699 rfl rfl ?_
  refine X_iconst (v := 4) d_law_1700 rfl ?_
  refine X_iadd d_law_1701 ?_
  refine X_sldJ hP (lw_in hL (k := 4) (by decide) hi rfl) d_law_1702 ?_
  refine X_callV (rest := []) cx lk_X_headsBy ml_Law_153 (xm_obj rfl) rfl rfl (Nat.le_of_ble_eq_true rfl) ⟨(Nat.le_of_ble_eq_true rfl), (Nat.le_of_ble_eq_true rfl)⟩ ⟨(Nat.le_of_ble_eq_true rfl), (Nat.le_of_ble_eq_true rfl)⟩ d_law_1703 rfl ?_
  refine X_aload_n d_law_1706 rfl rfl ?_
  refine X_aload_n d_law_1707 rfl rfl ?_
  refine X_iload_n d_law_1708 rfl rfl ?_
  refine X_iconst (v := 1) d_law_1709 rfl ?_
  refine X_iadd d_law_1710 ?_
  refine X_sldJ hP (lw_in hL (k := 1) (by decide) hi rfl) d_law_1711 ?_
  refine X_aload_n d_law_1712 rfl rfl ?_
  refine X_iload_n d_law_1713 rfl rfl ?_
  refine X_iconst (v := 2) d_law_1714 rfl ?_
  refine X_iadd d_law_1715 ?_
  refine X_sldJ hP (lw_in hL (k := 2) (by decide) hi rfl) d_law_1716 ?_
  refine X_aload_n d_law_1717 rfl rfl ?_
  refine X_iload_n d_law_1718 rfl rfl ?_
  refine X_iconst (v := 3) d_law_1719 rfl ?_
  refine X_iadd d_law_1720 ?_
  refine X_sldJ hP (lw_in hL (k := 3) (by decide) hi rfl) d_law_1721 ?_
  refine X_aload_n d_law_1722 rfl rfl ?_
  refine X_iload_n d_law_1723 rfl rfl ?_
  refine X_iconst (v := 4) d_law_1724 rfl ?_
  refine X_iadd d_law_1725 ?_
  refine X_sldJ hP (lw_in hL (k := 4) (by decide) hi rfl) d_law_1726 ?_
  refine X_callV (rest := [.int v]) cm lk_Model_headsBy ml_Law_156 (xm_obj rfl) rfl rfl (Nat.le_of_ble_eq_true rfl) ⟨(Nat.le_of_ble_eq_true rfl), (Nat.le_of_ble_eq_true rfl)⟩ ⟨(Nat.le_of_ble_eq_true rfl), (Nat.le_of_ble_eq_true rfl)⟩ d_law_1727 rfl ?_
  exact X_icmp_eq (tgt := 1768) d_law_1730 (by decide) (fun _ => kk J' hr') (fun hne => absurd rfl hne)
theorem w_c_taken (l : Launch) (G : xG) (nm : String) {P : State → Prop} {rt : Option FieldType} {Z : List Frame → Array Value → State → State → Prop} {b L : Nat} {xs : Nat → Int32} (hP : ∀ s, P s → xScr G b L xs s) (hL : L ≤ 3584) {i : Nat} (hi : i + 7 ≤ L) {I : xI} (hr : RI I) (kk : ∀ I, RI I → XW l G room_1 ⟨"RoundAndRoundLaw", nm, ""⟩ code 4 rt (xKL P) Z 75 (xm G xYf I) 75 4269 1768 [(0, .ref b), (1, .ref (xg G 0)), (2, .ref (xg G 59)), (3, .int (nI i))] []) : XW l G room_1 ⟨"RoundAndRoundLaw", nm, ""⟩ code 4 rt (xKL P) Z 75 (xm G xYf I) 75 4269 1735 [(0, .ref b), (1, .ref (xg G 0)), (2, .ref (xg G 59)), (3, .int (nI i))] [] := by
  obtain ⟨J, J', v, cx, cm, hr'⟩ := s_taken l G (d := 100) 75 (by decide) hr (xs (nI i + 1).toNatClampNeg) (xs (nI i + 2).toNatClampNeg)
  refine X_aload_n d_law_1735 rfl rfl ?_
  refine X_aload_n d_law_1736 rfl rfl ?_
  refine X_iload_n d_law_1737 rfl rfl ?_
  refine X_iconst (v := 1) d_law_1738 rfl ?_
  refine X_iadd d_law_1739 ?_
  refine X_sldJ hP (lw_in hL (k := 1) (by decide) hi rfl) d_law_1740 ?_
  refine X_aload_n d_law_1741 rfl rfl ?_
  refine X_iload_n d_law_1742 rfl rfl ?_
  refine X_iconst (v := 2) d_law_1743 rfl ?_
  refine X_iadd d_law_1744 ?_
  refine X_sldJ hP (lw_in hL (k := 2) (by decide) hi rfl) d_law_1745 ?_
  refine X_callV (rest := []) cx lk_X_taken ml_Law_157 (xm_obj rfl) rfl rfl (Nat.le_of_ble_eq_true rfl) ⟨(Nat.le_of_ble_eq_true rfl), (Nat.le_of_ble_eq_true rfl)⟩ ⟨(Nat.le_of_ble_eq_true rfl), (Nat.le_of_ble_eq_true rfl)⟩ d_law_1746 rfl ?_
  refine X_aload_n d_law_1749 rfl rfl ?_
  refine X_aload_n d_law_1750 rfl rfl ?_
  refine X_iload_n d_law_1751 rfl rfl ?_
  refine X_iconst (v := 1) d_law_1752 rfl ?_
  refine X_iadd d_law_1753 ?_
  refine X_sldJ hP (lw_in hL (k := 1) (by decide) hi rfl) d_law_1754 ?_
  refine X_aload_n d_law_1755 rfl rfl ?_
  refine X_iload_n d_law_1756 rfl rfl ?_
  refine X_iconst (v := 2) d_law_1757 rfl ?_
  refine X_iadd d_law_1758 ?_
  refine X_sldJ hP (lw_in hL (k := 2) (by decide) hi rfl) d_law_1759 ?_
  refine X_callV (rest := [.int v]) cm lk_Model_taken ml_Law_160 (xm_obj rfl) rfl rfl (Nat.le_of_ble_eq_true rfl) ⟨(Nat.le_of_ble_eq_true rfl), (Nat.le_of_ble_eq_true rfl)⟩ ⟨(Nat.le_of_ble_eq_true rfl), (Nat.le_of_ble_eq_true rfl)⟩ d_law_1760 rfl ?_
  exact X_icmp_eq (tgt := 1768) d_law_1763 (by decide) (fun _ => kk J' hr') (fun hne => absurd rfl hne)
theorem w_turn (l : Launch) (G : xG) (nm : String) {P : State → Prop} {rt : Option FieldType} {Z : List Frame → Array Value → State → State → Prop} {b L : Nat} {xs : Nat → Int32} (hP : ∀ s, P s → xScr G b L xs s) (hL : L ≤ 3584) {i : Nat} (hi : i + 7 ≤ L) {I : xI} (hr : RI I) (kk : ∀ I, RI I → XW l G room_1 ⟨"RoundAndRoundLaw", nm, ""⟩ code 4 rt (xKL P) Z 75 (xm G xYf I) 75 4269 1768 [(0, .ref b), (1, .ref (xg G 0)), (2, .ref (xg G 59)), (3, .int (nI i))] []) : XW l G room_1 ⟨"RoundAndRoundLaw", nm, ""⟩ code 4 rt (xKL P) Z 75 (xm G xYf I) 75 4269 27 [(0, .ref b), (1, .ref (xg G 0)), (2, .ref (xg G 59)), (3, .int (nI i))] [] := by
  refine X_aload_n d_law_27 rfl rfl ?_
  refine X_iload_n d_law_28 rfl rfl ?_
  refine X_sldJ hP (vp_in_nI (show i < L by omega) (by omega)) d_law_29 ?_
  refine X_bipush (v := 63) d_law_30 rfl ?_
  refine X_iand d_law_32 ?_
  generalize xs (nI i).toNatClampNeg &&& 63 = x
  by_cases hx : vp_in x 35
  · obtain ⟨k, hk, rfl⟩ := vp_in_of hx (by decide)
    match k, hk with
    | 0, _ => exact X_tableIn (tgt := 188) d_law_33 (by decide) (by decide) rfl (by decide) (w_c_count l G nm hP hL hi hr kk)
    | 1, _ => exact X_tableIn (tgt := 211) d_law_33 (by decide) (by decide) rfl (by decide) (w_c_feed l G nm hP hL hi hr kk)
    | 2, _ => exact X_tableIn (tgt := 286) d_law_33 (by decide) (by decide) rfl (by decide) (w_c_text l G nm hP hL hi hr kk)
    | 3, _ => exact X_tableIn (tgt := 299) d_law_33 (by decide) (by decide) rfl (by decide) (w_c_force l G nm hP hL hi hr kk)
    | 4, _ => exact X_tableIn (tgt := 322) d_law_33 (by decide) (by decide) rfl (by decide) (w_c_asks l G nm hP hL hi hr kk)
    | 5, _ => exact X_tableIn (tgt := 365) d_law_33 (by decide) (by decide) rfl (by decide) (w_c_head l G nm hP hL hi hr kk)
    | 6, _ => exact X_tableIn (tgt := 398) d_law_33 (by decide) (by decide) rfl (by decide) (w_c_set l G nm hP hL hi hr kk)
    | 7, _ => exact X_tableIn (tgt := 441) d_law_33 (by decide) (by decide) rfl (by decide) (w_c_told l G nm hP hL hi hr kk)
    | 8, _ => exact X_tableIn (tgt := 474) d_law_33 (by decide) (by decide) rfl (by decide) (w_c_turn l G nm hP hL hi hr kk)
    | 9, _ => exact X_tableIn (tgt := 517) d_law_33 (by decide) (by decide) rfl (by decide) (w_c_rest l G nm hP hL hi hr kk)
    | 10, _ => exact X_tableIn (tgt := 560) d_law_33 (by decide) (by decide) rfl (by decide) (w_c_walk l G nm hP hL hi hr kk)
    | 11, _ => exact X_tableIn (tgt := 603) d_law_33 (by decide) (by decide) rfl (by decide) (w_c_up l G nm hP hL hi hr kk)
    | 12, _ => exact X_tableIn (tgt := 626) d_law_33 (by decide) (by decide) rfl (by decide) (w_c_ends l G nm hP hL hi hr kk)
    | 13, _ => exact X_tableIn (tgt := 689) d_law_33 (by decide) (by decide) rfl (by decide) (w_c_stands l G nm hP hL hi hr kk)
    | 14, _ => exact X_tableIn (tgt := 722) d_law_33 (by decide) (by decide) rfl (by decide) (w_c_undo l G nm hP hL hi hr kk)
    | 15, _ => exact X_tableIn (tgt := 765) d_law_33 (by decide) (by decide) rfl (by decide) (w_c_fine l G nm hP hL hi hr kk)
    | 16, _ => exact X_tableIn (tgt := 798) d_law_33 (by decide) (by decide) rfl (by decide) (w_c_race l G nm hP hL hi hr kk)
    | 17, _ => exact X_tableIn (tgt := 861) d_law_33 (by decide) (by decide) rfl (by decide) (w_c_wins l G nm hP hL hi hr kk)
    | 18, _ => exact X_tableIn (tgt := 914) d_law_33 (by decide) (by decide) rfl (by decide) (w_c_pace l G nm hP hL hi hr kk)
    | 19, _ => exact X_tableIn (tgt := 977) d_law_33 (by decide) (by decide) rfl (by decide) (w_c_roses l G nm hP hL hi hr kk)
    | 20, _ => exact X_tableIn (tgt := 1040) d_law_33 (by decide) (by decide) rfl (by decide) (w_c_judge l G nm hP hL hi hr kk)
    | 21, _ => exact X_tableIn (tgt := 1093) d_law_33 (by decide) (by decide) rfl (by decide) (w_c_turned l G nm hP hL hi hr kk)
    | 22, _ => exact X_tableIn (tgt := 1146) d_law_33 (by decide) (by decide) rfl (by decide) (w_c_kinds l G nm hP hL hi hr kk)
    | 23, _ => exact X_tableIn (tgt := 1209) d_law_33 (by decide) (by decide) rfl (by decide) (w_c_laws l G nm hP hL hi hr kk)
    | 24, _ => exact X_tableIn (tgt := 1262) d_law_33 (by decide) (by decide) rfl (by decide) (w_c_whose l G nm hP hL hi hr kk)
    | 25, _ => exact X_tableIn (tgt := 1305) d_law_33 (by decide) (by decide) rfl (by decide) (w_c_film l G nm hP hL hi hr kk)
    | 26, _ => exact X_tableIn (tgt := 1368) d_law_33 (by decide) (by decide) rfl (by decide) (w_c_drawn l G nm hP hL hi hr kk)
    | 27, _ => exact X_tableIn (tgt := 1431) d_law_33 (by decide) (by decide) rfl (by decide) (w_c_odds l G nm hP hL hi hr kk)
    | 28, _ => exact X_tableIn (tgt := 1507) d_law_33 (by decide) (by decide) rfl (by decide) (w_c_image l G nm hP hL hi hr kk)
    | 29, _ => exact X_tableIn (tgt := 1520) d_law_33 (by decide) (by decide) rfl (by decide) (w_c_back l G nm hP hL hi hr kk)
    | 30, _ => exact X_tableIn (tgt := 1533) d_law_33 (by decide) (by decide) rfl (by decide) (w_c_sheet l G nm hP hL hi hr kk)
    | 31, _ => exact X_tableIn (tgt := 1576) d_law_33 (by decide) (by decide) rfl (by decide) (w_c_cell l G nm hP hL hi hr kk)
    | 32, _ => exact X_tableIn (tgt := 1619) d_law_33 (by decide) (by decide) rfl (by decide) (w_c_copy l G nm hP hL hi hr kk)
    | 33, _ => exact X_tableIn (tgt := 1682) d_law_33 (by decide) (by decide) rfl (by decide) (w_c_headsBy l G nm hP hL hi hr kk)
    | 34, _ => exact X_tableIn (tgt := 1735) d_law_33 (by decide) (by decide) rfl (by decide) (w_c_taken l G nm hP hL hi hr kk)
    | m + 35, h => exact absurd h (by omega)
  · refine X_tableOut (tgt := 1768) d_law_33 ?_ (by decide) (kk I hr)
    rw [vp_in_iff] at hx
    omega
theorem w_loop (l : Launch) (G : xG) (nm : String) {P : State → Prop} {rt : Option FieldType} {Z : List Frame → Array Value → State → State → Prop} {b L : Nat} {xs : Nat → Int32} (hP : ∀ s, P s → xScr G b L xs s) (hL : L ≤ 3584) (kE : ∀ I i, XW l G room_1 ⟨"RoundAndRoundLaw", nm, ""⟩ code 4 rt (xKL P) Z 75 (xm G xYf I) 75 4269 1775 [(0, .ref b), (1, .ref (xg G 0)), (2, .ref (xg G 59)), (3, .int (nI i))] [.int 1]) : ∀ f i : Nat, L - i ≤ f → i ≤ L → ∀ I, RI I → XW l G room_1 ⟨"RoundAndRoundLaw", nm, ""⟩ code 4 rt (xKL P) Z 75 (xm G xYf I) 75 4269 18 [(0, .ref b), (1, .ref (xg G 0)), (2, .ref (xg G 59)), (3, .int (nI i))] [] := by
  intro f
  induction f with
  | zero =>
    intro i hf hi I hr
    refine X_iload_n d_law_18 rfl rfl ?_
    refine X_aload_n d_law_19 rfl rfl ?_
    refine X_slenJ hP d_law_20 ?_
    refine X_bipush (v := 7) d_law_21 rfl ?_
    refine X_isub d_law_23 ?_
    refine X_icmp_gt (tgt := 1774) d_law_24 (by decide) (fun _ => ?_) (fun h => absurd ((lw_gt hi hL).mpr (by omega)) h)
    refine X_iconst (v := 1) d_law_1774 rfl ?_
    exact kE I i
  | succ f ih =>
    intro i hf hi I hr
    refine X_iload_n d_law_18 rfl rfl ?_
    refine X_aload_n d_law_19 rfl rfl ?_
    refine X_slenJ hP d_law_20 ?_
    refine X_bipush (v := 7) d_law_21 rfl ?_
    refine X_isub d_law_23 ?_
    refine X_icmp_gt (tgt := 1774) d_law_24 (by decide) (fun _ => ?_) (fun h => ?_)
    · refine X_iconst (v := 1) d_law_1774 rfl ?_
      exact kE I i
    · have hi7 : i + 7 ≤ L := by
        rcases Nat.lt_or_ge L (i + 7) with h7 | h7
        · exact absurd ((lw_gt hi hL).mpr (by omega)) h
        · exact h7
      refine w_turn l G nm hP hL hi7 hr (fun I2 hr2 => ?_)
      refine X_iinc (v := nI (i + 7)) d_law_1768 rfl lw_up (by decide) [1, 2, 3, 0] (L' := [(0, .ref b), (1, .ref (xg G 0)), (2, .ref (xg G 59)), (3, .int (nI (i + 7)))]) rfl ?_
      refine X_goto (tgt := 18) d_law_1771 (by decide) ?_
      exact ih (i + 7) (by omega) hi7 I2 hr2
theorem w_law (l : Launch) (G : xG) (nm : String) {P : State → Prop} {rt : Option FieldType} {Z : List Frame → Array Value → State → State → Prop} {b L : Nat} {xs : Nat → Int32} (hP : ∀ s, P s → xScr G b L xs s) (hL : L ≤ 3584) {q1 v1 q v : Nat} (hTo : xTo G P (PX G q1 v1 q v)) (kE : ∀ I i, XW l G room_1 ⟨"RoundAndRoundLaw", nm, ""⟩ code 4 rt (xKL P) Z 75 (xm G xYf I) 75 4269 1775 [(0, .ref b), (1, .ref (xg G 0)), (2, .ref (xg G 59)), (3, .int (nI i))] [.int 1]) : XW l G room_1 ⟨"RoundAndRoundLaw", nm, ""⟩ code 4 rt (xKL P) Z 0 (fun _ => none) 0 0 0 [(0, .ref b)] [] := by
  refine w_law_0 l G nm hTo (fun I hr => ?_)
  refine X_iconst (v := 0) d_law_16 rfl ?_
  refine X_istore_n d_law_17 rfl (by decide) [1, 2, 3, 0] (L' := [(0, .ref b), (1, .ref (xg G 0)), (2, .ref (xg G 59)), (3, .int (0))]) rfl ?_
  exact w_loop l G nm hP hL kE L 0 (by omega) (by omega) I hr
