/-! THE LAW'S CASES, one for each number -/
theorem ll_X9_hut : lCV mX9_hut 13 9 2 := ⟨⟨me_X9_hut, pd_X9_hut, by decide, by decide⟩, List.mem_of_getElem? (i := 346) (by decide +kernel), im_X9_hut, se_X9_hut, rfl⟩
theorem ll_X10_hut : lCV mX10_hut 17 10 2 := ⟨⟨me_X10_hut, pd_X10_hut, by decide, by decide⟩, List.mem_of_getElem? (i := 988) (by decide +kernel), im_X10_hut, se_X10_hut, rfl⟩
theorem lc_0 {L : Nat} {xs : Nat → Int32} {i : Nat} {n : Nat → Nat} {σ M : xM} (hL : L ≤ 3072) (hi : i + 6 ≤ L) (I : Iv n σ) (R : RX n σ M) (Rm : RM n σ M) (next : ∀ (n' : Nat → Nat) (σ' M' : xM), Iv n' σ' → RX n' σ' M' → RM n' σ' M' → xLW L xs 1485 i [] M') : xLW L xs 200 i [] M := by
  refine xLW.objX dL_law_200 ?_
  refine xLW.arg 1 dL_law_201 dL_law_202 dL_law_203 (by decide) dL_law_204 dL_law_205 (by omega) hL ?_
  refine xLW.arg 2 dL_law_206 dL_law_207 dL_law_208 (by decide) dL_law_209 dL_law_210 (by omega) hL ?_
  refine xLW.call (As := [.int (xs (i + 1)), .int (xs (i + 2))]) (rest := []) ll_X9_hut dL_law_211 rfl rfl rfl rfl rfl (sp_X9_hut I R (xs (i + 1)) (xs (i + 2))) ?_
  rintro r M1 ⟨v1, rfl, e1, R1, f1⟩
  refine xLW.objM dL_law_214 ?_
  refine xLW.arg 1 dL_law_215 dL_law_216 dL_law_217 (by decide) dL_law_218 dL_law_219 (by omega) hL ?_
  refine xLW.arg 2 dL_law_220 dL_law_221 dL_law_222 (by decide) dL_law_223 dL_law_224 (by omega) hL ?_
  refine xLW.call (As := [.int (xs (i + 1)), .int (xs (i + 2))]) (rest := [.int _]) ll_X10_hut dL_law_225 rfl rfl rfl rfl rfl (sp_X10_hut I (Rm.fr f1) (xs (i + 1)) (xs (i + 2))) ?_
  rintro r M2 ⟨v2, rfl, e2, R2, f2⟩
  refine xLW.eq 1485 dL_law_228 (by decide) (e1.trans e2.symm) ?_
  have K : Kp (o_hut n σ (xs (i + 1)) (xs (i + 2))) := kp_hut I (xs (i + 1)) (xs (i + 2))
  exact next _ _ _ K (R1.fr f2) R2
theorem ll_X9_party : lCV mX9_party 18 9 5 := ⟨⟨me_X9_party, pd_X9_party, by decide, by decide⟩, List.mem_of_getElem? (i := 357) (by decide +kernel), im_X9_party, se_X9_party, rfl⟩
theorem ll_X10_party : lCV mX10_party 22 10 5 := ⟨⟨me_X10_party, pd_X10_party, by decide, by decide⟩, List.mem_of_getElem? (i := 997) (by decide +kernel), im_X10_party, se_X10_party, rfl⟩
theorem lc_1 {L : Nat} {xs : Nat → Int32} {i : Nat} {n : Nat → Nat} {σ M : xM} (hL : L ≤ 3072) (hi : i + 6 ≤ L) (I : Iv n σ) (R : RX n σ M) (Rm : RM n σ M) (next : ∀ (n' : Nat → Nat) (σ' M' : xM), Iv n' σ' → RX n' σ' M' → RM n' σ' M' → xLW L xs 1485 i [] M') : xLW L xs 233 i [] M := by
  refine xLW.objX dL_law_233 ?_
  refine xLW.arg 1 dL_law_234 dL_law_235 dL_law_236 (by decide) dL_law_237 dL_law_238 (by omega) hL ?_
  refine xLW.arg 2 dL_law_239 dL_law_240 dL_law_241 (by decide) dL_law_242 dL_law_243 (by omega) hL ?_
  refine xLW.arg 3 dL_law_244 dL_law_245 dL_law_246 (by decide) dL_law_247 dL_law_248 (by omega) hL ?_
  refine xLW.arg 4 dL_law_249 dL_law_250 dL_law_251 (by decide) dL_law_252 dL_law_253 (by omega) hL ?_
  refine xLW.arg 5 dL_law_254 dL_law_255 dL_law_256 (by decide) dL_law_257 dL_law_258 (by omega) hL ?_
  refine xLW.call (As := [.int (xs (i + 1)), .int (xs (i + 2)), .int (xs (i + 3)), .int (xs (i + 4)), .int (xs (i + 5))]) (rest := []) ll_X9_party dL_law_259 rfl rfl rfl rfl rfl (sp_X9_party I R (xs (i + 1)) (xs (i + 2)) (xs (i + 3)) (xs (i + 4)) (xs (i + 5))) ?_
  rintro r M1 ⟨v1, rfl, e1, R1, f1⟩
  refine xLW.objM dL_law_262 ?_
  refine xLW.arg 1 dL_law_263 dL_law_264 dL_law_265 (by decide) dL_law_266 dL_law_267 (by omega) hL ?_
  refine xLW.arg 2 dL_law_268 dL_law_269 dL_law_270 (by decide) dL_law_271 dL_law_272 (by omega) hL ?_
  refine xLW.arg 3 dL_law_273 dL_law_274 dL_law_275 (by decide) dL_law_276 dL_law_277 (by omega) hL ?_
  refine xLW.arg 4 dL_law_278 dL_law_279 dL_law_280 (by decide) dL_law_281 dL_law_282 (by omega) hL ?_
  refine xLW.arg 5 dL_law_283 dL_law_284 dL_law_285 (by decide) dL_law_286 dL_law_287 (by omega) hL ?_
  refine xLW.call (As := [.int (xs (i + 1)), .int (xs (i + 2)), .int (xs (i + 3)), .int (xs (i + 4)), .int (xs (i + 5))]) (rest := [.int _]) ll_X10_party dL_law_288 rfl rfl rfl rfl rfl (sp_X10_party I (Rm.fr f1) (xs (i + 1)) (xs (i + 2)) (xs (i + 3)) (xs (i + 4)) (xs (i + 5))) ?_
  rintro r M2 ⟨v2, rfl, e2, R2, f2⟩
  refine xLW.eq 1485 dL_law_291 (by decide) (e1.trans e2.symm) ?_
  have K : Kp (o_party n σ (xs (i + 1)) (xs (i + 2)) (xs (i + 3)) (xs (i + 4)) (xs (i + 5))) := kp_party I (xs (i + 1)) (xs (i + 2)) (xs (i + 3)) (xs (i + 4)) (xs (i + 5))
  exact next _ _ _ K (R1.fr f2) R2
theorem ll_X9_tell : lCV mX9_tell 23 9 3 := ⟨⟨me_X9_tell, pd_X9_tell, by decide, by decide⟩, List.mem_of_getElem? (i := 370) (by decide +kernel), im_X9_tell, se_X9_tell, rfl⟩
theorem ll_X10_tell : lCV mX10_tell 27 10 3 := ⟨⟨me_X10_tell, pd_X10_tell, by decide, by decide⟩, List.mem_of_getElem? (i := 1006) (by decide +kernel), im_X10_tell, se_X10_tell, rfl⟩
theorem lc_2 {L : Nat} {xs : Nat → Int32} {i : Nat} {n : Nat → Nat} {σ M : xM} (hL : L ≤ 3072) (hi : i + 6 ≤ L) (I : Iv n σ) (R : RX n σ M) (Rm : RM n σ M) (next : ∀ (n' : Nat → Nat) (σ' M' : xM), Iv n' σ' → RX n' σ' M' → RM n' σ' M' → xLW L xs 1485 i [] M') : xLW L xs 296 i [] M := by
  refine xLW.objX dL_law_296 ?_
  refine xLW.arg 1 dL_law_297 dL_law_298 dL_law_299 (by decide) dL_law_300 dL_law_301 (by omega) hL ?_
  refine xLW.arg 2 dL_law_302 dL_law_303 dL_law_304 (by decide) dL_law_305 dL_law_306 (by omega) hL ?_
  refine xLW.arg 3 dL_law_307 dL_law_308 dL_law_309 (by decide) dL_law_310 dL_law_311 (by omega) hL ?_
  refine xLW.call (As := [.int (xs (i + 1)), .int (xs (i + 2)), .int (xs (i + 3))]) (rest := []) ll_X9_tell dL_law_312 rfl rfl rfl rfl rfl (sp_X9_tell I R (xs (i + 1)) (xs (i + 2)) (xs (i + 3))) ?_
  rintro r M1 ⟨v1, rfl, e1, R1, f1⟩
  refine xLW.objM dL_law_315 ?_
  refine xLW.arg 1 dL_law_316 dL_law_317 dL_law_318 (by decide) dL_law_319 dL_law_320 (by omega) hL ?_
  refine xLW.arg 2 dL_law_321 dL_law_322 dL_law_323 (by decide) dL_law_324 dL_law_325 (by omega) hL ?_
  refine xLW.arg 3 dL_law_326 dL_law_327 dL_law_328 (by decide) dL_law_329 dL_law_330 (by omega) hL ?_
  refine xLW.call (As := [.int (xs (i + 1)), .int (xs (i + 2)), .int (xs (i + 3))]) (rest := [.int _]) ll_X10_tell dL_law_331 rfl rfl rfl rfl rfl (sp_X10_tell I (Rm.fr f1) (xs (i + 1)) (xs (i + 2)) (xs (i + 3))) ?_
  rintro r M2 ⟨v2, rfl, e2, R2, f2⟩
  refine xLW.eq 1485 dL_law_334 (by decide) (e1.trans e2.symm) ?_
  have K : Kp (o_tell n σ (xs (i + 1)) (xs (i + 2)) (xs (i + 3))) := kp_tell I (xs (i + 1)) (xs (i + 2)) (xs (i + 3))
  exact next _ _ _ K (R1.fr f2) R2
theorem ll_X9_lodge : lCV mX9_lodge 28 9 1 := ⟨⟨me_X9_lodge, pd_X9_lodge, by decide, by decide⟩, List.mem_of_getElem? (i := 403) (by decide +kernel), im_X9_lodge, se_X9_lodge, rfl⟩
theorem ll_X10_lodge : lCV mX10_lodge 32 10 1 := ⟨⟨me_X10_lodge, pd_X10_lodge, by decide, by decide⟩, List.mem_of_getElem? (i := 1019) (by decide +kernel), im_X10_lodge, se_X10_lodge, rfl⟩
theorem lc_3 {L : Nat} {xs : Nat → Int32} {i : Nat} {n : Nat → Nat} {σ M : xM} (hL : L ≤ 3072) (hi : i + 6 ≤ L) (I : Iv n σ) (R : RX n σ M) (Rm : RM n σ M) (next : ∀ (n' : Nat → Nat) (σ' M' : xM), Iv n' σ' → RX n' σ' M' → RM n' σ' M' → xLW L xs 1485 i [] M') : xLW L xs 339 i [] M := by
  refine xLW.objX dL_law_339 ?_
  refine xLW.arg 1 dL_law_340 dL_law_341 dL_law_342 (by decide) dL_law_343 dL_law_344 (by omega) hL ?_
  refine xLW.call (As := [.int (xs (i + 1))]) (rest := []) ll_X9_lodge dL_law_345 rfl rfl rfl rfl rfl (sp_X9_lodge I R (xs (i + 1))) ?_
  rintro r M1 ⟨v1, rfl, e1, R1, f1⟩
  refine xLW.objM dL_law_348 ?_
  refine xLW.arg 1 dL_law_349 dL_law_350 dL_law_351 (by decide) dL_law_352 dL_law_353 (by omega) hL ?_
  refine xLW.call (As := [.int (xs (i + 1))]) (rest := [.int _]) ll_X10_lodge dL_law_354 rfl rfl rfl rfl rfl (sp_X10_lodge I (Rm.fr f1) (xs (i + 1))) ?_
  rintro r M2 ⟨v2, rfl, e2, R2, f2⟩
  refine xLW.eq 1485 dL_law_357 (by decide) (e1.trans e2.symm) ?_
  have K : Kp (o_lodge n σ (xs (i + 1))) := kp_lodge I (xs (i + 1))
  exact next _ _ _ K (R1.fr f2) R2
theorem ll_X9_moved : lCV mX9_moved 33 9 0 := ⟨⟨me_X9_moved, pd_X9_moved, by decide, by decide⟩, List.mem_of_getElem? (i := 435) (by decide +kernel), im_X9_moved, se_X9_moved, rfl⟩
theorem ll_X10_moved : lCV mX10_moved 37 10 0 := ⟨⟨me_X10_moved, pd_X10_moved, by decide, by decide⟩, List.mem_of_getElem? (i := 1039) (by decide +kernel), im_X10_moved, se_X10_moved, rfl⟩
theorem lc_4 {L : Nat} {xs : Nat → Int32} {i : Nat} {n : Nat → Nat} {σ M : xM} (hL : L ≤ 3072) (hi : i + 6 ≤ L) (I : Iv n σ) (R : RX n σ M) (Rm : RM n σ M) (next : ∀ (n' : Nat → Nat) (σ' M' : xM), Iv n' σ' → RX n' σ' M' → RM n' σ' M' → xLW L xs 1485 i [] M') : xLW L xs 362 i [] M := by
  refine xLW.objX dL_law_362 ?_
  refine xLW.call (As := []) (rest := []) ll_X9_moved dL_law_363 rfl rfl rfl rfl rfl (sp_X9_moved I R) ?_
  rintro r M1 ⟨v1, rfl, e1, R1, f1⟩
  refine xLW.objM dL_law_366 ?_
  refine xLW.call (As := []) (rest := [.int _]) ll_X10_moved dL_law_367 rfl rfl rfl rfl rfl (sp_X10_moved I (Rm.fr f1)) ?_
  rintro r M2 ⟨v2, rfl, e2, R2, f2⟩
  refine xLW.eq 1485 dL_law_370 (by decide) (e1.trans e2.symm) ?_
  have K : Kp (o_moved n σ ) := by
    first
    | exact I
    | (unfold Kp o_moved; exact I)
    | (unfold Kp o_moved; split <;> exact I)
    | (unfold Kp o_moved; (repeat' split) <;> exact I)
  exact next _ _ _ K (R1.fr f2) R2
theorem ll_X9_leave : lCV mX9_leave 38 9 1 := ⟨⟨me_X9_leave, pd_X9_leave, by decide, by decide⟩, List.mem_of_getElem? (i := 439) (by decide +kernel), im_X9_leave, se_X9_leave, rfl⟩
theorem ll_X10_leave : lCV mX10_leave 41 10 1 := ⟨⟨me_X10_leave, pd_X10_leave, by decide, by decide⟩, List.mem_of_getElem? (i := 1043) (by decide +kernel), im_X10_leave, se_X10_leave, rfl⟩
theorem lc_5 {L : Nat} {xs : Nat → Int32} {i : Nat} {n : Nat → Nat} {σ M : xM} (hL : L ≤ 3072) (hi : i + 6 ≤ L) (I : Iv n σ) (R : RX n σ M) (Rm : RM n σ M) (next : ∀ (n' : Nat → Nat) (σ' M' : xM), Iv n' σ' → RX n' σ' M' → RM n' σ' M' → xLW L xs 1485 i [] M') : xLW L xs 375 i [] M := by
  refine xLW.objX dL_law_375 ?_
  refine xLW.arg 1 dL_law_376 dL_law_377 dL_law_378 (by decide) dL_law_379 dL_law_380 (by omega) hL ?_
  refine xLW.call (As := [.int (xs (i + 1))]) (rest := []) ll_X9_leave dL_law_381 rfl rfl rfl rfl rfl (sp_X9_leave I R (xs (i + 1))) ?_
  rintro r M1 ⟨v1, rfl, e1, R1, f1⟩
  refine xLW.objM dL_law_384 ?_
  refine xLW.arg 1 dL_law_385 dL_law_386 dL_law_387 (by decide) dL_law_388 dL_law_389 (by omega) hL ?_
  refine xLW.call (As := [.int (xs (i + 1))]) (rest := [.int _]) ll_X10_leave dL_law_390 rfl rfl rfl rfl rfl (sp_X10_leave I (Rm.fr f1) (xs (i + 1))) ?_
  rintro r M2 ⟨v2, rfl, e2, R2, f2⟩
  refine xLW.eq 1485 dL_law_393 (by decide) (e1.trans e2.symm) ?_
  have K : Kp (o_leave n σ (xs (i + 1))) := kp_leave I (xs (i + 1))
  exact next _ _ _ K (R1.fr f2) R2
theorem ll_X9_about : lCV mX9_about 42 9 2 := ⟨⟨me_X9_about, pd_X9_about, by decide, by decide⟩, List.mem_of_getElem? (i := 449) (by decide +kernel), im_X9_about, se_X9_about, rfl⟩
theorem ll_X10_about : lCV mX10_about 45 10 2 := ⟨⟨me_X10_about, pd_X10_about, by decide, by decide⟩, List.mem_of_getElem? (i := 1047) (by decide +kernel), im_X10_about, se_X10_about, rfl⟩
theorem lc_6 {L : Nat} {xs : Nat → Int32} {i : Nat} {n : Nat → Nat} {σ M : xM} (hL : L ≤ 3072) (hi : i + 6 ≤ L) (I : Iv n σ) (R : RX n σ M) (Rm : RM n σ M) (next : ∀ (n' : Nat → Nat) (σ' M' : xM), Iv n' σ' → RX n' σ' M' → RM n' σ' M' → xLW L xs 1485 i [] M') : xLW L xs 398 i [] M := by
  refine xLW.objX dL_law_398 ?_
  refine xLW.arg 1 dL_law_399 dL_law_400 dL_law_401 (by decide) dL_law_402 dL_law_403 (by omega) hL ?_
  refine xLW.arg 2 dL_law_404 dL_law_405 dL_law_406 (by decide) dL_law_407 dL_law_408 (by omega) hL ?_
  refine xLW.call (As := [.int (xs (i + 1)), .int (xs (i + 2))]) (rest := []) ll_X9_about dL_law_409 rfl rfl rfl rfl rfl (sp_X9_about I R (xs (i + 1)) (xs (i + 2))) ?_
  rintro r M1 ⟨v1, rfl, e1, R1, f1⟩
  refine xLW.objM dL_law_412 ?_
  refine xLW.arg 1 dL_law_413 dL_law_414 dL_law_415 (by decide) dL_law_416 dL_law_417 (by omega) hL ?_
  refine xLW.arg 2 dL_law_418 dL_law_419 dL_law_420 (by decide) dL_law_421 dL_law_422 (by omega) hL ?_
  refine xLW.call (As := [.int (xs (i + 1)), .int (xs (i + 2))]) (rest := [.int _]) ll_X10_about dL_law_423 rfl rfl rfl rfl rfl (sp_X10_about I (Rm.fr f1) (xs (i + 1)) (xs (i + 2))) ?_
  rintro r M2 ⟨v2, rfl, e2, R2, f2⟩
  refine xLW.eq 1485 dL_law_426 (by decide) (e1.trans e2.symm) ?_
  have K : Kp (o_about n σ (xs (i + 1)) (xs (i + 2))) := by
    first
    | exact I
    | (unfold Kp o_about; exact I)
    | (unfold Kp o_about; split <;> exact I)
    | (unfold Kp o_about; (repeat' split) <;> exact I)
  exact next _ _ _ K (R1.fr f2) R2
theorem ll_X9_in : lCV mX9_in 46 9 2 := ⟨⟨me_X9_in, pd_X9_in, by decide, by decide⟩, List.mem_of_getElem? (i := 457) (by decide +kernel), im_X9_in, se_X9_in, rfl⟩
theorem ll_X10_in : lCV mX10_in 49 10 2 := ⟨⟨me_X10_in, pd_X10_in, by decide, by decide⟩, List.mem_of_getElem? (i := 1051) (by decide +kernel), im_X10_in, se_X10_in, rfl⟩
theorem lc_7 {L : Nat} {xs : Nat → Int32} {i : Nat} {n : Nat → Nat} {σ M : xM} (hL : L ≤ 3072) (hi : i + 6 ≤ L) (I : Iv n σ) (R : RX n σ M) (Rm : RM n σ M) (next : ∀ (n' : Nat → Nat) (σ' M' : xM), Iv n' σ' → RX n' σ' M' → RM n' σ' M' → xLW L xs 1485 i [] M') : xLW L xs 431 i [] M := by
  refine xLW.objX dL_law_431 ?_
  refine xLW.arg 1 dL_law_432 dL_law_433 dL_law_434 (by decide) dL_law_435 dL_law_436 (by omega) hL ?_
  refine xLW.arg 2 dL_law_437 dL_law_438 dL_law_439 (by decide) dL_law_440 dL_law_441 (by omega) hL ?_
  refine xLW.call (As := [.int (xs (i + 1)), .int (xs (i + 2))]) (rest := []) ll_X9_in dL_law_442 rfl rfl rfl rfl rfl (sp_X9_in I R (xs (i + 1)) (xs (i + 2))) ?_
  rintro r M1 ⟨v1, rfl, e1, R1, f1⟩
  refine xLW.objM dL_law_445 ?_
  refine xLW.arg 1 dL_law_446 dL_law_447 dL_law_448 (by decide) dL_law_449 dL_law_450 (by omega) hL ?_
  refine xLW.arg 2 dL_law_451 dL_law_452 dL_law_453 (by decide) dL_law_454 dL_law_455 (by omega) hL ?_
  refine xLW.call (As := [.int (xs (i + 1)), .int (xs (i + 2))]) (rest := [.int _]) ll_X10_in dL_law_456 rfl rfl rfl rfl rfl (sp_X10_in I (Rm.fr f1) (xs (i + 1)) (xs (i + 2))) ?_
  rintro r M2 ⟨v2, rfl, e2, R2, f2⟩
  refine xLW.eq 1485 dL_law_459 (by decide) (e1.trans e2.symm) ?_
  have K : Kp (o_in n σ (xs (i + 1)) (xs (i + 2))) := by
    first
    | exact I
    | (unfold Kp o_in; exact I)
    | (unfold Kp o_in; split <;> exact I)
    | (unfold Kp o_in; (repeat' split) <;> exact I)
  exact next _ _ _ K (R1.fr f2) R2
theorem ll_X9_empty : lCV mX9_empty 50 9 1 := ⟨⟨me_X9_empty, pd_X9_empty, by decide, by decide⟩, List.mem_of_getElem? (i := 478) (by decide +kernel), im_X9_empty, se_X9_empty, rfl⟩
theorem ll_X10_empty : lCV mX10_empty 53 10 1 := ⟨⟨me_X10_empty, pd_X10_empty, by decide, by decide⟩, List.mem_of_getElem? (i := 1067) (by decide +kernel), im_X10_empty, se_X10_empty, rfl⟩
theorem lc_8 {L : Nat} {xs : Nat → Int32} {i : Nat} {n : Nat → Nat} {σ M : xM} (hL : L ≤ 3072) (hi : i + 6 ≤ L) (I : Iv n σ) (R : RX n σ M) (Rm : RM n σ M) (next : ∀ (n' : Nat → Nat) (σ' M' : xM), Iv n' σ' → RX n' σ' M' → RM n' σ' M' → xLW L xs 1485 i [] M') : xLW L xs 464 i [] M := by
  refine xLW.objX dL_law_464 ?_
  refine xLW.arg 1 dL_law_465 dL_law_466 dL_law_467 (by decide) dL_law_468 dL_law_469 (by omega) hL ?_
  refine xLW.call (As := [.int (xs (i + 1))]) (rest := []) ll_X9_empty dL_law_470 rfl rfl rfl rfl rfl (sp_X9_empty I R (xs (i + 1))) ?_
  rintro r M1 ⟨v1, rfl, e1, R1, f1⟩
  refine xLW.objM dL_law_473 ?_
  refine xLW.arg 1 dL_law_474 dL_law_475 dL_law_476 (by decide) dL_law_477 dL_law_478 (by omega) hL ?_
  refine xLW.call (As := [.int (xs (i + 1))]) (rest := [.int _]) ll_X10_empty dL_law_479 rfl rfl rfl rfl rfl (sp_X10_empty I (Rm.fr f1) (xs (i + 1))) ?_
  rintro r M2 ⟨v2, rfl, e2, R2, f2⟩
  refine xLW.eq 1485 dL_law_482 (by decide) (e1.trans e2.symm) ?_
  have K : Kp (o_empty n σ (xs (i + 1))) := by
    first
    | exact I
    | (unfold Kp o_empty; exact I)
    | (unfold Kp o_empty; split <;> exact I)
    | (unfold Kp o_empty; (repeat' split) <;> exact I)
  exact next _ _ _ K (R1.fr f2) R2
theorem ll_X9_seats : lCV mX9_seats 54 9 2 := ⟨⟨me_X9_seats, pd_X9_seats, by decide, by decide⟩, List.mem_of_getElem? (i := 486) (by decide +kernel), im_X9_seats, se_X9_seats, rfl⟩
theorem ll_X10_seats : lCV mX10_seats 57 10 2 := ⟨⟨me_X10_seats, pd_X10_seats, by decide, by decide⟩, List.mem_of_getElem? (i := 1071) (by decide +kernel), im_X10_seats, se_X10_seats, rfl⟩
theorem lc_9 {L : Nat} {xs : Nat → Int32} {i : Nat} {n : Nat → Nat} {σ M : xM} (hL : L ≤ 3072) (hi : i + 6 ≤ L) (I : Iv n σ) (R : RX n σ M) (Rm : RM n σ M) (next : ∀ (n' : Nat → Nat) (σ' M' : xM), Iv n' σ' → RX n' σ' M' → RM n' σ' M' → xLW L xs 1485 i [] M') : xLW L xs 487 i [] M := by
  refine xLW.objX dL_law_487 ?_
  refine xLW.arg 1 dL_law_488 dL_law_489 dL_law_490 (by decide) dL_law_491 dL_law_492 (by omega) hL ?_
  refine xLW.arg 2 dL_law_493 dL_law_494 dL_law_495 (by decide) dL_law_496 dL_law_497 (by omega) hL ?_
  refine xLW.call (As := [.int (xs (i + 1)), .int (xs (i + 2))]) (rest := []) ll_X9_seats dL_law_498 rfl rfl rfl rfl rfl (sp_X9_seats I R (xs (i + 1)) (xs (i + 2))) ?_
  rintro r M1 ⟨v1, rfl, e1, R1, f1⟩
  refine xLW.objM dL_law_501 ?_
  refine xLW.arg 1 dL_law_502 dL_law_503 dL_law_504 (by decide) dL_law_505 dL_law_506 (by omega) hL ?_
  refine xLW.arg 2 dL_law_507 dL_law_508 dL_law_509 (by decide) dL_law_510 dL_law_511 (by omega) hL ?_
  refine xLW.call (As := [.int (xs (i + 1)), .int (xs (i + 2))]) (rest := [.int _]) ll_X10_seats dL_law_512 rfl rfl rfl rfl rfl (sp_X10_seats I (Rm.fr f1) (xs (i + 1)) (xs (i + 2))) ?_
  rintro r M2 ⟨v2, rfl, e2, R2, f2⟩
  refine xLW.eq 1485 dL_law_515 (by decide) (e1.trans e2.symm) ?_
  have K : Kp (o_seats n σ (xs (i + 1)) (xs (i + 2))) := kp_seats I (xs (i + 1)) (xs (i + 2))
  exact next _ _ _ K (R1.fr f2) R2
theorem ll_X9_apart : lCV mX9_apart 58 9 1 := ⟨⟨me_X9_apart, pd_X9_apart, by decide, by decide⟩, List.mem_of_getElem? (i := 495) (by decide +kernel), im_X9_apart, se_X9_apart, rfl⟩
theorem ll_X10_apart : lCV mX10_apart 61 10 1 := ⟨⟨me_X10_apart, pd_X10_apart, by decide, by decide⟩, List.mem_of_getElem? (i := 1076) (by decide +kernel), im_X10_apart, se_X10_apart, rfl⟩
theorem lc_10 {L : Nat} {xs : Nat → Int32} {i : Nat} {n : Nat → Nat} {σ M : xM} (hL : L ≤ 3072) (hi : i + 6 ≤ L) (I : Iv n σ) (R : RX n σ M) (Rm : RM n σ M) (next : ∀ (n' : Nat → Nat) (σ' M' : xM), Iv n' σ' → RX n' σ' M' → RM n' σ' M' → xLW L xs 1485 i [] M') : xLW L xs 520 i [] M := by
  refine xLW.objX dL_law_520 ?_
  refine xLW.arg 1 dL_law_521 dL_law_522 dL_law_523 (by decide) dL_law_524 dL_law_525 (by omega) hL ?_
  refine xLW.call (As := [.int (xs (i + 1))]) (rest := []) ll_X9_apart dL_law_526 rfl rfl rfl rfl rfl (sp_X9_apart I R (xs (i + 1))) ?_
  rintro r M1 ⟨v1, rfl, e1, R1, f1⟩
  refine xLW.objM dL_law_529 ?_
  refine xLW.arg 1 dL_law_530 dL_law_531 dL_law_532 (by decide) dL_law_533 dL_law_534 (by omega) hL ?_
  refine xLW.call (As := [.int (xs (i + 1))]) (rest := [.int _]) ll_X10_apart dL_law_535 rfl rfl rfl rfl rfl (sp_X10_apart I (Rm.fr f1) (xs (i + 1))) ?_
  rintro r M2 ⟨v2, rfl, e2, R2, f2⟩
  refine xLW.eq 1485 dL_law_538 (by decide) (e1.trans e2.symm) ?_
  have K : Kp (o_apart n σ (xs (i + 1))) := by
    first
    | exact I
    | (unfold Kp o_apart; exact I)
    | (unfold Kp o_apart; split <;> exact I)
    | (unfold Kp o_apart; (repeat' split) <;> exact I)
  exact next _ _ _ K (R1.fr f2) R2
theorem ll_X9_sits : lCV mX9_sits 62 9 2 := ⟨⟨me_X9_sits, pd_X9_sits, by decide, by decide⟩, List.mem_of_getElem? (i := 541) (by decide +kernel), im_X9_sits, se_X9_sits, rfl⟩
theorem ll_X10_sits : lCV mX10_sits 65 10 2 := ⟨⟨me_X10_sits, pd_X10_sits, by decide, by decide⟩, List.mem_of_getElem? (i := 1088) (by decide +kernel), im_X10_sits, se_X10_sits, rfl⟩
theorem lc_11 {L : Nat} {xs : Nat → Int32} {i : Nat} {n : Nat → Nat} {σ M : xM} (hL : L ≤ 3072) (hi : i + 6 ≤ L) (I : Iv n σ) (R : RX n σ M) (Rm : RM n σ M) (next : ∀ (n' : Nat → Nat) (σ' M' : xM), Iv n' σ' → RX n' σ' M' → RM n' σ' M' → xLW L xs 1485 i [] M') : xLW L xs 543 i [] M := by
  refine xLW.objX dL_law_543 ?_
  refine xLW.arg 1 dL_law_544 dL_law_545 dL_law_546 (by decide) dL_law_547 dL_law_548 (by omega) hL ?_
  refine xLW.arg 2 dL_law_549 dL_law_550 dL_law_551 (by decide) dL_law_552 dL_law_553 (by omega) hL ?_
  refine xLW.call (As := [.int (xs (i + 1)), .int (xs (i + 2))]) (rest := []) ll_X9_sits dL_law_554 rfl rfl rfl rfl rfl (sp_X9_sits I R (xs (i + 1)) (xs (i + 2))) ?_
  rintro r M1 ⟨v1, rfl, e1, R1, f1⟩
  refine xLW.objM dL_law_557 ?_
  refine xLW.arg 1 dL_law_558 dL_law_559 dL_law_560 (by decide) dL_law_561 dL_law_562 (by omega) hL ?_
  refine xLW.arg 2 dL_law_563 dL_law_564 dL_law_565 (by decide) dL_law_566 dL_law_567 (by omega) hL ?_
  refine xLW.call (As := [.int (xs (i + 1)), .int (xs (i + 2))]) (rest := [.int _]) ll_X10_sits dL_law_568 rfl rfl rfl rfl rfl (sp_X10_sits I (Rm.fr f1) (xs (i + 1)) (xs (i + 2))) ?_
  rintro r M2 ⟨v2, rfl, e2, R2, f2⟩
  refine xLW.eq 1485 dL_law_571 (by decide) (e1.trans e2.symm) ?_
  have K : Kp (o_sits n σ (xs (i + 1)) (xs (i + 2))) := by
    first
    | exact I
    | (unfold Kp o_sits; exact I)
    | (unfold Kp o_sits; split <;> exact I)
    | (unfold Kp o_sits; (repeat' split) <;> exact I)
  exact next _ _ _ K (R1.fr f2) R2
theorem ll_X9_more : lCV mX9_more 66 9 1 := ⟨⟨me_X9_more, pd_X9_more, by decide, by decide⟩, List.mem_of_getElem? (i := 550) (by decide +kernel), im_X9_more, se_X9_more, rfl⟩
theorem ll_X10_more : lCV mX10_more 69 10 1 := ⟨⟨me_X10_more, pd_X10_more, by decide, by decide⟩, List.mem_of_getElem? (i := 1092) (by decide +kernel), im_X10_more, se_X10_more, rfl⟩
theorem lc_12 {L : Nat} {xs : Nat → Int32} {i : Nat} {n : Nat → Nat} {σ M : xM} (hL : L ≤ 3072) (hi : i + 6 ≤ L) (I : Iv n σ) (R : RX n σ M) (Rm : RM n σ M) (next : ∀ (n' : Nat → Nat) (σ' M' : xM), Iv n' σ' → RX n' σ' M' → RM n' σ' M' → xLW L xs 1485 i [] M') : xLW L xs 576 i [] M := by
  refine xLW.objX dL_law_576 ?_
  refine xLW.arg 1 dL_law_577 dL_law_578 dL_law_579 (by decide) dL_law_580 dL_law_581 (by omega) hL ?_
  refine xLW.call (As := [.int (xs (i + 1))]) (rest := []) ll_X9_more dL_law_582 rfl rfl rfl rfl rfl (sp_X9_more I R (xs (i + 1))) ?_
  rintro r M1 ⟨v1, rfl, e1, R1, f1⟩
  refine xLW.objM dL_law_585 ?_
  refine xLW.arg 1 dL_law_586 dL_law_587 dL_law_588 (by decide) dL_law_589 dL_law_590 (by omega) hL ?_
  refine xLW.call (As := [.int (xs (i + 1))]) (rest := [.int _]) ll_X10_more dL_law_591 rfl rfl rfl rfl rfl (sp_X10_more I (Rm.fr f1) (xs (i + 1))) ?_
  rintro r M2 ⟨v2, rfl, e2, R2, f2⟩
  refine xLW.eq 1485 dL_law_594 (by decide) (e1.trans e2.symm) ?_
  have K : Kp (o_more n σ (xs (i + 1))) := kp_more I (xs (i + 1))
  exact next _ _ _ K (R1.fr f2) R2
theorem ll_X9_foretell : lCV mX9_foretell 70 9 2 := ⟨⟨me_X9_foretell, pd_X9_foretell, by decide, by decide⟩, List.mem_of_getElem? (i := 559) (by decide +kernel), im_X9_foretell, se_X9_foretell, rfl⟩
theorem ll_X10_foretell : lCV mX10_foretell 73 10 2 := ⟨⟨me_X10_foretell, pd_X10_foretell, by decide, by decide⟩, List.mem_of_getElem? (i := 1097) (by decide +kernel), im_X10_foretell, se_X10_foretell, rfl⟩
theorem lc_13 {L : Nat} {xs : Nat → Int32} {i : Nat} {n : Nat → Nat} {σ M : xM} (hL : L ≤ 3072) (hi : i + 6 ≤ L) (I : Iv n σ) (R : RX n σ M) (Rm : RM n σ M) (next : ∀ (n' : Nat → Nat) (σ' M' : xM), Iv n' σ' → RX n' σ' M' → RM n' σ' M' → xLW L xs 1485 i [] M') : xLW L xs 599 i [] M := by
  refine xLW.objX dL_law_599 ?_
  refine xLW.arg 1 dL_law_600 dL_law_601 dL_law_602 (by decide) dL_law_603 dL_law_604 (by omega) hL ?_
  refine xLW.arg 2 dL_law_605 dL_law_606 dL_law_607 (by decide) dL_law_608 dL_law_609 (by omega) hL ?_
  refine xLW.call (As := [.int (xs (i + 1)), .int (xs (i + 2))]) (rest := []) ll_X9_foretell dL_law_610 rfl rfl rfl rfl rfl (sp_X9_foretell I R (xs (i + 1)) (xs (i + 2))) ?_
  rintro r M1 ⟨v1, rfl, e1, R1, f1⟩
  refine xLW.objM dL_law_613 ?_
  refine xLW.arg 1 dL_law_614 dL_law_615 dL_law_616 (by decide) dL_law_617 dL_law_618 (by omega) hL ?_
  refine xLW.arg 2 dL_law_619 dL_law_620 dL_law_621 (by decide) dL_law_622 dL_law_623 (by omega) hL ?_
  refine xLW.call (As := [.int (xs (i + 1)), .int (xs (i + 2))]) (rest := [.int _]) ll_X10_foretell dL_law_624 rfl rfl rfl rfl rfl (sp_X10_foretell I (Rm.fr f1) (xs (i + 1)) (xs (i + 2))) ?_
  rintro r M2 ⟨v2, rfl, e2, R2, f2⟩
  refine xLW.eq 1485 dL_law_627 (by decide) (e1.trans e2.symm) ?_
  have K : Kp (o_foretell n σ (xs (i + 1)) (xs (i + 2))) := by
    first
    | exact I
    | (unfold Kp o_foretell; exact I)
    | (unfold Kp o_foretell; split <;> exact I)
    | (unfold Kp o_foretell; (repeat' split) <;> exact I)
  exact next _ _ _ K (R1.fr f2) R2
theorem ll_X9_cook : lCV mX9_cook 74 9 3 := ⟨⟨me_X9_cook, pd_X9_cook, by decide, by decide⟩, List.mem_of_getElem? (i := 568) (by decide +kernel), im_X9_cook, se_X9_cook, rfl⟩
theorem ll_X10_cook : lCV mX10_cook 77 10 3 := ⟨⟨me_X10_cook, pd_X10_cook, by decide, by decide⟩, List.mem_of_getElem? (i := 1105) (by decide +kernel), im_X10_cook, se_X10_cook, rfl⟩
theorem lc_14 {L : Nat} {xs : Nat → Int32} {i : Nat} {n : Nat → Nat} {σ M : xM} (hL : L ≤ 3072) (hi : i + 6 ≤ L) (I : Iv n σ) (R : RX n σ M) (Rm : RM n σ M) (next : ∀ (n' : Nat → Nat) (σ' M' : xM), Iv n' σ' → RX n' σ' M' → RM n' σ' M' → xLW L xs 1485 i [] M') : xLW L xs 632 i [] M := by
  refine xLW.objX dL_law_632 ?_
  refine xLW.arg 1 dL_law_633 dL_law_634 dL_law_635 (by decide) dL_law_636 dL_law_637 (by omega) hL ?_
  refine xLW.arg 2 dL_law_638 dL_law_639 dL_law_640 (by decide) dL_law_641 dL_law_642 (by omega) hL ?_
  refine xLW.arg 3 dL_law_643 dL_law_644 dL_law_645 (by decide) dL_law_646 dL_law_647 (by omega) hL ?_
  refine xLW.call (As := [.int (xs (i + 1)), .int (xs (i + 2)), .int (xs (i + 3))]) (rest := []) ll_X9_cook dL_law_648 rfl rfl rfl rfl rfl (sp_X9_cook I R (xs (i + 1)) (xs (i + 2)) (xs (i + 3))) ?_
  rintro r M1 ⟨v1, rfl, e1, R1, f1⟩
  refine xLW.objM dL_law_651 ?_
  refine xLW.arg 1 dL_law_652 dL_law_653 dL_law_654 (by decide) dL_law_655 dL_law_656 (by omega) hL ?_
  refine xLW.arg 2 dL_law_657 dL_law_658 dL_law_659 (by decide) dL_law_660 dL_law_661 (by omega) hL ?_
  refine xLW.arg 3 dL_law_662 dL_law_663 dL_law_664 (by decide) dL_law_665 dL_law_666 (by omega) hL ?_
  refine xLW.call (As := [.int (xs (i + 1)), .int (xs (i + 2)), .int (xs (i + 3))]) (rest := [.int _]) ll_X10_cook dL_law_667 rfl rfl rfl rfl rfl (sp_X10_cook I (Rm.fr f1) (xs (i + 1)) (xs (i + 2)) (xs (i + 3))) ?_
  rintro r M2 ⟨v2, rfl, e2, R2, f2⟩
  refine xLW.eq 1485 dL_law_670 (by decide) (e1.trans e2.symm) ?_
  have K : Kp (o_cook n σ (xs (i + 1)) (xs (i + 2)) (xs (i + 3))) := kp_cook I (xs (i + 1)) (xs (i + 2)) (xs (i + 3))
  exact next _ _ _ K (R1.fr f2) R2
theorem ll_X9_line : lCV mX9_line 78 9 2 := ⟨⟨me_X9_line, pd_X9_line, by decide, by decide⟩, List.mem_of_getElem? (i := 577) (by decide +kernel), im_X9_line, se_X9_line, rfl⟩
theorem ll_X10_line : lCV mX10_line 81 10 2 := ⟨⟨me_X10_line, pd_X10_line, by decide, by decide⟩, List.mem_of_getElem? (i := 1110) (by decide +kernel), im_X10_line, se_X10_line, rfl⟩
theorem lc_15 {L : Nat} {xs : Nat → Int32} {i : Nat} {n : Nat → Nat} {σ M : xM} (hL : L ≤ 3072) (hi : i + 6 ≤ L) (I : Iv n σ) (R : RX n σ M) (Rm : RM n σ M) (next : ∀ (n' : Nat → Nat) (σ' M' : xM), Iv n' σ' → RX n' σ' M' → RM n' σ' M' → xLW L xs 1485 i [] M') : xLW L xs 675 i [] M := by
  refine xLW.objX dL_law_675 ?_
  refine xLW.arg 1 dL_law_676 dL_law_677 dL_law_678 (by decide) dL_law_679 dL_law_680 (by omega) hL ?_
  refine xLW.arg 2 dL_law_681 dL_law_682 dL_law_683 (by decide) dL_law_684 dL_law_685 (by omega) hL ?_
  refine xLW.call (As := [.int (xs (i + 1)), .int (xs (i + 2))]) (rest := []) ll_X9_line dL_law_686 rfl rfl rfl rfl rfl (sp_X9_line I R (xs (i + 1)) (xs (i + 2))) ?_
  rintro r M1 ⟨v1, rfl, e1, R1, f1⟩
  refine xLW.objM dL_law_689 ?_
  refine xLW.arg 1 dL_law_690 dL_law_691 dL_law_692 (by decide) dL_law_693 dL_law_694 (by omega) hL ?_
  refine xLW.arg 2 dL_law_695 dL_law_696 dL_law_697 (by decide) dL_law_698 dL_law_699 (by omega) hL ?_
  refine xLW.call (As := [.int (xs (i + 1)), .int (xs (i + 2))]) (rest := [.int _]) ll_X10_line dL_law_700 rfl rfl rfl rfl rfl (sp_X10_line I (Rm.fr f1) (xs (i + 1)) (xs (i + 2))) ?_
  rintro r M2 ⟨v2, rfl, e2, R2, f2⟩
  refine xLW.eq 1485 dL_law_703 (by decide) (e1.trans e2.symm) ?_
  have K : Kp (o_line n σ (xs (i + 1)) (xs (i + 2))) := by
    first
    | exact I
    | (unfold Kp o_line; exact I)
    | (unfold Kp o_line; split <;> exact I)
    | (unfold Kp o_line; (repeat' split) <;> exact I)
  exact next _ _ _ K (R1.fr f2) R2
theorem ll_X9_hall : lCV mX9_hall 82 9 2 := ⟨⟨me_X9_hall, pd_X9_hall, by decide, by decide⟩, List.mem_of_getElem? (i := 585) (by decide +kernel), im_X9_hall, se_X9_hall, rfl⟩
theorem ll_X10_hall : lCV mX10_hall 85 10 2 := ⟨⟨me_X10_hall, pd_X10_hall, by decide, by decide⟩, List.mem_of_getElem? (i := 1115) (by decide +kernel), im_X10_hall, se_X10_hall, rfl⟩
theorem lc_16 {L : Nat} {xs : Nat → Int32} {i : Nat} {n : Nat → Nat} {σ M : xM} (hL : L ≤ 3072) (hi : i + 6 ≤ L) (I : Iv n σ) (R : RX n σ M) (Rm : RM n σ M) (next : ∀ (n' : Nat → Nat) (σ' M' : xM), Iv n' σ' → RX n' σ' M' → RM n' σ' M' → xLW L xs 1485 i [] M') : xLW L xs 708 i [] M := by
  refine xLW.objX dL_law_708 ?_
  refine xLW.arg 1 dL_law_709 dL_law_710 dL_law_711 (by decide) dL_law_712 dL_law_713 (by omega) hL ?_
  refine xLW.arg 2 dL_law_714 dL_law_715 dL_law_716 (by decide) dL_law_717 dL_law_718 (by omega) hL ?_
  refine xLW.call (As := [.int (xs (i + 1)), .int (xs (i + 2))]) (rest := []) ll_X9_hall dL_law_719 rfl rfl rfl rfl rfl (sp_X9_hall I R (xs (i + 1)) (xs (i + 2))) ?_
  rintro r M1 ⟨v1, rfl, e1, R1, f1⟩
  refine xLW.objM dL_law_722 ?_
  refine xLW.arg 1 dL_law_723 dL_law_724 dL_law_725 (by decide) dL_law_726 dL_law_727 (by omega) hL ?_
  refine xLW.arg 2 dL_law_728 dL_law_729 dL_law_730 (by decide) dL_law_731 dL_law_732 (by omega) hL ?_
  refine xLW.call (As := [.int (xs (i + 1)), .int (xs (i + 2))]) (rest := [.int _]) ll_X10_hall dL_law_733 rfl rfl rfl rfl rfl (sp_X10_hall I (Rm.fr f1) (xs (i + 1)) (xs (i + 2))) ?_
  rintro r M2 ⟨v2, rfl, e2, R2, f2⟩
  refine xLW.eq 1485 dL_law_736 (by decide) (e1.trans e2.symm) ?_
  have K : Kp (o_hall n σ (xs (i + 1)) (xs (i + 2))) := kp_hall I (xs (i + 1)) (xs (i + 2))
  exact next _ _ _ K (R1.fr f2) R2
theorem ll_X9_show : lCV mX9_show 86 9 3 := ⟨⟨me_X9_show, pd_X9_show, by decide, by decide⟩, List.mem_of_getElem? (i := 594) (by decide +kernel), im_X9_show, se_X9_show, rfl⟩
theorem ll_X10_show : lCV mX10_show 89 10 3 := ⟨⟨me_X10_show, pd_X10_show, by decide, by decide⟩, List.mem_of_getElem? (i := 1119) (by decide +kernel), im_X10_show, se_X10_show, rfl⟩
theorem lc_17 {L : Nat} {xs : Nat → Int32} {i : Nat} {n : Nat → Nat} {σ M : xM} (hL : L ≤ 3072) (hi : i + 6 ≤ L) (I : Iv n σ) (R : RX n σ M) (Rm : RM n σ M) (next : ∀ (n' : Nat → Nat) (σ' M' : xM), Iv n' σ' → RX n' σ' M' → RM n' σ' M' → xLW L xs 1485 i [] M') : xLW L xs 741 i [] M := by
  refine xLW.objX dL_law_741 ?_
  refine xLW.arg 1 dL_law_742 dL_law_743 dL_law_744 (by decide) dL_law_745 dL_law_746 (by omega) hL ?_
  refine xLW.arg 2 dL_law_747 dL_law_748 dL_law_749 (by decide) dL_law_750 dL_law_751 (by omega) hL ?_
  refine xLW.arg 3 dL_law_752 dL_law_753 dL_law_754 (by decide) dL_law_755 dL_law_756 (by omega) hL ?_
  refine xLW.call (As := [.int (xs (i + 1)), .int (xs (i + 2)), .int (xs (i + 3))]) (rest := []) ll_X9_show dL_law_757 rfl rfl rfl rfl rfl (sp_X9_show I R (xs (i + 1)) (xs (i + 2)) (xs (i + 3))) ?_
  rintro r M1 ⟨v1, rfl, e1, R1, f1⟩
  refine xLW.objM dL_law_760 ?_
  refine xLW.arg 1 dL_law_761 dL_law_762 dL_law_763 (by decide) dL_law_764 dL_law_765 (by omega) hL ?_
  refine xLW.arg 2 dL_law_766 dL_law_767 dL_law_768 (by decide) dL_law_769 dL_law_770 (by omega) hL ?_
  refine xLW.arg 3 dL_law_771 dL_law_772 dL_law_773 (by decide) dL_law_774 dL_law_775 (by omega) hL ?_
  refine xLW.call (As := [.int (xs (i + 1)), .int (xs (i + 2)), .int (xs (i + 3))]) (rest := [.int _]) ll_X10_show dL_law_776 rfl rfl rfl rfl rfl (sp_X10_show I (Rm.fr f1) (xs (i + 1)) (xs (i + 2)) (xs (i + 3))) ?_
  rintro r M2 ⟨v2, rfl, e2, R2, f2⟩
  refine xLW.eq 1485 dL_law_779 (by decide) (e1.trans e2.symm) ?_
  have K : Kp (o_show n σ (xs (i + 1)) (xs (i + 2)) (xs (i + 3))) := kp_show I (xs (i + 1)) (xs (i + 2)) (xs (i + 3))
  exact next _ _ _ K (R1.fr f2) R2
theorem ll_X9_wish : lCV mX9_wish 90 9 2 := ⟨⟨me_X9_wish, pd_X9_wish, by decide, by decide⟩, List.mem_of_getElem? (i := 605) (by decide +kernel), im_X9_wish, se_X9_wish, rfl⟩
theorem ll_X10_wish : lCV mX10_wish 93 10 2 := ⟨⟨me_X10_wish, pd_X10_wish, by decide, by decide⟩, List.mem_of_getElem? (i := 1124) (by decide +kernel), im_X10_wish, se_X10_wish, rfl⟩
theorem lc_18 {L : Nat} {xs : Nat → Int32} {i : Nat} {n : Nat → Nat} {σ M : xM} (hL : L ≤ 3072) (hi : i + 6 ≤ L) (I : Iv n σ) (R : RX n σ M) (Rm : RM n σ M) (next : ∀ (n' : Nat → Nat) (σ' M' : xM), Iv n' σ' → RX n' σ' M' → RM n' σ' M' → xLW L xs 1485 i [] M') : xLW L xs 784 i [] M := by
  refine xLW.objX dL_law_784 ?_
  refine xLW.arg 1 dL_law_785 dL_law_786 dL_law_787 (by decide) dL_law_788 dL_law_789 (by omega) hL ?_
  refine xLW.arg 2 dL_law_790 dL_law_791 dL_law_792 (by decide) dL_law_793 dL_law_794 (by omega) hL ?_
  refine xLW.call (As := [.int (xs (i + 1)), .int (xs (i + 2))]) (rest := []) ll_X9_wish dL_law_795 rfl rfl rfl rfl rfl (sp_X9_wish I R (xs (i + 1)) (xs (i + 2))) ?_
  rintro r M1 ⟨v1, rfl, e1, R1, f1⟩
  refine xLW.objM dL_law_798 ?_
  refine xLW.arg 1 dL_law_799 dL_law_800 dL_law_801 (by decide) dL_law_802 dL_law_803 (by omega) hL ?_
  refine xLW.arg 2 dL_law_804 dL_law_805 dL_law_806 (by decide) dL_law_807 dL_law_808 (by omega) hL ?_
  refine xLW.call (As := [.int (xs (i + 1)), .int (xs (i + 2))]) (rest := [.int _]) ll_X10_wish dL_law_809 rfl rfl rfl rfl rfl (sp_X10_wish I (Rm.fr f1) (xs (i + 1)) (xs (i + 2))) ?_
  rintro r M2 ⟨v2, rfl, e2, R2, f2⟩
  refine xLW.eq 1485 dL_law_812 (by decide) (e1.trans e2.symm) ?_
  have K : Kp (o_wish n σ (xs (i + 1)) (xs (i + 2))) := kp_wish I (xs (i + 1)) (xs (i + 2))
  exact next _ _ _ K (R1.fr f2) R2
theorem ll_X9_wet : lCV mX9_wet 94 9 1 := ⟨⟨me_X9_wet, pd_X9_wet, by decide, by decide⟩, List.mem_of_getElem? (i := 621) (by decide +kernel), im_X9_wet, se_X9_wet, rfl⟩
theorem ll_X10_wet : lCV mX10_wet 97 10 1 := ⟨⟨me_X10_wet, pd_X10_wet, by decide, by decide⟩, List.mem_of_getElem? (i := 1128) (by decide +kernel), im_X10_wet, se_X10_wet, rfl⟩
theorem lc_19 {L : Nat} {xs : Nat → Int32} {i : Nat} {n : Nat → Nat} {σ M : xM} (hL : L ≤ 3072) (hi : i + 6 ≤ L) (I : Iv n σ) (R : RX n σ M) (Rm : RM n σ M) (next : ∀ (n' : Nat → Nat) (σ' M' : xM), Iv n' σ' → RX n' σ' M' → RM n' σ' M' → xLW L xs 1485 i [] M') : xLW L xs 817 i [] M := by
  refine xLW.objX dL_law_817 ?_
  refine xLW.arg 1 dL_law_818 dL_law_819 dL_law_820 (by decide) dL_law_821 dL_law_822 (by omega) hL ?_
  refine xLW.call (As := [.int (xs (i + 1))]) (rest := []) ll_X9_wet dL_law_823 rfl rfl rfl rfl rfl (sp_X9_wet I R (xs (i + 1))) ?_
  rintro r M1 ⟨v1, rfl, e1, R1, f1⟩
  refine xLW.objM dL_law_826 ?_
  refine xLW.arg 1 dL_law_827 dL_law_828 dL_law_829 (by decide) dL_law_830 dL_law_831 (by omega) hL ?_
  refine xLW.call (As := [.int (xs (i + 1))]) (rest := [.int _]) ll_X10_wet dL_law_832 rfl rfl rfl rfl rfl (sp_X10_wet I (Rm.fr f1) (xs (i + 1))) ?_
  rintro r M2 ⟨v2, rfl, e2, R2, f2⟩
  refine xLW.eq 1485 dL_law_835 (by decide) (e1.trans e2.symm) ?_
  have K : Kp (o_wet n σ (xs (i + 1))) := by
    first
    | exact I
    | (unfold Kp o_wet; exact I)
    | (unfold Kp o_wet; split <;> exact I)
    | (unfold Kp o_wet; (repeat' split) <;> exact I)
  exact next _ _ _ K (R1.fr f2) R2
theorem ll_X9_where : lCV mX9_where 98 9 1 := ⟨⟨me_X9_where, pd_X9_where, by decide, by decide⟩, List.mem_of_getElem? (i := 634) (by decide +kernel), im_X9_where, se_X9_where, rfl⟩
theorem ll_X10_where : lCV mX10_where 101 10 1 := ⟨⟨me_X10_where, pd_X10_where, by decide, by decide⟩, List.mem_of_getElem? (i := 1136) (by decide +kernel), im_X10_where, se_X10_where, rfl⟩
theorem lc_20 {L : Nat} {xs : Nat → Int32} {i : Nat} {n : Nat → Nat} {σ M : xM} (hL : L ≤ 3072) (hi : i + 6 ≤ L) (I : Iv n σ) (R : RX n σ M) (Rm : RM n σ M) (next : ∀ (n' : Nat → Nat) (σ' M' : xM), Iv n' σ' → RX n' σ' M' → RM n' σ' M' → xLW L xs 1485 i [] M') : xLW L xs 840 i [] M := by
  refine xLW.objX dL_law_840 ?_
  refine xLW.arg 1 dL_law_841 dL_law_842 dL_law_843 (by decide) dL_law_844 dL_law_845 (by omega) hL ?_
  refine xLW.call (As := [.int (xs (i + 1))]) (rest := []) ll_X9_where dL_law_846 rfl rfl rfl rfl rfl (sp_X9_where I R (xs (i + 1))) ?_
  rintro r M1 ⟨v1, rfl, e1, R1, f1⟩
  refine xLW.objM dL_law_849 ?_
  refine xLW.arg 1 dL_law_850 dL_law_851 dL_law_852 (by decide) dL_law_853 dL_law_854 (by omega) hL ?_
  refine xLW.call (As := [.int (xs (i + 1))]) (rest := [.int _]) ll_X10_where dL_law_855 rfl rfl rfl rfl rfl (sp_X10_where I (Rm.fr f1) (xs (i + 1))) ?_
  rintro r M2 ⟨v2, rfl, e2, R2, f2⟩
  refine xLW.eq 1485 dL_law_858 (by decide) (e1.trans e2.symm) ?_
  have K : Kp (o_where n σ (xs (i + 1))) := by
    first
    | exact I
    | (unfold Kp o_where; exact I)
    | (unfold Kp o_where; split <;> exact I)
    | (unfold Kp o_where; (repeat' split) <;> exact I)
  exact next _ _ _ K (R1.fr f2) R2
theorem ll_X9_goes : lCV mX9_goes 102 9 3 := ⟨⟨me_X9_goes, pd_X9_goes, by decide, by decide⟩, List.mem_of_getElem? (i := 643) (by decide +kernel), im_X9_goes, se_X9_goes, rfl⟩
theorem ll_X10_goes : lCV mX10_goes 105 10 3 := ⟨⟨me_X10_goes, pd_X10_goes, by decide, by decide⟩, List.mem_of_getElem? (i := 1144) (by decide +kernel), im_X10_goes, se_X10_goes, rfl⟩
theorem lc_21 {L : Nat} {xs : Nat → Int32} {i : Nat} {n : Nat → Nat} {σ M : xM} (hL : L ≤ 3072) (hi : i + 6 ≤ L) (I : Iv n σ) (R : RX n σ M) (Rm : RM n σ M) (next : ∀ (n' : Nat → Nat) (σ' M' : xM), Iv n' σ' → RX n' σ' M' → RM n' σ' M' → xLW L xs 1485 i [] M') : xLW L xs 863 i [] M := by
  refine xLW.objX dL_law_863 ?_
  refine xLW.arg 1 dL_law_864 dL_law_865 dL_law_866 (by decide) dL_law_867 dL_law_868 (by omega) hL ?_
  refine xLW.arg 2 dL_law_869 dL_law_870 dL_law_871 (by decide) dL_law_872 dL_law_873 (by omega) hL ?_
  refine xLW.arg 3 dL_law_874 dL_law_875 dL_law_876 (by decide) dL_law_877 dL_law_878 (by omega) hL ?_
  refine xLW.call (As := [.int (xs (i + 1)), .int (xs (i + 2)), .int (xs (i + 3))]) (rest := []) ll_X9_goes dL_law_879 rfl rfl rfl rfl rfl (sp_X9_goes I R (xs (i + 1)) (xs (i + 2)) (xs (i + 3))) ?_
  rintro r M1 ⟨v1, rfl, e1, R1, f1⟩
  refine xLW.objM dL_law_882 ?_
  refine xLW.arg 1 dL_law_883 dL_law_884 dL_law_885 (by decide) dL_law_886 dL_law_887 (by omega) hL ?_
  refine xLW.arg 2 dL_law_888 dL_law_889 dL_law_890 (by decide) dL_law_891 dL_law_892 (by omega) hL ?_
  refine xLW.arg 3 dL_law_893 dL_law_894 dL_law_895 (by decide) dL_law_896 dL_law_897 (by omega) hL ?_
  refine xLW.call (As := [.int (xs (i + 1)), .int (xs (i + 2)), .int (xs (i + 3))]) (rest := [.int _]) ll_X10_goes dL_law_898 rfl rfl rfl rfl rfl (sp_X10_goes I (Rm.fr f1) (xs (i + 1)) (xs (i + 2)) (xs (i + 3))) ?_
  rintro r M2 ⟨v2, rfl, e2, R2, f2⟩
  refine xLW.eq 1485 dL_law_901 (by decide) (e1.trans e2.symm) ?_
  have K : Kp (o_goes n σ (xs (i + 1)) (xs (i + 2)) (xs (i + 3))) := by
    first
    | exact I
    | (unfold Kp o_goes; exact I)
    | (unfold Kp o_goes; split <;> exact I)
    | (unfold Kp o_goes; (repeat' split) <;> exact I)
  exact next _ _ _ K (R1.fr f2) R2
theorem ll_X9_turned : lCV mX9_turned 106 9 3 := ⟨⟨me_X9_turned, pd_X9_turned, by decide, by decide⟩, List.mem_of_getElem? (i := 660) (by decide +kernel), im_X9_turned, se_X9_turned, rfl⟩
theorem ll_X10_turned : lCV mX10_turned 109 10 3 := ⟨⟨me_X10_turned, pd_X10_turned, by decide, by decide⟩, List.mem_of_getElem? (i := 1152) (by decide +kernel), im_X10_turned, se_X10_turned, rfl⟩
theorem lc_22 {L : Nat} {xs : Nat → Int32} {i : Nat} {n : Nat → Nat} {σ M : xM} (hL : L ≤ 3072) (hi : i + 6 ≤ L) (I : Iv n σ) (R : RX n σ M) (Rm : RM n σ M) (next : ∀ (n' : Nat → Nat) (σ' M' : xM), Iv n' σ' → RX n' σ' M' → RM n' σ' M' → xLW L xs 1485 i [] M') : xLW L xs 906 i [] M := by
  refine xLW.objX dL_law_906 ?_
  refine xLW.arg 1 dL_law_907 dL_law_908 dL_law_909 (by decide) dL_law_910 dL_law_911 (by omega) hL ?_
  refine xLW.arg 2 dL_law_912 dL_law_913 dL_law_914 (by decide) dL_law_915 dL_law_916 (by omega) hL ?_
  refine xLW.arg 3 dL_law_917 dL_law_918 dL_law_919 (by decide) dL_law_920 dL_law_921 (by omega) hL ?_
  refine xLW.call (As := [.int (xs (i + 1)), .int (xs (i + 2)), .int (xs (i + 3))]) (rest := []) ll_X9_turned dL_law_922 rfl rfl rfl rfl rfl (sp_X9_turned I R (xs (i + 1)) (xs (i + 2)) (xs (i + 3))) ?_
  rintro r M1 ⟨v1, rfl, e1, R1, f1⟩
  refine xLW.objM dL_law_925 ?_
  refine xLW.arg 1 dL_law_926 dL_law_927 dL_law_928 (by decide) dL_law_929 dL_law_930 (by omega) hL ?_
  refine xLW.arg 2 dL_law_931 dL_law_932 dL_law_933 (by decide) dL_law_934 dL_law_935 (by omega) hL ?_
  refine xLW.arg 3 dL_law_936 dL_law_937 dL_law_938 (by decide) dL_law_939 dL_law_940 (by omega) hL ?_
  refine xLW.call (As := [.int (xs (i + 1)), .int (xs (i + 2)), .int (xs (i + 3))]) (rest := [.int _]) ll_X10_turned dL_law_941 rfl rfl rfl rfl rfl (sp_X10_turned I (Rm.fr f1) (xs (i + 1)) (xs (i + 2)) (xs (i + 3))) ?_
  rintro r M2 ⟨v2, rfl, e2, R2, f2⟩
  refine xLW.eq 1485 dL_law_944 (by decide) (e1.trans e2.symm) ?_
  have K : Kp (o_turned n σ (xs (i + 1)) (xs (i + 2)) (xs (i + 3))) := by
    first
    | exact I
    | (unfold Kp o_turned; exact I)
    | (unfold Kp o_turned; split <;> exact I)
    | (unfold Kp o_turned; (repeat' split) <;> exact I)
  exact next _ _ _ K (R1.fr f2) R2
theorem ll_X9_crowd : lCV mX9_crowd 110 9 2 := ⟨⟨me_X9_crowd, pd_X9_crowd, by decide, by decide⟩, List.mem_of_getElem? (i := 664) (by decide +kernel), im_X9_crowd, se_X9_crowd, rfl⟩
theorem ll_X10_crowd : lCV mX10_crowd 113 10 2 := ⟨⟨me_X10_crowd, pd_X10_crowd, by decide, by decide⟩, List.mem_of_getElem? (i := 1156) (by decide +kernel), im_X10_crowd, se_X10_crowd, rfl⟩
theorem lc_23 {L : Nat} {xs : Nat → Int32} {i : Nat} {n : Nat → Nat} {σ M : xM} (hL : L ≤ 3072) (hi : i + 6 ≤ L) (I : Iv n σ) (R : RX n σ M) (Rm : RM n σ M) (next : ∀ (n' : Nat → Nat) (σ' M' : xM), Iv n' σ' → RX n' σ' M' → RM n' σ' M' → xLW L xs 1485 i [] M') : xLW L xs 949 i [] M := by
  refine xLW.objX dL_law_949 ?_
  refine xLW.arg 1 dL_law_950 dL_law_951 dL_law_952 (by decide) dL_law_953 dL_law_954 (by omega) hL ?_
  refine xLW.arg 2 dL_law_955 dL_law_956 dL_law_957 (by decide) dL_law_958 dL_law_959 (by omega) hL ?_
  refine xLW.call (As := [.int (xs (i + 1)), .int (xs (i + 2))]) (rest := []) ll_X9_crowd dL_law_960 rfl rfl rfl rfl rfl (sp_X9_crowd I R (xs (i + 1)) (xs (i + 2))) ?_
  rintro r M1 ⟨v1, rfl, e1, R1, f1⟩
  refine xLW.objM dL_law_963 ?_
  refine xLW.arg 1 dL_law_964 dL_law_965 dL_law_966 (by decide) dL_law_967 dL_law_968 (by omega) hL ?_
  refine xLW.arg 2 dL_law_969 dL_law_970 dL_law_971 (by decide) dL_law_972 dL_law_973 (by omega) hL ?_
  refine xLW.call (As := [.int (xs (i + 1)), .int (xs (i + 2))]) (rest := [.int _]) ll_X10_crowd dL_law_974 rfl rfl rfl rfl rfl (sp_X10_crowd I (Rm.fr f1) (xs (i + 1)) (xs (i + 2))) ?_
  rintro r M2 ⟨v2, rfl, e2, R2, f2⟩
  refine xLW.eq 1485 dL_law_977 (by decide) (e1.trans e2.symm) ?_
  have K : Kp (o_crowd n σ (xs (i + 1)) (xs (i + 2))) := by
    first
    | exact I
    | (unfold Kp o_crowd; exact I)
    | (unfold Kp o_crowd; split <;> exact I)
    | (unfold Kp o_crowd; (repeat' split) <;> exact I)
  exact next _ _ _ K (R1.fr f2) R2
theorem ll_X9_group : lCV mX9_group 114 9 4 := ⟨⟨me_X9_group, pd_X9_group, by decide, by decide⟩, List.mem_of_getElem? (i := 672) (by decide +kernel), im_X9_group, se_X9_group, rfl⟩
theorem ll_X10_group : lCV mX10_group 118 10 4 := ⟨⟨me_X10_group, pd_X10_group, by decide, by decide⟩, List.mem_of_getElem? (i := 1160) (by decide +kernel), im_X10_group, se_X10_group, rfl⟩
theorem lc_24 {L : Nat} {xs : Nat → Int32} {i : Nat} {n : Nat → Nat} {σ M : xM} (hL : L ≤ 3072) (hi : i + 6 ≤ L) (I : Iv n σ) (R : RX n σ M) (Rm : RM n σ M) (next : ∀ (n' : Nat → Nat) (σ' M' : xM), Iv n' σ' → RX n' σ' M' → RM n' σ' M' → xLW L xs 1485 i [] M') : xLW L xs 982 i [] M := by
  refine xLW.objX dL_law_982 ?_
  refine xLW.arg 1 dL_law_983 dL_law_984 dL_law_985 (by decide) dL_law_986 dL_law_987 (by omega) hL ?_
  refine xLW.arg 2 dL_law_988 dL_law_989 dL_law_990 (by decide) dL_law_991 dL_law_992 (by omega) hL ?_
  refine xLW.arg 3 dL_law_993 dL_law_994 dL_law_995 (by decide) dL_law_996 dL_law_997 (by omega) hL ?_
  refine xLW.arg 4 dL_law_998 dL_law_999 dL_law_1000 (by decide) dL_law_1001 dL_law_1002 (by omega) hL ?_
  refine xLW.call (As := [.int (xs (i + 1)), .int (xs (i + 2)), .int (xs (i + 3)), .int (xs (i + 4))]) (rest := []) ll_X9_group dL_law_1003 rfl rfl rfl rfl rfl (sp_X9_group I R (xs (i + 1)) (xs (i + 2)) (xs (i + 3)) (xs (i + 4))) ?_
  rintro r M1 ⟨v1, rfl, e1, R1, f1⟩
  refine xLW.objM dL_law_1006 ?_
  refine xLW.arg 1 dL_law_1007 dL_law_1008 dL_law_1009 (by decide) dL_law_1010 dL_law_1011 (by omega) hL ?_
  refine xLW.arg 2 dL_law_1012 dL_law_1013 dL_law_1014 (by decide) dL_law_1015 dL_law_1016 (by omega) hL ?_
  refine xLW.arg 3 dL_law_1017 dL_law_1018 dL_law_1019 (by decide) dL_law_1020 dL_law_1021 (by omega) hL ?_
  refine xLW.arg 4 dL_law_1022 dL_law_1023 dL_law_1024 (by decide) dL_law_1025 dL_law_1026 (by omega) hL ?_
  refine xLW.call (As := [.int (xs (i + 1)), .int (xs (i + 2)), .int (xs (i + 3)), .int (xs (i + 4))]) (rest := [.int _]) ll_X10_group dL_law_1027 rfl rfl rfl rfl rfl (sp_X10_group I (Rm.fr f1) (xs (i + 1)) (xs (i + 2)) (xs (i + 3)) (xs (i + 4))) ?_
  rintro r M2 ⟨v2, rfl, e2, R2, f2⟩
  refine xLW.eq 1485 dL_law_1030 (by decide) (e1.trans e2.symm) ?_
  have K : Kp (o_group n σ (xs (i + 1)) (xs (i + 2)) (xs (i + 3)) (xs (i + 4))) := kp_group I (xs (i + 1)) (xs (i + 2)) (xs (i + 3)) (xs (i + 4))
  exact next _ _ _ K (R1.fr f2) R2
theorem ll_X9_child : lCV mX9_child 119 9 2 := ⟨⟨me_X9_child, pd_X9_child, by decide, by decide⟩, List.mem_of_getElem? (i := 689) (by decide +kernel), im_X9_child, se_X9_child, rfl⟩
theorem ll_X10_child : lCV mX10_child 122 10 2 := ⟨⟨me_X10_child, pd_X10_child, by decide, by decide⟩, List.mem_of_getElem? (i := 1171) (by decide +kernel), im_X10_child, se_X10_child, rfl⟩
theorem lc_25 {L : Nat} {xs : Nat → Int32} {i : Nat} {n : Nat → Nat} {σ M : xM} (hL : L ≤ 3072) (hi : i + 6 ≤ L) (I : Iv n σ) (R : RX n σ M) (Rm : RM n σ M) (next : ∀ (n' : Nat → Nat) (σ' M' : xM), Iv n' σ' → RX n' σ' M' → RM n' σ' M' → xLW L xs 1485 i [] M') : xLW L xs 1035 i [] M := by
  refine xLW.objX dL_law_1035 ?_
  refine xLW.arg 1 dL_law_1036 dL_law_1037 dL_law_1038 (by decide) dL_law_1039 dL_law_1040 (by omega) hL ?_
  refine xLW.arg 2 dL_law_1041 dL_law_1042 dL_law_1043 (by decide) dL_law_1044 dL_law_1045 (by omega) hL ?_
  refine xLW.call (As := [.int (xs (i + 1)), .int (xs (i + 2))]) (rest := []) ll_X9_child dL_law_1046 rfl rfl rfl rfl rfl (sp_X9_child I R (xs (i + 1)) (xs (i + 2))) ?_
  rintro r M1 ⟨v1, rfl, e1, R1, f1⟩
  refine xLW.objM dL_law_1049 ?_
  refine xLW.arg 1 dL_law_1050 dL_law_1051 dL_law_1052 (by decide) dL_law_1053 dL_law_1054 (by omega) hL ?_
  refine xLW.arg 2 dL_law_1055 dL_law_1056 dL_law_1057 (by decide) dL_law_1058 dL_law_1059 (by omega) hL ?_
  refine xLW.call (As := [.int (xs (i + 1)), .int (xs (i + 2))]) (rest := [.int _]) ll_X10_child dL_law_1060 rfl rfl rfl rfl rfl (sp_X10_child I (Rm.fr f1) (xs (i + 1)) (xs (i + 2))) ?_
  rintro r M2 ⟨v2, rfl, e2, R2, f2⟩
  refine xLW.eq 1485 dL_law_1063 (by decide) (e1.trans e2.symm) ?_
  have K : Kp (o_child n σ (xs (i + 1)) (xs (i + 2))) := kp_child I (xs (i + 1)) (xs (i + 2))
  exact next _ _ _ K (R1.fr f2) R2
theorem ll_X9_hand : lCV mX9_hand 123 9 1 := ⟨⟨me_X9_hand, pd_X9_hand, by decide, by decide⟩, List.mem_of_getElem? (i := 701) (by decide +kernel), im_X9_hand, se_X9_hand, rfl⟩
theorem ll_X10_hand : lCV mX10_hand 126 10 1 := ⟨⟨me_X10_hand, pd_X10_hand, by decide, by decide⟩, List.mem_of_getElem? (i := 1175) (by decide +kernel), im_X10_hand, se_X10_hand, rfl⟩
theorem lc_26 {L : Nat} {xs : Nat → Int32} {i : Nat} {n : Nat → Nat} {σ M : xM} (hL : L ≤ 3072) (hi : i + 6 ≤ L) (I : Iv n σ) (R : RX n σ M) (Rm : RM n σ M) (next : ∀ (n' : Nat → Nat) (σ' M' : xM), Iv n' σ' → RX n' σ' M' → RM n' σ' M' → xLW L xs 1485 i [] M') : xLW L xs 1068 i [] M := by
  refine xLW.objX dL_law_1068 ?_
  refine xLW.arg 1 dL_law_1069 dL_law_1070 dL_law_1071 (by decide) dL_law_1072 dL_law_1073 (by omega) hL ?_
  refine xLW.call (As := [.int (xs (i + 1))]) (rest := []) ll_X9_hand dL_law_1074 rfl rfl rfl rfl rfl (sp_X9_hand I R (xs (i + 1))) ?_
  rintro r M1 ⟨v1, rfl, e1, R1, f1⟩
  refine xLW.objM dL_law_1077 ?_
  refine xLW.arg 1 dL_law_1078 dL_law_1079 dL_law_1080 (by decide) dL_law_1081 dL_law_1082 (by omega) hL ?_
  refine xLW.call (As := [.int (xs (i + 1))]) (rest := [.int _]) ll_X10_hand dL_law_1083 rfl rfl rfl rfl rfl (sp_X10_hand I (Rm.fr f1) (xs (i + 1))) ?_
  rintro r M2 ⟨v2, rfl, e2, R2, f2⟩
  refine xLW.eq 1485 dL_law_1086 (by decide) (e1.trans e2.symm) ?_
  have K : Kp (o_hand n σ (xs (i + 1))) := kp_hand I (xs (i + 1))
  exact next _ _ _ K (R1.fr f2) R2
theorem ll_X9_fetch : lCV mX9_fetch 127 9 2 := ⟨⟨me_X9_fetch, pd_X9_fetch, by decide, by decide⟩, List.mem_of_getElem? (i := 717) (by decide +kernel), im_X9_fetch, se_X9_fetch, rfl⟩
theorem ll_X10_fetch : lCV mX10_fetch 130 10 2 := ⟨⟨me_X10_fetch, pd_X10_fetch, by decide, by decide⟩, List.mem_of_getElem? (i := 1183) (by decide +kernel), im_X10_fetch, se_X10_fetch, rfl⟩
theorem lc_27 {L : Nat} {xs : Nat → Int32} {i : Nat} {n : Nat → Nat} {σ M : xM} (hL : L ≤ 3072) (hi : i + 6 ≤ L) (I : Iv n σ) (R : RX n σ M) (Rm : RM n σ M) (next : ∀ (n' : Nat → Nat) (σ' M' : xM), Iv n' σ' → RX n' σ' M' → RM n' σ' M' → xLW L xs 1485 i [] M') : xLW L xs 1091 i [] M := by
  refine xLW.objX dL_law_1091 ?_
  refine xLW.arg 1 dL_law_1092 dL_law_1093 dL_law_1094 (by decide) dL_law_1095 dL_law_1096 (by omega) hL ?_
  refine xLW.arg 2 dL_law_1097 dL_law_1098 dL_law_1099 (by decide) dL_law_1100 dL_law_1101 (by omega) hL ?_
  refine xLW.call (As := [.int (xs (i + 1)), .int (xs (i + 2))]) (rest := []) ll_X9_fetch dL_law_1102 rfl rfl rfl rfl rfl (sp_X9_fetch I R (xs (i + 1)) (xs (i + 2))) ?_
  rintro r M1 ⟨v1, rfl, e1, R1, f1⟩
  refine xLW.objM dL_law_1105 ?_
  refine xLW.arg 1 dL_law_1106 dL_law_1107 dL_law_1108 (by decide) dL_law_1109 dL_law_1110 (by omega) hL ?_
  refine xLW.arg 2 dL_law_1111 dL_law_1112 dL_law_1113 (by decide) dL_law_1114 dL_law_1115 (by omega) hL ?_
  refine xLW.call (As := [.int (xs (i + 1)), .int (xs (i + 2))]) (rest := [.int _]) ll_X10_fetch dL_law_1116 rfl rfl rfl rfl rfl (sp_X10_fetch I (Rm.fr f1) (xs (i + 1)) (xs (i + 2))) ?_
  rintro r M2 ⟨v2, rfl, e2, R2, f2⟩
  refine xLW.eq 1485 dL_law_1119 (by decide) (e1.trans e2.symm) ?_
  have K : Kp (o_fetch n σ (xs (i + 1)) (xs (i + 2))) := kp_fetch I (xs (i + 1)) (xs (i + 2))
  exact next _ _ _ K (R1.fr f2) R2
theorem ll_X9_with : lCV mX9_with 131 9 1 := ⟨⟨me_X9_with, pd_X9_with, by decide, by decide⟩, List.mem_of_getElem? (i := 725) (by decide +kernel), im_X9_with, se_X9_with, rfl⟩
theorem ll_X10_with : lCV mX10_with 134 10 1 := ⟨⟨me_X10_with, pd_X10_with, by decide, by decide⟩, List.mem_of_getElem? (i := 1187) (by decide +kernel), im_X10_with, se_X10_with, rfl⟩
theorem lc_28 {L : Nat} {xs : Nat → Int32} {i : Nat} {n : Nat → Nat} {σ M : xM} (hL : L ≤ 3072) (hi : i + 6 ≤ L) (I : Iv n σ) (R : RX n σ M) (Rm : RM n σ M) (next : ∀ (n' : Nat → Nat) (σ' M' : xM), Iv n' σ' → RX n' σ' M' → RM n' σ' M' → xLW L xs 1485 i [] M') : xLW L xs 1124 i [] M := by
  refine xLW.objX dL_law_1124 ?_
  refine xLW.arg 1 dL_law_1125 dL_law_1126 dL_law_1127 (by decide) dL_law_1128 dL_law_1129 (by omega) hL ?_
  refine xLW.call (As := [.int (xs (i + 1))]) (rest := []) ll_X9_with dL_law_1130 rfl rfl rfl rfl rfl (sp_X9_with I R (xs (i + 1))) ?_
  rintro r M1 ⟨v1, rfl, e1, R1, f1⟩
  refine xLW.objM dL_law_1133 ?_
  refine xLW.arg 1 dL_law_1134 dL_law_1135 dL_law_1136 (by decide) dL_law_1137 dL_law_1138 (by omega) hL ?_
  refine xLW.call (As := [.int (xs (i + 1))]) (rest := [.int _]) ll_X10_with dL_law_1139 rfl rfl rfl rfl rfl (sp_X10_with I (Rm.fr f1) (xs (i + 1))) ?_
  rintro r M2 ⟨v2, rfl, e2, R2, f2⟩
  refine xLW.eq 1485 dL_law_1142 (by decide) (e1.trans e2.symm) ?_
  have K : Kp (o_with n σ (xs (i + 1))) := by
    first
    | exact I
    | (unfold Kp o_with; exact I)
    | (unfold Kp o_with; split <;> exact I)
    | (unfold Kp o_with; (repeat' split) <;> exact I)
  exact next _ _ _ K (R1.fr f2) R2
theorem ll_X9_list : lCV mX9_list 135 9 3 := ⟨⟨me_X9_list, pd_X9_list, by decide, by decide⟩, List.mem_of_getElem? (i := 730) (by decide +kernel), im_X9_list, se_X9_list, rfl⟩
theorem ll_X10_list : lCV mX10_list 138 10 3 := ⟨⟨me_X10_list, pd_X10_list, by decide, by decide⟩, List.mem_of_getElem? (i := 1191) (by decide +kernel), im_X10_list, se_X10_list, rfl⟩
theorem lc_29 {L : Nat} {xs : Nat → Int32} {i : Nat} {n : Nat → Nat} {σ M : xM} (hL : L ≤ 3072) (hi : i + 6 ≤ L) (I : Iv n σ) (R : RX n σ M) (Rm : RM n σ M) (next : ∀ (n' : Nat → Nat) (σ' M' : xM), Iv n' σ' → RX n' σ' M' → RM n' σ' M' → xLW L xs 1485 i [] M') : xLW L xs 1147 i [] M := by
  refine xLW.objX dL_law_1147 ?_
  refine xLW.arg 1 dL_law_1148 dL_law_1149 dL_law_1150 (by decide) dL_law_1151 dL_law_1152 (by omega) hL ?_
  refine xLW.arg 2 dL_law_1153 dL_law_1154 dL_law_1155 (by decide) dL_law_1156 dL_law_1157 (by omega) hL ?_
  refine xLW.arg 3 dL_law_1158 dL_law_1159 dL_law_1160 (by decide) dL_law_1161 dL_law_1162 (by omega) hL ?_
  refine xLW.call (As := [.int (xs (i + 1)), .int (xs (i + 2)), .int (xs (i + 3))]) (rest := []) ll_X9_list dL_law_1163 rfl rfl rfl rfl rfl (sp_X9_list I R (xs (i + 1)) (xs (i + 2)) (xs (i + 3))) ?_
  rintro r M1 ⟨v1, rfl, e1, R1, f1⟩
  refine xLW.objM dL_law_1166 ?_
  refine xLW.arg 1 dL_law_1167 dL_law_1168 dL_law_1169 (by decide) dL_law_1170 dL_law_1171 (by omega) hL ?_
  refine xLW.arg 2 dL_law_1172 dL_law_1173 dL_law_1174 (by decide) dL_law_1175 dL_law_1176 (by omega) hL ?_
  refine xLW.arg 3 dL_law_1177 dL_law_1178 dL_law_1179 (by decide) dL_law_1180 dL_law_1181 (by omega) hL ?_
  refine xLW.call (As := [.int (xs (i + 1)), .int (xs (i + 2)), .int (xs (i + 3))]) (rest := [.int _]) ll_X10_list dL_law_1182 rfl rfl rfl rfl rfl (sp_X10_list I (Rm.fr f1) (xs (i + 1)) (xs (i + 2)) (xs (i + 3))) ?_
  rintro r M2 ⟨v2, rfl, e2, R2, f2⟩
  refine xLW.eq 1485 dL_law_1185 (by decide) (e1.trans e2.symm) ?_
  have K : Kp (o_list n σ (xs (i + 1)) (xs (i + 2)) (xs (i + 3))) := kp_list I (xs (i + 1)) (xs (i + 2)) (xs (i + 3))
  exact next _ _ _ K (R1.fr f2) R2
theorem ll_X9_pays : lCV mX9_pays 139 9 2 := ⟨⟨me_X9_pays, pd_X9_pays, by decide, by decide⟩, List.mem_of_getElem? (i := 739) (by decide +kernel), im_X9_pays, se_X9_pays, rfl⟩
theorem ll_X10_pays : lCV mX10_pays 142 10 2 := ⟨⟨me_X10_pays, pd_X10_pays, by decide, by decide⟩, List.mem_of_getElem? (i := 1198) (by decide +kernel), im_X10_pays, se_X10_pays, rfl⟩
theorem lc_30 {L : Nat} {xs : Nat → Int32} {i : Nat} {n : Nat → Nat} {σ M : xM} (hL : L ≤ 3072) (hi : i + 6 ≤ L) (I : Iv n σ) (R : RX n σ M) (Rm : RM n σ M) (next : ∀ (n' : Nat → Nat) (σ' M' : xM), Iv n' σ' → RX n' σ' M' → RM n' σ' M' → xLW L xs 1485 i [] M') : xLW L xs 1190 i [] M := by
  refine xLW.objX dL_law_1190 ?_
  refine xLW.arg 1 dL_law_1191 dL_law_1192 dL_law_1193 (by decide) dL_law_1194 dL_law_1195 (by omega) hL ?_
  refine xLW.arg 2 dL_law_1196 dL_law_1197 dL_law_1198 (by decide) dL_law_1199 dL_law_1200 (by omega) hL ?_
  refine xLW.call (As := [.int (xs (i + 1)), .int (xs (i + 2))]) (rest := []) ll_X9_pays dL_law_1201 rfl rfl rfl rfl rfl (sp_X9_pays I R (xs (i + 1)) (xs (i + 2))) ?_
  rintro r M1 ⟨v1, rfl, e1, R1, f1⟩
  refine xLW.objM dL_law_1204 ?_
  refine xLW.arg 1 dL_law_1205 dL_law_1206 dL_law_1207 (by decide) dL_law_1208 dL_law_1209 (by omega) hL ?_
  refine xLW.arg 2 dL_law_1210 dL_law_1211 dL_law_1212 (by decide) dL_law_1213 dL_law_1214 (by omega) hL ?_
  refine xLW.call (As := [.int (xs (i + 1)), .int (xs (i + 2))]) (rest := [.int _]) ll_X10_pays dL_law_1215 rfl rfl rfl rfl rfl (sp_X10_pays I (Rm.fr f1) (xs (i + 1)) (xs (i + 2))) ?_
  rintro r M2 ⟨v2, rfl, e2, R2, f2⟩
  refine xLW.eq 1485 dL_law_1218 (by decide) (e1.trans e2.symm) ?_
  have K : Kp (o_pays n σ (xs (i + 1)) (xs (i + 2))) := by
    first
    | exact I
    | (unfold Kp o_pays; exact I)
    | (unfold Kp o_pays; split <;> exact I)
    | (unfold Kp o_pays; (repeat' split) <;> exact I)
  exact next _ _ _ K (R1.fr f2) R2
theorem ll_X9_sheet : lCV mX9_sheet 143 9 3 := ⟨⟨me_X9_sheet, pd_X9_sheet, by decide, by decide⟩, List.mem_of_getElem? (i := 754) (by decide +kernel), im_X9_sheet, se_X9_sheet, rfl⟩
theorem ll_X10_sheet : lCV mX10_sheet 146 10 3 := ⟨⟨me_X10_sheet, pd_X10_sheet, by decide, by decide⟩, List.mem_of_getElem? (i := 1202) (by decide +kernel), im_X10_sheet, se_X10_sheet, rfl⟩
theorem lc_31 {L : Nat} {xs : Nat → Int32} {i : Nat} {n : Nat → Nat} {σ M : xM} (hL : L ≤ 3072) (hi : i + 6 ≤ L) (I : Iv n σ) (R : RX n σ M) (Rm : RM n σ M) (next : ∀ (n' : Nat → Nat) (σ' M' : xM), Iv n' σ' → RX n' σ' M' → RM n' σ' M' → xLW L xs 1485 i [] M') : xLW L xs 1223 i [] M := by
  refine xLW.objX dL_law_1223 ?_
  refine xLW.arg 1 dL_law_1224 dL_law_1225 dL_law_1226 (by decide) dL_law_1227 dL_law_1228 (by omega) hL ?_
  refine xLW.arg 2 dL_law_1229 dL_law_1230 dL_law_1231 (by decide) dL_law_1232 dL_law_1233 (by omega) hL ?_
  refine xLW.arg 3 dL_law_1234 dL_law_1235 dL_law_1236 (by decide) dL_law_1237 dL_law_1238 (by omega) hL ?_
  refine xLW.call (As := [.int (xs (i + 1)), .int (xs (i + 2)), .int (xs (i + 3))]) (rest := []) ll_X9_sheet dL_law_1239 rfl rfl rfl rfl rfl (sp_X9_sheet I R (xs (i + 1)) (xs (i + 2)) (xs (i + 3))) ?_
  rintro r M1 ⟨v1, rfl, e1, R1, f1⟩
  refine xLW.objM dL_law_1242 ?_
  refine xLW.arg 1 dL_law_1243 dL_law_1244 dL_law_1245 (by decide) dL_law_1246 dL_law_1247 (by omega) hL ?_
  refine xLW.arg 2 dL_law_1248 dL_law_1249 dL_law_1250 (by decide) dL_law_1251 dL_law_1252 (by omega) hL ?_
  refine xLW.arg 3 dL_law_1253 dL_law_1254 dL_law_1255 (by decide) dL_law_1256 dL_law_1257 (by omega) hL ?_
  refine xLW.call (As := [.int (xs (i + 1)), .int (xs (i + 2)), .int (xs (i + 3))]) (rest := [.int _]) ll_X10_sheet dL_law_1258 rfl rfl rfl rfl rfl (sp_X10_sheet I (Rm.fr f1) (xs (i + 1)) (xs (i + 2)) (xs (i + 3))) ?_
  rintro r M2 ⟨v2, rfl, e2, R2, f2⟩
  refine xLW.eq 1485 dL_law_1261 (by decide) (e1.trans e2.symm) ?_
  have K : Kp (o_sheet n σ (xs (i + 1)) (xs (i + 2)) (xs (i + 3))) := kp_sheet I (xs (i + 1)) (xs (i + 2)) (xs (i + 3))
  exact next _ _ _ K (R1.fr f2) R2
theorem ll_X9_lose : lCV mX9_lose 147 9 1 := ⟨⟨me_X9_lose, pd_X9_lose, by decide, by decide⟩, List.mem_of_getElem? (i := 777) (by decide +kernel), im_X9_lose, se_X9_lose, rfl⟩
theorem ll_X10_lose : lCV mX10_lose 150 10 1 := ⟨⟨me_X10_lose, pd_X10_lose, by decide, by decide⟩, List.mem_of_getElem? (i := 1213) (by decide +kernel), im_X10_lose, se_X10_lose, rfl⟩
theorem lc_32 {L : Nat} {xs : Nat → Int32} {i : Nat} {n : Nat → Nat} {σ M : xM} (hL : L ≤ 3072) (hi : i + 6 ≤ L) (I : Iv n σ) (R : RX n σ M) (Rm : RM n σ M) (next : ∀ (n' : Nat → Nat) (σ' M' : xM), Iv n' σ' → RX n' σ' M' → RM n' σ' M' → xLW L xs 1485 i [] M') : xLW L xs 1266 i [] M := by
  refine xLW.objX dL_law_1266 ?_
  refine xLW.arg 1 dL_law_1267 dL_law_1268 dL_law_1269 (by decide) dL_law_1270 dL_law_1271 (by omega) hL ?_
  refine xLW.call (As := [.int (xs (i + 1))]) (rest := []) ll_X9_lose dL_law_1272 rfl rfl rfl rfl rfl (sp_X9_lose I R (xs (i + 1))) ?_
  rintro r M1 ⟨v1, rfl, e1, R1, f1⟩
  refine xLW.objM dL_law_1275 ?_
  refine xLW.arg 1 dL_law_1276 dL_law_1277 dL_law_1278 (by decide) dL_law_1279 dL_law_1280 (by omega) hL ?_
  refine xLW.call (As := [.int (xs (i + 1))]) (rest := [.int _]) ll_X10_lose dL_law_1281 rfl rfl rfl rfl rfl (sp_X10_lose I (Rm.fr f1) (xs (i + 1))) ?_
  rintro r M2 ⟨v2, rfl, e2, R2, f2⟩
  refine xLW.eq 1485 dL_law_1284 (by decide) (e1.trans e2.symm) ?_
  have K : Kp (o_lose n σ (xs (i + 1))) := kp_lose I (xs (i + 1))
  exact next _ _ _ K (R1.fr f2) R2
theorem ll_X9_put : lCV mX9_put 151 9 4 := ⟨⟨me_X9_put, pd_X9_put, by decide, by decide⟩, List.mem_of_getElem? (i := 785) (by decide +kernel), im_X9_put, se_X9_put, rfl⟩
theorem ll_X10_put : lCV mX10_put 154 10 4 := ⟨⟨me_X10_put, pd_X10_put, by decide, by decide⟩, List.mem_of_getElem? (i := 1217) (by decide +kernel), im_X10_put, se_X10_put, rfl⟩
theorem lc_33 {L : Nat} {xs : Nat → Int32} {i : Nat} {n : Nat → Nat} {σ M : xM} (hL : L ≤ 3072) (hi : i + 6 ≤ L) (I : Iv n σ) (R : RX n σ M) (Rm : RM n σ M) (next : ∀ (n' : Nat → Nat) (σ' M' : xM), Iv n' σ' → RX n' σ' M' → RM n' σ' M' → xLW L xs 1485 i [] M') : xLW L xs 1289 i [] M := by
  refine xLW.objX dL_law_1289 ?_
  refine xLW.arg 1 dL_law_1290 dL_law_1291 dL_law_1292 (by decide) dL_law_1293 dL_law_1294 (by omega) hL ?_
  refine xLW.arg 2 dL_law_1295 dL_law_1296 dL_law_1297 (by decide) dL_law_1298 dL_law_1299 (by omega) hL ?_
  refine xLW.arg 3 dL_law_1300 dL_law_1301 dL_law_1302 (by decide) dL_law_1303 dL_law_1304 (by omega) hL ?_
  refine xLW.arg 4 dL_law_1305 dL_law_1306 dL_law_1307 (by decide) dL_law_1308 dL_law_1309 (by omega) hL ?_
  refine xLW.call (As := [.int (xs (i + 1)), .int (xs (i + 2)), .int (xs (i + 3)), .int (xs (i + 4))]) (rest := []) ll_X9_put dL_law_1310 rfl rfl rfl rfl rfl (sp_X9_put I R (xs (i + 1)) (xs (i + 2)) (xs (i + 3)) (xs (i + 4))) ?_
  rintro r M1 ⟨v1, rfl, e1, R1, f1⟩
  refine xLW.objM dL_law_1313 ?_
  refine xLW.arg 1 dL_law_1314 dL_law_1315 dL_law_1316 (by decide) dL_law_1317 dL_law_1318 (by omega) hL ?_
  refine xLW.arg 2 dL_law_1319 dL_law_1320 dL_law_1321 (by decide) dL_law_1322 dL_law_1323 (by omega) hL ?_
  refine xLW.arg 3 dL_law_1324 dL_law_1325 dL_law_1326 (by decide) dL_law_1327 dL_law_1328 (by omega) hL ?_
  refine xLW.arg 4 dL_law_1329 dL_law_1330 dL_law_1331 (by decide) dL_law_1332 dL_law_1333 (by omega) hL ?_
  refine xLW.call (As := [.int (xs (i + 1)), .int (xs (i + 2)), .int (xs (i + 3)), .int (xs (i + 4))]) (rest := [.int _]) ll_X10_put dL_law_1334 rfl rfl rfl rfl rfl (sp_X10_put I (Rm.fr f1) (xs (i + 1)) (xs (i + 2)) (xs (i + 3)) (xs (i + 4))) ?_
  rintro r M2 ⟨v2, rfl, e2, R2, f2⟩
  refine xLW.eq 1485 dL_law_1337 (by decide) (e1.trans e2.symm) ?_
  have K : Kp (o_put n σ (xs (i + 1)) (xs (i + 2)) (xs (i + 3)) (xs (i + 4))) := kp_put I (xs (i + 1)) (xs (i + 2)) (xs (i + 3)) (xs (i + 4))
  exact next _ _ _ K (R1.fr f2) R2
theorem ll_X9_get : lCV mX9_get 155 9 3 := ⟨⟨me_X9_get, pd_X9_get, by decide, by decide⟩, List.mem_of_getElem? (i := 800) (by decide +kernel), im_X9_get, se_X9_get, rfl⟩
theorem ll_X10_get : lCV mX10_get 158 10 3 := ⟨⟨me_X10_get, pd_X10_get, by decide, by decide⟩, List.mem_of_getElem? (i := 1225) (by decide +kernel), im_X10_get, se_X10_get, rfl⟩
theorem lc_34 {L : Nat} {xs : Nat → Int32} {i : Nat} {n : Nat → Nat} {σ M : xM} (hL : L ≤ 3072) (hi : i + 6 ≤ L) (I : Iv n σ) (R : RX n σ M) (Rm : RM n σ M) (next : ∀ (n' : Nat → Nat) (σ' M' : xM), Iv n' σ' → RX n' σ' M' → RM n' σ' M' → xLW L xs 1485 i [] M') : xLW L xs 1342 i [] M := by
  refine xLW.objX dL_law_1342 ?_
  refine xLW.arg 1 dL_law_1343 dL_law_1344 dL_law_1345 (by decide) dL_law_1346 dL_law_1347 (by omega) hL ?_
  refine xLW.arg 2 dL_law_1348 dL_law_1349 dL_law_1350 (by decide) dL_law_1351 dL_law_1352 (by omega) hL ?_
  refine xLW.arg 3 dL_law_1353 dL_law_1354 dL_law_1355 (by decide) dL_law_1356 dL_law_1357 (by omega) hL ?_
  refine xLW.call (As := [.int (xs (i + 1)), .int (xs (i + 2)), .int (xs (i + 3))]) (rest := []) ll_X9_get dL_law_1358 rfl rfl rfl rfl rfl (sp_X9_get I R (xs (i + 1)) (xs (i + 2)) (xs (i + 3))) ?_
  rintro r M1 ⟨v1, rfl, e1, R1, f1⟩
  refine xLW.objM dL_law_1361 ?_
  refine xLW.arg 1 dL_law_1362 dL_law_1363 dL_law_1364 (by decide) dL_law_1365 dL_law_1366 (by omega) hL ?_
  refine xLW.arg 2 dL_law_1367 dL_law_1368 dL_law_1369 (by decide) dL_law_1370 dL_law_1371 (by omega) hL ?_
  refine xLW.arg 3 dL_law_1372 dL_law_1373 dL_law_1374 (by decide) dL_law_1375 dL_law_1376 (by omega) hL ?_
  refine xLW.call (As := [.int (xs (i + 1)), .int (xs (i + 2)), .int (xs (i + 3))]) (rest := [.int _]) ll_X10_get dL_law_1377 rfl rfl rfl rfl rfl (sp_X10_get I (Rm.fr f1) (xs (i + 1)) (xs (i + 2)) (xs (i + 3))) ?_
  rintro r M2 ⟨v2, rfl, e2, R2, f2⟩
  refine xLW.eq 1485 dL_law_1380 (by decide) (e1.trans e2.symm) ?_
  have K : Kp (o_get n σ (xs (i + 1)) (xs (i + 2)) (xs (i + 3))) := kp_get I (xs (i + 1)) (xs (i + 2)) (xs (i + 3))
  exact next _ _ _ K (R1.fr f2) R2
theorem ll_X9_copy : lCV mX9_copy 159 9 5 := ⟨⟨me_X9_copy, pd_X9_copy, by decide, by decide⟩, List.mem_of_getElem? (i := 809) (by decide +kernel), im_X9_copy, se_X9_copy, rfl⟩
theorem ll_X10_copy : lCV mX10_copy 162 10 5 := ⟨⟨me_X10_copy, pd_X10_copy, by decide, by decide⟩, List.mem_of_getElem? (i := 1230) (by decide +kernel), im_X10_copy, se_X10_copy, rfl⟩
theorem lc_35 {L : Nat} {xs : Nat → Int32} {i : Nat} {n : Nat → Nat} {σ M : xM} (hL : L ≤ 3072) (hi : i + 6 ≤ L) (I : Iv n σ) (R : RX n σ M) (Rm : RM n σ M) (next : ∀ (n' : Nat → Nat) (σ' M' : xM), Iv n' σ' → RX n' σ' M' → RM n' σ' M' → xLW L xs 1485 i [] M') : xLW L xs 1385 i [] M := by
  refine xLW.objX dL_law_1385 ?_
  refine xLW.arg 1 dL_law_1386 dL_law_1387 dL_law_1388 (by decide) dL_law_1389 dL_law_1390 (by omega) hL ?_
  refine xLW.arg 2 dL_law_1391 dL_law_1392 dL_law_1393 (by decide) dL_law_1394 dL_law_1395 (by omega) hL ?_
  refine xLW.arg 3 dL_law_1396 dL_law_1397 dL_law_1398 (by decide) dL_law_1399 dL_law_1400 (by omega) hL ?_
  refine xLW.arg 4 dL_law_1401 dL_law_1402 dL_law_1403 (by decide) dL_law_1404 dL_law_1405 (by omega) hL ?_
  refine xLW.arg 5 dL_law_1406 dL_law_1407 dL_law_1408 (by decide) dL_law_1409 dL_law_1410 (by omega) hL ?_
  refine xLW.call (As := [.int (xs (i + 1)), .int (xs (i + 2)), .int (xs (i + 3)), .int (xs (i + 4)), .int (xs (i + 5))]) (rest := []) ll_X9_copy dL_law_1411 rfl rfl rfl rfl rfl (sp_X9_copy I R (xs (i + 1)) (xs (i + 2)) (xs (i + 3)) (xs (i + 4)) (xs (i + 5))) ?_
  rintro r M1 ⟨v1, rfl, e1, R1, f1⟩
  refine xLW.objM dL_law_1414 ?_
  refine xLW.arg 1 dL_law_1415 dL_law_1416 dL_law_1417 (by decide) dL_law_1418 dL_law_1419 (by omega) hL ?_
  refine xLW.arg 2 dL_law_1420 dL_law_1421 dL_law_1422 (by decide) dL_law_1423 dL_law_1424 (by omega) hL ?_
  refine xLW.arg 3 dL_law_1425 dL_law_1426 dL_law_1427 (by decide) dL_law_1428 dL_law_1429 (by omega) hL ?_
  refine xLW.arg 4 dL_law_1430 dL_law_1431 dL_law_1432 (by decide) dL_law_1433 dL_law_1434 (by omega) hL ?_
  refine xLW.arg 5 dL_law_1435 dL_law_1436 dL_law_1437 (by decide) dL_law_1438 dL_law_1439 (by omega) hL ?_
  refine xLW.call (As := [.int (xs (i + 1)), .int (xs (i + 2)), .int (xs (i + 3)), .int (xs (i + 4)), .int (xs (i + 5))]) (rest := [.int _]) ll_X10_copy dL_law_1440 rfl rfl rfl rfl rfl (sp_X10_copy I (Rm.fr f1) (xs (i + 1)) (xs (i + 2)) (xs (i + 3)) (xs (i + 4)) (xs (i + 5))) ?_
  rintro r M2 ⟨v2, rfl, e2, R2, f2⟩
  refine xLW.eq 1485 dL_law_1443 (by decide) (e1.trans e2.symm) ?_
  have K : Kp (o_copy n σ (xs (i + 1)) (xs (i + 2)) (xs (i + 3)) (xs (i + 4)) (xs (i + 5))) := kp_copy I (xs (i + 1)) (xs (i + 2)) (xs (i + 3)) (xs (i + 4)) (xs (i + 5))
  exact next _ _ _ K (R1.fr f2) R2
theorem ll_X9_count : lCV mX9_count 163 9 1 := ⟨⟨me_X9_count, pd_X9_count, by decide, by decide⟩, List.mem_of_getElem? (i := 822) (by decide +kernel), im_X9_count, se_X9_count, rfl⟩
theorem ll_X10_count : lCV mX10_count 166 10 1 := ⟨⟨me_X10_count, pd_X10_count, by decide, by decide⟩, List.mem_of_getElem? (i := 1234) (by decide +kernel), im_X10_count, se_X10_count, rfl⟩
theorem lc_36 {L : Nat} {xs : Nat → Int32} {i : Nat} {n : Nat → Nat} {σ M : xM} (hL : L ≤ 3072) (hi : i + 6 ≤ L) (I : Iv n σ) (R : RX n σ M) (Rm : RM n σ M) (next : ∀ (n' : Nat → Nat) (σ' M' : xM), Iv n' σ' → RX n' σ' M' → RM n' σ' M' → xLW L xs 1485 i [] M') : xLW L xs 1448 i [] M := by
  refine xLW.objX dL_law_1448 ?_
  refine xLW.arg 1 dL_law_1449 dL_law_1450 dL_law_1451 (by decide) dL_law_1452 dL_law_1453 (by omega) hL ?_
  refine xLW.call (As := [.int (xs (i + 1))]) (rest := []) ll_X9_count dL_law_1454 rfl rfl rfl rfl rfl (sp_X9_count I R (xs (i + 1))) ?_
  rintro r M1 ⟨rfl, rfl⟩
  refine xLW.objM dL_law_1457 ?_
  refine xLW.arg 1 dL_law_1458 dL_law_1459 dL_law_1460 (by decide) dL_law_1461 dL_law_1462 (by omega) hL ?_
  refine xLW.call (As := [.int (xs (i + 1))]) (rest := [.int _]) ll_X10_count dL_law_1463 rfl rfl rfl rfl rfl (sp_X10_count I Rm (xs (i + 1))) ?_
  rintro r M2 ⟨rfl, rfl⟩
  refine xLW.eq 1485 dL_law_1466 (by decide) rfl ?_
  exact next _ _ _ I R Rm
theorem ll_X9_digest : lCV mX9_digest 167 9 0 := ⟨⟨me_X9_digest, pd_X9_digest, by decide, by decide⟩, List.mem_of_getElem? (i := 830) (by decide +kernel), im_X9_digest, se_X9_digest, rfl⟩
theorem ll_X10_digest : lCV mX10_digest 171 10 0 := ⟨⟨me_X10_digest, pd_X10_digest, by decide, by decide⟩, List.mem_of_getElem? (i := 1238) (by decide +kernel), im_X10_digest, se_X10_digest, rfl⟩
theorem lc_37 {L : Nat} {xs : Nat → Int32} {i : Nat} {n : Nat → Nat} {σ M : xM} (hL : L ≤ 3072) (hi : i + 6 ≤ L) (I : Iv n σ) (R : RX n σ M) (Rm : RM n σ M) (next : ∀ (n' : Nat → Nat) (σ' M' : xM), Iv n' σ' → RX n' σ' M' → RM n' σ' M' → xLW L xs 1485 i [] M') : xLW L xs 1471 i [] M := by
  refine xLW.objX dL_law_1471 ?_
  refine xLW.call (As := []) (rest := []) ll_X9_digest dL_law_1472 rfl rfl rfl rfl rfl (sp_X9_digest I R) ?_
  rintro r M1 ⟨v1, rfl, e1, R1, f1⟩
  refine xLW.objM dL_law_1475 ?_
  refine xLW.call (As := []) (rest := [.long _]) ll_X10_digest dL_law_1476 rfl rfl rfl rfl rfl (sp_X10_digest I (Rm.fr f1)) ?_
  rintro r M2 ⟨v2, rfl, e2, R2, f2⟩
  refine xLW.leq 1485 dL_law_1479 dL_law_1480 (by decide) (e1.trans e2.symm) ?_
  exact next _ _ _ I (R1.fr f2) R2
