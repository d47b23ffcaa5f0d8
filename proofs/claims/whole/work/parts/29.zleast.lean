/-! the sittings: the reference: the least difference -/
theorem nJ_2 (t : Nat) : 2 * nI t = nI (2 * t) := by rw [nlit, pk_mul]
theorem xA_0 {n : Nat → Nat} {σ : xM} {w : Int32} {v : Nat} : xA n σ w v 0 ↔ xway n σ w v := by
  rw [xA, xfs0, Nat.sub_zero, Nat.sub_zero]
  exact ⟨fun z => z.1, fun z => ⟨z, Nat.zero_le _, z.1⟩⟩
theorem ZC.z {n : Nat → Nat} {σ M1 : xM} {w : Int32} (h : ZC n σ w 0 M1) {t : Nat} (ht : t < 200) : M1 59 t = bI (rc (xs n σ w) (xB' n σ w) (xB' n σ w) t) := by
  have := h 0 t (Nat.le_refl _) (Nat.zero_le _) ht
  rwa [Nat.mul_zero, Nat.zero_add, Nat.sub_zero] at this
theorem z267 {n : Nat → Nat} {σ M M1 : xM} {w : Int32} (I : Iv n σ) (R : RM n σ M) (h1 : ZR n σ w M M1) (h2 : ZC n σ w 0 M1) (o4 o5 o6 o7 o8 o9 o10 o11 o12 : Option Value) :
    P mX10_findSittings 267 [some (.ref 46), some (.int w), some (.int (nI (xT n σ w))), some (.int (xdiff n σ w)), o4, o5, o6, o7, o8, o9, o10, o11, o12] [] M1 (ZP n σ w M) := by
  have T := xT_le I w
  have R1 := R.fU h1.1
  have e0 : M1 56 0 = σ 13 0 := R1.2.1 (56, 0, 13, 0) (by decide)
  have e1 : M1 56 1 = σ 13 1 := R1.2.1 (56, 1, 13, 1) (by decide)
  rcases xdf_in (n := n) (σ := σ) (w := w) (xT n σ w + 1) (Nat.le_refl _) with e | ⟨D, hD, e⟩
  · have e : xdiff n σ w = -1 := e
    refine P.iload_n (pc := 267) 3 dX10_findSittings_267 rfl rfl ?_
    refine P.iconst (pc := 268) (v := -1) dX10_findSittings_268 (by decide) ?_
    refine P.icne (pc := 269) 274 dX10_findSittings_269 (by decide) (fun c269 => ?_) (fun c269 => ?_)
    · exact absurd e c269--.
    · skip
      refine P.iconst (pc := 272) (v := -1) dX10_findSittings_272 (by decide) ?_
      refine P.iret (pc := 273) dX10_findSittings_273 rfl ?_
      exact ⟨by rw [e], h1, fun z => absurd e z⟩
  · have e : xdiff n σ w = nI D := e
    have s368 : ∀ o6 o7 o8 o9 o10 o11 o12 : Option Value, o6 = some (.int (bI (xway n σ w ((xT n σ w - D) / 2)))) → P mX10_findSittings 368 [some (.ref 46), some (.int w), some (.int (nI (xT n σ w))), some (.int (nI D)), some (.int (nI ((xT n σ w - D) / 2))), some (.int (nI ((xT n σ w + D) / 2))), o6, o7, o8, o9, o10, o11, o12] [.int (bI (xway n σ w ((xT n σ w + D) / 2)))] M1 (ZP n σ w M) := by
      intro o6 o7 o8 o9 o10 o11 o12 h6
      subst h6
      have z := fun o10 o11 o12 => z376 (M := M) I hD e (xB' n σ w) 0 M1 o10 o11 o12 (by omega) h1 h2 (fun q hq => by omega)
      rw [bI_c xA_0, bI_c xA_0] at z
      refine P.istore (pc := 368) 7 dX10_findSittings_368 (by decide) rfl ?_
      refine P.iconst (pc := 370) (v := 0) dX10_findSittings_370 (by decide) ?_
      refine P.istore (pc := 371) 8 dX10_findSittings_371 (by decide) rfl ?_
      refine P.iconst (pc := 373) (v := 0) dX10_findSittings_373 (by decide) ?_
      refine P.istore (pc := 374) 9 dX10_findSittings_374 (by decide) rfl ?_
      exact z _ _ _
    have s327 : ∀ o6 o7 o8 o9 o10 o11 o12 : Option Value, P mX10_findSittings 327 [some (.ref 46), some (.int w), some (.int (nI (xT n σ w))), some (.int (nI D)), some (.int (nI ((xT n σ w - D) / 2))), some (.int (nI ((xT n σ w + D) / 2))), o6, o7, o8, o9, o10, o11, o12] [.int (bI (xway n σ w ((xT n σ w - D) / 2)))] M1 (ZP n σ w M) := by
      intro o6 o7 o8 o9 o10 o11 o12
      have s := s368 (some (.int (bI (xway n σ w ((xT n σ w - D) / 2))))) o7 o8 o9 o10 o11 o12 rfl
      refine P.istore (pc := 327) 6 dX10_findSittings_327 (by decide) rfl ?_
      refine P.iload (pc := 329) 5 dX10_findSittings_329 rfl ?_
      refine P.aload_n (pc := 331) 0 dX10_findSittings_331 rfl rfl ?_
      refine P.getR (pc := 332) fl_X10_41 dX10_findSittings_332 rfl rfl ?_
      refine P.iconst (pc := 335) (v := 0) dX10_findSittings_335 (by decide) ?_
      refine P.iaN (pc := 336) _ dX10_findSittings_336 rfl rfl rfl (by first | omega | grind [nT]) ?_
      rw [e0]
      refine P.icgt (pc := 337) 367 dX10_findSittings_337 (by decide) (fun c337 => ?_) (fun c337 => ?_)
      · have hv := bI_f (q := xway n σ w ((xT n σ w + D) / 2)) (fun z => Int32.not_le.2 c337 z.2.1)
        refine P.iconst (pc := 367) (v := 0) dX10_findSittings_367 (by decide) ?_
        rw [hv] at s
        exact s
      · refine P.iload_n (pc := 340) 2 dX10_findSittings_340 rfl rfl ?_
        refine P.iload (pc := 341) 5 dX10_findSittings_341 rfl ?_
        refine P.isub (pc := 343) dX10_findSittings_343 ?_
        refine P.aload_n (pc := 344) 0 dX10_findSittings_344 rfl rfl ?_
        refine P.getR (pc := 345) fl_X10_41 dX10_findSittings_345 rfl rfl ?_
        refine P.iconst (pc := 348) (v := 1) dX10_findSittings_348 (by decide) ?_
        refine P.iaN (pc := 349) _ dX10_findSittings_349 rfl rfl rfl (by first | omega | grind [nT]) ?_
        rw [e1]
        refine P.icgt (pc := 350) 367 dX10_findSittings_350 (by decide) (fun c350 => ?_) (fun c350 => ?_)
        · have hv := bI_f (q := xway n σ w ((xT n σ w + D) / 2)) (fun z => Int32.not_le.2 c350 z.2.2)
          refine P.iconst (pc := 367) (v := 0) dX10_findSittings_367 (by decide) ?_
          rw [hv] at s
          exact s
        · refine P.aload_n (pc := 353) 0 dX10_findSittings_353 rfl rfl ?_
          refine P.getR (pc := 354) fl_X10_50 dX10_findSittings_354 rfl rfl ?_
          refine P.iload (pc := 357) 5 dX10_findSittings_357 rfl ?_
          refine P.zaN (pc := 359) ((xT n σ w + D) / 2) dX10_findSittings_359 rfl rfl rfl (by first | omega | grind [nT]) ?_
          rw [h2.z (by omega)]
          refine P.ifeqB (pc := 360) 367 dX10_findSittings_360 (by decide) (fun c360 => ?_) (fun c360 => ?_)
          · have hv := bI_f (q := xway n σ w ((xT n σ w + D) / 2)) (fun z => c360 z.1)
            refine P.iconst (pc := 367) (v := 0) dX10_findSittings_367 (by decide) ?_
            rw [hv] at s
            exact s
          · have hv := bI_t (q := xway n σ w ((xT n σ w + D) / 2)) ⟨c360, Int32.not_lt.1 c337, Int32.not_lt.1 c350⟩
            refine P.iconst (pc := 363) (v := 1) dX10_findSittings_363 (by decide) ?_
            refine P.goto (pc := 364) 368 dX10_findSittings_364 (by decide) ?_
            rw [hv] at s
            exact s
    rw [e]
    refine P.iload_n (pc := 267) 3 dX10_findSittings_267 rfl rfl ?_
    refine P.iconst (pc := 268) (v := -1) dX10_findSittings_268 (by decide) ?_
    refine P.icne (pc := 269) 274 dX10_findSittings_269 (by decide) (fun c269 => ?_) (fun c269 => ?_)
    · refine P.iload_n (pc := 274) 2 dX10_findSittings_274 rfl rfl ?_
      refine P.iload_n (pc := 275) 3 dX10_findSittings_275 rfl rfl ?_
      refine P.isub (pc := 276) dX10_findSittings_276 ?_
      rw [nJ_sb (by omega) hD]
      refine P.iconst (pc := 277) (v := 2) dX10_findSittings_277 (by decide) ?_
      refine P.idiv (pc := 278) dX10_findSittings_278 (by decide) ?_
      rw [nJ_half (by omega)]
      refine P.istore (pc := 279) 4 dX10_findSittings_279 (by decide) rfl ?_
      refine P.iload_n (pc := 281) 2 dX10_findSittings_281 rfl rfl ?_
      refine P.iload_n (pc := 282) 3 dX10_findSittings_282 rfl rfl ?_
      refine P.iadd (pc := 283) dX10_findSittings_283 ?_
      rw [nI_add]
      refine P.iconst (pc := 284) (v := 2) dX10_findSittings_284 (by decide) ?_
      refine P.idiv (pc := 285) dX10_findSittings_285 (by decide) ?_
      rw [nJ_half (by omega)]
      refine P.istore (pc := 286) 5 dX10_findSittings_286 (by decide) rfl ?_
      have s := s327 o6 o7 o8 o9 o10 o11 o12
      refine P.iload (pc := 288) 4 dX10_findSittings_288 rfl ?_
      refine P.aload_n (pc := 290) 0 dX10_findSittings_290 rfl rfl ?_
      refine P.getR (pc := 291) fl_X10_41 dX10_findSittings_291 rfl rfl ?_
      refine P.iconst (pc := 294) (v := 0) dX10_findSittings_294 (by decide) ?_
      refine P.iaN (pc := 295) _ dX10_findSittings_295 rfl rfl rfl (by first | omega | grind [nT]) ?_
      rw [e0]
      refine P.icgt (pc := 296) 326 dX10_findSittings_296 (by decide) (fun c296 => ?_) (fun c296 => ?_)
      · have hv := bI_f (q := xway n σ w ((xT n σ w - D) / 2)) (fun z => Int32.not_le.2 c296 z.2.1)
        refine P.iconst (pc := 326) (v := 0) dX10_findSittings_326 (by decide) ?_
        rw [hv] at s
        exact s
      · refine P.iload_n (pc := 299) 2 dX10_findSittings_299 rfl rfl ?_
        refine P.iload (pc := 300) 4 dX10_findSittings_300 rfl ?_
        refine P.isub (pc := 302) dX10_findSittings_302 ?_
        refine P.aload_n (pc := 303) 0 dX10_findSittings_303 rfl rfl ?_
        refine P.getR (pc := 304) fl_X10_41 dX10_findSittings_304 rfl rfl ?_
        refine P.iconst (pc := 307) (v := 1) dX10_findSittings_307 (by decide) ?_
        refine P.iaN (pc := 308) _ dX10_findSittings_308 rfl rfl rfl (by first | omega | grind [nT]) ?_
        rw [e1]
        refine P.icgt (pc := 309) 326 dX10_findSittings_309 (by decide) (fun c309 => ?_) (fun c309 => ?_)
        · have hv := bI_f (q := xway n σ w ((xT n σ w - D) / 2)) (fun z => Int32.not_le.2 c309 z.2.2)
          refine P.iconst (pc := 326) (v := 0) dX10_findSittings_326 (by decide) ?_
          rw [hv] at s
          exact s
        · refine P.aload_n (pc := 312) 0 dX10_findSittings_312 rfl rfl ?_
          refine P.getR (pc := 313) fl_X10_50 dX10_findSittings_313 rfl rfl ?_
          refine P.iload (pc := 316) 4 dX10_findSittings_316 rfl ?_
          refine P.zaN (pc := 318) ((xT n σ w - D) / 2) dX10_findSittings_318 rfl rfl rfl (by first | omega | grind [nT]) ?_
          rw [h2.z (by omega)]
          refine P.ifeqB (pc := 319) 326 dX10_findSittings_319 (by decide) (fun c319 => ?_) (fun c319 => ?_)
          · have hv := bI_f (q := xway n σ w ((xT n σ w - D) / 2)) (fun z => c319 z.1)
            refine P.iconst (pc := 326) (v := 0) dX10_findSittings_326 (by decide) ?_
            rw [hv] at s
            exact s
          · have hv := bI_t (q := xway n σ w ((xT n σ w - D) / 2)) ⟨c319, Int32.not_lt.1 c296, Int32.not_lt.1 c309⟩
            refine P.iconst (pc := 322) (v := 1) dX10_findSittings_322 (by decide) ?_
            refine P.goto (pc := 323) 327 dX10_findSittings_323 (by decide) ?_
            rw [hv] at s
            exact s
    · exact absurd c269 (nI_ne (by omega))--.
theorem z182 {n : Nat → Nat} {σ M M1 : xM} {w : Int32} (I : Iv n σ) (R : RM n σ M) (h1 : ZR n σ w M M1) (h2 : ZC n σ w 0 M1) : ∀ (k t : Nat) (o5 o6 o7 o8 o9 o10 o11 o12 : Option Value), t + k = xT n σ w + 1 →
    P mX10_findSittings 182 [some (.ref 46), some (.int w), some (.int (nI (xT n σ w))), some (.int (xdf n σ w t)), some (.int (nI t)), o5, o6, o7, o8, o9, o10, o11, o12] [] M1 (ZP n σ w M) := by
  have T := xT_le I w
  have R1 := R.fU h1.1
  have e0 : M1 56 0 = σ 13 0 := R1.2.1 (56, 0, 13, 0) (by decide)
  have e1 : M1 56 1 = σ 13 1 := R1.2.1 (56, 1, 13, 1) (by decide)
  intro k
  induction k with
  | zero =>
    intro t o5 o6 o7 o8 o9 o10 o11 o12 hk
    have hk : t = xT n σ w + 1 := hk
    subst hk
    refine P.iload (pc := 182) 4 dX10_findSittings_182 rfl ?_
    refine P.iload_n (pc := 184) 2 dX10_findSittings_184 rfl rfl ?_
    refine P.icgt (pc := 185) 267 dX10_findSittings_185 (by decide) (fun c185 => ?_) (fun c185 => ?_)
    · exact z267 I R h1 h2 _ _ _ _ _ _ _ _ _
    · exact absurd (nI_lt (by omega) (by omega)) c185--.
  | succ k ih =>
    intro t o5 o6 o7 o8 o9 o10 o11 o12 hk
    have s261 : ∀ (y : Int32) (o5 : Option Value), y = xdf n σ w (t + 1) → P mX10_findSittings 261 [some (.ref 46), some (.int w), some (.int (nI (xT n σ w))), some (.int y), some (.int (nI t)), o5, o6, o7, o8, o9, o10, o11, o12] [] M1 (ZP n σ w M) := by
      intro y o5 hy
      subst hy
      refine P.iinc (pc := 261) 4 1 dX10_findSittings_261 rfl (by decide) (by decide) rfl ?_
      rw [nI_1]
      refine P.goto (pc := 264) 182 dX10_findSittings_264 (by decide) ?_
      exact ih (t + 1) _ _ _ _ _ _ _ _ (by omega)
    have s211 : P mX10_findSittings 211 [some (.ref 46), some (.int w), some (.int (nI (xT n σ w))), some (.int (xdf n σ w t)), some (.int (nI t)), o5, o6, o7, o8, o9, o10, o11, o12] [.int (nI (xab (xT n σ w) t))] M1 (ZP n σ w M) := by
      refine P.istore (pc := 211) 5 dX10_findSittings_211 (by decide) rfl ?_
      refine P.aload_n (pc := 213) 0 dX10_findSittings_213 rfl rfl ?_
      refine P.getR (pc := 214) fl_X10_50 dX10_findSittings_214 rfl rfl ?_
      refine P.iload (pc := 217) 4 dX10_findSittings_217 rfl ?_
      refine P.zaN (pc := 219) (t) dX10_findSittings_219 rfl rfl rfl (by first | omega | grind [nT]) ?_
      rw [h2.z (by omega)]
      refine P.ifeqB (pc := 220) 261 dX10_findSittings_220 (by decide) (fun c220 => ?_) (fun c220 => ?_)
      · have hn := xdf_no (fun z => c220 z.1.1)
        first | exact s261 _ _ hy.symm | exact s261 _ _ hn.symm
      · refine P.iload (pc := 223) 4 dX10_findSittings_223 rfl ?_
        refine P.aload_n (pc := 225) 0 dX10_findSittings_225 rfl rfl ?_
        refine P.getR (pc := 226) fl_X10_41 dX10_findSittings_226 rfl rfl ?_
        refine P.iconst (pc := 229) (v := 0) dX10_findSittings_229 (by decide) ?_
        refine P.iaN (pc := 230) _ dX10_findSittings_230 rfl rfl rfl (by first | omega | grind [nT]) ?_
        rw [e0]
        refine P.icgt (pc := 231) 261 dX10_findSittings_231 (by decide) (fun c231 => ?_) (fun c231 => ?_)
        · have hn := xdf_no (n := n) (σ := σ) (w := w) (m := t) (fun z => Int32.not_le.2 c231 z.1.2.1)
          first | exact s261 _ _ hy.symm | exact s261 _ _ hn.symm
        · refine P.iload_n (pc := 234) 2 dX10_findSittings_234 rfl rfl ?_
          refine P.iload (pc := 235) 4 dX10_findSittings_235 rfl ?_
          refine P.isub (pc := 237) dX10_findSittings_237 ?_
          refine P.aload_n (pc := 238) 0 dX10_findSittings_238 rfl rfl ?_
          refine P.getR (pc := 239) fl_X10_41 dX10_findSittings_239 rfl rfl ?_
          refine P.iconst (pc := 242) (v := 1) dX10_findSittings_242 (by decide) ?_
          refine P.iaN (pc := 243) _ dX10_findSittings_243 rfl rfl rfl (by first | omega | grind [nT]) ?_
          rw [e1]
          refine P.icgt (pc := 244) 261 dX10_findSittings_244 (by decide) (fun c244 => ?_) (fun c244 => ?_)
          · have hn := xdf_no (n := n) (σ := σ) (w := w) (m := t) (fun z => Int32.not_le.2 c244 z.1.2.2)
            first | exact s261 _ _ hy.symm | exact s261 _ _ hn.symm
          · refine P.iload_n (pc := 247) 3 dX10_findSittings_247 rfl rfl ?_
            refine P.iconst (pc := 248) (v := -1) dX10_findSittings_248 (by decide) ?_
            refine P.iceq (pc := 249) 258 dX10_findSittings_249 (by decide) (fun c249 => ?_) (fun c249 => ?_)
            · have hy := xdf_yes ⟨⟨c220, Int32.not_lt.1 c231, Int32.not_lt.1 c244⟩, Or.inl c249⟩
              refine P.iload (pc := 258) 5 dX10_findSittings_258 rfl ?_
              refine P.istore_n (pc := 260) 3 dX10_findSittings_260 rfl (by decide) rfl ?_
              first | exact s261 _ _ hy.symm | exact s261 _ _ hn.symm
            · refine P.iload (pc := 252) 5 dX10_findSittings_252 rfl ?_
              refine P.iload_n (pc := 254) 3 dX10_findSittings_254 rfl rfl ?_
              refine P.icge (pc := 255) 261 dX10_findSittings_255 (by decide) (fun c255 => ?_) (fun c255 => ?_)
              · have hn := xdf_no (n := n) (σ := σ) (w := w) (m := t) (fun z => z.2.elim c249 (fun e => Int32.not_le.2 e c255))
                first | exact s261 _ _ hy.symm | exact s261 _ _ hn.symm
              · have hy := xdf_yes ⟨⟨c220, Int32.not_lt.1 c231, Int32.not_lt.1 c244⟩, Or.inr (Int32.not_le.1 c255)⟩
                refine P.iload (pc := 258) 5 dX10_findSittings_258 rfl ?_
                refine P.istore_n (pc := 260) 3 dX10_findSittings_260 rfl (by decide) rfl ?_
                first | exact s261 _ _ hy.symm | exact s261 _ _ hn.symm
    refine P.iload (pc := 182) 4 dX10_findSittings_182 rfl ?_
    refine P.iload_n (pc := 184) 2 dX10_findSittings_184 rfl rfl ?_
    refine P.icgt (pc := 185) 267 dX10_findSittings_185 (by decide) (fun c185 => ?_) (fun c185 => ?_)
    · exact absurd c185 (nI_nlt (by omega) (by omega))--.
    · refine P.iconst (pc := 188) (v := 2) dX10_findSittings_188 (by decide) ?_
      refine P.iload (pc := 189) 4 dX10_findSittings_189 rfl ?_
      refine P.imul (pc := 191) dX10_findSittings_191 ?_
      rw [nJ_2]
      refine P.iload_n (pc := 192) 2 dX10_findSittings_192 rfl rfl ?_
      refine P.icle (pc := 193) 205 dX10_findSittings_193 (by decide) (fun c193 => ?_) (fun c193 => ?_)
      · have ha : xab (xT n σ w) t = xT n σ w - 2 * t := if_neg (fun z => absurd c193 (nI_ge z (by omega)))
        have hl : 2 * t ≤ xT n σ w := by rcases Nat.lt_or_ge (xT n σ w) (2 * t) with z | z; exact absurd c193 (nI_ge z (by omega)); exact z
        refine P.iload_n (pc := 205) 2 dX10_findSittings_205 rfl rfl ?_
        refine P.iconst (pc := 206) (v := 2) dX10_findSittings_206 (by decide) ?_
        refine P.iload (pc := 207) 4 dX10_findSittings_207 rfl ?_
        refine P.imul (pc := 209) dX10_findSittings_209 ?_
        rw [nJ_2]
        refine P.isub (pc := 210) dX10_findSittings_210 ?_
        rw [nJ_sb (by omega) (by omega), ← ha]
        exact s211
      · have hl : xT n σ w < 2 * t := by rcases Nat.lt_or_ge (xT n σ w) (2 * t) with z | z; exact z; exact absurd (nI_le z (by omega)) c193
        have ha : xab (xT n σ w) t = 2 * t - xT n σ w := if_pos hl
        refine P.iconst (pc := 196) (v := 2) dX10_findSittings_196 (by decide) ?_
        refine P.iload (pc := 197) 4 dX10_findSittings_197 rfl ?_
        refine P.imul (pc := 199) dX10_findSittings_199 ?_
        rw [nJ_2]
        refine P.iload_n (pc := 200) 2 dX10_findSittings_200 rfl rfl ?_
        refine P.isub (pc := 201) dX10_findSittings_201 ?_
        rw [nJ_sb (by omega) (by omega), ← ha]
        refine P.goto (pc := 202) 211 dX10_findSittings_202 (by decide) ?_
        exact s211
