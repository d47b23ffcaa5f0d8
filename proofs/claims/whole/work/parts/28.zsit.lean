/-! the sittings: the reference: the best way -/
theorem nJ_ix (b t : Nat) : 200 * nI b + nI t = nI (200 * b + t) := by rw [nlit, pk_mul, nI_add]
theorem nJ_nlt {a b : Nat} (hb : b < 1000000) (h : ¬ nI a < nI b) : b ≤ a := by
  rcases Nat.lt_or_ge a b with z | z
  · exact absurd (nI_lt z (by omega)) h
  · exact z
def ZR (n : Nat → Nat) (σ : xM) (w : Int32) (M M1 : xM) : Prop := fU M M1 ∧ M1 46 13 = nI (xB' n σ w) ∧ (∀ q, q < n 1 → (xthere σ w q → M1 57 q = nI (xun σ w q)) ∧ (¬ xthere σ w q → M1 57 q = -1)) ∧ ∀ b, b < xB' n σ w → M1 58 b = nI (xs n σ w b)
theorem ZR.mv {n : Nat → Nat} {σ : xM} {w : Int32} {M M1 M2 : xM} (h : ZR n σ w M M1) (h1 : ∀ c, ¬ c = 59 → ¬ c = 60 → M2 c = M1 c) : ZR n σ w M M2 := by
  obtain ⟨a, b, c, d⟩ := h
  refine ⟨⟨fun q h2 h3 => by rw [h1 q (by omega) (by omega)]; exact a.1 q h2 h3, fun j hj => by rw [h1 46 (by decide) (by decide)]; exact a.2 j hj⟩, ?_, ?_, ?_⟩
  · rw [h1 46 (by decide) (by decide)]; exact b
  · rw [h1 57 (by decide) (by decide)]; exact c
  · rw [h1 58 (by decide) (by decide)]; exact d
def ZC (n : Nat → Nat) (σ : xM) (w : Int32) (r : Nat) (M1 : xM) : Prop := ∀ b t, r ≤ b → b ≤ xB' n σ w → t < 200 → M1 59 (200 * b + t) = bI (rc (xs n σ w) (xB' n σ w) (xB' n σ w - b) t)
def ZA (n : Nat → Nat) (σ : xM) (w : Int32) (M M1 : xM) : Prop := ZR n σ w M M1 ∧ (¬ xdiff n σ w = -1 → ∀ q, q < xB' n σ w → M1 60 q = xsit n σ w q)
def ZP (n : Nat → Nat) (σ : xM) (w : Int32) (M : xM) : Option Value → xM → Prop := fun v M' => v = some (.int (xdiff n σ w)) ∧ ZA n σ w M M'
def xA (n : Nat → Nat) (σ : xM) (w : Int32) (v u : Nat) : Prop := xway n σ w v ∧ xfs0 n σ w u ≤ v ∧ rc (xs n σ w) (xB' n σ w) (xB' n σ w - u) (v - xfs0 n σ w u)
theorem rc_u {s : Nat → Nat} {B u t : Nat} (hu : u < B) : rc s B (B - u) t ↔ (rc s B (B - (u + 1)) t ∨ (s u ≤ t ∧ rc s B (B - (u + 1)) (t - s u))) := by
  rw [show B - u = (B - (u + 1)) + 1 by omega, rc, show B - (B - (u + 1) + 1) = u by omega]
theorem xA_can {n : Nat → Nat} {σ : xM} {w : Int32} {v u : Nat} (hu : u < xB' n σ w) (h : xcan n σ w (xfs0 n σ w u + xs n σ w u) u v) : xA n σ w v u := by
  obtain ⟨h1, h2, h3⟩ := h
  refine ⟨h1, by omega, (rc_u hu).2 (Or.inr ⟨by omega, ?_⟩)⟩
  rw [show v - xfs0 n σ w u - xs n σ w u = v - (xfs0 n σ w u + xs n σ w u) by omega]
  exact h3
theorem xA_yes {n : Nat → Nat} {σ : xM} {w : Int32} {v u : Nat} (e : xfs0 n σ w (u + 1) = xfs0 n σ w u + xs n σ w u) : xcan n σ w (xfs0 n σ w u + xs n σ w u) u v ↔ xA n σ w v (u + 1) := by rw [xcan, xA, e]
theorem xA_no {n : Nat → Nat} {σ : xM} {w : Int32} {v u : Nat} (hu : u < xB' n σ w) (e : xfs0 n σ w (u + 1) = xfs0 n σ w u) (h : ¬ xcan n σ w (xfs0 n σ w u + xs n σ w u) u v) : xA n σ w v u ↔ xA n σ w v (u + 1) := by
  rw [xA, xA, e, rc_u hu]
  refine ⟨fun ⟨h1, h2, h3⟩ => ⟨h1, h2, ?_⟩, fun ⟨h1, h2, h3⟩ => ⟨h1, h2, Or.inl h3⟩⟩
  rcases h3 with h3 | ⟨h3, h4⟩
  · exact h3
  · refine absurd ⟨h1, by omega, ?_⟩ h
    rw [show v - (xfs0 n σ w u + xs n σ w u) = v - xfs0 n σ w u - xs n σ w u by omega]
    exact h4
theorem z376 {n : Nat → Nat} {σ M : xM} {w : Int32} (I : Iv n σ) {D : Nat} (hD : D ≤ xT n σ w) (e : xdiff n σ w = nI D) : ∀ (k u : Nat) (M1 : xM) (o10 o11 o12 : Option Value), u + k = xB' n σ w → ZR n σ w M M1 → ZC n σ w 0 M1 → (∀ q, q < u → M1 60 q = xsit n σ w q) →
    P mX10_findSittings 376 [some (.ref 46), some (.int w), some (.int (nI (xT n σ w))), some (.int (nI D)), some (.int (nI ((xT n σ w - D) / 2))), some (.int (nI ((xT n σ w + D) / 2))), some (.int (bI (xA n σ w ((xT n σ w - D) / 2) u))), some (.int (bI (xA n σ w ((xT n σ w + D) / 2) u))), some (.int (nI (xfs0 n σ w u))), some (.int (nI u)), o10, o11, o12] [] M1 (ZP n σ w M) := by
  have T := xT_le I w
  have B := xB_le I w
  clear I
  have ne : ¬ xdiff n σ w = -1 := by rw [e]; exact nI_ne (by omega)
  have cl : (xdiff n σ w).toNatClampNeg = D := by rw [e, nI_clamp (by omega)]
  intro k
  induction k with
  | zero =>
    intro u M1 o10 o11 o12 hk h1 h2 h3
    have hu := h1.2.1
    refine P.iload (pc := 376) 9 dX10_findSittings_376 rfl ?_
    refine P.aload_n (pc := 378) 0 dX10_findSittings_378 rfl rfl ?_
    refine P.getI (pc := 379) fl_X10_185 dX10_findSittings_379 rfl rfl ?_
    rw [hu]
    refine P.icge (pc := 382) 526 dX10_findSittings_382 (by decide) (fun c382 => ?_) (fun c382 => ?_)
    · refine P.iload_n (pc := 526) 3 dX10_findSittings_526 rfl rfl ?_
      refine P.iret (pc := 527) dX10_findSittings_527 rfl ?_
      exact ⟨by rw [e], h1, fun _ q hq => h3 q (by omega)⟩
    · exact absurd (nI_le (by omega) (by omega)) c382--.
  | succ k ih =>
    intro u M1 o10 o11 o12 hk h1 h2 h3
    have hu := h1.2.1
    have hs := h1.2.2.2 u (by omega)
    have le := xfs0_T (n := n) (σ := σ) (w := w) (b := u) (by omega)
    have ql : xlead n σ w (xfs0 n σ w u) u ↔ (xcan n σ w (xfs0 n σ w u + xs n σ w u) u ((xT n σ w - D) / 2) ∨ xcan n σ w (xfs0 n σ w u + xs n σ w u) u ((xT n σ w + D) / 2)) := by rw [xlead, cl]; exact ⟨fun z => z.2, fun z => ⟨ne, z⟩⟩
    have s477 : P mX10_findSittings 477 [some (.ref 46), some (.int w), some (.int (nI (xT n σ w))), some (.int (nI D)), some (.int (nI ((xT n σ w - D) / 2))), some (.int (nI ((xT n σ w + D) / 2))), some (.int (bI (xA n σ w ((xT n σ w - D) / 2) u))), some (.int (bI (xA n σ w ((xT n σ w + D) / 2) u))), some (.int (nI (xfs0 n σ w u))), some (.int (nI u)), some (.int (nI (xfs0 n σ w u + xs n σ w u))), some (.int (bI (xcan n σ w (xfs0 n σ w u + xs n σ w u) u ((xT n σ w - D) / 2)))), o12] [.int (bI (xcan n σ w (xfs0 n σ w u + xs n σ w u) u ((xT n σ w + D) / 2)))] M1 (ZP n σ w M) := by
      have yes : ∀ (y : xlead n σ w (xfs0 n σ w u) u) (o : Option Value), P mX10_findSittings 489 [some (.ref 46), some (.int w), some (.int (nI (xT n σ w))), some (.int (nI D)), some (.int (nI ((xT n σ w - D) / 2))), some (.int (nI ((xT n σ w + D) / 2))), some (.int (bI (xA n σ w ((xT n σ w - D) / 2) u))), some (.int (bI (xA n σ w ((xT n σ w + D) / 2) u))), some (.int (nI (xfs0 n σ w u))), some (.int (nI u)), some (.int (nI (xfs0 n σ w u + xs n σ w u))), some (.int (bI (xcan n σ w (xfs0 n σ w u + xs n σ w u) u ((xT n σ w - D) / 2)))), some (.int (bI (xcan n σ w (xfs0 n σ w u + xs n σ w u) u ((xT n σ w + D) / 2))))] [] M1 (ZP n σ w M) := by
        intro y o
        have e1 : xfs0 n σ w (u + 1) = xfs0 n σ w u + xs n σ w u := by rw [xfs0, if_pos y]
        have e2 : xsit n σ w u = 0 := by rw [xsit, if_pos y]
        rw [bI_c (xA_yes e1), bI_c (xA_yes e1)]
        refine P.aload_n (pc := 489) 0 dX10_findSittings_489 rfl rfl ?_
        refine P.getR (pc := 490) fl_X10_54 dX10_findSittings_490 rfl rfl ?_
        refine P.iload (pc := 493) 9 dX10_findSittings_493 rfl ?_
        refine P.iconst (pc := 495) (v := 0) dX10_findSittings_495 (by decide) ?_
        refine P.isN (pc := 496) (u) dX10_findSittings_496 rfl rfl rfl (by first | omega | grind [nT]) ?_
        refine P.iload (pc := 497) 10 dX10_findSittings_497 rfl ?_
        refine P.istore (pc := 499) 8 dX10_findSittings_499 (by decide) rfl ?_
        refine P.iload (pc := 501) 11 dX10_findSittings_501 rfl ?_
        refine P.istore (pc := 503) 6 dX10_findSittings_503 (by decide) rfl ?_
        refine P.iload (pc := 505) 12 dX10_findSittings_505 rfl ?_
        refine P.istore (pc := 507) 7 dX10_findSittings_507 (by decide) rfl ?_
        refine P.goto (pc := 509) 520 dX10_findSittings_509 (by decide) ?_
        refine P.iinc (pc := 520) 9 1 dX10_findSittings_520 rfl (by decide) (by decide) rfl ?_
        rw [nI_1]
        refine P.goto (pc := 523) 376 dX10_findSittings_523 (by decide) ?_
        rw [← e1]
        refine ih (u + 1) _ _ _ _ (by omega) (h1.mv (fun c _ hc => by rw [xw_ap, if_neg hc])) ?_ ?_
        · intro b t a1 a2 a3
          rw [xw_ap, if_neg (by decide)]; exact h2 b t a1 a2 a3
        · intro q hq
          rw [xw_s, upd_ap]
          by_cases z : q = u
          · rw [if_pos z, z]; exact e2.symm
          · rw [if_neg z]; exact h3 q (by omega)
      have no : ∀ (y : ¬ xlead n σ w (xfs0 n σ w u) u), P mX10_findSittings 512 [some (.ref 46), some (.int w), some (.int (nI (xT n σ w))), some (.int (nI D)), some (.int (nI ((xT n σ w - D) / 2))), some (.int (nI ((xT n σ w + D) / 2))), some (.int (bI (xA n σ w ((xT n σ w - D) / 2) u))), some (.int (bI (xA n σ w ((xT n σ w + D) / 2) u))), some (.int (nI (xfs0 n σ w u))), some (.int (nI u)), some (.int (nI (xfs0 n σ w u + xs n σ w u))), some (.int (bI (xcan n σ w (xfs0 n σ w u + xs n σ w u) u ((xT n σ w - D) / 2)))), some (.int (bI (xcan n σ w (xfs0 n σ w u + xs n σ w u) u ((xT n σ w + D) / 2))))] [] M1 (ZP n σ w M) := by
        intro y
        have e1 : xfs0 n σ w (u + 1) = xfs0 n σ w u := by rw [xfs0, if_neg y]
        have e2 : xsit n σ w u = 1 := by rw [xsit, if_neg y]
        have y1 := fun z => y (ql.2 (Or.inl z))
        have y2 := fun z => y (ql.2 (Or.inr z))
        rw [bI_c (xA_no (by omega) e1 y1), bI_c (xA_no (by omega) e1 y2), ← e1]
        refine P.aload_n (pc := 512) 0 dX10_findSittings_512 rfl rfl ?_
        refine P.getR (pc := 513) fl_X10_54 dX10_findSittings_513 rfl rfl ?_
        refine P.iload (pc := 516) 9 dX10_findSittings_516 rfl ?_
        refine P.iconst (pc := 518) (v := 1) dX10_findSittings_518 (by decide) ?_
        refine P.isN (pc := 519) (u) dX10_findSittings_519 rfl rfl rfl (by first | omega | grind [nT]) ?_
        refine P.iinc (pc := 520) 9 1 dX10_findSittings_520 rfl (by decide) (by decide) rfl ?_
        rw [nI_1]
        refine P.goto (pc := 523) 376 dX10_findSittings_523 (by decide) ?_
        refine ih (u + 1) _ _ _ _ (by omega) (h1.mv (fun c _ hc => by rw [xw_ap, if_neg hc])) ?_ ?_
        · intro b t a1 a2 a3
          rw [xw_ap, if_neg (by decide)]; exact h2 b t a1 a2 a3
        · intro q hq
          rw [xw_s, upd_ap]
          by_cases z : q = u
          · rw [if_pos z, z]; exact e2.symm
          · rw [if_neg z]; exact h3 q (by omega)
      refine P.istore (pc := 477) 12 dX10_findSittings_477 (by decide) rfl ?_
      refine P.iload (pc := 479) 11 dX10_findSittings_479 rfl ?_
      refine P.ifneB (pc := 481) 489 dX10_findSittings_481 (by decide) (fun c481 => ?_) (fun c481 => ?_)
      · first | exact yes (ql.2 (Or.inl c481)) none | exact yes (ql.2 (Or.inr c486)) none
      · refine P.iload (pc := 484) 12 dX10_findSittings_484 rfl ?_
        refine P.ifeqB (pc := 486) 512 dX10_findSittings_486 (by decide) (fun c486 => ?_) (fun c486 => ?_)
        · exact no (fun z => (ql.1 z).elim c481 c486)
        · first | exact yes (ql.2 (Or.inl c481)) none | exact yes (ql.2 (Or.inr c486)) none
    have s436 : P mX10_findSittings 436 [some (.ref 46), some (.int w), some (.int (nI (xT n σ w))), some (.int (nI D)), some (.int (nI ((xT n σ w - D) / 2))), some (.int (nI ((xT n σ w + D) / 2))), some (.int (bI (xA n σ w ((xT n σ w - D) / 2) u))), some (.int (bI (xA n σ w ((xT n σ w + D) / 2) u))), some (.int (nI (xfs0 n σ w u))), some (.int (nI u)), some (.int (nI (xfs0 n σ w u + xs n σ w u))), o11, o12] [.int (bI (xcan n σ w (xfs0 n σ w u + xs n σ w u) u ((xT n σ w - D) / 2)))] M1 (ZP n σ w M) := by
      refine P.istore (pc := 436) 11 dX10_findSittings_436 (by decide) rfl ?_
      refine P.iload (pc := 438) 7 dX10_findSittings_438 rfl ?_
      refine P.ifeqB (pc := 440) 476 dX10_findSittings_440 (by decide) (fun c440 => ?_) (fun c440 => ?_)
      · have hv := bI_f (fun z => c440 (xA_can (by omega) z))
        refine P.iconst (pc := 476) (v := 0) dX10_findSittings_476 (by decide) ?_
        rw [hv] at s477
        exact s477
      · refine P.iload (pc := 443) 5 dX10_findSittings_443 rfl ?_
        refine P.iload (pc := 445) 10 dX10_findSittings_445 rfl ?_
        refine P.iclt (pc := 447) 476 dX10_findSittings_447 (by decide) (fun c447 => ?_) (fun c447 => ?_)
        · have hv := bI_f (q := xcan n σ w (xfs0 n σ w u + xs n σ w u) u ((xT n σ w + D) / 2)) (fun z => nI_nlt z.2.1 (by omega) c447)
          refine P.iconst (pc := 476) (v := 0) dX10_findSittings_476 (by decide) ?_
          rw [hv] at s477
          exact s477
        · have l2 := nJ_nlt (by omega) c447
          refine P.aload_n (pc := 450) 0 dX10_findSittings_450 rfl rfl ?_
          refine P.getR (pc := 451) fl_X10_50 dX10_findSittings_451 rfl rfl ?_
          refine P.sipush (pc := 454) (v := 200) dX10_findSittings_454 (by decide) ?_
          refine P.iload (pc := 457) 9 dX10_findSittings_457 rfl ?_
          refine P.iconst (pc := 459) (v := 1) dX10_findSittings_459 (by decide) ?_
          refine P.iadd (pc := 460) dX10_findSittings_460 ?_
          rw [nI_1]
          refine P.imul (pc := 461) dX10_findSittings_461 ?_
          refine P.iload (pc := 462) 5 dX10_findSittings_462 rfl ?_
          refine P.iadd (pc := 464) dX10_findSittings_464 ?_
          rw [nJ_ix]
          refine P.iload (pc := 465) 10 dX10_findSittings_465 rfl ?_
          refine P.isub (pc := 467) dX10_findSittings_467 ?_
          rw [nJ_sb (by omega) (by omega)]
          refine P.zaN (pc := 468) (200 * (u + 1) + (xT n σ w + D) / 2 - (xfs0 n σ w u + xs n σ w u)) dX10_findSittings_468 rfl rfl rfl (by first | omega | grind [nT]) ?_
          rw [show 200 * (u + 1) + (xT n σ w + D) / 2 - (xfs0 n σ w u + xs n σ w u) = 200 * (u + 1) + ((xT n σ w + D) / 2 - (xfs0 n σ w u + xs n σ w u)) by omega, h2 (u + 1) _ (by omega) (by omega) (by omega)]
          refine P.ifeqB (pc := 469) 476 dX10_findSittings_469 (by decide) (fun c469 => ?_) (fun c469 => ?_)
          · have hv := bI_f (q := xcan n σ w (xfs0 n σ w u + xs n σ w u) u ((xT n σ w + D) / 2)) (fun z => c469 z.2.2)
            refine P.iconst (pc := 476) (v := 0) dX10_findSittings_476 (by decide) ?_
            rw [hv] at s477
            exact s477
          · have hv := bI_t (q := xcan n σ w (xfs0 n σ w u + xs n σ w u) u ((xT n σ w + D) / 2)) ⟨c440.1, l2, c469⟩
            refine P.iconst (pc := 472) (v := 1) dX10_findSittings_472 (by decide) ?_
            refine P.goto (pc := 473) 477 dX10_findSittings_473 (by decide) ?_
            rw [hv] at s477
            exact s477
    refine P.iload (pc := 376) 9 dX10_findSittings_376 rfl ?_
    refine P.aload_n (pc := 378) 0 dX10_findSittings_378 rfl rfl ?_
    refine P.getI (pc := 379) fl_X10_185 dX10_findSittings_379 rfl rfl ?_
    rw [hu]
    refine P.icge (pc := 382) 526 dX10_findSittings_382 (by decide) (fun c382 => ?_) (fun c382 => ?_)
    · exact absurd c382 (nI_ge (by omega) (by omega))--.
    · refine P.iload (pc := 385) 8 dX10_findSittings_385 rfl ?_
      refine P.aload_n (pc := 387) 0 dX10_findSittings_387 rfl rfl ?_
      refine P.getR (pc := 388) fl_X10_47 dX10_findSittings_388 rfl rfl ?_
      refine P.iload (pc := 391) 9 dX10_findSittings_391 rfl ?_
      refine P.iaN (pc := 393) (u) dX10_findSittings_393 rfl rfl rfl (by first | omega | grind [nT]) ?_
      rw [hs]
      refine P.iadd (pc := 394) dX10_findSittings_394 ?_
      rw [nI_add]
      refine P.istore (pc := 395) 10 dX10_findSittings_395 (by decide) rfl ?_
      refine P.iload (pc := 397) 6 dX10_findSittings_397 rfl ?_
      refine P.ifeqB (pc := 399) 435 dX10_findSittings_399 (by decide) (fun c399 => ?_) (fun c399 => ?_)
      · have hv := bI_f (fun z => c399 (xA_can (by omega) z))
        refine P.iconst (pc := 435) (v := 0) dX10_findSittings_435 (by decide) ?_
        rw [hv] at s436
        exact s436
      · refine P.iload (pc := 402) 4 dX10_findSittings_402 rfl ?_
        refine P.iload (pc := 404) 10 dX10_findSittings_404 rfl ?_
        refine P.iclt (pc := 406) 435 dX10_findSittings_406 (by decide) (fun c406 => ?_) (fun c406 => ?_)
        · have hv := bI_f (q := xcan n σ w (xfs0 n σ w u + xs n σ w u) u ((xT n σ w - D) / 2)) (fun z => nI_nlt z.2.1 (by omega) c406)
          refine P.iconst (pc := 435) (v := 0) dX10_findSittings_435 (by decide) ?_
          rw [hv] at s436
          exact s436
        · have l2 := nJ_nlt (by omega) c406
          refine P.aload_n (pc := 409) 0 dX10_findSittings_409 rfl rfl ?_
          refine P.getR (pc := 410) fl_X10_50 dX10_findSittings_410 rfl rfl ?_
          refine P.sipush (pc := 413) (v := 200) dX10_findSittings_413 (by decide) ?_
          refine P.iload (pc := 416) 9 dX10_findSittings_416 rfl ?_
          refine P.iconst (pc := 418) (v := 1) dX10_findSittings_418 (by decide) ?_
          refine P.iadd (pc := 419) dX10_findSittings_419 ?_
          rw [nI_1]
          refine P.imul (pc := 420) dX10_findSittings_420 ?_
          refine P.iload (pc := 421) 4 dX10_findSittings_421 rfl ?_
          refine P.iadd (pc := 423) dX10_findSittings_423 ?_
          rw [nJ_ix]
          refine P.iload (pc := 424) 10 dX10_findSittings_424 rfl ?_
          refine P.isub (pc := 426) dX10_findSittings_426 ?_
          rw [nJ_sb (by omega) (by omega)]
          refine P.zaN (pc := 427) (200 * (u + 1) + (xT n σ w - D) / 2 - (xfs0 n σ w u + xs n σ w u)) dX10_findSittings_427 rfl rfl rfl (by first | omega | grind [nT]) ?_
          rw [show 200 * (u + 1) + (xT n σ w - D) / 2 - (xfs0 n σ w u + xs n σ w u) = 200 * (u + 1) + ((xT n σ w - D) / 2 - (xfs0 n σ w u + xs n σ w u)) by omega, h2 (u + 1) _ (by omega) (by omega) (by omega)]
          refine P.ifeqB (pc := 428) 435 dX10_findSittings_428 (by decide) (fun c428 => ?_) (fun c428 => ?_)
          · have hv := bI_f (q := xcan n σ w (xfs0 n σ w u + xs n σ w u) u ((xT n σ w - D) / 2)) (fun z => c428 z.2.2)
            refine P.iconst (pc := 435) (v := 0) dX10_findSittings_435 (by decide) ?_
            rw [hv] at s436
            exact s436
          · have hv := bI_t (q := xcan n σ w (xfs0 n σ w u + xs n σ w u) u ((xT n σ w - D) / 2)) ⟨c399.1, l2, c428⟩
            refine P.iconst (pc := 431) (v := 1) dX10_findSittings_431 (by decide) ?_
            refine P.goto (pc := 432) 436 dX10_findSittings_432 (by decide) ?_
            rw [hv] at s436
            exact s436
