theorem nJ_div {a b : Nat} (ha : a < 1000000) (hb : b < 1000000) (h : 0 < b) : nI a / nI b = nI (a / b) := pk_div (by omega) h (by omega)
theorem nJ_half {a : Nat} (ha : a < 1000000) : nI a / 2 = nI (a / 2) := nJ_div ha (by decide) (by decide)
theorem nJ_ab {T m : Nat} (hT : T ≤ 192) (hm : m ≤ 192) : (if 0 ≤ nI T - 2 * nI m then nI T - 2 * nI m else 0 - (nI T - 2 * nI m)) = nI (xab T m) := by
  rw [show (2 : Int32) * nI m = nI (2 * m) by rw [nlit, pk_mul]]
  unfold xab
  by_cases c : T < 2 * m
  · rw [if_pos c, if_neg (by grind [nT])]; grind [nT]
  · rw [if_neg c, if_pos (by grind [nT])]; exact nJ_sb (by omega) (by omega)
def AR (n : Nat → Nat) (σ : xM) (w : Int32) (M M1 : xM) : Prop := fS M M1 ∧ M1 13 3 = nI (xB' n σ w) ∧ M1 13 4 = nI (xT n σ w) ∧ (∀ q, q < n 1 → (xthere σ w q → M1 14 q = nI (xun σ w q)) ∧ (¬ xthere σ w q → M1 14 q = -1)) ∧
  (∀ b, b < xB' n σ w → M1 16 b = nI (xs n σ w b)) ∧ MF (xs n σ w) (xB' n σ w) (xB' n σ w) (M1 18)
theorem AR.mv {n : Nat → Nat} {σ : xM} {w : Int32} {M M1 M2 : xM} (h : AR n σ w M M1) (h1 : ∀ c, ¬ c = 13 → ¬ c = 17 → M2 c = M1 c) (h2 : ∀ j, ¬ j = 2 → M2 13 j = M1 13 j) : AR n σ w M M2 := by
  obtain ⟨a, b, c, d, e, f⟩ := h
  refine ⟨⟨fun q hq => by rw [h1 q (by omega) (by omega)]; exact a.1 q hq, by rw [h2 0 (by decide)]; exact a.2.1, by rw [h2 1 (by decide)]; exact a.2.2⟩, by rw [h2 3 (by decide)]; exact b, by rw [h2 4 (by decide)]; exact c, ?_, ?_, ?_⟩
  · rw [h1 14 (by decide) (by decide)]; exact d
  · rw [h1 16 (by decide) (by decide)]; exact e
  · rw [h1 18 (by decide) (by decide)]; exact f
theorem MF.all {s : Nat → Nat} {B : Nat} {f : Nat → Int32} (hB : B ≤ 24) (h : MF s B B f) {t : Nat} (ht : t ≤ 192) : rc s B B t ↔ ¬ f t = -1 := by
  obtain ⟨r, q⟩ := h t ht
  rw [q B (Nat.le_refl _), Nat.sub_self]
  rcases r with r | ⟨m, -, m2, r⟩
  · rw [r]; exact ⟨fun z => absurd z (nJ_nle (by omega)), fun z => absurd rfl z⟩
  · rw [r, nJ_le (by omega) (by omega)]; exact ⟨fun _ => nI_ne (by omega), fun _ => Nat.zero_le _⟩
theorem sp_X8_isWay {n : Nat → Nat} {σ M M1 : xM} {w : Int32} (I : Iv n σ) (R : RX n σ M) (h : AR n σ w M M1) {t : Nat} (ht : t ≤ xT n σ w) : SpF mX8_isWay [.ref 13, .int (nI t)] M1 (bI (xway n σ w t)) := by
  have R1 := R.fS h.1
  have e0 : M1 13 0 = σ 13 0 := R1.2.1 (13, 0) (by decide)
  have e1 : M1 13 1 = σ 13 1 := R1.2.1 (13, 1) (by decide)
  have e4 := h.2.2.1
  have T := xT_le I w
  have a := h.2.2.2.2.2.all (xB_le I w) (t := t) (by omega)
  clear I R1 R h
  refine P.aload_n (pc := 0) 0 dX8_isWay_0 rfl rfl ?_
  refine P.getR (pc := 1) fl_X8_42 dX8_isWay_1 rfl rfl ?_
  refine P.iload_n (pc := 4) 1 dX8_isWay_4 rfl rfl ?_
  refine P.iaN (pc := 5) (t) dX8_isWay_5 rfl rfl rfl (by first | omega | grind [nT]) ?_
  refine P.iconst (pc := 6) (v := -1) dX8_isWay_6 (by decide) ?_
  refine P.iceq (pc := 7) 35 dX8_isWay_7 (by decide) (fun c7 => ?_) (fun c7 => ?_)
  · refine P.iconst (pc := 35) (v := 0) dX8_isWay_35 (by decide) ?_
    refine P.zret (pc := 36) dX8_isWay_36 rfl (by decide) ?_
    first | exact xt ⟨a.2 c7, Int32.not_lt.1 c15, Int32.not_lt.1 c28⟩ | exact xf (fun z => a.1 z.1 c7) | exact xf (fun z => Int32.not_le.2 c15 z.2.1) | exact xf (fun z => Int32.not_le.2 c28 z.2.2)
  · refine P.iload_n (pc := 10) 1 dX8_isWay_10 rfl rfl ?_
    refine P.aload_n (pc := 11) 0 dX8_isWay_11 rfl rfl ?_
    refine P.getI (pc := 12) fl_X8_13 dX8_isWay_12 rfl rfl ?_
    rw [e0]
    refine P.icgt (pc := 15) 35 dX8_isWay_15 (by decide) (fun c15 => ?_) (fun c15 => ?_)
    · refine P.iconst (pc := 35) (v := 0) dX8_isWay_35 (by decide) ?_
      refine P.zret (pc := 36) dX8_isWay_36 rfl (by decide) ?_
      first | exact xt ⟨a.2 c7, Int32.not_lt.1 c15, Int32.not_lt.1 c28⟩ | exact xf (fun z => a.1 z.1 c7) | exact xf (fun z => Int32.not_le.2 c15 z.2.1) | exact xf (fun z => Int32.not_le.2 c28 z.2.2)
    · refine P.aload_n (pc := 18) 0 dX8_isWay_18 rfl rfl ?_
      refine P.getI (pc := 19) fl_X8_26 dX8_isWay_19 rfl rfl ?_
      rw [e4]
      refine P.iload_n (pc := 22) 1 dX8_isWay_22 rfl rfl ?_
      refine P.isub (pc := 23) dX8_isWay_23 ?_
      refine P.aload_n (pc := 24) 0 dX8_isWay_24 rfl rfl ?_
      refine P.getI (pc := 25) fl_X8_17 dX8_isWay_25 rfl rfl ?_
      rw [e1]
      refine P.icgt (pc := 28) 35 dX8_isWay_28 (by decide) (fun c28 => ?_) (fun c28 => ?_)
      · refine P.iconst (pc := 35) (v := 0) dX8_isWay_35 (by decide) ?_
        refine P.zret (pc := 36) dX8_isWay_36 rfl (by decide) ?_
        first | exact xt ⟨a.2 c7, Int32.not_lt.1 c15, Int32.not_lt.1 c28⟩ | exact xf (fun z => a.1 z.1 c7) | exact xf (fun z => Int32.not_le.2 c15 z.2.1) | exact xf (fun z => Int32.not_le.2 c28 z.2.2)
      · refine P.iconst (pc := 31) (v := 1) dX8_isWay_31 (by decide) ?_
        refine P.goto (pc := 32) 36 dX8_isWay_32 (by decide) ?_
        refine P.zret (pc := 36) dX8_isWay_36 rfl (by decide) ?_
        first | exact xt ⟨a.2 c7, Int32.not_lt.1 c15, Int32.not_lt.1 c28⟩ | exact xf (fun z => a.1 z.1 c7) | exact xf (fun z => Int32.not_le.2 c15 z.2.1) | exact xf (fun z => Int32.not_le.2 c28 z.2.2)
theorem xdf_no {n : Nat → Nat} {σ : xM} {w : Int32} {m : Nat} (h : ¬ (xway n σ w m ∧ (xdf n σ w m = -1 ∨ nI (xab (xT n σ w) m) < xdf n σ w m))) : xdf n σ w (m + 1) = xdf n σ w m := by rw [xdf, if_neg h]
theorem xdf_yes {n : Nat → Nat} {σ : xM} {w : Int32} {m : Nat} (h : xway n σ w m ∧ (xdf n σ w m = -1 ∨ nI (xab (xT n σ w) m) < xdf n σ w m)) : xdf n σ w (m + 1) = nI (xab (xT n σ w) m) := by rw [xdf, if_pos h]
theorem sp_X8_findDifference {n : Nat → Nat} {σ M M1 : xM} {w : Int32} (I : Iv n σ) (R : RX n σ M) (h : AR n σ w M M1) : SpV mX8_findDifference [.ref 13] M1 (fun M' => (∀ c, ¬ c = 13 → M' c = M1 c) ∧ (∀ j, ¬ j = 2 → M' 13 j = M1 13 j) ∧ M' 13 2 = xdiff n σ w) := by
  have T := xT_le I w
  have lp : ∀ (k m : Nat) (M2 : xM) (o2 : Option Value), m + k = xT n σ w + 1 → (∀ c, ¬ c = 13 → M2 c = M1 c) → (∀ j, ¬ j = 2 → M2 13 j = M1 13 j) → M2 13 2 = xdf n σ w m →
      P mX8_findDifference 7 [some (.ref 13), some (.int (nI m)), o2] [] M2 (fun v M' => v = none ∧ (∀ c, ¬ c = 13 → M' c = M1 c) ∧ (∀ j, ¬ j = 2 → M' 13 j = M1 13 j) ∧ M' 13 2 = xdiff n σ w) := by
    intro k
    induction k with
    | zero =>
      intro m M2 o2 hm h1 h2 h3
      have e4 : M2 13 4 = nI (xT n σ w) := by rw [h2 4 (by decide)]; exact h.2.2.1
      refine P.iload_n (pc := 7) 1 dX8_findDifference_7 rfl rfl ?_
      refine P.aload_n (pc := 8) 0 dX8_findDifference_8 rfl rfl ?_
      refine P.getI (pc := 9) fl_X8_26 dX8_findDifference_9 rfl rfl ?_
      rw [e4]
      refine P.icgt (pc := 12) 62 dX8_findDifference_12 (by decide) (fun c12 => ?_) (fun c12 => ?_)
      · refine P.vret (pc := 62) dX8_findDifference_62 rfl ?_
        exact ⟨rfl, h1, h2, by rw [xdiff, ← show m = xT n σ w + 1 by omega]; exact h3⟩
      · exact absurd (nI_lt (by omega) (by omega)) c12--.
    | succ k ih =>
      intro m M2 o2 hm h1 h2 h3
      have e4 : M2 13 4 = nI (xT n σ w) := by rw [h2 4 (by decide)]; exact h.2.2.1
      have hA : AR n σ w M M2 := h.mv (fun c hc _ => h1 c hc) h2
      refine P.iload_n (pc := 7) 1 dX8_findDifference_7 rfl rfl ?_
      refine P.aload_n (pc := 8) 0 dX8_findDifference_8 rfl rfl ?_
      refine P.getI (pc := 9) fl_X8_26 dX8_findDifference_9 rfl rfl ?_
      rw [e4]
      refine P.icgt (pc := 12) 62 dX8_findDifference_12 (by decide) (fun c12 => ?_) (fun c12 => ?_)
      · exact absurd c12 (nI_nlt (by omega) (by omega))--.
      · refine P.aload_n (pc := 15) 0 dX8_findDifference_15 rfl rfl ?_
        refine P.getI (pc := 16) fl_X8_26 dX8_findDifference_16 rfl rfl ?_
        rw [e4]
        refine P.iconst (pc := 19) (v := 2) dX8_findDifference_19 (by decide) ?_
        refine P.iload_n (pc := 20) 1 dX8_findDifference_20 rfl rfl ?_
        refine P.imul (pc := 21) dX8_findDifference_21 ?_
        refine P.isub (pc := 22) dX8_findDifference_22 ?_
        refine P.mabs (pc := 23) pr_X8_85 dX8_findDifference_23 rfl (by decide) ?_
        rw [nJ_ab T (by omega)]
        refine P.istore_n (pc := 26) 2 dX8_findDifference_26 rfl (by decide) rfl ?_
        refine P.aload_n (pc := 27) 0 dX8_findDifference_27 rfl rfl ?_
        refine P.iload_n (pc := 28) 1 dX8_findDifference_28 rfl rfl ?_
        refine P.V1F (pc := 29) cs_X8_findDifference_90 dX8_findDifference_29 rfl rfl rfl (sp_X8_isWay I R hA (by omega)) ?_
        refine P.ifeqB (pc := 32) 56 dX8_findDifference_32 (by decide) (fun c32 => ?_) (fun c32 => ?_)
        · refine P.iinc (pc := 56) 1 1 dX8_findDifference_56 rfl (by decide) (by decide) rfl ?_
          rw [nI_1]
          refine P.goto (pc := 59) 7 dX8_findDifference_59 (by decide) ?_
          refine ih (m + 1) _ _ (by omega) (fun c hc => ?_) (fun j hj => ?_) ?_
          · first | exact h1 c hc | (rw [xw_ap, if_neg hc]; exact h1 c hc)
          · first | exact h2 j hj | (rw [xw_s, upd_ap, if_neg hj]; exact h2 j hj)
          · first
            | exact h3.trans (xdf_no (fun z => c32 z.1)).symm
            | exact h3.trans (xdf_no (fun z => z.2.elim c40 (fun e => absurd c48 (Int32.not_le.2 e)))).symm
            | (rw [xw_s, upd_ap, if_pos rfl]; exact (xdf_yes ⟨c32, Or.inl c40⟩).symm)
            | (rw [xw_s, upd_ap, if_pos rfl]; exact (xdf_yes ⟨c32, Or.inr (Int32.not_le.1 c48)⟩).symm)
        · refine P.aload_n (pc := 35) 0 dX8_findDifference_35 rfl rfl ?_
          refine P.getI (pc := 36) fl_X8_20 dX8_findDifference_36 rfl rfl ?_
          rw [h3]
          refine P.iconst (pc := 39) (v := -1) dX8_findDifference_39 (by decide) ?_
          refine P.iceq (pc := 40) 51 dX8_findDifference_40 (by decide) (fun c40 => ?_) (fun c40 => ?_)
          · refine P.aload_n (pc := 51) 0 dX8_findDifference_51 rfl rfl ?_
            refine P.iload_n (pc := 52) 2 dX8_findDifference_52 rfl rfl ?_
            refine P.put (pc := 53) fp_X8_20 dX8_findDifference_53 rfl rfl ?_
            refine P.iinc (pc := 56) 1 1 dX8_findDifference_56 rfl (by decide) (by decide) rfl ?_
            rw [nI_1]
            refine P.goto (pc := 59) 7 dX8_findDifference_59 (by decide) ?_
            refine ih (m + 1) _ _ (by omega) (fun c hc => ?_) (fun j hj => ?_) ?_
            · first | exact h1 c hc | (rw [xw_ap, if_neg hc]; exact h1 c hc)
            · first | exact h2 j hj | (rw [xw_s, upd_ap, if_neg hj]; exact h2 j hj)
            · first
              | exact h3.trans (xdf_no (fun z => c32 z.1)).symm
              | exact h3.trans (xdf_no (fun z => z.2.elim c40 (fun e => absurd c48 (Int32.not_le.2 e)))).symm
              | (rw [xw_s, upd_ap, if_pos rfl]; exact (xdf_yes ⟨c32, Or.inl c40⟩).symm)
              | (rw [xw_s, upd_ap, if_pos rfl]; exact (xdf_yes ⟨c32, Or.inr (Int32.not_le.1 c48)⟩).symm)
          · refine P.iload_n (pc := 43) 2 dX8_findDifference_43 rfl rfl ?_
            refine P.aload_n (pc := 44) 0 dX8_findDifference_44 rfl rfl ?_
            refine P.getI (pc := 45) fl_X8_20 dX8_findDifference_45 rfl rfl ?_
            rw [h3]
            refine P.icge (pc := 48) 56 dX8_findDifference_48 (by decide) (fun c48 => ?_) (fun c48 => ?_)
            · refine P.iinc (pc := 56) 1 1 dX8_findDifference_56 rfl (by decide) (by decide) rfl ?_
              rw [nI_1]
              refine P.goto (pc := 59) 7 dX8_findDifference_59 (by decide) ?_
              refine ih (m + 1) _ _ (by omega) (fun c hc => ?_) (fun j hj => ?_) ?_
              · first | exact h1 c hc | (rw [xw_ap, if_neg hc]; exact h1 c hc)
              · first | exact h2 j hj | (rw [xw_s, upd_ap, if_neg hj]; exact h2 j hj)
              · first
                | exact h3.trans (xdf_no (fun z => c32 z.1)).symm
                | exact h3.trans (xdf_no (fun z => z.2.elim c40 (fun e => absurd c48 (Int32.not_le.2 e)))).symm
                | (rw [xw_s, upd_ap, if_pos rfl]; exact (xdf_yes ⟨c32, Or.inl c40⟩).symm)
                | (rw [xw_s, upd_ap, if_pos rfl]; exact (xdf_yes ⟨c32, Or.inr (Int32.not_le.1 c48)⟩).symm)
            · refine P.aload_n (pc := 51) 0 dX8_findDifference_51 rfl rfl ?_
              refine P.iload_n (pc := 52) 2 dX8_findDifference_52 rfl rfl ?_
              refine P.put (pc := 53) fp_X8_20 dX8_findDifference_53 rfl rfl ?_
              refine P.iinc (pc := 56) 1 1 dX8_findDifference_56 rfl (by decide) (by decide) rfl ?_
              rw [nI_1]
              refine P.goto (pc := 59) 7 dX8_findDifference_59 (by decide) ?_
              refine ih (m + 1) _ _ (by omega) (fun c hc => ?_) (fun j hj => ?_) ?_
              · first | exact h1 c hc | (rw [xw_ap, if_neg hc]; exact h1 c hc)
              · first | exact h2 j hj | (rw [xw_s, upd_ap, if_neg hj]; exact h2 j hj)
              · first
                | exact h3.trans (xdf_no (fun z => c32 z.1)).symm
                | exact h3.trans (xdf_no (fun z => z.2.elim c40 (fun e => absurd c48 (Int32.not_le.2 e)))).symm
                | (rw [xw_s, upd_ap, if_pos rfl]; exact (xdf_yes ⟨c32, Or.inl c40⟩).symm)
                | (rw [xw_s, upd_ap, if_pos rfl]; exact (xdf_yes ⟨c32, Or.inr (Int32.not_le.1 c48)⟩).symm)
  refine P.aload_n (pc := 0) 0 dX8_findDifference_0 rfl rfl ?_
  refine P.iconst (pc := 1) (v := -1) dX8_findDifference_1 (by decide) ?_
  refine P.put (pc := 2) fp_X8_20 dX8_findDifference_2 rfl rfl ?_
  refine P.iconst (pc := 5) (v := 0) dX8_findDifference_5 (by decide) ?_
  refine P.istore_n (pc := 6) 1 dX8_findDifference_6 rfl (by decide) rfl ?_
  refine lp (xT n σ w + 1) 0 _ _ (by omega) (fun c hc => ?_) (fun j hj => ?_) ?_
  · rw [xw_ap, if_neg hc]
  · rw [xw_s, upd_ap, if_neg hj]
  · rw [xw_s, upd_ap, if_pos rfl]; rfl
theorem sp_X8_canBecome {n : Nat → Nat} {σ M M1 : xM} {w : Int32} (I : Iv n σ) (R : RX n σ M) (h : AR n σ w M M1) {f v b : Nat} (hf : f ≤ xT n σ w) (hv : v ≤ xT n σ w) (hb : b < xB' n σ w) : SpF mX8_canBecome [.ref 13, .int (nI f), .int (nI v), .int (nI (b + 1))] M1 (bI (xcan n σ w f b v)) := by
  have T := xT_le I w
  have B := xB_le I w
  have a := (h.2.2.2.2.2 (v - f) (by omega)).2 (xB' n σ w - (b + 1)) (by omega)
  rw [show xB' n σ w - (xB' n σ w - (b + 1)) = b + 1 by omega] at a
  refine P.iload_n (pc := 0) 1 dX8_canBecome_0 rfl rfl ?_
  refine P.iload_n (pc := 1) 2 dX8_canBecome_1 rfl rfl ?_
  refine P.icgt (pc := 2) 29 dX8_canBecome_2 (by decide) (fun c2 => ?_) (fun c2 => ?_)
  · have no : ¬ f ≤ v := fun z => absurd c2 (nI_nlt z (by omega))
    refine P.iconst (pc := 29) (v := 0) dX8_canBecome_29 (by decide) ?_
    refine P.zret (pc := 30) dX8_canBecome_30 rfl (by decide) ?_
    first | exact xt ⟨c10, yes, a.2 (Int32.not_lt.1 c22)⟩ | exact xf (fun z => no z.2.1) | exact xf (fun z => c10 z.1) | exact xf (fun z => Int32.not_le.2 c22 (a.1 z.2.2))
  · have yes : f ≤ v := by rcases Nat.lt_or_ge v f with z | z; exact absurd (nI_lt z (by omega)) c2; exact z
    refine P.aload_n (pc := 5) 0 dX8_canBecome_5 rfl rfl ?_
    refine P.iload_n (pc := 6) 2 dX8_canBecome_6 rfl rfl ?_
    refine P.V1F (pc := 7) cs_X8_canBecome_90 dX8_canBecome_7 rfl rfl rfl (sp_X8_isWay I R h hv) ?_
    refine P.ifeqB (pc := 10) 29 dX8_canBecome_10 (by decide) (fun c10 => ?_) (fun c10 => ?_)
    · refine P.iconst (pc := 29) (v := 0) dX8_canBecome_29 (by decide) ?_
      refine P.zret (pc := 30) dX8_canBecome_30 rfl (by decide) ?_
      first | exact xt ⟨c10, yes, a.2 (Int32.not_lt.1 c22)⟩ | exact xf (fun z => no z.2.1) | exact xf (fun z => c10 z.1) | exact xf (fun z => Int32.not_le.2 c22 (a.1 z.2.2))
    · refine P.aload_n (pc := 13) 0 dX8_canBecome_13 rfl rfl ?_
      refine P.getR (pc := 14) fl_X8_42 dX8_canBecome_14 rfl rfl ?_
      refine P.iload_n (pc := 17) 2 dX8_canBecome_17 rfl rfl ?_
      refine P.iload_n (pc := 18) 1 dX8_canBecome_18 rfl rfl ?_
      refine P.isub (pc := 19) dX8_canBecome_19 ?_
      refine P.iaN (pc := 20) (v - f) dX8_canBecome_20 rfl rfl (nJ_sb (by omega) yes) (by first | omega | grind [nT]) ?_
      refine P.iload_n (pc := 21) 3 dX8_canBecome_21 rfl rfl ?_
      refine P.iclt (pc := 22) 29 dX8_canBecome_22 (by decide) (fun c22 => ?_) (fun c22 => ?_)
      · refine P.iconst (pc := 29) (v := 0) dX8_canBecome_29 (by decide) ?_
        refine P.zret (pc := 30) dX8_canBecome_30 rfl (by decide) ?_
        first | exact xt ⟨c10, yes, a.2 (Int32.not_lt.1 c22)⟩ | exact xf (fun z => no z.2.1) | exact xf (fun z => c10 z.1) | exact xf (fun z => Int32.not_le.2 c22 (a.1 z.2.2))
      · refine P.iconst (pc := 25) (v := 1) dX8_canBecome_25 (by decide) ?_
        refine P.goto (pc := 26) 30 dX8_canBecome_26 (by decide) ?_
        refine P.zret (pc := 30) dX8_canBecome_30 rfl (by decide) ?_
        first | exact xt ⟨c10, yes, a.2 (Int32.not_lt.1 c22)⟩ | exact xf (fun z => no z.2.1) | exact xf (fun z => c10 z.1) | exact xf (fun z => Int32.not_le.2 c22 (a.1 z.2.2))
theorem sp_X8_leadsToBest {n : Nat → Nat} {σ M M1 : xM} {w : Int32} (I : Iv n σ) (R : RX n σ M) (h : AR n σ w M M1) (hd : M1 13 2 = xdiff n σ w) {f b : Nat} (hf : f + xs n σ w b ≤ xT n σ w) (hb : b < xB' n σ w) : SpF mX8_leadsToBest [.ref 13, .int (nI (f + xs n σ w b)), .int (nI (b + 1))] M1 (bI (xlead n σ w f b)) := by
  have T := xT_le I w
  have e4 := h.2.2.1
  rcases xdf_in (n := n) (σ := σ) (w := w) (xT n σ w + 1) (Nat.le_refl _) with e | ⟨D, hD, e⟩
  · have e : xdiff n σ w = -1 := e
    rw [e] at hd
    refine P.aload_n (pc := 0) 0 dX8_leadsToBest_0 rfl rfl ?_
    refine P.getI (pc := 1) fl_X8_20 dX8_leadsToBest_1 rfl rfl ?_
    refine P.iconst (pc := 4) (v := -1) dX8_leadsToBest_4 (by decide) ?_
    refine P.iceq (pc := 5) 52 dX8_leadsToBest_5 (by decide) (fun c5 => ?_) (fun c5 => ?_)
    · refine P.iconst (pc := 52) (v := 0) dX8_leadsToBest_52 (by decide) ?_
      refine P.zret (pc := 53) dX8_leadsToBest_53 rfl (by decide) ?_
      exact xf (fun z => z.1 e)
    · exact absurd hd c5--.
  · have e : xdiff n σ w = nI D := e
    have ne : ¬ xdiff n σ w = -1 := by rw [e]; exact nI_ne (by omega)
    have cl : (xdiff n σ w).toNatClampNeg = D := by rw [e, nI_clamp (by omega)]
    rw [e] at hd
    have q : xlead n σ w f b ↔ (xcan n σ w (f + xs n σ w b) b ((xT n σ w - D) / 2) ∨ xcan n σ w (f + xs n σ w b) b ((xT n σ w + D) / 2)) := by rw [xlead, cl]; exact ⟨fun z => z.2, fun z => ⟨ne, z⟩⟩
    rw [bI_c q]
    refine P.aload_n (pc := 0) 0 dX8_leadsToBest_0 rfl rfl ?_
    refine P.getI (pc := 1) fl_X8_20 dX8_leadsToBest_1 rfl rfl ?_
    refine P.iconst (pc := 4) (v := -1) dX8_leadsToBest_4 (by decide) ?_
    refine P.iceq (pc := 5) 52 dX8_leadsToBest_5 (by decide) (fun c5 => ?_) (fun c5 => ?_)
    · exact absurd (hd.symm.trans c5) (nI_ne (by omega))--.
    · refine P.aload_n (pc := 8) 0 dX8_leadsToBest_8 rfl rfl ?_
      refine P.iload_n (pc := 9) 1 dX8_leadsToBest_9 rfl rfl ?_
      refine P.aload_n (pc := 10) 0 dX8_leadsToBest_10 rfl rfl ?_
      refine P.getI (pc := 11) fl_X8_26 dX8_leadsToBest_11 rfl rfl ?_
      rw [e4]
      refine P.aload_n (pc := 14) 0 dX8_leadsToBest_14 rfl rfl ?_
      refine P.getI (pc := 15) fl_X8_20 dX8_leadsToBest_15 rfl rfl ?_
      rw [hd]
      refine P.isub (pc := 18) dX8_leadsToBest_18 ?_
      rw [nJ_sb (by omega) hD]
      refine P.iconst (pc := 19) (v := 2) dX8_leadsToBest_19 (by decide) ?_
      refine P.idiv (pc := 20) dX8_leadsToBest_20 (by decide) ?_
      rw [nJ_half (by omega)]
      refine P.iload_n (pc := 21) 2 dX8_leadsToBest_21 rfl rfl ?_
      refine P.V3F (pc := 22) cs_X8_leadsToBest_97 dX8_leadsToBest_22 rfl rfl rfl (sp_X8_canBecome I R h hf (by omega) hb) ?_
      refine P.ifneB (pc := 25) 48 dX8_leadsToBest_25 (by decide) (fun c25 => ?_) (fun c25 => ?_)
      · refine P.iconst (pc := 48) (v := 1) dX8_leadsToBest_48 (by decide) ?_
        refine P.goto (pc := 49) 53 dX8_leadsToBest_49 (by decide) ?_
        refine P.zret (pc := 53) dX8_leadsToBest_53 rfl (by decide) ?_
        first | exact xt (Or.inl c25) | exact xt (Or.inr c45) | exact xf (fun z => z.elim c25 c45)
      · refine P.aload_n (pc := 28) 0 dX8_leadsToBest_28 rfl rfl ?_
        refine P.iload_n (pc := 29) 1 dX8_leadsToBest_29 rfl rfl ?_
        refine P.aload_n (pc := 30) 0 dX8_leadsToBest_30 rfl rfl ?_
        refine P.getI (pc := 31) fl_X8_26 dX8_leadsToBest_31 rfl rfl ?_
        rw [e4]
        refine P.aload_n (pc := 34) 0 dX8_leadsToBest_34 rfl rfl ?_
        refine P.getI (pc := 35) fl_X8_20 dX8_leadsToBest_35 rfl rfl ?_
        rw [hd]
        refine P.iadd (pc := 38) dX8_leadsToBest_38 ?_
        rw [nI_add]
        refine P.iconst (pc := 39) (v := 2) dX8_leadsToBest_39 (by decide) ?_
        refine P.idiv (pc := 40) dX8_leadsToBest_40 (by decide) ?_
        rw [nJ_half (by omega)]
        refine P.iload_n (pc := 41) 2 dX8_leadsToBest_41 rfl rfl ?_
        refine P.V3F (pc := 42) cs_X8_leadsToBest_97 dX8_leadsToBest_42 rfl rfl rfl (sp_X8_canBecome I R h hf (by omega) hb) ?_
        refine P.ifeqB (pc := 45) 52 dX8_leadsToBest_45 (by decide) (fun c45 => ?_) (fun c45 => ?_)
        · refine P.iconst (pc := 52) (v := 0) dX8_leadsToBest_52 (by decide) ?_
          refine P.zret (pc := 53) dX8_leadsToBest_53 rfl (by decide) ?_
          first | exact xt (Or.inl c25) | exact xt (Or.inr c45) | exact xf (fun z => z.elim c25 c45)
        · refine P.iconst (pc := 48) (v := 1) dX8_leadsToBest_48 (by decide) ?_
          refine P.goto (pc := 49) 53 dX8_leadsToBest_49 (by decide) ?_
          refine P.zret (pc := 53) dX8_leadsToBest_53 rfl (by decide) ?_
          first | exact xt (Or.inl c25) | exact xt (Or.inr c45) | exact xf (fun z => z.elim c25 c45)
theorem xfs0_le {n : Nat → Nat} {σ : xM} {w : Int32} : ∀ b, xfs0 n σ w b ≤ nsum (xs n σ w) b
  | 0 => Nat.le_refl _
  | b + 1 => by
    have := xfs0_le (n := n) (σ := σ) (w := w) b
    rw [xfs0, nsum]
    by_cases e : xlead n σ w (xfs0 n σ w b) b
    · rw [if_pos e]; omega
    · rw [if_neg e]; omega
theorem nsum_mono (f : Nat → Nat) (a : Nat) : ∀ k, nsum f a ≤ nsum f (a + k)
  | 0 => Nat.le_refl _
  | k + 1 => by
    have := nsum_mono f a k
    rw [← Nat.add_assoc, nsum]; omega
theorem xfs0_T {n : Nat → Nat} {σ : xM} {w : Int32} {b : Nat} (hb : b < xB' n σ w) : xfs0 n σ w b + xs n σ w b ≤ xT n σ w := by
  have h1 := xfs0_le (n := n) (σ := σ) (w := w) b
  have h2 := nsum_mono (xs n σ w) (b + 1) (xB' n σ w - (b + 1))
  rw [show b + 1 + (xB' n σ w - (b + 1)) = xB' n σ w by omega, xs_sum, nsum] at h2
  omega
theorem sp_X8_partBenches {n : Nat → Nat} {σ M M1 : xM} {w : Int32} (I : Iv n σ) (R : RX n σ M) (h : AR n σ w M M1) (hd : M1 13 2 = xdiff n σ w) : SpV mX8_partBenches [.ref 13] M1 (fun M' => (∀ c, ¬ c = 17 → M' c = M1 c) ∧ ∀ q, q < xB' n σ w → M' 17 q = xsit n σ w q) := by
  have T := xT_le I w
  have B := xB_le I w
  have lp : ∀ (k b : Nat) (M2 : xM) (o3 : Option Value), b + k = xB' n σ w → (∀ c, ¬ c = 17 → M2 c = M1 c) → (∀ q, q < b → M2 17 q = xsit n σ w q) →
      P mX8_partBenches 4 [some (.ref 13), some (.int (nI (xfs0 n σ w b))), some (.int (nI b)), o3] [] M2 (fun v M' => v = none ∧ (∀ c, ¬ c = 17 → M' c = M1 c) ∧ ∀ q, q < xB' n σ w → M' 17 q = xsit n σ w q) := by
    intro k
    induction k with
    | zero =>
      intro b M2 o3 hb h1 h2
      have e3 : M2 13 3 = nI (xB' n σ w) := by rw [h1 13 (by decide)]; exact h.2.1
      refine P.iload_n (pc := 4) 2 dX8_partBenches_4 rfl rfl ?_
      refine P.aload_n (pc := 5) 0 dX8_partBenches_5 rfl rfl ?_
      refine P.getI (pc := 6) fl_X8_23 dX8_partBenches_6 rfl rfl ?_
      rw [e3]
      refine P.icge (pc := 9) 57 dX8_partBenches_9 (by decide) (fun c9 => ?_) (fun c9 => ?_)
      · refine P.vret (pc := 57) dX8_partBenches_57 rfl ?_
        exact ⟨rfl, h1, fun q hq => h2 q (by omega)⟩
      · exact absurd (nI_le (by omega) (by omega)) c9--.
    | succ k ih =>
      intro b M2 o3 hb h1 h2
      have e3 : M2 13 3 = nI (xB' n σ w) := by rw [h1 13 (by decide)]; exact h.2.1
      have es : M2 16 b = nI (xs n σ w b) := by rw [h1 16 (by decide)]; exact h.2.2.2.2.1 b (by omega)
      have hA : AR n σ w M M2 := h.mv (fun c _ hc => h1 c hc) (fun j _ => by rw [h1 13 (by decide)])
      have hd2 : M2 13 2 = xdiff n σ w := by rw [h1 13 (by decide)]; exact hd
      have le := xfs0_T (n := n) (σ := σ) (w := w) (b := b) (by omega)
      refine P.iload_n (pc := 4) 2 dX8_partBenches_4 rfl rfl ?_
      refine P.aload_n (pc := 5) 0 dX8_partBenches_5 rfl rfl ?_
      refine P.getI (pc := 6) fl_X8_23 dX8_partBenches_6 rfl rfl ?_
      rw [e3]
      refine P.icge (pc := 9) 57 dX8_partBenches_9 (by decide) (fun c9 => ?_) (fun c9 => ?_)
      · exact absurd c9 (nI_ge (by omega) (by omega))--.
      · refine P.iload_n (pc := 12) 1 dX8_partBenches_12 rfl rfl ?_
        refine P.aload_n (pc := 13) 0 dX8_partBenches_13 rfl rfl ?_
        refine P.getR (pc := 14) fl_X8_36 dX8_partBenches_14 rfl rfl ?_
        refine P.iload_n (pc := 17) 2 dX8_partBenches_17 rfl rfl ?_
        refine P.iaN (pc := 18) (b) dX8_partBenches_18 rfl rfl rfl (by first | omega | grind [nT]) ?_
        rw [es]
        refine P.iadd (pc := 19) dX8_partBenches_19 ?_
        rw [nI_add]
        refine P.istore_n (pc := 20) 3 dX8_partBenches_20 rfl (by decide) rfl ?_
        refine P.aload_n (pc := 21) 0 dX8_partBenches_21 rfl rfl ?_
        refine P.iload_n (pc := 22) 3 dX8_partBenches_22 rfl rfl ?_
        refine P.iload_n (pc := 23) 2 dX8_partBenches_23 rfl rfl ?_
        refine P.iconst (pc := 24) (v := 1) dX8_partBenches_24 (by decide) ?_
        refine P.iadd (pc := 25) dX8_partBenches_25 ?_
        rw [nI_1]
        refine P.V2F (pc := 26) cs_X8_partBenches_94 dX8_partBenches_26 rfl rfl rfl (sp_X8_leadsToBest I R hA hd2 le (by omega)) ?_
        refine P.ifeqB (pc := 29) 44 dX8_partBenches_29 (by decide) (fun c29 => ?_) (fun c29 => ?_)
        · have e0 : xfs0 n σ w (b + 1) = xfs0 n σ w b := by rw [xfs0, if_neg c29]
          have e5 : xsit n σ w b = 1 := by rw [xsit, if_neg c29]
          rw [← e0]
          refine P.aload_n (pc := 44) 0 dX8_partBenches_44 rfl rfl ?_
          refine P.getR (pc := 45) fl_X8_39 dX8_partBenches_45 rfl rfl ?_
          refine P.iload_n (pc := 48) 2 dX8_partBenches_48 rfl rfl ?_
          refine P.iconst (pc := 49) (v := 1) dX8_partBenches_49 (by decide) ?_
          refine P.isN (pc := 50) (b) dX8_partBenches_50 rfl rfl rfl (by first | omega | grind [nT]) ?_
          refine P.iinc (pc := 51) 2 1 dX8_partBenches_51 rfl (by decide) (by decide) rfl ?_
          rw [nI_1]
          refine P.goto (pc := 54) 4 dX8_partBenches_54 (by decide) ?_
          refine ih (b + 1) _ _ (by omega) (fun c hc => ?_) (fun q hq => ?_)
          · rw [xw_ap, if_neg hc]; exact h1 c hc
          · rw [xw_s, upd_ap]
            by_cases z : q = b
            · rw [if_pos z, z]; exact e5.symm
            · rw [if_neg z]; exact h2 q (by omega)
        · have e0 : xfs0 n σ w (b + 1) = xfs0 n σ w b + xs n σ w b := by rw [xfs0, if_pos c29]
          have e5 : xsit n σ w b = 0 := by rw [xsit, if_pos c29]
          rw [← e0]
          refine P.aload_n (pc := 32) 0 dX8_partBenches_32 rfl rfl ?_
          refine P.getR (pc := 33) fl_X8_39 dX8_partBenches_33 rfl rfl ?_
          refine P.iload_n (pc := 36) 2 dX8_partBenches_36 rfl rfl ?_
          refine P.iconst (pc := 37) (v := 0) dX8_partBenches_37 (by decide) ?_
          refine P.isN (pc := 38) (b) dX8_partBenches_38 rfl rfl rfl (by first | omega | grind [nT]) ?_
          refine P.iload_n (pc := 39) 3 dX8_partBenches_39 rfl rfl ?_
          refine P.istore_n (pc := 40) 1 dX8_partBenches_40 rfl (by decide) rfl ?_
          refine P.goto (pc := 41) 51 dX8_partBenches_41 (by decide) ?_
          refine P.iinc (pc := 51) 2 1 dX8_partBenches_51 rfl (by decide) (by decide) rfl ?_
          rw [nI_1]
          refine P.goto (pc := 54) 4 dX8_partBenches_54 (by decide) ?_
          refine ih (b + 1) _ _ (by omega) (fun c hc => ?_) (fun q hq => ?_)
          · rw [xw_ap, if_neg hc]; exact h1 c hc
          · rw [xw_s, upd_ap]
            by_cases z : q = b
            · rw [if_pos z, z]; exact e5.symm
            · rw [if_neg z]; exact h2 q (by omega)
  refine P.iconst (pc := 0) (v := 0) dX8_partBenches_0 (by decide) ?_
  refine P.istore_n (pc := 1) 1 dX8_partBenches_1 rfl (by decide) rfl ?_
  refine P.iconst (pc := 2) (v := 0) dX8_partBenches_2 (by decide) ?_
  refine P.istore_n (pc := 3) 2 dX8_partBenches_3 rfl (by decide) rfl ?_
  refine lp (xB' n σ w) 0 _ _ (by omega) (fun c _ => rfl) (fun q hq => by omega)
def AA (n : Nat → Nat) (σ : xM) (w : Int32) (M M1 : xM) : Prop := AR n σ w M M1 ∧ M1 13 2 = xdiff n σ w ∧ ∀ q, q < xB' n σ w → M1 17 q = xsit n σ w q
theorem sp_X8_arrange {n : Nat → Nat} {σ M : xM} (I : Iv n σ) (R : RX n σ M) (w : Int32) : SpV mX8_arrange [.ref 13, .ref 5, .int w] M (AA n σ w M) := by
  have T := xT_le I w
  have B := xB_le I w
  refine P.aload_n (pc := 0) 0 dX8_arrange_0 rfl rfl ?_
  refine P.aload_n (pc := 1) 1 dX8_arrange_1 rfl rfl ?_
  refine P.iload_n (pc := 2) 2 dX8_arrange_2 rfl rfl ?_
  refine P.V2V (pc := 3) cs_X8_arrange_49 dX8_arrange_3 rfl rfl rfl (sp_X8_fillBenches I R w) (fun M3 h3 => ?_)
  obtain ⟨f1, f2, f3, f4, -, -, f7⟩ := h3
  refine P.aload_n (pc := 6) 0 dX8_arrange_6 rfl rfl ?_
  refine P.V0V (pc := 7) cs_X8_arrange_53 dX8_arrange_7 rfl rfl rfl (sp_X8_findNumbers (s := xs n σ w) (B := xB' n σ w) f2 B (fun b hb => f7 b hb) (fun b hb => xsz_pos I _ (Nat.le_refl _) hb) (by rw [xs_sum]; exact T)) (fun M7 h7 => ?_)
  obtain ⟨g1, g2⟩ := h7
  have hA : AR n σ w M M7 := ⟨⟨fun c hc => by rw [g1 c (by omega)]; exact f1.1 c hc, by rw [g1 13 (by decide)]; exact f1.2.1, by rw [g1 13 (by decide)]; exact f1.2.2⟩, by rw [g1 13 (by decide)]; exact f2, by rw [g1 13 (by decide)]; exact f3, by rw [g1 14 (by decide)]; exact f4, by rw [g1 16 (by decide)]; exact f7, g2⟩
  refine P.aload_n (pc := 10) 0 dX8_arrange_10 rfl rfl ?_
  refine P.V0V (pc := 11) cs_X8_arrange_56 dX8_arrange_11 rfl rfl rfl (sp_X8_findDifference I R hA) (fun M11 h11 => ?_)
  have hB := hA.mv (fun c hc _ => h11.1 c hc) h11.2.1
  refine P.aload_n (pc := 14) 0 dX8_arrange_14 rfl rfl ?_
  refine P.V0V (pc := 15) cs_X8_arrange_59 dX8_arrange_15 rfl rfl rfl (sp_X8_partBenches I R hB h11.2.2) (fun M15 h15 => ?_)
  refine P.vret (pc := 18) dX8_arrange_18 rfl ?_
  exact ⟨rfl, hB.mv (fun c _ hc => h15.1 c hc) (fun j _ => by rw [h15.1 13 (by decide)]), by rw [h15.1 13 (by decide)]; exact h11.2.2, h15.2⟩
