theorem sp_X4_isThere (M : xM) {p : Nat} (hp : p < 24) (w : Int32) : SpF mX4_isThere [.ref 5, .int (nI p), .int w] M (bI (xthere M w p)) := by
  refine P.aload_n (pc := 0) 0 dX4_isThere_0 rfl rfl ?_
  refine P.iload_n (pc := 1) 1 dX4_isThere_1 rfl rfl ?_
  refine P.V1F (pc := 2) cs_X4_isThere_51 dX4_isThere_2 rfl rfl rfl (sp_X4_isLodged _ hp) ?_
  refine P.ifeqB (pc := 5) 31 dX4_isThere_5 (by decide) (fun c5 => ?_) (fun c5 => ?_)
  · refine P.iconst (pc := 31) (v := 0) dX4_isThere_31 (by decide) ?_
    refine P.zret (pc := 32) dX4_isThere_32 rfl (by decide) ?_
    first | exact xt ⟨by assumption, by grind, by grind⟩ | exact xf (by unfold xthere; grind)
  · refine P.iload_n (pc := 8) 2 dX4_isThere_8 rfl rfl ?_
    refine P.aload_n (pc := 9) 0 dX4_isThere_9 rfl rfl ?_
    refine P.getR (pc := 10) fl_X4_18 dX4_isThere_10 rfl rfl ?_
    refine P.iload_n (pc := 13) 1 dX4_isThere_13 rfl rfl ?_
    refine P.iaN (pc := 14) _ dX4_isThere_14 rfl rfl rfl (by first | omega | grind [nT]) ?_
    refine P.aload_n (pc := 15) 0 dX4_isThere_15 rfl rfl ?_
    refine P.getR (pc := 16) fl_X4_21 dX4_isThere_16 rfl rfl ?_
    refine P.iload_n (pc := 19) 1 dX4_isThere_19 rfl rfl ?_
    refine P.iaN (pc := 20) _ dX4_isThere_20 rfl rfl rfl (by first | omega | grind [nT]) ?_
    refine P.N3F (pc := 21) cs_X4_isThere_43 dX4_isThere_21 rfl rfl (sp_X9_within _ _ _ _) ?_
    refine P.ifeqB (pc := 24) 31 dX4_isThere_24 (by decide) (fun c24 => ?_) (fun c24 => ?_)
    · refine P.iconst (pc := 31) (v := 0) dX4_isThere_31 (by decide) ?_
      refine P.zret (pc := 32) dX4_isThere_32 rfl (by decide) ?_
      first | exact xt ⟨by assumption, by grind, by grind⟩ | exact xf (by unfold xthere; grind)
    · refine P.iconst (pc := 27) (v := 1) dX4_isThere_27 (by decide) ?_
      refine P.goto (pc := 28) 32 dX4_isThere_28 (by decide) ?_
      refine P.zret (pc := 32) dX4_isThere_32 rfl (by decide) ?_
      first | exact xt ⟨by assumption, by grind, by grind⟩ | exact xf (by unfold xthere; grind)
theorem there_R {n : Nat → Nat} {σ M : xM} (R : RX n σ M) (w : Int32) (p : Nat) : xthere M w p ↔ xthere σ w p := by
  rw [xthere, xthere, R.1 8 (by decide), R.1 9 (by decide), R.1 11 (by decide)]
/-- a place that is none or a hall or outdoors -/
theorem pl_in {n : Nat → Nat} {σ : xM} (I : Iv n σ) {s : Nat} (hs : s < n 2) (b : Int32) (h : ¬ xpl σ b s = -1) : ∃ a, a < 7 ∧ xpl σ b s = nI a := by
  obtain ⟨q1, q2, -, -, q3, q4⟩ := I.2.2.1.2.1 s hs
  have e6 : nI 6 = 6 := rfl
  obtain ⟨a, -, ha, e⟩ := xin_nat 6 (lo := 0) (v := xpl σ b s) (by unfold xpl at *; grind [nT]) (by unfold xpl at *; grind [nT]) (by decide) (by decide)
  exact ⟨a, by omega, e⟩
theorem sp_X7_sendParty {n : Nat → Nat} {σ M : xM} (I : Iv n σ) (R : RX n σ M) {p : Nat} (hp : p < n 1) (sz hour : Int32) (b : Prop) (left : Nat → Int32) (hl : ∀ j, j < 7 → M 28 j = left j) (hg : M 23 p = -1) (ha : M 24 p = 0) :
    SpV mX7_sendParty [.ref 21, .int (nI p), .int sz, .int hour, .int (bI b)] M (fun M' => k3 28 23 24 M M' ∧ (∀ j, j ≠ p → M' 23 j = M 23 j ∧ M' 24 j = M 24 j) ∧
      M' 23 p = (xsnd σ (bI b) hour sz p (σ 30 p).toNatClampNeg 0 left 0).1 ∧ M' 24 p = (xsnd σ (bI b) hour sz p (σ 30 p).toNatClampNeg 0 left 0).2.1 ∧ ∀ j, j < 7 → M' 28 j = (xsnd σ (bI b) hour sz p (σ 30 p).toNatClampNeg 0 left 0).2.2 j) := by
  have b1 : n 2 ≤ 12 := I.2.2.1.1
  have b2 : n 1 ≤ 24 := I.1.2.1
  obtain ⟨w, hw, ew, hk⟩ := I.2.2.1.2.2.2.2 p (by omega)
  have ck2 : (σ 30 p).toNatClampNeg = w := by rw [ew]; exact nI_clamp (by omega)
  rw [ck2]
  generalize hres : xsnd σ (bI b) hour sz p w 0 left 0 = res
  have lp : ∀ (k i : Nat) (x : Int32) (M1 : xM) (aw : Int32) (o6 o7 : Option Value), i + k = w → x = nI i → k3 28 23 24 M M1 → (∀ j, j ≠ p → M1 23 j = M 23 j ∧ M1 24 j = M 24 j) → M1 23 p = -1 → M1 24 p = aw → (∀ j, j < 7 → M1 28 j = left j) → xsnd σ (bI b) hour sz p k i left aw = res →
      P mX7_sendParty 3 [some (.ref 21), some (.int (nI p)), some (.int sz), some (.int hour), some (.int (bI b)), some (.int x), o6, o7] [] M1 (fun r M' => r = none ∧ (k3 28 23 24 M M' ∧ (∀ j, j ≠ p → M' 23 j = M 23 j ∧ M' 24 j = M 24 j) ∧ M' 23 p = res.1 ∧ M' 24 p = res.2.1 ∧ ∀ j, j < 7 → M' 28 j = res.2.2 j)) := by
    intro k
    induction k with
    | zero =>
      intro i x M1 aw o6 o7 hi hx hf ho h1 h2 h3 hr
      subst hx
      have R1 := R.k3 hf
      have em : M1 30 p = nI w := by rw [R1.1 30 (by decide), ew]
      refine P.iload (pc := 3) 5 dX7_sendParty_3 rfl ?_
      refine P.aload_n (pc := 5) 0 dX7_sendParty_5 rfl rfl ?_
      refine P.getR (pc := 6) fl_X7_42 dX7_sendParty_6 rfl rfl ?_
      refine P.iload_n (pc := 9) 1 dX7_sendParty_9 rfl rfl ?_
      refine P.iaN (pc := 10) _ dX7_sendParty_10 rfl rfl rfl (by first | omega | grind [nT]) ?_
      refine P.icge (pc := 11) 112 dX7_sendParty_11 (by decide) (fun c11 => ?_) (fun c11 => ?_)
      · refine P.vret (pc := 112) dX7_sendParty_112 rfl ?_
        exact ⟨rfl, hf, ho, by rw [← hr, h1]; rfl, by rw [← hr, h2]; rfl, fun j hj => by rw [← hr, h3 j hj]; rfl⟩
      · exact absurd (show M1 30 p ≤ nI i by grind [nT]) c11--.
    | succ k ih =>
      intro i x M1 aw o6 o7 hi hx hf ho h1 h2 h3 hr
      subst hx
      have R1 := R.k3 hf
      have em : M1 30 p = nI w := by rw [R1.1 30 (by decide), ew]
      obtain ⟨s, hs, es⟩ := hk i (by omega)
      have e29 : M1 29 (6 * p + i) = nI s := by rw [R1.1 29 (by decide), es]
      have e22 : M1 22 = σ 22 := R1.1 22 (by decide)
      have epl : xpl M1 (bI b) s = xpl σ (bI b) s := pl_R R1 _ _
      have cs := nI_clamp (n := s) (by omega)
      rw [xsnd, es, cs] at hr
      refine P.iload (pc := 3) 5 dX7_sendParty_3 rfl ?_
      refine P.aload_n (pc := 5) 0 dX7_sendParty_5 rfl rfl ?_
      refine P.getR (pc := 6) fl_X7_42 dX7_sendParty_6 rfl rfl ?_
      refine P.iload_n (pc := 9) 1 dX7_sendParty_9 rfl rfl ?_
      refine P.iaN (pc := 10) _ dX7_sendParty_10 rfl rfl rfl (by first | omega | grind [nT]) ?_
      refine P.icge (pc := 11) 112 dX7_sendParty_11 (by decide) (fun c11 => ?_) (fun c11 => ?_)
      · exact absurd c11 (by grind [nT])--.
      · refine P.aload_n (pc := 14) 0 dX7_sendParty_14 rfl rfl ?_
        refine P.getR (pc := 15) fl_X7_39 dX7_sendParty_15 rfl rfl ?_
        refine P.iload_n (pc := 18) 1 dX7_sendParty_18 rfl rfl ?_
        refine P.bipush (pc := 19) (v := 6) dX7_sendParty_19 (by decide) ?_
        refine P.imul (pc := 21) dX7_sendParty_21 ?_
        refine P.iload (pc := 22) 5 dX7_sendParty_22 rfl ?_
        refine P.iadd (pc := 24) dX7_sendParty_24 ?_
        refine P.iaN (pc := 25) (6 * p + i) dX7_sendParty_25 rfl rfl (by rw [nlit, pk_mul, nI_add, Nat.mul_comm]) (by first | omega | grind [nT]) ?_
        rw [e29]
        refine P.istore (pc := 26) 6 dX7_sendParty_26 (by decide) rfl ?_
        refine P.aload_n (pc := 28) 0 dX7_sendParty_28 rfl rfl ?_
        refine P.getR (pc := 29) fl_X7_11 dX7_sendParty_29 rfl rfl ?_
        refine P.iload (pc := 32) 6 dX7_sendParty_32 rfl ?_
        refine P.iaN (pc := 34) _ dX7_sendParty_34 rfl rfl rfl (by first | omega | grind [nT]) ?_
        refine P.iload_n (pc := 35) 3 dX7_sendParty_35 rfl rfl ?_
        refine P.icne (pc := 36) 50 dX7_sendParty_36 (by decide) (fun c36 => ?_) (fun c36 => ?_)
        · refine P.iconst (pc := 50) (v := -1) dX7_sendParty_50 (by decide) ?_
          refine P.istore (pc := 51) 7 dX7_sendParty_51 (by decide) rfl ?_
          refine P.iload (pc := 53) 7 dX7_sendParty_53 rfl ?_
          refine P.iconst (pc := 55) (v := -1) dX7_sendParty_55 (by decide) ?_
          refine P.iceq (pc := 56) 90 dX7_sendParty_56 (by decide) (fun c56 => ?_) (fun q => absurd q (by decide))
          refine P.iload (pc := 90) 7 dX7_sendParty_90 rfl ?_
          refine P.iconst (pc := 92) (v := -1) dX7_sendParty_92 (by decide) ?_
          refine P.iceq (pc := 93) 106 dX7_sendParty_93 (by decide) (fun c93 => ?_) (fun q => absurd q (by decide))
          refine P.iinc (pc := 106) 5 1 dX7_sendParty_106 rfl (by decide) (by decide) rfl ?_
          refine P.goto (pc := 109) 3 dX7_sendParty_109 (by decide) ?_
          first
          | exact absurd c56 c93
          | exact absurd c93 (by grind [nT])
          | exact ih (i + 1) _ _ aw _ _ (by omega) (nI_1 i) hf ho h1 h2 h3 (by rw [← hr, if_neg (by rw [← e22]; exact fun q => c36 q.1)])
          | exact ih (i + 1) _ _ aw _ _ (by omega) (nI_1 i) hf ho h1 h2 h3 (by rw [← hr, if_neg (fun q => q.2 (by first | exact c56 | exact c93))])
          | exact ih (i + 1) _ _ (aw + 1) _ _ (by omega) (nI_1 i) (hf.w (Or.inr (Or.inr rfl)) _) (fun j hj => by
              simp only [xw_ap, upd_ap, Nat.reduceEqDiff, ↓reduceIte, if_neg hj]; exact ho j hj) (by
              simp only [xw_ap, upd_ap, Nat.reduceEqDiff, ↓reduceIte]; exact h1) (by
              simp only [xw_ap, upd_ap, Nat.reduceEqDiff, ↓reduceIte]; rw [h2]) (fun j hj => by
              simp only [xw_ap, upd_ap, Nat.reduceEqDiff, ↓reduceIte]; exact h3 j hj) (by
              rw [← hr, if_pos ⟨by rw [← e22]; exact c36, hpl⟩, ea, ca, if_neg (by rw [← z3]; exact Int32.not_le.mpr c67)])
        · refine P.aload_n (pc := 39) 0 dX7_sendParty_39 rfl rfl ?_
          refine P.iload (pc := 40) 6 dX7_sendParty_40 rfl ?_
          refine P.iload (pc := 42) 4 dX7_sendParty_42 rfl ?_
          refine P.V2F (pc := 44) cs_X7_sendParty_77 dX7_sendParty_44 rfl rfl rfl (sp_X7_place _ (by omega) _) ?_
          rw [epl]
          refine P.goto (pc := 47) 51 dX7_sendParty_47 (by decide) ?_
          refine P.istore (pc := 51) 7 dX7_sendParty_51 (by decide) rfl ?_
          refine P.iload (pc := 53) 7 dX7_sendParty_53 rfl ?_
          refine P.iconst (pc := 55) (v := -1) dX7_sendParty_55 (by decide) ?_
          refine P.iceq (pc := 56) 90 dX7_sendParty_56 (by decide) (fun c56 => ?_) (fun c56 => ?_)
          · refine P.iload (pc := 90) 7 dX7_sendParty_90 rfl ?_
            refine P.iconst (pc := 92) (v := -1) dX7_sendParty_92 (by decide) ?_
            refine P.iceq (pc := 93) 106 dX7_sendParty_93 (by decide) (fun c93 => ?_) (fun c93 => ?_)
            · refine P.iinc (pc := 106) 5 1 dX7_sendParty_106 rfl (by decide) (by decide) rfl ?_
              refine P.goto (pc := 109) 3 dX7_sendParty_109 (by decide) ?_
              first
              | exact absurd c56 c93
              | exact absurd c93 (by grind [nT])
              | exact ih (i + 1) _ _ aw _ _ (by omega) (nI_1 i) hf ho h1 h2 h3 (by rw [← hr, if_neg (by rw [← e22]; exact fun q => c36 q.1)])
              | exact ih (i + 1) _ _ aw _ _ (by omega) (nI_1 i) hf ho h1 h2 h3 (by rw [← hr, if_neg (fun q => q.2 (by first | exact c56 | exact c93))])
              | exact ih (i + 1) _ _ (aw + 1) _ _ (by omega) (nI_1 i) (hf.w (Or.inr (Or.inr rfl)) _) (fun j hj => by
                  simp only [xw_ap, upd_ap, Nat.reduceEqDiff, ↓reduceIte, if_neg hj]; exact ho j hj) (by
                  simp only [xw_ap, upd_ap, Nat.reduceEqDiff, ↓reduceIte]; exact h1) (by
                  simp only [xw_ap, upd_ap, Nat.reduceEqDiff, ↓reduceIte]; rw [h2]) (fun j hj => by
                  simp only [xw_ap, upd_ap, Nat.reduceEqDiff, ↓reduceIte]; exact h3 j hj) (by
                  rw [← hr, if_pos ⟨by rw [← e22]; exact c36, hpl⟩, ea, ca, if_neg (by rw [← z3]; exact Int32.not_le.mpr c67)])
            · refine P.aload_n (pc := 96) 0 dX7_sendParty_96 rfl rfl ?_
              refine P.getR (pc := 97) fl_X7_20 dX7_sendParty_97 rfl rfl ?_
              refine P.iload_n (pc := 100) 1 dX7_sendParty_100 rfl rfl ?_
              refine P.dup2 (pc := 101) dX7_sendParty_101 rfl rfl ?_
              refine P.iaN (pc := 102) (p) dX7_sendParty_102 rfl rfl rfl (by first | omega | grind [nT]) ?_
              refine P.iconst (pc := 103) (v := 1) dX7_sendParty_103 (by decide) ?_
              refine P.iadd (pc := 104) dX7_sendParty_104 ?_
              refine P.isN (pc := 105) _ dX7_sendParty_105 rfl rfl rfl (by first | omega | grind [nT]) ?_
              refine P.iinc (pc := 106) 5 1 dX7_sendParty_106 rfl (by decide) (by decide) rfl ?_
              refine P.goto (pc := 109) 3 dX7_sendParty_109 (by decide) ?_
              first
              | exact absurd c56 c93
              | exact absurd c93 (by grind [nT])
              | exact ih (i + 1) _ _ aw _ _ (by omega) (nI_1 i) hf ho h1 h2 h3 (by rw [← hr, if_neg (by rw [← e22]; exact fun q => c36 q.1)])
              | exact ih (i + 1) _ _ aw _ _ (by omega) (nI_1 i) hf ho h1 h2 h3 (by rw [← hr, if_neg (fun q => q.2 (by first | exact c56 | exact c93))])
              | exact ih (i + 1) _ _ (aw + 1) _ _ (by omega) (nI_1 i) (hf.w (Or.inr (Or.inr rfl)) _) (fun j hj => by
                  simp only [xw_ap, upd_ap, Nat.reduceEqDiff, ↓reduceIte, if_neg hj]; exact ho j hj) (by
                  simp only [xw_ap, upd_ap, Nat.reduceEqDiff, ↓reduceIte]; exact h1) (by
                  simp only [xw_ap, upd_ap, Nat.reduceEqDiff, ↓reduceIte]; rw [h2]) (fun j hj => by
                  simp only [xw_ap, upd_ap, Nat.reduceEqDiff, ↓reduceIte]; exact h3 j hj) (by
                  rw [← hr, if_pos ⟨by rw [← e22]; exact c36, hpl⟩, ea, ca, if_neg (by rw [← z3]; exact Int32.not_le.mpr c67)])
          · have hpl : ¬ xpl σ (bI b) s = -1 := by simpa using c56
            obtain ⟨a, ha7, ea⟩ := pl_in I hs _ hpl
            have ca := nI_clamp (n := a) (by omega)
            have z3 := h3 a ha7
            rw [ea]
            refine P.aload_n (pc := 59) 0 dX7_sendParty_59 rfl rfl ?_
            refine P.getR (pc := 60) fl_X7_36 dX7_sendParty_60 rfl rfl ?_
            refine P.iload (pc := 63) 7 dX7_sendParty_63 rfl ?_
            refine P.iaN (pc := 65) (a) dX7_sendParty_65 rfl rfl rfl (by first | omega | grind [nT]) ?_
            refine P.iload_n (pc := 66) 2 dX7_sendParty_66 rfl rfl ?_
            refine P.iclt (pc := 67) 90 dX7_sendParty_67 (by decide) (fun c67 => ?_) (fun c67 => ?_)
            · refine P.iload (pc := 90) 7 dX7_sendParty_90 rfl ?_
              refine P.iconst (pc := 92) (v := -1) dX7_sendParty_92 (by decide) ?_
              refine P.iceq (pc := 93) 106 dX7_sendParty_93 (by decide) (fun c93 => ?_) (fun c93 => ?_)
              · refine P.iinc (pc := 106) 5 1 dX7_sendParty_106 rfl (by decide) (by decide) rfl ?_
                refine P.goto (pc := 109) 3 dX7_sendParty_109 (by decide) ?_
                first
                | exact absurd c56 c93
                | exact absurd c93 (by grind [nT])
                | exact ih (i + 1) _ _ aw _ _ (by omega) (nI_1 i) hf ho h1 h2 h3 (by rw [← hr, if_neg (by rw [← e22]; exact fun q => c36 q.1)])
                | exact ih (i + 1) _ _ aw _ _ (by omega) (nI_1 i) hf ho h1 h2 h3 (by rw [← hr, if_neg (fun q => q.2 (by first | exact c56 | exact c93))])
                | exact ih (i + 1) _ _ (aw + 1) _ _ (by omega) (nI_1 i) (hf.w (Or.inr (Or.inr rfl)) _) (fun j hj => by
                    simp only [xw_ap, upd_ap, Nat.reduceEqDiff, ↓reduceIte, if_neg hj]; exact ho j hj) (by
                    simp only [xw_ap, upd_ap, Nat.reduceEqDiff, ↓reduceIte]; exact h1) (by
                    simp only [xw_ap, upd_ap, Nat.reduceEqDiff, ↓reduceIte]; rw [h2]) (fun j hj => by
                    simp only [xw_ap, upd_ap, Nat.reduceEqDiff, ↓reduceIte]; exact h3 j hj) (by
                    rw [← hr, if_pos ⟨by rw [← e22]; exact c36, hpl⟩, ea, ca, if_neg (by rw [← z3]; exact Int32.not_le.mpr c67)])
              · refine P.aload_n (pc := 96) 0 dX7_sendParty_96 rfl rfl ?_
                refine P.getR (pc := 97) fl_X7_20 dX7_sendParty_97 rfl rfl ?_
                refine P.iload_n (pc := 100) 1 dX7_sendParty_100 rfl rfl ?_
                refine P.dup2 (pc := 101) dX7_sendParty_101 rfl rfl ?_
                refine P.iaN (pc := 102) (p) dX7_sendParty_102 rfl rfl rfl (by first | omega | grind [nT]) ?_
                refine P.iconst (pc := 103) (v := 1) dX7_sendParty_103 (by decide) ?_
                refine P.iadd (pc := 104) dX7_sendParty_104 ?_
                refine P.isN (pc := 105) _ dX7_sendParty_105 rfl rfl rfl (by first | omega | grind [nT]) ?_
                refine P.iinc (pc := 106) 5 1 dX7_sendParty_106 rfl (by decide) (by decide) rfl ?_
                refine P.goto (pc := 109) 3 dX7_sendParty_109 (by decide) ?_
                first
                | exact absurd c56 c93
                | exact absurd c93 (by grind [nT])
                | exact ih (i + 1) _ _ aw _ _ (by omega) (nI_1 i) hf ho h1 h2 h3 (by rw [← hr, if_neg (by rw [← e22]; exact fun q => c36 q.1)])
                | exact ih (i + 1) _ _ aw _ _ (by omega) (nI_1 i) hf ho h1 h2 h3 (by rw [← hr, if_neg (fun q => q.2 (by first | exact c56 | exact c93))])
                | exact ih (i + 1) _ _ (aw + 1) _ _ (by omega) (nI_1 i) (hf.w (Or.inr (Or.inr rfl)) _) (fun j hj => by
                    simp only [xw_ap, upd_ap, Nat.reduceEqDiff, ↓reduceIte, if_neg hj]; exact ho j hj) (by
                    simp only [xw_ap, upd_ap, Nat.reduceEqDiff, ↓reduceIte]; exact h1) (by
                    simp only [xw_ap, upd_ap, Nat.reduceEqDiff, ↓reduceIte]; rw [h2]) (fun j hj => by
                    simp only [xw_ap, upd_ap, Nat.reduceEqDiff, ↓reduceIte]; exact h3 j hj) (by
                    rw [← hr, if_pos ⟨by rw [← e22]; exact c36, hpl⟩, ea, ca, if_neg (by rw [← z3]; exact Int32.not_le.mpr c67)])
            · refine P.aload_n (pc := 70) 0 dX7_sendParty_70 rfl rfl ?_
              refine P.getR (pc := 71) fl_X7_36 dX7_sendParty_71 rfl rfl ?_
              refine P.iload (pc := 74) 7 dX7_sendParty_74 rfl ?_
              refine P.dup2 (pc := 76) dX7_sendParty_76 rfl rfl ?_
              refine P.iaN (pc := 77) (a) dX7_sendParty_77 rfl rfl rfl (by first | omega | grind [nT]) ?_
              refine P.iload_n (pc := 78) 2 dX7_sendParty_78 rfl rfl ?_
              refine P.isub (pc := 79) dX7_sendParty_79 ?_
              refine P.isN (pc := 80) (a) dX7_sendParty_80 rfl rfl rfl (by first | omega | grind [nT]) ?_
              refine P.aload_n (pc := 81) 0 dX7_sendParty_81 rfl rfl ?_
              refine P.getR (pc := 82) fl_X7_17 dX7_sendParty_82 rfl rfl ?_
              refine P.iload_n (pc := 85) 1 dX7_sendParty_85 rfl rfl ?_
              refine P.iload (pc := 86) 6 dX7_sendParty_86 rfl ?_
              refine P.isN (pc := 88) _ dX7_sendParty_88 rfl rfl rfl (by first | omega | grind [nT]) ?_
              refine P.vret (pc := 89) dX7_sendParty_89 rfl ?_
              rw [if_pos ⟨by rw [← e22]; exact c36, hpl⟩, ea, ca, if_pos (by rw [← z3]; exact Int32.not_lt.mp c67)] at hr
              subst hr
              refine ⟨rfl, (hf.w (Or.inl rfl) _).w (Or.inr (Or.inl rfl)) _, fun j hj => ?_, ?_, ?_, fun j hj => ?_⟩
              · simp only [xw_ap, upd_ap, Nat.reduceEqDiff, ↓reduceIte, if_neg hj]; exact ho j hj
              · simp only [xw_ap, upd_ap, Nat.reduceEqDiff, ↓reduceIte]
              · simp only [xw_ap, upd_ap, Nat.reduceEqDiff, ↓reduceIte]; exact h2
              · simp only [xw_ap, upd_ap, Nat.reduceEqDiff, ↓reduceIte]
                split
                · rw [z3]
                · exact h3 j hj
  refine P.iconst (pc := 0) (v := 0) dX7_sendParty_0 (by decide) ?_
  refine P.istore (pc := 1) 5 dX7_sendParty_1 (by decide) rfl ?_
  exact lp w 0 _ _ 0 _ _ (by omega) rfl k3.rf (fun _ _ => ⟨rfl, rfl⟩) hg ha hl hres
theorem sp_X7_send {n : Nat → Nat} {σ M : xM} (I : Iv n σ) (R : RX n σ M) (week hour : Int32) (b : Prop) : SpV mX7_send [.ref 21, .ref 5, .int week, .int hour, .int (bI b)] M (fun M' => k3 28 23 24 M M' ∧ ∀ j, j < n 1 → M' 23 j = xgo σ (bI b) week hour j ∧ M' 24 j = xaw σ (bI b) week hour j) := by
  have b2 : n 1 ≤ 24 := I.1.2.1
  have hc : M 5 7 = nI (n 1) := R.2.2 (5, 7, 1) (by decide)
  have lp : ∀ (k i : Nat) (x : Int32) (M1 : xM), i + k = n 1 → x = nI i → k3 28 23 24 M M1 → (∀ j, j < i → M1 23 j = xgo σ (bI b) week hour j ∧ M1 24 j = xaw σ (bI b) week hour j) → (∀ j, j < 7 → M1 28 j = xlf σ (bI b) week hour i j) →
      P mX7_send 18 [some (.ref 21), some (.ref 5), some (.int week), some (.int hour), some (.int (bI b)), some (.int x)] [] M1 (fun r M' => r = none ∧ (k3 28 23 24 M M' ∧ ∀ j, j < n 1 → M' 23 j = xgo σ (bI b) week hour j ∧ M' 24 j = xaw σ (bI b) week hour j)) := by
    intro k
    induction k with
    | zero =>
      intro i x M1 hi hx hf hr hl
      subst hx
      have em : M1 5 7 = nI (n 1) := by rw [hf 5 (by decide) (by decide) (by decide), hc]
      refine P.iload (pc := 18) 5 dX7_send_18 rfl ?_
      refine P.aload_n (pc := 20) 1 dX7_send_20 rfl rfl ?_
      refine P.getI (pc := 21) fl_X7_66 dX7_send_21 rfl rfl ?_
      refine P.icge (pc := 24) 75 dX7_send_24 (by decide) (fun c24 => ?_) (fun c24 => ?_)
      · refine P.vret (pc := 75) dX7_send_75 rfl ?_
        exact ⟨rfl, hf, fun j hj => hr j (by omega)⟩
      · exact absurd (show M1 5 7 ≤ nI i by grind [nT]) c24--.
    | succ k ih =>
      intro i x M1 hi hx hf hr hl
      subst hx
      have R1 := R.k3 hf
      have em : M1 5 7 = nI (n 1) := R1.2.2 (5, 7, 1) (by decide)
      refine P.iload (pc := 18) 5 dX7_send_18 rfl ?_
      refine P.aload_n (pc := 20) 1 dX7_send_20 rfl rfl ?_
      refine P.getI (pc := 21) fl_X7_66 dX7_send_21 rfl rfl ?_
      refine P.icge (pc := 24) 75 dX7_send_24 (by decide) (fun c24 => ?_) (fun c24 => ?_)
      · exact absurd c24 (by grind [nT])--.
      · refine P.aload_n (pc := 27) 0 dX7_send_27 rfl rfl ?_
        refine P.getR (pc := 28) fl_X7_17 dX7_send_28 rfl rfl ?_
        refine P.iload (pc := 31) 5 dX7_send_31 rfl ?_
        refine P.iconst (pc := 33) (v := -1) dX7_send_33 (by decide) ?_
        refine P.isN (pc := 34) _ dX7_send_34 rfl rfl rfl (by first | omega | grind [nT]) ?_
        refine P.aload_n (pc := 35) 0 dX7_send_35 rfl rfl ?_
        refine P.getR (pc := 36) fl_X7_20 dX7_send_36 rfl rfl ?_
        refine P.iload (pc := 39) 5 dX7_send_39 rfl ?_
        refine P.iconst (pc := 41) (v := 0) dX7_send_41 (by decide) ?_
        refine P.isN (pc := 42) _ dX7_send_42 rfl rfl rfl (by first | omega | grind [nT]) ?_
        refine P.aload_n (pc := 43) 1 dX7_send_43 rfl rfl ?_
        refine P.iload (pc := 44) 5 dX7_send_44 rfl ?_
        refine P.iload_n (pc := 46) 2 dX7_send_46 rfl rfl ?_
        refine P.V2F (pc := 47) cs_X7_send_67 dX7_send_47 rfl rfl rfl (sp_X4_isThere _ (by omega) _) ?_
        refine P.ifeqB (pc := 50) 69 dX7_send_50 (by decide) (fun c50 => ?_) (fun c50 => ?_)
        · refine P.iinc (pc := 69) 5 1 dX7_send_69 rfl (by decide) (by decide) rfl ?_
          refine P.goto (pc := 72) 18 dX7_send_72 (by decide) ?_
          first
          | exact ih (i + 1) _ _ (by omega) (nI_1 i) (hf.tr (((k3.rf.w (Or.inr (Or.inl rfl)) _).w (Or.inr (Or.inr rfl)) _).tr g1)) (fun j hj => by
              by_cases e : j = i
              · subst e; exact ⟨g3, g4⟩
              · rw [(g2 j e).1, (g2 j e).2]
                simp only [xw_ap, upd_ap, Nat.reduceEqDiff, ↓reduceIte, if_neg e]
                exact hr j (by omega)) (fun j hj => g5 j hj)
          | (have R2 := R1.k3 ((k3.rf.w (a := 28) (b := 23) (c := 24) (k := 23) (Or.inr (Or.inl rfl)) (upd (M1 23) i (-1))).w (k := 24) (Or.inr (Or.inr rfl)) (upd (xw M1 23 (upd (M1 23) i (-1)) 24) i 0))
             have th : ¬ xthere σ week i := fun q => c50 ((there_R R2 week i).mpr q)
             exact ih (i + 1) _ _ (by omega) (nI_1 i) (hf.tr ((k3.rf.w (Or.inr (Or.inl rfl)) _).w (Or.inr (Or.inr rfl)) _)) (fun j hj => by
              by_cases e : j = i
              · subst e; rw [xgo, xaw, xres_f th]; simp only [xw_ap, upd_ap, Nat.reduceEqDiff, ↓reduceIte, and_self]
              · simp only [xw_ap, upd_ap, Nat.reduceEqDiff, ↓reduceIte, if_neg e]
                exact hr j (by omega)) (fun j hj => by rw [xlf, xres_f th]; simp only [xw_ap, Nat.reduceEqDiff, ↓reduceIte]; exact hl j hj))
        · have R2 := R1.k3 ((k3.rf.w (a := 28) (b := 23) (c := 24) (k := 23) (Or.inr (Or.inl rfl)) (upd (M1 23) i (-1))).w (k := 24) (Or.inr (Or.inr rfl)) (upd (xw M1 23 (upd (M1 23) i (-1)) 24) i 0))
          have th := (there_R R2 week i).mp c50
          refine P.aload_n (pc := 53) 0 dX7_send_53 rfl rfl ?_
          refine P.iload (pc := 54) 5 dX7_send_54 rfl ?_
          refine P.aload_n (pc := 56) 1 dX7_send_56 rfl rfl ?_
          refine P.getR (pc := 57) fl_X7_70 dX7_send_57 rfl rfl ?_
          refine P.iload (pc := 60) 5 dX7_send_60 rfl ?_
          refine P.iaN (pc := 62) _ dX7_send_62 rfl rfl rfl (by first | omega | grind [nT]) ?_
          refine P.iload_n (pc := 63) 3 dX7_send_63 rfl rfl ?_
          refine P.iload (pc := 64) 4 dX7_send_64 rfl ?_
          refine P.V4V (pc := 66) cs_X7_send_73 dX7_send_66 rfl rfl rfl (sp_X7_sendParty I R2 (p := i) (by omega) _ _ b (xlf σ (bI b) week hour i) (fun j hj => by simp only [xw_ap, Nat.reduceEqDiff, ↓reduceIte]; exact hl j hj) (by simp only [xw_ap, upd_ap, Nat.reduceEqDiff, ↓reduceIte]) (by simp only [xw_ap, upd_ap, Nat.reduceEqDiff, ↓reduceIte])) (fun M66 h66 => ?_)
          obtain ⟨g1, g2, g3, g4, g5⟩ := h66
          have esz : xw (xw M1 23 (upd (M1 23) i (-1))) 24 (upd (xw M1 23 (upd (M1 23) i (-1)) 24) i 0) 6 = σ 6 := R2.1 6 (by decide)
          rw [esz, ← xres_t th] at g3 g4 g5
          refine P.iinc (pc := 69) 5 1 dX7_send_69 rfl (by decide) (by decide) rfl ?_
          refine P.goto (pc := 72) 18 dX7_send_72 (by decide) ?_
          first
          | exact ih (i + 1) _ _ (by omega) (nI_1 i) (hf.tr (((k3.rf.w (Or.inr (Or.inl rfl)) _).w (Or.inr (Or.inr rfl)) _).tr g1)) (fun j hj => by
              by_cases e : j = i
              · subst e; exact ⟨g3, g4⟩
              · rw [(g2 j e).1, (g2 j e).2]
                simp only [xw_ap, upd_ap, Nat.reduceEqDiff, ↓reduceIte, if_neg e]
                exact hr j (by omega)) (fun j hj => g5 j hj)
          | (have R2 := R1.k3 ((k3.rf.w (a := 28) (b := 23) (c := 24) (k := 23) (Or.inr (Or.inl rfl)) (upd (M1 23) i (-1))).w (k := 24) (Or.inr (Or.inr rfl)) (upd (xw M1 23 (upd (M1 23) i (-1)) 24) i 0))
             have th : ¬ xthere σ week i := fun q => c50 ((there_R R2 week i).mpr q)
             exact ih (i + 1) _ _ (by omega) (nI_1 i) (hf.tr ((k3.rf.w (Or.inr (Or.inl rfl)) _).w (Or.inr (Or.inr rfl)) _)) (fun j hj => by
              by_cases e : j = i
              · subst e; rw [xgo, xaw, xres_f th]; simp only [xw_ap, upd_ap, Nat.reduceEqDiff, ↓reduceIte, and_self]
              · simp only [xw_ap, upd_ap, Nat.reduceEqDiff, ↓reduceIte, if_neg e]
                exact hr j (by omega)) (fun j hj => by rw [xlf, xres_f th]; simp only [xw_ap, Nat.reduceEqDiff, ↓reduceIte]; exact hl j hj))
  refine P.aload_n (pc := 0) 0 dX7_send_0 rfl rfl ?_
  refine P.getR (pc := 1) fl_X7_33 dX7_send_1 rfl rfl ?_
  refine P.iconst (pc := 4) (v := 0) dX7_send_4 (by decide) ?_
  refine P.aload_n (pc := 5) 0 dX7_send_5 rfl rfl ?_
  refine P.getR (pc := 6) fl_X7_36 dX7_send_6 rfl rfl ?_
  refine P.iconst (pc := 9) (v := 0) dX7_send_9 (by decide) ?_
  refine P.bipush (pc := 10) (v := 7) dX7_send_10 (by decide) ?_
  refine P.copy (pc := 12) pr_X7_60 dX7_send_12 rfl rfl rfl (by decide) (by decide) (by decide) (by decide) (by decide) (by decide) ?_
  refine P.iconst (pc := 15) (v := 0) dX7_send_15 (by decide) ?_
  refine P.istore (pc := 16) 5 dX7_send_16 (by decide) rfl ?_
  exact lp (n 1) 0 _ _ (by omega) rfl (k3.rf.w (Or.inl rfl) _) (fun j hj => by omega) (fun j hj => by
    rw [xw_s, va_cpy, if_pos ⟨Nat.zero_le _, by show j < 0 + 7; omega⟩, R.1 27 (by decide)]
    show σ 27 (0 + (j - 0)) = σ 27 j
    congr 1; omega)
theorem xwb_h {σ : xM} {h : Nat} (hh : h < 40) : xwb σ (nI h) = bI (wetP σ h) := by rw [xwb, nI_clamp (by omega)]
noncomputable def o_goes (n : Nat → Nat) (σ : xM) (p w h : Int32) : xO := @ite _ (¬ (xin (n 1) p ∧ 0 ≤ w ∧ w ≤ 9 ∧ 0 ≤ h ∧ h ≤ 39)) (Classical.propDecidable _) (-2, n, σ) (xgo σ (xwb σ h) w h p.toNatClampNeg, n, σ)
noncomputable def o_turned (n : Nat → Nat) (σ : xM) (p w h : Int32) : xO := @ite _ (¬ (xin (n 1) p ∧ 0 ≤ w ∧ w ≤ 9 ∧ 0 ≤ h ∧ h ≤ 39)) (Classical.propDecidable _) (-2, n, σ) (xaw σ (xwb σ h) w h p.toNatClampNeg, n, σ)
theorem sp_X9_goes {n : Nat → Nat} {σ M : xM} (I : Iv n σ) (R : RX n σ M) (p w h : Int32) : SpI mX9_goes [.ref 0, .int p, .int w, .int h] M (PX (o_goes n σ p w h) M) := by
  have hc : M 5 7 = nI (n 1) := R.2.2 (5, 7, 1) (by decide)
  have b2 : n 1 ≤ 24 := I.1.2.1
  refine P.aload_n (pc := 0) 0 dX9_goes_0 rfl rfl ?_
  refine P.getR (pc := 1) fl_X9_10 dX9_goes_1 rfl rfl ?_
  refine P.getR (pc := 4) fl_X9_68 dX9_goes_4 rfl rfl ?_
  refine P.iload_n (pc := 7) 1 dX9_goes_7 rfl rfl ?_
  refine P.V1F (pc := 8) cs_X9_goes_115 dX9_goes_8 rfl rfl rfl (sp_X4_has hc b2 _) ?_
  refine P.ifeqB (pc := 11) 28 dX9_goes_11 (by decide) (fun c11 => ?_) (fun c11 => ?_)
  · refine P.bipush (pc := 28) (v := -2) dX9_goes_28 (by decide) ?_
    refine P.iret (pc := 30) dX9_goes_30 rfl ?_
    exact pxI (by rw [o_goes, if_pos (by grind)]) R frX.rf
  · refine P.iload_n (pc := 14) 2 dX9_goes_14 rfl rfl ?_
    refine P.S1F (pc := 15) cs_X9_goes_104 dX9_goes_15 rfl rfl (sp_X9_isWeek _ _) ?_
    refine P.ifeqB (pc := 18) 28 dX9_goes_18 (by decide) (fun c18 => ?_) (fun c18 => ?_)
    · refine P.bipush (pc := 28) (v := -2) dX9_goes_28 (by decide) ?_
      refine P.iret (pc := 30) dX9_goes_30 rfl ?_
      exact pxI (by rw [o_goes, if_pos (by grind)]) R frX.rf
    · refine P.iload_n (pc := 21) 3 dX9_goes_21 rfl rfl ?_
      refine P.S1F (pc := 22) cs_X9_goes_150 dX9_goes_22 rfl rfl (sp_X9_isHour _ _) ?_
      refine P.ifneB (pc := 25) 31 dX9_goes_25 (by decide) (fun c25 => ?_) (fun c25 => ?_)
      · have c11' := c11
        obtain ⟨a, ha, rfl⟩ := c11
        have ck := nI_clamp (n := a) (by omega)
        obtain ⟨t, -, ht, rfl⟩ := xin_nat 39 (lo := 0) c25.1 c25.2 (by decide) (by decide)
        refine P.aload_n (pc := 31) 0 dX9_goes_31 rfl rfl ?_
        refine P.getR (pc := 32) fl_X9_33 dX9_goes_32 rfl rfl ?_
        refine P.aload_n (pc := 35) 0 dX9_goes_35 rfl rfl ?_
        refine P.getR (pc := 36) fl_X9_10 dX9_goes_36 rfl rfl ?_
        refine P.getR (pc := 39) fl_X9_68 dX9_goes_39 rfl rfl ?_
        refine P.iload_n (pc := 42) 2 dX9_goes_42 rfl rfl ?_
        refine P.iload_n (pc := 43) 3 dX9_goes_43 rfl rfl ?_
        refine P.aload_n (pc := 44) 0 dX9_goes_44 rfl rfl ?_
        refine P.getR (pc := 45) fl_X9_54 dX9_goes_45 rfl rfl ?_
        refine P.iload_n (pc := 48) 3 dX9_goes_48 rfl rfl ?_
        refine P.V1F (pc := 49) cs_X9_goes_153 dX9_goes_49 rfl rfl rfl (sp_X6_countsAsWet _ (by omega)) ?_
        refine P.V4V (pc := 52) cs_X9_goes_165 dX9_goes_52 rfl rfl rfl (sp_X7_send I R _ _ _) (fun M52 h52 => ?_)
        obtain ⟨g1, g2⟩ := h52
        refine P.aload_n (pc := 55) 0 dX9_goes_55 rfl rfl ?_
        refine P.getR (pc := 56) fl_X9_33 dX9_goes_56 rfl rfl ?_
        refine P.getR (pc := 59) fl_X9_169 dX9_goes_59 rfl rfl ?_
        refine P.iload_n (pc := 62) 1 dX9_goes_62 rfl rfl ?_
        refine P.iaN (pc := 63) _ dX9_goes_63 rfl rfl rfl (by first | omega | grind [nT]) ?_
        refine P.iret (pc := 64) dX9_goes_64 rfl ?_
        exact pxI (by rw [o_goes, if_neg (by grind), ck, (g2 a ha).1, bI_c (wet_R R t), xwb_h (by omega)]) (R.k3 g1) g1.frX
      · refine P.bipush (pc := 28) (v := -2) dX9_goes_28 (by decide) ?_
        refine P.iret (pc := 30) dX9_goes_30 rfl ?_
        exact pxI (by rw [o_goes, if_pos (by grind)]) R frX.rf
theorem sp_X9_turned {n : Nat → Nat} {σ M : xM} (I : Iv n σ) (R : RX n σ M) (p w h : Int32) : SpI mX9_turned [.ref 0, .int p, .int w, .int h] M (PX (o_turned n σ p w h) M) := by
  have hc : M 5 7 = nI (n 1) := R.2.2 (5, 7, 1) (by decide)
  have b2 : n 1 ≤ 24 := I.1.2.1
  refine P.aload_n (pc := 0) 0 dX9_turned_0 rfl rfl ?_
  refine P.getR (pc := 1) fl_X9_10 dX9_turned_1 rfl rfl ?_
  refine P.getR (pc := 4) fl_X9_68 dX9_turned_4 rfl rfl ?_
  refine P.iload_n (pc := 7) 1 dX9_turned_7 rfl rfl ?_
  refine P.V1F (pc := 8) cs_X9_turned_115 dX9_turned_8 rfl rfl rfl (sp_X4_has hc b2 _) ?_
  refine P.ifeqB (pc := 11) 28 dX9_turned_11 (by decide) (fun c11 => ?_) (fun c11 => ?_)
  · refine P.bipush (pc := 28) (v := -2) dX9_turned_28 (by decide) ?_
    refine P.iret (pc := 30) dX9_turned_30 rfl ?_
    exact pxI (by rw [o_turned, if_pos (by grind)]) R frX.rf
  · refine P.iload_n (pc := 14) 2 dX9_turned_14 rfl rfl ?_
    refine P.S1F (pc := 15) cs_X9_turned_104 dX9_turned_15 rfl rfl (sp_X9_isWeek _ _) ?_
    refine P.ifeqB (pc := 18) 28 dX9_turned_18 (by decide) (fun c18 => ?_) (fun c18 => ?_)
    · refine P.bipush (pc := 28) (v := -2) dX9_turned_28 (by decide) ?_
      refine P.iret (pc := 30) dX9_turned_30 rfl ?_
      exact pxI (by rw [o_turned, if_pos (by grind)]) R frX.rf
    · refine P.iload_n (pc := 21) 3 dX9_turned_21 rfl rfl ?_
      refine P.S1F (pc := 22) cs_X9_turned_150 dX9_turned_22 rfl rfl (sp_X9_isHour _ _) ?_
      refine P.ifneB (pc := 25) 31 dX9_turned_25 (by decide) (fun c25 => ?_) (fun c25 => ?_)
      · have c11' := c11
        obtain ⟨a, ha, rfl⟩ := c11
        have ck := nI_clamp (n := a) (by omega)
        obtain ⟨t, -, ht, rfl⟩ := xin_nat 39 (lo := 0) c25.1 c25.2 (by decide) (by decide)
        refine P.aload_n (pc := 31) 0 dX9_turned_31 rfl rfl ?_
        refine P.getR (pc := 32) fl_X9_33 dX9_turned_32 rfl rfl ?_
        refine P.aload_n (pc := 35) 0 dX9_turned_35 rfl rfl ?_
        refine P.getR (pc := 36) fl_X9_10 dX9_turned_36 rfl rfl ?_
        refine P.getR (pc := 39) fl_X9_68 dX9_turned_39 rfl rfl ?_
        refine P.iload_n (pc := 42) 2 dX9_turned_42 rfl rfl ?_
        refine P.iload_n (pc := 43) 3 dX9_turned_43 rfl rfl ?_
        refine P.aload_n (pc := 44) 0 dX9_turned_44 rfl rfl ?_
        refine P.getR (pc := 45) fl_X9_54 dX9_turned_45 rfl rfl ?_
        refine P.iload_n (pc := 48) 3 dX9_turned_48 rfl rfl ?_
        refine P.V1F (pc := 49) cs_X9_turned_153 dX9_turned_49 rfl rfl rfl (sp_X6_countsAsWet _ (by omega)) ?_
        refine P.V4V (pc := 52) cs_X9_turned_165 dX9_turned_52 rfl rfl rfl (sp_X7_send I R _ _ _) (fun M52 h52 => ?_)
        obtain ⟨g1, g2⟩ := h52
        refine P.aload_n (pc := 55) 0 dX9_turned_55 rfl rfl ?_
        refine P.getR (pc := 56) fl_X9_33 dX9_turned_56 rfl rfl ?_
        refine P.getR (pc := 59) fl_X9_172 dX9_turned_59 rfl rfl ?_
        refine P.iload_n (pc := 62) 1 dX9_turned_62 rfl rfl ?_
        refine P.iaN (pc := 63) _ dX9_turned_63 rfl rfl rfl (by first | omega | grind [nT]) ?_
        refine P.iret (pc := 64) dX9_turned_64 rfl ?_
        exact pxI (by rw [o_turned, if_neg (by grind), ck, (g2 a ha).2, bI_c (wet_R R t), xwb_h (by omega)]) (R.k3 g1) g1.frX
      · refine P.bipush (pc := 28) (v := -2) dX9_turned_28 (by decide) ?_
        refine P.iret (pc := 30) dX9_turned_30 rfl ?_
        exact pxI (by rw [o_turned, if_pos (by grind)]) R frX.rf
/-- people of the first m parties that go to s -/
def xppl (go sz : Nat → Int32) (s : Int32) : Nat → Int32
  | 0 => 0
  | m + 1 => if go m = s then xppl go sz s m + sz m else xppl go sz s m
theorem xppl_c {go go' sz : Nat → Int32} {s : Int32} : ∀ m, (∀ j, j < m → go j = go' j) → xppl go sz s m = xppl go' sz s m
  | 0, _ => rfl
  | m + 1, h => by rw [xppl, xppl, h m (by omega), xppl_c m (fun j hj => h j (by omega))]
theorem sp_X7_peopleIn {M : xM} {m : Nat} (hc : M 5 7 = nI m) (hm : m ≤ 24) (s : Int32) : SpF mX7_peopleIn [.ref 21, .int s, .ref 5] M (xppl (M 23) (M 6) s m) := by
  have lp : ∀ (k i : Nat) (x a : Int32), i + k = m → x = nI i → a = xppl (M 23) (M 6) s i → P mX7_peopleIn 5 [some (.ref 21), some (.int s), some (.ref 5), some (.int a), some (.int x)] [] M (fun r M' => r = some (.int (xppl (M 23) (M 6) s m)) ∧ M' = M) := by
    intro k
    induction k with
    | zero =>
      intro i x a hi hx ha
      subst hx
      refine P.iload (pc := 5) 4 dX7_peopleIn_5 rfl ?_
      refine P.aload_n (pc := 7) 2 dX7_peopleIn_7 rfl rfl ?_
      refine P.getI (pc := 8) fl_X7_66 dX7_peopleIn_8 rfl rfl ?_
      refine P.icge (pc := 11) 41 dX7_peopleIn_11 (by decide) (fun c11 => ?_) (fun c11 => ?_)
      · refine P.iload_n (pc := 41) 3 dX7_peopleIn_41 rfl rfl ?_
        refine P.iret (pc := 42) dX7_peopleIn_42 rfl ?_
        exact ⟨by rw [ha, show i = m from hi], rfl⟩
      · exact absurd (show M 5 7 ≤ nI i by grind [nT]) c11--.
    | succ k ih =>
      intro i x a hi hx ha
      subst hx
      refine P.iload (pc := 5) 4 dX7_peopleIn_5 rfl ?_
      refine P.aload_n (pc := 7) 2 dX7_peopleIn_7 rfl rfl ?_
      refine P.getI (pc := 8) fl_X7_66 dX7_peopleIn_8 rfl rfl ?_
      refine P.icge (pc := 11) 41 dX7_peopleIn_11 (by decide) (fun c11 => ?_) (fun c11 => ?_)
      · exact absurd c11 (by grind [nT])--.
      · refine P.aload_n (pc := 14) 0 dX7_peopleIn_14 rfl rfl ?_
        refine P.getR (pc := 15) fl_X7_17 dX7_peopleIn_15 rfl rfl ?_
        refine P.iload (pc := 18) 4 dX7_peopleIn_18 rfl ?_
        refine P.iaN (pc := 20) _ dX7_peopleIn_20 rfl rfl rfl (by first | omega | grind [nT]) ?_
        refine P.iload_n (pc := 21) 1 dX7_peopleIn_21 rfl rfl ?_
        refine P.icne (pc := 22) 35 dX7_peopleIn_22 (by decide) (fun c22 => ?_) (fun c22 => ?_)
        · refine P.iinc (pc := 35) 4 1 dX7_peopleIn_35 rfl (by decide) (by decide) rfl ?_
          refine P.goto (pc := 38) 5 dX7_peopleIn_38 (by decide) ?_
          exact ih (i + 1) _ _ (by omega) (nI_1 i) (by grind [xppl])
        · refine P.iload_n (pc := 25) 3 dX7_peopleIn_25 rfl rfl ?_
          refine P.aload_n (pc := 26) 2 dX7_peopleIn_26 rfl rfl ?_
          refine P.getR (pc := 27) fl_X7_70 dX7_peopleIn_27 rfl rfl ?_
          refine P.iload (pc := 30) 4 dX7_peopleIn_30 rfl ?_
          refine P.iaN (pc := 32) _ dX7_peopleIn_32 rfl rfl rfl (by first | omega | grind [nT]) ?_
          refine P.iadd (pc := 33) dX7_peopleIn_33 ?_
          refine P.istore_n (pc := 34) 3 dX7_peopleIn_34 rfl (by decide) rfl ?_
          refine P.iinc (pc := 35) 4 1 dX7_peopleIn_35 rfl (by decide) (by decide) rfl ?_
          refine P.goto (pc := 38) 5 dX7_peopleIn_38 (by decide) ?_
          exact ih (i + 1) _ _ (by omega) (nI_1 i) (by grind [xppl])
  refine P.iconst (pc := 0) (v := 0) dX7_peopleIn_0 (by decide) ?_
  refine P.istore_n (pc := 1) 3 dX7_peopleIn_1 rfl (by decide) rfl ?_
  refine P.iconst (pc := 2) (v := 0) dX7_peopleIn_2 (by decide) ?_
  refine P.istore (pc := 3) 4 dX7_peopleIn_3 (by decide) rfl ?_
  exact lp m 0 _ _ (by omega) rfl rfl
noncomputable def o_crowd (n : Nat → Nat) (σ : xM) (s w : Int32) : xO := @ite _ (¬ (xin (n 2) s ∧ 0 ≤ w ∧ w ≤ 9)) (Classical.propDecidable _) (-2, n, σ) (xppl (xgo σ (xwb σ (σ 22 s.toNatClampNeg)) w (σ 22 s.toNatClampNeg)) (σ 6) s (n 1), n, σ)
theorem sp_X9_crowd {n : Nat → Nat} {σ M : xM} (I : Iv n σ) (R : RX n σ M) (s w : Int32) : SpI mX9_crowd [.ref 0, .int s, .int w] M (PX (o_crowd n σ s w) M) := by
  have hc : M 21 3 = nI (n 2) := R.2.2 (21, 3, 2) (by decide)
  have b1 : n 2 ≤ 12 := I.2.2.1.1
  have b2 : n 1 ≤ 24 := I.1.2.1
  have a2 := R.1 22 (by decide)
  refine P.aload_n (pc := 0) 0 dX9_crowd_0 rfl rfl ?_
  refine P.getR (pc := 1) fl_X9_33 dX9_crowd_1 rfl rfl ?_
  refine P.iload_n (pc := 4) 1 dX9_crowd_4 rfl rfl ?_
  refine P.V1F (pc := 5) cs_X9_crowd_156 dX9_crowd_5 rfl rfl rfl (sp_X7_has hc b1 _) ?_
  refine P.ifeqB (pc := 8) 18 dX9_crowd_8 (by decide) (fun c8 => ?_) (fun c8 => ?_)
  · refine P.bipush (pc := 18) (v := -2) dX9_crowd_18 (by decide) ?_
    refine P.iret (pc := 20) dX9_crowd_20 rfl ?_
    exact pxI (by rw [o_crowd, if_pos (by grind)]) R frX.rf
  · refine P.iload_n (pc := 11) 2 dX9_crowd_11 rfl rfl ?_
    refine P.S1F (pc := 12) cs_X9_crowd_104 dX9_crowd_12 rfl rfl (sp_X9_isWeek _ _) ?_
    refine P.ifneB (pc := 15) 21 dX9_crowd_15 (by decide) (fun c15 => ?_) (fun c15 => ?_)
    · have c8' := c8
      obtain ⟨a, ha, rfl⟩ := c8
      have ck := nI_clamp (n := a) (by omega)
      obtain ⟨-, -, q1, q2, -⟩ := I.2.2.1.2.1 a ha
      obtain ⟨t, -, ht, et⟩ := xin_nat 39 (lo := 0) q1 q2 (by decide) (by decide)
      refine P.aload_n (pc := 21) 0 dX9_crowd_21 rfl rfl ?_
      refine P.getR (pc := 22) fl_X9_33 dX9_crowd_22 rfl rfl ?_
      refine P.getR (pc := 25) fl_X9_157 dX9_crowd_25 rfl rfl ?_
      refine P.iload_n (pc := 28) 1 dX9_crowd_28 rfl rfl ?_
      refine P.iaN (pc := 29) _ dX9_crowd_29 rfl rfl rfl (by first | omega | grind [nT]) ?_
      rw [a2, et]
      refine P.istore_n (pc := 30) 3 dX9_crowd_30 rfl (by decide) rfl ?_
      refine P.aload_n (pc := 31) 0 dX9_crowd_31 rfl rfl ?_
      refine P.getR (pc := 32) fl_X9_33 dX9_crowd_32 rfl rfl ?_
      refine P.aload_n (pc := 35) 0 dX9_crowd_35 rfl rfl ?_
      refine P.getR (pc := 36) fl_X9_10 dX9_crowd_36 rfl rfl ?_
      refine P.getR (pc := 39) fl_X9_68 dX9_crowd_39 rfl rfl ?_
      refine P.iload_n (pc := 42) 2 dX9_crowd_42 rfl rfl ?_
      refine P.iload_n (pc := 43) 3 dX9_crowd_43 rfl rfl ?_
      refine P.aload_n (pc := 44) 0 dX9_crowd_44 rfl rfl ?_
      refine P.getR (pc := 45) fl_X9_54 dX9_crowd_45 rfl rfl ?_
      refine P.iload_n (pc := 48) 3 dX9_crowd_48 rfl rfl ?_
      refine P.V1F (pc := 49) cs_X9_crowd_153 dX9_crowd_49 rfl rfl rfl (sp_X6_countsAsWet _ (by omega)) ?_
      refine P.V4V (pc := 52) cs_X9_crowd_165 dX9_crowd_52 rfl rfl rfl (sp_X7_send I R _ _ _) (fun M52 h52 => ?_)
      obtain ⟨g1, g2⟩ := h52
      have R2 := R.k3 g1
      refine P.aload_n (pc := 55) 0 dX9_crowd_55 rfl rfl ?_
      refine P.getR (pc := 56) fl_X9_33 dX9_crowd_56 rfl rfl ?_
      refine P.iload_n (pc := 59) 1 dX9_crowd_59 rfl rfl ?_
      refine P.aload_n (pc := 60) 0 dX9_crowd_60 rfl rfl ?_
      refine P.getR (pc := 61) fl_X9_10 dX9_crowd_61 rfl rfl ?_
      refine P.getR (pc := 64) fl_X9_68 dX9_crowd_64 rfl rfl ?_
      refine P.V2F (pc := 67) cs_X9_crowd_175 dX9_crowd_67 rfl rfl rfl (sp_X7_peopleIn (R2.2.2 (5, 7, 1) (by decide)) b2 _) ?_
      refine P.iret (pc := 70) dX9_crowd_70 rfl ?_
      refine pxI ?_ R2 g1.frX
      rw [o_crowd, if_neg (by grind), ck, et, xwb_h (by omega), R2.1 6 (by decide), xppl_c (n 1) (fun j hj => (g2 j hj).1), bI_c (wet_R R t)]
    · refine P.bipush (pc := 18) (v := -2) dX9_crowd_18 (by decide) ?_
      refine P.iret (pc := 20) dX9_crowd_20 rfl ?_
      exact pxI (by rw [o_crowd, if_pos (by grind)]) R frX.rf
