theorem AA.fr {n : Nat → Nat} {σ M M1 : xM} {w : Int32} (R : RX n σ M) (h : AA n σ w M M1) : RX n σ M1 ∧ frX M M1 := ⟨R.fS h.1.1, h.1.1.X⟩
theorem xB_un {n : Nat → Nat} {σ : xM} {w : Int32} {p : Nat} (hp : p < n 1) (h : xthere σ w p) : xun σ w p < xB' n σ w := xun_lt hp h
noncomputable def xsitV (n : Nat → Nat) (σ : xM) (w : Int32) (p : Nat) : Int32 := @ite _ (¬ xthere σ w p ∨ xdiff n σ w = -1) (Classical.propDecidable _) (-1) (xsit n σ w (xun σ w p))
theorem sp_X8_sittingOf {n : Nat → Nat} {σ M M1 : xM} {w : Int32} (I : Iv n σ) (h : AA n σ w M M1) {p : Nat} (hp : p < n 1) : SpF mX8_sittingOf [.ref 13, .int (nI p)] M1 (xsitV n σ w p) := by
  have b2 : n 1 ≤ 24 := I.1.2.1
  have B := xB_le I w
  obtain ⟨⟨h1, h2, h3, h4, h5, h6⟩, h7, h8⟩ := h
  obtain ⟨j1, j2⟩ := h4 p hp
  by_cases th : xthere σ w p
  · have lt := xB_un hp th
    have e := j1 th
    have e8 := h8 _ lt
    clear I
    refine P.aload_n (pc := 0) 0 dX8_sittingOf_0 rfl rfl ?_
    refine P.getI (pc := 1) fl_X8_20 dX8_sittingOf_1 rfl rfl ?_
    rw [h7]
    refine P.iconst (pc := 4) (v := -1) dX8_sittingOf_4 (by decide) ?_
    refine P.iceq (pc := 5) 18 dX8_sittingOf_5 (by decide) (fun c5 => ?_) (fun c5 => ?_)
    · skip
      refine P.iconst (pc := 18) (v := -1) dX8_sittingOf_18 (by decide) ?_
      refine P.goto (pc := 19) 33 dX8_sittingOf_19 (by decide) ?_
      refine P.iret (pc := 33) dX8_sittingOf_33 rfl ?_
      first | exact ⟨by rw [xsitV, if_pos (Or.inr c5)], rfl⟩ | exact ⟨by rw [xsitV, if_neg (fun z => z.elim (fun q => q th) c5), e8], rfl⟩
    · refine P.aload_n (pc := 8) 0 dX8_sittingOf_8 rfl rfl ?_
      refine P.getR (pc := 9) fl_X8_29 dX8_sittingOf_9 rfl rfl ?_
      refine P.iload_n (pc := 12) 1 dX8_sittingOf_12 rfl rfl ?_
      refine P.iaN (pc := 13) _ dX8_sittingOf_13 rfl rfl rfl (by first | omega | grind [nT]) ?_
      rw [e]
      refine P.iconst (pc := 14) (v := -1) dX8_sittingOf_14 (by decide) ?_
      refine P.icne (pc := 15) 22 dX8_sittingOf_15 (by decide) (fun c15 => ?_) (fun c15 => ?_)
      · refine P.aload_n (pc := 22) 0 dX8_sittingOf_22 rfl rfl ?_
        refine P.getR (pc := 23) fl_X8_39 dX8_sittingOf_23 rfl rfl ?_
        refine P.aload_n (pc := 26) 0 dX8_sittingOf_26 rfl rfl ?_
        refine P.getR (pc := 27) fl_X8_29 dX8_sittingOf_27 rfl rfl ?_
        refine P.iload_n (pc := 30) 1 dX8_sittingOf_30 rfl rfl ?_
        refine P.iaN (pc := 31) (p) dX8_sittingOf_31 rfl rfl rfl (by first | omega | grind [nT]) ?_
        rw [e]
        refine P.iaN (pc := 32) (xun σ w p) dX8_sittingOf_32 rfl rfl rfl (by first | omega | grind [nT]) ?_
        refine P.iret (pc := 33) dX8_sittingOf_33 rfl ?_
        first | exact ⟨by rw [xsitV, if_pos (Or.inr c5)], rfl⟩ | exact ⟨by rw [xsitV, if_neg (fun z => z.elim (fun q => q th) c5), e8], rfl⟩
      · exact absurd c15 (nI_ne (by omega))--.
  · have e := j2 th
    clear I
    refine P.aload_n (pc := 0) 0 dX8_sittingOf_0 rfl rfl ?_
    refine P.getI (pc := 1) fl_X8_20 dX8_sittingOf_1 rfl rfl ?_
    refine P.iconst (pc := 4) (v := -1) dX8_sittingOf_4 (by decide) ?_
    refine P.iceq (pc := 5) 18 dX8_sittingOf_5 (by decide) (fun c5 => ?_) (fun c5 => ?_)
    · refine P.iconst (pc := 18) (v := -1) dX8_sittingOf_18 (by decide) ?_
      refine P.goto (pc := 19) 33 dX8_sittingOf_19 (by decide) ?_
      refine P.iret (pc := 33) dX8_sittingOf_33 rfl ?_
      exact ⟨by rw [xsitV, if_pos (Or.inl th)], rfl⟩
    · refine P.aload_n (pc := 8) 0 dX8_sittingOf_8 rfl rfl ?_
      refine P.getR (pc := 9) fl_X8_29 dX8_sittingOf_9 rfl rfl ?_
      refine P.iload_n (pc := 12) 1 dX8_sittingOf_12 rfl rfl ?_
      refine P.iaN (pc := 13) _ dX8_sittingOf_13 rfl rfl rfl (by first | omega | grind [nT]) ?_
      rw [e]
      refine P.iconst (pc := 14) (v := -1) dX8_sittingOf_14 (by decide) ?_
      refine P.icne (pc := 15) 22 dX8_sittingOf_15 (by decide) (fun c15 => ?_) (fun c15 => ?_)
      · exact absurd rfl c15--.
      · refine P.iconst (pc := 18) (v := -1) dX8_sittingOf_18 (by decide) ?_
        refine P.goto (pc := 19) 33 dX8_sittingOf_19 (by decide) ?_
        refine P.iret (pc := 33) dX8_sittingOf_33 rfl ?_
        exact ⟨by rw [xsitV, if_pos (Or.inl th)], rfl⟩
theorem xsitV_k {n : Nat → Nat} {σ : xM} {w k : Int32} {p : Nat} (hd : ¬ xdiff n σ w = -1) (hk : ¬ k = -1) : xsitV n σ w p = k ↔ xthere σ w p ∧ xsit n σ w (xun σ w p) = k := by
  rw [xsitV]
  by_cases th : xthere σ w p
  · rw [if_neg (fun z => z.elim (fun q => q th) hd)]; exact ⟨fun z => ⟨th, z⟩, fun z => z.2⟩
  · rw [if_pos (Or.inl th)]; exact ⟨fun z => absurd z.symm hk, fun z => absurd z.1 th⟩
theorem sp_X8_dinners {n : Nat → Nat} {σ M M1 : xM} {w : Int32} (I : Iv n σ) (R : RX n σ M) (h : AA n σ w M M1) {k : Int32} (hk : ¬ k = -1) : SpF mX8_dinners [.ref 13, .ref 5, .int k] M1 (xdinV n σ w k) := by
  have b2 : n 1 ≤ 24 := I.1.2.1
  have R1 := (h.fr R).1
  have e7 := h.2.1
  have ec : M1 5 7 = nI (n 1) := R1.2.2 (5, 7, 1) (by decide)
  have a6 : M1 6 = σ 6 := R1.1 6 (by decide)
  have a7 : M1 7 = σ 7 := R1.1 7 (by decide)
  by_cases hd : xdiff n σ w = -1
  · rw [hd] at e7
    refine P.aload_n (pc := 0) 0 dX8_dinners_0 rfl rfl ?_
    refine P.getI (pc := 1) fl_X8_20 dX8_dinners_1 rfl rfl ?_
    refine P.iconst (pc := 4) (v := -1) dX8_dinners_4 (by decide) ?_
    refine P.icne (pc := 5) 10 dX8_dinners_5 (by decide) (fun c5 => ?_) (fun c5 => ?_)
    · exact absurd e7 c5--.
    · skip
      refine P.iconst (pc := 8) (v := -1) dX8_dinners_8 (by decide) ?_
      refine P.iret (pc := 9) dX8_dinners_9 rfl ?_
      exact ⟨by rw [xdinV, if_pos hd], rfl⟩
  · have lp : ∀ (r i : Nat), i + r = n 1 → P mX8_dinners 18 [some (.ref 13), some (.ref 5), some (.int k), some (.int (nI (xdA n σ w k i - xdC n σ w k i))), some (.int (nI (xdC n σ w k i))), some (.int (nI i))] [] M1 (fun v M' => v = some (.int (xdinV n σ w k)) ∧ M' = M1) := by
      intro r
      induction r with
      | zero =>
        intro i hi
        have hi : i = n 1 := hi
        subst hi
        have := xd_le I w k (n 1) (Nat.le_refl _)
        refine P.iload (pc := 18) 5 dX8_dinners_18 rfl ?_
        refine P.aload_n (pc := 20) 1 dX8_dinners_20 rfl rfl ?_
        refine P.getI (pc := 21) fl_X8_68 dX8_dinners_21 rfl rfl ?_
        rw [ec]
        refine P.icge (pc := 24) 73 dX8_dinners_24 (by decide) (fun c24 => ?_) (fun c24 => ?_)
        · refine P.iload_n (pc := 73) 3 dX8_dinners_73 rfl rfl ?_
          refine P.iload (pc := 74) 4 dX8_dinners_74 rfl ?_
          refine P.iconst (pc := 76) (v := 2) dX8_dinners_76 (by decide) ?_
          refine P.idiv (pc := 77) dX8_dinners_77 (by decide) ?_
          rw [nJ_half (by omega)]
          refine P.iadd (pc := 78) dX8_dinners_78 ?_
          rw [nI_add]
          refine P.iret (pc := 79) dX8_dinners_79 rfl ?_
          exact ⟨by rw [xdinV, if_neg hd, xdin], rfl⟩
        · exact absurd (Int32.le_refl _) c24--.
      | succ r ih =>
        intro i hi
        have le := xd_le I w k i (by omega)
        have le1 := xd_le I w k (i + 1) (by omega)
        obtain ⟨z1, z2, z3⟩ := xzN_in I (p := i) (by omega)
        obtain ⟨y1, y2⟩ := kid_in I (p := i) (by omega)
        obtain ⟨y, hy⟩ : ∃ y, (σ 7 i).toNatClampNeg = y := ⟨_, rfl⟩
        rw [hy] at y1 y2
        refine P.iload (pc := 18) 5 dX8_dinners_18 rfl ?_
        refine P.aload_n (pc := 20) 1 dX8_dinners_20 rfl rfl ?_
        refine P.getI (pc := 21) fl_X8_68 dX8_dinners_21 rfl rfl ?_
        rw [ec]
        refine P.icge (pc := 24) 73 dX8_dinners_24 (by decide) (fun c24 => ?_) (fun c24 => ?_)
        · exact absurd c24 (nI_ge (by omega) (by omega))--.
        · refine P.aload_n (pc := 27) 0 dX8_dinners_27 rfl rfl ?_
          refine P.iload (pc := 28) 5 dX8_dinners_28 rfl ?_
          refine P.V1F (pc := 30) cs_X8_dinners_100 dX8_dinners_30 rfl rfl rfl (sp_X8_sittingOf I h (by omega)) ?_
          refine P.iload_n (pc := 33) 2 dX8_dinners_33 rfl rfl ?_
          refine P.icne (pc := 34) 67 dX8_dinners_34 (by decide) (fun c34 => ?_) (fun c34 => ?_)
          · have no : ¬ (xthere σ w i ∧ xsit n σ w (xun σ w i) = k) := fun z => c34 ((xsitV_k hd hk).2 z)
            have e1 : xdA n σ w k (i + 1) = xdA n σ w k i := by rw [xdA, if_neg no]
            have e2 : xdC n σ w k (i + 1) = xdC n σ w k i := by rw [xdC, if_neg no]
            refine P.iinc (pc := 67) 5 1 dX8_dinners_67 rfl (by decide) (by decide) rfl ?_
            rw [nI_1]
            refine P.goto (pc := 70) 18 dX8_dinners_70 (by decide) ?_
            have := ih (i + 1) (by omega)
            rw [e1, e2] at this
            first | exact this | (rw [show xdA n σ w k i + xzN σ i - (xdC n σ w k i + y) = xdA n σ w k i - xdC n σ w k i + (xzN σ i - y) by omega] at this; exact this)
          · have yes : xthere σ w i ∧ xsit n σ w (xun σ w i) = k := (xsitV_k hd hk).1 (by first | exact c34 | exact Classical.not_not.1 c34)
            have e1 : xdA n σ w k (i + 1) = xdA n σ w k i + xzN σ i := by rw [xdA, if_pos yes]
            have e2 : xdC n σ w k (i + 1) = xdC n σ w k i + y := by rw [xdC, if_pos yes, hy]
            refine P.iload_n (pc := 37) 3 dX8_dinners_37 rfl rfl ?_
            refine P.aload_n (pc := 38) 1 dX8_dinners_38 rfl rfl ?_
            refine P.getR (pc := 39) fl_X8_82 dX8_dinners_39 rfl rfl ?_
            refine P.iload (pc := 42) 5 dX8_dinners_42 rfl ?_
            refine P.iaN (pc := 44) (i) dX8_dinners_44 rfl rfl rfl (by first | omega | grind [nT]) ?_
            rw [a6, z3]
            refine P.aload_n (pc := 45) 1 dX8_dinners_45 rfl rfl ?_
            refine P.getR (pc := 46) fl_X8_103 dX8_dinners_46 rfl rfl ?_
            refine P.iload (pc := 49) 5 dX8_dinners_49 rfl ?_
            refine P.iaN (pc := 51) (i) dX8_dinners_51 rfl rfl rfl (by first | omega | grind [nT]) ?_
            rw [a7, y2]
            refine P.isub (pc := 52) dX8_dinners_52 ?_
            rw [nJ_sb (by omega) y1]
            refine P.iadd (pc := 53) dX8_dinners_53 ?_
            rw [nI_add]
            refine P.istore_n (pc := 54) 3 dX8_dinners_54 rfl (by decide) rfl ?_
            refine P.iload (pc := 55) 4 dX8_dinners_55 rfl ?_
            refine P.aload_n (pc := 57) 1 dX8_dinners_57 rfl rfl ?_
            refine P.getR (pc := 58) fl_X8_103 dX8_dinners_58 rfl rfl ?_
            refine P.iload (pc := 61) 5 dX8_dinners_61 rfl ?_
            refine P.iaN (pc := 63) (i) dX8_dinners_63 rfl rfl rfl (by first | omega | grind [nT]) ?_
            rw [a7, y2]
            refine P.iadd (pc := 64) dX8_dinners_64 ?_
            rw [nI_add]
            refine P.istore (pc := 65) 4 dX8_dinners_65 (by decide) rfl ?_
            refine P.iinc (pc := 67) 5 1 dX8_dinners_67 rfl (by decide) (by decide) rfl ?_
            rw [nI_1]
            refine P.goto (pc := 70) 18 dX8_dinners_70 (by decide) ?_
            have := ih (i + 1) (by omega)
            rw [e1, e2] at this
            first | exact this | (rw [show xdA n σ w k i + xzN σ i - (xdC n σ w k i + y) = xdA n σ w k i - xdC n σ w k i + (xzN σ i - y) by omega] at this; exact this)
    refine P.aload_n (pc := 0) 0 dX8_dinners_0 rfl rfl ?_
    refine P.getI (pc := 1) fl_X8_20 dX8_dinners_1 rfl rfl ?_
    refine P.iconst (pc := 4) (v := -1) dX8_dinners_4 (by decide) ?_
    refine P.icne (pc := 5) 10 dX8_dinners_5 (by decide) (fun c5 => ?_) (fun c5 => ?_)
    · skip
      refine P.iconst (pc := 10) (v := 0) dX8_dinners_10 (by decide) ?_
      refine P.istore_n (pc := 11) 3 dX8_dinners_11 rfl (by decide) rfl ?_
      refine P.iconst (pc := 12) (v := 0) dX8_dinners_12 (by decide) ?_
      refine P.istore (pc := 13) 4 dX8_dinners_13 (by decide) rfl ?_
      refine P.iconst (pc := 15) (v := 0) dX8_dinners_15 (by decide) ?_
      refine P.istore (pc := 16) 5 dX8_dinners_16 (by decide) rfl ?_
      exact lp (n 1) 0 (by omega)
    · exact absurd (e7.symm.trans c5) hd--.
theorem sp_X9_apart {n : Nat → Nat} {σ M : xM} (I : Iv n σ) (R : RX n σ M) (w : Int32) : SpI mX9_apart [.ref 0, .int w] M (PX (o_apart n σ w) M) := by
  refine P.iload_n (pc := 0) 1 dX9_apart_0 rfl rfl ?_
  refine P.S1F (pc := 1) cs_X9_apart_104 dX9_apart_1 rfl rfl (sp_X9_isWeek _ _) ?_
  refine P.ifneB (pc := 4) 10 dX9_apart_4 (by decide) (fun c4 => ?_) (fun c4 => ?_)
  · have c4 := c4
    refine P.aload_n (pc := 10) 0 dX9_apart_10 rfl rfl ?_
    refine P.getR (pc := 11) fl_X9_19 dX9_apart_11 rfl rfl ?_
    refine P.aload_n (pc := 14) 0 dX9_apart_14 rfl rfl ?_
    refine P.getR (pc := 15) fl_X9_10 dX9_apart_15 rfl rfl ?_
    refine P.getR (pc := 18) fl_X9_68 dX9_apart_18 rfl rfl ?_
    refine P.iload_n (pc := 21) 1 dX9_apart_21 rfl rfl ?_
    refine P.V2V (pc := 22) cs_X9_apart_108 dX9_apart_22 rfl rfl rfl (sp_X8_arrange I R w) (fun M22 h22 => ?_)
    refine P.aload_n (pc := 25) 0 dX9_apart_25 rfl rfl ?_
    refine P.getR (pc := 26) fl_X9_19 dX9_apart_26 rfl rfl ?_
    refine P.getI (pc := 29) fl_X9_112 dX9_apart_29 rfl rfl ?_
    refine P.iret (pc := 32) dX9_apart_32 rfl ?_
    exact pxI (by rw [o_apart, if_neg (fun z => z c4), h22.2.1]) (h22.fr R).1 (h22.fr R).2
  · refine P.bipush (pc := 7) (v := -2) dX9_apart_7 (by decide) ?_
    refine P.iret (pc := 9) dX9_apart_9 rfl ?_
    exact pxI (by rw [o_apart, if_pos c4]) R frX.rf
theorem sp_X9_sits {n : Nat → Nat} {σ M : xM} (I : Iv n σ) (R : RX n σ M) (p w : Int32) : SpI mX9_sits [.ref 0, .int p, .int w] M (PX (o_sits n σ p w) M) := by
  have np : M 5 7 = nI (n 1) := R.2.2 (5, 7, 1) (by decide)
  have b2 : n 1 ≤ 24 := I.1.2.1
  by_cases hp : xin (n 1) p
  · obtain ⟨j, hj, ej⟩ : ∃ j, j < n 1 ∧ p = nI j := hp
    have cl : p.toNatClampNeg = j := by rw [ej, nI_clamp (by omega)]
    have xi : xin (n 1) p := ⟨j, hj, ej⟩
    subst ej
    refine P.aload_n (pc := 0) 0 dX9_sits_0 rfl rfl ?_
    refine P.getR (pc := 1) fl_X9_10 dX9_sits_1 rfl rfl ?_
    refine P.getR (pc := 4) fl_X9_68 dX9_sits_4 rfl rfl ?_
    refine P.iload_n (pc := 7) 1 dX9_sits_7 rfl rfl ?_
    refine P.V1F (pc := 8) cs_X9_sits_115 dX9_sits_8 rfl rfl rfl (sp_X4_has np b2 _) ?_
    refine P.ifeqB (pc := 11) 21 dX9_sits_11 (by decide) (fun c11 => ?_) (fun c11 => ?_)
    · exact absurd xi c11--.
    · refine P.iload_n (pc := 14) 2 dX9_sits_14 rfl rfl ?_
      refine P.S1F (pc := 15) cs_X9_sits_104 dX9_sits_15 rfl rfl (sp_X9_isWeek _ _) ?_
      refine P.ifneB (pc := 18) 24 dX9_sits_18 (by decide) (fun c18 => ?_) (fun c18 => ?_)
      · refine P.aload_n (pc := 24) 0 dX9_sits_24 rfl rfl ?_
        refine P.getR (pc := 25) fl_X9_19 dX9_sits_25 rfl rfl ?_
        refine P.aload_n (pc := 28) 0 dX9_sits_28 rfl rfl ?_
        refine P.getR (pc := 29) fl_X9_10 dX9_sits_29 rfl rfl ?_
        refine P.getR (pc := 32) fl_X9_68 dX9_sits_32 rfl rfl ?_
        refine P.iload_n (pc := 35) 2 dX9_sits_35 rfl rfl ?_
        refine P.V2V (pc := 36) cs_X9_sits_108 dX9_sits_36 rfl rfl rfl (sp_X8_arrange I R w) (fun M36 h36 => ?_)
        refine P.aload_n (pc := 39) 0 dX9_sits_39 rfl rfl ?_
        refine P.getR (pc := 40) fl_X9_19 dX9_sits_40 rfl rfl ?_
        refine P.iload_n (pc := 43) 1 dX9_sits_43 rfl rfl ?_
        refine P.V1F (pc := 44) cs_X9_sits_118 dX9_sits_44 rfl rfl rfl (sp_X8_sittingOf I h36 hj) ?_
        refine P.iret (pc := 47) dX9_sits_47 rfl ?_
        exact pxI (by rw [o_sits, if_neg (fun z => z ⟨xi, c18⟩), cl, xsitV]; split <;> rfl) (h36.fr R).1 (h36.fr R).2
      · refine P.bipush (pc := 21) (v := -2) dX9_sits_21 (by decide) ?_
        refine P.iret (pc := 23) dX9_sits_23 rfl ?_
        exact pxI (by rw [o_sits, if_pos (fun z => c18 z.2)]) R frX.rf
  · skip
    refine P.aload_n (pc := 0) 0 dX9_sits_0 rfl rfl ?_
    refine P.getR (pc := 1) fl_X9_10 dX9_sits_1 rfl rfl ?_
    refine P.getR (pc := 4) fl_X9_68 dX9_sits_4 rfl rfl ?_
    refine P.iload_n (pc := 7) 1 dX9_sits_7 rfl rfl ?_
    refine P.V1F (pc := 8) cs_X9_sits_115 dX9_sits_8 rfl rfl rfl (sp_X4_has np b2 _) ?_
    refine P.ifeqB (pc := 11) 21 dX9_sits_11 (by decide) (fun c11 => ?_) (fun c11 => ?_)
    · refine P.bipush (pc := 21) (v := -2) dX9_sits_21 (by decide) ?_
      refine P.iret (pc := 23) dX9_sits_23 rfl ?_
      exact pxI (by rw [o_sits, if_pos (fun z => hp z.1)]) R frX.rf
    · exact absurd c11 hp--.
theorem sp_X9_foretell {n : Nat → Nat} {σ M : xM} (I : Iv n σ) (R : RX n σ M) (w k : Int32) : SpI mX9_foretell [.ref 0, .int w, .int k] M (PX (o_foretell n σ w k) M) := by
  refine P.iload_n (pc := 0) 1 dX9_foretell_0 rfl rfl ?_
  refine P.S1F (pc := 1) cs_X9_foretell_104 dX9_foretell_1 rfl rfl (sp_X9_isWeek _ _) ?_
  refine P.ifeqB (pc := 4) 16 dX9_foretell_4 (by decide) (fun c4 => ?_) (fun c4 => ?_)
  · refine P.bipush (pc := 16) (v := -2) dX9_foretell_16 (by decide) ?_
    refine P.iret (pc := 18) dX9_foretell_18 rfl ?_
    first | exact pxI (by rw [o_foretell, if_pos (fun z => c4 ⟨z.1, z.2.1⟩)]) R frX.rf | exact pxI (by rw [o_foretell, if_pos (fun z => c13 z.2.2)]) R frX.rf
  · refine P.iload_n (pc := 7) 2 dX9_foretell_7 rfl rfl ?_
    refine P.iconst (pc := 8) (v := 0) dX9_foretell_8 (by decide) ?_
    refine P.iconst (pc := 9) (v := 1) dX9_foretell_9 (by decide) ?_
    refine P.S3F (pc := 10) cs_X9_foretell_124 dX9_foretell_10 rfl rfl (sp_X9_within _ _ _ _) ?_
    refine P.ifneB (pc := 13) 19 dX9_foretell_13 (by decide) (fun c13 => ?_) (fun c13 => ?_)
    · refine P.aload_n (pc := 19) 0 dX9_foretell_19 rfl rfl ?_
      refine P.getR (pc := 20) fl_X9_19 dX9_foretell_20 rfl rfl ?_
      refine P.aload_n (pc := 23) 0 dX9_foretell_23 rfl rfl ?_
      refine P.getR (pc := 24) fl_X9_10 dX9_foretell_24 rfl rfl ?_
      refine P.getR (pc := 27) fl_X9_68 dX9_foretell_27 rfl rfl ?_
      refine P.iload_n (pc := 30) 1 dX9_foretell_30 rfl rfl ?_
      refine P.V2V (pc := 31) cs_X9_foretell_108 dX9_foretell_31 rfl rfl rfl (sp_X8_arrange I R w) (fun M31 h31 => ?_)
      refine P.aload_n (pc := 34) 0 dX9_foretell_34 rfl rfl ?_
      refine P.getR (pc := 35) fl_X9_19 dX9_foretell_35 rfl rfl ?_
      refine P.aload_n (pc := 38) 0 dX9_foretell_38 rfl rfl ?_
      refine P.getR (pc := 39) fl_X9_10 dX9_foretell_39 rfl rfl ?_
      refine P.getR (pc := 42) fl_X9_68 dX9_foretell_42 rfl rfl ?_
      refine P.iload_n (pc := 45) 2 dX9_foretell_45 rfl rfl ?_
      refine P.V2F (pc := 46) cs_X9_foretell_128 dX9_foretell_46 rfl rfl rfl (sp_X8_dinners I R h31 (fun z => absurd (z ▸ c13.1) (by decide))) ?_
      refine P.iret (pc := 49) dX9_foretell_49 rfl ?_
      exact pxI (by rw [o_foretell, if_neg (fun z => z ⟨c4.1, c4.2, c13.1, c13.2⟩)]) (h31.fr R).1 (h31.fr R).2
    · refine P.bipush (pc := 16) (v := -2) dX9_foretell_16 (by decide) ?_
      refine P.iret (pc := 18) dX9_foretell_18 rfl ?_
      first | exact pxI (by rw [o_foretell, if_pos (fun z => c4 ⟨z.1, z.2.1⟩)]) R frX.rf | exact pxI (by rw [o_foretell, if_pos (fun z => c13 z.2.2)]) R frX.rf
theorem xdin_le {n : Nat → Nat} {σ : xM} (I : Iv n σ) (w k : Int32) : xdin n σ w k ≤ 1000 := by
  have := xd_le I w k (n 1) (Nat.le_refl _)
  have := I.1.2.1
  rw [xdin]; omega
theorem sp_X9_cook {n : Nat → Nat} {σ M : xM} (I : Iv n σ) (R : RX n σ M) (w k c : Int32) : SpI mX9_cook [.ref 0, .int w, .int k, .int c] M (PX (o_cook n σ w k c) M) := by
  by_cases hw : 0 ≤ w ∧ w ≤ 9 ∧ 0 ≤ k ∧ k ≤ 1
  · have of : o_foretell n σ w k = (xdinV n σ w k, n, σ) := by rw [o_foretell, if_neg (fun z => z hw)]
    by_cases hd : xdiff n σ w = -1
    · have e : xdinV n σ w k = -1 := by rw [xdinV, if_pos hd]
      rw [e] at of
      refine P.iload_n (pc := 0) 3 dX9_cook_0 rfl rfl ?_
      refine P.iconst (pc := 1) (v := 0) dX9_cook_1 (by decide) ?_
      refine P.sipush (pc := 2) (v := 500) dX9_cook_2 (by decide) ?_
      refine P.S3F (pc := 5) cs_X9_cook_124 dX9_cook_5 rfl rfl (sp_X9_within _ _ _ _) ?_
      refine P.ifneB (pc := 8) 14 dX9_cook_8 (by decide) (fun c8 => ?_) (fun c8 => ?_)
      · refine P.aload_n (pc := 14) 0 dX9_cook_14 rfl rfl ?_
        refine P.iload_n (pc := 15) 1 dX9_cook_15 rfl rfl ?_
        refine P.iload_n (pc := 16) 2 dX9_cook_16 rfl rfl ?_
        refine P.V2I (pc := 17) cs_X9_cook_132 dX9_cook_17 rfl rfl rfl (sp_X9_foretell I R w k) (fun v17 M17 h17 => ?_)
        rw [of] at h17
        obtain ⟨g1, g2, g3⟩ := h17
        subst g1
        refine P.istore (pc := 20) 4 dX9_cook_20 (by decide) rfl ?_
        refine P.iload (pc := 22) 4 dX9_cook_22 rfl ?_
        refine P.bipush (pc := 24) (v := -2) dX9_cook_24 (by decide) ?_
        refine P.icne (pc := 26) 32 dX9_cook_26 (by decide) (fun c26 => ?_) (fun c26 => ?_)
        · refine P.iload (pc := 32) 4 dX9_cook_32 rfl ?_
          refine P.iconst (pc := 34) (v := -1) dX9_cook_34 (by decide) ?_
          refine P.icne (pc := 35) 43 dX9_cook_35 (by decide) (fun c35 => ?_) (fun c35 => ?_)
          · exact absurd rfl c35--.
          · refine P.bipush (pc := 38) (v := -3) dX9_cook_38 (by decide) ?_
            refine P.goto (pc := 40) 55 dX9_cook_40 (by decide) ?_
            refine P.iret (pc := 55) dX9_cook_55 rfl ?_
            exact pxI (by rw [o_cook, if_neg (fun z => z ⟨hw.1, hw.2.1, hw.2.2.1, hw.2.2.2, c8⟩), if_pos e]) g2 g3
        · exact absurd c26 (show ¬ (-1 : Int32) = -2 by decide)--.
      · refine P.bipush (pc := 11) (v := -2) dX9_cook_11 (by decide) ?_
        refine P.iret (pc := 13) dX9_cook_13 rfl ?_
        exact pxI (by rw [o_cook, if_pos (fun z => c8 z.2.2.2.2)]) R frX.rf
    · have e : xdinV n σ w k = nI (xdin n σ w k) := by rw [xdinV, if_neg hd]
      have le := xdin_le I w k
      have ne : ¬ nI (xdin n σ w k) = -1 := nI_ne (by omega)
      rw [e] at of
      refine P.iload_n (pc := 0) 3 dX9_cook_0 rfl rfl ?_
      refine P.iconst (pc := 1) (v := 0) dX9_cook_1 (by decide) ?_
      refine P.sipush (pc := 2) (v := 500) dX9_cook_2 (by decide) ?_
      refine P.S3F (pc := 5) cs_X9_cook_124 dX9_cook_5 rfl rfl (sp_X9_within _ _ _ _) ?_
      refine P.ifneB (pc := 8) 14 dX9_cook_8 (by decide) (fun c8 => ?_) (fun c8 => ?_)
      · refine P.aload_n (pc := 14) 0 dX9_cook_14 rfl rfl ?_
        refine P.iload_n (pc := 15) 1 dX9_cook_15 rfl rfl ?_
        refine P.iload_n (pc := 16) 2 dX9_cook_16 rfl rfl ?_
        refine P.V2I (pc := 17) cs_X9_cook_132 dX9_cook_17 rfl rfl rfl (sp_X9_foretell I R w k) (fun v17 M17 h17 => ?_)
        rw [of] at h17
        obtain ⟨g1, g2, g3⟩ := h17
        subst g1
        refine P.istore (pc := 20) 4 dX9_cook_20 (by decide) rfl ?_
        refine P.iload (pc := 22) 4 dX9_cook_22 rfl ?_
        refine P.bipush (pc := 24) (v := -2) dX9_cook_24 (by decide) ?_
        refine P.icne (pc := 26) 32 dX9_cook_26 (by decide) (fun c26 => ?_) (fun c26 => ?_)
        · refine P.iload (pc := 32) 4 dX9_cook_32 rfl ?_
          refine P.iconst (pc := 34) (v := -1) dX9_cook_34 (by decide) ?_
          refine P.icne (pc := 35) 43 dX9_cook_35 (by decide) (fun c35 => ?_) (fun c35 => ?_)
          · refine P.aload_n (pc := 43) 0 dX9_cook_43 rfl rfl ?_
            refine P.getR (pc := 44) fl_X9_26 dX9_cook_44 rfl rfl ?_
            refine P.iload_n (pc := 47) 1 dX9_cook_47 rfl rfl ?_
            refine P.iload_n (pc := 48) 2 dX9_cook_48 rfl rfl ?_
            refine P.iload (pc := 49) 4 dX9_cook_49 rfl ?_
            refine P.iload_n (pc := 51) 3 dX9_cook_51 rfl rfl ?_
            refine P.V4I (pc := 52) cs_X9_cook_135 dX9_cook_52 rfl rfl rfl (sp_X2_serve I g2 w k c le) (fun v52 M52 h52 => ?_)
            refine P.iret (pc := 55) dX9_cook_55 rfl ?_
            exact ⟨_, rfl, by rw [o_cook, if_neg (fun z => z ⟨hw.1, hw.2.1, hw.2.2.1, hw.2.2.2, c8⟩), if_neg (by rw [e]; exact ne), e]; exact ⟨h52.1, h52.2.1, g3.tr h52.2.2⟩⟩
          · exact absurd c35 ne--.
        · exact absurd c26 (by grind [nT])--.
      · refine P.bipush (pc := 11) (v := -2) dX9_cook_11 (by decide) ?_
        refine P.iret (pc := 13) dX9_cook_13 rfl ?_
        exact pxI (by rw [o_cook, if_pos (fun z => c8 z.2.2.2.2)]) R frX.rf
  · have of : o_foretell n σ w k = (-2, n, σ) := by rw [o_foretell, if_pos hw]
    refine P.iload_n (pc := 0) 3 dX9_cook_0 rfl rfl ?_
    refine P.iconst (pc := 1) (v := 0) dX9_cook_1 (by decide) ?_
    refine P.sipush (pc := 2) (v := 500) dX9_cook_2 (by decide) ?_
    refine P.S3F (pc := 5) cs_X9_cook_124 dX9_cook_5 rfl rfl (sp_X9_within _ _ _ _) ?_
    refine P.ifneB (pc := 8) 14 dX9_cook_8 (by decide) (fun c8 => ?_) (fun c8 => ?_)
    · refine P.aload_n (pc := 14) 0 dX9_cook_14 rfl rfl ?_
      refine P.iload_n (pc := 15) 1 dX9_cook_15 rfl rfl ?_
      refine P.iload_n (pc := 16) 2 dX9_cook_16 rfl rfl ?_
      refine P.V2I (pc := 17) cs_X9_cook_132 dX9_cook_17 rfl rfl rfl (sp_X9_foretell I R w k) (fun v17 M17 h17 => ?_)
      rw [of] at h17
      obtain ⟨g1, g2, g3⟩ := h17
      subst g1
      refine P.istore (pc := 20) 4 dX9_cook_20 (by decide) rfl ?_
      refine P.iload (pc := 22) 4 dX9_cook_22 rfl ?_
      refine P.bipush (pc := 24) (v := -2) dX9_cook_24 (by decide) ?_
      refine P.icne (pc := 26) 32 dX9_cook_26 (by decide) (fun c26 => ?_) (fun c26 => ?_)
      · exact absurd rfl c26--.
      · refine P.bipush (pc := 29) (v := -2) dX9_cook_29 (by decide) ?_
        refine P.iret (pc := 31) dX9_cook_31 rfl ?_
        exact pxI (by rw [o_cook, if_pos (fun z => hw ⟨z.1, z.2.1, z.2.2.1, z.2.2.2.1⟩)]) g2 g3
    · refine P.bipush (pc := 11) (v := -2) dX9_cook_11 (by decide) ?_
      refine P.iret (pc := 13) dX9_cook_13 rfl ?_
      exact pxI (by rw [o_cook, if_pos (fun z => c8 z.2.2.2.2)]) R frX.rf
