/-! the sittings: the reference: apart, sits, foretell, cook -/
theorem sp_X10_apart {n : Nat → Nat} {σ M : xM} (I : Iv n σ) (R : RM n σ M) (w : Int32) : SpI mX10_apart [.ref 46, .int w] M (PM (o_apart n σ w) M) := by
  refine P.iload_n (pc := 0) 1 dX10_apart_0 rfl rfl ?_
  refine P.S1F (pc := 1) cs_X10_apart_145 dX10_apart_1 rfl rfl (sp_X10_isWeek _ _) ?_
  refine P.ifeqB (pc := 4) 15 dX10_apart_4 (by decide) (fun c4 => ?_) (fun c4 => ?_)
  · refine P.bipush (pc := 15) (v := -2) dX10_apart_15 (by decide) ?_
    refine P.iret (pc := 17) dX10_apart_17 rfl ?_
    first | exact pmI (by rw [o_apart, if_neg (fun z => z c4), h9.1]) (R.fU h9.2.1.1) h9.2.1.1.M | exact pmI (by rw [o_apart, if_pos c4]) R frM.rf
  · refine P.aload_n (pc := 7) 0 dX10_apart_7 rfl rfl ?_
    refine P.iload_n (pc := 8) 1 dX10_apart_8 rfl rfl ?_
    refine P.V1I (pc := 9) cs_X10_apart_192 dX10_apart_9 rfl rfl rfl (sp_X10_findSittings I R w) (fun v9 M9 h9 => ?_)
    refine P.goto (pc := 12) 17 dX10_apart_12 (by decide) ?_
    refine P.iret (pc := 17) dX10_apart_17 rfl ?_
    first | exact pmI (by rw [o_apart, if_neg (fun z => z c4), h9.1]) (R.fU h9.2.1.1) h9.2.1.1.M | exact pmI (by rw [o_apart, if_pos c4]) R frM.rf
theorem sp_X10_sits {n : Nat → Nat} {σ M : xM} (I : Iv n σ) (R : RM n σ M) (p w : Int32) : SpI mX10_sits [.ref 46, .int p, .int w] M (PM (o_sits n σ p w) M) := by
  have np : M 46 3 = nI (n 1) := R.2.2.1 (3, 1) (by decide)
  have b2 : n 1 ≤ 24 := I.1.2.1
  by_cases hp : xin (n 1) p
  · obtain ⟨j, hj, ej⟩ : ∃ j, j < n 1 ∧ p = nI j := hp
    have cl : p.toNatClampNeg = j := by rw [ej, nI_clamp (by omega)]
    have xi : xin (n 1) p := ⟨j, hj, ej⟩
    subst ej
    refine P.aload_n (pc := 0) 0 dX10_sits_0 rfl rfl ?_
    refine P.iload_n (pc := 1) 1 dX10_sits_1 rfl rfl ?_
    refine P.V1F (pc := 2) cs_X10_sits_151 dX10_sits_2 rfl rfl rfl (sp_X10_isParty np b2 _) ?_
    refine P.ifeqB (pc := 5) 15 dX10_sits_5 (by decide) (fun c5 => ?_) (fun c5 => ?_)
    · exact absurd xi c5--.
    · refine P.iload_n (pc := 8) 2 dX10_sits_8 rfl rfl ?_
      refine P.S1F (pc := 9) cs_X10_sits_145 dX10_sits_9 rfl rfl (sp_X10_isWeek _ _) ?_
      refine P.ifneB (pc := 12) 18 dX10_sits_12 (by decide) (fun c12 => ?_) (fun c12 => ?_)
      · refine P.aload_n (pc := 18) 0 dX10_sits_18 rfl rfl ?_
        refine P.iload_n (pc := 19) 1 dX10_sits_19 rfl rfl ?_
        refine P.iload_n (pc := 20) 2 dX10_sits_20 rfl rfl ?_
        refine P.V2F (pc := 21) cs_X10_sits_174 dX10_sits_21 rfl rfl rfl (sp_X10_isThere I R hj w) ?_
        refine P.ifeqB (pc := 24) 36 dX10_sits_24 (by decide) (fun c24 => ?_) (fun c24 => ?_)
        · skip
          refine P.iconst (pc := 36) (v := -1) dX10_sits_36 (by decide) ?_
          refine P.goto (pc := 37) 51 dX10_sits_37 (by decide) ?_
          refine P.iret (pc := 51) dX10_sits_51 rfl ?_
          first
          | (have q := eqd; exact pmI (by rw [o_sits, if_neg (fun z => z ⟨xi, c12⟩), cl, if_pos (Or.inr eqd)]) (R.fU g2.1) g2.1.M)
          | (have q := ne; exact pmI (by rw [o_sits, if_neg (fun z => z ⟨xi, c12⟩), cl, if_neg (fun z => z.elim (fun q => q c24) ne)]) (R.fU g2.1) g2.1.M)
          | exact pmI (by rw [o_sits, if_neg (fun z => z ⟨xi, c12⟩), cl, if_pos (Or.inl c24)]) R frM.rf
        · refine P.aload_n (pc := 27) 0 dX10_sits_27 rfl rfl ?_
          refine P.iload_n (pc := 28) 2 dX10_sits_28 rfl rfl ?_
          refine P.V1I (pc := 29) cs_X10_sits_192 dX10_sits_29 rfl rfl rfl (sp_X10_findSittings I R w) (fun v29 M29 h29 => ?_)
          obtain ⟨g1, g2, g3⟩ := h29
          refine P.iconst (pc := 32) (v := -1) dX10_sits_32 (by decide) ?_
          refine P.icne (pc := 33) 40 dX10_sits_33 (by decide) (fun c33 => ?_) (fun c33 => ?_)
          · have ne : ¬ xdiff n σ w = -1 := by rw [← g1]; exact c33
            have ltu := xB_un hj c24
            have B := xB_le I w
            refine P.aload_n (pc := 40) 0 dX10_sits_40 rfl rfl ?_
            refine P.getR (pc := 41) fl_X10_54 dX10_sits_41 rfl rfl ?_
            refine P.aload_n (pc := 44) 0 dX10_sits_44 rfl rfl ?_
            refine P.getR (pc := 45) fl_X10_44 dX10_sits_45 rfl rfl ?_
            refine P.iload_n (pc := 48) 1 dX10_sits_48 rfl rfl ?_
            refine P.iaN (pc := 49) (j) dX10_sits_49 rfl rfl rfl (by first | omega | grind [nT]) ?_
            rw [(g2.2.2.1 j hj).1 c24]
            refine P.iaN (pc := 50) (xun σ w j) dX10_sits_50 rfl rfl rfl (by first | omega | grind [nT]) ?_
            rw [g3 ne _ ltu]
            refine P.iret (pc := 51) dX10_sits_51 rfl ?_
            first
            | (have q := eqd; exact pmI (by rw [o_sits, if_neg (fun z => z ⟨xi, c12⟩), cl, if_pos (Or.inr eqd)]) (R.fU g2.1) g2.1.M)
            | (have q := ne; exact pmI (by rw [o_sits, if_neg (fun z => z ⟨xi, c12⟩), cl, if_neg (fun z => z.elim (fun q => q c24) ne)]) (R.fU g2.1) g2.1.M)
            | exact pmI (by rw [o_sits, if_neg (fun z => z ⟨xi, c12⟩), cl, if_pos (Or.inl c24)]) R frM.rf
          · have eqd : xdiff n σ w = -1 := by rw [← g1]; first | exact c33 | exact Classical.not_not.1 c33
            refine P.iconst (pc := 36) (v := -1) dX10_sits_36 (by decide) ?_
            refine P.goto (pc := 37) 51 dX10_sits_37 (by decide) ?_
            refine P.iret (pc := 51) dX10_sits_51 rfl ?_
            first
            | (have q := eqd; exact pmI (by rw [o_sits, if_neg (fun z => z ⟨xi, c12⟩), cl, if_pos (Or.inr eqd)]) (R.fU g2.1) g2.1.M)
            | (have q := ne; exact pmI (by rw [o_sits, if_neg (fun z => z ⟨xi, c12⟩), cl, if_neg (fun z => z.elim (fun q => q c24) ne)]) (R.fU g2.1) g2.1.M)
            | exact pmI (by rw [o_sits, if_neg (fun z => z ⟨xi, c12⟩), cl, if_pos (Or.inl c24)]) R frM.rf
      · refine P.bipush (pc := 15) (v := -2) dX10_sits_15 (by decide) ?_
        refine P.iret (pc := 17) dX10_sits_17 rfl ?_
        exact pmI (by rw [o_sits, if_pos (fun z => c12 z.2)]) R frM.rf
  · skip
    refine P.aload_n (pc := 0) 0 dX10_sits_0 rfl rfl ?_
    refine P.iload_n (pc := 1) 1 dX10_sits_1 rfl rfl ?_
    refine P.V1F (pc := 2) cs_X10_sits_151 dX10_sits_2 rfl rfl rfl (sp_X10_isParty np b2 _) ?_
    refine P.ifeqB (pc := 5) 15 dX10_sits_5 (by decide) (fun c5 => ?_) (fun c5 => ?_)
    · refine P.bipush (pc := 15) (v := -2) dX10_sits_15 (by decide) ?_
      refine P.iret (pc := 17) dX10_sits_17 rfl ?_
      exact pmI (by rw [o_sits, if_pos (fun z => hp z.1)]) R frM.rf
    · exact absurd c5 hp--.
theorem sp_X10_dinners {n : Nat → Nat} {σ M : xM} (I : Iv n σ) (R : RM n σ M) (w k : Int32) : SpI mX10_dinners [.ref 46, .int w, .int k] M (fun v M' => v = xdinV n σ w k ∧ fU M M') := by
  have b2 : n 1 ≤ 24 := I.1.2.1
  have lp : ∀ (M1 : xM) (h : ZA n σ w M M1) (hd : ¬ xdiff n σ w = -1) (r i : Nat), i + r = n 1 → P mX10_dinners 19 [some (.ref 46), some (.int w), some (.int k), some (.int (nI (xdA n σ w k i))), some (.int (nI (xdC n σ w k i))), some (.int (nI i))] [] M1 (fun r M' => ∃ v, r = some (.int v) ∧ v = xdinV n σ w k ∧ fU M M') := by
    intro M1 h hd r
    have R1 := R.fU h.1.1
    have em : M1 46 3 = nI (n 1) := R1.2.2.1 (3, 1) (by decide)
    have a6 : M1 49 = σ 6 := R1.1 (49, 6) (by decide)
    have a7 : M1 50 = σ 7 := R1.1 (50, 7) (by decide)
    induction r with
    | zero =>
      intro i hi
      have hi : i = n 1 := hi
      subst hi
      have := xd_le I w k (n 1) (Nat.le_refl _)
      refine P.iload (pc := 19) 5 dX10_dinners_19 rfl ?_
      refine P.aload_n (pc := 21) 0 dX10_dinners_21 rfl rfl ?_
      refine P.getI (pc := 22) fl_X10_136 dX10_dinners_22 rfl rfl ?_
      rw [em]
      refine P.icge (pc := 25) 83 dX10_dinners_25 (by decide) (fun c25 => ?_) (fun c25 => ?_)
      · refine P.iload_n (pc := 83) 3 dX10_dinners_83 rfl rfl ?_
        refine P.iload (pc := 84) 4 dX10_dinners_84 rfl ?_
        refine P.isub (pc := 86) dX10_dinners_86 ?_
        rw [nJ_sb (by omega) (by omega)]
        refine P.iload (pc := 87) 4 dX10_dinners_87 rfl ?_
        refine P.iconst (pc := 89) (v := 2) dX10_dinners_89 (by decide) ?_
        refine P.idiv (pc := 90) dX10_dinners_90 (by decide) ?_
        rw [nJ_half (by omega)]
        refine P.iadd (pc := 91) dX10_dinners_91 ?_
        rw [nI_add]
        refine P.iret (pc := 92) dX10_dinners_92 rfl ?_
        exact ⟨_, rfl, by rw [xdinV, if_neg hd, xdin], h.1.1⟩
      · exact absurd (Int32.le_refl _) c25--.
    | succ r ih =>
      intro i hi
      have B := xB_le I w
      obtain ⟨z1, z2, z3⟩ := xzN_in I (p := i) (by omega)
      obtain ⟨y1, y2⟩ := kid_in I (p := i) (by omega)
      obtain ⟨y, hy⟩ : ∃ y, (σ 7 i).toNatClampNeg = y := ⟨_, rfl⟩
      rw [hy] at y1 y2
      have u57 := h.1.2.2.1 i (by omega)
      by_cases th : xthere σ w i
      · have lt := xB_un (show i < n 1 by omega) th
        have e57 := u57.1 th
        have e60 := h.2 hd _ lt
        refine P.iload (pc := 19) 5 dX10_dinners_19 rfl ?_
        refine P.aload_n (pc := 21) 0 dX10_dinners_21 rfl rfl ?_
        refine P.getI (pc := 22) fl_X10_136 dX10_dinners_22 rfl rfl ?_
        rw [em]
        refine P.icge (pc := 25) 83 dX10_dinners_25 (by decide) (fun c25 => ?_) (fun c25 => ?_)
        · exact absurd c25 (nI_ge (by omega) (by omega))--.
        · refine P.aload_n (pc := 28) 0 dX10_dinners_28 rfl rfl ?_
          refine P.getR (pc := 29) fl_X10_44 dX10_dinners_29 rfl rfl ?_
          refine P.iload (pc := 32) 5 dX10_dinners_32 rfl ?_
          refine P.iaN (pc := 34) (i) dX10_dinners_34 rfl rfl rfl (by first | omega | grind [nT]) ?_
          rw [e57]
          refine P.iconst (pc := 35) (v := -1) dX10_dinners_35 (by decide) ?_
          refine P.iceq (pc := 36) 77 dX10_dinners_36 (by decide) (fun c36 => ?_) (fun c36 => ?_)
          · exact absurd c36 (nI_ne (by omega))--.
          · refine P.aload_n (pc := 39) 0 dX10_dinners_39 rfl rfl ?_
            refine P.getR (pc := 40) fl_X10_54 dX10_dinners_40 rfl rfl ?_
            refine P.aload_n (pc := 43) 0 dX10_dinners_43 rfl rfl ?_
            refine P.getR (pc := 44) fl_X10_44 dX10_dinners_44 rfl rfl ?_
            refine P.iload (pc := 47) 5 dX10_dinners_47 rfl ?_
            refine P.iaN (pc := 49) (i) dX10_dinners_49 rfl rfl rfl (by first | omega | grind [nT]) ?_
            rw [e57]
            refine P.iaN (pc := 50) (xun σ w i) dX10_dinners_50 rfl rfl rfl (by first | omega | grind [nT]) ?_
            rw [e60]
            refine P.iload_n (pc := 51) 2 dX10_dinners_51 rfl rfl ?_
            refine P.icne (pc := 52) 77 dX10_dinners_52 (by decide) (fun c52 => ?_) (fun c52 => ?_)
            · have e1 : xdA n σ w k (i + 1) = xdA n σ w k i := by rw [xdA, if_neg (fun z => c52 z.2)]
              have e2 : xdC n σ w k (i + 1) = xdC n σ w k i := by rw [xdC, if_neg (fun z => c52 z.2)]
              refine P.iinc (pc := 77) 5 1 dX10_dinners_77 rfl (by decide) (by decide) rfl ?_
              rw [nI_1]
              refine P.goto (pc := 80) 19 dX10_dinners_80 (by decide) ?_
              have := ih (i + 1) (by omega)
              rw [e1, e2] at this
              exact this
            · have yes : xsit n σ w (xun σ w i) = k := by first | exact c52 | exact Classical.not_not.1 c52
              have e1 : xdA n σ w k (i + 1) = xdA n σ w k i + xzN σ i := by rw [xdA, if_pos ⟨th, yes⟩]
              have e2 : xdC n σ w k (i + 1) = xdC n σ w k i + y := by rw [xdC, if_pos ⟨th, yes⟩, hy]
              refine P.iload_n (pc := 55) 3 dX10_dinners_55 rfl rfl ?_
              refine P.aload_n (pc := 56) 0 dX10_dinners_56 rfl rfl ?_
              refine P.getR (pc := 57) fl_X10_16 dX10_dinners_57 rfl rfl ?_
              refine P.iload (pc := 60) 5 dX10_dinners_60 rfl ?_
              refine P.iaN (pc := 62) (i) dX10_dinners_62 rfl rfl rfl (by first | omega | grind [nT]) ?_
              rw [a6, z3]
              refine P.iadd (pc := 63) dX10_dinners_63 ?_
              rw [nI_add]
              refine P.istore_n (pc := 64) 3 dX10_dinners_64 rfl (by decide) rfl ?_
              refine P.iload (pc := 65) 4 dX10_dinners_65 rfl ?_
              refine P.aload_n (pc := 67) 0 dX10_dinners_67 rfl rfl ?_
              refine P.getR (pc := 68) fl_X10_19 dX10_dinners_68 rfl rfl ?_
              refine P.iload (pc := 71) 5 dX10_dinners_71 rfl ?_
              refine P.iaN (pc := 73) (i) dX10_dinners_73 rfl rfl rfl (by first | omega | grind [nT]) ?_
              rw [a7, y2]
              refine P.iadd (pc := 74) dX10_dinners_74 ?_
              rw [nI_add]
              refine P.istore (pc := 75) 4 dX10_dinners_75 (by decide) rfl ?_
              refine P.iinc (pc := 77) 5 1 dX10_dinners_77 rfl (by decide) (by decide) rfl ?_
              rw [nI_1]
              refine P.goto (pc := 80) 19 dX10_dinners_80 (by decide) ?_
              have := ih (i + 1) (by omega)
              rw [e1, e2] at this
              exact this
      · have e57 := u57.2 th
        have e1 : xdA n σ w k (i + 1) = xdA n σ w k i := by rw [xdA, if_neg (fun z => th z.1)]
        have e2 : xdC n σ w k (i + 1) = xdC n σ w k i := by rw [xdC, if_neg (fun z => th z.1)]
        refine P.iload (pc := 19) 5 dX10_dinners_19 rfl ?_
        refine P.aload_n (pc := 21) 0 dX10_dinners_21 rfl rfl ?_
        refine P.getI (pc := 22) fl_X10_136 dX10_dinners_22 rfl rfl ?_
        rw [em]
        refine P.icge (pc := 25) 83 dX10_dinners_25 (by decide) (fun c25 => ?_) (fun c25 => ?_)
        · exact absurd c25 (nI_ge (by omega) (by omega))--.
        · refine P.aload_n (pc := 28) 0 dX10_dinners_28 rfl rfl ?_
          refine P.getR (pc := 29) fl_X10_44 dX10_dinners_29 rfl rfl ?_
          refine P.iload (pc := 32) 5 dX10_dinners_32 rfl ?_
          refine P.iaN (pc := 34) (i) dX10_dinners_34 rfl rfl rfl (by first | omega | grind [nT]) ?_
          rw [e57]
          refine P.iconst (pc := 35) (v := -1) dX10_dinners_35 (by decide) ?_
          refine P.iceq (pc := 36) 77 dX10_dinners_36 (by decide) (fun c36 => ?_) (fun c36 => ?_)
          · refine P.iinc (pc := 77) 5 1 dX10_dinners_77 rfl (by decide) (by decide) rfl ?_
            rw [nI_1]
            refine P.goto (pc := 80) 19 dX10_dinners_80 (by decide) ?_
            have := ih (i + 1) (by omega)
            rw [e1, e2] at this
            exact this
          · exact absurd rfl c36--.
  refine P.aload_n (pc := 0) 0 dX10_dinners_0 rfl rfl ?_
  refine P.iload_n (pc := 1) 1 dX10_dinners_1 rfl rfl ?_
  refine P.V1I (pc := 2) cs_X10_dinners_192 dX10_dinners_2 rfl rfl rfl (sp_X10_findSittings I R w) (fun v2 M2 h2 => ?_)
  obtain ⟨g1, g2⟩ := h2
  refine P.iconst (pc := 5) (v := -1) dX10_dinners_5 (by decide) ?_
  refine P.icne (pc := 6) 11 dX10_dinners_6 (by decide) (fun c6 => ?_) (fun c6 => ?_)
  · have ne : ¬ xdiff n σ w = -1 := by rw [← g1]; exact c6
    refine P.iconst (pc := 11) (v := 0) dX10_dinners_11 (by decide) ?_
    refine P.istore_n (pc := 12) 3 dX10_dinners_12 rfl (by decide) rfl ?_
    refine P.iconst (pc := 13) (v := 0) dX10_dinners_13 (by decide) ?_
    refine P.istore (pc := 14) 4 dX10_dinners_14 (by decide) rfl ?_
    refine P.iconst (pc := 16) (v := 0) dX10_dinners_16 (by decide) ?_
    refine P.istore (pc := 17) 5 dX10_dinners_17 (by decide) rfl ?_
    exact lp _ g2 ne (n 1) 0 (by omega)
  · have ne : xdiff n σ w = -1 := by rw [← g1]; first | exact c6 | exact Classical.not_not.1 c6
    refine P.iconst (pc := 9) (v := -1) dX10_dinners_9 (by decide) ?_
    refine P.iret (pc := 10) dX10_dinners_10 rfl ?_
    exact ⟨_, rfl, by rw [xdinV, if_pos ne], g2.1.1⟩
theorem sp_X10_foretell {n : Nat → Nat} {σ M : xM} (I : Iv n σ) (R : RM n σ M) (w k : Int32) : SpI mX10_foretell [.ref 46, .int w, .int k] M (PM (o_foretell n σ w k) M) := by
  refine P.iload_n (pc := 0) 1 dX10_foretell_0 rfl rfl ?_
  refine P.S1F (pc := 1) cs_X10_foretell_145 dX10_foretell_1 rfl rfl (sp_X10_isWeek _ _) ?_
  refine P.ifeqB (pc := 4) 26 dX10_foretell_4 (by decide) (fun c4 => ?_) (fun c4 => ?_)
  · refine P.bipush (pc := 26) (v := -2) dX10_foretell_26 (by decide) ?_
    refine P.iret (pc := 28) dX10_foretell_28 rfl ?_
    first | exact pmI (by rw [o_foretell, if_neg (fun z => z ⟨c4.1, c4.2, c14.1, c14.2⟩), h20.1]) (R.fU h20.2) h20.2.M | exact pmI (by rw [o_foretell, if_pos (fun z => c4 ⟨z.1, z.2.1⟩)]) R frM.rf | exact pmI (by rw [o_foretell, if_pos (fun z => c14 z.2.2)]) R frM.rf
  · refine P.iload_n (pc := 7) 2 dX10_foretell_7 rfl rfl ?_
    refine P.i2l (pc := 8) dX10_foretell_8 ?_
    refine P.lconst (pc := 9) (v := 0) dX10_foretell_9 (by decide) ?_
    refine P.lconst (pc := 10) (v := 1) dX10_foretell_10 (by decide) ?_
    refine P.S3F (pc := 11) cs_X10_foretell_132 dX10_foretell_11 rfl rfl (sp_X10_withinZ _ k 1) ?_
    refine P.ifeqB (pc := 14) 26 dX10_foretell_14 (by decide) (fun c14 => ?_) (fun c14 => ?_)
    · refine P.bipush (pc := 26) (v := -2) dX10_foretell_26 (by decide) ?_
      refine P.iret (pc := 28) dX10_foretell_28 rfl ?_
      first | exact pmI (by rw [o_foretell, if_neg (fun z => z ⟨c4.1, c4.2, c14.1, c14.2⟩), h20.1]) (R.fU h20.2) h20.2.M | exact pmI (by rw [o_foretell, if_pos (fun z => c4 ⟨z.1, z.2.1⟩)]) R frM.rf | exact pmI (by rw [o_foretell, if_pos (fun z => c14 z.2.2)]) R frM.rf
    · refine P.aload_n (pc := 17) 0 dX10_foretell_17 rfl rfl ?_
      refine P.iload_n (pc := 18) 1 dX10_foretell_18 rfl rfl ?_
      refine P.iload_n (pc := 19) 2 dX10_foretell_19 rfl rfl ?_
      refine P.V2I (pc := 20) cs_X10_foretell_198 dX10_foretell_20 rfl rfl rfl (sp_X10_dinners I R w k) (fun v20 M20 h20 => ?_)
      refine P.goto (pc := 23) 28 dX10_foretell_23 (by decide) ?_
      refine P.iret (pc := 28) dX10_foretell_28 rfl ?_
      first | exact pmI (by rw [o_foretell, if_neg (fun z => z ⟨c4.1, c4.2, c14.1, c14.2⟩), h20.1]) (R.fU h20.2) h20.2.M | exact pmI (by rw [o_foretell, if_pos (fun z => c4 ⟨z.1, z.2.1⟩)]) R frM.rf | exact pmI (by rw [o_foretell, if_pos (fun z => c14 z.2.2)]) R frM.rf
theorem nJ_5 (a : Nat) : 5 * nI a = nI (a * 5) := by rw [nlit, pk_mul, Nat.mul_comm]
theorem sp_X10_cook {n : Nat → Nat} {σ M : xM} (I : Iv n σ) (R : RM n σ M) (w k c : Int32) : SpI mX10_cook [.ref 46, .int w, .int k, .int c] M (PM (o_cook n σ w k c) M) := by
  have hm : n 4 ≤ 40 := I.2.1.1
  by_cases hok : 0 ≤ w ∧ w ≤ 9 ∧ 0 ≤ k ∧ k ≤ 1 ∧ 0 ≤ c ∧ c ≤ 500
  · obtain ⟨k1, k2, k3, k4, k5, k6⟩ := hok
    have hok : 0 ≤ w ∧ w ≤ 9 ∧ 0 ≤ k ∧ k ≤ 1 ∧ 0 ≤ c ∧ c ≤ 500 := ⟨k1, k2, k3, k4, k5, k6⟩
    refine P.iload_n (pc := 0) 1 dX10_cook_0 rfl rfl ?_
    refine P.S1F (pc := 1) cs_X10_cook_145 dX10_cook_1 rfl rfl (sp_X10_isWeek _ _) ?_
    refine P.ifeqB (pc := 4) 29 dX10_cook_4 (by decide) (fun c4 => ?_) (fun c4 => ?_)
    · exact absurd ⟨k1, k2⟩ c4--.
    · refine P.iload_n (pc := 7) 2 dX10_cook_7 rfl rfl ?_
      refine P.i2l (pc := 8) dX10_cook_8 ?_
      refine P.lconst (pc := 9) (v := 0) dX10_cook_9 (by decide) ?_
      refine P.lconst (pc := 10) (v := 1) dX10_cook_10 (by decide) ?_
      refine P.S3F (pc := 11) cs_X10_cook_132 dX10_cook_11 rfl rfl (sp_X10_withinZ _ k 1) ?_
      refine P.ifeqB (pc := 14) 29 dX10_cook_14 (by decide) (fun c14 => ?_) (fun c14 => ?_)
      · exact absurd ⟨k3, k4⟩ c14--.
      · refine P.iload_n (pc := 17) 3 dX10_cook_17 rfl rfl ?_
        refine P.i2l (pc := 18) dX10_cook_18 ?_
        refine P.lconst (pc := 19) (v := 0) dX10_cook_19 (by decide) ?_
        refine P.ldc2 (pc := 20) kc_X10_201 dX10_cook_20 ?_
        refine P.S3F (pc := 23) cs_X10_cook_132 dX10_cook_23 rfl rfl (sp_X10_withinZ _ c 500) ?_
        refine P.ifneB (pc := 26) 32 dX10_cook_26 (by decide) (fun c26 => ?_) (fun c26 => ?_)
        · refine P.aload_n (pc := 32) 0 dX10_cook_32 rfl rfl ?_
          refine P.iload_n (pc := 33) 1 dX10_cook_33 rfl rfl ?_
          refine P.iload_n (pc := 34) 2 dX10_cook_34 rfl rfl ?_
          refine P.V2I (pc := 35) cs_X10_cook_198 dX10_cook_35 rfl rfl rfl (sp_X10_dinners I R w k) (fun v35 M35 h35 => ?_)
          obtain ⟨g1, g2⟩ := h35
          have R1 := R.fU g2
          have hl : M35 46 19 = nI (n 4) := R1.2.2.1 (19, 4) (by decide)
          have hp : M35 46 18 = σ 19 0 := R1.2.1 (46, 18, 19, 0) (by decide)
          have a61 : M35 61 = σ 20 := R1.1 (61, 20) (by decide)
          have g1 : xdinV n σ w k = v35 := g1.symm
          refine P.istore (pc := 38) 4 dX10_cook_38 (by decide) rfl ?_
          refine P.iload (pc := 40) 4 dX10_cook_40 rfl ?_
          refine P.iconst (pc := 42) (v := -1) dX10_cook_42 (by decide) ?_
          refine P.icne (pc := 43) 49 dX10_cook_43 (by decide) (fun c43 => ?_) (fun c43 => ?_)
          · refine P.aload_n (pc := 49) 0 dX10_cook_49 rfl rfl ?_
            refine P.getI (pc := 50) fl_X10_203 dX10_cook_50 rfl rfl ?_
            rw [hl]
            refine P.bipush (pc := 53) (v := 40) dX10_cook_53 (by decide) ?_
            refine P.icne (pc := 55) 61 dX10_cook_55 (by decide) (fun c55 => ?_) (fun c55 => ?_)
            · have n40 : ¬ n 4 = 40 := fun z => c55 (by rw [z]; rfl)
              refine P.iload (pc := 61) 4 dX10_cook_61 rfl ?_
              refine P.iload (pc := 63) 4 dX10_cook_63 rfl ?_
              refine P.aload_n (pc := 65) 0 dX10_cook_65 rfl rfl ?_
              refine P.getI (pc := 66) fl_X10_57 dX10_cook_66 rfl rfl ?_
              rw [hp]
              refine P.imul (pc := 69) dX10_cook_69 ?_
              refine P.bipush (pc := 70) (v := 100) dX10_cook_70 (by decide) ?_
              refine P.idiv (pc := 72) dX10_cook_72 (by decide) ?_
              refine P.iadd (pc := 73) dX10_cook_73 ?_
              refine P.istore (pc := 74) 5 dX10_cook_74 (by decide) rfl ?_
              refine P.aload_n (pc := 76) 0 dX10_cook_76 rfl rfl ?_
              refine P.getR (pc := 77) fl_X10_60 dX10_cook_77 rfl rfl ?_
              refine P.iconst (pc := 80) (v := 5) dX10_cook_80 (by decide) ?_
              refine P.aload_n (pc := 81) 0 dX10_cook_81 rfl rfl ?_
              refine P.getI (pc := 82) fl_X10_203 dX10_cook_82 rfl rfl ?_
              rw [hl]
              refine P.imul (pc := 85) dX10_cook_85 ?_
              rw [nJ_5]
              refine P.iload_n (pc := 86) 1 dX10_cook_86 rfl rfl ?_
              refine P.isN (pc := 87) (n 4 * 5) dX10_cook_87 rfl rfl rfl (by first | omega | grind [nT]) ?_
              refine P.aload_n (pc := 88) 0 dX10_cook_88 rfl rfl ?_
              refine P.getR (pc := 89) fl_X10_60 dX10_cook_89 rfl rfl ?_
              refine P.iconst (pc := 92) (v := 5) dX10_cook_92 (by decide) ?_
              refine P.aload_n (pc := 93) 0 dX10_cook_93 rfl rfl ?_
              refine P.getI (pc := 94) fl_X10_203 dX10_cook_94 rfl rfl ?_
              simp only [xw_ap, Nat.reduceEqDiff, ↓reduceIte, hl]
              refine P.imul (pc := 97) dX10_cook_97 ?_
              rw [nJ_5]
              refine P.iconst (pc := 98) (v := 1) dX10_cook_98 (by decide) ?_
              refine P.iadd (pc := 99) dX10_cook_99 ?_
              refine P.iload_n (pc := 100) 2 dX10_cook_100 rfl rfl ?_
              refine P.isN (pc := 101) (n 4 * 5 + 1) dX10_cook_101 rfl rfl (by simp only [nlit, nI_add, pk_mul]) (by first | omega | grind [nT]) ?_
              refine P.aload_n (pc := 102) 0 dX10_cook_102 rfl rfl ?_
              refine P.getR (pc := 103) fl_X10_60 dX10_cook_103 rfl rfl ?_
              refine P.iconst (pc := 106) (v := 5) dX10_cook_106 (by decide) ?_
              refine P.aload_n (pc := 107) 0 dX10_cook_107 rfl rfl ?_
              refine P.getI (pc := 108) fl_X10_203 dX10_cook_108 rfl rfl ?_
              simp only [xw_ap, Nat.reduceEqDiff, ↓reduceIte, hl]
              refine P.imul (pc := 111) dX10_cook_111 ?_
              rw [nJ_5]
              refine P.iconst (pc := 112) (v := 2) dX10_cook_112 (by decide) ?_
              refine P.iadd (pc := 113) dX10_cook_113 ?_
              refine P.iload (pc := 114) 4 dX10_cook_114 rfl ?_
              refine P.isN (pc := 116) (n 4 * 5 + 2) dX10_cook_116 rfl rfl (by simp only [nlit, nI_add, pk_mul]) (by first | omega | grind [nT]) ?_
              refine P.aload_n (pc := 117) 0 dX10_cook_117 rfl rfl ?_
              refine P.getR (pc := 118) fl_X10_60 dX10_cook_118 rfl rfl ?_
              refine P.iconst (pc := 121) (v := 5) dX10_cook_121 (by decide) ?_
              refine P.aload_n (pc := 122) 0 dX10_cook_122 rfl rfl ?_
              refine P.getI (pc := 123) fl_X10_203 dX10_cook_123 rfl rfl ?_
              simp only [xw_ap, Nat.reduceEqDiff, ↓reduceIte, hl]
              refine P.imul (pc := 126) dX10_cook_126 ?_
              rw [nJ_5]
              refine P.iconst (pc := 127) (v := 3) dX10_cook_127 (by decide) ?_
              refine P.iadd (pc := 128) dX10_cook_128 ?_
              refine P.iload (pc := 129) 5 dX10_cook_129 rfl ?_
              refine P.isN (pc := 131) (n 4 * 5 + 3) dX10_cook_131 rfl rfl (by simp only [nlit, nI_add, pk_mul]) (by first | omega | grind [nT]) ?_
              refine P.aload_n (pc := 132) 0 dX10_cook_132 rfl rfl ?_
              refine P.getR (pc := 133) fl_X10_60 dX10_cook_133 rfl rfl ?_
              refine P.iconst (pc := 136) (v := 5) dX10_cook_136 (by decide) ?_
              refine P.aload_n (pc := 137) 0 dX10_cook_137 rfl rfl ?_
              refine P.getI (pc := 138) fl_X10_203 dX10_cook_138 rfl rfl ?_
              simp only [xw_ap, Nat.reduceEqDiff, ↓reduceIte, hl]
              refine P.imul (pc := 141) dX10_cook_141 ?_
              rw [nJ_5]
              refine P.iconst (pc := 142) (v := 4) dX10_cook_142 (by decide) ?_
              refine P.iadd (pc := 143) dX10_cook_143 ?_
              refine P.iload_n (pc := 144) 3 dX10_cook_144 rfl rfl ?_
              refine P.isN (pc := 145) (n 4 * 5 + 4) dX10_cook_145 rfl rfl (by simp only [nlit, nI_add, pk_mul]) (by first | omega | grind [nT]) ?_
              simp only [xw_xw, xw_ap, ↓reduceIte]
              refine P.aload_n (pc := 146) 0 dX10_cook_146 rfl rfl ?_
              refine P.dup (pc := 147) dX10_cook_147 rfl ?_
              refine P.getI (pc := 148) fl_X10_203 dX10_cook_148 rfl rfl ?_
              simp only [xw_ap, Nat.reduceEqDiff, ↓reduceIte, hl]
              refine P.iconst (pc := 151) (v := 1) dX10_cook_151 (by decide) ?_
              refine P.iadd (pc := 152) dX10_cook_152 ?_
              rw [nI_1]
              refine P.put (pc := 153) fp_X10_203 dX10_cook_153 rfl rfl ?_
              refine P.iload (pc := 156) 5 dX10_cook_156 rfl ?_
              refine P.iload_n (pc := 158) 3 dX10_cook_158 rfl rfl ?_
              refine P.iclt (pc := 159) 169 dX10_cook_159 (by decide) (fun c159 => ?_) (fun c159 => ?_)
              · have cc : ¬ c ≤ v35 + v35 * σ 19 0 / 100 := Int32.not_le.2 c159
                refine P.sipush (pc := 169) (v := -1000) dX10_cook_169 (by decide) ?_
                refine P.iload_n (pc := 172) 3 dX10_cook_172 rfl rfl ?_
                refine P.iload (pc := 173) 5 dX10_cook_173 rfl ?_
                refine P.isub (pc := 175) dX10_cook_175 ?_
                refine P.isub (pc := 176) dX10_cook_176 ?_
                refine P.iret (pc := 177) dX10_cook_177 rfl ?_
                rw [a61]
                first
                | exact pmI (by rw [o_cook, if_neg (fun z => z hok), if_neg (by rw [g1]; exact c43), o_serve, if_neg n40, g1, if_pos cc]; rfl) ((R1.arr (a := 61) (c := 20) (by decide) _).cnt (j := 19) (i := 4) (by decide) _ (fun e => absurd e (by decide))) ((g2.M.w (by decide) _).w (by decide) _)
                | exact pmI (by rw [o_cook, if_neg (fun z => z hok), if_neg (by rw [g1]; exact c43), o_serve, if_neg n40, g1, if_neg cc]; rfl) ((R1.arr (a := 61) (c := 20) (by decide) _).cnt (j := 19) (i := 4) (by decide) _ (fun e => absurd e (by decide))) ((g2.M.w (by decide) _).w (by decide) _)
              · have cc : c ≤ v35 + v35 * σ 19 0 / 100 := Int32.not_lt.1 c159
                refine P.iload (pc := 162) 5 dX10_cook_162 rfl ?_
                refine P.iload_n (pc := 164) 3 dX10_cook_164 rfl rfl ?_
                refine P.isub (pc := 165) dX10_cook_165 ?_
                refine P.goto (pc := 166) 177 dX10_cook_166 (by decide) ?_
                refine P.iret (pc := 177) dX10_cook_177 rfl ?_
                rw [a61]
                first
                | exact pmI (by rw [o_cook, if_neg (fun z => z hok), if_neg (by rw [g1]; exact c43), o_serve, if_neg n40, g1, if_pos cc]; rfl) ((R1.arr (a := 61) (c := 20) (by decide) _).cnt (j := 19) (i := 4) (by decide) _ (fun e => absurd e (by decide))) ((g2.M.w (by decide) _).w (by decide) _)
                | exact pmI (by rw [o_cook, if_neg (fun z => z hok), if_neg (by rw [g1]; exact c43), o_serve, if_neg n40, g1, if_neg cc]; rfl) ((R1.arr (a := 61) (c := 20) (by decide) _).cnt (j := 19) (i := 4) (by decide) _ (fun e => absurd e (by decide))) ((g2.M.w (by decide) _).w (by decide) _)
            · have n40 : n 4 = 40 := nI_inj (b := 40) (by omega) (by omega) (by first | exact c55 | exact Classical.not_not.1 c55)
              refine P.bipush (pc := 58) (v := -4) dX10_cook_58 (by decide) ?_
              refine P.iret (pc := 60) dX10_cook_60 rfl ?_
              exact pmI (by rw [o_cook, if_neg (fun z => z hok), if_neg (by rw [g1]; exact c43), o_serve, if_pos n40]) R1 g2.M
          · refine P.bipush (pc := 46) (v := -3) dX10_cook_46 (by decide) ?_
            refine P.iret (pc := 48) dX10_cook_48 rfl ?_
            exact pmI (by rw [o_cook, if_neg (fun z => z hok), if_pos (g1.trans (by first | exact c43 | exact Classical.not_not.1 c43))]) R1 g2.M
        · exact absurd ⟨k5, k6⟩ c26--.
  · have : o_cook n σ w k c = (-2, n, σ) := by rw [o_cook, if_pos hok]
    refine P.iload_n (pc := 0) 1 dX10_cook_0 rfl rfl ?_
    refine P.S1F (pc := 1) cs_X10_cook_145 dX10_cook_1 rfl rfl (sp_X10_isWeek _ _) ?_
    refine P.ifeqB (pc := 4) 29 dX10_cook_4 (by decide) (fun c4 => ?_) (fun c4 => ?_)
    · refine P.bipush (pc := 29) (v := -2) dX10_cook_29 (by decide) ?_
      refine P.iret (pc := 31) dX10_cook_31 rfl ?_
      exact pmI this R frM.rf
    · refine P.iload_n (pc := 7) 2 dX10_cook_7 rfl rfl ?_
      refine P.i2l (pc := 8) dX10_cook_8 ?_
      refine P.lconst (pc := 9) (v := 0) dX10_cook_9 (by decide) ?_
      refine P.lconst (pc := 10) (v := 1) dX10_cook_10 (by decide) ?_
      refine P.S3F (pc := 11) cs_X10_cook_132 dX10_cook_11 rfl rfl (sp_X10_withinZ _ k 1) ?_
      refine P.ifeqB (pc := 14) 29 dX10_cook_14 (by decide) (fun c14 => ?_) (fun c14 => ?_)
      · refine P.bipush (pc := 29) (v := -2) dX10_cook_29 (by decide) ?_
        refine P.iret (pc := 31) dX10_cook_31 rfl ?_
        exact pmI this R frM.rf
      · refine P.iload_n (pc := 17) 3 dX10_cook_17 rfl rfl ?_
        refine P.i2l (pc := 18) dX10_cook_18 ?_
        refine P.lconst (pc := 19) (v := 0) dX10_cook_19 (by decide) ?_
        refine P.ldc2 (pc := 20) kc_X10_201 dX10_cook_20 ?_
        refine P.S3F (pc := 23) cs_X10_cook_132 dX10_cook_23 rfl rfl (sp_X10_withinZ _ c 500) ?_
        refine P.ifneB (pc := 26) 32 dX10_cook_26 (by decide) (fun c26 => ?_) (fun c26 => ?_)
        · exact absurd ⟨c4.1, c4.2, c14.1, c14.2, c26.1, c26.2⟩ hok--.
        · refine P.bipush (pc := 29) (v := -2) dX10_cook_29 (by decide) ?_
          refine P.iret (pc := 31) dX10_cook_31 rfl ?_
          exact pmI this R frM.rf
