/-! huts, parties, lodging: the reference -/
theorem sp_X10_hut {n : Nat → Nat} {σ M : xM} (I : Iv n σ) (R : RM n σ M) (r b : Int32) : SpI mX10_hut [.ref 46, .int r, .int b] M (PM (o_hut n σ r b) M) := by
  have hc : M 46 0 = nI (n 0) := R.2.2.1 (0, 0) (by decide)
  have a1 := R.1 (47, 3) (by decide)
  have a2 := R.1 (48, 4) (by decide)
  have b1 : n 0 ≤ 30 := I.1.1
  dsimp only at a1 a2
  refine P.iload_n (pc := 0) 1 dX10_hut_0 rfl rfl ?_
  refine P.i2l (pc := 1) dX10_hut_1 ?_
  refine P.lconst (pc := 2) (v := 0) dX10_hut_2 (by decide) ?_
  refine P.ldc2 (pc := 3) kc_X10_141 dX10_hut_3 ?_
  refine P.S3F (pc := 6) cs_X10_hut_132 dX10_hut_6 rfl rfl (sp_X10_within _ _ _ _) ?_
  refine P.ifeqB (pc := 9) 24 dX10_hut_9 (by decide) (fun c9 => ?_) (fun c9 => ?_)
  · refine P.bipush (pc := 24) (v := -2) dX10_hut_24 (by decide) ?_
    refine P.iret (pc := 26) dX10_hut_26 rfl ?_
    exact pmI (by grind [o_hut, nW]) R frM.rf
  · refine P.iload_n (pc := 12) 2 dX10_hut_12 rfl rfl ?_
    refine P.i2l (pc := 13) dX10_hut_13 ?_
    refine P.lconst (pc := 14) (v := 1) dX10_hut_14 (by decide) ?_
    refine P.ldc2 (pc := 15) kc_X10_143 dX10_hut_15 ?_
    refine P.S3F (pc := 18) cs_X10_hut_132 dX10_hut_18 rfl rfl (sp_X10_within _ _ _ _) ?_
    refine P.ifneB (pc := 21) 27 dX10_hut_21 (by decide) (fun c21 => ?_) (fun c21 => ?_)
    · refine P.aload_n (pc := 27) 0 dX10_hut_27 rfl rfl ?_
      refine P.getI (pc := 28) fl_X10_129 dX10_hut_28 rfl rfl ?_
      refine P.bipush (pc := 31) (v := 30) dX10_hut_31 (by decide) ?_
      refine P.icne (pc := 33) 39 dX10_hut_33 (by decide) (fun c33 => ?_) (fun c33 => ?_)
      · refine P.aload_n (pc := 39) 0 dX10_hut_39 rfl rfl ?_
        refine P.getR (pc := 40) fl_X10_7 dX10_hut_40 rfl rfl ?_
        refine P.aload_n (pc := 43) 0 dX10_hut_43 rfl rfl ?_
        refine P.getI (pc := 44) fl_X10_129 dX10_hut_44 rfl rfl ?_
        rw [hc]
        refine P.iload_n (pc := 47) 1 dX10_hut_47 rfl rfl ?_
        refine P.isN (pc := 48) _ dX10_hut_48 rfl rfl rfl (by first | omega | grind [nT]) ?_
        refine P.aload_n (pc := 49) 0 dX10_hut_49 rfl rfl ?_
        refine P.getR (pc := 50) fl_X10_13 dX10_hut_50 rfl rfl ?_
        refine P.aload_n (pc := 53) 0 dX10_hut_53 rfl rfl ?_
        refine P.getI (pc := 54) fl_X10_129 dX10_hut_54 rfl rfl ?_
        simp only [xw_ap, Nat.reduceEqDiff, ↓reduceIte, hc]
        refine P.iload_n (pc := 57) 2 dX10_hut_57 rfl rfl ?_
        refine P.isN (pc := 58) _ dX10_hut_58 rfl rfl rfl (by first | omega | grind [nT]) ?_
        refine P.aload_n (pc := 59) 0 dX10_hut_59 rfl rfl ?_
        refine P.dup (pc := 60) dX10_hut_60 rfl ?_
        refine P.getI (pc := 61) fl_X10_129 dX10_hut_61 rfl rfl ?_
        simp only [xw_ap, Nat.reduceEqDiff, ↓reduceIte, hc]
        refine P.iconst (pc := 64) (v := 1) dX10_hut_64 (by decide) ?_
        refine P.iadd (pc := 65) dX10_hut_65 ?_
        refine P.put (pc := 66) fp_X10_129 dX10_hut_66 rfl rfl ?_
        refine P.aload_n (pc := 69) 0 dX10_hut_69 rfl rfl ?_
        refine P.getI (pc := 70) fl_X10_129 dX10_hut_70 rfl rfl ?_
        simp only [xw_ap, upd_ap, Nat.reduceEqDiff, ↓reduceIte, hc]
        refine P.iconst (pc := 73) (v := 1) dX10_hut_73 (by decide) ?_
        refine P.isub (pc := 74) dX10_hut_74 ?_
        rw [nI_1, nI_pred]
        refine P.iret (pc := 75) dX10_hut_75 rfl ?_
        rw [a1, a2]
        exact pmI (by rw [o_hut, if_neg (by grind [nW]), if_neg (by grind [nT])]) (((R.arr (a := 47) (c := 3) (by decide) _).arr (a := 48) (c := 4) (by decide) _).cnt (i := 0) (by decide) (n 0 + 1) (fun e => absurd e (by decide))) (((frM.rf.w (by decide) _).w (by decide) _).w (by decide) _)
      · refine P.bipush (pc := 36) (v := -4) dX10_hut_36 (by decide) ?_
        refine P.iret (pc := 38) dX10_hut_38 rfl ?_
        exact pmI (by grind [o_hut, nT, nW]) R frM.rf
    · refine P.bipush (pc := 24) (v := -2) dX10_hut_24 (by decide) ?_
      refine P.iret (pc := 26) dX10_hut_26 rfl ?_
      exact pmI (by grind [o_hut, nW]) R frM.rf
theorem RM.hut {n : Nat → Nat} {σ M : xM} (h : RM n σ M) {f g : Nat → Int32} (hf : ∀ j, j < n 1 → g j = f j) : RM n (xw σ 11 f) (xw M 54 g) := by
  have i1 : ∀ q ∈ xArrM, q.1 ≠ 54 ∧ q.2 ≠ 11 := by decide
  have i2 : ∀ q ∈ xScalM, q.1 ≠ 54 ∧ q.2.2.1 ≠ 11 := by decide
  obtain ⟨h1, h2, h3, h4, h5, h6⟩ := h
  refine ⟨fun q hq => ?_, fun q hq => ?_, fun q hq => ?_, ?_, ?_, ?_⟩
  · rw [xw_ap, xw_ap, if_neg (i1 q hq).1, if_neg (i1 q hq).2]; exact h1 q hq
  · rw [xw_ap, xw_ap, if_neg (i2 q hq).1, if_neg (i2 q hq).2]; exact h2 q hq
  · rw [xw_ap, if_neg (by decide)]; exact h3 q hq
  · intro j hj; rw [xw_ap, xw_ap, if_pos rfl, if_pos rfl]; exact hf j hj
  · intro j hj; rw [xw_ap, xw_ap, if_neg (by decide), if_neg (by decide)]; exact h5 j hj
  · intro g hg; rw [xw_ap, xw_ap, xw_ap, xw_ap, if_neg (by decide), if_neg (by decide), if_neg (by decide), if_neg (by decide)]; exact h6 g hg
theorem hupd {m : Nat} {f g : Nat → Int32} (h : ∀ j, j < m → g j = f j) (a : Nat) (v : Int32) : ∀ j, j < m → upd g a v j = upd f a v j := by
  intro j hj
  rw [upd_ap, upd_ap]
  split
  · rfl
  · exact h j hj
theorem sp_X10_party {n : Nat → Nat} {σ M : xM} (I : Iv n σ) (R : RM n σ M) (z c f t b : Int32) : SpI mX10_party [.ref 46, .int z, .int c, .int f, .int t, .int b] M (PM (o_party n σ z c f t b) M) := by
  have hc : M 46 3 = nI (n 1) := R.2.2.1 (3, 1) (by decide)
  have a1 := R.1 (49, 6) (by decide)
  have a2 := R.1 (50, 7) (by decide)
  have a3 := R.1 (51, 8) (by decide)
  have a4 := R.1 (52, 9) (by decide)
  have a5 := R.1 (53, 10) (by decide)
  have b1 : n 1 ≤ 24 := I.1.2.1
  dsimp only at a1 a2 a3 a4 a5
  refine P.iload_n (pc := 0) 1 dX10_party_0 rfl rfl ?_
  refine P.i2l (pc := 1) dX10_party_1 ?_
  refine P.lconst (pc := 2) (v := 1) dX10_party_2 (by decide) ?_
  refine P.ldc2 (pc := 3) kc_X10_143 dX10_party_3 ?_
  refine P.S3F (pc := 6) cs_X10_party_132 dX10_party_6 rfl rfl (sp_X10_within _ _ _ _) ?_
  refine P.ifeqB (pc := 9) 59 dX10_party_9 (by decide) (fun c9 => ?_) (fun c9 => ?_)
  · refine P.bipush (pc := 59) (v := -2) dX10_party_59 (by decide) ?_
    refine P.iret (pc := 61) dX10_party_61 rfl ?_
    exact pmI (by grind [o_party, nW]) R frM.rf
  · refine P.iload_n (pc := 12) 2 dX10_party_12 rfl rfl ?_
    refine P.i2l (pc := 13) dX10_party_13 ?_
    refine P.lconst (pc := 14) (v := 0) dX10_party_14 (by decide) ?_
    refine P.iload_n (pc := 15) 1 dX10_party_15 rfl rfl ?_
    refine P.i2l (pc := 16) dX10_party_16 ?_
    refine P.S3F (pc := 17) cs_X10_party_132 dX10_party_17 rfl rfl (sp_X10_withinZ _ _ _) ?_
    refine P.ifeqB (pc := 20) 59 dX10_party_20 (by decide) (fun c20 => ?_) (fun c20 => ?_)
    · refine P.bipush (pc := 59) (v := -2) dX10_party_59 (by decide) ?_
      refine P.iret (pc := 61) dX10_party_61 rfl ?_
      exact pmI (by grind [o_party, nW]) R frM.rf
    · refine P.iload_n (pc := 23) 3 dX10_party_23 rfl rfl ?_
      refine P.S1F (pc := 24) cs_X10_party_145 dX10_party_24 rfl rfl (sp_X10_isWeek _ _) ?_
      refine P.ifeqB (pc := 27) 59 dX10_party_27 (by decide) (fun c27 => ?_) (fun c27 => ?_)
      · refine P.bipush (pc := 59) (v := -2) dX10_party_59 (by decide) ?_
        refine P.iret (pc := 61) dX10_party_61 rfl ?_
        exact pmI (by grind [o_party, nW]) R frM.rf
      · refine P.iload (pc := 30) 4 dX10_party_30 rfl ?_
        refine P.i2l (pc := 32) dX10_party_32 ?_
        refine P.iload_n (pc := 33) 3 dX10_party_33 rfl rfl ?_
        refine P.i2l (pc := 34) dX10_party_34 ?_
        refine P.ldc2 (pc := 35) kc_X10_139 dX10_party_35 ?_
        refine P.S3F (pc := 38) cs_X10_party_132 dX10_party_38 rfl rfl (sp_X10_within _ _ _ _) ?_
        refine P.ifeqB (pc := 41) 59 dX10_party_41 (by decide) (fun c41 => ?_) (fun c41 => ?_)
        · refine P.bipush (pc := 59) (v := -2) dX10_party_59 (by decide) ?_
          refine P.iret (pc := 61) dX10_party_61 rfl ?_
          exact pmI (by grind [o_party, nW]) R frM.rf
        · refine P.iload (pc := 44) 5 dX10_party_44 rfl ?_
          refine P.i2l (pc := 46) dX10_party_46 ?_
          refine P.ldc2 (pc := 47) kc_X10_149 dX10_party_47 ?_
          refine P.ldc2 (pc := 50) kc_X10_139 dX10_party_50 ?_
          refine P.S3F (pc := 53) cs_X10_party_132 dX10_party_53 rfl rfl (sp_X10_within _ _ _ _) ?_
          refine P.ifneB (pc := 56) 62 dX10_party_56 (by decide) (fun c56 => ?_) (fun c56 => ?_)
          · refine P.aload_n (pc := 62) 0 dX10_party_62 rfl rfl ?_
            refine P.getI (pc := 63) fl_X10_136 dX10_party_63 rfl rfl ?_
            refine P.bipush (pc := 66) (v := 24) dX10_party_66 (by decide) ?_
            refine P.icne (pc := 68) 74 dX10_party_68 (by decide) (fun c68 => ?_) (fun c68 => ?_)
            · refine P.aload_n (pc := 74) 0 dX10_party_74 rfl rfl ?_
              refine P.getR (pc := 75) fl_X10_16 dX10_party_75 rfl rfl ?_
              refine P.aload_n (pc := 78) 0 dX10_party_78 rfl rfl ?_
              refine P.getI (pc := 79) fl_X10_136 dX10_party_79 rfl rfl ?_
              rw [hc]
              refine P.iload_n (pc := 82) 1 dX10_party_82 rfl rfl ?_
              refine P.isN (pc := 83) _ dX10_party_83 rfl rfl rfl (by first | omega | grind [nT]) ?_
              refine P.aload_n (pc := 84) 0 dX10_party_84 rfl rfl ?_
              refine P.getR (pc := 85) fl_X10_19 dX10_party_85 rfl rfl ?_
              refine P.aload_n (pc := 88) 0 dX10_party_88 rfl rfl ?_
              refine P.getI (pc := 89) fl_X10_136 dX10_party_89 rfl rfl ?_
              simp only [xw_ap, Nat.reduceEqDiff, ↓reduceIte, hc]
              refine P.iload_n (pc := 92) 2 dX10_party_92 rfl rfl ?_
              refine P.isN (pc := 93) _ dX10_party_93 rfl rfl rfl (by first | omega | grind [nT]) ?_
              refine P.aload_n (pc := 94) 0 dX10_party_94 rfl rfl ?_
              refine P.getR (pc := 95) fl_X10_22 dX10_party_95 rfl rfl ?_
              refine P.aload_n (pc := 98) 0 dX10_party_98 rfl rfl ?_
              refine P.getI (pc := 99) fl_X10_136 dX10_party_99 rfl rfl ?_
              simp only [xw_ap, Nat.reduceEqDiff, ↓reduceIte, hc]
              refine P.iload_n (pc := 102) 3 dX10_party_102 rfl rfl ?_
              refine P.isN (pc := 103) _ dX10_party_103 rfl rfl rfl (by first | omega | grind [nT]) ?_
              refine P.aload_n (pc := 104) 0 dX10_party_104 rfl rfl ?_
              refine P.getR (pc := 105) fl_X10_25 dX10_party_105 rfl rfl ?_
              refine P.aload_n (pc := 108) 0 dX10_party_108 rfl rfl ?_
              refine P.getI (pc := 109) fl_X10_136 dX10_party_109 rfl rfl ?_
              simp only [xw_ap, Nat.reduceEqDiff, ↓reduceIte, hc]
              refine P.iload (pc := 112) 4 dX10_party_112 rfl ?_
              refine P.isN (pc := 114) _ dX10_party_114 rfl rfl rfl (by first | omega | grind [nT]) ?_
              refine P.aload_n (pc := 115) 0 dX10_party_115 rfl rfl ?_
              refine P.getR (pc := 116) fl_X10_28 dX10_party_116 rfl rfl ?_
              refine P.aload_n (pc := 119) 0 dX10_party_119 rfl rfl ?_
              refine P.getI (pc := 120) fl_X10_136 dX10_party_120 rfl rfl ?_
              simp only [xw_ap, Nat.reduceEqDiff, ↓reduceIte, hc]
              refine P.iload (pc := 123) 5 dX10_party_123 rfl ?_
              refine P.isN (pc := 125) _ dX10_party_125 rfl rfl rfl (by first | omega | grind [nT]) ?_
              refine P.aload_n (pc := 126) 0 dX10_party_126 rfl rfl ?_
              refine P.getR (pc := 127) fl_X10_31 dX10_party_127 rfl rfl ?_
              refine P.aload_n (pc := 130) 0 dX10_party_130 rfl rfl ?_
              refine P.getI (pc := 131) fl_X10_136 dX10_party_131 rfl rfl ?_
              simp only [xw_ap, Nat.reduceEqDiff, ↓reduceIte, hc]
              refine P.iconst (pc := 134) (v := -1) dX10_party_134 (by decide) ?_
              refine P.isN (pc := 135) _ dX10_party_135 rfl rfl rfl (by first | omega | grind [nT]) ?_
              refine P.aload_n (pc := 136) 0 dX10_party_136 rfl rfl ?_
              refine P.dup (pc := 137) dX10_party_137 rfl ?_
              refine P.getI (pc := 138) fl_X10_136 dX10_party_138 rfl rfl ?_
              simp only [xw_ap, Nat.reduceEqDiff, ↓reduceIte, hc]
              refine P.iconst (pc := 141) (v := 1) dX10_party_141 (by decide) ?_
              refine P.iadd (pc := 142) dX10_party_142 ?_
              refine P.put (pc := 143) fp_X10_136 dX10_party_143 rfl rfl ?_
              refine P.aload_n (pc := 146) 0 dX10_party_146 rfl rfl ?_
              refine P.getI (pc := 147) fl_X10_136 dX10_party_147 rfl rfl ?_
              simp only [xw_ap, upd_ap, Nat.reduceEqDiff, ↓reduceIte, hc]
              refine P.iconst (pc := 150) (v := 1) dX10_party_150 (by decide) ?_
              refine P.isub (pc := 151) dX10_party_151 ?_
              rw [nI_1, nI_pred]
              refine P.iret (pc := 152) dX10_party_152 rfl ?_
              rw [a1, a2, a3, a4, a5]
              have hn1 : n 1 < 24 := by grind [nT]
              have R5 := ((((R.arr (a := 49) (c := 6) (by decide) (upd (σ 6) (n 1) z)).arr (a := 50) (c := 7) (by decide) (upd (σ 7) (n 1) c)).arr (a := 51) (c := 8) (by decide) (upd (σ 8) (n 1) f)).arr (a := 52) (c := 9) (by decide) (upd (σ 9) (n 1) t)).arr (a := 53) (c := 10) (by decide) (upd (σ 10) (n 1) b)
              have R6 := R5.hut (f := σ 11) (g := upd (M 54) (n 1) (-1)) (fun j hj => by rw [upd_ap, if_neg (by omega)]; exact R.2.2.2.1 j hj)
              rw [show ∀ (A : xM), A 11 = σ 11 → xw A 11 (σ 11) = A from fun A e => xw_id e] at R6
              · refine pmI (by rw [o_party, if_neg (by grind [nW]), if_neg (by grind [nT])]) (R6.cnt (i := 1) (by decide) (n 1 + 1) (fun _ => Or.inr ⟨rfl, ?_⟩)) (((((((frM.rf.w (by decide) _).w (by decide) _).w (by decide) _).w (by decide) _).w (by decide) _).w (by decide) _).w (by decide) _)
                simp only [xw_ap, upd_ap, Nat.reduceEqDiff, ↓reduceIte]
                exact (I.1.2.2.2.2.2.1 (n 1) (Nat.le_refl _) hn1).symm
              · simp only [xw_ap, Nat.reduceEqDiff, ↓reduceIte]
            · refine P.bipush (pc := 71) (v := -4) dX10_party_71 (by decide) ?_
              refine P.iret (pc := 73) dX10_party_73 rfl ?_
              exact pmI (by grind [o_party, nT, nW]) R frM.rf
          · refine P.bipush (pc := 59) (v := -2) dX10_party_59 (by decide) ?_
            refine P.iret (pc := 61) dX10_party_61 rfl ?_
            exact pmI (by grind [o_party, nW]) R frM.rf
theorem sp_X10_leave {n : Nat → Nat} {σ M : xM} (I : Iv n σ) (R : RM n σ M) (p : Int32) : SpI mX10_leave [.ref 46, .int p] M (PM (o_leave n σ p) M) := by
  have hc : M 46 3 = nI (n 1) := R.2.2.1 (3, 1) (by decide)
  have b1 : n 1 ≤ 24 := I.1.2.1
  refine P.aload_n (pc := 0) 0 dX10_leave_0 rfl rfl ?_
  refine P.iload_n (pc := 1) 1 dX10_leave_1 rfl rfl ?_
  refine P.V1F (pc := 2) cs_X10_leave_151 dX10_leave_2 rfl rfl rfl (sp_X10_isParty hc b1 _) ?_
  refine P.ifneB (pc := 5) 11 dX10_leave_5 (by decide) (fun c5 => ?_) (fun c5 => ?_)
  · have c5' := c5
    obtain ⟨a, ha, rfl⟩ := c5
    have ck := nI_clamp (n := a) (by omega)
    have eh := R.2.2.2.1 a ha
    refine P.aload_n (pc := 11) 0 dX10_leave_11 rfl rfl ?_
    refine P.getR (pc := 12) fl_X10_31 dX10_leave_12 rfl rfl ?_
    refine P.iload_n (pc := 15) 1 dX10_leave_15 rfl rfl ?_
    refine P.iaN (pc := 16) _ dX10_leave_16 rfl rfl rfl (by first | omega | grind [nT]) ?_
    refine P.iconst (pc := 17) (v := -1) dX10_leave_17 (by decide) ?_
    refine P.icne (pc := 18) 24 dX10_leave_18 (by decide) (fun c18 => ?_) (fun c18 => ?_)
    · refine P.aload_n (pc := 24) 0 dX10_leave_24 rfl rfl ?_
      refine P.getR (pc := 25) fl_X10_31 dX10_leave_25 rfl rfl ?_
      refine P.iload_n (pc := 28) 1 dX10_leave_28 rfl rfl ?_
      refine P.iaN (pc := 29) _ dX10_leave_29 rfl rfl rfl (by first | omega | grind [nT]) ?_
      refine P.istore_n (pc := 30) 2 dX10_leave_30 rfl (by decide) rfl ?_
      refine P.aload_n (pc := 31) 0 dX10_leave_31 rfl rfl ?_
      refine P.getR (pc := 32) fl_X10_31 dX10_leave_32 rfl rfl ?_
      refine P.iload_n (pc := 35) 1 dX10_leave_35 rfl rfl ?_
      refine P.iconst (pc := 36) (v := -1) dX10_leave_36 (by decide) ?_
      refine P.isN (pc := 37) _ dX10_leave_37 rfl rfl rfl (by first | omega | grind [nT]) ?_
      refine P.iload_n (pc := 38) 2 dX10_leave_38 rfl rfl ?_
      refine P.iret (pc := 39) dX10_leave_39 rfl ?_
      rw [eh]
      exact pmI (by rw [o_leave, if_neg (fun q => q c5'), ck, if_neg (by grind)]) (R.hut (hupd R.2.2.2.1 a (-1))) (frM.rf.w (by decide) _)
    · refine P.bipush (pc := 21) (v := -3) dX10_leave_21 (by decide) ?_
      refine P.iret (pc := 23) dX10_leave_23 rfl ?_
      exact pmI (by rw [o_leave, if_neg (fun q => q c5'), ck, if_pos (by grind)]) R frM.rf
  · refine P.bipush (pc := 8) (v := -2) dX10_leave_8 (by decide) ?_
    refine P.iret (pc := 10) dX10_leave_10 rfl ?_
    exact pmI (by rw [o_leave, if_pos c5]) R frM.rf
theorem sp_X10_about {n : Nat → Nat} {σ M : xM} (I : Iv n σ) (R : RM n σ M) (p w : Int32) : SpI mX10_about [.ref 46, .int p, .int w] M (PM (o_about n σ p w) M) := by
  have hc : M 46 3 = nI (n 1) := R.2.2.1 (3, 1) (by decide)
  have b1 : n 1 ≤ 24 := I.1.2.1
  have a1 := R.1 (49, 6) (by decide)
  have a2 := R.1 (50, 7) (by decide)
  have a3 := R.1 (51, 8) (by decide)
  have a4 := R.1 (52, 9) (by decide)
  have a5 := R.1 (53, 10) (by decide)
  dsimp only at a1 a2 a3 a4 a5
  refine P.aload_n (pc := 0) 0 dX10_about_0 rfl rfl ?_
  refine P.iload_n (pc := 1) 1 dX10_about_1 rfl rfl ?_
  refine P.V1F (pc := 2) cs_X10_about_151 dX10_about_2 rfl rfl rfl (sp_X10_isParty hc b1 _) ?_
  refine P.ifneB (pc := 5) 11 dX10_about_5 (by decide) (fun c5 => ?_) (fun c5 => ?_)
  · have c5' := c5
    obtain ⟨a, ha, rfl⟩ := c5
    have ck := nI_clamp (n := a) (by omega)
    have a6 := R.2.2.2.1 a ha
    refine P.iload_n (pc := 11) 2 dX10_about_11 rfl rfl ?_
    by_cases q0 : w = 0
    · subst q0
      refine P.tswIn (pc := 12) 52 dX10_about_12 (by decide) (by decide) rfl (by decide) ?_
      refine P.aload_n (pc := 52) 0 dX10_about_52 rfl rfl ?_
      refine P.getR (pc := 53) fl_X10_16 dX10_about_53 rfl rfl ?_
      refine P.iload_n (pc := 56) 1 dX10_about_56 rfl rfl ?_
      refine P.iaN (pc := 57) _ dX10_about_57 rfl rfl rfl (by first | omega | grind [nT]) ?_
      refine P.iret (pc := 58) dX10_about_58 rfl ?_
      exact pmI (by rw [o_about, if_neg (fun q => q c5'), ck, a1]; rfl) R frM.rf
    by_cases q1 : w = 1
    · subst q1
      refine P.tswIn (pc := 12) 59 dX10_about_12 (by decide) (by decide) rfl (by decide) ?_
      refine P.aload_n (pc := 59) 0 dX10_about_59 rfl rfl ?_
      refine P.getR (pc := 60) fl_X10_19 dX10_about_60 rfl rfl ?_
      refine P.iload_n (pc := 63) 1 dX10_about_63 rfl rfl ?_
      refine P.iaN (pc := 64) _ dX10_about_64 rfl rfl rfl (by first | omega | grind [nT]) ?_
      refine P.iret (pc := 65) dX10_about_65 rfl ?_
      exact pmI (by rw [o_about, if_neg (fun q => q c5'), ck, a2]; rfl) R frM.rf
    by_cases q2 : w = 2
    · subst q2
      refine P.tswIn (pc := 12) 66 dX10_about_12 (by decide) (by decide) rfl (by decide) ?_
      refine P.aload_n (pc := 66) 0 dX10_about_66 rfl rfl ?_
      refine P.getR (pc := 67) fl_X10_22 dX10_about_67 rfl rfl ?_
      refine P.iload_n (pc := 70) 1 dX10_about_70 rfl rfl ?_
      refine P.iaN (pc := 71) _ dX10_about_71 rfl rfl rfl (by first | omega | grind [nT]) ?_
      refine P.iret (pc := 72) dX10_about_72 rfl ?_
      exact pmI (by rw [o_about, if_neg (fun q => q c5'), ck, a3]; rfl) R frM.rf
    by_cases q3 : w = 3
    · subst q3
      refine P.tswIn (pc := 12) 73 dX10_about_12 (by decide) (by decide) rfl (by decide) ?_
      refine P.aload_n (pc := 73) 0 dX10_about_73 rfl rfl ?_
      refine P.getR (pc := 74) fl_X10_25 dX10_about_74 rfl rfl ?_
      refine P.iload_n (pc := 77) 1 dX10_about_77 rfl rfl ?_
      refine P.iaN (pc := 78) _ dX10_about_78 rfl rfl rfl (by first | omega | grind [nT]) ?_
      refine P.iret (pc := 79) dX10_about_79 rfl ?_
      exact pmI (by rw [o_about, if_neg (fun q => q c5'), ck, a4]; rfl) R frM.rf
    by_cases q4 : w = 4
    · subst q4
      refine P.tswIn (pc := 12) 80 dX10_about_12 (by decide) (by decide) rfl (by decide) ?_
      refine P.aload_n (pc := 80) 0 dX10_about_80 rfl rfl ?_
      refine P.getR (pc := 81) fl_X10_28 dX10_about_81 rfl rfl ?_
      refine P.iload_n (pc := 84) 1 dX10_about_84 rfl rfl ?_
      refine P.iaN (pc := 85) _ dX10_about_85 rfl rfl rfl (by first | omega | grind [nT]) ?_
      refine P.iret (pc := 86) dX10_about_86 rfl ?_
      exact pmI (by rw [o_about, if_neg (fun q => q c5'), ck, a5]; rfl) R frM.rf
    by_cases q5 : w = 5
    · subst q5
      refine P.tswIn (pc := 12) 87 dX10_about_12 (by decide) (by decide) rfl (by decide) ?_
      refine P.aload_n (pc := 87) 0 dX10_about_87 rfl rfl ?_
      refine P.getR (pc := 88) fl_X10_31 dX10_about_88 rfl rfl ?_
      refine P.iload_n (pc := 91) 1 dX10_about_91 rfl rfl ?_
      refine P.iaN (pc := 92) _ dX10_about_92 rfl rfl rfl (by first | omega | grind [nT]) ?_
      refine P.iret (pc := 93) dX10_about_93 rfl ?_
      exact pmI (by rw [o_about, if_neg (fun q => q c5'), ck, a6]; rfl) R frM.rf
    refine P.tswOut (pc := 12) 94 dX10_about_12 (tsw_out 5 (by omega) (fun j hj => by rcases (show j = 0 ∨ j = 1 ∨ j = 2 ∨ j = 3 ∨ j = 4 ∨ j = 5 by omega) with rfl | rfl | rfl | rfl | rfl | rfl <;> first | exact q0 | exact q1 | exact q2 | exact q3 | exact q4 | exact q5)) (by decide) ?_
    refine P.bipush (pc := 94) (v := -2) dX10_about_94 (by decide) ?_
    refine P.iret (pc := 96) dX10_about_96 rfl ?_
    exact pmI (by rw [o_about, if_neg (fun q => q c5'), if_neg q0, if_neg q1, if_neg q2, if_neg q3, if_neg q4, if_neg q5]) R frM.rf
  · refine P.bipush (pc := 8) (v := -2) dX10_about_8 (by decide) ?_
    refine P.iret (pc := 10) dX10_about_10 rfl ?_
    exact pmI (by rw [o_about, if_pos c5]) R frM.rf
theorem sp_X10_meet {n : Nat → Nat} {σ M : xM} (R : RM n σ M) {p q : Nat} (hp : p < 24) (hq : q < 24) : SpF mX10_meet [.ref 46, .int (nI p), .int (nI q)] M (bI (xmeet σ p q)) := by
  have a3 := R.1 (51, 8) (by decide)
  have a4 := R.1 (52, 9) (by decide)
  dsimp only at a3 a4
  refine P.aload_n (pc := 0) 0 dX10_meet_0 rfl rfl ?_
  refine P.getR (pc := 1) fl_X10_22 dX10_meet_1 rfl rfl ?_
  refine P.iload_n (pc := 4) 1 dX10_meet_4 rfl rfl ?_
  refine P.iaN (pc := 5) _ dX10_meet_5 rfl rfl rfl (by first | omega | grind [nT]) ?_
  refine P.aload_n (pc := 6) 0 dX10_meet_6 rfl rfl ?_
  refine P.getR (pc := 7) fl_X10_25 dX10_meet_7 rfl rfl ?_
  refine P.iload_n (pc := 10) 2 dX10_meet_10 rfl rfl ?_
  refine P.iaN (pc := 11) _ dX10_meet_11 rfl rfl rfl (by first | omega | grind [nT]) ?_
  refine P.icgt (pc := 12) 34 dX10_meet_12 (by decide) (fun c12 => ?_) (fun c12 => ?_)
  · refine P.iconst (pc := 34) (v := 0) dX10_meet_34 (by decide) ?_
    refine P.zret (pc := 35) dX10_meet_35 rfl (by decide) ?_
    first | exact xt ⟨by grind, by grind⟩ | exact xf (by unfold xmeet; grind)
  · refine P.aload_n (pc := 15) 0 dX10_meet_15 rfl rfl ?_
    refine P.getR (pc := 16) fl_X10_22 dX10_meet_16 rfl rfl ?_
    refine P.iload_n (pc := 19) 2 dX10_meet_19 rfl rfl ?_
    refine P.iaN (pc := 20) _ dX10_meet_20 rfl rfl rfl (by first | omega | grind [nT]) ?_
    refine P.aload_n (pc := 21) 0 dX10_meet_21 rfl rfl ?_
    refine P.getR (pc := 22) fl_X10_25 dX10_meet_22 rfl rfl ?_
    refine P.iload_n (pc := 25) 1 dX10_meet_25 rfl rfl ?_
    refine P.iaN (pc := 26) _ dX10_meet_26 rfl rfl rfl (by first | omega | grind [nT]) ?_
    refine P.icgt (pc := 27) 34 dX10_meet_27 (by decide) (fun c27 => ?_) (fun c27 => ?_)
    · refine P.iconst (pc := 34) (v := 0) dX10_meet_34 (by decide) ?_
      refine P.zret (pc := 35) dX10_meet_35 rfl (by decide) ?_
      first | exact xt ⟨by grind, by grind⟩ | exact xf (by unfold xmeet; grind)
    · refine P.iconst (pc := 30) (v := 1) dX10_meet_30 (by decide) ?_
      refine P.goto (pc := 31) 35 dX10_meet_31 (by decide) ?_
      refine P.zret (pc := 35) dX10_meet_35 rfl (by decide) ?_
      first | exact xt ⟨by grind, by grind⟩ | exact xf (by unfold xmeet; grind)
theorem hut_atM {n : Nat → Nat} {σ M : xM} (H : IvH n σ) (R : RM n σ M) {q : Nat} (hq : q < n 1) (h : ¬ M 54 q = -1) : ∃ a, a < n 0 ∧ M 54 q = nI a ∧ (σ 11 q).toNatClampNeg = a := by
  have e : M 54 q = σ 11 q := R.2.2.2.1 q hq
  rcases H.2.2.2.2.1 q hq with z | ⟨a, ha, z⟩
  · exact absurd (e.trans z) h
  · exact ⟨a, ha, e.trans z, by rw [z]; exact nI_clamp (by have := H.1; omega)⟩
theorem sp_X10_tell {n : Nat → Nat} {σ M : xM} (I : Iv n σ) (R : RM n σ M) (a b k : Int32) : SpI mX10_tell [.ref 46, .int a, .int b, .int k] M (PM (o_tell n σ a b k) M) := by
  have H := I.H
  have hc : M 46 3 = nI (n 1) := R.2.2.1 (3, 1) (by decide)
  have b1 : n 1 ≤ 24 := H.2.1
  have b0 : n 0 ≤ 30 := H.1
  have a1 := R.1 (55, 12) (by decide)
  have a2 := R.1 (47, 3) (by decide)
  dsimp only at a1 a2
  refine P.aload_n (pc := 0) 0 dX10_tell_0 rfl rfl ?_
  refine P.iload_n (pc := 1) 1 dX10_tell_1 rfl rfl ?_
  refine P.V1F (pc := 2) cs_X10_tell_151 dX10_tell_2 rfl rfl rfl (sp_X10_isParty hc b1 _) ?_
  refine P.ifeqB (pc := 5) 33 dX10_tell_5 (by decide) (fun c5 => ?_) (fun c5 => ?_)
  · refine P.bipush (pc := 33) (v := -2) dX10_tell_33 (by decide) ?_
    refine P.iret (pc := 35) dX10_tell_35 rfl ?_
    exact pmI (by rw [o_tell, if_pos (by grind [nW])]) R frM.rf
  · refine P.aload_n (pc := 8) 0 dX10_tell_8 rfl rfl ?_
    refine P.iload_n (pc := 9) 2 dX10_tell_9 rfl rfl ?_
    refine P.V1F (pc := 10) cs_X10_tell_151 dX10_tell_10 rfl rfl rfl (sp_X10_isParty hc b1 _) ?_
    refine P.ifeqB (pc := 13) 33 dX10_tell_13 (by decide) (fun c13 => ?_) (fun c13 => ?_)
    · refine P.bipush (pc := 33) (v := -2) dX10_tell_33 (by decide) ?_
      refine P.iret (pc := 35) dX10_tell_35 rfl ?_
      exact pmI (by rw [o_tell, if_pos (by grind [nW])]) R frM.rf
    · refine P.iload_n (pc := 16) 1 dX10_tell_16 rfl rfl ?_
      refine P.iload_n (pc := 17) 2 dX10_tell_17 rfl rfl ?_
      refine P.iceq (pc := 18) 33 dX10_tell_18 (by decide) (fun c18 => ?_) (fun c18 => ?_)
      · refine P.bipush (pc := 33) (v := -2) dX10_tell_33 (by decide) ?_
        refine P.iret (pc := 35) dX10_tell_35 rfl ?_
        exact pmI (by rw [o_tell, if_pos (by grind [nW])]) R frM.rf
      · refine P.iload_n (pc := 21) 3 dX10_tell_21 rfl rfl ?_
        refine P.i2l (pc := 22) dX10_tell_22 ?_
        refine P.lconst (pc := 23) (v := 0) dX10_tell_23 (by decide) ?_
        refine P.ldc2 (pc := 24) kc_X10_154 dX10_tell_24 ?_
        refine P.S3F (pc := 27) cs_X10_tell_132 dX10_tell_27 rfl rfl (sp_X10_within _ _ _ _) ?_
        refine P.ifneB (pc := 30) 36 dX10_tell_30 (by decide) (fun c30 => ?_) (fun c30 => ?_)
        · have c5' := c5
          have c13' := c13
          obtain ⟨p, hp, rfl⟩ := c5
          obtain ⟨q, hq, rfl⟩ := c13
          have ck := nI_clamp (n := p) (by omega)
          have ck2 := nI_clamp (n := q) (by omega)
          have e1 := R.2.2.2.1 p hp
          have e2 := R.2.2.2.1 q hq
          refine P.iload_n (pc := 36) 3 dX10_tell_36 rfl rfl ?_
          refine P.iconst (pc := 37) (v := 1) dX10_tell_37 (by decide) ?_
          refine P.icne (pc := 38) 98 dX10_tell_38 (by decide) (fun c38 => ?_) (fun c38 => ?_)
          · refine P.aload_n (pc := 98) 0 dX10_tell_98 rfl rfl ?_
            refine P.getR (pc := 99) fl_X10_34 dX10_tell_99 rfl rfl ?_
            refine P.bipush (pc := 102) (v := 24) dX10_tell_102 (by decide) ?_
            refine P.iload_n (pc := 104) 1 dX10_tell_104 rfl rfl ?_
            refine P.imul (pc := 105) dX10_tell_105 ?_
            refine P.iload_n (pc := 106) 2 dX10_tell_106 rfl rfl ?_
            refine P.iadd (pc := 107) dX10_tell_107 ?_
            refine P.iaN (pc := 108) (24 * p + q) dX10_tell_108 rfl rfl (by rw [nlit, pk_mul, nI_add]) (by first | omega | grind [nT]) ?_
            refine P.istore (pc := 109) 4 dX10_tell_109 (by decide) rfl ?_
            refine P.aload_n (pc := 111) 0 dX10_tell_111 rfl rfl ?_
            refine P.getR (pc := 112) fl_X10_34 dX10_tell_112 rfl rfl ?_
            refine P.bipush (pc := 115) (v := 24) dX10_tell_115 (by decide) ?_
            refine P.iload_n (pc := 117) 1 dX10_tell_117 rfl rfl ?_
            refine P.imul (pc := 118) dX10_tell_118 ?_
            refine P.iload_n (pc := 119) 2 dX10_tell_119 rfl rfl ?_
            refine P.iadd (pc := 120) dX10_tell_120 ?_
            refine P.iload_n (pc := 121) 3 dX10_tell_121 rfl rfl ?_
            refine P.isN (pc := 122) (24 * p + q) dX10_tell_122 rfl rfl (by rw [nlit, pk_mul, nI_add]) (by first | omega | grind [nT]) ?_
            refine P.aload_n (pc := 123) 0 dX10_tell_123 rfl rfl ?_
            refine P.getR (pc := 124) fl_X10_34 dX10_tell_124 rfl rfl ?_
            refine P.bipush (pc := 127) (v := 24) dX10_tell_127 (by decide) ?_
            refine P.iload_n (pc := 129) 2 dX10_tell_129 rfl rfl ?_
            refine P.imul (pc := 130) dX10_tell_130 ?_
            refine P.iload_n (pc := 131) 1 dX10_tell_131 rfl rfl ?_
            refine P.iadd (pc := 132) dX10_tell_132 ?_
            refine P.iload_n (pc := 133) 3 dX10_tell_133 rfl rfl ?_
            refine P.isN (pc := 134) (24 * q + p) dX10_tell_134 rfl rfl (by rw [nlit, pk_mul, nI_add]) (by first | omega | grind [nT]) ?_
            refine P.iload (pc := 135) 4 dX10_tell_135 rfl ?_
            refine P.iret (pc := 137) dX10_tell_137 rfl ?_
            rw [a1, xw_xw, xw_s]
            have no : ¬ (k = 1 ∧ ¬ σ 11 p = -1 ∧ xinr σ q (xrow σ p) ∧ xmeet σ p q) := by
              rintro ⟨u1, u2, ⟨u3, u4⟩, u5⟩
              first
              | exact c92 u5
              | exact c83 (by rw [a2, ← eu2, ← ev2]; exact u4.symm)
              | exact absurd (e2.symm.trans c58) u3
              | exact absurd (e1.symm.trans c48) u2
              | exact c38 u1
            exact pmI (by rw [o_tell, if_neg (by grind [nW]), ck, ck2, if_neg no]) (R.arr (a := 55) (c := 12) (by decide) _) (frM.rf.w (by decide) _)
          · refine P.aload_n (pc := 41) 0 dX10_tell_41 rfl rfl ?_
            refine P.getR (pc := 42) fl_X10_31 dX10_tell_42 rfl rfl ?_
            refine P.iload_n (pc := 45) 1 dX10_tell_45 rfl rfl ?_
            refine P.iaN (pc := 46) _ dX10_tell_46 rfl rfl rfl (by first | omega | grind [nT]) ?_
            refine P.iconst (pc := 47) (v := -1) dX10_tell_47 (by decide) ?_
            refine P.iceq (pc := 48) 98 dX10_tell_48 (by decide) (fun c48 => ?_) (fun c48 => ?_)
            · refine P.aload_n (pc := 98) 0 dX10_tell_98 rfl rfl ?_
              refine P.getR (pc := 99) fl_X10_34 dX10_tell_99 rfl rfl ?_
              refine P.bipush (pc := 102) (v := 24) dX10_tell_102 (by decide) ?_
              refine P.iload_n (pc := 104) 1 dX10_tell_104 rfl rfl ?_
              refine P.imul (pc := 105) dX10_tell_105 ?_
              refine P.iload_n (pc := 106) 2 dX10_tell_106 rfl rfl ?_
              refine P.iadd (pc := 107) dX10_tell_107 ?_
              refine P.iaN (pc := 108) (24 * p + q) dX10_tell_108 rfl rfl (by rw [nlit, pk_mul, nI_add]) (by first | omega | grind [nT]) ?_
              refine P.istore (pc := 109) 4 dX10_tell_109 (by decide) rfl ?_
              refine P.aload_n (pc := 111) 0 dX10_tell_111 rfl rfl ?_
              refine P.getR (pc := 112) fl_X10_34 dX10_tell_112 rfl rfl ?_
              refine P.bipush (pc := 115) (v := 24) dX10_tell_115 (by decide) ?_
              refine P.iload_n (pc := 117) 1 dX10_tell_117 rfl rfl ?_
              refine P.imul (pc := 118) dX10_tell_118 ?_
              refine P.iload_n (pc := 119) 2 dX10_tell_119 rfl rfl ?_
              refine P.iadd (pc := 120) dX10_tell_120 ?_
              refine P.iload_n (pc := 121) 3 dX10_tell_121 rfl rfl ?_
              refine P.isN (pc := 122) (24 * p + q) dX10_tell_122 rfl rfl (by rw [nlit, pk_mul, nI_add]) (by first | omega | grind [nT]) ?_
              refine P.aload_n (pc := 123) 0 dX10_tell_123 rfl rfl ?_
              refine P.getR (pc := 124) fl_X10_34 dX10_tell_124 rfl rfl ?_
              refine P.bipush (pc := 127) (v := 24) dX10_tell_127 (by decide) ?_
              refine P.iload_n (pc := 129) 2 dX10_tell_129 rfl rfl ?_
              refine P.imul (pc := 130) dX10_tell_130 ?_
              refine P.iload_n (pc := 131) 1 dX10_tell_131 rfl rfl ?_
              refine P.iadd (pc := 132) dX10_tell_132 ?_
              refine P.iload_n (pc := 133) 3 dX10_tell_133 rfl rfl ?_
              refine P.isN (pc := 134) (24 * q + p) dX10_tell_134 rfl rfl (by rw [nlit, pk_mul, nI_add]) (by first | omega | grind [nT]) ?_
              refine P.iload (pc := 135) 4 dX10_tell_135 rfl ?_
              refine P.iret (pc := 137) dX10_tell_137 rfl ?_
              rw [a1, xw_xw, xw_s]
              have no : ¬ (k = 1 ∧ ¬ σ 11 p = -1 ∧ xinr σ q (xrow σ p) ∧ xmeet σ p q) := by
                rintro ⟨u1, u2, ⟨u3, u4⟩, u5⟩
                first
                | exact c92 u5
                | exact c83 (by rw [a2, ← eu2, ← ev2]; exact u4.symm)
                | exact absurd (e2.symm.trans c58) u3
                | exact absurd (e1.symm.trans c48) u2
                | exact c38 u1
              exact pmI (by rw [o_tell, if_neg (by grind [nW]), ck, ck2, if_neg no]) (R.arr (a := 55) (c := 12) (by decide) _) (frM.rf.w (by decide) _)
            · refine P.aload_n (pc := 51) 0 dX10_tell_51 rfl rfl ?_
              refine P.getR (pc := 52) fl_X10_31 dX10_tell_52 rfl rfl ?_
              refine P.iload_n (pc := 55) 2 dX10_tell_55 rfl rfl ?_
              refine P.iaN (pc := 56) _ dX10_tell_56 rfl rfl rfl (by first | omega | grind [nT]) ?_
              refine P.iconst (pc := 57) (v := -1) dX10_tell_57 (by decide) ?_
              refine P.iceq (pc := 58) 98 dX10_tell_58 (by decide) (fun c58 => ?_) (fun c58 => ?_)
              · refine P.aload_n (pc := 98) 0 dX10_tell_98 rfl rfl ?_
                refine P.getR (pc := 99) fl_X10_34 dX10_tell_99 rfl rfl ?_
                refine P.bipush (pc := 102) (v := 24) dX10_tell_102 (by decide) ?_
                refine P.iload_n (pc := 104) 1 dX10_tell_104 rfl rfl ?_
                refine P.imul (pc := 105) dX10_tell_105 ?_
                refine P.iload_n (pc := 106) 2 dX10_tell_106 rfl rfl ?_
                refine P.iadd (pc := 107) dX10_tell_107 ?_
                refine P.iaN (pc := 108) (24 * p + q) dX10_tell_108 rfl rfl (by rw [nlit, pk_mul, nI_add]) (by first | omega | grind [nT]) ?_
                refine P.istore (pc := 109) 4 dX10_tell_109 (by decide) rfl ?_
                refine P.aload_n (pc := 111) 0 dX10_tell_111 rfl rfl ?_
                refine P.getR (pc := 112) fl_X10_34 dX10_tell_112 rfl rfl ?_
                refine P.bipush (pc := 115) (v := 24) dX10_tell_115 (by decide) ?_
                refine P.iload_n (pc := 117) 1 dX10_tell_117 rfl rfl ?_
                refine P.imul (pc := 118) dX10_tell_118 ?_
                refine P.iload_n (pc := 119) 2 dX10_tell_119 rfl rfl ?_
                refine P.iadd (pc := 120) dX10_tell_120 ?_
                refine P.iload_n (pc := 121) 3 dX10_tell_121 rfl rfl ?_
                refine P.isN (pc := 122) (24 * p + q) dX10_tell_122 rfl rfl (by rw [nlit, pk_mul, nI_add]) (by first | omega | grind [nT]) ?_
                refine P.aload_n (pc := 123) 0 dX10_tell_123 rfl rfl ?_
                refine P.getR (pc := 124) fl_X10_34 dX10_tell_124 rfl rfl ?_
                refine P.bipush (pc := 127) (v := 24) dX10_tell_127 (by decide) ?_
                refine P.iload_n (pc := 129) 2 dX10_tell_129 rfl rfl ?_
                refine P.imul (pc := 130) dX10_tell_130 ?_
                refine P.iload_n (pc := 131) 1 dX10_tell_131 rfl rfl ?_
                refine P.iadd (pc := 132) dX10_tell_132 ?_
                refine P.iload_n (pc := 133) 3 dX10_tell_133 rfl rfl ?_
                refine P.isN (pc := 134) (24 * q + p) dX10_tell_134 rfl rfl (by rw [nlit, pk_mul, nI_add]) (by first | omega | grind [nT]) ?_
                refine P.iload (pc := 135) 4 dX10_tell_135 rfl ?_
                refine P.iret (pc := 137) dX10_tell_137 rfl ?_
                rw [a1, xw_xw, xw_s]
                have no : ¬ (k = 1 ∧ ¬ σ 11 p = -1 ∧ xinr σ q (xrow σ p) ∧ xmeet σ p q) := by
                  rintro ⟨u1, u2, ⟨u3, u4⟩, u5⟩
                  first
                  | exact c92 u5
                  | exact c83 (by rw [a2, ← eu2, ← ev2]; exact u4.symm)
                  | exact absurd (e2.symm.trans c58) u3
                  | exact absurd (e1.symm.trans c48) u2
                  | exact c38 u1
                exact pmI (by rw [o_tell, if_neg (by grind [nW]), ck, ck2, if_neg no]) (R.arr (a := 55) (c := 12) (by decide) _) (frM.rf.w (by decide) _)
              · obtain ⟨u, hu, eu, eu2⟩ := hut_atM H R hp c48
                obtain ⟨v, hv, ev, ev2⟩ := hut_atM H R hq c58
                refine P.aload_n (pc := 61) 0 dX10_tell_61 rfl rfl ?_
                refine P.getR (pc := 62) fl_X10_7 dX10_tell_62 rfl rfl ?_
                refine P.aload_n (pc := 65) 0 dX10_tell_65 rfl rfl ?_
                refine P.getR (pc := 66) fl_X10_31 dX10_tell_66 rfl rfl ?_
                refine P.iload_n (pc := 69) 1 dX10_tell_69 rfl rfl ?_
                refine P.iaN (pc := 70) _ dX10_tell_70 rfl rfl rfl (by first | omega | grind [nT]) ?_
                rw [eu]
                refine P.iaN (pc := 71) (u) dX10_tell_71 rfl rfl rfl (by first | omega | grind [nT]) ?_
                refine P.aload_n (pc := 72) 0 dX10_tell_72 rfl rfl ?_
                refine P.getR (pc := 73) fl_X10_7 dX10_tell_73 rfl rfl ?_
                refine P.aload_n (pc := 76) 0 dX10_tell_76 rfl rfl ?_
                refine P.getR (pc := 77) fl_X10_31 dX10_tell_77 rfl rfl ?_
                refine P.iload_n (pc := 80) 2 dX10_tell_80 rfl rfl ?_
                refine P.iaN (pc := 81) _ dX10_tell_81 rfl rfl rfl (by first | omega | grind [nT]) ?_
                rw [ev]
                refine P.iaN (pc := 82) (v) dX10_tell_82 rfl rfl rfl (by first | omega | grind [nT]) ?_
                refine P.icne (pc := 83) 98 dX10_tell_83 (by decide) (fun c83 => ?_) (fun c83 => ?_)
                · refine P.aload_n (pc := 98) 0 dX10_tell_98 rfl rfl ?_
                  refine P.getR (pc := 99) fl_X10_34 dX10_tell_99 rfl rfl ?_
                  refine P.bipush (pc := 102) (v := 24) dX10_tell_102 (by decide) ?_
                  refine P.iload_n (pc := 104) 1 dX10_tell_104 rfl rfl ?_
                  refine P.imul (pc := 105) dX10_tell_105 ?_
                  refine P.iload_n (pc := 106) 2 dX10_tell_106 rfl rfl ?_
                  refine P.iadd (pc := 107) dX10_tell_107 ?_
                  refine P.iaN (pc := 108) (24 * p + q) dX10_tell_108 rfl rfl (by rw [nlit, pk_mul, nI_add]) (by first | omega | grind [nT]) ?_
                  refine P.istore (pc := 109) 4 dX10_tell_109 (by decide) rfl ?_
                  refine P.aload_n (pc := 111) 0 dX10_tell_111 rfl rfl ?_
                  refine P.getR (pc := 112) fl_X10_34 dX10_tell_112 rfl rfl ?_
                  refine P.bipush (pc := 115) (v := 24) dX10_tell_115 (by decide) ?_
                  refine P.iload_n (pc := 117) 1 dX10_tell_117 rfl rfl ?_
                  refine P.imul (pc := 118) dX10_tell_118 ?_
                  refine P.iload_n (pc := 119) 2 dX10_tell_119 rfl rfl ?_
                  refine P.iadd (pc := 120) dX10_tell_120 ?_
                  refine P.iload_n (pc := 121) 3 dX10_tell_121 rfl rfl ?_
                  refine P.isN (pc := 122) (24 * p + q) dX10_tell_122 rfl rfl (by rw [nlit, pk_mul, nI_add]) (by first | omega | grind [nT]) ?_
                  refine P.aload_n (pc := 123) 0 dX10_tell_123 rfl rfl ?_
                  refine P.getR (pc := 124) fl_X10_34 dX10_tell_124 rfl rfl ?_
                  refine P.bipush (pc := 127) (v := 24) dX10_tell_127 (by decide) ?_
                  refine P.iload_n (pc := 129) 2 dX10_tell_129 rfl rfl ?_
                  refine P.imul (pc := 130) dX10_tell_130 ?_
                  refine P.iload_n (pc := 131) 1 dX10_tell_131 rfl rfl ?_
                  refine P.iadd (pc := 132) dX10_tell_132 ?_
                  refine P.iload_n (pc := 133) 3 dX10_tell_133 rfl rfl ?_
                  refine P.isN (pc := 134) (24 * q + p) dX10_tell_134 rfl rfl (by rw [nlit, pk_mul, nI_add]) (by first | omega | grind [nT]) ?_
                  refine P.iload (pc := 135) 4 dX10_tell_135 rfl ?_
                  refine P.iret (pc := 137) dX10_tell_137 rfl ?_
                  rw [a1, xw_xw, xw_s]
                  have no : ¬ (k = 1 ∧ ¬ σ 11 p = -1 ∧ xinr σ q (xrow σ p) ∧ xmeet σ p q) := by
                    rintro ⟨u1, u2, ⟨u3, u4⟩, u5⟩
                    first
                    | exact c92 u5
                    | exact c83 (by rw [a2, ← eu2, ← ev2]; exact u4.symm)
                    | exact absurd (e2.symm.trans c58) u3
                    | exact absurd (e1.symm.trans c48) u2
                    | exact c38 u1
                  exact pmI (by rw [o_tell, if_neg (by grind [nW]), ck, ck2, if_neg no]) (R.arr (a := 55) (c := 12) (by decide) _) (frM.rf.w (by decide) _)
                · have er : xinr σ q (xrow σ p) := ⟨by rw [← e2]; exact c58, by rw [xrow, xrow, eu2, ev2, ← a2]; exact c83.symm⟩
                  refine P.aload_n (pc := 86) 0 dX10_tell_86 rfl rfl ?_
                  refine P.iload_n (pc := 87) 1 dX10_tell_87 rfl rfl ?_
                  refine P.iload_n (pc := 88) 2 dX10_tell_88 rfl rfl ?_
                  refine P.V2F (pc := 89) cs_X10_tell_156 dX10_tell_89 rfl rfl rfl (sp_X10_meet R (by omega) (by omega)) ?_
                  refine P.ifeqB (pc := 92) 98 dX10_tell_92 (by decide) (fun c92 => ?_) (fun c92 => ?_)
                  · refine P.aload_n (pc := 98) 0 dX10_tell_98 rfl rfl ?_
                    refine P.getR (pc := 99) fl_X10_34 dX10_tell_99 rfl rfl ?_
                    refine P.bipush (pc := 102) (v := 24) dX10_tell_102 (by decide) ?_
                    refine P.iload_n (pc := 104) 1 dX10_tell_104 rfl rfl ?_
                    refine P.imul (pc := 105) dX10_tell_105 ?_
                    refine P.iload_n (pc := 106) 2 dX10_tell_106 rfl rfl ?_
                    refine P.iadd (pc := 107) dX10_tell_107 ?_
                    refine P.iaN (pc := 108) (24 * p + q) dX10_tell_108 rfl rfl (by rw [nlit, pk_mul, nI_add]) (by first | omega | grind [nT]) ?_
                    refine P.istore (pc := 109) 4 dX10_tell_109 (by decide) rfl ?_
                    refine P.aload_n (pc := 111) 0 dX10_tell_111 rfl rfl ?_
                    refine P.getR (pc := 112) fl_X10_34 dX10_tell_112 rfl rfl ?_
                    refine P.bipush (pc := 115) (v := 24) dX10_tell_115 (by decide) ?_
                    refine P.iload_n (pc := 117) 1 dX10_tell_117 rfl rfl ?_
                    refine P.imul (pc := 118) dX10_tell_118 ?_
                    refine P.iload_n (pc := 119) 2 dX10_tell_119 rfl rfl ?_
                    refine P.iadd (pc := 120) dX10_tell_120 ?_
                    refine P.iload_n (pc := 121) 3 dX10_tell_121 rfl rfl ?_
                    refine P.isN (pc := 122) (24 * p + q) dX10_tell_122 rfl rfl (by rw [nlit, pk_mul, nI_add]) (by first | omega | grind [nT]) ?_
                    refine P.aload_n (pc := 123) 0 dX10_tell_123 rfl rfl ?_
                    refine P.getR (pc := 124) fl_X10_34 dX10_tell_124 rfl rfl ?_
                    refine P.bipush (pc := 127) (v := 24) dX10_tell_127 (by decide) ?_
                    refine P.iload_n (pc := 129) 2 dX10_tell_129 rfl rfl ?_
                    refine P.imul (pc := 130) dX10_tell_130 ?_
                    refine P.iload_n (pc := 131) 1 dX10_tell_131 rfl rfl ?_
                    refine P.iadd (pc := 132) dX10_tell_132 ?_
                    refine P.iload_n (pc := 133) 3 dX10_tell_133 rfl rfl ?_
                    refine P.isN (pc := 134) (24 * q + p) dX10_tell_134 rfl rfl (by rw [nlit, pk_mul, nI_add]) (by first | omega | grind [nT]) ?_
                    refine P.iload (pc := 135) 4 dX10_tell_135 rfl ?_
                    refine P.iret (pc := 137) dX10_tell_137 rfl ?_
                    rw [a1, xw_xw, xw_s]
                    have no : ¬ (k = 1 ∧ ¬ σ 11 p = -1 ∧ xinr σ q (xrow σ p) ∧ xmeet σ p q) := by
                      rintro ⟨u1, u2, ⟨u3, u4⟩, u5⟩
                      first
                      | exact c92 u5
                      | exact c83 (by rw [a2, ← eu2, ← ev2]; exact u4.symm)
                      | exact absurd (e2.symm.trans c58) u3
                      | exact absurd (e1.symm.trans c48) u2
                      | exact c38 u1
                    exact pmI (by rw [o_tell, if_neg (by grind [nW]), ck, ck2, if_neg no]) (R.arr (a := 55) (c := 12) (by decide) _) (frM.rf.w (by decide) _)
                  · refine P.bipush (pc := 95) (v := -3) dX10_tell_95 (by decide) ?_
                    refine P.iret (pc := 97) dX10_tell_97 rfl ?_
                    exact pmI (by rw [o_tell, if_neg (by grind [nW]), ck, ck2, if_pos (by grind)]) R frM.rf
        · refine P.bipush (pc := 33) (v := -2) dX10_tell_33 (by decide) ?_
          refine P.iret (pc := 35) dX10_tell_35 rfl ?_
          exact pmI (by rw [o_tell, if_pos (by grind [nW])]) R frM.rf
theorem sp_X10_isFree {n : Nat → Nat} {σ M : xM} (H : IvH n σ) (R : RM n σ M) {p h : Nat} (hp : p < n 1) (hh : h < n 0) : SpF mX10_isFree [.ref 46, .int (nI h), .int (nI p)] M (bI (σ 6 p ≤ σ 4 h ∧ ∀ q, q < n 1 → ¬ q = p → σ 11 q = nI h → ¬ xmeet σ p q)) := by
  have hc : M 46 3 = nI (n 1) := R.2.2.1 (3, 1) (by decide)
  have b1 : n 1 ≤ 24 := H.2.1
  have b0 : n 0 ≤ 30 := H.1
  have a3 := R.1 (48, 4) (by decide)
  have a4 := R.1 (49, 6) (by decide)
  dsimp only at a3 a4
  have lp : ∀ (hs : σ 6 p ≤ σ 4 h) (k i : Nat) (x : Int32), i + k = n 1 → x = nI i → (∀ q, q < i → ¬ q = p → σ 11 q = nI h → ¬ xmeet σ p q) → P mX10_isFree 19 [some (.ref 46), some (.int (nI h)), some (.int (nI p)), some (.int x)] [] M (fun r M' => r = some (.int (bI (σ 6 p ≤ σ 4 h ∧ ∀ q, q < n 1 → ¬ q = p → σ 11 q = nI h → ¬ xmeet σ p q))) ∧ M' = M) := by
    intro hs k
    induction k with
    | zero =>
      intro i x hi hx hr
      subst hx
      refine P.iload_n (pc := 19) 3 dX10_isFree_19 rfl rfl ?_
      refine P.aload_n (pc := 20) 0 dX10_isFree_20 rfl rfl ?_
      refine P.getI (pc := 21) fl_X10_136 dX10_isFree_21 rfl rfl ?_
      refine P.icge (pc := 24) 59 dX10_isFree_24 (by decide) (fun c24 => ?_) (fun c24 => ?_)
      · refine P.iconst (pc := 59) (v := 1) dX10_isFree_59 (by decide) ?_
        refine P.zret (pc := 60) dX10_isFree_60 rfl (by decide) ?_
        exact xt ⟨hs, fun q hq => hr q (by omega)⟩
      · exact absurd (show M 46 3 ≤ nI i by grind [nT]) c24--.
    | succ k ih =>
      intro i x hi hx hr
      subst hx
      have e1 := R.2.2.2.1 i (by omega)
      have nxt : ∀ (z : i = p ∨ ¬ σ 11 i = nI h ∨ ¬ xmeet σ p i), ∀ q, q < i + 1 → ¬ q = p → σ 11 q = nI h → ¬ xmeet σ p q := by
        intro z q hq u1 u2
        by_cases e : q = i
        · subst e
          rcases z with z | z | z
          · exact absurd z u1
          · exact absurd u2 z
          · exact z
        · exact hr q (by omega) u1 u2
      refine P.iload_n (pc := 19) 3 dX10_isFree_19 rfl rfl ?_
      refine P.aload_n (pc := 20) 0 dX10_isFree_20 rfl rfl ?_
      refine P.getI (pc := 21) fl_X10_136 dX10_isFree_21 rfl rfl ?_
      refine P.icge (pc := 24) 59 dX10_isFree_24 (by decide) (fun c24 => ?_) (fun c24 => ?_)
      · exact absurd c24 (by grind [nT])--.
      · refine P.iload_n (pc := 27) 3 dX10_isFree_27 rfl rfl ?_
        refine P.iload_n (pc := 28) 2 dX10_isFree_28 rfl rfl ?_
        refine P.iceq (pc := 29) 53 dX10_isFree_29 (by decide) (fun c29 => ?_) (fun c29 => ?_)
        · refine P.iinc (pc := 53) 3 1 dX10_isFree_53 rfl (by decide) (by decide) rfl ?_
          refine P.goto (pc := 56) 19 dX10_isFree_56 (by decide) ?_
          first
          | exact ih (i + 1) _ (by omega) (nI_1 i) (nxt (Or.inr (Or.inr c48)))
          | exact ih (i + 1) _ (by omega) (nI_1 i) (nxt (Or.inr (Or.inl c39)))
          | exact ih (i + 1) _ (by omega) (nI_1 i) (nxt (Or.inl (by grind [nT])))
        · refine P.aload_n (pc := 32) 0 dX10_isFree_32 rfl rfl ?_
          refine P.getR (pc := 33) fl_X10_31 dX10_isFree_33 rfl rfl ?_
          refine P.iload_n (pc := 36) 3 dX10_isFree_36 rfl rfl ?_
          refine P.iaN (pc := 37) _ dX10_isFree_37 rfl rfl rfl (by first | omega | grind [nT]) ?_
          rw [e1]
          refine P.iload_n (pc := 38) 1 dX10_isFree_38 rfl rfl ?_
          refine P.icne (pc := 39) 53 dX10_isFree_39 (by decide) (fun c39 => ?_) (fun c39 => ?_)
          · refine P.iinc (pc := 53) 3 1 dX10_isFree_53 rfl (by decide) (by decide) rfl ?_
            refine P.goto (pc := 56) 19 dX10_isFree_56 (by decide) ?_
            first
            | exact ih (i + 1) _ (by omega) (nI_1 i) (nxt (Or.inr (Or.inr c48)))
            | exact ih (i + 1) _ (by omega) (nI_1 i) (nxt (Or.inr (Or.inl c39)))
            | exact ih (i + 1) _ (by omega) (nI_1 i) (nxt (Or.inl (by grind [nT])))
          · refine P.aload_n (pc := 42) 0 dX10_isFree_42 rfl rfl ?_
            refine P.iload_n (pc := 43) 2 dX10_isFree_43 rfl rfl ?_
            refine P.iload_n (pc := 44) 3 dX10_isFree_44 rfl rfl ?_
            refine P.V2F (pc := 45) cs_X10_isFree_156 dX10_isFree_45 rfl rfl rfl (sp_X10_meet R (by omega) (by omega)) ?_
            refine P.ifeqB (pc := 48) 53 dX10_isFree_48 (by decide) (fun c48 => ?_) (fun c48 => ?_)
            · refine P.iinc (pc := 53) 3 1 dX10_isFree_53 rfl (by decide) (by decide) rfl ?_
              refine P.goto (pc := 56) 19 dX10_isFree_56 (by decide) ?_
              first
              | exact ih (i + 1) _ (by omega) (nI_1 i) (nxt (Or.inr (Or.inr c48)))
              | exact ih (i + 1) _ (by omega) (nI_1 i) (nxt (Or.inr (Or.inl c39)))
              | exact ih (i + 1) _ (by omega) (nI_1 i) (nxt (Or.inl (by grind [nT])))
            · refine P.iconst (pc := 51) (v := 0) dX10_isFree_51 (by decide) ?_
              refine P.zret (pc := 52) dX10_isFree_52 rfl (by decide) ?_
              exact xf (fun ⟨_, u⟩ => u i (by omega) (by grind [nT]) c39 c48)
  refine P.aload_n (pc := 0) 0 dX10_isFree_0 rfl rfl ?_
  refine P.getR (pc := 1) fl_X10_13 dX10_isFree_1 rfl rfl ?_
  refine P.iload_n (pc := 4) 1 dX10_isFree_4 rfl rfl ?_
  refine P.iaN (pc := 5) _ dX10_isFree_5 rfl rfl rfl (by first | omega | grind [nT]) ?_
  refine P.aload_n (pc := 6) 0 dX10_isFree_6 rfl rfl ?_
  refine P.getR (pc := 7) fl_X10_16 dX10_isFree_7 rfl rfl ?_
  refine P.iload_n (pc := 10) 2 dX10_isFree_10 rfl rfl ?_
  refine P.iaN (pc := 11) _ dX10_isFree_11 rfl rfl rfl (by first | omega | grind [nT]) ?_
  refine P.icge (pc := 12) 17 dX10_isFree_12 (by decide) (fun c12 => ?_) (fun c12 => ?_)
  · refine P.iconst (pc := 17) (v := 0) dX10_isFree_17 (by decide) ?_
    refine P.istore_n (pc := 18) 3 dX10_isFree_18 rfl (by decide) rfl ?_
    exact lp (by rw [← a3, ← a4]; exact c12) (n 1) 0 _ (by omega) rfl (fun q hq => by omega)
  · refine P.iconst (pc := 15) (v := 0) dX10_isFree_15 (by decide) ?_
    refine P.zret (pc := 16) dX10_isFree_16 rfl (by decide) ?_
    exact xf (fun ⟨u, _⟩ => c12 (by rw [a3, a4]; exact u))
def xtold (n : Nat → Nat) (σ : xM) (r : Int32) (p : Nat) (k : Int32) : Prop := ∃ q, q < n 1 ∧ xinr σ q r ∧ σ 12 (24 * p + q) = k ∧ ¬ q = p ∧ xmeet σ p q
theorem sp_X10_hasTold {n : Nat → Nat} {σ M : xM} (H : IvH n σ) (R : RM n σ M) {p : Nat} (hp : p < n 1) (r k : Int32) : SpF mX10_hasTold [.ref 46, .int r, .int (nI p), .int k] M (bI (xtold n σ r p k)) := by
  have hc : M 46 3 = nI (n 1) := R.2.2.1 (3, 1) (by decide)
  have b1 : n 1 ≤ 24 := H.2.1
  have b0 : n 0 ≤ 30 := H.1
  have a1 := R.1 (55, 12) (by decide)
  have a2 := R.1 (47, 3) (by decide)
  dsimp only at a1 a2
  have lp : ∀ (m i : Nat) (x : Int32), i + m = n 1 → x = nI i → (∀ q, q < i → ¬ (xinr σ q r ∧ σ 12 (24 * p + q) = k ∧ ¬ q = p ∧ xmeet σ p q)) → P mX10_hasTold 3 [some (.ref 46), some (.int r), some (.int (nI p)), some (.int k), some (.int x)] [] M (fun r' M' => r' = some (.int (bI (xtold n σ r p k))) ∧ M' = M) := by
    intro m
    induction m with
    | zero =>
      intro i x hi hx hr
      subst hx
      refine P.iload (pc := 3) 4 dX10_hasTold_3 rfl ?_
      refine P.aload_n (pc := 5) 0 dX10_hasTold_5 rfl rfl ?_
      refine P.getI (pc := 6) fl_X10_136 dX10_hasTold_6 rfl rfl ?_
      refine P.icge (pc := 9) 79 dX10_hasTold_9 (by decide) (fun c9 => ?_) (fun c9 => ?_)
      · refine P.iconst (pc := 79) (v := 0) dX10_hasTold_79 (by decide) ?_
        refine P.zret (pc := 80) dX10_hasTold_80 rfl (by decide) ?_
        exact xf (fun ⟨q, u, v⟩ => hr q (by omega) v)
      · exact absurd (show M 46 3 ≤ nI i by grind [nT]) c9--.
    | succ m ih =>
      intro i x hi hx hr
      subst hx
      have e1 := R.2.2.2.1 i (by omega)
      have nxt : ∀ (z : ¬ (xinr σ i r ∧ σ 12 (24 * p + i) = k ∧ ¬ i = p ∧ xmeet σ p i)), ∀ q, q < i + 1 → ¬ (xinr σ q r ∧ σ 12 (24 * p + q) = k ∧ ¬ q = p ∧ xmeet σ p q) := by
        intro z q hq
        by_cases e : q = i
        · subst e; exact z
        · exact hr q (by omega)
      refine P.iload (pc := 3) 4 dX10_hasTold_3 rfl ?_
      refine P.aload_n (pc := 5) 0 dX10_hasTold_5 rfl rfl ?_
      refine P.getI (pc := 6) fl_X10_136 dX10_hasTold_6 rfl rfl ?_
      refine P.icge (pc := 9) 79 dX10_hasTold_9 (by decide) (fun c9 => ?_) (fun c9 => ?_)
      · exact absurd c9 (by grind [nT])--.
      · refine P.aload_n (pc := 12) 0 dX10_hasTold_12 rfl rfl ?_
        refine P.getR (pc := 13) fl_X10_31 dX10_hasTold_13 rfl rfl ?_
        refine P.iload (pc := 16) 4 dX10_hasTold_16 rfl ?_
        refine P.iaN (pc := 18) _ dX10_hasTold_18 rfl rfl rfl (by first | omega | grind [nT]) ?_
        refine P.iconst (pc := 19) (v := -1) dX10_hasTold_19 (by decide) ?_
        refine P.iceq (pc := 20) 73 dX10_hasTold_20 (by decide) (fun c20 => ?_) (fun c20 => ?_)
        · refine P.iinc (pc := 73) 4 1 dX10_hasTold_73 rfl (by decide) (by decide) rfl ?_
          refine P.goto (pc := 76) 3 dX10_hasTold_76 (by decide) ?_
          first
          | exact ih (i + 1) _ (by omega) (nI_1 i) (nxt (fun z => c68 z.2.2.2))
          | exact ih (i + 1) _ (by omega) (nI_1 i) (nxt (fun z => z.2.2.1 (by have := c58; grind [nT])))
          | exact ih (i + 1) _ (by omega) (nI_1 i) (nxt (fun z => c52 (by rw [a1]; exact z.2.1)))
          | exact ih (i + 1) _ (by omega) (nI_1 i) (nxt (fun z => c36 (by rw [a2, ← eu2]; exact z.1.2)))
          | exact ih (i + 1) _ (by omega) (nI_1 i) (nxt (fun z => z.1.1 (by rw [← e1]; exact c20)))
        · obtain ⟨u, hu, eu, eu2⟩ := hut_atM H R (q := i) (by omega) c20
          refine P.aload_n (pc := 23) 0 dX10_hasTold_23 rfl rfl ?_
          refine P.getR (pc := 24) fl_X10_7 dX10_hasTold_24 rfl rfl ?_
          refine P.aload_n (pc := 27) 0 dX10_hasTold_27 rfl rfl ?_
          refine P.getR (pc := 28) fl_X10_31 dX10_hasTold_28 rfl rfl ?_
          refine P.iload (pc := 31) 4 dX10_hasTold_31 rfl ?_
          refine P.iaN (pc := 33) _ dX10_hasTold_33 rfl rfl rfl (by first | omega | grind [nT]) ?_
          rw [eu]
          refine P.iaN (pc := 34) (u) dX10_hasTold_34 rfl rfl rfl (by first | omega | grind [nT]) ?_
          refine P.iload_n (pc := 35) 1 dX10_hasTold_35 rfl rfl ?_
          refine P.icne (pc := 36) 73 dX10_hasTold_36 (by decide) (fun c36 => ?_) (fun c36 => ?_)
          · refine P.iinc (pc := 73) 4 1 dX10_hasTold_73 rfl (by decide) (by decide) rfl ?_
            refine P.goto (pc := 76) 3 dX10_hasTold_76 (by decide) ?_
            first
            | exact ih (i + 1) _ (by omega) (nI_1 i) (nxt (fun z => c68 z.2.2.2))
            | exact ih (i + 1) _ (by omega) (nI_1 i) (nxt (fun z => z.2.2.1 (by have := c58; grind [nT])))
            | exact ih (i + 1) _ (by omega) (nI_1 i) (nxt (fun z => c52 (by rw [a1]; exact z.2.1)))
            | exact ih (i + 1) _ (by omega) (nI_1 i) (nxt (fun z => c36 (by rw [a2, ← eu2]; exact z.1.2)))
            | exact ih (i + 1) _ (by omega) (nI_1 i) (nxt (fun z => z.1.1 (by rw [← e1]; exact c20)))
          · refine P.aload_n (pc := 39) 0 dX10_hasTold_39 rfl rfl ?_
            refine P.getR (pc := 40) fl_X10_34 dX10_hasTold_40 rfl rfl ?_
            refine P.bipush (pc := 43) (v := 24) dX10_hasTold_43 (by decide) ?_
            refine P.iload_n (pc := 45) 2 dX10_hasTold_45 rfl rfl ?_
            refine P.imul (pc := 46) dX10_hasTold_46 ?_
            refine P.iload (pc := 47) 4 dX10_hasTold_47 rfl ?_
            refine P.iadd (pc := 49) dX10_hasTold_49 ?_
            refine P.iaN (pc := 50) (24 * p + i) dX10_hasTold_50 rfl rfl (by rw [nlit, pk_mul, nI_add]) (by first | omega | grind [nT]) ?_
            refine P.iload_n (pc := 51) 3 dX10_hasTold_51 rfl rfl ?_
            refine P.icne (pc := 52) 73 dX10_hasTold_52 (by decide) (fun c52 => ?_) (fun c52 => ?_)
            · refine P.iinc (pc := 73) 4 1 dX10_hasTold_73 rfl (by decide) (by decide) rfl ?_
              refine P.goto (pc := 76) 3 dX10_hasTold_76 (by decide) ?_
              first
              | exact ih (i + 1) _ (by omega) (nI_1 i) (nxt (fun z => c68 z.2.2.2))
              | exact ih (i + 1) _ (by omega) (nI_1 i) (nxt (fun z => z.2.2.1 (by have := c58; grind [nT])))
              | exact ih (i + 1) _ (by omega) (nI_1 i) (nxt (fun z => c52 (by rw [a1]; exact z.2.1)))
              | exact ih (i + 1) _ (by omega) (nI_1 i) (nxt (fun z => c36 (by rw [a2, ← eu2]; exact z.1.2)))
              | exact ih (i + 1) _ (by omega) (nI_1 i) (nxt (fun z => z.1.1 (by rw [← e1]; exact c20)))
            · refine P.iload (pc := 55) 4 dX10_hasTold_55 rfl ?_
              refine P.iload_n (pc := 57) 2 dX10_hasTold_57 rfl rfl ?_
              refine P.iceq (pc := 58) 73 dX10_hasTold_58 (by decide) (fun c58 => ?_) (fun c58 => ?_)
              · refine P.iinc (pc := 73) 4 1 dX10_hasTold_73 rfl (by decide) (by decide) rfl ?_
                refine P.goto (pc := 76) 3 dX10_hasTold_76 (by decide) ?_
                first
                | exact ih (i + 1) _ (by omega) (nI_1 i) (nxt (fun z => c68 z.2.2.2))
                | exact ih (i + 1) _ (by omega) (nI_1 i) (nxt (fun z => z.2.2.1 (by have := c58; grind [nT])))
                | exact ih (i + 1) _ (by omega) (nI_1 i) (nxt (fun z => c52 (by rw [a1]; exact z.2.1)))
                | exact ih (i + 1) _ (by omega) (nI_1 i) (nxt (fun z => c36 (by rw [a2, ← eu2]; exact z.1.2)))
                | exact ih (i + 1) _ (by omega) (nI_1 i) (nxt (fun z => z.1.1 (by rw [← e1]; exact c20)))
              · refine P.aload_n (pc := 61) 0 dX10_hasTold_61 rfl rfl ?_
                refine P.iload_n (pc := 62) 2 dX10_hasTold_62 rfl rfl ?_
                refine P.iload (pc := 63) 4 dX10_hasTold_63 rfl ?_
                refine P.V2F (pc := 65) cs_X10_hasTold_156 dX10_hasTold_65 rfl rfl rfl (sp_X10_meet R (by omega) (by omega)) ?_
                refine P.ifeqB (pc := 68) 73 dX10_hasTold_68 (by decide) (fun c68 => ?_) (fun c68 => ?_)
                · refine P.iinc (pc := 73) 4 1 dX10_hasTold_73 rfl (by decide) (by decide) rfl ?_
                  refine P.goto (pc := 76) 3 dX10_hasTold_76 (by decide) ?_
                  first
                  | exact ih (i + 1) _ (by omega) (nI_1 i) (nxt (fun z => c68 z.2.2.2))
                  | exact ih (i + 1) _ (by omega) (nI_1 i) (nxt (fun z => z.2.2.1 (by have := c58; grind [nT])))
                  | exact ih (i + 1) _ (by omega) (nI_1 i) (nxt (fun z => c52 (by rw [a1]; exact z.2.1)))
                  | exact ih (i + 1) _ (by omega) (nI_1 i) (nxt (fun z => c36 (by rw [a2, ← eu2]; exact z.1.2)))
                  | exact ih (i + 1) _ (by omega) (nI_1 i) (nxt (fun z => z.1.1 (by rw [← e1]; exact c20)))
                · refine P.iconst (pc := 71) (v := 1) dX10_hasTold_71 (by decide) ?_
                  refine P.zret (pc := 72) dX10_hasTold_72 rfl (by decide) ?_
                  exact xt ⟨i, by omega, ⟨by rw [← e1]; exact c20, by rw [xrow, eu2, ← a2]; exact c36⟩, by rw [← a1]; exact c52, by grind [nT], c68⟩
  refine P.iconst (pc := 0) (v := 0) dX10_hasTold_0 (by decide) ?_
  refine P.istore (pc := 1) 4 dX10_hasTold_1 (by decide) rfl ?_
  exact lp (n 1) 0 _ (by omega) rfl (fun q hq => by omega)
theorem told_next {n : Nat → Nat} {σ : xM} (H : IvH n σ) {p : Nat} (hp : p < n 1) (r : Int32) : xtold n σ r p 0 ↔ xnext n σ p r := by
  have b1 : n 1 ≤ 24 := H.2.1
  constructor
  · rintro ⟨q, u1, u2, u3, u4, u5⟩; exact ⟨q, u1, u3, u2, u5⟩
  · rintro ⟨q, u1, u2, u3, u4⟩
    refine ⟨q, u1, u3, u2, ?_, u4⟩
    rintro rfl
    have := H.2.2.2.2.2 q (by omega)
    rw [u2] at this
    exact absurd this (by decide)
theorem may_iff {n : Nat → Nat} {σ : xM} (H : IvH n σ) {p h : Nat} (hh : h < n 0) : ((σ 6 p ≤ σ 4 h ∧ ∀ q, q < n 1 → ¬ q = p → σ 11 q = nI h → ¬ xmeet σ p q) ∧ ¬ xtold n σ (σ 3 h) p 1) ↔ xmay n σ p h := by
  have b0 : n 0 ≤ 30 := H.1
  constructor
  · rintro ⟨⟨u1, u2⟩, u3⟩
    refine ⟨u1, fun q hq v1 v2 v3 v4 => ?_⟩
    rcases v4 with v4 | v4
    · exact u2 q hq v1 v4 v3
    · exact u3 ⟨q, hq, v2, v4, v1, v3⟩
  · rintro ⟨u1, u2⟩
    refine ⟨⟨u1, fun q hq v1 v2 v3 => ?_⟩, fun ⟨q, hq, v1, v2, v3, v4⟩ => u2 q hq v3 v1 v4 (Or.inr v2)⟩
    exact u2 q hq v1 ⟨by rw [v2]; grind [nT], by rw [xrow, v2, nI_clamp (by omega)]⟩ v3 (Or.inl v2)
theorem sp_X10_mayLodge {n : Nat → Nat} {σ M : xM} (H : IvH n σ) (R : RM n σ M) {p h : Nat} (hp : p < n 1) (hh : h < n 0) : SpF mX10_mayLodge [.ref 46, .int (nI h), .int (nI p)] M (bI (xmay n σ p h)) := by
  have b1 : n 1 ≤ 24 := H.2.1
  have b0 : n 0 ≤ 30 := H.1
  have a2 := R.1 (47, 3) (by decide)
  have mi := may_iff H (p := p) hh
  dsimp only at a2
  refine P.aload_n (pc := 0) 0 dX10_mayLodge_0 rfl rfl ?_
  refine P.iload_n (pc := 1) 1 dX10_mayLodge_1 rfl rfl ?_
  refine P.iload_n (pc := 2) 2 dX10_mayLodge_2 rfl rfl ?_
  refine P.V2F (pc := 3) cs_X10_mayLodge_160 dX10_mayLodge_3 rfl rfl rfl (sp_X10_isFree H R hp hh) ?_
  refine P.ifeqB (pc := 6) 28 dX10_mayLodge_6 (by decide) (fun c6 => ?_) (fun c6 => ?_)
  · refine P.iconst (pc := 28) (v := 0) dX10_mayLodge_28 (by decide) ?_
    refine P.zret (pc := 29) dX10_mayLodge_29 rfl (by decide) ?_
    first | exact xt (mi.mp ⟨c6, by first | exact c21⟩) | exact xf (fun u => (mi.mpr u).2 c21) | exact xf (fun u => c6 (mi.mpr u).1)
  · refine P.aload_n (pc := 9) 0 dX10_mayLodge_9 rfl rfl ?_
    refine P.aload_n (pc := 10) 0 dX10_mayLodge_10 rfl rfl ?_
    refine P.getR (pc := 11) fl_X10_7 dX10_mayLodge_11 rfl rfl ?_
    refine P.iload_n (pc := 14) 1 dX10_mayLodge_14 rfl rfl ?_
    refine P.iaN (pc := 15) _ dX10_mayLodge_15 rfl rfl rfl (by first | omega | grind [nT]) ?_
    rw [a2]
    refine P.iload_n (pc := 16) 2 dX10_mayLodge_16 rfl rfl ?_
    refine P.iconst (pc := 17) (v := 1) dX10_mayLodge_17 (by decide) ?_
    refine P.V3F (pc := 18) cs_X10_mayLodge_163 dX10_mayLodge_18 rfl rfl rfl (sp_X10_hasTold H R hp _ _) ?_
    refine P.ifneB (pc := 21) 28 dX10_mayLodge_21 (by decide) (fun c21 => ?_) (fun c21 => ?_)
    · refine P.iconst (pc := 28) (v := 0) dX10_mayLodge_28 (by decide) ?_
      refine P.zret (pc := 29) dX10_mayLodge_29 rfl (by decide) ?_
      first | exact xt (mi.mp ⟨c6, by first | exact c21⟩) | exact xf (fun u => (mi.mpr u).2 c21) | exact xf (fun u => c6 (mi.mpr u).1)
    · refine P.iconst (pc := 24) (v := 1) dX10_mayLodge_24 (by decide) ?_
      refine P.goto (pc := 25) 29 dX10_mayLodge_25 (by decide) ?_
      refine P.zret (pc := 29) dX10_mayLodge_29 rfl (by decide) ?_
      first | exact xt (mi.mp ⟨c6, by first | exact c21⟩) | exact xf (fun u => (mi.mpr u).2 c21) | exact xf (fun u => c6 (mi.mpr u).1)
