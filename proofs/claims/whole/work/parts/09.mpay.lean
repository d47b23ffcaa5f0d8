/-! paying back: the reference -/
theorem sp_X10_list {n : Nat → Nat} {σ M : xM} (I : Iv n σ) (R : RM n σ M) (d no h : Int32) : SpI mX10_list [.ref 46, .int d, .int no, .int h] M (PM (o_list n σ d no h) M) := by
  have hc : M 46 38 = nI (n 5) := R.2.2.1 (38, 5) (by decide)
  have a1 := R.1 (77, 39) (by decide)
  have a2 := R.1 (78, 40) (by decide)
  have a3 := R.1 (79, 41) (by decide)
  have b1 : n 5 ≤ 30 := I.2.2.2.2.1.1
  dsimp only at a1 a2 a3
  refine P.iload_n (pc := 0) 1 dX10_list_0 rfl rfl ?_
  refine P.i2l (pc := 1) dX10_list_1 ?_
  refine P.lconst (pc := 2) (v := 0) dX10_list_2 (by decide) ?_
  refine P.ldc2 (pc := 3) kc_X10_238 dX10_list_3 ?_
  refine P.S3F (pc := 6) cs_X10_list_132 dX10_list_6 rfl rfl (sp_X10_within _ _ _ _) ?_
  refine P.ifeqB (pc := 9) 36 dX10_list_9 (by decide) (fun c9 => ?_) (fun c9 => ?_)
  · refine P.bipush (pc := 36) (v := -2) dX10_list_36 (by decide) ?_
    refine P.iret (pc := 38) dX10_list_38 rfl ?_
    exact pmI (by grind [o_list, nW]) R frM.rf
  · refine P.iload_n (pc := 12) 2 dX10_list_12 rfl rfl ?_
    refine P.i2l (pc := 13) dX10_list_13 ?_
    refine P.lconst (pc := 14) (v := 0) dX10_list_14 (by decide) ?_
    refine P.ldc2 (pc := 15) kc_X10_240 dX10_list_15 ?_
    refine P.S3F (pc := 18) cs_X10_list_132 dX10_list_18 rfl rfl (sp_X10_within _ _ _ _) ?_
    refine P.ifeqB (pc := 21) 36 dX10_list_21 (by decide) (fun c21 => ?_) (fun c21 => ?_)
    · refine P.bipush (pc := 36) (v := -2) dX10_list_36 (by decide) ?_
      refine P.iret (pc := 38) dX10_list_38 rfl ?_
      exact pmI (by grind [o_list, nW]) R frM.rf
    · refine P.iload_n (pc := 24) 3 dX10_list_24 rfl rfl ?_
      refine P.i2l (pc := 25) dX10_list_25 ?_
      refine P.lconst (pc := 26) (v := 0) dX10_list_26 (by decide) ?_
      refine P.ldc2 (pc := 27) kc_X10_242 dX10_list_27 ?_
      refine P.S3F (pc := 30) cs_X10_list_132 dX10_list_30 rfl rfl (sp_X10_within _ _ _ _) ?_
      refine P.ifneB (pc := 33) 39 dX10_list_33 (by decide) (fun c33 => ?_) (fun c33 => ?_)
      · refine P.aload_n (pc := 39) 0 dX10_list_39 rfl rfl ?_
        refine P.getI (pc := 40) fl_X10_244 dX10_list_40 rfl rfl ?_
        refine P.bipush (pc := 43) (v := 30) dX10_list_43 (by decide) ?_
        refine P.icne (pc := 45) 51 dX10_list_45 (by decide) (fun c45 => ?_) (fun c45 => ?_)
        · refine P.aload_n (pc := 51) 0 dX10_list_51 rfl rfl ?_
          refine P.getR (pc := 52) fl_X10_108 dX10_list_52 rfl rfl ?_
          refine P.aload_n (pc := 55) 0 dX10_list_55 rfl rfl ?_
          refine P.getI (pc := 56) fl_X10_244 dX10_list_56 rfl rfl ?_
          rw [hc]
          refine P.iload_n (pc := 59) 1 dX10_list_59 rfl rfl ?_
          refine P.isN (pc := 60) _ dX10_list_60 rfl rfl rfl (by first | omega | grind [nT]) ?_
          refine P.aload_n (pc := 61) 0 dX10_list_61 rfl rfl ?_
          refine P.getR (pc := 62) fl_X10_111 dX10_list_62 rfl rfl ?_
          refine P.aload_n (pc := 65) 0 dX10_list_65 rfl rfl ?_
          refine P.getI (pc := 66) fl_X10_244 dX10_list_66 rfl rfl ?_
          simp only [xw_ap, Nat.reduceEqDiff, ↓reduceIte, hc]
          refine P.iload_n (pc := 69) 2 dX10_list_69 rfl rfl ?_
          refine P.isN (pc := 70) _ dX10_list_70 rfl rfl rfl (by first | omega | grind [nT]) ?_
          refine P.aload_n (pc := 71) 0 dX10_list_71 rfl rfl ?_
          refine P.getR (pc := 72) fl_X10_114 dX10_list_72 rfl rfl ?_
          refine P.aload_n (pc := 75) 0 dX10_list_75 rfl rfl ?_
          refine P.getI (pc := 76) fl_X10_244 dX10_list_76 rfl rfl ?_
          simp only [xw_ap, Nat.reduceEqDiff, ↓reduceIte, hc]
          refine P.iload_n (pc := 79) 3 dX10_list_79 rfl rfl ?_
          refine P.isN (pc := 80) _ dX10_list_80 rfl rfl rfl (by first | omega | grind [nT]) ?_
          refine P.aload_n (pc := 81) 0 dX10_list_81 rfl rfl ?_
          refine P.dup (pc := 82) dX10_list_82 rfl ?_
          refine P.getI (pc := 83) fl_X10_244 dX10_list_83 rfl rfl ?_
          simp only [xw_ap, Nat.reduceEqDiff, ↓reduceIte, hc]
          refine P.iconst (pc := 86) (v := 1) dX10_list_86 (by decide) ?_
          refine P.iadd (pc := 87) dX10_list_87 ?_
          refine P.put (pc := 88) fp_X10_244 dX10_list_88 rfl rfl ?_
          refine P.aload_n (pc := 91) 0 dX10_list_91 rfl rfl ?_
          refine P.getI (pc := 92) fl_X10_244 dX10_list_92 rfl rfl ?_
          simp only [xw_ap, upd_ap, Nat.reduceEqDiff, ↓reduceIte, hc, nI_1]
          refine P.iret (pc := 95) dX10_list_95 rfl ?_
          rw [a1, a2, a3]
          exact pmI (by rw [o_list, if_neg (by grind [nW]), if_neg (by grind [nT])]) ((((R.arr (by decide) _).arr (by decide) _).arr (by decide) _).cnt (by decide) _ (fun e => absurd e (by decide))) ((((frM.rf.w (by decide) _).w (by decide) _).w (by decide) _).w (by decide) _)
        · refine P.bipush (pc := 48) (v := -4) dX10_list_48 (by decide) ?_
          refine P.iret (pc := 50) dX10_list_50 rfl ?_
          exact pmI (by grind [o_list, nT, nW]) R frM.rf
      · refine P.bipush (pc := 36) (v := -2) dX10_list_36 (by decide) ?_
        refine P.iret (pc := 38) dX10_list_38 rfl ?_
        exact pmI (by grind [o_list, nW]) R frM.rf
theorem sp_X10_pays {n : Nat → Nat} {σ M : xM} (I : Iv n σ) (R : RM n σ M) (d no : Int32) : SpI mX10_pays [.ref 46, .int d, .int no] M (PM (o_pays n σ d no) M) := by
  have hc : M 46 38 = nI (n 5) := R.2.2.1 (38, 5) (by decide)
  have a1 := R.1 (77, 39) (by decide)
  have a2 := R.1 (78, 40) (by decide)
  have a3 := R.1 (79, 41) (by decide)
  have hm : n 5 ≤ 30 := I.2.2.2.2.1.1
  dsimp only at a1 a2 a3
  have lp2 : ∀ (hg : 0 ≤ d ∧ d ≤ 999 ∧ 0 ≤ no ∧ no ≤ 999) (ld : Int32) (hld : ld = xlat (σ 39) d (n 5)) (k i : Nat) (a x : Int32) (o6 : Option Value), i + k = n 5 → a = xbest (σ 39) (σ 40) (σ 41) ld no i → x = nI i → P mX10_pays 87 [some (.ref 46), some (.int d), some (.int no), some (.int ld), some (.int a), some (.int x), o6] [] M (fun r M' => ∃ w, r = some (.int w) ∧ PM (o_pays n σ d no) M w M') := by
    intro hg ld hld k
    induction k with
    | zero =>
      intro i a x o6 hi ha hx
      subst hx
      refine P.iload (pc := 87) 5 dX10_pays_87 rfl ?_
      refine P.aload_n (pc := 89) 0 dX10_pays_89 rfl rfl ?_
      refine P.getI (pc := 90) fl_X10_244 dX10_pays_90 rfl rfl ?_
      refine P.icge (pc := 93) 162 dX10_pays_93 (by decide) (fun c93 => ?_) (fun c93 => ?_)
      · refine P.iload (pc := 162) 4 dX10_pays_162 rfl ?_
        refine P.iret (pc := 164) dX10_pays_164 rfl ?_
        exact pmI (by grind [o_pays]) R frM.rf
      · exact absurd (show M 46 38 ≤ nI i by grind [nT]) c93--.
    | succ k ih =>
      intro i a x o6 hi ha hx
      subst hx
      refine P.iload (pc := 87) 5 dX10_pays_87 rfl ?_
      refine P.aload_n (pc := 89) 0 dX10_pays_89 rfl rfl ?_
      refine P.getI (pc := 90) fl_X10_244 dX10_pays_90 rfl rfl ?_
      refine P.icge (pc := 93) 162 dX10_pays_93 (by decide) (fun c93 => ?_) (fun c93 => ?_)
      · exact absurd c93 (by grind [nT])--.
      · refine P.aload_n (pc := 96) 0 dX10_pays_96 rfl rfl ?_
        refine P.getR (pc := 97) fl_X10_108 dX10_pays_97 rfl rfl ?_
        refine P.iload (pc := 100) 5 dX10_pays_100 rfl ?_
        refine P.iaN (pc := 102) _ dX10_pays_102 rfl rfl rfl (by first | omega | grind [nT]) ?_
        refine P.iload_n (pc := 103) 3 dX10_pays_103 rfl rfl ?_
        refine P.icne (pc := 104) 122 dX10_pays_104 (by decide) (fun c104 => ?_) (fun c104 => ?_)
        · refine P.iconst (pc := 122) (v := 0) dX10_pays_122 (by decide) ?_
          refine P.istore (pc := 123) 6 dX10_pays_123 (by decide) rfl ?_
          refine P.iload (pc := 125) 6 dX10_pays_125 rfl ?_
          refine P.ifeq (pc := 127) 152 dX10_pays_127 (by decide) (fun c127 => ?_) (fun q => absurd q (by decide))
          refine P.iload (pc := 152) 4 dX10_pays_152 rfl ?_
          refine P.istore (pc := 154) 4 dX10_pays_154 (by decide) rfl ?_
          refine P.iinc (pc := 156) 5 1 dX10_pays_156 rfl (by decide) (by decide) rfl ?_
          refine P.goto (pc := 159) 87 dX10_pays_159 (by decide) ?_
          exact ih (i + 1) _ _ _ (by omega) (by grind [xbest]) (nI_1 i)
        · refine P.aload_n (pc := 107) 0 dX10_pays_107 rfl rfl ?_
          refine P.getR (pc := 108) fl_X10_111 dX10_pays_108 rfl rfl ?_
          refine P.iload (pc := 111) 5 dX10_pays_111 rfl ?_
          refine P.iaN (pc := 113) _ dX10_pays_113 rfl rfl rfl (by first | omega | grind [nT]) ?_
          refine P.iload_n (pc := 114) 2 dX10_pays_114 rfl rfl ?_
          refine P.icgt (pc := 115) 122 dX10_pays_115 (by decide) (fun c115 => ?_) (fun c115 => ?_)
          · refine P.iconst (pc := 122) (v := 0) dX10_pays_122 (by decide) ?_
            refine P.istore (pc := 123) 6 dX10_pays_123 (by decide) rfl ?_
            refine P.iload (pc := 125) 6 dX10_pays_125 rfl ?_
            refine P.ifeq (pc := 127) 152 dX10_pays_127 (by decide) (fun c127 => ?_) (fun q => absurd q (by decide))
            refine P.iload (pc := 152) 4 dX10_pays_152 rfl ?_
            refine P.istore (pc := 154) 4 dX10_pays_154 (by decide) rfl ?_
            refine P.iinc (pc := 156) 5 1 dX10_pays_156 rfl (by decide) (by decide) rfl ?_
            refine P.goto (pc := 159) 87 dX10_pays_159 (by decide) ?_
            exact ih (i + 1) _ _ _ (by omega) (by grind [xbest]) (nI_1 i)
          · refine P.iconst (pc := 118) (v := 1) dX10_pays_118 (by decide) ?_
            refine P.goto (pc := 119) 123 dX10_pays_119 (by decide) ?_
            refine P.istore (pc := 123) 6 dX10_pays_123 (by decide) rfl ?_
            refine P.iload (pc := 125) 6 dX10_pays_125 rfl ?_
            refine P.ifeq (pc := 127) 152 dX10_pays_127 (by decide) (fun q => absurd q (by decide)) (fun c127 => ?_)
            refine P.aload_n (pc := 130) 0 dX10_pays_130 rfl rfl ?_
            refine P.getR (pc := 131) fl_X10_114 dX10_pays_131 rfl rfl ?_
            refine P.iload (pc := 134) 5 dX10_pays_134 rfl ?_
            refine P.iaN (pc := 136) _ dX10_pays_136 rfl rfl rfl (by first | omega | grind [nT]) ?_
            refine P.iload (pc := 137) 4 dX10_pays_137 rfl ?_
            refine P.icle (pc := 139) 152 dX10_pays_139 (by decide) (fun c139 => ?_) (fun c139 => ?_)
            · refine P.iload (pc := 152) 4 dX10_pays_152 rfl ?_
              refine P.istore (pc := 154) 4 dX10_pays_154 (by decide) rfl ?_
              refine P.iinc (pc := 156) 5 1 dX10_pays_156 rfl (by decide) (by decide) rfl ?_
              refine P.goto (pc := 159) 87 dX10_pays_159 (by decide) ?_
              exact ih (i + 1) _ _ _ (by omega) (by grind [xbest]) (nI_1 i)
            · refine P.aload_n (pc := 142) 0 dX10_pays_142 rfl rfl ?_
              refine P.getR (pc := 143) fl_X10_114 dX10_pays_143 rfl rfl ?_
              refine P.iload (pc := 146) 5 dX10_pays_146 rfl ?_
              refine P.iaN (pc := 148) _ dX10_pays_148 rfl rfl rfl (by first | omega | grind [nT]) ?_
              refine P.goto (pc := 149) 154 dX10_pays_149 (by decide) ?_
              refine P.istore (pc := 154) 4 dX10_pays_154 (by decide) rfl ?_
              refine P.iinc (pc := 156) 5 1 dX10_pays_156 rfl (by decide) (by decide) rfl ?_
              refine P.goto (pc := 159) 87 dX10_pays_159 (by decide) ?_
              exact ih (i + 1) _ _ _ (by omega) (by grind [xbest]) (nI_1 i)
  have lp : ∀ (hg : 0 ≤ d ∧ d ≤ 999 ∧ 0 ≤ no ∧ no ≤ 999) (k i : Nat) (a x : Int32) (o5 o6 : Option Value), i + k = n 5 → a = xlat (σ 39) d i → x = nI i → P mX10_pays 32 [some (.ref 46), some (.int d), some (.int no), some (.int a), some (.int x), o5, o6] [] M (fun r M' => ∃ w, r = some (.int w) ∧ PM (o_pays n σ d no) M w M') := by
    intro hg k
    induction k with
    | zero =>
      intro i a x o5 o6 hi ha hx
      subst hx
      refine P.iload (pc := 32) 4 dX10_pays_32 rfl ?_
      refine P.aload_n (pc := 34) 0 dX10_pays_34 rfl rfl ?_
      refine P.getI (pc := 35) fl_X10_244 dX10_pays_35 rfl rfl ?_
      refine P.icge (pc := 38) 81 dX10_pays_38 (by decide) (fun c38 => ?_) (fun c38 => ?_)
      · refine P.iconst (pc := 81) (v := 0) dX10_pays_81 (by decide) ?_
        refine P.istore (pc := 82) 4 dX10_pays_82 (by decide) rfl ?_
        refine P.iconst (pc := 84) (v := 0) dX10_pays_84 (by decide) ?_
        refine P.istore (pc := 85) 5 dX10_pays_85 (by decide) rfl ?_
        exact lp2 hg _ (by grind) (n 5) 0 _ _ _ (by omega) rfl rfl
      · exact absurd (show M 46 38 ≤ nI i by grind [nT]) c38--.
    | succ k ih =>
      intro i a x o5 o6 hi ha hx
      subst hx
      refine P.iload (pc := 32) 4 dX10_pays_32 rfl ?_
      refine P.aload_n (pc := 34) 0 dX10_pays_34 rfl rfl ?_
      refine P.getI (pc := 35) fl_X10_244 dX10_pays_35 rfl rfl ?_
      refine P.icge (pc := 38) 81 dX10_pays_38 (by decide) (fun c38 => ?_) (fun c38 => ?_)
      · exact absurd c38 (by grind [nT])--.
      · refine P.aload_n (pc := 41) 0 dX10_pays_41 rfl rfl ?_
        refine P.getR (pc := 42) fl_X10_108 dX10_pays_42 rfl rfl ?_
        refine P.iload (pc := 45) 4 dX10_pays_45 rfl ?_
        refine P.iaN (pc := 47) _ dX10_pays_47 rfl rfl rfl (by first | omega | grind [nT]) ?_
        refine P.iload_n (pc := 48) 1 dX10_pays_48 rfl rfl ?_
        refine P.icgt (pc := 49) 73 dX10_pays_49 (by decide) (fun c49 => ?_) (fun c49 => ?_)
        · refine P.iload_n (pc := 73) 3 dX10_pays_73 rfl rfl ?_
          refine P.istore_n (pc := 74) 3 dX10_pays_74 rfl (by decide) rfl ?_
          refine P.iinc (pc := 75) 4 1 dX10_pays_75 rfl (by decide) (by decide) rfl ?_
          refine P.goto (pc := 78) 32 dX10_pays_78 (by decide) ?_
          exact ih (i + 1) _ _ _ _ (by omega) (by grind [xlat]) (nI_1 i)
        · refine P.aload_n (pc := 52) 0 dX10_pays_52 rfl rfl ?_
          refine P.getR (pc := 53) fl_X10_108 dX10_pays_53 rfl rfl ?_
          refine P.iload (pc := 56) 4 dX10_pays_56 rfl ?_
          refine P.iaN (pc := 58) _ dX10_pays_58 rfl rfl rfl (by first | omega | grind [nT]) ?_
          refine P.iload_n (pc := 59) 3 dX10_pays_59 rfl rfl ?_
          refine P.icle (pc := 60) 73 dX10_pays_60 (by decide) (fun c60 => ?_) (fun c60 => ?_)
          · refine P.iload_n (pc := 73) 3 dX10_pays_73 rfl rfl ?_
            refine P.istore_n (pc := 74) 3 dX10_pays_74 rfl (by decide) rfl ?_
            refine P.iinc (pc := 75) 4 1 dX10_pays_75 rfl (by decide) (by decide) rfl ?_
            refine P.goto (pc := 78) 32 dX10_pays_78 (by decide) ?_
            exact ih (i + 1) _ _ _ _ (by omega) (by grind [xlat]) (nI_1 i)
          · refine P.aload_n (pc := 63) 0 dX10_pays_63 rfl rfl ?_
            refine P.getR (pc := 64) fl_X10_108 dX10_pays_64 rfl rfl ?_
            refine P.iload (pc := 67) 4 dX10_pays_67 rfl ?_
            refine P.iaN (pc := 69) _ dX10_pays_69 rfl rfl rfl (by first | omega | grind [nT]) ?_
            refine P.goto (pc := 70) 74 dX10_pays_70 (by decide) ?_
            refine P.istore_n (pc := 74) 3 dX10_pays_74 rfl (by decide) rfl ?_
            refine P.iinc (pc := 75) 4 1 dX10_pays_75 rfl (by decide) (by decide) rfl ?_
            refine P.goto (pc := 78) 32 dX10_pays_78 (by decide) ?_
            exact ih (i + 1) _ _ _ _ (by omega) (by grind [xlat]) (nI_1 i)
  refine P.iload_n (pc := 0) 1 dX10_pays_0 rfl rfl ?_
  refine P.i2l (pc := 1) dX10_pays_1 ?_
  refine P.lconst (pc := 2) (v := 0) dX10_pays_2 (by decide) ?_
  refine P.ldc2 (pc := 3) kc_X10_238 dX10_pays_3 ?_
  refine P.S3F (pc := 6) cs_X10_pays_132 dX10_pays_6 rfl rfl (sp_X10_within _ _ _ _) ?_
  refine P.ifeqB (pc := 9) 24 dX10_pays_9 (by decide) (fun c9 => ?_) (fun c9 => ?_)
  · refine P.bipush (pc := 24) (v := -2) dX10_pays_24 (by decide) ?_
    refine P.iret (pc := 26) dX10_pays_26 rfl ?_
    exact pmI (by grind [o_pays, nW]) R frM.rf
  · refine P.iload_n (pc := 12) 2 dX10_pays_12 rfl rfl ?_
    refine P.i2l (pc := 13) dX10_pays_13 ?_
    refine P.lconst (pc := 14) (v := 0) dX10_pays_14 (by decide) ?_
    refine P.ldc2 (pc := 15) kc_X10_238 dX10_pays_15 ?_
    refine P.S3F (pc := 18) cs_X10_pays_132 dX10_pays_18 rfl rfl (sp_X10_within _ _ _ _) ?_
    refine P.ifneB (pc := 21) 27 dX10_pays_21 (by decide) (fun c21 => ?_) (fun c21 => ?_)
    · refine P.iconst (pc := 27) (v := -1) dX10_pays_27 (by decide) ?_
      refine P.istore_n (pc := 28) 3 dX10_pays_28 rfl (by decide) rfl ?_
      refine P.iconst (pc := 29) (v := 0) dX10_pays_29 (by decide) ?_
      refine P.istore (pc := 30) 4 dX10_pays_30 (by decide) rfl ?_
      exact lp (by grind [nW]) (n 5) 0 _ _ _ _ (by omega) rfl rfl
    · refine P.bipush (pc := 24) (v := -2) dX10_pays_24 (by decide) ?_
      refine P.iret (pc := 26) dX10_pays_26 rfl ?_
      exact pmI (by grind [o_pays, nW]) R frM.rf
