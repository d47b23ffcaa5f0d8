/-! sheets of the reference -/
theorem siv {a b : Int32} (h : a = b) : some (Value.int a) = some (.int b) := by rw [h]
theorem xw_id {M : xM} {q : Nat} {f : Nat → Int32} (h : M q = f) : xw M q f = M := by rw [← h, xw_same]
theorem sp_X10_met (M : xM) (k : Int32) : SpI mX10_met [.ref 46, .int k] M (fun v M' => v = -10 - k ∧ M' = xw M 46 (upd (M 46) 46 k)) := by
  refine P.aload_n (pc := 0) 0 dX10_met_0 rfl rfl ?_
  refine P.iload_n (pc := 1) 1 dX10_met_1 rfl rfl ?_
  refine P.put (pc := 2) fp_X10_247 dX10_met_2 rfl rfl ?_
  refine P.bipush (pc := 5) (v := -10) dX10_met_5 (by decide) ?_
  refine P.iload_n (pc := 7) 1 dX10_met_7 rfl rfl ?_
  refine P.isub (pc := 8) dX10_met_8 ?_
  refine P.iret (pc := 9) dX10_met_9 rfl ?_
  exact ⟨_, rfl, rfl, rfl⟩
theorem sp_X10_isSheet (M : xM) (s : Int32) : SpF mX10_isSheet [.int s] M (bI (0 ≤ s ∧ s ≤ 3)) := by
  refine P.iload_n (pc := 0) 0 dX10_isSheet_0 rfl rfl ?_
  refine P.i2l (pc := 1) dX10_isSheet_1 ?_
  refine P.lconst (pc := 2) (v := 0) dX10_isSheet_2 (by decide) ?_
  refine P.ldc2 (pc := 3) kc_X10_226 dX10_isSheet_3 ?_
  refine P.S3F (pc := 6) cs_X10_isSheet_132 dX10_isSheet_6 rfl rfl (sp_X10_within _ _ _ _) ?_
  refine P.zretB (pc := 9) dX10_isSheet_9 rfl ?_
  exact ⟨siv (bI_c (by grind [nW])), rfl⟩
theorem frM.fnd {M : xM} (k : Int32) : frM M (xw M 46 (upd (M 46) 46 k)) := frM.rf.w (by decide) _
theorem sp_X10_lacks {n : Nat → Nat} {σ M : xM} (I : Iv n σ) (R : RM n σ M) {a : Nat} (ha : a ≤ 3) (f i : Int32) : SpI mX10_lacks [.ref 46, .int (nI a), .int f, .int i] M (PM (o_lack n σ a f i) M) := by
  have a1 := R.1 (80, 43) (by decide)
  have a2 := R.1 (81, 44) (by decide)
  have w := (I.2.2.2.2.2 a (by omega)).1
  dsimp only at a1 a2
  refine P.aload_n (pc := 0) 0 dX10_lacks_0 rfl rfl ?_
  refine P.getR (pc := 1) fl_X10_117 dX10_lacks_1 rfl rfl ?_
  refine P.iload_n (pc := 4) 1 dX10_lacks_4 rfl rfl ?_
  refine P.iaN (pc := 5) _ dX10_lacks_5 rfl rfl rfl (by first | omega | grind [nT]) ?_
  refine P.ifge (pc := 6) 15 dX10_lacks_6 (by decide) (fun c6 => ?_) (fun c6 => ?_)
  · refine P.aload_n (pc := 15) 0 dX10_lacks_15 rfl rfl ?_
    refine P.getR (pc := 16) fl_X10_117 dX10_lacks_16 rfl rfl ?_
    refine P.iload_n (pc := 19) 1 dX10_lacks_19 rfl rfl ?_
    refine P.iaN (pc := 20) _ dX10_lacks_20 rfl rfl rfl (by first | omega | grind [nT]) ?_
    refine P.iload_n (pc := 21) 2 dX10_lacks_21 rfl rfl ?_
    refine P.iceq (pc := 22) 31 dX10_lacks_22 (by decide) (fun c22 => ?_) (fun c22 => ?_)
    · refine P.iload_n (pc := 31) 3 dX10_lacks_31 rfl rfl ?_
      refine P.i2l (pc := 32) dX10_lacks_32 ?_
      refine P.lconst (pc := 33) (v := 0) dX10_lacks_33 (by decide) ?_
      refine P.aload_n (pc := 34) 0 dX10_lacks_34 rfl rfl ?_
      refine P.getR (pc := 35) fl_X10_120 dX10_lacks_35 rfl rfl ?_
      refine P.iload_n (pc := 38) 1 dX10_lacks_38 rfl rfl ?_
      refine P.iaN (pc := 39) _ dX10_lacks_39 rfl rfl rfl (by first | omega | grind [nT]) ?_
      refine P.iconst (pc := 40) (v := 1) dX10_lacks_40 (by decide) ?_
      refine P.isub (pc := 41) dX10_lacks_41 ?_
      refine P.i2l (pc := 42) dX10_lacks_42 ?_
      refine P.S3F (pc := 43) cs_X10_lacks_132 dX10_lacks_43 rfl rfl (sp_X10_withinZ _ _ _) ?_
      refine P.ifeqB (pc := 46) 53 dX10_lacks_46 (by decide) (fun c46 => ?_) (fun c46 => ?_)
      · refine P.aload_n (pc := 53) 0 dX10_lacks_53 rfl rfl ?_
        refine P.iconst (pc := 54) (v := 2) dX10_lacks_54 (by decide) ?_
        refine P.V1I (pc := 55) cs_X10_lacks_253 dX10_lacks_55 rfl rfl rfl (sp_X10_met _ _) (fun v55 M55 h55 => ?_)
        obtain ⟨rfl, rfl⟩ := h55
        refine P.iret (pc := 58) dX10_lacks_58 rfl ?_
        first | exact pmI (by rw [o_lack, if_neg (by grind), if_neg (by grind), if_pos (by grind)]; rfl) (R.fnd 2) (frM.fnd 2) | exact pmI (by rw [o_lack, if_neg (by grind), if_neg (by grind), if_neg (by grind)]) R frM.rf
      · refine P.iconst (pc := 49) (v := 0) dX10_lacks_49 (by decide) ?_
        refine P.goto (pc := 50) 58 dX10_lacks_50 (by decide) ?_
        refine P.iret (pc := 58) dX10_lacks_58 rfl ?_
        first | exact pmI (by rw [o_lack, if_neg (by grind), if_neg (by grind), if_pos (by grind)]; rfl) (R.fnd 2) (frM.fnd 2) | exact pmI (by rw [o_lack, if_neg (by grind), if_neg (by grind), if_neg (by grind)]) R frM.rf
    · refine P.aload_n (pc := 25) 0 dX10_lacks_25 rfl rfl ?_
      refine P.iconst (pc := 26) (v := 3) dX10_lacks_26 (by decide) ?_
      refine P.V1I (pc := 27) cs_X10_lacks_253 dX10_lacks_27 rfl rfl rfl (sp_X10_met _ _) (fun v27 M27 h27 => ?_)
      obtain ⟨rfl, rfl⟩ := h27
      refine P.iret (pc := 30) dX10_lacks_30 rfl ?_
      exact pmI (by rw [o_lack, if_neg (by grind), if_pos (by grind)]; rfl) (R.fnd 3) (frM.fnd 3)
  · refine P.aload_n (pc := 9) 0 dX10_lacks_9 rfl rfl ?_
    refine P.iconst (pc := 10) (v := 1) dX10_lacks_10 (by decide) ?_
    refine P.V1I (pc := 11) cs_X10_lacks_253 dX10_lacks_11 rfl rfl rfl (sp_X10_met _ _) (fun v11 M11 h11 => ?_)
    obtain ⟨rfl, rfl⟩ := h11
    refine P.iret (pc := 14) dX10_lacks_14 rfl ?_
    exact pmI (by rw [o_lack, if_pos (by grind)]; rfl) (R.fnd 1) (frM.fnd 1)
theorem sp_X10_sheet {n : Nat → Nat} {σ M : xM} (I : Iv n σ) (R : RM n σ M) (s f m : Int32) : SpI mX10_sheet [.ref 46, .int s, .int f, .int m] M (PM (o_sheet n σ s f m) M) := by
  have a1 := R.1 (80, 43) (by decide)
  have a2 := R.1 (81, 44) (by decide)
  have a3 := R.1 (82, 45) (by decide)
  dsimp only at a1 a2 a3
  have lp : ∀ (a b : Nat) (ha : a ≤ 3) (hb : b ≤ 60) (hf : 0 ≤ f ∧ f ≤ 2) (k i : Nat) (x : Int32) (M1 : xM), i + k = b → x = nI i → M1 = xw (xw (xw M 80 (upd (σ 43) a f)) 81 (upd (σ 44) a (nI b))) 82 (xfill (σ 45) (a * 60) (a * 60 + i) 0) → P mX10_sheet 55 [some (.ref 46), some (.int (nI a)), some (.int f), some (.int (nI b)), some (.int x)] [] M1 (fun r M' => ∃ v, r = some (.int v) ∧ PM (o_sheet n σ (nI a) f (nI b)) M v M') := by
    intro a b ha hb hf k
    induction k with
    | zero =>
      intro i x M1 hi hx hM
      subst hx
      refine P.iload (pc := 55) 4 dX10_sheet_55 rfl ?_
      refine P.iload_n (pc := 57) 3 dX10_sheet_57 rfl rfl ?_
      refine P.icge (pc := 58) 80 dX10_sheet_58 (by decide) (fun c58 => ?_) (fun c58 => ?_)
      · refine P.iload_n (pc := 80) 3 dX10_sheet_80 rfl rfl ?_
        refine P.iret (pc := 81) dX10_sheet_81 rfl ?_
        rw [hM]
        refine pmI ?_ (((R.arr (a := 80) (c := 43) (by decide) _).arr (a := 81) (c := 44) (by decide) _).arr (a := 82) (c := 45) (by decide) _) (((frM.rf.w (by decide) _).w (by decide) _).w (by decide) _)
        rw [o_sheet, if_neg (by grind [nT]), if_neg (by grind [nT]), nI_clamp (by omega), nI_clamp (by omega), show i = b from hi]
      · exact absurd (show nI b ≤ nI i by grind [nT]) c58--.
    | succ k ih =>
      intro i x M1 hi hx hM
      subst hx
      refine P.iload (pc := 55) 4 dX10_sheet_55 rfl ?_
      refine P.iload_n (pc := 57) 3 dX10_sheet_57 rfl rfl ?_
      refine P.icge (pc := 58) 80 dX10_sheet_58 (by decide) (fun c58 => ?_) (fun c58 => ?_)
      · exact absurd c58 (by grind [nT])--.
      · refine P.aload_n (pc := 61) 0 dX10_sheet_61 rfl rfl ?_
        refine P.getR (pc := 62) fl_X10_123 dX10_sheet_62 rfl rfl ?_
        refine P.bipush (pc := 65) (v := 60) dX10_sheet_65 (by decide) ?_
        refine P.iload_n (pc := 67) 1 dX10_sheet_67 rfl rfl ?_
        refine P.imul (pc := 68) dX10_sheet_68 ?_
        refine P.iload (pc := 69) 4 dX10_sheet_69 rfl ?_
        refine P.iadd (pc := 71) dX10_sheet_71 ?_
        refine P.iconst (pc := 72) (v := 0) dX10_sheet_72 (by decide) ?_
        refine P.isN (pc := 73) (a * 60 + i) dX10_sheet_73 rfl rfl (by rw [nlit, pk_mul, nI_add, Nat.mul_comm]) (by first | omega | grind [nT]) ?_
        refine P.iinc (pc := 74) 4 1 dX10_sheet_74 rfl (by decide) (by decide) rfl ?_
        refine P.goto (pc := 77) 55 dX10_sheet_77 (by decide) ?_
        exact ih (i + 1) _ _ (by omega) (nI_1 i) (by rw [hM, xw_xw, xw_s, xfill_s _ (Nat.le_add_right _ _)]; rfl)
  refine P.iload_n (pc := 0) 1 dX10_sheet_0 rfl rfl ?_
  refine P.S1F (pc := 1) cs_X10_sheet_250 dX10_sheet_1 rfl rfl (sp_X10_isSheet _ _) ?_
  refine P.ifeqB (pc := 4) 25 dX10_sheet_4 (by decide) (fun c4 => ?_) (fun c4 => ?_)
  · refine P.bipush (pc := 25) (v := -2) dX10_sheet_25 (by decide) ?_
    refine P.iret (pc := 27) dX10_sheet_27 rfl ?_
    exact pmI (by grind [o_sheet, nW]) R frM.rf
  · refine P.iload_n (pc := 7) 2 dX10_sheet_7 rfl rfl ?_
    refine P.i2l (pc := 8) dX10_sheet_8 ?_
    refine P.lconst (pc := 9) (v := 0) dX10_sheet_9 (by decide) ?_
    refine P.ldc2 (pc := 10) kc_X10_154 dX10_sheet_10 ?_
    refine P.S3F (pc := 13) cs_X10_sheet_132 dX10_sheet_13 rfl rfl (sp_X10_within _ _ _ _) ?_
    refine P.ifeqB (pc := 16) 25 dX10_sheet_16 (by decide) (fun c16 => ?_) (fun c16 => ?_)
    · refine P.bipush (pc := 25) (v := -2) dX10_sheet_25 (by decide) ?_
      refine P.iret (pc := 27) dX10_sheet_27 rfl ?_
      exact pmI (by grind [o_sheet, nW]) R frM.rf
    · refine P.iload_n (pc := 19) 3 dX10_sheet_19 rfl rfl ?_
      refine P.bipush (pc := 20) (v := 60) dX10_sheet_20 (by decide) ?_
      refine P.icle (pc := 22) 28 dX10_sheet_22 (by decide) (fun c22 => ?_) (fun c22 => ?_)
      · refine P.iload_n (pc := 28) 3 dX10_sheet_28 rfl rfl ?_
        refine P.ifge (pc := 29) 38 dX10_sheet_29 (by decide) (fun c29 => ?_) (fun c29 => ?_)
        · obtain ⟨a, ha, rfl⟩ := s_nat c4.1 c4.2
          have ck := nI_clamp (n := a) (by omega)
          obtain ⟨b, -, hb, rfl⟩ := xin_nat 60 (lo := 0) (v := m) (by grind [nT]) c22 (by decide) (by decide)
          refine P.aload_n (pc := 38) 0 dX10_sheet_38 rfl rfl ?_
          refine P.getR (pc := 39) fl_X10_117 dX10_sheet_39 rfl rfl ?_
          refine P.iload_n (pc := 42) 1 dX10_sheet_42 rfl rfl ?_
          refine P.iload_n (pc := 43) 2 dX10_sheet_43 rfl rfl ?_
          refine P.isN (pc := 44) _ dX10_sheet_44 rfl rfl rfl (by first | omega | grind [nT]) ?_
          refine P.aload_n (pc := 45) 0 dX10_sheet_45 rfl rfl ?_
          refine P.getR (pc := 46) fl_X10_120 dX10_sheet_46 rfl rfl ?_
          refine P.iload_n (pc := 49) 1 dX10_sheet_49 rfl rfl ?_
          refine P.iload_n (pc := 50) 3 dX10_sheet_50 rfl rfl ?_
          refine P.isN (pc := 51) _ dX10_sheet_51 rfl rfl rfl (by first | omega | grind [nT]) ?_
          refine P.iconst (pc := 52) (v := 0) dX10_sheet_52 (by decide) ?_
          refine P.istore (pc := 53) 4 dX10_sheet_53 (by decide) rfl ?_
          exact lp a b ha hb (by grind [nW]) b 0 _ _ (by omega) rfl (by
            simp only [xw_ap, Nat.reduceEqDiff, ↓reduceIte, a1, a2, Nat.add_zero, xfill_0]
            exact (xw_id (by simp only [xw_ap, Nat.reduceEqDiff, ↓reduceIte, a3])).symm)
        · refine P.aload_n (pc := 32) 0 dX10_sheet_32 rfl rfl ?_
          refine P.iconst (pc := 33) (v := 5) dX10_sheet_33 (by decide) ?_
          refine P.V1I (pc := 34) cs_X10_sheet_253 dX10_sheet_34 rfl rfl rfl (sp_X10_met _ _) (fun v34 M34 h34 => ?_)
          obtain ⟨rfl, rfl⟩ := h34
          refine P.iret (pc := 37) dX10_sheet_37 rfl ?_
          exact pmI (by rw [o_sheet, if_neg (by grind [nW]), if_pos (by grind)]; rfl) (R.fnd 5) (frM.fnd 5)
      · refine P.bipush (pc := 25) (v := -2) dX10_sheet_25 (by decide) ?_
        refine P.iret (pc := 27) dX10_sheet_27 rfl ?_
        exact pmI (by grind [o_sheet, nW]) R frM.rf
theorem sp_X10_lose {n : Nat → Nat} {σ M : xM} (I : Iv n σ) (R : RM n σ M) (s : Int32) : SpI mX10_lose [.ref 46, .int s] M (PM (o_lose n σ s) M) := by
  have a1 := R.1 (80, 43) (by decide)
  have a2 := R.1 (81, 44) (by decide)
  dsimp only at a1 a2
  refine P.iload_n (pc := 0) 1 dX10_lose_0 rfl rfl ?_
  refine P.S1F (pc := 1) cs_X10_lose_250 dX10_lose_1 rfl rfl (sp_X10_isSheet _ _) ?_
  refine P.ifneB (pc := 4) 10 dX10_lose_4 (by decide) (fun c4 => ?_) (fun c4 => ?_)
  · obtain ⟨a, ha, rfl⟩ := s_nat c4.1 c4.2
    have ck := nI_clamp (n := a) (by omega)
    have w := (I.2.2.2.2.2 a (by omega)).1
    refine P.aload_n (pc := 10) 0 dX10_lose_10 rfl rfl ?_
    refine P.getR (pc := 11) fl_X10_117 dX10_lose_11 rfl rfl ?_
    refine P.iload_n (pc := 14) 1 dX10_lose_14 rfl rfl ?_
    refine P.iaN (pc := 15) _ dX10_lose_15 rfl rfl rfl (by first | omega | grind [nT]) ?_
    refine P.ifge (pc := 16) 25 dX10_lose_16 (by decide) (fun c16 => ?_) (fun c16 => ?_)
    · refine P.aload_n (pc := 25) 0 dX10_lose_25 rfl rfl ?_
      refine P.getR (pc := 26) fl_X10_117 dX10_lose_26 rfl rfl ?_
      refine P.iload_n (pc := 29) 1 dX10_lose_29 rfl rfl ?_
      refine P.iconst (pc := 30) (v := -1) dX10_lose_30 (by decide) ?_
      refine P.isN (pc := 31) _ dX10_lose_31 rfl rfl rfl (by first | omega | grind [nT]) ?_
      refine P.aload_n (pc := 32) 0 dX10_lose_32 rfl rfl ?_
      refine P.getR (pc := 33) fl_X10_120 dX10_lose_33 rfl rfl ?_
      refine P.iload_n (pc := 36) 1 dX10_lose_36 rfl rfl ?_
      refine P.iaN (pc := 37) _ dX10_lose_37 rfl rfl rfl (by first | omega | grind [nT]) ?_
      refine P.iret (pc := 38) dX10_lose_38 rfl ?_
      rw [a1]
      exact pmI (by rw [o_lose, if_neg (by grind), ck, if_neg (by grind)]; simp only [xw_ap, Nat.reduceEqDiff, ↓reduceIte, a2]) (R.arr (a := 80) (c := 43) (by decide) _) (frM.rf.w (by decide) _)
    · refine P.aload_n (pc := 19) 0 dX10_lose_19 rfl rfl ?_
      refine P.iconst (pc := 20) (v := 1) dX10_lose_20 (by decide) ?_
      refine P.V1I (pc := 21) cs_X10_lose_253 dX10_lose_21 rfl rfl rfl (sp_X10_met _ _) (fun v21 M21 h21 => ?_)
      obtain ⟨rfl, rfl⟩ := h21
      refine P.iret (pc := 24) dX10_lose_24 rfl ?_
      exact pmI (by rw [o_lose, if_neg (by grind), ck, if_pos (by grind)]; rfl) (R.fnd 1) (frM.fnd 1)
  · refine P.bipush (pc := 7) (v := -2) dX10_lose_7 (by decide) ?_
    refine P.iret (pc := 9) dX10_lose_9 rfl ?_
    exact pmI (by grind [o_lose]) R frM.rf
theorem sp_X10_put {n : Nat → Nat} {σ M : xM} (I : Iv n σ) (R : RM n σ M) (s f i v : Int32) : SpI mX10_put [.ref 46, .int s, .int f, .int i, .int v] M (PM (o_put n σ s f i v) M) := by
  refine P.iload_n (pc := 0) 1 dX10_put_0 rfl rfl ?_
  refine P.S1F (pc := 1) cs_X10_put_250 dX10_put_1 rfl rfl (sp_X10_isSheet _ _) ?_
  refine P.ifeqB (pc := 4) 19 dX10_put_4 (by decide) (fun c4 => ?_) (fun c4 => ?_)
  · refine P.bipush (pc := 19) (v := -2) dX10_put_19 (by decide) ?_
    refine P.iret (pc := 21) dX10_put_21 rfl ?_
    exact pmI (by rw [o_put, if_pos (by grind [o_refuse, nW]), o_refuse, if_pos (by grind [nW])]) R frM.rf
  · refine P.iload_n (pc := 7) 2 dX10_put_7 rfl rfl ?_
    refine P.i2l (pc := 8) dX10_put_8 ?_
    refine P.lconst (pc := 9) (v := 0) dX10_put_9 (by decide) ?_
    refine P.ldc2 (pc := 10) kc_X10_154 dX10_put_10 ?_
    refine P.S3F (pc := 13) cs_X10_put_132 dX10_put_13 rfl rfl (sp_X10_within _ _ _ _) ?_
    refine P.ifneB (pc := 16) 22 dX10_put_16 (by decide) (fun c16 => ?_) (fun c16 => ?_)
    · obtain ⟨a, ha, rfl⟩ := s_nat c4.1 c4.2
      have ck := nI_clamp (n := a) (by omega)
      have er : o_refuse n σ (nI a) f i = o_lack n σ a f i := by rw [o_refuse, if_neg (by grind [nT, nW]), ck]
      refine P.aload_n (pc := 22) 0 dX10_put_22 rfl rfl ?_
      refine P.iload_n (pc := 23) 1 dX10_put_23 rfl rfl ?_
      refine P.iload_n (pc := 24) 2 dX10_put_24 rfl rfl ?_
      refine P.iload_n (pc := 25) 3 dX10_put_25 rfl rfl ?_
      refine P.V3I (pc := 26) cs_X10_put_256 dX10_put_26 rfl rfl rfl (sp_X10_lacks I R ha _ _) (fun v26 M26 h26 => ?_)
      obtain ⟨rfl, R4, F4⟩ := h26
      refine P.istore (pc := 29) 5 dX10_put_29 (by decide) rfl ?_
      refine P.iload (pc := 31) 5 dX10_put_31 rfl ?_
      refine P.ifeq (pc := 33) 39 dX10_put_33 (by decide) (fun c33 => ?_) (fun c33 => ?_)
      · obtain ⟨g1, g2, g3, g4⟩ := o_lack_0 c33
        obtain ⟨-, m, hm, em⟩ := I.2.2.2.2.2 a (by omega)
        obtain ⟨b, hb, rfl⟩ := (xin_iff (n := m) (by omega) i).mpr ⟨g3, by rw [← em]; exact g4⟩
        have ck2 := nI_clamp (n := b) (by omega)
        have a3 := R4.1 (82, 45) (by decide)
        rw [g1] at a3 R4
        dsimp only at a3 R4
        refine P.aload_n (pc := 39) 0 dX10_put_39 rfl rfl ?_
        refine P.getR (pc := 40) fl_X10_123 dX10_put_40 rfl rfl ?_
        refine P.bipush (pc := 43) (v := 60) dX10_put_43 (by decide) ?_
        refine P.iload_n (pc := 45) 1 dX10_put_45 rfl rfl ?_
        refine P.imul (pc := 46) dX10_put_46 ?_
        refine P.iload_n (pc := 47) 3 dX10_put_47 rfl rfl ?_
        refine P.iadd (pc := 48) dX10_put_48 ?_
        refine P.iload_n (pc := 49) 2 dX10_put_49 rfl rfl ?_
        refine P.ifne (pc := 50) 59 dX10_put_50 (by decide) (fun c50 => ?_) (fun c50 => ?_)
        · refine P.iload_n (pc := 59) 2 dX10_put_59 rfl rfl ?_
          refine P.iconst (pc := 60) (v := 1) dX10_put_60 (by decide) ?_
          refine P.icne (pc := 61) 70 dX10_put_61 (by decide) (fun c61 => ?_) (fun c61 => ?_)
          · refine P.iload (pc := 70) 4 dX10_put_70 rfl ?_
            refine P.isN (pc := 72) (a * 60 + b) dX10_put_72 rfl rfl (by rw [nlit, pk_mul, nI_add, Nat.mul_comm]) (by first | omega | grind [nT]) ?_
            refine P.iconst (pc := 73) (v := 1) dX10_put_73 (by decide) ?_
            refine P.iret (pc := 74) dX10_put_74 rfl ?_
            rw [a3]
            exact pmI (by rw [o_put, if_neg (by rw [er, g1]; simp), ck, ck2]; grind [xcut]) (R4.arr (a := 82) (c := 45) (by decide) _) (F4.w (by decide) _)
          · refine P.iload (pc := 64) 4 dX10_put_64 rfl ?_
            refine P.i2s (pc := 66) dX10_put_66 ?_
            refine P.goto (pc := 67) 72 dX10_put_67 (by decide) ?_
            refine P.isN (pc := 72) (a * 60 + b) dX10_put_72 rfl rfl (by rw [nlit, pk_mul, nI_add, Nat.mul_comm]) (by first | omega | grind [nT]) ?_
            refine P.iconst (pc := 73) (v := 1) dX10_put_73 (by decide) ?_
            refine P.iret (pc := 74) dX10_put_74 rfl ?_
            rw [a3]
            exact pmI (by rw [o_put, if_neg (by rw [er, g1]; simp), ck, ck2]; grind [xcut]) (R4.arr (a := 82) (c := 45) (by decide) _) (F4.w (by decide) _)
        · refine P.iload (pc := 53) 4 dX10_put_53 rfl ?_
          refine P.i2b (pc := 55) dX10_put_55 ?_
          refine P.goto (pc := 56) 72 dX10_put_56 (by decide) ?_
          refine P.isN (pc := 72) (a * 60 + b) dX10_put_72 rfl rfl (by rw [nlit, pk_mul, nI_add, Nat.mul_comm]) (by first | omega | grind [nT]) ?_
          refine P.iconst (pc := 73) (v := 1) dX10_put_73 (by decide) ?_
          refine P.iret (pc := 74) dX10_put_74 rfl ?_
          rw [a3]
          exact pmI (by rw [o_put, if_neg (by rw [er, g1]; simp), ck, ck2]; grind [xcut]) (R4.arr (a := 82) (c := 45) (by decide) _) (F4.w (by decide) _)
      · refine P.iload (pc := 36) 5 dX10_put_36 rfl ?_
        refine P.iret (pc := 38) dX10_put_38 rfl ?_
        exact ⟨_, rfl, by rw [o_put, if_pos (by rw [er]; exact c33), er], by rw [o_put, if_pos (by rw [er]; exact c33), er]; exact R4, F4⟩
    · refine P.bipush (pc := 19) (v := -2) dX10_put_19 (by decide) ?_
      refine P.iret (pc := 21) dX10_put_21 rfl ?_
      exact pmI (by rw [o_put, if_pos (by grind [o_refuse, nW]), o_refuse, if_pos (by grind [nW])]) R frM.rf
theorem sp_X10_get {n : Nat → Nat} {σ M : xM} (I : Iv n σ) (R : RM n σ M) (s f i : Int32) : SpI mX10_get [.ref 46, .int s, .int f, .int i] M (PM (o_get n σ s f i) M) := by
  refine P.iload_n (pc := 0) 1 dX10_get_0 rfl rfl ?_
  refine P.S1F (pc := 1) cs_X10_get_250 dX10_get_1 rfl rfl (sp_X10_isSheet _ _) ?_
  refine P.ifeqB (pc := 4) 29 dX10_get_4 (by decide) (fun c4 => ?_) (fun c4 => ?_)
  · refine P.ldc_w (pc := 29) kc_X10_260 dX10_get_29 ?_
    refine P.iret (pc := 32) dX10_get_32 rfl ?_
    first | exact pmI (by rw [o_get, if_pos (by rw [er]; exact c26), er]) R4 F4 | exact pmI (by rw [o_get, if_pos (by grind [o_refuse, nW]), o_refuse, if_pos (by grind [nW])]) R frM.rf
  · refine P.iload_n (pc := 7) 2 dX10_get_7 rfl rfl ?_
    refine P.i2l (pc := 8) dX10_get_8 ?_
    refine P.lconst (pc := 9) (v := 0) dX10_get_9 (by decide) ?_
    refine P.ldc2 (pc := 10) kc_X10_154 dX10_get_10 ?_
    refine P.S3F (pc := 13) cs_X10_get_132 dX10_get_13 rfl rfl (sp_X10_within _ _ _ _) ?_
    refine P.ifeqB (pc := 16) 29 dX10_get_16 (by decide) (fun c16 => ?_) (fun c16 => ?_)
    · refine P.ldc_w (pc := 29) kc_X10_260 dX10_get_29 ?_
      refine P.iret (pc := 32) dX10_get_32 rfl ?_
      first | exact pmI (by rw [o_get, if_pos (by rw [er]; exact c26), er]) R4 F4 | exact pmI (by rw [o_get, if_pos (by grind [o_refuse, nW]), o_refuse, if_pos (by grind [nW])]) R frM.rf
    · obtain ⟨a, ha, rfl⟩ := s_nat c4.1 c4.2
      have ck := nI_clamp (n := a) (by omega)
      have er : o_refuse n σ (nI a) f i = o_lack n σ a f i := by rw [o_refuse, if_neg (by grind [nT, nW]), ck]
      refine P.aload_n (pc := 19) 0 dX10_get_19 rfl rfl ?_
      refine P.iload_n (pc := 20) 1 dX10_get_20 rfl rfl ?_
      refine P.iload_n (pc := 21) 2 dX10_get_21 rfl rfl ?_
      refine P.iload_n (pc := 22) 3 dX10_get_22 rfl rfl ?_
      refine P.V3I (pc := 23) cs_X10_get_256 dX10_get_23 rfl rfl rfl (sp_X10_lacks I R ha _ _) (fun v23 M23 h23 => ?_)
      obtain ⟨rfl, R4, F4⟩ := h23
      refine P.ifeq (pc := 26) 33 dX10_get_26 (by decide) (fun c26 => ?_) (fun c26 => ?_)
      · obtain ⟨g1, g2, g3, g4⟩ := o_lack_0 c26
        obtain ⟨-, m, hm, em⟩ := I.2.2.2.2.2 a (by omega)
        obtain ⟨b, hb, rfl⟩ := (xin_iff (n := m) (by omega) i).mpr ⟨g3, by rw [← em]; exact g4⟩
        have ck2 := nI_clamp (n := b) (by omega)
        have a3 := R4.1 (82, 45) (by decide)
        rw [g1] at a3 R4
        dsimp only at a3 R4
        refine P.aload_n (pc := 33) 0 dX10_get_33 rfl rfl ?_
        refine P.getR (pc := 34) fl_X10_123 dX10_get_34 rfl rfl ?_
        refine P.bipush (pc := 37) (v := 60) dX10_get_37 (by decide) ?_
        refine P.iload_n (pc := 39) 1 dX10_get_39 rfl rfl ?_
        refine P.imul (pc := 40) dX10_get_40 ?_
        refine P.iload_n (pc := 41) 3 dX10_get_41 rfl rfl ?_
        refine P.iadd (pc := 42) dX10_get_42 ?_
        refine P.iaN (pc := 43) (a * 60 + b) dX10_get_43 rfl rfl (by rw [nlit, pk_mul, nI_add, Nat.mul_comm]) (by first | omega | grind [nT]) ?_
        refine P.iret (pc := 44) dX10_get_44 rfl ?_
        exact pmI (by rw [o_get, if_neg (by rw [er, g1]; simp), ck, ck2, a3]) R4 F4
      · refine P.ldc_w (pc := 29) kc_X10_260 dX10_get_29 ?_
        refine P.iret (pc := 32) dX10_get_32 rfl ?_
        first | exact pmI (by rw [o_get, if_pos (by rw [er]; exact c26), er]) R4 F4 | exact pmI (by rw [o_get, if_pos (by grind [o_refuse, nW]), o_refuse, if_pos (by grind [nW])]) R frM.rf
theorem cpy_S {f g : Nat → Int32} {sp dp w : Nat} : upd (va_cpy f g sp dp w) (dp + w) (f (sp + w)) = va_cpy f g sp dp (w + 1) := by
  funext j
  simp only [upd_ap, va_cpy]
  grind
theorem cpy_0 {f g : Nat → Int32} {sp dp : Nat} : va_cpy f g sp dp 0 = g := by
  funext j; rw [va_cpy, if_neg (by omega)]
theorem c64 {x y z : Int32} (hx : ¬ x < 0) (hy : ¬ y < 0) (h : ¬ 0 < lg_cmp (x.toInt64 + y.toInt64) z.toInt64) : x ≤ z ∧ y ≤ z - x := by
  unfold lg_cmp at h
  have h1 := nW x
  have h2 := nW y
  have h3 := nW z
  constructor <;> grind
theorem sp_X10_copy {n : Nat → Nat} {σ M : xM} (I : Iv n σ) (R : RM n σ M) (s i t j m : Int32) : SpI mX10_copy [.ref 46, .int s, .int i, .int t, .int j, .int m] M (PM (o_copy n σ s i t j m) M) := by
  have a1 := R.1 (80, 43) (by decide)
  have a2 := R.1 (81, 44) (by decide)
  have a3 := R.1 (82, 45) (by decide)
  dsimp only at a1 a2 a3
  have lp2 : ∀ (a b u v w : Nat) (ha : a * 60 + u + w ≤ 240) (hb : b * 60 + v + w ≤ 240) (hw : w ≤ 60) (e : o_copy n σ (nI a) (nI u) (nI b) (nI v) (nI w) = (1, n, xw σ 45 (va_cpy (σ 45) (σ 45) (a * 60 + u) (b * 60 + v) w))) (C : Nat → Int32) (hC : ∀ z, z < w → C z = σ 45 (a * 60 + u + z)) (k i : Nat) (x : Int32) (M1 : xM), i + k = w → x = nI i → M1 = xw (xw M 83 C) 82 (va_cpy (σ 45) (σ 45) (a * 60 + u) (b * 60 + v) i) →
      P mX10_copy 157 [some (.ref 46), some (.int (nI a)), some (.int (nI u)), some (.int (nI b)), some (.int (nI v)), some (.int (nI w)), some (.int x)] [] M1 (fun r M' => ∃ z, r = some (.int z) ∧ PM (o_copy n σ (nI a) (nI u) (nI b) (nI v) (nI w)) M z M') := by
    intro a b u v w ha hb hw e C hC k
    induction k with
    | zero =>
      intro i x M1 hi hx hM
      subst hx
      refine P.iload (pc := 157) 6 dX10_copy_157 rfl ?_
      refine P.iload (pc := 159) 5 dX10_copy_159 rfl ?_
      refine P.icge (pc := 161) 192 dX10_copy_161 (by decide) (fun c161 => ?_) (fun c161 => ?_)
      · refine P.iconst (pc := 192) (v := 1) dX10_copy_192 (by decide) ?_
        refine P.iret (pc := 193) dX10_copy_193 rfl ?_
        rw [hM]
        exact pmI (by rw [e, show i = w from hi]) ((R.scr (c := 83) (by decide) _).arr (a := 82) (c := 45) (by decide) _) ((frM.rf.w (by decide) _).w (by decide) _)
      · exact absurd (show nI w ≤ nI i by grind [nT]) c161--.
    | succ k ih =>
      intro i x M1 hi hx hM
      subst hx
      refine P.iload (pc := 157) 6 dX10_copy_157 rfl ?_
      refine P.iload (pc := 159) 5 dX10_copy_159 rfl ?_
      refine P.icge (pc := 161) 192 dX10_copy_161 (by decide) (fun c161 => ?_) (fun c161 => ?_)
      · exact absurd c161 (by grind [nT])--.
      · refine P.aload_n (pc := 164) 0 dX10_copy_164 rfl rfl ?_
        refine P.getR (pc := 165) fl_X10_123 dX10_copy_165 rfl rfl ?_
        refine P.bipush (pc := 168) (v := 60) dX10_copy_168 (by decide) ?_
        refine P.iload_n (pc := 170) 3 dX10_copy_170 rfl rfl ?_
        refine P.imul (pc := 171) dX10_copy_171 ?_
        refine P.iload (pc := 172) 4 dX10_copy_172 rfl ?_
        refine P.iadd (pc := 174) dX10_copy_174 ?_
        refine P.iload (pc := 175) 6 dX10_copy_175 rfl ?_
        refine P.iadd (pc := 177) dX10_copy_177 ?_
        refine P.aload_n (pc := 178) 0 dX10_copy_178 rfl rfl ?_
        refine P.getR (pc := 179) fl_X10_126 dX10_copy_179 rfl rfl ?_
        refine P.iload (pc := 182) 6 dX10_copy_182 rfl ?_
        refine P.iaN (pc := 184) (i) dX10_copy_184 rfl rfl rfl (by first | omega | grind [nT]) ?_
        refine P.isN (pc := 185) (b * 60 + v + i) dX10_copy_185 rfl rfl (by rw [nlit, pk_mul, nI_add, nI_add, Nat.mul_comm]) (by first | omega | grind [nT]) ?_
        refine P.iinc (pc := 186) 6 1 dX10_copy_186 rfl (by decide) (by decide) rfl ?_
        refine P.goto (pc := 189) 157 dX10_copy_189 (by decide) ?_
        exact ih (i + 1) _ _ (by omega) (nI_1 i) (by
          rw [hM]
          simp only [xw_ap, Nat.reduceEqDiff, ↓reduceIte, xw_xw]
          rw [hC i (by omega), cpy_S])
  have lp1 : ∀ (a b u v w : Nat) (ha : a * 60 + u + w ≤ 240) (hb : b * 60 + v + w ≤ 240) (hw : w ≤ 60) (e : o_copy n σ (nI a) (nI u) (nI b) (nI v) (nI w) = (1, n, xw σ 45 (va_cpy (σ 45) (σ 45) (a * 60 + u) (b * 60 + v) w))) (k i : Nat) (x : Int32) (M1 : xM) (C : Nat → Int32), i + k = w → x = nI i → (∀ z, z < i → C z = σ 45 (a * 60 + u + z)) → M1 = xw M 83 C →
      P mX10_copy 120 [some (.ref 46), some (.int (nI a)), some (.int (nI u)), some (.int (nI b)), some (.int (nI v)), some (.int (nI w)), some (.int x)] [] M1 (fun r M' => ∃ z, r = some (.int z) ∧ PM (o_copy n σ (nI a) (nI u) (nI b) (nI v) (nI w)) M z M') := by
    intro a b u v w ha hb hw e k
    induction k with
    | zero =>
      intro i x M1 C hi hx hC hM
      subst hx
      refine P.iload (pc := 120) 6 dX10_copy_120 rfl ?_
      refine P.iload (pc := 122) 5 dX10_copy_122 rfl ?_
      refine P.icge (pc := 124) 154 dX10_copy_124 (by decide) (fun c124 => ?_) (fun c124 => ?_)
      · refine P.iconst (pc := 154) (v := 0) dX10_copy_154 (by decide) ?_
        refine P.istore (pc := 155) 6 dX10_copy_155 (by decide) rfl ?_
        exact lp2 a b u v w ha hb hw e C (by rw [← show i = w from hi]; exact hC) w 0 _ _ (by omega) rfl (by
          rw [hM, cpy_0]
          exact (xw_id (by simp only [xw_ap, Nat.reduceEqDiff, ↓reduceIte, a3])).symm)
      · exact absurd (show nI w ≤ nI i by grind [nT]) c124--.
    | succ k ih =>
      intro i x M1 C hi hx hC hM
      subst hx
      refine P.iload (pc := 120) 6 dX10_copy_120 rfl ?_
      refine P.iload (pc := 122) 5 dX10_copy_122 rfl ?_
      refine P.icge (pc := 124) 154 dX10_copy_124 (by decide) (fun c124 => ?_) (fun c124 => ?_)
      · exact absurd c124 (by grind [nT])--.
      · refine P.aload_n (pc := 127) 0 dX10_copy_127 rfl rfl ?_
        refine P.getR (pc := 128) fl_X10_126 dX10_copy_128 rfl rfl ?_
        refine P.iload (pc := 131) 6 dX10_copy_131 rfl ?_
        refine P.aload_n (pc := 133) 0 dX10_copy_133 rfl rfl ?_
        refine P.getR (pc := 134) fl_X10_123 dX10_copy_134 rfl rfl ?_
        refine P.bipush (pc := 137) (v := 60) dX10_copy_137 (by decide) ?_
        refine P.iload_n (pc := 139) 1 dX10_copy_139 rfl rfl ?_
        refine P.imul (pc := 140) dX10_copy_140 ?_
        refine P.iload_n (pc := 141) 2 dX10_copy_141 rfl rfl ?_
        refine P.iadd (pc := 142) dX10_copy_142 ?_
        refine P.iload (pc := 143) 6 dX10_copy_143 rfl ?_
        refine P.iadd (pc := 145) dX10_copy_145 ?_
        refine P.iaN (pc := 146) (a * 60 + u + i) dX10_copy_146 rfl rfl (by rw [nlit, pk_mul, nI_add, nI_add, Nat.mul_comm]) (by first | omega | grind [nT]) ?_
        refine P.isN (pc := 147) (i) dX10_copy_147 rfl rfl rfl (by first | omega | grind [nT]) ?_
        refine P.iinc (pc := 148) 6 1 dX10_copy_148 rfl (by decide) (by decide) rfl ?_
        refine P.goto (pc := 151) 120 dX10_copy_151 (by decide) ?_
        exact ih (i + 1) _ _ (upd C i (σ 45 (a * 60 + u + i))) (by omega) (nI_1 i) (by
          intro z hz
          rw [upd_ap]
          by_cases ez : z = i
          · rw [if_pos ez, ez]
          · rw [if_neg ez]; exact hC z (by omega)) (by
          rw [hM]
          simp only [xw_ap, Nat.reduceEqDiff, ↓reduceIte, xw_xw, a3])
  refine P.iload_n (pc := 0) 1 dX10_copy_0 rfl rfl ?_
  refine P.S1F (pc := 1) cs_X10_copy_250 dX10_copy_1 rfl rfl (sp_X10_isSheet _ _) ?_
  refine P.ifeqB (pc := 4) 14 dX10_copy_4 (by decide) (fun c4 => ?_) (fun c4 => ?_)
  · refine P.bipush (pc := 14) (v := -2) dX10_copy_14 (by decide) ?_
    refine P.iret (pc := 16) dX10_copy_16 rfl ?_
    exact pmI (by grind [o_copy]) R frM.rf
  · refine P.iload_n (pc := 7) 3 dX10_copy_7 rfl rfl ?_
    refine P.S1F (pc := 8) cs_X10_copy_250 dX10_copy_8 rfl rfl (sp_X10_isSheet _ _) ?_
    refine P.ifneB (pc := 11) 17 dX10_copy_11 (by decide) (fun c11 => ?_) (fun c11 => ?_)
    · obtain ⟨a, ha, rfl⟩ := s_nat c4.1 c4.2
      have ck := nI_clamp (n := a) (by omega)
      obtain ⟨b, hb, rfl⟩ := s_nat c11.1 c11.2
      have ckb := nI_clamp (n := b) (by omega)
      obtain ⟨w1, la, hla, ela⟩ := I.2.2.2.2.2 a (by omega)
      obtain ⟨w2, lb, hlb, elb⟩ := I.2.2.2.2.2 b (by omega)
      refine P.aload_n (pc := 17) 0 dX10_copy_17 rfl rfl ?_
      refine P.getR (pc := 18) fl_X10_117 dX10_copy_18 rfl rfl ?_
      refine P.iload_n (pc := 21) 1 dX10_copy_21 rfl rfl ?_
      refine P.iaN (pc := 22) _ dX10_copy_22 rfl rfl rfl (by first | omega | grind [nT]) ?_
      refine P.iflt (pc := 23) 35 dX10_copy_23 (by decide) (fun c23 => ?_) (fun c23 => ?_)
      · refine P.aload_n (pc := 35) 0 dX10_copy_35 rfl rfl ?_
        refine P.iconst (pc := 36) (v := 1) dX10_copy_36 (by decide) ?_
        refine P.V1I (pc := 37) cs_X10_copy_253 dX10_copy_37 rfl rfl rfl (sp_X10_met _ _) (fun v37 M37 h37 => ?_)
        obtain ⟨rfl, rfl⟩ := h37
        refine P.iret (pc := 40) dX10_copy_40 rfl ?_
        exact pmI (by rw [o_copy, if_neg (by grind), ck, ckb, if_pos (by grind)]; rfl) (R.fnd 1) (frM.fnd 1)
      · refine P.aload_n (pc := 26) 0 dX10_copy_26 rfl rfl ?_
        refine P.getR (pc := 27) fl_X10_117 dX10_copy_27 rfl rfl ?_
        refine P.iload_n (pc := 30) 3 dX10_copy_30 rfl rfl ?_
        refine P.iaN (pc := 31) _ dX10_copy_31 rfl rfl rfl (by first | omega | grind [nT]) ?_
        refine P.ifge (pc := 32) 41 dX10_copy_32 (by decide) (fun c32 => ?_) (fun c32 => ?_)
        · refine P.aload_n (pc := 41) 0 dX10_copy_41 rfl rfl ?_
          refine P.getR (pc := 42) fl_X10_117 dX10_copy_42 rfl rfl ?_
          refine P.iload_n (pc := 45) 1 dX10_copy_45 rfl rfl ?_
          refine P.iaN (pc := 46) _ dX10_copy_46 rfl rfl rfl (by first | omega | grind [nT]) ?_
          refine P.aload_n (pc := 47) 0 dX10_copy_47 rfl rfl ?_
          refine P.getR (pc := 48) fl_X10_117 dX10_copy_48 rfl rfl ?_
          refine P.iload_n (pc := 51) 3 dX10_copy_51 rfl rfl ?_
          refine P.iaN (pc := 52) _ dX10_copy_52 rfl rfl rfl (by first | omega | grind [nT]) ?_
          refine P.iceq (pc := 53) 62 dX10_copy_53 (by decide) (fun c53 => ?_) (fun c53 => ?_)
          · refine P.iload_n (pc := 62) 2 dX10_copy_62 rfl rfl ?_
            refine P.iflt (pc := 63) 111 dX10_copy_63 (by decide) (fun c63 => ?_) (fun c63 => ?_)
            · refine P.aload_n (pc := 111) 0 dX10_copy_111 rfl rfl ?_
              refine P.iconst (pc := 112) (v := 2) dX10_copy_112 (by decide) ?_
              refine P.V1I (pc := 113) cs_X10_copy_253 dX10_copy_113 rfl rfl rfl (sp_X10_met _ _) (fun v113 M113 h113 => ?_)
              obtain ⟨rfl, rfl⟩ := h113
              unfold lg_cmp at *
              refine P.iret (pc := 116) dX10_copy_116 rfl ?_
              exact pmI (by rw [o_copy, if_neg (by grind), ck, ckb, if_neg (by grind), if_neg (by grind), if_pos (by grind [nT, nW])]; rfl) (R.fnd 2) (frM.fnd 2)
            · refine P.iload (pc := 66) 4 dX10_copy_66 rfl ?_
              refine P.iflt (pc := 68) 111 dX10_copy_68 (by decide) (fun c68 => ?_) (fun c68 => ?_)
              · refine P.aload_n (pc := 111) 0 dX10_copy_111 rfl rfl ?_
                refine P.iconst (pc := 112) (v := 2) dX10_copy_112 (by decide) ?_
                refine P.V1I (pc := 113) cs_X10_copy_253 dX10_copy_113 rfl rfl rfl (sp_X10_met _ _) (fun v113 M113 h113 => ?_)
                obtain ⟨rfl, rfl⟩ := h113
                unfold lg_cmp at *
                refine P.iret (pc := 116) dX10_copy_116 rfl ?_
                exact pmI (by rw [o_copy, if_neg (by grind), ck, ckb, if_neg (by grind), if_neg (by grind), if_pos (by grind [nT, nW])]; rfl) (R.fnd 2) (frM.fnd 2)
              · refine P.iload (pc := 71) 5 dX10_copy_71 rfl ?_
                refine P.iflt (pc := 73) 111 dX10_copy_73 (by decide) (fun c73 => ?_) (fun c73 => ?_)
                · refine P.aload_n (pc := 111) 0 dX10_copy_111 rfl rfl ?_
                  refine P.iconst (pc := 112) (v := 2) dX10_copy_112 (by decide) ?_
                  refine P.V1I (pc := 113) cs_X10_copy_253 dX10_copy_113 rfl rfl rfl (sp_X10_met _ _) (fun v113 M113 h113 => ?_)
                  obtain ⟨rfl, rfl⟩ := h113
                  unfold lg_cmp at *
                  refine P.iret (pc := 116) dX10_copy_116 rfl ?_
                  exact pmI (by rw [o_copy, if_neg (by grind), ck, ckb, if_neg (by grind), if_neg (by grind), if_pos (by grind [nT, nW])]; rfl) (R.fnd 2) (frM.fnd 2)
                · refine P.iload_n (pc := 76) 2 dX10_copy_76 rfl rfl ?_
                  refine P.i2l (pc := 77) dX10_copy_77 ?_
                  refine P.iload (pc := 78) 5 dX10_copy_78 rfl ?_
                  refine P.i2l (pc := 80) dX10_copy_80 ?_
                  refine P.ladd (pc := 81) dX10_copy_81 ?_
                  refine P.aload_n (pc := 82) 0 dX10_copy_82 rfl rfl ?_
                  refine P.getR (pc := 83) fl_X10_120 dX10_copy_83 rfl rfl ?_
                  refine P.iload_n (pc := 86) 1 dX10_copy_86 rfl rfl ?_
                  refine P.iaN (pc := 87) _ dX10_copy_87 rfl rfl rfl (by first | omega | grind [nT]) ?_
                  refine P.i2l (pc := 88) dX10_copy_88 ?_
                  refine P.lcmp (pc := 89) dX10_copy_89 ?_
                  refine P.ifgt (pc := 90) 111 dX10_copy_90 (by decide) (fun c90 => ?_) (fun c90 => ?_)
                  · refine P.aload_n (pc := 111) 0 dX10_copy_111 rfl rfl ?_
                    refine P.iconst (pc := 112) (v := 2) dX10_copy_112 (by decide) ?_
                    refine P.V1I (pc := 113) cs_X10_copy_253 dX10_copy_113 rfl rfl rfl (sp_X10_met _ _) (fun v113 M113 h113 => ?_)
                    obtain ⟨rfl, rfl⟩ := h113
                    unfold lg_cmp at *
                    refine P.iret (pc := 116) dX10_copy_116 rfl ?_
                    exact pmI (by rw [o_copy, if_neg (by grind), ck, ckb, if_neg (by grind), if_neg (by grind), if_pos (by grind [nT, nW])]; rfl) (R.fnd 2) (frM.fnd 2)
                  · refine P.iload (pc := 93) 4 dX10_copy_93 rfl ?_
                    refine P.i2l (pc := 95) dX10_copy_95 ?_
                    refine P.iload (pc := 96) 5 dX10_copy_96 rfl ?_
                    refine P.i2l (pc := 98) dX10_copy_98 ?_
                    refine P.ladd (pc := 99) dX10_copy_99 ?_
                    refine P.aload_n (pc := 100) 0 dX10_copy_100 rfl rfl ?_
                    refine P.getR (pc := 101) fl_X10_120 dX10_copy_101 rfl rfl ?_
                    refine P.iload_n (pc := 104) 3 dX10_copy_104 rfl rfl ?_
                    refine P.iaN (pc := 105) _ dX10_copy_105 rfl rfl rfl (by first | omega | grind [nT]) ?_
                    refine P.i2l (pc := 106) dX10_copy_106 ?_
                    refine P.lcmp (pc := 107) dX10_copy_107 ?_
                    refine P.ifle (pc := 108) 117 dX10_copy_108 (by decide) (fun c108 => ?_) (fun c108 => ?_)
                    · have y1 := c64 c63 c73 c90
                      have y2 := c64 c68 c73 (Int32.not_lt.mpr c108)
                      clear c90 c108 lp2
                      have lp1' := lp1
                      clear lp1
                      rw [a2, ela] at y1
                      rw [a2, elb] at y2
                      obtain ⟨u, -, hu, rfl⟩ := xin_nat (v := i) la (lo := 0) (by grind [nT]) y1.1 (by omega) (by decide)
                      obtain ⟨v, -, hv, rfl⟩ := xin_nat (v := j) lb (lo := 0) (by grind [nT]) y2.1 (by omega) (by decide)
                      obtain ⟨w, -, hw, rfl⟩ := xin_nat (lo := 0) (v := m) 60 (by grind [nT]) (by grind [nT]) (by decide) (by decide)
                      have z1 : u + w ≤ la := by grind [nT]
                      have z2 : v + w ≤ lb := by grind [nT]
                      refine P.iconst (pc := 117) (v := 0) dX10_copy_117 (by decide) ?_
                      refine P.istore (pc := 118) 6 dX10_copy_118 (by decide) rfl ?_
                      exact lp1' a b u v w (by omega) (by omega) hw (by rw [o_copy, if_neg (by grind [nT]), ck, ckb, nI_clamp (by omega), nI_clamp (by omega), nI_clamp (by omega), if_neg (by grind), if_neg (by grind), if_neg (by grind [nT])]) w 0 _ _ (M 83) (by omega) rfl (fun z hz => by omega) (by rw [xw_same])
                    · refine P.aload_n (pc := 111) 0 dX10_copy_111 rfl rfl ?_
                      refine P.iconst (pc := 112) (v := 2) dX10_copy_112 (by decide) ?_
                      refine P.V1I (pc := 113) cs_X10_copy_253 dX10_copy_113 rfl rfl rfl (sp_X10_met _ _) (fun v113 M113 h113 => ?_)
                      obtain ⟨rfl, rfl⟩ := h113
                      unfold lg_cmp at *
                      refine P.iret (pc := 116) dX10_copy_116 rfl ?_
                      exact pmI (by rw [o_copy, if_neg (by grind), ck, ckb, if_neg (by grind), if_neg (by grind), if_pos (by grind [nT, nW])]; rfl) (R.fnd 2) (frM.fnd 2)
          · refine P.aload_n (pc := 56) 0 dX10_copy_56 rfl rfl ?_
            refine P.iconst (pc := 57) (v := 4) dX10_copy_57 (by decide) ?_
            refine P.V1I (pc := 58) cs_X10_copy_253 dX10_copy_58 rfl rfl rfl (sp_X10_met _ _) (fun v58 M58 h58 => ?_)
            obtain ⟨rfl, rfl⟩ := h58
            refine P.iret (pc := 61) dX10_copy_61 rfl ?_
            exact pmI (by rw [o_copy, if_neg (by grind), ck, ckb, if_neg (by grind), if_pos (by grind)]; rfl) (R.fnd 4) (frM.fnd 4)
        · refine P.aload_n (pc := 35) 0 dX10_copy_35 rfl rfl ?_
          refine P.iconst (pc := 36) (v := 1) dX10_copy_36 (by decide) ?_
          refine P.V1I (pc := 37) cs_X10_copy_253 dX10_copy_37 rfl rfl rfl (sp_X10_met _ _) (fun v37 M37 h37 => ?_)
          obtain ⟨rfl, rfl⟩ := h37
          refine P.iret (pc := 40) dX10_copy_40 rfl ?_
          exact pmI (by rw [o_copy, if_neg (by grind), ck, ckb, if_pos (by grind)]; rfl) (R.fnd 1) (frM.fnd 1)
    · refine P.bipush (pc := 14) (v := -2) dX10_copy_14 (by decide) ?_
      refine P.iret (pc := 16) dX10_copy_16 rfl ?_
      exact pmI (by grind [o_copy]) R frM.rf
