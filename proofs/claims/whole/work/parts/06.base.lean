/-! plain checks of both sides; small arithmetic of ints -/
theorem sp_X9_within (M : xM) (a b c : Int32) : SpF mX9_within [.int a, .int b, .int c] M (bI (b ≤ a ∧ a ≤ c)) := by
  refine P.iload_n (pc := 0) 0 dX9_within_0 rfl rfl ?_
  refine P.iload_n (pc := 1) 1 dX9_within_1 rfl rfl ?_
  refine P.iclt (pc := 2) 14 dX9_within_2 (by decide) (fun c2 => ?_) (fun c2 => ?_)
  · refine P.iconst (pc := 14) (v := 0) dX9_within_14 (by decide) ?_
    refine P.zret (pc := 15) dX9_within_15 rfl (by decide) ?_
    first | exact xt ⟨by grind, by grind⟩ | exact xf (by grind)
  · refine P.iload_n (pc := 5) 0 dX9_within_5 rfl rfl ?_
    refine P.iload_n (pc := 6) 2 dX9_within_6 rfl rfl ?_
    refine P.icgt (pc := 7) 14 dX9_within_7 (by decide) (fun c7 => ?_) (fun c7 => ?_)
    · refine P.iconst (pc := 14) (v := 0) dX9_within_14 (by decide) ?_
      refine P.zret (pc := 15) dX9_within_15 rfl (by decide) ?_
      first | exact xt ⟨by grind, by grind⟩ | exact xf (by grind)
    · refine P.iconst (pc := 10) (v := 1) dX9_within_10 (by decide) ?_
      refine P.goto (pc := 11) 15 dX9_within_11 (by decide) ?_
      refine P.zret (pc := 15) dX9_within_15 rfl (by decide) ?_
      first | exact xt ⟨by grind, by grind⟩ | exact xf (by grind)
theorem sp_X9_isWeek (M : xM) (w : Int32) : SpF mX9_isWeek [.int w] M (bI (0 ≤ w ∧ w ≤ 9)) := by
  refine P.iload_n (pc := 0) 0 dX9_isWeek_0 rfl rfl ?_
  refine P.iconst (pc := 1) (v := 0) dX9_isWeek_1 (by decide) ?_
  refine P.bipush (pc := 2) (v := 9) dX9_isWeek_2 (by decide) ?_
  refine P.S3F (pc := 4) cs_X9_isWeek_124 dX9_isWeek_4 rfl rfl (sp_X9_within _ _ _ _) ?_
  refine P.zretB (pc := 7) dX9_isWeek_7 rfl ?_
  exact ⟨rfl, rfl⟩
theorem sp_X9_isHour (M : xM) (w : Int32) : SpF mX9_isHour [.int w] M (bI (0 ≤ w ∧ w ≤ 39)) := by
  refine P.iload_n (pc := 0) 0 dX9_isHour_0 rfl rfl ?_
  refine P.iconst (pc := 1) (v := 0) dX9_isHour_1 (by decide) ?_
  refine P.bipush (pc := 2) (v := 39) dX9_isHour_2 (by decide) ?_
  refine P.S3F (pc := 4) cs_X9_isHour_124 dX9_isHour_4 rfl rfl (sp_X9_within _ _ _ _) ?_
  refine P.zretB (pc := 7) dX9_isHour_7 rfl ?_
  exact ⟨rfl, rfl⟩
theorem sp_X1_has {M : xM} {nh : Nat} (hn : M 2 2 = nI nh) (h30 : nh ≤ 30) (v : Int32) : SpF mX1_has [.ref 2, .int v] M (bI (xin nh v)) := by
  refine P.iload_n (pc := 0) 1 dX1_has_0 rfl rfl ?_
  refine P.iconst (pc := 1) (v := 0) dX1_has_1 (by decide) ?_
  refine P.aload_n (pc := 2) 0 dX1_has_2 rfl rfl ?_
  refine P.getI (pc := 3) fl_X1_18 dX1_has_3 rfl rfl ?_
  refine P.iconst (pc := 6) (v := 1) dX1_has_6 (by decide) ?_
  refine P.isub (pc := 7) dX1_has_7 ?_
  refine P.N3F (pc := 8) cs_X1_has_22 dX1_has_8 rfl rfl (sp_X9_within _ _ _ _) ?_
  refine P.zretB (pc := 11) dX1_has_11 rfl ?_
  exact ⟨by rw [hn, bI_c (xin_iff (by omega) v)], rfl⟩
theorem sp_X4_has {M : xM} {np : Nat} (hn : M 5 7 = nI np) (h24 : np ≤ 24) (v : Int32) : SpF mX4_has [.ref 5, .int v] M (bI (xin np v)) := by
  refine P.iload_n (pc := 0) 1 dX4_has_0 rfl rfl ?_
  refine P.iconst (pc := 1) (v := 0) dX4_has_1 (by decide) ?_
  refine P.aload_n (pc := 2) 0 dX4_has_2 rfl rfl ?_
  refine P.getI (pc := 3) fl_X4_33 dX4_has_3 rfl rfl ?_
  refine P.iconst (pc := 6) (v := 1) dX4_has_6 (by decide) ?_
  refine P.isub (pc := 7) dX4_has_7 ?_
  refine P.N3F (pc := 8) cs_X4_has_43 dX4_has_8 rfl rfl (sp_X9_within _ _ _ _) ?_
  refine P.zretB (pc := 11) dX4_has_11 rfl ?_
  exact ⟨by rw [hn, bI_c (xin_iff (by omega) v)], rfl⟩
theorem sp_X4_isLodged (M : xM) {j : Nat} (hj : j < 24) : SpF mX4_isLodged [.ref 5, .int (nI j)] M (bI (¬ M 11 j = -1)) := by
  refine P.aload_n (pc := 0) 0 dX4_isLodged_0 rfl rfl ?_
  refine P.getR (pc := 1) fl_X4_27 dX4_isLodged_1 rfl rfl ?_
  refine P.iload_n (pc := 4) 1 dX4_isLodged_4 rfl rfl ?_
  refine P.iaN (pc := 5) _ dX4_isLodged_5 rfl rfl rfl (by first | omega | grind [nT]) ?_
  refine P.iconst (pc := 6) (v := -1) dX4_isLodged_6 (by decide) ?_
  refine P.iceq (pc := 7) 14 dX4_isLodged_7 (by decide) (fun c7 => ?_) (fun c7 => ?_)
  · refine P.iconst (pc := 14) (v := 0) dX4_isLodged_14 (by decide) ?_
    refine P.zret (pc := 15) dX4_isLodged_15 rfl (by decide) ?_
    first | exact xt (by assumption) | exact xf (by simpa using (by assumption))
  · refine P.iconst (pc := 10) (v := 1) dX4_isLodged_10 (by decide) ?_
    refine P.goto (pc := 11) 15 dX4_isLodged_11 (by decide) ?_
    refine P.zret (pc := 15) dX4_isLodged_15 rfl (by decide) ?_
    first | exact xt (by assumption) | exact xf (by simpa using (by assumption))
theorem sp_X1_add {M : xM} {nh : Nat} (hn : M 2 2 = nI nh) (h30 : nh ≤ 30) (r b : Int32) : SpI mX1_add [.ref 2, .int r, .int b] M (fun v M' =>
    if ¬ (0 ≤ r ∧ r ≤ 5 ∧ 1 ≤ b ∧ b ≤ 8) then v = -2 ∧ M' = M else if nh = 30 then v = -4 ∧ M' = M else
    v = nI nh ∧ M' = xw (xw (xw M 3 (upd (M 3) nh r)) 4 (upd (M 4) nh b)) 2 (upd (M 2) 2 (nI (nh + 1)))) := by
  refine P.iload_n (pc := 0) 1 dX1_add_0 rfl rfl ?_
  refine P.iconst (pc := 1) (v := 0) dX1_add_1 (by decide) ?_
  refine P.iconst (pc := 2) (v := 5) dX1_add_2 (by decide) ?_
  refine P.N3F (pc := 3) cs_X1_add_22 dX1_add_3 rfl rfl (sp_X9_within _ _ _ _) ?_
  refine P.ifeqB (pc := 6) 19 dX1_add_6 (by decide) (fun c6 => ?_) (fun c6 => ?_)
  · refine P.bipush (pc := 19) (v := -2) dX1_add_19 (by decide) ?_
    refine P.iret (pc := 21) dX1_add_21 rfl ?_
    exact ⟨_, rfl, by grind [nT]⟩
  · refine P.iload_n (pc := 9) 2 dX1_add_9 rfl rfl ?_
    refine P.iconst (pc := 10) (v := 1) dX1_add_10 (by decide) ?_
    refine P.bipush (pc := 11) (v := 8) dX1_add_11 (by decide) ?_
    refine P.N3F (pc := 13) cs_X1_add_22 dX1_add_13 rfl rfl (sp_X9_within _ _ _ _) ?_
    refine P.ifneB (pc := 16) 22 dX1_add_16 (by decide) (fun c16 => ?_) (fun c16 => ?_)
    · refine P.aload_n (pc := 22) 0 dX1_add_22 rfl rfl ?_
      refine P.getI (pc := 23) fl_X1_18 dX1_add_23 rfl rfl ?_
      refine P.bipush (pc := 26) (v := 30) dX1_add_26 (by decide) ?_
      refine P.iclt (pc := 28) 34 dX1_add_28 (by decide) (fun c28 => ?_) (fun c28 => ?_)
      · refine P.aload_n (pc := 34) 0 dX1_add_34 rfl rfl ?_
        refine P.getR (pc := 35) fl_X1_11 dX1_add_35 rfl rfl ?_
        refine P.aload_n (pc := 38) 0 dX1_add_38 rfl rfl ?_
        refine P.getI (pc := 39) fl_X1_18 dX1_add_39 rfl rfl ?_
        rw [hn]
        refine P.iload_n (pc := 42) 1 dX1_add_42 rfl rfl ?_
        refine P.isN (pc := 43) _ dX1_add_43 rfl rfl rfl (by first | omega | grind [nT]) ?_
        refine P.aload_n (pc := 44) 0 dX1_add_44 rfl rfl ?_
        refine P.getR (pc := 45) fl_X1_15 dX1_add_45 rfl rfl ?_
        refine P.aload_n (pc := 48) 0 dX1_add_48 rfl rfl ?_
        refine P.getI (pc := 49) fl_X1_18 dX1_add_49 rfl rfl ?_
        simp only [xw_ap, Nat.reduceEqDiff, ↓reduceIte, hn]
        refine P.iload_n (pc := 52) 2 dX1_add_52 rfl rfl ?_
        refine P.isN (pc := 53) _ dX1_add_53 rfl rfl rfl (by first | omega | grind [nT]) ?_
        refine P.aload_n (pc := 54) 0 dX1_add_54 rfl rfl ?_
        refine P.dup (pc := 55) dX1_add_55 rfl ?_
        refine P.getI (pc := 56) fl_X1_18 dX1_add_56 rfl rfl ?_
        simp only [xw_ap, Nat.reduceEqDiff, ↓reduceIte, hn]
        refine P.iconst (pc := 59) (v := 1) dX1_add_59 (by decide) ?_
        refine P.iadd (pc := 60) dX1_add_60 ?_
        refine P.put (pc := 61) fp_X1_18 dX1_add_61 rfl rfl ?_
        refine P.aload_n (pc := 64) 0 dX1_add_64 rfl rfl ?_
        refine P.getI (pc := 65) fl_X1_18 dX1_add_65 rfl rfl ?_
        simp only [xw_ap, upd_ap, Nat.reduceEqDiff, ↓reduceIte, hn]
        refine P.iconst (pc := 68) (v := 1) dX1_add_68 (by decide) ?_
        refine P.isub (pc := 69) dX1_add_69 ?_
        refine P.iret (pc := 70) dX1_add_70 rfl ?_
        exact ⟨_, rfl, by rw [nI_1]; grind [nT]⟩
      · refine P.bipush (pc := 31) (v := -4) dX1_add_31 (by decide) ?_
        refine P.iret (pc := 33) dX1_add_33 rfl ?_
        exact ⟨_, rfl, by grind [nT]⟩
    · refine P.bipush (pc := 19) (v := -2) dX1_add_19 (by decide) ?_
      refine P.iret (pc := 21) dX1_add_21 rfl ?_
      exact ⟨_, rfl, by grind [nT]⟩
