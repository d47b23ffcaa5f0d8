/-! rain, shows, wishes, crowds: the reference -/
theorem sp_X10_isWeek (M : xM) (w : Int32) : SpF mX10_isWeek [.int w] M (bI (0 ≤ w ∧ w ≤ 9)) := by
  refine P.iload_n (pc := 0) 0 dX10_isWeek_0 rfl rfl ?_
  refine P.i2l (pc := 1) dX10_isWeek_1 ?_
  refine P.lconst (pc := 2) (v := 0) dX10_isWeek_2 (by decide) ?_
  refine P.ldc2 (pc := 3) kc_X10_139 dX10_isWeek_3 ?_
  refine P.S3F (pc := 6) cs_X10_isWeek_132 dX10_isWeek_6 rfl rfl (sp_X10_within _ _ _ _) ?_
  refine P.zretB (pc := 9) dX10_isWeek_9 rfl ?_
  exact ⟨siv (bI_c (by grind [nW])), rfl⟩
theorem sp_X10_isParty {M : xM} {np : Nat} (hn : M 46 3 = nI np) (h24 : np ≤ 24) (v : Int32) : SpF mX10_isParty [.ref 46, .int v] M (bI (xin np v)) := by
  refine P.iload_n (pc := 0) 1 dX10_isParty_0 rfl rfl ?_
  refine P.i2l (pc := 1) dX10_isParty_1 ?_
  refine P.lconst (pc := 2) (v := 0) dX10_isParty_2 (by decide) ?_
  refine P.aload_n (pc := 3) 0 dX10_isParty_3 rfl rfl ?_
  refine P.getI (pc := 4) fl_X10_136 dX10_isParty_4 rfl rfl ?_
  refine P.iconst (pc := 7) (v := 1) dX10_isParty_7 (by decide) ?_
  refine P.isub (pc := 8) dX10_isParty_8 ?_
  refine P.i2l (pc := 9) dX10_isParty_9 ?_
  refine P.S3F (pc := 10) cs_X10_isParty_132 dX10_isParty_10 rfl rfl (sp_X10_withinZ _ _ _) ?_
  refine P.zretB (pc := 13) dX10_isParty_13 rfl ?_
  exact ⟨by rw [hn, bI_c (xin_iff (by omega) v)], rfl⟩
theorem sp_X10_isWet {n : Nat → Nat} {σ M : xM} (R : RM n σ M) {h : Nat} (hh : h < 40) : SpF mX10_isWet [.ref 46, .int (nI h)] M (bI (wetP σ h)) := by
  have a1 := R.1 (80, 43) (by decide)
  have a2 := R.1 (81, 44) (by decide)
  have a3 := R.1 (82, 45) (by decide)
  dsimp only at a1 a2 a3
  have lp : ∀ (k i : Nat) (x v : Int32) , i + k = h + 1 → h - h % 8 ≤ i → x = nI i → v = bI (∃ z, h - h % 8 ≤ z ∧ z < i ∧ rainP σ z) → P mX10_isWet 9 [some (.ref 46), some (.int (nI h)), some (.int v), some (.int x)] [] M (fun r M' => r = some (.int (bI (wetP σ h))) ∧ M' = M) := by
    intro k
    induction k with
    | zero =>
      intro i x v hi h0 hx hv
      subst hx hv
      refine P.iload_n (pc := 9) 3 dX10_isWet_9 rfl rfl ?_
      refine P.iload_n (pc := 10) 1 dX10_isWet_10 rfl rfl ?_
      refine P.icgt (pc := 11) 59 dX10_isWet_11 (by decide) (fun c11 => ?_) (fun c11 => ?_)
      · refine P.iload_n (pc := 59) 2 dX10_isWet_59 rfl rfl ?_
        refine P.zretB (pc := 60) dX10_isWet_60 rfl ?_
        exact ⟨siv (bI_c ⟨fun ⟨z, q1, q2, q3⟩ => ⟨z, q1, by omega, q3⟩, fun ⟨z, q1, q2, q3⟩ => ⟨z, q1, by omega, q3⟩⟩), rfl⟩
      · exact absurd (show nI h < nI i by grind [nT]) c11--.
    | succ k ih =>
      intro i x v hi h0 hx hv
      subst hx hv
      have st : (∃ z, h - h % 8 ≤ z ∧ z < i + 1 ∧ rainP σ z) ↔ (∃ z, h - h % 8 ≤ z ∧ z < i ∧ rainP σ z) ∨ rainP σ i := by
        constructor
        · rintro ⟨z, q1, q2, q3⟩
          by_cases e : z = i
          · subst e; exact Or.inr q3
          · exact Or.inl ⟨z, q1, by omega, q3⟩
        · rintro (⟨z, q1, q2, q3⟩ | q)
          · exact ⟨z, q1, by omega, q3⟩
          · exact ⟨i, h0, by omega, q⟩
      refine P.iload_n (pc := 9) 3 dX10_isWet_9 rfl rfl ?_
      refine P.iload_n (pc := 10) 1 dX10_isWet_10 rfl rfl ?_
      refine P.icgt (pc := 11) 59 dX10_isWet_11 (by decide) (fun c11 => ?_) (fun c11 => ?_)
      · exact absurd c11 (by grind [nT])--.
      · refine P.iload_n (pc := 14) 2 dX10_isWet_14 rfl rfl ?_
        refine P.ifneB (pc := 15) 47 dX10_isWet_15 (by decide) (fun c15 => ?_) (fun c15 => ?_)
        · refine P.iconst (pc := 47) (v := 1) dX10_isWet_47 (by decide) ?_
          refine P.goto (pc := 48) 52 dX10_isWet_48 (by decide) ?_
          refine P.istore_n (pc := 52) 2 dX10_isWet_52 rfl (by decide) rfl ?_
          refine P.iinc (pc := 53) 3 1 dX10_isWet_53 rfl (by decide) (by decide) rfl ?_
          refine P.goto (pc := 56) 9 dX10_isWet_56 (by decide) ?_
          exact ih (i + 1) _ _ (by omega) (by omega) (nI_1 i) (by
            first
            | exact (bI_t (st.mpr (Or.inl c15))).symm
            | exact (bI_t (st.mpr (Or.inr ⟨by rw [← a1]; exact c25, by rw [← a2]; exact Int32.not_le.mp c35, by rw [← a3]; exact Int32.not_le.mp c44⟩))).symm
            | exact (bI_f (fun q => by rcases st.mp q with q | ⟨q1, q2, q3⟩ <;> grind)).symm)
        · refine P.aload_n (pc := 18) 0 dX10_isWet_18 rfl rfl ?_
          refine P.getR (pc := 19) fl_X10_117 dX10_isWet_19 rfl rfl ?_
          refine P.iconst (pc := 22) (v := 0) dX10_isWet_22 (by decide) ?_
          refine P.iaN (pc := 23) (0) dX10_isWet_23 rfl rfl rfl (by first | omega | grind [nT]) ?_
          refine P.iconst (pc := 24) (v := -1) dX10_isWet_24 (by decide) ?_
          refine P.iceq (pc := 25) 51 dX10_isWet_25 (by decide) (fun c25 => ?_) (fun c25 => ?_)
          · refine P.iconst (pc := 51) (v := 0) dX10_isWet_51 (by decide) ?_
            refine P.istore_n (pc := 52) 2 dX10_isWet_52 rfl (by decide) rfl ?_
            refine P.iinc (pc := 53) 3 1 dX10_isWet_53 rfl (by decide) (by decide) rfl ?_
            refine P.goto (pc := 56) 9 dX10_isWet_56 (by decide) ?_
            exact ih (i + 1) _ _ (by omega) (by omega) (nI_1 i) (by
              first
              | exact (bI_t (st.mpr (Or.inl c15))).symm
              | exact (bI_t (st.mpr (Or.inr ⟨by rw [← a1]; exact c25, by rw [← a2]; exact Int32.not_le.mp c35, by rw [← a3]; exact Int32.not_le.mp c44⟩))).symm
              | exact (bI_f (fun q => by rcases st.mp q with q | ⟨q1, q2, q3⟩ <;> grind)).symm)
          · refine P.iload_n (pc := 28) 3 dX10_isWet_28 rfl rfl ?_
            refine P.aload_n (pc := 29) 0 dX10_isWet_29 rfl rfl ?_
            refine P.getR (pc := 30) fl_X10_120 dX10_isWet_30 rfl rfl ?_
            refine P.iconst (pc := 33) (v := 0) dX10_isWet_33 (by decide) ?_
            refine P.iaN (pc := 34) (0) dX10_isWet_34 rfl rfl rfl (by first | omega | grind [nT]) ?_
            refine P.icge (pc := 35) 51 dX10_isWet_35 (by decide) (fun c35 => ?_) (fun c35 => ?_)
            · refine P.iconst (pc := 51) (v := 0) dX10_isWet_51 (by decide) ?_
              refine P.istore_n (pc := 52) 2 dX10_isWet_52 rfl (by decide) rfl ?_
              refine P.iinc (pc := 53) 3 1 dX10_isWet_53 rfl (by decide) (by decide) rfl ?_
              refine P.goto (pc := 56) 9 dX10_isWet_56 (by decide) ?_
              exact ih (i + 1) _ _ (by omega) (by omega) (nI_1 i) (by
                first
                | exact (bI_t (st.mpr (Or.inl c15))).symm
                | exact (bI_t (st.mpr (Or.inr ⟨by rw [← a1]; exact c25, by rw [← a2]; exact Int32.not_le.mp c35, by rw [← a3]; exact Int32.not_le.mp c44⟩))).symm
                | exact (bI_f (fun q => by rcases st.mp q with q | ⟨q1, q2, q3⟩ <;> grind)).symm)
            · refine P.aload_n (pc := 38) 0 dX10_isWet_38 rfl rfl ?_
              refine P.getR (pc := 39) fl_X10_123 dX10_isWet_39 rfl rfl ?_
              refine P.iload_n (pc := 42) 3 dX10_isWet_42 rfl rfl ?_
              refine P.iaN (pc := 43) (i) dX10_isWet_43 rfl rfl rfl (by first | omega | grind [nT]) ?_
              refine P.ifle (pc := 44) 51 dX10_isWet_44 (by decide) (fun c44 => ?_) (fun c44 => ?_)
              · refine P.iconst (pc := 51) (v := 0) dX10_isWet_51 (by decide) ?_
                refine P.istore_n (pc := 52) 2 dX10_isWet_52 rfl (by decide) rfl ?_
                refine P.iinc (pc := 53) 3 1 dX10_isWet_53 rfl (by decide) (by decide) rfl ?_
                refine P.goto (pc := 56) 9 dX10_isWet_56 (by decide) ?_
                exact ih (i + 1) _ _ (by omega) (by omega) (nI_1 i) (by
                  first
                  | exact (bI_t (st.mpr (Or.inl c15))).symm
                  | exact (bI_t (st.mpr (Or.inr ⟨by rw [← a1]; exact c25, by rw [← a2]; exact Int32.not_le.mp c35, by rw [← a3]; exact Int32.not_le.mp c44⟩))).symm
                  | exact (bI_f (fun q => by rcases st.mp q with q | ⟨q1, q2, q3⟩ <;> grind)).symm)
              · refine P.iconst (pc := 47) (v := 1) dX10_isWet_47 (by decide) ?_
                refine P.goto (pc := 48) 52 dX10_isWet_48 (by decide) ?_
                refine P.istore_n (pc := 52) 2 dX10_isWet_52 rfl (by decide) rfl ?_
                refine P.iinc (pc := 53) 3 1 dX10_isWet_53 rfl (by decide) (by decide) rfl ?_
                refine P.goto (pc := 56) 9 dX10_isWet_56 (by decide) ?_
                exact ih (i + 1) _ _ (by omega) (by omega) (nI_1 i) (by
                  first
                  | exact (bI_t (st.mpr (Or.inl c15))).symm
                  | exact (bI_t (st.mpr (Or.inr ⟨by rw [← a1]; exact c25, by rw [← a2]; exact Int32.not_le.mp c35, by rw [← a3]; exact Int32.not_le.mp c44⟩))).symm
                  | exact (bI_f (fun q => by rcases st.mp q with q | ⟨q1, q2, q3⟩ <;> grind)).symm)
  refine P.iconst (pc := 0) (v := 0) dX10_isWet_0 (by decide) ?_
  refine P.istore_n (pc := 1) 2 dX10_isWet_1 rfl (by decide) rfl ?_
  refine P.iload_n (pc := 2) 1 dX10_isWet_2 rfl rfl ?_
  refine P.iload_n (pc := 3) 1 dX10_isWet_3 rfl rfl ?_
  refine P.bipush (pc := 4) (v := 8) dX10_isWet_4 (by decide) ?_
  refine P.irem (pc := 6) dX10_isWet_6 (by decide) ?_
  refine P.isub (pc := 7) dX10_isWet_7 ?_
  rw [hour0 hh]
  refine P.istore_n (pc := 8) 3 dX10_isWet_8 rfl (by decide) rfl ?_
  exact lp (h + 1 - (h - h % 8)) _ _ _ (by omega) (Nat.le_refl _) rfl (bI_f (fun ⟨z, q1, q2, q3⟩ => by omega)).symm
theorem sp_X10_wet {n : Nat → Nat} {σ M : xM} (I : Iv n σ) (R : RM n σ M) (h : Int32) : SpI mX10_wet [.ref 46, .int h] M (PM (o_wet n σ h) M) := by
  refine P.iload_n (pc := 0) 1 dX10_wet_0 rfl rfl ?_
  refine P.i2l (pc := 1) dX10_wet_1 ?_
  refine P.lconst (pc := 2) (v := 0) dX10_wet_2 (by decide) ?_
  refine P.ldc2 (pc := 3) kc_X10_208 dX10_wet_3 ?_
  refine P.S3F (pc := 6) cs_X10_wet_132 dX10_wet_6 rfl rfl (sp_X10_within _ _ _ _) ?_
  refine P.ifneB (pc := 9) 17 dX10_wet_9 (by decide) (fun c9 => ?_) (fun c9 => ?_)
  · obtain ⟨a, -, ha, rfl⟩ := xin_nat 39 (lo := 0) (v := h) (by grind [nT, nW]) (by grind [nT, nW]) (by decide) (by decide)
    have ck := nI_clamp (n := a) (by omega)
    refine P.aload_n (pc := 17) 0 dX10_wet_17 rfl rfl ?_
    refine P.iload_n (pc := 18) 1 dX10_wet_18 rfl rfl ?_
    refine P.V1F (pc := 19) cs_X10_wet_213 dX10_wet_19 rfl rfl rfl (sp_X10_isWet R (by omega)) ?_
    refine P.ifeqB (pc := 22) 29 dX10_wet_22 (by decide) (fun c22 => ?_) (fun c22 => ?_)
    · refine P.iconst (pc := 29) (v := 0) dX10_wet_29 (by decide) ?_
      refine P.iret (pc := 30) dX10_wet_30 rfl ?_
      first | exact pmI (by rw [o_wet, if_neg (by grind [nT]), xwb, ck, bI_t c22]) R frM.rf | exact pmI (by rw [o_wet, if_neg (by grind [nT]), xwb, ck, bI_f c22]) R frM.rf | exact pmI (by rw [o_wet, if_pos (by grind [nW])]) R frM.rf
    · refine P.iconst (pc := 25) (v := 1) dX10_wet_25 (by decide) ?_
      refine P.goto (pc := 26) 30 dX10_wet_26 (by decide) ?_
      refine P.iret (pc := 30) dX10_wet_30 rfl ?_
      first | exact pmI (by rw [o_wet, if_neg (by grind [nT]), xwb, ck, bI_t c22]) R frM.rf | exact pmI (by rw [o_wet, if_neg (by grind [nT]), xwb, ck, bI_f c22]) R frM.rf | exact pmI (by rw [o_wet, if_pos (by grind [nW])]) R frM.rf
  · refine P.bipush (pc := 12) (v := -2) dX10_wet_12 (by decide) ?_
    refine P.goto (pc := 14) 30 dX10_wet_14 (by decide) ?_
    refine P.iret (pc := 30) dX10_wet_30 rfl ?_
    first | exact pmI (by rw [o_wet, if_neg (by grind [nT]), xwb, ck, bI_t c22]) R frM.rf | exact pmI (by rw [o_wet, if_neg (by grind [nT]), xwb, ck, bI_f c22]) R frM.rf | exact pmI (by rw [o_wet, if_pos (by grind [nW])]) R frM.rf
theorem sp_X10_placeOf {n : Nat → Nat} {σ M : xM} (I : Iv n σ) (R : RM n σ M) {s : Nat} (hs : s < n 2) : SpF mX10_placeOf [.ref 46, .int (nI s)] M (xpl σ (xwb σ (σ 22 s)) s) := by
  have a1 := R.1 (65, 26) (by decide)
  have a2 := R.1 (63, 25) (by decide)
  have a3 := R.1 (64, 22) (by decide)
  have b1 : n 2 ≤ 12 := I.2.2.1.1
  dsimp only at a1 a2 a3
  obtain ⟨-, -, q1, q2, -⟩ := I.2.2.1.2.1 s hs
  obtain ⟨t, -, ht, et⟩ := xin_nat 39 (lo := 0) q1 q2 (by decide) (by decide)
  have ew : xwb σ (σ 22 s) = bI (wetP σ t) := by rw [et, xwb_h (by omega)]
  rw [ew]
  refine P.aload_n (pc := 0) 0 dX10_placeOf_0 rfl rfl ?_
  refine P.getR (pc := 1) fl_X10_66 dX10_placeOf_1 rfl rfl ?_
  refine P.iload_n (pc := 4) 1 dX10_placeOf_4 rfl rfl ?_
  refine P.iaN (pc := 5) _ dX10_placeOf_5 rfl rfl rfl (by first | omega | grind [nT]) ?_
  refine P.iconst (pc := 6) (v := -1) dX10_placeOf_6 (by decide) ?_
  refine P.iceq (pc := 7) 17 dX10_placeOf_7 (by decide) (fun c7 => ?_) (fun c7 => ?_)
  · refine P.aload_n (pc := 17) 0 dX10_placeOf_17 rfl rfl ?_
    refine P.aload_n (pc := 18) 0 dX10_placeOf_18 rfl rfl ?_
    refine P.getR (pc := 19) fl_X10_69 dX10_placeOf_19 rfl rfl ?_
    refine P.iload_n (pc := 22) 1 dX10_placeOf_22 rfl rfl ?_
    refine P.iaN (pc := 23) _ dX10_placeOf_23 rfl rfl rfl (by first | omega | grind [nT]) ?_
    rw [a3, et]
    refine P.V1F (pc := 24) cs_X10_placeOf_213 dX10_placeOf_24 rfl rfl rfl (sp_X10_isWet R (by omega)) ?_
    refine P.ifeqB (pc := 27) 39 dX10_placeOf_27 (by decide) (fun c27 => ?_) (fun c27 => ?_)
    · refine P.bipush (pc := 39) (v := 6) dX10_placeOf_39 (by decide) ?_
      refine P.iret (pc := 41) dX10_placeOf_41 rfl ?_
      first | exact ⟨by rw [a1, xpl, if_neg (by rw [← a2]; simpa using c7), if_neg (by rw [bI_0]; simpa using c27)], rfl⟩ | exact ⟨by rw [xpl, if_neg (by rw [← a2]; simpa using c7), if_pos (bI_0.mpr c27)], rfl⟩
    · refine P.aload_n (pc := 30) 0 dX10_placeOf_30 rfl rfl ?_
      refine P.getR (pc := 31) fl_X10_72 dX10_placeOf_31 rfl rfl ?_
      refine P.iload_n (pc := 34) 1 dX10_placeOf_34 rfl rfl ?_
      refine P.iaN (pc := 35) _ dX10_placeOf_35 rfl rfl rfl (by first | omega | grind [nT]) ?_
      refine P.goto (pc := 36) 41 dX10_placeOf_36 (by decide) ?_
      refine P.iret (pc := 41) dX10_placeOf_41 rfl ?_
      first | exact ⟨by rw [a1, xpl, if_neg (by rw [← a2]; simpa using c7), if_neg (by rw [bI_0]; simpa using c27)], rfl⟩ | exact ⟨by rw [xpl, if_neg (by rw [← a2]; simpa using c7), if_pos (bI_0.mpr c27)], rfl⟩
  · refine P.aload_n (pc := 10) 0 dX10_placeOf_10 rfl rfl ?_
    refine P.getR (pc := 11) fl_X10_66 dX10_placeOf_11 rfl rfl ?_
    refine P.iload_n (pc := 14) 1 dX10_placeOf_14 rfl rfl ?_
    refine P.iaN (pc := 15) _ dX10_placeOf_15 rfl rfl rfl (by first | omega | grind [nT]) ?_
    refine P.iret (pc := 16) dX10_placeOf_16 rfl ?_
    exact ⟨by rw [a2, xpl, if_pos (by rw [← a2]; exact c7)], rfl⟩
theorem sp_X10_where {n : Nat → Nat} {σ M : xM} (I : Iv n σ) (R : RM n σ M) (s : Int32) : SpI mX10_where [.ref 46, .int s] M (PM (o_where n σ s) M) := by
  have hc : M 46 22 = nI (n 2) := R.2.2.1 (22, 2) (by decide)
  have b1 : n 2 ≤ 12 := I.2.2.1.1
  refine P.iload_n (pc := 0) 1 dX10_where_0 rfl rfl ?_
  refine P.i2l (pc := 1) dX10_where_1 ?_
  refine P.lconst (pc := 2) (v := 0) dX10_where_2 (by decide) ?_
  refine P.aload_n (pc := 3) 0 dX10_where_3 rfl rfl ?_
  refine P.getI (pc := 4) fl_X10_210 dX10_where_4 rfl rfl ?_
  refine P.iconst (pc := 7) (v := 1) dX10_where_7 (by decide) ?_
  refine P.isub (pc := 8) dX10_where_8 ?_
  refine P.i2l (pc := 9) dX10_where_9 ?_
  refine P.S3F (pc := 10) cs_X10_where_132 dX10_where_10 rfl rfl (sp_X10_withinZ _ _ _) ?_
  rw [hc, ← bI_c (xin_iff (n := n 2) (by omega) s)]
  refine P.ifeqB (pc := 13) 24 dX10_where_13 (by decide) (fun c13 => ?_) (fun c13 => ?_)
  · refine P.bipush (pc := 24) (v := -2) dX10_where_24 (by decide) ?_
    refine P.iret (pc := 26) dX10_where_26 rfl ?_
    first | exact pmI (by rw [o_where, if_pos c13', ck]) R frM.rf | exact pmI (by rw [o_where, if_neg c13]) R frM.rf
  · have c13' := c13
    obtain ⟨a, ha, rfl⟩ := c13
    have ck := nI_clamp (n := a) (by omega)
    refine P.aload_n (pc := 16) 0 dX10_where_16 rfl rfl ?_
    refine P.iload_n (pc := 17) 1 dX10_where_17 rfl rfl ?_
    refine P.V1F (pc := 18) cs_X10_where_216 dX10_where_18 rfl rfl rfl (sp_X10_placeOf I R ha) ?_
    refine P.goto (pc := 21) 26 dX10_where_21 (by decide) ?_
    refine P.iret (pc := 26) dX10_where_26 rfl ?_
    first | exact pmI (by rw [o_where, if_pos c13', ck]) R frM.rf | exact pmI (by rw [o_where, if_neg c13]) R frM.rf
theorem RM.hall {n : Nat → Nat} {σ M : xM} (h : RM n σ M) {a : Nat} (ha : a < 6) (v : Int32) : RM n (xw σ 27 (upd (σ 27) a v)) (xw M 62 (upd (M 62) a v)) := by
  have i1 : ∀ q ∈ xArrM, q.1 ≠ 62 ∧ q.2 ≠ 27 := by decide
  have i2 : ∀ q ∈ xScalM, q.1 ≠ 62 ∧ q.2.2.1 ≠ 27 := by decide
  obtain ⟨h1, h2, h3, h4, h5, h6⟩ := h
  refine ⟨fun q hq => ?_, fun q hq => ?_, fun q hq => ?_, ?_, ?_, ?_⟩
  · rw [xw_ap, xw_ap, if_neg (i1 q hq).1, if_neg (i1 q hq).2]; exact h1 q hq
  · rw [xw_ap, xw_ap, if_neg (i2 q hq).1, if_neg (i2 q hq).2]; exact h2 q hq
  · rw [xw_ap, if_neg (by decide)]; exact h3 q hq
  · intro j hj; rw [xw_ap, xw_ap, if_neg (by decide), if_neg (by decide)]; exact h4 j hj
  · intro j hj; rw [xw_ap, xw_ap, if_pos rfl, if_pos rfl, upd_ap, upd_ap]; split
    · rfl
    · exact h5 j hj
  · intro g hg; rw [xw_ap, xw_ap, xw_ap, xw_ap, if_neg (by decide), if_neg (by decide), if_neg (by decide), if_neg (by decide)]; exact h6 g hg
theorem sp_X10_hall {n : Nat → Nat} {σ M : xM} (I : Iv n σ) (R : RM n σ M) (h r : Int32) : SpI mX10_hall [.ref 46, .int h, .int r] M (PM (o_hall n σ h r) M) := by
  refine P.iload_n (pc := 0) 1 dX10_hall_0 rfl rfl ?_
  refine P.i2l (pc := 1) dX10_hall_1 ?_
  refine P.lconst (pc := 2) (v := 0) dX10_hall_2 (by decide) ?_
  refine P.ldc2 (pc := 3) kc_X10_141 dX10_hall_3 ?_
  refine P.S3F (pc := 6) cs_X10_hall_132 dX10_hall_6 rfl rfl (sp_X10_within _ _ _ _) ?_
  refine P.ifeqB (pc := 9) 24 dX10_hall_9 (by decide) (fun c9 => ?_) (fun c9 => ?_)
  · refine P.bipush (pc := 24) (v := -2) dX10_hall_24 (by decide) ?_
    refine P.iret (pc := 26) dX10_hall_26 rfl ?_
    exact pmI (by grind [o_hall, nW]) R frM.rf
  · refine P.iload_n (pc := 12) 2 dX10_hall_12 rfl rfl ?_
    refine P.i2l (pc := 13) dX10_hall_13 ?_
    refine P.lconst (pc := 14) (v := 0) dX10_hall_14 (by decide) ?_
    refine P.ldc2 (pc := 15) kc_X10_201 dX10_hall_15 ?_
    refine P.S3F (pc := 18) cs_X10_hall_132 dX10_hall_18 rfl rfl (sp_X10_within _ _ _ _) ?_
    refine P.ifneB (pc := 21) 27 dX10_hall_21 (by decide) (fun c21 => ?_) (fun c21 => ?_)
    · obtain ⟨a, -, ha, rfl⟩ := xin_nat 5 (lo := 0) (v := h) (by grind [nT, nW]) (by grind [nT, nW]) (by decide) (by decide)
      have ck := nI_clamp (n := a) (by omega)
      refine P.aload_n (pc := 27) 0 dX10_hall_27 rfl rfl ?_
      refine P.getR (pc := 28) fl_X10_63 dX10_hall_28 rfl rfl ?_
      refine P.iload_n (pc := 31) 1 dX10_hall_31 rfl rfl ?_
      refine P.iaN (pc := 32) _ dX10_hall_32 rfl rfl rfl (by first | omega | grind [nT]) ?_
      refine P.istore_n (pc := 33) 3 dX10_hall_33 rfl (by decide) rfl ?_
      refine P.aload_n (pc := 34) 0 dX10_hall_34 rfl rfl ?_
      refine P.getR (pc := 35) fl_X10_63 dX10_hall_35 rfl rfl ?_
      refine P.iload_n (pc := 38) 1 dX10_hall_38 rfl rfl ?_
      refine P.iload_n (pc := 39) 2 dX10_hall_39 rfl rfl ?_
      refine P.isN (pc := 40) _ dX10_hall_40 rfl rfl rfl (by first | omega | grind [nT]) ?_
      refine P.iload_n (pc := 41) 3 dX10_hall_41 rfl rfl ?_
      refine P.iret (pc := 42) dX10_hall_42 rfl ?_
      exact pmI (by rw [o_hall, if_neg (by grind [nT, nW]), ck, R.2.2.2.2.1 a (by omega)]) (R.hall (by omega) _) (frM.rf.w (by decide) _)
    · refine P.bipush (pc := 24) (v := -2) dX10_hall_24 (by decide) ?_
      refine P.iret (pc := 26) dX10_hall_26 rfl ?_
      exact pmI (by grind [o_hall, nW]) R frM.rf
theorem sp_X10_show {n : Nat → Nat} {σ M : xM} (I : Iv n σ) (R : RM n σ M) (h hr w : Int32) : SpI mX10_show [.ref 46, .int h, .int hr, .int w] M (PM (o_show n σ h hr w) M) := by
  have hc : M 46 22 = nI (n 2) := R.2.2.1 (22, 2) (by decide)
  have a1 := R.1 (63, 25) (by decide)
  have a2 := R.1 (64, 22) (by decide)
  have a3 := R.1 (65, 26) (by decide)
  have b1 : n 2 ≤ 12 := I.2.2.1.1
  dsimp only at a1 a2 a3
  refine P.iload_n (pc := 0) 1 dX10_show_0 rfl rfl ?_
  refine P.i2l (pc := 1) dX10_show_1 ?_
  refine P.ldc2 (pc := 2) kc_X10_149 dX10_show_2 ?_
  refine P.ldc2 (pc := 5) kc_X10_141 dX10_show_5 ?_
  refine P.S3F (pc := 8) cs_X10_show_132 dX10_show_8 rfl rfl (sp_X10_within _ _ _ _) ?_
  refine P.ifeqB (pc := 11) 50 dX10_show_11 (by decide) (fun c11 => ?_) (fun c11 => ?_)
  · refine P.bipush (pc := 50) (v := -2) dX10_show_50 (by decide) ?_
    refine P.iret (pc := 52) dX10_show_52 rfl ?_
    exact pmI (by grind [o_show, nW]) R frM.rf
  · refine P.iload_n (pc := 14) 2 dX10_show_14 rfl rfl ?_
    refine P.i2l (pc := 15) dX10_show_15 ?_
    refine P.lconst (pc := 16) (v := 0) dX10_show_16 (by decide) ?_
    refine P.ldc2 (pc := 17) kc_X10_208 dX10_show_17 ?_
    refine P.S3F (pc := 20) cs_X10_show_132 dX10_show_20 rfl rfl (sp_X10_within _ _ _ _) ?_
    refine P.ifeqB (pc := 23) 50 dX10_show_23 (by decide) (fun c23 => ?_) (fun c23 => ?_)
    · refine P.bipush (pc := 50) (v := -2) dX10_show_50 (by decide) ?_
      refine P.iret (pc := 52) dX10_show_52 rfl ?_
      exact pmI (by grind [o_show, nW]) R frM.rf
    · refine P.iload_n (pc := 26) 3 dX10_show_26 rfl rfl ?_
      refine P.i2l (pc := 27) dX10_show_27 ?_
      refine P.ldc2 (pc := 28) kc_X10_149 dX10_show_28 ?_
      refine P.ldc2 (pc := 31) kc_X10_141 dX10_show_31 ?_
      refine P.S3F (pc := 34) cs_X10_show_132 dX10_show_34 rfl rfl (sp_X10_within _ _ _ _) ?_
      refine P.ifeqB (pc := 37) 50 dX10_show_37 (by decide) (fun c37 => ?_) (fun c37 => ?_)
      · refine P.bipush (pc := 50) (v := -2) dX10_show_50 (by decide) ?_
        refine P.iret (pc := 52) dX10_show_52 rfl ?_
        exact pmI (by grind [o_show, nW]) R frM.rf
      · refine P.iload_n (pc := 40) 1 dX10_show_40 rfl rfl ?_
        refine P.iconst (pc := 41) (v := -1) dX10_show_41 (by decide) ?_
        refine P.iceq (pc := 42) 53 dX10_show_42 (by decide) (fun c42 => ?_) (fun c42 => ?_)
        · refine P.aload_n (pc := 53) 0 dX10_show_53 rfl rfl ?_
          refine P.getI (pc := 54) fl_X10_210 dX10_show_54 rfl rfl ?_
          refine P.bipush (pc := 57) (v := 12) dX10_show_57 (by decide) ?_
          refine P.icne (pc := 59) 65 dX10_show_59 (by decide) (fun c59 => ?_) (fun c59 => ?_)
          · refine P.aload_n (pc := 65) 0 dX10_show_65 rfl rfl ?_
            refine P.getR (pc := 66) fl_X10_66 dX10_show_66 rfl rfl ?_
            refine P.aload_n (pc := 69) 0 dX10_show_69 rfl rfl ?_
            refine P.getI (pc := 70) fl_X10_210 dX10_show_70 rfl rfl ?_
            rw [hc]
            refine P.iload_n (pc := 73) 1 dX10_show_73 rfl rfl ?_
            refine P.isN (pc := 74) _ dX10_show_74 rfl rfl rfl (by first | omega | grind [nT]) ?_
            refine P.aload_n (pc := 75) 0 dX10_show_75 rfl rfl ?_
            refine P.getR (pc := 76) fl_X10_69 dX10_show_76 rfl rfl ?_
            refine P.aload_n (pc := 79) 0 dX10_show_79 rfl rfl ?_
            refine P.getI (pc := 80) fl_X10_210 dX10_show_80 rfl rfl ?_
            simp only [xw_ap, Nat.reduceEqDiff, ↓reduceIte, hc]
            refine P.iload_n (pc := 83) 2 dX10_show_83 rfl rfl ?_
            refine P.isN (pc := 84) _ dX10_show_84 rfl rfl rfl (by first | omega | grind [nT]) ?_
            refine P.aload_n (pc := 85) 0 dX10_show_85 rfl rfl ?_
            refine P.getR (pc := 86) fl_X10_72 dX10_show_86 rfl rfl ?_
            refine P.aload_n (pc := 89) 0 dX10_show_89 rfl rfl ?_
            refine P.getI (pc := 90) fl_X10_210 dX10_show_90 rfl rfl ?_
            simp only [xw_ap, Nat.reduceEqDiff, ↓reduceIte, hc]
            refine P.iload_n (pc := 93) 3 dX10_show_93 rfl rfl ?_
            refine P.isN (pc := 94) _ dX10_show_94 rfl rfl rfl (by first | omega | grind [nT]) ?_
            refine P.aload_n (pc := 95) 0 dX10_show_95 rfl rfl ?_
            refine P.dup (pc := 96) dX10_show_96 rfl ?_
            refine P.getI (pc := 97) fl_X10_210 dX10_show_97 rfl rfl ?_
            simp only [xw_ap, Nat.reduceEqDiff, ↓reduceIte, hc]
            refine P.iconst (pc := 100) (v := 1) dX10_show_100 (by decide) ?_
            refine P.iadd (pc := 101) dX10_show_101 ?_
            refine P.put (pc := 102) fp_X10_210 dX10_show_102 rfl rfl ?_
            refine P.aload_n (pc := 105) 0 dX10_show_105 rfl rfl ?_
            refine P.getI (pc := 106) fl_X10_210 dX10_show_106 rfl rfl ?_
            simp only [xw_ap, upd_ap, Nat.reduceEqDiff, ↓reduceIte, hc]
            refine P.iconst (pc := 109) (v := 1) dX10_show_109 (by decide) ?_
            refine P.isub (pc := 110) dX10_show_110 ?_
            rw [nI_1, nI_pred]
            refine P.iret (pc := 111) dX10_show_111 rfl ?_
            rw [a1, a2, a3]
            exact pmI (by rw [o_show, if_neg (by grind [nW]), if_neg (by grind [nT])]) ((((R.arr (a := 63) (c := 25) (by decide) _).arr (a := 64) (c := 22) (by decide) _).arr (a := 65) (c := 26) (by decide) _).cnt (by decide) _ (fun e => absurd e (by decide))) ((((frM.rf.w (by decide) _).w (by decide) _).w (by decide) _).w (by decide) _)
          · refine P.bipush (pc := 62) (v := -4) dX10_show_62 (by decide) ?_
            refine P.iret (pc := 64) dX10_show_64 rfl ?_
            exact pmI (by grind [o_show, nT, nW]) R frM.rf
        · refine P.iload_n (pc := 45) 3 dX10_show_45 rfl rfl ?_
          refine P.iconst (pc := 46) (v := -1) dX10_show_46 (by decide) ?_
          refine P.iceq (pc := 47) 53 dX10_show_47 (by decide) (fun c47 => ?_) (fun c47 => ?_)
          · refine P.aload_n (pc := 53) 0 dX10_show_53 rfl rfl ?_
            refine P.getI (pc := 54) fl_X10_210 dX10_show_54 rfl rfl ?_
            refine P.bipush (pc := 57) (v := 12) dX10_show_57 (by decide) ?_
            refine P.icne (pc := 59) 65 dX10_show_59 (by decide) (fun c59 => ?_) (fun c59 => ?_)
            · refine P.aload_n (pc := 65) 0 dX10_show_65 rfl rfl ?_
              refine P.getR (pc := 66) fl_X10_66 dX10_show_66 rfl rfl ?_
              refine P.aload_n (pc := 69) 0 dX10_show_69 rfl rfl ?_
              refine P.getI (pc := 70) fl_X10_210 dX10_show_70 rfl rfl ?_
              rw [hc]
              refine P.iload_n (pc := 73) 1 dX10_show_73 rfl rfl ?_
              refine P.isN (pc := 74) _ dX10_show_74 rfl rfl rfl (by first | omega | grind [nT]) ?_
              refine P.aload_n (pc := 75) 0 dX10_show_75 rfl rfl ?_
              refine P.getR (pc := 76) fl_X10_69 dX10_show_76 rfl rfl ?_
              refine P.aload_n (pc := 79) 0 dX10_show_79 rfl rfl ?_
              refine P.getI (pc := 80) fl_X10_210 dX10_show_80 rfl rfl ?_
              simp only [xw_ap, Nat.reduceEqDiff, ↓reduceIte, hc]
              refine P.iload_n (pc := 83) 2 dX10_show_83 rfl rfl ?_
              refine P.isN (pc := 84) _ dX10_show_84 rfl rfl rfl (by first | omega | grind [nT]) ?_
              refine P.aload_n (pc := 85) 0 dX10_show_85 rfl rfl ?_
              refine P.getR (pc := 86) fl_X10_72 dX10_show_86 rfl rfl ?_
              refine P.aload_n (pc := 89) 0 dX10_show_89 rfl rfl ?_
              refine P.getI (pc := 90) fl_X10_210 dX10_show_90 rfl rfl ?_
              simp only [xw_ap, Nat.reduceEqDiff, ↓reduceIte, hc]
              refine P.iload_n (pc := 93) 3 dX10_show_93 rfl rfl ?_
              refine P.isN (pc := 94) _ dX10_show_94 rfl rfl rfl (by first | omega | grind [nT]) ?_
              refine P.aload_n (pc := 95) 0 dX10_show_95 rfl rfl ?_
              refine P.dup (pc := 96) dX10_show_96 rfl ?_
              refine P.getI (pc := 97) fl_X10_210 dX10_show_97 rfl rfl ?_
              simp only [xw_ap, Nat.reduceEqDiff, ↓reduceIte, hc]
              refine P.iconst (pc := 100) (v := 1) dX10_show_100 (by decide) ?_
              refine P.iadd (pc := 101) dX10_show_101 ?_
              refine P.put (pc := 102) fp_X10_210 dX10_show_102 rfl rfl ?_
              refine P.aload_n (pc := 105) 0 dX10_show_105 rfl rfl ?_
              refine P.getI (pc := 106) fl_X10_210 dX10_show_106 rfl rfl ?_
              simp only [xw_ap, upd_ap, Nat.reduceEqDiff, ↓reduceIte, hc]
              refine P.iconst (pc := 109) (v := 1) dX10_show_109 (by decide) ?_
              refine P.isub (pc := 110) dX10_show_110 ?_
              rw [nI_1, nI_pred]
              refine P.iret (pc := 111) dX10_show_111 rfl ?_
              rw [a1, a2, a3]
              exact pmI (by rw [o_show, if_neg (by grind [nW]), if_neg (by grind [nT])]) ((((R.arr (a := 63) (c := 25) (by decide) _).arr (a := 64) (c := 22) (by decide) _).arr (a := 65) (c := 26) (by decide) _).cnt (by decide) _ (fun e => absurd e (by decide))) ((((frM.rf.w (by decide) _).w (by decide) _).w (by decide) _).w (by decide) _)
            · refine P.bipush (pc := 62) (v := -4) dX10_show_62 (by decide) ?_
              refine P.iret (pc := 64) dX10_show_64 rfl ?_
              exact pmI (by grind [o_show, nT, nW]) R frM.rf
          · refine P.bipush (pc := 50) (v := -2) dX10_show_50 (by decide) ?_
            refine P.iret (pc := 52) dX10_show_52 rfl ?_
            exact pmI (by grind [o_show, nW]) R frM.rf
theorem sp_X10_wish {n : Nat → Nat} {σ M : xM} (I : Iv n σ) (R : RM n σ M) (p s : Int32) : SpI mX10_wish [.ref 46, .int p, .int s] M (PM (o_wish n σ p s) M) := by
  have hc : M 46 3 = nI (n 1) := R.2.2.1 (3, 1) (by decide)
  have hc2 : M 46 22 = nI (n 2) := R.2.2.1 (22, 2) (by decide)
  have b1 : n 2 ≤ 12 := I.2.2.1.1
  have b2 : n 1 ≤ 24 := I.1.2.1
  have a1 := R.1 (67, 29) (by decide)
  have a2 := R.1 (66, 30) (by decide)
  dsimp only at a1 a2
  have lp : ∀ (p w : Nat) (hp : p < n 1) (hs : xin (n 2) s) (hw : w ≤ 6) (ew : σ 30 p = nI w) (k i : Nat) (x : Int32), i + k = w → x = nI i → (∀ z, z < i → ¬ σ 29 (6 * p + z) = s) → P mX10_wish 29 [some (.ref 46), some (.int (nI p)), some (.int s), some (.int x)] [] M (fun r M' => ∃ v, r = some (.int v) ∧ PM (o_wish n σ (nI p) s) M v M') := by
    intro p w hp hs hw ew k
    have ck := nI_clamp (n := p) (by omega)
    have ck2 : (σ 30 p).toNatClampNeg = w := by rw [ew]; exact nI_clamp (by omega)
    have xp : xin (n 1) (nI p) := ⟨p, hp, rfl⟩
    have em : M 66 p = nI w := by rw [a2, ew]
    induction k with
    | zero =>
      intro i x hi hx hr
      subst hx
      have nw : ¬ xwsh σ p w s := fun ⟨z, q1, q2⟩ => hr z (by omega) q2
      refine P.iload_n (pc := 29) 3 dX10_wish_29 rfl rfl ?_
      refine P.aload_n (pc := 30) 0 dX10_wish_30 rfl rfl ?_
      refine P.getR (pc := 31) fl_X10_75 dX10_wish_31 rfl rfl ?_
      refine P.iload_n (pc := 34) 1 dX10_wish_34 rfl rfl ?_
      refine P.iaN (pc := 35) _ dX10_wish_35 rfl rfl rfl (by first | omega | grind [nT]) ?_
      refine P.icge (pc := 36) 63 dX10_wish_36 (by decide) (fun c36 => ?_) (fun c36 => ?_)
      · refine P.aload_n (pc := 63) 0 dX10_wish_63 rfl rfl ?_
        refine P.getR (pc := 64) fl_X10_75 dX10_wish_64 rfl rfl ?_
        refine P.iload_n (pc := 67) 1 dX10_wish_67 rfl rfl ?_
        refine P.iaN (pc := 68) _ dX10_wish_68 rfl rfl rfl (by first | omega | grind [nT]) ?_
        refine P.bipush (pc := 69) (v := 6) dX10_wish_69 (by decide) ?_
        refine P.icne (pc := 71) 77 dX10_wish_71 (by decide) (fun c71 => ?_) (fun c71 => ?_)
        · refine P.aload_n (pc := 77) 0 dX10_wish_77 rfl rfl ?_
          refine P.getR (pc := 78) fl_X10_78 dX10_wish_78 rfl rfl ?_
          refine P.bipush (pc := 81) (v := 6) dX10_wish_81 (by decide) ?_
          refine P.iload_n (pc := 83) 1 dX10_wish_83 rfl rfl ?_
          refine P.imul (pc := 84) dX10_wish_84 ?_
          refine P.aload_n (pc := 85) 0 dX10_wish_85 rfl rfl ?_
          refine P.getR (pc := 86) fl_X10_75 dX10_wish_86 rfl rfl ?_
          refine P.iload_n (pc := 89) 1 dX10_wish_89 rfl rfl ?_
          refine P.iaN (pc := 90) _ dX10_wish_90 rfl rfl rfl (by first | omega | grind [nT]) ?_
          rw [em]
          refine P.iadd (pc := 91) dX10_wish_91 ?_
          refine P.iload_n (pc := 92) 2 dX10_wish_92 rfl rfl ?_
          refine P.isN (pc := 93) (6 * p + w) dX10_wish_93 rfl rfl (by rw [nlit, pk_mul, nI_add]) (by first | omega | grind [nT]) ?_
          refine P.aload_n (pc := 94) 0 dX10_wish_94 rfl rfl ?_
          refine P.getR (pc := 95) fl_X10_75 dX10_wish_95 rfl rfl ?_
          refine P.iload_n (pc := 98) 1 dX10_wish_98 rfl rfl ?_
          refine P.dup2 (pc := 99) dX10_wish_99 rfl rfl ?_
          refine P.iaN (pc := 100) _ dX10_wish_100 rfl rfl rfl (by first | omega | grind [nT]) ?_
          simp only [xw_ap, Nat.reduceEqDiff, ↓reduceIte, em]
          refine P.iconst (pc := 101) (v := 1) dX10_wish_101 (by decide) ?_
          refine P.iadd (pc := 102) dX10_wish_102 ?_
          refine P.isN (pc := 103) _ dX10_wish_103 rfl rfl rfl (by first | omega | grind [nT]) ?_
          refine P.aload_n (pc := 104) 0 dX10_wish_104 rfl rfl ?_
          refine P.getR (pc := 105) fl_X10_75 dX10_wish_105 rfl rfl ?_
          refine P.iload_n (pc := 108) 1 dX10_wish_108 rfl rfl ?_
          refine P.iaN (pc := 109) _ dX10_wish_109 rfl rfl rfl (by first | omega | grind [nT]) ?_
          simp only [xw_ap, upd_ap, Nat.reduceEqDiff, ↓reduceIte, em]
          refine P.iret (pc := 110) dX10_wish_110 rfl ?_
          rw [a1, a2]
          exact pmI (by rw [o_wish, ck, ck2, if_neg (fun q => q.elim (fun z => z ⟨xp, hs⟩) nw), if_neg (by grind [nT]), ew]) ((R.arr (a := 67) (c := 29) (by decide) _).arr (a := 66) (c := 30) (by decide) _) ((frM.rf.w (by decide) _).w (by decide) _)
        · refine P.bipush (pc := 74) (v := -4) dX10_wish_74 (by decide) ?_
          refine P.iret (pc := 76) dX10_wish_76 rfl ?_
          exact pmI (by rw [o_wish, ck, ck2, if_neg (fun q => q.elim (fun z => z ⟨xp, hs⟩) nw), if_pos (by grind [nT])]) R frM.rf
      · exact absurd (show M 66 p ≤ nI i by grind [nT]) c36--.
    | succ k ih =>
      intro i x hi hx hr
      subst hx
      refine P.iload_n (pc := 29) 3 dX10_wish_29 rfl rfl ?_
      refine P.aload_n (pc := 30) 0 dX10_wish_30 rfl rfl ?_
      refine P.getR (pc := 31) fl_X10_75 dX10_wish_31 rfl rfl ?_
      refine P.iload_n (pc := 34) 1 dX10_wish_34 rfl rfl ?_
      refine P.iaN (pc := 35) _ dX10_wish_35 rfl rfl rfl (by first | omega | grind [nT]) ?_
      refine P.icge (pc := 36) 63 dX10_wish_36 (by decide) (fun c36 => ?_) (fun c36 => ?_)
      · exact absurd c36 (by grind [nT])--.
      · refine P.aload_n (pc := 39) 0 dX10_wish_39 rfl rfl ?_
        refine P.getR (pc := 40) fl_X10_78 dX10_wish_40 rfl rfl ?_
        refine P.bipush (pc := 43) (v := 6) dX10_wish_43 (by decide) ?_
        refine P.iload_n (pc := 45) 1 dX10_wish_45 rfl rfl ?_
        refine P.imul (pc := 46) dX10_wish_46 ?_
        refine P.iload_n (pc := 47) 3 dX10_wish_47 rfl rfl ?_
        refine P.iadd (pc := 48) dX10_wish_48 ?_
        refine P.iaN (pc := 49) (6 * p + i) dX10_wish_49 rfl rfl (by rw [nlit, pk_mul, nI_add]) (by first | omega | grind [nT]) ?_
        refine P.iload_n (pc := 50) 2 dX10_wish_50 rfl rfl ?_
        refine P.icne (pc := 51) 57 dX10_wish_51 (by decide) (fun c51 => ?_) (fun c51 => ?_)
        · refine P.iinc (pc := 57) 3 1 dX10_wish_57 rfl (by decide) (by decide) rfl ?_
          refine P.goto (pc := 60) 29 dX10_wish_60 (by decide) ?_
          exact ih (i + 1) _ (by omega) (nI_1 i) (fun z q1 => by
            by_cases e : z = i
            · rw [e, ← a1]; exact c51
            · exact hr z (by omega))
        · refine P.bipush (pc := 54) (v := -2) dX10_wish_54 (by decide) ?_
          refine P.iret (pc := 56) dX10_wish_56 rfl ?_
          exact pmI (by rw [o_wish, ck, ck2, if_pos (Or.inr ⟨i, by omega, by rw [← a1]; exact c51⟩)]) R frM.rf
  refine P.aload_n (pc := 0) 0 dX10_wish_0 rfl rfl ?_
  refine P.iload_n (pc := 1) 1 dX10_wish_1 rfl rfl ?_
  refine P.V1F (pc := 2) cs_X10_wish_151 dX10_wish_2 rfl rfl rfl (sp_X10_isParty hc b2 _) ?_
  refine P.ifeqB (pc := 5) 24 dX10_wish_5 (by decide) (fun c5 => ?_) (fun c5 => ?_)
  · refine P.bipush (pc := 24) (v := -2) dX10_wish_24 (by decide) ?_
    refine P.iret (pc := 26) dX10_wish_26 rfl ?_
    exact pmI (by rw [o_wish, if_pos (Or.inl (by grind))]) R frM.rf
  · refine P.iload_n (pc := 8) 2 dX10_wish_8 rfl rfl ?_
    refine P.i2l (pc := 9) dX10_wish_9 ?_
    refine P.lconst (pc := 10) (v := 0) dX10_wish_10 (by decide) ?_
    refine P.aload_n (pc := 11) 0 dX10_wish_11 rfl rfl ?_
    refine P.getI (pc := 12) fl_X10_210 dX10_wish_12 rfl rfl ?_
    refine P.iconst (pc := 15) (v := 1) dX10_wish_15 (by decide) ?_
    refine P.isub (pc := 16) dX10_wish_16 ?_
    refine P.i2l (pc := 17) dX10_wish_17 ?_
    refine P.S3F (pc := 18) cs_X10_wish_132 dX10_wish_18 rfl rfl (sp_X10_withinZ _ _ _) ?_
    rw [hc2, ← bI_c (xin_iff (n := n 2) (by omega) s)]
    refine P.ifneB (pc := 21) 27 dX10_wish_21 (by decide) (fun c21 => ?_) (fun c21 => ?_)
    · obtain ⟨a, ha, rfl⟩ := c5
      obtain ⟨w, hw, ew, hk⟩ := I.2.2.1.2.2.2.2 a (by omega)
      refine P.iconst (pc := 27) (v := 0) dX10_wish_27 (by decide) ?_
      refine P.istore_n (pc := 28) 3 dX10_wish_28 rfl (by decide) rfl ?_
      exact lp a w ha c21 hw ew w 0 _ (by omega) rfl (fun z q1 => by omega)
    · refine P.bipush (pc := 24) (v := -2) dX10_wish_24 (by decide) ?_
      refine P.iret (pc := 26) dX10_wish_26 rfl ?_
      exact pmI (by rw [o_wish, if_pos (Or.inl (by grind))]) R frM.rf
theorem sp_X10_isThere {n : Nat → Nat} {σ M : xM} (I : Iv n σ) (R : RM n σ M) {p : Nat} (hp : p < n 1) (w : Int32) : SpF mX10_isThere [.ref 46, .int (nI p), .int w] M (bI (xthere σ w p)) := by
  have b2 : n 1 ≤ 24 := I.1.2.1
  have a1 := R.1 (51, 8) (by decide)
  have a2 := R.1 (52, 9) (by decide)
  have a3 := R.2.2.2.1 p hp
  dsimp only at a1 a2
  refine P.aload_n (pc := 0) 0 dX10_isThere_0 rfl rfl ?_
  refine P.getR (pc := 1) fl_X10_31 dX10_isThere_1 rfl rfl ?_
  refine P.iload_n (pc := 4) 1 dX10_isThere_4 rfl rfl ?_
  refine P.iaN (pc := 5) _ dX10_isThere_5 rfl rfl rfl (by first | omega | grind [nT]) ?_
  refine P.iconst (pc := 6) (v := -1) dX10_isThere_6 (by decide) ?_
  refine P.iceq (pc := 7) 36 dX10_isThere_7 (by decide) (fun c7 => ?_) (fun c7 => ?_)
  · refine P.iconst (pc := 36) (v := 0) dX10_isThere_36 (by decide) ?_
    refine P.zret (pc := 37) dX10_isThere_37 rfl (by decide) ?_
    first | exact xt ⟨by grind, by grind, by grind⟩ | exact xf (by unfold xthere; grind)
  · refine P.iload_n (pc := 10) 2 dX10_isThere_10 rfl rfl ?_
    refine P.i2l (pc := 11) dX10_isThere_11 ?_
    refine P.aload_n (pc := 12) 0 dX10_isThere_12 rfl rfl ?_
    refine P.getR (pc := 13) fl_X10_22 dX10_isThere_13 rfl rfl ?_
    refine P.iload_n (pc := 16) 1 dX10_isThere_16 rfl rfl ?_
    refine P.iaN (pc := 17) _ dX10_isThere_17 rfl rfl rfl (by first | omega | grind [nT]) ?_
    refine P.i2l (pc := 18) dX10_isThere_18 ?_
    refine P.aload_n (pc := 19) 0 dX10_isThere_19 rfl rfl ?_
    refine P.getR (pc := 20) fl_X10_25 dX10_isThere_20 rfl rfl ?_
    refine P.iload_n (pc := 23) 1 dX10_isThere_23 rfl rfl ?_
    refine P.iaN (pc := 24) _ dX10_isThere_24 rfl rfl rfl (by first | omega | grind [nT]) ?_
    refine P.i2l (pc := 25) dX10_isThere_25 ?_
    refine P.S3F (pc := 26) cs_X10_isThere_132 dX10_isThere_26 rfl rfl (sp_X10_withinL _ _ _ _) ?_
    refine P.ifeqB (pc := 29) 36 dX10_isThere_29 (by decide) (fun c29 => ?_) (fun c29 => ?_)
    · refine P.iconst (pc := 36) (v := 0) dX10_isThere_36 (by decide) ?_
      refine P.zret (pc := 37) dX10_isThere_37 rfl (by decide) ?_
      first | exact xt ⟨by grind, by grind, by grind⟩ | exact xf (by unfold xthere; grind)
    · refine P.iconst (pc := 32) (v := 1) dX10_isThere_32 (by decide) ?_
      refine P.goto (pc := 33) 37 dX10_isThere_33 (by decide) ?_
      refine P.zret (pc := 37) dX10_isThere_37 rfl (by decide) ?_
      first | exact xt ⟨by grind, by grind, by grind⟩ | exact xf (by unfold xthere; grind)
theorem RM.same {n : Nat → Nat} {σ M M' : xM} (h : RM n σ M) (f : k3 68 69 70 M M') : RM n σ M' := by
  have i1 : ∀ q ∈ xArrM, q.1 ≠ 68 ∧ q.1 ≠ 69 ∧ q.1 ≠ 70 := by decide
  have i2 : ∀ q ∈ xScalM, q.1 ≠ 68 ∧ q.1 ≠ 69 ∧ q.1 ≠ 70 := by decide
  obtain ⟨h1, h2, h3, h4, h5, h6⟩ := h
  refine ⟨fun q hq => ?_, fun q hq => ?_, fun q hq => ?_, ?_, ?_, ?_⟩
  · rw [f q.1 (i1 q hq).1 (i1 q hq).2.1 (i1 q hq).2.2]; exact h1 q hq
  · rw [f q.1 (i2 q hq).1 (i2 q hq).2.1 (i2 q hq).2.2]; exact h2 q hq
  · rw [f 46 (by decide) (by decide) (by decide)]; exact h3 q hq
  · intro j hj; rw [f 54 (by decide) (by decide) (by decide)]; exact h4 j hj
  · intro j hj; rw [f 62 (by decide) (by decide) (by decide)]; exact h5 j hj
  · intro g hg; rw [f 71 (by decide) (by decide) (by decide), f 72 (by decide) (by decide) (by decide)]; exact h6 g hg
theorem k3.frM {M M' : xM} (f : k3 68 69 70 M M') : frM M M' := fun q hq => f q (by omega) (by omega) (by omega)
theorem sp_X10_findCrowds {n : Nat → Nat} {σ M : xM} (I : Iv n σ) (R : RM n σ M) (week : Int32) {h : Nat} (hh : h < 40) : SpV mX10_findCrowds [.ref 46, .int week, .int (nI h)] M (fun M' => k3 68 69 70 M M' ∧ ∀ j, j < n 1 → M' 69 j = xgo σ (xwb σ (nI h)) week (nI h) j ∧ M' 70 j = xaw σ (xwb σ (nI h)) week (nI h) j) := by
  have b1 : n 2 ≤ 12 := I.2.2.1.1
  have b2 : n 1 ≤ 24 := I.1.2.1
  generalize hb : xwb σ (nI h) = b
  -- the parties
  have lp : ∀ (k i : Nat) (x : Int32) (M1 : xM) (o4 o5 o6 : Option Value), i + k = n 1 → x = nI i → k3 68 69 70 M M1 → (∀ j, j < i → M1 69 j = xgo σ b week (nI h) j ∧ M1 70 j = xaw σ b week (nI h) j) → (∀ j, j < 7 → M1 68 j = xlf σ b week (nI h) i j) →
      P mX10_findCrowds 40 [some (.ref 46), some (.int week), some (.int (nI h)), some (.int x), o4, o5, o6] [] M1 (fun r M' => r = none ∧ (k3 68 69 70 M M' ∧ ∀ j, j < n 1 → M' 69 j = xgo σ b week (nI h) j ∧ M' 70 j = xaw σ b week (nI h) j)) := by
    intro k
    induction k with
    | zero =>
      intro i x M1 o4 o5 o6 hi hx hf hr hl
      subst hx
      have R1 := R.same hf
      have em : M1 46 3 = nI (n 1) := R1.2.2.1 (3, 1) (by decide)
      refine P.iload_n (pc := 40) 3 dX10_findCrowds_40 rfl rfl ?_
      refine P.aload_n (pc := 41) 0 dX10_findCrowds_41 rfl rfl ?_
      refine P.getI (pc := 42) fl_X10_136 dX10_findCrowds_42 rfl rfl ?_
      refine P.icge (pc := 45) 199 dX10_findCrowds_45 (by decide) (fun c45 => ?_) (fun c45 => ?_)
      · refine P.vret (pc := 199) dX10_findCrowds_199 rfl ?_
        exact ⟨rfl, hf, fun j hj => hr j (by omega)⟩
      · exact absurd (show M1 46 3 ≤ nI i by grind [nT]) c45--.
    | succ k ih =>
      intro i x M1 o4 o5 o6 hi hx hf hr hl
      subst hx
      have R1 := R.same hf
      have em : M1 46 3 = nI (n 1) := R1.2.2.1 (3, 1) (by decide)
      obtain ⟨w, hw, ew, hk⟩ := I.2.2.1.2.2.2.2 i (by omega)
      have ck2 : (σ 30 i).toNatClampNeg = w := by rw [ew]; exact nI_clamp (by omega)
      -- the end of a party
      have fin : ∀ (M2 : xM) (o4 o5 o6 : Option Value), k3 68 69 70 M M2 → (∀ j, j ≠ i → M2 69 j = M1 69 j ∧ M2 70 j = M1 70 j) → M2 69 i = xgo σ b week (nI h) i → M2 70 i = xaw σ b week (nI h) i → (∀ j, j < 7 → M2 68 j = xlf σ b week (nI h) (i + 1) j) →
          P mX10_findCrowds 193 [some (.ref 46), some (.int week), some (.int (nI h)), some (.int (nI i)), o4, o5, o6] [] M2 (fun r M' => r = none ∧ (k3 68 69 70 M M' ∧ ∀ j, j < n 1 → M' 69 j = xgo σ b week (nI h) j ∧ M' 70 j = xaw σ b week (nI h) j)) := by
        intro M2 o4 o5 o6 f2 ho h1 h2 h3
        refine P.iinc (pc := 193) 3 1 dX10_findCrowds_193 rfl (by decide) (by decide) rfl ?_
        refine P.goto (pc := 196) 40 dX10_findCrowds_196 (by decide) ?_
        exact ih (i + 1) _ _ _ _ _ (by omega) (nI_1 i) f2 (fun j hj => by
          by_cases e : j = i
          · subst e; exact ⟨h1, h2⟩
          · rw [(ho j e).1, (ho j e).2]; exact hr j (by omega)) h3
      have gone : ∀ (z : Nat) (x : Int32) (M2 : xM) (o5 o6 : Option Value), z ≤ w → x = nI z → k3 68 69 70 M M2 → (∀ j, j ≠ i → M2 69 j = M1 69 j ∧ M2 70 j = M1 70 j) → M2 69 i = xgo σ b week (nI h) i → ¬ M2 69 i = -1 → M2 70 i = xaw σ b week (nI h) i → (∀ j, j < 7 → M2 68 j = xlf σ b week (nI h) (i + 1) j) →
          P mX10_findCrowds 65 [some (.ref 46), some (.int week), some (.int (nI h)), some (.int (nI i)), some (.int x), o5, o6] [] M2 (fun r M' => r = none ∧ (k3 68 69 70 M M' ∧ ∀ j, j < n 1 → M' 69 j = xgo σ b week (nI h) j ∧ M' 70 j = xaw σ b week (nI h) j)) := by
        intro z x M2 o5 o6 hz hx hf ho h1 h2 h3 h4
        subst hx
        have R2 := R.same hf
        refine P.iload (pc := 65) 4 dX10_findCrowds_65 rfl ?_
        refine P.aload_n (pc := 67) 0 dX10_findCrowds_67 rfl rfl ?_
        refine P.getR (pc := 68) fl_X10_75 dX10_findCrowds_68 rfl rfl ?_
        refine P.iload_n (pc := 71) 3 dX10_findCrowds_71 rfl rfl ?_
        refine P.iaN (pc := 72) _ dX10_findCrowds_72 rfl rfl rfl (by first | omega | grind [nT]) ?_
        refine P.icge (pc := 73) 193 dX10_findCrowds_73 (by decide) (fun c73 => ?_) (fun c73 => ?_)
        · exact fin _ _ _ _ hf ho h1 h3 h4
        · refine P.aload_n (pc := 76) 0 dX10_findCrowds_76 rfl rfl ?_
          refine P.iload_n (pc := 77) 3 dX10_findCrowds_77 rfl rfl ?_
          refine P.iload_n (pc := 78) 1 dX10_findCrowds_78 rfl rfl ?_
          refine P.V2F (pc := 79) cs_X10_findCrowds_174 dX10_findCrowds_79 rfl rfl rfl (sp_X10_isThere I R2 (p := i) (by omega) _) ?_
          refine P.ifeqB (pc := 82) 193 dX10_findCrowds_82 (by decide) (fun c82 => ?_) (fun c82 => ?_)
          · exact fin _ _ _ _ hf ho h1 h3 h4
          · refine P.aload_n (pc := 85) 0 dX10_findCrowds_85 rfl rfl ?_
            refine P.getR (pc := 86) fl_X10_84 dX10_findCrowds_86 rfl rfl ?_
            refine P.iload_n (pc := 89) 3 dX10_findCrowds_89 rfl rfl ?_
            refine P.iaN (pc := 90) _ dX10_findCrowds_90 rfl rfl rfl (by first | omega | grind [nT]) ?_
            refine P.iconst (pc := 91) (v := -1) dX10_findCrowds_91 (by decide) ?_
            refine P.icne (pc := 92) 193 dX10_findCrowds_92 (by decide) (fun c92 => ?_) (fun c92 => ?_)
            · exact fin _ _ _ _ hf ho h1 h3 h4
            · exact absurd c92 h2--.
      have lq : ∀ (th : xthere σ week i) (k z : Nat) (x : Int32) (M2 : xM) (aw : Int32) (o5 o6 : Option Value), z + k = w → x = nI z → k3 68 69 70 M M2 → (∀ j, j ≠ i → M2 69 j = M1 69 j ∧ M2 70 j = M1 70 j) → M2 69 i = -1 → M2 70 i = aw → (∀ j, j < 7 → M2 68 j = xlf σ b week (nI h) i j) → xsnd σ b (nI h) (σ 6 i) i k z (xlf σ b week (nI h) i) aw = xres σ b week (nI h) i (xlf σ b week (nI h) i) →
          P mX10_findCrowds 65 [some (.ref 46), some (.int week), some (.int (nI h)), some (.int (nI i)), some (.int x), o5, o6] [] M2 (fun r M' => r = none ∧ (k3 68 69 70 M M' ∧ ∀ j, j < n 1 → M' 69 j = xgo σ b week (nI h) j ∧ M' 70 j = xaw σ b week (nI h) j)) := by
        intro th k
        induction k with
        | zero =>
          intro z x M2 aw o5 o6 hz hx hf ho h1 h2 h3 hres
          subst hx
          have R2 := R.same hf
          have e30 : M2 66 i = nI w := by rw [R2.1 (66, 30) (by decide), ew]
          rw [xsnd] at hres
          refine P.iload (pc := 65) 4 dX10_findCrowds_65 rfl ?_
          refine P.aload_n (pc := 67) 0 dX10_findCrowds_67 rfl rfl ?_
          refine P.getR (pc := 68) fl_X10_75 dX10_findCrowds_68 rfl rfl ?_
          refine P.iload_n (pc := 71) 3 dX10_findCrowds_71 rfl rfl ?_
          refine P.iaN (pc := 72) _ dX10_findCrowds_72 rfl rfl rfl (by first | omega | grind [nT]) ?_
          refine P.icge (pc := 73) 193 dX10_findCrowds_73 (by decide) (fun c73 => ?_) (fun c73 => ?_)
          · exact fin _ _ _ _ hf ho (by rw [xgo, ← hres, h1]) (by rw [xaw, ← hres, h2]) (fun j hj => by rw [xlf, ← hres]; exact h3 j hj)
          · exact absurd (show M2 66 i ≤ nI z by grind [nT]) c73--.
        | succ k ihk =>
          intro z x M2 aw o5 o6 hz hx hf ho h1 h2 h3 hres
          subst hx
          have R2 := R.same hf
          have e30 : M2 66 i = nI w := by rw [R2.1 (66, 30) (by decide), ew]
          obtain ⟨s, hs, es⟩ := hk z (by omega)
          have e29 : M2 67 (6 * i + z) = nI s := by rw [R2.1 (67, 29) (by decide), es]
          have e22 : M2 64 s = σ 22 s := by rw [R2.1 (64, 22) (by decide)]
          have e6 : M2 49 i = σ 6 i := by rw [R2.1 (49, 6) (by decide)]
          have cs := nI_clamp (n := s) (by omega)
          rw [xsnd, es, cs] at hres
          refine P.iload (pc := 65) 4 dX10_findCrowds_65 rfl ?_
          refine P.aload_n (pc := 67) 0 dX10_findCrowds_67 rfl rfl ?_
          refine P.getR (pc := 68) fl_X10_75 dX10_findCrowds_68 rfl rfl ?_
          refine P.iload_n (pc := 71) 3 dX10_findCrowds_71 rfl rfl ?_
          refine P.iaN (pc := 72) _ dX10_findCrowds_72 rfl rfl rfl (by first | omega | grind [nT]) ?_
          refine P.icge (pc := 73) 193 dX10_findCrowds_73 (by decide) (fun c73 => ?_) (fun c73 => ?_)
          · exact absurd c73 (by grind [nT])--.
          · refine P.aload_n (pc := 76) 0 dX10_findCrowds_76 rfl rfl ?_
            refine P.iload_n (pc := 77) 3 dX10_findCrowds_77 rfl rfl ?_
            refine P.iload_n (pc := 78) 1 dX10_findCrowds_78 rfl rfl ?_
            refine P.V2F (pc := 79) cs_X10_findCrowds_174 dX10_findCrowds_79 rfl rfl rfl (sp_X10_isThere I R2 (p := i) (by omega) _) ?_
            refine P.ifeqB (pc := 82) 193 dX10_findCrowds_82 (by decide) (fun c82 => ?_) (fun c82 => ?_)
            · exact absurd th c82--.
            · refine P.aload_n (pc := 85) 0 dX10_findCrowds_85 rfl rfl ?_
              refine P.getR (pc := 86) fl_X10_84 dX10_findCrowds_86 rfl rfl ?_
              refine P.iload_n (pc := 89) 3 dX10_findCrowds_89 rfl rfl ?_
              refine P.iaN (pc := 90) _ dX10_findCrowds_90 rfl rfl rfl (by first | omega | grind [nT]) ?_
              refine P.iconst (pc := 91) (v := -1) dX10_findCrowds_91 (by decide) ?_
              refine P.icne (pc := 92) 193 dX10_findCrowds_92 (by decide) (fun c92 => ?_) (fun c92 => ?_)
              · exact absurd h1 c92--.
              · refine P.aload_n (pc := 95) 0 dX10_findCrowds_95 rfl rfl ?_
                refine P.getR (pc := 96) fl_X10_78 dX10_findCrowds_96 rfl rfl ?_
                refine P.bipush (pc := 99) (v := 6) dX10_findCrowds_99 (by decide) ?_
                refine P.iload_n (pc := 101) 3 dX10_findCrowds_101 rfl rfl ?_
                refine P.imul (pc := 102) dX10_findCrowds_102 ?_
                refine P.iload (pc := 103) 4 dX10_findCrowds_103 rfl ?_
                refine P.iadd (pc := 105) dX10_findCrowds_105 ?_
                refine P.iaN (pc := 106) (6 * i + z) dX10_findCrowds_106 rfl rfl (by rw [nlit, pk_mul, nI_add]) (by first | omega | grind [nT]) ?_
                rw [e29]
                refine P.istore (pc := 107) 5 dX10_findCrowds_107 (by decide) rfl ?_
                refine P.aload_n (pc := 109) 0 dX10_findCrowds_109 rfl rfl ?_
                refine P.iload (pc := 110) 5 dX10_findCrowds_110 rfl ?_
                refine P.V1F (pc := 112) cs_X10_findCrowds_216 dX10_findCrowds_112 rfl rfl rfl (sp_X10_placeOf I R2 hs) ?_
                refine P.istore (pc := 115) 6 dX10_findCrowds_115 (by decide) rfl ?_
                refine P.aload_n (pc := 117) 0 dX10_findCrowds_117 rfl rfl ?_
                refine P.getR (pc := 118) fl_X10_69 dX10_findCrowds_118 rfl rfl ?_
                refine P.iload (pc := 121) 5 dX10_findCrowds_121 rfl ?_
                refine P.iaN (pc := 123) _ dX10_findCrowds_123 rfl rfl rfl (by first | omega | grind [nT]) ?_
                refine P.iload_n (pc := 124) 2 dX10_findCrowds_124 rfl rfl ?_
                refine P.icne (pc := 125) 187 dX10_findCrowds_125 (by decide) (fun c125 => ?_) (fun c125 => ?_)
                · refine P.iinc (pc := 187) 4 1 dX10_findCrowds_187 rfl (by decide) (by decide) rfl ?_
                  refine P.goto (pc := 190) 65 dX10_findCrowds_190 (by decide) ?_
                  first
                  | exact ihk (z + 1) _ _ aw _ _ (by omega) (nI_1 z) hf ho h1 h2 h3 (by rw [← hres, if_neg (by rw [← e22]; exact fun q => c125 q.1)])
                  | exact ihk (z + 1) _ _ aw _ _ (by omega) (nI_1 z) hf ho h1 h2 h3 (by rw [← hres, if_neg (fun q => q.2 (by rw [← hb, ← c125, e22]; exact c131))])
                  | exact ihk (z + 1) _ _ (aw + 1) _ _ (by omega) (nI_1 z) (hf.w (Or.inr (Or.inr rfl)) _) (fun j hj => by
                      simp only [xw_ap, upd_ap, Nat.reduceEqDiff, ↓reduceIte, if_neg hj]; exact ho j hj) (by
                      simp only [xw_ap, upd_ap, Nat.reduceEqDiff, ↓reduceIte]; exact h1) (by
                      simp only [xw_ap, upd_ap, Nat.reduceEqDiff, ↓reduceIte]; rw [h2]) (fun j hj => by
                      simp only [xw_ap, upd_ap, Nat.reduceEqDiff, ↓reduceIte]; exact h3 j hj) hres
                  | exact gone (z + 1) _ _ _ _ (by omega) (nI_1 z) ((hf.w (Or.inl rfl) _).w (Or.inr (Or.inl rfl)) _) (fun j hj => by
                      simp only [xw_ap, upd_ap, Nat.reduceEqDiff, ↓reduceIte, if_neg hj]; exact ho j hj) (by
                      rw [xgo, ← hres]; simp only [xw_ap, upd_ap, Nat.reduceEqDiff, ↓reduceIte]) (by
                      simp only [xw_ap, upd_ap, Nat.reduceEqDiff, ↓reduceIte]; grind [nT]) (by
                      rw [xaw, ← hres]; simp only [xw_ap, upd_ap, Nat.reduceEqDiff, ↓reduceIte]; exact h2) (fun j hj => by
                      rw [xlf, ← hres]; simp only [xw_ap, upd_ap, Nat.reduceEqDiff, ↓reduceIte]
                      split
                      · rw [z3]
                      · exact h3 j hj)
                · refine P.iload (pc := 128) 6 dX10_findCrowds_128 rfl ?_
                  refine P.iconst (pc := 130) (v := -1) dX10_findCrowds_130 (by decide) ?_
                  refine P.iceq (pc := 131) 187 dX10_findCrowds_131 (by decide) (fun c131 => ?_) (fun c131 => ?_)
                  · refine P.iinc (pc := 187) 4 1 dX10_findCrowds_187 rfl (by decide) (by decide) rfl ?_
                    refine P.goto (pc := 190) 65 dX10_findCrowds_190 (by decide) ?_
                    first
                    | exact ihk (z + 1) _ _ aw _ _ (by omega) (nI_1 z) hf ho h1 h2 h3 (by rw [← hres, if_neg (by rw [← e22]; exact fun q => c125 q.1)])
                    | exact ihk (z + 1) _ _ aw _ _ (by omega) (nI_1 z) hf ho h1 h2 h3 (by rw [← hres, if_neg (fun q => q.2 (by rw [← hb, ← c125, e22]; exact c131))])
                    | exact ihk (z + 1) _ _ (aw + 1) _ _ (by omega) (nI_1 z) (hf.w (Or.inr (Or.inr rfl)) _) (fun j hj => by
                        simp only [xw_ap, upd_ap, Nat.reduceEqDiff, ↓reduceIte, if_neg hj]; exact ho j hj) (by
                        simp only [xw_ap, upd_ap, Nat.reduceEqDiff, ↓reduceIte]; exact h1) (by
                        simp only [xw_ap, upd_ap, Nat.reduceEqDiff, ↓reduceIte]; rw [h2]) (fun j hj => by
                        simp only [xw_ap, upd_ap, Nat.reduceEqDiff, ↓reduceIte]; exact h3 j hj) hres
                    | exact gone (z + 1) _ _ _ _ (by omega) (nI_1 z) ((hf.w (Or.inl rfl) _).w (Or.inr (Or.inl rfl)) _) (fun j hj => by
                        simp only [xw_ap, upd_ap, Nat.reduceEqDiff, ↓reduceIte, if_neg hj]; exact ho j hj) (by
                        rw [xgo, ← hres]; simp only [xw_ap, upd_ap, Nat.reduceEqDiff, ↓reduceIte]) (by
                        simp only [xw_ap, upd_ap, Nat.reduceEqDiff, ↓reduceIte]; grind [nT]) (by
                        rw [xaw, ← hres]; simp only [xw_ap, upd_ap, Nat.reduceEqDiff, ↓reduceIte]; exact h2) (fun j hj => by
                        rw [xlf, ← hres]; simp only [xw_ap, upd_ap, Nat.reduceEqDiff, ↓reduceIte]
                        split
                        · rw [z3]
                        · exact h3 j hj)
                  · have hpl : xpl σ b s = xpl σ (xwb σ (σ 22 s)) s := by rw [← hb, ← c125, e22]
                    rw [← hpl] at c131 ⊢
                    obtain ⟨a, ha7, ea⟩ := pl_in I hs _ c131
                    have ca := nI_clamp (n := a) (by omega)
                    have z3 := h3 a ha7
                    rw [ea]
                    rw [if_pos ⟨by rw [← e22]; exact c125, c131⟩, ea, ca] at hres
                    refine P.aload_n (pc := 134) 0 dX10_findCrowds_134 rfl rfl ?_
                    refine P.getR (pc := 135) fl_X10_81 dX10_findCrowds_135 rfl rfl ?_
                    refine P.iload (pc := 138) 6 dX10_findCrowds_138 rfl ?_
                    refine P.iaN (pc := 140) (a) dX10_findCrowds_140 rfl rfl rfl (by first | omega | grind [nT]) ?_
                    refine P.aload_n (pc := 141) 0 dX10_findCrowds_141 rfl rfl ?_
                    refine P.getR (pc := 142) fl_X10_16 dX10_findCrowds_142 rfl rfl ?_
                    refine P.iload_n (pc := 145) 3 dX10_findCrowds_145 rfl rfl ?_
                    refine P.iaN (pc := 146) _ dX10_findCrowds_146 rfl rfl rfl (by first | omega | grind [nT]) ?_
                    refine P.iclt (pc := 147) 177 dX10_findCrowds_147 (by decide) (fun c147 => ?_) (fun c147 => ?_)
                    · rw [if_neg (by rw [← z3, ← e6]; exact Int32.not_le.mpr c147)] at hres
                      refine P.aload_n (pc := 177) 0 dX10_findCrowds_177 rfl rfl ?_
                      refine P.getR (pc := 178) fl_X10_87 dX10_findCrowds_178 rfl rfl ?_
                      refine P.iload_n (pc := 181) 3 dX10_findCrowds_181 rfl rfl ?_
                      refine P.dup2 (pc := 182) dX10_findCrowds_182 rfl rfl ?_
                      refine P.iaN (pc := 183) _ dX10_findCrowds_183 rfl rfl rfl (by first | omega | grind [nT]) ?_
                      refine P.iconst (pc := 184) (v := 1) dX10_findCrowds_184 (by decide) ?_
                      refine P.iadd (pc := 185) dX10_findCrowds_185 ?_
                      refine P.isN (pc := 186) _ dX10_findCrowds_186 rfl rfl rfl (by first | omega | grind [nT]) ?_
                      refine P.iinc (pc := 187) 4 1 dX10_findCrowds_187 rfl (by decide) (by decide) rfl ?_
                      refine P.goto (pc := 190) 65 dX10_findCrowds_190 (by decide) ?_
                      first
                      | exact ihk (z + 1) _ _ aw _ _ (by omega) (nI_1 z) hf ho h1 h2 h3 (by rw [← hres, if_neg (by rw [← e22]; exact fun q => c125 q.1)])
                      | exact ihk (z + 1) _ _ aw _ _ (by omega) (nI_1 z) hf ho h1 h2 h3 (by rw [← hres, if_neg (fun q => q.2 (by rw [← hb, ← c125, e22]; exact c131))])
                      | exact ihk (z + 1) _ _ (aw + 1) _ _ (by omega) (nI_1 z) (hf.w (Or.inr (Or.inr rfl)) _) (fun j hj => by
                          simp only [xw_ap, upd_ap, Nat.reduceEqDiff, ↓reduceIte, if_neg hj]; exact ho j hj) (by
                          simp only [xw_ap, upd_ap, Nat.reduceEqDiff, ↓reduceIte]; exact h1) (by
                          simp only [xw_ap, upd_ap, Nat.reduceEqDiff, ↓reduceIte]; rw [h2]) (fun j hj => by
                          simp only [xw_ap, upd_ap, Nat.reduceEqDiff, ↓reduceIte]; exact h3 j hj) hres
                      | exact gone (z + 1) _ _ _ _ (by omega) (nI_1 z) ((hf.w (Or.inl rfl) _).w (Or.inr (Or.inl rfl)) _) (fun j hj => by
                          simp only [xw_ap, upd_ap, Nat.reduceEqDiff, ↓reduceIte, if_neg hj]; exact ho j hj) (by
                          rw [xgo, ← hres]; simp only [xw_ap, upd_ap, Nat.reduceEqDiff, ↓reduceIte]) (by
                          simp only [xw_ap, upd_ap, Nat.reduceEqDiff, ↓reduceIte]; grind [nT]) (by
                          rw [xaw, ← hres]; simp only [xw_ap, upd_ap, Nat.reduceEqDiff, ↓reduceIte]; exact h2) (fun j hj => by
                          rw [xlf, ← hres]; simp only [xw_ap, upd_ap, Nat.reduceEqDiff, ↓reduceIte]
                          split
                          · rw [z3]
                          · exact h3 j hj)
                    · refine P.aload_n (pc := 150) 0 dX10_findCrowds_150 rfl rfl ?_
                      refine P.getR (pc := 151) fl_X10_81 dX10_findCrowds_151 rfl rfl ?_
                      refine P.iload (pc := 154) 6 dX10_findCrowds_154 rfl ?_
                      refine P.dup2 (pc := 156) dX10_findCrowds_156 rfl rfl ?_
                      refine P.iaN (pc := 157) (a) dX10_findCrowds_157 rfl rfl rfl (by first | omega | grind [nT]) ?_
                      refine P.aload_n (pc := 158) 0 dX10_findCrowds_158 rfl rfl ?_
                      refine P.getR (pc := 159) fl_X10_16 dX10_findCrowds_159 rfl rfl ?_
                      refine P.iload_n (pc := 162) 3 dX10_findCrowds_162 rfl rfl ?_
                      refine P.iaN (pc := 163) _ dX10_findCrowds_163 rfl rfl rfl (by first | omega | grind [nT]) ?_
                      simp only [xw_ap, Nat.reduceEqDiff, ↓reduceIte, e6]
                      refine P.isub (pc := 164) dX10_findCrowds_164 ?_
                      refine P.isN (pc := 165) (a) dX10_findCrowds_165 rfl rfl rfl (by first | omega | grind [nT]) ?_
                      refine P.aload_n (pc := 166) 0 dX10_findCrowds_166 rfl rfl ?_
                      refine P.getR (pc := 167) fl_X10_84 dX10_findCrowds_167 rfl rfl ?_
                      refine P.iload_n (pc := 170) 3 dX10_findCrowds_170 rfl rfl ?_
                      refine P.iload (pc := 171) 5 dX10_findCrowds_171 rfl ?_
                      refine P.isN (pc := 173) _ dX10_findCrowds_173 rfl rfl rfl (by first | omega | grind [nT]) ?_
                      rw [if_pos (by rw [← z3, ← e6]; exact Int32.not_lt.mp c147)] at hres
                      refine P.goto (pc := 174) 187 dX10_findCrowds_174 (by decide) ?_
                      refine P.iinc (pc := 187) 4 1 dX10_findCrowds_187 rfl (by decide) (by decide) rfl ?_
                      refine P.goto (pc := 190) 65 dX10_findCrowds_190 (by decide) ?_
                      first
                      | exact ihk (z + 1) _ _ aw _ _ (by omega) (nI_1 z) hf ho h1 h2 h3 (by rw [← hres, if_neg (by rw [← e22]; exact fun q => c125 q.1)])
                      | exact ihk (z + 1) _ _ aw _ _ (by omega) (nI_1 z) hf ho h1 h2 h3 (by rw [← hres, if_neg (fun q => q.2 (by rw [← hb, ← c125, e22]; exact c131))])
                      | exact ihk (z + 1) _ _ (aw + 1) _ _ (by omega) (nI_1 z) (hf.w (Or.inr (Or.inr rfl)) _) (fun j hj => by
                          simp only [xw_ap, upd_ap, Nat.reduceEqDiff, ↓reduceIte, if_neg hj]; exact ho j hj) (by
                          simp only [xw_ap, upd_ap, Nat.reduceEqDiff, ↓reduceIte]; exact h1) (by
                          simp only [xw_ap, upd_ap, Nat.reduceEqDiff, ↓reduceIte]; rw [h2]) (fun j hj => by
                          simp only [xw_ap, upd_ap, Nat.reduceEqDiff, ↓reduceIte]; exact h3 j hj) hres
                      | exact gone (z + 1) _ _ _ _ (by omega) (nI_1 z) ((hf.w (Or.inl rfl) _).w (Or.inr (Or.inl rfl)) _) (fun j hj => by
                          simp only [xw_ap, upd_ap, Nat.reduceEqDiff, ↓reduceIte, if_neg hj]; exact ho j hj) (by
                          rw [xgo, ← hres]; simp only [xw_ap, upd_ap, Nat.reduceEqDiff, ↓reduceIte]) (by
                          simp only [xw_ap, upd_ap, Nat.reduceEqDiff, ↓reduceIte]; grind [nT]) (by
                          rw [xaw, ← hres]; simp only [xw_ap, upd_ap, Nat.reduceEqDiff, ↓reduceIte]; exact h2) (fun j hj => by
                          rw [xlf, ← hres]; simp only [xw_ap, upd_ap, Nat.reduceEqDiff, ↓reduceIte]
                          split
                          · rw [z3]
                          · exact h3 j hj)
      have out : ∀ (th : ¬ xthere σ week i) (M2 : xM) (x : Int32) (o5 o6 : Option Value), x = nI 0 → k3 68 69 70 M M2 → (∀ j, j ≠ i → M2 69 j = M1 69 j ∧ M2 70 j = M1 70 j) → M2 69 i = -1 → M2 70 i = 0 → (∀ j, j < 7 → M2 68 j = xlf σ b week (nI h) i j) →
          P mX10_findCrowds 65 [some (.ref 46), some (.int week), some (.int (nI h)), some (.int (nI i)), some (.int x), o5, o6] [] M2 (fun r M' => r = none ∧ (k3 68 69 70 M M' ∧ ∀ j, j < n 1 → M' 69 j = xgo σ b week (nI h) j ∧ M' 70 j = xaw σ b week (nI h) j)) := by
        intro th M2 x o5 o6 hx hf ho h1 h2 h3
        subst hx
        have R2 := R.same hf
        refine P.iload (pc := 65) 4 dX10_findCrowds_65 rfl ?_
        refine P.aload_n (pc := 67) 0 dX10_findCrowds_67 rfl rfl ?_
        refine P.getR (pc := 68) fl_X10_75 dX10_findCrowds_68 rfl rfl ?_
        refine P.iload_n (pc := 71) 3 dX10_findCrowds_71 rfl rfl ?_
        refine P.iaN (pc := 72) _ dX10_findCrowds_72 rfl rfl rfl (by first | omega | grind [nT]) ?_
        refine P.icge (pc := 73) 193 dX10_findCrowds_73 (by decide) (fun c73 => ?_) (fun c73 => ?_)
        · exact fin _ _ _ _ hf ho (by rw [xgo, xres_f th, h1]) (by rw [xaw, xres_f th, h2]) (fun j hj => by rw [xlf, xres_f th]; exact h3 j hj)
        · refine P.aload_n (pc := 76) 0 dX10_findCrowds_76 rfl rfl ?_
          refine P.iload_n (pc := 77) 3 dX10_findCrowds_77 rfl rfl ?_
          refine P.iload_n (pc := 78) 1 dX10_findCrowds_78 rfl rfl ?_
          refine P.V2F (pc := 79) cs_X10_findCrowds_174 dX10_findCrowds_79 rfl rfl rfl (sp_X10_isThere I R2 (p := i) (by omega) _) ?_
          refine P.ifeqB (pc := 82) 193 dX10_findCrowds_82 (by decide) (fun c82 => ?_) (fun c82 => ?_)
          · exact fin _ _ _ _ hf ho (by rw [xgo, xres_f th, h1]) (by rw [xaw, xres_f th, h2]) (fun j hj => by rw [xlf, xres_f th]; exact h3 j hj)
          · exact absurd c82 th--.
      refine P.iload_n (pc := 40) 3 dX10_findCrowds_40 rfl rfl ?_
      refine P.aload_n (pc := 41) 0 dX10_findCrowds_41 rfl rfl ?_
      refine P.getI (pc := 42) fl_X10_136 dX10_findCrowds_42 rfl rfl ?_
      refine P.icge (pc := 45) 199 dX10_findCrowds_45 (by decide) (fun c45 => ?_) (fun c45 => ?_)
      · exact absurd c45 (by grind [nT])--.
      · refine P.aload_n (pc := 48) 0 dX10_findCrowds_48 rfl rfl ?_
        refine P.getR (pc := 49) fl_X10_84 dX10_findCrowds_49 rfl rfl ?_
        refine P.iload_n (pc := 52) 3 dX10_findCrowds_52 rfl rfl ?_
        refine P.iconst (pc := 53) (v := -1) dX10_findCrowds_53 (by decide) ?_
        refine P.isN (pc := 54) _ dX10_findCrowds_54 rfl rfl rfl (by first | omega | grind [nT]) ?_
        refine P.aload_n (pc := 55) 0 dX10_findCrowds_55 rfl rfl ?_
        refine P.getR (pc := 56) fl_X10_87 dX10_findCrowds_56 rfl rfl ?_
        refine P.iload_n (pc := 59) 3 dX10_findCrowds_59 rfl rfl ?_
        refine P.iconst (pc := 60) (v := 0) dX10_findCrowds_60 (by decide) ?_
        refine P.isN (pc := 61) _ dX10_findCrowds_61 rfl rfl rfl (by first | omega | grind [nT]) ?_
        refine P.iconst (pc := 62) (v := 0) dX10_findCrowds_62 (by decide) ?_
        refine P.istore (pc := 63) 4 dX10_findCrowds_63 (by decide) rfl ?_
        by_cases th : xthere σ week i
        · exact lq th w 0 _ _ 0 _ _ (by omega) rfl ((hf.w (Or.inr (Or.inl rfl)) _).w (Or.inr (Or.inr rfl)) _) (fun j hj => by simp only [xw_ap, upd_ap, Nat.reduceEqDiff, ↓reduceIte, if_neg hj, and_self]) (by simp only [xw_ap, upd_ap, Nat.reduceEqDiff, ↓reduceIte]) (by simp only [xw_ap, upd_ap, Nat.reduceEqDiff, ↓reduceIte]) (fun j hj => by simp only [xw_ap, upd_ap, Nat.reduceEqDiff, ↓reduceIte]; exact hl j hj) (by rw [xres_t th, ck2])
        · exact out th _ _ _ _ rfl ((hf.w (Or.inr (Or.inl rfl)) _).w (Or.inr (Or.inr rfl)) _) (fun j hj => by simp only [xw_ap, upd_ap, Nat.reduceEqDiff, ↓reduceIte, if_neg hj, and_self]) (by simp only [xw_ap, upd_ap, Nat.reduceEqDiff, ↓reduceIte]) (by simp only [xw_ap, upd_ap, Nat.reduceEqDiff, ↓reduceIte]) (fun j hj => by simp only [xw_ap, upd_ap, Nat.reduceEqDiff, ↓reduceIte]; exact hl j hj)
  -- the places' rooms
  have l0 : ∀ (k i : Nat) (x : Int32) (M1 : xM) (o4 o5 o6 : Option Value), i + k = 7 → x = nI i → k3 68 69 70 M M1 → (∀ j, j < i → M1 68 j = σ 27 j) →
      P mX10_findCrowds 2 [some (.ref 46), some (.int week), some (.int (nI h)), some (.int x), o4, o5, o6] [] M1 (fun r M' => r = none ∧ (k3 68 69 70 M M' ∧ ∀ j, j < n 1 → M' 69 j = xgo σ b week (nI h) j ∧ M' 70 j = xaw σ b week (nI h) j)) := by
    intro k
    induction k with
    | zero =>
      intro i x M1 o4 o5 o6 hi hx hf hl
      subst hx
      refine P.iload_n (pc := 2) 3 dX10_findCrowds_2 rfl rfl ?_
      refine P.bipush (pc := 3) (v := 7) dX10_findCrowds_3 (by decide) ?_
      refine P.icge (pc := 5) 38 dX10_findCrowds_5 (by decide) (fun c5 => ?_) (fun c5 => ?_)
      · refine P.iconst (pc := 38) (v := 0) dX10_findCrowds_38 (by decide) ?_
        refine P.istore_n (pc := 39) 3 dX10_findCrowds_39 rfl (by decide) rfl ?_
        exact lp (n 1) 0 _ _ _ _ _ (by omega) rfl hf (fun j hj => by omega) (fun j hj => hl j (by omega))
      · exact absurd (show (7 : Int32) ≤ nI i by grind [nT]) c5--.
    | succ k ih =>
      intro i x M1 o4 o5 o6 hi hx hf hl
      subst hx
      have hi' : i < 7 := by omega
      have R1 := R.same hf
      refine P.iload_n (pc := 2) 3 dX10_findCrowds_2 rfl rfl ?_
      refine P.bipush (pc := 3) (v := 7) dX10_findCrowds_3 (by decide) ?_
      refine P.icge (pc := 5) 38 dX10_findCrowds_5 (by decide) (fun c5 => ?_) (fun c5 => ?_)
      · exact absurd c5 (by grind [nT])--.
      · refine P.aload_n (pc := 8) 0 dX10_findCrowds_8 rfl rfl ?_
        refine P.getR (pc := 9) fl_X10_81 dX10_findCrowds_9 rfl rfl ?_
        refine P.iload_n (pc := 12) 3 dX10_findCrowds_12 rfl rfl ?_
        refine P.iload_n (pc := 13) 3 dX10_findCrowds_13 rfl rfl ?_
        refine P.bipush (pc := 14) (v := 6) dX10_findCrowds_14 (by decide) ?_
        refine P.icne (pc := 16) 25 dX10_findCrowds_16 (by decide) (fun c16 => ?_) (fun c16 => ?_)
        · refine P.aload_n (pc := 25) 0 dX10_findCrowds_25 rfl rfl ?_
          refine P.getR (pc := 26) fl_X10_63 dX10_findCrowds_26 rfl rfl ?_
          refine P.iload_n (pc := 29) 3 dX10_findCrowds_29 rfl rfl ?_
          refine P.iaN (pc := 30) _ dX10_findCrowds_30 rfl rfl rfl (by first | omega | grind [nT]) ?_
          refine P.isN (pc := 31) _ dX10_findCrowds_31 rfl rfl rfl (by first | omega | grind [nT]) ?_
          refine P.iinc (pc := 32) 3 1 dX10_findCrowds_32 rfl (by decide) (by decide) rfl ?_
          refine P.goto (pc := 35) 2 dX10_findCrowds_35 (by decide) ?_
          exact ih (i + 1) _ _ _ _ _ (by omega) (nI_1 i) (hf.w (Or.inl rfl) _) (fun j hj => by
            simp only [xw_ap, upd_ap, Nat.reduceEqDiff, ↓reduceIte]
            split
            · rename_i e
              subst e
              first
              | (have e6 : j = 6 := by grind [nT]
                 rw [e6, I.2.2.1.2.2.2.1]; done)
              | exact R1.2.2.2.2.1 j (by
                  rcases Nat.lt_or_ge j 6 with q | q
                  · exact q
                  · exact absurd (show nI j = 6 by rw [show j = 6 by omega]; rfl) c16)
            · exact hl j (by omega))
        · refine P.sipush (pc := 19) (v := 1000) dX10_findCrowds_19 (by decide) ?_
          refine P.goto (pc := 22) 31 dX10_findCrowds_22 (by decide) ?_
          refine P.isN (pc := 31) _ dX10_findCrowds_31 rfl rfl rfl (by first | omega | grind [nT]) ?_
          refine P.iinc (pc := 32) 3 1 dX10_findCrowds_32 rfl (by decide) (by decide) rfl ?_
          refine P.goto (pc := 35) 2 dX10_findCrowds_35 (by decide) ?_
          exact ih (i + 1) _ _ _ _ _ (by omega) (nI_1 i) (hf.w (Or.inl rfl) _) (fun j hj => by
            simp only [xw_ap, upd_ap, Nat.reduceEqDiff, ↓reduceIte]
            split
            · rename_i e
              subst e
              first
              | (have e6 : j = 6 := by grind [nT]
                 rw [e6, I.2.2.1.2.2.2.1]; done)
              | exact R1.2.2.2.2.1 j (by
                  rcases Nat.lt_or_ge j 6 with q | q
                  · exact q
                  · exact absurd (show nI j = 6 by rw [show j = 6 by omega]; rfl) c16)
            · exact hl j (by omega))
  refine P.iconst (pc := 0) (v := 0) dX10_findCrowds_0 (by decide) ?_
  refine P.istore_n (pc := 1) 3 dX10_findCrowds_1 rfl (by decide) rfl ?_
  exact l0 7 0 _ _ _ _ _ (by omega) rfl k3.rf (fun j hj => by omega)
theorem sp_X10_goes {n : Nat → Nat} {σ M : xM} (I : Iv n σ) (R : RM n σ M) (p w h : Int32) : SpI mX10_goes [.ref 46, .int p, .int w, .int h] M (PM (o_goes n σ p w h) M) := by
  have hc : M 46 3 = nI (n 1) := R.2.2.1 (3, 1) (by decide)
  have b2 : n 1 ≤ 24 := I.1.2.1
  refine P.aload_n (pc := 0) 0 dX10_goes_0 rfl rfl ?_
  refine P.iload_n (pc := 1) 1 dX10_goes_1 rfl rfl ?_
  refine P.V1F (pc := 2) cs_X10_goes_151 dX10_goes_2 rfl rfl rfl (sp_X10_isParty hc b2 _) ?_
  refine P.ifeqB (pc := 5) 27 dX10_goes_5 (by decide) (fun c5 => ?_) (fun c5 => ?_)
  · refine P.bipush (pc := 27) (v := -2) dX10_goes_27 (by decide) ?_
    refine P.iret (pc := 29) dX10_goes_29 rfl ?_
    exact pmI (by rw [o_goes, if_pos (by grind [nW])]) R frM.rf
  · refine P.iload_n (pc := 8) 2 dX10_goes_8 rfl rfl ?_
    refine P.S1F (pc := 9) cs_X10_goes_145 dX10_goes_9 rfl rfl (sp_X10_isWeek _ _) ?_
    refine P.ifeqB (pc := 12) 27 dX10_goes_12 (by decide) (fun c12 => ?_) (fun c12 => ?_)
    · refine P.bipush (pc := 27) (v := -2) dX10_goes_27 (by decide) ?_
      refine P.iret (pc := 29) dX10_goes_29 rfl ?_
      exact pmI (by rw [o_goes, if_pos (by grind [nW])]) R frM.rf
    · refine P.iload_n (pc := 15) 3 dX10_goes_15 rfl rfl ?_
      refine P.i2l (pc := 16) dX10_goes_16 ?_
      refine P.lconst (pc := 17) (v := 0) dX10_goes_17 (by decide) ?_
      refine P.ldc2 (pc := 18) kc_X10_208 dX10_goes_18 ?_
      refine P.S3F (pc := 21) cs_X10_goes_132 dX10_goes_21 rfl rfl (sp_X10_within _ _ _ _) ?_
      refine P.ifneB (pc := 24) 30 dX10_goes_24 (by decide) (fun c24 => ?_) (fun c24 => ?_)
      · have c5' := c5
        obtain ⟨a, ha, rfl⟩ := c5
        have ck := nI_clamp (n := a) (by omega)
        obtain ⟨t, -, ht, rfl⟩ := xin_nat 39 (lo := 0) (v := h) (by grind [nT, nW]) (by grind [nT, nW]) (by decide) (by decide)
        refine P.aload_n (pc := 30) 0 dX10_goes_30 rfl rfl ?_
        refine P.iload_n (pc := 31) 2 dX10_goes_31 rfl rfl ?_
        refine P.iload_n (pc := 32) 3 dX10_goes_32 rfl rfl ?_
        refine P.V2V (pc := 33) cs_X10_goes_219 dX10_goes_33 rfl rfl rfl (sp_X10_findCrowds I R _ (by omega)) (fun M33 h33 => ?_)
        obtain ⟨g1, g2⟩ := h33
        refine P.aload_n (pc := 36) 0 dX10_goes_36 rfl rfl ?_
        refine P.getR (pc := 37) fl_X10_84 dX10_goes_37 rfl rfl ?_
        refine P.iload_n (pc := 40) 1 dX10_goes_40 rfl rfl ?_
        refine P.iaN (pc := 41) _ dX10_goes_41 rfl rfl rfl (by first | omega | grind [nT]) ?_
        refine P.iret (pc := 42) dX10_goes_42 rfl ?_
        exact pmI (by rw [o_goes, if_neg (by grind [nW]), ck, (g2 a ha).1]) (R.same g1) g1.frM
      · refine P.bipush (pc := 27) (v := -2) dX10_goes_27 (by decide) ?_
        refine P.iret (pc := 29) dX10_goes_29 rfl ?_
        exact pmI (by rw [o_goes, if_pos (by grind [nW])]) R frM.rf
theorem sp_X10_turned {n : Nat → Nat} {σ M : xM} (I : Iv n σ) (R : RM n σ M) (p w h : Int32) : SpI mX10_turned [.ref 46, .int p, .int w, .int h] M (PM (o_turned n σ p w h) M) := by
  have hc : M 46 3 = nI (n 1) := R.2.2.1 (3, 1) (by decide)
  have b2 : n 1 ≤ 24 := I.1.2.1
  refine P.aload_n (pc := 0) 0 dX10_turned_0 rfl rfl ?_
  refine P.iload_n (pc := 1) 1 dX10_turned_1 rfl rfl ?_
  refine P.V1F (pc := 2) cs_X10_turned_151 dX10_turned_2 rfl rfl rfl (sp_X10_isParty hc b2 _) ?_
  refine P.ifeqB (pc := 5) 27 dX10_turned_5 (by decide) (fun c5 => ?_) (fun c5 => ?_)
  · refine P.bipush (pc := 27) (v := -2) dX10_turned_27 (by decide) ?_
    refine P.iret (pc := 29) dX10_turned_29 rfl ?_
    exact pmI (by rw [o_turned, if_pos (by grind [nW])]) R frM.rf
  · refine P.iload_n (pc := 8) 2 dX10_turned_8 rfl rfl ?_
    refine P.S1F (pc := 9) cs_X10_turned_145 dX10_turned_9 rfl rfl (sp_X10_isWeek _ _) ?_
    refine P.ifeqB (pc := 12) 27 dX10_turned_12 (by decide) (fun c12 => ?_) (fun c12 => ?_)
    · refine P.bipush (pc := 27) (v := -2) dX10_turned_27 (by decide) ?_
      refine P.iret (pc := 29) dX10_turned_29 rfl ?_
      exact pmI (by rw [o_turned, if_pos (by grind [nW])]) R frM.rf
    · refine P.iload_n (pc := 15) 3 dX10_turned_15 rfl rfl ?_
      refine P.i2l (pc := 16) dX10_turned_16 ?_
      refine P.lconst (pc := 17) (v := 0) dX10_turned_17 (by decide) ?_
      refine P.ldc2 (pc := 18) kc_X10_208 dX10_turned_18 ?_
      refine P.S3F (pc := 21) cs_X10_turned_132 dX10_turned_21 rfl rfl (sp_X10_within _ _ _ _) ?_
      refine P.ifneB (pc := 24) 30 dX10_turned_24 (by decide) (fun c24 => ?_) (fun c24 => ?_)
      · have c5' := c5
        obtain ⟨a, ha, rfl⟩ := c5
        have ck := nI_clamp (n := a) (by omega)
        obtain ⟨t, -, ht, rfl⟩ := xin_nat 39 (lo := 0) (v := h) (by grind [nT, nW]) (by grind [nT, nW]) (by decide) (by decide)
        refine P.aload_n (pc := 30) 0 dX10_turned_30 rfl rfl ?_
        refine P.iload_n (pc := 31) 2 dX10_turned_31 rfl rfl ?_
        refine P.iload_n (pc := 32) 3 dX10_turned_32 rfl rfl ?_
        refine P.V2V (pc := 33) cs_X10_turned_219 dX10_turned_33 rfl rfl rfl (sp_X10_findCrowds I R _ (by omega)) (fun M33 h33 => ?_)
        obtain ⟨g1, g2⟩ := h33
        refine P.aload_n (pc := 36) 0 dX10_turned_36 rfl rfl ?_
        refine P.getR (pc := 37) fl_X10_87 dX10_turned_37 rfl rfl ?_
        refine P.iload_n (pc := 40) 1 dX10_turned_40 rfl rfl ?_
        refine P.iaN (pc := 41) _ dX10_turned_41 rfl rfl rfl (by first | omega | grind [nT]) ?_
        refine P.iret (pc := 42) dX10_turned_42 rfl ?_
        exact pmI (by rw [o_turned, if_neg (by grind [nW]), ck, (g2 a ha).2]) (R.same g1) g1.frM
      · refine P.bipush (pc := 27) (v := -2) dX10_turned_27 (by decide) ?_
        refine P.iret (pc := 29) dX10_turned_29 rfl ?_
        exact pmI (by rw [o_turned, if_pos (by grind [nW])]) R frM.rf
theorem sp_X10_crowd {n : Nat → Nat} {σ M : xM} (I : Iv n σ) (R : RM n σ M) (s w : Int32) : SpI mX10_crowd [.ref 46, .int s, .int w] M (PM (o_crowd n σ s w) M) := by
  have hc : M 46 22 = nI (n 2) := R.2.2.1 (22, 2) (by decide)
  have b1 : n 2 ≤ 12 := I.2.2.1.1
  have b2 : n 1 ≤ 24 := I.1.2.1
  have a2 := R.1 (64, 22) (by decide)
  dsimp only at a2
  have lp : ∀ (M1 : xM) (R1 : RM n σ M1) (k i : Nat) (x a : Int32), i + k = n 1 → x = nI i → a = xppl (M1 69) (M1 49) s i → P mX10_crowd 42 [some (.ref 46), some (.int s), some (.int w), some (.int a), some (.int x)] [] M1 (fun r M' => r = some (.int (xppl (M1 69) (M1 49) s (n 1))) ∧ M' = M1) := by
    intro M1 R1 k
    have hc1 : M1 46 3 = nI (n 1) := R1.2.2.1 (3, 1) (by decide)
    induction k with
    | zero =>
      intro i x a hi hx ha
      subst hx
      refine P.iload (pc := 42) 4 dX10_crowd_42 rfl ?_
      refine P.aload_n (pc := 44) 0 dX10_crowd_44 rfl rfl ?_
      refine P.getI (pc := 45) fl_X10_136 dX10_crowd_45 rfl rfl ?_
      refine P.icge (pc := 48) 82 dX10_crowd_48 (by decide) (fun c48 => ?_) (fun c48 => ?_)
      · refine P.iload_n (pc := 82) 3 dX10_crowd_82 rfl rfl ?_
        refine P.iret (pc := 83) dX10_crowd_83 rfl ?_
        exact ⟨by rw [ha, show i = n 1 from hi], rfl⟩
      · exact absurd (show M1 46 3 ≤ nI i by grind [nT]) c48--.
    | succ k ih =>
      intro i x a hi hx ha
      subst hx
      refine P.iload (pc := 42) 4 dX10_crowd_42 rfl ?_
      refine P.aload_n (pc := 44) 0 dX10_crowd_44 rfl rfl ?_
      refine P.getI (pc := 45) fl_X10_136 dX10_crowd_45 rfl rfl ?_
      refine P.icge (pc := 48) 82 dX10_crowd_48 (by decide) (fun c48 => ?_) (fun c48 => ?_)
      · exact absurd c48 (by grind [nT])--.
      · refine P.iload_n (pc := 51) 3 dX10_crowd_51 rfl rfl ?_
        refine P.aload_n (pc := 52) 0 dX10_crowd_52 rfl rfl ?_
        refine P.getR (pc := 53) fl_X10_84 dX10_crowd_53 rfl rfl ?_
        refine P.iload (pc := 56) 4 dX10_crowd_56 rfl ?_
        refine P.iaN (pc := 58) _ dX10_crowd_58 rfl rfl rfl (by first | omega | grind [nT]) ?_
        refine P.iload_n (pc := 59) 1 dX10_crowd_59 rfl rfl ?_
        refine P.icne (pc := 60) 73 dX10_crowd_60 (by decide) (fun c60 => ?_) (fun c60 => ?_)
        · refine P.iconst (pc := 73) (v := 0) dX10_crowd_73 (by decide) ?_
          refine P.iadd (pc := 74) dX10_crowd_74 ?_
          refine P.istore_n (pc := 75) 3 dX10_crowd_75 rfl (by decide) rfl ?_
          refine P.iinc (pc := 76) 4 1 dX10_crowd_76 rfl (by decide) (by decide) rfl ?_
          refine P.goto (pc := 79) 42 dX10_crowd_79 (by decide) ?_
          exact ih (i + 1) _ _ (by omega) (nI_1 i) (by grind [xppl])
        · refine P.aload_n (pc := 63) 0 dX10_crowd_63 rfl rfl ?_
          refine P.getR (pc := 64) fl_X10_16 dX10_crowd_64 rfl rfl ?_
          refine P.iload (pc := 67) 4 dX10_crowd_67 rfl ?_
          refine P.iaN (pc := 69) _ dX10_crowd_69 rfl rfl rfl (by first | omega | grind [nT]) ?_
          refine P.goto (pc := 70) 74 dX10_crowd_70 (by decide) ?_
          refine P.iadd (pc := 74) dX10_crowd_74 ?_
          refine P.istore_n (pc := 75) 3 dX10_crowd_75 rfl (by decide) rfl ?_
          refine P.iinc (pc := 76) 4 1 dX10_crowd_76 rfl (by decide) (by decide) rfl ?_
          refine P.goto (pc := 79) 42 dX10_crowd_79 (by decide) ?_
          exact ih (i + 1) _ _ (by omega) (nI_1 i) (by grind [xppl])
  refine P.iload_n (pc := 0) 1 dX10_crowd_0 rfl rfl ?_
  refine P.i2l (pc := 1) dX10_crowd_1 ?_
  refine P.lconst (pc := 2) (v := 0) dX10_crowd_2 (by decide) ?_
  refine P.aload_n (pc := 3) 0 dX10_crowd_3 rfl rfl ?_
  refine P.getI (pc := 4) fl_X10_210 dX10_crowd_4 rfl rfl ?_
  refine P.iconst (pc := 7) (v := 1) dX10_crowd_7 (by decide) ?_
  refine P.isub (pc := 8) dX10_crowd_8 ?_
  refine P.i2l (pc := 9) dX10_crowd_9 ?_
  refine P.S3F (pc := 10) cs_X10_crowd_132 dX10_crowd_10 rfl rfl (sp_X10_withinZ _ _ _) ?_
  rw [hc, ← bI_c (xin_iff (n := n 2) (by omega) s)]
  refine P.ifeqB (pc := 13) 23 dX10_crowd_13 (by decide) (fun c13 => ?_) (fun c13 => ?_)
  · refine P.bipush (pc := 23) (v := -2) dX10_crowd_23 (by decide) ?_
    refine P.iret (pc := 25) dX10_crowd_25 rfl ?_
    exact pmI (by rw [o_crowd, if_pos (by grind)]) R frM.rf
  · refine P.iload_n (pc := 16) 2 dX10_crowd_16 rfl rfl ?_
    refine P.S1F (pc := 17) cs_X10_crowd_145 dX10_crowd_17 rfl rfl (sp_X10_isWeek _ _) ?_
    refine P.ifneB (pc := 20) 26 dX10_crowd_20 (by decide) (fun c20 => ?_) (fun c20 => ?_)
    · have c13' := c13
      have lp' := lp
      obtain ⟨a, ha, rfl⟩ := c13
      have ck := nI_clamp (n := a) (by omega)
      obtain ⟨-, -, q1, q2, -⟩ := I.2.2.1.2.1 a ha
      obtain ⟨t, -, ht, et⟩ := xin_nat 39 (lo := 0) q1 q2 (by decide) (by decide)
      refine P.aload_n (pc := 26) 0 dX10_crowd_26 rfl rfl ?_
      refine P.iload_n (pc := 27) 2 dX10_crowd_27 rfl rfl ?_
      refine P.aload_n (pc := 28) 0 dX10_crowd_28 rfl rfl ?_
      refine P.getR (pc := 29) fl_X10_69 dX10_crowd_29 rfl rfl ?_
      refine P.iload_n (pc := 32) 1 dX10_crowd_32 rfl rfl ?_
      refine P.iaN (pc := 33) _ dX10_crowd_33 rfl rfl rfl (by first | omega | grind [nT]) ?_
      rw [a2, et]
      refine P.V2V (pc := 34) cs_X10_crowd_219 dX10_crowd_34 rfl rfl rfl (sp_X10_findCrowds I R _ (by omega)) (fun M34 h34 => ?_)
      obtain ⟨g1, g2⟩ := h34
      have R2 := R.same g1
      refine P.iconst (pc := 37) (v := 0) dX10_crowd_37 (by decide) ?_
      refine P.istore_n (pc := 38) 3 dX10_crowd_38 rfl (by decide) rfl ?_
      refine P.iconst (pc := 39) (v := 0) dX10_crowd_39 (by decide) ?_
      refine P.istore (pc := 40) 4 dX10_crowd_40 (by decide) rfl ?_
      refine P.imp (lp M34 R2 (n 1) 0 _ _ (by omega) rfl rfl) (fun r M' q => ?_)
      obtain ⟨rfl, rfl⟩ := q
      refine pmI ?_ R2 g1.frM
      rw [o_crowd, if_neg (by grind), ck, et, R2.1 (49, 6) (by decide), xppl_c (n 1) (fun j hj => (g2 j hj).1)]
    · refine P.bipush (pc := 23) (v := -2) dX10_crowd_23 (by decide) ?_
      refine P.iret (pc := 25) dX10_crowd_25 rfl ?_
      exact pmI (by rw [o_crowd, if_pos (by grind)]) R frM.rf
