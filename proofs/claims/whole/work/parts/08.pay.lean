/-! paying back: both sides -/
theorem nW (x : Int32) : (Lean.Grind.ToInt.toInt x.toInt64 : Int) = Lean.Grind.ToInt.toInt x := Int32.toInt_toInt64 x
theorem sp_X10_within (M : xM) (a b c : Int64) : SpF mX10_within [.long a, .long b, .long c] M (bI (b ≤ a ∧ a ≤ c)) := by
  refine P.lload_n (pc := 0) 0 dX10_within_0 rfl rfl ?_
  refine P.lload_n (pc := 1) 2 dX10_within_1 rfl rfl ?_
  refine P.lcmp (pc := 2) dX10_within_2 ?_
  refine P.iflt (pc := 3) 17 dX10_within_3 (by decide) (fun c3 => ?_) (fun c3 => ?_)
  · refine P.iconst (pc := 17) (v := 0) dX10_within_17 (by decide) ?_
    refine P.zret (pc := 18) dX10_within_18 rfl (by decide) ?_
    unfold lg_cmp at *
    first | exact xt ⟨by grind, by grind⟩ | exact xf (by grind)
  · refine P.lload_n (pc := 6) 0 dX10_within_6 rfl rfl ?_
    refine P.lload (pc := 7) 4 dX10_within_7 rfl ?_
    refine P.lcmp (pc := 9) dX10_within_9 ?_
    refine P.ifgt (pc := 10) 17 dX10_within_10 (by decide) (fun c10 => ?_) (fun c10 => ?_)
    · refine P.iconst (pc := 17) (v := 0) dX10_within_17 (by decide) ?_
      refine P.zret (pc := 18) dX10_within_18 rfl (by decide) ?_
      unfold lg_cmp at *
      first | exact xt ⟨by grind, by grind⟩ | exact xf (by grind)
    · refine P.iconst (pc := 13) (v := 1) dX10_within_13 (by decide) ?_
      refine P.goto (pc := 14) 18 dX10_within_14 (by decide) ?_
      refine P.zret (pc := 18) dX10_within_18 rfl (by decide) ?_
      unfold lg_cmp at *
      first | exact xt ⟨by grind, by grind⟩ | exact xf (by grind)
theorem w_le (x y : Int32) : x.toInt64 ≤ y.toInt64 ↔ x ≤ y := by
  rw [Int64.le_iff_toInt_le, Int32.le_iff_toInt_le, Int32.toInt_toInt64, Int32.toInt_toInt64]
theorem sp_X10_withinZ (M : xM) (a c : Int32) : SpF mX10_within [.long a.toInt64, .long 0, .long c.toInt64] M (bI (0 ≤ a ∧ a ≤ c)) :=
  (sp_X10_within M _ _ _).val (bI_c (by rw [w_le, show (0 : Int64) = (0 : Int32).toInt64 by decide, w_le]))
theorem sp_X10_withinL (M : xM) (a b c : Int32) : SpF mX10_within [.long a.toInt64, .long b.toInt64, .long c.toInt64] M (bI (b ≤ a ∧ a ≤ c)) :=
  (sp_X10_within M _ _ _).val (bI_c (by rw [w_le, w_le]))
def xlat (ds : Nat → Int32) (day : Int32) : Nat → Int32
  | 0 => -1
  | m + 1 => if ds m ≤ day ∧ xlat ds day m < ds m then ds m else xlat ds day m
def xbest (ds ns hs : Nat → Int32) (ld no : Int32) : Nat → Int32
  | 0 => 0
  | m + 1 => if ds m = ld ∧ ns m ≤ no ∧ xbest ds ns hs ld no m < hs m then hs m else xbest ds ns hs ld no m
theorem sp_X5_latestDay {M : xM} {m : Nat} (hc : M 38 0 = nI m) (hm : m ≤ 30) (day : Int32) : SpF mX5_latestDay [.ref 38, .int day] M (xlat (M 39) day m) := by
  have lp : ∀ (k i : Nat) (a x : Int32), i + k = m → a = xlat (M 39) day i → x = nI i → P mX5_latestDay 4 [some (.ref 38), some (.int day), some (.int a), some (.int x)] [] M (fun r M' => r = some (.int (xlat (M 39) day m)) ∧ M' = M) := by
    intro k
    induction k with
    | zero =>
      intro i a x hi ha hx
      subst hx
      refine P.iload_n (pc := 4) 3 dX5_latestDay_4 rfl rfl ?_
      refine P.aload_n (pc := 5) 0 dX5_latestDay_5 rfl rfl ?_
      refine P.getI (pc := 6) fl_X5_9 dX5_latestDay_6 rfl rfl ?_
      refine P.icge (pc := 9) 39 dX5_latestDay_9 (by decide) (fun c9 => ?_) (fun c9 => ?_)
      · refine P.iload_n (pc := 39) 2 dX5_latestDay_39 rfl rfl ?_
        refine P.iret (pc := 40) dX5_latestDay_40 rfl ?_
        exact ⟨by grind, rfl⟩
      · exact absurd (show M 38 0 ≤ nI i by grind [nT]) c9--.
    | succ k ih =>
      intro i a x hi ha hx
      subst hx
      refine P.iload_n (pc := 4) 3 dX5_latestDay_4 rfl rfl ?_
      refine P.aload_n (pc := 5) 0 dX5_latestDay_5 rfl rfl ?_
      refine P.getI (pc := 6) fl_X5_9 dX5_latestDay_6 rfl rfl ?_
      refine P.icge (pc := 9) 39 dX5_latestDay_9 (by decide) (fun c9 => ?_) (fun c9 => ?_)
      · exact absurd c9 (by grind [nT])--.
      · refine P.aload_n (pc := 12) 0 dX5_latestDay_12 rfl rfl ?_
        refine P.getR (pc := 13) fl_X5_15 dX5_latestDay_13 rfl rfl ?_
        refine P.iload_n (pc := 16) 3 dX5_latestDay_16 rfl rfl ?_
        refine P.iaN (pc := 17) _ dX5_latestDay_17 rfl rfl rfl (by first | omega | grind [nT]) ?_
        refine P.iload_n (pc := 18) 1 dX5_latestDay_18 rfl rfl ?_
        refine P.icgt (pc := 19) 33 dX5_latestDay_19 (by decide) (fun c19 => ?_) (fun c19 => ?_)
        · refine P.iinc (pc := 33) 3 1 dX5_latestDay_33 rfl (by decide) (by decide) rfl ?_
          refine P.goto (pc := 36) 4 dX5_latestDay_36 (by decide) ?_
          exact ih (i + 1) _ _ (by omega) (by grind [xlat]) (nI_1 i)
        · refine P.iload_n (pc := 22) 2 dX5_latestDay_22 rfl rfl ?_
          refine P.aload_n (pc := 23) 0 dX5_latestDay_23 rfl rfl ?_
          refine P.getR (pc := 24) fl_X5_15 dX5_latestDay_24 rfl rfl ?_
          refine P.iload_n (pc := 27) 3 dX5_latestDay_27 rfl rfl ?_
          refine P.iaN (pc := 28) _ dX5_latestDay_28 rfl rfl rfl (by first | omega | grind [nT]) ?_
          refine P.mmax (pc := 29) pr_X5_33 dX5_latestDay_29 rfl (by decide) ?_
          refine P.istore_n (pc := 32) 2 dX5_latestDay_32 rfl (by decide) rfl ?_
          refine P.iinc (pc := 33) 3 1 dX5_latestDay_33 rfl (by decide) (by decide) rfl ?_
          refine P.goto (pc := 36) 4 dX5_latestDay_36 (by decide) ?_
          exact ih (i + 1) _ _ (by omega) (by grind [xlat]) (nI_1 i)
  refine P.iconst (pc := 0) (v := -1) dX5_latestDay_0 (by decide) ?_
  refine P.istore_n (pc := 1) 2 dX5_latestDay_1 rfl (by decide) rfl ?_
  refine P.iconst (pc := 2) (v := 0) dX5_latestDay_2 (by decide) ?_
  refine P.istore_n (pc := 3) 3 dX5_latestDay_3 rfl (by decide) rfl ?_
  exact lp m 0 _ _ (by omega) rfl rfl
def o_list (n : Nat → Nat) (σ : xM) (d no h : Int32) : xO :=
  if ¬ (0 ≤ d ∧ d ≤ 999 ∧ 0 ≤ no ∧ no ≤ 99 ∧ 0 ≤ h ∧ h ≤ 100) then (-2, n, σ) else if n 5 = 30 then (-4, n, σ) else
  (nI (n 5 + 1), nup n 5 (n 5 + 1), xw (xw (xw σ 39 (upd (σ 39) (n 5) d)) 40 (upd (σ 40) (n 5) no)) 41 (upd (σ 41) (n 5) h))
def o_pays (n : Nat → Nat) (σ : xM) (d no : Int32) : xO :=
  if ¬ (0 ≤ d ∧ d ≤ 999 ∧ 0 ≤ no ∧ no ≤ 999) then (-2, n, σ) else (xbest (σ 39) (σ 40) (σ 41) (xlat (σ 39) d (n 5)) no (n 5), n, σ)
theorem sp_X5_paidBack {M : xM} {m : Nat} (hc : M 38 0 = nI m) (hm : m ≤ 30) (d no : Int32) : SpF mX5_paidBack [.ref 38, .int d, .int no] M (if ¬ (0 ≤ d ∧ d ≤ 999 ∧ 0 ≤ no ∧ no ≤ 999) then -2 else xbest (M 39) (M 40) (M 41) (xlat (M 39) d m) no m) := by
  have lp : ∀ (ld : Int32) (k i : Nat) (a x : Int32), i + k = m → a = xbest (M 39) (M 40) (M 41) ld no i → x = nI i → P mX5_paidBack 37 [some (.ref 38), some (.int d), some (.int no), some (.int ld), some (.int a), some (.int x)] [] M (fun r M' => r = some (.int (xbest (M 39) (M 40) (M 41) ld no m)) ∧ M' = M) := by
    intro ld k
    induction k with
    | zero =>
      intro i a x hi ha hx
      subst hx
      refine P.iload (pc := 37) 5 dX5_paidBack_37 rfl ?_
      refine P.aload_n (pc := 39) 0 dX5_paidBack_39 rfl rfl ?_
      refine P.getI (pc := 40) fl_X5_9 dX5_paidBack_40 rfl rfl ?_
      refine P.icge (pc := 43) 88 dX5_paidBack_43 (by decide) (fun c43 => ?_) (fun c43 => ?_)
      · refine P.iload (pc := 88) 4 dX5_paidBack_88 rfl ?_
        refine P.iret (pc := 90) dX5_paidBack_90 rfl ?_
        exact ⟨by grind, rfl⟩
      · exact absurd (show M 38 0 ≤ nI i by grind [nT]) c43--.
    | succ k ih =>
      intro i a x hi ha hx
      subst hx
      refine P.iload (pc := 37) 5 dX5_paidBack_37 rfl ?_
      refine P.aload_n (pc := 39) 0 dX5_paidBack_39 rfl rfl ?_
      refine P.getI (pc := 40) fl_X5_9 dX5_paidBack_40 rfl rfl ?_
      refine P.icge (pc := 43) 88 dX5_paidBack_43 (by decide) (fun c43 => ?_) (fun c43 => ?_)
      · exact absurd c43 (by grind [nT])--.
      · refine P.aload_n (pc := 46) 0 dX5_paidBack_46 rfl rfl ?_
        refine P.getR (pc := 47) fl_X5_15 dX5_paidBack_47 rfl rfl ?_
        refine P.iload (pc := 50) 5 dX5_paidBack_50 rfl ?_
        refine P.iaN (pc := 52) _ dX5_paidBack_52 rfl rfl rfl (by first | omega | grind [nT]) ?_
        refine P.iload_n (pc := 53) 3 dX5_paidBack_53 rfl rfl ?_
        refine P.icne (pc := 54) 82 dX5_paidBack_54 (by decide) (fun c54 => ?_) (fun c54 => ?_)
        · refine P.iinc (pc := 82) 5 1 dX5_paidBack_82 rfl (by decide) (by decide) rfl ?_
          refine P.goto (pc := 85) 37 dX5_paidBack_85 (by decide) ?_
          exact ih (i + 1) _ _ (by omega) (by grind [xbest]) (nI_1 i)
        · refine P.aload_n (pc := 57) 0 dX5_paidBack_57 rfl rfl ?_
          refine P.getR (pc := 58) fl_X5_19 dX5_paidBack_58 rfl rfl ?_
          refine P.iload (pc := 61) 5 dX5_paidBack_61 rfl ?_
          refine P.iaN (pc := 63) _ dX5_paidBack_63 rfl rfl rfl (by first | omega | grind [nT]) ?_
          refine P.iload_n (pc := 64) 2 dX5_paidBack_64 rfl rfl ?_
          refine P.icgt (pc := 65) 82 dX5_paidBack_65 (by decide) (fun c65 => ?_) (fun c65 => ?_)
          · refine P.iinc (pc := 82) 5 1 dX5_paidBack_82 rfl (by decide) (by decide) rfl ?_
            refine P.goto (pc := 85) 37 dX5_paidBack_85 (by decide) ?_
            exact ih (i + 1) _ _ (by omega) (by grind [xbest]) (nI_1 i)
          · refine P.iload (pc := 68) 4 dX5_paidBack_68 rfl ?_
            refine P.aload_n (pc := 70) 0 dX5_paidBack_70 rfl rfl ?_
            refine P.getR (pc := 71) fl_X5_22 dX5_paidBack_71 rfl rfl ?_
            refine P.iload (pc := 74) 5 dX5_paidBack_74 rfl ?_
            refine P.iaN (pc := 76) _ dX5_paidBack_76 rfl rfl rfl (by first | omega | grind [nT]) ?_
            refine P.mmax (pc := 77) pr_X5_33 dX5_paidBack_77 rfl (by decide) ?_
            refine P.istore (pc := 80) 4 dX5_paidBack_80 (by decide) rfl ?_
            refine P.iinc (pc := 82) 5 1 dX5_paidBack_82 rfl (by decide) (by decide) rfl ?_
            refine P.goto (pc := 85) 37 dX5_paidBack_85 (by decide) ?_
            exact ih (i + 1) _ _ (by omega) (by grind [xbest]) (nI_1 i)
  refine P.iload_n (pc := 0) 1 dX5_paidBack_0 rfl rfl ?_
  refine P.iconst (pc := 1) (v := 0) dX5_paidBack_1 (by decide) ?_
  refine P.sipush (pc := 2) (v := 999) dX5_paidBack_2 (by decide) ?_
  refine P.N3F (pc := 5) cs_X5_paidBack_25 dX5_paidBack_5 rfl rfl (sp_X9_within _ _ _ _) ?_
  refine P.ifeqB (pc := 8) 22 dX5_paidBack_8 (by decide) (fun c8 => ?_) (fun c8 => ?_)
  · refine P.bipush (pc := 22) (v := -2) dX5_paidBack_22 (by decide) ?_
    refine P.iret (pc := 24) dX5_paidBack_24 rfl ?_
    exact ⟨by rw [if_pos (by grind)], rfl⟩
  · refine P.iload_n (pc := 11) 2 dX5_paidBack_11 rfl rfl ?_
    refine P.iconst (pc := 12) (v := 0) dX5_paidBack_12 (by decide) ?_
    refine P.sipush (pc := 13) (v := 999) dX5_paidBack_13 (by decide) ?_
    refine P.N3F (pc := 16) cs_X5_paidBack_25 dX5_paidBack_16 rfl rfl (sp_X9_within _ _ _ _) ?_
    refine P.ifneB (pc := 19) 25 dX5_paidBack_19 (by decide) (fun c19 => ?_) (fun c19 => ?_)
    · refine P.aload_n (pc := 25) 0 dX5_paidBack_25 rfl rfl ?_
      refine P.iload_n (pc := 26) 1 dX5_paidBack_26 rfl rfl ?_
      refine P.V1F (pc := 27) cs_X5_paidBack_29 dX5_paidBack_27 rfl rfl rfl (sp_X5_latestDay hc hm _) ?_
      refine P.istore_n (pc := 30) 3 dX5_paidBack_30 rfl (by decide) rfl ?_
      refine P.iconst (pc := 31) (v := 0) dX5_paidBack_31 (by decide) ?_
      refine P.istore (pc := 32) 4 dX5_paidBack_32 (by decide) rfl ?_
      refine P.iconst (pc := 34) (v := 0) dX5_paidBack_34 (by decide) ?_
      refine P.istore (pc := 35) 5 dX5_paidBack_35 (by decide) rfl ?_
      rw [if_neg (by grind)]
      exact lp _ m 0 _ _ (by omega) rfl rfl
    · refine P.bipush (pc := 22) (v := -2) dX5_paidBack_22 (by decide) ?_
      refine P.iret (pc := 24) dX5_paidBack_24 rfl ?_
      exact ⟨by rw [if_pos (by grind)], rfl⟩
theorem sp_X9_pays {n : Nat → Nat} {σ M : xM} (I : Iv n σ) (R : RX n σ M) (d no : Int32) : SpI mX9_pays [.ref 0, .int d, .int no] M (PX (o_pays n σ d no) M) := by
  have hc : M 38 0 = nI (n 5) := R.2.2 (38, 0, 5) (by decide)
  have a1 := R.1 39 (by decide)
  have a2 := R.1 40 (by decide)
  have a3 := R.1 41 (by decide)
  refine P.aload_n (pc := 0) 0 dX9_pays_0 rfl rfl ?_
  refine P.getR (pc := 1) fl_X9_47 dX9_pays_1 rfl rfl ?_
  refine P.iload_n (pc := 4) 1 dX9_pays_4 rfl rfl ?_
  refine P.iload_n (pc := 5) 2 dX9_pays_5 rfl rfl ?_
  refine P.V2F (pc := 6) cs_X9_pays_201 dX9_pays_6 rfl rfl rfl (sp_X5_paidBack hc I.2.2.2.2.1.1 _ _) ?_
  refine P.iret (pc := 9) dX9_pays_9 rfl ?_
  exact pxI (by rw [o_pays, a1, a2, a3]; split <;> rfl) R frX.rf
theorem sp_X5_add {n : Nat → Nat} {σ M : xM} (I : Iv n σ) (R : RX n σ M) (d no h : Int32) : SpI mX5_add [.ref 38, .int d, .int no, .int h] M (PX (o_list n σ d no h) M) := by
  have hc : M 38 0 = nI (n 5) := R.2.2 (38, 0, 5) (by decide)
  have a1 := R.1 39 (by decide)
  have a2 := R.1 40 (by decide)
  have a3 := R.1 41 (by decide)
  have b1 : n 5 ≤ 30 := I.2.2.2.2.1.1
  refine P.iload_n (pc := 0) 1 dX5_add_0 rfl rfl ?_
  refine P.iconst (pc := 1) (v := 0) dX5_add_1 (by decide) ?_
  refine P.sipush (pc := 2) (v := 999) dX5_add_2 (by decide) ?_
  refine P.N3F (pc := 5) cs_X5_add_25 dX5_add_5 rfl rfl (sp_X9_within _ _ _ _) ?_
  refine P.ifeqB (pc := 8) 31 dX5_add_8 (by decide) (fun c8 => ?_) (fun c8 => ?_)
  · refine P.bipush (pc := 31) (v := -2) dX5_add_31 (by decide) ?_
    refine P.iret (pc := 33) dX5_add_33 rfl ?_
    exact pxI (by grind [o_list]) R frX.rf
  · refine P.iload_n (pc := 11) 2 dX5_add_11 rfl rfl ?_
    refine P.iconst (pc := 12) (v := 0) dX5_add_12 (by decide) ?_
    refine P.bipush (pc := 13) (v := 99) dX5_add_13 (by decide) ?_
    refine P.N3F (pc := 15) cs_X5_add_25 dX5_add_15 rfl rfl (sp_X9_within _ _ _ _) ?_
    refine P.ifeqB (pc := 18) 31 dX5_add_18 (by decide) (fun c18 => ?_) (fun c18 => ?_)
    · refine P.bipush (pc := 31) (v := -2) dX5_add_31 (by decide) ?_
      refine P.iret (pc := 33) dX5_add_33 rfl ?_
      exact pxI (by grind [o_list]) R frX.rf
    · refine P.iload_n (pc := 21) 3 dX5_add_21 rfl rfl ?_
      refine P.iconst (pc := 22) (v := 0) dX5_add_22 (by decide) ?_
      refine P.bipush (pc := 23) (v := 100) dX5_add_23 (by decide) ?_
      refine P.N3F (pc := 25) cs_X5_add_25 dX5_add_25 rfl rfl (sp_X9_within _ _ _ _) ?_
      refine P.ifneB (pc := 28) 34 dX5_add_28 (by decide) (fun c28 => ?_) (fun c28 => ?_)
      · refine P.aload_n (pc := 34) 0 dX5_add_34 rfl rfl ?_
        refine P.getI (pc := 35) fl_X5_9 dX5_add_35 rfl rfl ?_
        refine P.bipush (pc := 38) (v := 30) dX5_add_38 (by decide) ?_
        refine P.iclt (pc := 40) 46 dX5_add_40 (by decide) (fun c40 => ?_) (fun c40 => ?_)
        · refine P.aload_n (pc := 46) 0 dX5_add_46 rfl rfl ?_
          refine P.getR (pc := 47) fl_X5_15 dX5_add_47 rfl rfl ?_
          refine P.aload_n (pc := 50) 0 dX5_add_50 rfl rfl ?_
          refine P.getI (pc := 51) fl_X5_9 dX5_add_51 rfl rfl ?_
          rw [hc]
          refine P.iload_n (pc := 54) 1 dX5_add_54 rfl rfl ?_
          refine P.isN (pc := 55) _ dX5_add_55 rfl rfl rfl (by first | omega | grind [nT]) ?_
          refine P.aload_n (pc := 56) 0 dX5_add_56 rfl rfl ?_
          refine P.getR (pc := 57) fl_X5_19 dX5_add_57 rfl rfl ?_
          refine P.aload_n (pc := 60) 0 dX5_add_60 rfl rfl ?_
          refine P.getI (pc := 61) fl_X5_9 dX5_add_61 rfl rfl ?_
          simp only [xw_ap, Nat.reduceEqDiff, ↓reduceIte, hc]
          refine P.iload_n (pc := 64) 2 dX5_add_64 rfl rfl ?_
          refine P.isN (pc := 65) _ dX5_add_65 rfl rfl rfl (by first | omega | grind [nT]) ?_
          refine P.aload_n (pc := 66) 0 dX5_add_66 rfl rfl ?_
          refine P.getR (pc := 67) fl_X5_22 dX5_add_67 rfl rfl ?_
          refine P.aload_n (pc := 70) 0 dX5_add_70 rfl rfl ?_
          refine P.getI (pc := 71) fl_X5_9 dX5_add_71 rfl rfl ?_
          simp only [xw_ap, Nat.reduceEqDiff, ↓reduceIte, hc]
          refine P.iload_n (pc := 74) 3 dX5_add_74 rfl rfl ?_
          refine P.isN (pc := 75) _ dX5_add_75 rfl rfl rfl (by first | omega | grind [nT]) ?_
          refine P.aload_n (pc := 76) 0 dX5_add_76 rfl rfl ?_
          refine P.dup (pc := 77) dX5_add_77 rfl ?_
          refine P.getI (pc := 78) fl_X5_9 dX5_add_78 rfl rfl ?_
          simp only [xw_ap, Nat.reduceEqDiff, ↓reduceIte, hc]
          refine P.iconst (pc := 81) (v := 1) dX5_add_81 (by decide) ?_
          refine P.iadd (pc := 82) dX5_add_82 ?_
          refine P.put (pc := 83) fp_X5_9 dX5_add_83 rfl rfl ?_
          refine P.aload_n (pc := 86) 0 dX5_add_86 rfl rfl ?_
          refine P.getI (pc := 87) fl_X5_9 dX5_add_87 rfl rfl ?_
          simp only [xw_ap, upd_ap, Nat.reduceEqDiff, ↓reduceIte, hc, nI_1]
          refine P.iret (pc := 90) dX5_add_90 rfl ?_
          rw [a1, a2, a3]
          exact pxI (by rw [o_list, if_neg (by grind), if_neg (by grind [nT])]) ((((R.arr (by decide) _).arr (by decide) _).arr (by decide) _).cnt (by decide) _) ((((frX.rf.w (by decide) _).w (by decide) _).w (by decide) _).w (by decide) _)
        · refine P.bipush (pc := 43) (v := -4) dX5_add_43 (by decide) ?_
          refine P.iret (pc := 45) dX5_add_45 rfl ?_
          exact pxI (by grind [o_list, nT]) R frX.rf
      · refine P.bipush (pc := 31) (v := -2) dX5_add_31 (by decide) ?_
        refine P.iret (pc := 33) dX5_add_33 rfl ?_
        exact pxI (by grind [o_list]) R frX.rf
theorem sp_X9_list {n : Nat → Nat} {σ M : xM} (I : Iv n σ) (R : RX n σ M) (d no h : Int32) : SpI mX9_list [.ref 0, .int d, .int no, .int h] M (PX (o_list n σ d no h) M) := by
  refine P.aload_n (pc := 0) 0 dX9_list_0 rfl rfl ?_
  refine P.getR (pc := 1) fl_X9_47 dX9_list_1 rfl rfl ?_
  refine P.iload_n (pc := 4) 1 dX9_list_4 rfl rfl ?_
  refine P.iload_n (pc := 5) 2 dX9_list_5 rfl rfl ?_
  refine P.iload_n (pc := 6) 3 dX9_list_6 rfl rfl ?_
  refine P.V3I (pc := 7) cs_X9_list_200 dX9_list_7 rfl rfl rfl (sp_X5_add I R _ _ _) (fun v7 M7 h7 => ?_)
  refine P.iret (pc := 10) dX9_list_10 rfl ?_
  exact ⟨_, rfl, h7⟩
