/-! children and groups: the reference -/
theorem sp_X10_manyIn {M : xM} {m : Nat} (hc : M 46 34 = nI m) (hm : m ≤ 40) (g : Int32) : SpF mX10_manyIn [.ref 46, .int g] M (nI (xcnt (M 76) g m)) := by
  have lp : ∀ (k i : Nat) (x a : Int32), i + k = m → x = nI i → a = nI (xcnt (M 76) g i) → P mX10_manyIn 4 [some (.ref 46), some (.int g), some (.int a), some (.int x)] [] M (fun r M' => r = some (.int (nI (xcnt (M 76) g m))) ∧ M' = M) := by
    intro k
    induction k with
    | zero =>
      intro i x a hi hx ha
      subst hx ha
      refine P.iload_n (pc := 4) 3 dX10_manyIn_4 rfl rfl ?_
      refine P.aload_n (pc := 5) 0 dX10_manyIn_5 rfl rfl ?_
      refine P.getI (pc := 6) fl_X10_223 dX10_manyIn_6 rfl rfl ?_
      refine P.icge (pc := 9) 36 dX10_manyIn_9 (by decide) (fun c9 => ?_) (fun c9 => ?_)
      · refine P.iload_n (pc := 36) 2 dX10_manyIn_36 rfl rfl ?_
        refine P.iret (pc := 37) dX10_manyIn_37 rfl ?_
        exact ⟨by rw [show i = m from hi], rfl⟩
      · exact absurd (show M 46 34 ≤ nI i by grind [nT]) c9--.
    | succ k ih =>
      intro i x a hi hx ha
      subst hx ha
      refine P.iload_n (pc := 4) 3 dX10_manyIn_4 rfl rfl ?_
      refine P.aload_n (pc := 5) 0 dX10_manyIn_5 rfl rfl ?_
      refine P.getI (pc := 6) fl_X10_223 dX10_manyIn_6 rfl rfl ?_
      refine P.icge (pc := 9) 36 dX10_manyIn_9 (by decide) (fun c9 => ?_) (fun c9 => ?_)
      · exact absurd c9 (by grind [nT])--.
      · refine P.iload_n (pc := 12) 2 dX10_manyIn_12 rfl rfl ?_
        refine P.aload_n (pc := 13) 0 dX10_manyIn_13 rfl rfl ?_
        refine P.getR (pc := 14) fl_X10_105 dX10_manyIn_14 rfl rfl ?_
        refine P.iload_n (pc := 17) 3 dX10_manyIn_17 rfl rfl ?_
        refine P.iaN (pc := 18) _ dX10_manyIn_18 rfl rfl rfl (by first | omega | grind [nT]) ?_
        refine P.iload_n (pc := 19) 1 dX10_manyIn_19 rfl rfl ?_
        refine P.icne (pc := 20) 27 dX10_manyIn_20 (by decide) (fun c20 => ?_) (fun c20 => ?_)
        · refine P.iconst (pc := 27) (v := 0) dX10_manyIn_27 (by decide) ?_
          refine P.iadd (pc := 28) dX10_manyIn_28 ?_
          refine P.istore_n (pc := 29) 2 dX10_manyIn_29 rfl (by decide) rfl ?_
          refine P.iinc (pc := 30) 3 1 dX10_manyIn_30 rfl (by decide) (by decide) rfl ?_
          refine P.goto (pc := 33) 4 dX10_manyIn_33 (by decide) ?_
          exact ih (i + 1) _ _ (by omega) (nI_1 i) (by rw [xcnt]; first | rw [if_pos c20, nI_1] | rw [if_neg c20]; exact Int32.add_zero _)
        · refine P.iconst (pc := 23) (v := 1) dX10_manyIn_23 (by decide) ?_
          refine P.goto (pc := 24) 28 dX10_manyIn_24 (by decide) ?_
          refine P.iadd (pc := 28) dX10_manyIn_28 ?_
          refine P.istore_n (pc := 29) 2 dX10_manyIn_29 rfl (by decide) rfl ?_
          refine P.iinc (pc := 30) 3 1 dX10_manyIn_30 rfl (by decide) (by decide) rfl ?_
          refine P.goto (pc := 33) 4 dX10_manyIn_33 (by decide) ?_
          exact ih (i + 1) _ _ (by omega) (nI_1 i) (by rw [xcnt]; first | rw [if_pos c20, nI_1] | rw [if_neg c20]; exact Int32.add_zero _)
  refine P.iconst (pc := 0) (v := 0) dX10_manyIn_0 (by decide) ?_
  refine P.istore_n (pc := 1) 2 dX10_manyIn_1 rfl (by decide) rfl ?_
  refine P.iconst (pc := 2) (v := 0) dX10_manyIn_2 (by decide) ?_
  refine P.istore_n (pc := 3) 3 dX10_manyIn_3 rfl (by decide) rfl ?_
  exact lp m 0 _ _ (by omega) rfl rfl
theorem sp_X10_isChild {M : xM} {m : Nat} (hn : M 46 34 = nI m) (h40 : m ≤ 40) (v : Int32) : SpF mX10_isChild [.ref 46, .int v] M (bI (xin m v)) := by
  refine P.iload_n (pc := 0) 1 dX10_isChild_0 rfl rfl ?_
  refine P.i2l (pc := 1) dX10_isChild_1 ?_
  refine P.lconst (pc := 2) (v := 0) dX10_isChild_2 (by decide) ?_
  refine P.aload_n (pc := 3) 0 dX10_isChild_3 rfl rfl ?_
  refine P.getI (pc := 4) fl_X10_223 dX10_isChild_4 rfl rfl ?_
  refine P.iconst (pc := 7) (v := 1) dX10_isChild_7 (by decide) ?_
  refine P.isub (pc := 8) dX10_isChild_8 ?_
  refine P.i2l (pc := 9) dX10_isChild_9 ?_
  refine P.S3F (pc := 10) cs_X10_isChild_132 dX10_isChild_10 rfl rfl (sp_X10_withinZ _ _ _) ?_
  refine P.zretB (pc := 13) dX10_isChild_13 rfl ?_
  exact ⟨by rw [hn, bI_c (xin_iff (by omega) v)], rfl⟩
theorem RM.ages {n : Nat → Nat} {σ M : xM} (h : RM n σ M) (a : Nat) (f t : Int32) : RM n (xw (xw σ 35 (upd (σ 35) a f)) 36 (upd (σ 36) a t)) (xw (xw M 71 (upd (M 71) a f)) 72 (upd (M 72) a t)) := by
  have i1 : ∀ q ∈ xArrM, q.1 ≠ 71 ∧ q.1 ≠ 72 ∧ q.2 ≠ 35 ∧ q.2 ≠ 36 := by decide
  have i2 : ∀ q ∈ xScalM, q.1 ≠ 71 ∧ q.1 ≠ 72 ∧ q.2.2.1 ≠ 35 ∧ q.2.2.1 ≠ 36 := by decide
  obtain ⟨h1, h2, h3, h4, h5, h6⟩ := h
  refine ⟨fun q hq => ?_, fun q hq => ?_, fun q hq => ?_, ?_, ?_, ?_⟩
  · obtain ⟨e1, e2, e3, e4⟩ := i1 q hq
    rw [xw_ap, xw_ap, xw_ap, xw_ap, if_neg e1, if_neg e2, if_neg e3, if_neg e4]; exact h1 q hq
  · obtain ⟨e1, e2, e3, e4⟩ := i2 q hq
    rw [xw_ap, xw_ap, xw_ap, xw_ap, if_neg e1, if_neg e2, if_neg e3, if_neg e4]; exact h2 q hq
  · simp only [xw_ap, Nat.reduceEqDiff, ↓reduceIte]; exact h3 q hq
  · intro j hj; simp only [xw_ap, Nat.reduceEqDiff, ↓reduceIte]; exact h4 j hj
  · intro j hj; simp only [xw_ap, Nat.reduceEqDiff, ↓reduceIte]; exact h5 j hj
  · intro g hg
    simp only [xw_ap, upd_ap, Nat.reduceEqDiff, ↓reduceIte]
    by_cases e : g = a
    · simp only [if_pos e]; exact Or.inl ⟨trivial, trivial⟩
    · simp only [if_neg e]; exact h6 g hg
theorem sp_X10_group {n : Nat → Nat} {σ M : xM} (I : Iv n σ) (R : RM n σ M) (g f t m : Int32) : SpI mX10_group [.ref 46, .int g, .int f, .int t, .int m] M (PM (o_group n σ g f t m) M) := by
  have hc : M 46 34 = nI (n 3) := R.2.2.1 (34, 3) (by decide)
  have b3 : n 3 ≤ 40 := I.2.2.2.1.1
  have a3 := R.1 (73, 37) (by decide)
  have a4 := R.1 (76, 32) (by decide)
  have cl := xcnt_le (σ 32) g (n 3)
  dsimp only at a3 a4
  have lp : ∀ (hg : 0 ≤ g ∧ g ≤ 3 ∧ 0 ≤ f ∧ f ≤ 17 ∧ f ≤ t ∧ t ≤ 17 ∧ 1 ≤ m ∧ m ≤ 20) (k i : Nat) (x : Int32), i + k = 4 → x = nI i → (∀ z, z < i → ¬ (¬ nI z = g ∧ f ≤ σ 36 z ∧ σ 35 z ≤ t)) → P mX10_group 56 [some (.ref 46), some (.int g), some (.int f), some (.int t), some (.int m), some (.int x)] [] M (fun r M' => ∃ v, r = some (.int v) ∧ PM (o_group n σ g f t m) M v M') := by
    intro hg k
    induction k with
    | zero =>
      intro i x hi hx hr
      subst hx
      have no : ¬ xovl σ g f t := fun ⟨z, q1, q2⟩ => hr z (by omega) q2
      refine P.iload (pc := 56) 5 dX10_group_56 rfl ?_
      refine P.iconst (pc := 58) (v := 4) dX10_group_58 (by decide) ?_
      refine P.icge (pc := 59) 99 dX10_group_59 (by decide) (fun c59 => ?_) (fun c59 => ?_)
      · refine P.aload_n (pc := 99) 0 dX10_group_99 rfl rfl ?_
        refine P.iload_n (pc := 100) 1 dX10_group_100 rfl rfl ?_
        refine P.V1F (pc := 101) cs_X10_group_232 dX10_group_101 rfl rfl rfl (sp_X10_manyIn hc b3 _) ?_
        rw [a4]
        refine P.ifle (pc := 104) 110 dX10_group_104 (by decide) (fun c104 => ?_) (fun c104 => ?_)
        · obtain ⟨a, ha, rfl⟩ := s_nat hg.1 hg.2.1
          have ck := nI_clamp (n := a) (by omega)
          refine P.aload_n (pc := 110) 0 dX10_group_110 rfl rfl ?_
          refine P.getR (pc := 111) fl_X10_90 dX10_group_111 rfl rfl ?_
          refine P.iload_n (pc := 114) 1 dX10_group_114 rfl rfl ?_
          refine P.iload_n (pc := 115) 2 dX10_group_115 rfl rfl ?_
          refine P.isN (pc := 116) _ dX10_group_116 rfl rfl rfl (by first | omega | grind [nT]) ?_
          refine P.aload_n (pc := 117) 0 dX10_group_117 rfl rfl ?_
          refine P.getR (pc := 118) fl_X10_93 dX10_group_118 rfl rfl ?_
          refine P.iload_n (pc := 121) 1 dX10_group_121 rfl rfl ?_
          refine P.iload_n (pc := 122) 3 dX10_group_122 rfl rfl ?_
          refine P.isN (pc := 123) _ dX10_group_123 rfl rfl rfl (by first | omega | grind [nT]) ?_
          refine P.aload_n (pc := 124) 0 dX10_group_124 rfl rfl ?_
          refine P.getR (pc := 125) fl_X10_96 dX10_group_125 rfl rfl ?_
          refine P.iload_n (pc := 128) 1 dX10_group_128 rfl rfl ?_
          refine P.iload (pc := 129) 4 dX10_group_129 rfl ?_
          refine P.isN (pc := 131) _ dX10_group_131 rfl rfl rfl (by first | omega | grind [nT]) ?_
          refine P.iconst (pc := 132) (v := 1) dX10_group_132 (by decide) ?_
          refine P.iret (pc := 133) dX10_group_133 rfl ?_
          refine pmI ?_ ((R.ages a f t).arr (a := 73) (c := 37) (by decide) _) (((frM.rf.w (by decide) _).w (by decide) _).w (by decide) _)
          rw [o_group, if_neg (by grind), if_neg ((nI_le0 (by omega)).mp c104), ck]
          simp only [xw_ap, Nat.reduceEqDiff, ↓reduceIte, a3]
        · refine P.bipush (pc := 107) (v := -3) dX10_group_107 (by decide) ?_
          refine P.iret (pc := 109) dX10_group_109 rfl ?_
          exact pmI (by rw [o_group, if_neg (by grind), if_pos (Classical.byContradiction fun q => c104 ((nI_le0 (by omega)).mpr q))]) R frM.rf
      · exact absurd (show (4 : Int32) ≤ nI i by grind [nT]) c59--.
    | succ k ih =>
      intro i x hi hx hr
      subst hx
      have hg6 := R.2.2.2.2.2 i (by omega)
      refine P.iload (pc := 56) 5 dX10_group_56 rfl ?_
      refine P.iconst (pc := 58) (v := 4) dX10_group_58 (by decide) ?_
      refine P.icge (pc := 59) 99 dX10_group_59 (by decide) (fun c59 => ?_) (fun c59 => ?_)
      · exact absurd c59 (by grind [nT])--.
      · refine P.iload (pc := 62) 5 dX10_group_62 rfl ?_
        refine P.iload_n (pc := 64) 1 dX10_group_64 rfl rfl ?_
        refine P.iceq (pc := 65) 93 dX10_group_65 (by decide) (fun c65 => ?_) (fun c65 => ?_)
        · refine P.iinc (pc := 93) 5 1 dX10_group_93 rfl (by decide) (by decide) rfl ?_
          refine P.goto (pc := 96) 56 dX10_group_96 (by decide) ?_
          exact ih (i + 1) _ (by omega) (nI_1 i) (fun z q1 => by
            by_cases e : z = i
            · subst e; grind
            · exact hr z (by omega))
        · refine P.aload_n (pc := 68) 0 dX10_group_68 rfl rfl ?_
          refine P.getR (pc := 69) fl_X10_90 dX10_group_69 rfl rfl ?_
          refine P.iload (pc := 72) 5 dX10_group_72 rfl ?_
          refine P.iaN (pc := 74) _ dX10_group_74 rfl rfl rfl (by first | omega | grind [nT]) ?_
          refine P.iload_n (pc := 75) 3 dX10_group_75 rfl rfl ?_
          refine P.icgt (pc := 76) 93 dX10_group_76 (by decide) (fun c76 => ?_) (fun c76 => ?_)
          · refine P.iinc (pc := 93) 5 1 dX10_group_93 rfl (by decide) (by decide) rfl ?_
            refine P.goto (pc := 96) 56 dX10_group_96 (by decide) ?_
            exact ih (i + 1) _ (by omega) (nI_1 i) (fun z q1 => by
              by_cases e : z = i
              · subst e; grind
              · exact hr z (by omega))
          · refine P.iload_n (pc := 79) 2 dX10_group_79 rfl rfl ?_
            refine P.aload_n (pc := 80) 0 dX10_group_80 rfl rfl ?_
            refine P.getR (pc := 81) fl_X10_93 dX10_group_81 rfl rfl ?_
            refine P.iload (pc := 84) 5 dX10_group_84 rfl ?_
            refine P.iaN (pc := 86) _ dX10_group_86 rfl rfl rfl (by first | omega | grind [nT]) ?_
            refine P.icgt (pc := 87) 93 dX10_group_87 (by decide) (fun c87 => ?_) (fun c87 => ?_)
            · refine P.iinc (pc := 93) 5 1 dX10_group_93 rfl (by decide) (by decide) rfl ?_
              refine P.goto (pc := 96) 56 dX10_group_96 (by decide) ?_
              exact ih (i + 1) _ (by omega) (nI_1 i) (fun z q1 => by
                by_cases e : z = i
                · subst e; grind
                · exact hr z (by omega))
            · refine P.bipush (pc := 90) (v := -2) dX10_group_90 (by decide) ?_
              refine P.iret (pc := 92) dX10_group_92 rfl ?_
              exact pmI (by rw [o_group, if_pos (Or.inr ⟨i, by omega, c65, by grind, by grind⟩)]) R frM.rf
  refine P.iload_n (pc := 0) 1 dX10_group_0 rfl rfl ?_
  refine P.i2l (pc := 1) dX10_group_1 ?_
  refine P.lconst (pc := 2) (v := 0) dX10_group_2 (by decide) ?_
  refine P.ldc2 (pc := 3) kc_X10_226 dX10_group_3 ?_
  refine P.S3F (pc := 6) cs_X10_group_132 dX10_group_6 rfl rfl (sp_X10_within _ _ _ _) ?_
  refine P.ifeqB (pc := 9) 50 dX10_group_9 (by decide) (fun c9 => ?_) (fun c9 => ?_)
  · refine P.bipush (pc := 50) (v := -2) dX10_group_50 (by decide) ?_
    refine P.iret (pc := 52) dX10_group_52 rfl ?_
    exact pmI (by rw [o_group, if_pos (by grind [nW])]) R frM.rf
  · refine P.iload_n (pc := 12) 2 dX10_group_12 rfl rfl ?_
    refine P.i2l (pc := 13) dX10_group_13 ?_
    refine P.lconst (pc := 14) (v := 0) dX10_group_14 (by decide) ?_
    refine P.ldc2 (pc := 15) kc_X10_228 dX10_group_15 ?_
    refine P.S3F (pc := 18) cs_X10_group_132 dX10_group_18 rfl rfl (sp_X10_within _ _ _ _) ?_
    refine P.ifeqB (pc := 21) 50 dX10_group_21 (by decide) (fun c21 => ?_) (fun c21 => ?_)
    · refine P.bipush (pc := 50) (v := -2) dX10_group_50 (by decide) ?_
      refine P.iret (pc := 52) dX10_group_52 rfl ?_
      exact pmI (by rw [o_group, if_pos (by grind [nW])]) R frM.rf
    · refine P.iload_n (pc := 24) 3 dX10_group_24 rfl rfl ?_
      refine P.i2l (pc := 25) dX10_group_25 ?_
      refine P.iload_n (pc := 26) 2 dX10_group_26 rfl rfl ?_
      refine P.i2l (pc := 27) dX10_group_27 ?_
      refine P.ldc2 (pc := 28) kc_X10_228 dX10_group_28 ?_
      refine P.S3F (pc := 31) cs_X10_group_132 dX10_group_31 rfl rfl (sp_X10_within _ _ _ _) ?_
      refine P.ifeqB (pc := 34) 50 dX10_group_34 (by decide) (fun c34 => ?_) (fun c34 => ?_)
      · refine P.bipush (pc := 50) (v := -2) dX10_group_50 (by decide) ?_
        refine P.iret (pc := 52) dX10_group_52 rfl ?_
        exact pmI (by rw [o_group, if_pos (by grind [nW])]) R frM.rf
      · refine P.iload (pc := 37) 4 dX10_group_37 rfl ?_
        refine P.i2l (pc := 39) dX10_group_39 ?_
        refine P.lconst (pc := 40) (v := 1) dX10_group_40 (by decide) ?_
        refine P.ldc2 (pc := 41) kc_X10_230 dX10_group_41 ?_
        refine P.S3F (pc := 44) cs_X10_group_132 dX10_group_44 rfl rfl (sp_X10_within _ _ _ _) ?_
        refine P.ifneB (pc := 47) 53 dX10_group_47 (by decide) (fun c47 => ?_) (fun c47 => ?_)
        · refine P.iconst (pc := 53) (v := 0) dX10_group_53 (by decide) ?_
          refine P.istore (pc := 54) 5 dX10_group_54 (by decide) rfl ?_
          exact lp (by grind [nW]) 4 0 _ (by omega) rfl (fun z q1 => by omega)
        · refine P.bipush (pc := 50) (v := -2) dX10_group_50 (by decide) ?_
          refine P.iret (pc := 52) dX10_group_52 rfl ?_
          exact pmI (by rw [o_group, if_pos (by grind [nW])]) R frM.rf
theorem sp_X10_child {n : Nat → Nat} {σ M : xM} (I : Iv n σ) (R : RM n σ M) (p a : Int32) : SpI mX10_child [.ref 46, .int p, .int a] M (PM (o_child n σ p a) M) := by
  have hc0 : M 46 3 = nI (n 1) := R.2.2.1 (3, 1) (by decide)
  have b2 : n 1 ≤ 24 := I.1.2.1
  have hc : M 46 34 = nI (n 3) := R.2.2.1 (34, 3) (by decide)
  have b3 : n 3 ≤ 40 := I.2.2.2.1.1
  have a1 := R.1 (74, 33) (by decide)
  have a2 := R.1 (75, 34) (by decide)
  have a3 := R.1 (76, 32) (by decide)
  have a4 := R.1 (50, 7) (by decide)
  dsimp only at a1 a2 a3 a4
  have lp : ∀ (p : Nat) (hp : p < n 1) (hg : 0 ≤ a ∧ a ≤ 17) (k i : Nat) (x c : Int32), i + k = n 3 → x = nI i → c = nI (xcnt (σ 33) (nI p) i) → P mX10_child 28 [some (.ref 46), some (.int (nI p)), some (.int a), some (.int c), some (.int x)] [] M (fun r M' => ∃ v, r = some (.int v) ∧ PM (o_child n σ (nI p) a) M v M') := by
    intro p hp hg k
    have ck := nI_clamp (n := p) (by omega)
    have xp : xin (n 1) (nI p) := ⟨p, hp, rfl⟩
    have cl := xcnt_le (σ 33) (nI p) (n 3)
    have kid := I.2.2.2.1.2.2.1 p hp
    induction k with
    | zero =>
      intro i x c hi hx hr
      subst hx
      rw [show i = n 3 from hi] at *
      subst hr
      refine P.iload (pc := 28) 4 dX10_child_28 rfl ?_
      refine P.aload_n (pc := 30) 0 dX10_child_30 rfl rfl ?_
      refine P.getI (pc := 31) fl_X10_223 dX10_child_31 rfl rfl ?_
      refine P.icge (pc := 34) 62 dX10_child_34 (by decide) (fun c34 => ?_) (fun c34 => ?_)
      · refine P.aload_n (pc := 62) 0 dX10_child_62 rfl rfl ?_
        refine P.getI (pc := 63) fl_X10_223 dX10_child_63 rfl rfl ?_
        refine P.bipush (pc := 66) (v := 40) dX10_child_66 (by decide) ?_
        refine P.iceq (pc := 68) 81 dX10_child_68 (by decide) (fun c68 => ?_) (fun c68 => ?_)
        · refine P.bipush (pc := 81) (v := -4) dX10_child_81 (by decide) ?_
          refine P.iret (pc := 83) dX10_child_83 rfl ?_
          first | exact pmI (by rw [o_child, if_neg (by grind), ck, if_pos (Or.inl (by grind [nT]))]) R frM.rf | exact pmI (by rw [o_child, if_neg (by grind), ck, if_pos (Or.inr (by grind))]) R frM.rf
        · refine P.iload_n (pc := 71) 3 dX10_child_71 rfl rfl ?_
          refine P.aload_n (pc := 72) 0 dX10_child_72 rfl rfl ?_
          refine P.getR (pc := 73) fl_X10_19 dX10_child_73 rfl rfl ?_
          refine P.iload_n (pc := 76) 1 dX10_child_76 rfl rfl ?_
          refine P.iaN (pc := 77) _ dX10_child_77 rfl rfl rfl (by first | omega | grind [nT]) ?_
          refine P.icne (pc := 78) 84 dX10_child_78 (by decide) (fun c78 => ?_) (fun c78 => ?_)
          · refine P.aload_n (pc := 84) 0 dX10_child_84 rfl rfl ?_
            refine P.getR (pc := 85) fl_X10_99 dX10_child_85 rfl rfl ?_
            refine P.aload_n (pc := 88) 0 dX10_child_88 rfl rfl ?_
            refine P.getI (pc := 89) fl_X10_223 dX10_child_89 rfl rfl ?_
            rw [hc]
            refine P.iload_n (pc := 92) 1 dX10_child_92 rfl rfl ?_
            refine P.isN (pc := 93) _ dX10_child_93 rfl rfl rfl (by first | omega | grind [nT]) ?_
            refine P.aload_n (pc := 94) 0 dX10_child_94 rfl rfl ?_
            refine P.getR (pc := 95) fl_X10_102 dX10_child_95 rfl rfl ?_
            refine P.aload_n (pc := 98) 0 dX10_child_98 rfl rfl ?_
            refine P.getI (pc := 99) fl_X10_223 dX10_child_99 rfl rfl ?_
            simp only [xw_ap, Nat.reduceEqDiff, ↓reduceIte, hc]
            refine P.iload_n (pc := 102) 2 dX10_child_102 rfl rfl ?_
            refine P.isN (pc := 103) _ dX10_child_103 rfl rfl rfl (by first | omega | grind [nT]) ?_
            refine P.aload_n (pc := 104) 0 dX10_child_104 rfl rfl ?_
            refine P.getR (pc := 105) fl_X10_105 dX10_child_105 rfl rfl ?_
            refine P.aload_n (pc := 108) 0 dX10_child_108 rfl rfl ?_
            refine P.getI (pc := 109) fl_X10_223 dX10_child_109 rfl rfl ?_
            simp only [xw_ap, Nat.reduceEqDiff, ↓reduceIte, hc]
            refine P.iconst (pc := 112) (v := -1) dX10_child_112 (by decide) ?_
            refine P.isN (pc := 113) _ dX10_child_113 rfl rfl rfl (by first | omega | grind [nT]) ?_
            refine P.aload_n (pc := 114) 0 dX10_child_114 rfl rfl ?_
            refine P.dup (pc := 115) dX10_child_115 rfl ?_
            refine P.getI (pc := 116) fl_X10_223 dX10_child_116 rfl rfl ?_
            simp only [xw_ap, Nat.reduceEqDiff, ↓reduceIte, hc]
            refine P.iconst (pc := 119) (v := 1) dX10_child_119 (by decide) ?_
            refine P.iadd (pc := 120) dX10_child_120 ?_
            refine P.put (pc := 121) fp_X10_223 dX10_child_121 rfl rfl ?_
            refine P.aload_n (pc := 124) 0 dX10_child_124 rfl rfl ?_
            refine P.getI (pc := 125) fl_X10_223 dX10_child_125 rfl rfl ?_
            simp only [xw_ap, upd_ap, Nat.reduceEqDiff, ↓reduceIte, hc]
            refine P.iconst (pc := 128) (v := 1) dX10_child_128 (by decide) ?_
            refine P.isub (pc := 129) dX10_child_129 ?_
            rw [nI_1, nI_pred]
            refine P.iret (pc := 130) dX10_child_130 rfl ?_
            rw [a1]
            refine pmI ?_ ((((R.arr (a := 74) (c := 33) (by decide) _).arr (a := 75) (c := 34) (by decide) _).arr (a := 76) (c := 32) (by decide) _).cnt (i := 3) (by decide) (n 3 + 1) (fun e => absurd e (by decide))) ((((frM.rf.w (by decide) _).w (by decide) _).w (by decide) _).w (by decide) _)
            rw [o_child, if_neg (by grind), ck, if_neg (fun q => q.elim (fun z => by grind [nT]) (fun z => by grind))]
            simp only [xw_ap, Nat.reduceEqDiff, ↓reduceIte, a2, a3]
          · refine P.bipush (pc := 81) (v := -4) dX10_child_81 (by decide) ?_
            refine P.iret (pc := 83) dX10_child_83 rfl ?_
            first | exact pmI (by rw [o_child, if_neg (by grind), ck, if_pos (Or.inl (by grind [nT]))]) R frM.rf | exact pmI (by rw [o_child, if_neg (by grind), ck, if_pos (Or.inr (by grind))]) R frM.rf
      · exact absurd (show M 46 34 ≤ nI (n 3) by grind) c34--.
    | succ k ih =>
      intro i x c hi hx hr
      subst hx hr
      refine P.iload (pc := 28) 4 dX10_child_28 rfl ?_
      refine P.aload_n (pc := 30) 0 dX10_child_30 rfl rfl ?_
      refine P.getI (pc := 31) fl_X10_223 dX10_child_31 rfl rfl ?_
      refine P.icge (pc := 34) 62 dX10_child_34 (by decide) (fun c34 => ?_) (fun c34 => ?_)
      · exact absurd c34 (by grind [nT])--.
      · refine P.iload_n (pc := 37) 3 dX10_child_37 rfl rfl ?_
        refine P.aload_n (pc := 38) 0 dX10_child_38 rfl rfl ?_
        refine P.getR (pc := 39) fl_X10_99 dX10_child_39 rfl rfl ?_
        refine P.iload (pc := 42) 4 dX10_child_42 rfl ?_
        refine P.iaN (pc := 44) _ dX10_child_44 rfl rfl rfl (by first | omega | grind [nT]) ?_
        refine P.iload_n (pc := 45) 1 dX10_child_45 rfl rfl ?_
        refine P.icne (pc := 46) 53 dX10_child_46 (by decide) (fun c46 => ?_) (fun c46 => ?_)
        · refine P.iconst (pc := 53) (v := 0) dX10_child_53 (by decide) ?_
          refine P.iadd (pc := 54) dX10_child_54 ?_
          refine P.istore_n (pc := 55) 3 dX10_child_55 rfl (by decide) rfl ?_
          refine P.iinc (pc := 56) 4 1 dX10_child_56 rfl (by decide) (by decide) rfl ?_
          refine P.goto (pc := 59) 28 dX10_child_59 (by decide) ?_
          exact ih (i + 1) _ _ (by omega) (nI_1 i) (by rw [xcnt, ← a1]; first | rw [if_pos c46, nI_1] | rw [if_neg c46]; exact Int32.add_zero _)
        · refine P.iconst (pc := 49) (v := 1) dX10_child_49 (by decide) ?_
          refine P.goto (pc := 50) 54 dX10_child_50 (by decide) ?_
          refine P.iadd (pc := 54) dX10_child_54 ?_
          refine P.istore_n (pc := 55) 3 dX10_child_55 rfl (by decide) rfl ?_
          refine P.iinc (pc := 56) 4 1 dX10_child_56 rfl (by decide) (by decide) rfl ?_
          refine P.goto (pc := 59) 28 dX10_child_59 (by decide) ?_
          exact ih (i + 1) _ _ (by omega) (nI_1 i) (by rw [xcnt, ← a1]; first | rw [if_pos c46, nI_1] | rw [if_neg c46]; exact Int32.add_zero _)
  refine P.aload_n (pc := 0) 0 dX10_child_0 rfl rfl ?_
  refine P.iload_n (pc := 1) 1 dX10_child_1 rfl rfl ?_
  refine P.V1F (pc := 2) cs_X10_child_151 dX10_child_2 rfl rfl rfl (sp_X10_isParty hc0 b2 _) ?_
  refine P.ifeqB (pc := 5) 20 dX10_child_5 (by decide) (fun c5 => ?_) (fun c5 => ?_)
  · refine P.bipush (pc := 20) (v := -2) dX10_child_20 (by decide) ?_
    refine P.iret (pc := 22) dX10_child_22 rfl ?_
    exact pmI (by rw [o_child, if_pos (by grind [nW])]) R frM.rf
  · refine P.iload_n (pc := 8) 2 dX10_child_8 rfl rfl ?_
    refine P.i2l (pc := 9) dX10_child_9 ?_
    refine P.lconst (pc := 10) (v := 0) dX10_child_10 (by decide) ?_
    refine P.ldc2 (pc := 11) kc_X10_228 dX10_child_11 ?_
    refine P.S3F (pc := 14) cs_X10_child_132 dX10_child_14 rfl rfl (sp_X10_within _ _ _ _) ?_
    refine P.ifneB (pc := 17) 23 dX10_child_17 (by decide) (fun c17 => ?_) (fun c17 => ?_)
    · refine P.iconst (pc := 23) (v := 0) dX10_child_23 (by decide) ?_
      refine P.istore_n (pc := 24) 3 dX10_child_24 rfl (by decide) rfl ?_
      refine P.iconst (pc := 25) (v := 0) dX10_child_25 (by decide) ?_
      refine P.istore (pc := 26) 4 dX10_child_26 (by decide) rfl ?_
      obtain ⟨z, hz, rfl⟩ := c5
      exact lp z hz (by grind [nW]) (n 3) 0 _ _ (by omega) rfl rfl
    · refine P.bipush (pc := 20) (v := -2) dX10_child_20 (by decide) ?_
      refine P.iret (pc := 22) dX10_child_22 rfl ?_
      exact pmI (by rw [o_child, if_pos (by grind [nW])]) R frM.rf
theorem fits_R {n : Nat → Nat} {σ M : xM} (R : RM n σ M) {g : Nat} (hg : g < 4) (a : Int32) : (M 71 g ≤ a ∧ a ≤ M 72 g) ↔ xfits σ a g := by
  have h := R.2.2.2.2.2 g hg
  unfold xfits
  constructor <;> intro q <;> grind
/-- the last that fits is the first that fits, as only one does -/
theorem xgf_last {n : Nat → Nat} {σ : xM} (I : Iv n σ) {a : Int32} {g : Nat} (hg : g < 4) (h : xfits σ a g) : xgrp σ a = nI g := by
  rcases xgf_in σ a 4 0 with q | ⟨j, -, q2, q3, q4⟩
  · exfalso
    have key : ∀ k i, i ≤ g → g < i + k → ¬ xgf σ a k i = -1 := by
      intro k
      induction k with
      | zero => intro i h1 h2; omega
      | succ k ih =>
        intro i h1 h2
        rw [xgf]
        by_cases e : xfits σ a i
        · rw [if_pos e]; grind [nT]
        · rw [if_neg e]
          have : ¬ i = g := fun e2 => e (e2 ▸ h)
          exact ih (i + 1) (by omega) (by omega)
    exact key 4 0 (Nat.zero_le _) (by omega) q
  · by_cases e : j = g
    · rw [← e]; exact q3
    · exfalso
      have := I.2.2.2.1.2.2.2.2 j g (by omega) hg e
      have e1 := I.2.2.2.1.2.2.2.1 j (by omega)
      have e2 := I.2.2.2.1.2.2.2.1 g hg
      obtain ⟨u1, u2⟩ := q4
      obtain ⟨u3, u4⟩ := h
      grind
theorem sp_X10_hand {n : Nat → Nat} {σ M : xM} (I : Iv n σ) (R : RM n σ M) (c : Int32) : SpI mX10_hand [.ref 46, .int c] M (PM (o_hand n σ c) M) := by
  have hc : M 46 34 = nI (n 3) := R.2.2.1 (34, 3) (by decide)
  have b3 : n 3 ≤ 40 := I.2.2.2.1.1
  have a1 := R.1 (75, 34) (by decide)
  have a2 := R.1 (76, 32) (by decide)
  have a3 := R.1 (73, 37) (by decide)
  dsimp only at a1 a2 a3
  have lp : ∀ (a : Nat) (ha : a < n 3) (k i : Nat) (x g : Int32), i + k = 4 → x = nI i → ((g = -1 ∧ ∀ z, z < i → ¬ xfits σ (σ 34 a) z) ∨ ∃ z, z < i ∧ g = nI z ∧ xfits σ (σ 34 a) z) → P mX10_hand 15 [some (.ref 46), some (.int (nI a)), some (.int g), some (.int x)] [] M (fun r M' => ∃ v, r = some (.int v) ∧ PM (o_hand n σ (nI a)) M v M') := by
    intro a ha k
    have ck := nI_clamp (n := a) (by omega)
    have xc : xin (n 3) (nI a) := ⟨a, ha, rfl⟩
    induction k with
    | zero =>
      intro i x g hi hx hr
      subst hx
      rw [show i = 4 from hi] at *
      have eg : g = xgrp σ (σ 34 a) := by
        rcases hr with ⟨q1, q2⟩ | ⟨z, q1, q2, q3⟩
        · rcases xgf_in σ (σ 34 a) 4 0 with q | ⟨j, -, q3, q4, q5⟩
          · rw [q1]; exact q.symm
          · exact absurd q5 (q2 j (by omega))
        · rw [q2, xgf_last I q1 q3]
      subst eg
      refine P.iload_n (pc := 15) 3 dX10_hand_15 rfl rfl ?_
      refine P.iconst (pc := 16) (v := 4) dX10_hand_16 (by decide) ?_
      refine P.icge (pc := 17) 59 dX10_hand_17 (by decide) (fun c17 => ?_) (fun c17 => ?_)
      · refine P.iload_n (pc := 59) 2 dX10_hand_59 rfl rfl ?_
        refine P.iconst (pc := 60) (v := -1) dX10_hand_60 (by decide) ?_
        refine P.iceq (pc := 61) 74 dX10_hand_61 (by decide) (fun c61 => ?_) (fun c61 => ?_)
        · refine P.bipush (pc := 74) (v := -3) dX10_hand_74 (by decide) ?_
          refine P.iret (pc := 76) dX10_hand_76 rfl ?_
          first
          | exact pmI (by rw [o_hand, if_neg (fun q => q xc), ck, if_pos (Or.inl c61)]) R frM.rf
          | (have hin := (I.2.2.2.1.2.1 a ha).2.2.2
             rcases hin with q | ⟨z, q1, q2, q3, q4⟩
             · exact absurd (by rw [a2]; exact q) c71
             · exact pmI (by rw [o_hand, if_neg (fun q => q xc), ck, if_pos (Or.inr (by rw [q2, xgf_last I q1 ⟨q3, q4⟩]))]) R frM.rf)
        · refine P.aload_n (pc := 64) 0 dX10_hand_64 rfl rfl ?_
          refine P.getR (pc := 65) fl_X10_105 dX10_hand_65 rfl rfl ?_
          refine P.iload_n (pc := 68) 1 dX10_hand_68 rfl rfl ?_
          refine P.iaN (pc := 69) _ dX10_hand_69 rfl rfl rfl (by first | omega | grind [nT]) ?_
          refine P.iconst (pc := 70) (v := -1) dX10_hand_70 (by decide) ?_
          refine P.iceq (pc := 71) 77 dX10_hand_71 (by decide) (fun c71 => ?_) (fun c71 => ?_)
          · obtain ⟨g, -, hg, eg, hf⟩ := (xgf_in σ (σ 34 a) 4 0).resolve_left c61
            rw [show xgrp σ (σ 34 a) = nI g from eg]
            have c61' : ¬ nI g = -1 := by rw [← show xgrp σ (σ 34 a) = nI g from eg]; exact c61
            refine P.aload_n (pc := 77) 0 dX10_hand_77 rfl rfl ?_
            refine P.iload_n (pc := 78) 2 dX10_hand_78 rfl rfl ?_
            refine P.V1F (pc := 79) cs_X10_hand_232 dX10_hand_79 rfl rfl rfl (sp_X10_manyIn hc b3 _) ?_
            rw [a2]
            refine P.aload_n (pc := 82) 0 dX10_hand_82 rfl rfl ?_
            refine P.getR (pc := 83) fl_X10_96 dX10_hand_83 rfl rfl ?_
            refine P.iload_n (pc := 86) 2 dX10_hand_86 rfl rfl ?_
            refine P.iaN (pc := 87) _ dX10_hand_87 rfl rfl rfl (by first | omega | grind [nT]) ?_
            refine P.iclt (pc := 88) 94 dX10_hand_88 (by decide) (fun c88 => ?_) (fun c88 => ?_)
            · refine P.aload_n (pc := 94) 0 dX10_hand_94 rfl rfl ?_
              refine P.getR (pc := 95) fl_X10_105 dX10_hand_95 rfl rfl ?_
              refine P.iload_n (pc := 98) 1 dX10_hand_98 rfl rfl ?_
              refine P.iload_n (pc := 99) 2 dX10_hand_99 rfl rfl ?_
              refine P.isN (pc := 100) (a) dX10_hand_100 rfl rfl rfl (by first | omega | grind [nT]) ?_
              refine P.iload_n (pc := 101) 2 dX10_hand_101 rfl rfl ?_
              refine P.iret (pc := 102) dX10_hand_102 rfl ?_
              rw [a2]
              exact pmI (by rw [o_hand, if_neg (fun q => q xc), ck, show xgrp σ (σ 34 a) = nI g from eg, if_neg (fun q => q.elim c61' (fun z => c61' (by rw [← z, ← a2]; exact c71))), nI_clamp (n := g) (by omega), if_neg (by rw [← a3]; exact Int32.not_le.mpr c88)]) (R.arr (a := 76) (c := 32) (by decide) _) (frM.rf.w (by decide) _)
            · refine P.bipush (pc := 91) (v := -4) dX10_hand_91 (by decide) ?_
              refine P.iret (pc := 93) dX10_hand_93 rfl ?_
              exact pmI (by rw [o_hand, if_neg (fun q => q xc), ck, show xgrp σ (σ 34 a) = nI g from eg, if_neg (fun q => q.elim c61' (fun z => c61' (by rw [← z, ← a2]; exact c71))), nI_clamp (by omega), if_pos (by rw [← a3]; exact Int32.not_lt.mp c88)]) R frM.rf
          · refine P.bipush (pc := 74) (v := -3) dX10_hand_74 (by decide) ?_
            refine P.iret (pc := 76) dX10_hand_76 rfl ?_
            first
            | exact pmI (by rw [o_hand, if_neg (fun q => q xc), ck, if_pos (Or.inl c61)]) R frM.rf
            | (have hin := (I.2.2.2.1.2.1 a ha).2.2.2
               rcases hin with q | ⟨z, q1, q2, q3, q4⟩
               · exact absurd (by rw [a2]; exact q) c71
               · exact pmI (by rw [o_hand, if_neg (fun q => q xc), ck, if_pos (Or.inr (by rw [q2, xgf_last I q1 ⟨q3, q4⟩]))]) R frM.rf)
      · exact absurd (show (4 : Int32) ≤ nI 4 by decide) c17--.
    | succ k ih =>
      intro i x g hi hx hr
      subst hx
      have fr := fits_R R (g := i) (by omega) (σ 34 a)
      refine P.iload_n (pc := 15) 3 dX10_hand_15 rfl rfl ?_
      refine P.iconst (pc := 16) (v := 4) dX10_hand_16 (by decide) ?_
      refine P.icge (pc := 17) 59 dX10_hand_17 (by decide) (fun c17 => ?_) (fun c17 => ?_)
      · exact absurd c17 (by grind [nT])--.
      · refine P.aload_n (pc := 20) 0 dX10_hand_20 rfl rfl ?_
        refine P.getR (pc := 21) fl_X10_102 dX10_hand_21 rfl rfl ?_
        refine P.iload_n (pc := 24) 1 dX10_hand_24 rfl rfl ?_
        refine P.iaN (pc := 25) _ dX10_hand_25 rfl rfl rfl (by first | omega | grind [nT]) ?_
        rw [a1]
        refine P.i2l (pc := 26) dX10_hand_26 ?_
        refine P.aload_n (pc := 27) 0 dX10_hand_27 rfl rfl ?_
        refine P.getR (pc := 28) fl_X10_90 dX10_hand_28 rfl rfl ?_
        refine P.iload_n (pc := 31) 3 dX10_hand_31 rfl rfl ?_
        refine P.iaN (pc := 32) _ dX10_hand_32 rfl rfl rfl (by first | omega | grind [nT]) ?_
        refine P.i2l (pc := 33) dX10_hand_33 ?_
        refine P.aload_n (pc := 34) 0 dX10_hand_34 rfl rfl ?_
        refine P.getR (pc := 35) fl_X10_93 dX10_hand_35 rfl rfl ?_
        refine P.iload_n (pc := 38) 3 dX10_hand_38 rfl rfl ?_
        refine P.iaN (pc := 39) _ dX10_hand_39 rfl rfl rfl (by first | omega | grind [nT]) ?_
        refine P.i2l (pc := 40) dX10_hand_40 ?_
        refine P.S3F (pc := 41) cs_X10_hand_132 dX10_hand_41 rfl rfl (sp_X10_withinL _ _ _ _) ?_
        rw [bI_c fr]
        refine P.ifeqB (pc := 44) 51 dX10_hand_44 (by decide) (fun c44 => ?_) (fun c44 => ?_)
        · refine P.iload_n (pc := 51) 2 dX10_hand_51 rfl rfl ?_
          refine P.istore_n (pc := 52) 2 dX10_hand_52 rfl (by decide) rfl ?_
          refine P.iinc (pc := 53) 3 1 dX10_hand_53 rfl (by decide) (by decide) rfl ?_
          refine P.goto (pc := 56) 15 dX10_hand_56 (by decide) ?_
          first
          | exact ih (i + 1) _ _ (by omega) (nI_1 i) (Or.inr ⟨i, by omega, rfl, c44⟩)
          | exact ih (i + 1) _ _ (by omega) (nI_1 i) (by
              rcases hr with ⟨q1, q2⟩ | ⟨z, q1, q2, q3⟩
              · refine Or.inl ⟨q1, fun z hz => ?_⟩
                by_cases e : z = i
                · rw [e]; exact c44
                · exact q2 z (by omega)
              · exact Or.inr ⟨z, by omega, q2, q3⟩)
        · refine P.iload_n (pc := 47) 3 dX10_hand_47 rfl rfl ?_
          refine P.goto (pc := 48) 52 dX10_hand_48 (by decide) ?_
          refine P.istore_n (pc := 52) 2 dX10_hand_52 rfl (by decide) rfl ?_
          refine P.iinc (pc := 53) 3 1 dX10_hand_53 rfl (by decide) (by decide) rfl ?_
          refine P.goto (pc := 56) 15 dX10_hand_56 (by decide) ?_
          first
          | exact ih (i + 1) _ _ (by omega) (nI_1 i) (Or.inr ⟨i, by omega, rfl, c44⟩)
          | exact ih (i + 1) _ _ (by omega) (nI_1 i) (by
              rcases hr with ⟨q1, q2⟩ | ⟨z, q1, q2, q3⟩
              · refine Or.inl ⟨q1, fun z hz => ?_⟩
                by_cases e : z = i
                · rw [e]; exact c44
                · exact q2 z (by omega)
              · exact Or.inr ⟨z, by omega, q2, q3⟩)
  refine P.aload_n (pc := 0) 0 dX10_hand_0 rfl rfl ?_
  refine P.iload_n (pc := 1) 1 dX10_hand_1 rfl rfl ?_
  refine P.V1F (pc := 2) cs_X10_hand_235 dX10_hand_2 rfl rfl rfl (sp_X10_isChild hc b3 _) ?_
  refine P.ifneB (pc := 5) 11 dX10_hand_5 (by decide) (fun c5 => ?_) (fun c5 => ?_)
  · refine P.iconst (pc := 11) (v := -1) dX10_hand_11 (by decide) ?_
    refine P.istore_n (pc := 12) 2 dX10_hand_12 rfl (by decide) rfl ?_
    refine P.iconst (pc := 13) (v := 0) dX10_hand_13 (by decide) ?_
    refine P.istore_n (pc := 14) 3 dX10_hand_14 rfl (by decide) rfl ?_
    obtain ⟨a, ha, rfl⟩ := c5
    exact lp a ha 4 0 _ _ (by omega) rfl (Or.inl ⟨rfl, fun z hz => by omega⟩)
  · refine P.bipush (pc := 8) (v := -2) dX10_hand_8 (by decide) ?_
    refine P.iret (pc := 10) dX10_hand_10 rfl ?_
    exact pmI (by rw [o_hand, if_pos c5]) R frM.rf
theorem sp_X10_fetch {n : Nat → Nat} {σ M : xM} (I : Iv n σ) (R : RM n σ M) (c p : Int32) : SpI mX10_fetch [.ref 46, .int c, .int p] M (PM (o_fetch n σ c p) M) := by
  have hc0 : M 46 3 = nI (n 1) := R.2.2.1 (3, 1) (by decide)
  have b2 : n 1 ≤ 24 := I.1.2.1
  have hc : M 46 34 = nI (n 3) := R.2.2.1 (34, 3) (by decide)
  have b3 : n 3 ≤ 40 := I.2.2.2.1.1
  have a1 := R.1 (74, 33) (by decide)
  have a2 := R.1 (76, 32) (by decide)
  dsimp only at a1 a2
  refine P.aload_n (pc := 0) 0 dX10_fetch_0 rfl rfl ?_
  refine P.iload_n (pc := 1) 1 dX10_fetch_1 rfl rfl ?_
  refine P.V1F (pc := 2) cs_X10_fetch_235 dX10_fetch_2 rfl rfl rfl (sp_X10_isChild hc b3 _) ?_
  refine P.ifeqB (pc := 5) 16 dX10_fetch_5 (by decide) (fun c5 => ?_) (fun c5 => ?_)
  · refine P.bipush (pc := 16) (v := -2) dX10_fetch_16 (by decide) ?_
    refine P.iret (pc := 18) dX10_fetch_18 rfl ?_
    exact pmI (by rw [o_fetch, if_pos (by grind)]) R frM.rf
  · refine P.aload_n (pc := 8) 0 dX10_fetch_8 rfl rfl ?_
    refine P.iload_n (pc := 9) 2 dX10_fetch_9 rfl rfl ?_
    refine P.V1F (pc := 10) cs_X10_fetch_151 dX10_fetch_10 rfl rfl rfl (sp_X10_isParty hc0 b2 _) ?_
    refine P.ifneB (pc := 13) 19 dX10_fetch_13 (by decide) (fun c13 => ?_) (fun c13 => ?_)
    · have c5' := c5
      obtain ⟨a, ha, rfl⟩ := c5
      have ck := nI_clamp (n := a) (by omega)
      refine P.aload_n (pc := 19) 0 dX10_fetch_19 rfl rfl ?_
      refine P.getR (pc := 20) fl_X10_105 dX10_fetch_20 rfl rfl ?_
      refine P.iload_n (pc := 23) 1 dX10_fetch_23 rfl rfl ?_
      refine P.iaN (pc := 24) _ dX10_fetch_24 rfl rfl rfl (by first | omega | grind [nT]) ?_
      refine P.iconst (pc := 25) (v := -1) dX10_fetch_25 (by decide) ?_
      refine P.iceq (pc := 26) 39 dX10_fetch_26 (by decide) (fun c26 => ?_) (fun c26 => ?_)
      · refine P.bipush (pc := 39) (v := -3) dX10_fetch_39 (by decide) ?_
        refine P.iret (pc := 41) dX10_fetch_41 rfl ?_
        exact pmI (by rw [o_fetch, if_neg (by grind), ck, if_pos (by grind)]) R frM.rf
      · refine P.aload_n (pc := 29) 0 dX10_fetch_29 rfl rfl ?_
        refine P.getR (pc := 30) fl_X10_99 dX10_fetch_30 rfl rfl ?_
        refine P.iload_n (pc := 33) 1 dX10_fetch_33 rfl rfl ?_
        refine P.iaN (pc := 34) _ dX10_fetch_34 rfl rfl rfl (by first | omega | grind [nT]) ?_
        refine P.iload_n (pc := 35) 2 dX10_fetch_35 rfl rfl ?_
        refine P.iceq (pc := 36) 42 dX10_fetch_36 (by decide) (fun c36 => ?_) (fun c36 => ?_)
        · refine P.aload_n (pc := 42) 0 dX10_fetch_42 rfl rfl ?_
          refine P.getR (pc := 43) fl_X10_105 dX10_fetch_43 rfl rfl ?_
          refine P.iload_n (pc := 46) 1 dX10_fetch_46 rfl rfl ?_
          refine P.iconst (pc := 47) (v := -1) dX10_fetch_47 (by decide) ?_
          refine P.isN (pc := 48) _ dX10_fetch_48 rfl rfl rfl (by first | omega | grind [nT]) ?_
          refine P.iconst (pc := 49) (v := 1) dX10_fetch_49 (by decide) ?_
          refine P.iret (pc := 50) dX10_fetch_50 rfl ?_
          rw [a2]
          exact pmI (by rw [o_fetch, if_neg (by grind), ck, if_neg (by grind)]) (R.arr (a := 76) (c := 32) (by decide) _) (frM.rf.w (by decide) _)
        · refine P.bipush (pc := 39) (v := -3) dX10_fetch_39 (by decide) ?_
          refine P.iret (pc := 41) dX10_fetch_41 rfl ?_
          exact pmI (by rw [o_fetch, if_neg (by grind), ck, if_pos (by grind)]) R frM.rf
    · refine P.bipush (pc := 16) (v := -2) dX10_fetch_16 (by decide) ?_
      refine P.iret (pc := 18) dX10_fetch_18 rfl ?_
      exact pmI (by rw [o_fetch, if_pos (by grind)]) R frM.rf
theorem sp_X10_with {n : Nat → Nat} {σ M : xM} (I : Iv n σ) (R : RM n σ M) (c : Int32) : SpI mX10_with [.ref 46, .int c] M (PM (o_with n σ c) M) := by
  have hc : M 46 34 = nI (n 3) := R.2.2.1 (34, 3) (by decide)
  have b3 : n 3 ≤ 40 := I.2.2.2.1.1
  have a2 := R.1 (76, 32) (by decide)
  dsimp only at a2
  refine P.aload_n (pc := 0) 0 dX10_with_0 rfl rfl ?_
  refine P.iload_n (pc := 1) 1 dX10_with_1 rfl rfl ?_
  refine P.V1F (pc := 2) cs_X10_with_235 dX10_with_2 rfl rfl rfl (sp_X10_isChild hc b3 _) ?_
  refine P.ifeqB (pc := 5) 17 dX10_with_5 (by decide) (fun c5 => ?_) (fun c5 => ?_)
  · refine P.bipush (pc := 17) (v := -2) dX10_with_17 (by decide) ?_
    refine P.iret (pc := 19) dX10_with_19 rfl ?_
    first | exact pmI (by rw [o_with, if_pos c5', ck, a2]) R frM.rf | exact pmI (by rw [o_with, if_neg c5]) R frM.rf
  · have c5' := c5
    obtain ⟨a, ha, rfl⟩ := c5
    have ck := nI_clamp (n := a) (by omega)
    refine P.aload_n (pc := 8) 0 dX10_with_8 rfl rfl ?_
    refine P.getR (pc := 9) fl_X10_105 dX10_with_9 rfl rfl ?_
    refine P.iload_n (pc := 12) 1 dX10_with_12 rfl rfl ?_
    refine P.iaN (pc := 13) _ dX10_with_13 rfl rfl rfl (by first | omega | grind [nT]) ?_
    refine P.goto (pc := 14) 19 dX10_with_14 (by decide) ?_
    refine P.iret (pc := 19) dX10_with_19 rfl ?_
    first | exact pmI (by rw [o_with, if_pos c5', ck, a2]) R frM.rf | exact pmI (by rw [o_with, if_neg c5]) R frM.rf
