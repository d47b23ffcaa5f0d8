/-! count, and the digest -/
def xlo (σ : xM) : Nat → Nat
  | 0 => 0
  | m + 1 => if σ 11 m = -1 then xlo σ m else xlo σ m + 1
def xcount (n : Nat → Nat) (σ : xM) (k : Int32) : Int32 :=
  if k = 0 then nI (n 0) else if k = 1 then nI (n 1) else if k = 2 then nI (xlo σ (n 1)) else if k = 3 then nI (n 2) else if k = 4 then nI (n 3) else if k = 5 then nI (n 4) else if k = 6 then nI (n 5) else if k = 7 then σ 42 0 else -2
def o_count (n : Nat → Nat) (σ : xM) (k : Int32) : xO := (xcount n σ k, n, σ)
theorem sp_X4_lodgedCount {n : Nat → Nat} {σ M : xM} (I : Iv n σ) (R : RX n σ M) : SpF mX4_lodgedCount [.ref 5] M (nI (xlo σ (n 1))) := by
  have b2 : n 1 ≤ 24 := I.1.2.1
  have hc : M 5 7 = nI (n 1) := R.2.2 (5, 7, 1) (by decide)
  have a11 : M 11 = σ 11 := R.1 11 (by decide)
  have lp : ∀ (d i : Nat), i + d = n 1 → P mX4_lodgedCount 4 [some (.ref 5), some (.int (nI (xlo σ i))), some (.int (nI i))] [] M (fun r M' => r = some (.int (nI (xlo σ (n 1)))) ∧ M' = M) := by
    intro d
    induction d with
    | zero =>
      intro i hi
      have hi : i = n 1 := hi
      subst hi
      refine P.iload_n (pc := 4) 2 dX4_lodgedCount_4 rfl rfl ?_
      refine P.aload_n (pc := 5) 0 dX4_lodgedCount_5 rfl rfl ?_
      refine P.getI (pc := 6) fl_X4_33 dX4_lodgedCount_6 rfl rfl ?_
      rw [hc]
      refine P.icge (pc := 9) 29 dX4_lodgedCount_9 (by decide) (fun c9 => ?_) (fun c9 => ?_)
      · refine P.iload_n (pc := 29) 1 dX4_lodgedCount_29 rfl rfl ?_
        refine P.iret (pc := 30) dX4_lodgedCount_30 rfl ?_
        exact ⟨rfl, rfl⟩
      · exact absurd (Int32.le_refl _) c9--.
    | succ d ih =>
      intro i hi
      refine P.iload_n (pc := 4) 2 dX4_lodgedCount_4 rfl rfl ?_
      refine P.aload_n (pc := 5) 0 dX4_lodgedCount_5 rfl rfl ?_
      refine P.getI (pc := 6) fl_X4_33 dX4_lodgedCount_6 rfl rfl ?_
      rw [hc]
      refine P.icge (pc := 9) 29 dX4_lodgedCount_9 (by decide) (fun c9 => ?_) (fun c9 => ?_)
      · exact absurd c9 (nI_ge (by omega) (by omega))--.
      · refine P.aload_n (pc := 12) 0 dX4_lodgedCount_12 rfl rfl ?_
        refine P.iload_n (pc := 13) 2 dX4_lodgedCount_13 rfl rfl ?_
        refine P.V1F (pc := 14) cs_X4_lodgedCount_51 dX4_lodgedCount_14 rfl rfl rfl (sp_X4_isLodged _ (by omega)) ?_
        refine P.ifeqB (pc := 17) 23 dX4_lodgedCount_17 (by decide) (fun c17 => ?_) (fun c17 => ?_)
        · have e1 : xlo σ (i + 1) = xlo σ i := by rw [xlo, if_pos (by rw [← a11]; exact Classical.not_not.1 c17)]
          refine P.iinc (pc := 23) 2 1 dX4_lodgedCount_23 rfl (by decide) (by decide) rfl ?_
          rw [nI_1]
          refine P.goto (pc := 26) 4 dX4_lodgedCount_26 (by decide) ?_
          have := ih (i + 1) (by omega)
          rw [e1] at this
          exact this
        · have e1 : xlo σ (i + 1) = xlo σ i + 1 := by rw [xlo, if_neg (by rw [← a11]; exact c17)]
          refine P.iinc (pc := 20) 1 1 dX4_lodgedCount_20 rfl (by decide) (by decide) rfl ?_
          rw [nI_1]
          refine P.iinc (pc := 23) 2 1 dX4_lodgedCount_23 rfl (by decide) (by decide) rfl ?_
          rw [nI_1]
          refine P.goto (pc := 26) 4 dX4_lodgedCount_26 (by decide) ?_
          have := ih (i + 1) (by omega)
          rw [e1] at this
          exact this
  refine P.iconst (pc := 0) (v := 0) dX4_lodgedCount_0 (by decide) ?_
  refine P.istore_n (pc := 1) 1 dX4_lodgedCount_1 rfl (by decide) rfl ?_
  refine P.iconst (pc := 2) (v := 0) dX4_lodgedCount_2 (by decide) ?_
  refine P.istore_n (pc := 3) 2 dX4_lodgedCount_3 rfl (by decide) rfl ?_
  exact lp (n 1) 0 (by omega)
theorem sp_X9_count {n : Nat → Nat} {σ M : xM} (I : Iv n σ) (R : RX n σ M) (k : Int32) : SpF mX9_count [.ref 0, .int k] M (xcount n σ k) := by
  have c0 : M 2 2 = nI (n 0) := R.2.2 (2, 2, 0) (by decide)
  have c1 : M 5 7 = nI (n 1) := R.2.2 (5, 7, 1) (by decide)
  have c2 : M 21 3 = nI (n 2) := R.2.2 (21, 3, 2) (by decide)
  have c3 : M 31 1 = nI (n 3) := R.2.2 (31, 1, 3) (by decide)
  have c4 : M 19 1 = nI (n 4) := R.2.2 (19, 1, 4) (by decide)
  have c5 : M 38 0 = nI (n 5) := R.2.2 (38, 0, 5) (by decide)
  have c6 : M 42 0 = σ 42 0 := R.2.1 (42, 0) (by decide)
  refine P.iload_n (pc := 0) 1 dX9_count_0 rfl rfl ?_
  by_cases q0 : k = 0
  · subst q0
    refine P.tswIn (pc := 1) 48 dX9_count_1 (by decide) (by decide) rfl (by decide) ?_
    refine P.aload_n (pc := 48) 0 dX9_count_48 rfl rfl ?_
    refine P.getR (pc := 49) fl_X9_10 dX9_count_49 rfl rfl ?_
    refine P.getR (pc := 52) fl_X9_58 dX9_count_52 rfl rfl ?_
    refine P.getI (pc := 55) fl_X9_219 dX9_count_55 rfl rfl ?_
    refine P.iret (pc := 58) dX9_count_58 rfl ?_
    exact ⟨by rw [c0]; rfl, rfl⟩
  by_cases q1 : k = 1
  · subst q1
    refine P.tswIn (pc := 1) 59 dX9_count_1 (by decide) (by decide) rfl (by decide) ?_
    refine P.aload_n (pc := 59) 0 dX9_count_59 rfl rfl ?_
    refine P.getR (pc := 60) fl_X9_10 dX9_count_60 rfl rfl ?_
    refine P.getR (pc := 63) fl_X9_68 dX9_count_63 rfl rfl ?_
    refine P.getI (pc := 66) fl_X9_222 dX9_count_66 rfl rfl ?_
    refine P.iret (pc := 69) dX9_count_69 rfl ?_
    exact ⟨by rw [c1]; rfl, rfl⟩
  by_cases q2 : k = 2
  · subst q2
    refine P.tswIn (pc := 1) 70 dX9_count_1 (by decide) (by decide) rfl (by decide) ?_
    refine P.aload_n (pc := 70) 0 dX9_count_70 rfl rfl ?_
    refine P.getR (pc := 71) fl_X9_10 dX9_count_71 rfl rfl ?_
    refine P.getR (pc := 74) fl_X9_68 dX9_count_74 rfl rfl ?_
    refine P.V0F (pc := 77) cs_X9_count_223 dX9_count_77 rfl rfl rfl (sp_X4_lodgedCount I R) ?_
    refine P.iret (pc := 80) dX9_count_80 rfl ?_
    exact ⟨rfl, rfl⟩
  by_cases q3 : k = 3
  · subst q3
    refine P.tswIn (pc := 1) 81 dX9_count_1 (by decide) (by decide) rfl (by decide) ?_
    refine P.aload_n (pc := 81) 0 dX9_count_81 rfl rfl ?_
    refine P.getR (pc := 82) fl_X9_33 dX9_count_82 rfl rfl ?_
    refine P.getI (pc := 85) fl_X9_227 dX9_count_85 rfl rfl ?_
    refine P.iret (pc := 88) dX9_count_88 rfl ?_
    exact ⟨by rw [c2]; rfl, rfl⟩
  by_cases q4 : k = 4
  · subst q4
    refine P.tswIn (pc := 1) 89 dX9_count_1 (by decide) (by decide) rfl (by decide) ?_
    refine P.aload_n (pc := 89) 0 dX9_count_89 rfl rfl ?_
    refine P.getR (pc := 90) fl_X9_40 dX9_count_90 rfl rfl ?_
    refine P.getI (pc := 93) fl_X9_228 dX9_count_93 rfl rfl ?_
    refine P.iret (pc := 96) dX9_count_96 rfl ?_
    exact ⟨by rw [c3]; rfl, rfl⟩
  by_cases q5 : k = 5
  · subst q5
    refine P.tswIn (pc := 1) 97 dX9_count_1 (by decide) (by decide) rfl (by decide) ?_
    refine P.aload_n (pc := 97) 0 dX9_count_97 rfl rfl ?_
    refine P.getR (pc := 98) fl_X9_26 dX9_count_98 rfl rfl ?_
    refine P.getI (pc := 101) fl_X9_231 dX9_count_101 rfl rfl ?_
    refine P.iret (pc := 104) dX9_count_104 rfl ?_
    exact ⟨by rw [c4]; rfl, rfl⟩
  by_cases q6 : k = 6
  · subst q6
    refine P.tswIn (pc := 1) 105 dX9_count_1 (by decide) (by decide) rfl (by decide) ?_
    refine P.aload_n (pc := 105) 0 dX9_count_105 rfl rfl ?_
    refine P.getR (pc := 106) fl_X9_47 dX9_count_106 rfl rfl ?_
    refine P.getI (pc := 109) fl_X9_234 dX9_count_109 rfl rfl ?_
    refine P.iret (pc := 112) dX9_count_112 rfl ?_
    exact ⟨by rw [c5]; rfl, rfl⟩
  by_cases q7 : k = 7
  · subst q7
    refine P.tswIn (pc := 1) 113 dX9_count_1 (by decide) (by decide) rfl (by decide) ?_
    refine P.aload_n (pc := 113) 0 dX9_count_113 rfl rfl ?_
    refine P.getR (pc := 114) fl_X9_54 dX9_count_114 rfl rfl ?_
    refine P.getI (pc := 117) fl_X9_235 dX9_count_117 rfl rfl ?_
    refine P.iret (pc := 120) dX9_count_120 rfl ?_
    exact ⟨by rw [c6]; rfl, rfl⟩
  refine P.tswOut (pc := 1) 121 dX9_count_1 (tsw_out 7 (by omega) (fun j hj => by rcases (show j = 0 ∨ j = 1 ∨ j = 2 ∨ j = 3 ∨ j = 4 ∨ j = 5 ∨ j = 6 ∨ j = 7 by omega) with rfl | rfl | rfl | rfl | rfl | rfl | rfl | rfl <;> first | exact q0 | exact q1 | exact q2 | exact q3 | exact q4 | exact q5 | exact q6 | exact q7)) (by decide) ?_
  refine P.bipush (pc := 121) (v := -2) dX9_count_121 (by decide) ?_
  refine P.iret (pc := 123) dX9_count_123 rfl ?_
  exact ⟨by rw [xcount, if_neg q0, if_neg q1, if_neg q2, if_neg q3, if_neg q4, if_neg q5, if_neg q6, if_neg q7], rfl⟩
theorem sp_X10_count {n : Nat → Nat} {σ M : xM} (I : Iv n σ) (R : RM n σ M) (k : Int32) : SpF mX10_count [.ref 46, .int k] M (xcount n σ k) := by
  have b2 : n 1 ≤ 24 := I.1.2.1
  have c0 : M 46 0 = nI (n 0) := R.2.2.1 (0, 0) (by decide)
  have c1 : M 46 3 = nI (n 1) := R.2.2.1 (3, 1) (by decide)
  have c2 : M 46 22 = nI (n 2) := R.2.2.1 (22, 2) (by decide)
  have c3 : M 46 34 = nI (n 3) := R.2.2.1 (34, 3) (by decide)
  have c4 : M 46 19 = nI (n 4) := R.2.2.1 (19, 4) (by decide)
  have c5 : M 46 38 = nI (n 5) := R.2.2.1 (38, 5) (by decide)
  have c6 : M 46 46 = σ 42 0 := R.2.1 (46, 46, 42, 0) (by decide)
  have lp : ∀ (d i : Nat), i + d = n 1 → P mX10_count 60 [some (.ref 46), some (.int 2), some (.int (nI (xlo σ i))), some (.int (nI i))] [] M (fun r M' => r = some (.int (xcount n σ 2)) ∧ M' = M) := by
    intro d
    induction d with
    | zero =>
      intro i hi
      have hi : i = n 1 := hi
      subst hi
      refine P.iload_n (pc := 60) 3 dX10_count_60 rfl rfl ?_
      refine P.aload_n (pc := 61) 0 dX10_count_61 rfl rfl ?_
      refine P.getI (pc := 62) fl_X10_136 dX10_count_62 rfl rfl ?_
      rw [c1]
      refine P.icge (pc := 65) 92 dX10_count_65 (by decide) (fun c65 => ?_) (fun c65 => ?_)
      · refine P.iload_n (pc := 92) 2 dX10_count_92 rfl rfl ?_
        refine P.iret (pc := 93) dX10_count_93 rfl ?_
        exact ⟨rfl, rfl⟩
      · exact absurd (Int32.le_refl _) c65--.
    | succ d ih =>
      intro i hi
      have eh : M 54 i = σ 11 i := R.2.2.2.1 i (by omega)
      refine P.iload_n (pc := 60) 3 dX10_count_60 rfl rfl ?_
      refine P.aload_n (pc := 61) 0 dX10_count_61 rfl rfl ?_
      refine P.getI (pc := 62) fl_X10_136 dX10_count_62 rfl rfl ?_
      rw [c1]
      refine P.icge (pc := 65) 92 dX10_count_65 (by decide) (fun c65 => ?_) (fun c65 => ?_)
      · exact absurd c65 (nI_ge (by omega) (by omega))--.
      · refine P.iload_n (pc := 68) 2 dX10_count_68 rfl rfl ?_
        refine P.aload_n (pc := 69) 0 dX10_count_69 rfl rfl ?_
        refine P.getR (pc := 70) fl_X10_31 dX10_count_70 rfl rfl ?_
        refine P.iload_n (pc := 73) 3 dX10_count_73 rfl rfl ?_
        refine P.iaN (pc := 74) (i) dX10_count_74 rfl rfl rfl (by first | omega | grind [nT]) ?_
        rw [eh]
        refine P.iconst (pc := 75) (v := -1) dX10_count_75 (by decide) ?_
        refine P.iceq (pc := 76) 83 dX10_count_76 (by decide) (fun c76 => ?_) (fun c76 => ?_)
        · have e0 : xlo σ (i + 1) = xlo σ i := by rw [xlo, if_pos c76]
          refine P.iconst (pc := 83) (v := 0) dX10_count_83 (by decide) ?_
          refine P.iadd (pc := 84) dX10_count_84 ?_
          first | rw [nI_1, ← e1] | rw [Int32.add_zero, ← e0]
          refine P.istore_n (pc := 85) 2 dX10_count_85 rfl (by decide) rfl ?_
          refine P.iinc (pc := 86) 3 1 dX10_count_86 rfl (by decide) (by decide) rfl ?_
          rw [nI_1]
          refine P.goto (pc := 89) 60 dX10_count_89 (by decide) ?_
          exact ih (i + 1) (by omega)
        · have e1 : xlo σ (i + 1) = xlo σ i + 1 := by rw [xlo, if_neg c76]
          refine P.iconst (pc := 79) (v := 1) dX10_count_79 (by decide) ?_
          refine P.goto (pc := 80) 84 dX10_count_80 (by decide) ?_
          refine P.iadd (pc := 84) dX10_count_84 ?_
          first | rw [nI_1, ← e1] | rw [Int32.add_zero, ← e0]
          refine P.istore_n (pc := 85) 2 dX10_count_85 rfl (by decide) rfl ?_
          refine P.iinc (pc := 86) 3 1 dX10_count_86 rfl (by decide) (by decide) rfl ?_
          rw [nI_1]
          refine P.goto (pc := 89) 60 dX10_count_89 (by decide) ?_
          exact ih (i + 1) (by omega)
  refine P.iconst (pc := 0) (v := 0) dX10_count_0 (by decide) ?_
  refine P.istore_n (pc := 1) 2 dX10_count_1 rfl (by decide) rfl ?_
  refine P.iload_n (pc := 2) 1 dX10_count_2 rfl rfl ?_
  by_cases q0 : k = 0
  · subst q0
    refine P.tswIn (pc := 3) 48 dX10_count_3 (by decide) (by decide) rfl (by decide) ?_
    refine P.aload_n (pc := 48) 0 dX10_count_48 rfl rfl ?_
    refine P.getI (pc := 49) fl_X10_129 dX10_count_49 rfl rfl ?_
    refine P.iret (pc := 52) dX10_count_52 rfl ?_
    exact ⟨by rw [c0]; rfl, rfl⟩
  by_cases q1 : k = 1
  · subst q1
    refine P.tswIn (pc := 3) 53 dX10_count_3 (by decide) (by decide) rfl (by decide) ?_
    refine P.aload_n (pc := 53) 0 dX10_count_53 rfl rfl ?_
    refine P.getI (pc := 54) fl_X10_136 dX10_count_54 rfl rfl ?_
    refine P.iret (pc := 57) dX10_count_57 rfl ?_
    exact ⟨by rw [c1]; rfl, rfl⟩
  by_cases q2 : k = 2
  · subst q2
    refine P.tswIn (pc := 3) 58 dX10_count_3 (by decide) (by decide) rfl (by decide) ?_
    refine P.iconst (pc := 58) (v := 0) dX10_count_58 (by decide) ?_
    refine P.istore_n (pc := 59) 3 dX10_count_59 rfl (by decide) rfl ?_
    exact lp (n 1) 0 (by omega)
  by_cases q3 : k = 3
  · subst q3
    refine P.tswIn (pc := 3) 94 dX10_count_3 (by decide) (by decide) rfl (by decide) ?_
    refine P.aload_n (pc := 94) 0 dX10_count_94 rfl rfl ?_
    refine P.getI (pc := 95) fl_X10_210 dX10_count_95 rfl rfl ?_
    refine P.iret (pc := 98) dX10_count_98 rfl ?_
    exact ⟨by rw [c2]; rfl, rfl⟩
  by_cases q4 : k = 4
  · subst q4
    refine P.tswIn (pc := 3) 99 dX10_count_3 (by decide) (by decide) rfl (by decide) ?_
    refine P.aload_n (pc := 99) 0 dX10_count_99 rfl rfl ?_
    refine P.getI (pc := 100) fl_X10_223 dX10_count_100 rfl rfl ?_
    refine P.iret (pc := 103) dX10_count_103 rfl ?_
    exact ⟨by rw [c3]; rfl, rfl⟩
  by_cases q5 : k = 5
  · subst q5
    refine P.tswIn (pc := 3) 104 dX10_count_3 (by decide) (by decide) rfl (by decide) ?_
    refine P.aload_n (pc := 104) 0 dX10_count_104 rfl rfl ?_
    refine P.getI (pc := 105) fl_X10_203 dX10_count_105 rfl rfl ?_
    refine P.iret (pc := 108) dX10_count_108 rfl ?_
    exact ⟨by rw [c4]; rfl, rfl⟩
  by_cases q6 : k = 6
  · subst q6
    refine P.tswIn (pc := 3) 109 dX10_count_3 (by decide) (by decide) rfl (by decide) ?_
    refine P.aload_n (pc := 109) 0 dX10_count_109 rfl rfl ?_
    refine P.getI (pc := 110) fl_X10_244 dX10_count_110 rfl rfl ?_
    refine P.iret (pc := 113) dX10_count_113 rfl ?_
    exact ⟨by rw [c5]; rfl, rfl⟩
  by_cases q7 : k = 7
  · subst q7
    refine P.tswIn (pc := 3) 114 dX10_count_3 (by decide) (by decide) rfl (by decide) ?_
    refine P.aload_n (pc := 114) 0 dX10_count_114 rfl rfl ?_
    refine P.getI (pc := 115) fl_X10_247 dX10_count_115 rfl rfl ?_
    refine P.iret (pc := 118) dX10_count_118 rfl ?_
    exact ⟨by rw [c6]; rfl, rfl⟩
  refine P.tswOut (pc := 3) 119 dX10_count_3 (tsw_out 7 (by omega) (fun j hj => by rcases (show j = 0 ∨ j = 1 ∨ j = 2 ∨ j = 3 ∨ j = 4 ∨ j = 5 ∨ j = 6 ∨ j = 7 by omega) with rfl | rfl | rfl | rfl | rfl | rfl | rfl | rfl <;> first | exact q0 | exact q1 | exact q2 | exact q3 | exact q4 | exact q5 | exact q6 | exact q7)) (by decide) ?_
  refine P.bipush (pc := 119) (v := -2) dX10_count_119 (by decide) ?_
  refine P.iret (pc := 121) dX10_count_121 rfl ?_
  exact ⟨by rw [xcount, if_neg q0, if_neg q1, if_neg q2, if_neg q3, if_neg q4, if_neg q5, if_neg q6, if_neg q7], rfl⟩
