/-! the sittings: the reference: benches -/
def fU (M M1 : xM) : Prop := (∀ c, ¬ c = 46 → (c < 57 ∨ 60 < c) → M1 c = M c) ∧ ∀ j, ¬ j = 13 → M1 46 j = M 46 j
theorem fU.rf {M : xM} : fU M M := ⟨fun _ _ _ => rfl, fun _ _ => rfl⟩
theorem fU.tr {M M1 M2 : xM} (h : fU M M1) (h2 : fU M1 M2) : fU M M2 := ⟨fun c a b => (h2.1 c a b).trans (h.1 c a b), fun j a => (h2.2 j a).trans (h.2 j a)⟩
theorem fU.w {M M1 : xM} (h : fU M M1) {k : Nat} (hk : 57 ≤ k ∧ k ≤ 60) (f : Nat → Int32) : fU M (xw M1 k f) :=
  ⟨fun c a b => by rw [xw_ap, if_neg (by omega)]; exact h.1 c a b, fun j a => by rw [xw_ap, if_neg (by omega)]; exact h.2 j a⟩
theorem fU.u {M M1 : xM} (h : fU M M1) (v : Int32) : fU M (xw M1 46 (upd (M1 46) 13 v)) :=
  ⟨fun c a b => by rw [xw_ap, if_neg a]; exact h.1 c a b, fun j a => by rw [xw_s, upd_ap, if_neg a]; exact h.2 j a⟩
theorem RM.fU {n : Nat → Nat} {σ M M1 : xM} (R : RM n σ M) (h : fU M M1) : RM n σ M1 := by
  have e : M1 = xw (xw (xw (xw (xw M 57 (M1 57)) 58 (M1 58)) 59 (M1 59)) 60 (M1 60)) 46 (upd (M 46) 13 (M1 46 13)) := by
    funext c
    simp only [xw_ap]
    by_cases c46 : c = 46
    · rw [if_pos c46, c46]
      funext j
      rw [upd_ap]
      by_cases j13 : j = 13
      · rw [if_pos j13, j13]
      · rw [if_neg j13]; exact h.2 j j13
    · rw [if_neg c46]
      by_cases c60 : c = 60
      · rw [if_pos c60, c60]
      · rw [if_neg c60]
        by_cases c59 : c = 59
        · rw [if_pos c59, c59]
        · rw [if_neg c59]
          by_cases c58 : c = 58
          · rw [if_pos c58, c58]
          · rw [if_neg c58]
            by_cases c57 : c = 57
            · rw [if_pos c57, c57]
            · rw [if_neg c57]; exact h.1 c c46 (by omega)
  rw [e]
  have := ((((R.scr (c := 57) (by decide) (M1 57)).scr (c := 58) (by decide) (M1 58)).scr (c := 59) (by decide) (M1 59)).scr (c := 60) (by decide) (M1 60)).scrU (M1 46 13)
  simpa only [xw_ap, Nat.reduceEqDiff, ↓reduceIte] using this
theorem fU.M {M M1 : xM} (h : fU M M1) : frM M M1 := fun q hq => by
  first | exact h.1 q (by omega) (by omega) | (rcases hq with hq | hq <;> exact h.1 q (by omega) (by omega))
def FU (σ : xM) (w : Int32) (i : Nat) (M M1 : xM) : Prop := fU M M1 ∧ M1 46 13 = nI (xu σ w i) ∧ (∀ q, q < i → (xthere σ w q → M1 57 q = nI (xun σ w q)) ∧ (¬ xthere σ w q → M1 57 q = -1)) ∧ ∀ b, b < xu σ w i → M1 58 b = nI (xsz σ w b i)
theorem sp_X10_findUnits {n : Nat → Nat} {σ M : xM} (I : Iv n σ) (R : RM n σ M) (w : Int32) : SpV mX10_findUnits [.ref 46, .int w] M (fun M' => FU σ w (n 1) M M') := by
  have b2 : n 1 ≤ 24 := I.1.2.1
  have lp : ∀ (k i : Nat) (M1 : xM) (o3 : Option Value), i + k = n 1 → FU σ w i M M1 → P mX10_findUnits 7 [some (.ref 46), some (.int w), some (.int (nI i)), o3] [] M1 (fun r M' => r = none ∧ FU σ w (n 1) M M') := by
    intro k
    induction k with
    | zero =>
      intro i M1 o3 hi hf
      have em : M1 46 3 = nI (n 1) := (R.fU hf.1).2.2.1 (3, 1) (by decide)
      refine P.iload_n (pc := 7) 2 dX10_findUnits_7 rfl rfl ?_
      refine P.aload_n (pc := 8) 0 dX10_findUnits_8 rfl rfl ?_
      refine P.getI (pc := 9) fl_X10_136 dX10_findUnits_9 rfl rfl ?_
      rw [em]
      refine P.icge (pc := 12) 156 dX10_findUnits_12 (by decide) (fun c12 => ?_) (fun c12 => ?_)
      · refine P.vret (pc := 156) dX10_findUnits_156 rfl ?_
        exact ⟨rfl, by rw [← show i = n 1 from hi]; exact hf⟩
      · exact absurd (nI_le (by omega) (by omega)) c12--.
    | succ k ih =>
      intro i M1 o3 hi hf
      obtain ⟨f1, f2, f3, f4⟩ := hf
      have em : M1 46 3 = nI (n 1) := (R.fU f1).2.2.1 (3, 1) (by decide)
      have ul := xu_le σ w i
      have ul1 := xu_le σ w (i + 1)
      have ht10 := tab_in I (i := i) (by omega)
      have rest : ∀ (th : xthere σ w i) (M2 : xM) (o3 : Option Value), fU M M2 → M2 46 13 = nI (xu σ w (i + 1)) → M2 57 i = nI (xun σ w i) → (∀ q, q < i → M2 57 q = M1 57 q) → (∀ b, b < xu σ w (i + 1) → M2 58 b = nI (xsz σ w b i)) →
          P mX10_findUnits 130 [some (.ref 46), some (.int w), some (.int (nI i)), o3] [] M2 (fun r M' => r = none ∧ FU σ w (n 1) M M') := by
        intro th M2 o3 g1 g2 g3 g4 g5
        have ult := xun_lt (show i < i + 1 by omega) th
        obtain ⟨z1, z2, z3⟩ := xzN_in I (p := i) (by omega)
        have a6 : M2 49 i = nI (xzN σ i) := by rw [(R.fU g1).1 (49, 6) (by decide)]; exact z3
        refine P.aload_n (pc := 130) 0 dX10_findUnits_130 rfl rfl ?_
        refine P.getR (pc := 131) fl_X10_47 dX10_findUnits_131 rfl rfl ?_
        refine P.aload_n (pc := 134) 0 dX10_findUnits_134 rfl rfl ?_
        refine P.getR (pc := 135) fl_X10_44 dX10_findUnits_135 rfl rfl ?_
        refine P.iload_n (pc := 138) 2 dX10_findUnits_138 rfl rfl ?_
        refine P.iaN (pc := 139) (i) dX10_findUnits_139 rfl rfl rfl (by first | omega | grind [nT]) ?_
        rw [g3]
        refine P.dup2 (pc := 140) dX10_findUnits_140 rfl rfl ?_
        refine P.iaN (pc := 141) (xun σ w i) dX10_findUnits_141 rfl rfl rfl (by first | omega | grind [nT]) ?_
        rw [g5 _ ult]
        refine P.aload_n (pc := 142) 0 dX10_findUnits_142 rfl rfl ?_
        refine P.getR (pc := 143) fl_X10_16 dX10_findUnits_143 rfl rfl ?_
        refine P.iload_n (pc := 146) 2 dX10_findUnits_146 rfl rfl ?_
        refine P.iaN (pc := 147) (i) dX10_findUnits_147 rfl rfl rfl (by first | omega | grind [nT]) ?_
        rw [a6]
        refine P.iadd (pc := 148) dX10_findUnits_148 ?_
        rw [nI_add]
        refine P.isN (pc := 149) (xun σ w i) dX10_findUnits_149 rfl rfl rfl (by first | omega | grind [nT]) ?_
        refine P.iinc (pc := 150) 2 1 dX10_findUnits_150 rfl (by decide) (by decide) rfl ?_
        rw [nI_1]
        refine P.goto (pc := 153) 7 dX10_findUnits_153 (by decide) ?_
        refine ih (i + 1) _ _ (by omega) ⟨g1.w (by omega) _, ?_, ?_, ?_⟩
        · rw [xw_ap, if_neg (by decide)]; exact g2
        · intro q hq
          rw [xw_ap, if_neg (by decide)]
          by_cases e : q = i
          · subst e; exact ⟨fun _ => g3, fun z => absurd th z⟩
          · rw [g4 q (by omega)]; exact f3 q (by omega)
        · intro b hb
          rw [xw_s, upd_ap, xsz]
          by_cases e : b = xun σ w i
          · rw [if_pos e, if_pos ⟨th, e.symm⟩, e]
          · rw [if_neg e, if_neg (fun q => e q.2.symm)]; exact g5 b hb
      have at90 : ∀ (th : xthere σ w i) (M2 : xM) (o3 : Option Value), (∀ c, ¬ c = 57 → M2 c = M1 c) → (∀ q, ¬ q = i → M2 57 q = M1 57 q) → ((M2 57 i = -1 ∧ xmate σ w i = none) ∨ (M2 57 i = nI (xun σ w i) ∧ ¬ xmate σ w i = none)) →
          P mX10_findUnits 90 [some (.ref 46), some (.int w), some (.int (nI i)), o3] [] M2 (fun r M' => r = none ∧ FU σ w (n 1) M M') := by
        intro th M2 o3 h1 h2 h3
        have gu : fU M M2 := ⟨fun c a b => by rw [h1 c (by omega)]; exact f1.1 c a b, fun j a => by rw [h1 46 (by decide)]; exact f1.2 j a⟩
        have e13 : M2 46 13 = nI (xu σ w i) := by rw [h1 46 (by decide)]; exact f2
        rcases h3 with ⟨h3, h4⟩ | ⟨h3, h4⟩
        · have eu : xu σ w (i + 1) = xu σ w i + 1 := by rw [xu, if_pos ⟨th, h4⟩]
          have eun := xun_new h4
          refine P.aload_n (pc := 90) 0 dX10_findUnits_90 rfl rfl ?_
          refine P.getR (pc := 91) fl_X10_44 dX10_findUnits_91 rfl rfl ?_
          refine P.iload_n (pc := 94) 2 dX10_findUnits_94 rfl rfl ?_
          refine P.iaN (pc := 95) (i) dX10_findUnits_95 rfl rfl rfl (by first | omega | grind [nT]) ?_
          rw [h3]
          refine P.iconst (pc := 96) (v := -1) dX10_findUnits_96 (by decide) ?_
          refine P.icne (pc := 97) 130 dX10_findUnits_97 (by decide) (fun c97 => ?_) (fun c97 => ?_)
          · exact absurd rfl c97--.
          · refine P.aload_n (pc := 100) 0 dX10_findUnits_100 rfl rfl ?_
            refine P.getR (pc := 101) fl_X10_44 dX10_findUnits_101 rfl rfl ?_
            refine P.iload_n (pc := 104) 2 dX10_findUnits_104 rfl rfl ?_
            refine P.aload_n (pc := 105) 0 dX10_findUnits_105 rfl rfl ?_
            refine P.getI (pc := 106) fl_X10_185 dX10_findUnits_106 rfl rfl ?_
            rw [e13]
            refine P.isN (pc := 109) (i) dX10_findUnits_109 rfl rfl rfl (by first | omega | grind [nT]) ?_
            refine P.aload_n (pc := 110) 0 dX10_findUnits_110 rfl rfl ?_
            refine P.getR (pc := 111) fl_X10_47 dX10_findUnits_111 rfl rfl ?_
            refine P.aload_n (pc := 114) 0 dX10_findUnits_114 rfl rfl ?_
            refine P.getI (pc := 115) fl_X10_185 dX10_findUnits_115 rfl rfl ?_
            simp only [xw_ap, Nat.reduceEqDiff, ↓reduceIte, e13]
            refine P.iconst (pc := 118) (v := 0) dX10_findUnits_118 (by decide) ?_
            refine P.isN (pc := 119) (xu σ w i) dX10_findUnits_119 rfl rfl rfl (by first | omega | grind [nT]) ?_
            refine P.aload_n (pc := 120) 0 dX10_findUnits_120 rfl rfl ?_
            refine P.dup (pc := 121) dX10_findUnits_121 rfl ?_
            refine P.getI (pc := 122) fl_X10_185 dX10_findUnits_122 rfl rfl ?_
            simp only [xw_ap, Nat.reduceEqDiff, ↓reduceIte, e13]
            refine P.iconst (pc := 125) (v := 1) dX10_findUnits_125 (by decide) ?_
            refine P.iadd (pc := 126) dX10_findUnits_126 ?_
            rw [nI_1]
            refine P.put (pc := 127) fp_X10_185 dX10_findUnits_127 rfl rfl ?_
            refine rest th _ _ (((gu.w (by omega) _).w (by omega) _).u _) ?_ ?_ (fun q hq => ?_) (fun b hb => ?_)
            · rw [xw_s, upd_ap, if_pos rfl, eu]
            · simp only [xw_ap, upd_ap, Nat.reduceEqDiff, ↓reduceIte]; rw [eun]
            · simp only [xw_ap, upd_ap, Nat.reduceEqDiff, ↓reduceIte]
              rw [if_neg (by omega)]; exact h2 q (by omega)
            · simp only [xw_ap, upd_ap, Nat.reduceEqDiff, ↓reduceIte]
              by_cases e : b = xu σ w i
              · rw [if_pos e, e, xsz_0 i (Nat.le_refl _)]; rfl
              · rw [if_neg e, h1 58 (by decide)]; exact f4 b (by omega)
        · have eu : xu σ w (i + 1) = xu σ w i := by rw [xu, if_neg (fun z => h4 z.2)]
          refine P.aload_n (pc := 90) 0 dX10_findUnits_90 rfl rfl ?_
          refine P.getR (pc := 91) fl_X10_44 dX10_findUnits_91 rfl rfl ?_
          refine P.iload_n (pc := 94) 2 dX10_findUnits_94 rfl rfl ?_
          refine P.iaN (pc := 95) (i) dX10_findUnits_95 rfl rfl rfl (by first | omega | grind [nT]) ?_
          rw [h3]
          refine P.iconst (pc := 96) (v := -1) dX10_findUnits_96 (by decide) ?_
          refine P.icne (pc := 97) 130 dX10_findUnits_97 (by decide) (fun c97 => ?_) (fun c97 => ?_)
          · exact rest th _ _ gu (by rw [eu]; exact e13) h3 (fun q hq => h2 q (by omega)) (fun b hb => by rw [h1 58 (by decide)]; exact f4 b (by omega))
          · exact absurd c97 (nI_ne (by have := xun_lt (show i < i + 1 by omega) th; omega))--.
      have inner : ∀ (th : xthere σ w i) (d j : Nat) (M2 : xM), j + d = i → (∀ c, ¬ c = 57 → M2 c = M1 c) → (∀ q, ¬ q = i → M2 57 q = M1 57 q) →
          ((M2 57 i = -1 ∧ ∀ q, q < j → xthere σ w q → ¬ (σ 10 q = σ 10 i ∧ ¬ σ 10 i = -1)) ∨ (M2 57 i = nI (xun σ w i) ∧ ¬ xmate σ w i = none)) →
          P mX10_findUnits 33 [some (.ref 46), some (.int w), some (.int (nI i)), some (.int (nI j))] [] M2 (fun r M' => r = none ∧ FU σ w (n 1) M M') := by
        intro th d
        induction d with
        | zero =>
          intro j M2 hj h1 h2 h3
          refine P.iload_n (pc := 33) 3 dX10_findUnits_33 rfl rfl ?_
          refine P.iload_n (pc := 34) 2 dX10_findUnits_34 rfl rfl ?_
          refine P.icge (pc := 35) 90 dX10_findUnits_35 (by decide) (fun c35 => ?_) (fun c35 => ?_)
          · exact at90 th M2 _ h1 h2 (h3.imp (fun z => ⟨z.1, xmate_no (fun q hq => z.2 q (by omega))⟩) id)
          · exact absurd (nI_le (by omega) (by omega)) c35--.
        | succ d ihd =>
          intro j M2 hj h1 h2 h3
          have gu : fU M M2 := ⟨fun c a b => by rw [h1 c (by omega)]; exact f1.1 c a b, fun j a => by rw [h1 46 (by decide)]; exact f1.2 j a⟩
          have R2 := R.fU gu
          have a53 : M2 53 = σ 10 := R2.1 (53, 10) (by decide)
          refine P.iload_n (pc := 33) 3 dX10_findUnits_33 rfl rfl ?_
          refine P.iload_n (pc := 34) 2 dX10_findUnits_34 rfl rfl ?_
          refine P.icge (pc := 35) 90 dX10_findUnits_35 (by decide) (fun c35 => ?_) (fun c35 => ?_)
          · exact absurd c35 (nI_ge (by omega) (by omega))--.
          · refine P.aload_n (pc := 38) 0 dX10_findUnits_38 rfl rfl ?_
            refine P.getR (pc := 39) fl_X10_28 dX10_findUnits_39 rfl rfl ?_
            refine P.iload_n (pc := 42) 2 dX10_findUnits_42 rfl rfl ?_
            refine P.iaN (pc := 43) (i) dX10_findUnits_43 rfl rfl rfl (by first | omega | grind [nT]) ?_
            rw [a53]
            refine P.iconst (pc := 44) (v := -1) dX10_findUnits_44 (by decide) ?_
            refine P.iceq (pc := 45) 90 dX10_findUnits_45 (by decide) (fun c45 => ?_) (fun c45 => ?_)
            · have st : xmate σ w i = none := xmate_no (fun q hq _ z => z.2 c45)
              exact at90 th M2 _ h1 h2 (h3.elim (fun z => Or.inl ⟨z.1, st⟩) (fun z => absurd st z.2))
            · refine P.aload_n (pc := 48) 0 dX10_findUnits_48 rfl rfl ?_
              refine P.iload_n (pc := 49) 3 dX10_findUnits_49 rfl rfl ?_
              refine P.iload_n (pc := 50) 1 dX10_findUnits_50 rfl rfl ?_
              refine P.V2F (pc := 51) cs_X10_findUnits_174 dX10_findUnits_51 rfl rfl rfl (sp_X10_isThere I R2 (by omega) w) ?_
              refine P.ifeqB (pc := 54) 84 dX10_findUnits_54 (by decide) (fun c54 => ?_) (fun c54 => ?_)
              · have hn : (M2 57 i = -1 ∧ ∀ q, q < j + 1 → xthere σ w q → ¬ (σ 10 q = σ 10 i ∧ ¬ σ 10 i = -1)) ∨ (M2 57 i = nI (xun σ w i) ∧ ¬ xmate σ w i = none) := h3.imp (fun z => ⟨z.1, fun q hq a b => by
                  by_cases e : q = j
                  · rw [e] at a; exact c54 a
                  · exact z.2 q (by omega) a b⟩) id
                refine P.iinc (pc := 84) 3 1 dX10_findUnits_84 rfl (by decide) (by decide) rfl ?_
                rw [nI_1]
                refine P.goto (pc := 87) 33 dX10_findUnits_87 (by decide) ?_
                first
                | refine ihd (j + 1) _ (by omega) (fun c hc => by rw [xw_ap, if_neg hc]; exact h1 c hc) (fun q hq => by rw [xw_s, upd_ap, if_neg hq]; exact h2 q hq) (Or.inr ⟨(by rw [xw_s, upd_ap, if_pos rfl]; exact e57), qe.2⟩)
                | exact ihd (j + 1) M2 (by omega) h1 h2 hn
              · refine P.aload_n (pc := 57) 0 dX10_findUnits_57 rfl rfl ?_
                refine P.getR (pc := 58) fl_X10_28 dX10_findUnits_58 rfl rfl ?_
                refine P.iload_n (pc := 61) 3 dX10_findUnits_61 rfl rfl ?_
                refine P.iaN (pc := 62) (j) dX10_findUnits_62 rfl rfl rfl (by first | omega | grind [nT]) ?_
                rw [a53]
                refine P.aload_n (pc := 63) 0 dX10_findUnits_63 rfl rfl ?_
                refine P.getR (pc := 64) fl_X10_28 dX10_findUnits_64 rfl rfl ?_
                refine P.iload_n (pc := 67) 2 dX10_findUnits_67 rfl rfl ?_
                refine P.iaN (pc := 68) (i) dX10_findUnits_68 rfl rfl rfl (by first | omega | grind [nT]) ?_
                rw [a53]
                refine P.icne (pc := 69) 84 dX10_findUnits_69 (by decide) (fun c69 => ?_) (fun c69 => ?_)
                · have hn : (M2 57 i = -1 ∧ ∀ q, q < j + 1 → xthere σ w q → ¬ (σ 10 q = σ 10 i ∧ ¬ σ 10 i = -1)) ∨ (M2 57 i = nI (xun σ w i) ∧ ¬ xmate σ w i = none) := h3.imp (fun z => ⟨z.1, fun q hq a b => by
                    by_cases e : q = j
                    · rw [e] at b; exact c69 b.1
                    · exact z.2 q (by omega) a b⟩) id
                  refine P.iinc (pc := 84) 3 1 dX10_findUnits_84 rfl (by decide) (by decide) rfl ?_
                  rw [nI_1]
                  refine P.goto (pc := 87) 33 dX10_findUnits_87 (by decide) ?_
                  first
                  | refine ihd (j + 1) _ (by omega) (fun c hc => by rw [xw_ap, if_neg hc]; exact h1 c hc) (fun q hq => by rw [xw_s, upd_ap, if_neg hq]; exact h2 q hq) (Or.inr ⟨(by rw [xw_s, upd_ap, if_pos rfl]; exact e57), qe.2⟩)
                  | exact ihd (j + 1) M2 (by omega) h1 h2 hn
                · have qe := xun_eq (show j < i by omega) c54 c69 c45
                  have e57 : M2 57 j = nI (xun σ w i) := by rw [h2 j (by omega), (f3 j (by omega)).1 c54, qe.1]
                  refine P.aload_n (pc := 72) 0 dX10_findUnits_72 rfl rfl ?_
                  refine P.getR (pc := 73) fl_X10_44 dX10_findUnits_73 rfl rfl ?_
                  refine P.iload_n (pc := 76) 2 dX10_findUnits_76 rfl rfl ?_
                  refine P.aload_n (pc := 77) 0 dX10_findUnits_77 rfl rfl ?_
                  refine P.getR (pc := 78) fl_X10_44 dX10_findUnits_78 rfl rfl ?_
                  refine P.iload_n (pc := 81) 3 dX10_findUnits_81 rfl rfl ?_
                  refine P.iaN (pc := 82) (j) dX10_findUnits_82 rfl rfl rfl (by first | omega | grind [nT]) ?_
                  refine P.isN (pc := 83) (i) dX10_findUnits_83 rfl rfl rfl (by first | omega | grind [nT]) ?_
                  refine P.iinc (pc := 84) 3 1 dX10_findUnits_84 rfl (by decide) (by decide) rfl ?_
                  rw [nI_1]
                  refine P.goto (pc := 87) 33 dX10_findUnits_87 (by decide) ?_
                  first
                  | refine ihd (j + 1) _ (by omega) (fun c hc => by rw [xw_ap, if_neg hc]; exact h1 c hc) (fun q hq => by rw [xw_s, upd_ap, if_neg hq]; exact h2 q hq) (Or.inr ⟨(by rw [xw_s, upd_ap, if_pos rfl]; exact e57), qe.2⟩)
                  | exact ihd (j + 1) M2 (by omega) h1 h2 hn
      refine P.iload_n (pc := 7) 2 dX10_findUnits_7 rfl rfl ?_
      refine P.aload_n (pc := 8) 0 dX10_findUnits_8 rfl rfl ?_
      refine P.getI (pc := 9) fl_X10_136 dX10_findUnits_9 rfl rfl ?_
      rw [em]
      refine P.icge (pc := 12) 156 dX10_findUnits_12 (by decide) (fun c12 => ?_) (fun c12 => ?_)
      · exact absurd c12 (nI_ge (by omega) (by omega))--.
      · refine P.aload_n (pc := 15) 0 dX10_findUnits_15 rfl rfl ?_
        refine P.getR (pc := 16) fl_X10_44 dX10_findUnits_16 rfl rfl ?_
        refine P.iload_n (pc := 19) 2 dX10_findUnits_19 rfl rfl ?_
        refine P.iconst (pc := 20) (v := -1) dX10_findUnits_20 (by decide) ?_
        refine P.isN (pc := 21) (i) dX10_findUnits_21 rfl rfl rfl (by first | omega | grind [nT]) ?_
        refine P.aload_n (pc := 22) 0 dX10_findUnits_22 rfl rfl ?_
        refine P.iload_n (pc := 23) 2 dX10_findUnits_23 rfl rfl ?_
        refine P.iload_n (pc := 24) 1 dX10_findUnits_24 rfl rfl ?_
        refine P.V2F (pc := 25) cs_X10_findUnits_174 dX10_findUnits_25 rfl rfl rfl (sp_X10_isThere I ((R.fU f1).scr (c := 57) (by decide) _) (by omega) w) ?_
        refine P.ifeqB (pc := 28) 150 dX10_findUnits_28 (by decide) (fun c28 => ?_) (fun c28 => ?_)
        · refine P.iinc (pc := 150) 2 1 dX10_findUnits_150 rfl (by decide) (by decide) rfl ?_
          rw [nI_1]
          refine P.goto (pc := 153) 7 dX10_findUnits_153 (by decide) ?_
          have eu : xu σ w (i + 1) = xu σ w i := by rw [xu, if_neg (fun z => c28 z.1)]
          refine ih (i + 1) _ _ (by omega) ⟨f1.w (by omega) _, ?_, ?_, ?_⟩
          · rw [xw_ap, if_neg (by decide), eu]; exact f2
          · intro q hq
            rw [xw_s, upd_ap]
            by_cases e : q = i
            · rw [if_pos e]; subst e; exact ⟨fun z => absurd z c28, fun _ => rfl⟩
            · rw [if_neg e]; exact f3 q (by omega)
          · intro b hb
            rw [xw_ap, if_neg (by decide), xsz, if_neg (fun z => c28 z.1)]
            exact f4 b (by rw [← eu]; exact hb)
        · refine P.iconst (pc := 31) (v := 0) dX10_findUnits_31 (by decide) ?_
          refine P.istore_n (pc := 32) 3 dX10_findUnits_32 rfl (by decide) rfl ?_
          refine inner c28 i 0 _ (by omega) (fun c hc => ?_) (fun q hq => ?_) (Or.inl ⟨?_, fun q hq => by omega⟩)
          · rw [xw_ap, if_neg hc]
          · rw [xw_s, upd_ap, if_neg hq]
          · rw [xw_s, upd_ap, if_pos rfl]
  refine P.aload_n (pc := 0) 0 dX10_findUnits_0 rfl rfl ?_
  refine P.iconst (pc := 1) (v := 0) dX10_findUnits_1 (by decide) ?_
  refine P.put (pc := 2) fp_X10_185 dX10_findUnits_2 rfl rfl ?_
  refine P.iconst (pc := 5) (v := 0) dX10_findUnits_5 (by decide) ?_
  refine P.istore_n (pc := 6) 2 dX10_findUnits_6 rfl (by decide) rfl ?_
  refine lp (n 1) 0 _ _ (by omega) ⟨fU.rf.u _, ?_, fun q hq => by omega, fun b hb => ?_⟩
  · rw [xw_s, upd_ap, if_pos rfl]; rfl
  · rw [xu] at hb; omega
