theorem nI_inj {a b : Nat} (ha : a < 1000000) (hb : b < 1000000) (h : nI a = nI b) : a = b := by grind [nT]
theorem nI_ne {a : Nat} (ha : a < 1000000) : ¬ nI a = -1 := by grind [nT]
theorem tab_in {n : Nat → Nat} {σ : xM} (I : Iv n σ) {i : Nat} (hi : i < n 1) : σ 10 i = -1 ∨ ∃ a, a < 10 ∧ σ 10 i = nI a := by
  have h := I.1.2.2.2.1 i hi
  clear I
  by_cases e : σ 10 i = -1
  · exact Or.inl e
  · obtain ⟨a, -, ha, ea⟩ := xin_nat 9 (lo := 0) (v := σ 10 i) (by grind [nT]) (by grind [nT]) (by decide) (by decide)
    exact Or.inr ⟨a, by omega, ea⟩
def fS (M M1 : xM) : Prop := (∀ c, c < 13 ∨ 18 < c → M1 c = M c) ∧ M1 13 0 = M 13 0 ∧ M1 13 1 = M 13 1
theorem fS.rf {M : xM} : fS M M := ⟨fun _ _ => rfl, rfl, rfl⟩
theorem fS.tr {M M1 M2 : xM} (h : fS M M1) (h2 : fS M1 M2) : fS M M2 := ⟨fun c hc => (h2.1 c hc).trans (h.1 c hc), h2.2.1.trans h.2.1, h2.2.2.trans h.2.2⟩
theorem fS.w {M M1 : xM} (h : fS M M1) {k : Nat} (hk : 14 ≤ k ∧ k ≤ 18) (f : Nat → Int32) : fS M (xw M1 k f) :=
  ⟨fun c hc => by rw [xw_ap, if_neg (by omega)]; exact h.1 c hc, by rw [xw_ap, if_neg (by omega)]; exact h.2.1, by rw [xw_ap, if_neg (by omega)]; exact h.2.2⟩
theorem fS.u {M M1 : xM} (h : fS M M1) {j : Nat} (hj : 2 ≤ j) (v : Int32) : fS M (xw M1 13 (upd (M1 13) j v)) :=
  ⟨fun c hc => by rw [xw_ap, if_neg (by omega)]; exact h.1 c hc, by rw [xw_s, upd_ap, if_neg (by omega)]; exact h.2.1, by rw [xw_s, upd_ap, if_neg (by omega)]; exact h.2.2⟩
theorem RX.fS {n : Nat → Nat} {σ M M1 : xM} (R : RX n σ M) (h : fS M M1) : RX n σ M1 := by
  have a : ∀ c ∈ xArr, c < 13 ∨ 18 < c := by decide
  have b : ∀ q ∈ xScal, (q.1 < 13 ∨ 18 < q.1) ∨ q = (13, 0) ∨ q = (13, 1) := by decide
  have d : ∀ q ∈ xCnt, q.1 < 13 ∨ 18 < q.1 := by decide
  refine ⟨fun q hq => by rw [h.1 q (a q hq)]; exact R.1 q hq, fun q hq => ?_, fun q hq => by rw [h.1 q.1 (d q hq)]; exact R.2.2 q hq⟩
  rcases b q hq with z | rfl | rfl
  · rw [h.1 q.1 z]; exact R.2.1 q hq
  · exact h.2.1.trans (R.2.1 (13, 0) hq)
  · exact h.2.2.trans (R.2.1 (13, 1) hq)
theorem fS.X {M M1 : xM} (h : fS M M1) : frX M M1 := fun q hq => h.1 q (Or.inr (by omega))
def FB (σ : xM) (w : Int32) (i : Nat) (M M1 : xM) : Prop := fS M M1 ∧ M1 13 3 = nI (xu σ w i) ∧ M1 13 4 = nI (xall σ w i) ∧ (∀ q, q < i → (xthere σ w q → M1 14 q = nI (xun σ w q)) ∧ (¬ xthere σ w q → M1 14 q = -1)) ∧ (∀ q, i ≤ q → q < 24 → M1 14 q = -1) ∧
  (∀ t, t < 10 → (M1 15 t = -1 ∧ ∀ q, q < i → xthere σ w q → ¬ σ 10 q = nI t) ∨ (∃ q, q < i ∧ xthere σ w q ∧ σ 10 q = nI t ∧ M1 15 t = nI (xun σ w q))) ∧ ∀ b, b < xu σ w i → M1 16 b = nI (xsz σ w b i)
theorem sp_X8_benchFor {M : xM} {B : Nat} (hB : M 13 3 = nI B) (hB24 : B < 24) (t : Int32) (ht : t = -1 ∨ ∃ a, a < 10 ∧ t = nI a) : SpI mX8_benchFor [.ref 13, .int t] M (fun v M2 =>
    (¬ t = -1 ∧ ¬ M 15 t.toNatClampNeg = -1 ∧ v = M 15 t.toNatClampNeg ∧ M2 = M) ∨
    ((t = -1 ∨ M 15 t.toNatClampNeg = -1) ∧ v = nI B ∧ M2 = xw (xw (xw M 13 (upd (M 13) 3 (nI (B + 1)))) 16 (upd (M 16) B 0)) 15 (if t = -1 then M 15 else upd (M 15) t.toNatClampNeg (nI B)))) := by
  rcases ht with rfl | ⟨a, ha, rfl⟩
  · skip
    refine P.iload_n (pc := 0) 1 dX8_benchFor_0 rfl rfl ?_
    refine P.iconst (pc := 1) (v := -1) dX8_benchFor_1 (by decide) ?_
    refine P.iceq (pc := 2) 22 dX8_benchFor_2 (by decide) (fun c2 => ?_) (fun c2 => ?_)
    · refine P.aload_n (pc := 22) 0 dX8_benchFor_22 rfl rfl ?_
      refine P.getI (pc := 23) fl_X8_23 dX8_benchFor_23 rfl rfl ?_
      rw [hB]
      refine P.istore_n (pc := 26) 2 dX8_benchFor_26 rfl (by decide) rfl ?_
      refine P.aload_n (pc := 27) 0 dX8_benchFor_27 rfl rfl ?_
      refine P.dup (pc := 28) dX8_benchFor_28 rfl ?_
      refine P.getI (pc := 29) fl_X8_23 dX8_benchFor_29 rfl rfl ?_
      rw [hB]
      refine P.iconst (pc := 32) (v := 1) dX8_benchFor_32 (by decide) ?_
      refine P.iadd (pc := 33) dX8_benchFor_33 ?_
      rw [nI_1]
      refine P.put (pc := 34) fp_X8_23 dX8_benchFor_34 rfl rfl ?_
      refine P.aload_n (pc := 37) 0 dX8_benchFor_37 rfl rfl ?_
      refine P.getR (pc := 38) fl_X8_36 dX8_benchFor_38 rfl rfl ?_
      refine P.iload_n (pc := 41) 2 dX8_benchFor_41 rfl rfl ?_
      refine P.iconst (pc := 42) (v := 0) dX8_benchFor_42 (by decide) ?_
      refine P.isN (pc := 43) _ dX8_benchFor_43 rfl rfl rfl (by first | omega | grind [nT]) ?_
      refine P.iload_n (pc := 44) 1 dX8_benchFor_44 rfl rfl ?_
      refine P.iconst (pc := 45) (v := -1) dX8_benchFor_45 (by decide) ?_
      refine P.iceq (pc := 46) 56 dX8_benchFor_46 (by decide) (fun c46 => ?_) (fun c46 => ?_)
      · refine P.iload_n (pc := 56) 2 dX8_benchFor_56 rfl rfl ?_
        refine P.iret (pc := 57) dX8_benchFor_57 rfl ?_
        exact ⟨_, rfl, Or.inr ⟨Or.inl rfl, rfl, by
          rw [if_pos rfl]
          exact (xw_id (by simp only [xw_ap, Nat.reduceEqDiff, ↓reduceIte])).symm⟩⟩
      · exact absurd rfl c46--.
    · exact absurd rfl c2--.
  · have ck := nI_clamp (n := a) (by omega)
    have ne : ¬ nI a = -1 := nI_ne (by omega)
    rw [ck]
    refine P.iload_n (pc := 0) 1 dX8_benchFor_0 rfl rfl ?_
    refine P.iconst (pc := 1) (v := -1) dX8_benchFor_1 (by decide) ?_
    refine P.iceq (pc := 2) 22 dX8_benchFor_2 (by decide) (fun c2 => ?_) (fun c2 => ?_)
    · exact absurd c2 ne--.
    · refine P.aload_n (pc := 5) 0 dX8_benchFor_5 rfl rfl ?_
      refine P.getR (pc := 6) fl_X8_33 dX8_benchFor_6 rfl rfl ?_
      refine P.iload_n (pc := 9) 1 dX8_benchFor_9 rfl rfl ?_
      refine P.iaN (pc := 10) (a) dX8_benchFor_10 rfl rfl rfl (by first | omega | grind [nT]) ?_
      refine P.iconst (pc := 11) (v := -1) dX8_benchFor_11 (by decide) ?_
      refine P.iceq (pc := 12) 22 dX8_benchFor_12 (by decide) (fun c12 => ?_) (fun c12 => ?_)
      · refine P.aload_n (pc := 22) 0 dX8_benchFor_22 rfl rfl ?_
        refine P.getI (pc := 23) fl_X8_23 dX8_benchFor_23 rfl rfl ?_
        rw [hB]
        refine P.istore_n (pc := 26) 2 dX8_benchFor_26 rfl (by decide) rfl ?_
        refine P.aload_n (pc := 27) 0 dX8_benchFor_27 rfl rfl ?_
        refine P.dup (pc := 28) dX8_benchFor_28 rfl ?_
        refine P.getI (pc := 29) fl_X8_23 dX8_benchFor_29 rfl rfl ?_
        rw [hB]
        refine P.iconst (pc := 32) (v := 1) dX8_benchFor_32 (by decide) ?_
        refine P.iadd (pc := 33) dX8_benchFor_33 ?_
        rw [nI_1]
        refine P.put (pc := 34) fp_X8_23 dX8_benchFor_34 rfl rfl ?_
        refine P.aload_n (pc := 37) 0 dX8_benchFor_37 rfl rfl ?_
        refine P.getR (pc := 38) fl_X8_36 dX8_benchFor_38 rfl rfl ?_
        refine P.iload_n (pc := 41) 2 dX8_benchFor_41 rfl rfl ?_
        refine P.iconst (pc := 42) (v := 0) dX8_benchFor_42 (by decide) ?_
        refine P.isN (pc := 43) _ dX8_benchFor_43 rfl rfl rfl (by first | omega | grind [nT]) ?_
        refine P.iload_n (pc := 44) 1 dX8_benchFor_44 rfl rfl ?_
        refine P.iconst (pc := 45) (v := -1) dX8_benchFor_45 (by decide) ?_
        refine P.iceq (pc := 46) 56 dX8_benchFor_46 (by decide) (fun c46 => ?_) (fun c46 => ?_)
        · exact absurd c46 ne--.
        · refine P.aload_n (pc := 49) 0 dX8_benchFor_49 rfl rfl ?_
          refine P.getR (pc := 50) fl_X8_33 dX8_benchFor_50 rfl rfl ?_
          refine P.iload_n (pc := 53) 1 dX8_benchFor_53 rfl rfl ?_
          refine P.iload_n (pc := 54) 2 dX8_benchFor_54 rfl rfl ?_
          refine P.isN (pc := 55) (a) dX8_benchFor_55 rfl rfl rfl (by first | omega | grind [nT]) ?_
          refine P.iload_n (pc := 56) 2 dX8_benchFor_56 rfl rfl ?_
          refine P.iret (pc := 57) dX8_benchFor_57 rfl ?_
          exact ⟨_, rfl, Or.inr ⟨Or.inr c12, rfl, by rw [if_neg ne]; simp only [xw_ap, Nat.reduceEqDiff, ↓reduceIte]⟩⟩
      · refine P.aload_n (pc := 15) 0 dX8_benchFor_15 rfl rfl ?_
        refine P.getR (pc := 16) fl_X8_33 dX8_benchFor_16 rfl rfl ?_
        refine P.iload_n (pc := 19) 1 dX8_benchFor_19 rfl rfl ?_
        refine P.iaN (pc := 20) (a) dX8_benchFor_20 rfl rfl rfl (by first | omega | grind [nT]) ?_
        refine P.iret (pc := 21) dX8_benchFor_21 rfl ?_
        exact ⟨_, rfl, Or.inl ⟨ne, c12, rfl, rfl⟩⟩
theorem xmate_no {σ : xM} {w : Int32} {p : Nat} (h : ∀ q, q < p → xthere σ w q → ¬ (σ 10 q = σ 10 p ∧ ¬ σ 10 p = -1)) : xmate σ w p = none := by
  cases e : xmate σ w p with
  | none => rfl
  | some r =>
    obtain ⟨r1, ⟨r2, r3⟩, -⟩ := xfst_some e
    exact absurd r3 (h r r1 r2)
theorem sp_X8_fillBenches {n : Nat → Nat} {σ M : xM} (I : Iv n σ) (R : RX n σ M) (w : Int32) : SpV mX8_fillBenches [.ref 13, .ref 5, .int w] M (fun M' => FB σ w (n 1) M M') := by
  have b2 : n 1 ≤ 24 := I.1.2.1
  have lp : ∀ (k i : Nat) (x : Int32) (M1 : xM) (o4 : Option Value), i + k = n 1 → x = nI i → FB σ w i M M1 → P mX8_fillBenches 28 [some (.ref 13), some (.ref 5), some (.int w), some (.int x), o4] [] M1 (fun r M' => r = none ∧ FB σ w (n 1) M M') := by
    intro k
    induction k with
    | zero =>
      intro i x M1 o4 hi hx hf
      subst hx
      have R1 := R.fS hf.1
      have em : M1 5 7 = nI (n 1) := R1.2.2 (5, 7, 1) (by decide)
      refine P.iload_n (pc := 28) 3 dX8_fillBenches_28 rfl rfl ?_
      refine P.aload_n (pc := 29) 1 dX8_fillBenches_29 rfl rfl ?_
      refine P.getI (pc := 30) fl_X8_68 dX8_fillBenches_30 rfl rfl ?_
      refine P.icge (pc := 33) 102 dX8_fillBenches_33 (by decide) (fun c33 => ?_) (fun c33 => ?_)
      · refine P.vret (pc := 102) dX8_fillBenches_102 rfl ?_
        exact ⟨rfl, by rw [← show i = n 1 from hi]; exact hf⟩
      · exact absurd (by rw [em, show i = n 1 from hi]; exact Int32.le_refl _) c33--.
    | succ k ih =>
      intro i x M1 o4 hi hx hf
      subst hx
      obtain ⟨f1, f2, f3, f4, f5, f6, f7⟩ := hf
      have R1 := R.fS f1
      have em : M1 5 7 = nI (n 1) := R1.2.2 (5, 7, 1) (by decide)
      have a10 : M1 10 = σ 10 := R1.1 10 (by decide)
      have ht10 := tab_in I (i := i) (by omega)
      have ul := xu_le σ w i
      have rest : ∀ (th : xthere σ w i) (M2 : xM), fS M M2 → M2 13 3 = nI (xu σ w (i + 1)) → M2 13 4 = nI (xall σ w i) → M2 14 = M1 14 → (∀ t, t < 10 → (M2 15 t = -1 ∧ ∀ q, q < i + 1 → xthere σ w q → ¬ σ 10 q = nI t) ∨ (∃ q, q < i + 1 ∧ xthere σ w q ∧ σ 10 q = nI t ∧ M2 15 t = nI (xun σ w q))) → (∀ b, b < xu σ w (i + 1) → M2 16 b = nI (xsz σ w b i)) →
          P mX8_fillBenches 55 [some (.ref 13), some (.ref 5), some (.int w), some (.int (nI i)), o4] [.int (nI (xun σ w i))] M2 (fun r M' => r = none ∧ FB σ w (n 1) M M') := by
        intro th M2 g1 g2 g3 g4 g5 g6
        have ult := xun_lt (show i < i + 1 by omega) th
        have ul1 := xu_le σ w (i + 1)
        have R2 := R.fS g1
        obtain ⟨z1, z2, z3⟩ := xzN_in I (p := i) (by omega)
        have a6 : M2 6 i = nI (xzN σ i) := by rw [R2.1 6 (by decide)]; exact z3
        have al := xall_le I w i (by omega)
        refine P.istore (pc := 55) 4 dX8_fillBenches_55 (by decide) rfl ?_
        refine P.aload_n (pc := 57) 0 dX8_fillBenches_57 rfl rfl ?_
        refine P.getR (pc := 58) fl_X8_29 dX8_fillBenches_58 rfl rfl ?_
        refine P.iload_n (pc := 61) 3 dX8_fillBenches_61 rfl rfl ?_
        refine P.iload (pc := 62) 4 dX8_fillBenches_62 rfl ?_
        refine P.isN (pc := 64) (i) dX8_fillBenches_64 rfl rfl rfl (by first | omega | grind [nT]) ?_
        refine P.aload_n (pc := 65) 0 dX8_fillBenches_65 rfl rfl ?_
        refine P.getR (pc := 66) fl_X8_36 dX8_fillBenches_66 rfl rfl ?_
        refine P.iload (pc := 69) 4 dX8_fillBenches_69 rfl ?_
        refine P.dup2 (pc := 71) dX8_fillBenches_71 rfl rfl ?_
        refine P.iaN (pc := 72) (xun σ w i) dX8_fillBenches_72 rfl rfl rfl (by first | omega | grind [nT]) ?_
        refine P.aload_n (pc := 73) 1 dX8_fillBenches_73 rfl rfl ?_
        refine P.getR (pc := 74) fl_X8_82 dX8_fillBenches_74 rfl rfl ?_
        refine P.iload_n (pc := 77) 3 dX8_fillBenches_77 rfl rfl ?_
        refine P.iaN (pc := 78) _ dX8_fillBenches_78 rfl rfl rfl (by first | omega | grind [nT]) ?_
        refine P.iadd (pc := 79) dX8_fillBenches_79 ?_
        refine P.isN (pc := 80) (xun σ w i) dX8_fillBenches_80 rfl rfl rfl (by first | omega | grind [nT]) ?_
        refine P.aload_n (pc := 81) 0 dX8_fillBenches_81 rfl rfl ?_
        refine P.dup (pc := 82) dX8_fillBenches_82 rfl ?_
        refine P.getI (pc := 83) fl_X8_26 dX8_fillBenches_83 rfl rfl ?_
        simp only [xw_ap, Nat.reduceEqDiff, ↓reduceIte, g3]
        refine P.aload_n (pc := 86) 1 dX8_fillBenches_86 rfl rfl ?_
        refine P.getR (pc := 87) fl_X8_82 dX8_fillBenches_87 rfl rfl ?_
        refine P.iload_n (pc := 90) 3 dX8_fillBenches_90 rfl rfl ?_
        refine P.iaN (pc := 91) _ dX8_fillBenches_91 rfl rfl rfl (by first | omega | grind [nT]) ?_
        simp only [xw_ap, Nat.reduceEqDiff, ↓reduceIte, a6]
        refine P.iadd (pc := 92) dX8_fillBenches_92 ?_
        refine P.put (pc := 93) fp_X8_26 dX8_fillBenches_93 rfl rfl ?_
        refine P.iinc (pc := 96) 3 1 dX8_fillBenches_96 rfl (by decide) (by decide) rfl ?_
        refine P.goto (pc := 99) 28 dX8_fillBenches_99 (by decide) ?_
        refine ih (i + 1) _ _ _ (by omega) (nI_1 i) ⟨((g1.w (by omega) _).w (by omega) _).u (by omega) _, ?_, ?_, ?_, ?_, ?_, ?_⟩
        · simp only [xw_ap, upd_ap, Nat.reduceEqDiff, ↓reduceIte]; exact g2
        · simp only [xw_ap, upd_ap, Nat.reduceEqDiff, ↓reduceIte]; rw [xall, if_pos th, nI_add]
        · intro q hq
          simp only [xw_ap, upd_ap, Nat.reduceEqDiff, ↓reduceIte]
          by_cases e : q = i
          · subst e; simp only [↓reduceIte]; exact ⟨fun _ => trivial, fun z => absurd th z⟩
          · simp only [if_neg e, g4]; exact f4 q (by omega)
        · intro q hq hq2
          simp only [xw_ap, upd_ap, Nat.reduceEqDiff, ↓reduceIte]
          rw [if_neg (by omega), g4]; exact f5 q (by omega) hq2
        · intro t ht
          simp only [xw_ap, upd_ap, Nat.reduceEqDiff, ↓reduceIte]
          exact g5 t ht
        · intro b hb
          simp only [xw_ap, upd_ap, Nat.reduceEqDiff, ↓reduceIte, a6]
          rw [xsz]
          by_cases e : b = xun σ w i
          · rw [if_pos e, if_pos ⟨th, e.symm⟩, g6 (xun σ w i) ult, nI_add, e]
          · rw [if_neg e, if_neg (fun q => e q.2.symm)]; exact g6 b hb
      have cA : ∀ (c42 : xthere σ w i) (u1 : ¬ σ 10 i = -1) (u2 : ¬ M1 15 (σ 10 i).toNatClampNeg = -1), P mX8_fillBenches 55 [some (.ref 13), some (.ref 5), some (.int w), some (.int (nI i)), o4] [.int (M1 15 (σ 10 i).toNatClampNeg)] M1 (fun r M' => r = none ∧ FB σ w (n 1) M M') := by
        intro c42 u1 u2
        obtain ⟨a, ha, ea⟩ := ht10.resolve_left u1
        rw [ea, nI_clamp (by omega)] at u2 ⊢
        rcases f6 a ha with ⟨v1, v2⟩ | ⟨q, v1, v2, v3, v4⟩
        · exact absurd v1 u2
        · obtain ⟨e1, e2⟩ := xun_eq v1 v2 (by rw [v3, ea]) (by rw [ea]; exact nI_ne (by omega))
          have eu : xu σ w (i + 1) = xu σ w i := by rw [xu, if_neg (fun z => e2 z.2)]
          rw [v4, e1]
          refine rest c42 M1 f1 (by rw [eu]; exact f2) f3 rfl (fun t ht => ?_) (fun b hb => f7 b (by rw [← eu]; exact hb))
          rcases f6 t ht with ⟨w1, w2⟩ | ⟨r, w1, w2, w3, w4⟩
          · refine Or.inl ⟨w1, fun r hr hr2 => ?_⟩
            by_cases e : r = i
            · subst e
              intro z
              rw [ea] at z
              have : a = t := nI_inj (by omega) (by omega) z
              subst this
              exact u2 w1
            · exact w2 r (by omega) hr2
          · exact Or.inr ⟨r, by omega, w2, w3, w4⟩
      have cB : ∀ (c42 : xthere σ w i) (u1 : σ 10 i = -1 ∨ M1 15 (σ 10 i).toNatClampNeg = -1), P mX8_fillBenches 55 [some (.ref 13), some (.ref 5), some (.int w), some (.int (nI i)), o4] [.int (nI (xu σ w i))] (xw (xw (xw M1 13 (upd (M1 13) 3 (nI (xu σ w i + 1)))) 16 (upd (M1 16) (xu σ w i) 0)) 15 (if σ 10 i = -1 then M1 15 else upd (M1 15) (σ 10 i).toNatClampNeg (nI (xu σ w i)))) (fun r M' => r = none ∧ FB σ w (n 1) M M') := by
        intro c42 u1
        have mn : xmate σ w i = none := by
          refine xmate_no (fun q hq hq2 => ?_)
          rintro ⟨z1, z2⟩
          rcases u1 with u1 | u1
          · exact z2 u1
          · obtain ⟨a, ha, ea⟩ := ht10.resolve_left z2
            rw [ea, nI_clamp (by omega)] at u1
            rcases f6 a ha with ⟨v1, v2⟩ | ⟨r, v1, v2, v3, v4⟩
            · exact v2 q hq hq2 (by rw [z1, ea])
            · have := xun_lt v1 v2
              rw [v4] at u1
              exact nI_ne (by omega) u1
        have eu : xu σ w (i + 1) = xu σ w i + 1 := by rw [xu, if_pos ⟨c42, mn⟩]
        rw [← xun_new mn]
        refine rest c42 _ (((f1.u (by omega) _).w (by omega) _).w (by omega) _) ?_ ?_ ?_ (fun t ht => ?_) (fun b hb => ?_)
        · simp only [xw_ap, upd_ap, Nat.reduceEqDiff, ↓reduceIte]; rw [eu, xun_new mn]
        · simp only [xw_ap, upd_ap, Nat.reduceEqDiff, ↓reduceIte]; exact f3
        · simp only [xw_ap, Nat.reduceEqDiff, ↓reduceIte]
        · simp only [xw_ap, ↓reduceIte]
          by_cases e : σ 10 i = -1
          · rw [if_pos e]
            rcases f6 t ht with ⟨w1, w2⟩ | ⟨r, w1, w2, w3, w4⟩
            · refine Or.inl ⟨w1, fun r hr hr2 => ?_⟩
              by_cases e2 : r = i
              · subst e2; rw [e]; exact fun z => nI_ne (a := t) (by omega) z.symm
              · exact w2 r (by omega) hr2
            · exact Or.inr ⟨r, by omega, w2, w3, w4⟩
          · obtain ⟨a, ha, ea⟩ := ht10.resolve_left e
            rw [if_neg e, ea, nI_clamp (by omega), upd_ap]
            by_cases e2 : t = a
            · rw [if_pos e2]; exact Or.inr ⟨i, by omega, c42, by rw [ea, e2], rfl⟩
            · rw [if_neg e2]
              rcases f6 t ht with ⟨w1, w2⟩ | ⟨r, w1, w2, w3, w4⟩
              · refine Or.inl ⟨w1, fun r hr hr2 => ?_⟩
                by_cases e3 : r = i
                · subst e3; rw [ea]; intro z; exact e2 (nI_inj (by omega) (by omega) z.symm)
                · exact w2 r (by omega) hr2
              · exact Or.inr ⟨r, by omega, w2, w3, w4⟩
        · simp only [xw_ap, upd_ap, Nat.reduceEqDiff, ↓reduceIte]
          rw [xun_new mn]
          by_cases e : b = xu σ w i
          · rw [if_pos e, e, xsz_0 i (Nat.le_refl _)]; rfl
          · rw [if_neg e]; exact f7 b (by omega)
      refine P.iload_n (pc := 28) 3 dX8_fillBenches_28 rfl rfl ?_
      refine P.aload_n (pc := 29) 1 dX8_fillBenches_29 rfl rfl ?_
      refine P.getI (pc := 30) fl_X8_68 dX8_fillBenches_30 rfl rfl ?_
      refine P.icge (pc := 33) 102 dX8_fillBenches_33 (by decide) (fun c33 => ?_) (fun c33 => ?_)
      · exact absurd c33 (by rw [em]; exact nI_ge (by omega) (by omega))--.
      · refine P.aload_n (pc := 36) 1 dX8_fillBenches_36 rfl rfl ?_
        refine P.iload_n (pc := 37) 3 dX8_fillBenches_37 rfl rfl ?_
        refine P.iload_n (pc := 38) 2 dX8_fillBenches_38 rfl rfl ?_
        refine P.V2F (pc := 39) cs_X8_fillBenches_71 dX8_fillBenches_39 rfl rfl rfl (sp_X4_isThere _ (by omega) _) ?_
        rw [bI_c (there_R R1 w i)]
        refine P.ifeqB (pc := 42) 96 dX8_fillBenches_42 (by decide) (fun c42 => ?_) (fun c42 => ?_)
        · refine P.iinc (pc := 96) 3 1 dX8_fillBenches_96 rfl (by decide) (by decide) rfl ?_
          refine P.goto (pc := 99) 28 dX8_fillBenches_99 (by decide) ?_
          have eu : xu σ w (i + 1) = xu σ w i := by rw [xu, if_neg (fun z => c42 z.1)]
          refine ih (i + 1) _ _ _ (by omega) (nI_1 i) ⟨f1, by rw [eu]; exact f2, by rw [xall, if_neg c42]; exact f3, ?_, fun q hq hq2 => f5 q (by omega) hq2, ?_, ?_⟩
          · intro q hq
            by_cases e : q = i
            · subst e; exact ⟨fun z => absurd z c42, fun _ => f5 q (Nat.le_refl _) (by omega)⟩
            · exact f4 q (by omega)
          · intro t ht
            rcases f6 t ht with ⟨w1, w2⟩ | ⟨r, w1, w2, w3, w4⟩
            · refine Or.inl ⟨w1, fun r hr hr2 => ?_⟩
              by_cases e3 : r = i
              · subst e3; exact absurd hr2 c42
              · exact w2 r (by omega) hr2
            · exact Or.inr ⟨r, by omega, w2, w3, w4⟩
          · intro b hb
            rw [xsz, if_neg (fun z => c42 z.1)]
            exact f7 b (by rw [← eu]; exact hb)
        · refine P.aload_n (pc := 45) 0 dX8_fillBenches_45 rfl rfl ?_
          refine P.aload_n (pc := 46) 1 dX8_fillBenches_46 rfl rfl ?_
          refine P.getR (pc := 47) fl_X8_75 dX8_fillBenches_47 rfl rfl ?_
          refine P.iload_n (pc := 50) 3 dX8_fillBenches_50 rfl rfl ?_
          refine P.iaN (pc := 51) _ dX8_fillBenches_51 rfl rfl rfl (by first | omega | grind [nT]) ?_
          rw [a10]
          refine P.V1I (pc := 52) cs_X8_fillBenches_78 dX8_fillBenches_52 rfl rfl rfl (sp_X8_benchFor f2 (by omega) _ ht10) (fun v52 M52 h52 => ?_)
          rcases h52 with ⟨u1, u2, e1, e2⟩ | ⟨u1, e1, e2⟩
          · rw [e1, e2]; exact cA c42 u1 u2
          · rw [e1, e2]; exact cB c42 u1
  refine P.aload_n (pc := 0) 0 dX8_fillBenches_0 rfl rfl ?_
  refine P.iconst (pc := 1) (v := 0) dX8_fillBenches_1 (by decide) ?_
  refine P.put (pc := 2) fp_X8_23 dX8_fillBenches_2 rfl rfl ?_
  refine P.aload_n (pc := 5) 0 dX8_fillBenches_5 rfl rfl ?_
  refine P.iconst (pc := 6) (v := 0) dX8_fillBenches_6 (by decide) ?_
  refine P.put (pc := 7) fp_X8_26 dX8_fillBenches_7 rfl rfl ?_
  refine P.aload_n (pc := 10) 0 dX8_fillBenches_10 rfl rfl ?_
  refine P.getR (pc := 11) fl_X8_29 dX8_fillBenches_11 rfl rfl ?_
  refine P.iconst (pc := 14) (v := -1) dX8_fillBenches_14 (by decide) ?_
  refine P.S2V (pc := 15) cs_X8_fillBenches_62 dX8_fillBenches_15 rfl rfl (sp_fill2 _ rfl rfl _) (fun M15 h15 => ?_)
  subst h15
  refine P.aload_n (pc := 18) 0 dX8_fillBenches_18 rfl rfl ?_
  refine P.getR (pc := 19) fl_X8_33 dX8_fillBenches_19 rfl rfl ?_
  refine P.iconst (pc := 22) (v := -1) dX8_fillBenches_22 (by decide) ?_
  refine P.S2V (pc := 23) cs_X8_fillBenches_62 dX8_fillBenches_23 rfl rfl (sp_fill2 _ rfl rfl _) (fun M23 h23 => ?_)
  subst h23
  refine P.iconst (pc := 26) (v := 0) dX8_fillBenches_26 (by decide) ?_
  refine P.istore_n (pc := 27) 3 dX8_fillBenches_27 rfl (by decide) rfl ?_
  refine lp (n 1) 0 _ _ _ (by omega) rfl ⟨(((fS.rf.u (by omega) _).u (by omega) _).w (by omega) _).w (by omega) _, ?_, ?_, fun q hq => by omega, fun q _ hq => ?_, fun t ht => Or.inl ⟨?_, fun q hq => by omega⟩, fun b hb => ?_⟩
  · simp only [xw_ap, upd_ap, Nat.reduceEqDiff, ↓reduceIte]; rfl
  · simp only [xw_ap, upd_ap, Nat.reduceEqDiff, ↓reduceIte]; rfl
  · simp only [xw_ap, Nat.reduceEqDiff, ↓reduceIte]; rw [xfill, if_pos ⟨Nat.zero_le _, hq⟩]
  · simp only [xw_ap, Nat.reduceEqDiff, ↓reduceIte]; rw [xfill, if_pos ⟨Nat.zero_le _, ht⟩]
  · rw [xu] at hb; omega
