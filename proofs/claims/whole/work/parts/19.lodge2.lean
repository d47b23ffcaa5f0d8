theorem RX.hut {n : Nat → Nat} {σ M : xM} (R : RX n σ M) (f : Nat → Int32) : RX n (xw σ 11 f) (xw M 11 f) := R.arr (by decide) f
theorem upd_same (f : Nat → Int32) (k : Nat) : upd f k (f k) = f := by
  funext j; rw [upd_ap]; split
  · rename_i e; rw [e]
  · rfl
theorem upd_upd (f : Nat → Int32) (k : Nat) (a b : Int32) : upd (upd f k a) k b = upd f k b := by
  funext j; rw [upd_ap, upd_ap, upd_ap]; split <;> rfl
theorem upd_back {f : Nat → Int32} {k : Nat} {a b : Int32} (h : f k = b) : upd (upd f k a) k b = f := by rw [upd_upd, ← h, upd_same]
theorem upd_back2 {f : Nat → Int32} {p q : Nat} {a b c d : Int32} (hpq : ¬ p = q) (h1 : f q = b) (h2 : f p = d) : upd (upd (upd (upd f q a) p c) p d) q b = f := by
  funext j; simp only [upd_ap]; grind
theorem sp_X3_makesRoom {n : Nat → Nat} {σ M : xM} (H : IvH n σ) (R : RX n σ M) {p q : Nat} (hp : p < n 1) (hq : q < n 1) (hpn : σ 11 p = -1) (hqn : ¬ σ 11 q = -1) :
    SpI mX3_makesRoom [.ref 1, .int (nI q), .int (nI p)] M (fun v M' => v = bI (xgive n σ p q) ∧ (xgive n σ p q → M' = xw M 11 (upd (upd (upd (σ 11) q (-1)) p (σ 11 q)) q (xels n σ p q))) ∧ (¬ xgive n σ p q → M' = M)) := by
  have b1 : n 1 ≤ 24 := H.2.1
  have b0 : n 0 ≤ 30 := H.1
  have a1 := R.1 11 (by decide)
  have hpq : ¬ p = q := fun e => hqn (e ▸ hpn)
  obtain ⟨a, ha, ea⟩ := (H.2.2.2.2.1 q hq).resolve_left hqn
  have ck : (σ 11 q).toNatClampNeg = a := by rw [ea]; exact nI_clamp (by omega)
  have H1 : IvH n (xw σ 11 (upd (σ 11) q (-1))) := H.w (fun j hj => by
    rw [upd_ap]; split
    · exact Or.inl rfl
    · exact H.2.2.2.2.1 j hj)
  have H2 : IvH n (xw σ 11 (upd (upd (σ 11) q (-1)) p (σ 11 q))) := H.w (fun j hj => by
    rw [upd_ap]; split
    · exact Or.inr ⟨a, ha, ea⟩
    · rw [upd_ap]; split
      · exact Or.inl rfl
      · exact H.2.2.2.2.1 j hj)
  have R1 := R.hut (upd (σ 11) q (-1))
  have R2 := R.hut (upd (upd (σ 11) q (-1)) p (σ 11 q))
  refine P.aload_n (pc := 0) 0 dX3_makesRoom_0 rfl rfl ?_
  refine P.getR (pc := 1) fl_X3_21 dX3_makesRoom_1 rfl rfl ?_
  refine P.getR (pc := 4) fl_X3_52 dX3_makesRoom_4 rfl rfl ?_
  refine P.iload_n (pc := 7) 1 dX3_makesRoom_7 rfl rfl ?_
  refine P.iaN (pc := 8) _ dX3_makesRoom_8 rfl rfl rfl (by first | omega | grind [nT]) ?_
  rw [a1]
  refine P.istore_n (pc := 9) 3 dX3_makesRoom_9 rfl (by decide) rfl ?_
  refine P.aload_n (pc := 10) 0 dX3_makesRoom_10 rfl rfl ?_
  refine P.getR (pc := 11) fl_X3_21 dX3_makesRoom_11 rfl rfl ?_
  refine P.getR (pc := 14) fl_X3_52 dX3_makesRoom_14 rfl rfl ?_
  refine P.iload_n (pc := 17) 1 dX3_makesRoom_17 rfl rfl ?_
  refine P.iconst (pc := 18) (v := -1) dX3_makesRoom_18 (by decide) ?_
  refine P.isN (pc := 19) _ dX3_makesRoom_19 rfl rfl rfl (by first | omega | grind [nT]) ?_
  rw [a1, ea]
  refine P.aload_n (pc := 20) 0 dX3_makesRoom_20 rfl rfl ?_
  refine P.iload_n (pc := 21) 2 dX3_makesRoom_21 rfl rfl ?_
  refine P.iload_n (pc := 22) 3 dX3_makesRoom_22 rfl rfl ?_
  refine P.V2F (pc := 23) cs_X3_makesRoom_72 dX3_makesRoom_23 rfl rfl rfl (sp_X3_mayHave H1 R1 hp ha) ?_
  refine P.ifeqB (pc := 26) 75 dX3_makesRoom_26 (by decide) (fun c26 => ?_) (fun c26 => ?_)
  · first | simp only [xw_ap, ↓reduceIte, xw_xw] | skip
    refine P.aload_n (pc := 75) 0 dX3_makesRoom_75 rfl rfl ?_
    refine P.getR (pc := 76) fl_X3_21 dX3_makesRoom_76 rfl rfl ?_
    refine P.getR (pc := 79) fl_X3_52 dX3_makesRoom_79 rfl rfl ?_
    refine P.iload_n (pc := 82) 1 dX3_makesRoom_82 rfl rfl ?_
    refine P.iload_n (pc := 83) 3 dX3_makesRoom_83 rfl rfl ?_
    refine P.isN (pc := 84) _ dX3_makesRoom_84 rfl rfl rfl (by first | omega | grind [nT]) ?_
    refine P.iconst (pc := 85) (v := 0) dX3_makesRoom_85 (by decide) ?_
    refine P.zret (pc := 86) dX3_makesRoom_86 rfl (by decide) ?_
    first
    | (have g : ¬ xgive n σ p q := fun u => u.2.2 c49
       refine ⟨_, rfl, (bI_f g).symm, fun u => absurd u g, fun _ => ?_⟩
       simp only [xw_ap, ↓reduceIte, xw_xw]
       exact xw_id (by rw [a1]; exact (upd_back2 hpq rfl hpn).symm))
    | (have g : ¬ xgive n σ p q := fun u => c26 (by rw [← ck]; exact u.2.1)
       refine ⟨_, rfl, (bI_f g).symm, fun u => absurd u g, fun _ => ?_⟩
       simp only [xw_ap, ↓reduceIte, xw_xw]
       exact xw_id (by rw [a1]; exact (upd_back ea).symm))
  · refine P.aload_n (pc := 29) 0 dX3_makesRoom_29 rfl rfl ?_
    refine P.getR (pc := 30) fl_X3_21 dX3_makesRoom_30 rfl rfl ?_
    refine P.getR (pc := 33) fl_X3_52 dX3_makesRoom_33 rfl rfl ?_
    refine P.iload_n (pc := 36) 2 dX3_makesRoom_36 rfl rfl ?_
    refine P.iload_n (pc := 37) 3 dX3_makesRoom_37 rfl rfl ?_
    refine P.isN (pc := 38) _ dX3_makesRoom_38 rfl rfl rfl (by first | omega | grind [nT]) ?_
    simp only [xw_ap, ↓reduceIte, xw_xw]
    rw [← ea]
    refine P.aload_n (pc := 39) 0 dX3_makesRoom_39 rfl rfl ?_
    refine P.iload_n (pc := 40) 1 dX3_makesRoom_40 rfl rfl ?_
    refine P.V1F (pc := 41) cs_X3_makesRoom_61 dX3_makesRoom_41 rfl rfl rfl (sp_X3_dearestHut H2 R2 hq) ?_
    refine P.istore (pc := 44) 4 dX3_makesRoom_44 (by decide) rfl ?_
    refine P.iload (pc := 46) 4 dX3_makesRoom_46 rfl ?_
    refine P.iconst (pc := 48) (v := -1) dX3_makesRoom_48 (by decide) ?_
    refine P.iceq (pc := 49) 65 dX3_makesRoom_49 (by decide) (fun c49 => ?_) (fun c49 => ?_)
    · refine P.aload_n (pc := 65) 0 dX3_makesRoom_65 rfl rfl ?_
      refine P.getR (pc := 66) fl_X3_21 dX3_makesRoom_66 rfl rfl ?_
      refine P.getR (pc := 69) fl_X3_52 dX3_makesRoom_69 rfl rfl ?_
      refine P.iload_n (pc := 72) 2 dX3_makesRoom_72 rfl rfl ?_
      refine P.iconst (pc := 73) (v := -1) dX3_makesRoom_73 (by decide) ?_
      refine P.isN (pc := 74) _ dX3_makesRoom_74 rfl rfl rfl (by first | omega | grind [nT]) ?_
      first | simp only [xw_ap, ↓reduceIte, xw_xw] | skip
      refine P.aload_n (pc := 75) 0 dX3_makesRoom_75 rfl rfl ?_
      refine P.getR (pc := 76) fl_X3_21 dX3_makesRoom_76 rfl rfl ?_
      refine P.getR (pc := 79) fl_X3_52 dX3_makesRoom_79 rfl rfl ?_
      refine P.iload_n (pc := 82) 1 dX3_makesRoom_82 rfl rfl ?_
      refine P.iload_n (pc := 83) 3 dX3_makesRoom_83 rfl rfl ?_
      refine P.isN (pc := 84) _ dX3_makesRoom_84 rfl rfl rfl (by first | omega | grind [nT]) ?_
      refine P.iconst (pc := 85) (v := 0) dX3_makesRoom_85 (by decide) ?_
      refine P.zret (pc := 86) dX3_makesRoom_86 rfl (by decide) ?_
      first
      | (have g : ¬ xgive n σ p q := fun u => u.2.2 c49
         refine ⟨_, rfl, (bI_f g).symm, fun u => absurd u g, fun _ => ?_⟩
         simp only [xw_ap, ↓reduceIte, xw_xw]
         exact xw_id (by rw [a1]; exact (upd_back2 hpq rfl hpn).symm))
      | (have g : ¬ xgive n σ p q := fun u => c26 (by rw [← ck]; exact u.2.1)
         refine ⟨_, rfl, (bI_f g).symm, fun u => absurd u g, fun _ => ?_⟩
         simp only [xw_ap, ↓reduceIte, xw_xw]
         exact xw_id (by rw [a1]; exact (upd_back ea).symm))
    · refine P.aload_n (pc := 52) 0 dX3_makesRoom_52 rfl rfl ?_
      refine P.getR (pc := 53) fl_X3_21 dX3_makesRoom_53 rfl rfl ?_
      refine P.getR (pc := 56) fl_X3_52 dX3_makesRoom_56 rfl rfl ?_
      refine P.iload_n (pc := 59) 1 dX3_makesRoom_59 rfl rfl ?_
      refine P.iload (pc := 60) 4 dX3_makesRoom_60 rfl ?_
      refine P.isN (pc := 62) _ dX3_makesRoom_62 rfl rfl rfl (by first | omega | grind [nT]) ?_
      simp only [xw_ap, ↓reduceIte, xw_xw]
      refine P.iconst (pc := 63) (v := 1) dX3_makesRoom_63 (by decide) ?_
      refine P.zret (pc := 64) dX3_makesRoom_64 rfl (by decide) ?_
      have g : xgive n σ p q := ⟨hqn, by rw [ck]; exact c26, c49⟩
      exact ⟨_, rfl, (bI_t g).symm, fun _ => rfl, fun u => absurd g u⟩
theorem RX.mv {n : Nat → Nat} {σ M : xM} (R : RX n σ M) (v : Int32) : RX n (xw σ 1 (upd (σ 1) 2 v)) (xw M 1 (upd (M 1) 2 v)) := R.scal (by decide) (by decide) v
theorem sp_X3_takeIn {n : Nat → Nat} {σ M : xM} (I : Iv n σ) (R : RX n σ M) (p : Int32) : SpI mX3_takeIn [.ref 1, .int p] M (PX (o_lodge n σ p) M) := by
  have H := I.H
  have hc : M 5 7 = nI (n 1) := R.2.2 (5, 7, 1) (by decide)
  have b1 : n 1 ≤ 24 := H.2.1
  have b0 : n 0 ≤ 30 := H.1
  have a1 := R.1 11 (by decide)
  have lp : ∀ (p : Nat) (d : Int32) (hp : p < n 1) (hpn : σ 11 p = -1) (k i : Nat) (x : Int32), i + k = n 1 → x = nI i → xlk n σ p k i = xlk n σ p (n 1) 0 → o_lodge n σ (nI p) = xlk n σ p (n 1) 0 →
      P mX3_takeIn 58 [some (.ref 1), some (.int (nI p)), some (.int d), some (.int x)] [] M (fun r M' => ∃ v, r = some (.int v) ∧ PX (o_lodge n σ (nI p)) M v M') := by
    intro p d hp hpn k
    induction k with
    | zero =>
      intro i x hi hx hr ho
      subst hx
      refine P.iload_n (pc := 58) 3 dX3_takeIn_58 rfl rfl ?_
      refine P.aload_n (pc := 59) 0 dX3_takeIn_59 rfl rfl ?_
      refine P.getR (pc := 60) fl_X3_21 dX3_takeIn_60 rfl rfl ?_
      refine P.getI (pc := 63) fl_X3_65 dX3_takeIn_63 rfl rfl ?_
      refine P.icge (pc := 66) 110 dX3_takeIn_66 (by decide) (fun c66 => ?_) (fun c66 => ?_)
      · refine P.iconst (pc := 110) (v := -1) dX3_takeIn_110 (by decide) ?_
        refine P.iret (pc := 111) dX3_takeIn_111 rfl ?_
        exact pxI (by rw [ho, ← hr, xlk]) R frX.rf
      · exact absurd (show M 5 7 ≤ nI i by grind [nT]) c66--.
    | succ k ih =>
      intro i x hi hx hr ho
      subst hx
      rw [xlk] at hr
      refine P.iload_n (pc := 58) 3 dX3_takeIn_58 rfl rfl ?_
      refine P.aload_n (pc := 59) 0 dX3_takeIn_59 rfl rfl ?_
      refine P.getR (pc := 60) fl_X3_21 dX3_takeIn_60 rfl rfl ?_
      refine P.getI (pc := 63) fl_X3_65 dX3_takeIn_63 rfl rfl ?_
      refine P.icge (pc := 66) 110 dX3_takeIn_66 (by decide) (fun c66 => ?_) (fun c66 => ?_)
      · exact absurd c66 (by grind [nT])--.
      · refine P.aload_n (pc := 69) 0 dX3_takeIn_69 rfl rfl ?_
        refine P.getR (pc := 70) fl_X3_21 dX3_takeIn_70 rfl rfl ?_
        refine P.iload_n (pc := 73) 3 dX3_takeIn_73 rfl rfl ?_
        refine P.V1F (pc := 74) cs_X3_takeIn_45 dX3_takeIn_74 rfl rfl rfl (sp_X4_isLodged _ (by omega)) ?_
        rw [a1]
        refine P.ifeqB (pc := 77) 104 dX3_takeIn_77 (by decide) (fun c77 => ?_) (fun c77 => ?_)
        · refine P.iinc (pc := 104) 3 1 dX3_takeIn_104 rfl (by decide) (by decide) rfl ?_
          refine P.goto (pc := 107) 58 dX3_takeIn_107 (by decide) ?_
          first
          | exact ih (i + 1) _ (by omega) (nI_1 i) (by rw [← hr, if_neg c86]) ho
          | exact ih (i + 1) _ (by omega) (nI_1 i) (by rw [← hr, if_neg (fun u => c77 u.1)]) ho
        · refine P.aload_n (pc := 80) 0 dX3_takeIn_80 rfl rfl ?_
          refine P.iload_n (pc := 81) 3 dX3_takeIn_81 rfl rfl ?_
          refine P.iload_n (pc := 82) 1 dX3_takeIn_82 rfl rfl ?_
          refine P.V2I (pc := 83) cs_X3_takeIn_68 dX3_takeIn_83 rfl rfl rfl (sp_X3_makesRoom H R hp (q := i) (by omega) hpn c77) (fun v83 M83 h83 => ?_)
          obtain ⟨rfl, g2, g3⟩ := h83
          refine P.ifeqB (pc := 86) 104 dX3_takeIn_86 (by decide) (fun c86 => ?_) (fun c86 => ?_)
          · have e := g3 c86
            subst e
            refine P.iinc (pc := 104) 3 1 dX3_takeIn_104 rfl (by decide) (by decide) rfl ?_
            refine P.goto (pc := 107) 58 dX3_takeIn_107 (by decide) ?_
            first
            | exact ih (i + 1) _ (by omega) (nI_1 i) (by rw [← hr, if_neg c86]) ho
            | exact ih (i + 1) _ (by omega) (nI_1 i) (by rw [← hr, if_neg (fun u => c77 u.1)]) ho
          · have e := g2 c86
            subst e
            refine P.aload_n (pc := 89) 0 dX3_takeIn_89 rfl rfl ?_
            refine P.iload_n (pc := 90) 3 dX3_takeIn_90 rfl rfl ?_
            refine P.put (pc := 91) fp_X3_25 dX3_takeIn_91 rfl rfl ?_
            refine P.aload_n (pc := 94) 0 dX3_takeIn_94 rfl rfl ?_
            refine P.getR (pc := 95) fl_X3_21 dX3_takeIn_95 rfl rfl ?_
            refine P.getR (pc := 98) fl_X3_52 dX3_takeIn_98 rfl rfl ?_
            refine P.iload_n (pc := 101) 1 dX3_takeIn_101 rfl rfl ?_
            refine P.iaN (pc := 102) (p) dX3_takeIn_102 rfl rfl rfl (by first | omega | grind [nT]) ?_
            refine P.iret (pc := 103) dX3_takeIn_103 rfl ?_
            rw [if_pos c86] at hr
            have hpi : ¬ p = i := fun e => c77 (e ▸ hpn)
            have e1 : xw (xw M 11 (upd (upd (upd (σ 11) i (-1)) p (σ 11 i)) i (xels n σ p i))) 1 (upd (xw M 11 (upd (upd (upd (σ 11) i (-1)) p (σ 11 i)) i (xels n σ p i)) 1) 2 (nI i)) 11 p = σ 11 i := by
              simp only [xw_ap, upd_ap, Nat.reduceEqDiff, ↓reduceIte, if_neg hpi]
            rw [e1]
            exact pxI (by rw [ho, ← hr]; rfl) ((R.hut _).mv _) ((frX.rf.w (by decide) _).w (by decide) _)
  refine P.aload_n (pc := 0) 0 dX3_takeIn_0 rfl rfl ?_
  refine P.getR (pc := 1) fl_X3_21 dX3_takeIn_1 rfl rfl ?_
  refine P.iload_n (pc := 4) 1 dX3_takeIn_4 rfl rfl ?_
  refine P.V1F (pc := 5) cs_X3_takeIn_29 dX3_takeIn_5 rfl rfl rfl (sp_X4_has hc b1 _) ?_
  refine P.ifneB (pc := 8) 14 dX3_takeIn_8 (by decide) (fun c8 => ?_) (fun c8 => ?_)
  · have c8' := c8
    obtain ⟨a, ha, rfl⟩ := c8
    have ck := nI_clamp (n := a) (by omega)
    refine P.aload_n (pc := 14) 0 dX3_takeIn_14 rfl rfl ?_
    refine P.getR (pc := 15) fl_X3_21 dX3_takeIn_15 rfl rfl ?_
    refine P.iload_n (pc := 18) 1 dX3_takeIn_18 rfl rfl ?_
    refine P.V1F (pc := 19) cs_X3_takeIn_45 dX3_takeIn_19 rfl rfl rfl (sp_X4_isLodged _ (by omega)) ?_
    rw [a1]
    refine P.ifeqB (pc := 22) 28 dX3_takeIn_22 (by decide) (fun c22 => ?_) (fun c22 => ?_)
    · refine P.aload_n (pc := 28) 0 dX3_takeIn_28 rfl rfl ?_
      refine P.iload_n (pc := 29) 1 dX3_takeIn_29 rfl rfl ?_
      refine P.V1F (pc := 30) cs_X3_takeIn_61 dX3_takeIn_30 rfl rfl rfl (sp_X3_dearestHut H R ha) ?_
      refine P.istore_n (pc := 33) 2 dX3_takeIn_33 rfl (by decide) rfl ?_
      refine P.iload_n (pc := 34) 2 dX3_takeIn_34 rfl rfl ?_
      refine P.iconst (pc := 35) (v := -1) dX3_takeIn_35 (by decide) ?_
      refine P.iceq (pc := 36) 56 dX3_takeIn_36 (by decide) (fun c36 => ?_) (fun c36 => ?_)
      · refine P.iconst (pc := 56) (v := 0) dX3_takeIn_56 (by decide) ?_
        refine P.istore_n (pc := 57) 3 dX3_takeIn_57 rfl (by decide) rfl ?_
        exact lp a _ ha (by simpa using c22) (n 1) 0 _ (by omega) rfl rfl (by rw [o_lodge, if_neg (fun q => q c8'), ck, if_neg c22, if_neg (by simpa using c36)])
      · obtain ⟨h, hh, eh, -⟩ := (xdr_in n σ a (xmay n σ a) (n 0)).resolve_left c36
        refine P.aload_n (pc := 39) 0 dX3_takeIn_39 rfl rfl ?_
        refine P.getR (pc := 40) fl_X3_21 dX3_takeIn_40 rfl rfl ?_
        refine P.getR (pc := 43) fl_X3_52 dX3_takeIn_43 rfl rfl ?_
        refine P.iload_n (pc := 46) 1 dX3_takeIn_46 rfl rfl ?_
        refine P.iload_n (pc := 47) 2 dX3_takeIn_47 rfl rfl ?_
        refine P.isN (pc := 48) _ dX3_takeIn_48 rfl rfl rfl (by first | omega | grind [nT]) ?_
        refine P.aload_n (pc := 49) 0 dX3_takeIn_49 rfl rfl ?_
        refine P.iconst (pc := 50) (v := -1) dX3_takeIn_50 (by decide) ?_
        refine P.put (pc := 51) fp_X3_25 dX3_takeIn_51 rfl rfl ?_
        refine P.iload_n (pc := 54) 2 dX3_takeIn_54 rfl rfl ?_
        refine P.iret (pc := 55) dX3_takeIn_55 rfl ?_
        rw [a1]
        exact pxI (by rw [o_lodge, if_neg (fun q => q c8'), ck, if_neg c22, if_pos c36]; rfl) ((R.hut _).mv _) ((frX.rf.w (by decide) _).w (by decide) _)
    · refine P.bipush (pc := 25) (v := -3) dX3_takeIn_25 (by decide) ?_
      refine P.iret (pc := 27) dX3_takeIn_27 rfl ?_
      exact pxI (by rw [o_lodge, if_neg (fun q => q c8'), ck, if_pos c22]) R frX.rf
  · refine P.bipush (pc := 11) (v := -2) dX3_takeIn_11 (by decide) ?_
    refine P.iret (pc := 13) dX3_takeIn_13 rfl ?_
    exact pxI (by rw [o_lodge, if_pos c8]) R frX.rf
theorem sp_X9_lodge {n : Nat → Nat} {σ M : xM} (I : Iv n σ) (R : RX n σ M) (p : Int32) : SpI mX9_lodge [.ref 0, .int p] M (PX (o_lodge n σ p) M) := by
  refine P.aload_n (pc := 0) 0 dX9_lodge_0 rfl rfl ?_
  refine P.getR (pc := 1) fl_X9_10 dX9_lodge_1 rfl rfl ?_
  refine P.iload_n (pc := 4) 1 dX9_lodge_4 rfl rfl ?_
  refine P.V1I (pc := 5) cs_X9_lodge_81 dX9_lodge_5 rfl rfl rfl (sp_X3_takeIn I R _) (fun v5 M5 h5 => ?_)
  refine P.iret (pc := 8) dX9_lodge_8 rfl ?_
  exact ⟨_, rfl, h5⟩
theorem sp_X3_liveInOneRow {n : Nat → Nat} {σ M : xM} (H : IvH n σ) (R : RX n σ M) {p q : Nat} (hp : p < n 1) (hq : q < n 1) : SpF mX3_liveInOneRow [.ref 1, .int (nI p), .int (nI q)] M (bI (¬ σ 11 p = -1 ∧ xinr σ q (xrow σ p) ∧ xmeet σ p q)) := by
  have b1 : n 1 ≤ 24 := H.2.1
  have b0 : n 0 ≤ 30 := H.1
  have a1 := R.1 11 (by decide)
  have a2 := R.1 3 (by decide)
  refine P.aload_n (pc := 0) 0 dX3_liveInOneRow_0 rfl rfl ?_
  refine P.getR (pc := 1) fl_X3_21 dX3_liveInOneRow_1 rfl rfl ?_
  refine P.iload_n (pc := 4) 1 dX3_liveInOneRow_4 rfl rfl ?_
  refine P.V1F (pc := 5) cs_X3_liveInOneRow_45 dX3_liveInOneRow_5 rfl rfl rfl (sp_X4_isLodged _ (by omega)) ?_
  refine P.ifeqB (pc := 8) 52 dX3_liveInOneRow_8 (by decide) (fun c8 => ?_) (fun c8 => ?_)
  · refine P.iconst (pc := 52) (v := 0) dX3_liveInOneRow_52 (by decide) ?_
    refine P.zret (pc := 53) dX3_liveInOneRow_53 rfl (by decide) ?_
    first | exact xt ⟨by rw [← a1]; exact c8, c33, c45⟩ | exact xf (fun u => c45 u.2.2) | exact xf (fun u => c33 u.2.1) | exact xf (fun u => c8 (by rw [a1]; exact u.1))
  · obtain ⟨a, ha, ea, eb⟩ := hut_at H R hp c8
    have er : M 3 a = xrow σ p := by rw [xrow, eb, a2]
    refine P.aload_n (pc := 11) 0 dX3_liveInOneRow_11 rfl rfl ?_
    refine P.iload_n (pc := 12) 2 dX3_liveInOneRow_12 rfl rfl ?_
    refine P.aload_n (pc := 13) 0 dX3_liveInOneRow_13 rfl rfl ?_
    refine P.getR (pc := 14) fl_X3_12 dX3_liveInOneRow_14 rfl rfl ?_
    refine P.getR (pc := 17) fl_X3_48 dX3_liveInOneRow_17 rfl rfl ?_
    refine P.aload_n (pc := 20) 0 dX3_liveInOneRow_20 rfl rfl ?_
    refine P.getR (pc := 21) fl_X3_21 dX3_liveInOneRow_21 rfl rfl ?_
    refine P.getR (pc := 24) fl_X3_52 dX3_liveInOneRow_24 rfl rfl ?_
    refine P.iload_n (pc := 27) 1 dX3_liveInOneRow_27 rfl rfl ?_
    refine P.iaN (pc := 28) _ dX3_liveInOneRow_28 rfl rfl rfl (by first | omega | grind [nT]) ?_
    rw [ea]
    refine P.iaN (pc := 29) _ dX3_liveInOneRow_29 rfl rfl rfl (by first | omega | grind [nT]) ?_
    rw [er]
    refine P.V2F (pc := 30) cs_X3_liveInOneRow_55 dX3_liveInOneRow_30 rfl rfl rfl (sp_X3_isInRow H R hq _) ?_
    refine P.ifeqB (pc := 33) 52 dX3_liveInOneRow_33 (by decide) (fun c33 => ?_) (fun c33 => ?_)
    · refine P.iconst (pc := 52) (v := 0) dX3_liveInOneRow_52 (by decide) ?_
      refine P.zret (pc := 53) dX3_liveInOneRow_53 rfl (by decide) ?_
      first | exact xt ⟨by rw [← a1]; exact c8, c33, c45⟩ | exact xf (fun u => c45 u.2.2) | exact xf (fun u => c33 u.2.1) | exact xf (fun u => c8 (by rw [a1]; exact u.1))
    · refine P.aload_n (pc := 36) 0 dX3_liveInOneRow_36 rfl rfl ?_
      refine P.getR (pc := 37) fl_X3_21 dX3_liveInOneRow_37 rfl rfl ?_
      refine P.iload_n (pc := 40) 1 dX3_liveInOneRow_40 rfl rfl ?_
      refine P.iload_n (pc := 41) 2 dX3_liveInOneRow_41 rfl rfl ?_
      refine P.V2F (pc := 42) cs_X3_liveInOneRow_58 dX3_liveInOneRow_42 rfl rfl rfl (sp_X4_shareWeek _ (by omega) (by omega)) ?_
      rw [bI_c (meet_R R p q)]
      refine P.ifeqB (pc := 45) 52 dX3_liveInOneRow_45 (by decide) (fun c45 => ?_) (fun c45 => ?_)
      · refine P.iconst (pc := 52) (v := 0) dX3_liveInOneRow_52 (by decide) ?_
        refine P.zret (pc := 53) dX3_liveInOneRow_53 rfl (by decide) ?_
        first | exact xt ⟨by rw [← a1]; exact c8, c33, c45⟩ | exact xf (fun u => c45 u.2.2) | exact xf (fun u => c33 u.2.1) | exact xf (fun u => c8 (by rw [a1]; exact u.1))
      · refine P.iconst (pc := 48) (v := 1) dX3_liveInOneRow_48 (by decide) ?_
        refine P.goto (pc := 49) 53 dX3_liveInOneRow_49 (by decide) ?_
        refine P.zret (pc := 53) dX3_liveInOneRow_53 rfl (by decide) ?_
        first | exact xt ⟨by rw [← a1]; exact c8, c33, c45⟩ | exact xf (fun u => c45 u.2.2) | exact xf (fun u => c33 u.2.1) | exact xf (fun u => c8 (by rw [a1]; exact u.1))
theorem sp_X3_relate {n : Nat → Nat} {σ M : xM} (I : Iv n σ) (R : RX n σ M) (a b k : Int32) : SpI mX3_relate [.ref 1, .int a, .int b, .int k] M (PX (o_tell n σ a b k) M) := by
  have H := I.H
  have hc : M 5 7 = nI (n 1) := R.2.2 (5, 7, 1) (by decide)
  have b1 : n 1 ≤ 24 := H.2.1
  have a1 := R.1 12 (by decide)
  refine P.aload_n (pc := 0) 0 dX3_relate_0 rfl rfl ?_
  refine P.getR (pc := 1) fl_X3_21 dX3_relate_1 rfl rfl ?_
  refine P.iload_n (pc := 4) 1 dX3_relate_4 rfl rfl ?_
  refine P.V1F (pc := 5) cs_X3_relate_29 dX3_relate_5 rfl rfl rfl (sp_X4_has hc b1 _) ?_
  refine P.ifeqB (pc := 8) 36 dX3_relate_8 (by decide) (fun c8 => ?_) (fun c8 => ?_)
  · refine P.bipush (pc := 36) (v := -2) dX3_relate_36 (by decide) ?_
    refine P.iret (pc := 38) dX3_relate_38 rfl ?_
    exact pxI (by rw [o_tell, if_pos (by grind)]) R frX.rf
  · refine P.aload_n (pc := 11) 0 dX3_relate_11 rfl rfl ?_
    refine P.getR (pc := 12) fl_X3_21 dX3_relate_12 rfl rfl ?_
    refine P.iload_n (pc := 15) 2 dX3_relate_15 rfl rfl ?_
    refine P.V1F (pc := 16) cs_X3_relate_29 dX3_relate_16 rfl rfl rfl (sp_X4_has hc b1 _) ?_
    refine P.ifeqB (pc := 19) 36 dX3_relate_19 (by decide) (fun c19 => ?_) (fun c19 => ?_)
    · refine P.bipush (pc := 36) (v := -2) dX3_relate_36 (by decide) ?_
      refine P.iret (pc := 38) dX3_relate_38 rfl ?_
      exact pxI (by rw [o_tell, if_pos (by grind)]) R frX.rf
    · refine P.iload_n (pc := 22) 1 dX3_relate_22 rfl rfl ?_
      refine P.iload_n (pc := 23) 2 dX3_relate_23 rfl rfl ?_
      refine P.iceq (pc := 24) 36 dX3_relate_24 (by decide) (fun c24 => ?_) (fun c24 => ?_)
      · refine P.bipush (pc := 36) (v := -2) dX3_relate_36 (by decide) ?_
        refine P.iret (pc := 38) dX3_relate_38 rfl ?_
        exact pxI (by rw [o_tell, if_pos (by grind)]) R frX.rf
      · refine P.iload_n (pc := 27) 3 dX3_relate_27 rfl rfl ?_
        refine P.iconst (pc := 28) (v := 0) dX3_relate_28 (by decide) ?_
        refine P.iconst (pc := 29) (v := 2) dX3_relate_29 (by decide) ?_
        refine P.N3F (pc := 30) cs_X3_relate_33 dX3_relate_30 rfl rfl (sp_X9_within _ _ _ _) ?_
        refine P.ifneB (pc := 33) 39 dX3_relate_33 (by decide) (fun c33 => ?_) (fun c33 => ?_)
        · have c8' := c8
          have c19' := c19
          obtain ⟨p, hp, rfl⟩ := c8
          obtain ⟨q, hq, rfl⟩ := c19
          have ck := nI_clamp (n := p) (by omega)
          have ck2 := nI_clamp (n := q) (by omega)
          refine P.iload_n (pc := 39) 3 dX3_relate_39 rfl rfl ?_
          refine P.iconst (pc := 40) (v := 1) dX3_relate_40 (by decide) ?_
          refine P.icne (pc := 41) 56 dX3_relate_41 (by decide) (fun c41 => ?_) (fun c41 => ?_)
          · refine P.aload_n (pc := 56) 0 dX3_relate_56 rfl rfl ?_
            refine P.getR (pc := 57) fl_X3_21 dX3_relate_57 rfl rfl ?_
            refine P.iload_n (pc := 60) 1 dX3_relate_60 rfl rfl ?_
            refine P.iload_n (pc := 61) 2 dX3_relate_61 rfl rfl ?_
            refine P.iload_n (pc := 62) 3 dX3_relate_62 rfl rfl ?_
            refine P.V3I (pc := 63) cs_X3_relate_41 dX3_relate_63 rfl rfl rfl (sp_X4_setTold _ (by omega) (by omega) _) (fun v63 M63 h63 => ?_)
            refine P.iret (pc := 66) dX3_relate_66 rfl ?_
            obtain ⟨rfl, rfl⟩ := h63
            rw [a1]
            first
            | exact pxI (by rw [o_tell, if_neg (by grind), ck, ck2, if_neg (fun u => c41 u.1)]) (R.arr (by decide) _) (frX.rf.w (by decide) _)
            | exact pxI (by rw [o_tell, if_neg (by grind), ck, ck2, if_neg (fun u => c50 u.2)]) (R.arr (by decide) _) (frX.rf.w (by decide) _)
          · refine P.aload_n (pc := 44) 0 dX3_relate_44 rfl rfl ?_
            refine P.iload_n (pc := 45) 1 dX3_relate_45 rfl rfl ?_
            refine P.iload_n (pc := 46) 2 dX3_relate_46 rfl rfl ?_
            refine P.V2F (pc := 47) cs_X3_relate_37 dX3_relate_47 rfl rfl rfl (sp_X3_liveInOneRow H R hp hq) ?_
            refine P.ifeqB (pc := 50) 56 dX3_relate_50 (by decide) (fun c50 => ?_) (fun c50 => ?_)
            · refine P.aload_n (pc := 56) 0 dX3_relate_56 rfl rfl ?_
              refine P.getR (pc := 57) fl_X3_21 dX3_relate_57 rfl rfl ?_
              refine P.iload_n (pc := 60) 1 dX3_relate_60 rfl rfl ?_
              refine P.iload_n (pc := 61) 2 dX3_relate_61 rfl rfl ?_
              refine P.iload_n (pc := 62) 3 dX3_relate_62 rfl rfl ?_
              refine P.V3I (pc := 63) cs_X3_relate_41 dX3_relate_63 rfl rfl rfl (sp_X4_setTold _ (by omega) (by omega) _) (fun v63 M63 h63 => ?_)
              refine P.iret (pc := 66) dX3_relate_66 rfl ?_
              obtain ⟨rfl, rfl⟩ := h63
              rw [a1]
              first
              | exact pxI (by rw [o_tell, if_neg (by grind), ck, ck2, if_neg (fun u => c41 u.1)]) (R.arr (by decide) _) (frX.rf.w (by decide) _)
              | exact pxI (by rw [o_tell, if_neg (by grind), ck, ck2, if_neg (fun u => c50 u.2)]) (R.arr (by decide) _) (frX.rf.w (by decide) _)
            · refine P.bipush (pc := 53) (v := -3) dX3_relate_53 (by decide) ?_
              refine P.iret (pc := 55) dX3_relate_55 rfl ?_
              exact pxI (by rw [o_tell, if_neg (by grind), ck, ck2, if_pos (by grind)]) R frX.rf
        · refine P.bipush (pc := 36) (v := -2) dX3_relate_36 (by decide) ?_
          refine P.iret (pc := 38) dX3_relate_38 rfl ?_
          exact pxI (by rw [o_tell, if_pos (by grind)]) R frX.rf
theorem sp_X9_tell {n : Nat → Nat} {σ M : xM} (I : Iv n σ) (R : RX n σ M) (a b k : Int32) : SpI mX9_tell [.ref 0, .int a, .int b, .int k] M (PX (o_tell n σ a b k) M) := by
  refine P.aload_n (pc := 0) 0 dX9_tell_0 rfl rfl ?_
  refine P.getR (pc := 1) fl_X9_10 dX9_tell_1 rfl rfl ?_
  refine P.iload_n (pc := 4) 1 dX9_tell_4 rfl rfl ?_
  refine P.iload_n (pc := 5) 2 dX9_tell_5 rfl rfl ?_
  refine P.iload_n (pc := 6) 3 dX9_tell_6 rfl rfl ?_
  refine P.V3I (pc := 7) cs_X9_tell_77 dX9_tell_7 rfl rfl rfl (sp_X3_relate I R _ _ _) (fun v7 M7 h7 => ?_)
  refine P.iret (pc := 10) dX9_tell_10 rfl ?_
  exact ⟨_, rfl, h7⟩
theorem sp_X3_whoIsIn {n : Nat → Nat} {σ M : xM} (H : IvH n σ) (R : RX n σ M) (h w : Int32) : SpF mX3_whoIsIn [.ref 1, .int h, .int w] M (xwho σ h w (n 1) 0) := by
  have hc : M 5 7 = nI (n 1) := R.2.2 (5, 7, 1) (by decide)
  have b1 : n 1 ≤ 24 := H.2.1
  have a1 := R.1 11 (by decide)
  have lp : ∀ (k i : Nat) (x : Int32), i + k = n 1 → x = nI i → xwho σ h w k i = xwho σ h w (n 1) 0 → P mX3_whoIsIn 2 [some (.ref 1), some (.int h), some (.int w), some (.int x)] [] M (fun r M' => r = some (.int (xwho σ h w (n 1) 0)) ∧ M' = M) := by
    intro k
    induction k with
    | zero =>
      intro i x hi hx hr
      subst hx
      refine P.iload_n (pc := 2) 3 dX3_whoIsIn_2 rfl rfl ?_
      refine P.aload_n (pc := 3) 0 dX3_whoIsIn_3 rfl rfl ?_
      refine P.getR (pc := 4) fl_X3_21 dX3_whoIsIn_4 rfl rfl ?_
      refine P.getI (pc := 7) fl_X3_65 dX3_whoIsIn_7 rfl rfl ?_
      refine P.icge (pc := 10) 46 dX3_whoIsIn_10 (by decide) (fun c10 => ?_) (fun c10 => ?_)
      · refine P.iconst (pc := 46) (v := -1) dX3_whoIsIn_46 (by decide) ?_
        refine P.iret (pc := 47) dX3_whoIsIn_47 rfl ?_
        exact ⟨siv (by rw [← hr, xwho]), rfl⟩
      · exact absurd (show M 5 7 ≤ nI i by grind [nT]) c10--.
    | succ k ih =>
      intro i x hi hx hr
      subst hx
      rw [xwho] at hr
      refine P.iload_n (pc := 2) 3 dX3_whoIsIn_2 rfl rfl ?_
      refine P.aload_n (pc := 3) 0 dX3_whoIsIn_3 rfl rfl ?_
      refine P.getR (pc := 4) fl_X3_21 dX3_whoIsIn_4 rfl rfl ?_
      refine P.getI (pc := 7) fl_X3_65 dX3_whoIsIn_7 rfl rfl ?_
      refine P.icge (pc := 10) 46 dX3_whoIsIn_10 (by decide) (fun c10 => ?_) (fun c10 => ?_)
      · exact absurd c10 (by grind [nT])--.
      · refine P.aload_n (pc := 13) 0 dX3_whoIsIn_13 rfl rfl ?_
        refine P.getR (pc := 14) fl_X3_21 dX3_whoIsIn_14 rfl rfl ?_
        refine P.getR (pc := 17) fl_X3_52 dX3_whoIsIn_17 rfl rfl ?_
        refine P.iload_n (pc := 20) 3 dX3_whoIsIn_20 rfl rfl ?_
        refine P.iaN (pc := 21) _ dX3_whoIsIn_21 rfl rfl rfl (by first | omega | grind [nT]) ?_
        rw [a1]
        refine P.iload_n (pc := 22) 1 dX3_whoIsIn_22 rfl rfl ?_
        refine P.icne (pc := 23) 40 dX3_whoIsIn_23 (by decide) (fun c23 => ?_) (fun c23 => ?_)
        · refine P.iinc (pc := 40) 3 1 dX3_whoIsIn_40 rfl (by decide) (by decide) rfl ?_
          refine P.goto (pc := 43) 2 dX3_whoIsIn_43 (by decide) ?_
          first
          | exact ih (i + 1) _ (by omega) (nI_1 i) (by rw [← hr, if_neg (fun u => c23 u.1)])
          | exact ih (i + 1) _ (by omega) (nI_1 i) (by rw [← hr, if_neg (fun u => c35 u.2)])
        · refine P.aload_n (pc := 26) 0 dX3_whoIsIn_26 rfl rfl ?_
          refine P.getR (pc := 27) fl_X3_21 dX3_whoIsIn_27 rfl rfl ?_
          refine P.iload_n (pc := 30) 3 dX3_whoIsIn_30 rfl rfl ?_
          refine P.iload_n (pc := 31) 2 dX3_whoIsIn_31 rfl rfl ?_
          refine P.V2F (pc := 32) cs_X3_whoIsIn_98 dX3_whoIsIn_32 rfl rfl rfl (sp_X4_isThere _ (by omega) _) ?_
          rw [bI_c (there_R R w i)]
          refine P.ifeqB (pc := 35) 40 dX3_whoIsIn_35 (by decide) (fun c35 => ?_) (fun c35 => ?_)
          · refine P.iinc (pc := 40) 3 1 dX3_whoIsIn_40 rfl (by decide) (by decide) rfl ?_
            refine P.goto (pc := 43) 2 dX3_whoIsIn_43 (by decide) ?_
            first
            | exact ih (i + 1) _ (by omega) (nI_1 i) (by rw [← hr, if_neg (fun u => c23 u.1)])
            | exact ih (i + 1) _ (by omega) (nI_1 i) (by rw [← hr, if_neg (fun u => c35 u.2)])
          · refine P.iload_n (pc := 38) 3 dX3_whoIsIn_38 rfl rfl ?_
            refine P.iret (pc := 39) dX3_whoIsIn_39 rfl ?_
            exact ⟨siv (by rw [← hr, if_pos ⟨c23, c35⟩]), rfl⟩
  refine P.iconst (pc := 0) (v := 0) dX3_whoIsIn_0 (by decide) ?_
  refine P.istore_n (pc := 1) 3 dX3_whoIsIn_1 rfl (by decide) rfl ?_
  exact lp (n 1) 0 _ (by omega) rfl rfl
theorem sp_X3_guest {n : Nat → Nat} {σ M : xM} (I : Iv n σ) (R : RX n σ M) (h w : Int32) : SpI mX3_guest [.ref 1, .int h, .int w] M (PX (o_in n σ h w) M) := by
  have hc : M 2 2 = nI (n 0) := R.2.2 (2, 2, 0) (by decide)
  have b0 : n 0 ≤ 30 := I.1.1
  refine P.aload_n (pc := 0) 0 dX3_guest_0 rfl rfl ?_
  refine P.getR (pc := 1) fl_X3_12 dX3_guest_1 rfl rfl ?_
  refine P.iload_n (pc := 4) 1 dX3_guest_4 rfl rfl ?_
  refine P.V1F (pc := 5) cs_X3_guest_91 dX3_guest_5 rfl rfl rfl (sp_X1_has hc b0 _) ?_
  refine P.ifeqB (pc := 8) 27 dX3_guest_8 (by decide) (fun c8 => ?_) (fun c8 => ?_)
  · refine P.bipush (pc := 27) (v := -2) dX3_guest_27 (by decide) ?_
    refine P.iret (pc := 29) dX3_guest_29 rfl ?_
    exact pxI (by rw [o_in]; split <;> grind) R frX.rf
  · refine P.iload_n (pc := 11) 2 dX3_guest_11 rfl rfl ?_
    refine P.N1F (pc := 12) cs_X3_guest_92 dX3_guest_12 rfl rfl (sp_X9_isWeek _ _) ?_
    refine P.ifeqB (pc := 15) 27 dX3_guest_15 (by decide) (fun c15 => ?_) (fun c15 => ?_)
    · refine P.bipush (pc := 27) (v := -2) dX3_guest_27 (by decide) ?_
      refine P.iret (pc := 29) dX3_guest_29 rfl ?_
      exact pxI (by rw [o_in]; split <;> grind) R frX.rf
    · refine P.aload_n (pc := 18) 0 dX3_guest_18 rfl rfl ?_
      refine P.iload_n (pc := 19) 1 dX3_guest_19 rfl rfl ?_
      refine P.iload_n (pc := 20) 2 dX3_guest_20 rfl rfl ?_
      refine P.V2F (pc := 21) cs_X3_guest_95 dX3_guest_21 rfl rfl rfl (sp_X3_whoIsIn I.H R _ _) ?_
      refine P.goto (pc := 24) 29 dX3_guest_24 (by decide) ?_
      refine P.iret (pc := 29) dX3_guest_29 rfl ?_
      exact pxI (by rw [o_in]; split <;> grind) R frX.rf
theorem sp_X9_in {n : Nat → Nat} {σ M : xM} (I : Iv n σ) (R : RX n σ M) (h w : Int32) : SpI mX9_in [.ref 0, .int h, .int w] M (PX (o_in n σ h w) M) := by
  refine P.aload_n (pc := 0) 0 dX9_in_0 rfl rfl ?_
  refine P.getR (pc := 1) fl_X9_10 dX9_in_1 rfl rfl ?_
  refine P.iload_n (pc := 4) 1 dX9_in_4 rfl rfl ?_
  refine P.iload_n (pc := 5) 2 dX9_in_5 rfl rfl ?_
  refine P.V2I (pc := 6) cs_X9_in_95 dX9_in_6 rfl rfl rfl (sp_X3_guest I R _ _) (fun v6 M6 h6 => ?_)
  refine P.iret (pc := 9) dX9_in_9 rfl ?_
  exact ⟨_, rfl, h6⟩
theorem sp_X3_emptyBeds {n : Nat → Nat} {σ M : xM} (I : Iv n σ) (R : RX n σ M) (w : Int32) : SpI mX3_emptyBeds [.ref 1, .int w] M (PX (o_empty n σ w) M) := by
  have hc : M 2 2 = nI (n 0) := R.2.2 (2, 2, 0) (by decide)
  have b0 : n 0 ≤ 30 := I.1.1
  have a1 := R.1 4 (by decide)
  have lp : ∀ (hw : 0 ≤ w ∧ w ≤ 9) (k i : Nat) (x a : Int32), i + k = n 0 → x = nI i → a = xemp n σ w i → P mX3_emptyBeds 14 [some (.ref 1), some (.int w), some (.int a), some (.int x)] [] M (fun r M' => ∃ v, r = some (.int v) ∧ PX (o_empty n σ w) M v M') := by
    intro hw k
    induction k with
    | zero =>
      intro i x a hi hx ha
      subst hx ha
      refine P.iload_n (pc := 14) 3 dX3_emptyBeds_14 rfl rfl ?_
      refine P.aload_n (pc := 15) 0 dX3_emptyBeds_15 rfl rfl ?_
      refine P.getR (pc := 16) fl_X3_12 dX3_emptyBeds_16 rfl rfl ?_
      refine P.getI (pc := 19) fl_X3_71 dX3_emptyBeds_19 rfl rfl ?_
      refine P.icge (pc := 22) 53 dX3_emptyBeds_22 (by decide) (fun c22 => ?_) (fun c22 => ?_)
      · refine P.iload_n (pc := 53) 2 dX3_emptyBeds_53 rfl rfl ?_
        refine P.iret (pc := 54) dX3_emptyBeds_54 rfl ?_
        exact pxI (by rw [o_empty, if_neg (fun q => q hw), show i = n 0 from hi]) R frX.rf
      · exact absurd (show M 2 2 ≤ nI i by grind [nT]) c22--.
    | succ k ih =>
      intro i x a hi hx ha
      subst hx ha
      refine P.iload_n (pc := 14) 3 dX3_emptyBeds_14 rfl rfl ?_
      refine P.aload_n (pc := 15) 0 dX3_emptyBeds_15 rfl rfl ?_
      refine P.getR (pc := 16) fl_X3_12 dX3_emptyBeds_16 rfl rfl ?_
      refine P.getI (pc := 19) fl_X3_71 dX3_emptyBeds_19 rfl rfl ?_
      refine P.icge (pc := 22) 53 dX3_emptyBeds_22 (by decide) (fun c22 => ?_) (fun c22 => ?_)
      · exact absurd c22 (by grind [nT])--.
      · refine P.aload_n (pc := 25) 0 dX3_emptyBeds_25 rfl rfl ?_
        refine P.iload_n (pc := 26) 3 dX3_emptyBeds_26 rfl rfl ?_
        refine P.iload_n (pc := 27) 1 dX3_emptyBeds_27 rfl rfl ?_
        refine P.V2F (pc := 28) cs_X3_emptyBeds_95 dX3_emptyBeds_28 rfl rfl rfl (sp_X3_whoIsIn I.H R _ _) ?_
        refine P.iconst (pc := 31) (v := -1) dX3_emptyBeds_31 (by decide) ?_
        refine P.icne (pc := 32) 47 dX3_emptyBeds_32 (by decide) (fun c32 => ?_) (fun c32 => ?_)
        · refine P.iinc (pc := 47) 3 1 dX3_emptyBeds_47 rfl (by decide) (by decide) rfl ?_
          refine P.goto (pc := 50) 14 dX3_emptyBeds_50 (by decide) ?_
          exact ih (i + 1) _ _ (by omega) (nI_1 i) (by rw [xemp]; first | rw [if_pos c32, a1] | rw [if_neg c32])
        · refine P.iload_n (pc := 35) 2 dX3_emptyBeds_35 rfl rfl ?_
          refine P.aload_n (pc := 36) 0 dX3_emptyBeds_36 rfl rfl ?_
          refine P.getR (pc := 37) fl_X3_12 dX3_emptyBeds_37 rfl rfl ?_
          refine P.getR (pc := 40) fl_X3_79 dX3_emptyBeds_40 rfl rfl ?_
          refine P.iload_n (pc := 43) 3 dX3_emptyBeds_43 rfl rfl ?_
          refine P.iaN (pc := 44) _ dX3_emptyBeds_44 rfl rfl rfl (by first | omega | grind [nT]) ?_
          refine P.iadd (pc := 45) dX3_emptyBeds_45 ?_
          refine P.istore_n (pc := 46) 2 dX3_emptyBeds_46 rfl (by decide) rfl ?_
          refine P.iinc (pc := 47) 3 1 dX3_emptyBeds_47 rfl (by decide) (by decide) rfl ?_
          refine P.goto (pc := 50) 14 dX3_emptyBeds_50 (by decide) ?_
          exact ih (i + 1) _ _ (by omega) (nI_1 i) (by rw [xemp]; first | rw [if_pos c32, a1] | rw [if_neg c32])
  refine P.iload_n (pc := 0) 1 dX3_emptyBeds_0 rfl rfl ?_
  refine P.N1F (pc := 1) cs_X3_emptyBeds_92 dX3_emptyBeds_1 rfl rfl (sp_X9_isWeek _ _) ?_
  refine P.ifneB (pc := 4) 10 dX3_emptyBeds_4 (by decide) (fun c4 => ?_) (fun c4 => ?_)
  · refine P.iconst (pc := 10) (v := 0) dX3_emptyBeds_10 (by decide) ?_
    refine P.istore_n (pc := 11) 2 dX3_emptyBeds_11 rfl (by decide) rfl ?_
    refine P.iconst (pc := 12) (v := 0) dX3_emptyBeds_12 (by decide) ?_
    refine P.istore_n (pc := 13) 3 dX3_emptyBeds_13 rfl (by decide) rfl ?_
    exact lp c4 (n 0) 0 _ _ (by omega) rfl rfl
  · refine P.bipush (pc := 7) (v := -2) dX3_emptyBeds_7 (by decide) ?_
    refine P.iret (pc := 9) dX3_emptyBeds_9 rfl ?_
    exact pxI (by rw [o_empty, if_pos c4]) R frX.rf
theorem sp_X9_empty {n : Nat → Nat} {σ M : xM} (I : Iv n σ) (R : RX n σ M) (w : Int32) : SpI mX9_empty [.ref 0, .int w] M (PX (o_empty n σ w) M) := by
  refine P.aload_n (pc := 0) 0 dX9_empty_0 rfl rfl ?_
  refine P.getR (pc := 1) fl_X9_10 dX9_empty_1 rfl rfl ?_
  refine P.iload_n (pc := 4) 1 dX9_empty_4 rfl rfl ?_
  refine P.V1I (pc := 5) cs_X9_empty_98 dX9_empty_5 rfl rfl rfl (sp_X3_emptyBeds I R _) (fun v5 M5 h5 => ?_)
  refine P.iret (pc := 8) dX9_empty_8 rfl ?_
  exact ⟨_, rfl, h5⟩
