/-! the sittings: the reference: which numbers can be made up -/
theorem z78 {n : Nat → Nat} {σ M : xM} {w : Int32} (I : Iv n σ) (R : RM n σ M) : ∀ (r : Nat) (x : Int32) (M1 : xM) (o4 o5 o6 o7 o8 o9 o10 o11 o12 : Option Value), r ≤ xB' n σ w → x = nI r - 1 → ZR n σ w M M1 → ZC n σ w r M1 →
    P mX10_findSittings 78 [some (.ref 46), some (.int w), some (.int (nI (xT n σ w))), some (.int x), o4, o5, o6, o7, o8, o9, o10, o11, o12] [] M1 (ZP n σ w M) := by
  have T := xT_le I w
  have B := xB_le I w
  intro r
  induction r with
  | zero =>
    intro x M1 o4 o5 o6 o7 o8 o9 o10 o11 o12 hr hx h1 h2
    subst hx
    refine P.iload_n (pc := 78) 3 dX10_findSittings_78 rfl rfl ?_
    refine P.iflt (pc := 79) 177 dX10_findSittings_79 (by decide) (fun c79 => ?_) (fun c79 => ?_)
    · refine P.iconst (pc := 177) (v := -1) dX10_findSittings_177 (by decide) ?_
      refine P.istore_n (pc := 178) 3 dX10_findSittings_178 rfl (by decide) rfl ?_
      refine P.iconst (pc := 179) (v := 0) dX10_findSittings_179 (by decide) ?_
      refine P.istore (pc := 180) 4 dX10_findSittings_180 (by decide) rfl ?_
      exact z182 I R h1 h2 (xT n σ w + 1) 0 _ _ _ _ _ _ _ _ (by omega)
    · exact absurd (by decide) c79--.
  | succ r ih =>
    intro x M1 o4 o5 o6 o7 o8 o9 o10 o11 o12 hr hx h1 h2
    rw [nI_pred] at hx
    subst hx
    have hs := h1.2.2.2 r (by omega)
    have le := xfs0_T (n := n) (σ := σ) (w := w) (b := r) (by omega)
    have inner : ∀ (d t : Nat) (M2 : xM), t + d = 200 → (∀ c, ¬ c = 59 → M2 c = M1 c) → (∀ j, 200 * (r + 1) ≤ j → M2 59 j = M1 59 j) → (∀ t', t' < t → M2 59 (200 * r + t') = bI (rc (xs n σ w) (xB' n σ w) (xB' n σ w - r) t')) →
        P mX10_findSittings 85 [some (.ref 46), some (.int w), some (.int (nI (xT n σ w))), some (.int (nI r)), some (.int (nI t)), o5, o6, o7, o8, o9, o10, o11, o12] [] M2 (ZP n σ w M) := by
      intro d
      induction d with
      | zero =>
        intro t M2 ht g1 g2 g3
        have ht : t = 200 := ht
        subst ht
        refine P.iload (pc := 85) 4 dX10_findSittings_85 rfl ?_
        refine P.sipush (pc := 87) (v := 200) dX10_findSittings_87 (by decide) ?_
        refine P.icge (pc := 90) 171 dX10_findSittings_90 (by decide) (fun c90 => ?_) (fun c90 => ?_)
        · refine P.iinc (pc := 171) 3 (-1) dX10_findSittings_171 rfl (by decide) (by decide) rfl ?_
          refine P.goto (pc := 174) 78 dX10_findSittings_174 (by decide) ?_
          refine ih _ M2 _ _ _ _ _ _ _ _ _ (by omega) (by grind) (h1.mv (fun c hc _ => g1 c hc)) ?_
          intro b t a1 a2 a3
          by_cases e : b = r
          · rw [e]; exact g3 t a3
          · rw [g2 _ (by omega)]; exact h2 b t (by omega) a2 a3
        · exact absurd (by decide) c90--.
      | succ d ihd =>
        intro t M2 ht g1 g2 g3
        have e58 : M2 58 r = nI (xs n σ w r) := by rw [g1 58 (by decide)]; exact hs
        have er : ∀ t', t' < 200 → M2 59 (200 * (r + 1) + t') = bI (rc (xs n σ w) (xB' n σ w) (xB' n σ w - (r + 1)) t') := by
          intro t' h
          rw [g2 _ (by omega)]; exact h2 (r + 1) t' (by omega) (by omega) h
        have ru := fun t => rc_u (s := xs n σ w) (B := xB' n σ w) (u := r) (t := t) (by omega)
        have s164 : P mX10_findSittings 164 [some (.ref 46), some (.int w), some (.int (nI (xT n σ w))), some (.int (nI r)), some (.int (nI t)), o5, o6, o7, o8, o9, o10, o11, o12] [.int (bI (rc (xs n σ w) (xB' n σ w) (xB' n σ w - r) t)), .int (nI (200 * r + t)), .ref 59] M2 (ZP n σ w M) := by
          refine P.zsN (pc := 164) (200 * r + t) dX10_findSittings_164 rfl rfl rfl (by first | omega | grind [nT]) ?_
          refine P.iinc (pc := 165) 4 1 dX10_findSittings_165 rfl (by decide) (by decide) rfl ?_
          rw [nI_1]
          refine P.goto (pc := 168) 85 dX10_findSittings_168 (by decide) ?_
          refine ihd (t + 1) _ (by omega) (fun c hc => ?_) (fun j hj => ?_) (fun t' h => ?_)
          · rw [xw_ap, if_neg hc]; exact g1 c hc
          · rw [xw_s, upd_ap, if_neg (by omega)]; exact g2 j hj
          · rw [xw_s, upd_ap]
            by_cases z : t' = t
            · rw [if_pos (by omega), z]
            · rw [if_neg (by omega)]; exact g3 t' (by omega)
        refine P.iload (pc := 85) 4 dX10_findSittings_85 rfl ?_
        refine P.sipush (pc := 87) (v := 200) dX10_findSittings_87 (by decide) ?_
        refine P.icge (pc := 90) 171 dX10_findSittings_90 (by decide) (fun c90 => ?_) (fun c90 => ?_)
        · exact absurd c90 (show ¬ nI 200 ≤ nI t from nI_ge (by omega) (by omega))--.
        · refine P.aload_n (pc := 93) 0 dX10_findSittings_93 rfl rfl ?_
          refine P.getR (pc := 94) fl_X10_50 dX10_findSittings_94 rfl rfl ?_
          refine P.sipush (pc := 97) (v := 200) dX10_findSittings_97 (by decide) ?_
          refine P.iload_n (pc := 100) 3 dX10_findSittings_100 rfl rfl ?_
          refine P.imul (pc := 101) dX10_findSittings_101 ?_
          refine P.iload (pc := 102) 4 dX10_findSittings_102 rfl ?_
          refine P.iadd (pc := 104) dX10_findSittings_104 ?_
          rw [nJ_ix]
          refine P.aload_n (pc := 105) 0 dX10_findSittings_105 rfl rfl ?_
          refine P.getR (pc := 106) fl_X10_50 dX10_findSittings_106 rfl rfl ?_
          refine P.sipush (pc := 109) (v := 200) dX10_findSittings_109 (by decide) ?_
          refine P.iload_n (pc := 112) 3 dX10_findSittings_112 rfl rfl ?_
          refine P.iconst (pc := 113) (v := 1) dX10_findSittings_113 (by decide) ?_
          refine P.iadd (pc := 114) dX10_findSittings_114 ?_
          rw [nI_1]
          refine P.imul (pc := 115) dX10_findSittings_115 ?_
          refine P.iload (pc := 116) 4 dX10_findSittings_116 rfl ?_
          refine P.iadd (pc := 118) dX10_findSittings_118 ?_
          rw [nJ_ix]
          refine P.zaN (pc := 119) (200 * (r + 1) + t) dX10_findSittings_119 rfl rfl rfl (by first | omega | grind [nT]) ?_
          rw [er t (by omega)]
          refine P.ifneB (pc := 120) 159 dX10_findSittings_120 (by decide) (fun c120 => ?_) (fun c120 => ?_)
          · have hv := bI_t ((ru t).2 (Or.inl c120))
            refine P.iconst (pc := 159) (v := 1) dX10_findSittings_159 (by decide) ?_
            refine P.goto (pc := 160) 164 dX10_findSittings_160 (by decide) ?_
            rw [hv] at s164
            exact s164
          · refine P.iload (pc := 123) 4 dX10_findSittings_123 rfl ?_
            refine P.aload_n (pc := 125) 0 dX10_findSittings_125 rfl rfl ?_
            refine P.getR (pc := 126) fl_X10_47 dX10_findSittings_126 rfl rfl ?_
            refine P.iload_n (pc := 129) 3 dX10_findSittings_129 rfl rfl ?_
            refine P.iaN (pc := 130) (r) dX10_findSittings_130 rfl rfl rfl (by first | omega | grind [nT]) ?_
            rw [e58]
            refine P.iclt (pc := 131) 163 dX10_findSittings_131 (by decide) (fun c131 => ?_) (fun c131 => ?_)
            · have hv := bI_f (fun z => ((ru t).1 z).elim c120 (fun y => nI_nlt y.1 (by omega) c131))
              refine P.iconst (pc := 163) (v := 0) dX10_findSittings_163 (by decide) ?_
              rw [hv] at s164
              exact s164
            · have l2 := nJ_nlt (by omega) c131
              refine P.aload_n (pc := 134) 0 dX10_findSittings_134 rfl rfl ?_
              refine P.getR (pc := 135) fl_X10_50 dX10_findSittings_135 rfl rfl ?_
              refine P.sipush (pc := 138) (v := 200) dX10_findSittings_138 (by decide) ?_
              refine P.iload_n (pc := 141) 3 dX10_findSittings_141 rfl rfl ?_
              refine P.iconst (pc := 142) (v := 1) dX10_findSittings_142 (by decide) ?_
              refine P.iadd (pc := 143) dX10_findSittings_143 ?_
              rw [nI_1]
              refine P.imul (pc := 144) dX10_findSittings_144 ?_
              refine P.iload (pc := 145) 4 dX10_findSittings_145 rfl ?_
              refine P.iadd (pc := 147) dX10_findSittings_147 ?_
              rw [nJ_ix]
              refine P.aload_n (pc := 148) 0 dX10_findSittings_148 rfl rfl ?_
              refine P.getR (pc := 149) fl_X10_47 dX10_findSittings_149 rfl rfl ?_
              refine P.iload_n (pc := 152) 3 dX10_findSittings_152 rfl rfl ?_
              refine P.iaN (pc := 153) (r) dX10_findSittings_153 rfl rfl rfl (by first | omega | grind [nT]) ?_
              rw [e58]
              refine P.isub (pc := 154) dX10_findSittings_154 ?_
              rw [nJ_sb (by omega) (by omega)]
              refine P.zaN (pc := 155) (200 * (r + 1) + t - xs n σ w r) dX10_findSittings_155 rfl rfl rfl (by first | omega | grind [nT]) ?_
              rw [show 200 * (r + 1) + t - xs n σ w r = 200 * (r + 1) + (t - xs n σ w r) by omega, er _ (by omega)]
              refine P.ifeqB (pc := 156) 163 dX10_findSittings_156 (by decide) (fun c156 => ?_) (fun c156 => ?_)
              · have hv := bI_f (fun z => ((ru t).1 z).elim c120 (fun y => c156 y.2))
                refine P.iconst (pc := 163) (v := 0) dX10_findSittings_163 (by decide) ?_
                rw [hv] at s164
                exact s164
              · have hv := bI_t ((ru t).2 (Or.inr ⟨l2, c156⟩))
                refine P.iconst (pc := 159) (v := 1) dX10_findSittings_159 (by decide) ?_
                refine P.goto (pc := 160) 164 dX10_findSittings_160 (by decide) ?_
                rw [hv] at s164
                exact s164
    refine P.iload_n (pc := 78) 3 dX10_findSittings_78 rfl rfl ?_
    refine P.iflt (pc := 79) 177 dX10_findSittings_79 (by decide) (fun c79 => ?_) (fun c79 => ?_)
    · exact absurd c79 (nI_pos (by omega))--.
    · refine P.iconst (pc := 82) (v := 0) dX10_findSittings_82 (by decide) ?_
      refine P.istore (pc := 83) 4 dX10_findSittings_83 (by decide) rfl ?_
      exact inner 200 0 M1 (by omega) (fun _ _ => rfl) (fun _ _ => rfl) (fun t' h => by omega)
theorem z34 {n : Nat → Nat} {σ M M1 : xM} {w : Int32} (I : Iv n σ) (R : RM n σ M) (h1 : ZR n σ w M M1) : ∀ (d t : Nat) (M2 : xM) (o4 o5 o6 o7 o8 o9 o10 o11 o12 : Option Value), t + d = 200 → (∀ c, ¬ c = 59 → M2 c = M1 c) → (∀ t', t' < t → M2 59 (200 * xB' n σ w + t') = bI (t' = 0)) →
    P mX10_findSittings 34 [some (.ref 46), some (.int w), some (.int (nI (xT n σ w))), some (.int (nI t)), o4, o5, o6, o7, o8, o9, o10, o11, o12] [] M2 (ZP n σ w M) := by
  have B := xB_le I w
  intro d
  induction d with
  | zero =>
    intro t M2 o4 o5 o6 o7 o8 o9 o10 o11 o12 ht g1 g3
    have ht : t = 200 := ht
    subst ht
    have hu : M2 46 13 = nI (xB' n σ w) := by rw [g1 46 (by decide)]; exact h1.2.1
    refine P.iload_n (pc := 34) 3 dX10_findSittings_34 rfl rfl ?_
    refine P.sipush (pc := 35) (v := 200) dX10_findSittings_35 (by decide) ?_
    refine P.icge (pc := 38) 71 dX10_findSittings_38 (by decide) (fun c38 => ?_) (fun c38 => ?_)
    · refine P.aload_n (pc := 71) 0 dX10_findSittings_71 rfl rfl ?_
      refine P.getI (pc := 72) fl_X10_185 dX10_findSittings_72 rfl rfl ?_
      rw [hu]
      refine P.iconst (pc := 75) (v := 1) dX10_findSittings_75 (by decide) ?_
      refine P.isub (pc := 76) dX10_findSittings_76 ?_
      refine P.istore_n (pc := 77) 3 dX10_findSittings_77 rfl (by decide) rfl ?_
      refine z78 I R (xB' n σ w) _ M2 _ _ _ _ _ _ _ _ _ (Nat.le_refl _) rfl (h1.mv (fun c hc _ => g1 c hc)) ?_
      intro b t a1 a2 a3
      rw [show b = xB' n σ w by omega, g3 t a3, Nat.sub_self, rc]
    · exact absurd (by decide) c38--.
  | succ d ihd =>
    intro t M2 o4 o5 o6 o7 o8 o9 o10 o11 o12 ht g1 g3
    have hu : M2 46 13 = nI (xB' n σ w) := by rw [g1 46 (by decide)]; exact h1.2.1
    have s64 : P mX10_findSittings 64 [some (.ref 46), some (.int w), some (.int (nI (xT n σ w))), some (.int (nI t)), o4, o5, o6, o7, o8, o9, o10, o11, o12] [.int (bI (t = 0)), .int (nI (200 * xB' n σ w + t)), .ref 59] M2 (ZP n σ w M) := by
      refine P.zsN (pc := 64) (200 * xB' n σ w + t) dX10_findSittings_64 rfl rfl rfl (by first | omega | grind [nT]) ?_
      refine P.iinc (pc := 65) 3 1 dX10_findSittings_65 rfl (by decide) (by decide) rfl ?_
      rw [nI_1]
      refine P.goto (pc := 68) 34 dX10_findSittings_68 (by decide) ?_
      refine ihd (t + 1) _ _ _ _ _ _ _ _ _ _ (by omega) (fun c hc => ?_) (fun t' h => ?_)
      · rw [xw_ap, if_neg hc]; exact g1 c hc
      · rw [xw_s, upd_ap]
        by_cases z : t' = t
        · rw [if_pos (by omega), z]
        · rw [if_neg (by omega)]; exact g3 t' (by omega)
    refine P.iload_n (pc := 34) 3 dX10_findSittings_34 rfl rfl ?_
    refine P.sipush (pc := 35) (v := 200) dX10_findSittings_35 (by decide) ?_
    refine P.icge (pc := 38) 71 dX10_findSittings_38 (by decide) (fun c38 => ?_) (fun c38 => ?_)
    · exact absurd c38 (show ¬ nI 200 ≤ nI t from nI_ge (by omega) (by omega))--.
    · refine P.aload_n (pc := 41) 0 dX10_findSittings_41 rfl rfl ?_
      refine P.getR (pc := 42) fl_X10_50 dX10_findSittings_42 rfl rfl ?_
      refine P.sipush (pc := 45) (v := 200) dX10_findSittings_45 (by decide) ?_
      refine P.aload_n (pc := 48) 0 dX10_findSittings_48 rfl rfl ?_
      refine P.getI (pc := 49) fl_X10_185 dX10_findSittings_49 rfl rfl ?_
      rw [hu]
      refine P.imul (pc := 52) dX10_findSittings_52 ?_
      refine P.iload_n (pc := 53) 3 dX10_findSittings_53 rfl rfl ?_
      refine P.iadd (pc := 54) dX10_findSittings_54 ?_
      rw [nJ_ix]
      refine P.iload_n (pc := 55) 3 dX10_findSittings_55 rfl rfl ?_
      refine P.ifne (pc := 56) 63 dX10_findSittings_56 (by decide) (fun c56 => ?_) (fun c56 => ?_)
      · have hv := bI_f (q := t = 0) (fun z => c56 (by rw [z]; rfl))
        refine P.iconst (pc := 63) (v := 0) dX10_findSittings_63 (by decide) ?_
        rw [hv] at s64
        exact s64
      · have hv := bI_t (q := t = 0) (nI_inj (b := 0) (by omega) (by omega) (Classical.not_not.1 (fun z => z c56)))
        refine P.iconst (pc := 59) (v := 1) dX10_findSittings_59 (by decide) ?_
        refine P.goto (pc := 60) 64 dX10_findSittings_60 (by decide) ?_
        rw [hv] at s64
        exact s64
theorem z9 {n : Nat → Nat} {σ M M1 : xM} {w : Int32} (I : Iv n σ) (R : RM n σ M) (h1 : ZR n σ w M M1) : ∀ (d u : Nat) (o4 o5 o6 o7 o8 o9 o10 o11 o12 : Option Value), u + d = xB' n σ w →
    P mX10_findSittings 9 [some (.ref 46), some (.int w), some (.int (nI (nsum (xs n σ w) u))), some (.int (nI u)), o4, o5, o6, o7, o8, o9, o10, o11, o12] [] M1 (ZP n σ w M) := by
  have B := xB_le I w
  have hu := h1.2.1
  intro d
  induction d with
  | zero =>
    intro u o4 o5 o6 o7 o8 o9 o10 o11 o12 hd
    have hd : u = xB' n σ w := hd
    subst hd
    refine P.iload_n (pc := 9) 3 dX10_findSittings_9 rfl rfl ?_
    refine P.aload_n (pc := 10) 0 dX10_findSittings_10 rfl rfl ?_
    refine P.getI (pc := 11) fl_X10_185 dX10_findSittings_11 rfl rfl ?_
    rw [hu]
    refine P.icge (pc := 14) 32 dX10_findSittings_14 (by decide) (fun c14 => ?_) (fun c14 => ?_)
    · refine P.iconst (pc := 32) (v := 0) dX10_findSittings_32 (by decide) ?_
      refine P.istore_n (pc := 33) 3 dX10_findSittings_33 rfl (by decide) rfl ?_
      rw [xs_sum]
      exact z34 I R h1 200 0 M1 _ _ _ _ _ _ _ _ _ (by omega) (fun _ _ => rfl) (fun t' h => by omega)
    · exact absurd (Int32.le_refl _) c14--.
  | succ d ih =>
    intro u o4 o5 o6 o7 o8 o9 o10 o11 o12 hd
    have hs := h1.2.2.2 u (by omega)
    refine P.iload_n (pc := 9) 3 dX10_findSittings_9 rfl rfl ?_
    refine P.aload_n (pc := 10) 0 dX10_findSittings_10 rfl rfl ?_
    refine P.getI (pc := 11) fl_X10_185 dX10_findSittings_11 rfl rfl ?_
    rw [hu]
    refine P.icge (pc := 14) 32 dX10_findSittings_14 (by decide) (fun c14 => ?_) (fun c14 => ?_)
    · exact absurd c14 (nI_ge (by omega) (by omega))--.
    · refine P.iload_n (pc := 17) 2 dX10_findSittings_17 rfl rfl ?_
      refine P.aload_n (pc := 18) 0 dX10_findSittings_18 rfl rfl ?_
      refine P.getR (pc := 19) fl_X10_47 dX10_findSittings_19 rfl rfl ?_
      refine P.iload_n (pc := 22) 3 dX10_findSittings_22 rfl rfl ?_
      refine P.iaN (pc := 23) (u) dX10_findSittings_23 rfl rfl rfl (by first | omega | grind [nT]) ?_
      rw [hs]
      refine P.iadd (pc := 24) dX10_findSittings_24 ?_
      rw [nI_add]
      refine P.istore_n (pc := 25) 2 dX10_findSittings_25 rfl (by decide) rfl ?_
      refine P.iinc (pc := 26) 3 1 dX10_findSittings_26 rfl (by decide) (by decide) rfl ?_
      rw [nI_1]
      refine P.goto (pc := 29) 9 dX10_findSittings_29 (by decide) ?_
      exact ih (u + 1) _ _ _ _ _ _ _ _ _ (by omega)
theorem sp_X10_findSittings {n : Nat → Nat} {σ M : xM} (I : Iv n σ) (R : RM n σ M) (w : Int32) : SpI mX10_findSittings [.ref 46, .int w] M (fun v M' => v = xdiff n σ w ∧ ZA n σ w M M') := by
  refine P.imp (Φ := ZP n σ w M) ?_ (fun r M' h => ⟨_, h.1, rfl, h.2⟩)
  refine P.aload_n (pc := 0) 0 dX10_findSittings_0 rfl rfl ?_
  refine P.iload_n (pc := 1) 1 dX10_findSittings_1 rfl rfl ?_
  refine P.V1V (pc := 2) cs_X10_findSittings_188 dX10_findSittings_2 rfl rfl rfl (sp_X10_findUnits I R w) (fun M2 h2 => ?_)
  refine P.iconst (pc := 5) (v := 0) dX10_findSittings_5 (by decide) ?_
  refine P.istore_n (pc := 6) 2 dX10_findSittings_6 rfl (by decide) rfl ?_
  refine P.iconst (pc := 7) (v := 0) dX10_findSittings_7 (by decide) ?_
  refine P.istore_n (pc := 8) 3 dX10_findSittings_8 rfl (by decide) rfl ?_
  exact z9 I R h2 (xB' n σ w) 0 _ _ _ _ _ _ _ _ _ (by omega)
