/-! the digest, both sides -/
def xds (f : Nat → Int32) : Nat → Int64 → Int64
  | 0, h => h
  | m + 1, h => 31 * xds f m h + (f m).toInt64
def xh1 (n : Nat → Nat) (σ : xM) : Int64 := xds (fun k => xcount n σ (nI k)) 7 17
def xh2 (n : Nat → Nat) (σ : xM) : Int64 := xds (fun p => σ 11 p) (n 1) (xh1 n σ)
noncomputable def xh3 (n : Nat → Nat) (σ : xM) : Int64 := xds (fun w => xdiff n σ (nI w)) 10 (xh2 n σ)
noncomputable def xh4 (n : Nat → Nat) (σ : xM) : Int64 := xds (fun s => xpl σ (xwb σ (σ 22 s)) s) (n 2) (xh3 n σ)
noncomputable def xh5 (n : Nat → Nat) (σ : xM) : Int64 := xds (fun c => σ 32 c) (n 3) (xh4 n σ)
theorem nJ_w10 {w : Nat} (h : w < 10) : 0 ≤ nI w ∧ nI w ≤ 9 := ⟨nI_pos' (by omega), (nJ_le (b := 9) (by omega) (by omega)).2 (by omega)⟩
theorem o_apart_w {n : Nat → Nat} {σ : xM} {w : Nat} (h : w < 10) : o_apart n σ (nI w) = (xdiff n σ (nI w), n, σ) := by rw [o_apart, if_neg (fun z => z (nJ_w10 h))]
theorem o_where_s {n : Nat → Nat} {σ : xM} {s : Nat} (h : s < n 2) (b : n 2 ≤ 12) : o_where n σ (nI s) = (xpl σ (xwb σ (σ 22 s)) s, n, σ) := by rw [o_where, if_pos ⟨s, h, rfl⟩, nI_clamp (by omega)]
theorem gE9 {n : Nat → Nat} {σ M : xM} (I : Iv n σ) : ∀ (d i : Nat) (M1 : xM), i + d = n 3 → RX n σ M1 → frX M M1 → P mX9_digest 134 [some (.ref 0), some (.long (xds (fun c => σ 32 c) i (xh4 n σ))), none, some (.int (nI i))] [] M1 (fun r M' => ∃ v, r = some (.long v) ∧ v = xh5 n σ ∧ RX n σ M' ∧ frX M M') := by
  have b1 : n 1 ≤ 24 := I.1.2.1
  have b2 : n 2 ≤ 12 := I.2.2.1.1
  have b3 : n 3 ≤ 40 := I.2.2.2.1.1
  intro d
  induction d with
  | zero =>
    intro i M1 hi R1 f1
    have hi : i = n 3 := hi
    subst hi
    have ec : M1 31 1 = nI (n 3) := R1.2.2 (31, 1, 3) (by decide)
    have ea : M1 32 = σ 32 := R1.1 32 (by decide)
    refine P.iload_n (pc := 134) 3 dX9_digest_134 rfl rfl ?_
    refine P.aload_n (pc := 135) 0 dX9_digest_135 rfl rfl ?_
    refine P.getR (pc := 136) fl_X9_40 dX9_digest_136 rfl rfl ?_
    refine P.getI (pc := 139) fl_X9_228 dX9_digest_139 rfl rfl ?_
    rw [ec]
    refine P.icge (pc := 142) 168 dX9_digest_142 (by decide) (fun c142 => ?_) (fun c142 => ?_)
    · refine P.lload_n (pc := 168) 1 dX9_digest_168 rfl rfl ?_
      refine P.lret (pc := 169) dX9_digest_169 rfl ?_
      exact ⟨_, rfl, rfl, R1, f1⟩
    · exact absurd (Int32.le_refl _) c142--.
  | succ d ih =>
    intro i M1 hi R1 f1
    have ec : M1 31 1 = nI (n 3) := R1.2.2 (31, 1, 3) (by decide)
    have ea : M1 32 = σ 32 := R1.1 32 (by decide)
    refine P.iload_n (pc := 134) 3 dX9_digest_134 rfl rfl ?_
    refine P.aload_n (pc := 135) 0 dX9_digest_135 rfl rfl ?_
    refine P.getR (pc := 136) fl_X9_40 dX9_digest_136 rfl rfl ?_
    refine P.getI (pc := 139) fl_X9_228 dX9_digest_139 rfl rfl ?_
    rw [ec]
    refine P.icge (pc := 142) 168 dX9_digest_142 (by decide) (fun c142 => ?_) (fun c142 => ?_)
    · exact absurd c142 (nI_ge (by omega) (by omega))--.
    · refine P.ldc2 (pc := 145) kc_X9_240 dX9_digest_145 ?_
      refine P.lload_n (pc := 148) 1 dX9_digest_148 rfl rfl ?_
      refine P.lmul (pc := 149) dX9_digest_149 ?_
      refine P.aload_n (pc := 150) 0 dX9_digest_150 rfl rfl ?_
      refine P.getR (pc := 151) fl_X9_40 dX9_digest_151 rfl rfl ?_
      refine P.getR (pc := 154) fl_X9_197 dX9_digest_154 rfl rfl ?_
      refine P.iload_n (pc := 157) 3 dX9_digest_157 rfl rfl ?_
      refine P.iaN (pc := 158) (i) dX9_digest_158 rfl rfl rfl (by first | omega | grind [nT]) ?_
      rw [ea]
      refine P.i2l (pc := 159) dX9_digest_159 ?_
      refine P.ladd (pc := 160) dX9_digest_160 ?_
      refine P.lstore_n (pc := 161) 1 dX9_digest_161 rfl (by decide) rfl ?_
      refine P.iinc (pc := 162) 3 1 dX9_digest_162 rfl (by decide) (by decide) rfl ?_
      rw [nI_1]
      refine P.goto (pc := 165) 134 dX9_digest_165 (by decide) ?_
      have q := ih (i + 1) M1 (by omega) R1 f1
      rw [xds] at q
      exact q
theorem gD9 {n : Nat → Nat} {σ M : xM} (I : Iv n σ) : ∀ (d i : Nat) (M1 : xM), i + d = n 2 → RX n σ M1 → frX M M1 → P mX9_digest 102 [some (.ref 0), some (.long (xds (fun s => xpl σ (xwb σ (σ 22 s)) s) i (xh3 n σ))), none, some (.int (nI i))] [] M1 (fun r M' => ∃ v, r = some (.long v) ∧ v = xh5 n σ ∧ RX n σ M' ∧ frX M M') := by
  have b1 : n 1 ≤ 24 := I.1.2.1
  have b2 : n 2 ≤ 12 := I.2.2.1.1
  have b3 : n 3 ≤ 40 := I.2.2.2.1.1
  intro d
  induction d with
  | zero =>
    intro i M1 hi R1 f1
    have hi : i = n 2 := hi
    subst hi
    have ec : M1 21 3 = nI (n 2) := R1.2.2 (21, 3, 2) (by decide)
    refine P.iload_n (pc := 102) 3 dX9_digest_102 rfl rfl ?_
    refine P.aload_n (pc := 103) 0 dX9_digest_103 rfl rfl ?_
    refine P.getR (pc := 104) fl_X9_33 dX9_digest_104 rfl rfl ?_
    refine P.getI (pc := 107) fl_X9_227 dX9_digest_107 rfl rfl ?_
    rw [ec]
    refine P.icge (pc := 110) 132 dX9_digest_110 (by decide) (fun c110 => ?_) (fun c110 => ?_)
    · refine P.iconst (pc := 132) (v := 0) dX9_digest_132 (by decide) ?_
      refine P.istore_n (pc := 133) 3 dX9_digest_133 rfl (by decide) rfl ?_
      exact gE9 I (n 3) 0 M1 (by omega) R1 f1
    · exact absurd (Int32.le_refl _) c110--.
  | succ d ih =>
    intro i M1 hi R1 f1
    have ec : M1 21 3 = nI (n 2) := R1.2.2 (21, 3, 2) (by decide)
    refine P.iload_n (pc := 102) 3 dX9_digest_102 rfl rfl ?_
    refine P.aload_n (pc := 103) 0 dX9_digest_103 rfl rfl ?_
    refine P.getR (pc := 104) fl_X9_33 dX9_digest_104 rfl rfl ?_
    refine P.getI (pc := 107) fl_X9_227 dX9_digest_107 rfl rfl ?_
    rw [ec]
    refine P.icge (pc := 110) 132 dX9_digest_110 (by decide) (fun c110 => ?_) (fun c110 => ?_)
    · exact absurd c110 (nI_ge (by omega) (by omega))--.
    · refine P.ldc2 (pc := 113) kc_X9_240 dX9_digest_113 ?_
      refine P.lload_n (pc := 116) 1 dX9_digest_116 rfl rfl ?_
      refine P.lmul (pc := 117) dX9_digest_117 ?_
      refine P.aload_n (pc := 118) 0 dX9_digest_118 rfl rfl ?_
      refine P.iload_n (pc := 119) 3 dX9_digest_119 rfl rfl ?_
      refine P.V1I (pc := 120) cs_X9_digest_250 dX9_digest_120 rfl rfl rfl (sp_X9_where I R1 _) (fun v120 M120 h120 => ?_)
      rw [o_where_s (by omega) b2] at h120
      obtain ⟨g1, g2, g3⟩ := h120
      subst g1
      refine P.i2l (pc := 123) dX9_digest_123 ?_
      refine P.ladd (pc := 124) dX9_digest_124 ?_
      refine P.lstore_n (pc := 125) 1 dX9_digest_125 rfl (by decide) rfl ?_
      refine P.iinc (pc := 126) 3 1 dX9_digest_126 rfl (by decide) (by decide) rfl ?_
      rw [nI_1]
      refine P.goto (pc := 129) 102 dX9_digest_129 (by decide) ?_
      have q := ih (i + 1) M120 (by omega) g2 (f1.tr g3)
      rw [xds] at q
      exact q
theorem gC9 {n : Nat → Nat} {σ M : xM} (I : Iv n σ) : ∀ (d i : Nat) (M1 : xM), i + d = 10 → RX n σ M1 → frX M M1 → P mX9_digest 75 [some (.ref 0), some (.long (xds (fun w => xdiff n σ (nI w)) i (xh2 n σ))), none, some (.int (nI i))] [] M1 (fun r M' => ∃ v, r = some (.long v) ∧ v = xh5 n σ ∧ RX n σ M' ∧ frX M M') := by
  have b1 : n 1 ≤ 24 := I.1.2.1
  have b2 : n 2 ≤ 12 := I.2.2.1.1
  have b3 : n 3 ≤ 40 := I.2.2.2.1.1
  intro d
  induction d with
  | zero =>
    intro i M1 hi R1 f1
    have hi : i = 10 := hi
    subst hi
    refine P.iload_n (pc := 75) 3 dX9_digest_75 rfl rfl ?_
    refine P.bipush (pc := 76) (v := 10) dX9_digest_76 (by decide) ?_
    refine P.icge (pc := 78) 100 dX9_digest_78 (by decide) (fun c78 => ?_) (fun c78 => ?_)
    · refine P.iconst (pc := 100) (v := 0) dX9_digest_100 (by decide) ?_
      refine P.istore_n (pc := 101) 3 dX9_digest_101 rfl (by decide) rfl ?_
      exact gD9 I (n 2) 0 M1 (by omega) R1 f1
    · exact absurd (by decide) c78--.
  | succ d ih =>
    intro i M1 hi R1 f1
    refine P.iload_n (pc := 75) 3 dX9_digest_75 rfl rfl ?_
    refine P.bipush (pc := 76) (v := 10) dX9_digest_76 (by decide) ?_
    refine P.icge (pc := 78) 100 dX9_digest_78 (by decide) (fun c78 => ?_) (fun c78 => ?_)
    · exact absurd c78 (show ¬ nI 10 ≤ nI i from nI_ge (by omega) (by omega))--.
    · refine P.ldc2 (pc := 81) kc_X9_240 dX9_digest_81 ?_
      refine P.lload_n (pc := 84) 1 dX9_digest_84 rfl rfl ?_
      refine P.lmul (pc := 85) dX9_digest_85 ?_
      refine P.aload_n (pc := 86) 0 dX9_digest_86 rfl rfl ?_
      refine P.iload_n (pc := 87) 3 dX9_digest_87 rfl rfl ?_
      refine P.V1I (pc := 88) cs_X9_digest_247 dX9_digest_88 rfl rfl rfl (sp_X9_apart I R1 _) (fun v88 M88 h88 => ?_)
      rw [o_apart_w (by omega)] at h88
      obtain ⟨g1, g2, g3⟩ := h88
      subst g1
      refine P.i2l (pc := 91) dX9_digest_91 ?_
      refine P.ladd (pc := 92) dX9_digest_92 ?_
      refine P.lstore_n (pc := 93) 1 dX9_digest_93 rfl (by decide) rfl ?_
      refine P.iinc (pc := 94) 3 1 dX9_digest_94 rfl (by decide) (by decide) rfl ?_
      rw [nI_1]
      refine P.goto (pc := 97) 75 dX9_digest_97 (by decide) ?_
      have q := ih (i + 1) M88 (by omega) g2 (f1.tr g3)
      rw [xds] at q
      exact q
theorem gB9 {n : Nat → Nat} {σ M : xM} (I : Iv n σ) : ∀ (d i : Nat) (M1 : xM), i + d = n 1 → RX n σ M1 → frX M M1 → P mX9_digest 33 [some (.ref 0), some (.long (xds (fun p => σ 11 p) i (xh1 n σ))), none, some (.int (nI i))] [] M1 (fun r M' => ∃ v, r = some (.long v) ∧ v = xh5 n σ ∧ RX n σ M' ∧ frX M M') := by
  have b1 : n 1 ≤ 24 := I.1.2.1
  have b2 : n 2 ≤ 12 := I.2.2.1.1
  have b3 : n 3 ≤ 40 := I.2.2.2.1.1
  intro d
  induction d with
  | zero =>
    intro i M1 hi R1 f1
    have hi : i = n 1 := hi
    subst hi
    have ec : M1 5 7 = nI (n 1) := R1.2.2 (5, 7, 1) (by decide)
    have ea : M1 11 = σ 11 := R1.1 11 (by decide)
    refine P.iload_n (pc := 33) 3 dX9_digest_33 rfl rfl ?_
    refine P.aload_n (pc := 34) 0 dX9_digest_34 rfl rfl ?_
    refine P.getR (pc := 35) fl_X9_10 dX9_digest_35 rfl rfl ?_
    refine P.getR (pc := 38) fl_X9_68 dX9_digest_38 rfl rfl ?_
    refine P.getI (pc := 41) fl_X9_222 dX9_digest_41 rfl rfl ?_
    rw [ec]
    refine P.icge (pc := 44) 73 dX9_digest_44 (by decide) (fun c44 => ?_) (fun c44 => ?_)
    · refine P.iconst (pc := 73) (v := 0) dX9_digest_73 (by decide) ?_
      refine P.istore_n (pc := 74) 3 dX9_digest_74 rfl (by decide) rfl ?_
      exact gC9 I (10) 0 M1 (by omega) R1 f1
    · exact absurd (Int32.le_refl _) c44--.
  | succ d ih =>
    intro i M1 hi R1 f1
    have ec : M1 5 7 = nI (n 1) := R1.2.2 (5, 7, 1) (by decide)
    have ea : M1 11 = σ 11 := R1.1 11 (by decide)
    refine P.iload_n (pc := 33) 3 dX9_digest_33 rfl rfl ?_
    refine P.aload_n (pc := 34) 0 dX9_digest_34 rfl rfl ?_
    refine P.getR (pc := 35) fl_X9_10 dX9_digest_35 rfl rfl ?_
    refine P.getR (pc := 38) fl_X9_68 dX9_digest_38 rfl rfl ?_
    refine P.getI (pc := 41) fl_X9_222 dX9_digest_41 rfl rfl ?_
    rw [ec]
    refine P.icge (pc := 44) 73 dX9_digest_44 (by decide) (fun c44 => ?_) (fun c44 => ?_)
    · exact absurd c44 (nI_ge (by omega) (by omega))--.
    · refine P.ldc2 (pc := 47) kc_X9_240 dX9_digest_47 ?_
      refine P.lload_n (pc := 50) 1 dX9_digest_50 rfl rfl ?_
      refine P.lmul (pc := 51) dX9_digest_51 ?_
      refine P.aload_n (pc := 52) 0 dX9_digest_52 rfl rfl ?_
      refine P.getR (pc := 53) fl_X9_10 dX9_digest_53 rfl rfl ?_
      refine P.getR (pc := 56) fl_X9_68 dX9_digest_56 rfl rfl ?_
      refine P.getR (pc := 59) fl_X9_244 dX9_digest_59 rfl rfl ?_
      refine P.iload_n (pc := 62) 3 dX9_digest_62 rfl rfl ?_
      refine P.iaN (pc := 63) (i) dX9_digest_63 rfl rfl rfl (by first | omega | grind [nT]) ?_
      rw [ea]
      refine P.i2l (pc := 64) dX9_digest_64 ?_
      refine P.ladd (pc := 65) dX9_digest_65 ?_
      refine P.lstore_n (pc := 66) 1 dX9_digest_66 rfl (by decide) rfl ?_
      refine P.iinc (pc := 67) 3 1 dX9_digest_67 rfl (by decide) (by decide) rfl ?_
      rw [nI_1]
      refine P.goto (pc := 70) 33 dX9_digest_70 (by decide) ?_
      have q := ih (i + 1) M1 (by omega) R1 f1
      rw [xds] at q
      exact q
theorem gA9 {n : Nat → Nat} {σ M : xM} (I : Iv n σ) : ∀ (d i : Nat) (M1 : xM), i + d = 7 → RX n σ M1 → frX M M1 → P mX9_digest 6 [some (.ref 0), some (.long (xds (fun k => xcount n σ (nI k)) i (17))), none, some (.int (nI i))] [] M1 (fun r M' => ∃ v, r = some (.long v) ∧ v = xh5 n σ ∧ RX n σ M' ∧ frX M M') := by
  have b1 : n 1 ≤ 24 := I.1.2.1
  have b2 : n 2 ≤ 12 := I.2.2.1.1
  have b3 : n 3 ≤ 40 := I.2.2.2.1.1
  intro d
  induction d with
  | zero =>
    intro i M1 hi R1 f1
    have hi : i = 7 := hi
    subst hi
    refine P.iload_n (pc := 6) 3 dX9_digest_6 rfl rfl ?_
    refine P.bipush (pc := 7) (v := 6) dX9_digest_7 (by decide) ?_
    refine P.icgt (pc := 9) 31 dX9_digest_9 (by decide) (fun c9 => ?_) (fun c9 => ?_)
    · refine P.iconst (pc := 31) (v := 0) dX9_digest_31 (by decide) ?_
      refine P.istore_n (pc := 32) 3 dX9_digest_32 rfl (by decide) rfl ?_
      exact gB9 I (n 1) 0 M1 (by omega) R1 f1
    · exact absurd (by decide) c9--.
  | succ d ih =>
    intro i M1 hi R1 f1
    refine P.iload_n (pc := 6) 3 dX9_digest_6 rfl rfl ?_
    refine P.bipush (pc := 7) (v := 6) dX9_digest_7 (by decide) ?_
    refine P.icgt (pc := 9) 31 dX9_digest_9 (by decide) (fun c9 => ?_) (fun c9 => ?_)
    · exact absurd c9 (show ¬ nI 6 < nI i from nI_nlt (by omega) (by omega))--.
    · refine P.ldc2 (pc := 12) kc_X9_240 dX9_digest_12 ?_
      refine P.lload_n (pc := 15) 1 dX9_digest_15 rfl rfl ?_
      refine P.lmul (pc := 16) dX9_digest_16 ?_
      refine P.aload_n (pc := 17) 0 dX9_digest_17 rfl rfl ?_
      refine P.iload_n (pc := 18) 3 dX9_digest_18 rfl rfl ?_
      refine P.V1F (pc := 19) cs_X9_digest_242 dX9_digest_19 rfl rfl rfl (sp_X9_count I R1 _) ?_
      refine P.i2l (pc := 22) dX9_digest_22 ?_
      refine P.ladd (pc := 23) dX9_digest_23 ?_
      refine P.lstore_n (pc := 24) 1 dX9_digest_24 rfl (by decide) rfl ?_
      refine P.iinc (pc := 25) 3 1 dX9_digest_25 rfl (by decide) (by decide) rfl ?_
      rw [nI_1]
      refine P.goto (pc := 28) 6 dX9_digest_28 (by decide) ?_
      have q := ih (i + 1) M1 (by omega) R1 f1
      rw [xds] at q
      exact q
theorem sp_X9_digest {n : Nat → Nat} {σ M : xM} (I : Iv n σ) (R : RX n σ M) : SpL mX9_digest [.ref 0] M (fun v M' => v = xh5 n σ ∧ RX n σ M' ∧ frX M M') := by
  refine P.ldc2 (pc := 0) kc_X9_238 dX9_digest_0 ?_
  refine P.lstore_n (pc := 3) 1 dX9_digest_3 rfl (by decide) rfl ?_
  refine P.iconst (pc := 4) (v := 0) dX9_digest_4 (by decide) ?_
  refine P.istore_n (pc := 5) 3 dX9_digest_5 rfl (by decide) rfl ?_
  exact gA9 I (7) 0 _ (by omega) R frX.rf
theorem gE10 {n : Nat → Nat} {σ M : xM} (I : Iv n σ) : ∀ (d i : Nat) (M1 : xM), i + d = n 3 → RM n σ M1 → frM M M1 → P mX10_digest 119 [some (.ref 46), some (.long (xds (fun c => σ 32 c) i (xh4 n σ))), none, some (.int (nI i))] [] M1 (fun r M' => ∃ v, r = some (.long v) ∧ v = xh5 n σ ∧ RM n σ M' ∧ frM M M') := by
  have b1 : n 1 ≤ 24 := I.1.2.1
  have b2 : n 2 ≤ 12 := I.2.2.1.1
  have b3 : n 3 ≤ 40 := I.2.2.2.1.1
  intro d
  induction d with
  | zero =>
    intro i M1 hi R1 f1
    have hi : i = n 3 := hi
    subst hi
    have ec : M1 46 34 = nI (n 3) := R1.2.2.1 (34, 3) (by decide)
    have ea : M1 76 = σ 32 := R1.1 (76, 32) (by decide)
    refine P.iload_n (pc := 119) 3 dX10_digest_119 rfl rfl ?_
    refine P.aload_n (pc := 120) 0 dX10_digest_120 rfl rfl ?_
    refine P.getI (pc := 121) fl_X10_223 dX10_digest_121 rfl rfl ?_
    rw [ec]
    refine P.icge (pc := 124) 147 dX10_digest_124 (by decide) (fun c124 => ?_) (fun c124 => ?_)
    · refine P.lload_n (pc := 147) 1 dX10_digest_147 rfl rfl ?_
      refine P.lret (pc := 148) dX10_digest_148 rfl ?_
      exact ⟨_, rfl, rfl, R1, f1⟩
    · exact absurd (Int32.le_refl _) c124--.
  | succ d ih =>
    intro i M1 hi R1 f1
    have ec : M1 46 34 = nI (n 3) := R1.2.2.1 (34, 3) (by decide)
    have ea : M1 76 = σ 32 := R1.1 (76, 32) (by decide)
    refine P.iload_n (pc := 119) 3 dX10_digest_119 rfl rfl ?_
    refine P.aload_n (pc := 120) 0 dX10_digest_120 rfl rfl ?_
    refine P.getI (pc := 121) fl_X10_223 dX10_digest_121 rfl rfl ?_
    rw [ec]
    refine P.icge (pc := 124) 147 dX10_digest_124 (by decide) (fun c124 => ?_) (fun c124 => ?_)
    · exact absurd c124 (nI_ge (by omega) (by omega))--.
    · refine P.ldc2 (pc := 127) kc_X10_261 dX10_digest_127 ?_
      refine P.lload_n (pc := 130) 1 dX10_digest_130 rfl rfl ?_
      refine P.lmul (pc := 131) dX10_digest_131 ?_
      refine P.aload_n (pc := 132) 0 dX10_digest_132 rfl rfl ?_
      refine P.getR (pc := 133) fl_X10_105 dX10_digest_133 rfl rfl ?_
      refine P.iload_n (pc := 136) 3 dX10_digest_136 rfl rfl ?_
      refine P.iaN (pc := 137) (i) dX10_digest_137 rfl rfl rfl (by first | omega | grind [nT]) ?_
      rw [ea]
      refine P.i2l (pc := 138) dX10_digest_138 ?_
      refine P.ladd (pc := 139) dX10_digest_139 ?_
      refine P.lstore_n (pc := 140) 1 dX10_digest_140 rfl (by decide) rfl ?_
      refine P.iinc (pc := 141) 3 1 dX10_digest_141 rfl (by decide) (by decide) rfl ?_
      rw [nI_1]
      refine P.goto (pc := 144) 119 dX10_digest_144 (by decide) ?_
      have q := ih (i + 1) M1 (by omega) R1 f1
      rw [xds] at q
      exact q
theorem gD10 {n : Nat → Nat} {σ M : xM} (I : Iv n σ) : ∀ (d i : Nat) (M1 : xM), i + d = n 2 → RM n σ M1 → frM M M1 → P mX10_digest 90 [some (.ref 46), some (.long (xds (fun s => xpl σ (xwb σ (σ 22 s)) s) i (xh3 n σ))), none, some (.int (nI i))] [] M1 (fun r M' => ∃ v, r = some (.long v) ∧ v = xh5 n σ ∧ RM n σ M' ∧ frM M M') := by
  have b1 : n 1 ≤ 24 := I.1.2.1
  have b2 : n 2 ≤ 12 := I.2.2.1.1
  have b3 : n 3 ≤ 40 := I.2.2.2.1.1
  intro d
  induction d with
  | zero =>
    intro i M1 hi R1 f1
    have hi : i = n 2 := hi
    subst hi
    have ec : M1 46 22 = nI (n 2) := R1.2.2.1 (22, 2) (by decide)
    refine P.iload_n (pc := 90) 3 dX10_digest_90 rfl rfl ?_
    refine P.aload_n (pc := 91) 0 dX10_digest_91 rfl rfl ?_
    refine P.getI (pc := 92) fl_X10_210 dX10_digest_92 rfl rfl ?_
    rw [ec]
    refine P.icge (pc := 95) 117 dX10_digest_95 (by decide) (fun c95 => ?_) (fun c95 => ?_)
    · refine P.iconst (pc := 117) (v := 0) dX10_digest_117 (by decide) ?_
      refine P.istore_n (pc := 118) 3 dX10_digest_118 rfl (by decide) rfl ?_
      exact gE10 I (n 3) 0 M1 (by omega) R1 f1
    · exact absurd (Int32.le_refl _) c95--.
  | succ d ih =>
    intro i M1 hi R1 f1
    have ec : M1 46 22 = nI (n 2) := R1.2.2.1 (22, 2) (by decide)
    refine P.iload_n (pc := 90) 3 dX10_digest_90 rfl rfl ?_
    refine P.aload_n (pc := 91) 0 dX10_digest_91 rfl rfl ?_
    refine P.getI (pc := 92) fl_X10_210 dX10_digest_92 rfl rfl ?_
    rw [ec]
    refine P.icge (pc := 95) 117 dX10_digest_95 (by decide) (fun c95 => ?_) (fun c95 => ?_)
    · exact absurd c95 (nI_ge (by omega) (by omega))--.
    · refine P.ldc2 (pc := 98) kc_X10_261 dX10_digest_98 ?_
      refine P.lload_n (pc := 101) 1 dX10_digest_101 rfl rfl ?_
      refine P.lmul (pc := 102) dX10_digest_102 ?_
      refine P.aload_n (pc := 103) 0 dX10_digest_103 rfl rfl ?_
      refine P.iload_n (pc := 104) 3 dX10_digest_104 rfl rfl ?_
      refine P.V1F (pc := 105) cs_X10_digest_216 dX10_digest_105 rfl rfl rfl (sp_X10_placeOf I R1 (by omega)) ?_
      refine P.i2l (pc := 108) dX10_digest_108 ?_
      refine P.ladd (pc := 109) dX10_digest_109 ?_
      refine P.lstore_n (pc := 110) 1 dX10_digest_110 rfl (by decide) rfl ?_
      refine P.iinc (pc := 111) 3 1 dX10_digest_111 rfl (by decide) (by decide) rfl ?_
      rw [nI_1]
      refine P.goto (pc := 114) 90 dX10_digest_114 (by decide) ?_
      have q := ih (i + 1) M1 (by omega) R1 f1
      rw [xds] at q
      exact q
theorem gC10 {n : Nat → Nat} {σ M : xM} (I : Iv n σ) : ∀ (d i : Nat) (M1 : xM), i + d = 10 → RM n σ M1 → frM M M1 → P mX10_digest 63 [some (.ref 46), some (.long (xds (fun w => xdiff n σ (nI w)) i (xh2 n σ))), none, some (.int (nI i))] [] M1 (fun r M' => ∃ v, r = some (.long v) ∧ v = xh5 n σ ∧ RM n σ M' ∧ frM M M') := by
  have b1 : n 1 ≤ 24 := I.1.2.1
  have b2 : n 2 ≤ 12 := I.2.2.1.1
  have b3 : n 3 ≤ 40 := I.2.2.2.1.1
  intro d
  induction d with
  | zero =>
    intro i M1 hi R1 f1
    have hi : i = 10 := hi
    subst hi
    refine P.iload_n (pc := 63) 3 dX10_digest_63 rfl rfl ?_
    refine P.bipush (pc := 64) (v := 10) dX10_digest_64 (by decide) ?_
    refine P.icge (pc := 66) 88 dX10_digest_66 (by decide) (fun c66 => ?_) (fun c66 => ?_)
    · refine P.iconst (pc := 88) (v := 0) dX10_digest_88 (by decide) ?_
      refine P.istore_n (pc := 89) 3 dX10_digest_89 rfl (by decide) rfl ?_
      exact gD10 I (n 2) 0 M1 (by omega) R1 f1
    · exact absurd (by decide) c66--.
  | succ d ih =>
    intro i M1 hi R1 f1
    refine P.iload_n (pc := 63) 3 dX10_digest_63 rfl rfl ?_
    refine P.bipush (pc := 64) (v := 10) dX10_digest_64 (by decide) ?_
    refine P.icge (pc := 66) 88 dX10_digest_66 (by decide) (fun c66 => ?_) (fun c66 => ?_)
    · exact absurd c66 (show ¬ nI 10 ≤ nI i from nI_ge (by omega) (by omega))--.
    · refine P.ldc2 (pc := 69) kc_X10_261 dX10_digest_69 ?_
      refine P.lload_n (pc := 72) 1 dX10_digest_72 rfl rfl ?_
      refine P.lmul (pc := 73) dX10_digest_73 ?_
      refine P.aload_n (pc := 74) 0 dX10_digest_74 rfl rfl ?_
      refine P.iload_n (pc := 75) 3 dX10_digest_75 rfl rfl ?_
      refine P.V1I (pc := 76) cs_X10_digest_266 dX10_digest_76 rfl rfl rfl (sp_X10_apart I R1 _) (fun v76 M76 h76 => ?_)
      rw [o_apart_w (by omega)] at h76
      obtain ⟨g1, g2, g3⟩ := h76
      subst g1
      refine P.i2l (pc := 79) dX10_digest_79 ?_
      refine P.ladd (pc := 80) dX10_digest_80 ?_
      refine P.lstore_n (pc := 81) 1 dX10_digest_81 rfl (by decide) rfl ?_
      refine P.iinc (pc := 82) 3 1 dX10_digest_82 rfl (by decide) (by decide) rfl ?_
      rw [nI_1]
      refine P.goto (pc := 85) 63 dX10_digest_85 (by decide) ?_
      have q := ih (i + 1) M76 (by omega) g2 (f1.tr g3)
      rw [xds] at q
      exact q
theorem gB10 {n : Nat → Nat} {σ M : xM} (I : Iv n σ) : ∀ (d i : Nat) (M1 : xM), i + d = n 1 → RM n σ M1 → frM M M1 → P mX10_digest 33 [some (.ref 46), some (.long (xds (fun p => σ 11 p) i (xh1 n σ))), none, some (.int (nI i))] [] M1 (fun r M' => ∃ v, r = some (.long v) ∧ v = xh5 n σ ∧ RM n σ M' ∧ frM M M') := by
  have b1 : n 1 ≤ 24 := I.1.2.1
  have b2 : n 2 ≤ 12 := I.2.2.1.1
  have b3 : n 3 ≤ 40 := I.2.2.2.1.1
  intro d
  induction d with
  | zero =>
    intro i M1 hi R1 f1
    have hi : i = n 1 := hi
    subst hi
    have ec : M1 46 3 = nI (n 1) := R1.2.2.1 (3, 1) (by decide)
    refine P.iload_n (pc := 33) 3 dX10_digest_33 rfl rfl ?_
    refine P.aload_n (pc := 34) 0 dX10_digest_34 rfl rfl ?_
    refine P.getI (pc := 35) fl_X10_136 dX10_digest_35 rfl rfl ?_
    rw [ec]
    refine P.icge (pc := 38) 61 dX10_digest_38 (by decide) (fun c38 => ?_) (fun c38 => ?_)
    · refine P.iconst (pc := 61) (v := 0) dX10_digest_61 (by decide) ?_
      refine P.istore_n (pc := 62) 3 dX10_digest_62 rfl (by decide) rfl ?_
      exact gC10 I (10) 0 M1 (by omega) R1 f1
    · exact absurd (Int32.le_refl _) c38--.
  | succ d ih =>
    intro i M1 hi R1 f1
    have ec : M1 46 3 = nI (n 1) := R1.2.2.1 (3, 1) (by decide)
    refine P.iload_n (pc := 33) 3 dX10_digest_33 rfl rfl ?_
    refine P.aload_n (pc := 34) 0 dX10_digest_34 rfl rfl ?_
    refine P.getI (pc := 35) fl_X10_136 dX10_digest_35 rfl rfl ?_
    rw [ec]
    refine P.icge (pc := 38) 61 dX10_digest_38 (by decide) (fun c38 => ?_) (fun c38 => ?_)
    · exact absurd c38 (nI_ge (by omega) (by omega))--.
    · refine P.ldc2 (pc := 41) kc_X10_261 dX10_digest_41 ?_
      refine P.lload_n (pc := 44) 1 dX10_digest_44 rfl rfl ?_
      refine P.lmul (pc := 45) dX10_digest_45 ?_
      refine P.aload_n (pc := 46) 0 dX10_digest_46 rfl rfl ?_
      refine P.getR (pc := 47) fl_X10_31 dX10_digest_47 rfl rfl ?_
      refine P.iload_n (pc := 50) 3 dX10_digest_50 rfl rfl ?_
      refine P.iaN (pc := 51) (i) dX10_digest_51 rfl rfl rfl (by first | omega | grind [nT]) ?_
      rw [R1.2.2.2.1 i (by omega)]
      refine P.i2l (pc := 52) dX10_digest_52 ?_
      refine P.ladd (pc := 53) dX10_digest_53 ?_
      refine P.lstore_n (pc := 54) 1 dX10_digest_54 rfl (by decide) rfl ?_
      refine P.iinc (pc := 55) 3 1 dX10_digest_55 rfl (by decide) (by decide) rfl ?_
      rw [nI_1]
      refine P.goto (pc := 58) 33 dX10_digest_58 (by decide) ?_
      have q := ih (i + 1) M1 (by omega) R1 f1
      rw [xds] at q
      exact q
theorem gA10 {n : Nat → Nat} {σ M : xM} (I : Iv n σ) : ∀ (d i : Nat) (M1 : xM), i + d = 7 → RM n σ M1 → frM M M1 → P mX10_digest 6 [some (.ref 46), some (.long (xds (fun k => xcount n σ (nI k)) i (17))), none, some (.int (nI i))] [] M1 (fun r M' => ∃ v, r = some (.long v) ∧ v = xh5 n σ ∧ RM n σ M' ∧ frM M M') := by
  have b1 : n 1 ≤ 24 := I.1.2.1
  have b2 : n 2 ≤ 12 := I.2.2.1.1
  have b3 : n 3 ≤ 40 := I.2.2.2.1.1
  intro d
  induction d with
  | zero =>
    intro i M1 hi R1 f1
    have hi : i = 7 := hi
    subst hi
    refine P.iload_n (pc := 6) 3 dX10_digest_6 rfl rfl ?_
    refine P.bipush (pc := 7) (v := 7) dX10_digest_7 (by decide) ?_
    refine P.icge (pc := 9) 31 dX10_digest_9 (by decide) (fun c9 => ?_) (fun c9 => ?_)
    · refine P.iconst (pc := 31) (v := 0) dX10_digest_31 (by decide) ?_
      refine P.istore_n (pc := 32) 3 dX10_digest_32 rfl (by decide) rfl ?_
      exact gB10 I (n 1) 0 M1 (by omega) R1 f1
    · exact absurd (by decide) c9--.
  | succ d ih =>
    intro i M1 hi R1 f1
    refine P.iload_n (pc := 6) 3 dX10_digest_6 rfl rfl ?_
    refine P.bipush (pc := 7) (v := 7) dX10_digest_7 (by decide) ?_
    refine P.icge (pc := 9) 31 dX10_digest_9 (by decide) (fun c9 => ?_) (fun c9 => ?_)
    · exact absurd c9 (show ¬ nI 7 ≤ nI i from nI_ge (by omega) (by omega))--.
    · refine P.ldc2 (pc := 12) kc_X10_261 dX10_digest_12 ?_
      refine P.lload_n (pc := 15) 1 dX10_digest_15 rfl rfl ?_
      refine P.lmul (pc := 16) dX10_digest_16 ?_
      refine P.aload_n (pc := 17) 0 dX10_digest_17 rfl rfl ?_
      refine P.iload_n (pc := 18) 3 dX10_digest_18 rfl rfl ?_
      refine P.V1F (pc := 19) cs_X10_digest_263 dX10_digest_19 rfl rfl rfl (sp_X10_count I R1 _) ?_
      refine P.i2l (pc := 22) dX10_digest_22 ?_
      refine P.ladd (pc := 23) dX10_digest_23 ?_
      refine P.lstore_n (pc := 24) 1 dX10_digest_24 rfl (by decide) rfl ?_
      refine P.iinc (pc := 25) 3 1 dX10_digest_25 rfl (by decide) (by decide) rfl ?_
      rw [nI_1]
      refine P.goto (pc := 28) 6 dX10_digest_28 (by decide) ?_
      have q := ih (i + 1) M1 (by omega) R1 f1
      rw [xds] at q
      exact q
theorem sp_X10_digest {n : Nat → Nat} {σ M : xM} (I : Iv n σ) (R : RM n σ M) : SpL mX10_digest [.ref 46] M (fun v M' => v = xh5 n σ ∧ RM n σ M' ∧ frM M M') := by
  refine P.ldc2 (pc := 0) kc_X10_228 dX10_digest_0 ?_
  refine P.lstore_n (pc := 3) 1 dX10_digest_3 rfl (by decide) rfl ?_
  refine P.iconst (pc := 4) (v := 0) dX10_digest_4 (by decide) ?_
  refine P.istore_n (pc := 5) 3 dX10_digest_5 rfl (by decide) rfl ?_
  exact gA10 I (7) 0 _ (by omega) R frM.rf
