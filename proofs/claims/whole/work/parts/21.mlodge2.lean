/-! the dearest hut, lodging, who is in: the reference -/
theorem xdr_keep {n : Nat → Nat} {σ : xM} {p : Nat} {ok : Nat → Prop} {i : Nat} {d : Int32} (hd : d = xdr n σ p ok i) (h : ¬ (ok i ∧ (d = -1 ∨ xkey n σ p i < xkey n σ p d.toNatClampNeg))) : d = xdr n σ p ok (i + 1) := by
  rw [xdr, ← hd, if_neg h]
theorem xdr_take {n : Nat → Nat} {σ : xM} {p : Nat} {ok : Nat → Prop} {i : Nat} {d : Int32} (hd : d = xdr n σ p ok i) (h : ok i ∧ (d = -1 ∨ xkey n σ p i < xkey n σ p d.toNatClampNeg)) : nI i = xdr n σ p ok (i + 1) := by
  rw [xdr, ← hd, if_pos h]
theorem xkey_lt {n : Nat → Nat} {σ : xM} (H : IvH n σ) {p a b : Nat} (hp : p < n 1) (ha : a < n 0) (hb : b < n 0) : xkey n σ p a < xkey n σ p b ↔ (xnext n σ p (σ 3 a) ∧ ¬ xnext n σ p (σ 3 b)) ∨ ((xnext n σ p (σ 3 a) ↔ xnext n σ p (σ 3 b)) ∧ σ 4 a < σ 4 b) := by
  have u1 := H.2.2.1 a ha
  have u2 := H.2.2.1 b hb
  have u3 := H.2.2.2.1 p hp
  by_cases e1 : xnext n σ p (σ 3 a) <;> by_cases e2 : xnext n σ p (σ 3 b)
  · rw [xkey, xkey, if_pos e1, if_pos e2]; grind
  · rw [xkey, xkey, if_pos e1, if_neg e2]; grind
  · rw [xkey, xkey, if_neg e1, if_pos e2]; grind
  · rw [xkey, xkey, if_neg e1, if_neg e2]; grind
theorem sp_X10_dearest {n : Nat → Nat} {σ M : xM} (H : IvH n σ) (R : RM n σ M) {p : Nat} (hp : p < n 1) (but : Int32) : SpF mX10_dearest [.ref 46, .int (nI p), .int but] M (xdr n σ p (fun h => ¬ nI h = but ∧ xmay n σ p h) (n 0)) := by
  have hc : M 46 0 = nI (n 0) := R.2.2.1 (0, 0) (by decide)
  have b1 : n 1 ≤ 24 := H.2.1
  have b0 : n 0 ≤ 30 := H.1
  have a2 := R.1 (47, 3) (by decide)
  have a3 := R.1 (48, 4) (by decide)
  dsimp only at a2 a3
  have lp : ∀ (k i : Nat) (x d : Int32) (o5 o6 o7 : Option Value), i + k = n 0 → x = nI i → d = xdr n σ p (fun h => ¬ nI h = but ∧ xmay n σ p h) i → P mX10_dearest 5 [some (.ref 46), some (.int (nI p)), some (.int but), some (.int d), some (.int x), o5, o6, o7] [] M (fun r M' => r = some (.int (xdr n σ p (fun h => ¬ nI h = but ∧ xmay n σ p h) (n 0))) ∧ M' = M) := by
    intro k
    induction k with
    | zero =>
      intro i x d o5 o6 o7 hi hx hd
      subst hx
      refine P.iload (pc := 5) 4 dX10_dearest_5 rfl ?_
      refine P.aload_n (pc := 7) 0 dX10_dearest_7 rfl rfl ?_
      refine P.getI (pc := 8) fl_X10_129 dX10_dearest_8 rfl rfl ?_
      refine P.icge (pc := 11) 135 dX10_dearest_11 (by decide) (fun c11 => ?_) (fun c11 => ?_)
      · refine P.iload_n (pc := 135) 3 dX10_dearest_135 rfl rfl ?_
        refine P.iret (pc := 136) dX10_dearest_136 rfl ?_
        exact ⟨siv (by rw [hd, show i = n 0 from hi]), rfl⟩
      · exact absurd (show M 46 0 ≤ nI i by grind [nT]) c11--.
    | succ k ih =>
      intro i x d o5 o6 o7 hi hx hd
      subst hx
      have k1 := @bI_1 (xnext n σ p (σ 3 i))
      have k0 := @bI_0 (xnext n σ p (σ 3 i))
      by_cases c0 : d = -1
      · skip
        refine P.iload (pc := 5) 4 dX10_dearest_5 rfl ?_
        refine P.aload_n (pc := 7) 0 dX10_dearest_7 rfl rfl ?_
        refine P.getI (pc := 8) fl_X10_129 dX10_dearest_8 rfl rfl ?_
        refine P.icge (pc := 11) 135 dX10_dearest_11 (by decide) (fun c11 => ?_) (fun c11 => ?_)
        · exact absurd c11 (by grind [nT])--.
        · refine P.iload (pc := 14) 4 dX10_dearest_14 rfl ?_
          refine P.iload_n (pc := 16) 2 dX10_dearest_16 rfl rfl ?_
          refine P.iceq (pc := 17) 129 dX10_dearest_17 (by decide) (fun c17 => ?_) (fun c17 => ?_)
          · refine P.iinc (pc := 129) 4 1 dX10_dearest_129 rfl (by decide) (by decide) rfl ?_
            refine P.goto (pc := 132) 5 dX10_dearest_132 (by decide) ?_
            first
            | exact ih (i + 1) _ _ _ _ _ (by omega) (nI_1 i) (xdr_keep hd (by grind))
            | exact ih (i + 1) _ _ _ _ _ (by omega) (nI_1 i) (xdr_take hd (by grind))
          · refine P.aload_n (pc := 20) 0 dX10_dearest_20 rfl rfl ?_
            refine P.iload (pc := 21) 4 dX10_dearest_21 rfl ?_
            refine P.iload_n (pc := 23) 1 dX10_dearest_23 rfl rfl ?_
            refine P.V2F (pc := 24) cs_X10_dearest_167 dX10_dearest_24 rfl rfl rfl (sp_X10_mayLodge H R hp (by omega)) ?_
            refine P.ifeqB (pc := 27) 129 dX10_dearest_27 (by decide) (fun c27 => ?_) (fun c27 => ?_)
            · refine P.iinc (pc := 129) 4 1 dX10_dearest_129 rfl (by decide) (by decide) rfl ?_
              refine P.goto (pc := 132) 5 dX10_dearest_132 (by decide) ?_
              first
              | exact ih (i + 1) _ _ _ _ _ (by omega) (nI_1 i) (xdr_keep hd (by grind))
              | exact ih (i + 1) _ _ _ _ _ (by omega) (nI_1 i) (xdr_take hd (by grind))
            · refine P.aload_n (pc := 30) 0 dX10_dearest_30 rfl rfl ?_
              refine P.aload_n (pc := 31) 0 dX10_dearest_31 rfl rfl ?_
              refine P.getR (pc := 32) fl_X10_7 dX10_dearest_32 rfl rfl ?_
              refine P.iload (pc := 35) 4 dX10_dearest_35 rfl ?_
              refine P.iaN (pc := 37) _ dX10_dearest_37 rfl rfl rfl (by first | omega | grind [nT]) ?_
              rw [a2]
              refine P.iload_n (pc := 38) 1 dX10_dearest_38 rfl rfl ?_
              refine P.iconst (pc := 39) (v := 0) dX10_dearest_39 (by decide) ?_
              refine P.V3F (pc := 40) cs_X10_dearest_163 dX10_dearest_40 rfl rfl rfl (sp_X10_hasTold H R hp _ _) ?_
              rw [bI_c (told_next H hp _)]
              refine P.istore (pc := 43) 5 dX10_dearest_43 (by decide) rfl ?_
              refine P.iload_n (pc := 45) 3 dX10_dearest_45 rfl rfl ?_
              refine P.iconst (pc := 46) (v := -1) dX10_dearest_46 (by decide) ?_
              refine P.iceq (pc := 47) 69 dX10_dearest_47 (by decide) (fun c47 => ?_) (fun c47 => ?_)
              · refine P.iconst (pc := 69) (v := 0) dX10_dearest_69 (by decide) ?_
                refine P.istore (pc := 70) 6 dX10_dearest_70 (by decide) rfl ?_
                refine P.iload_n (pc := 72) 3 dX10_dearest_72 rfl rfl ?_
                refine P.iconst (pc := 73) (v := -1) dX10_dearest_73 (by decide) ?_
                refine P.iceq (pc := 74) 110 dX10_dearest_74 (by decide) (fun c74 => ?_) (fun c74 => ?_)
                · refine P.iconst (pc := 110) (v := 1) dX10_dearest_110 (by decide) ?_
                  refine P.goto (pc := 111) 115 dX10_dearest_111 (by decide) ?_
                  refine P.istore (pc := 115) 7 dX10_dearest_115 (by decide) rfl ?_
                  refine P.iload (pc := 117) 7 dX10_dearest_117 rfl ?_
                  refine P.ifeq (pc := 119) 127 dX10_dearest_119 (by decide) (fun q => absurd q (by decide)) (fun c119 => ?_)
                  refine P.iload (pc := 122) 4 dX10_dearest_122 rfl ?_
                  refine P.goto (pc := 124) 128 dX10_dearest_124 (by decide) ?_
                  refine P.istore_n (pc := 128) 3 dX10_dearest_128 rfl (by decide) rfl ?_
                  refine P.iinc (pc := 129) 4 1 dX10_dearest_129 rfl (by decide) (by decide) rfl ?_
                  refine P.goto (pc := 132) 5 dX10_dearest_132 (by decide) ?_
                  first
                  | exact ih (i + 1) _ _ _ _ _ (by omega) (nI_1 i) (xdr_keep hd (by grind))
                  | exact ih (i + 1) _ _ _ _ _ (by omega) (nI_1 i) (xdr_take hd (by grind))
                · exact absurd c0 c74--.
              · exact absurd c0 c47--.
      · obtain ⟨bb, hbb, ebb, -⟩ := (xdr_in n σ p (fun h => ¬ nI h = but ∧ xmay n σ p h) i).resolve_left (by rw [← hd]; exact c0)
        have ed : d = nI bb := hd.trans ebb
        subst ed
        have ckb := nI_clamp (n := bb) (by omega)
        have kl := xkey_lt H hp (a := i) (b := bb) (by omega) (by omega)
        refine P.iload (pc := 5) 4 dX10_dearest_5 rfl ?_
        refine P.aload_n (pc := 7) 0 dX10_dearest_7 rfl rfl ?_
        refine P.getI (pc := 8) fl_X10_129 dX10_dearest_8 rfl rfl ?_
        refine P.icge (pc := 11) 135 dX10_dearest_11 (by decide) (fun c11 => ?_) (fun c11 => ?_)
        · exact absurd c11 (by grind [nT])--.
        · refine P.iload (pc := 14) 4 dX10_dearest_14 rfl ?_
          refine P.iload_n (pc := 16) 2 dX10_dearest_16 rfl rfl ?_
          refine P.iceq (pc := 17) 129 dX10_dearest_17 (by decide) (fun c17 => ?_) (fun c17 => ?_)
          · refine P.iinc (pc := 129) 4 1 dX10_dearest_129 rfl (by decide) (by decide) rfl ?_
            refine P.goto (pc := 132) 5 dX10_dearest_132 (by decide) ?_
            first
            | exact ih (i + 1) _ _ _ _ _ (by omega) (nI_1 i) (xdr_keep hd (by grind))
            | exact ih (i + 1) _ _ _ _ _ (by omega) (nI_1 i) (xdr_take hd (by grind))
          · refine P.aload_n (pc := 20) 0 dX10_dearest_20 rfl rfl ?_
            refine P.iload (pc := 21) 4 dX10_dearest_21 rfl ?_
            refine P.iload_n (pc := 23) 1 dX10_dearest_23 rfl rfl ?_
            refine P.V2F (pc := 24) cs_X10_dearest_167 dX10_dearest_24 rfl rfl rfl (sp_X10_mayLodge H R hp (by omega)) ?_
            refine P.ifeqB (pc := 27) 129 dX10_dearest_27 (by decide) (fun c27 => ?_) (fun c27 => ?_)
            · refine P.iinc (pc := 129) 4 1 dX10_dearest_129 rfl (by decide) (by decide) rfl ?_
              refine P.goto (pc := 132) 5 dX10_dearest_132 (by decide) ?_
              first
              | exact ih (i + 1) _ _ _ _ _ (by omega) (nI_1 i) (xdr_keep hd (by grind))
              | exact ih (i + 1) _ _ _ _ _ (by omega) (nI_1 i) (xdr_take hd (by grind))
            · refine P.aload_n (pc := 30) 0 dX10_dearest_30 rfl rfl ?_
              refine P.aload_n (pc := 31) 0 dX10_dearest_31 rfl rfl ?_
              refine P.getR (pc := 32) fl_X10_7 dX10_dearest_32 rfl rfl ?_
              refine P.iload (pc := 35) 4 dX10_dearest_35 rfl ?_
              refine P.iaN (pc := 37) _ dX10_dearest_37 rfl rfl rfl (by first | omega | grind [nT]) ?_
              rw [a2]
              refine P.iload_n (pc := 38) 1 dX10_dearest_38 rfl rfl ?_
              refine P.iconst (pc := 39) (v := 0) dX10_dearest_39 (by decide) ?_
              refine P.V3F (pc := 40) cs_X10_dearest_163 dX10_dearest_40 rfl rfl rfl (sp_X10_hasTold H R hp _ _) ?_
              rw [bI_c (told_next H hp _)]
              refine P.istore (pc := 43) 5 dX10_dearest_43 (by decide) rfl ?_
              refine P.iload_n (pc := 45) 3 dX10_dearest_45 rfl rfl ?_
              refine P.iconst (pc := 46) (v := -1) dX10_dearest_46 (by decide) ?_
              refine P.iceq (pc := 47) 69 dX10_dearest_47 (by decide) (fun c47 => ?_) (fun c47 => ?_)
              · exact absurd c47 c0--.
              · refine P.aload_n (pc := 50) 0 dX10_dearest_50 rfl rfl ?_
                refine P.aload_n (pc := 51) 0 dX10_dearest_51 rfl rfl ?_
                refine P.getR (pc := 52) fl_X10_7 dX10_dearest_52 rfl rfl ?_
                refine P.iload_n (pc := 55) 3 dX10_dearest_55 rfl rfl ?_
                refine P.iaN (pc := 56) (bb) dX10_dearest_56 rfl rfl rfl (by first | omega | grind [nT]) ?_
                rw [a2]
                refine P.iload_n (pc := 57) 1 dX10_dearest_57 rfl rfl ?_
                refine P.iconst (pc := 58) (v := 0) dX10_dearest_58 (by decide) ?_
                refine P.V3F (pc := 59) cs_X10_dearest_163 dX10_dearest_59 rfl rfl rfl (sp_X10_hasTold H R hp _ _) ?_
                rw [bI_c (told_next H hp _)]
                refine P.ifeqB (pc := 62) 69 dX10_dearest_62 (by decide) (fun c62 => ?_) (fun c62 => ?_)
                · refine P.iconst (pc := 69) (v := 0) dX10_dearest_69 (by decide) ?_
                  refine P.istore (pc := 70) 6 dX10_dearest_70 (by decide) rfl ?_
                  refine P.iload_n (pc := 72) 3 dX10_dearest_72 rfl rfl ?_
                  refine P.iconst (pc := 73) (v := -1) dX10_dearest_73 (by decide) ?_
                  refine P.iceq (pc := 74) 110 dX10_dearest_74 (by decide) (fun c74 => ?_) (fun c74 => ?_)
                  · exact absurd c74 c0--.
                  · refine P.iload (pc := 77) 5 dX10_dearest_77 rfl ?_
                    refine P.ifeqB (pc := 79) 87 dX10_dearest_79 (by decide) (fun c79 => ?_) (fun c79 => ?_)
                    · refine P.iload (pc := 87) 5 dX10_dearest_87 rfl ?_
                      refine P.iload (pc := 89) 6 dX10_dearest_89 rfl ?_
                      refine P.icne (pc := 91) 114 dX10_dearest_91 (by decide) (fun c91 => ?_) (fun c91 => ?_)
                      · refine P.iconst (pc := 114) (v := 0) dX10_dearest_114 (by decide) ?_
                        refine P.istore (pc := 115) 7 dX10_dearest_115 (by decide) rfl ?_
                        refine P.iload (pc := 117) 7 dX10_dearest_117 rfl ?_
                        refine P.ifeq (pc := 119) 127 dX10_dearest_119 (by decide) (fun c119 => ?_) (fun q => absurd q (by decide))
                        refine P.iload_n (pc := 127) 3 dX10_dearest_127 rfl rfl ?_
                        refine P.istore_n (pc := 128) 3 dX10_dearest_128 rfl (by decide) rfl ?_
                        refine P.iinc (pc := 129) 4 1 dX10_dearest_129 rfl (by decide) (by decide) rfl ?_
                        refine P.goto (pc := 132) 5 dX10_dearest_132 (by decide) ?_
                        first
                        | exact ih (i + 1) _ _ _ _ _ (by omega) (nI_1 i) (xdr_keep hd (by grind))
                        | exact ih (i + 1) _ _ _ _ _ (by omega) (nI_1 i) (xdr_take hd (by grind))
                      · refine P.aload_n (pc := 94) 0 dX10_dearest_94 rfl rfl ?_
                        refine P.getR (pc := 95) fl_X10_13 dX10_dearest_95 rfl rfl ?_
                        refine P.iload (pc := 98) 4 dX10_dearest_98 rfl ?_
                        refine P.iaN (pc := 100) _ dX10_dearest_100 rfl rfl rfl (by first | omega | grind [nT]) ?_
                        refine P.aload_n (pc := 101) 0 dX10_dearest_101 rfl rfl ?_
                        refine P.getR (pc := 102) fl_X10_13 dX10_dearest_102 rfl rfl ?_
                        refine P.iload_n (pc := 105) 3 dX10_dearest_105 rfl rfl ?_
                        refine P.iaN (pc := 106) (bb) dX10_dearest_106 rfl rfl rfl (by first | omega | grind [nT]) ?_
                        refine P.icge (pc := 107) 114 dX10_dearest_107 (by decide) (fun c107 => ?_) (fun c107 => ?_)
                        · refine P.iconst (pc := 114) (v := 0) dX10_dearest_114 (by decide) ?_
                          refine P.istore (pc := 115) 7 dX10_dearest_115 (by decide) rfl ?_
                          refine P.iload (pc := 117) 7 dX10_dearest_117 rfl ?_
                          refine P.ifeq (pc := 119) 127 dX10_dearest_119 (by decide) (fun c119 => ?_) (fun q => absurd q (by decide))
                          refine P.iload_n (pc := 127) 3 dX10_dearest_127 rfl rfl ?_
                          refine P.istore_n (pc := 128) 3 dX10_dearest_128 rfl (by decide) rfl ?_
                          refine P.iinc (pc := 129) 4 1 dX10_dearest_129 rfl (by decide) (by decide) rfl ?_
                          refine P.goto (pc := 132) 5 dX10_dearest_132 (by decide) ?_
                          first
                          | exact ih (i + 1) _ _ _ _ _ (by omega) (nI_1 i) (xdr_keep hd (by grind))
                          | exact ih (i + 1) _ _ _ _ _ (by omega) (nI_1 i) (xdr_take hd (by grind))
                        · refine P.iconst (pc := 110) (v := 1) dX10_dearest_110 (by decide) ?_
                          refine P.goto (pc := 111) 115 dX10_dearest_111 (by decide) ?_
                          refine P.istore (pc := 115) 7 dX10_dearest_115 (by decide) rfl ?_
                          refine P.iload (pc := 117) 7 dX10_dearest_117 rfl ?_
                          refine P.ifeq (pc := 119) 127 dX10_dearest_119 (by decide) (fun q => absurd q (by decide)) (fun c119 => ?_)
                          refine P.iload (pc := 122) 4 dX10_dearest_122 rfl ?_
                          refine P.goto (pc := 124) 128 dX10_dearest_124 (by decide) ?_
                          refine P.istore_n (pc := 128) 3 dX10_dearest_128 rfl (by decide) rfl ?_
                          refine P.iinc (pc := 129) 4 1 dX10_dearest_129 rfl (by decide) (by decide) rfl ?_
                          refine P.goto (pc := 132) 5 dX10_dearest_132 (by decide) ?_
                          first
                          | exact ih (i + 1) _ _ _ _ _ (by omega) (nI_1 i) (xdr_keep hd (by grind))
                          | exact ih (i + 1) _ _ _ _ _ (by omega) (nI_1 i) (xdr_take hd (by grind))
                    · refine P.iload (pc := 82) 6 dX10_dearest_82 rfl ?_
                      refine P.ifeq (pc := 84) 110 dX10_dearest_84 (by decide) (fun c84 => ?_) (fun q => absurd q (by decide))
                      refine P.iconst (pc := 110) (v := 1) dX10_dearest_110 (by decide) ?_
                      refine P.goto (pc := 111) 115 dX10_dearest_111 (by decide) ?_
                      refine P.istore (pc := 115) 7 dX10_dearest_115 (by decide) rfl ?_
                      refine P.iload (pc := 117) 7 dX10_dearest_117 rfl ?_
                      refine P.ifeq (pc := 119) 127 dX10_dearest_119 (by decide) (fun q => absurd q (by decide)) (fun c119 => ?_)
                      refine P.iload (pc := 122) 4 dX10_dearest_122 rfl ?_
                      refine P.goto (pc := 124) 128 dX10_dearest_124 (by decide) ?_
                      refine P.istore_n (pc := 128) 3 dX10_dearest_128 rfl (by decide) rfl ?_
                      refine P.iinc (pc := 129) 4 1 dX10_dearest_129 rfl (by decide) (by decide) rfl ?_
                      refine P.goto (pc := 132) 5 dX10_dearest_132 (by decide) ?_
                      first
                      | exact ih (i + 1) _ _ _ _ _ (by omega) (nI_1 i) (xdr_keep hd (by grind))
                      | exact ih (i + 1) _ _ _ _ _ (by omega) (nI_1 i) (xdr_take hd (by grind))
                · refine P.iconst (pc := 65) (v := 1) dX10_dearest_65 (by decide) ?_
                  refine P.goto (pc := 66) 70 dX10_dearest_66 (by decide) ?_
                  refine P.istore (pc := 70) 6 dX10_dearest_70 (by decide) rfl ?_
                  refine P.iload_n (pc := 72) 3 dX10_dearest_72 rfl rfl ?_
                  refine P.iconst (pc := 73) (v := -1) dX10_dearest_73 (by decide) ?_
                  refine P.iceq (pc := 74) 110 dX10_dearest_74 (by decide) (fun c74 => ?_) (fun c74 => ?_)
                  · exact absurd c74 c0--.
                  · refine P.iload (pc := 77) 5 dX10_dearest_77 rfl ?_
                    refine P.ifeqB (pc := 79) 87 dX10_dearest_79 (by decide) (fun c79 => ?_) (fun c79 => ?_)
                    · refine P.iload (pc := 87) 5 dX10_dearest_87 rfl ?_
                      refine P.iload (pc := 89) 6 dX10_dearest_89 rfl ?_
                      refine P.icne (pc := 91) 114 dX10_dearest_91 (by decide) (fun c91 => ?_) (fun c91 => ?_)
                      · refine P.iconst (pc := 114) (v := 0) dX10_dearest_114 (by decide) ?_
                        refine P.istore (pc := 115) 7 dX10_dearest_115 (by decide) rfl ?_
                        refine P.iload (pc := 117) 7 dX10_dearest_117 rfl ?_
                        refine P.ifeq (pc := 119) 127 dX10_dearest_119 (by decide) (fun c119 => ?_) (fun q => absurd q (by decide))
                        refine P.iload_n (pc := 127) 3 dX10_dearest_127 rfl rfl ?_
                        refine P.istore_n (pc := 128) 3 dX10_dearest_128 rfl (by decide) rfl ?_
                        refine P.iinc (pc := 129) 4 1 dX10_dearest_129 rfl (by decide) (by decide) rfl ?_
                        refine P.goto (pc := 132) 5 dX10_dearest_132 (by decide) ?_
                        first
                        | exact ih (i + 1) _ _ _ _ _ (by omega) (nI_1 i) (xdr_keep hd (by grind))
                        | exact ih (i + 1) _ _ _ _ _ (by omega) (nI_1 i) (xdr_take hd (by grind))
                      · refine P.aload_n (pc := 94) 0 dX10_dearest_94 rfl rfl ?_
                        refine P.getR (pc := 95) fl_X10_13 dX10_dearest_95 rfl rfl ?_
                        refine P.iload (pc := 98) 4 dX10_dearest_98 rfl ?_
                        refine P.iaN (pc := 100) _ dX10_dearest_100 rfl rfl rfl (by first | omega | grind [nT]) ?_
                        refine P.aload_n (pc := 101) 0 dX10_dearest_101 rfl rfl ?_
                        refine P.getR (pc := 102) fl_X10_13 dX10_dearest_102 rfl rfl ?_
                        refine P.iload_n (pc := 105) 3 dX10_dearest_105 rfl rfl ?_
                        refine P.iaN (pc := 106) (bb) dX10_dearest_106 rfl rfl rfl (by first | omega | grind [nT]) ?_
                        refine P.icge (pc := 107) 114 dX10_dearest_107 (by decide) (fun c107 => ?_) (fun c107 => ?_)
                        · refine P.iconst (pc := 114) (v := 0) dX10_dearest_114 (by decide) ?_
                          refine P.istore (pc := 115) 7 dX10_dearest_115 (by decide) rfl ?_
                          refine P.iload (pc := 117) 7 dX10_dearest_117 rfl ?_
                          refine P.ifeq (pc := 119) 127 dX10_dearest_119 (by decide) (fun c119 => ?_) (fun q => absurd q (by decide))
                          refine P.iload_n (pc := 127) 3 dX10_dearest_127 rfl rfl ?_
                          refine P.istore_n (pc := 128) 3 dX10_dearest_128 rfl (by decide) rfl ?_
                          refine P.iinc (pc := 129) 4 1 dX10_dearest_129 rfl (by decide) (by decide) rfl ?_
                          refine P.goto (pc := 132) 5 dX10_dearest_132 (by decide) ?_
                          first
                          | exact ih (i + 1) _ _ _ _ _ (by omega) (nI_1 i) (xdr_keep hd (by grind))
                          | exact ih (i + 1) _ _ _ _ _ (by omega) (nI_1 i) (xdr_take hd (by grind))
                        · refine P.iconst (pc := 110) (v := 1) dX10_dearest_110 (by decide) ?_
                          refine P.goto (pc := 111) 115 dX10_dearest_111 (by decide) ?_
                          refine P.istore (pc := 115) 7 dX10_dearest_115 (by decide) rfl ?_
                          refine P.iload (pc := 117) 7 dX10_dearest_117 rfl ?_
                          refine P.ifeq (pc := 119) 127 dX10_dearest_119 (by decide) (fun q => absurd q (by decide)) (fun c119 => ?_)
                          refine P.iload (pc := 122) 4 dX10_dearest_122 rfl ?_
                          refine P.goto (pc := 124) 128 dX10_dearest_124 (by decide) ?_
                          refine P.istore_n (pc := 128) 3 dX10_dearest_128 rfl (by decide) rfl ?_
                          refine P.iinc (pc := 129) 4 1 dX10_dearest_129 rfl (by decide) (by decide) rfl ?_
                          refine P.goto (pc := 132) 5 dX10_dearest_132 (by decide) ?_
                          first
                          | exact ih (i + 1) _ _ _ _ _ (by omega) (nI_1 i) (xdr_keep hd (by grind))
                          | exact ih (i + 1) _ _ _ _ _ (by omega) (nI_1 i) (xdr_take hd (by grind))
                    · refine P.iload (pc := 82) 6 dX10_dearest_82 rfl ?_
                      refine P.ifeq (pc := 84) 110 dX10_dearest_84 (by decide) (fun q => absurd q (by decide)) (fun c84 => ?_)
                      refine P.iload (pc := 87) 5 dX10_dearest_87 rfl ?_
                      refine P.iload (pc := 89) 6 dX10_dearest_89 rfl ?_
                      refine P.icne (pc := 91) 114 dX10_dearest_91 (by decide) (fun c91 => ?_) (fun c91 => ?_)
                      · refine P.iconst (pc := 114) (v := 0) dX10_dearest_114 (by decide) ?_
                        refine P.istore (pc := 115) 7 dX10_dearest_115 (by decide) rfl ?_
                        refine P.iload (pc := 117) 7 dX10_dearest_117 rfl ?_
                        refine P.ifeq (pc := 119) 127 dX10_dearest_119 (by decide) (fun c119 => ?_) (fun q => absurd q (by decide))
                        refine P.iload_n (pc := 127) 3 dX10_dearest_127 rfl rfl ?_
                        refine P.istore_n (pc := 128) 3 dX10_dearest_128 rfl (by decide) rfl ?_
                        refine P.iinc (pc := 129) 4 1 dX10_dearest_129 rfl (by decide) (by decide) rfl ?_
                        refine P.goto (pc := 132) 5 dX10_dearest_132 (by decide) ?_
                        first
                        | exact ih (i + 1) _ _ _ _ _ (by omega) (nI_1 i) (xdr_keep hd (by grind))
                        | exact ih (i + 1) _ _ _ _ _ (by omega) (nI_1 i) (xdr_take hd (by grind))
                      · refine P.aload_n (pc := 94) 0 dX10_dearest_94 rfl rfl ?_
                        refine P.getR (pc := 95) fl_X10_13 dX10_dearest_95 rfl rfl ?_
                        refine P.iload (pc := 98) 4 dX10_dearest_98 rfl ?_
                        refine P.iaN (pc := 100) _ dX10_dearest_100 rfl rfl rfl (by first | omega | grind [nT]) ?_
                        refine P.aload_n (pc := 101) 0 dX10_dearest_101 rfl rfl ?_
                        refine P.getR (pc := 102) fl_X10_13 dX10_dearest_102 rfl rfl ?_
                        refine P.iload_n (pc := 105) 3 dX10_dearest_105 rfl rfl ?_
                        refine P.iaN (pc := 106) (bb) dX10_dearest_106 rfl rfl rfl (by first | omega | grind [nT]) ?_
                        refine P.icge (pc := 107) 114 dX10_dearest_107 (by decide) (fun c107 => ?_) (fun c107 => ?_)
                        · refine P.iconst (pc := 114) (v := 0) dX10_dearest_114 (by decide) ?_
                          refine P.istore (pc := 115) 7 dX10_dearest_115 (by decide) rfl ?_
                          refine P.iload (pc := 117) 7 dX10_dearest_117 rfl ?_
                          refine P.ifeq (pc := 119) 127 dX10_dearest_119 (by decide) (fun c119 => ?_) (fun q => absurd q (by decide))
                          refine P.iload_n (pc := 127) 3 dX10_dearest_127 rfl rfl ?_
                          refine P.istore_n (pc := 128) 3 dX10_dearest_128 rfl (by decide) rfl ?_
                          refine P.iinc (pc := 129) 4 1 dX10_dearest_129 rfl (by decide) (by decide) rfl ?_
                          refine P.goto (pc := 132) 5 dX10_dearest_132 (by decide) ?_
                          first
                          | exact ih (i + 1) _ _ _ _ _ (by omega) (nI_1 i) (xdr_keep hd (by grind))
                          | exact ih (i + 1) _ _ _ _ _ (by omega) (nI_1 i) (xdr_take hd (by grind))
                        · refine P.iconst (pc := 110) (v := 1) dX10_dearest_110 (by decide) ?_
                          refine P.goto (pc := 111) 115 dX10_dearest_111 (by decide) ?_
                          refine P.istore (pc := 115) 7 dX10_dearest_115 (by decide) rfl ?_
                          refine P.iload (pc := 117) 7 dX10_dearest_117 rfl ?_
                          refine P.ifeq (pc := 119) 127 dX10_dearest_119 (by decide) (fun q => absurd q (by decide)) (fun c119 => ?_)
                          refine P.iload (pc := 122) 4 dX10_dearest_122 rfl ?_
                          refine P.goto (pc := 124) 128 dX10_dearest_124 (by decide) ?_
                          refine P.istore_n (pc := 128) 3 dX10_dearest_128 rfl (by decide) rfl ?_
                          refine P.iinc (pc := 129) 4 1 dX10_dearest_129 rfl (by decide) (by decide) rfl ?_
                          refine P.goto (pc := 132) 5 dX10_dearest_132 (by decide) ?_
                          first
                          | exact ih (i + 1) _ _ _ _ _ (by omega) (nI_1 i) (xdr_keep hd (by grind))
                          | exact ih (i + 1) _ _ _ _ _ (by omega) (nI_1 i) (xdr_take hd (by grind))
  refine P.iconst (pc := 0) (v := -1) dX10_dearest_0 (by decide) ?_
  refine P.istore_n (pc := 1) 3 dX10_dearest_1 rfl (by decide) rfl ?_
  refine P.iconst (pc := 2) (v := 0) dX10_dearest_2 (by decide) ?_
  refine P.istore (pc := 3) 4 dX10_dearest_3 (by decide) rfl ?_
  exact lp (n 0) 0 _ _ _ _ _ (by omega) rfl rfl
theorem no_back {n : Nat → Nat} {σ : xM} {p q a : Nat} (hp : p < n 1) (hpq : ¬ p = q) (ea : σ 11 q = nI a) (ha : a < 1000) (hno : ¬ xmay n σ p a) (hm : xmay n (xw σ 11 (upd (σ 11) q (-1))) p a) :
    ¬ xmay n (xw σ 11 (upd (upd (σ 11) q (-1)) p (σ 11 q))) q a := by
  rintro ⟨u1, u2⟩
  obtain ⟨v1, v2⟩ := hm
  have c1 : (nI a).toNatClampNeg = a := nI_clamp (by omega)
  have ne : ¬ nI a = -1 := by grind [nT]
  refine hno ⟨by simpa only [xw_ap, Nat.reduceEqDiff, ↓reduceIte] using v1, fun r hr w1 w2 w3 w4 => ?_⟩
  by_cases e : r = q
  · subst e
    refine u2 p hp hpq ⟨?_, ?_⟩ ?_ (Or.inl ?_)
    · simp only [xw_ap, upd_ap, ↓reduceIte]; rw [ea]; exact ne
    · simp only [xrow, xw_ap, upd_ap, Nat.reduceEqDiff, ↓reduceIte]; rw [ea, c1]
    · simp only [xmeet, xw_ap, Nat.reduceEqDiff, ↓reduceIte]; exact ⟨w3.2, w3.1⟩
    · simp only [xw_ap, upd_ap, ↓reduceIte]; exact ea
  · refine v2 r hr w1 ⟨?_, ?_⟩ ?_ ?_
    · simp only [xw_ap, upd_ap, ↓reduceIte, if_neg e]; exact w2.1
    · have := w2.2
      simp only [xrow, xw_ap, upd_ap, Nat.reduceEqDiff, ↓reduceIte, if_neg e] at this ⊢; exact this
    · simp only [xmeet, xw_ap, Nat.reduceEqDiff, ↓reduceIte]; exact w3
    · simp only [xw_ap, upd_ap, Nat.reduceEqDiff, ↓reduceIte, if_neg e]; exact w4
theorem RM.mv {n : Nat → Nat} {σ M : xM} (R : RM n σ M) (v : Int32) : RM n (xw σ 1 (upd (σ 1) 2 v)) (xw M 46 (upd (M 46) 11 v)) := R.scal (a := 46) (i := 11) (o := 1) (j := 2) (by decide) v
theorem sp_X10_lodge {n : Nat → Nat} {σ M : xM} (I : Iv n σ) (R : RM n σ M) (p : Int32) : SpI mX10_lodge [.ref 46, .int p] M (PM (o_lodge n σ p) M) := by
  have H := I.H
  have hc : M 46 3 = nI (n 1) := R.2.2.1 (3, 1) (by decide)
  have b1 : n 1 ≤ 24 := H.2.1
  have b0 : n 0 ≤ 30 := H.1
  have lp : ∀ (p : Nat) (d : Int32) (hp : p < n 1) (hpn : σ 11 p = -1) (hno : ∀ h, h < n 0 → ¬ xmay n σ p h) (ho : o_lodge n σ (nI p) = xlk n σ p (n 1) 0) (k i : Nat) (x : Int32) (o4 o5 : Option Value), i + k = n 1 → x = nI i → xlk n σ p k i = xlk n σ p (n 1) 0 →
      P mX10_lodge 52 [some (.ref 46), some (.int (nI p)), some (.int d), some (.int x), o4, o5] [] M (fun r M' => ∃ v, r = some (.int v) ∧ PM (o_lodge n σ (nI p)) M v M') := by
    intro p d hp hpn hno ho k
    have epM := R.2.2.2.1 p hp
    induction k with
    | zero =>
      intro i x o4 o5 hi hx hr
      subst hx
      refine P.iload_n (pc := 52) 3 dX10_lodge_52 rfl rfl ?_
      refine P.aload_n (pc := 53) 0 dX10_lodge_53 rfl rfl ?_
      refine P.getI (pc := 54) fl_X10_136 dX10_lodge_54 rfl rfl ?_
      refine P.icge (pc := 57) 151 dX10_lodge_57 (by decide) (fun c57 => ?_) (fun c57 => ?_)
      · refine P.iconst (pc := 151) (v := -1) dX10_lodge_151 (by decide) ?_
        refine P.iret (pc := 152) dX10_lodge_152 rfl ?_
        exact pmI (by rw [ho, ← hr, xlk]) R frM.rf
      · exact absurd (show M 46 3 ≤ nI i by grind [nT]) c57--.
    | succ k ih =>
      intro i x o4 o5 hi hx hr
      subst hx
      rw [xlk] at hr
      have e1 := R.2.2.2.1 i (by omega)
      refine P.iload_n (pc := 52) 3 dX10_lodge_52 rfl rfl ?_
      refine P.aload_n (pc := 53) 0 dX10_lodge_53 rfl rfl ?_
      refine P.getI (pc := 54) fl_X10_136 dX10_lodge_54 rfl rfl ?_
      refine P.icge (pc := 57) 151 dX10_lodge_57 (by decide) (fun c57 => ?_) (fun c57 => ?_)
      · exact absurd c57 (by grind [nT])--.
      · refine P.aload_n (pc := 60) 0 dX10_lodge_60 rfl rfl ?_
        refine P.getR (pc := 61) fl_X10_31 dX10_lodge_61 rfl rfl ?_
        refine P.iload_n (pc := 64) 3 dX10_lodge_64 rfl rfl ?_
        refine P.iaN (pc := 65) _ dX10_lodge_65 rfl rfl rfl (by first | omega | grind [nT]) ?_
        refine P.istore (pc := 66) 4 dX10_lodge_66 (by decide) rfl ?_
        refine P.iload (pc := 68) 4 dX10_lodge_68 rfl ?_
        refine P.iconst (pc := 70) (v := -1) dX10_lodge_70 (by decide) ?_
        refine P.iceq (pc := 71) 145 dX10_lodge_71 (by decide) (fun c71 => ?_) (fun c71 => ?_)
        · refine P.iinc (pc := 145) 3 1 dX10_lodge_145 rfl (by decide) (by decide) rfl ?_
          refine P.goto (pc := 148) 52 dX10_lodge_148 (by decide) ?_
          first
          | (have g : ¬ xgive n σ p i := fun u => u.2.2 c111
             rw [if_neg g] at hr
             rw [show xw (xw (xw M 54 (upd (upd (M 54) i (-1)) p (σ 11 i))) 54 (upd (xw M 54 (upd (upd (M 54) i (-1)) p (σ 11 i)) 54) p (-1))) 54 (upd (xw (xw M 54 (upd (upd (M 54) i (-1)) p (σ 11 i))) 54 (upd (xw M 54 (upd (upd (M 54) i (-1)) p (σ 11 i)) 54) p (-1)) 54) i (σ 11 i)) = M by
               simp only [xw_ap, ↓reduceIte, xw_xw]
               exact xw_id (upd_back2 hpi e1 (epM.trans hpn)).symm]
             exact ih (i + 1) _ _ _ (by omega) (nI_1 i) hr)
          | (have g : ¬ xgive n σ p i := fun u => c88 (by rw [← ea2]; exact u.2.1)
             rw [if_neg g] at hr
             rw [show xw (xw M 54 (upd (M 54) i (-1))) 54 (upd (xw M 54 (upd (M 54) i (-1)) 54) i (nI a)) = M by
               simp only [xw_ap, ↓reduceIte, xw_xw]
               exact xw_id (upd_back ea).symm]
             exact ih (i + 1) _ _ _ (by omega) (nI_1 i) hr)
          | (have g : ¬ xgive n σ p i := fun u => u.1 (by rw [← e1]; exact c71)
             rw [if_neg g] at hr
             exact ih (i + 1) _ _ _ (by omega) (nI_1 i) hr)
        · obtain ⟨a, ha, ea, ea2⟩ := hut_atM H R (q := i) (by omega) c71
          have hpi : ¬ p = i := fun e => c71 (by rw [← e, epM]; exact hpn)
          have eas : σ 11 i = nI a := e1.symm.trans ea
          have hqn : ¬ σ 11 i = -1 := by rw [← e1]; exact c71
          have H1 : IvH n (xw σ 11 (upd (σ 11) i (-1))) := H.w (fun j hj => by
            rw [upd_ap]; split
            · exact Or.inl rfl
            · exact H.2.2.2.2.1 j hj)
          have H2 : IvH n (xw σ 11 (upd (upd (σ 11) i (-1)) p (σ 11 i))) := H.w (fun j hj => by
            rw [upd_ap]; split
            · exact Or.inr ⟨a, ha, eas⟩
            · rw [upd_ap]; split
              · exact Or.inl rfl
              · exact H.2.2.2.2.1 j hj)
          have R1 := R.hut (hupd R.2.2.2.1 i (-1))
          have R2 := R.hut (hupd (hupd R.2.2.2.1 i (-1)) p (σ 11 i))
          rw [ea]
          refine P.aload_n (pc := 74) 0 dX10_lodge_74 rfl rfl ?_
          refine P.getR (pc := 75) fl_X10_31 dX10_lodge_75 rfl rfl ?_
          refine P.iload_n (pc := 78) 3 dX10_lodge_78 rfl rfl ?_
          refine P.iconst (pc := 79) (v := -1) dX10_lodge_79 (by decide) ?_
          refine P.isN (pc := 80) _ dX10_lodge_80 rfl rfl rfl (by first | omega | grind [nT]) ?_
          refine P.aload_n (pc := 81) 0 dX10_lodge_81 rfl rfl ?_
          refine P.iload (pc := 82) 4 dX10_lodge_82 rfl ?_
          refine P.iload_n (pc := 84) 1 dX10_lodge_84 rfl rfl ?_
          refine P.V2F (pc := 85) cs_X10_lodge_167 dX10_lodge_85 rfl rfl rfl (sp_X10_mayLodge H1 R1 hp ha) ?_
          refine P.ifeqB (pc := 88) 137 dX10_lodge_88 (by decide) (fun c88 => ?_) (fun c88 => ?_)
          · refine P.aload_n (pc := 137) 0 dX10_lodge_137 rfl rfl ?_
            refine P.getR (pc := 138) fl_X10_31 dX10_lodge_138 rfl rfl ?_
            refine P.iload_n (pc := 141) 3 dX10_lodge_141 rfl rfl ?_
            refine P.iload (pc := 142) 4 dX10_lodge_142 rfl ?_
            refine P.isN (pc := 144) (i) dX10_lodge_144 rfl rfl rfl (by first | omega | grind [nT]) ?_
            refine P.iinc (pc := 145) 3 1 dX10_lodge_145 rfl (by decide) (by decide) rfl ?_
            refine P.goto (pc := 148) 52 dX10_lodge_148 (by decide) ?_
            first
            | (have g : ¬ xgive n σ p i := fun u => u.2.2 c111
               rw [if_neg g] at hr
               rw [show xw (xw (xw M 54 (upd (upd (M 54) i (-1)) p (σ 11 i))) 54 (upd (xw M 54 (upd (upd (M 54) i (-1)) p (σ 11 i)) 54) p (-1))) 54 (upd (xw (xw M 54 (upd (upd (M 54) i (-1)) p (σ 11 i))) 54 (upd (xw M 54 (upd (upd (M 54) i (-1)) p (σ 11 i)) 54) p (-1)) 54) i (σ 11 i)) = M by
                 simp only [xw_ap, ↓reduceIte, xw_xw]
                 exact xw_id (upd_back2 hpi e1 (epM.trans hpn)).symm]
               exact ih (i + 1) _ _ _ (by omega) (nI_1 i) hr)
            | (have g : ¬ xgive n σ p i := fun u => c88 (by rw [← ea2]; exact u.2.1)
               rw [if_neg g] at hr
               rw [show xw (xw M 54 (upd (M 54) i (-1))) 54 (upd (xw M 54 (upd (M 54) i (-1)) 54) i (nI a)) = M by
                 simp only [xw_ap, ↓reduceIte, xw_xw]
                 exact xw_id (upd_back ea).symm]
               exact ih (i + 1) _ _ _ (by omega) (nI_1 i) hr)
            | (have g : ¬ xgive n σ p i := fun u => u.1 (by rw [← e1]; exact c71)
               rw [if_neg g] at hr
               exact ih (i + 1) _ _ _ (by omega) (nI_1 i) hr)
          · refine P.aload_n (pc := 91) 0 dX10_lodge_91 rfl rfl ?_
            refine P.getR (pc := 92) fl_X10_31 dX10_lodge_92 rfl rfl ?_
            refine P.iload_n (pc := 95) 1 dX10_lodge_95 rfl rfl ?_
            refine P.iload (pc := 96) 4 dX10_lodge_96 rfl ?_
            refine P.isN (pc := 98) (p) dX10_lodge_98 rfl rfl rfl (by first | omega | grind [nT]) ?_
            simp only [xw_ap, ↓reduceIte, xw_xw]
            rw [← eas]
            have xe : xdr n (xw σ 11 (upd (upd (σ 11) i (-1)) p (σ 11 i))) i (fun h => ¬ nI h = σ 11 i ∧ xmay n (xw σ 11 (upd (upd (σ 11) i (-1)) p (σ 11 i))) i h) (n 0) = xels n σ p i := by
              rw [xels]
              refine xdr_c _ (fun h hh => ⟨fun u => u.2, fun u => ⟨fun e => ?_, u⟩⟩)
              have : h = a := by rw [eas] at e; grind [nT]
              rw [this] at u
              exact no_back hp hpi eas (by omega) (hno a ha) c88 u
            refine P.aload_n (pc := 99) 0 dX10_lodge_99 rfl rfl ?_
            refine P.iload_n (pc := 100) 3 dX10_lodge_100 rfl rfl ?_
            refine P.iload (pc := 101) 4 dX10_lodge_101 rfl ?_
            refine P.V2F (pc := 103) cs_X10_lodge_170 dX10_lodge_103 rfl rfl rfl (sp_X10_dearest H2 R2 (p := i) (by omega) _) ?_
            rw [xe]
            refine P.istore (pc := 106) 5 dX10_lodge_106 (by decide) rfl ?_
            refine P.iload (pc := 108) 5 dX10_lodge_108 rfl ?_
            refine P.iconst (pc := 110) (v := -1) dX10_lodge_110 (by decide) ?_
            refine P.iceq (pc := 111) 130 dX10_lodge_111 (by decide) (fun c111 => ?_) (fun c111 => ?_)
            · refine P.aload_n (pc := 130) 0 dX10_lodge_130 rfl rfl ?_
              refine P.getR (pc := 131) fl_X10_31 dX10_lodge_131 rfl rfl ?_
              refine P.iload_n (pc := 134) 1 dX10_lodge_134 rfl rfl ?_
              refine P.iconst (pc := 135) (v := -1) dX10_lodge_135 (by decide) ?_
              refine P.isN (pc := 136) (p) dX10_lodge_136 rfl rfl rfl (by first | omega | grind [nT]) ?_
              refine P.aload_n (pc := 137) 0 dX10_lodge_137 rfl rfl ?_
              refine P.getR (pc := 138) fl_X10_31 dX10_lodge_138 rfl rfl ?_
              refine P.iload_n (pc := 141) 3 dX10_lodge_141 rfl rfl ?_
              refine P.iload (pc := 142) 4 dX10_lodge_142 rfl ?_
              refine P.isN (pc := 144) (i) dX10_lodge_144 rfl rfl rfl (by first | omega | grind [nT]) ?_
              refine P.iinc (pc := 145) 3 1 dX10_lodge_145 rfl (by decide) (by decide) rfl ?_
              refine P.goto (pc := 148) 52 dX10_lodge_148 (by decide) ?_
              first
              | (have g : ¬ xgive n σ p i := fun u => u.2.2 c111
                 rw [if_neg g] at hr
                 rw [show xw (xw (xw M 54 (upd (upd (M 54) i (-1)) p (σ 11 i))) 54 (upd (xw M 54 (upd (upd (M 54) i (-1)) p (σ 11 i)) 54) p (-1))) 54 (upd (xw (xw M 54 (upd (upd (M 54) i (-1)) p (σ 11 i))) 54 (upd (xw M 54 (upd (upd (M 54) i (-1)) p (σ 11 i)) 54) p (-1)) 54) i (σ 11 i)) = M by
                   simp only [xw_ap, ↓reduceIte, xw_xw]
                   exact xw_id (upd_back2 hpi e1 (epM.trans hpn)).symm]
                 exact ih (i + 1) _ _ _ (by omega) (nI_1 i) hr)
              | (have g : ¬ xgive n σ p i := fun u => c88 (by rw [← ea2]; exact u.2.1)
                 rw [if_neg g] at hr
                 rw [show xw (xw M 54 (upd (M 54) i (-1))) 54 (upd (xw M 54 (upd (M 54) i (-1)) 54) i (nI a)) = M by
                   simp only [xw_ap, ↓reduceIte, xw_xw]
                   exact xw_id (upd_back ea).symm]
                 exact ih (i + 1) _ _ _ (by omega) (nI_1 i) hr)
              | (have g : ¬ xgive n σ p i := fun u => u.1 (by rw [← e1]; exact c71)
                 rw [if_neg g] at hr
                 exact ih (i + 1) _ _ _ (by omega) (nI_1 i) hr)
            · refine P.aload_n (pc := 114) 0 dX10_lodge_114 rfl rfl ?_
              refine P.getR (pc := 115) fl_X10_31 dX10_lodge_115 rfl rfl ?_
              refine P.iload_n (pc := 118) 3 dX10_lodge_118 rfl rfl ?_
              refine P.iload (pc := 119) 5 dX10_lodge_119 rfl ?_
              refine P.isN (pc := 121) (i) dX10_lodge_121 rfl rfl rfl (by first | omega | grind [nT]) ?_
              simp only [xw_ap, ↓reduceIte, xw_xw]
              refine P.aload_n (pc := 122) 0 dX10_lodge_122 rfl rfl ?_
              refine P.iload_n (pc := 123) 3 dX10_lodge_123 rfl rfl ?_
              refine P.put (pc := 124) fp_X10_37 dX10_lodge_124 rfl rfl ?_
              refine P.iload (pc := 127) 4 dX10_lodge_127 rfl ?_
              refine P.iret (pc := 129) dX10_lodge_129 rfl ?_
              have g : xgive n σ p i := ⟨hqn, by rw [ea2]; exact c88, c111⟩
              rw [if_pos g] at hr
              refine pmI (by rw [ho, ← hr]; rfl) ((R.hut (hupd (hupd (hupd R.2.2.2.1 i (-1)) p (σ 11 i)) i (xels n σ p i))).mv _) ((frM.rf.w (by decide) _).w (by decide) _)
  refine P.aload_n (pc := 0) 0 dX10_lodge_0 rfl rfl ?_
  refine P.iload_n (pc := 1) 1 dX10_lodge_1 rfl rfl ?_
  refine P.V1F (pc := 2) cs_X10_lodge_151 dX10_lodge_2 rfl rfl rfl (sp_X10_isParty hc b1 _) ?_
  refine P.ifneB (pc := 5) 11 dX10_lodge_5 (by decide) (fun c5 => ?_) (fun c5 => ?_)
  · have c5' := c5
    obtain ⟨a, ha, rfl⟩ := c5
    have ck := nI_clamp (n := a) (by omega)
    have ea := R.2.2.2.1 a ha
    refine P.aload_n (pc := 11) 0 dX10_lodge_11 rfl rfl ?_
    refine P.getR (pc := 12) fl_X10_31 dX10_lodge_12 rfl rfl ?_
    refine P.iload_n (pc := 15) 1 dX10_lodge_15 rfl rfl ?_
    refine P.iaN (pc := 16) _ dX10_lodge_16 rfl rfl rfl (by first | omega | grind [nT]) ?_
    refine P.iconst (pc := 17) (v := -1) dX10_lodge_17 (by decide) ?_
    refine P.iceq (pc := 18) 24 dX10_lodge_18 (by decide) (fun c18 => ?_) (fun c18 => ?_)
    · refine P.aload_n (pc := 24) 0 dX10_lodge_24 rfl rfl ?_
      refine P.iload_n (pc := 25) 1 dX10_lodge_25 rfl rfl ?_
      refine P.iconst (pc := 26) (v := -1) dX10_lodge_26 (by decide) ?_
      refine P.V2F (pc := 27) cs_X10_lodge_170 dX10_lodge_27 rfl rfl rfl (sp_X10_dearest H R ha _) ?_
      rw [show xdr n σ a (fun h => ¬ nI h = -1 ∧ xmay n σ a h) (n 0) = xdr n σ a (xmay n σ a) (n 0) from xdr_c _ (fun h hh => ⟨fun u => u.2, fun u => ⟨by grind [nT], u⟩⟩)]
      refine P.istore_n (pc := 30) 2 dX10_lodge_30 rfl (by decide) rfl ?_
      refine P.iload_n (pc := 31) 2 dX10_lodge_31 rfl rfl ?_
      refine P.iconst (pc := 32) (v := -1) dX10_lodge_32 (by decide) ?_
      refine P.iceq (pc := 33) 50 dX10_lodge_33 (by decide) (fun c33 => ?_) (fun c33 => ?_)
      · refine P.iconst (pc := 50) (v := 0) dX10_lodge_50 (by decide) ?_
        refine P.istore_n (pc := 51) 3 dX10_lodge_51 rfl (by decide) rfl ?_
        exact lp a _ ha (by rw [← ea]; exact c18) (xdr_no (n 0) (by omega) c33) (by rw [o_lodge, if_neg (fun q => q c5'), ck, if_neg (fun q => q (by rw [← ea]; exact c18)), if_neg (fun q => q c33)]) (n 1) 0 _ _ _ (by omega) rfl rfl
      · refine P.aload_n (pc := 36) 0 dX10_lodge_36 rfl rfl ?_
        refine P.getR (pc := 37) fl_X10_31 dX10_lodge_37 rfl rfl ?_
        refine P.iload_n (pc := 40) 1 dX10_lodge_40 rfl rfl ?_
        refine P.iload_n (pc := 41) 2 dX10_lodge_41 rfl rfl ?_
        refine P.isN (pc := 42) _ dX10_lodge_42 rfl rfl rfl (by first | omega | grind [nT]) ?_
        refine P.aload_n (pc := 43) 0 dX10_lodge_43 rfl rfl ?_
        refine P.iconst (pc := 44) (v := -1) dX10_lodge_44 (by decide) ?_
        refine P.put (pc := 45) fp_X10_37 dX10_lodge_45 rfl rfl ?_
        refine P.iload_n (pc := 48) 2 dX10_lodge_48 rfl rfl ?_
        refine P.iret (pc := 49) dX10_lodge_49 rfl ?_
        exact pmI (by rw [o_lodge, if_neg (fun q => q c5'), ck, if_neg (fun q => q (by rw [← ea]; exact c18)), if_pos c33]; rfl) ((R.hut (hupd R.2.2.2.1 a _)).mv _) ((frM.rf.w (by decide) _).w (by decide) _)
    · refine P.bipush (pc := 21) (v := -3) dX10_lodge_21 (by decide) ?_
      refine P.iret (pc := 23) dX10_lodge_23 rfl ?_
      exact pmI (by rw [o_lodge, if_neg (fun q => q c5'), ck, if_pos (by rw [← ea]; exact c18)]) R frM.rf
  · refine P.bipush (pc := 8) (v := -2) dX10_lodge_8 (by decide) ?_
    refine P.iret (pc := 10) dX10_lodge_10 rfl ?_
    exact pmI (by rw [o_lodge, if_pos c5]) R frM.rf
theorem sp_X10_who {n : Nat → Nat} {σ M : xM} (I : Iv n σ) (R : RM n σ M) (h w : Int32) : SpF mX10_who [.ref 46, .int h, .int w] M (xwho σ h w (n 1) 0) := by
  have hc : M 46 3 = nI (n 1) := R.2.2.1 (3, 1) (by decide)
  have b1 : n 1 ≤ 24 := I.1.2.1
  have lp : ∀ (k i : Nat) (x : Int32), i + k = n 1 → x = nI i → xwho σ h w k i = xwho σ h w (n 1) 0 → P mX10_who 2 [some (.ref 46), some (.int h), some (.int w), some (.int x)] [] M (fun r M' => r = some (.int (xwho σ h w (n 1) 0)) ∧ M' = M) := by
    intro k
    induction k with
    | zero =>
      intro i x hi hx hr
      subst hx
      refine P.iload_n (pc := 2) 3 dX10_who_2 rfl rfl ?_
      refine P.aload_n (pc := 3) 0 dX10_who_3 rfl rfl ?_
      refine P.getI (pc := 4) fl_X10_136 dX10_who_4 rfl rfl ?_
      refine P.icge (pc := 7) 37 dX10_who_7 (by decide) (fun c7 => ?_) (fun c7 => ?_)
      · refine P.iconst (pc := 37) (v := -1) dX10_who_37 (by decide) ?_
        refine P.iret (pc := 38) dX10_who_38 rfl ?_
        exact ⟨siv (by rw [← hr, xwho]), rfl⟩
      · exact absurd (show M 46 3 ≤ nI i by grind [nT]) c7--.
    | succ k ih =>
      intro i x hi hx hr
      subst hx
      rw [xwho] at hr
      have e1 := R.2.2.2.1 i (by omega)
      refine P.iload_n (pc := 2) 3 dX10_who_2 rfl rfl ?_
      refine P.aload_n (pc := 3) 0 dX10_who_3 rfl rfl ?_
      refine P.getI (pc := 4) fl_X10_136 dX10_who_4 rfl rfl ?_
      refine P.icge (pc := 7) 37 dX10_who_7 (by decide) (fun c7 => ?_) (fun c7 => ?_)
      · exact absurd c7 (by grind [nT])--.
      · refine P.aload_n (pc := 10) 0 dX10_who_10 rfl rfl ?_
        refine P.getR (pc := 11) fl_X10_31 dX10_who_11 rfl rfl ?_
        refine P.iload_n (pc := 14) 3 dX10_who_14 rfl rfl ?_
        refine P.iaN (pc := 15) _ dX10_who_15 rfl rfl rfl (by first | omega | grind [nT]) ?_
        rw [e1]
        refine P.iload_n (pc := 16) 1 dX10_who_16 rfl rfl ?_
        refine P.icne (pc := 17) 31 dX10_who_17 (by decide) (fun c17 => ?_) (fun c17 => ?_)
        · refine P.iinc (pc := 31) 3 1 dX10_who_31 rfl (by decide) (by decide) rfl ?_
          refine P.goto (pc := 34) 2 dX10_who_34 (by decide) ?_
          first
          | (rw [if_neg (fun u => c26 u.2)] at hr
             exact ih (i + 1) _ (by omega) (nI_1 i) hr)
          | (rw [if_neg (fun u => c17 u.1)] at hr
             exact ih (i + 1) _ (by omega) (nI_1 i) hr)
        · refine P.aload_n (pc := 20) 0 dX10_who_20 rfl rfl ?_
          refine P.iload_n (pc := 21) 3 dX10_who_21 rfl rfl ?_
          refine P.iload_n (pc := 22) 2 dX10_who_22 rfl rfl ?_
          refine P.V2F (pc := 23) cs_X10_who_174 dX10_who_23 rfl rfl rfl (sp_X10_isThere I R (p := i) (by omega) _) ?_
          refine P.ifeqB (pc := 26) 31 dX10_who_26 (by decide) (fun c26 => ?_) (fun c26 => ?_)
          · refine P.iinc (pc := 31) 3 1 dX10_who_31 rfl (by decide) (by decide) rfl ?_
            refine P.goto (pc := 34) 2 dX10_who_34 (by decide) ?_
            first
            | (rw [if_neg (fun u => c26 u.2)] at hr
               exact ih (i + 1) _ (by omega) (nI_1 i) hr)
            | (rw [if_neg (fun u => c17 u.1)] at hr
               exact ih (i + 1) _ (by omega) (nI_1 i) hr)
          · refine P.iload_n (pc := 29) 3 dX10_who_29 rfl rfl ?_
            refine P.iret (pc := 30) dX10_who_30 rfl ?_
            exact ⟨siv (by rw [← hr, if_pos ⟨c17, c26⟩]), rfl⟩
  refine P.iconst (pc := 0) (v := 0) dX10_who_0 (by decide) ?_
  refine P.istore_n (pc := 1) 3 dX10_who_1 rfl (by decide) rfl ?_
  exact lp (n 1) 0 _ (by omega) rfl rfl
theorem sp_X10_isHut {M : xM} {m : Nat} (hn : M 46 0 = nI m) (h30 : m ≤ 30) (v : Int32) : SpF mX10_isHut [.ref 46, .int v] M (bI (xin m v)) := by
  refine P.iload_n (pc := 0) 1 dX10_isHut_0 rfl rfl ?_
  refine P.i2l (pc := 1) dX10_isHut_1 ?_
  refine P.lconst (pc := 2) (v := 0) dX10_isHut_2 (by decide) ?_
  refine P.aload_n (pc := 3) 0 dX10_isHut_3 rfl rfl ?_
  refine P.getI (pc := 4) fl_X10_129 dX10_isHut_4 rfl rfl ?_
  refine P.iconst (pc := 7) (v := 1) dX10_isHut_7 (by decide) ?_
  refine P.isub (pc := 8) dX10_isHut_8 ?_
  refine P.i2l (pc := 9) dX10_isHut_9 ?_
  refine P.S3F (pc := 10) cs_X10_isHut_132 dX10_isHut_10 rfl rfl (sp_X10_withinZ _ _ _) ?_
  refine P.zretB (pc := 13) dX10_isHut_13 rfl ?_
  exact ⟨by rw [hn, bI_c (xin_iff (by omega) v)], rfl⟩
theorem sp_X10_in {n : Nat → Nat} {σ M : xM} (I : Iv n σ) (R : RM n σ M) (h w : Int32) : SpI mX10_in [.ref 46, .int h, .int w] M (PM (o_in n σ h w) M) := by
  have hc : M 46 0 = nI (n 0) := R.2.2.1 (0, 0) (by decide)
  have b0 : n 0 ≤ 30 := I.1.1
  refine P.aload_n (pc := 0) 0 dX10_in_0 rfl rfl ?_
  refine P.iload_n (pc := 1) 1 dX10_in_1 rfl rfl ?_
  refine P.V1F (pc := 2) cs_X10_in_177 dX10_in_2 rfl rfl rfl (sp_X10_isHut hc b0 _) ?_
  refine P.ifeqB (pc := 5) 24 dX10_in_5 (by decide) (fun c5 => ?_) (fun c5 => ?_)
  · refine P.bipush (pc := 24) (v := -2) dX10_in_24 (by decide) ?_
    refine P.iret (pc := 26) dX10_in_26 rfl ?_
    exact pmI (by rw [o_in]; split <;> grind) R frM.rf
  · refine P.iload_n (pc := 8) 2 dX10_in_8 rfl rfl ?_
    refine P.S1F (pc := 9) cs_X10_in_145 dX10_in_9 rfl rfl (sp_X10_isWeek _ _) ?_
    refine P.ifeqB (pc := 12) 24 dX10_in_12 (by decide) (fun c12 => ?_) (fun c12 => ?_)
    · refine P.bipush (pc := 24) (v := -2) dX10_in_24 (by decide) ?_
      refine P.iret (pc := 26) dX10_in_26 rfl ?_
      exact pmI (by rw [o_in]; split <;> grind) R frM.rf
    · refine P.aload_n (pc := 15) 0 dX10_in_15 rfl rfl ?_
      refine P.iload_n (pc := 16) 1 dX10_in_16 rfl rfl ?_
      refine P.iload_n (pc := 17) 2 dX10_in_17 rfl rfl ?_
      refine P.V2F (pc := 18) cs_X10_in_180 dX10_in_18 rfl rfl rfl (sp_X10_who I R _ _) ?_
      refine P.goto (pc := 21) 26 dX10_in_21 (by decide) ?_
      refine P.iret (pc := 26) dX10_in_26 rfl ?_
      exact pmI (by rw [o_in]; split <;> grind) R frM.rf
theorem sp_X10_empty {n : Nat → Nat} {σ M : xM} (I : Iv n σ) (R : RM n σ M) (w : Int32) : SpI mX10_empty [.ref 46, .int w] M (PM (o_empty n σ w) M) := by
  have hc : M 46 0 = nI (n 0) := R.2.2.1 (0, 0) (by decide)
  have b0 : n 0 ≤ 30 := I.1.1
  have a1 := R.1 (48, 4) (by decide)
  dsimp only at a1
  have lp : ∀ (hw : 0 ≤ w ∧ w ≤ 9) (k i : Nat) (x a : Int32), i + k = n 0 → x = nI i → a = xemp n σ w i → P mX10_empty 14 [some (.ref 46), some (.int w), some (.int a), some (.int x)] [] M (fun r M' => ∃ v, r = some (.int v) ∧ PM (o_empty n σ w) M v M') := by
    intro hw k
    induction k with
    | zero =>
      intro i x a hi hx ha
      subst hx ha
      refine P.iload_n (pc := 14) 3 dX10_empty_14 rfl rfl ?_
      refine P.aload_n (pc := 15) 0 dX10_empty_15 rfl rfl ?_
      refine P.getI (pc := 16) fl_X10_129 dX10_empty_16 rfl rfl ?_
      refine P.icge (pc := 19) 51 dX10_empty_19 (by decide) (fun c19 => ?_) (fun c19 => ?_)
      · refine P.iload_n (pc := 51) 2 dX10_empty_51 rfl rfl ?_
        refine P.iret (pc := 52) dX10_empty_52 rfl ?_
        exact pmI (by rw [o_empty, if_neg (fun q => q hw), show i = n 0 from hi]) R frM.rf
      · exact absurd (show M 46 0 ≤ nI i by grind [nT]) c19--.
    | succ k ih =>
      intro i x a hi hx ha
      subst hx ha
      refine P.iload_n (pc := 14) 3 dX10_empty_14 rfl rfl ?_
      refine P.aload_n (pc := 15) 0 dX10_empty_15 rfl rfl ?_
      refine P.getI (pc := 16) fl_X10_129 dX10_empty_16 rfl rfl ?_
      refine P.icge (pc := 19) 51 dX10_empty_19 (by decide) (fun c19 => ?_) (fun c19 => ?_)
      · exact absurd c19 (by grind [nT])--.
      · refine P.iload_n (pc := 22) 2 dX10_empty_22 rfl rfl ?_
        refine P.aload_n (pc := 23) 0 dX10_empty_23 rfl rfl ?_
        refine P.iload_n (pc := 24) 3 dX10_empty_24 rfl rfl ?_
        refine P.iload_n (pc := 25) 1 dX10_empty_25 rfl rfl ?_
        refine P.V2F (pc := 26) cs_X10_empty_180 dX10_empty_26 rfl rfl rfl (sp_X10_who I R _ _) ?_
        refine P.iconst (pc := 29) (v := -1) dX10_empty_29 (by decide) ?_
        refine P.icne (pc := 30) 42 dX10_empty_30 (by decide) (fun c30 => ?_) (fun c30 => ?_)
        · refine P.iconst (pc := 42) (v := 0) dX10_empty_42 (by decide) ?_
          refine P.iadd (pc := 43) dX10_empty_43 ?_
          refine P.istore_n (pc := 44) 2 dX10_empty_44 rfl (by decide) rfl ?_
          refine P.iinc (pc := 45) 3 1 dX10_empty_45 rfl (by decide) (by decide) rfl ?_
          refine P.goto (pc := 48) 14 dX10_empty_48 (by decide) ?_
          exact ih (i + 1) _ _ (by omega) (nI_1 i) (by rw [xemp]; first | rw [if_pos c30, a1] | rw [if_neg c30]; exact Int32.add_zero _)
        · refine P.aload_n (pc := 33) 0 dX10_empty_33 rfl rfl ?_
          refine P.getR (pc := 34) fl_X10_13 dX10_empty_34 rfl rfl ?_
          refine P.iload_n (pc := 37) 3 dX10_empty_37 rfl rfl ?_
          refine P.iaN (pc := 38) _ dX10_empty_38 rfl rfl rfl (by first | omega | grind [nT]) ?_
          refine P.goto (pc := 39) 43 dX10_empty_39 (by decide) ?_
          refine P.iadd (pc := 43) dX10_empty_43 ?_
          refine P.istore_n (pc := 44) 2 dX10_empty_44 rfl (by decide) rfl ?_
          refine P.iinc (pc := 45) 3 1 dX10_empty_45 rfl (by decide) (by decide) rfl ?_
          refine P.goto (pc := 48) 14 dX10_empty_48 (by decide) ?_
          exact ih (i + 1) _ _ (by omega) (nI_1 i) (by rw [xemp]; first | rw [if_pos c30, a1] | rw [if_neg c30]; exact Int32.add_zero _)
  refine P.iload_n (pc := 0) 1 dX10_empty_0 rfl rfl ?_
  refine P.S1F (pc := 1) cs_X10_empty_145 dX10_empty_1 rfl rfl (sp_X10_isWeek _ _) ?_
  refine P.ifneB (pc := 4) 10 dX10_empty_4 (by decide) (fun c4 => ?_) (fun c4 => ?_)
  · refine P.iconst (pc := 10) (v := 0) dX10_empty_10 (by decide) ?_
    refine P.istore_n (pc := 11) 2 dX10_empty_11 rfl (by decide) rfl ?_
    refine P.iconst (pc := 12) (v := 0) dX10_empty_12 (by decide) ?_
    refine P.istore_n (pc := 13) 3 dX10_empty_13 rfl (by decide) rfl ?_
    exact lp c4 (n 0) 0 _ _ (by omega) rfl rfl
  · refine P.bipush (pc := 7) (v := -2) dX10_empty_7 (by decide) ?_
    refine P.iret (pc := 9) dX10_empty_9 rfl ?_
    exact pmI (by rw [o_empty, if_pos c4]) R frM.rf
