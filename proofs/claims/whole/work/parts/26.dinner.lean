/-! the sittings: the class: dinners -/
theorem AA.fr {n : Nat → Nat} {σ M M1 : xM} {w : Int32} (R : RX n σ M) (h : AA n σ w M M1) : RX n σ M1 ∧ frX M M1 := ⟨R.fS h.1.1, h.1.1.X⟩
theorem xB_un {n : Nat → Nat} {σ : xM} {w : Int32} {p : Nat} (hp : p < n 1) (h : xthere σ w p) : xun σ w p < xB' n σ w := xun_lt hp h
noncomputable def xsitV (n : Nat → Nat) (σ : xM) (w : Int32) (p : Nat) : Int32 := @ite _ (¬ xthere σ w p ∨ xdiff n σ w = -1) (Classical.propDecidable _) (-1) (xsit n σ w (xun σ w p))
theorem sp_X8_sittingOf {n : Nat → Nat} {σ M M1 : xM} {w : Int32} (I : Iv n σ) (h : AA n σ w M M1) {p : Nat} (hp : p < n 1) : SpF mX8_sittingOf [.ref 13, .int (nI p)] M1 (xsitV n σ w p) := by
  have b2 : n 1 ≤ 24 := I.1.2.1
  have B := xB_le I w
  obtain ⟨⟨h1, h2, h3, h4, h5, h6⟩, h7, h8⟩ := h
  obtain ⟨j1, j2⟩ := h4 p hp
  by_cases th : xthere σ w p
  · have lt := xB_un hp th
    have e := j1 th
    have e8 := h8 _ lt
    clear I
    refine P.aload_n (pc := 0) 0 dX8_sittingOf_0 rfl rfl ?_
    refine P.getI (pc := 1) fl_X8_20 dX8_sittingOf_1 rfl rfl ?_
    rw [h7]
    refine P.iconst (pc := 4) (v := -1) dX8_sittingOf_4 (by decide) ?_
    refine P.iceq (pc := 5) 18 dX8_sittingOf_5 (by decide) (fun c5 => ?_) (fun c5 => ?_)
    · skip
      refine P.iconst (pc := 18) (v := -1) dX8_sittingOf_18 (by decide) ?_
      refine P.goto (pc := 19) 33 dX8_sittingOf_19 (by decide) ?_
      refine P.iret (pc := 33) dX8_sittingOf_33 rfl ?_
      first | exact ⟨by rw [xsitV, if_pos (Or.inr c5)], rfl⟩ | exact ⟨by rw [xsitV, if_neg (fun z => z.elim (fun q => q th) c5), e8], rfl⟩
    · refine P.aload_n (pc := 8) 0 dX8_sittingOf_8 rfl rfl ?_
      refine P.getR (pc := 9) fl_X8_29 dX8_sittingOf_9 rfl rfl ?_
      refine P.iload_n (pc := 12) 1 dX8_sittingOf_12 rfl rfl ?_
      refine P.iaN (pc := 13) _ dX8_sittingOf_13 rfl rfl rfl (by first | omega | grind [nT]) ?_
      rw [e]
      refine P.iconst (pc := 14) (v := -1) dX8_sittingOf_14 (by decide) ?_
      refine P.icne (pc := 15) 22 dX8_sittingOf_15 (by decide) (fun c15 => ?_) (fun c15 => ?_)
      · refine P.aload_n (pc := 22) 0 dX8_sittingOf_22 rfl rfl ?_
        refine P.getR (pc := 23) fl_X8_39 dX8_sittingOf_23 rfl rfl ?_
        refine P.aload_n (pc := 26) 0 dX8_sittingOf_26 rfl rfl ?_
        refine P.getR (pc := 27) fl_X8_29 dX8_sittingOf_27 rfl rfl ?_
        refine P.iload_n (pc := 30) 1 dX8_sittingOf_30 rfl rfl ?_
        refine P.iaN (pc := 31) (p) dX8_sittingOf_31 rfl rfl rfl (by first | omega | grind [nT]) ?_
        rw [e]
        refine P.iaN (pc := 32) (xun σ w p) dX8_sittingOf_32 rfl rfl rfl (by first | omega | grind [nT]) ?_
        refine P.iret (pc := 33) dX8_sittingOf_33 rfl ?_
        first | exact ⟨by rw [xsitV, if_pos (Or.inr c5)], rfl⟩ | exact ⟨by rw [xsitV, if_neg (fun z => z.elim (fun q => q th) c5), e8], rfl⟩
      · exact absurd c15 (nI_ne (by omega))--.
  · have e := j2 th
    clear I
    refine P.aload_n (pc := 0) 0 dX8_sittingOf_0 rfl rfl ?_
    refine P.getI (pc := 1) fl_X8_20 dX8_sittingOf_1 rfl rfl ?_
    refine P.iconst (pc := 4) (v := -1) dX8_sittingOf_4 (by decide) ?_
    refine P.iceq (pc := 5) 18 dX8_sittingOf_5 (by decide) (fun c5 => ?_) (fun c5 => ?_)
    · refine P.iconst (pc := 18) (v := -1) dX8_sittingOf_18 (by decide) ?_
      refine P.goto (pc := 19) 33 dX8_sittingOf_19 (by decide) ?_
      refine P.iret (pc := 33) dX8_sittingOf_33 rfl ?_
      exact ⟨by rw [xsitV, if_pos (Or.inl th)], rfl⟩
    · refine P.aload_n (pc := 8) 0 dX8_sittingOf_8 rfl rfl ?_
      refine P.getR (pc := 9) fl_X8_29 dX8_sittingOf_9 rfl rfl ?_
      refine P.iload_n (pc := 12) 1 dX8_sittingOf_12 rfl rfl ?_
      refine P.iaN (pc := 13) _ dX8_sittingOf_13 rfl rfl rfl (by first | omega | grind [nT]) ?_
      rw [e]
      refine P.iconst (pc := 14) (v := -1) dX8_sittingOf_14 (by decide) ?_
      refine P.icne (pc := 15) 22 dX8_sittingOf_15 (by decide) (fun c15 => ?_) (fun c15 => ?_)
      · exact absurd rfl c15--.
      · refine P.iconst (pc := 18) (v := -1) dX8_sittingOf_18 (by decide) ?_
        refine P.goto (pc := 19) 33 dX8_sittingOf_19 (by decide) ?_
        refine P.iret (pc := 33) dX8_sittingOf_33 rfl ?_
        exact ⟨by rw [xsitV, if_pos (Or.inl th)], rfl⟩
