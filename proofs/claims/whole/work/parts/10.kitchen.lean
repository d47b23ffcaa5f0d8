/-! kitchen, seats, moved: both sides, but foretelling -/
theorem xw_xw (M : xM) (k : Nat) (f g : Nat → Int32) : xw (xw M k f) k g = xw M k g := by
  funext q; rw [xw_ap, xw_ap, xw_ap]; split <;> rfl
def o_more (n : Nat → Nat) (σ : xM) (q : Int32) : xO := if ¬ (0 ≤ q ∧ q ≤ 50) then (-2, n, σ) else (σ 19 0, n, xw σ 19 (upd (σ 19) 0 q))
def o_seats (n : Nat → Nat) (σ : xM) (a b : Int32) : xO := if ¬ (0 ≤ a ∧ a ≤ 200 ∧ 0 ≤ b ∧ b ≤ 200) then (-2, n, σ) else (1, n, xw (xw σ 13 (upd (σ 13) 0 a)) 13 (upd (upd (σ 13) 0 a) 1 b))
def o_line (n : Nat → Nat) (σ : xM) (i w : Int32) : xO := if 0 ≤ i ∧ i ≤ nI (n 4) - 1 ∧ 0 ≤ w ∧ w ≤ 4 then (σ 20 (i.toNatClampNeg * 5 + w.toNatClampNeg), n, σ) else (-2, n, σ)
def o_moved (n : Nat → Nat) (σ : xM) : xO := (σ 1 2, n, σ)
theorem sp_X2_setPart {n : Nat → Nat} {σ M : xM} (I : Iv n σ) (R : RX n σ M) (q : Int32) : SpI mX2_setPart [.ref 19, .int q] M (PX (o_more n σ q) M) := by
  have e := R.2.1 (19, 0) (by decide)
  dsimp only at e
  refine P.iload_n (pc := 0) 1 dX2_setPart_0 rfl rfl ?_
  refine P.iconst (pc := 1) (v := 0) dX2_setPart_1 (by decide) ?_
  refine P.bipush (pc := 2) (v := 50) dX2_setPart_2 (by decide) ?_
  refine P.N3F (pc := 4) cs_X2_setPart_22 dX2_setPart_4 rfl rfl (sp_X9_within _ _ _ _) ?_
  refine P.ifneB (pc := 7) 13 dX2_setPart_7 (by decide) (fun c7 => ?_) (fun c7 => ?_)
  · refine P.aload_n (pc := 13) 0 dX2_setPart_13 rfl rfl ?_
    refine P.getI (pc := 14) fl_X2_9 dX2_setPart_14 rfl rfl ?_
    refine P.istore_n (pc := 17) 2 dX2_setPart_17 rfl (by decide) rfl ?_
    refine P.aload_n (pc := 18) 0 dX2_setPart_18 rfl rfl ?_
    refine P.iload_n (pc := 19) 1 dX2_setPart_19 rfl rfl ?_
    refine P.put (pc := 20) fp_X2_9 dX2_setPart_20 rfl rfl ?_
    refine P.iload_n (pc := 23) 2 dX2_setPart_23 rfl rfl ?_
    refine P.iret (pc := 24) dX2_setPart_24 rfl ?_
    exact pxI (by grind [o_more]) (R.scal (by decide) (by decide) _) (frX.rf.w (by decide) _)
  · refine P.bipush (pc := 10) (v := -2) dX2_setPart_10 (by decide) ?_
    refine P.iret (pc := 12) dX2_setPart_12 rfl ?_
    exact pxI (by grind [o_more]) R frX.rf
theorem sp_X9_more {n : Nat → Nat} {σ M : xM} (I : Iv n σ) (R : RX n σ M) (q : Int32) : SpI mX9_more [.ref 0, .int q] M (PX (o_more n σ q) M) := by
  refine P.aload_n (pc := 0) 0 dX9_more_0 rfl rfl ?_
  refine P.getR (pc := 1) fl_X9_26 dX9_more_1 rfl rfl ?_
  refine P.iload_n (pc := 4) 1 dX9_more_4 rfl rfl ?_
  refine P.V1I (pc := 5) cs_X9_more_121 dX9_more_5 rfl rfl rfl (sp_X2_setPart I R _) (fun v5 M5 h5 => ?_)
  refine P.iret (pc := 8) dX9_more_8 rfl ?_
  exact ⟨_, rfl, h5⟩
theorem sp_X10_more {n : Nat → Nat} {σ M : xM} (I : Iv n σ) (R : RM n σ M) (q : Int32) : SpI mX10_more [.ref 46, .int q] M (PM (o_more n σ q) M) := by
  have e := R.2.1 (46, 18, 19, 0) (by decide)
  dsimp only at e
  refine P.iload_n (pc := 0) 1 dX10_more_0 rfl rfl ?_
  refine P.i2l (pc := 1) dX10_more_1 ?_
  refine P.lconst (pc := 2) (v := 0) dX10_more_2 (by decide) ?_
  refine P.ldc2 (pc := 3) kc_X10_196 dX10_more_3 ?_
  refine P.S3F (pc := 6) cs_X10_more_132 dX10_more_6 rfl rfl (sp_X10_within _ _ _ _) ?_
  refine P.ifneB (pc := 9) 15 dX10_more_9 (by decide) (fun c9 => ?_) (fun c9 => ?_)
  · refine P.aload_n (pc := 15) 0 dX10_more_15 rfl rfl ?_
    refine P.getI (pc := 16) fl_X10_57 dX10_more_16 rfl rfl ?_
    refine P.istore_n (pc := 19) 2 dX10_more_19 rfl (by decide) rfl ?_
    refine P.aload_n (pc := 20) 0 dX10_more_20 rfl rfl ?_
    refine P.iload_n (pc := 21) 1 dX10_more_21 rfl rfl ?_
    refine P.put (pc := 22) fp_X10_57 dX10_more_22 rfl rfl ?_
    refine P.iload_n (pc := 25) 2 dX10_more_25 rfl rfl ?_
    refine P.iret (pc := 26) dX10_more_26 rfl ?_
    exact pmI (by grind [o_more, nW]) (R.scal (a := 46) (i := 18) (o := 19) (j := 0) (by decide) _) (frM.rf.w (by decide) _)
  · refine P.bipush (pc := 12) (v := -2) dX10_more_12 (by decide) ?_
    refine P.iret (pc := 14) dX10_more_14 rfl ?_
    exact pmI (by grind [o_more, nW]) R frM.rf
theorem sp_X8_setSeats {n : Nat → Nat} {σ M : xM} (I : Iv n σ) (R : RX n σ M) (a b : Int32) : SpI mX8_setSeats [.ref 13, .int a, .int b] M (PX (o_seats n σ a b) M) := by
  refine P.iload_n (pc := 0) 1 dX8_setSeats_0 rfl rfl ?_
  refine P.iconst (pc := 1) (v := 0) dX8_setSeats_1 (by decide) ?_
  refine P.sipush (pc := 2) (v := 200) dX8_setSeats_2 (by decide) ?_
  refine P.N3F (pc := 5) cs_X8_setSeats_45 dX8_setSeats_5 rfl rfl (sp_X9_within _ _ _ _) ?_
  refine P.ifeqB (pc := 8) 22 dX8_setSeats_8 (by decide) (fun c8 => ?_) (fun c8 => ?_)
  · refine P.bipush (pc := 22) (v := -2) dX8_setSeats_22 (by decide) ?_
    refine P.iret (pc := 24) dX8_setSeats_24 rfl ?_
    exact pxI (by grind [o_seats]) R frX.rf
  · refine P.iload_n (pc := 11) 2 dX8_setSeats_11 rfl rfl ?_
    refine P.iconst (pc := 12) (v := 0) dX8_setSeats_12 (by decide) ?_
    refine P.sipush (pc := 13) (v := 200) dX8_setSeats_13 (by decide) ?_
    refine P.N3F (pc := 16) cs_X8_setSeats_45 dX8_setSeats_16 rfl rfl (sp_X9_within _ _ _ _) ?_
    refine P.ifneB (pc := 19) 25 dX8_setSeats_19 (by decide) (fun c19 => ?_) (fun c19 => ?_)
    · refine P.aload_n (pc := 25) 0 dX8_setSeats_25 rfl rfl ?_
      refine P.iload_n (pc := 26) 1 dX8_setSeats_26 rfl rfl ?_
      refine P.put (pc := 27) fp_X8_13 dX8_setSeats_27 rfl rfl ?_
      refine P.aload_n (pc := 30) 0 dX8_setSeats_30 rfl rfl ?_
      refine P.iload_n (pc := 31) 2 dX8_setSeats_31 rfl rfl ?_
      refine P.put (pc := 32) fp_X8_17 dX8_setSeats_32 rfl rfl ?_
      refine P.iconst (pc := 35) (v := 1) dX8_setSeats_35 (by decide) ?_
      refine P.iret (pc := 36) dX8_setSeats_36 rfl ?_
      exact pxI (by rw [o_seats, if_neg (by grind)]; rfl) ((R.scal (by decide) (by decide) _).scal (by decide) (by decide) _) ((frX.rf.w (by decide) _).w (by decide) _)
    · refine P.bipush (pc := 22) (v := -2) dX8_setSeats_22 (by decide) ?_
      refine P.iret (pc := 24) dX8_setSeats_24 rfl ?_
      exact pxI (by grind [o_seats]) R frX.rf
theorem sp_X9_seats {n : Nat → Nat} {σ M : xM} (I : Iv n σ) (R : RX n σ M) (a b : Int32) : SpI mX9_seats [.ref 0, .int a, .int b] M (PX (o_seats n σ a b) M) := by
  refine P.aload_n (pc := 0) 0 dX9_seats_0 rfl rfl ?_
  refine P.getR (pc := 1) fl_X9_19 dX9_seats_1 rfl rfl ?_
  refine P.iload_n (pc := 4) 1 dX9_seats_4 rfl rfl ?_
  refine P.iload_n (pc := 5) 2 dX9_seats_5 rfl rfl ?_
  refine P.V2I (pc := 6) cs_X9_seats_101 dX9_seats_6 rfl rfl rfl (sp_X8_setSeats I R _ _) (fun v6 M6 h6 => ?_)
  refine P.iret (pc := 9) dX9_seats_9 rfl ?_
  exact ⟨_, rfl, h6⟩
theorem sp_X10_seats {n : Nat → Nat} {σ M : xM} (I : Iv n σ) (R : RM n σ M) (a b : Int32) : SpI mX10_seats [.ref 46, .int a, .int b] M (PM (o_seats n σ a b) M) := by
  refine P.iload_n (pc := 0) 1 dX10_seats_0 rfl rfl ?_
  refine P.i2l (pc := 1) dX10_seats_1 ?_
  refine P.lconst (pc := 2) (v := 0) dX10_seats_2 (by decide) ?_
  refine P.ldc2 (pc := 3) kc_X10_183 dX10_seats_3 ?_
  refine P.S3F (pc := 6) cs_X10_seats_132 dX10_seats_6 rfl rfl (sp_X10_within _ _ _ _) ?_
  refine P.ifeqB (pc := 9) 24 dX10_seats_9 (by decide) (fun c9 => ?_) (fun c9 => ?_)
  · refine P.bipush (pc := 24) (v := -2) dX10_seats_24 (by decide) ?_
    refine P.iret (pc := 26) dX10_seats_26 rfl ?_
    exact pmI (by grind [o_seats, nW]) R frM.rf
  · refine P.iload_n (pc := 12) 2 dX10_seats_12 rfl rfl ?_
    refine P.i2l (pc := 13) dX10_seats_13 ?_
    refine P.lconst (pc := 14) (v := 0) dX10_seats_14 (by decide) ?_
    refine P.ldc2 (pc := 15) kc_X10_183 dX10_seats_15 ?_
    refine P.S3F (pc := 18) cs_X10_seats_132 dX10_seats_18 rfl rfl (sp_X10_within _ _ _ _) ?_
    refine P.ifneB (pc := 21) 27 dX10_seats_21 (by decide) (fun c21 => ?_) (fun c21 => ?_)
    · refine P.aload_n (pc := 27) 0 dX10_seats_27 rfl rfl ?_
      refine P.getR (pc := 28) fl_X10_41 dX10_seats_28 rfl rfl ?_
      refine P.iconst (pc := 31) (v := 0) dX10_seats_31 (by decide) ?_
      refine P.iload_n (pc := 32) 1 dX10_seats_32 rfl rfl ?_
      refine P.isN (pc := 33) (0) dX10_seats_33 rfl rfl rfl (by first | omega | grind [nT]) ?_
      refine P.aload_n (pc := 34) 0 dX10_seats_34 rfl rfl ?_
      refine P.getR (pc := 35) fl_X10_41 dX10_seats_35 rfl rfl ?_
      refine P.iconst (pc := 38) (v := 1) dX10_seats_38 (by decide) ?_
      refine P.iload_n (pc := 39) 2 dX10_seats_39 rfl rfl ?_
      refine P.isN (pc := 40) (1) dX10_seats_40 rfl rfl rfl (by first | omega | grind [nT]) ?_
      refine P.iconst (pc := 41) (v := 1) dX10_seats_41 (by decide) ?_
      refine P.iret (pc := 42) dX10_seats_42 rfl ?_
      exact pmI (by rw [o_seats, if_neg (by grind [nT, nW])]; rfl) ((R.scal (a := 56) (i := 0) (o := 13) (j := 0) (by decide) _).scal (a := 56) (i := 1) (o := 13) (j := 1) (by decide) _) ((frM.rf.w (by decide) _).w (by decide) _)
    · refine P.bipush (pc := 24) (v := -2) dX10_seats_24 (by decide) ?_
      refine P.iret (pc := 26) dX10_seats_26 rfl ?_
      exact pmI (by grind [o_seats, nW]) R frM.rf
theorem sp_X2_entry {n : Nat → Nat} {σ M : xM} (I : Iv n σ) (R : RX n σ M) (i w : Int32) : SpI mX2_entry [.ref 19, .int i, .int w] M (PX (o_line n σ i w) M) := by
  have hc : M 19 1 = nI (n 4) := R.2.2 (19, 1, 4) (by decide)
  have a1 := R.1 20 (by decide)
  have hm : n 4 ≤ 40 := I.2.1.1
  refine P.iload_n (pc := 0) 1 dX2_entry_0 rfl rfl ?_
  refine P.iconst (pc := 1) (v := 0) dX2_entry_1 (by decide) ?_
  refine P.aload_n (pc := 2) 0 dX2_entry_2 rfl rfl ?_
  refine P.getI (pc := 3) fl_X2_15 dX2_entry_3 rfl rfl ?_
  refine P.iconst (pc := 6) (v := 1) dX2_entry_6 (by decide) ?_
  refine P.isub (pc := 7) dX2_entry_7 ?_
  refine P.N3F (pc := 8) cs_X2_entry_22 dX2_entry_8 rfl rfl (sp_X9_within _ _ _ _) ?_
  refine P.ifeqB (pc := 11) 23 dX2_entry_11 (by decide) (fun c11 => ?_) (fun c11 => ?_)
  · refine P.bipush (pc := 23) (v := -2) dX2_entry_23 (by decide) ?_
    refine P.iret (pc := 25) dX2_entry_25 rfl ?_
    exact pxI (by grind [o_line]) R frX.rf
  · refine P.iload_n (pc := 14) 2 dX2_entry_14 rfl rfl ?_
    refine P.iconst (pc := 15) (v := 0) dX2_entry_15 (by decide) ?_
    refine P.iconst (pc := 16) (v := 4) dX2_entry_16 (by decide) ?_
    refine P.N3F (pc := 17) cs_X2_entry_22 dX2_entry_17 rfl rfl (sp_X9_within _ _ _ _) ?_
    refine P.ifneB (pc := 20) 26 dX2_entry_20 (by decide) (fun c20 => ?_) (fun c20 => ?_)
    · obtain ⟨a, ha, rfl⟩ := (xin_iff (n := n 4) (by omega) i).mpr (by grind)
      obtain ⟨b, -, hb, rfl⟩ := xin_nat 4 (lo := 0) c20.1 c20.2 (by decide) (by decide)
      refine P.aload_n (pc := 26) 0 dX2_entry_26 rfl rfl ?_
      refine P.getR (pc := 27) fl_X2_18 dX2_entry_27 rfl rfl ?_
      refine P.iload_n (pc := 30) 1 dX2_entry_30 rfl rfl ?_
      refine P.iconst (pc := 31) (v := 5) dX2_entry_31 (by decide) ?_
      refine P.imul (pc := 32) dX2_entry_32 ?_
      refine P.iload_n (pc := 33) 2 dX2_entry_33 rfl rfl ?_
      refine P.iadd (pc := 34) dX2_entry_34 ?_
      refine P.iaN (pc := 35) (a * 5 + b) dX2_entry_35 rfl rfl (by simp only [nlit, nI_add, pk_mul]) (by first | omega | grind [nT]) ?_
      refine P.iret (pc := 36) dX2_entry_36 rfl ?_
      exact pxI (by rw [o_line, if_pos (by grind), nI_clamp (by omega), nI_clamp (by omega), a1]) R frX.rf
    · refine P.bipush (pc := 23) (v := -2) dX2_entry_23 (by decide) ?_
      refine P.iret (pc := 25) dX2_entry_25 rfl ?_
      exact pxI (by grind [o_line]) R frX.rf
theorem sp_X9_line {n : Nat → Nat} {σ M : xM} (I : Iv n σ) (R : RX n σ M) (i w : Int32) : SpI mX9_line [.ref 0, .int i, .int w] M (PX (o_line n σ i w) M) := by
  refine P.aload_n (pc := 0) 0 dX9_line_0 rfl rfl ?_
  refine P.getR (pc := 1) fl_X9_26 dX9_line_1 rfl rfl ?_
  refine P.iload_n (pc := 4) 1 dX9_line_4 rfl rfl ?_
  refine P.iload_n (pc := 5) 2 dX9_line_5 rfl rfl ?_
  refine P.V2I (pc := 6) cs_X9_line_139 dX9_line_6 rfl rfl rfl (sp_X2_entry I R _ _) (fun v6 M6 h6 => ?_)
  refine P.iret (pc := 9) dX9_line_9 rfl ?_
  exact ⟨_, rfl, h6⟩
theorem sp_X10_line {n : Nat → Nat} {σ M : xM} (I : Iv n σ) (R : RM n σ M) (i w : Int32) : SpI mX10_line [.ref 46, .int i, .int w] M (PM (o_line n σ i w) M) := by
  have hc : M 46 19 = nI (n 4) := R.2.2.1 (19, 4) (by decide)
  have a1 := R.1 (61, 20) (by decide)
  have hm : n 4 ≤ 40 := I.2.1.1
  dsimp only at a1
  refine P.iload_n (pc := 0) 1 dX10_line_0 rfl rfl ?_
  refine P.i2l (pc := 1) dX10_line_1 ?_
  refine P.lconst (pc := 2) (v := 0) dX10_line_2 (by decide) ?_
  refine P.aload_n (pc := 3) 0 dX10_line_3 rfl rfl ?_
  refine P.getI (pc := 4) fl_X10_203 dX10_line_4 rfl rfl ?_
  refine P.iconst (pc := 7) (v := 1) dX10_line_7 (by decide) ?_
  refine P.isub (pc := 8) dX10_line_8 ?_
  refine P.i2l (pc := 9) dX10_line_9 ?_
  refine P.S3F (pc := 10) cs_X10_line_132 dX10_line_10 rfl rfl (sp_X10_withinZ _ _ _) ?_
  refine P.ifeqB (pc := 13) 41 dX10_line_13 (by decide) (fun c13 => ?_) (fun c13 => ?_)
  · refine P.bipush (pc := 41) (v := -2) dX10_line_41 (by decide) ?_
    refine P.iret (pc := 43) dX10_line_43 rfl ?_
    first | exact pmI (by rw [o_line, if_pos (by grind [nT, nW]), nI_clamp (by omega), nI_clamp (by omega), a1]) R frM.rf | exact pmI (by grind [o_line, nT, nW]) R frM.rf
  · refine P.iload_n (pc := 16) 2 dX10_line_16 rfl rfl ?_
    refine P.i2l (pc := 17) dX10_line_17 ?_
    refine P.lconst (pc := 18) (v := 0) dX10_line_18 (by decide) ?_
    refine P.ldc2 (pc := 19) kc_X10_206 dX10_line_19 ?_
    refine P.S3F (pc := 22) cs_X10_line_132 dX10_line_22 rfl rfl (sp_X10_within _ _ _ _) ?_
    refine P.ifeqB (pc := 25) 41 dX10_line_25 (by decide) (fun c25 => ?_) (fun c25 => ?_)
    · refine P.bipush (pc := 41) (v := -2) dX10_line_41 (by decide) ?_
      refine P.iret (pc := 43) dX10_line_43 rfl ?_
      first | exact pmI (by rw [o_line, if_pos (by grind [nT, nW]), nI_clamp (by omega), nI_clamp (by omega), a1]) R frM.rf | exact pmI (by grind [o_line, nT, nW]) R frM.rf
    · obtain ⟨a, ha, rfl⟩ := (xin_iff (n := n 4) (by omega) i).mpr (by grind [nT, nW])
      obtain ⟨b, -, hb, rfl⟩ := xin_nat 4 (lo := 0) (v := w) (by grind [nT, nW]) (by grind [nT, nW]) (by decide) (by decide)
      refine P.aload_n (pc := 28) 0 dX10_line_28 rfl rfl ?_
      refine P.getR (pc := 29) fl_X10_60 dX10_line_29 rfl rfl ?_
      refine P.iconst (pc := 32) (v := 5) dX10_line_32 (by decide) ?_
      refine P.iload_n (pc := 33) 1 dX10_line_33 rfl rfl ?_
      refine P.imul (pc := 34) dX10_line_34 ?_
      refine P.iload_n (pc := 35) 2 dX10_line_35 rfl rfl ?_
      refine P.iadd (pc := 36) dX10_line_36 ?_
      refine P.iaN (pc := 37) (a * 5 + b) dX10_line_37 rfl rfl (by rw [nlit, pk_mul, nI_add, Nat.mul_comm]) (by first | omega | grind [nT]) ?_
      refine P.goto (pc := 38) 43 dX10_line_38 (by decide) ?_
      refine P.iret (pc := 43) dX10_line_43 rfl ?_
      first | exact pmI (by rw [o_line, if_pos (by grind [nT, nW]), nI_clamp (by omega), nI_clamp (by omega), a1]) R frM.rf | exact pmI (by grind [o_line, nT, nW]) R frM.rf
theorem sp_X9_moved {n : Nat → Nat} {σ M : xM} (I : Iv n σ) (R : RX n σ M) : SpI mX9_moved [.ref 0] M (PX (o_moved n σ) M) := by
  have e := R.2.1 (1, 2) (by decide)
  dsimp only at e
  refine P.aload_n (pc := 0) 0 dX9_moved_0 rfl rfl ?_
  refine P.getR (pc := 1) fl_X9_10 dX9_moved_1 rfl rfl ?_
  refine P.getI (pc := 4) fl_X9_85 dX9_moved_4 rfl rfl ?_
  refine P.iret (pc := 7) dX9_moved_7 rfl ?_
  exact pxI (by rw [o_moved, e]) R frX.rf
theorem sp_X10_moved {n : Nat → Nat} {σ M : xM} (I : Iv n σ) (R : RM n σ M) : SpI mX10_moved [.ref 46] M (PM (o_moved n σ) M) := by
  have e := R.2.1 (46, 11, 1, 2) (by decide)
  dsimp only at e
  refine P.aload_n (pc := 0) 0 dX10_moved_0 rfl rfl ?_
  refine P.getI (pc := 1) fl_X10_37 dX10_moved_1 rfl rfl ?_
  refine P.iret (pc := 4) dX10_moved_4 rfl ?_
  exact pmI (by rw [o_moved, e]) R frM.rf
/-- a line of the book more -/
def bk5 (f : Nat → Int32) (k : Nat) (a b c d e : Int32) : Nat → Int32 := upd (upd (upd (upd (upd f k a) (k + 1) b) (k + 2) c) (k + 3) d) (k + 4) e
def o_serve (n : Nat → Nat) (σ : xM) (w s f come : Int32) : xO :=
  if n 4 = 40 then (-4, n, σ) else
  (if come ≤ f + f * σ 19 0 / 100 then f + f * σ 19 0 / 100 - come else -1000 - (come - (f + f * σ 19 0 / 100)), nup n 4 (n 4 + 1), xw σ 20 (bk5 (σ 20) (n 4 * 5) w s f (f + f * σ 19 0 / 100) come))
theorem cook_eq {f q : Nat} (hf : f ≤ 1000) (hq : q ≤ 50) : nI f * (100 + nI q) / 100 = nI f + nI f * nI q / 100 := by
  have e1 : (100 : Int32) = nI 100 := rfl
  rw [e1, nI_add, pk_mul, pk_mul]
  have h1 : f * q ≤ 1000 * 50 := Nat.mul_le_mul hf hq
  have h2 : f * (100 + q) ≤ 1000 * 150 := Nat.mul_le_mul hf (by omega)
  rw [pk_div (by omega) (by decide) (by decide), pk_div (by omega) (by decide) (by decide), nI_add]
  congr 1
  rw [Nat.mul_add]
  omega
theorem sp_X2_serve {n : Nat → Nat} {σ M : xM} (I : Iv n σ) (R : RX n σ M) (w s come : Int32) {f : Nat} (hf : f ≤ 1000) : SpI mX2_serve [.ref 19, .int w, .int s, .int (nI f), .int come] M (PX (o_serve n σ w s (nI f) come) M) := by
  have hc : M 19 1 = nI (n 4) := R.2.2 (19, 1, 4) (by decide)
  have a1 := R.1 20 (by decide)
  have e := R.2.1 (19, 0) (by decide)
  dsimp only at e
  have hm : n 4 ≤ 40 := I.2.1.1
  obtain ⟨q, -, hq, eq⟩ := xin_nat 50 (lo := 0) I.2.1.2.2.2.2.2.1 I.2.1.2.2.2.2.2.2 (by decide) (by decide)
  have ck : nI f * (100 + M 19 0) / 100 = nI f + nI f * σ 19 0 / 100 := by rw [e, eq]; exact cook_eq hf hq
  refine P.aload_n (pc := 0) 0 dX2_serve_0 rfl rfl ?_
  refine P.getI (pc := 1) fl_X2_15 dX2_serve_1 rfl rfl ?_
  refine P.bipush (pc := 4) (v := 40) dX2_serve_4 (by decide) ?_
  refine P.iclt (pc := 6) 12 dX2_serve_6 (by decide) (fun c6 => ?_) (fun c6 => ?_)
  · refine P.iload_n (pc := 12) 3 dX2_serve_12 rfl rfl ?_
    refine P.bipush (pc := 13) (v := 100) dX2_serve_13 (by decide) ?_
    refine P.aload_n (pc := 15) 0 dX2_serve_15 rfl rfl ?_
    refine P.getI (pc := 16) fl_X2_9 dX2_serve_16 rfl rfl ?_
    refine P.iadd (pc := 19) dX2_serve_19 ?_
    refine P.imul (pc := 20) dX2_serve_20 ?_
    refine P.bipush (pc := 21) (v := 100) dX2_serve_21 (by decide) ?_
    refine P.idiv (pc := 23) dX2_serve_23 (by decide) ?_
    rw [ck]
    refine P.istore (pc := 24) 5 dX2_serve_24 (by decide) rfl ?_
    refine P.aload_n (pc := 26) 0 dX2_serve_26 rfl rfl ?_
    refine P.getI (pc := 27) fl_X2_15 dX2_serve_27 rfl rfl ?_
    rw [hc]
    refine P.iconst (pc := 30) (v := 5) dX2_serve_30 (by decide) ?_
    refine P.imul (pc := 31) dX2_serve_31 ?_
    rw [show nI (n 4) * 5 = nI (n 4 * 5) by simp only [nlit, pk_mul]]
    refine P.istore (pc := 32) 6 dX2_serve_32 (by decide) rfl ?_
    refine P.aload_n (pc := 34) 0 dX2_serve_34 rfl rfl ?_
    refine P.getR (pc := 35) fl_X2_18 dX2_serve_35 rfl rfl ?_
    refine P.iload (pc := 38) 6 dX2_serve_38 rfl ?_
    refine P.iload_n (pc := 40) 1 dX2_serve_40 rfl rfl ?_
    refine P.isN (pc := 41) (n 4 * 5) dX2_serve_41 rfl rfl rfl (by first | omega | grind [nT]) ?_
    refine P.aload_n (pc := 42) 0 dX2_serve_42 rfl rfl ?_
    refine P.getR (pc := 43) fl_X2_18 dX2_serve_43 rfl rfl ?_
    refine P.iload (pc := 46) 6 dX2_serve_46 rfl ?_
    refine P.iconst (pc := 48) (v := 1) dX2_serve_48 (by decide) ?_
    refine P.iadd (pc := 49) dX2_serve_49 ?_
    refine P.iload_n (pc := 50) 2 dX2_serve_50 rfl rfl ?_
    refine P.isN (pc := 51) (n 4 * 5 + 1) dX2_serve_51 rfl rfl (by simp only [nlit, nI_add, pk_mul]) (by first | omega | grind [nT]) ?_
    refine P.aload_n (pc := 52) 0 dX2_serve_52 rfl rfl ?_
    refine P.getR (pc := 53) fl_X2_18 dX2_serve_53 rfl rfl ?_
    refine P.iload (pc := 56) 6 dX2_serve_56 rfl ?_
    refine P.iconst (pc := 58) (v := 2) dX2_serve_58 (by decide) ?_
    refine P.iadd (pc := 59) dX2_serve_59 ?_
    refine P.iload_n (pc := 60) 3 dX2_serve_60 rfl rfl ?_
    refine P.isN (pc := 61) (n 4 * 5 + 2) dX2_serve_61 rfl rfl (by simp only [nlit, nI_add, pk_mul]) (by first | omega | grind [nT]) ?_
    refine P.aload_n (pc := 62) 0 dX2_serve_62 rfl rfl ?_
    refine P.getR (pc := 63) fl_X2_18 dX2_serve_63 rfl rfl ?_
    refine P.iload (pc := 66) 6 dX2_serve_66 rfl ?_
    refine P.iconst (pc := 68) (v := 3) dX2_serve_68 (by decide) ?_
    refine P.iadd (pc := 69) dX2_serve_69 ?_
    refine P.iload (pc := 70) 5 dX2_serve_70 rfl ?_
    refine P.isN (pc := 72) (n 4 * 5 + 3) dX2_serve_72 rfl rfl (by simp only [nlit, nI_add, pk_mul]) (by first | omega | grind [nT]) ?_
    refine P.aload_n (pc := 73) 0 dX2_serve_73 rfl rfl ?_
    refine P.getR (pc := 74) fl_X2_18 dX2_serve_74 rfl rfl ?_
    refine P.iload (pc := 77) 6 dX2_serve_77 rfl ?_
    refine P.iconst (pc := 79) (v := 4) dX2_serve_79 (by decide) ?_
    refine P.iadd (pc := 80) dX2_serve_80 ?_
    refine P.iload (pc := 81) 4 dX2_serve_81 rfl ?_
    refine P.isN (pc := 83) (n 4 * 5 + 4) dX2_serve_83 rfl rfl (by simp only [nlit, nI_add, pk_mul]) (by first | omega | grind [nT]) ?_
    simp only [xw_xw, xw_ap, ↓reduceIte]
    refine P.aload_n (pc := 84) 0 dX2_serve_84 rfl rfl ?_
    refine P.dup (pc := 85) dX2_serve_85 rfl ?_
    refine P.getI (pc := 86) fl_X2_15 dX2_serve_86 rfl rfl ?_
    simp only [xw_ap, Nat.reduceEqDiff, ↓reduceIte, hc]
    refine P.iconst (pc := 89) (v := 1) dX2_serve_89 (by decide) ?_
    refine P.iadd (pc := 90) dX2_serve_90 ?_
    rw [nI_1]
    refine P.put (pc := 91) fp_X2_15 dX2_serve_91 rfl rfl ?_
    refine P.iload (pc := 94) 5 dX2_serve_94 rfl ?_
    refine P.iload (pc := 96) 4 dX2_serve_96 rfl ?_
    refine P.iclt (pc := 98) 109 dX2_serve_98 (by decide) (fun c98 => ?_) (fun c98 => ?_)
    · refine P.sipush (pc := 109) (v := -1000) dX2_serve_109 (by decide) ?_
      refine P.iload (pc := 112) 4 dX2_serve_112 rfl ?_
      refine P.iload (pc := 114) 5 dX2_serve_114 rfl ?_
      refine P.isub (pc := 116) dX2_serve_116 ?_
      refine P.isub (pc := 117) dX2_serve_117 ?_
      refine P.iret (pc := 118) dX2_serve_118 rfl ?_
      rw [a1]
      first | exact pxI (by rw [o_serve, if_neg (by grind [nT]), if_pos (by grind)]; rfl) ((R.arr (by decide) _).cnt (by decide) _) ((frX.rf.w (by decide) _).w (by decide) _) | exact pxI (by rw [o_serve, if_neg (by grind [nT]), if_neg (by grind)]; rfl) ((R.arr (by decide) _).cnt (by decide) _) ((frX.rf.w (by decide) _).w (by decide) _)
    · refine P.iload (pc := 101) 5 dX2_serve_101 rfl ?_
      refine P.iload (pc := 103) 4 dX2_serve_103 rfl ?_
      refine P.isub (pc := 105) dX2_serve_105 ?_
      refine P.goto (pc := 106) 118 dX2_serve_106 (by decide) ?_
      refine P.iret (pc := 118) dX2_serve_118 rfl ?_
      rw [a1]
      first | exact pxI (by rw [o_serve, if_neg (by grind [nT]), if_pos (by grind)]; rfl) ((R.arr (by decide) _).cnt (by decide) _) ((frX.rf.w (by decide) _).w (by decide) _) | exact pxI (by rw [o_serve, if_neg (by grind [nT]), if_neg (by grind)]; rfl) ((R.arr (by decide) _).cnt (by decide) _) ((frX.rf.w (by decide) _).w (by decide) _)
  · refine P.bipush (pc := 9) (v := -4) dX2_serve_9 (by decide) ?_
    refine P.iret (pc := 11) dX2_serve_11 rfl ?_
    exact pxI (by grind [o_serve, nT]) R frX.rf
