def rainP (σ : xM) (k : Nat) : Prop := ¬ σ 43 0 = -1 ∧ nI k < σ 44 0 ∧ 0 < σ 45 k
def wetP (σ : xM) (h : Nat) : Prop := ∃ k, h - h % 8 ≤ k ∧ k ≤ h ∧ rainP σ k
noncomputable def xwb (σ : xM) (h : Int32) : Int32 := bI (wetP σ h.toNatClampNeg)
def xpl (σ : xM) (b : Int32) (s : Nat) : Int32 := if ¬ σ 25 s = -1 then σ 25 s else if b = 0 then 6 else σ 26 s
def xthere (σ : xM) (w : Int32) (p : Nat) : Prop := ¬ σ 11 p = -1 ∧ σ 8 p ≤ w ∧ w ≤ σ 9 p
def xsnd (σ : xM) (b hour sz : Int32) (p : Nat) : Nat → Nat → (Nat → Int32) → Int32 → Int32 × Int32 × (Nat → Int32)
  | 0, _, left, aw => (-1, aw, left)
  | m + 1, k, left, aw =>
    if σ 22 (σ 29 (6 * p + k)).toNatClampNeg = hour ∧ ¬ xpl σ b (σ 29 (6 * p + k)).toNatClampNeg = -1 then
      (if sz ≤ left (xpl σ b (σ 29 (6 * p + k)).toNatClampNeg).toNatClampNeg then (σ 29 (6 * p + k), aw, upd left (xpl σ b (σ 29 (6 * p + k)).toNatClampNeg).toNatClampNeg (left (xpl σ b (σ 29 (6 * p + k)).toNatClampNeg).toNatClampNeg - sz)) else xsnd σ b hour sz p m (k + 1) left (aw + 1))
    else xsnd σ b hour sz p m (k + 1) left aw
noncomputable def xres (σ : xM) (b week hour : Int32) (p : Nat) (left : Nat → Int32) : Int32 × Int32 × (Nat → Int32) :=
  @ite _ (xthere σ week p) (Classical.propDecidable _) (xsnd σ b hour (σ 6 p) p (σ 30 p).toNatClampNeg 0 left 0) (-1, 0, left)
noncomputable def xlf (σ : xM) (b week hour : Int32) : Nat → Nat → Int32
  | 0 => σ 27
  | p + 1 => (xres σ b week hour p (xlf σ b week hour p)).2.2
noncomputable def xgo (σ : xM) (b week hour : Int32) (p : Nat) : Int32 := (xres σ b week hour p (xlf σ b week hour p)).1
noncomputable def xaw (σ : xM) (b week hour : Int32) (p : Nat) : Int32 := (xres σ b week hour p (xlf σ b week hour p)).2.1
theorem xres_t {σ : xM} {b week hour : Int32} {p : Nat} {left : Nat → Int32} (h : xthere σ week p) : xres σ b week hour p left = xsnd σ b hour (σ 6 p) p (σ 30 p).toNatClampNeg 0 left 0 := if_pos h
theorem xres_f {σ : xM} {b week hour : Int32} {p : Nat} {left : Nat → Int32} (h : ¬ xthere σ week p) : xres σ b week hour p left = (-1, 0, left) := if_neg h
theorem RX.same {n : Nat → Nat} {σ M M' : xM} (h : RX n σ M) (f : ∀ c ∈ xArr ++ xObj, M' c = M c) : RX n σ M' := by
  have b : ∀ q ∈ xScal, q.1 ∈ xObj := by decide
  have d : ∀ q ∈ xCnt, q.1 ∈ xObj := by decide
  exact ⟨fun q hq => by rw [f q (List.mem_append_left _ hq)]; exact h.1 q hq, fun q hq => by rw [f q.1 (List.mem_append_right _ (b q hq))]; exact h.2.1 q hq, fun q hq => by rw [f q.1 (List.mem_append_right _ (d q hq))]; exact h.2.2 q hq⟩
/-- all but these three cells stay -/
def k3 (a b c : Nat) (M M' : xM) : Prop := ∀ q, q ≠ a → q ≠ b → q ≠ c → M' q = M q
theorem k3.rf {a b c : Nat} {M : xM} : k3 a b c M M := fun _ _ _ _ => rfl
theorem k3.tr {a b c : Nat} {M M1 M2 : xM} (h : k3 a b c M M1) (h2 : k3 a b c M1 M2) : k3 a b c M M2 := fun q x y z => (h2 q x y z).trans (h q x y z)
theorem k3.w {a b c : Nat} {M M1 : xM} (h : k3 a b c M M1) {k : Nat} (hk : k = a ∨ k = b ∨ k = c) (f : Nat → Int32) : k3 a b c M (xw M1 k f) := fun q x y z => by
  rw [xw_ap, if_neg (by omega)]; exact h q x y z
theorem RX.k3 {n : Nat → Nat} {σ M M' : xM} (h : RX n σ M) (f : k3 28 23 24 M M') : RX n σ M' := h.same (fun q hq => f q (by rintro rfl; revert hq; decide) (by rintro rfl; revert hq; decide) (by rintro rfl; revert hq; decide))
theorem k3.frX {M M' : xM} (f : k3 28 23 24 M M') : frX M M' := fun q hq => f q (by omega) (by omega) (by omega)
theorem sp_X6_isWet (M : xM) {k : Nat} (hk : k < 40) : SpF mX6_isWet [.ref 42, .int (nI k)] M (bI (rainP M k)) := by
  refine P.aload_n (pc := 0) 0 dX6_isWet_0 rfl rfl ?_
  refine P.getR (pc := 1) fl_X6_15 dX6_isWet_1 rfl rfl ?_
  refine P.iconst (pc := 4) (v := 0) dX6_isWet_4 (by decide) ?_
  refine P.iaN (pc := 5) (0) dX6_isWet_5 rfl rfl rfl (by first | omega | grind [nT]) ?_
  refine P.iconst (pc := 6) (v := -1) dX6_isWet_6 (by decide) ?_
  refine P.iceq (pc := 7) 35 dX6_isWet_7 (by decide) (fun c7 => ?_) (fun c7 => ?_)
  · refine P.iconst (pc := 35) (v := 0) dX6_isWet_35 (by decide) ?_
    refine P.zret (pc := 36) dX6_isWet_36 rfl (by decide) ?_
    first | exact xt ⟨by assumption, by grind, by grind⟩ | exact xf (by unfold rainP; grind)
  · refine P.iload_n (pc := 10) 1 dX6_isWet_10 rfl rfl ?_
    refine P.aload_n (pc := 11) 0 dX6_isWet_11 rfl rfl ?_
    refine P.getR (pc := 12) fl_X6_19 dX6_isWet_12 rfl rfl ?_
    refine P.iconst (pc := 15) (v := 0) dX6_isWet_15 (by decide) ?_
    refine P.iaN (pc := 16) (0) dX6_isWet_16 rfl rfl rfl (by first | omega | grind [nT]) ?_
    refine P.icge (pc := 17) 35 dX6_isWet_17 (by decide) (fun c17 => ?_) (fun c17 => ?_)
    · refine P.iconst (pc := 35) (v := 0) dX6_isWet_35 (by decide) ?_
      refine P.zret (pc := 36) dX6_isWet_36 rfl (by decide) ?_
      first | exact xt ⟨by assumption, by grind, by grind⟩ | exact xf (by unfold rainP; grind)
    · refine P.aload_n (pc := 20) 0 dX6_isWet_20 rfl rfl ?_
      refine P.getR (pc := 21) fl_X6_22 dX6_isWet_21 rfl rfl ?_
      refine P.iconst (pc := 24) (v := 0) dX6_isWet_24 (by decide) ?_
      refine P.iload_n (pc := 25) 1 dX6_isWet_25 rfl rfl ?_
      refine P.iadd (pc := 26) dX6_isWet_26 ?_
      refine P.iaN (pc := 27) (k) dX6_isWet_27 rfl rfl (by rw [show (0 : Int32) = nI 0 from rfl, nI_add, Nat.zero_add]) (by first | omega | grind [nT]) ?_
      refine P.ifle (pc := 28) 35 dX6_isWet_28 (by decide) (fun c28 => ?_) (fun c28 => ?_)
      · refine P.iconst (pc := 35) (v := 0) dX6_isWet_35 (by decide) ?_
        refine P.zret (pc := 36) dX6_isWet_36 rfl (by decide) ?_
        first | exact xt ⟨by assumption, by grind, by grind⟩ | exact xf (by unfold rainP; grind)
      · refine P.iconst (pc := 31) (v := 1) dX6_isWet_31 (by decide) ?_
        refine P.goto (pc := 32) 36 dX6_isWet_32 (by decide) ?_
        refine P.zret (pc := 36) dX6_isWet_36 rfl (by decide) ?_
        first | exact xt ⟨by assumption, by grind, by grind⟩ | exact xf (by unfold rainP; grind)
theorem hour0 {h : Nat} (hh : h < 40) : nI h - (nI h - nI h / 8 * 8) = nI (h - h % 8) := by
  rw [show (8 : Int32) = nI 8 from rfl, pk_rem (by omega) (by decide) (by decide), pk_sub (by omega)]
theorem sp_X6_countsAsWet (M : xM) {h : Nat} (hh : h < 40) : SpF mX6_countsAsWet [.ref 42, .int (nI h)] M (bI (wetP M h)) := by
  have lp : ∀ (k i : Nat) (x : Int32), i + k = h + 1 → h - h % 8 ≤ i → x = nI i → (∀ z, h - h % 8 ≤ z → z < i → ¬ rainP M z) → P mX6_countsAsWet 7 [some (.ref 42), some (.int (nI h)), some (.int x)] [] M (fun r M' => r = some (.int (bI (wetP M h))) ∧ M' = M) := by
    intro k
    induction k with
    | zero =>
      intro i x hi h0 hx hr
      subst hx
      refine P.iload_n (pc := 7) 2 dX6_countsAsWet_7 rfl rfl ?_
      refine P.iload_n (pc := 8) 1 dX6_countsAsWet_8 rfl rfl ?_
      refine P.icgt (pc := 9) 28 dX6_countsAsWet_9 (by decide) (fun c9 => ?_) (fun c9 => ?_)
      · refine P.iconst (pc := 28) (v := 0) dX6_countsAsWet_28 (by decide) ?_
        refine P.zret (pc := 29) dX6_countsAsWet_29 rfl (by decide) ?_
        exact xf (fun ⟨z, q1, q2, q3⟩ => hr z q1 (by omega) q3)
      · exact absurd (show nI h < nI i by grind [nT]) c9--.
    | succ k ih =>
      intro i x hi h0 hx hr
      subst hx
      refine P.iload_n (pc := 7) 2 dX6_countsAsWet_7 rfl rfl ?_
      refine P.iload_n (pc := 8) 1 dX6_countsAsWet_8 rfl rfl ?_
      refine P.icgt (pc := 9) 28 dX6_countsAsWet_9 (by decide) (fun c9 => ?_) (fun c9 => ?_)
      · exact absurd c9 (by grind [nT])--.
      · refine P.aload_n (pc := 12) 0 dX6_countsAsWet_12 rfl rfl ?_
        refine P.iload_n (pc := 13) 2 dX6_countsAsWet_13 rfl rfl ?_
        refine P.V1F (pc := 14) cs_X6_countsAsWet_64 dX6_countsAsWet_14 rfl rfl rfl (sp_X6_isWet _ (by omega)) ?_
        refine P.ifeqB (pc := 17) 22 dX6_countsAsWet_17 (by decide) (fun c17 => ?_) (fun c17 => ?_)
        · refine P.iinc (pc := 22) 2 1 dX6_countsAsWet_22 rfl (by decide) (by decide) rfl ?_
          refine P.goto (pc := 25) 7 dX6_countsAsWet_25 (by decide) ?_
          exact ih (i + 1) _ (by omega) (by omega) (nI_1 i) (fun z q1 q2 => by
            by_cases e : z = i
            · rw [e]; exact c17
            · exact hr z q1 (by omega))
        · refine P.iconst (pc := 20) (v := 1) dX6_countsAsWet_20 (by decide) ?_
          refine P.zret (pc := 21) dX6_countsAsWet_21 rfl (by decide) ?_
          exact xt ⟨i, h0, by omega, c17⟩
  refine P.iload_n (pc := 0) 1 dX6_countsAsWet_0 rfl rfl ?_
  refine P.iload_n (pc := 1) 1 dX6_countsAsWet_1 rfl rfl ?_
  refine P.bipush (pc := 2) (v := 8) dX6_countsAsWet_2 (by decide) ?_
  refine P.irem (pc := 4) dX6_countsAsWet_4 (by decide) ?_
  refine P.isub (pc := 5) dX6_countsAsWet_5 ?_
  rw [hour0 hh]
  refine P.istore_n (pc := 6) 2 dX6_countsAsWet_6 rfl (by decide) rfl ?_
  exact lp (h + 1 - (h - h % 8)) _ _ (by omega) (Nat.le_refl _) rfl (fun z q1 q2 => by omega)
theorem rain_R {n : Nat → Nat} {σ M : xM} (R : RX n σ M) (k : Nat) : rainP M k ↔ rainP σ k := by
  rw [rainP, rainP, R.1 43 (by decide), R.1 44 (by decide), R.1 45 (by decide)]
theorem wet_R {n : Nat → Nat} {σ M : xM} (R : RX n σ M) (h : Nat) : wetP M h ↔ wetP σ h := by
  constructor <;> rintro ⟨k, q1, q2, q3⟩
  · exact ⟨k, q1, q2, (rain_R R k).mp q3⟩
  · exact ⟨k, q1, q2, (rain_R R k).mpr q3⟩
noncomputable def o_wet (n : Nat → Nat) (σ : xM) (h : Int32) : xO := if ¬ (0 ≤ h ∧ h ≤ 39) then (-2, n, σ) else (xwb σ h, n, σ)
theorem sp_X9_wet {n : Nat → Nat} {σ M : xM} (I : Iv n σ) (R : RX n σ M) (h : Int32) : SpI mX9_wet [.ref 0, .int h] M (PX (o_wet n σ h) M) := by
  refine P.iload_n (pc := 0) 1 dX9_wet_0 rfl rfl ?_
  refine P.S1F (pc := 1) cs_X9_wet_150 dX9_wet_1 rfl rfl (sp_X9_isHour _ _) ?_
  refine P.ifneB (pc := 4) 10 dX9_wet_4 (by decide) (fun c4 => ?_) (fun c4 => ?_)
  · obtain ⟨a, -, ha, rfl⟩ := xin_nat 39 (lo := 0) c4.1 c4.2 (by decide) (by decide)
    have ck := nI_clamp (n := a) (by omega)
    have wr := wet_R R a
    refine P.aload_n (pc := 10) 0 dX9_wet_10 rfl rfl ?_
    refine P.getR (pc := 11) fl_X9_54 dX9_wet_11 rfl rfl ?_
    refine P.iload_n (pc := 14) 1 dX9_wet_14 rfl rfl ?_
    refine P.V1F (pc := 15) cs_X9_wet_153 dX9_wet_15 rfl rfl rfl (sp_X6_countsAsWet _ (by omega)) ?_
    refine P.ifeqB (pc := 18) 25 dX9_wet_18 (by decide) (fun c18 => ?_) (fun c18 => ?_)
    · refine P.iconst (pc := 25) (v := 0) dX9_wet_25 (by decide) ?_
      refine P.iret (pc := 26) dX9_wet_26 rfl ?_
      first | exact pxI (by rw [o_wet, if_neg (by grind), xwb, ck, bI_t (wr.mp c18)]) R frX.rf | exact pxI (by rw [o_wet, if_neg (by grind), xwb, ck, bI_f (fun q => c18 (wr.mpr q))]) R frX.rf
    · refine P.iconst (pc := 21) (v := 1) dX9_wet_21 (by decide) ?_
      refine P.goto (pc := 22) 26 dX9_wet_22 (by decide) ?_
      refine P.iret (pc := 26) dX9_wet_26 rfl ?_
      first | exact pxI (by rw [o_wet, if_neg (by grind), xwb, ck, bI_t (wr.mp c18)]) R frX.rf | exact pxI (by rw [o_wet, if_neg (by grind), xwb, ck, bI_f (fun q => c18 (wr.mpr q))]) R frX.rf
  · refine P.bipush (pc := 7) (v := -2) dX9_wet_7 (by decide) ?_
    refine P.iret (pc := 9) dX9_wet_9 rfl ?_
    exact pxI (by rw [o_wet, if_pos c4]) R frX.rf
theorem sp_X7_has {M : xM} {m : Nat} (hn : M 21 3 = nI m) (h12 : m ≤ 12) (v : Int32) : SpF mX7_has [.ref 21, .int v] M (bI (xin m v)) := by
  refine P.iload_n (pc := 0) 1 dX7_has_0 rfl rfl ?_
  refine P.iconst (pc := 1) (v := 0) dX7_has_1 (by decide) ?_
  refine P.aload_n (pc := 2) 0 dX7_has_2 rfl rfl ?_
  refine P.getI (pc := 3) fl_X7_23 dX7_has_3 rfl rfl ?_
  refine P.iconst (pc := 6) (v := 1) dX7_has_6 (by decide) ?_
  refine P.isub (pc := 7) dX7_has_7 ?_
  refine P.N3F (pc := 8) cs_X7_has_45 dX7_has_8 rfl rfl (sp_X9_within _ _ _ _) ?_
  refine P.zretB (pc := 11) dX7_has_11 rfl ?_
  exact ⟨by rw [hn, bI_c (xin_iff (by omega) v)], rfl⟩
def o_hall (n : Nat → Nat) (σ : xM) (h r : Int32) : xO := if ¬ (0 ≤ h ∧ h ≤ 5 ∧ 0 ≤ r ∧ r ≤ 500) then (-2, n, σ) else (σ 27 h.toNatClampNeg, n, xw σ 27 (upd (σ 27) h.toNatClampNeg r))
theorem sp_X7_setRoom {n : Nat → Nat} {σ M : xM} (I : Iv n σ) (R : RX n σ M) (h r : Int32) : SpI mX7_setRoom [.ref 21, .int h, .int r] M (PX (o_hall n σ h r) M) := by
  have a1 := R.1 27 (by decide)
  refine P.iload_n (pc := 0) 1 dX7_setRoom_0 rfl rfl ?_
  refine P.iconst (pc := 1) (v := 0) dX7_setRoom_1 (by decide) ?_
  refine P.iconst (pc := 2) (v := 5) dX7_setRoom_2 (by decide) ?_
  refine P.N3F (pc := 3) cs_X7_setRoom_45 dX7_setRoom_3 rfl rfl (sp_X9_within _ _ _ _) ?_
  refine P.ifeqB (pc := 6) 20 dX7_setRoom_6 (by decide) (fun c6 => ?_) (fun c6 => ?_)
  · refine P.bipush (pc := 20) (v := -2) dX7_setRoom_20 (by decide) ?_
    refine P.iret (pc := 22) dX7_setRoom_22 rfl ?_
    exact pxI (by grind [o_hall]) R frX.rf
  · refine P.iload_n (pc := 9) 2 dX7_setRoom_9 rfl rfl ?_
    refine P.iconst (pc := 10) (v := 0) dX7_setRoom_10 (by decide) ?_
    refine P.sipush (pc := 11) (v := 500) dX7_setRoom_11 (by decide) ?_
    refine P.N3F (pc := 14) cs_X7_setRoom_45 dX7_setRoom_14 rfl rfl (sp_X9_within _ _ _ _) ?_
    refine P.ifneB (pc := 17) 23 dX7_setRoom_17 (by decide) (fun c17 => ?_) (fun c17 => ?_)
    · obtain ⟨a, -, ha, rfl⟩ := xin_nat 5 (lo := 0) c6.1 c6.2 (by decide) (by decide)
      have ck := nI_clamp (n := a) (by omega)
      refine P.aload_n (pc := 23) 0 dX7_setRoom_23 rfl rfl ?_
      refine P.getR (pc := 24) fl_X7_33 dX7_setRoom_24 rfl rfl ?_
      refine P.iload_n (pc := 27) 1 dX7_setRoom_27 rfl rfl ?_
      refine P.iaN (pc := 28) _ dX7_setRoom_28 rfl rfl rfl (by first | omega | grind [nT]) ?_
      refine P.istore_n (pc := 29) 3 dX7_setRoom_29 rfl (by decide) rfl ?_
      refine P.aload_n (pc := 30) 0 dX7_setRoom_30 rfl rfl ?_
      refine P.getR (pc := 31) fl_X7_33 dX7_setRoom_31 rfl rfl ?_
      refine P.iload_n (pc := 34) 1 dX7_setRoom_34 rfl rfl ?_
      refine P.iload_n (pc := 35) 2 dX7_setRoom_35 rfl rfl ?_
      refine P.isN (pc := 36) _ dX7_setRoom_36 rfl rfl rfl (by first | omega | grind [nT]) ?_
      refine P.iload_n (pc := 37) 3 dX7_setRoom_37 rfl rfl ?_
      refine P.iret (pc := 38) dX7_setRoom_38 rfl ?_
      rw [a1]
      exact pxI (by rw [o_hall, if_neg (by grind), ck]) (R.arr (by decide) _) (frX.rf.w (by decide) _)
    · refine P.bipush (pc := 20) (v := -2) dX7_setRoom_20 (by decide) ?_
      refine P.iret (pc := 22) dX7_setRoom_22 rfl ?_
      exact pxI (by grind [o_hall]) R frX.rf
theorem sp_X9_hall {n : Nat → Nat} {σ M : xM} (I : Iv n σ) (R : RX n σ M) (h r : Int32) : SpI mX9_hall [.ref 0, .int h, .int r] M (PX (o_hall n σ h r) M) := by
  refine P.aload_n (pc := 0) 0 dX9_hall_0 rfl rfl ?_
  refine P.getR (pc := 1) fl_X9_33 dX9_hall_1 rfl rfl ?_
  refine P.iload_n (pc := 4) 1 dX9_hall_4 rfl rfl ?_
  refine P.iload_n (pc := 5) 2 dX9_hall_5 rfl rfl ?_
  refine P.V2I (pc := 6) cs_X9_hall_142 dX9_hall_6 rfl rfl rfl (sp_X7_setRoom I R _ _) (fun v6 M6 h6 => ?_)
  refine P.iret (pc := 9) dX9_hall_9 rfl ?_
  exact ⟨_, rfl, h6⟩
def o_show (n : Nat → Nat) (σ : xM) (h hr w : Int32) : xO :=
  if ¬ (-1 ≤ h ∧ h ≤ 5 ∧ 0 ≤ hr ∧ hr ≤ 39 ∧ -1 ≤ w ∧ w ≤ 5 ∧ (h = -1 ∨ w = -1)) then (-2, n, σ) else if n 2 = 12 then (-4, n, σ) else
  (nI (n 2), nup n 2 (n 2 + 1), xw (xw (xw σ 25 (upd (σ 25) (n 2) h)) 22 (upd (σ 22) (n 2) hr)) 26 (upd (σ 26) (n 2) w))
theorem sp_X7_add {n : Nat → Nat} {σ M : xM} (I : Iv n σ) (R : RX n σ M) (h hr w : Int32) : SpI mX7_add [.ref 21, .int h, .int hr, .int w] M (PX (o_show n σ h hr w) M) := by
  have hc : M 21 3 = nI (n 2) := R.2.2 (21, 3, 2) (by decide)
  have a1 := R.1 25 (by decide)
  have a2 := R.1 22 (by decide)
  have a3 := R.1 26 (by decide)
  have b1 : n 2 ≤ 12 := I.2.2.1.1
  refine P.iload_n (pc := 0) 1 dX7_add_0 rfl rfl ?_
  refine P.iconst (pc := 1) (v := -1) dX7_add_1 (by decide) ?_
  refine P.iconst (pc := 2) (v := 5) dX7_add_2 (by decide) ?_
  refine P.N3F (pc := 3) cs_X7_add_45 dX7_add_3 rfl rfl (sp_X9_within _ _ _ _) ?_
  refine P.ifeqB (pc := 6) 35 dX7_add_6 (by decide) (fun c6 => ?_) (fun c6 => ?_)
  · refine P.bipush (pc := 35) (v := -2) dX7_add_35 (by decide) ?_
    refine P.iret (pc := 37) dX7_add_37 rfl ?_
    exact pxI (by grind [o_show]) R frX.rf
  · refine P.iload_n (pc := 9) 2 dX7_add_9 rfl rfl ?_
    refine P.N1F (pc := 10) cs_X7_add_49 dX7_add_10 rfl rfl (sp_X9_isHour _ _) ?_
    refine P.ifeqB (pc := 13) 35 dX7_add_13 (by decide) (fun c13 => ?_) (fun c13 => ?_)
    · refine P.bipush (pc := 35) (v := -2) dX7_add_35 (by decide) ?_
      refine P.iret (pc := 37) dX7_add_37 rfl ?_
      exact pxI (by grind [o_show]) R frX.rf
    · refine P.iload_n (pc := 16) 3 dX7_add_16 rfl rfl ?_
      refine P.iconst (pc := 17) (v := -1) dX7_add_17 (by decide) ?_
      refine P.iconst (pc := 18) (v := 5) dX7_add_18 (by decide) ?_
      refine P.N3F (pc := 19) cs_X7_add_45 dX7_add_19 rfl rfl (sp_X9_within _ _ _ _) ?_
      refine P.ifeqB (pc := 22) 35 dX7_add_22 (by decide) (fun c22 => ?_) (fun c22 => ?_)
      · refine P.bipush (pc := 35) (v := -2) dX7_add_35 (by decide) ?_
        refine P.iret (pc := 37) dX7_add_37 rfl ?_
        exact pxI (by grind [o_show]) R frX.rf
      · refine P.iload_n (pc := 25) 1 dX7_add_25 rfl rfl ?_
        refine P.iconst (pc := 26) (v := -1) dX7_add_26 (by decide) ?_
        refine P.iceq (pc := 27) 38 dX7_add_27 (by decide) (fun c27 => ?_) (fun c27 => ?_)
        · refine P.aload_n (pc := 38) 0 dX7_add_38 rfl rfl ?_
          refine P.getI (pc := 39) fl_X7_23 dX7_add_39 rfl rfl ?_
          refine P.bipush (pc := 42) (v := 12) dX7_add_42 (by decide) ?_
          refine P.iclt (pc := 44) 50 dX7_add_44 (by decide) (fun c44 => ?_) (fun c44 => ?_)
          · refine P.aload_n (pc := 50) 0 dX7_add_50 rfl rfl ?_
            refine P.getR (pc := 51) fl_X7_27 dX7_add_51 rfl rfl ?_
            refine P.aload_n (pc := 54) 0 dX7_add_54 rfl rfl ?_
            refine P.getI (pc := 55) fl_X7_23 dX7_add_55 rfl rfl ?_
            rw [hc]
            refine P.iload_n (pc := 58) 1 dX7_add_58 rfl rfl ?_
            refine P.isN (pc := 59) _ dX7_add_59 rfl rfl rfl (by first | omega | grind [nT]) ?_
            refine P.aload_n (pc := 60) 0 dX7_add_60 rfl rfl ?_
            refine P.getR (pc := 61) fl_X7_11 dX7_add_61 rfl rfl ?_
            refine P.aload_n (pc := 64) 0 dX7_add_64 rfl rfl ?_
            refine P.getI (pc := 65) fl_X7_23 dX7_add_65 rfl rfl ?_
            simp only [xw_ap, Nat.reduceEqDiff, ↓reduceIte, hc]
            refine P.iload_n (pc := 68) 2 dX7_add_68 rfl rfl ?_
            refine P.isN (pc := 69) _ dX7_add_69 rfl rfl rfl (by first | omega | grind [nT]) ?_
            refine P.aload_n (pc := 70) 0 dX7_add_70 rfl rfl ?_
            refine P.getR (pc := 71) fl_X7_30 dX7_add_71 rfl rfl ?_
            refine P.aload_n (pc := 74) 0 dX7_add_74 rfl rfl ?_
            refine P.getI (pc := 75) fl_X7_23 dX7_add_75 rfl rfl ?_
            simp only [xw_ap, Nat.reduceEqDiff, ↓reduceIte, hc]
            refine P.iload_n (pc := 78) 3 dX7_add_78 rfl rfl ?_
            refine P.isN (pc := 79) _ dX7_add_79 rfl rfl rfl (by first | omega | grind [nT]) ?_
            refine P.aload_n (pc := 80) 0 dX7_add_80 rfl rfl ?_
            refine P.dup (pc := 81) dX7_add_81 rfl ?_
            refine P.getI (pc := 82) fl_X7_23 dX7_add_82 rfl rfl ?_
            simp only [xw_ap, Nat.reduceEqDiff, ↓reduceIte, hc]
            refine P.iconst (pc := 85) (v := 1) dX7_add_85 (by decide) ?_
            refine P.iadd (pc := 86) dX7_add_86 ?_
            refine P.put (pc := 87) fp_X7_23 dX7_add_87 rfl rfl ?_
            refine P.aload_n (pc := 90) 0 dX7_add_90 rfl rfl ?_
            refine P.getI (pc := 91) fl_X7_23 dX7_add_91 rfl rfl ?_
            simp only [xw_ap, upd_ap, Nat.reduceEqDiff, ↓reduceIte, hc]
            refine P.iconst (pc := 94) (v := 1) dX7_add_94 (by decide) ?_
            refine P.isub (pc := 95) dX7_add_95 ?_
            rw [nI_1, nI_pred]
            refine P.iret (pc := 96) dX7_add_96 rfl ?_
            rw [a1, a2, a3]
            exact pxI (by rw [o_show, if_neg (by grind), if_neg (by grind [nT])]) ((((R.arr (by decide) _).arr (by decide) _).arr (by decide) _).cnt (by decide) _) ((((frX.rf.w (by decide) _).w (by decide) _).w (by decide) _).w (by decide) _)
          · refine P.bipush (pc := 47) (v := -4) dX7_add_47 (by decide) ?_
            refine P.iret (pc := 49) dX7_add_49 rfl ?_
            exact pxI (by grind [o_show, nT]) R frX.rf
        · refine P.iload_n (pc := 30) 3 dX7_add_30 rfl rfl ?_
          refine P.iconst (pc := 31) (v := -1) dX7_add_31 (by decide) ?_
          refine P.iceq (pc := 32) 38 dX7_add_32 (by decide) (fun c32 => ?_) (fun c32 => ?_)
          · refine P.aload_n (pc := 38) 0 dX7_add_38 rfl rfl ?_
            refine P.getI (pc := 39) fl_X7_23 dX7_add_39 rfl rfl ?_
            refine P.bipush (pc := 42) (v := 12) dX7_add_42 (by decide) ?_
            refine P.iclt (pc := 44) 50 dX7_add_44 (by decide) (fun c44 => ?_) (fun c44 => ?_)
            · refine P.aload_n (pc := 50) 0 dX7_add_50 rfl rfl ?_
              refine P.getR (pc := 51) fl_X7_27 dX7_add_51 rfl rfl ?_
              refine P.aload_n (pc := 54) 0 dX7_add_54 rfl rfl ?_
              refine P.getI (pc := 55) fl_X7_23 dX7_add_55 rfl rfl ?_
              rw [hc]
              refine P.iload_n (pc := 58) 1 dX7_add_58 rfl rfl ?_
              refine P.isN (pc := 59) _ dX7_add_59 rfl rfl rfl (by first | omega | grind [nT]) ?_
              refine P.aload_n (pc := 60) 0 dX7_add_60 rfl rfl ?_
              refine P.getR (pc := 61) fl_X7_11 dX7_add_61 rfl rfl ?_
              refine P.aload_n (pc := 64) 0 dX7_add_64 rfl rfl ?_
              refine P.getI (pc := 65) fl_X7_23 dX7_add_65 rfl rfl ?_
              simp only [xw_ap, Nat.reduceEqDiff, ↓reduceIte, hc]
              refine P.iload_n (pc := 68) 2 dX7_add_68 rfl rfl ?_
              refine P.isN (pc := 69) _ dX7_add_69 rfl rfl rfl (by first | omega | grind [nT]) ?_
              refine P.aload_n (pc := 70) 0 dX7_add_70 rfl rfl ?_
              refine P.getR (pc := 71) fl_X7_30 dX7_add_71 rfl rfl ?_
              refine P.aload_n (pc := 74) 0 dX7_add_74 rfl rfl ?_
              refine P.getI (pc := 75) fl_X7_23 dX7_add_75 rfl rfl ?_
              simp only [xw_ap, Nat.reduceEqDiff, ↓reduceIte, hc]
              refine P.iload_n (pc := 78) 3 dX7_add_78 rfl rfl ?_
              refine P.isN (pc := 79) _ dX7_add_79 rfl rfl rfl (by first | omega | grind [nT]) ?_
              refine P.aload_n (pc := 80) 0 dX7_add_80 rfl rfl ?_
              refine P.dup (pc := 81) dX7_add_81 rfl ?_
              refine P.getI (pc := 82) fl_X7_23 dX7_add_82 rfl rfl ?_
              simp only [xw_ap, Nat.reduceEqDiff, ↓reduceIte, hc]
              refine P.iconst (pc := 85) (v := 1) dX7_add_85 (by decide) ?_
              refine P.iadd (pc := 86) dX7_add_86 ?_
              refine P.put (pc := 87) fp_X7_23 dX7_add_87 rfl rfl ?_
              refine P.aload_n (pc := 90) 0 dX7_add_90 rfl rfl ?_
              refine P.getI (pc := 91) fl_X7_23 dX7_add_91 rfl rfl ?_
              simp only [xw_ap, upd_ap, Nat.reduceEqDiff, ↓reduceIte, hc]
              refine P.iconst (pc := 94) (v := 1) dX7_add_94 (by decide) ?_
              refine P.isub (pc := 95) dX7_add_95 ?_
              rw [nI_1, nI_pred]
              refine P.iret (pc := 96) dX7_add_96 rfl ?_
              rw [a1, a2, a3]
              exact pxI (by rw [o_show, if_neg (by grind), if_neg (by grind [nT])]) ((((R.arr (by decide) _).arr (by decide) _).arr (by decide) _).cnt (by decide) _) ((((frX.rf.w (by decide) _).w (by decide) _).w (by decide) _).w (by decide) _)
            · refine P.bipush (pc := 47) (v := -4) dX7_add_47 (by decide) ?_
              refine P.iret (pc := 49) dX7_add_49 rfl ?_
              exact pxI (by grind [o_show, nT]) R frX.rf
          · refine P.bipush (pc := 35) (v := -2) dX7_add_35 (by decide) ?_
            refine P.iret (pc := 37) dX7_add_37 rfl ?_
            exact pxI (by grind [o_show]) R frX.rf
theorem sp_X9_show {n : Nat → Nat} {σ M : xM} (I : Iv n σ) (R : RX n σ M) (h hr w : Int32) : SpI mX9_show [.ref 0, .int h, .int hr, .int w] M (PX (o_show n σ h hr w) M) := by
  refine P.aload_n (pc := 0) 0 dX9_show_0 rfl rfl ?_
  refine P.getR (pc := 1) fl_X9_33 dX9_show_1 rfl rfl ?_
  refine P.iload_n (pc := 4) 1 dX9_show_4 rfl rfl ?_
  refine P.iload_n (pc := 5) 2 dX9_show_5 rfl rfl ?_
  refine P.iload_n (pc := 6) 3 dX9_show_6 rfl rfl ?_
  refine P.V3I (pc := 7) cs_X9_show_145 dX9_show_7 rfl rfl rfl (sp_X7_add I R _ _ _) (fun v7 M7 h7 => ?_)
  refine P.iret (pc := 10) dX9_show_10 rfl ?_
  exact ⟨_, rfl, h7⟩
def xwsh (σ : xM) (p m : Nat) (s : Int32) : Prop := ∃ k, k < m ∧ σ 29 (6 * p + k) = s
theorem sp_X7_isWished {M : xM} {p m : Nat} (hp : p < 24) (hm : M 30 p = nI m) (h6 : m ≤ 6) (s : Int32) : SpF mX7_isWished [.ref 21, .int (nI p), .int s] M (bI (xwsh M p m s)) := by
  have lp : ∀ (k i : Nat) (x : Int32), i + k = m → x = nI i → (∀ z, z < i → ¬ M 29 (6 * p + z) = s) → P mX7_isWished 2 [some (.ref 21), some (.int (nI p)), some (.int s), some (.int x)] [] M (fun r M' => r = some (.int (bI (xwsh M p m s))) ∧ M' = M) := by
    intro k
    induction k with
    | zero =>
      intro i x hi hx hr
      subst hx
      refine P.iload_n (pc := 2) 3 dX7_isWished_2 rfl rfl ?_
      refine P.aload_n (pc := 3) 0 dX7_isWished_3 rfl rfl ?_
      refine P.getR (pc := 4) fl_X7_42 dX7_isWished_4 rfl rfl ?_
      refine P.iload_n (pc := 7) 1 dX7_isWished_7 rfl rfl ?_
      refine P.iaN (pc := 8) _ dX7_isWished_8 rfl rfl rfl (by first | omega | grind [nT]) ?_
      refine P.icge (pc := 9) 35 dX7_isWished_9 (by decide) (fun c9 => ?_) (fun c9 => ?_)
      · refine P.iconst (pc := 35) (v := 0) dX7_isWished_35 (by decide) ?_
        refine P.zret (pc := 36) dX7_isWished_36 rfl (by decide) ?_
        exact xf (fun ⟨z, q1, q2⟩ => hr z (by omega) q2)
      · exact absurd (show M 30 p ≤ nI i by grind [nT]) c9--.
    | succ k ih =>
      intro i x hi hx hr
      subst hx
      refine P.iload_n (pc := 2) 3 dX7_isWished_2 rfl rfl ?_
      refine P.aload_n (pc := 3) 0 dX7_isWished_3 rfl rfl ?_
      refine P.getR (pc := 4) fl_X7_42 dX7_isWished_4 rfl rfl ?_
      refine P.iload_n (pc := 7) 1 dX7_isWished_7 rfl rfl ?_
      refine P.iaN (pc := 8) _ dX7_isWished_8 rfl rfl rfl (by first | omega | grind [nT]) ?_
      refine P.icge (pc := 9) 35 dX7_isWished_9 (by decide) (fun c9 => ?_) (fun c9 => ?_)
      · exact absurd c9 (by grind [nT])--.
      · refine P.aload_n (pc := 12) 0 dX7_isWished_12 rfl rfl ?_
        refine P.getR (pc := 13) fl_X7_39 dX7_isWished_13 rfl rfl ?_
        refine P.iload_n (pc := 16) 1 dX7_isWished_16 rfl rfl ?_
        refine P.bipush (pc := 17) (v := 6) dX7_isWished_17 (by decide) ?_
        refine P.imul (pc := 19) dX7_isWished_19 ?_
        refine P.iload_n (pc := 20) 3 dX7_isWished_20 rfl rfl ?_
        refine P.iadd (pc := 21) dX7_isWished_21 ?_
        refine P.iaN (pc := 22) (6 * p + i) dX7_isWished_22 rfl rfl (by rw [nlit, pk_mul, nI_add, Nat.mul_comm]) (by first | omega | grind [nT]) ?_
        refine P.iload_n (pc := 23) 2 dX7_isWished_23 rfl rfl ?_
        refine P.icne (pc := 24) 29 dX7_isWished_24 (by decide) (fun c24 => ?_) (fun c24 => ?_)
        · refine P.iinc (pc := 29) 3 1 dX7_isWished_29 rfl (by decide) (by decide) rfl ?_
          refine P.goto (pc := 32) 2 dX7_isWished_32 (by decide) ?_
          exact ih (i + 1) _ (by omega) (nI_1 i) (fun z q1 => by
            by_cases e : z = i
            · rw [e]; exact c24
            · exact hr z (by omega))
        · refine P.iconst (pc := 27) (v := 1) dX7_isWished_27 (by decide) ?_
          refine P.zret (pc := 28) dX7_isWished_28 rfl (by decide) ?_
          exact xt ⟨i, by omega, c24⟩
  refine P.iconst (pc := 0) (v := 0) dX7_isWished_0 (by decide) ?_
  refine P.istore_n (pc := 1) 3 dX7_isWished_1 rfl (by decide) rfl ?_
  exact lp m 0 _ (by omega) rfl (fun z q1 => by omega)
noncomputable def o_wish (n : Nat → Nat) (σ : xM) (p s : Int32) : xO :=
  @ite _ (¬ (xin (n 1) p ∧ xin (n 2) s) ∨ xwsh σ p.toNatClampNeg (σ 30 p.toNatClampNeg).toNatClampNeg s) (Classical.propDecidable _) (-2, n, σ) (if σ 30 p.toNatClampNeg = 6 then (-4, n, σ) else
  (σ 30 p.toNatClampNeg + 1, n, xw (xw σ 29 (upd (σ 29) (6 * p.toNatClampNeg + (σ 30 p.toNatClampNeg).toNatClampNeg) s)) 30 (upd (σ 30) p.toNatClampNeg (σ 30 p.toNatClampNeg + 1))))
theorem sp_X7_addWish {n : Nat → Nat} {σ M : xM} (I : Iv n σ) (R : RX n σ M) {p : Nat} (hp : p < n 1) (s : Int32) : SpI mX7_addWish [.ref 21, .int (nI p), .int s] M (PX (o_wish n σ (nI p) s) M) := by
  have hc : M 21 3 = nI (n 2) := R.2.2 (21, 3, 2) (by decide)
  have a1 := R.1 29 (by decide)
  have a2 := R.1 30 (by decide)
  have b1 : n 2 ≤ 12 := I.2.2.1.1
  have b2 : n 1 ≤ 24 := I.1.2.1
  have ck := nI_clamp (n := p) (by omega)
  obtain ⟨w, hw, ew, hk⟩ := I.2.2.1.2.2.2.2 p (by omega)
  have ck2 : (σ 30 p).toNatClampNeg = w := by rw [ew]; exact nI_clamp (by omega)
  have xp : xin (n 1) (nI p) := ⟨p, hp, rfl⟩
  have em : M 30 p = nI w := by rw [a2, ew]
  have ws : xwsh M p w s ↔ xwsh σ p w s := by rw [xwsh, xwsh, a1]
  refine P.aload_n (pc := 0) 0 dX7_addWish_0 rfl rfl ?_
  refine P.iload_n (pc := 1) 2 dX7_addWish_1 rfl rfl ?_
  refine P.V1F (pc := 2) cs_X7_addWish_53 dX7_addWish_2 rfl rfl rfl (sp_X7_has hc b1 _) ?_
  refine P.ifeqB (pc := 5) 17 dX7_addWish_5 (by decide) (fun c5 => ?_) (fun c5 => ?_)
  · refine P.bipush (pc := 17) (v := -2) dX7_addWish_17 (by decide) ?_
    refine P.iret (pc := 19) dX7_addWish_19 rfl ?_
    first | exact pxI (by rw [o_wish, if_pos (Or.inl (fun q => c5 q.2))]) R frX.rf | exact pxI (by rw [o_wish, ck, ck2, if_pos (Or.inr (ws.mp c14))]) R frX.rf
  · refine P.aload_n (pc := 8) 0 dX7_addWish_8 rfl rfl ?_
    refine P.iload_n (pc := 9) 1 dX7_addWish_9 rfl rfl ?_
    refine P.iload_n (pc := 10) 2 dX7_addWish_10 rfl rfl ?_
    refine P.V2F (pc := 11) cs_X7_addWish_56 dX7_addWish_11 rfl rfl rfl (sp_X7_isWished (by omega) em hw _) ?_
    refine P.ifeqB (pc := 14) 20 dX7_addWish_14 (by decide) (fun c14 => ?_) (fun c14 => ?_)
    · refine P.aload_n (pc := 20) 0 dX7_addWish_20 rfl rfl ?_
      refine P.getR (pc := 21) fl_X7_42 dX7_addWish_21 rfl rfl ?_
      refine P.iload_n (pc := 24) 1 dX7_addWish_24 rfl rfl ?_
      refine P.iaN (pc := 25) _ dX7_addWish_25 rfl rfl rfl (by first | omega | grind [nT]) ?_
      refine P.bipush (pc := 26) (v := 6) dX7_addWish_26 (by decide) ?_
      refine P.iclt (pc := 28) 34 dX7_addWish_28 (by decide) (fun c28 => ?_) (fun c28 => ?_)
      · refine P.aload_n (pc := 34) 0 dX7_addWish_34 rfl rfl ?_
        refine P.getR (pc := 35) fl_X7_39 dX7_addWish_35 rfl rfl ?_
        refine P.iload_n (pc := 38) 1 dX7_addWish_38 rfl rfl ?_
        refine P.bipush (pc := 39) (v := 6) dX7_addWish_39 (by decide) ?_
        refine P.imul (pc := 41) dX7_addWish_41 ?_
        refine P.aload_n (pc := 42) 0 dX7_addWish_42 rfl rfl ?_
        refine P.getR (pc := 43) fl_X7_42 dX7_addWish_43 rfl rfl ?_
        refine P.iload_n (pc := 46) 1 dX7_addWish_46 rfl rfl ?_
        refine P.iaN (pc := 47) _ dX7_addWish_47 rfl rfl rfl (by first | omega | grind [nT]) ?_
        rw [em]
        refine P.iadd (pc := 48) dX7_addWish_48 ?_
        refine P.iload_n (pc := 49) 2 dX7_addWish_49 rfl rfl ?_
        refine P.isN (pc := 50) (6 * p + w) dX7_addWish_50 rfl rfl (by rw [nlit, pk_mul, nI_add, Nat.mul_comm]) (by first | omega | grind [nT]) ?_
        refine P.aload_n (pc := 51) 0 dX7_addWish_51 rfl rfl ?_
        refine P.getR (pc := 52) fl_X7_42 dX7_addWish_52 rfl rfl ?_
        refine P.iload_n (pc := 55) 1 dX7_addWish_55 rfl rfl ?_
        refine P.dup2 (pc := 56) dX7_addWish_56 rfl rfl ?_
        refine P.iaN (pc := 57) _ dX7_addWish_57 rfl rfl rfl (by first | omega | grind [nT]) ?_
        simp only [xw_ap, Nat.reduceEqDiff, ↓reduceIte, em]
        refine P.iconst (pc := 58) (v := 1) dX7_addWish_58 (by decide) ?_
        refine P.iadd (pc := 59) dX7_addWish_59 ?_
        refine P.isN (pc := 60) _ dX7_addWish_60 rfl rfl rfl (by first | omega | grind [nT]) ?_
        refine P.aload_n (pc := 61) 0 dX7_addWish_61 rfl rfl ?_
        refine P.getR (pc := 62) fl_X7_42 dX7_addWish_62 rfl rfl ?_
        refine P.iload_n (pc := 65) 1 dX7_addWish_65 rfl rfl ?_
        refine P.iaN (pc := 66) _ dX7_addWish_66 rfl rfl rfl (by first | omega | grind [nT]) ?_
        simp only [xw_ap, upd_ap, Nat.reduceEqDiff, ↓reduceIte, em]
        refine P.iret (pc := 67) dX7_addWish_67 rfl ?_
        rw [a1, a2]
        exact pxI (by rw [o_wish, ck, ck2, if_neg (fun q => q.elim (fun z => z ⟨xp, c5⟩) (fun z => c14 (ws.mpr z))), if_neg (by grind [nT]), ew]) ((R.arr (by decide) _).arr (by decide) _) ((frX.rf.w (by decide) _).w (by decide) _)
      · refine P.bipush (pc := 31) (v := -4) dX7_addWish_31 (by decide) ?_
        refine P.iret (pc := 33) dX7_addWish_33 rfl ?_
        exact pxI (by rw [o_wish, ck, ck2, if_neg (fun q => q.elim (fun z => z ⟨xp, c5⟩) (fun z => c14 (ws.mpr z))), if_pos (by grind [nT])]) R frX.rf
    · refine P.bipush (pc := 17) (v := -2) dX7_addWish_17 (by decide) ?_
      refine P.iret (pc := 19) dX7_addWish_19 rfl ?_
      first | exact pxI (by rw [o_wish, if_pos (Or.inl (fun q => c5 q.2))]) R frX.rf | exact pxI (by rw [o_wish, ck, ck2, if_pos (Or.inr (ws.mp c14))]) R frX.rf
theorem sp_X9_wish {n : Nat → Nat} {σ M : xM} (I : Iv n σ) (R : RX n σ M) (p s : Int32) : SpI mX9_wish [.ref 0, .int p, .int s] M (PX (o_wish n σ p s) M) := by
  have hc : M 5 7 = nI (n 1) := R.2.2 (5, 7, 1) (by decide)
  have b2 : n 1 ≤ 24 := I.1.2.1
  refine P.aload_n (pc := 0) 0 dX9_wish_0 rfl rfl ?_
  refine P.getR (pc := 1) fl_X9_10 dX9_wish_1 rfl rfl ?_
  refine P.getR (pc := 4) fl_X9_68 dX9_wish_4 rfl rfl ?_
  refine P.iload_n (pc := 7) 1 dX9_wish_7 rfl rfl ?_
  refine P.V1F (pc := 8) cs_X9_wish_115 dX9_wish_8 rfl rfl rfl (sp_X4_has hc b2 _) ?_
  refine P.ifeqB (pc := 11) 26 dX9_wish_11 (by decide) (fun c11 => ?_) (fun c11 => ?_)
  · refine P.bipush (pc := 26) (v := -2) dX9_wish_26 (by decide) ?_
    refine P.iret (pc := 28) dX9_wish_28 rfl ?_
    first | exact ⟨_, rfl, h20⟩ | exact pxI (by rw [o_wish, if_pos (Or.inl (fun q => c11 q.1))]) R frX.rf
  · obtain ⟨a, ha, rfl⟩ := c11
    refine P.aload_n (pc := 14) 0 dX9_wish_14 rfl rfl ?_
    refine P.getR (pc := 15) fl_X9_33 dX9_wish_15 rfl rfl ?_
    refine P.iload_n (pc := 18) 1 dX9_wish_18 rfl rfl ?_
    refine P.iload_n (pc := 19) 2 dX9_wish_19 rfl rfl ?_
    refine P.V2I (pc := 20) cs_X9_wish_147 dX9_wish_20 rfl rfl rfl (sp_X7_addWish I R ha _) (fun v20 M20 h20 => ?_)
    refine P.goto (pc := 23) 28 dX9_wish_23 (by decide) ?_
    refine P.iret (pc := 28) dX9_wish_28 rfl ?_
    first | exact ⟨_, rfl, h20⟩ | exact pxI (by rw [o_wish, if_pos (Or.inl (fun q => c11 q.1))]) R frX.rf
theorem sp_X7_place (M : xM) {s : Nat} (hs : s < 12) (b : Int32) : SpF mX7_place [.ref 21, .int (nI s), .int b] M (xpl M b s) := by
  refine P.aload_n (pc := 0) 0 dX7_place_0 rfl rfl ?_
  refine P.getR (pc := 1) fl_X7_27 dX7_place_1 rfl rfl ?_
  refine P.iload_n (pc := 4) 1 dX7_place_4 rfl rfl ?_
  refine P.iaN (pc := 5) _ dX7_place_5 rfl rfl rfl (by first | omega | grind [nT]) ?_
  refine P.iconst (pc := 6) (v := -1) dX7_place_6 (by decide) ?_
  refine P.iceq (pc := 7) 17 dX7_place_7 (by decide) (fun c7 => ?_) (fun c7 => ?_)
  · refine P.iload_n (pc := 17) 2 dX7_place_17 rfl rfl ?_
    refine P.ifeq (pc := 18) 30 dX7_place_18 (by decide) (fun c18 => ?_) (fun c18 => ?_)
    · refine P.bipush (pc := 30) (v := 6) dX7_place_30 (by decide) ?_
      refine P.iret (pc := 32) dX7_place_32 rfl ?_
      first | exact ⟨by rw [xpl, if_neg (by simpa using c7), if_pos c18], rfl⟩ | exact ⟨by rw [xpl, if_neg (by simpa using c7), if_neg c18], rfl⟩
    · refine P.aload_n (pc := 21) 0 dX7_place_21 rfl rfl ?_
      refine P.getR (pc := 22) fl_X7_30 dX7_place_22 rfl rfl ?_
      refine P.iload_n (pc := 25) 1 dX7_place_25 rfl rfl ?_
      refine P.iaN (pc := 26) _ dX7_place_26 rfl rfl rfl (by first | omega | grind [nT]) ?_
      refine P.goto (pc := 27) 32 dX7_place_27 (by decide) ?_
      refine P.iret (pc := 32) dX7_place_32 rfl ?_
      first | exact ⟨by rw [xpl, if_neg (by simpa using c7), if_pos c18], rfl⟩ | exact ⟨by rw [xpl, if_neg (by simpa using c7), if_neg c18], rfl⟩
  · refine P.aload_n (pc := 10) 0 dX7_place_10 rfl rfl ?_
    refine P.getR (pc := 11) fl_X7_27 dX7_place_11 rfl rfl ?_
    refine P.iload_n (pc := 14) 1 dX7_place_14 rfl rfl ?_
    refine P.iaN (pc := 15) _ dX7_place_15 rfl rfl rfl (by first | omega | grind [nT]) ?_
    refine P.iret (pc := 16) dX7_place_16 rfl ?_
    exact ⟨by rw [xpl, if_pos c7], rfl⟩
theorem pl_R {n : Nat → Nat} {σ M : xM} (R : RX n σ M) (b : Int32) (s : Nat) : xpl M b s = xpl σ b s := by
  rw [xpl, xpl, R.1 25 (by decide), R.1 26 (by decide)]
noncomputable def o_where (n : Nat → Nat) (σ : xM) (s : Int32) : xO := @ite _ (xin (n 2) s) (Classical.propDecidable _) (xpl σ (xwb σ (σ 22 s.toNatClampNeg)) s.toNatClampNeg, n, σ) (-2, n, σ)
theorem sp_X9_where {n : Nat → Nat} {σ M : xM} (I : Iv n σ) (R : RX n σ M) (s : Int32) : SpI mX9_where [.ref 0, .int s] M (PX (o_where n σ s) M) := by
  have hc : M 21 3 = nI (n 2) := R.2.2 (21, 3, 2) (by decide)
  have b1 : n 2 ≤ 12 := I.2.2.1.1
  have a2 := R.1 22 (by decide)
  refine P.aload_n (pc := 0) 0 dX9_where_0 rfl rfl ?_
  refine P.getR (pc := 1) fl_X9_33 dX9_where_1 rfl rfl ?_
  refine P.iload_n (pc := 4) 1 dX9_where_4 rfl rfl ?_
  refine P.V1F (pc := 5) cs_X9_where_156 dX9_where_5 rfl rfl rfl (sp_X7_has hc b1 _) ?_
  refine P.ifeqB (pc := 8) 38 dX9_where_8 (by decide) (fun c8 => ?_) (fun c8 => ?_)
  · refine P.bipush (pc := 38) (v := -2) dX9_where_38 (by decide) ?_
    refine P.iret (pc := 40) dX9_where_40 rfl ?_
    first | exact pxI (by rw [o_where, if_pos c8', ck, pl_R R, xwb, eh, nI_clamp (by omega), bI_c (wet_R R h)]) R frX.rf | exact pxI (by rw [o_where, if_neg c8]) R frX.rf
  · have c8' := c8
    obtain ⟨a, ha, rfl⟩ := c8
    have ck := nI_clamp (n := a) (by omega)
    obtain ⟨-, -, q1, q2, -⟩ := I.2.2.1.2.1 a ha
    obtain ⟨h, -, hh, eh⟩ := xin_nat 39 (lo := 0) q1 q2 (by decide) (by decide)
    refine P.aload_n (pc := 11) 0 dX9_where_11 rfl rfl ?_
    refine P.getR (pc := 12) fl_X9_33 dX9_where_12 rfl rfl ?_
    refine P.iload_n (pc := 15) 1 dX9_where_15 rfl rfl ?_
    refine P.aload_n (pc := 16) 0 dX9_where_16 rfl rfl ?_
    refine P.getR (pc := 17) fl_X9_54 dX9_where_17 rfl rfl ?_
    refine P.aload_n (pc := 20) 0 dX9_where_20 rfl rfl ?_
    refine P.getR (pc := 21) fl_X9_33 dX9_where_21 rfl rfl ?_
    refine P.getR (pc := 24) fl_X9_157 dX9_where_24 rfl rfl ?_
    refine P.iload_n (pc := 27) 1 dX9_where_27 rfl rfl ?_
    refine P.iaN (pc := 28) _ dX9_where_28 rfl rfl rfl (by first | omega | grind [nT]) ?_
    rw [a2, eh]
    refine P.V1F (pc := 29) cs_X9_where_153 dX9_where_29 rfl rfl rfl (sp_X6_countsAsWet _ (by omega)) ?_
    refine P.V2F (pc := 32) cs_X9_where_161 dX9_where_32 rfl rfl rfl (sp_X7_place _ (by omega) _) ?_
    refine P.goto (pc := 35) 40 dX9_where_35 (by decide) ?_
    refine P.iret (pc := 40) dX9_where_40 rfl ?_
    first | exact pxI (by rw [o_where, if_pos c8', ck, pl_R R, xwb, eh, nI_clamp (by omega), bI_c (wet_R R h)]) R frX.rf | exact pxI (by rw [o_where, if_neg c8]) R frX.rf
