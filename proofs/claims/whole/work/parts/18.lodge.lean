theorem tsw_out {x : Int32} (k : Nat) (hk : k < 2 ^ 30) (h : ∀ j : Nat, j ≤ k → ¬ x = nI j) : x.toInt < 0 ∨ (k : Int) < x.toInt := by
  by_cases h1 : x.toInt < 0
  · exact Or.inl h1
  · by_cases h2 : (k : Int) < x.toInt
    · exact Or.inr h2
    · refine absurd ?_ (h x.toInt.toNat (by omega))
      apply Int32.toInt_inj.mp
      rw [nI_toInt (by omega)]; omega
def IvH (n : Nat → Nat) (σ : xM) : Prop := n 0 ≤ 30 ∧ n 1 ≤ 24 ∧ (∀ h, h < n 0 → 1 ≤ σ 4 h ∧ σ 4 h ≤ 8) ∧ (∀ p, p < n 1 → 1 ≤ σ 6 p ∧ σ 6 p ≤ 8) ∧ (∀ p, p < n 1 → σ 11 p = -1 ∨ ∃ h, h < n 0 ∧ σ 11 p = nI h) ∧ (∀ p, p < 24 → σ 12 (24 * p + p) = 2)
theorem Iv.H {n : Nat → Nat} {σ : xM} (I : Iv n σ) : IvH n σ := ⟨I.1.1, I.1.2.1, fun h hh => ⟨(I.1.2.2.1 h hh).2.2.1, (I.1.2.2.1 h hh).2.2.2⟩, fun p hp => ⟨(I.1.2.2.2.1 p hp).1, (I.1.2.2.2.1 p hp).2.1⟩, I.1.2.2.2.2.1, I.1.2.2.2.2.2.2⟩
theorem IvH.w {n : Nat → Nat} {σ : xM} (H : IvH n σ) {f : Nat → Int32} (hf : ∀ p, p < n 1 → f p = -1 ∨ ∃ h, h < n 0 ∧ f p = nI h) : IvH n (xw σ 11 f) := by
  refine ⟨H.1, H.2.1, ?_, ?_, ?_, ?_⟩
  · intro h hh; simp only [xw_ap, Nat.reduceEqDiff, ↓reduceIte]; exact H.2.2.1 h hh
  · intro h hh; simp only [xw_ap, Nat.reduceEqDiff, ↓reduceIte]; exact H.2.2.2.1 h hh
  · intro h hh; simp only [xw_ap, Nat.reduceEqDiff, ↓reduceIte]; exact hf h hh
  · intro h hh; simp only [xw_ap, Nat.reduceEqDiff, ↓reduceIte]; exact H.2.2.2.2.2 h hh
def xmeet (σ : xM) (p q : Nat) : Prop := σ 8 p ≤ σ 9 q ∧ σ 8 q ≤ σ 9 p
def xrow (σ : xM) (q : Nat) : Int32 := σ 3 (σ 11 q).toNatClampNeg
def xinr (σ : xM) (q : Nat) (r : Int32) : Prop := ¬ σ 11 q = -1 ∧ xrow σ q = r
def xmay (n : Nat → Nat) (σ : xM) (p h : Nat) : Prop := σ 6 p ≤ σ 4 h ∧ ∀ q, q < n 1 → ¬ q = p → xinr σ q (σ 3 h) → xmeet σ p q → ¬ (σ 11 q = nI h ∨ σ 12 (24 * p + q) = 1)
def xnext (n : Nat → Nat) (σ : xM) (p : Nat) (r : Int32) : Prop := ∃ q, q < n 1 ∧ σ 12 (24 * p + q) = 0 ∧ xinr σ q r ∧ xmeet σ p q
noncomputable def xkey (n : Nat → Nat) (σ : xM) (p h : Nat) : Int32 := @ite _ (xnext n σ p (σ 3 h)) (Classical.propDecidable _) (σ 4 h - σ 6 p) (σ 4 h - σ 6 p + 8)
noncomputable def xdr (n : Nat → Nat) (σ : xM) (p : Nat) (ok : Nat → Prop) : Nat → Int32
  | 0 => -1
  | h + 1 => @ite _ (ok h ∧ (xdr n σ p ok h = -1 ∨ xkey n σ p h < xkey n σ p (xdr n σ p ok h).toNatClampNeg)) (Classical.propDecidable _) (nI h) (xdr n σ p ok h)
theorem xdr_in (n : Nat → Nat) (σ : xM) (p : Nat) (ok : Nat → Prop) : ∀ m, xdr n σ p ok m = -1 ∨ ∃ h, h < m ∧ xdr n σ p ok m = nI h ∧ ok h
  | 0 => Or.inl rfl
  | m + 1 => by
    rw [xdr]
    by_cases h : ok m ∧ (xdr n σ p ok m = -1 ∨ xkey n σ p m < xkey n σ p (xdr n σ p ok m).toNatClampNeg)
    · rw [if_pos h]; exact Or.inr ⟨m, by omega, rfl, h.1⟩
    · rw [if_neg h]
      rcases xdr_in n σ p ok m with q | ⟨j, q1, q2⟩
      · exact Or.inl q
      · exact Or.inr ⟨j, by omega, q2⟩
theorem xdr_c {n : Nat → Nat} {σ : xM} {p : Nat} {ok ok' : Nat → Prop} : ∀ m, (∀ h, h < m → (ok h ↔ ok' h)) → xdr n σ p ok m = xdr n σ p ok' m
  | 0, _ => rfl
  | m + 1, h => by rw [xdr, xdr, xdr_c m (fun j hj => h j (by omega)), propext (h m (by omega))]
theorem xdr_no {n : Nat → Nat} {σ : xM} {p : Nat} {ok : Nat → Prop} : ∀ m, m < 1000 → xdr n σ p ok m = -1 → ∀ h, h < m → ¬ ok h
  | 0, _, _, h, hh => by omega
  | m + 1, hm, e, h, hh => by
    rw [xdr] at e
    by_cases c : ok m ∧ (xdr n σ p ok m = -1 ∨ xkey n σ p m < xkey n σ p (xdr n σ p ok m).toNatClampNeg)
    · rw [if_pos c] at e; grind [nT]
    · rw [if_neg c] at e
      by_cases e2 : h = m
      · subst e2; exact fun o => c ⟨o, Or.inl e⟩
      · exact xdr_no m (by omega) e h (by omega)
def xhut (σ : xM) (f : Nat → Int32) : xM := xw σ 11 f
noncomputable def xels (n : Nat → Nat) (σ : xM) (p q : Nat) : Int32 := xdr n (xw σ 11 (upd (upd (σ 11) q (-1)) p (σ 11 q))) q (xmay n (xw σ 11 (upd (upd (σ 11) q (-1)) p (σ 11 q))) q) (n 0)
/-- q gives its hut to p and finds another -/
def xgive (n : Nat → Nat) (σ : xM) (p q : Nat) : Prop := ¬ σ 11 q = -1 ∧ xmay n (xw σ 11 (upd (σ 11) q (-1))) p (σ 11 q).toNatClampNeg ∧ ¬ xels n σ p q = -1
noncomputable def xlk (n : Nat → Nat) (σ : xM) (p : Nat) : Nat → Nat → xO
  | 0, _ => (-1, n, σ)
  | k + 1, q => @ite _ (xgive n σ p q) (Classical.propDecidable _) (σ 11 q, n, xw (xw σ 11 (upd (upd (upd (σ 11) q (-1)) p (σ 11 q)) q (xels n σ p q))) 1 (upd (σ 1) 2 (nI q))) (xlk n σ p k (q + 1))
noncomputable def o_lodge (n : Nat → Nat) (σ : xM) (p : Int32) : xO :=
  @ite _ (¬ xin (n 1) p) (Classical.propDecidable _) (-2, n, σ) (if ¬ σ 11 p.toNatClampNeg = -1 then (-3, n, σ) else
  if ¬ xdr n σ p.toNatClampNeg (xmay n σ p.toNatClampNeg) (n 0) = -1 then (xdr n σ p.toNatClampNeg (xmay n σ p.toNatClampNeg) (n 0), n, xw (xw σ 11 (upd (σ 11) p.toNatClampNeg (xdr n σ p.toNatClampNeg (xmay n σ p.toNatClampNeg) (n 0)))) 1 (upd (σ 1) 2 (-1))) else
  xlk n σ p.toNatClampNeg (n 1) 0)
def o_hut (n : Nat → Nat) (σ : xM) (r b : Int32) : xO :=
  if ¬ (0 ≤ r ∧ r ≤ 5 ∧ 1 ≤ b ∧ b ≤ 8) then (-2, n, σ) else if n 0 = 30 then (-4, n, σ) else
  (nI (n 0), nup n 0 (n 0 + 1), xw (xw σ 3 (upd (σ 3) (n 0) r)) 4 (upd (σ 4) (n 0) b))
def o_party (n : Nat → Nat) (σ : xM) (z c f t b : Int32) : xO :=
  if ¬ (1 ≤ z ∧ z ≤ 8 ∧ 0 ≤ c ∧ c ≤ z ∧ 0 ≤ f ∧ f ≤ t ∧ t ≤ 9 ∧ -1 ≤ b ∧ b ≤ 9) then (-2, n, σ) else if n 1 = 24 then (-4, n, σ) else
  (nI (n 1), nup n 1 (n 1 + 1), xw (xw (xw (xw (xw σ 6 (upd (σ 6) (n 1) z)) 7 (upd (σ 7) (n 1) c)) 8 (upd (σ 8) (n 1) f)) 9 (upd (σ 9) (n 1) t)) 10 (upd (σ 10) (n 1) b))
noncomputable def o_tell (n : Nat → Nat) (σ : xM) (a b k : Int32) : xO :=
  @ite _ (¬ (xin (n 1) a ∧ xin (n 1) b ∧ ¬ a = b ∧ 0 ≤ k ∧ k ≤ 2)) (Classical.propDecidable _) (-2, n, σ) (@ite _ (k = 1 ∧ ¬ σ 11 a.toNatClampNeg = -1 ∧ xinr σ b.toNatClampNeg (xrow σ a.toNatClampNeg) ∧ xmeet σ a.toNatClampNeg b.toNatClampNeg) (Classical.propDecidable _) (-3, n, σ)
  (σ 12 (24 * a.toNatClampNeg + b.toNatClampNeg), n, xw σ 12 (upd (upd (σ 12) (24 * a.toNatClampNeg + b.toNatClampNeg) k) (24 * b.toNatClampNeg + a.toNatClampNeg) k)))
noncomputable def o_leave (n : Nat → Nat) (σ : xM) (p : Int32) : xO :=
  @ite _ (¬ xin (n 1) p) (Classical.propDecidable _) (-2, n, σ) (if σ 11 p.toNatClampNeg = -1 then (-3, n, σ) else (σ 11 p.toNatClampNeg, n, xw σ 11 (upd (σ 11) p.toNatClampNeg (-1))))
noncomputable def o_about (n : Nat → Nat) (σ : xM) (p w : Int32) : xO :=
  @ite _ (¬ xin (n 1) p) (Classical.propDecidable _) (-2, n, σ) (if w = 0 then σ 6 p.toNatClampNeg else if w = 1 then σ 7 p.toNatClampNeg else if w = 2 then σ 8 p.toNatClampNeg else if w = 3 then σ 9 p.toNatClampNeg else if w = 4 then σ 10 p.toNatClampNeg else if w = 5 then σ 11 p.toNatClampNeg else -2, n, σ)
noncomputable def xwho (σ : xM) (h w : Int32) : Nat → Nat → Int32
  | 0, _ => -1
  | k + 1, p => @ite _ (σ 11 p = h ∧ xthere σ w p) (Classical.propDecidable _) (nI p) (xwho σ h w k (p + 1))
noncomputable def xemp (n : Nat → Nat) (σ : xM) (w : Int32) : Nat → Int32
  | 0 => 0
  | h + 1 => if xwho σ (nI h) w (n 1) 0 = -1 then xemp n σ w h + σ 4 h else xemp n σ w h
noncomputable def o_in (n : Nat → Nat) (σ : xM) (h w : Int32) : xO := @ite _ (xin (n 0) h ∧ 0 ≤ w ∧ w ≤ 9) (Classical.propDecidable _) (xwho σ h w (n 1) 0, n, σ) (-2, n, σ)
noncomputable def o_empty (n : Nat → Nat) (σ : xM) (w : Int32) : xO := if ¬ (0 ≤ w ∧ w ≤ 9) then (-2, n, σ) else (xemp n σ w (n 0), n, σ)
theorem sp_X1_add' {n : Nat → Nat} {σ M : xM} (I : Iv n σ) (R : RX n σ M) (r b : Int32) : SpI mX1_add [.ref 2, .int r, .int b] M (PX (o_hut n σ r b) M) := by
  have hc : M 2 2 = nI (n 0) := R.2.2 (2, 2, 0) (by decide)
  have a1 := R.1 3 (by decide)
  have a2 := R.1 4 (by decide)
  have b1 : n 0 ≤ 30 := I.1.1
  refine P.iload_n (pc := 0) 1 dX1_add_0 rfl rfl ?_
  refine P.iconst (pc := 1) (v := 0) dX1_add_1 (by decide) ?_
  refine P.iconst (pc := 2) (v := 5) dX1_add_2 (by decide) ?_
  refine P.N3F (pc := 3) cs_X1_add_22 dX1_add_3 rfl rfl (sp_X9_within _ _ _ _) ?_
  refine P.ifeqB (pc := 6) 19 dX1_add_6 (by decide) (fun c6 => ?_) (fun c6 => ?_)
  · refine P.bipush (pc := 19) (v := -2) dX1_add_19 (by decide) ?_
    refine P.iret (pc := 21) dX1_add_21 rfl ?_
    exact pxI (by grind [o_hut]) R frX.rf
  · refine P.iload_n (pc := 9) 2 dX1_add_9 rfl rfl ?_
    refine P.iconst (pc := 10) (v := 1) dX1_add_10 (by decide) ?_
    refine P.bipush (pc := 11) (v := 8) dX1_add_11 (by decide) ?_
    refine P.N3F (pc := 13) cs_X1_add_22 dX1_add_13 rfl rfl (sp_X9_within _ _ _ _) ?_
    refine P.ifneB (pc := 16) 22 dX1_add_16 (by decide) (fun c16 => ?_) (fun c16 => ?_)
    · refine P.aload_n (pc := 22) 0 dX1_add_22 rfl rfl ?_
      refine P.getI (pc := 23) fl_X1_18 dX1_add_23 rfl rfl ?_
      refine P.bipush (pc := 26) (v := 30) dX1_add_26 (by decide) ?_
      refine P.iclt (pc := 28) 34 dX1_add_28 (by decide) (fun c28 => ?_) (fun c28 => ?_)
      · refine P.aload_n (pc := 34) 0 dX1_add_34 rfl rfl ?_
        refine P.getR (pc := 35) fl_X1_11 dX1_add_35 rfl rfl ?_
        refine P.aload_n (pc := 38) 0 dX1_add_38 rfl rfl ?_
        refine P.getI (pc := 39) fl_X1_18 dX1_add_39 rfl rfl ?_
        rw [hc]
        refine P.iload_n (pc := 42) 1 dX1_add_42 rfl rfl ?_
        refine P.isN (pc := 43) _ dX1_add_43 rfl rfl rfl (by first | omega | grind [nT]) ?_
        refine P.aload_n (pc := 44) 0 dX1_add_44 rfl rfl ?_
        refine P.getR (pc := 45) fl_X1_15 dX1_add_45 rfl rfl ?_
        refine P.aload_n (pc := 48) 0 dX1_add_48 rfl rfl ?_
        refine P.getI (pc := 49) fl_X1_18 dX1_add_49 rfl rfl ?_
        simp only [xw_ap, Nat.reduceEqDiff, ↓reduceIte, hc]
        refine P.iload_n (pc := 52) 2 dX1_add_52 rfl rfl ?_
        refine P.isN (pc := 53) _ dX1_add_53 rfl rfl rfl (by first | omega | grind [nT]) ?_
        refine P.aload_n (pc := 54) 0 dX1_add_54 rfl rfl ?_
        refine P.dup (pc := 55) dX1_add_55 rfl ?_
        refine P.getI (pc := 56) fl_X1_18 dX1_add_56 rfl rfl ?_
        simp only [xw_ap, Nat.reduceEqDiff, ↓reduceIte, hc]
        refine P.iconst (pc := 59) (v := 1) dX1_add_59 (by decide) ?_
        refine P.iadd (pc := 60) dX1_add_60 ?_
        refine P.put (pc := 61) fp_X1_18 dX1_add_61 rfl rfl ?_
        refine P.aload_n (pc := 64) 0 dX1_add_64 rfl rfl ?_
        refine P.getI (pc := 65) fl_X1_18 dX1_add_65 rfl rfl ?_
        simp only [xw_ap, upd_ap, Nat.reduceEqDiff, ↓reduceIte, hc]
        refine P.iconst (pc := 68) (v := 1) dX1_add_68 (by decide) ?_
        refine P.isub (pc := 69) dX1_add_69 ?_
        rw [nI_1, nI_pred]
        refine P.iret (pc := 70) dX1_add_70 rfl ?_
        rw [a1, a2]
        exact pxI (by rw [o_hut, if_neg (by grind), if_neg (by grind [nT])]) (((R.arr (by decide) _).arr (by decide) _).cnt (i := 0) (by decide) (n 0 + 1)) (((frX.rf.w (by decide) _).w (by decide) _).w (by decide) _)
      · refine P.bipush (pc := 31) (v := -4) dX1_add_31 (by decide) ?_
        refine P.iret (pc := 33) dX1_add_33 rfl ?_
        exact pxI (by grind [o_hut, nT]) R frX.rf
    · refine P.bipush (pc := 19) (v := -2) dX1_add_19 (by decide) ?_
      refine P.iret (pc := 21) dX1_add_21 rfl ?_
      exact pxI (by grind [o_hut]) R frX.rf
theorem sp_X9_hut {n : Nat → Nat} {σ M : xM} (I : Iv n σ) (R : RX n σ M) (r b : Int32) : SpI mX9_hut [.ref 0, .int r, .int b] M (PX (o_hut n σ r b) M) := by
  refine P.aload_n (pc := 0) 0 dX9_hut_0 rfl rfl ?_
  refine P.getR (pc := 1) fl_X9_10 dX9_hut_1 rfl rfl ?_
  refine P.getR (pc := 4) fl_X9_58 dX9_hut_4 rfl rfl ?_
  refine P.iload_n (pc := 7) 1 dX9_hut_7 rfl rfl ?_
  refine P.iload_n (pc := 8) 2 dX9_hut_8 rfl rfl ?_
  refine P.V2I (pc := 9) cs_X9_hut_62 dX9_hut_9 rfl rfl rfl (sp_X1_add' I R _ _) (fun v9 M9 h9 => ?_)
  refine P.iret (pc := 12) dX9_hut_12 rfl ?_
  exact ⟨_, rfl, h9⟩
theorem sp_X4_add {n : Nat → Nat} {σ M : xM} (I : Iv n σ) (R : RX n σ M) (z c f t b : Int32) : SpI mX4_add [.ref 5, .int z, .int c, .int f, .int t, .int b] M (PX (o_party n σ z c f t b) M) := by
  have hc : M 5 7 = nI (n 1) := R.2.2 (5, 7, 1) (by decide)
  have a1 := R.1 6 (by decide)
  have a2 := R.1 7 (by decide)
  have a3 := R.1 8 (by decide)
  have a4 := R.1 9 (by decide)
  have a5 := R.1 10 (by decide)
  have b1 : n 1 ≤ 24 := I.1.2.1
  refine P.iload_n (pc := 0) 1 dX4_add_0 rfl rfl ?_
  refine P.iconst (pc := 1) (v := 1) dX4_add_1 (by decide) ?_
  refine P.bipush (pc := 2) (v := 8) dX4_add_2 (by decide) ?_
  refine P.N3F (pc := 4) cs_X4_add_43 dX4_add_4 rfl rfl (sp_X9_within _ _ _ _) ?_
  refine P.ifeqB (pc := 7) 51 dX4_add_7 (by decide) (fun c7 => ?_) (fun c7 => ?_)
  · refine P.bipush (pc := 51) (v := -2) dX4_add_51 (by decide) ?_
    refine P.iret (pc := 53) dX4_add_53 rfl ?_
    exact pxI (by grind [o_party]) R frX.rf
  · refine P.iload_n (pc := 10) 2 dX4_add_10 rfl rfl ?_
    refine P.iconst (pc := 11) (v := 0) dX4_add_11 (by decide) ?_
    refine P.iload_n (pc := 12) 1 dX4_add_12 rfl rfl ?_
    refine P.N3F (pc := 13) cs_X4_add_43 dX4_add_13 rfl rfl (sp_X9_within _ _ _ _) ?_
    refine P.ifeqB (pc := 16) 51 dX4_add_16 (by decide) (fun c16 => ?_) (fun c16 => ?_)
    · refine P.bipush (pc := 51) (v := -2) dX4_add_51 (by decide) ?_
      refine P.iret (pc := 53) dX4_add_53 rfl ?_
      exact pxI (by grind [o_party]) R frX.rf
    · refine P.iload_n (pc := 19) 3 dX4_add_19 rfl rfl ?_
      refine P.N1F (pc := 20) cs_X4_add_47 dX4_add_20 rfl rfl (sp_X9_isWeek _ _) ?_
      refine P.ifeqB (pc := 23) 51 dX4_add_23 (by decide) (fun c23 => ?_) (fun c23 => ?_)
      · refine P.bipush (pc := 51) (v := -2) dX4_add_51 (by decide) ?_
        refine P.iret (pc := 53) dX4_add_53 rfl ?_
        exact pxI (by grind [o_party]) R frX.rf
      · refine P.iload (pc := 26) 4 dX4_add_26 rfl ?_
        refine P.N1F (pc := 28) cs_X4_add_47 dX4_add_28 rfl rfl (sp_X9_isWeek _ _) ?_
        refine P.ifeqB (pc := 31) 51 dX4_add_31 (by decide) (fun c31 => ?_) (fun c31 => ?_)
        · refine P.bipush (pc := 51) (v := -2) dX4_add_51 (by decide) ?_
          refine P.iret (pc := 53) dX4_add_53 rfl ?_
          exact pxI (by grind [o_party]) R frX.rf
        · refine P.iload_n (pc := 34) 3 dX4_add_34 rfl rfl ?_
          refine P.iload (pc := 35) 4 dX4_add_35 rfl ?_
          refine P.icgt (pc := 37) 51 dX4_add_37 (by decide) (fun c37 => ?_) (fun c37 => ?_)
          · refine P.bipush (pc := 51) (v := -2) dX4_add_51 (by decide) ?_
            refine P.iret (pc := 53) dX4_add_53 rfl ?_
            exact pxI (by grind [o_party]) R frX.rf
          · refine P.iload (pc := 40) 5 dX4_add_40 rfl ?_
            refine P.iconst (pc := 42) (v := -1) dX4_add_42 (by decide) ?_
            refine P.bipush (pc := 43) (v := 9) dX4_add_43 (by decide) ?_
            refine P.N3F (pc := 45) cs_X4_add_43 dX4_add_45 rfl rfl (sp_X9_within _ _ _ _) ?_
            refine P.ifneB (pc := 48) 54 dX4_add_48 (by decide) (fun c48 => ?_) (fun c48 => ?_)
            · refine P.aload_n (pc := 54) 0 dX4_add_54 rfl rfl ?_
              refine P.getI (pc := 55) fl_X4_33 dX4_add_55 rfl rfl ?_
              refine P.bipush (pc := 58) (v := 24) dX4_add_58 (by decide) ?_
              refine P.iclt (pc := 60) 66 dX4_add_60 (by decide) (fun c60 => ?_) (fun c60 => ?_)
              · refine P.aload_n (pc := 66) 0 dX4_add_66 rfl rfl ?_
                refine P.getR (pc := 67) fl_X4_11 dX4_add_67 rfl rfl ?_
                refine P.aload_n (pc := 70) 0 dX4_add_70 rfl rfl ?_
                refine P.getI (pc := 71) fl_X4_33 dX4_add_71 rfl rfl ?_
                rw [hc]
                refine P.iload_n (pc := 74) 1 dX4_add_74 rfl rfl ?_
                refine P.isN (pc := 75) _ dX4_add_75 rfl rfl rfl (by first | omega | grind [nT]) ?_
                refine P.aload_n (pc := 76) 0 dX4_add_76 rfl rfl ?_
                refine P.getR (pc := 77) fl_X4_15 dX4_add_77 rfl rfl ?_
                refine P.aload_n (pc := 80) 0 dX4_add_80 rfl rfl ?_
                refine P.getI (pc := 81) fl_X4_33 dX4_add_81 rfl rfl ?_
                simp only [xw_ap, Nat.reduceEqDiff, ↓reduceIte, hc]
                refine P.iload_n (pc := 84) 2 dX4_add_84 rfl rfl ?_
                refine P.isN (pc := 85) _ dX4_add_85 rfl rfl rfl (by first | omega | grind [nT]) ?_
                refine P.aload_n (pc := 86) 0 dX4_add_86 rfl rfl ?_
                refine P.getR (pc := 87) fl_X4_18 dX4_add_87 rfl rfl ?_
                refine P.aload_n (pc := 90) 0 dX4_add_90 rfl rfl ?_
                refine P.getI (pc := 91) fl_X4_33 dX4_add_91 rfl rfl ?_
                simp only [xw_ap, Nat.reduceEqDiff, ↓reduceIte, hc]
                refine P.iload_n (pc := 94) 3 dX4_add_94 rfl rfl ?_
                refine P.isN (pc := 95) _ dX4_add_95 rfl rfl rfl (by first | omega | grind [nT]) ?_
                refine P.aload_n (pc := 96) 0 dX4_add_96 rfl rfl ?_
                refine P.getR (pc := 97) fl_X4_21 dX4_add_97 rfl rfl ?_
                refine P.aload_n (pc := 100) 0 dX4_add_100 rfl rfl ?_
                refine P.getI (pc := 101) fl_X4_33 dX4_add_101 rfl rfl ?_
                simp only [xw_ap, Nat.reduceEqDiff, ↓reduceIte, hc]
                refine P.iload (pc := 104) 4 dX4_add_104 rfl ?_
                refine P.isN (pc := 106) _ dX4_add_106 rfl rfl rfl (by first | omega | grind [nT]) ?_
                refine P.aload_n (pc := 107) 0 dX4_add_107 rfl rfl ?_
                refine P.getR (pc := 108) fl_X4_24 dX4_add_108 rfl rfl ?_
                refine P.aload_n (pc := 111) 0 dX4_add_111 rfl rfl ?_
                refine P.getI (pc := 112) fl_X4_33 dX4_add_112 rfl rfl ?_
                simp only [xw_ap, Nat.reduceEqDiff, ↓reduceIte, hc]
                refine P.iload (pc := 115) 5 dX4_add_115 rfl ?_
                refine P.isN (pc := 117) _ dX4_add_117 rfl rfl rfl (by first | omega | grind [nT]) ?_
                refine P.aload_n (pc := 118) 0 dX4_add_118 rfl rfl ?_
                refine P.dup (pc := 119) dX4_add_119 rfl ?_
                refine P.getI (pc := 120) fl_X4_33 dX4_add_120 rfl rfl ?_
                simp only [xw_ap, Nat.reduceEqDiff, ↓reduceIte, hc]
                refine P.iconst (pc := 123) (v := 1) dX4_add_123 (by decide) ?_
                refine P.iadd (pc := 124) dX4_add_124 ?_
                refine P.put (pc := 125) fp_X4_33 dX4_add_125 rfl rfl ?_
                refine P.aload_n (pc := 128) 0 dX4_add_128 rfl rfl ?_
                refine P.getI (pc := 129) fl_X4_33 dX4_add_129 rfl rfl ?_
                simp only [xw_ap, upd_ap, Nat.reduceEqDiff, ↓reduceIte, hc]
                refine P.iconst (pc := 132) (v := 1) dX4_add_132 (by decide) ?_
                refine P.isub (pc := 133) dX4_add_133 ?_
                rw [nI_1, nI_pred]
                refine P.iret (pc := 134) dX4_add_134 rfl ?_
                rw [a1, a2, a3, a4, a5]
                exact pxI (by rw [o_party, if_neg (by grind), if_neg (by grind [nT])]) ((((((R.arr (by decide) _).arr (by decide) _).arr (by decide) _).arr (by decide) _).arr (by decide) _).cnt (i := 1) (by decide) (n 1 + 1)) ((((((frX.rf.w (by decide) _).w (by decide) _).w (by decide) _).w (by decide) _).w (by decide) _).w (by decide) _)
              · refine P.bipush (pc := 63) (v := -4) dX4_add_63 (by decide) ?_
                refine P.iret (pc := 65) dX4_add_65 rfl ?_
                exact pxI (by grind [o_party, nT]) R frX.rf
            · refine P.bipush (pc := 51) (v := -2) dX4_add_51 (by decide) ?_
              refine P.iret (pc := 53) dX4_add_53 rfl ?_
              exact pxI (by grind [o_party]) R frX.rf
theorem sp_X9_party {n : Nat → Nat} {σ M : xM} (I : Iv n σ) (R : RX n σ M) (z c f t b : Int32) : SpI mX9_party [.ref 0, .int z, .int c, .int f, .int t, .int b] M (PX (o_party n σ z c f t b) M) := by
  refine P.aload_n (pc := 0) 0 dX9_party_0 rfl rfl ?_
  refine P.getR (pc := 1) fl_X9_10 dX9_party_1 rfl rfl ?_
  refine P.getR (pc := 4) fl_X9_68 dX9_party_4 rfl rfl ?_
  refine P.iload_n (pc := 7) 1 dX9_party_7 rfl rfl ?_
  refine P.iload_n (pc := 8) 2 dX9_party_8 rfl rfl ?_
  refine P.iload_n (pc := 9) 3 dX9_party_9 rfl rfl ?_
  refine P.iload (pc := 10) 4 dX9_party_10 rfl ?_
  refine P.iload (pc := 12) 5 dX9_party_12 rfl ?_
  refine P.V5I (pc := 14) cs_X9_party_72 dX9_party_14 rfl rfl rfl (sp_X4_add I R _ _ _ _ _) (fun v14 M14 h14 => ?_)
  refine P.iret (pc := 17) dX9_party_17 rfl ?_
  exact ⟨_, rfl, h14⟩
theorem sp_X4_shareWeek (M : xM) {p q : Nat} (hp : p < 24) (hq : q < 24) : SpF mX4_shareWeek [.ref 5, .int (nI p), .int (nI q)] M (bI (xmeet M p q)) := by
  refine P.aload_n (pc := 0) 0 dX4_shareWeek_0 rfl rfl ?_
  refine P.getR (pc := 1) fl_X4_18 dX4_shareWeek_1 rfl rfl ?_
  refine P.iload_n (pc := 4) 1 dX4_shareWeek_4 rfl rfl ?_
  refine P.iaN (pc := 5) _ dX4_shareWeek_5 rfl rfl rfl (by first | omega | grind [nT]) ?_
  refine P.aload_n (pc := 6) 0 dX4_shareWeek_6 rfl rfl ?_
  refine P.getR (pc := 7) fl_X4_21 dX4_shareWeek_7 rfl rfl ?_
  refine P.iload_n (pc := 10) 2 dX4_shareWeek_10 rfl rfl ?_
  refine P.iaN (pc := 11) _ dX4_shareWeek_11 rfl rfl rfl (by first | omega | grind [nT]) ?_
  refine P.icgt (pc := 12) 34 dX4_shareWeek_12 (by decide) (fun c12 => ?_) (fun c12 => ?_)
  · refine P.iconst (pc := 34) (v := 0) dX4_shareWeek_34 (by decide) ?_
    refine P.zret (pc := 35) dX4_shareWeek_35 rfl (by decide) ?_
    first | exact xt ⟨by grind, by grind⟩ | exact xf (by unfold xmeet; grind)
  · refine P.aload_n (pc := 15) 0 dX4_shareWeek_15 rfl rfl ?_
    refine P.getR (pc := 16) fl_X4_18 dX4_shareWeek_16 rfl rfl ?_
    refine P.iload_n (pc := 19) 2 dX4_shareWeek_19 rfl rfl ?_
    refine P.iaN (pc := 20) _ dX4_shareWeek_20 rfl rfl rfl (by first | omega | grind [nT]) ?_
    refine P.aload_n (pc := 21) 0 dX4_shareWeek_21 rfl rfl ?_
    refine P.getR (pc := 22) fl_X4_21 dX4_shareWeek_22 rfl rfl ?_
    refine P.iload_n (pc := 25) 1 dX4_shareWeek_25 rfl rfl ?_
    refine P.iaN (pc := 26) _ dX4_shareWeek_26 rfl rfl rfl (by first | omega | grind [nT]) ?_
    refine P.icgt (pc := 27) 34 dX4_shareWeek_27 (by decide) (fun c27 => ?_) (fun c27 => ?_)
    · refine P.iconst (pc := 34) (v := 0) dX4_shareWeek_34 (by decide) ?_
      refine P.zret (pc := 35) dX4_shareWeek_35 rfl (by decide) ?_
      first | exact xt ⟨by grind, by grind⟩ | exact xf (by unfold xmeet; grind)
    · refine P.iconst (pc := 30) (v := 1) dX4_shareWeek_30 (by decide) ?_
      refine P.goto (pc := 31) 35 dX4_shareWeek_31 (by decide) ?_
      refine P.zret (pc := 35) dX4_shareWeek_35 rfl (by decide) ?_
      first | exact xt ⟨by grind, by grind⟩ | exact xf (by unfold xmeet; grind)
theorem sp_X4_areTold (M : xM) {p q : Nat} (hp : p < 24) (hq : q < 24) (k : Int32) : SpF mX4_areTold [.ref 5, .int (nI p), .int (nI q), .int k] M (bI (M 12 (24 * p + q) = k)) := by
  refine P.aload_n (pc := 0) 0 dX4_areTold_0 rfl rfl ?_
  refine P.getR (pc := 1) fl_X4_30 dX4_areTold_1 rfl rfl ?_
  refine P.iload_n (pc := 4) 1 dX4_areTold_4 rfl rfl ?_
  refine P.bipush (pc := 5) (v := 24) dX4_areTold_5 (by decide) ?_
  refine P.imul (pc := 7) dX4_areTold_7 ?_
  refine P.iload_n (pc := 8) 2 dX4_areTold_8 rfl rfl ?_
  refine P.iadd (pc := 9) dX4_areTold_9 ?_
  refine P.iaN (pc := 10) (24 * p + q) dX4_areTold_10 rfl rfl (by rw [nlit, pk_mul, nI_add, Nat.mul_comm]) (by first | omega | grind [nT]) ?_
  refine P.iload_n (pc := 11) 3 dX4_areTold_11 rfl rfl ?_
  refine P.icne (pc := 12) 19 dX4_areTold_12 (by decide) (fun c12 => ?_) (fun c12 => ?_)
  · refine P.iconst (pc := 19) (v := 0) dX4_areTold_19 (by decide) ?_
    refine P.zret (pc := 20) dX4_areTold_20 rfl (by decide) ?_
    first | exact xt (by assumption) | exact xf (by assumption)
  · refine P.iconst (pc := 15) (v := 1) dX4_areTold_15 (by decide) ?_
    refine P.goto (pc := 16) 20 dX4_areTold_16 (by decide) ?_
    refine P.zret (pc := 20) dX4_areTold_20 rfl (by decide) ?_
    first | exact xt (by assumption) | exact xf (by assumption)
theorem sp_X4_setTold (M : xM) {p q : Nat} (hp : p < 24) (hq : q < 24) (k : Int32) : SpI mX4_setTold [.ref 5, .int (nI p), .int (nI q), .int k] M (fun v M' => v = M 12 (24 * p + q) ∧ M' = xw M 12 (upd (upd (M 12) (24 * p + q) k) (24 * q + p) k)) := by
  refine P.aload_n (pc := 0) 0 dX4_setTold_0 rfl rfl ?_
  refine P.getR (pc := 1) fl_X4_30 dX4_setTold_1 rfl rfl ?_
  refine P.iload_n (pc := 4) 1 dX4_setTold_4 rfl rfl ?_
  refine P.bipush (pc := 5) (v := 24) dX4_setTold_5 (by decide) ?_
  refine P.imul (pc := 7) dX4_setTold_7 ?_
  refine P.iload_n (pc := 8) 2 dX4_setTold_8 rfl rfl ?_
  refine P.iadd (pc := 9) dX4_setTold_9 ?_
  refine P.iaN (pc := 10) (24 * p + q) dX4_setTold_10 rfl rfl (by rw [nlit, pk_mul, nI_add, Nat.mul_comm]) (by first | omega | grind [nT]) ?_
  refine P.istore (pc := 11) 4 dX4_setTold_11 (by decide) rfl ?_
  refine P.aload_n (pc := 13) 0 dX4_setTold_13 rfl rfl ?_
  refine P.getR (pc := 14) fl_X4_30 dX4_setTold_14 rfl rfl ?_
  refine P.iload_n (pc := 17) 1 dX4_setTold_17 rfl rfl ?_
  refine P.bipush (pc := 18) (v := 24) dX4_setTold_18 (by decide) ?_
  refine P.imul (pc := 20) dX4_setTold_20 ?_
  refine P.iload_n (pc := 21) 2 dX4_setTold_21 rfl rfl ?_
  refine P.iadd (pc := 22) dX4_setTold_22 ?_
  refine P.iload_n (pc := 23) 3 dX4_setTold_23 rfl rfl ?_
  refine P.isN (pc := 24) (24 * p + q) dX4_setTold_24 rfl rfl (by rw [nlit, pk_mul, nI_add, Nat.mul_comm]) (by first | omega | grind [nT]) ?_
  refine P.aload_n (pc := 25) 0 dX4_setTold_25 rfl rfl ?_
  refine P.getR (pc := 26) fl_X4_30 dX4_setTold_26 rfl rfl ?_
  refine P.iload_n (pc := 29) 2 dX4_setTold_29 rfl rfl ?_
  refine P.bipush (pc := 30) (v := 24) dX4_setTold_30 (by decide) ?_
  refine P.imul (pc := 32) dX4_setTold_32 ?_
  refine P.iload_n (pc := 33) 1 dX4_setTold_33 rfl rfl ?_
  refine P.iadd (pc := 34) dX4_setTold_34 ?_
  refine P.iload_n (pc := 35) 3 dX4_setTold_35 rfl rfl ?_
  refine P.isN (pc := 36) (24 * q + p) dX4_setTold_36 rfl rfl (by rw [nlit, pk_mul, nI_add, Nat.mul_comm]) (by first | omega | grind [nT]) ?_
  refine P.iload (pc := 37) 4 dX4_setTold_37 rfl ?_
  refine P.iret (pc := 39) dX4_setTold_39 rfl ?_
  exact ⟨_, rfl, rfl, by rw [xw_xw, xw_s]⟩
theorem sp_X4_giveUpHut {n : Nat → Nat} {σ M : xM} (I : Iv n σ) (R : RX n σ M) (p : Int32) : SpI mX4_giveUpHut [.ref 5, .int p] M (PX (o_leave n σ p) M) := by
  have hc : M 5 7 = nI (n 1) := R.2.2 (5, 7, 1) (by decide)
  have b1 : n 1 ≤ 24 := I.1.2.1
  have a1 := R.1 11 (by decide)
  refine P.aload_n (pc := 0) 0 dX4_giveUpHut_0 rfl rfl ?_
  refine P.iload_n (pc := 1) 1 dX4_giveUpHut_1 rfl rfl ?_
  refine P.V1F (pc := 2) cs_X4_giveUpHut_54 dX4_giveUpHut_2 rfl rfl rfl (sp_X4_has hc b1 _) ?_
  refine P.ifneB (pc := 5) 11 dX4_giveUpHut_5 (by decide) (fun c5 => ?_) (fun c5 => ?_)
  · have c5' := c5
    obtain ⟨a, ha, rfl⟩ := c5
    have ck := nI_clamp (n := a) (by omega)
    refine P.aload_n (pc := 11) 0 dX4_giveUpHut_11 rfl rfl ?_
    refine P.iload_n (pc := 12) 1 dX4_giveUpHut_12 rfl rfl ?_
    refine P.V1F (pc := 13) cs_X4_giveUpHut_51 dX4_giveUpHut_13 rfl rfl rfl (sp_X4_isLodged _ (by omega)) ?_
    refine P.ifneB (pc := 16) 22 dX4_giveUpHut_16 (by decide) (fun c16 => ?_) (fun c16 => ?_)
    · refine P.aload_n (pc := 22) 0 dX4_giveUpHut_22 rfl rfl ?_
      refine P.getR (pc := 23) fl_X4_27 dX4_giveUpHut_23 rfl rfl ?_
      refine P.iload_n (pc := 26) 1 dX4_giveUpHut_26 rfl rfl ?_
      refine P.iaN (pc := 27) _ dX4_giveUpHut_27 rfl rfl rfl (by first | omega | grind [nT]) ?_
      refine P.istore_n (pc := 28) 2 dX4_giveUpHut_28 rfl (by decide) rfl ?_
      refine P.aload_n (pc := 29) 0 dX4_giveUpHut_29 rfl rfl ?_
      refine P.getR (pc := 30) fl_X4_27 dX4_giveUpHut_30 rfl rfl ?_
      refine P.iload_n (pc := 33) 1 dX4_giveUpHut_33 rfl rfl ?_
      refine P.iconst (pc := 34) (v := -1) dX4_giveUpHut_34 (by decide) ?_
      refine P.isN (pc := 35) _ dX4_giveUpHut_35 rfl rfl rfl (by first | omega | grind [nT]) ?_
      refine P.iload_n (pc := 36) 2 dX4_giveUpHut_36 rfl rfl ?_
      refine P.iret (pc := 37) dX4_giveUpHut_37 rfl ?_
      rw [a1]
      exact pxI (by rw [o_leave, if_neg (fun q => q c5'), ck, if_neg (by grind)]) (R.arr (by decide) _) (frX.rf.w (by decide) _)
    · refine P.bipush (pc := 19) (v := -3) dX4_giveUpHut_19 (by decide) ?_
      refine P.iret (pc := 21) dX4_giveUpHut_21 rfl ?_
      exact pxI (by rw [o_leave, if_neg (fun q => q c5'), ck, if_pos (by grind)]) R frX.rf
  · refine P.bipush (pc := 8) (v := -2) dX4_giveUpHut_8 (by decide) ?_
    refine P.iret (pc := 10) dX4_giveUpHut_10 rfl ?_
    exact pxI (by rw [o_leave, if_pos c5]) R frX.rf
theorem sp_X9_leave {n : Nat → Nat} {σ M : xM} (I : Iv n σ) (R : RX n σ M) (p : Int32) : SpI mX9_leave [.ref 0, .int p] M (PX (o_leave n σ p) M) := by
  refine P.aload_n (pc := 0) 0 dX9_leave_0 rfl rfl ?_
  refine P.getR (pc := 1) fl_X9_10 dX9_leave_1 rfl rfl ?_
  refine P.getR (pc := 4) fl_X9_68 dX9_leave_4 rfl rfl ?_
  refine P.iload_n (pc := 7) 1 dX9_leave_7 rfl rfl ?_
  refine P.V1I (pc := 8) cs_X9_leave_89 dX9_leave_8 rfl rfl rfl (sp_X4_giveUpHut I R _) (fun v8 M8 h8 => ?_)
  refine P.iret (pc := 11) dX9_leave_11 rfl ?_
  exact ⟨_, rfl, h8⟩
theorem sp_X4_fact {n : Nat → Nat} {σ M : xM} (I : Iv n σ) (R : RX n σ M) (p w : Int32) : SpI mX4_fact [.ref 5, .int p, .int w] M (PX (o_about n σ p w) M) := by
  have hc : M 5 7 = nI (n 1) := R.2.2 (5, 7, 1) (by decide)
  have b1 : n 1 ≤ 24 := I.1.2.1
  have a1 := R.1 6 (by decide)
  have a2 := R.1 7 (by decide)
  have a3 := R.1 8 (by decide)
  have a4 := R.1 9 (by decide)
  have a5 := R.1 10 (by decide)
  have a6 := R.1 11 (by decide)
  refine P.aload_n (pc := 0) 0 dX4_fact_0 rfl rfl ?_
  refine P.iload_n (pc := 1) 1 dX4_fact_1 rfl rfl ?_
  refine P.V1F (pc := 2) cs_X4_fact_54 dX4_fact_2 rfl rfl rfl (sp_X4_has hc b1 _) ?_
  refine P.ifneB (pc := 5) 11 dX4_fact_5 (by decide) (fun c5 => ?_) (fun c5 => ?_)
  · have c5' := c5
    obtain ⟨a, ha, rfl⟩ := c5
    have ck := nI_clamp (n := a) (by omega)
    refine P.iload_n (pc := 11) 2 dX4_fact_11 rfl rfl ?_
    by_cases q0 : w = 0
    · subst q0
      refine P.tswIn (pc := 12) 52 dX4_fact_12 (by decide) (by decide) rfl (by decide) ?_
      refine P.aload_n (pc := 52) 0 dX4_fact_52 rfl rfl ?_
      refine P.getR (pc := 53) fl_X4_11 dX4_fact_53 rfl rfl ?_
      refine P.iload_n (pc := 56) 1 dX4_fact_56 rfl rfl ?_
      refine P.iaN (pc := 57) _ dX4_fact_57 rfl rfl rfl (by first | omega | grind [nT]) ?_
      refine P.iret (pc := 58) dX4_fact_58 rfl ?_
      exact pxI (by rw [o_about, if_neg (fun q => q c5'), ck, a1]; rfl) R frX.rf
    by_cases q1 : w = 1
    · subst q1
      refine P.tswIn (pc := 12) 59 dX4_fact_12 (by decide) (by decide) rfl (by decide) ?_
      refine P.aload_n (pc := 59) 0 dX4_fact_59 rfl rfl ?_
      refine P.getR (pc := 60) fl_X4_15 dX4_fact_60 rfl rfl ?_
      refine P.iload_n (pc := 63) 1 dX4_fact_63 rfl rfl ?_
      refine P.iaN (pc := 64) _ dX4_fact_64 rfl rfl rfl (by first | omega | grind [nT]) ?_
      refine P.iret (pc := 65) dX4_fact_65 rfl ?_
      exact pxI (by rw [o_about, if_neg (fun q => q c5'), ck, a2]; rfl) R frX.rf
    by_cases q2 : w = 2
    · subst q2
      refine P.tswIn (pc := 12) 66 dX4_fact_12 (by decide) (by decide) rfl (by decide) ?_
      refine P.aload_n (pc := 66) 0 dX4_fact_66 rfl rfl ?_
      refine P.getR (pc := 67) fl_X4_18 dX4_fact_67 rfl rfl ?_
      refine P.iload_n (pc := 70) 1 dX4_fact_70 rfl rfl ?_
      refine P.iaN (pc := 71) _ dX4_fact_71 rfl rfl rfl (by first | omega | grind [nT]) ?_
      refine P.iret (pc := 72) dX4_fact_72 rfl ?_
      exact pxI (by rw [o_about, if_neg (fun q => q c5'), ck, a3]; rfl) R frX.rf
    by_cases q3 : w = 3
    · subst q3
      refine P.tswIn (pc := 12) 73 dX4_fact_12 (by decide) (by decide) rfl (by decide) ?_
      refine P.aload_n (pc := 73) 0 dX4_fact_73 rfl rfl ?_
      refine P.getR (pc := 74) fl_X4_21 dX4_fact_74 rfl rfl ?_
      refine P.iload_n (pc := 77) 1 dX4_fact_77 rfl rfl ?_
      refine P.iaN (pc := 78) _ dX4_fact_78 rfl rfl rfl (by first | omega | grind [nT]) ?_
      refine P.iret (pc := 79) dX4_fact_79 rfl ?_
      exact pxI (by rw [o_about, if_neg (fun q => q c5'), ck, a4]; rfl) R frX.rf
    by_cases q4 : w = 4
    · subst q4
      refine P.tswIn (pc := 12) 80 dX4_fact_12 (by decide) (by decide) rfl (by decide) ?_
      refine P.aload_n (pc := 80) 0 dX4_fact_80 rfl rfl ?_
      refine P.getR (pc := 81) fl_X4_24 dX4_fact_81 rfl rfl ?_
      refine P.iload_n (pc := 84) 1 dX4_fact_84 rfl rfl ?_
      refine P.iaN (pc := 85) _ dX4_fact_85 rfl rfl rfl (by first | omega | grind [nT]) ?_
      refine P.iret (pc := 86) dX4_fact_86 rfl ?_
      exact pxI (by rw [o_about, if_neg (fun q => q c5'), ck, a5]; rfl) R frX.rf
    by_cases q5 : w = 5
    · subst q5
      refine P.tswIn (pc := 12) 87 dX4_fact_12 (by decide) (by decide) rfl (by decide) ?_
      refine P.aload_n (pc := 87) 0 dX4_fact_87 rfl rfl ?_
      refine P.getR (pc := 88) fl_X4_27 dX4_fact_88 rfl rfl ?_
      refine P.iload_n (pc := 91) 1 dX4_fact_91 rfl rfl ?_
      refine P.iaN (pc := 92) _ dX4_fact_92 rfl rfl rfl (by first | omega | grind [nT]) ?_
      refine P.iret (pc := 93) dX4_fact_93 rfl ?_
      exact pxI (by rw [o_about, if_neg (fun q => q c5'), ck, a6]; rfl) R frX.rf
    refine P.tswOut (pc := 12) 94 dX4_fact_12 (tsw_out 5 (by omega) (fun j hj => by rcases (show j = 0 ∨ j = 1 ∨ j = 2 ∨ j = 3 ∨ j = 4 ∨ j = 5 by omega) with rfl | rfl | rfl | rfl | rfl | rfl <;> first | exact q0 | exact q1 | exact q2 | exact q3 | exact q4 | exact q5)) (by decide) ?_
    refine P.bipush (pc := 94) (v := -2) dX4_fact_94 (by decide) ?_
    refine P.iret (pc := 96) dX4_fact_96 rfl ?_
    exact pxI (by rw [o_about, if_neg (fun q => q c5'), if_neg q0, if_neg q1, if_neg q2, if_neg q3, if_neg q4, if_neg q5]) R frX.rf
  · refine P.bipush (pc := 8) (v := -2) dX4_fact_8 (by decide) ?_
    refine P.iret (pc := 10) dX4_fact_10 rfl ?_
    exact pxI (by rw [o_about, if_pos c5]) R frX.rf
theorem sp_X9_about {n : Nat → Nat} {σ M : xM} (I : Iv n σ) (R : RX n σ M) (p w : Int32) : SpI mX9_about [.ref 0, .int p, .int w] M (PX (o_about n σ p w) M) := by
  refine P.aload_n (pc := 0) 0 dX9_about_0 rfl rfl ?_
  refine P.getR (pc := 1) fl_X9_10 dX9_about_1 rfl rfl ?_
  refine P.getR (pc := 4) fl_X9_68 dX9_about_4 rfl rfl ?_
  refine P.iload_n (pc := 7) 1 dX9_about_7 rfl rfl ?_
  refine P.iload_n (pc := 8) 2 dX9_about_8 rfl rfl ?_
  refine P.V2I (pc := 9) cs_X9_about_92 dX9_about_9 rfl rfl rfl (sp_X4_fact I R _ _) (fun v9 M9 h9 => ?_)
  refine P.iret (pc := 12) dX9_about_12 rfl ?_
  exact ⟨_, rfl, h9⟩
/-- a lodged one's hut, as a number -/
theorem hut_at {n : Nat → Nat} {σ M : xM} (H : IvH n σ) (R : RX n σ M) {q : Nat} (hq : q < n 1) (h : ¬ M 11 q = -1) : ∃ a, a < n 0 ∧ M 11 q = nI a ∧ (σ 11 q).toNatClampNeg = a := by
  have e : M 11 q = σ 11 q := by rw [R.1 11 (by decide)]
  rcases H.2.2.2.2.1 q hq with z | ⟨a, ha, z⟩
  · exact absurd (e.trans z) h
  · exact ⟨a, ha, e.trans z, by rw [z]; exact nI_clamp (by have := H.1; omega)⟩
theorem sp_X3_isInRow {n : Nat → Nat} {σ M : xM} (H : IvH n σ) (R : RX n σ M) {q : Nat} (hq : q < n 1) (r : Int32) : SpF mX3_isInRow [.ref 1, .int (nI q), .int r] M (bI (xinr σ q r)) := by
  have b1 : n 1 ≤ 24 := H.2.1
  have b0 : n 0 ≤ 30 := H.1
  have a1 := R.1 11 (by decide)
  have a2 := R.1 3 (by decide)
  refine P.aload_n (pc := 0) 0 dX3_isInRow_0 rfl rfl ?_
  refine P.getR (pc := 1) fl_X3_21 dX3_isInRow_1 rfl rfl ?_
  refine P.getR (pc := 4) fl_X3_52 dX3_isInRow_4 rfl rfl ?_
  refine P.iload_n (pc := 7) 1 dX3_isInRow_7 rfl rfl ?_
  refine P.iaN (pc := 8) _ dX3_isInRow_8 rfl rfl rfl (by first | omega | grind [nT]) ?_
  refine P.istore_n (pc := 9) 3 dX3_isInRow_9 rfl (by decide) rfl ?_
  refine P.iload_n (pc := 10) 3 dX3_isInRow_10 rfl rfl ?_
  refine P.iconst (pc := 11) (v := -1) dX3_isInRow_11 (by decide) ?_
  refine P.iceq (pc := 12) 32 dX3_isInRow_12 (by decide) (fun c12 => ?_) (fun c12 => ?_)
  · refine P.iconst (pc := 32) (v := 0) dX3_isInRow_32 (by decide) ?_
    refine P.zret (pc := 33) dX3_isInRow_33 rfl (by decide) ?_
    first | exact xt ⟨by rw [← a1]; exact c12, by rw [xrow, eb, ← a2]; exact c25⟩ | exact xf (fun ⟨u, v⟩ => c25 (by rw [a2, ← eb]; exact v)) | exact xf (fun ⟨u, v⟩ => u (by rw [← a1]; exact c12))
  · obtain ⟨a, ha, ea, eb⟩ := hut_at H R hq c12
    refine P.aload_n (pc := 15) 0 dX3_isInRow_15 rfl rfl ?_
    refine P.getR (pc := 16) fl_X3_12 dX3_isInRow_16 rfl rfl ?_
    refine P.getR (pc := 19) fl_X3_48 dX3_isInRow_19 rfl rfl ?_
    refine P.iload_n (pc := 22) 3 dX3_isInRow_22 rfl rfl ?_
    rw [ea]
    refine P.iaN (pc := 23) _ dX3_isInRow_23 rfl rfl rfl (by first | omega | grind [nT]) ?_
    refine P.iload_n (pc := 24) 2 dX3_isInRow_24 rfl rfl ?_
    refine P.icne (pc := 25) 32 dX3_isInRow_25 (by decide) (fun c25 => ?_) (fun c25 => ?_)
    · refine P.iconst (pc := 32) (v := 0) dX3_isInRow_32 (by decide) ?_
      refine P.zret (pc := 33) dX3_isInRow_33 rfl (by decide) ?_
      first | exact xt ⟨by rw [← a1]; exact c12, by rw [xrow, eb, ← a2]; exact c25⟩ | exact xf (fun ⟨u, v⟩ => c25 (by rw [a2, ← eb]; exact v)) | exact xf (fun ⟨u, v⟩ => u (by rw [← a1]; exact c12))
    · refine P.iconst (pc := 28) (v := 1) dX3_isInRow_28 (by decide) ?_
      refine P.goto (pc := 29) 33 dX3_isInRow_29 (by decide) ?_
      refine P.zret (pc := 33) dX3_isInRow_33 rfl (by decide) ?_
      first | exact xt ⟨by rw [← a1]; exact c12, by rw [xrow, eb, ← a2]; exact c25⟩ | exact xf (fun ⟨u, v⟩ => c25 (by rw [a2, ← eb]; exact v)) | exact xf (fun ⟨u, v⟩ => u (by rw [← a1]; exact c12))
theorem meet_R {n : Nat → Nat} {σ M : xM} (R : RX n σ M) (p q : Nat) : xmeet M p q ↔ xmeet σ p q := by rw [xmeet, xmeet, R.1 8 (by decide), R.1 9 (by decide)]
theorem sp_X3_mayHave {n : Nat → Nat} {σ M : xM} (H : IvH n σ) (R : RX n σ M) {p h : Nat} (hp : p < n 1) (hh : h < n 0) : SpF mX3_mayHave [.ref 1, .int (nI p), .int (nI h)] M (bI (xmay n σ p h)) := by
  have hc : M 5 7 = nI (n 1) := R.2.2 (5, 7, 1) (by decide)
  have b1 : n 1 ≤ 24 := H.2.1
  have b0 : n 0 ≤ 30 := H.1
  have a1 := R.1 11 (by decide)
  have a2 := R.1 3 (by decide)
  have a3 := R.1 4 (by decide)
  have a4 := R.1 6 (by decide)
  have a5 := R.1 12 (by decide)
  have lp : ∀ (hs : σ 6 p ≤ σ 4 h) (k i : Nat) (x : Int32), i + k = n 1 → x = nI i → (∀ q, q < i → ¬ q = p → xinr σ q (σ 3 h) → xmeet σ p q → ¬ (σ 11 q = nI h ∨ σ 12 (24 * p + q) = 1)) → P mX3_mayHave 25 [some (.ref 1), some (.int (nI p)), some (.int (nI h)), some (.int x)] [] M (fun r M' => r = some (.int (bI (xmay n σ p h))) ∧ M' = M) := by
    intro hs k
    induction k with
    | zero =>
      intro i x hi hx hr
      subst hx
      refine P.iload_n (pc := 25) 3 dX3_mayHave_25 rfl rfl ?_
      refine P.aload_n (pc := 26) 0 dX3_mayHave_26 rfl rfl ?_
      refine P.getR (pc := 27) fl_X3_21 dX3_mayHave_27 rfl rfl ?_
      refine P.getI (pc := 30) fl_X3_65 dX3_mayHave_30 rfl rfl ?_
      refine P.icge (pc := 33) 104 dX3_mayHave_33 (by decide) (fun c33 => ?_) (fun c33 => ?_)
      · refine P.iconst (pc := 104) (v := 1) dX3_mayHave_104 (by decide) ?_
        refine P.zret (pc := 105) dX3_mayHave_105 rfl (by decide) ?_
        exact xt ⟨hs, fun q hq => hr q (by omega)⟩
      · exact absurd (show M 5 7 ≤ nI i by grind [nT]) c33--.
    | succ k ih =>
      intro i x hi hx hr
      subst hx
      have nxt : ∀ (z : i = p ∨ ¬ xinr σ i (σ 3 h) ∨ ¬ xmeet σ p i ∨ ¬ (σ 11 i = nI h ∨ σ 12 (24 * p + i) = 1)), ∀ q, q < i + 1 → ¬ q = p → xinr σ q (σ 3 h) → xmeet σ p q → ¬ (σ 11 q = nI h ∨ σ 12 (24 * p + q) = 1) := by
        intro z q hq u1 u2 u3
        by_cases e : q = i
        · subst e
          rcases z with z | z | z | z
          · exact absurd z u1
          · exact absurd u2 z
          · exact absurd u3 z
          · exact z
        · exact hr q (by omega) u1 u2 u3
      refine P.iload_n (pc := 25) 3 dX3_mayHave_25 rfl rfl ?_
      refine P.aload_n (pc := 26) 0 dX3_mayHave_26 rfl rfl ?_
      refine P.getR (pc := 27) fl_X3_21 dX3_mayHave_27 rfl rfl ?_
      refine P.getI (pc := 30) fl_X3_65 dX3_mayHave_30 rfl rfl ?_
      refine P.icge (pc := 33) 104 dX3_mayHave_33 (by decide) (fun c33 => ?_) (fun c33 => ?_)
      · exact absurd c33 (by grind [nT])--.
      · refine P.iload_n (pc := 36) 3 dX3_mayHave_36 rfl rfl ?_
        refine P.iload_n (pc := 37) 1 dX3_mayHave_37 rfl rfl ?_
        refine P.iceq (pc := 38) 98 dX3_mayHave_38 (by decide) (fun c38 => ?_) (fun c38 => ?_)
        · refine P.iinc (pc := 98) 3 1 dX3_mayHave_98 rfl (by decide) (by decide) rfl ?_
          refine P.goto (pc := 101) 25 dX3_mayHave_101 (by decide) ?_
          first
          | exact ih (i + 1) _ (by omega) (nI_1 i) (nxt (Or.inl (by grind [nT])))
          | exact ih (i + 1) _ (by omega) (nI_1 i) (nxt (Or.inr (Or.inl c55)))
          | exact ih (i + 1) _ (by omega) (nI_1 i) (nxt (Or.inr (Or.inr (Or.inl c67))))
          | exact ih (i + 1) _ (by omega) (nI_1 i) (nxt (Or.inr (Or.inr (Or.inr (fun u => u.elim (fun v => c80 (by rw [a1]; exact v)) (fun v => c93 (by rw [a5]; exact v)))))))
        · refine P.aload_n (pc := 41) 0 dX3_mayHave_41 rfl rfl ?_
          refine P.iload_n (pc := 42) 3 dX3_mayHave_42 rfl rfl ?_
          refine P.aload_n (pc := 43) 0 dX3_mayHave_43 rfl rfl ?_
          refine P.getR (pc := 44) fl_X3_12 dX3_mayHave_44 rfl rfl ?_
          refine P.getR (pc := 47) fl_X3_48 dX3_mayHave_47 rfl rfl ?_
          refine P.iload_n (pc := 50) 2 dX3_mayHave_50 rfl rfl ?_
          refine P.iaN (pc := 51) _ dX3_mayHave_51 rfl rfl rfl (by first | omega | grind [nT]) ?_
          rw [a2]
          refine P.V2F (pc := 52) cs_X3_mayHave_55 dX3_mayHave_52 rfl rfl rfl (sp_X3_isInRow H R (q := i) (by omega) _) ?_
          refine P.ifeqB (pc := 55) 98 dX3_mayHave_55 (by decide) (fun c55 => ?_) (fun c55 => ?_)
          · refine P.iinc (pc := 98) 3 1 dX3_mayHave_98 rfl (by decide) (by decide) rfl ?_
            refine P.goto (pc := 101) 25 dX3_mayHave_101 (by decide) ?_
            first
            | exact ih (i + 1) _ (by omega) (nI_1 i) (nxt (Or.inl (by grind [nT])))
            | exact ih (i + 1) _ (by omega) (nI_1 i) (nxt (Or.inr (Or.inl c55)))
            | exact ih (i + 1) _ (by omega) (nI_1 i) (nxt (Or.inr (Or.inr (Or.inl c67))))
            | exact ih (i + 1) _ (by omega) (nI_1 i) (nxt (Or.inr (Or.inr (Or.inr (fun u => u.elim (fun v => c80 (by rw [a1]; exact v)) (fun v => c93 (by rw [a5]; exact v)))))))
          · refine P.aload_n (pc := 58) 0 dX3_mayHave_58 rfl rfl ?_
            refine P.getR (pc := 59) fl_X3_21 dX3_mayHave_59 rfl rfl ?_
            refine P.iload_n (pc := 62) 1 dX3_mayHave_62 rfl rfl ?_
            refine P.iload_n (pc := 63) 3 dX3_mayHave_63 rfl rfl ?_
            refine P.V2F (pc := 64) cs_X3_mayHave_58 dX3_mayHave_64 rfl rfl rfl (sp_X4_shareWeek _ (by omega) (by omega)) ?_
            rw [bI_c (meet_R R p i)]
            refine P.ifeqB (pc := 67) 98 dX3_mayHave_67 (by decide) (fun c67 => ?_) (fun c67 => ?_)
            · refine P.iinc (pc := 98) 3 1 dX3_mayHave_98 rfl (by decide) (by decide) rfl ?_
              refine P.goto (pc := 101) 25 dX3_mayHave_101 (by decide) ?_
              first
              | exact ih (i + 1) _ (by omega) (nI_1 i) (nxt (Or.inl (by grind [nT])))
              | exact ih (i + 1) _ (by omega) (nI_1 i) (nxt (Or.inr (Or.inl c55)))
              | exact ih (i + 1) _ (by omega) (nI_1 i) (nxt (Or.inr (Or.inr (Or.inl c67))))
              | exact ih (i + 1) _ (by omega) (nI_1 i) (nxt (Or.inr (Or.inr (Or.inr (fun u => u.elim (fun v => c80 (by rw [a1]; exact v)) (fun v => c93 (by rw [a5]; exact v)))))))
            · refine P.aload_n (pc := 70) 0 dX3_mayHave_70 rfl rfl ?_
              refine P.getR (pc := 71) fl_X3_21 dX3_mayHave_71 rfl rfl ?_
              refine P.getR (pc := 74) fl_X3_52 dX3_mayHave_74 rfl rfl ?_
              refine P.iload_n (pc := 77) 3 dX3_mayHave_77 rfl rfl ?_
              refine P.iaN (pc := 78) _ dX3_mayHave_78 rfl rfl rfl (by first | omega | grind [nT]) ?_
              refine P.iload_n (pc := 79) 2 dX3_mayHave_79 rfl rfl ?_
              refine P.iceq (pc := 80) 96 dX3_mayHave_80 (by decide) (fun c80 => ?_) (fun c80 => ?_)
              · refine P.iconst (pc := 96) (v := 0) dX3_mayHave_96 (by decide) ?_
                refine P.zret (pc := 97) dX3_mayHave_97 rfl (by decide) ?_
                first
                | exact xf (fun ⟨_, u⟩ => u i (by omega) (by grind [nT]) c55 c67 (Or.inl (by rw [← a1]; exact c80)))
                | exact xf (fun ⟨_, u⟩ => u i (by omega) (by grind [nT]) c55 c67 (Or.inr (by rw [← a5]; exact c93)))
              · refine P.aload_n (pc := 83) 0 dX3_mayHave_83 rfl rfl ?_
                refine P.getR (pc := 84) fl_X3_21 dX3_mayHave_84 rfl rfl ?_
                refine P.iload_n (pc := 87) 1 dX3_mayHave_87 rfl rfl ?_
                refine P.iload_n (pc := 88) 3 dX3_mayHave_88 rfl rfl ?_
                refine P.iconst (pc := 89) (v := 1) dX3_mayHave_89 (by decide) ?_
                refine P.V3F (pc := 90) cs_X3_mayHave_85 dX3_mayHave_90 rfl rfl rfl (sp_X4_areTold _ (by omega) (by omega) _) ?_
                refine P.ifeqB (pc := 93) 98 dX3_mayHave_93 (by decide) (fun c93 => ?_) (fun c93 => ?_)
                · refine P.iinc (pc := 98) 3 1 dX3_mayHave_98 rfl (by decide) (by decide) rfl ?_
                  refine P.goto (pc := 101) 25 dX3_mayHave_101 (by decide) ?_
                  first
                  | exact ih (i + 1) _ (by omega) (nI_1 i) (nxt (Or.inl (by grind [nT])))
                  | exact ih (i + 1) _ (by omega) (nI_1 i) (nxt (Or.inr (Or.inl c55)))
                  | exact ih (i + 1) _ (by omega) (nI_1 i) (nxt (Or.inr (Or.inr (Or.inl c67))))
                  | exact ih (i + 1) _ (by omega) (nI_1 i) (nxt (Or.inr (Or.inr (Or.inr (fun u => u.elim (fun v => c80 (by rw [a1]; exact v)) (fun v => c93 (by rw [a5]; exact v)))))))
                · refine P.iconst (pc := 96) (v := 0) dX3_mayHave_96 (by decide) ?_
                  refine P.zret (pc := 97) dX3_mayHave_97 rfl (by decide) ?_
                  first
                  | exact xf (fun ⟨_, u⟩ => u i (by omega) (by grind [nT]) c55 c67 (Or.inl (by rw [← a1]; exact c80)))
                  | exact xf (fun ⟨_, u⟩ => u i (by omega) (by grind [nT]) c55 c67 (Or.inr (by rw [← a5]; exact c93)))
  refine P.aload_n (pc := 0) 0 dX3_mayHave_0 rfl rfl ?_
  refine P.getR (pc := 1) fl_X3_12 dX3_mayHave_1 rfl rfl ?_
  refine P.getR (pc := 4) fl_X3_79 dX3_mayHave_4 rfl rfl ?_
  refine P.iload_n (pc := 7) 2 dX3_mayHave_7 rfl rfl ?_
  refine P.iaN (pc := 8) _ dX3_mayHave_8 rfl rfl rfl (by first | omega | grind [nT]) ?_
  refine P.aload_n (pc := 9) 0 dX3_mayHave_9 rfl rfl ?_
  refine P.getR (pc := 10) fl_X3_21 dX3_mayHave_10 rfl rfl ?_
  refine P.getR (pc := 13) fl_X3_82 dX3_mayHave_13 rfl rfl ?_
  refine P.iload_n (pc := 16) 1 dX3_mayHave_16 rfl rfl ?_
  refine P.iaN (pc := 17) _ dX3_mayHave_17 rfl rfl rfl (by first | omega | grind [nT]) ?_
  refine P.icge (pc := 18) 23 dX3_mayHave_18 (by decide) (fun c18 => ?_) (fun c18 => ?_)
  · refine P.iconst (pc := 23) (v := 0) dX3_mayHave_23 (by decide) ?_
    refine P.istore_n (pc := 24) 3 dX3_mayHave_24 rfl (by decide) rfl ?_
    exact lp (by rw [← a3, ← a4]; exact c18) (n 1) 0 _ (by omega) rfl (fun q hq => by omega)
  · refine P.iconst (pc := 21) (v := 0) dX3_mayHave_21 (by decide) ?_
    refine P.zret (pc := 22) dX3_mayHave_22 rfl (by decide) ?_
    exact xf (fun ⟨u, _⟩ => c18 (by rw [a3, a4]; exact u))
theorem sp_X3_isNextTo {n : Nat → Nat} {σ M : xM} (H : IvH n σ) (R : RX n σ M) {p : Nat} (hp : p < n 1) (r : Int32) : SpF mX3_isNextTo [.ref 1, .int (nI p), .int r] M (bI (xnext n σ p r)) := by
  have hc : M 5 7 = nI (n 1) := R.2.2 (5, 7, 1) (by decide)
  have b1 : n 1 ≤ 24 := H.2.1
  have a5 := R.1 12 (by decide)
  have lp : ∀ (k i : Nat) (x : Int32), i + k = n 1 → x = nI i → (∀ q, q < i → ¬ (σ 12 (24 * p + q) = 0 ∧ xinr σ q r ∧ xmeet σ p q)) → P mX3_isNextTo 2 [some (.ref 1), some (.int (nI p)), some (.int r), some (.int x)] [] M (fun r' M' => r' = some (.int (bI (xnext n σ p r))) ∧ M' = M) := by
    intro k
    induction k with
    | zero =>
      intro i x hi hx hr
      subst hx
      refine P.iload_n (pc := 2) 3 dX3_isNextTo_2 rfl rfl ?_
      refine P.aload_n (pc := 3) 0 dX3_isNextTo_3 rfl rfl ?_
      refine P.getR (pc := 4) fl_X3_21 dX3_isNextTo_4 rfl rfl ?_
      refine P.getI (pc := 7) fl_X3_65 dX3_isNextTo_7 rfl rfl ?_
      refine P.icge (pc := 10) 55 dX3_isNextTo_10 (by decide) (fun c10 => ?_) (fun c10 => ?_)
      · refine P.iconst (pc := 55) (v := 0) dX3_isNextTo_55 (by decide) ?_
        refine P.zret (pc := 56) dX3_isNextTo_56 rfl (by decide) ?_
        exact xf (fun ⟨q, u, v⟩ => hr q (by omega) v)
      · exact absurd (show M 5 7 ≤ nI i by grind [nT]) c10--.
    | succ k ih =>
      intro i x hi hx hr
      subst hx
      have nxt : ∀ (z : ¬ (σ 12 (24 * p + i) = 0 ∧ xinr σ i r ∧ xmeet σ p i)), ∀ q, q < i + 1 → ¬ (σ 12 (24 * p + q) = 0 ∧ xinr σ q r ∧ xmeet σ p q) := by
        intro z q hq
        by_cases e : q = i
        · subst e; exact z
        · exact hr q (by omega)
      refine P.iload_n (pc := 2) 3 dX3_isNextTo_2 rfl rfl ?_
      refine P.aload_n (pc := 3) 0 dX3_isNextTo_3 rfl rfl ?_
      refine P.getR (pc := 4) fl_X3_21 dX3_isNextTo_4 rfl rfl ?_
      refine P.getI (pc := 7) fl_X3_65 dX3_isNextTo_7 rfl rfl ?_
      refine P.icge (pc := 10) 55 dX3_isNextTo_10 (by decide) (fun c10 => ?_) (fun c10 => ?_)
      · exact absurd c10 (by grind [nT])--.
      · refine P.aload_n (pc := 13) 0 dX3_isNextTo_13 rfl rfl ?_
        refine P.getR (pc := 14) fl_X3_21 dX3_isNextTo_14 rfl rfl ?_
        refine P.iload_n (pc := 17) 1 dX3_isNextTo_17 rfl rfl ?_
        refine P.iload_n (pc := 18) 3 dX3_isNextTo_18 rfl rfl ?_
        refine P.iconst (pc := 19) (v := 0) dX3_isNextTo_19 (by decide) ?_
        refine P.V3F (pc := 20) cs_X3_isNextTo_85 dX3_isNextTo_20 rfl rfl rfl (sp_X4_areTold _ (by omega) (by omega) _) ?_
        rw [a5]
        refine P.ifeqB (pc := 23) 49 dX3_isNextTo_23 (by decide) (fun c23 => ?_) (fun c23 => ?_)
        · refine P.iinc (pc := 49) 3 1 dX3_isNextTo_49 rfl (by decide) (by decide) rfl ?_
          refine P.goto (pc := 52) 2 dX3_isNextTo_52 (by decide) ?_
          first
          | exact ih (i + 1) _ (by omega) (nI_1 i) (nxt (fun u => c23 u.1))
          | exact ih (i + 1) _ (by omega) (nI_1 i) (nxt (fun u => c32 u.2.1))
          | exact ih (i + 1) _ (by omega) (nI_1 i) (nxt (fun u => c44 u.2.2))
        · refine P.aload_n (pc := 26) 0 dX3_isNextTo_26 rfl rfl ?_
          refine P.iload_n (pc := 27) 3 dX3_isNextTo_27 rfl rfl ?_
          refine P.iload_n (pc := 28) 2 dX3_isNextTo_28 rfl rfl ?_
          refine P.V2F (pc := 29) cs_X3_isNextTo_55 dX3_isNextTo_29 rfl rfl rfl (sp_X3_isInRow H R (q := i) (by omega) _) ?_
          refine P.ifeqB (pc := 32) 49 dX3_isNextTo_32 (by decide) (fun c32 => ?_) (fun c32 => ?_)
          · refine P.iinc (pc := 49) 3 1 dX3_isNextTo_49 rfl (by decide) (by decide) rfl ?_
            refine P.goto (pc := 52) 2 dX3_isNextTo_52 (by decide) ?_
            first
            | exact ih (i + 1) _ (by omega) (nI_1 i) (nxt (fun u => c23 u.1))
            | exact ih (i + 1) _ (by omega) (nI_1 i) (nxt (fun u => c32 u.2.1))
            | exact ih (i + 1) _ (by omega) (nI_1 i) (nxt (fun u => c44 u.2.2))
          · refine P.aload_n (pc := 35) 0 dX3_isNextTo_35 rfl rfl ?_
            refine P.getR (pc := 36) fl_X3_21 dX3_isNextTo_36 rfl rfl ?_
            refine P.iload_n (pc := 39) 1 dX3_isNextTo_39 rfl rfl ?_
            refine P.iload_n (pc := 40) 3 dX3_isNextTo_40 rfl rfl ?_
            refine P.V2F (pc := 41) cs_X3_isNextTo_58 dX3_isNextTo_41 rfl rfl rfl (sp_X4_shareWeek _ (by omega) (by omega)) ?_
            rw [bI_c (meet_R R p i)]
            refine P.ifeqB (pc := 44) 49 dX3_isNextTo_44 (by decide) (fun c44 => ?_) (fun c44 => ?_)
            · refine P.iinc (pc := 49) 3 1 dX3_isNextTo_49 rfl (by decide) (by decide) rfl ?_
              refine P.goto (pc := 52) 2 dX3_isNextTo_52 (by decide) ?_
              first
              | exact ih (i + 1) _ (by omega) (nI_1 i) (nxt (fun u => c23 u.1))
              | exact ih (i + 1) _ (by omega) (nI_1 i) (nxt (fun u => c32 u.2.1))
              | exact ih (i + 1) _ (by omega) (nI_1 i) (nxt (fun u => c44 u.2.2))
            · refine P.iconst (pc := 47) (v := 1) dX3_isNextTo_47 (by decide) ?_
              refine P.zret (pc := 48) dX3_isNextTo_48 rfl (by decide) ?_
              exact xt ⟨i, by omega, c23, c32, c44⟩
  refine P.iconst (pc := 0) (v := 0) dX3_isNextTo_0 (by decide) ?_
  refine P.istore_n (pc := 1) 3 dX3_isNextTo_1 rfl (by decide) rfl ?_
  exact lp (n 1) 0 _ (by omega) rfl (fun q hq => by omega)
theorem sp_X3_cost {n : Nat → Nat} {σ M : xM} (H : IvH n σ) (R : RX n σ M) {p h : Nat} (hp : p < n 1) (hh : h < n 0) : SpF mX3_cost [.ref 1, .int (nI p), .int (nI h)] M (xkey n σ p h) := by
  have b1 : n 1 ≤ 24 := H.2.1
  have b0 : n 0 ≤ 30 := H.1
  have a2 := R.1 3 (by decide)
  have a3 := R.1 4 (by decide)
  have a4 := R.1 6 (by decide)
  refine P.aload_n (pc := 0) 0 dX3_cost_0 rfl rfl ?_
  refine P.getR (pc := 1) fl_X3_12 dX3_cost_1 rfl rfl ?_
  refine P.getR (pc := 4) fl_X3_79 dX3_cost_4 rfl rfl ?_
  refine P.iload_n (pc := 7) 2 dX3_cost_7 rfl rfl ?_
  refine P.iaN (pc := 8) _ dX3_cost_8 rfl rfl rfl (by first | omega | grind [nT]) ?_
  refine P.aload_n (pc := 9) 0 dX3_cost_9 rfl rfl ?_
  refine P.getR (pc := 10) fl_X3_21 dX3_cost_10 rfl rfl ?_
  refine P.getR (pc := 13) fl_X3_82 dX3_cost_13 rfl rfl ?_
  refine P.iload_n (pc := 16) 1 dX3_cost_16 rfl rfl ?_
  refine P.iaN (pc := 17) _ dX3_cost_17 rfl rfl rfl (by first | omega | grind [nT]) ?_
  refine P.isub (pc := 18) dX3_cost_18 ?_
  refine P.istore_n (pc := 19) 3 dX3_cost_19 rfl (by decide) rfl ?_
  refine P.aload_n (pc := 20) 0 dX3_cost_20 rfl rfl ?_
  refine P.iload_n (pc := 21) 1 dX3_cost_21 rfl rfl ?_
  refine P.aload_n (pc := 22) 0 dX3_cost_22 rfl rfl ?_
  refine P.getR (pc := 23) fl_X3_12 dX3_cost_23 rfl rfl ?_
  refine P.getR (pc := 26) fl_X3_48 dX3_cost_26 rfl rfl ?_
  refine P.iload_n (pc := 29) 2 dX3_cost_29 rfl rfl ?_
  refine P.iaN (pc := 30) _ dX3_cost_30 rfl rfl rfl (by first | omega | grind [nT]) ?_
  rw [a2]
  refine P.V2F (pc := 31) cs_X3_cost_88 dX3_cost_31 rfl rfl rfl (sp_X3_isNextTo H R hp _) ?_
  refine P.ifeqB (pc := 34) 41 dX3_cost_34 (by decide) (fun c34 => ?_) (fun c34 => ?_)
  · refine P.iload_n (pc := 41) 3 dX3_cost_41 rfl rfl ?_
    refine P.bipush (pc := 42) (v := 8) dX3_cost_42 (by decide) ?_
    refine P.iadd (pc := 44) dX3_cost_44 ?_
    refine P.iret (pc := 45) dX3_cost_45 rfl ?_
    first | exact ⟨siv (by rw [xkey, if_pos c34, a3, a4]), rfl⟩ | exact ⟨siv (by rw [xkey, if_neg c34, a3, a4]), rfl⟩
  · refine P.iload_n (pc := 37) 3 dX3_cost_37 rfl rfl ?_
    refine P.goto (pc := 38) 45 dX3_cost_38 (by decide) ?_
    refine P.iret (pc := 45) dX3_cost_45 rfl ?_
    first | exact ⟨siv (by rw [xkey, if_pos c34, a3, a4]), rfl⟩ | exact ⟨siv (by rw [xkey, if_neg c34, a3, a4]), rfl⟩
theorem sp_X3_dearestHut {n : Nat → Nat} {σ M : xM} (H : IvH n σ) (R : RX n σ M) {p : Nat} (hp : p < n 1) : SpF mX3_dearestHut [.ref 1, .int (nI p)] M (xdr n σ p (xmay n σ p) (n 0)) := by
  have hc : M 2 2 = nI (n 0) := R.2.2 (2, 2, 0) (by decide)
  have b0 : n 0 ≤ 30 := H.1
  have lp : ∀ (k i : Nat) (x d lc : Int32) (o5 : Option Value), i + k = n 0 → x = nI i → d = xdr n σ p (xmay n σ p) i → (¬ d = -1 → lc = xkey n σ p d.toNatClampNeg) → P mX3_dearestHut 7 [some (.ref 1), some (.int (nI p)), some (.int d), some (.int lc), some (.int x), o5] [] M (fun r M' => r = some (.int (xdr n σ p (xmay n σ p) (n 0))) ∧ M' = M) := by
    intro k
    induction k with
    | zero =>
      intro i x d lc o5 hi hx hd hl
      subst hx
      refine P.iload (pc := 7) 4 dX3_dearestHut_7 rfl ?_
      refine P.aload_n (pc := 9) 0 dX3_dearestHut_9 rfl rfl ?_
      refine P.getR (pc := 10) fl_X3_12 dX3_dearestHut_10 rfl rfl ?_
      refine P.getI (pc := 13) fl_X3_71 dX3_dearestHut_13 rfl rfl ?_
      refine P.icge (pc := 16) 61 dX3_dearestHut_16 (by decide) (fun c16 => ?_) (fun c16 => ?_)
      · refine P.iload_n (pc := 61) 2 dX3_dearestHut_61 rfl rfl ?_
        refine P.iret (pc := 62) dX3_dearestHut_62 rfl ?_
        exact ⟨siv (by rw [hd, show i = n 0 from hi]), rfl⟩
      · exact absurd (show M 2 2 ≤ nI i by grind [nT]) c16--.
    | succ k ih =>
      intro i x d lc o5 hi hx hd hl
      subst hx
      have ck := nI_clamp (n := i) (by omega)
      refine P.iload (pc := 7) 4 dX3_dearestHut_7 rfl ?_
      refine P.aload_n (pc := 9) 0 dX3_dearestHut_9 rfl rfl ?_
      refine P.getR (pc := 10) fl_X3_12 dX3_dearestHut_10 rfl rfl ?_
      refine P.getI (pc := 13) fl_X3_71 dX3_dearestHut_13 rfl rfl ?_
      refine P.icge (pc := 16) 61 dX3_dearestHut_16 (by decide) (fun c16 => ?_) (fun c16 => ?_)
      · exact absurd c16 (by grind [nT])--.
      · refine P.aload_n (pc := 19) 0 dX3_dearestHut_19 rfl rfl ?_
        refine P.iload_n (pc := 20) 1 dX3_dearestHut_20 rfl rfl ?_
        refine P.iload (pc := 21) 4 dX3_dearestHut_21 rfl ?_
        refine P.V2F (pc := 23) cs_X3_dearestHut_72 dX3_dearestHut_23 rfl rfl rfl (sp_X3_mayHave H R hp (by omega)) ?_
        refine P.ifeqB (pc := 26) 55 dX3_dearestHut_26 (by decide) (fun c26 => ?_) (fun c26 => ?_)
        · refine P.iinc (pc := 55) 4 1 dX3_dearestHut_55 rfl (by decide) (by decide) rfl ?_
          refine P.goto (pc := 58) 7 dX3_dearestHut_58 (by decide) ?_
          first
          | exact ih (i + 1) _ _ _ _ (by omega) (nI_1 i) (by rw [xdr, if_neg (fun u => c26 u.1), hd]) hl
          | exact ih (i + 1) _ _ _ _ (by omega) (nI_1 i) (by rw [xdr, if_pos ⟨c26, Or.inl (by rw [← hd]; exact c40)⟩]) (fun _ => by rw [ck])
          | exact ih (i + 1) _ _ _ _ (by omega) (nI_1 i) (by rw [xdr, if_pos ⟨c26, Or.inr (by rw [← hd, ← hl c40]; exact Int32.not_le.mp c46)⟩]) (fun _ => by rw [ck])
          | exact ih (i + 1) _ _ _ _ (by omega) (nI_1 i) (by rw [xdr, if_neg (fun u => u.2.elim (fun v => c40 (by rw [hd]; exact v)) (fun v => by rw [← hd, ← hl c40] at v; exact Int32.not_le.mpr v c46)), hd]) hl
        · refine P.aload_n (pc := 29) 0 dX3_dearestHut_29 rfl rfl ?_
          refine P.iload_n (pc := 30) 1 dX3_dearestHut_30 rfl rfl ?_
          refine P.iload (pc := 31) 4 dX3_dearestHut_31 rfl ?_
          refine P.V2F (pc := 33) cs_X3_dearestHut_75 dX3_dearestHut_33 rfl rfl rfl (sp_X3_cost H R hp (by omega)) ?_
          refine P.istore (pc := 36) 5 dX3_dearestHut_36 (by decide) rfl ?_
          refine P.iload_n (pc := 38) 2 dX3_dearestHut_38 rfl rfl ?_
          refine P.iconst (pc := 39) (v := -1) dX3_dearestHut_39 (by decide) ?_
          refine P.iceq (pc := 40) 49 dX3_dearestHut_40 (by decide) (fun c40 => ?_) (fun c40 => ?_)
          · refine P.iload (pc := 49) 4 dX3_dearestHut_49 rfl ?_
            refine P.istore_n (pc := 51) 2 dX3_dearestHut_51 rfl (by decide) rfl ?_
            refine P.iload (pc := 52) 5 dX3_dearestHut_52 rfl ?_
            refine P.istore_n (pc := 54) 3 dX3_dearestHut_54 rfl (by decide) rfl ?_
            refine P.iinc (pc := 55) 4 1 dX3_dearestHut_55 rfl (by decide) (by decide) rfl ?_
            refine P.goto (pc := 58) 7 dX3_dearestHut_58 (by decide) ?_
            first
            | exact ih (i + 1) _ _ _ _ (by omega) (nI_1 i) (by rw [xdr, if_neg (fun u => c26 u.1), hd]) hl
            | exact ih (i + 1) _ _ _ _ (by omega) (nI_1 i) (by rw [xdr, if_pos ⟨c26, Or.inl (by rw [← hd]; exact c40)⟩]) (fun _ => by rw [ck])
            | exact ih (i + 1) _ _ _ _ (by omega) (nI_1 i) (by rw [xdr, if_pos ⟨c26, Or.inr (by rw [← hd, ← hl c40]; exact Int32.not_le.mp c46)⟩]) (fun _ => by rw [ck])
            | exact ih (i + 1) _ _ _ _ (by omega) (nI_1 i) (by rw [xdr, if_neg (fun u => u.2.elim (fun v => c40 (by rw [hd]; exact v)) (fun v => by rw [← hd, ← hl c40] at v; exact Int32.not_le.mpr v c46)), hd]) hl
          · refine P.iload (pc := 43) 5 dX3_dearestHut_43 rfl ?_
            refine P.iload_n (pc := 45) 3 dX3_dearestHut_45 rfl rfl ?_
            refine P.icge (pc := 46) 55 dX3_dearestHut_46 (by decide) (fun c46 => ?_) (fun c46 => ?_)
            · refine P.iinc (pc := 55) 4 1 dX3_dearestHut_55 rfl (by decide) (by decide) rfl ?_
              refine P.goto (pc := 58) 7 dX3_dearestHut_58 (by decide) ?_
              first
              | exact ih (i + 1) _ _ _ _ (by omega) (nI_1 i) (by rw [xdr, if_neg (fun u => c26 u.1), hd]) hl
              | exact ih (i + 1) _ _ _ _ (by omega) (nI_1 i) (by rw [xdr, if_pos ⟨c26, Or.inl (by rw [← hd]; exact c40)⟩]) (fun _ => by rw [ck])
              | exact ih (i + 1) _ _ _ _ (by omega) (nI_1 i) (by rw [xdr, if_pos ⟨c26, Or.inr (by rw [← hd, ← hl c40]; exact Int32.not_le.mp c46)⟩]) (fun _ => by rw [ck])
              | exact ih (i + 1) _ _ _ _ (by omega) (nI_1 i) (by rw [xdr, if_neg (fun u => u.2.elim (fun v => c40 (by rw [hd]; exact v)) (fun v => by rw [← hd, ← hl c40] at v; exact Int32.not_le.mpr v c46)), hd]) hl
            · refine P.iload (pc := 49) 4 dX3_dearestHut_49 rfl ?_
              refine P.istore_n (pc := 51) 2 dX3_dearestHut_51 rfl (by decide) rfl ?_
              refine P.iload (pc := 52) 5 dX3_dearestHut_52 rfl ?_
              refine P.istore_n (pc := 54) 3 dX3_dearestHut_54 rfl (by decide) rfl ?_
              refine P.iinc (pc := 55) 4 1 dX3_dearestHut_55 rfl (by decide) (by decide) rfl ?_
              refine P.goto (pc := 58) 7 dX3_dearestHut_58 (by decide) ?_
              first
              | exact ih (i + 1) _ _ _ _ (by omega) (nI_1 i) (by rw [xdr, if_neg (fun u => c26 u.1), hd]) hl
              | exact ih (i + 1) _ _ _ _ (by omega) (nI_1 i) (by rw [xdr, if_pos ⟨c26, Or.inl (by rw [← hd]; exact c40)⟩]) (fun _ => by rw [ck])
              | exact ih (i + 1) _ _ _ _ (by omega) (nI_1 i) (by rw [xdr, if_pos ⟨c26, Or.inr (by rw [← hd, ← hl c40]; exact Int32.not_le.mp c46)⟩]) (fun _ => by rw [ck])
              | exact ih (i + 1) _ _ _ _ (by omega) (nI_1 i) (by rw [xdr, if_neg (fun u => u.2.elim (fun v => c40 (by rw [hd]; exact v)) (fun v => by rw [← hd, ← hl c40] at v; exact Int32.not_le.mpr v c46)), hd]) hl
  refine P.iconst (pc := 0) (v := -1) dX3_dearestHut_0 (by decide) ?_
  refine P.istore_n (pc := 1) 2 dX3_dearestHut_1 rfl (by decide) rfl ?_
  refine P.iconst (pc := 2) (v := 0) dX3_dearestHut_2 (by decide) ?_
  refine P.istore_n (pc := 3) 3 dX3_dearestHut_3 rfl (by decide) rfl ?_
  refine P.iconst (pc := 4) (v := 0) dX3_dearestHut_4 (by decide) ?_
  refine P.istore (pc := 5) 4 dX3_dearestHut_5 (by decide) rfl ?_
  exact lp (n 0) 0 _ _ _ _ (by omega) rfl rfl (fun u => absurd rfl u)
