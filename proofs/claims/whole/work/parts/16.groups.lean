theorem xcnt_le (f : Nat → Int32) (v : Int32) : ∀ m, xcnt f v m ≤ m
  | 0 => Nat.le_refl 0
  | m + 1 => by
    have := xcnt_le f v m
    rw [xcnt]; split <;> omega
def xovl (σ : xM) (g f t : Int32) : Prop := ∃ k, k < 4 ∧ ¬ nI k = g ∧ f ≤ σ 36 k ∧ σ 35 k ≤ t
def xfits (σ : xM) (a : Int32) (k : Nat) : Prop := σ 35 k ≤ a ∧ a ≤ σ 36 k
noncomputable def xgf (σ : xM) (a : Int32) : Nat → Nat → Int32
  | 0, _ => -1
  | k + 1, i => @ite _ (xfits σ a i) (Classical.propDecidable _) (nI i) (xgf σ a k (i + 1))
noncomputable def xgrp (σ : xM) (a : Int32) : Int32 := xgf σ a 4 0
theorem xgf_in (σ : xM) (a : Int32) : ∀ k i, xgf σ a k i = -1 ∨ ∃ j, i ≤ j ∧ j < i + k ∧ xgf σ a k i = nI j ∧ xfits σ a j
  | 0, i => Or.inl rfl
  | k + 1, i => by
    rw [xgf]
    by_cases h : xfits σ a i
    · rw [if_pos h]; exact Or.inr ⟨i, Nat.le_refl _, by omega, rfl, h⟩
    · rw [if_neg h]
      rcases xgf_in σ a k (i + 1) with q | ⟨j, q1, q2, q3, q4⟩
      · exact Or.inl q
      · exact Or.inr ⟨j, by omega, by omega, q3, q4⟩
noncomputable def o_group (n : Nat → Nat) (σ : xM) (g f t m : Int32) : xO :=
  @ite _ (¬ (0 ≤ g ∧ g ≤ 3 ∧ 0 ≤ f ∧ f ≤ 17 ∧ f ≤ t ∧ t ≤ 17 ∧ 1 ≤ m ∧ m ≤ 20) ∨ xovl σ g f t) (Classical.propDecidable _) (-2, n, σ) (if 0 < xcnt (σ 32) g (n 3) then (-3, n, σ) else
  (1, n, xw (xw (xw σ 35 (upd (σ 35) g.toNatClampNeg f)) 36 (upd (σ 36) g.toNatClampNeg t)) 37 (upd (σ 37) g.toNatClampNeg m)))
noncomputable def o_child (n : Nat → Nat) (σ : xM) (p a : Int32) : xO :=
  @ite _ (¬ (xin (n 1) p ∧ 0 ≤ a ∧ a ≤ 17)) (Classical.propDecidable _) (-2, n, σ) (if n 3 = 40 ∨ σ 7 p.toNatClampNeg ≤ nI (xcnt (σ 33) p (n 3)) then (-4, n, σ) else
  (nI (n 3), nup n 3 (n 3 + 1), xw (xw (xw σ 33 (upd (σ 33) (n 3) p)) 34 (upd (σ 34) (n 3) a)) 32 (upd (σ 32) (n 3) (-1))))
noncomputable def o_hand (n : Nat → Nat) (σ : xM) (c : Int32) : xO :=
  @ite _ (¬ xin (n 3) c) (Classical.propDecidable _) (-2, n, σ) (if xgrp σ (σ 34 c.toNatClampNeg) = -1 ∨ σ 32 c.toNatClampNeg = xgrp σ (σ 34 c.toNatClampNeg) then (-3, n, σ) else
  if σ 37 (xgrp σ (σ 34 c.toNatClampNeg)).toNatClampNeg ≤ nI (xcnt (σ 32) (xgrp σ (σ 34 c.toNatClampNeg)) (n 3)) then (-4, n, σ) else
  (xgrp σ (σ 34 c.toNatClampNeg), n, xw σ 32 (upd (σ 32) c.toNatClampNeg (xgrp σ (σ 34 c.toNatClampNeg)))))
noncomputable def o_fetch (n : Nat → Nat) (σ : xM) (c p : Int32) : xO :=
  @ite _ (¬ (xin (n 3) c ∧ xin (n 1) p)) (Classical.propDecidable _) (-2, n, σ) (if σ 32 c.toNatClampNeg = -1 ∨ ¬ σ 33 c.toNatClampNeg = p then (-3, n, σ) else (1, n, xw σ 32 (upd (σ 32) c.toNatClampNeg (-1))))
noncomputable def o_with (n : Nat → Nat) (σ : xM) (c : Int32) : xO := @ite _ (xin (n 3) c) (Classical.propDecidable _) (σ 32 c.toNatClampNeg, n, σ) (-2, n, σ)
theorem sp_X0_isOfAnother {n : Nat → Nat} {σ M : xM} (R : RX n σ M) (g f t : Int32) : SpF mX0_isOfAnother [.ref 31, .int g, .int f, .int t] M (bI (xovl σ g f t)) := by
  have a1 := R.1 35 (by decide)
  have a2 := R.1 36 (by decide)
  have lp : ∀ (k i : Nat) (x : Int32), i + k = 4 → x = nI i → (∀ z, z < i → ¬ (¬ nI z = g ∧ f ≤ σ 36 z ∧ σ 35 z ≤ t)) → P mX0_isOfAnother 3 [some (.ref 31), some (.int g), some (.int f), some (.int t), some (.int x)] [] M (fun r M' => r = some (.int (bI (xovl σ g f t))) ∧ M' = M) := by
    intro k
    induction k with
    | zero =>
      intro i x hi hx hr
      subst hx
      refine P.iload (pc := 3) 4 dX0_isOfAnother_3 rfl ?_
      refine P.iconst (pc := 5) (v := 4) dX0_isOfAnother_5 (by decide) ?_
      refine P.icge (pc := 6) 45 dX0_isOfAnother_6 (by decide) (fun c6 => ?_) (fun c6 => ?_)
      · refine P.iconst (pc := 45) (v := 0) dX0_isOfAnother_45 (by decide) ?_
        refine P.zret (pc := 46) dX0_isOfAnother_46 rfl (by decide) ?_
        exact xf (fun ⟨z, q1, q2⟩ => hr z (by omega) q2)
      · exact absurd (show (4 : Int32) ≤ nI i by grind [nT]) c6--.
    | succ k ih =>
      intro i x hi hx hr
      subst hx
      refine P.iload (pc := 3) 4 dX0_isOfAnother_3 rfl ?_
      refine P.iconst (pc := 5) (v := 4) dX0_isOfAnother_5 (by decide) ?_
      refine P.icge (pc := 6) 45 dX0_isOfAnother_6 (by decide) (fun c6 => ?_) (fun c6 => ?_)
      · exact absurd c6 (by grind [nT])--.
      · refine P.iload (pc := 9) 4 dX0_isOfAnother_9 rfl ?_
        refine P.iload_n (pc := 11) 1 dX0_isOfAnother_11 rfl rfl ?_
        refine P.iceq (pc := 12) 39 dX0_isOfAnother_12 (by decide) (fun c12 => ?_) (fun c12 => ?_)
        · refine P.iinc (pc := 39) 4 1 dX0_isOfAnother_39 rfl (by decide) (by decide) rfl ?_
          refine P.goto (pc := 42) 3 dX0_isOfAnother_42 (by decide) ?_
          exact ih (i + 1) _ (by omega) (nI_1 i) (fun z q1 => by
            by_cases e : z = i
            · subst e; grind
            · exact hr z (by omega))
        · refine P.iload_n (pc := 15) 2 dX0_isOfAnother_15 rfl rfl ?_
          refine P.aload_n (pc := 16) 0 dX0_isOfAnother_16 rfl rfl ?_
          refine P.getR (pc := 17) fl_X0_28 dX0_isOfAnother_17 rfl rfl ?_
          refine P.iload (pc := 20) 4 dX0_isOfAnother_20 rfl ?_
          refine P.iaN (pc := 22) _ dX0_isOfAnother_22 rfl rfl rfl (by first | omega | grind [nT]) ?_
          refine P.icgt (pc := 23) 39 dX0_isOfAnother_23 (by decide) (fun c23 => ?_) (fun c23 => ?_)
          · refine P.iinc (pc := 39) 4 1 dX0_isOfAnother_39 rfl (by decide) (by decide) rfl ?_
            refine P.goto (pc := 42) 3 dX0_isOfAnother_42 (by decide) ?_
            exact ih (i + 1) _ (by omega) (nI_1 i) (fun z q1 => by
              by_cases e : z = i
              · subst e; grind
              · exact hr z (by omega))
          · refine P.aload_n (pc := 26) 0 dX0_isOfAnother_26 rfl rfl ?_
            refine P.getR (pc := 27) fl_X0_25 dX0_isOfAnother_27 rfl rfl ?_
            refine P.iload (pc := 30) 4 dX0_isOfAnother_30 rfl ?_
            refine P.iaN (pc := 32) _ dX0_isOfAnother_32 rfl rfl rfl (by first | omega | grind [nT]) ?_
            refine P.iload_n (pc := 33) 3 dX0_isOfAnother_33 rfl rfl ?_
            refine P.icgt (pc := 34) 39 dX0_isOfAnother_34 (by decide) (fun c34 => ?_) (fun c34 => ?_)
            · refine P.iinc (pc := 39) 4 1 dX0_isOfAnother_39 rfl (by decide) (by decide) rfl ?_
              refine P.goto (pc := 42) 3 dX0_isOfAnother_42 (by decide) ?_
              exact ih (i + 1) _ (by omega) (nI_1 i) (fun z q1 => by
                by_cases e : z = i
                · subst e; grind
                · exact hr z (by omega))
            · refine P.iconst (pc := 37) (v := 1) dX0_isOfAnother_37 (by decide) ?_
              refine P.zret (pc := 38) dX0_isOfAnother_38 rfl (by decide) ?_
              exact xt ⟨i, by omega, c12, by rw [← a2]; exact Int32.not_lt.mp c23, by rw [← a1]; exact Int32.not_lt.mp c34⟩
  refine P.iconst (pc := 0) (v := 0) dX0_isOfAnother_0 (by decide) ?_
  refine P.istore (pc := 1) 4 dX0_isOfAnother_1 (by decide) rfl ?_
  exact lp 4 0 _ (by omega) rfl (fun z q1 => by omega)
theorem sp_X0_childrenIn {M : xM} {m : Nat} (hc : M 31 1 = nI m) (hm : m ≤ 40) (g : Int32) : SpF mX0_childrenIn [.ref 31, .int g] M (nI (xcnt (M 32) g m)) := by
  have lp : ∀ (k i : Nat) (x a : Int32), i + k = m → x = nI i → a = nI (xcnt (M 32) g i) → P mX0_childrenIn 4 [some (.ref 31), some (.int g), some (.int a), some (.int x)] [] M (fun r M' => r = some (.int (nI (xcnt (M 32) g m))) ∧ M' = M) := by
    intro k
    induction k with
    | zero =>
      intro i x a hi hx ha
      subst hx ha
      refine P.iload_n (pc := 4) 3 dX0_childrenIn_4 rfl rfl ?_
      refine P.aload_n (pc := 5) 0 dX0_childrenIn_5 rfl rfl ?_
      refine P.getI (pc := 6) fl_X0_15 dX0_childrenIn_6 rfl rfl ?_
      refine P.icge (pc := 9) 31 dX0_childrenIn_9 (by decide) (fun c9 => ?_) (fun c9 => ?_)
      · refine P.iload_n (pc := 31) 2 dX0_childrenIn_31 rfl rfl ?_
        refine P.iret (pc := 32) dX0_childrenIn_32 rfl ?_
        exact ⟨by rw [show i = m from hi], rfl⟩
      · exact absurd (show M 31 1 ≤ nI i by grind [nT]) c9--.
    | succ k ih =>
      intro i x a hi hx ha
      subst hx ha
      refine P.iload_n (pc := 4) 3 dX0_childrenIn_4 rfl rfl ?_
      refine P.aload_n (pc := 5) 0 dX0_childrenIn_5 rfl rfl ?_
      refine P.getI (pc := 6) fl_X0_15 dX0_childrenIn_6 rfl rfl ?_
      refine P.icge (pc := 9) 31 dX0_childrenIn_9 (by decide) (fun c9 => ?_) (fun c9 => ?_)
      · exact absurd c9 (by grind [nT])--.
      · refine P.aload_n (pc := 12) 0 dX0_childrenIn_12 rfl rfl ?_
        refine P.getR (pc := 13) fl_X0_11 dX0_childrenIn_13 rfl rfl ?_
        refine P.iload_n (pc := 16) 3 dX0_childrenIn_16 rfl rfl ?_
        refine P.iaN (pc := 17) _ dX0_childrenIn_17 rfl rfl rfl (by first | omega | grind [nT]) ?_
        refine P.iload_n (pc := 18) 1 dX0_childrenIn_18 rfl rfl ?_
        refine P.icne (pc := 19) 25 dX0_childrenIn_19 (by decide) (fun c19 => ?_) (fun c19 => ?_)
        · refine P.iinc (pc := 25) 3 1 dX0_childrenIn_25 rfl (by decide) (by decide) rfl ?_
          refine P.goto (pc := 28) 4 dX0_childrenIn_28 (by decide) ?_
          exact ih (i + 1) _ _ (by omega) (nI_1 i) (by rw [xcnt]; first | rw [if_pos c19, nI_1] | rw [if_neg c19])
        · refine P.iinc (pc := 22) 2 1 dX0_childrenIn_22 rfl (by decide) (by decide) rfl ?_
          refine P.iinc (pc := 25) 3 1 dX0_childrenIn_25 rfl (by decide) (by decide) rfl ?_
          refine P.goto (pc := 28) 4 dX0_childrenIn_28 (by decide) ?_
          exact ih (i + 1) _ _ (by omega) (nI_1 i) (by rw [xcnt]; first | rw [if_pos c19, nI_1] | rw [if_neg c19])
  refine P.iconst (pc := 0) (v := 0) dX0_childrenIn_0 (by decide) ?_
  refine P.istore_n (pc := 1) 2 dX0_childrenIn_1 rfl (by decide) rfl ?_
  refine P.iconst (pc := 2) (v := 0) dX0_childrenIn_2 (by decide) ?_
  refine P.istore_n (pc := 3) 3 dX0_childrenIn_3 rfl (by decide) rfl ?_
  exact lp m 0 _ _ (by omega) rfl rfl
theorem sp_X0_childrenOf {M : xM} {m : Nat} (hc : M 31 1 = nI m) (hm : m ≤ 40) (g : Int32) : SpF mX0_childrenOf [.ref 31, .int g] M (nI (xcnt (M 33) g m)) := by
  have lp : ∀ (k i : Nat) (x a : Int32), i + k = m → x = nI i → a = nI (xcnt (M 33) g i) → P mX0_childrenOf 4 [some (.ref 31), some (.int g), some (.int a), some (.int x)] [] M (fun r M' => r = some (.int (nI (xcnt (M 33) g m))) ∧ M' = M) := by
    intro k
    induction k with
    | zero =>
      intro i x a hi hx ha
      subst hx ha
      refine P.iload_n (pc := 4) 3 dX0_childrenOf_4 rfl rfl ?_
      refine P.aload_n (pc := 5) 0 dX0_childrenOf_5 rfl rfl ?_
      refine P.getI (pc := 6) fl_X0_15 dX0_childrenOf_6 rfl rfl ?_
      refine P.icge (pc := 9) 31 dX0_childrenOf_9 (by decide) (fun c9 => ?_) (fun c9 => ?_)
      · refine P.iload_n (pc := 31) 2 dX0_childrenOf_31 rfl rfl ?_
        refine P.iret (pc := 32) dX0_childrenOf_32 rfl ?_
        exact ⟨by rw [show i = m from hi], rfl⟩
      · exact absurd (show M 31 1 ≤ nI i by grind [nT]) c9--.
    | succ k ih =>
      intro i x a hi hx ha
      subst hx ha
      refine P.iload_n (pc := 4) 3 dX0_childrenOf_4 rfl rfl ?_
      refine P.aload_n (pc := 5) 0 dX0_childrenOf_5 rfl rfl ?_
      refine P.getI (pc := 6) fl_X0_15 dX0_childrenOf_6 rfl rfl ?_
      refine P.icge (pc := 9) 31 dX0_childrenOf_9 (by decide) (fun c9 => ?_) (fun c9 => ?_)
      · exact absurd c9 (by grind [nT])--.
      · refine P.aload_n (pc := 12) 0 dX0_childrenOf_12 rfl rfl ?_
        refine P.getR (pc := 13) fl_X0_19 dX0_childrenOf_13 rfl rfl ?_
        refine P.iload_n (pc := 16) 3 dX0_childrenOf_16 rfl rfl ?_
        refine P.iaN (pc := 17) _ dX0_childrenOf_17 rfl rfl rfl (by first | omega | grind [nT]) ?_
        refine P.iload_n (pc := 18) 1 dX0_childrenOf_18 rfl rfl ?_
        refine P.icne (pc := 19) 25 dX0_childrenOf_19 (by decide) (fun c19 => ?_) (fun c19 => ?_)
        · refine P.iinc (pc := 25) 3 1 dX0_childrenOf_25 rfl (by decide) (by decide) rfl ?_
          refine P.goto (pc := 28) 4 dX0_childrenOf_28 (by decide) ?_
          exact ih (i + 1) _ _ (by omega) (nI_1 i) (by rw [xcnt]; first | rw [if_pos c19, nI_1] | rw [if_neg c19])
        · refine P.iinc (pc := 22) 2 1 dX0_childrenOf_22 rfl (by decide) (by decide) rfl ?_
          refine P.iinc (pc := 25) 3 1 dX0_childrenOf_25 rfl (by decide) (by decide) rfl ?_
          refine P.goto (pc := 28) 4 dX0_childrenOf_28 (by decide) ?_
          exact ih (i + 1) _ _ (by omega) (nI_1 i) (by rw [xcnt]; first | rw [if_pos c19, nI_1] | rw [if_neg c19])
  refine P.iconst (pc := 0) (v := 0) dX0_childrenOf_0 (by decide) ?_
  refine P.istore_n (pc := 1) 2 dX0_childrenOf_1 rfl (by decide) rfl ?_
  refine P.iconst (pc := 2) (v := 0) dX0_childrenOf_2 (by decide) ?_
  refine P.istore_n (pc := 3) 3 dX0_childrenOf_3 rfl (by decide) rfl ?_
  exact lp m 0 _ _ (by omega) rfl rfl
theorem sp_X0_hasChild {M : xM} {m : Nat} (hn : M 31 1 = nI m) (h40 : m ≤ 40) (v : Int32) : SpF mX0_hasChild [.ref 31, .int v] M (bI (xin m v)) := by
  refine P.iload_n (pc := 0) 1 dX0_hasChild_0 rfl rfl ?_
  refine P.iconst (pc := 1) (v := 0) dX0_hasChild_1 (by decide) ?_
  refine P.aload_n (pc := 2) 0 dX0_hasChild_2 rfl rfl ?_
  refine P.getI (pc := 3) fl_X0_15 dX0_hasChild_3 rfl rfl ?_
  refine P.iconst (pc := 6) (v := 1) dX0_hasChild_6 (by decide) ?_
  refine P.isub (pc := 7) dX0_hasChild_7 ?_
  refine P.N3F (pc := 8) cs_X0_hasChild_40 dX0_hasChild_8 rfl rfl (sp_X9_within _ _ _ _) ?_
  refine P.zretB (pc := 11) dX0_hasChild_11 rfl ?_
  exact ⟨by rw [hn, bI_c (xin_iff (by omega) v)], rfl⟩
theorem nI_le0 {k : Nat} (hk : k ≤ 1000) : nI k ≤ 0 ↔ ¬ 0 < k := by
  constructor <;> intro h <;> grind [nT]
theorem nI_0lt {k : Nat} (hk : k ≤ 1000) : 0 < nI k ↔ 0 < k := by
  constructor <;> intro h <;> grind [nT]
theorem sp_X0_define {n : Nat → Nat} {σ M : xM} (I : Iv n σ) (R : RX n σ M) (g f t m : Int32) : SpI mX0_define [.ref 31, .int g, .int f, .int t, .int m] M (PX (o_group n σ g f t m) M) := by
  have hc : M 31 1 = nI (n 3) := R.2.2 (31, 1, 3) (by decide)
  have b3 : n 3 ≤ 40 := I.2.2.2.1.1
  have a1 := R.1 35 (by decide)
  have a2 := R.1 36 (by decide)
  have a3 := R.1 37 (by decide)
  have a4 := R.1 32 (by decide)
  have cl := xcnt_le (σ 32) g (n 3)
  refine P.iload_n (pc := 0) 1 dX0_define_0 rfl rfl ?_
  refine P.iconst (pc := 1) (v := 0) dX0_define_1 (by decide) ?_
  refine P.iconst (pc := 2) (v := 3) dX0_define_2 (by decide) ?_
  refine P.N3F (pc := 3) cs_X0_define_40 dX0_define_3 rfl rfl (sp_X9_within _ _ _ _) ?_
  refine P.ifeqB (pc := 6) 50 dX0_define_6 (by decide) (fun c6 => ?_) (fun c6 => ?_)
  · refine P.bipush (pc := 50) (v := -2) dX0_define_50 (by decide) ?_
    refine P.iret (pc := 52) dX0_define_52 rfl ?_
    exact pxI (by rw [o_group, if_pos (by grind)]) R frX.rf
  · refine P.iload_n (pc := 9) 2 dX0_define_9 rfl rfl ?_
    refine P.iconst (pc := 10) (v := 0) dX0_define_10 (by decide) ?_
    refine P.bipush (pc := 11) (v := 17) dX0_define_11 (by decide) ?_
    refine P.N3F (pc := 13) cs_X0_define_40 dX0_define_13 rfl rfl (sp_X9_within _ _ _ _) ?_
    refine P.ifeqB (pc := 16) 50 dX0_define_16 (by decide) (fun c16 => ?_) (fun c16 => ?_)
    · refine P.bipush (pc := 50) (v := -2) dX0_define_50 (by decide) ?_
      refine P.iret (pc := 52) dX0_define_52 rfl ?_
      exact pxI (by rw [o_group, if_pos (by grind)]) R frX.rf
    · refine P.iload_n (pc := 19) 3 dX0_define_19 rfl rfl ?_
      refine P.iload_n (pc := 20) 2 dX0_define_20 rfl rfl ?_
      refine P.bipush (pc := 21) (v := 17) dX0_define_21 (by decide) ?_
      refine P.N3F (pc := 23) cs_X0_define_40 dX0_define_23 rfl rfl (sp_X9_within _ _ _ _) ?_
      refine P.ifeqB (pc := 26) 50 dX0_define_26 (by decide) (fun c26 => ?_) (fun c26 => ?_)
      · refine P.bipush (pc := 50) (v := -2) dX0_define_50 (by decide) ?_
        refine P.iret (pc := 52) dX0_define_52 rfl ?_
        exact pxI (by rw [o_group, if_pos (by grind)]) R frX.rf
      · refine P.iload (pc := 29) 4 dX0_define_29 rfl ?_
        refine P.iconst (pc := 31) (v := 1) dX0_define_31 (by decide) ?_
        refine P.bipush (pc := 32) (v := 20) dX0_define_32 (by decide) ?_
        refine P.N3F (pc := 34) cs_X0_define_40 dX0_define_34 rfl rfl (sp_X9_within _ _ _ _) ?_
        refine P.ifeqB (pc := 37) 50 dX0_define_37 (by decide) (fun c37 => ?_) (fun c37 => ?_)
        · refine P.bipush (pc := 50) (v := -2) dX0_define_50 (by decide) ?_
          refine P.iret (pc := 52) dX0_define_52 rfl ?_
          exact pxI (by rw [o_group, if_pos (by grind)]) R frX.rf
        · refine P.aload_n (pc := 40) 0 dX0_define_40 rfl rfl ?_
          refine P.iload_n (pc := 41) 1 dX0_define_41 rfl rfl ?_
          refine P.iload_n (pc := 42) 2 dX0_define_42 rfl rfl ?_
          refine P.iload_n (pc := 43) 3 dX0_define_43 rfl rfl ?_
          refine P.V3F (pc := 44) cs_X0_define_44 dX0_define_44 rfl rfl rfl (sp_X0_isOfAnother R _ _ _) ?_
          refine P.ifeqB (pc := 47) 53 dX0_define_47 (by decide) (fun c47 => ?_) (fun c47 => ?_)
          · refine P.aload_n (pc := 53) 0 dX0_define_53 rfl rfl ?_
            refine P.iload_n (pc := 54) 1 dX0_define_54 rfl rfl ?_
            refine P.V1F (pc := 55) cs_X0_define_47 dX0_define_55 rfl rfl rfl (sp_X0_childrenIn hc b3 _) ?_
            rw [a4]
            refine P.ifle (pc := 58) 64 dX0_define_58 (by decide) (fun c58 => ?_) (fun c58 => ?_)
            · obtain ⟨a, ha, rfl⟩ := s_nat c6.1 c6.2
              have ck := nI_clamp (n := a) (by omega)
              refine P.aload_n (pc := 64) 0 dX0_define_64 rfl rfl ?_
              refine P.getR (pc := 65) fl_X0_25 dX0_define_65 rfl rfl ?_
              refine P.iload_n (pc := 68) 1 dX0_define_68 rfl rfl ?_
              refine P.iload_n (pc := 69) 2 dX0_define_69 rfl rfl ?_
              refine P.isN (pc := 70) _ dX0_define_70 rfl rfl rfl (by first | omega | grind [nT]) ?_
              refine P.aload_n (pc := 71) 0 dX0_define_71 rfl rfl ?_
              refine P.getR (pc := 72) fl_X0_28 dX0_define_72 rfl rfl ?_
              refine P.iload_n (pc := 75) 1 dX0_define_75 rfl rfl ?_
              refine P.iload_n (pc := 76) 3 dX0_define_76 rfl rfl ?_
              refine P.isN (pc := 77) _ dX0_define_77 rfl rfl rfl (by first | omega | grind [nT]) ?_
              refine P.aload_n (pc := 78) 0 dX0_define_78 rfl rfl ?_
              refine P.getR (pc := 79) fl_X0_31 dX0_define_79 rfl rfl ?_
              refine P.iload_n (pc := 82) 1 dX0_define_82 rfl rfl ?_
              refine P.iload (pc := 83) 4 dX0_define_83 rfl ?_
              refine P.isN (pc := 85) _ dX0_define_85 rfl rfl rfl (by first | omega | grind [nT]) ?_
              refine P.iconst (pc := 86) (v := 1) dX0_define_86 (by decide) ?_
              refine P.iret (pc := 87) dX0_define_87 rfl ?_
              rw [a1]
              refine pxI ?_ (((R.arr (by decide) _).arr (by decide) _).arr (by decide) _) (((frX.rf.w (by decide) _).w (by decide) _).w (by decide) _)
              rw [o_group, if_neg (by grind), if_neg ((nI_le0 (by omega)).mp c58), ck]
              simp only [xw_ap, Nat.reduceEqDiff, ↓reduceIte, a2, a3]
            · refine P.bipush (pc := 61) (v := -3) dX0_define_61 (by decide) ?_
              refine P.iret (pc := 63) dX0_define_63 rfl ?_
              exact pxI (by rw [o_group, if_neg (by grind), if_pos (Classical.byContradiction fun q => c58 ((nI_le0 (by omega)).mpr q))]) R frX.rf
          · refine P.bipush (pc := 50) (v := -2) dX0_define_50 (by decide) ?_
            refine P.iret (pc := 52) dX0_define_52 rfl ?_
            exact pxI (by rw [o_group, if_pos (by grind)]) R frX.rf
theorem sp_X9_group {n : Nat → Nat} {σ M : xM} (I : Iv n σ) (R : RX n σ M) (g f t m : Int32) : SpI mX9_group [.ref 0, .int g, .int f, .int t, .int m] M (PX (o_group n σ g f t m) M) := by
  refine P.aload_n (pc := 0) 0 dX9_group_0 rfl rfl ?_
  refine P.getR (pc := 1) fl_X9_40 dX9_group_1 rfl rfl ?_
  refine P.iload_n (pc := 4) 1 dX9_group_4 rfl rfl ?_
  refine P.iload_n (pc := 5) 2 dX9_group_5 rfl rfl ?_
  refine P.iload_n (pc := 6) 3 dX9_group_6 rfl rfl ?_
  refine P.iload (pc := 7) 4 dX9_group_7 rfl ?_
  refine P.V4I (pc := 9) cs_X9_group_179 dX9_group_9 rfl rfl rfl (sp_X0_define I R _ _ _ _) (fun v9 M9 h9 => ?_)
  refine P.iret (pc := 12) dX9_group_12 rfl ?_
  exact ⟨_, rfl, h9⟩
theorem sp_X0_addChild {n : Nat → Nat} {σ M : xM} (I : Iv n σ) (R : RX n σ M) {p : Nat} (hp : p < n 1) (a : Int32) : SpI mX0_addChild [.ref 31, .int (nI p), .int a, .int (σ 7 p)] M (PX (o_child n σ (nI p) a) M) := by
  have hc : M 31 1 = nI (n 3) := R.2.2 (31, 1, 3) (by decide)
  have b3 : n 3 ≤ 40 := I.2.2.2.1.1
  have b2 : n 1 ≤ 24 := I.1.2.1
  have a1 := R.1 33 (by decide)
  have a2 := R.1 34 (by decide)
  have a3 := R.1 32 (by decide)
  have ck := nI_clamp (n := p) (by omega)
  have xp : xin (n 1) (nI p) := ⟨p, hp, rfl⟩
  refine P.iload_n (pc := 0) 2 dX0_addChild_0 rfl rfl ?_
  refine P.iconst (pc := 1) (v := 0) dX0_addChild_1 (by decide) ?_
  refine P.bipush (pc := 2) (v := 17) dX0_addChild_2 (by decide) ?_
  refine P.N3F (pc := 4) cs_X0_addChild_40 dX0_addChild_4 rfl rfl (sp_X9_within _ _ _ _) ?_
  refine P.ifneB (pc := 7) 13 dX0_addChild_7 (by decide) (fun c7 => ?_) (fun c7 => ?_)
  · refine P.aload_n (pc := 13) 0 dX0_addChild_13 rfl rfl ?_
    refine P.getI (pc := 14) fl_X0_15 dX0_addChild_14 rfl rfl ?_
    refine P.bipush (pc := 17) (v := 40) dX0_addChild_17 (by decide) ?_
    refine P.icge (pc := 19) 31 dX0_addChild_19 (by decide) (fun c19 => ?_) (fun c19 => ?_)
    · refine P.bipush (pc := 31) (v := -4) dX0_addChild_31 (by decide) ?_
      refine P.iret (pc := 33) dX0_addChild_33 rfl ?_
      first | exact pxI (by rw [o_child, if_neg (by grind), ck, if_pos (Or.inl (by grind [nT]))]) R frX.rf | exact pxI (by rw [o_child, if_neg (by grind), ck, if_pos (Or.inr (Int32.not_lt.mp c28))]) R frX.rf
    · refine P.aload_n (pc := 22) 0 dX0_addChild_22 rfl rfl ?_
      refine P.iload_n (pc := 23) 1 dX0_addChild_23 rfl rfl ?_
      refine P.V1F (pc := 24) cs_X0_addChild_51 dX0_addChild_24 rfl rfl rfl (sp_X0_childrenOf hc b3 _) ?_
      rw [a1]
      refine P.iload_n (pc := 27) 3 dX0_addChild_27 rfl rfl ?_
      refine P.iclt (pc := 28) 34 dX0_addChild_28 (by decide) (fun c28 => ?_) (fun c28 => ?_)
      · refine P.aload_n (pc := 34) 0 dX0_addChild_34 rfl rfl ?_
        refine P.getR (pc := 35) fl_X0_19 dX0_addChild_35 rfl rfl ?_
        refine P.aload_n (pc := 38) 0 dX0_addChild_38 rfl rfl ?_
        refine P.getI (pc := 39) fl_X0_15 dX0_addChild_39 rfl rfl ?_
        rw [hc]
        refine P.iload_n (pc := 42) 1 dX0_addChild_42 rfl rfl ?_
        refine P.isN (pc := 43) _ dX0_addChild_43 rfl rfl rfl (by first | omega | grind [nT]) ?_
        refine P.aload_n (pc := 44) 0 dX0_addChild_44 rfl rfl ?_
        refine P.getR (pc := 45) fl_X0_22 dX0_addChild_45 rfl rfl ?_
        refine P.aload_n (pc := 48) 0 dX0_addChild_48 rfl rfl ?_
        refine P.getI (pc := 49) fl_X0_15 dX0_addChild_49 rfl rfl ?_
        simp only [xw_ap, Nat.reduceEqDiff, ↓reduceIte, hc]
        refine P.iload_n (pc := 52) 2 dX0_addChild_52 rfl rfl ?_
        refine P.isN (pc := 53) _ dX0_addChild_53 rfl rfl rfl (by first | omega | grind [nT]) ?_
        refine P.aload_n (pc := 54) 0 dX0_addChild_54 rfl rfl ?_
        refine P.getR (pc := 55) fl_X0_11 dX0_addChild_55 rfl rfl ?_
        refine P.aload_n (pc := 58) 0 dX0_addChild_58 rfl rfl ?_
        refine P.getI (pc := 59) fl_X0_15 dX0_addChild_59 rfl rfl ?_
        simp only [xw_ap, Nat.reduceEqDiff, ↓reduceIte, hc]
        refine P.iconst (pc := 62) (v := -1) dX0_addChild_62 (by decide) ?_
        refine P.isN (pc := 63) _ dX0_addChild_63 rfl rfl rfl (by first | omega | grind [nT]) ?_
        refine P.aload_n (pc := 64) 0 dX0_addChild_64 rfl rfl ?_
        refine P.dup (pc := 65) dX0_addChild_65 rfl ?_
        refine P.getI (pc := 66) fl_X0_15 dX0_addChild_66 rfl rfl ?_
        simp only [xw_ap, Nat.reduceEqDiff, ↓reduceIte, hc]
        refine P.iconst (pc := 69) (v := 1) dX0_addChild_69 (by decide) ?_
        refine P.iadd (pc := 70) dX0_addChild_70 ?_
        refine P.put (pc := 71) fp_X0_15 dX0_addChild_71 rfl rfl ?_
        refine P.aload_n (pc := 74) 0 dX0_addChild_74 rfl rfl ?_
        refine P.getI (pc := 75) fl_X0_15 dX0_addChild_75 rfl rfl ?_
        simp only [xw_ap, upd_ap, Nat.reduceEqDiff, ↓reduceIte, hc]
        refine P.iconst (pc := 78) (v := 1) dX0_addChild_78 (by decide) ?_
        refine P.isub (pc := 79) dX0_addChild_79 ?_
        rw [nI_1, nI_pred]
        refine P.iret (pc := 80) dX0_addChild_80 rfl ?_
        rw [a1]
        refine pxI ?_ ((((R.arr (by decide) _).arr (by decide) _).arr (by decide) _).cnt (i := 3) (by decide) (n 3 + 1)) ((((frX.rf.w (by decide) _).w (by decide) _).w (by decide) _).w (by decide) _)
        rw [o_child, if_neg (by grind), ck, if_neg (fun q => q.elim (fun z => by grind [nT]) (fun z => by grind))]
        simp only [xw_ap, Nat.reduceEqDiff, ↓reduceIte, a2, a3]
      · refine P.bipush (pc := 31) (v := -4) dX0_addChild_31 (by decide) ?_
        refine P.iret (pc := 33) dX0_addChild_33 rfl ?_
        first | exact pxI (by rw [o_child, if_neg (by grind), ck, if_pos (Or.inl (by grind [nT]))]) R frX.rf | exact pxI (by rw [o_child, if_neg (by grind), ck, if_pos (Or.inr (Int32.not_lt.mp c28))]) R frX.rf
  · refine P.bipush (pc := 10) (v := -2) dX0_addChild_10 (by decide) ?_
    refine P.iret (pc := 12) dX0_addChild_12 rfl ?_
    exact pxI (by rw [o_child, if_pos (by grind)]) R frX.rf
theorem sp_X9_child {n : Nat → Nat} {σ M : xM} (I : Iv n σ) (R : RX n σ M) (p a : Int32) : SpI mX9_child [.ref 0, .int p, .int a] M (PX (o_child n σ p a) M) := by
  have hc : M 5 7 = nI (n 1) := R.2.2 (5, 7, 1) (by decide)
  have b2 : n 1 ≤ 24 := I.1.2.1
  have a1 := R.1 7 (by decide)
  refine P.aload_n (pc := 0) 0 dX9_child_0 rfl rfl ?_
  refine P.getR (pc := 1) fl_X9_10 dX9_child_1 rfl rfl ?_
  refine P.getR (pc := 4) fl_X9_68 dX9_child_4 rfl rfl ?_
  refine P.iload_n (pc := 7) 1 dX9_child_7 rfl rfl ?_
  refine P.V1F (pc := 8) cs_X9_child_115 dX9_child_8 rfl rfl rfl (sp_X4_has hc b2 _) ?_
  refine P.ifneB (pc := 11) 17 dX9_child_11 (by decide) (fun c11 => ?_) (fun c11 => ?_)
  · obtain ⟨z, hz, rfl⟩ := c11
    refine P.aload_n (pc := 17) 0 dX9_child_17 rfl rfl ?_
    refine P.getR (pc := 18) fl_X9_40 dX9_child_18 rfl rfl ?_
    refine P.iload_n (pc := 21) 1 dX9_child_21 rfl rfl ?_
    refine P.iload_n (pc := 22) 2 dX9_child_22 rfl rfl ?_
    refine P.aload_n (pc := 23) 0 dX9_child_23 rfl rfl ?_
    refine P.getR (pc := 24) fl_X9_10 dX9_child_24 rfl rfl ?_
    refine P.getR (pc := 27) fl_X9_68 dX9_child_27 rfl rfl ?_
    refine P.getR (pc := 30) fl_X9_182 dX9_child_30 rfl rfl ?_
    refine P.iload_n (pc := 33) 1 dX9_child_33 rfl rfl ?_
    refine P.iaN (pc := 34) _ dX9_child_34 rfl rfl rfl (by first | omega | grind [nT]) ?_
    rw [a1]
    refine P.V3I (pc := 35) cs_X9_child_185 dX9_child_35 rfl rfl rfl (sp_X0_addChild I R hz _) (fun v35 M35 h35 => ?_)
    refine P.iret (pc := 38) dX9_child_38 rfl ?_
    exact ⟨_, rfl, h35⟩
  · refine P.bipush (pc := 14) (v := -2) dX9_child_14 (by decide) ?_
    refine P.iret (pc := 16) dX9_child_16 rfl ?_
    exact pxI (by rw [o_child, if_pos (by grind)]) R frX.rf
theorem sp_X0_groupFor {n : Nat → Nat} {σ M : xM} (R : RX n σ M) (a : Int32) : SpF mX0_groupFor [.ref 31, .int a] M (xgrp σ a) := by
  have a1 := R.1 35 (by decide)
  have a2 := R.1 36 (by decide)
  have lp : ∀ (k i : Nat) (x : Int32), i + k = 4 → x = nI i → xgf σ a k i = xgrp σ a → P mX0_groupFor 2 [some (.ref 31), some (.int a), some (.int x)] [] M (fun r M' => r = some (.int (xgrp σ a)) ∧ M' = M) := by
    intro k
    induction k with
    | zero =>
      intro i x hi hx hr
      subst hx
      refine P.iload_n (pc := 2) 2 dX0_groupFor_2 rfl rfl ?_
      refine P.iconst (pc := 3) (v := 4) dX0_groupFor_3 (by decide) ?_
      refine P.icge (pc := 4) 34 dX0_groupFor_4 (by decide) (fun c4 => ?_) (fun c4 => ?_)
      · refine P.iconst (pc := 34) (v := -1) dX0_groupFor_34 (by decide) ?_
        refine P.iret (pc := 35) dX0_groupFor_35 rfl ?_
        exact ⟨siv (by rw [← hr]; rfl), rfl⟩
      · exact absurd (show (4 : Int32) ≤ nI i by grind [nT]) c4--.
    | succ k ih =>
      intro i x hi hx hr
      subst hx
      rw [xgf] at hr
      refine P.iload_n (pc := 2) 2 dX0_groupFor_2 rfl rfl ?_
      refine P.iconst (pc := 3) (v := 4) dX0_groupFor_3 (by decide) ?_
      refine P.icge (pc := 4) 34 dX0_groupFor_4 (by decide) (fun c4 => ?_) (fun c4 => ?_)
      · exact absurd c4 (by grind [nT])--.
      · refine P.iload_n (pc := 7) 1 dX0_groupFor_7 rfl rfl ?_
        refine P.aload_n (pc := 8) 0 dX0_groupFor_8 rfl rfl ?_
        refine P.getR (pc := 9) fl_X0_25 dX0_groupFor_9 rfl rfl ?_
        refine P.iload_n (pc := 12) 2 dX0_groupFor_12 rfl rfl ?_
        refine P.iaN (pc := 13) _ dX0_groupFor_13 rfl rfl rfl (by first | omega | grind [nT]) ?_
        refine P.aload_n (pc := 14) 0 dX0_groupFor_14 rfl rfl ?_
        refine P.getR (pc := 15) fl_X0_28 dX0_groupFor_15 rfl rfl ?_
        refine P.iload_n (pc := 18) 2 dX0_groupFor_18 rfl rfl ?_
        refine P.iaN (pc := 19) _ dX0_groupFor_19 rfl rfl rfl (by first | omega | grind [nT]) ?_
        refine P.N3F (pc := 20) cs_X0_groupFor_40 dX0_groupFor_20 rfl rfl (sp_X9_within _ _ _ _) ?_
        rw [a1, a2]
        refine P.ifeqB (pc := 23) 28 dX0_groupFor_23 (by decide) (fun c23 => ?_) (fun c23 => ?_)
        · refine P.iinc (pc := 28) 2 1 dX0_groupFor_28 rfl (by decide) (by decide) rfl ?_
          refine P.goto (pc := 31) 2 dX0_groupFor_31 (by decide) ?_
          rw [if_neg (show ¬ xfits σ a i from c23)] at hr
          exact ih (i + 1) _ (by omega) (nI_1 i) hr
        · refine P.iload_n (pc := 26) 2 dX0_groupFor_26 rfl rfl ?_
          refine P.iret (pc := 27) dX0_groupFor_27 rfl ?_
          rw [if_pos (show xfits σ a i from c23)] at hr
          exact ⟨siv hr, rfl⟩
  refine P.iconst (pc := 0) (v := 0) dX0_groupFor_0 (by decide) ?_
  refine P.istore_n (pc := 1) 2 dX0_groupFor_1 rfl (by decide) rfl ?_
  exact lp 4 0 _ (by omega) rfl rfl
theorem sp_X0_handOver {n : Nat → Nat} {σ M : xM} (I : Iv n σ) (R : RX n σ M) (c : Int32) : SpI mX0_handOver [.ref 31, .int c] M (PX (o_hand n σ c) M) := by
  have hc : M 31 1 = nI (n 3) := R.2.2 (31, 1, 3) (by decide)
  have b3 : n 3 ≤ 40 := I.2.2.2.1.1
  have a1 := R.1 34 (by decide)
  have a2 := R.1 32 (by decide)
  have a3 := R.1 37 (by decide)
  refine P.aload_n (pc := 0) 0 dX0_handOver_0 rfl rfl ?_
  refine P.iload_n (pc := 1) 1 dX0_handOver_1 rfl rfl ?_
  refine P.V1F (pc := 2) cs_X0_handOver_54 dX0_handOver_2 rfl rfl rfl (sp_X0_hasChild hc b3 _) ?_
  refine P.ifneB (pc := 5) 11 dX0_handOver_5 (by decide) (fun c5 => ?_) (fun c5 => ?_)
  · have c5' := c5
    obtain ⟨a, ha, rfl⟩ := c5
    have ck := nI_clamp (n := a) (by omega)
    refine P.aload_n (pc := 11) 0 dX0_handOver_11 rfl rfl ?_
    refine P.aload_n (pc := 12) 0 dX0_handOver_12 rfl rfl ?_
    refine P.getR (pc := 13) fl_X0_22 dX0_handOver_13 rfl rfl ?_
    refine P.iload_n (pc := 16) 1 dX0_handOver_16 rfl rfl ?_
    refine P.iaN (pc := 17) _ dX0_handOver_17 rfl rfl rfl (by first | omega | grind [nT]) ?_
    rw [a1]
    refine P.V1F (pc := 18) cs_X0_handOver_58 dX0_handOver_18 rfl rfl rfl (sp_X0_groupFor R _) ?_
    refine P.istore_n (pc := 21) 2 dX0_handOver_21 rfl (by decide) rfl ?_
    refine P.iload_n (pc := 22) 2 dX0_handOver_22 rfl rfl ?_
    refine P.iconst (pc := 23) (v := -1) dX0_handOver_23 (by decide) ?_
    refine P.iceq (pc := 24) 37 dX0_handOver_24 (by decide) (fun c24 => ?_) (fun c24 => ?_)
    · refine P.bipush (pc := 37) (v := -3) dX0_handOver_37 (by decide) ?_
      refine P.iret (pc := 39) dX0_handOver_39 rfl ?_
      first | exact pxI (by rw [o_hand, if_neg (fun q => q c5'), ck, if_pos (Or.inl c24)]) R frX.rf | exact pxI (by rw [o_hand, if_neg (fun q => q c5'), ck, if_pos (Or.inr (by rw [← a2]; exact c34))]) R frX.rf
    · refine P.aload_n (pc := 27) 0 dX0_handOver_27 rfl rfl ?_
      refine P.getR (pc := 28) fl_X0_11 dX0_handOver_28 rfl rfl ?_
      refine P.iload_n (pc := 31) 1 dX0_handOver_31 rfl rfl ?_
      refine P.iaN (pc := 32) _ dX0_handOver_32 rfl rfl rfl (by first | omega | grind [nT]) ?_
      refine P.iload_n (pc := 33) 2 dX0_handOver_33 rfl rfl ?_
      refine P.icne (pc := 34) 40 dX0_handOver_34 (by decide) (fun c34 => ?_) (fun c34 => ?_)
      · obtain ⟨g, -, hg, eg, hf⟩ := (xgf_in σ (σ 34 a) 4 0).resolve_left c24
        rw [show xgrp σ (σ 34 a) = nI g from eg]
        refine P.aload_n (pc := 40) 0 dX0_handOver_40 rfl rfl ?_
        refine P.iload_n (pc := 41) 2 dX0_handOver_41 rfl rfl ?_
        refine P.V1F (pc := 42) cs_X0_handOver_47 dX0_handOver_42 rfl rfl rfl (sp_X0_childrenIn hc b3 _) ?_
        rw [a2]
        refine P.aload_n (pc := 45) 0 dX0_handOver_45 rfl rfl ?_
        refine P.getR (pc := 46) fl_X0_31 dX0_handOver_46 rfl rfl ?_
        refine P.iload_n (pc := 49) 2 dX0_handOver_49 rfl rfl ?_
        refine P.iaN (pc := 50) _ dX0_handOver_50 rfl rfl rfl (by first | omega | grind [nT]) ?_
        refine P.iclt (pc := 51) 57 dX0_handOver_51 (by decide) (fun c51 => ?_) (fun c51 => ?_)
        · refine P.aload_n (pc := 57) 0 dX0_handOver_57 rfl rfl ?_
          refine P.getR (pc := 58) fl_X0_11 dX0_handOver_58 rfl rfl ?_
          refine P.iload_n (pc := 61) 1 dX0_handOver_61 rfl rfl ?_
          refine P.iload_n (pc := 62) 2 dX0_handOver_62 rfl rfl ?_
          refine P.isN (pc := 63) (a) dX0_handOver_63 rfl rfl rfl (by first | omega | grind [nT]) ?_
          refine P.iload_n (pc := 64) 2 dX0_handOver_64 rfl rfl ?_
          refine P.iret (pc := 65) dX0_handOver_65 rfl ?_
          rw [a2]
          exact pxI (by rw [o_hand, if_neg (fun q => q c5'), ck, if_neg (fun q => q.elim c24 (fun z => c34 (by rw [a2]; exact z))), show xgrp σ (σ 34 a) = nI g from eg, nI_clamp (n := g) (by omega), if_neg (by rw [← a3]; exact Int32.not_le.mpr c51)]) (R.arr (by decide) _) (frX.rf.w (by decide) _)
        · refine P.bipush (pc := 54) (v := -4) dX0_handOver_54 (by decide) ?_
          refine P.iret (pc := 56) dX0_handOver_56 rfl ?_
          exact pxI (by rw [o_hand, if_neg (fun q => q c5'), ck, if_neg (fun q => q.elim c24 (fun z => c34 (by rw [a2]; exact z))), show xgrp σ (σ 34 a) = nI g from eg, nI_clamp (by omega), if_pos (by rw [← a3]; exact Int32.not_lt.mp c51)]) R frX.rf
      · refine P.bipush (pc := 37) (v := -3) dX0_handOver_37 (by decide) ?_
        refine P.iret (pc := 39) dX0_handOver_39 rfl ?_
        first | exact pxI (by rw [o_hand, if_neg (fun q => q c5'), ck, if_pos (Or.inl c24)]) R frX.rf | exact pxI (by rw [o_hand, if_neg (fun q => q c5'), ck, if_pos (Or.inr (by rw [← a2]; exact c34))]) R frX.rf
  · refine P.bipush (pc := 8) (v := -2) dX0_handOver_8 (by decide) ?_
    refine P.iret (pc := 10) dX0_handOver_10 rfl ?_
    exact pxI (by rw [o_hand, if_pos c5]) R frX.rf
theorem sp_X9_hand {n : Nat → Nat} {σ M : xM} (I : Iv n σ) (R : RX n σ M) (c : Int32) : SpI mX9_hand [.ref 0, .int c] M (PX (o_hand n σ c) M) := by
  refine P.aload_n (pc := 0) 0 dX9_hand_0 rfl rfl ?_
  refine P.getR (pc := 1) fl_X9_40 dX9_hand_1 rfl rfl ?_
  refine P.iload_n (pc := 4) 1 dX9_hand_4 rfl rfl ?_
  refine P.V1I (pc := 5) cs_X9_hand_188 dX9_hand_5 rfl rfl rfl (sp_X0_handOver I R _) (fun v5 M5 h5 => ?_)
  refine P.iret (pc := 8) dX9_hand_8 rfl ?_
  exact ⟨_, rfl, h5⟩
theorem sp_X0_giveBack {n : Nat → Nat} {σ M : xM} (I : Iv n σ) (R : RX n σ M) (c : Int32) {p : Int32} (hp : xin (n 1) p) : SpI mX0_giveBack [.ref 31, .int c, .int p] M (PX (o_fetch n σ c p) M) := by
  have hc : M 31 1 = nI (n 3) := R.2.2 (31, 1, 3) (by decide)
  have b3 : n 3 ≤ 40 := I.2.2.2.1.1
  have a1 := R.1 33 (by decide)
  have a2 := R.1 32 (by decide)
  refine P.aload_n (pc := 0) 0 dX0_giveBack_0 rfl rfl ?_
  refine P.iload_n (pc := 1) 1 dX0_giveBack_1 rfl rfl ?_
  refine P.V1F (pc := 2) cs_X0_giveBack_54 dX0_giveBack_2 rfl rfl rfl (sp_X0_hasChild hc b3 _) ?_
  refine P.ifneB (pc := 5) 11 dX0_giveBack_5 (by decide) (fun c5 => ?_) (fun c5 => ?_)
  · have c5' := c5
    obtain ⟨a, ha, rfl⟩ := c5
    have ck := nI_clamp (n := a) (by omega)
    refine P.aload_n (pc := 11) 0 dX0_giveBack_11 rfl rfl ?_
    refine P.getR (pc := 12) fl_X0_11 dX0_giveBack_12 rfl rfl ?_
    refine P.iload_n (pc := 15) 1 dX0_giveBack_15 rfl rfl ?_
    refine P.iaN (pc := 16) _ dX0_giveBack_16 rfl rfl rfl (by first | omega | grind [nT]) ?_
    refine P.iconst (pc := 17) (v := -1) dX0_giveBack_17 (by decide) ?_
    refine P.iceq (pc := 18) 31 dX0_giveBack_18 (by decide) (fun c18 => ?_) (fun c18 => ?_)
    · refine P.bipush (pc := 31) (v := -3) dX0_giveBack_31 (by decide) ?_
      refine P.iret (pc := 33) dX0_giveBack_33 rfl ?_
      exact pxI (by rw [o_fetch, if_neg (by grind), ck, if_pos (by grind)]) R frX.rf
    · refine P.aload_n (pc := 21) 0 dX0_giveBack_21 rfl rfl ?_
      refine P.getR (pc := 22) fl_X0_19 dX0_giveBack_22 rfl rfl ?_
      refine P.iload_n (pc := 25) 1 dX0_giveBack_25 rfl rfl ?_
      refine P.iaN (pc := 26) _ dX0_giveBack_26 rfl rfl rfl (by first | omega | grind [nT]) ?_
      refine P.iload_n (pc := 27) 2 dX0_giveBack_27 rfl rfl ?_
      refine P.iceq (pc := 28) 34 dX0_giveBack_28 (by decide) (fun c28 => ?_) (fun c28 => ?_)
      · refine P.aload_n (pc := 34) 0 dX0_giveBack_34 rfl rfl ?_
        refine P.getR (pc := 35) fl_X0_11 dX0_giveBack_35 rfl rfl ?_
        refine P.iload_n (pc := 38) 1 dX0_giveBack_38 rfl rfl ?_
        refine P.iconst (pc := 39) (v := -1) dX0_giveBack_39 (by decide) ?_
        refine P.isN (pc := 40) _ dX0_giveBack_40 rfl rfl rfl (by first | omega | grind [nT]) ?_
        refine P.iconst (pc := 41) (v := 1) dX0_giveBack_41 (by decide) ?_
        refine P.iret (pc := 42) dX0_giveBack_42 rfl ?_
        rw [a2]
        exact pxI (by rw [o_fetch, if_neg (by grind), ck, if_neg (by grind)]) (R.arr (by decide) _) (frX.rf.w (by decide) _)
      · refine P.bipush (pc := 31) (v := -3) dX0_giveBack_31 (by decide) ?_
        refine P.iret (pc := 33) dX0_giveBack_33 rfl ?_
        exact pxI (by rw [o_fetch, if_neg (by grind), ck, if_pos (by grind)]) R frX.rf
  · refine P.bipush (pc := 8) (v := -2) dX0_giveBack_8 (by decide) ?_
    refine P.iret (pc := 10) dX0_giveBack_10 rfl ?_
    exact pxI (by rw [o_fetch, if_pos (by grind)]) R frX.rf
theorem sp_X9_fetch {n : Nat → Nat} {σ M : xM} (I : Iv n σ) (R : RX n σ M) (c p : Int32) : SpI mX9_fetch [.ref 0, .int c, .int p] M (PX (o_fetch n σ c p) M) := by
  have hc : M 5 7 = nI (n 1) := R.2.2 (5, 7, 1) (by decide)
  have b2 : n 1 ≤ 24 := I.1.2.1
  refine P.aload_n (pc := 0) 0 dX9_fetch_0 rfl rfl ?_
  refine P.getR (pc := 1) fl_X9_10 dX9_fetch_1 rfl rfl ?_
  refine P.getR (pc := 4) fl_X9_68 dX9_fetch_4 rfl rfl ?_
  refine P.iload_n (pc := 7) 2 dX9_fetch_7 rfl rfl ?_
  refine P.V1F (pc := 8) cs_X9_fetch_115 dX9_fetch_8 rfl rfl rfl (sp_X4_has hc b2 _) ?_
  refine P.ifeqB (pc := 11) 26 dX9_fetch_11 (by decide) (fun c11 => ?_) (fun c11 => ?_)
  · refine P.bipush (pc := 26) (v := -2) dX9_fetch_26 (by decide) ?_
    refine P.iret (pc := 28) dX9_fetch_28 rfl ?_
    first | exact ⟨_, rfl, h20⟩ | exact pxI (by rw [o_fetch, if_pos (by grind)]) R frX.rf
  · refine P.aload_n (pc := 14) 0 dX9_fetch_14 rfl rfl ?_
    refine P.getR (pc := 15) fl_X9_40 dX9_fetch_15 rfl rfl ?_
    refine P.iload_n (pc := 18) 1 dX9_fetch_18 rfl rfl ?_
    refine P.iload_n (pc := 19) 2 dX9_fetch_19 rfl rfl ?_
    refine P.V2I (pc := 20) cs_X9_fetch_191 dX9_fetch_20 rfl rfl rfl (sp_X0_giveBack I R _ c11) (fun v20 M20 h20 => ?_)
    refine P.goto (pc := 23) 28 dX9_fetch_23 (by decide) ?_
    refine P.iret (pc := 28) dX9_fetch_28 rfl ?_
    first | exact ⟨_, rfl, h20⟩ | exact pxI (by rw [o_fetch, if_pos (by grind)]) R frX.rf
theorem sp_X9_with {n : Nat → Nat} {σ M : xM} (I : Iv n σ) (R : RX n σ M) (c : Int32) : SpI mX9_with [.ref 0, .int c] M (PX (o_with n σ c) M) := by
  have hc : M 31 1 = nI (n 3) := R.2.2 (31, 1, 3) (by decide)
  have b3 : n 3 ≤ 40 := I.2.2.2.1.1
  have a2 := R.1 32 (by decide)
  refine P.aload_n (pc := 0) 0 dX9_with_0 rfl rfl ?_
  refine P.getR (pc := 1) fl_X9_40 dX9_with_1 rfl rfl ?_
  refine P.iload_n (pc := 4) 1 dX9_with_4 rfl rfl ?_
  refine P.V1F (pc := 5) cs_X9_with_194 dX9_with_5 rfl rfl rfl (sp_X0_hasChild hc b3 _) ?_
  refine P.ifeqB (pc := 8) 23 dX9_with_8 (by decide) (fun c8 => ?_) (fun c8 => ?_)
  · refine P.bipush (pc := 23) (v := -2) dX9_with_23 (by decide) ?_
    refine P.iret (pc := 25) dX9_with_25 rfl ?_
    first | exact pxI (by rw [o_with, if_pos c8', ck, a2]) R frX.rf | exact pxI (by rw [o_with, if_neg c8]) R frX.rf
  · have c8' := c8
    obtain ⟨a, ha, rfl⟩ := c8
    have ck := nI_clamp (n := a) (by omega)
    refine P.aload_n (pc := 11) 0 dX9_with_11 rfl rfl ?_
    refine P.getR (pc := 12) fl_X9_40 dX9_with_12 rfl rfl ?_
    refine P.getR (pc := 15) fl_X9_197 dX9_with_15 rfl rfl ?_
    refine P.iload_n (pc := 18) 1 dX9_with_18 rfl rfl ?_
    refine P.iaN (pc := 19) _ dX9_with_19 rfl rfl rfl (by first | omega | grind [nT]) ?_
    refine P.goto (pc := 20) 25 dX9_with_20 (by decide) ?_
    refine P.iret (pc := 25) dX9_with_25 rfl ?_
    first | exact pxI (by rw [o_with, if_pos c8', ck, a2]) R frX.rf | exact pxI (by rw [o_with, if_neg c8]) R frX.rf
