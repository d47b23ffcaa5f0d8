theorem P.ldc_w {k : xK} {pc : Nat} {L : xL} {st : List Value} {M : xM} {Φ : Option Value → xM → Prop} {idx : Nat} {v : Int32} (hc : xCI k.1.cls idx v) (hd : decode k.2.1 pc = .ok (.ldc_w idx, 3)) (h : P k (pc + 3) L (.int v :: st) M Φ) : P k pc L st M Φ := by
  intro l D ad cI cZ p e s m args below meth c A H locs ls C hL hP hS
  exact lv_ldcw C.1 C.2.1 C.2.2.2.1 (C.2.2.2.2.1 _ (List.mem_cons_of_mem _ (xTB_of hc rfl))) hd (h l D ad cI cZ p e s m args below meth c A H locs ls C hL hP hS)
theorem RM.scr {n : Nat → Nat} {σ M : xM} (h : RM n σ M) {c : Nat} (hc : c ∈ [57, 58, 59, 60, 68, 69, 70, 83]) (f : Nat → Int32) : RM n σ (xw M c f) := by
  have i1 : ∀ q ∈ xArrM, ∀ r ∈ [57, 58, 59, 60, 68, 69, 70, 83], q.1 ≠ r := by decide
  have i2 : ∀ q ∈ xScalM, ∀ r ∈ [57, 58, 59, 60, 68, 69, 70, 83], q.1 ≠ r := by decide
  have i3 : ∀ r ∈ [57, 58, 59, 60, 68, 69, 70, 83], 46 ≠ r ∧ 54 ≠ r ∧ 62 ≠ r ∧ 71 ≠ r ∧ 72 ≠ r := by decide
  obtain ⟨d1, d2, d3, d4, d5⟩ := i3 _ hc
  obtain ⟨h1, h2, h3, h4, h5, h6⟩ := h
  refine ⟨fun q hq => ?_, fun q hq => ?_, fun q hq => ?_, ?_, ?_, ?_⟩
  · rw [xw_ap, if_neg (i1 q hq _ hc)]; exact h1 q hq
  · rw [xw_ap, if_neg (i2 q hq _ hc)]; exact h2 q hq
  · rw [xw_ap, if_neg d1]; exact h3 q hq
  · intro j hj; rw [xw_ap, if_neg d2]; exact h4 j hj
  · intro j hj; rw [xw_ap, if_neg d3]; exact h5 j hj
  · intro g hg; rw [xw_ap, xw_ap, if_neg d4, if_neg d5]; exact h6 g hg
theorem RM.scrU {n : Nat → Nat} {σ M : xM} (h : RM n σ M) (v : Int32) : RM n σ (xw M 46 (upd (M 46) 13 v)) := by
  have i1 : ∀ q ∈ xArrM, q.1 ≠ 46 := by decide
  have i2 : ∀ q ∈ xScalM, q.1 = 46 → q.2.1 ≠ 13 := by decide
  have i3 : ∀ q ∈ xCntM, q.1 ≠ 13 := by decide
  obtain ⟨h1, h2, h3, h4, h5, h6⟩ := h
  refine ⟨fun q hq => ?_, fun q hq => ?_, fun q hq => ?_, ?_, ?_, ?_⟩
  · rw [xw_ap, if_neg (i1 q hq)]; exact h1 q hq
  · rw [xw_ap]; split
    · rename_i e
      rw [upd_ap, if_neg (i2 q hq e), ← e]; exact h2 q hq
    · exact h2 q hq
  · rw [xw_ap, if_pos rfl, upd_ap, if_neg (i3 q hq)]; exact h3 q hq
  · intro j hj; rw [xw_ap, if_neg (by decide)]; exact h4 j hj
  · intro j hj; rw [xw_ap, if_neg (by decide)]; exact h5 j hj
  · intro g hg; rw [xw_ap, xw_ap, if_neg (by decide), if_neg (by decide)]; exact h6 g hg
theorem sp_rangeCheck (M : xM) {a b c : Nat} (h1 : b ≤ c) (h2 : c ≤ a) (h3 : a ≤ 5000) : SpV mJ7_rangeCheck_23922 [.int (nI a), .int (nI b), .int (nI c)] M (fun M' => M' = M) := by
  refine P.iload_n (pc := 0) 1 dJ7_rangeCheck_23922_0 rfl rfl ?_
  refine P.iload_n (pc := 1) 2 dJ7_rangeCheck_23922_1 rfl rfl ?_
  refine P.icle (pc := 2) 46 dJ7_rangeCheck_23922_2 (by decide) (fun c2 => ?_) (fun c2 => ?_)
  · refine P.iload_n (pc := 46) 1 dJ7_rangeCheck_23922_46 rfl rfl ?_
    refine P.ifge (pc := 47) 59 dJ7_rangeCheck_23922_47 (by decide) (fun c47 => ?_) (fun c47 => ?_)
    · refine P.iload_n (pc := 59) 2 dJ7_rangeCheck_23922_59 rfl rfl ?_
      refine P.iload_n (pc := 60) 0 dJ7_rangeCheck_23922_60 rfl rfl ?_
      refine P.icle (pc := 61) 73 dJ7_rangeCheck_23922_61 (by decide) (fun c61 => ?_) (fun c61 => ?_)
      · refine P.vret (pc := 73) dJ7_rangeCheck_23922_73 rfl ?_
        exact ⟨rfl, rfl⟩
      · exact absurd (show nI c ≤ nI a by grind [nT]) c61--.
    · exact absurd (show 0 ≤ nI b by grind [nT]) c47--.
  · exact absurd (show nI b ≤ nI c by grind [nT]) c2--.
def xfill (f : Nat → Int32) (a b : Nat) (v : Int32) : Nat → Int32 := fun j => if a ≤ j ∧ j < b then v else f j
theorem xw_same (M : xM) (q : Nat) : xw M q (M q) = M := by
  funext z; rw [xw_ap]; split
  · rename_i e; rw [e]
  · rfl
theorem xfill_s (f : Nat → Int32) {a b : Nat} (h : a ≤ b) (v : Int32) : upd (xfill f a b v) b v = xfill f a (b + 1) v := by
  funext j
  simp only [upd_ap, xfill]
  grind
theorem xfill_0 (f : Nat → Int32) (a : Nat) (v : Int32) : xfill f a a v = f := by
  funext j; rw [xfill, if_neg (by omega)]
theorem sp_fill4 (M : xM) {q N a b : Nat} (hq : xsh[q]? = some (.inl (false, N))) (hN : Nat.ble N 5000 = true) (h1 : a ≤ b) (h2 : b ≤ N) (v : Int32) : SpV mJ7_fill_fda19 [.ref q, .int (nI a), .int (nI b), .int v] M (fun M' => M' = xw M q (xfill (M q) a b v)) := by
  have hN' := Nat.le_of_ble_eq_true hN
  have lp : ∀ (k i : Nat) (x : Int32) (M1 : xM), i + k = b → a ≤ i → x = nI i → M1 = xw M q (xfill (M q) a i v) → P mJ7_fill_fda19 10 [some (.ref q), some (.int (nI a)), some (.int (nI b)), some (.int v), some (.int x)] [] M1 (fun r M' => r = none ∧ M' = xw M q (xfill (M q) a b v)) := by
    intro k
    induction k with
    | zero =>
      intro i x M1 hi ha hx hM
      subst hx
      refine P.iload (pc := 10) 4 dJ7_fill_fda19_10 rfl ?_
      refine P.iload_n (pc := 12) 2 dJ7_fill_fda19_12 rfl rfl ?_
      refine P.icge (pc := 13) 27 dJ7_fill_fda19_13 (by decide) (fun c13 => ?_) (fun c13 => ?_)
      · refine P.vret (pc := 27) dJ7_fill_fda19_27 rfl ?_
        exact ⟨rfl, by rw [hM, show i = _ from hi]⟩
      · exact absurd (show nI b ≤ nI i by grind [nT]) c13--.
    | succ k ih =>
      intro i x M1 hi ha hx hM
      subst hx
      refine P.iload (pc := 10) 4 dJ7_fill_fda19_10 rfl ?_
      refine P.iload_n (pc := 12) 2 dJ7_fill_fda19_12 rfl rfl ?_
      refine P.icge (pc := 13) 27 dJ7_fill_fda19_13 (by decide) (fun c13 => ?_) (fun c13 => ?_)
      · exact absurd c13 (by grind [nT])--.
      · refine P.aload_n (pc := 16) 0 dJ7_fill_fda19_16 rfl rfl ?_
        refine P.iload (pc := 17) 4 dJ7_fill_fda19_17 rfl ?_
        refine P.iload_n (pc := 19) 3 dJ7_fill_fda19_19 rfl rfl ?_
        refine P.isN (pc := 20) _ dJ7_fill_fda19_20 hq hN rfl (by first | omega | grind [nT]) ?_
        refine P.iinc (pc := 21) 4 1 dJ7_fill_fda19_21 rfl (by decide) (by decide) rfl ?_
        refine P.goto (pc := 24) 10 dJ7_fill_fda19_24 (by decide) ?_
        exact ih (i + 1) _ _ (by omega) (by omega) (nI_1 i) (by rw [hM, xw_xw, xw_s, xfill_s _ ha])
  refine P.aload_n (pc := 0) 0 dJ7_fill_fda19_0 rfl rfl ?_
  refine P.alen (pc := 1) dJ7_fill_fda19_1 hq ?_
  refine P.iload_n (pc := 2) 1 dJ7_fill_fda19_2 rfl rfl ?_
  refine P.iload_n (pc := 3) 2 dJ7_fill_fda19_3 rfl rfl ?_
  refine P.S3V (pc := 4) cs_J7_fill_fda19_13 dJ7_fill_fda19_4 rfl rfl (sp_rangeCheck M (a := N) (b := a) (c := b) h1 h2 hN') (fun M4 h4 => ?_)
  subst h4
  refine P.iload_n (pc := 7) 1 dJ7_fill_fda19_7 rfl rfl ?_
  refine P.istore (pc := 8) 4 dJ7_fill_fda19_8 (by decide) rfl ?_
  exact lp (b - a) a _ _ (by omega) (Nat.le_refl a) rfl (by rw [xfill_0, xw_same])
theorem sp_fill2 (M : xM) {q N : Nat} (hq : xsh[q]? = some (.inl (false, N))) (hN : Nat.ble N 5000 = true) (v : Int32) : SpV mJ7_fill_53178 [.ref q, .int v] M (fun M' => M' = xw M q (xfill (M q) 0 N v)) := by
  have hN' := Nat.le_of_ble_eq_true hN
  have lp : ∀ (k i : Nat) (x : Int32) (M1 : xM), i + k = N → x = nI i → M1 = xw M q (xfill (M q) 0 i v) → P mJ7_fill_53178 5 [some (.ref q), some (.int v), some (.int x), some (.int (nI N))] [] M1 (fun r M' => r = none ∧ M' = xw M q (xfill (M q) 0 N v)) := by
    intro k
    induction k with
    | zero =>
      intro i x M1 hi hx hM
      subst hx
      refine P.iload_n (pc := 5) 2 dJ7_fill_53178_5 rfl rfl ?_
      refine P.iload_n (pc := 6) 3 dJ7_fill_53178_6 rfl rfl ?_
      refine P.icge (pc := 7) 20 dJ7_fill_53178_7 (by decide) (fun c7 => ?_) (fun c7 => ?_)
      · refine P.vret (pc := 20) dJ7_fill_53178_20 rfl ?_
        exact ⟨rfl, by rw [hM, show i = _ from hi]⟩
      · exact absurd (show nI N ≤ nI i by grind [nT]) c7--.
    | succ k ih =>
      intro i x M1 hi hx hM
      subst hx
      refine P.iload_n (pc := 5) 2 dJ7_fill_53178_5 rfl rfl ?_
      refine P.iload_n (pc := 6) 3 dJ7_fill_53178_6 rfl rfl ?_
      refine P.icge (pc := 7) 20 dJ7_fill_53178_7 (by decide) (fun c7 => ?_) (fun c7 => ?_)
      · exact absurd c7 (by grind [nT])--.
      · refine P.aload_n (pc := 10) 0 dJ7_fill_53178_10 rfl rfl ?_
        refine P.iload_n (pc := 11) 2 dJ7_fill_53178_11 rfl rfl ?_
        refine P.iload_n (pc := 12) 1 dJ7_fill_53178_12 rfl rfl ?_
        refine P.isN (pc := 13) _ dJ7_fill_53178_13 hq hN rfl (by first | omega | grind [nT]) ?_
        refine P.iinc (pc := 14) 2 1 dJ7_fill_53178_14 rfl (by decide) (by decide) rfl ?_
        refine P.goto (pc := 17) 5 dJ7_fill_53178_17 (by decide) ?_
        exact ih (i + 1) _ _ (by omega) (nI_1 i) (by rw [hM, xw_xw, xw_s, xfill_s _ (Nat.zero_le i)])
  refine P.iconst (pc := 0) (v := 0) dJ7_fill_53178_0 (by decide) ?_
  refine P.istore_n (pc := 1) 2 dJ7_fill_53178_1 rfl (by decide) rfl ?_
  refine P.aload_n (pc := 2) 0 dJ7_fill_53178_2 rfl rfl ?_
  refine P.alen (pc := 3) dJ7_fill_53178_3 hq ?_
  refine P.istore_n (pc := 4) 3 dJ7_fill_53178_4 rfl (by decide) rfl ?_
  exact lp N 0 _ _ (by omega) rfl (by rw [xfill_0, xw_same])
def fnd (σ : xM) (k : Int32) : xM := xw σ 42 (upd (σ 42) 0 k)
def o_lack (n : Nat → Nat) (σ : xM) (s : Nat) (f i : Int32) : xO :=
  if σ 43 s = -1 then (-11, n, fnd σ 1) else if σ 43 s ≠ f then (-13, n, fnd σ 3) else if ¬ (0 ≤ i ∧ i ≤ σ 44 s - 1) then (-12, n, fnd σ 2) else (0, n, σ)
def o_refuse (n : Nat → Nat) (σ : xM) (s f i : Int32) : xO := if ¬ (0 ≤ s ∧ s ≤ 3 ∧ 0 ≤ f ∧ f ≤ 2) then (-2, n, σ) else o_lack n σ s.toNatClampNeg f i
def o_sheet (n : Nat → Nat) (σ : xM) (s f m : Int32) : xO :=
  if ¬ (0 ≤ s ∧ s ≤ 3 ∧ 0 ≤ f ∧ f ≤ 2 ∧ m ≤ 60) then (-2, n, σ) else if m < 0 then (-15, n, fnd σ 5) else
  (m, n, xw (xw (xw σ 43 (upd (σ 43) s.toNatClampNeg f)) 44 (upd (σ 44) s.toNatClampNeg m)) 45 (xfill (σ 45) (s.toNatClampNeg * 60) (s.toNatClampNeg * 60 + m.toNatClampNeg) 0))
def o_lose (n : Nat → Nat) (σ : xM) (s : Int32) : xO :=
  if ¬ (0 ≤ s ∧ s ≤ 3) then (-2, n, σ) else if σ 43 s.toNatClampNeg = -1 then (-11, n, fnd σ 1) else (σ 44 s.toNatClampNeg, n, xw σ 43 (upd (σ 43) s.toNatClampNeg (-1)))
def xcut (f v : Int32) : Int32 := if f = 0 then v.toInt8.toInt32 else if f = 1 then v.toInt16.toInt32 else v
def o_put (n : Nat → Nat) (σ : xM) (s f i v : Int32) : xO :=
  if ¬ (o_refuse n σ s f i).1 = 0 then o_refuse n σ s f i else (1, n, xw σ 45 (upd (σ 45) (s.toNatClampNeg * 60 + i.toNatClampNeg) (xcut f v)))
def o_get (n : Nat → Nat) (σ : xM) (s f i : Int32) : xO :=
  if ¬ (o_refuse n σ s f i).1 = 0 then (-2147483648, (o_refuse n σ s f i).2) else (σ 45 (s.toNatClampNeg * 60 + i.toNatClampNeg), n, σ)
def o_copy (n : Nat → Nat) (σ : xM) (s i t j m : Int32) : xO :=
  if ¬ (0 ≤ s ∧ s ≤ 3 ∧ 0 ≤ t ∧ t ≤ 3) then (-2, n, σ) else if σ 43 s.toNatClampNeg = -1 ∨ σ 43 t.toNatClampNeg = -1 then (-11, n, fnd σ 1) else
  if ¬ σ 43 s.toNatClampNeg = σ 43 t.toNatClampNeg then (-14, n, fnd σ 4) else
  if ¬ (0 ≤ i ∧ 0 ≤ j ∧ 0 ≤ m ∧ i ≤ σ 44 s.toNatClampNeg ∧ m ≤ σ 44 s.toNatClampNeg - i ∧ j ≤ σ 44 t.toNatClampNeg ∧ m ≤ σ 44 t.toNatClampNeg - j) then (-12, n, fnd σ 2) else
  (1, n, xw σ 45 (va_cpy (σ 45) (σ 45) (s.toNatClampNeg * 60 + i.toNatClampNeg) (t.toNatClampNeg * 60 + j.toNatClampNeg) m.toNatClampNeg))
theorem o_lack_0 {n : Nat → Nat} {σ : xM} {s : Nat} {f i : Int32} (h : (o_lack n σ s f i).1 = 0) : o_lack n σ s f i = (0, n, σ) ∧ σ 43 s = f ∧ 0 ≤ i ∧ i ≤ σ 44 s - 1 := by
  unfold o_lack at *
  grind
theorem o_refuse_0 {n : Nat → Nat} {σ : xM} {s f i : Int32} (h : (o_refuse n σ s f i).1 = 0) : o_refuse n σ s f i = (0, n, σ) ∧ 0 ≤ s ∧ s ≤ 3 ∧ 0 ≤ f ∧ f ≤ 2 ∧ 0 ≤ i ∧ i ≤ σ 44 s.toNatClampNeg - 1 := by
  unfold o_refuse at *
  split at h
  · simp at h
  · rename_i q
    obtain ⟨h1, h2, h3, h4⟩ := o_lack_0 h
    grind
theorem sp_X6_has (M : xM) (s : Int32) : SpF mX6_has [.ref 42, .int s] M (bI (0 ≤ s ∧ s ≤ 3)) := by
  refine P.iload_n (pc := 0) 1 dX6_has_0 rfl rfl ?_
  refine P.iconst (pc := 1) (v := 0) dX6_has_1 (by decide) ?_
  refine P.iconst (pc := 2) (v := 3) dX6_has_2 (by decide) ?_
  refine P.N3F (pc := 3) cs_X6_has_31 dX6_has_3 rfl rfl (sp_X9_within _ _ _ _) ?_
  refine P.zretB (pc := 6) dX6_has_6 rfl ?_
  exact ⟨rfl, rfl⟩
theorem sp_X6_find (M : xM) (k : Int32) : SpI mX6_find [.ref 42, .int k] M (fun v M' => v = -10 - k ∧ M' = fnd M k) := by
  refine P.aload_n (pc := 0) 0 dX6_find_0 rfl rfl ?_
  refine P.iload_n (pc := 1) 1 dX6_find_1 rfl rfl ?_
  refine P.put (pc := 2) fp_X6_9 dX6_find_2 rfl rfl ?_
  refine P.bipush (pc := 5) (v := -10) dX6_find_5 (by decide) ?_
  refine P.iload_n (pc := 7) 1 dX6_find_7 rfl rfl ?_
  refine P.isub (pc := 8) dX6_find_8 ?_
  refine P.iret (pc := 9) dX6_find_9 rfl ?_
  exact ⟨_, rfl, rfl, rfl⟩
theorem RX.fnd {n : Nat → Nat} {σ M : xM} (h : RX n σ M) (k : Int32) : RX n (fnd σ k) (fnd M k) := h.scal (by decide) (by decide) k
theorem RM.fnd {n : Nat → Nat} {σ M : xM} (h : RM n σ M) (k : Int32) : RM n (fnd σ k) (xw M 46 (upd (M 46) 46 k)) := h.scal (a := 46) (i := 46) (o := 42) (j := 0) (by decide) k
theorem frX.fnd {M : xM} (k : Int32) : frX M (fnd M k) := frX.rf.w (by decide) _
theorem s_nat {s : Int32} (h1 : 0 ≤ s) (h2 : s ≤ 3) : ∃ a, a ≤ 3 ∧ s = nI a := by
  obtain ⟨a, -, h, e⟩ := xin_nat 3 (lo := 0) h1 h2 (by decide) (by decide)
  exact ⟨a, h, e⟩
theorem sp_X6_refusal {n : Nat → Nat} {σ M : xM} (I : Iv n σ) (R : RX n σ M) (s f i : Int32) : SpI mX6_refusal [.ref 42, .int s, .int f, .int i] M (PX (o_refuse n σ s f i) M) := by
  have a1 := R.1 43 (by decide)
  have a2 := R.1 44 (by decide)
  refine P.aload_n (pc := 0) 0 dX6_refusal_0 rfl rfl ?_
  refine P.iload_n (pc := 1) 1 dX6_refusal_1 rfl rfl ?_
  refine P.V1F (pc := 2) cs_X6_refusal_35 dX6_refusal_2 rfl rfl rfl (sp_X6_has _ _) ?_
  refine P.ifeqB (pc := 5) 17 dX6_refusal_5 (by decide) (fun c5 => ?_) (fun c5 => ?_)
  · refine P.bipush (pc := 17) (v := -2) dX6_refusal_17 (by decide) ?_
    refine P.iret (pc := 19) dX6_refusal_19 rfl ?_
    exact pxI (by grind [o_refuse]) R frX.rf
  · refine P.iload_n (pc := 8) 2 dX6_refusal_8 rfl rfl ?_
    refine P.iconst (pc := 9) (v := 0) dX6_refusal_9 (by decide) ?_
    refine P.iconst (pc := 10) (v := 2) dX6_refusal_10 (by decide) ?_
    refine P.N3F (pc := 11) cs_X6_refusal_31 dX6_refusal_11 rfl rfl (sp_X9_within _ _ _ _) ?_
    refine P.ifneB (pc := 14) 20 dX6_refusal_14 (by decide) (fun c14 => ?_) (fun c14 => ?_)
    · obtain ⟨a, ha, rfl⟩ := s_nat c5.1 c5.2
      have ck := nI_clamp (n := a) (by omega)
      refine P.aload_n (pc := 20) 0 dX6_refusal_20 rfl rfl ?_
      refine P.getR (pc := 21) fl_X6_15 dX6_refusal_21 rfl rfl ?_
      refine P.iload_n (pc := 24) 1 dX6_refusal_24 rfl rfl ?_
      refine P.iaN (pc := 25) _ dX6_refusal_25 rfl rfl rfl (by first | omega | grind [nT]) ?_
      refine P.iconst (pc := 26) (v := -1) dX6_refusal_26 (by decide) ?_
      refine P.icne (pc := 27) 36 dX6_refusal_27 (by decide) (fun c27 => ?_) (fun c27 => ?_)
      · refine P.aload_n (pc := 36) 0 dX6_refusal_36 rfl rfl ?_
        refine P.getR (pc := 37) fl_X6_15 dX6_refusal_37 rfl rfl ?_
        refine P.iload_n (pc := 40) 1 dX6_refusal_40 rfl rfl ?_
        refine P.iaN (pc := 41) _ dX6_refusal_41 rfl rfl rfl (by first | omega | grind [nT]) ?_
        refine P.iload_n (pc := 42) 2 dX6_refusal_42 rfl rfl ?_
        refine P.iceq (pc := 43) 52 dX6_refusal_43 (by decide) (fun c43 => ?_) (fun c43 => ?_)
        · refine P.iload_n (pc := 52) 3 dX6_refusal_52 rfl rfl ?_
          refine P.iconst (pc := 53) (v := 0) dX6_refusal_53 (by decide) ?_
          refine P.aload_n (pc := 54) 0 dX6_refusal_54 rfl rfl ?_
          refine P.getR (pc := 55) fl_X6_19 dX6_refusal_55 rfl rfl ?_
          refine P.iload_n (pc := 58) 1 dX6_refusal_58 rfl rfl ?_
          refine P.iaN (pc := 59) _ dX6_refusal_59 rfl rfl rfl (by first | omega | grind [nT]) ?_
          refine P.iconst (pc := 60) (v := 1) dX6_refusal_60 (by decide) ?_
          refine P.isub (pc := 61) dX6_refusal_61 ?_
          refine P.N3F (pc := 62) cs_X6_refusal_31 dX6_refusal_62 rfl rfl (sp_X9_within _ _ _ _) ?_
          refine P.ifeqB (pc := 65) 72 dX6_refusal_65 (by decide) (fun c65 => ?_) (fun c65 => ?_)
          · refine P.aload_n (pc := 72) 0 dX6_refusal_72 rfl rfl ?_
            refine P.iconst (pc := 73) (v := 2) dX6_refusal_73 (by decide) ?_
            refine P.V1I (pc := 74) cs_X6_refusal_39 dX6_refusal_74 rfl rfl rfl (sp_X6_find _ _) (fun v74 M74 h74 => ?_)
            obtain ⟨rfl, rfl⟩ := h74
            refine P.iret (pc := 77) dX6_refusal_77 rfl ?_
            first | exact pxI (by rw [o_refuse, if_neg (by grind), ck, o_lack, if_neg (by grind), if_neg (by grind), if_pos (by grind)]; rfl) (R.fnd 2) (frX.fnd 2) | exact pxI (by rw [o_refuse, if_neg (by grind), ck, o_lack, if_neg (by grind), if_neg (by grind), if_neg (by grind)]) R frX.rf
          · refine P.iconst (pc := 68) (v := 0) dX6_refusal_68 (by decide) ?_
            refine P.goto (pc := 69) 77 dX6_refusal_69 (by decide) ?_
            refine P.iret (pc := 77) dX6_refusal_77 rfl ?_
            first | exact pxI (by rw [o_refuse, if_neg (by grind), ck, o_lack, if_neg (by grind), if_neg (by grind), if_pos (by grind)]; rfl) (R.fnd 2) (frX.fnd 2) | exact pxI (by rw [o_refuse, if_neg (by grind), ck, o_lack, if_neg (by grind), if_neg (by grind), if_neg (by grind)]) R frX.rf
        · refine P.aload_n (pc := 46) 0 dX6_refusal_46 rfl rfl ?_
          refine P.iconst (pc := 47) (v := 3) dX6_refusal_47 (by decide) ?_
          refine P.V1I (pc := 48) cs_X6_refusal_39 dX6_refusal_48 rfl rfl rfl (sp_X6_find _ _) (fun v48 M48 h48 => ?_)
          obtain ⟨rfl, rfl⟩ := h48
          refine P.iret (pc := 51) dX6_refusal_51 rfl ?_
          exact pxI (by rw [o_refuse, if_neg (by grind), ck, o_lack, if_neg (by grind), if_pos (by grind)]; rfl) (R.fnd 3) (frX.fnd 3)
      · refine P.aload_n (pc := 30) 0 dX6_refusal_30 rfl rfl ?_
        refine P.iconst (pc := 31) (v := 1) dX6_refusal_31 (by decide) ?_
        refine P.V1I (pc := 32) cs_X6_refusal_39 dX6_refusal_32 rfl rfl rfl (sp_X6_find _ _) (fun v32 M32 h32 => ?_)
        obtain ⟨rfl, rfl⟩ := h32
        refine P.iret (pc := 35) dX6_refusal_35 rfl ?_
        exact pxI (by rw [o_refuse, if_neg (by grind), ck, o_lack, if_pos (by grind)]; rfl) (R.fnd 1) (frX.fnd 1)
    · refine P.bipush (pc := 17) (v := -2) dX6_refusal_17 (by decide) ?_
      refine P.iret (pc := 19) dX6_refusal_19 rfl ?_
      exact pxI (by grind [o_refuse]) R frX.rf
theorem sp_X6_cut (M : xM) (f v : Int32) : SpF mX6_cut [.int f, .int v] M (xcut f v) := by
  refine P.iload_n (pc := 0) 0 dX6_cut_0 rfl rfl ?_
  refine P.ifne (pc := 1) 7 dX6_cut_1 (by decide) (fun c1 => ?_) (fun c1 => ?_)
  · refine P.iload_n (pc := 7) 0 dX6_cut_7 rfl rfl ?_
    refine P.iconst (pc := 8) (v := 1) dX6_cut_8 (by decide) ?_
    refine P.icne (pc := 9) 17 dX6_cut_9 (by decide) (fun c9 => ?_) (fun c9 => ?_)
    · refine P.iload_n (pc := 17) 1 dX6_cut_17 rfl rfl ?_
      refine P.iret (pc := 18) dX6_cut_18 rfl ?_
      exact ⟨by grind [xcut], rfl⟩
    · refine P.iload_n (pc := 12) 1 dX6_cut_12 rfl rfl ?_
      refine P.i2s (pc := 13) dX6_cut_13 ?_
      refine P.goto (pc := 14) 18 dX6_cut_14 (by decide) ?_
      refine P.iret (pc := 18) dX6_cut_18 rfl ?_
      exact ⟨by grind [xcut], rfl⟩
  · refine P.iload_n (pc := 4) 1 dX6_cut_4 rfl rfl ?_
    refine P.i2b (pc := 5) dX6_cut_5 ?_
    refine P.iret (pc := 6) dX6_cut_6 rfl ?_
    exact ⟨by grind [xcut], rfl⟩
theorem sp_X6_renew {n : Nat → Nat} {σ M : xM} (I : Iv n σ) (R : RX n σ M) (s f m : Int32) : SpI mX6_renew [.ref 42, .int s, .int f, .int m] M (PX (o_sheet n σ s f m) M) := by
  have a1 := R.1 43 (by decide)
  have a2 := R.1 44 (by decide)
  have a3 := R.1 45 (by decide)
  refine P.aload_n (pc := 0) 0 dX6_renew_0 rfl rfl ?_
  refine P.iload_n (pc := 1) 1 dX6_renew_1 rfl rfl ?_
  refine P.V1F (pc := 2) cs_X6_renew_35 dX6_renew_2 rfl rfl rfl (sp_X6_has _ _) ?_
  refine P.ifeqB (pc := 5) 23 dX6_renew_5 (by decide) (fun c5 => ?_) (fun c5 => ?_)
  · refine P.bipush (pc := 23) (v := -2) dX6_renew_23 (by decide) ?_
    refine P.iret (pc := 25) dX6_renew_25 rfl ?_
    exact pxI (by grind [o_sheet]) R frX.rf
  · refine P.iload_n (pc := 8) 2 dX6_renew_8 rfl rfl ?_
    refine P.iconst (pc := 9) (v := 0) dX6_renew_9 (by decide) ?_
    refine P.iconst (pc := 10) (v := 2) dX6_renew_10 (by decide) ?_
    refine P.N3F (pc := 11) cs_X6_renew_31 dX6_renew_11 rfl rfl (sp_X9_within _ _ _ _) ?_
    refine P.ifeqB (pc := 14) 23 dX6_renew_14 (by decide) (fun c14 => ?_) (fun c14 => ?_)
    · refine P.bipush (pc := 23) (v := -2) dX6_renew_23 (by decide) ?_
      refine P.iret (pc := 25) dX6_renew_25 rfl ?_
      exact pxI (by grind [o_sheet]) R frX.rf
    · refine P.iload_n (pc := 17) 3 dX6_renew_17 rfl rfl ?_
      refine P.bipush (pc := 18) (v := 60) dX6_renew_18 (by decide) ?_
      refine P.icle (pc := 20) 26 dX6_renew_20 (by decide) (fun c20 => ?_) (fun c20 => ?_)
      · refine P.iload_n (pc := 26) 3 dX6_renew_26 rfl rfl ?_
        refine P.ifge (pc := 27) 36 dX6_renew_27 (by decide) (fun c27 => ?_) (fun c27 => ?_)
        · obtain ⟨a, ha, rfl⟩ := s_nat c5.1 c5.2
          have ck := nI_clamp (n := a) (by omega)
          obtain ⟨b, -, hb, rfl⟩ := xin_nat 60 (lo := 0) (v := m) (by grind [nT]) c20 (by decide) (by decide)
          have ck2 := nI_clamp (n := b) (by omega)
          refine P.aload_n (pc := 36) 0 dX6_renew_36 rfl rfl ?_
          refine P.getR (pc := 37) fl_X6_15 dX6_renew_37 rfl rfl ?_
          refine P.iload_n (pc := 40) 1 dX6_renew_40 rfl rfl ?_
          refine P.iload_n (pc := 41) 2 dX6_renew_41 rfl rfl ?_
          refine P.isN (pc := 42) _ dX6_renew_42 rfl rfl rfl (by first | omega | grind [nT]) ?_
          refine P.aload_n (pc := 43) 0 dX6_renew_43 rfl rfl ?_
          refine P.getR (pc := 44) fl_X6_19 dX6_renew_44 rfl rfl ?_
          refine P.iload_n (pc := 47) 1 dX6_renew_47 rfl rfl ?_
          refine P.iload_n (pc := 48) 3 dX6_renew_48 rfl rfl ?_
          refine P.isN (pc := 49) _ dX6_renew_49 rfl rfl rfl (by first | omega | grind [nT]) ?_
          refine P.aload_n (pc := 50) 0 dX6_renew_50 rfl rfl ?_
          refine P.getR (pc := 51) fl_X6_22 dX6_renew_51 rfl rfl ?_
          refine P.iload_n (pc := 54) 1 dX6_renew_54 rfl rfl ?_
          refine P.bipush (pc := 55) (v := 60) dX6_renew_55 (by decide) ?_
          refine P.imul (pc := 57) dX6_renew_57 ?_
          refine P.iload_n (pc := 58) 1 dX6_renew_58 rfl rfl ?_
          refine P.bipush (pc := 59) (v := 60) dX6_renew_59 (by decide) ?_
          refine P.imul (pc := 61) dX6_renew_61 ?_
          refine P.iload_n (pc := 62) 3 dX6_renew_62 rfl rfl ?_
          refine P.iadd (pc := 63) dX6_renew_63 ?_
          rw [show nI a * 60 = nI (a * 60) by simp only [nlit, pk_mul], nI_add]
          refine P.iconst (pc := 64) (v := 0) dX6_renew_64 (by decide) ?_
          refine P.S4V (pc := 65) cs_X6_renew_43 dX6_renew_65 rfl rfl (sp_fill4 _ rfl rfl (Nat.le_add_right _ _) (by omega) _) (fun M65 h65 => ?_)
          subst h65
          refine P.iload_n (pc := 68) 3 dX6_renew_68 rfl rfl ?_
          refine P.iret (pc := 69) dX6_renew_69 rfl ?_
          simp only [xw_ap, Nat.reduceEqDiff, ↓reduceIte, a1, a2, a3]
          refine pxI ?_ (((R.arr (by decide) _).arr (by decide) _).arr (by decide) _) (((frX.rf.w (by decide) _).w (by decide) _).w (by decide) _)
          rw [o_sheet, if_neg (by grind), if_neg (by grind), ck, ck2]
        · refine P.aload_n (pc := 30) 0 dX6_renew_30 rfl rfl ?_
          refine P.iconst (pc := 31) (v := 5) dX6_renew_31 (by decide) ?_
          refine P.V1I (pc := 32) cs_X6_renew_39 dX6_renew_32 rfl rfl rfl (sp_X6_find _ _) (fun v32 M32 h32 => ?_)
          obtain ⟨rfl, rfl⟩ := h32
          refine P.iret (pc := 35) dX6_renew_35 rfl ?_
          exact pxI (by rw [o_sheet, if_neg (by grind), if_pos (by grind)]; rfl) (R.fnd 5) (frX.fnd 5)
      · refine P.bipush (pc := 23) (v := -2) dX6_renew_23 (by decide) ?_
        refine P.iret (pc := 25) dX6_renew_25 rfl ?_
        exact pxI (by grind [o_sheet]) R frX.rf
theorem sp_X9_sheet {n : Nat → Nat} {σ M : xM} (I : Iv n σ) (R : RX n σ M) (s f m : Int32) : SpI mX9_sheet [.ref 0, .int s, .int f, .int m] M (PX (o_sheet n σ s f m) M) := by
  refine P.aload_n (pc := 0) 0 dX9_sheet_0 rfl rfl ?_
  refine P.getR (pc := 1) fl_X9_54 dX9_sheet_1 rfl rfl ?_
  refine P.iload_n (pc := 4) 1 dX9_sheet_4 rfl rfl ?_
  refine P.iload_n (pc := 5) 2 dX9_sheet_5 rfl rfl ?_
  refine P.iload_n (pc := 6) 3 dX9_sheet_6 rfl rfl ?_
  refine P.V3I (pc := 7) cs_X9_sheet_204 dX9_sheet_7 rfl rfl rfl (sp_X6_renew I R _ _ _) (fun v7 M7 h7 => ?_)
  refine P.iret (pc := 10) dX9_sheet_10 rfl ?_
  exact ⟨_, rfl, h7⟩
theorem sp_X6_drop {n : Nat → Nat} {σ M : xM} (I : Iv n σ) (R : RX n σ M) (s : Int32) : SpI mX6_drop [.ref 42, .int s] M (PX (o_lose n σ s) M) := by
  have a1 := R.1 43 (by decide)
  have a2 := R.1 44 (by decide)
  refine P.aload_n (pc := 0) 0 dX6_drop_0 rfl rfl ?_
  refine P.iload_n (pc := 1) 1 dX6_drop_1 rfl rfl ?_
  refine P.V1F (pc := 2) cs_X6_drop_35 dX6_drop_2 rfl rfl rfl (sp_X6_has _ _) ?_
  refine P.ifneB (pc := 5) 11 dX6_drop_5 (by decide) (fun c5 => ?_) (fun c5 => ?_)
  · obtain ⟨a, ha, rfl⟩ := s_nat c5.1 c5.2
    have ck := nI_clamp (n := a) (by omega)
    refine P.aload_n (pc := 11) 0 dX6_drop_11 rfl rfl ?_
    refine P.getR (pc := 12) fl_X6_15 dX6_drop_12 rfl rfl ?_
    refine P.iload_n (pc := 15) 1 dX6_drop_15 rfl rfl ?_
    refine P.iaN (pc := 16) _ dX6_drop_16 rfl rfl rfl (by first | omega | grind [nT]) ?_
    refine P.iconst (pc := 17) (v := -1) dX6_drop_17 (by decide) ?_
    refine P.icne (pc := 18) 27 dX6_drop_18 (by decide) (fun c18 => ?_) (fun c18 => ?_)
    · refine P.aload_n (pc := 27) 0 dX6_drop_27 rfl rfl ?_
      refine P.getR (pc := 28) fl_X6_15 dX6_drop_28 rfl rfl ?_
      refine P.iload_n (pc := 31) 1 dX6_drop_31 rfl rfl ?_
      refine P.iconst (pc := 32) (v := -1) dX6_drop_32 (by decide) ?_
      refine P.isN (pc := 33) _ dX6_drop_33 rfl rfl rfl (by first | omega | grind [nT]) ?_
      refine P.aload_n (pc := 34) 0 dX6_drop_34 rfl rfl ?_
      refine P.getR (pc := 35) fl_X6_19 dX6_drop_35 rfl rfl ?_
      refine P.iload_n (pc := 38) 1 dX6_drop_38 rfl rfl ?_
      refine P.iaN (pc := 39) _ dX6_drop_39 rfl rfl rfl (by first | omega | grind [nT]) ?_
      refine P.iret (pc := 40) dX6_drop_40 rfl ?_
      rw [a1]
      exact pxI (by rw [o_lose, if_neg (by grind), ck, if_neg (by grind)]; simp only [xw_ap, Nat.reduceEqDiff, ↓reduceIte, a2]) (R.arr (by decide) _) (frX.rf.w (by decide) _)
    · refine P.aload_n (pc := 21) 0 dX6_drop_21 rfl rfl ?_
      refine P.iconst (pc := 22) (v := 1) dX6_drop_22 (by decide) ?_
      refine P.V1I (pc := 23) cs_X6_drop_39 dX6_drop_23 rfl rfl rfl (sp_X6_find _ _) (fun v23 M23 h23 => ?_)
      obtain ⟨rfl, rfl⟩ := h23
      refine P.iret (pc := 26) dX6_drop_26 rfl ?_
      exact pxI (by rw [o_lose, if_neg (by grind), ck, if_pos (by grind)]; rfl) (R.fnd 1) (frX.fnd 1)
  · refine P.bipush (pc := 8) (v := -2) dX6_drop_8 (by decide) ?_
    refine P.iret (pc := 10) dX6_drop_10 rfl ?_
    exact pxI (by grind [o_lose]) R frX.rf
theorem sp_X9_lose {n : Nat → Nat} {σ M : xM} (I : Iv n σ) (R : RX n σ M) (s : Int32) : SpI mX9_lose [.ref 0, .int s] M (PX (o_lose n σ s) M) := by
  refine P.aload_n (pc := 0) 0 dX9_lose_0 rfl rfl ?_
  refine P.getR (pc := 1) fl_X9_54 dX9_lose_1 rfl rfl ?_
  refine P.iload_n (pc := 4) 1 dX9_lose_4 rfl rfl ?_
  refine P.V1I (pc := 5) cs_X9_lose_207 dX9_lose_5 rfl rfl rfl (sp_X6_drop I R _) (fun v5 M5 h5 => ?_)
  refine P.iret (pc := 8) dX9_lose_8 rfl ?_
  exact ⟨_, rfl, h5⟩
theorem sp_X6_store {n : Nat → Nat} {σ M : xM} (I : Iv n σ) (R : RX n σ M) (s f i v : Int32) : SpI mX6_store [.ref 42, .int s, .int f, .int i, .int v] M (PX (o_put n σ s f i v) M) := by
  refine P.aload_n (pc := 0) 0 dX6_store_0 rfl rfl ?_
  refine P.iload_n (pc := 1) 1 dX6_store_1 rfl rfl ?_
  refine P.iload_n (pc := 2) 2 dX6_store_2 rfl rfl ?_
  refine P.iload_n (pc := 3) 3 dX6_store_3 rfl rfl ?_
  refine P.V3I (pc := 4) cs_X6_store_46 dX6_store_4 rfl rfl rfl (sp_X6_refusal I R _ _ _) (fun v4 M4 h4 => ?_)
  obtain ⟨rfl, R4, F4⟩ := h4
  refine P.istore (pc := 7) 5 dX6_store_7 (by decide) rfl ?_
  refine P.iload (pc := 9) 5 dX6_store_9 rfl ?_
  refine P.ifeq (pc := 11) 17 dX6_store_11 (by decide) (fun c11 => ?_) (fun c11 => ?_)
  · obtain ⟨g1, g2, g3, g4, g5, g6, g7⟩ := o_refuse_0 c11
    obtain ⟨a, ha, rfl⟩ := s_nat g2 g3
    have ck := nI_clamp (n := a) (by omega)
    rw [ck] at g7
    obtain ⟨-, m, hm, em⟩ := I.2.2.2.2.2 a (by omega)
    obtain ⟨b, hb, rfl⟩ := (xin_iff (n := m) (by omega) i).mpr ⟨g6, by rw [← em]; exact g7⟩
    have ck2 := nI_clamp (n := b) (by omega)
    have a3 := R4.1 45 (by decide)
    rw [g1] at a3 R4
    dsimp only at a3 R4
    refine P.aload_n (pc := 17) 0 dX6_store_17 rfl rfl ?_
    refine P.getR (pc := 18) fl_X6_22 dX6_store_18 rfl rfl ?_
    refine P.iload_n (pc := 21) 1 dX6_store_21 rfl rfl ?_
    refine P.bipush (pc := 22) (v := 60) dX6_store_22 (by decide) ?_
    refine P.imul (pc := 24) dX6_store_24 ?_
    refine P.iload_n (pc := 25) 3 dX6_store_25 rfl rfl ?_
    refine P.iadd (pc := 26) dX6_store_26 ?_
    refine P.iload_n (pc := 27) 2 dX6_store_27 rfl rfl ?_
    refine P.iload (pc := 28) 4 dX6_store_28 rfl ?_
    refine P.S2F (pc := 30) cs_X6_store_50 dX6_store_30 rfl rfl (sp_X6_cut _ _ _) ?_
    refine P.isN (pc := 33) (a * 60 + b) dX6_store_33 rfl rfl (by simp only [nlit, nI_add, pk_mul]) (by first | omega | grind [nT]) ?_
    refine P.iconst (pc := 34) (v := 1) dX6_store_34 (by decide) ?_
    refine P.iret (pc := 35) dX6_store_35 rfl ?_
    rw [a3]
    exact pxI (by rw [o_put, if_neg (by rw [g1]; simp), ck, ck2]) (R4.arr (by decide) _) (F4.w (by decide) _)
  · refine P.iload (pc := 14) 5 dX6_store_14 rfl ?_
    refine P.iret (pc := 16) dX6_store_16 rfl ?_
    exact ⟨_, rfl, by rw [o_put, if_pos c11], by rw [o_put, if_pos c11]; exact R4, F4⟩
theorem sp_X9_put {n : Nat → Nat} {σ M : xM} (I : Iv n σ) (R : RX n σ M) (s f i v : Int32) : SpI mX9_put [.ref 0, .int s, .int f, .int i, .int v] M (PX (o_put n σ s f i v) M) := by
  refine P.aload_n (pc := 0) 0 dX9_put_0 rfl rfl ?_
  refine P.getR (pc := 1) fl_X9_54 dX9_put_1 rfl rfl ?_
  refine P.iload_n (pc := 4) 1 dX9_put_4 rfl rfl ?_
  refine P.iload_n (pc := 5) 2 dX9_put_5 rfl rfl ?_
  refine P.iload_n (pc := 6) 3 dX9_put_6 rfl rfl ?_
  refine P.iload (pc := 7) 4 dX9_put_7 rfl ?_
  refine P.V4I (pc := 9) cs_X9_put_210 dX9_put_9 rfl rfl rfl (sp_X6_store I R _ _ _ _) (fun v9 M9 h9 => ?_)
  refine P.iret (pc := 12) dX9_put_12 rfl ?_
  exact ⟨_, rfl, h9⟩
theorem sp_X6_read {n : Nat → Nat} {σ M : xM} (I : Iv n σ) (R : RX n σ M) (s f i : Int32) : SpI mX6_read [.ref 42, .int s, .int f, .int i] M (PX (o_get n σ s f i) M) := by
  refine P.aload_n (pc := 0) 0 dX6_read_0 rfl rfl ?_
  refine P.iload_n (pc := 1) 1 dX6_read_1 rfl rfl ?_
  refine P.iload_n (pc := 2) 2 dX6_read_2 rfl rfl ?_
  refine P.iload_n (pc := 3) 3 dX6_read_3 rfl rfl ?_
  refine P.V3I (pc := 4) cs_X6_read_46 dX6_read_4 rfl rfl rfl (sp_X6_refusal I R _ _ _) (fun v4 M4 h4 => ?_)
  obtain ⟨rfl, R4, F4⟩ := h4
  refine P.ifne (pc := 7) 24 dX6_read_7 (by decide) (fun c7 => ?_) (fun c7 => ?_)
  · refine P.ldc (pc := 24) kc_X6_54 dX6_read_24 ?_
    refine P.iret (pc := 26) dX6_read_26 rfl ?_
    first | exact pxI (by rw [o_get, if_pos c7]) R4 F4 | exact pxI (by rw [o_get, if_neg (by rw [g1]; simp), ck, ck2, a3]) R4 F4
  · obtain ⟨g1, g2, g3, g4, g5, g6, g7⟩ := o_refuse_0 c7
    obtain ⟨a, ha, rfl⟩ := s_nat g2 g3
    have ck := nI_clamp (n := a) (by omega)
    rw [ck] at g7
    obtain ⟨-, m, hm, em⟩ := I.2.2.2.2.2 a (by omega)
    obtain ⟨b, hb, rfl⟩ := (xin_iff (n := m) (by omega) i).mpr ⟨g6, by rw [← em]; exact g7⟩
    have ck2 := nI_clamp (n := b) (by omega)
    have a3 := R4.1 45 (by decide)
    rw [g1] at a3 R4
    dsimp only at a3 R4
    refine P.aload_n (pc := 10) 0 dX6_read_10 rfl rfl ?_
    refine P.getR (pc := 11) fl_X6_22 dX6_read_11 rfl rfl ?_
    refine P.iload_n (pc := 14) 1 dX6_read_14 rfl rfl ?_
    refine P.bipush (pc := 15) (v := 60) dX6_read_15 (by decide) ?_
    refine P.imul (pc := 17) dX6_read_17 ?_
    refine P.iload_n (pc := 18) 3 dX6_read_18 rfl rfl ?_
    refine P.iadd (pc := 19) dX6_read_19 ?_
    refine P.iaN (pc := 20) (a * 60 + b) dX6_read_20 rfl rfl (by simp only [nlit, nI_add, pk_mul]) (by first | omega | grind [nT]) ?_
    refine P.goto (pc := 21) 26 dX6_read_21 (by decide) ?_
    refine P.iret (pc := 26) dX6_read_26 rfl ?_
    first | exact pxI (by rw [o_get, if_pos c7]) R4 F4 | exact pxI (by rw [o_get, if_neg (by rw [g1]; simp), ck, ck2, a3]) R4 F4
theorem sp_X9_get {n : Nat → Nat} {σ M : xM} (I : Iv n σ) (R : RX n σ M) (s f i : Int32) : SpI mX9_get [.ref 0, .int s, .int f, .int i] M (PX (o_get n σ s f i) M) := by
  refine P.aload_n (pc := 0) 0 dX9_get_0 rfl rfl ?_
  refine P.getR (pc := 1) fl_X9_54 dX9_get_1 rfl rfl ?_
  refine P.iload_n (pc := 4) 1 dX9_get_4 rfl rfl ?_
  refine P.iload_n (pc := 5) 2 dX9_get_5 rfl rfl ?_
  refine P.iload_n (pc := 6) 3 dX9_get_6 rfl rfl ?_
  refine P.V3I (pc := 7) cs_X9_get_213 dX9_get_7 rfl rfl rfl (sp_X6_read I R _ _ _) (fun v7 M7 h7 => ?_)
  refine P.iret (pc := 10) dX9_get_10 rfl ?_
  exact ⟨_, rfl, h7⟩
theorem sp_X6_hasItems (M : xM) {a : Nat} (ha : a ≤ 3) (i m : Int32) : SpF mX6_hasItems [.ref 42, .int (nI a), .int i, .int m] M (bI (0 ≤ i ∧ 0 ≤ m ∧ i ≤ M 44 a ∧ m ≤ M 44 a - i)) := by
  refine P.iload_n (pc := 0) 2 dX6_hasItems_0 rfl rfl ?_
  refine P.iflt (pc := 1) 34 dX6_hasItems_1 (by decide) (fun c1 => ?_) (fun c1 => ?_)
  · refine P.iconst (pc := 34) (v := 0) dX6_hasItems_34 (by decide) ?_
    refine P.zret (pc := 35) dX6_hasItems_35 rfl (by decide) ?_
    first | exact xt ⟨by grind, by grind, by grind, by grind⟩ | exact xf (by grind)
  · refine P.iload_n (pc := 4) 3 dX6_hasItems_4 rfl rfl ?_
    refine P.iflt (pc := 5) 34 dX6_hasItems_5 (by decide) (fun c5 => ?_) (fun c5 => ?_)
    · refine P.iconst (pc := 34) (v := 0) dX6_hasItems_34 (by decide) ?_
      refine P.zret (pc := 35) dX6_hasItems_35 rfl (by decide) ?_
      first | exact xt ⟨by grind, by grind, by grind, by grind⟩ | exact xf (by grind)
    · refine P.iload_n (pc := 8) 2 dX6_hasItems_8 rfl rfl ?_
      refine P.aload_n (pc := 9) 0 dX6_hasItems_9 rfl rfl ?_
      refine P.getR (pc := 10) fl_X6_19 dX6_hasItems_10 rfl rfl ?_
      refine P.iload_n (pc := 13) 1 dX6_hasItems_13 rfl rfl ?_
      refine P.iaN (pc := 14) _ dX6_hasItems_14 rfl rfl rfl (by first | omega | grind [nT]) ?_
      refine P.icgt (pc := 15) 34 dX6_hasItems_15 (by decide) (fun c15 => ?_) (fun c15 => ?_)
      · refine P.iconst (pc := 34) (v := 0) dX6_hasItems_34 (by decide) ?_
        refine P.zret (pc := 35) dX6_hasItems_35 rfl (by decide) ?_
        first | exact xt ⟨by grind, by grind, by grind, by grind⟩ | exact xf (by grind)
      · refine P.iload_n (pc := 18) 3 dX6_hasItems_18 rfl rfl ?_
        refine P.aload_n (pc := 19) 0 dX6_hasItems_19 rfl rfl ?_
        refine P.getR (pc := 20) fl_X6_19 dX6_hasItems_20 rfl rfl ?_
        refine P.iload_n (pc := 23) 1 dX6_hasItems_23 rfl rfl ?_
        refine P.iaN (pc := 24) _ dX6_hasItems_24 rfl rfl rfl (by first | omega | grind [nT]) ?_
        refine P.iload_n (pc := 25) 2 dX6_hasItems_25 rfl rfl ?_
        refine P.isub (pc := 26) dX6_hasItems_26 ?_
        refine P.icgt (pc := 27) 34 dX6_hasItems_27 (by decide) (fun c27 => ?_) (fun c27 => ?_)
        · refine P.iconst (pc := 34) (v := 0) dX6_hasItems_34 (by decide) ?_
          refine P.zret (pc := 35) dX6_hasItems_35 rfl (by decide) ?_
          first | exact xt ⟨by grind, by grind, by grind, by grind⟩ | exact xf (by grind)
        · refine P.iconst (pc := 30) (v := 1) dX6_hasItems_30 (by decide) ?_
          refine P.goto (pc := 31) 35 dX6_hasItems_31 (by decide) ?_
          refine P.zret (pc := 35) dX6_hasItems_35 rfl (by decide) ?_
          first | exact xt ⟨by grind, by grind, by grind, by grind⟩ | exact xf (by grind)
theorem sp_X6_transfer {n : Nat → Nat} {σ M : xM} (I : Iv n σ) (R : RX n σ M) (s i t j m : Int32) : SpI mX6_transfer [.ref 42, .int s, .int i, .int t, .int j, .int m] M (PX (o_copy n σ s i t j m) M) := by
  have a1 := R.1 43 (by decide)
  have a2 := R.1 44 (by decide)
  have a3 := R.1 45 (by decide)
  refine P.aload_n (pc := 0) 0 dX6_transfer_0 rfl rfl ?_
  refine P.iload_n (pc := 1) 1 dX6_transfer_1 rfl rfl ?_
  refine P.V1F (pc := 2) cs_X6_transfer_35 dX6_transfer_2 rfl rfl rfl (sp_X6_has _ _) ?_
  refine P.ifeqB (pc := 5) 16 dX6_transfer_5 (by decide) (fun c5 => ?_) (fun c5 => ?_)
  · refine P.bipush (pc := 16) (v := -2) dX6_transfer_16 (by decide) ?_
    refine P.iret (pc := 18) dX6_transfer_18 rfl ?_
    exact pxI (by grind [o_copy]) R frX.rf
  · refine P.aload_n (pc := 8) 0 dX6_transfer_8 rfl rfl ?_
    refine P.iload_n (pc := 9) 3 dX6_transfer_9 rfl rfl ?_
    refine P.V1F (pc := 10) cs_X6_transfer_35 dX6_transfer_10 rfl rfl rfl (sp_X6_has _ _) ?_
    refine P.ifneB (pc := 13) 19 dX6_transfer_13 (by decide) (fun c13 => ?_) (fun c13 => ?_)
    · obtain ⟨a, ha, rfl⟩ := s_nat c5.1 c5.2
      have ck := nI_clamp (n := a) (by omega)
      obtain ⟨b, hb, rfl⟩ := s_nat c13.1 c13.2
      have ckb := nI_clamp (n := b) (by omega)
      refine P.aload_n (pc := 19) 0 dX6_transfer_19 rfl rfl ?_
      refine P.getR (pc := 20) fl_X6_15 dX6_transfer_20 rfl rfl ?_
      refine P.iload_n (pc := 23) 1 dX6_transfer_23 rfl rfl ?_
      refine P.iaN (pc := 24) _ dX6_transfer_24 rfl rfl rfl (by first | omega | grind [nT]) ?_
      refine P.iconst (pc := 25) (v := -1) dX6_transfer_25 (by decide) ?_
      refine P.iceq (pc := 26) 39 dX6_transfer_26 (by decide) (fun c26 => ?_) (fun c26 => ?_)
      · refine P.aload_n (pc := 39) 0 dX6_transfer_39 rfl rfl ?_
        refine P.iconst (pc := 40) (v := 1) dX6_transfer_40 (by decide) ?_
        refine P.V1I (pc := 41) cs_X6_transfer_39 dX6_transfer_41 rfl rfl rfl (sp_X6_find _ _) (fun v41 M41 h41 => ?_)
        obtain ⟨rfl, rfl⟩ := h41
        refine P.iret (pc := 44) dX6_transfer_44 rfl ?_
        exact pxI (by rw [o_copy, if_neg (by grind), ck, ckb, if_pos (by grind)]; rfl) (R.fnd 1) (frX.fnd 1)
      · refine P.aload_n (pc := 29) 0 dX6_transfer_29 rfl rfl ?_
        refine P.getR (pc := 30) fl_X6_15 dX6_transfer_30 rfl rfl ?_
        refine P.iload_n (pc := 33) 3 dX6_transfer_33 rfl rfl ?_
        refine P.iaN (pc := 34) _ dX6_transfer_34 rfl rfl rfl (by first | omega | grind [nT]) ?_
        refine P.iconst (pc := 35) (v := -1) dX6_transfer_35 (by decide) ?_
        refine P.icne (pc := 36) 45 dX6_transfer_36 (by decide) (fun c36 => ?_) (fun c36 => ?_)
        · refine P.aload_n (pc := 45) 0 dX6_transfer_45 rfl rfl ?_
          refine P.getR (pc := 46) fl_X6_15 dX6_transfer_46 rfl rfl ?_
          refine P.iload_n (pc := 49) 1 dX6_transfer_49 rfl rfl ?_
          refine P.iaN (pc := 50) _ dX6_transfer_50 rfl rfl rfl (by first | omega | grind [nT]) ?_
          refine P.aload_n (pc := 51) 0 dX6_transfer_51 rfl rfl ?_
          refine P.getR (pc := 52) fl_X6_15 dX6_transfer_52 rfl rfl ?_
          refine P.iload_n (pc := 55) 3 dX6_transfer_55 rfl rfl ?_
          refine P.iaN (pc := 56) _ dX6_transfer_56 rfl rfl rfl (by first | omega | grind [nT]) ?_
          refine P.iceq (pc := 57) 66 dX6_transfer_57 (by decide) (fun c57 => ?_) (fun c57 => ?_)
          · refine P.aload_n (pc := 66) 0 dX6_transfer_66 rfl rfl ?_
            refine P.iload_n (pc := 67) 1 dX6_transfer_67 rfl rfl ?_
            refine P.iload_n (pc := 68) 2 dX6_transfer_68 rfl rfl ?_
            refine P.iload (pc := 69) 5 dX6_transfer_69 rfl ?_
            refine P.V3F (pc := 71) cs_X6_transfer_55 dX6_transfer_71 rfl rfl rfl (sp_X6_hasItems _ ha _ _) ?_
            refine P.ifeqB (pc := 74) 89 dX6_transfer_74 (by decide) (fun c74 => ?_) (fun c74 => ?_)
            · refine P.aload_n (pc := 89) 0 dX6_transfer_89 rfl rfl ?_
              refine P.iconst (pc := 90) (v := 2) dX6_transfer_90 (by decide) ?_
              refine P.V1I (pc := 91) cs_X6_transfer_39 dX6_transfer_91 rfl rfl rfl (sp_X6_find _ _) (fun v91 M91 h91 => ?_)
              obtain ⟨rfl, rfl⟩ := h91
              refine P.iret (pc := 94) dX6_transfer_94 rfl ?_
              exact pxI (by rw [o_copy, if_neg (by grind), ck, ckb, if_neg (by grind), if_neg (by grind), if_pos (by grind)]; rfl) (R.fnd 2) (frX.fnd 2)
            · refine P.aload_n (pc := 77) 0 dX6_transfer_77 rfl rfl ?_
              refine P.iload_n (pc := 78) 3 dX6_transfer_78 rfl rfl ?_
              refine P.iload (pc := 79) 4 dX6_transfer_79 rfl ?_
              refine P.iload (pc := 81) 5 dX6_transfer_81 rfl ?_
              refine P.V3F (pc := 83) cs_X6_transfer_55 dX6_transfer_83 rfl rfl rfl (sp_X6_hasItems _ hb _ _) ?_
              refine P.ifneB (pc := 86) 95 dX6_transfer_86 (by decide) (fun c86 => ?_) (fun c86 => ?_)
              · rw [a2] at c74 c86
                obtain ⟨-, la, hla, ela⟩ := I.2.2.2.2.2 a (by omega)
                obtain ⟨-, lb, hlb, elb⟩ := I.2.2.2.2.2 b (by omega)
                obtain ⟨u, -, hu, rfl⟩ := xin_nat la (lo := 0) c74.1 (by rw [← ela]; exact c74.2.2.1) (by omega) (by decide)
                obtain ⟨v, -, hv, rfl⟩ := xin_nat lb (lo := 0) c86.1 (by rw [← elb]; exact c86.2.2.1) (by omega) (by decide)
                obtain ⟨w, -, hw, rfl⟩ := xin_nat (lo := 0) (v := m) 60 c74.2.1 (by grind [nT]) (by decide) (by decide)
                have cku := nI_clamp (n := u) (by omega)
                have ckv := nI_clamp (n := v) (by omega)
                have ckw := nI_clamp (n := w) (by omega)
                have z1 : u + w ≤ la := by grind [nT]
                have z2 : v + w ≤ lb := by grind [nT]
                refine P.aload_n (pc := 95) 0 dX6_transfer_95 rfl rfl ?_
                refine P.getR (pc := 96) fl_X6_22 dX6_transfer_96 rfl rfl ?_
                refine P.iload_n (pc := 99) 1 dX6_transfer_99 rfl rfl ?_
                refine P.bipush (pc := 100) (v := 60) dX6_transfer_100 (by decide) ?_
                refine P.imul (pc := 102) dX6_transfer_102 ?_
                refine P.iload_n (pc := 103) 2 dX6_transfer_103 rfl rfl ?_
                refine P.iadd (pc := 104) dX6_transfer_104 ?_
                refine P.aload_n (pc := 105) 0 dX6_transfer_105 rfl rfl ?_
                refine P.getR (pc := 106) fl_X6_22 dX6_transfer_106 rfl rfl ?_
                refine P.iload_n (pc := 109) 3 dX6_transfer_109 rfl rfl ?_
                refine P.bipush (pc := 110) (v := 60) dX6_transfer_110 (by decide) ?_
                refine P.imul (pc := 112) dX6_transfer_112 ?_
                refine P.iload (pc := 113) 4 dX6_transfer_113 rfl ?_
                refine P.iadd (pc := 115) dX6_transfer_115 ?_
                refine P.iload (pc := 116) 5 dX6_transfer_116 rfl ?_
                rw [show nI a * 60 + nI u = nI (a * 60 + u) by simp only [nlit, pk_mul, nI_add], show nI b * 60 + nI v = nI (b * 60 + v) by simp only [nlit, pk_mul, nI_add]]
                have ck1 := nI_clamp (n := a * 60 + u) (by omega)
                have ck2 := nI_clamp (n := b * 60 + v) (by omega)
                refine P.copy (pc := 118) pr_X6_58 dX6_transfer_118 rfl rfl rfl (by decide) (nI_pos (by omega)) (nI_pos (by omega)) (nI_pos (by omega)) (by rw [ck1, ckw]; omega) (by rw [ck2, ckw]; omega) ?_
                refine P.iconst (pc := 121) (v := 1) dX6_transfer_121 (by decide) ?_
                refine P.iret (pc := 122) dX6_transfer_122 rfl ?_
                rw [ck1, ck2, ckw, a3]
                exact pxI (by rw [o_copy, if_neg (by grind), ck, ckb, cku, ckv, ckw, if_neg (by grind), if_neg (by grind), if_neg (by grind)]) (R.arr (by decide) _) (frX.rf.w (by decide) _)
              · refine P.aload_n (pc := 89) 0 dX6_transfer_89 rfl rfl ?_
                refine P.iconst (pc := 90) (v := 2) dX6_transfer_90 (by decide) ?_
                refine P.V1I (pc := 91) cs_X6_transfer_39 dX6_transfer_91 rfl rfl rfl (sp_X6_find _ _) (fun v91 M91 h91 => ?_)
                obtain ⟨rfl, rfl⟩ := h91
                refine P.iret (pc := 94) dX6_transfer_94 rfl ?_
                exact pxI (by rw [o_copy, if_neg (by grind), ck, ckb, if_neg (by grind), if_neg (by grind), if_pos (by grind)]; rfl) (R.fnd 2) (frX.fnd 2)
          · refine P.aload_n (pc := 60) 0 dX6_transfer_60 rfl rfl ?_
            refine P.iconst (pc := 61) (v := 4) dX6_transfer_61 (by decide) ?_
            refine P.V1I (pc := 62) cs_X6_transfer_39 dX6_transfer_62 rfl rfl rfl (sp_X6_find _ _) (fun v62 M62 h62 => ?_)
            obtain ⟨rfl, rfl⟩ := h62
            refine P.iret (pc := 65) dX6_transfer_65 rfl ?_
            exact pxI (by rw [o_copy, if_neg (by grind), ck, ckb, if_neg (by grind), if_pos (by grind)]; rfl) (R.fnd 4) (frX.fnd 4)
        · refine P.aload_n (pc := 39) 0 dX6_transfer_39 rfl rfl ?_
          refine P.iconst (pc := 40) (v := 1) dX6_transfer_40 (by decide) ?_
          refine P.V1I (pc := 41) cs_X6_transfer_39 dX6_transfer_41 rfl rfl rfl (sp_X6_find _ _) (fun v41 M41 h41 => ?_)
          obtain ⟨rfl, rfl⟩ := h41
          refine P.iret (pc := 44) dX6_transfer_44 rfl ?_
          exact pxI (by rw [o_copy, if_neg (by grind), ck, ckb, if_pos (by grind)]; rfl) (R.fnd 1) (frX.fnd 1)
    · refine P.bipush (pc := 16) (v := -2) dX6_transfer_16 (by decide) ?_
      refine P.iret (pc := 18) dX6_transfer_18 rfl ?_
      exact pxI (by grind [o_copy]) R frX.rf
theorem sp_X9_copy {n : Nat → Nat} {σ M : xM} (I : Iv n σ) (R : RX n σ M) (s i t j m : Int32) : SpI mX9_copy [.ref 0, .int s, .int i, .int t, .int j, .int m] M (PX (o_copy n σ s i t j m) M) := by
  refine P.aload_n (pc := 0) 0 dX9_copy_0 rfl rfl ?_
  refine P.getR (pc := 1) fl_X9_54 dX9_copy_1 rfl rfl ?_
  refine P.iload_n (pc := 4) 1 dX9_copy_4 rfl rfl ?_
  refine P.iload_n (pc := 5) 2 dX9_copy_5 rfl rfl ?_
  refine P.iload_n (pc := 6) 3 dX9_copy_6 rfl rfl ?_
  refine P.iload (pc := 7) 4 dX9_copy_7 rfl ?_
  refine P.iload (pc := 9) 5 dX9_copy_9 rfl ?_
  refine P.V5I (pc := 11) cs_X9_copy_216 dX9_copy_11 rfl rfl rfl (sp_X6_transfer I R _ _ _ _ _) (fun v11 M11 h11 => ?_)
  refine P.iret (pc := 14) dX9_copy_14 rfl ?_
  exact ⟨_, rfl, h11⟩
