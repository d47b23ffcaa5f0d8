/-! what the state keeps: lists, sheets, shows -/
theorem kp_list {n : Nat → Nat} {σ : xM} (I : Iv n σ) (d no h : Int32) : Kp (o_list n σ d no h) := by
  rw [o_list, Kp]
  by_cases g : ¬ (0 ≤ d ∧ d ≤ 999 ∧ 0 ≤ no ∧ no ≤ 99 ∧ 0 ≤ h ∧ h ≤ 100)
  · rw [if_pos g]; exact I
  · rw [if_neg g]
    have g := Classical.not_not.1 g
    by_cases g2 : n 5 = 30
    · rw [if_pos g2]; exact I
    · rw [if_neg g2]
      refine ⟨I.1.mv (by simp [xw_ap, nup_ap]), I.2.1.mv (by simp [xw_ap, nup_ap]), I.2.2.1.mv (by simp [xw_ap, nup_ap]), I.2.2.2.1.mv (by simp [xw_ap, nup_ap]), ?_, I.2.2.2.2.2.mv (by simp [xw_ap])⟩
      have p := I.2.2.2.2.1
      refine ⟨?_, ?_⟩
      · have := p.1
        simp only [nup_ap, ↓reduceIte]; omega
      · intro k hk
        simp only [nup_ap, ↓reduceIte] at hk
        simp only [xw_ap, upd_ap, Nat.reduceEqDiff, ↓reduceIte]
        by_cases e : k = n 5
        · rw [if_pos e, if_pos e]; exact ⟨g.1, g.2.2.2.2.1⟩
        · rw [if_neg e, if_neg e]; exact p.2 k (by omega)
theorem iv_fnd {n : Nat → Nat} {σ : xM} (I : Iv n σ) (k : Int32) : Iv n (fnd σ k) := by
  unfold fnd
  exact ⟨I.1.mv (by simp [xw_ap]), I.2.1.mv (by simp [xw_ap]), I.2.2.1.mv (by simp [xw_ap]), I.2.2.2.1.mv (by simp [xw_ap]), I.2.2.2.2.1.mv (by simp [xw_ap]), I.2.2.2.2.2.mv (by simp [xw_ap])⟩
theorem iv_items {n : Nat → Nat} {σ : xM} (I : Iv n σ) (f : Nat → Int32) : Iv n (xw σ 45 f) :=
  ⟨I.1.mv (by simp [xw_ap]), I.2.1.mv (by simp [xw_ap]), I.2.2.1.mv (by simp [xw_ap]), I.2.2.2.1.mv (by simp [xw_ap]), I.2.2.2.2.1.mv (by simp [xw_ap]), I.2.2.2.2.2.mv (by simp [xw_ap])⟩
theorem iv_form {n : Nat → Nat} {σ : xM} (I : Iv n σ) (f : Nat → Int32) (h : ∀ s, s < 4 → -1 ≤ f s ∧ f s ≤ 2) : Iv n (xw σ 43 f) := by
  refine ⟨I.1.mv (by simp [xw_ap]), I.2.1.mv (by simp [xw_ap]), I.2.2.1.mv (by simp [xw_ap]), I.2.2.2.1.mv (by simp [xw_ap]), I.2.2.2.2.1.mv (by simp [xw_ap]), fun s hs => ?_⟩
  simp only [xw_ap, Nat.reduceEqDiff, ↓reduceIte]
  exact ⟨h s hs, (I.2.2.2.2.2 s hs).2⟩
theorem iv_len {n : Nat → Nat} {σ : xM} (I : Iv n σ) (f : Nat → Int32) (h : ∀ s, s < 4 → ∃ m, m ≤ 60 ∧ f s = nI m) : Iv n (xw σ 44 f) := by
  refine ⟨I.1.mv (by simp [xw_ap]), I.2.1.mv (by simp [xw_ap]), I.2.2.1.mv (by simp [xw_ap]), I.2.2.2.1.mv (by simp [xw_ap]), I.2.2.2.2.1.mv (by simp [xw_ap]), fun s hs => ?_⟩
  simp only [xw_ap, Nat.reduceEqDiff, ↓reduceIte]
  exact ⟨(I.2.2.2.2.2 s hs).1, h s hs⟩
theorem kp_lack {n : Nat → Nat} {σ : xM} (I : Iv n σ) (s : Nat) (f i : Int32) : Kp (o_lack n σ s f i) := by
  unfold o_lack Kp
  by_cases a : σ 43 s = -1
  · rw [if_pos a]; exact iv_fnd I _
  · rw [if_neg a]
    by_cases b : σ 43 s ≠ f
    · rw [if_pos b]; exact iv_fnd I _
    · rw [if_neg b]
      by_cases c : ¬ (0 ≤ i ∧ i ≤ σ 44 s - 1)
      · rw [if_pos c]; exact iv_fnd I _
      · rw [if_neg c]; exact I
theorem kp_refuse {n : Nat → Nat} {σ : xM} (I : Iv n σ) (s f i : Int32) : Kp (o_refuse n σ s f i) := by
  unfold o_refuse
  by_cases a : ¬ (0 ≤ s ∧ s ≤ 3 ∧ 0 ≤ f ∧ f ≤ 2)
  · rw [if_pos a]; exact I
  · rw [if_neg a]; exact kp_lack I _ _ _
theorem kp_sheet {n : Nat → Nat} {σ : xM} (I : Iv n σ) (s f m : Int32) : Kp (o_sheet n σ s f m) := by
  unfold o_sheet Kp
  by_cases a : ¬ (0 ≤ s ∧ s ≤ 3 ∧ 0 ≤ f ∧ f ≤ 2 ∧ m ≤ 60)
  · rw [if_pos a]; exact I
  · rw [if_neg a]
    have a := Classical.not_not.1 a
    by_cases b : m < 0
    · rw [if_pos b]; exact iv_fnd I _
    · rw [if_neg b]
      obtain ⟨t, -, ht, et⟩ := xin_nat 60 (lo := 0) (Int32.not_lt.1 b) a.2.2.2.2 (by decide) (by decide)
      refine iv_items (iv_len (iv_form I _ (fun q hq => ?_)) _ (fun q hq => ?_)) _
      · rw [upd_ap]
        by_cases e : q = s.toNatClampNeg
        · rw [if_pos e]; exact ⟨Int32.le_trans (by decide) a.2.2.1, a.2.2.2.1⟩
        · rw [if_neg e]; exact (I.2.2.2.2.2 q hq).1
      · rw [upd_ap]
        by_cases e : q = s.toNatClampNeg
        · rw [if_pos e]; exact ⟨t, ht, et⟩
        · rw [if_neg e]; exact (I.2.2.2.2.2 q hq).2
theorem kp_lose {n : Nat → Nat} {σ : xM} (I : Iv n σ) (s : Int32) : Kp (o_lose n σ s) := by
  unfold o_lose Kp
  by_cases a : ¬ (0 ≤ s ∧ s ≤ 3)
  · rw [if_pos a]; exact I
  · rw [if_neg a]
    by_cases b : σ 43 s.toNatClampNeg = -1
    · rw [if_pos b]; exact iv_fnd I _
    · rw [if_neg b]
      refine iv_form I _ (fun q hq => ?_)
      rw [upd_ap]
      by_cases e : q = s.toNatClampNeg
      · rw [if_pos e]; decide
      · rw [if_neg e]; exact (I.2.2.2.2.2 q hq).1
theorem kp_put {n : Nat → Nat} {σ : xM} (I : Iv n σ) (s f i v : Int32) : Kp (o_put n σ s f i v) := by
  unfold o_put
  by_cases a : ¬ (o_refuse n σ s f i).1 = 0
  · rw [if_pos a]; exact kp_refuse I _ _ _
  · rw [if_neg a]; exact iv_items I _
theorem kp_get {n : Nat → Nat} {σ : xM} (I : Iv n σ) (s f i : Int32) : Kp (o_get n σ s f i) := by
  unfold o_get
  by_cases a : ¬ (o_refuse n σ s f i).1 = 0
  · rw [if_pos a]; exact kp_refuse I _ _ _
  · rw [if_neg a]; exact I
theorem kp_copy {n : Nat → Nat} {σ : xM} (I : Iv n σ) (s i t j m : Int32) : Kp (o_copy n σ s i t j m) := by
  unfold o_copy Kp
  repeat' split
  all_goals first | exact I | exact iv_fnd I _ | exact iv_items I _
theorem kp_show {n : Nat → Nat} {σ : xM} (I : Iv n σ) (h hr w : Int32) : Kp (o_show n σ h hr w) := by
  rw [o_show, Kp]
  by_cases g : ¬ (-1 ≤ h ∧ h ≤ 5 ∧ 0 ≤ hr ∧ hr ≤ 39 ∧ -1 ≤ w ∧ w ≤ 5 ∧ (h = -1 ∨ w = -1))
  · rw [if_pos g]; exact I
  · rw [if_neg g]
    have g := Classical.not_not.1 g
    by_cases g2 : n 2 = 12
    · rw [if_pos g2]; exact I
    · rw [if_neg g2]
      refine ⟨I.1.mv (by simp [xw_ap, nup_ap]), I.2.1.mv (by simp [xw_ap, nup_ap]), ?_, I.2.2.2.1.mv (by simp [xw_ap, nup_ap]), I.2.2.2.2.1.mv (by simp [xw_ap, nup_ap]), I.2.2.2.2.2.mv (by simp [xw_ap])⟩
      obtain ⟨s1, s2, s3, s4, s5⟩ := I.2.2.1
      refine ⟨?_, ?_, ?_, ?_, ?_⟩
      · simp only [nup_ap, ↓reduceIte]; omega
      · intro k hk
        simp only [nup_ap, ↓reduceIte] at hk
        simp only [xw_ap, upd_ap, Nat.reduceEqDiff, ↓reduceIte]
        by_cases e : k = n 2
        · simp only [if_pos e]; exact ⟨g.1, g.2.1, g.2.2.1, g.2.2.2.1, g.2.2.2.2.1, g.2.2.2.2.2.1⟩
        · simp only [if_neg e]; exact s2 k (by omega)
      · simp only [xw_ap, Nat.reduceEqDiff, ↓reduceIte]; exact s3
      · simp only [xw_ap, Nat.reduceEqDiff, ↓reduceIte]; exact s4
      · intro p hp
        simp only [xw_ap, nup_ap, Nat.reduceEqDiff, ↓reduceIte]
        obtain ⟨v, h1, h2, h3⟩ := s5 p hp
        exact ⟨v, h1, h2, fun k hk => by obtain ⟨q, q1, q2⟩ := h3 k hk; exact ⟨q, by omega, q2⟩⟩
theorem kp_wish {n : Nat → Nat} {σ : xM} (I : Iv n σ) (p s : Int32) : Kp (o_wish n σ p s) := by
  rw [o_wish, Kp]
  by_cases g : ¬ (xin (n 1) p ∧ xin (n 2) s) ∨ xwsh σ p.toNatClampNeg (σ 30 p.toNatClampNeg).toNatClampNeg s
  · rw [if_pos g]; exact I
  · rw [if_neg g]
    have g := Classical.not_not.1 (fun z => g (Or.inl z))
    by_cases g2 : σ 30 p.toNatClampNeg = 6
    · rw [if_pos g2]; exact I
    · rw [if_neg g2]
      obtain ⟨⟨j, hj, ej⟩, ⟨t, ht, et⟩⟩ := g
      have b1 : n 1 ≤ 24 := I.1.2.1
      have cl : p.toNatClampNeg = j := by rw [ej, nI_clamp (by omega)]
      rw [cl] at g2 ⊢
      refine ⟨I.1.mv (by simp [xw_ap]), I.2.1.mv (by simp [xw_ap]), ?_, I.2.2.2.1.mv (by simp [xw_ap]), I.2.2.2.2.1.mv (by simp [xw_ap]), I.2.2.2.2.2.mv (by simp [xw_ap])⟩
      obtain ⟨s1, s2, s3, s4, s5⟩ := I.2.2.1
      obtain ⟨v, v1, v2, v3⟩ := s5 j (by omega)
      rw [v2, nI_clamp (by omega)]
      have v6 : ¬ v = 6 := fun z => g2 (by rw [v2, z]; rfl)
      refine ⟨s1, ?_, ?_, ?_, ?_⟩
      · simp only [xw_ap, Nat.reduceEqDiff, ↓reduceIte]; exact s2
      · simp only [xw_ap, Nat.reduceEqDiff, ↓reduceIte]; exact s3
      · simp only [xw_ap, Nat.reduceEqDiff, ↓reduceIte]; exact s4
      · intro q hq
        simp only [xw_ap, upd_ap, Nat.reduceEqDiff, ↓reduceIte]
        by_cases e : q = j
        · rw [if_pos e]
          refine ⟨v + 1, by omega, nI_1 v, fun k hk => ?_⟩
          by_cases e2 : k = v
          · rw [if_pos (by omega)]; exact ⟨t, ht, et⟩
          · rw [if_neg (by omega), e]; exact v3 k (by omega)
        · rw [if_neg e]
          obtain ⟨u, u1, u2, u3⟩ := s5 q hq
          exact ⟨u, u1, u2, fun k hk => by rw [if_neg (by omega)]; exact u3 k hk⟩
