/-! what the state keeps: lodging -/
theorem iv_hutOf {n : Nat → Nat} {σ : xM} (I : Iv n σ) (f : Nat → Int32) (h1 : ∀ p, p < n 1 → f p = -1 ∨ ∃ h, h < n 0 ∧ f p = nI h) (h2 : ∀ p, n 1 ≤ p → p < 24 → f p = -1) : Iv n (xw σ 11 f) := by
  refine ⟨?_, I.2.1.mv (by simp [xw_ap]), I.2.2.1.mv (by simp [xw_ap]), I.2.2.2.1.mv (by simp [xw_ap]), I.2.2.2.2.1.mv (by simp [xw_ap]), I.2.2.2.2.2.mv (by simp [xw_ap])⟩
  obtain ⟨a1, a2, a3, a4, a5, a6, a7⟩ := I.1
  unfold IvL
  simp only [xw_ap, Nat.reduceEqDiff, ↓reduceIte]
  exact ⟨a1, a2, a3, a4, h1, h2, a7⟩
theorem iv_mv1 {n : Nat → Nat} {σ : xM} (I : Iv n σ) (f : Nat → Int32) : Iv n (xw σ 1 f) :=
  ⟨I.1.mv (by simp [xw_ap]), I.2.1.mv (by simp [xw_ap]), I.2.2.1.mv (by simp [xw_ap]), I.2.2.2.1.mv (by simp [xw_ap]), I.2.2.2.2.1.mv (by simp [xw_ap]), I.2.2.2.2.2.mv (by simp [xw_ap])⟩
/-- one party's hut is another, or none -/
theorem iv_hutU {n : Nat → Nat} {σ : xM} (I : Iv n σ) {j : Nat} (hj : j < n 1) {v : Int32} (hv : v = -1 ∨ ∃ h, h < n 0 ∧ v = nI h) : Iv n (xw σ 11 (upd (σ 11) j v)) := by
  obtain ⟨a1, a2, a3, a4, a5, a6, a7⟩ := I.1
  refine iv_hutOf I _ (fun p hp => ?_) (fun p hp hq => ?_)
  · rw [upd_ap]
    by_cases e : p = j
    · rw [if_pos e]; exact hv
    · rw [if_neg e]; exact a5 p hp
  · rw [upd_ap, if_neg (by omega)]; exact a6 p hp hq
theorem kp_leave {n : Nat → Nat} {σ : xM} (I : Iv n σ) (p : Int32) : Kp (o_leave n σ p) := by
  rw [o_leave, Kp]
  have b1 : n 1 ≤ 24 := I.1.2.1
  by_cases g : ¬ xin (n 1) p
  · rw [if_pos g]; exact I
  · rw [if_neg g]
    by_cases g2 : σ 11 p.toNatClampNeg = -1
    · rw [if_pos g2]; exact I
    · rw [if_neg g2]
      obtain ⟨j, hj, ej⟩ := Classical.not_not.1 g
      rw [ej, nI_clamp (by omega)]
      exact iv_hutU I hj (Or.inl rfl)
theorem xdrIn {n : Nat → Nat} {σ : xM} {p : Nat} {ok : Nat → Prop} : ∀ m, xdr n σ p ok m = -1 ∨ ∃ h, h < m ∧ xdr n σ p ok m = nI h
  | 0 => Or.inl rfl
  | m + 1 => by
    rw [xdr]
    by_cases c : ok m ∧ (xdr n σ p ok m = -1 ∨ xkey n σ p m < xkey n σ p (xdr n σ p ok m).toNatClampNeg)
    · rw [if_pos c]; exact Or.inr ⟨m, by omega, rfl⟩
    · rw [if_neg c]
      rcases xdrIn (n := n) (σ := σ) (p := p) (ok := ok) m with e | ⟨h, h1, h2⟩
      · exact Or.inl e
      · exact Or.inr ⟨h, by omega, h2⟩
theorem kp_lk {n : Nat → Nat} {σ : xM} (I : Iv n σ) {p : Nat} (hp : p < n 1) : ∀ k q, q + k ≤ n 1 → Kp (xlk n σ p k q)
  | 0, q, _ => I
  | k + 1, q, h => by
    rw [xlk]
    by_cases g : xgive n σ p q
    · rw [if_pos g]
      have a5 := I.1.2.2.2.2.1
      have a6 := I.1.2.2.2.2.2.1
      refine iv_mv1 (iv_hutOf I _ (fun r hr => ?_) (fun r hr hr2 => ?_)) _
      · rw [upd_ap, upd_ap, upd_ap]
        by_cases e : r = q
        · rw [if_pos e]; exact xdrIn _
        · rw [if_neg e]
          by_cases e2 : r = p
          · rw [if_pos e2]; exact a5 q (by omega)
          · rw [if_neg e2, if_neg e]; exact a5 r hr
      · rw [upd_ap, upd_ap, upd_ap, if_neg (by omega), if_neg (by omega), if_neg (by omega)]
        exact a6 r hr hr2
    · rw [if_neg g]; exact kp_lk I hp k (q + 1) (by omega)
theorem kp_lodge {n : Nat → Nat} {σ : xM} (I : Iv n σ) (p : Int32) : Kp (o_lodge n σ p) := by
  rw [o_lodge]
  have b1 : n 1 ≤ 24 := I.1.2.1
  by_cases g : ¬ xin (n 1) p
  · rw [if_pos g]; exact I
  · rw [if_neg g]
    obtain ⟨j, hj, ej⟩ := Classical.not_not.1 g
    rw [ej, nI_clamp (by omega)]
    by_cases g2 : ¬ σ 11 j = -1
    · rw [if_pos g2]; exact I
    · rw [if_neg g2]
      by_cases g3 : ¬ xdr n σ j (xmay n σ j) (n 0) = -1
      · rw [if_pos g3]
        exact iv_mv1 (iv_hutU I hj (xdrIn _)) _
      · rw [if_neg g3]; exact kp_lk I hj _ _ (by omega)
theorem kp_hut {n : Nat → Nat} {σ : xM} (I : Iv n σ) (r b : Int32) : Kp (o_hut n σ r b) := by
  rw [o_hut, Kp]
  by_cases g : ¬ (0 ≤ r ∧ r ≤ 5 ∧ 1 ≤ b ∧ b ≤ 8)
  · rw [if_pos g]; exact I
  · rw [if_neg g]
    have g := Classical.not_not.1 g
    by_cases g2 : n 0 = 30
    · rw [if_pos g2]; exact I
    · rw [if_neg g2]
      refine ⟨?_, I.2.1.mv (by simp [xw_ap, nup_ap]), I.2.2.1.mv (by simp [xw_ap, nup_ap]), I.2.2.2.1.mv (by simp [xw_ap, nup_ap]), I.2.2.2.2.1.mv (by simp [xw_ap, nup_ap]), I.2.2.2.2.2.mv (by simp [xw_ap])⟩
      obtain ⟨a1, a2, a3, a4, a5, a6, a7⟩ := I.1
      unfold IvL
      simp only [xw_ap, nup_ap, upd_ap, Nat.reduceEqDiff, ↓reduceIte]
      refine ⟨by omega, a2, fun h hh => ?_, a4, fun p hp => ?_, a6, a7⟩
      · by_cases e : h = n 0
        · simp only [if_pos e]; exact g
        · simp only [if_neg e]; exact a3 h (by omega)
      · rcases a5 p hp with z | ⟨h, z1, z2⟩
        · exact Or.inl z
        · exact Or.inr ⟨h, by omega, z2⟩
theorem kp_party {n : Nat → Nat} {σ : xM} (I : Iv n σ) (z c f t b : Int32) : Kp (o_party n σ z c f t b) := by
  rw [o_party, Kp]
  by_cases g : ¬ (1 ≤ z ∧ z ≤ 8 ∧ 0 ≤ c ∧ c ≤ z ∧ 0 ≤ f ∧ f ≤ t ∧ t ≤ 9 ∧ -1 ≤ b ∧ b ≤ 9)
  · rw [if_pos g]; exact I
  · rw [if_neg g]
    have g := Classical.not_not.1 g
    by_cases g2 : n 1 = 24
    · rw [if_pos g2]; exact I
    · rw [if_neg g2]
      refine ⟨?_, I.2.1.mv (by simp [xw_ap, nup_ap]), I.2.2.1.mv (by simp [xw_ap, nup_ap]), ?_, I.2.2.2.2.1.mv (by simp [xw_ap, nup_ap]), I.2.2.2.2.2.mv (by simp [xw_ap])⟩
      · obtain ⟨a1, a2, a3, a4, a5, a6, a7⟩ := I.1
        unfold IvL
        simp only [xw_ap, nup_ap, upd_ap, Nat.reduceEqDiff, ↓reduceIte]
        refine ⟨a1, by omega, a3, fun p hp => ?_, fun p hp => ?_, fun p hp hp2 => a6 p (by omega) hp2, a7⟩
        · by_cases e : p = n 1
          · simp only [if_pos e]; exact g
          · simp only [if_neg e]; exact a4 p (by omega)
        · by_cases e : p = n 1
          · rw [e]; exact Or.inl (a6 _ (Nat.le_refl _) (by omega))
          · exact a5 p (by omega)
      · obtain ⟨c1, c2, c3, c4, c5⟩ := I.2.2.2.1
        unfold IvC
        simp only [xw_ap, nup_ap, upd_ap, Nat.reduceEqDiff, ↓reduceIte]
        refine ⟨c1, fun q hq => ?_, fun p hp => ?_, c4, c5⟩
        · obtain ⟨⟨p, p1, p2⟩, r⟩ := c2 q hq
          exact ⟨⟨p, by omega, p2⟩, r⟩
        · by_cases e : p = n 1
          · rw [if_pos e, e]
            have no : ∀ m, m ≤ n 3 → xcnt (σ 33) (nI (n 1)) m = 0 := by
              intro m
              induction m with
              | zero => intro _; rfl
              | succ m ih =>
                intro hm
                rw [xcnt, if_neg, ih (by omega)]
                obtain ⟨⟨p, p1, p2⟩, -⟩ := c2 m (by omega)
                rw [p2]
                intro e
                have b1 : n 1 ≤ 24 := I.1.2.1
                have := nI_inj (by omega) (by omega) e
                omega
            rw [no _ (Nat.le_refl _)]
            exact g.2.2.1
          · rw [if_neg e]; exact c3 p (by omega)
theorem kp_tell {n : Nat → Nat} {σ : xM} (I : Iv n σ) (a b k : Int32) : Kp (o_tell n σ a b k) := by
  rw [o_tell]
  have b1 : n 1 ≤ 24 := I.1.2.1
  by_cases g : ¬ (xin (n 1) a ∧ xin (n 1) b ∧ ¬ a = b ∧ 0 ≤ k ∧ k ≤ 2)
  · rw [if_pos g]; exact I
  · rw [if_neg g]
    by_cases g2 : k = 1 ∧ ¬ σ 11 a.toNatClampNeg = -1 ∧ xinr σ b.toNatClampNeg (xrow σ a.toNatClampNeg) ∧ xmeet σ a.toNatClampNeg b.toNatClampNeg
    · rw [if_pos g2]; exact I
    · rw [if_neg g2]
      obtain ⟨⟨i, hi, ei⟩, ⟨j, hj, ej⟩, ne, -⟩ := Classical.not_not.1 g
      have ij : ¬ i = j := fun z => ne (by rw [ei, ej, z])
      rw [ei, ej, nI_clamp (by omega), nI_clamp (by omega)]
      refine ⟨?_, I.2.1.mv (by simp [xw_ap]), I.2.2.1.mv (by simp [xw_ap]), I.2.2.2.1.mv (by simp [xw_ap]), I.2.2.2.2.1.mv (by simp [xw_ap]), I.2.2.2.2.2.mv (by simp [xw_ap])⟩
      obtain ⟨a1, a2, a3, a4, a5, a6, a7⟩ := I.1
      unfold IvL
      simp only [xw_ap, upd_ap, Nat.reduceEqDiff, ↓reduceIte]
      refine ⟨a1, a2, a3, a4, a5, a6, fun p hp => ?_⟩
      rw [if_neg (by omega), if_neg (by omega)]
      exact a7 p hp
