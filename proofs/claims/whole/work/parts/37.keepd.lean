/-! what the state keeps: groups -/
theorem xcnt_none {f : Nat → Int32} {v : Int32} : ∀ m, ¬ 0 < xcnt f v m → ∀ c, c < m → ¬ f c = v
  | 0, _, c, hc => by omega
  | m + 1, h, c, hc => by
    rw [xcnt] at h
    by_cases e : f m = v
    · rw [if_pos e] at h; omega
    · rw [if_neg e] at h
      by_cases e2 : c = m
      · rw [e2]; exact e
      · exact xcnt_none m h c (by omega)
theorem xcnt_upd {f : Nat → Int32} {v w : Int32} {k : Nat} : ∀ m, m ≤ k → xcnt (upd f k w) v m = xcnt f v m
  | 0, _ => rfl
  | m + 1, h => by rw [xcnt, xcnt, xcnt_upd m (by omega), upd_ap, if_neg (show ¬ m = k by omega)]
theorem kp_of_C {n n' : Nat → Nat} {σ σ' : xM} (I : Iv n σ) (c : n' 0 = n 0 ∧ n' 1 = n 1 ∧ n' 2 = n 2 ∧ n' 4 = n 4 ∧ n' 5 = n 5) (d : ∀ q, (q < 32 ∨ 37 < q) → σ' q = σ q) (h : IvC n' σ') : Iv n' σ' := by
  obtain ⟨c0, c1, c2, c4, c5⟩ := c
  refine ⟨I.1.mv ?_, I.2.1.mv ?_, I.2.2.1.mv ?_, h, I.2.2.2.2.1.mv ?_, I.2.2.2.2.2.mv ?_⟩
  · exact ⟨c0, c1, d _ (by omega), d _ (by omega), d _ (by omega), d _ (by omega), d _ (by omega), d _ (by omega), d _ (by omega), d _ (by omega), d _ (by omega)⟩
  · exact ⟨c4, by rw [d _ (by omega)], by rw [d _ (by omega)], by rw [d _ (by omega)]⟩
  · exact ⟨c2, d _ (by omega), d _ (by omega), d _ (by omega), d _ (by omega), d _ (by omega), d _ (by omega)⟩
  · exact ⟨c5, d _ (by omega), d _ (by omega)⟩
  · exact ⟨d _ (by omega), d _ (by omega)⟩
theorem iv_inG {n : Nat → Nat} {σ : xM} (I : Iv n σ) {j : Nat} {v : Int32} (h : v = -1 ∨ ∃ g, g < 4 ∧ v = nI g ∧ σ 35 g ≤ σ 34 j ∧ σ 34 j ≤ σ 36 g) : Iv n (xw σ 32 (upd (σ 32) j v)) := by
  refine kp_of_C I ⟨rfl, rfl, rfl, rfl, rfl⟩ (fun q hq => by rw [xw_ap, if_neg (by omega)]) ?_
  obtain ⟨c1, c2, c3, c4, c5⟩ := I.2.2.2.1
  unfold IvC
  simp only [xw_ap, upd_ap, Nat.reduceEqDiff, ↓reduceIte]
  refine ⟨c1, fun c hc => ?_, c3, c4, c5⟩
  obtain ⟨d1, d2, d3, d4⟩ := c2 c hc
  refine ⟨d1, d2, d3, ?_⟩
  by_cases e : c = j
  · rw [if_pos e, e]; exact h
  · rw [if_neg e]; exact d4
theorem kp_fetch {n : Nat → Nat} {σ : xM} (I : Iv n σ) (c p : Int32) : Kp (o_fetch n σ c p) := by
  rw [o_fetch, Kp]
  by_cases g : ¬ (xin (n 3) c ∧ xin (n 1) p)
  · rw [if_pos g]; exact I
  · rw [if_neg g]
    by_cases g2 : σ 32 c.toNatClampNeg = -1 ∨ ¬ σ 33 c.toNatClampNeg = p
    · rw [if_pos g2]; exact I
    · rw [if_neg g2]; exact iv_inG I (Or.inl rfl)
theorem kp_hand {n : Nat → Nat} {σ : xM} (I : Iv n σ) (c : Int32) : Kp (o_hand n σ c) := by
  rw [o_hand, Kp]
  by_cases g : ¬ xin (n 3) c
  · rw [if_pos g]; exact I
  · rw [if_neg g]
    by_cases g2 : xgrp σ (σ 34 c.toNatClampNeg) = -1 ∨ σ 32 c.toNatClampNeg = xgrp σ (σ 34 c.toNatClampNeg)
    · rw [if_pos g2]; exact I
    · rw [if_neg g2]
      by_cases g3 : σ 37 (xgrp σ (σ 34 c.toNatClampNeg)).toNatClampNeg ≤ nI (xcnt (σ 32) (xgrp σ (σ 34 c.toNatClampNeg)) (n 3))
      · rw [if_pos g3]; exact I
      · rw [if_neg g3]
        refine iv_inG I ?_
        rcases xgf_in σ (σ 34 c.toNatClampNeg) 4 0 with e | ⟨j, -, h2, h3, h4⟩
        · exact Or.inl e
        · exact Or.inr ⟨j, by omega, h3, h4.1, h4.2⟩
theorem kp_child {n : Nat → Nat} {σ : xM} (I : Iv n σ) (p a : Int32) : Kp (o_child n σ p a) := by
  rw [o_child, Kp]
  have b1 : n 1 ≤ 24 := I.1.2.1
  by_cases g : ¬ (xin (n 1) p ∧ 0 ≤ a ∧ a ≤ 17)
  · rw [if_pos g]; exact I
  · rw [if_neg g]
    obtain ⟨⟨j, hj, ej⟩, ha, hb⟩ := Classical.not_not.1 g
    subst ej
    by_cases g2 : n 3 = 40 ∨ σ 7 (nI j).toNatClampNeg ≤ nI (xcnt (σ 33) (nI j) (n 3))
    · rw [if_pos g2]; exact I
    · rw [if_neg g2]
      rw [nI_clamp (by omega)] at g2
      dsimp only
      refine kp_of_C I ⟨by simp [nup_ap], by simp [nup_ap], by simp [nup_ap], by simp [nup_ap], by simp [nup_ap]⟩ (fun q hq => by rw [xw_ap, if_neg (by omega), xw_ap, if_neg (by omega), xw_ap, if_neg (by omega)]) ?_
      obtain ⟨c1, c2, c3, c4, c5⟩ := I.2.2.2.1
      have n3 : ¬ n 3 = 40 := fun z => g2 (Or.inl z)
      have lt : ¬ σ 7 j ≤ nI (xcnt (σ 33) (nI j) (n 3)) := fun z => g2 (Or.inr z)
      unfold IvC
      simp only [xw_ap, nup_ap, Nat.reduceEqDiff, ↓reduceIte]
      refine ⟨by omega, fun c hc => ?_, fun q hq => ?_, c4, c5⟩
      · simp only [upd_ap]
        by_cases e : c = n 3
        · simp only [if_pos e]; exact ⟨⟨j, hj, rfl⟩, ha, hb, Or.inl trivial⟩
        · simp only [if_neg e]; exact c2 c (by omega)
      · rw [xcnt, xcnt_upd _ (Nat.le_refl _), upd_ap, if_pos rfl]
        by_cases e : nI j = nI q
        · rw [if_pos e]
          have e := nI_inj (by omega) (by omega) e
          subst e
          obtain ⟨-, y2⟩ := kid_in I hj
          have y1 := (kid_in I hj).1
          have z2 := (xzN_in I hj).2.1
          obtain ⟨y, hy⟩ : ∃ y, (σ 7 j).toNatClampNeg = y := ⟨_, rfl⟩
          rw [hy] at y1 y2
          have le := xcnt_le (σ 33) (nI j) (n 3)
          rw [y2] at lt ⊢
          rw [nJ_le (by omega) (by omega)] at lt ⊢
          omega
        · rw [if_neg e]; exact c3 q hq
theorem kp_group {n : Nat → Nat} {σ : xM} (I : Iv n σ) (g f t m : Int32) : Kp (o_group n σ g f t m) := by
  rw [o_group, Kp]
  by_cases h : ¬ (0 ≤ g ∧ g ≤ 3 ∧ 0 ≤ f ∧ f ≤ 17 ∧ f ≤ t ∧ t ≤ 17 ∧ 1 ≤ m ∧ m ≤ 20) ∨ xovl σ g f t
  · rw [if_pos h]; exact I
  · rw [if_neg h]
    by_cases h2 : 0 < xcnt (σ 32) g (n 3)
    · rw [if_pos h2]; exact I
    · rw [if_neg h2]
      obtain ⟨h3, h4, h5, h6, h7, h8, h9, h10⟩ := Classical.not_not.1 (fun z => h (Or.inl z))
      have no := fun z => h (Or.inr z)
      have nc := xcnt_none _ h2
      obtain ⟨j, -, hj, ej⟩ := xin_nat 3 (lo := 0) h3 h4 (by decide) (by decide)
      rw [ej, nI_clamp (by omega)]
      subst ej
      dsimp only
      refine kp_of_C I ⟨rfl, rfl, rfl, rfl, rfl⟩ (fun q hq => by rw [xw_ap, if_neg (by omega), xw_ap, if_neg (by omega), xw_ap, if_neg (by omega)]) ?_
      have dis : ∀ k, k < 4 → ¬ k = j → ¬ (f ≤ σ 36 k ∧ σ 35 k ≤ t) := fun k hk ne z => no ⟨k, hk, fun e => ne (nI_inj (by omega) (by omega) e), z.1, z.2⟩
      obtain ⟨c1, c2, c3, c4, c5⟩ := I.2.2.2.1
      unfold IvC
      simp only [xw_ap, upd_ap, Nat.reduceEqDiff, ↓reduceIte]
      refine ⟨c1, fun c hc => ?_, c3, fun q hq => ?_, fun q k hq hk ne => ?_⟩
      · obtain ⟨d1, d2, d3, d4⟩ := c2 c hc
        refine ⟨d1, d2, d3, d4.imp id (fun ⟨q, q1, q2, q3⟩ => ⟨q, q1, q2, ?_⟩)⟩
        have : ¬ q = j := fun z => nc c hc (by rw [q2, z])
        rw [if_neg this, if_neg this]; exact q3
      · by_cases e : q = j
        · rw [if_pos e, if_pos e]; exact Or.inr ⟨h5, h7, h8⟩
        · rw [if_neg e, if_neg e]; exact c4 q hq
      · by_cases e : q = j
        · have e2 : ¬ k = j := fun z => ne (by rw [e, z])
          rw [if_pos e, if_pos e, if_neg e2, if_neg e2]
          exact Or.inl (dis k hk e2)
        · by_cases e2 : k = j
          · rw [if_neg e, if_neg e, if_pos e2, if_pos e2]
            exact Or.inl (fun z => dis q hq e ⟨z.2, z.1⟩)
          · rw [if_neg e, if_neg e, if_neg e2, if_neg e2]; exact c5 q k hq hk ne
