/-! what the state keeps is kept -/
theorem IvL.mv {n n' : Nat → Nat} {σ σ' : xM} (h : IvL n σ) (c : n' 0 = n 0 ∧ n' 1 = n 1 ∧ σ' 3 = σ 3 ∧ σ' 4 = σ 4 ∧ σ' 6 = σ 6 ∧ σ' 7 = σ 7 ∧ σ' 8 = σ 8 ∧ σ' 9 = σ 9 ∧ σ' 10 = σ 10 ∧ σ' 11 = σ 11 ∧ σ' 12 = σ 12) : IvL n' σ' := by
  obtain ⟨c0, c1, c2, c3, c4, c5, c6, c7, c8, c9, c10⟩ := c
  unfold IvL
  rw [c0, c1, c2, c3, c4, c5, c6, c7, c8, c9, c10]
  exact h
theorem IvK.mv {n n' : Nat → Nat} {σ σ' : xM} (h : IvK n σ) (c : n' 4 = n 4 ∧ σ' 13 0 = σ 13 0 ∧ σ' 13 1 = σ 13 1 ∧ σ' 19 0 = σ 19 0) : IvK n' σ' := by
  obtain ⟨c0, c1, c2, c3⟩ := c
  unfold IvK
  rw [c0, c1, c2, c3]
  exact h
theorem IvS.mv {n n' : Nat → Nat} {σ σ' : xM} (h : IvS n σ) (c : n' 2 = n 2 ∧ σ' 22 = σ 22 ∧ σ' 25 = σ 25 ∧ σ' 26 = σ 26 ∧ σ' 27 = σ 27 ∧ σ' 29 = σ 29 ∧ σ' 30 = σ 30) : IvS n' σ' := by
  obtain ⟨c0, c1, c2, c3, c4, c5, c6⟩ := c
  unfold IvS
  rw [c0, c1, c2, c3, c4, c5, c6]
  exact h
theorem IvC.mv {n n' : Nat → Nat} {σ σ' : xM} (h : IvC n σ) (c : n' 3 = n 3 ∧ n' 1 = n 1 ∧ σ' 7 = σ 7 ∧ σ' 32 = σ 32 ∧ σ' 33 = σ 33 ∧ σ' 34 = σ 34 ∧ σ' 35 = σ 35 ∧ σ' 36 = σ 36) : IvC n' σ' := by
  obtain ⟨c0, c1, c2, c3, c4, c5, c6, c7⟩ := c
  unfold IvC
  rw [c0, c1, c2, c3, c4, c5, c6, c7]
  exact h
theorem IvP.mv {n n' : Nat → Nat} {σ σ' : xM} (h : IvP n σ) (c : n' 5 = n 5 ∧ σ' 39 = σ 39 ∧ σ' 41 = σ 41) : IvP n' σ' := by
  obtain ⟨c0, c1, c2⟩ := c
  unfold IvP
  rw [c0, c1, c2]
  exact h
theorem IvW.mv {σ σ' : xM} (h : IvW σ) (c : σ' 43 = σ 43 ∧ σ' 44 = σ 44) : IvW σ' := by
  obtain ⟨c0, c1⟩ := c
  unfold IvW
  rw [c0, c1]
  exact h
/-- an operation keeps what the state keeps -/
def Kp (o : xO) : Prop := Iv o.2.1 o.2.2
theorem kp_more {n : Nat → Nat} {σ : xM} (I : Iv n σ) (q : Int32) : Kp (o_more n σ q) := by
  rw [o_more, Kp]
  by_cases h : ¬ (0 ≤ q ∧ q ≤ 50)
  · rw [if_pos h]; exact I
  · rw [if_neg h]
    have h := Classical.not_not.1 h
    refine ⟨I.1.mv (by simp [xw_ap]), ?_, I.2.2.1.mv (by simp [xw_ap]), I.2.2.2.1.mv (by simp [xw_ap]), I.2.2.2.2.1.mv (by simp [xw_ap]), I.2.2.2.2.2.mv (by simp [xw_ap])⟩
    have k := I.2.1
    refine ⟨k.1, ?_⟩
    simp only [xw_ap, upd_ap, Nat.reduceEqDiff, ↓reduceIte]
    exact ⟨k.2.1, k.2.2.1, k.2.2.2.1, k.2.2.2.2.1, h.1, h.2⟩
theorem kp_seats {n : Nat → Nat} {σ : xM} (I : Iv n σ) (a b : Int32) : Kp (o_seats n σ a b) := by
  rw [o_seats, Kp]
  by_cases h : ¬ (0 ≤ a ∧ a ≤ 200 ∧ 0 ≤ b ∧ b ≤ 200)
  · rw [if_pos h]; exact I
  · rw [if_neg h]
    have h := Classical.not_not.1 h
    refine ⟨I.1.mv (by simp [xw_ap]), ?_, I.2.2.1.mv (by simp [xw_ap]), I.2.2.2.1.mv (by simp [xw_ap]), I.2.2.2.2.1.mv (by simp [xw_ap]), I.2.2.2.2.2.mv (by simp [xw_ap])⟩
    have k := I.2.1
    refine ⟨k.1, ?_⟩
    simp only [xw_ap, upd_ap, Nat.reduceEqDiff, ↓reduceIte]
    exact ⟨h.1, h.2.1, h.2.2.1, h.2.2.2, k.2.2.2.2.2⟩
theorem kp_serve {n : Nat → Nat} {σ : xM} (I : Iv n σ) (w s f c : Int32) : Kp (o_serve n σ w s f c) := by
  rw [o_serve, Kp]
  by_cases h : n 4 = 40
  · rw [if_pos h]; exact I
  · rw [if_neg h]
    have k := I.2.1
    refine ⟨I.1.mv (by simp [xw_ap, nup_ap]), ?_, I.2.2.1.mv (by simp [xw_ap, nup_ap]), I.2.2.2.1.mv (by simp [xw_ap, nup_ap]), I.2.2.2.2.1.mv (by simp [xw_ap, nup_ap]), I.2.2.2.2.2.mv (by simp [xw_ap])⟩
    refine ⟨?_, ?_⟩
    · have := k.1
      simp only [nup_ap, ↓reduceIte]; omega
    · simp only [xw_ap, Nat.reduceEqDiff, ↓reduceIte]; exact k.2
theorem kp_cook {n : Nat → Nat} {σ : xM} (I : Iv n σ) (w k c : Int32) : Kp (o_cook n σ w k c) := by
  rw [o_cook]
  by_cases h : ¬ (0 ≤ w ∧ w ≤ 9 ∧ 0 ≤ k ∧ k ≤ 1 ∧ 0 ≤ c ∧ c ≤ 500)
  · rw [if_pos h]; exact I
  · rw [if_neg h]
    by_cases h2 : xdinV n σ w k = -1
    · rw [if_pos h2]; exact I
    · rw [if_neg h2]; exact kp_serve I _ _ _ _
theorem kp_hall {n : Nat → Nat} {σ : xM} (I : Iv n σ) (h r : Int32) : Kp (o_hall n σ h r) := by
  rw [o_hall, Kp]
  by_cases g : ¬ (0 ≤ h ∧ h ≤ 5 ∧ 0 ≤ r ∧ r ≤ 500)
  · rw [if_pos g]; exact I
  · rw [if_neg g]
    have g := Classical.not_not.1 g
    obtain ⟨a, -, ha, ea⟩ := xin_nat 5 (lo := 0) g.1 g.2.1 (by decide) (by decide)
    refine ⟨I.1.mv (by simp [xw_ap]), I.2.1.mv (by simp [xw_ap]), ?_, I.2.2.2.1.mv (by simp [xw_ap]), I.2.2.2.2.1.mv (by simp [xw_ap]), I.2.2.2.2.2.mv (by simp [xw_ap])⟩
    obtain ⟨s1, s2, s3, s4, s5⟩ := I.2.2.1
    rw [ea, nI_clamp (by omega)]
    refine ⟨s1, ?_, ?_, ?_, ?_⟩
    · simp only [xw_ap, Nat.reduceEqDiff, ↓reduceIte]; exact s2
    · intro q hq
      simp only [xw_ap, ↓reduceIte, upd_ap]
      by_cases e : q = a
      · rw [if_pos e]; exact g.2.2
      · rw [if_neg e]; exact s3 q hq
    · simp only [xw_ap, ↓reduceIte, upd_ap]
      rw [if_neg (by omega)]; exact s4
    · simp only [xw_ap, Nat.reduceEqDiff, ↓reduceIte]; exact s5
