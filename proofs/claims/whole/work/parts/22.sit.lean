/-! the sittings of a week: what they are -/
/-- the least place below m at which q holds -/
noncomputable def xfst (q : Nat → Prop) : Nat → Option Nat
  | 0 => none
  | m + 1 => match xfst q m with
    | some j => some j
    | none => @ite _ (q m) (Classical.propDecidable _) (some m) none
theorem xfst_some {q : Nat → Prop} : ∀ {m j : Nat}, xfst q m = some j → j < m ∧ q j ∧ ∀ i, i < j → ¬ q i
  | 0, j, h => by simp [xfst] at h
  | m + 1, j, h => by
    rw [xfst] at h
    cases e : xfst q m with
    | some i =>
      rw [e] at h
      cases h
      have := xfst_some e
      exact ⟨by omega, this.2⟩
    | none =>
      rw [e] at h
      have no : ∀ i, i < m → ¬ q i := by
        intro i hi hq
        have key : ∀ m, i < m → ¬ xfst q m = none := by
          intro m
          induction m with
          | zero => intro h; omega
          | succ m ih =>
            intro h z
            rw [xfst] at z
            cases e2 : xfst q m with
            | some _ => rw [e2] at z; simp at z
            | none =>
              rw [e2] at z
              by_cases e3 : i = m
              · subst e3; simp only [if_pos hq] at z; cases z
              · exact ih (by omega) e2
        exact key m hi e
      by_cases hq : q m
      · simp only [if_pos hq] at h
        cases h
        exact ⟨by omega, hq, no⟩
      · simp only [if_neg hq] at h
        cases h
theorem xfst_none {q : Nat → Prop} : ∀ {m : Nat}, xfst q m = none → ∀ i, i < m → ¬ q i
  | 0, _, i, hi => by omega
  | m + 1, h, i, hi => by
    rw [xfst] at h
    cases e : xfst q m with
    | some j => rw [e] at h; cases h
    | none =>
      rw [e] at h
      by_cases hq : q m
      · simp only [if_pos hq] at h; cases h
      · by_cases e2 : i = m
        · subst e2; exact hq
        · exact xfst_none e i (by omega)
/-- the first one, of those ahead of p, of p's table -/
noncomputable def xmate (σ : xM) (w : Int32) (p : Nat) : Option Nat := xfst (fun q => xthere σ w q ∧ σ 10 q = σ 10 p ∧ ¬ σ 10 p = -1) p
noncomputable def xu (σ : xM) (w : Int32) : Nat → Nat
  | 0 => 0
  | p + 1 => @ite _ (xthere σ w p ∧ xmate σ w p = none) (Classical.propDecidable _) (xu σ w p + 1) (xu σ w p)
noncomputable def xun (σ : xM) (w : Int32) (p : Nat) : Nat := xu σ w ((xmate σ w p).getD p)
theorem xu_mono (σ : xM) (w : Int32) (a : Nat) : ∀ k, xu σ w a ≤ xu σ w (a + k)
  | 0 => Nat.le_refl _
  | k + 1 => by
    have := xu_mono σ w a k
    rw [← Nat.add_assoc, xu]
    by_cases h : xthere σ w (a + k) ∧ xmate σ w (a + k) = none
    · rw [if_pos h]; omega
    · rw [if_neg h]; exact this
theorem xu_le (σ : xM) (w : Int32) : ∀ k, xu σ w k ≤ k
  | 0 => Nat.le_refl _
  | k + 1 => by
    have := xu_le σ w k
    rw [xu]
    by_cases h : xthere σ w k ∧ xmate σ w k = none
    · rw [if_pos h]; omega
    · rw [if_neg h]; omega
/-- all of one table sit on one bench -/
theorem xun_eq {σ : xM} {w : Int32} {p q : Nat} (hq : q < p) (h1 : xthere σ w q) (h2 : σ 10 q = σ 10 p) (h3 : ¬ σ 10 p = -1) : xun σ w q = xun σ w p ∧ ¬ xmate σ w p = none := by
  cases e : xmate σ w p with
  | none => exact absurd ⟨h1, h2, h3⟩ (xfst_none e q hq)
  | some r =>
    refine ⟨?_, by simp⟩
    obtain ⟨r1, ⟨r2, r3, r4⟩, r5⟩ := xfst_some e
    rw [xun, xun, e]
    show _ = xu σ w r
    cases e2 : xmate σ w q with
    | none =>
      have : ¬ r < q := fun c => xfst_none e2 r c ⟨r2, by rw [r3, h2], by rw [h2]; exact h3⟩
      have : ¬ q < r := fun c => r5 q c ⟨h1, h2, h3⟩
      show xu σ w q = _
      rw [show q = r by omega]
    | some r' =>
      obtain ⟨s1, ⟨s2, s3, s4⟩, s5⟩ := xfst_some e2
      have : ¬ r < r' := fun c => s5 r c ⟨r2, by rw [r3, h2], by rw [h2]; exact h3⟩
      have : ¬ r' < r := fun c => r5 r' c ⟨s2, by rw [s3, h2], h3⟩
      show xu σ w r' = _
      rw [show r' = r by omega]
theorem xun_new {σ : xM} {w : Int32} {p : Nat} (h : xmate σ w p = none) : xun σ w p = xu σ w p := by rw [xun, h]; rfl
theorem xun_lt {σ : xM} {w : Int32} {p m : Nat} (hp : p < m) (h : xthere σ w p) : xun σ w p < xu σ w m := by
  have key : ∀ r, r < m → xthere σ w r → xmate σ w r = none → xu σ w r < xu σ w m := by
    intro r hr h1 h2
    have := xu_mono σ w (r + 1) (m - (r + 1))
    rw [show r + 1 + (m - (r + 1)) = m by omega, xu, if_pos ⟨h1, h2⟩] at this
    omega
  cases e : xmate σ w p with
  | none => rw [xun_new e]; exact key p hp h e
  | some r =>
    obtain ⟨r1, ⟨r2, r3, r4⟩, r5⟩ := xfst_some e
    rw [xun, e]
    show xu σ w r < _
    refine key r (by omega) r2 ?_
    cases e2 : xmate σ w r with
    | none => rfl
    | some r' =>
      obtain ⟨s1, ⟨s2, s3, s4⟩, s5⟩ := xfst_some e2
      exact absurd ⟨s2, by rw [s3, r3], r4⟩ (r5 r' (by omega))
def xzN (σ : xM) (p : Nat) : Nat := (σ 6 p).toNatClampNeg
theorem xzN_in {n : Nat → Nat} {σ : xM} (I : Iv n σ) {p : Nat} (hp : p < n 1) : 1 ≤ xzN σ p ∧ xzN σ p ≤ 8 ∧ σ 6 p = nI (xzN σ p) := by
  have h := I.1.2.2.2.1 p hp
  obtain ⟨j, h1, h2, e⟩ := xin_nat 8 (lo := 1) h.1 h.2.1 (by decide) (by decide)
  rw [xzN, e, nI_clamp (by omega)]
  exact ⟨h1, h2, rfl⟩
noncomputable def xsz (σ : xM) (w : Int32) (b : Nat) : Nat → Nat
  | 0 => 0
  | i + 1 => @ite _ (xthere σ w i ∧ xun σ w i = b) (Classical.propDecidable _) (xsz σ w b i + xzN σ i) (xsz σ w b i)
noncomputable def xall (σ : xM) (w : Int32) : Nat → Nat
  | 0 => 0
  | i + 1 => @ite _ (xthere σ w i) (Classical.propDecidable _) (xall σ w i + xzN σ i) (xall σ w i)
theorem xsz_0 {σ : xM} {w : Int32} {b : Nat} : ∀ i, xu σ w i ≤ b → xsz σ w b i = 0
  | 0, _ => rfl
  | i + 1, h => by
    have := xu_mono σ w i 1
    rw [xsz, if_neg, xsz_0 i (by omega)]
    rintro ⟨h1, h2⟩
    have := xun_lt (show i < i + 1 by omega) h1
    rw [h2] at this
    omega
theorem xall_le {n : Nat → Nat} {σ : xM} (I : Iv n σ) (w : Int32) : ∀ i, i ≤ n 1 → xall σ w i ≤ 8 * i
  | 0, _ => by rw [xall]; omega
  | i + 1, h => by
    have := xall_le I w i (by omega)
    have := (xzN_in I (p := i) (by omega)).2.1
    rw [xall]
    by_cases e : xthere σ w i
    · rw [if_pos e]; omega
    · rw [if_neg e]; omega
def nsum (f : Nat → Nat) : Nat → Nat
  | 0 => 0
  | m + 1 => nsum f m + f m
theorem nsum_c {f g : Nat → Nat} : ∀ m, (∀ j, j < m → f j = g j) → nsum f m = nsum g m
  | 0, _ => rfl
  | m + 1, h => by rw [nsum, nsum, nsum_c m (fun j hj => h j (by omega)), h m (by omega)]
theorem nsum_one {f g : Nat → Nat} {k s : Nat} : ∀ m, (∀ j, j < m → f j = if j = k then g j + s else g j) → nsum f m = if k < m then nsum g m + s else nsum g m
  | 0, _ => by simp [nsum]
  | m + 1, h => by
    have ih := nsum_one (f := f) (g := g) (k := k) (s := s) m (fun j hj => h j (by omega))
    have hm := h m (by omega)
    rw [nsum, nsum, ih, hm]
    by_cases e : m = k
    · subst e; simp; omega
    · by_cases e2 : k < m
      · rw [if_pos e2, if_neg e, if_pos (by omega)]; omega
      · rw [if_neg e2, if_neg e, if_neg (by omega)]
theorem nsum_0 : ∀ m, nsum (fun _ => 0) m = 0
  | 0 => rfl
  | m + 1 => by rw [nsum, nsum_0 m]
theorem nsum_xsz {σ : xM} {w : Int32} (B : Nat) : ∀ i, xu σ w i ≤ B → nsum (fun b => xsz σ w b i) B = xall σ w i
  | 0, _ => nsum_0 B
  | i + 1, h => by
    have m := xu_mono σ w i 1
    have ih := nsum_xsz (σ := σ) (w := w) B i (by omega)
    by_cases e : xthere σ w i
    · have lt := xun_lt (show i < i + 1 by omega) e
      rw [nsum_one (g := fun b => xsz σ w b i) (k := xun σ w i) (s := xzN σ i) B (fun j _ => by
        show xsz σ w j (i + 1) = _
        rw [xsz]
        by_cases e2 : j = xun σ w i
        · rw [if_pos ⟨e, e2.symm⟩, if_pos e2]
        · rw [if_neg (fun q => e2 q.2.symm), if_neg e2]), if_pos (by omega), ih, xall, if_pos e]
    · rw [nsum_c (g := fun b => xsz σ w b i) B (fun j _ => by show xsz σ w j (i + 1) = _; rw [xsz, if_neg (fun q => e q.1)]), ih, xall, if_neg e]
/-- t is a sum of some of the last k of B benches -/
def rc (s : Nat → Nat) (B : Nat) : Nat → Nat → Prop
  | 0, t => t = 0
  | k + 1, t => rc s B k t ∨ (s (B - (k + 1)) ≤ t ∧ rc s B k (t - s (B - (k + 1))))
theorem rc_up {s : Nat → Nat} {B k t : Nat} (h : rc s B k t) : rc s B (k + 1) t := Or.inl h
/-- the sum of the last k -/
def sfx (s : Nat → Nat) (B : Nat) : Nat → Nat
  | 0 => 0
  | k + 1 => sfx s B k + s (B - (k + 1))
theorem rc_le {s : Nat → Nat} {B : Nat} : ∀ {k t : Nat}, rc s B k t → t ≤ sfx s B k
  | 0, t, h => by rw [rc] at h; rw [h]; exact Nat.zero_le _
  | k + 1, t, h => by
    rw [sfx]
    rcases h with h | ⟨h1, h2⟩
    · have := rc_le h; omega
    · have := rc_le h2; omega
theorem sfx_all {s : Nat → Nat} {B : Nat} : ∀ k, k ≤ B → sfx s B k + nsum s (B - k) = nsum s B
  | 0, _ => by simp [sfx]
  | k + 1, h => by
    have := sfx_all (s := s) (B := B) k (by omega)
    rw [show B - k = (B - (k + 1)) + 1 by omega, nsum] at this
    rw [sfx]; omega
noncomputable def xB' (n : Nat → Nat) (σ : xM) (w : Int32) : Nat := xu σ w (n 1)
noncomputable def xs (n : Nat → Nat) (σ : xM) (w : Int32) (b : Nat) : Nat := xsz σ w b (n 1)
noncomputable def xT (n : Nat → Nat) (σ : xM) (w : Int32) : Nat := xall σ w (n 1)
theorem xB_le {n : Nat → Nat} {σ : xM} (I : Iv n σ) (w : Int32) : xB' n σ w ≤ 24 := by
  have := xu_le σ w (n 1)
  have := I.1.2.1
  rw [xB']; omega
theorem xT_le {n : Nat → Nat} {σ : xM} (I : Iv n σ) (w : Int32) : xT n σ w ≤ 192 := by
  have := xall_le I w (n 1) (Nat.le_refl _)
  have := I.1.2.1
  rw [xT]; omega
theorem xs_sum {n : Nat → Nat} {σ : xM} (w : Int32) : nsum (xs n σ w) (xB' n σ w) = xT n σ w := nsum_xsz _ _ (Nat.le_refl _)
def xab (T t : Nat) : Nat := if T < 2 * t then 2 * t - T else T - 2 * t
def xway (n : Nat → Nat) (σ : xM) (w : Int32) (t : Nat) : Prop := rc (xs n σ w) (xB' n σ w) (xB' n σ w) t ∧ nI t ≤ σ 13 0 ∧ nI (xT n σ w) - nI t ≤ σ 13 1
noncomputable def xdf (n : Nat → Nat) (σ : xM) (w : Int32) : Nat → Int32
  | 0 => -1
  | m + 1 => @ite _ (xway n σ w m ∧ (xdf n σ w m = -1 ∨ nI (xab (xT n σ w) m) < xdf n σ w m)) (Classical.propDecidable _) (nI (xab (xT n σ w) m)) (xdf n σ w m)
noncomputable def xdiff (n : Nat → Nat) (σ : xM) (w : Int32) : Int32 := xdf n σ w (xT n σ w + 1)
theorem xdf_in {n : Nat → Nat} {σ : xM} {w : Int32} : ∀ m, m ≤ xT n σ w + 1 → xdf n σ w m = -1 ∨ ∃ D, D ≤ xT n σ w ∧ xdf n σ w m = nI D
  | 0, _ => Or.inl rfl
  | m + 1, h => by
    rw [xdf]
    by_cases c : xway n σ w m ∧ (xdf n σ w m = -1 ∨ nI (xab (xT n σ w) m) < xdf n σ w m)
    · rw [if_pos c]; exact Or.inr ⟨xab (xT n σ w) m, by unfold xab; split <;> omega, rfl⟩
    · rw [if_neg c]; exact xdf_in m (by omega)
/-- with so many in sitting 0, the benches from b + 1 on can make up v in all -/
def xcan (n : Nat → Nat) (σ : xM) (w : Int32) (f b v : Nat) : Prop := xway n σ w v ∧ f ≤ v ∧ rc (xs n σ w) (xB' n σ w) (xB' n σ w - (b + 1)) (v - f)
noncomputable def xlead (n : Nat → Nat) (σ : xM) (w : Int32) (f b : Nat) : Prop := ¬ xdiff n σ w = -1 ∧ (xcan n σ w (f + xs n σ w b) b ((xT n σ w - (xdiff n σ w).toNatClampNeg) / 2) ∨ xcan n σ w (f + xs n σ w b) b ((xT n σ w + (xdiff n σ w).toNatClampNeg) / 2))
noncomputable def xfs0 (n : Nat → Nat) (σ : xM) (w : Int32) : Nat → Nat
  | 0 => 0
  | b + 1 => @ite _ (xlead n σ w (xfs0 n σ w b) b) (Classical.propDecidable _) (xfs0 n σ w b + xs n σ w b) (xfs0 n σ w b)
noncomputable def xsit (n : Nat → Nat) (σ : xM) (w : Int32) (b : Nat) : Int32 := @ite _ (xlead n σ w (xfs0 n σ w b) b) (Classical.propDecidable _) 0 1
/-- grown-ups and children of the first m parties that have this sitting -/
noncomputable def xdA (n : Nat → Nat) (σ : xM) (w k : Int32) : Nat → Nat
  | 0 => 0
  | i + 1 => @ite _ (xthere σ w i ∧ xsit n σ w (xun σ w i) = k) (Classical.propDecidable _) (xdA n σ w k i + xzN σ i) (xdA n σ w k i)
noncomputable def xdC (n : Nat → Nat) (σ : xM) (w k : Int32) : Nat → Nat
  | 0 => 0
  | i + 1 => @ite _ (xthere σ w i ∧ xsit n σ w (xun σ w i) = k) (Classical.propDecidable _) (xdC n σ w k i + (σ 7 i).toNatClampNeg) (xdC n σ w k i)
theorem kid_in {n : Nat → Nat} {σ : xM} (I : Iv n σ) {p : Nat} (hp : p < n 1) : (σ 7 p).toNatClampNeg ≤ xzN σ p ∧ σ 7 p = nI (σ 7 p).toNatClampNeg := by
  have h := I.1.2.2.2.1 p hp
  obtain ⟨z1, z2, z3⟩ := xzN_in I hp
  rw [z3] at h
  obtain ⟨j, h1, h2, e⟩ := xin_nat (xzN σ p) (lo := 0) h.2.2.1 h.2.2.2.1 (by omega) (by decide)
  rw [e, nI_clamp (by omega)]
  exact ⟨h2, rfl⟩
theorem xd_le {n : Nat → Nat} {σ : xM} (I : Iv n σ) (w k : Int32) : ∀ i, i ≤ n 1 → xdC n σ w k i ≤ xdA n σ w k i ∧ xdA n σ w k i ≤ 8 * i
  | 0, _ => by rw [xdC, xdA]; omega
  | i + 1, h => by
    have := xd_le I w k i (by omega)
    have := (xzN_in I (p := i) (by omega)).2.1
    have := (kid_in I (p := i) (by omega)).1
    rw [xdA, xdC]
    by_cases e : xthere σ w i ∧ xsit n σ w (xun σ w i) = k
    · rw [if_pos e, if_pos e]; omega
    · rw [if_neg e, if_neg e]; omega
noncomputable def xdin (n : Nat → Nat) (σ : xM) (w k : Int32) : Nat := xdA n σ w k (n 1) - xdC n σ w k (n 1) + xdC n σ w k (n 1) / 2
noncomputable def o_apart (n : Nat → Nat) (σ : xM) (w : Int32) : xO := if ¬ (0 ≤ w ∧ w ≤ 9) then (-2, n, σ) else (xdiff n σ w, n, σ)
noncomputable def o_sits (n : Nat → Nat) (σ : xM) (p w : Int32) : xO :=
  @ite _ (¬ (xin (n 1) p ∧ 0 ≤ w ∧ w ≤ 9)) (Classical.propDecidable _) (-2, n, σ) (@ite _ (¬ xthere σ w p.toNatClampNeg ∨ xdiff n σ w = -1) (Classical.propDecidable _) (-1, n, σ) (xsit n σ w (xun σ w p.toNatClampNeg), n, σ))
noncomputable def xdinV (n : Nat → Nat) (σ : xM) (w k : Int32) : Int32 := if xdiff n σ w = -1 then -1 else nI (xdin n σ w k)
noncomputable def o_foretell (n : Nat → Nat) (σ : xM) (w k : Int32) : xO := if ¬ (0 ≤ w ∧ w ≤ 9 ∧ 0 ≤ k ∧ k ≤ 1) then (-2, n, σ) else (xdinV n σ w k, n, σ)
noncomputable def o_cook (n : Nat → Nat) (σ : xM) (w k c : Int32) : xO :=
  if ¬ (0 ≤ w ∧ w ≤ 9 ∧ 0 ≤ k ∧ k ≤ 1 ∧ 0 ≤ c ∧ c ≤ 500) then (-2, n, σ) else if xdinV n σ w k = -1 then (-3, n, σ) else o_serve n σ w k (xdinV n σ w k) c
