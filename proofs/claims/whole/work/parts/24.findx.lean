theorem nJ_le {a b : Nat} (ha : a < 1000000) (hb : b < 1000000) : nI a ≤ nI b ↔ a ≤ b := by grind [nT]
theorem nJ_nle {a : Nat} (ha : a < 1000000) : ¬ nI a ≤ -1 := by grind [nT]
theorem nJ_p {a : Nat} (ha : a < 1000000) : nI (a + 1) + -1 = nI a := by grind [nT]
theorem nJ_p' {a : Nat} (ha : a < 1000000) : nI (a + 1) - 1 = nI a := by grind [nT]
theorem nJ_sb {a b : Nat} (ha : a < 1000000) (h : b ≤ a) : nI a - nI b = nI (a - b) := by grind [nT]
theorem xsz_pos {n : Nat → Nat} {σ : xM} (I : Iv n σ) {w : Int32} {b : Nat} : ∀ i, i ≤ n 1 → b < xu σ w i → 1 ≤ xsz σ w b i
  | 0, _, h => by rw [xu] at h; omega
  | i + 1, hi, h => by
    have z := (xzN_in I (p := i) (by omega)).1
    rw [xsz]
    by_cases c : b < xu σ w i
    · have := xsz_pos I i (by omega) c
      by_cases e : xthere σ w i ∧ xun σ w i = b
      · rw [if_pos e]; omega
      · rw [if_neg e]; exact this
    · rw [xu] at h
      by_cases e : xthere σ w i ∧ xmate σ w i = none
      · rw [if_pos e] at h
        rw [if_pos ⟨e.1, by rw [xun_new e.2]; omega⟩]; omega
      · rw [if_neg e] at h; omega
def MF (s : Nat → Nat) (B k : Nat) (f : Nat → Int32) : Prop := ∀ t, t ≤ 192 → (f t = -1 ∨ ∃ m, B - k ≤ m ∧ m ≤ B ∧ f t = nI m) ∧ ∀ j, j ≤ k → (rc s B j t ↔ nI (B - j) ≤ f t)
theorem MF0 {s : Nat → Nat} {B : Nat} {f : Nat → Int32} (hB : B ≤ 24) (h0 : f 0 = nI B) (h : ∀ t, 0 < t → t ≤ 192 → f t = -1) : MF s B 0 f := by
  intro t ht
  by_cases e : t = 0
  · subst e
    refine ⟨Or.inr ⟨B, by omega, by omega, h0⟩, fun j hj => ?_⟩
    rw [show j = 0 by omega, h0, Nat.sub_zero, rc]
    exact ⟨fun _ => Int32.le_refl _, fun _ => rfl⟩
  · refine ⟨Or.inl (h t (by omega) ht), fun j hj => ?_⟩
    rw [show j = 0 by omega, h t (by omega) ht, Nat.sub_zero, rc]
    exact ⟨fun z => absurd z e, fun z => absurd z (nJ_nle (by omega))⟩
theorem MF.step {s : Nat → Nat} {B k : Nat} {f g : Nat → Int32} (hB : B ≤ 24) (hk : k < B) (h : MF s B k f) (hg : ∀ t, t ≤ 192 → g t = if s (B - (k + 1)) ≤ t ∧ t ≤ sfx s B (k + 1) ∧ f t = -1 ∧ ¬ f (t - s (B - (k + 1))) = -1 then nI (B - (k + 1)) else f t) : MF s B (k + 1) g := by
  have alive : ∀ t, t ≤ 192 → (rc s B k t ↔ ¬ f t = -1) := by
    intro t ht
    obtain ⟨r, q⟩ := h t ht
    rw [q k (Nat.le_refl _)]
    rcases r with r | ⟨m, m1, m2, r⟩
    · rw [r]; exact ⟨fun z => absurd z (nJ_nle (by omega)), fun z => absurd rfl z⟩
    · rw [r, nJ_le (by omega) (by omega)]; exact ⟨fun _ => nI_ne (by omega), fun _ => m1⟩
  intro t ht
  rw [hg t ht]
  obtain ⟨r, q⟩ := h t ht
  have at' := alive t ht
  by_cases c : s (B - (k + 1)) ≤ t ∧ t ≤ sfx s B (k + 1) ∧ f t = -1 ∧ ¬ f (t - s (B - (k + 1))) = -1
  · rw [if_pos c]
    obtain ⟨c1, c2, c3, c4⟩ := c
    have rk := (alive (t - s (B - (k + 1))) (by omega)).2 c4
    refine ⟨Or.inr ⟨B - (k + 1), by omega, by omega, rfl⟩, fun j hj => ?_⟩
    rw [nJ_le (by omega) (by omega)]
    by_cases e : j = k + 1
    · subst e; exact ⟨fun _ => Nat.le_refl _, fun _ => Or.inr ⟨c1, rk⟩⟩
    · have := q j (by omega)
      rw [c3] at this
      exact ⟨fun z => absurd (this.1 z) (nJ_nle (by omega)), fun z => by omega⟩
  · rw [if_neg c]
    refine ⟨?_, fun j hj => ?_⟩
    · rcases r with r | ⟨m, m1, m2, r⟩
      · exact Or.inl r
      · exact Or.inr ⟨m, by omega, m2, r⟩
    · by_cases e : j = k + 1
      · subst e
        rcases r with r | ⟨m, m1, m2, r⟩
        · rw [r]
          refine ⟨fun z => ?_, fun z => absurd z (nJ_nle (by omega))⟩
          rcases z with z | ⟨z1, z2⟩
          · exact absurd r (at'.1 z)
          · have := rc_le z2
            exact absurd ⟨z1, by rw [sfx]; omega, r, (alive _ (by omega)).1 z2⟩ c
        · rw [r, nJ_le (by omega) (by omega)]
          exact ⟨fun _ => by omega, fun _ => Or.inl (at'.2 (by rw [r]; exact nI_ne (by omega)))⟩
      · exact q j (by omega)
theorem sp_X8_findNumbers {M : xM} {B : Nat} {s : Nat → Nat} (hB : M 13 3 = nI B) (hB24 : B ≤ 24) (hs : ∀ b, b < B → M 16 b = nI (s b)) (hp : ∀ b, b < B → 1 ≤ s b) (hT : nsum s B ≤ 192) : SpV mX8_findNumbers [.ref 13] M (fun M' => (∀ c, ¬ c = 18 → M' c = M c) ∧ MF s B B (M' 18)) := by
  have lp : ∀ (r : Nat) (x : Int32) (M1 : xM) (o3 o4 : Option Value), r ≤ B → x = nI r - 1 → (∀ c, ¬ c = 18 → M1 c = M c) → MF s B (B - r) (M1 18) → P mX8_findNumbers 27 [some (.ref 13), some (.int (nI (sfx s B (B - r)))), some (.int x), o3, o4] [] M1 (fun v M' => v = none ∧ (∀ c, ¬ c = 18 → M' c = M c) ∧ MF s B B (M' 18)) := by
    intro r
    induction r with
    | zero =>
      intro x M1 o3 o4 hr hx hf hm
      subst hx
      refine P.iload_n (pc := 27) 2 dX8_findNumbers_27 rfl rfl ?_
      refine P.iflt (pc := 28) 95 dX8_findNumbers_28 (by decide) (fun c28 => ?_) (fun c28 => ?_)
      · refine P.vret (pc := 95) dX8_findNumbers_95 rfl ?_
        exact ⟨rfl, hf, hm⟩
      · exact absurd (by decide) c28--.
    | succ r ih =>
      intro x M1 o3 o4 hr hx hf hm
      rw [nJ_p' (by omega)] at hx
      subst hx
      have a16 : M1 16 = M 16 := hf 16 (by decide)
      have e1 : sfx s B (B - r) = sfx s B (B - (r + 1)) + s r := by rw [show B - r = (B - (r + 1)) + 1 by omega, sfx, show B - (B - (r + 1) + 1) = r by omega]
      have sm := sfx_all (s := s) (B := B) (B - r) (by omega)
      have sr := hp r (by omega)
      have inner : ∀ (d t : Nat) (M2 : xM), t + 1 = s r + d → t ≤ sfx s B (B - r) → (∀ c, ¬ c = 18 → M2 c = M c) → (∀ u, u ≤ 192 → M2 18 u = if t < u ∧ s r ≤ u ∧ u ≤ sfx s B (B - r) ∧ M1 18 u = -1 ∧ ¬ M1 18 (u - s r) = -1 then nI r else M1 18 u) →
          P mX8_findNumbers 45 [some (.ref 13), some (.int (nI (sfx s B (B - r)))), some (.int (nI r)), some (.int (nI (s r))), some (.int (nI t))] [] M2 (fun v M' => v = none ∧ (∀ c, ¬ c = 18 → M' c = M c) ∧ MF s B B (M' 18)) := by
        intro d
        induction d with
        | zero =>
          intro t M2 h1 h2 h3 h4
          refine P.iload (pc := 45) 4 dX8_findNumbers_45 rfl ?_
          refine P.iload_n (pc := 47) 3 dX8_findNumbers_47 rfl rfl ?_
          refine P.iclt (pc := 48) 89 dX8_findNumbers_48 (by decide) (fun c48 => ?_) (fun c48 => ?_)
          · refine P.iinc (pc := 89) 2 (-1) dX8_findNumbers_89 rfl (by decide) (by decide) rfl ?_
            refine P.goto (pc := 92) 27 dX8_findNumbers_92 (by decide) ?_
            refine ih _ _ _ _ (by omega) (by grind) h3 ?_
            rw [show B - r = (B - (r + 1)) + 1 by omega]
            refine MF.step hB24 (by omega) hm (fun u hu => ?_)
            rw [show B - (B - (r + 1) + 1) = r by omega, show B - (r + 1) + 1 = B - r by omega, h4 u hu]
            by_cases z : s r ≤ u
            · simp only [show t < u by omega, true_and]
            · rw [if_neg (fun q => z q.2.1), if_neg (fun q => z q.1)]
          · exact absurd (nI_lt (by omega) (by omega)) c48--.
        | succ d ihd =>
          intro t M2 h1 h2 h3 h4
          have ht : M2 18 t = M1 18 t := by rw [h4 t (by omega), if_neg (fun q => absurd q.1 (Nat.lt_irrefl _))]
          have hts : M2 18 (t - s r) = M1 18 (t - s r) := by rw [h4 (t - s r) (by omega), if_neg (by omega)]
          have et : nI t + -1 = nI (t - 1) := by
            have := nJ_p (a := t - 1) (by omega)
            rwa [show t - 1 + 1 = t by omega] at this
          refine P.iload (pc := 45) 4 dX8_findNumbers_45 rfl ?_
          refine P.iload_n (pc := 47) 3 dX8_findNumbers_47 rfl rfl ?_
          refine P.iclt (pc := 48) 89 dX8_findNumbers_48 (by decide) (fun c48 => ?_) (fun c48 => ?_)
          · exact absurd c48 (by rw [Int32.not_lt]; exact (nJ_le (by omega) (by omega)).2 (by omega))--.
          · refine P.aload_n (pc := 51) 0 dX8_findNumbers_51 rfl rfl ?_
            refine P.getR (pc := 52) fl_X8_42 dX8_findNumbers_52 rfl rfl ?_
            refine P.iload (pc := 55) 4 dX8_findNumbers_55 rfl ?_
            refine P.iaN (pc := 57) (t) dX8_findNumbers_57 rfl rfl rfl (by first | omega | grind [nT]) ?_
            rw [ht]
            refine P.iconst (pc := 58) (v := -1) dX8_findNumbers_58 (by decide) ?_
            refine P.icne (pc := 59) 83 dX8_findNumbers_59 (by decide) (fun c59 => ?_) (fun c59 => ?_)
            · refine P.iinc (pc := 83) 4 (-1) dX8_findNumbers_83 rfl (by decide) (by decide) rfl ?_
              rw [et]
              refine P.goto (pc := 86) 45 dX8_findNumbers_86 (by decide) ?_
              refine ihd (t - 1) _ (by omega) (by omega) (fun c hc => ?_) (fun u hu => ?_)
              · first | exact h3 c hc | (rw [xw_ap, if_neg hc]; exact h3 c hc)
              · by_cases e : u = t
                · subst e
                  first
                  | (rw [xw_s, upd_ap, if_pos rfl, if_pos ⟨by omega, by omega, h2, by grind, by grind⟩])
                  | (rw [ht, if_neg (by grind)])
                · have tu : t - 1 < u ↔ t < u := by omega
                  simp only [tu]
                  first | exact h4 u hu | (rw [xw_s, upd_ap, if_neg e]; exact h4 u hu)
            · refine P.aload_n (pc := 62) 0 dX8_findNumbers_62 rfl rfl ?_
              refine P.getR (pc := 63) fl_X8_42 dX8_findNumbers_63 rfl rfl ?_
              refine P.iload (pc := 66) 4 dX8_findNumbers_66 rfl ?_
              refine P.iload_n (pc := 68) 3 dX8_findNumbers_68 rfl rfl ?_
              refine P.isub (pc := 69) dX8_findNumbers_69 ?_
              refine P.iaN (pc := 70) (t - s r) dX8_findNumbers_70 rfl rfl (nJ_sb (by omega) (by omega)) (by first | omega | grind [nT]) ?_
              rw [hts]
              refine P.iconst (pc := 71) (v := -1) dX8_findNumbers_71 (by decide) ?_
              refine P.iceq (pc := 72) 83 dX8_findNumbers_72 (by decide) (fun c72 => ?_) (fun c72 => ?_)
              · refine P.iinc (pc := 83) 4 (-1) dX8_findNumbers_83 rfl (by decide) (by decide) rfl ?_
                rw [et]
                refine P.goto (pc := 86) 45 dX8_findNumbers_86 (by decide) ?_
                refine ihd (t - 1) _ (by omega) (by omega) (fun c hc => ?_) (fun u hu => ?_)
                · first | exact h3 c hc | (rw [xw_ap, if_neg hc]; exact h3 c hc)
                · by_cases e : u = t
                  · subst e
                    first
                    | (rw [xw_s, upd_ap, if_pos rfl, if_pos ⟨by omega, by omega, h2, by grind, by grind⟩])
                    | (rw [ht, if_neg (by grind)])
                  · have tu : t - 1 < u ↔ t < u := by omega
                    simp only [tu]
                    first | exact h4 u hu | (rw [xw_s, upd_ap, if_neg e]; exact h4 u hu)
              · refine P.aload_n (pc := 75) 0 dX8_findNumbers_75 rfl rfl ?_
                refine P.getR (pc := 76) fl_X8_42 dX8_findNumbers_76 rfl rfl ?_
                refine P.iload (pc := 79) 4 dX8_findNumbers_79 rfl ?_
                refine P.iload_n (pc := 81) 2 dX8_findNumbers_81 rfl rfl ?_
                refine P.isN (pc := 82) (t) dX8_findNumbers_82 rfl rfl rfl (by first | omega | grind [nT]) ?_
                refine P.iinc (pc := 83) 4 (-1) dX8_findNumbers_83 rfl (by decide) (by decide) rfl ?_
                rw [et]
                refine P.goto (pc := 86) 45 dX8_findNumbers_86 (by decide) ?_
                refine ihd (t - 1) _ (by omega) (by omega) (fun c hc => ?_) (fun u hu => ?_)
                · first | exact h3 c hc | (rw [xw_ap, if_neg hc]; exact h3 c hc)
                · by_cases e : u = t
                  · subst e
                    first
                    | (rw [xw_s, upd_ap, if_pos rfl, if_pos ⟨by omega, by omega, h2, by grind, by grind⟩])
                    | (rw [ht, if_neg (by grind)])
                  · have tu : t - 1 < u ↔ t < u := by omega
                    simp only [tu]
                    first | exact h4 u hu | (rw [xw_s, upd_ap, if_neg e]; exact h4 u hu)
      refine P.iload_n (pc := 27) 2 dX8_findNumbers_27 rfl rfl ?_
      refine P.iflt (pc := 28) 95 dX8_findNumbers_28 (by decide) (fun c28 => ?_) (fun c28 => ?_)
      · exact absurd c28 (by grind [nT])--.
      · refine P.aload_n (pc := 31) 0 dX8_findNumbers_31 rfl rfl ?_
        refine P.getR (pc := 32) fl_X8_36 dX8_findNumbers_32 rfl rfl ?_
        refine P.iload_n (pc := 35) 2 dX8_findNumbers_35 rfl rfl ?_
        refine P.iaN (pc := 36) (r) dX8_findNumbers_36 rfl rfl rfl (by first | omega | grind [nT]) ?_
        rw [a16, hs r (by omega)]
        refine P.istore_n (pc := 37) 3 dX8_findNumbers_37 rfl (by decide) rfl ?_
        refine P.iload_n (pc := 38) 1 dX8_findNumbers_38 rfl rfl ?_
        refine P.iload_n (pc := 39) 3 dX8_findNumbers_39 rfl rfl ?_
        refine P.iadd (pc := 40) dX8_findNumbers_40 ?_
        rw [nI_add, ← e1]
        refine P.istore_n (pc := 41) 1 dX8_findNumbers_41 rfl (by decide) rfl ?_
        refine P.iload_n (pc := 42) 1 dX8_findNumbers_42 rfl rfl ?_
        refine P.istore (pc := 43) 4 dX8_findNumbers_43 (by decide) rfl ?_
        refine inner (sfx s B (B - (r + 1)) + 1) _ _ (by omega) (Nat.le_refl _) hf (fun u hu => ?_)
        rw [if_neg (fun q => absurd q.1 (by omega))]
  have hfill : ∀ t, 0 < t → t ≤ 192 → upd (xfill (M 18) 0 193 (-1)) 0 (nI B) t = -1 := by
    intro t h1 h2
    rw [upd_ap, if_neg (by omega), xfill, if_pos ⟨by omega, by omega⟩]
  have l0 := fun (M1 : xM) a b => lp B (nI B - 1) M1 none none (Nat.le_refl _) rfl a b
  simp only [Nat.sub_self, sfx] at l0
  refine P.aload_n (pc := 0) 0 dX8_findNumbers_0 rfl rfl ?_
  refine P.getR (pc := 1) fl_X8_42 dX8_findNumbers_1 rfl rfl ?_
  refine P.iconst (pc := 4) (v := -1) dX8_findNumbers_4 (by decide) ?_
  refine P.S2V (pc := 5) cs_X8_findNumbers_62 dX8_findNumbers_5 rfl rfl (sp_fill2 _ rfl rfl _) (fun M5 h5 => ?_)
  subst h5
  refine P.aload_n (pc := 8) 0 dX8_findNumbers_8 rfl rfl ?_
  refine P.getR (pc := 9) fl_X8_42 dX8_findNumbers_9 rfl rfl ?_
  refine P.iconst (pc := 12) (v := 0) dX8_findNumbers_12 (by decide) ?_
  refine P.aload_n (pc := 13) 0 dX8_findNumbers_13 rfl rfl ?_
  refine P.getI (pc := 14) fl_X8_23 dX8_findNumbers_14 rfl rfl ?_
  simp only [xw_ap, Nat.reduceEqDiff, ↓reduceIte, hB]
  refine P.isN (pc := 17) _ dX8_findNumbers_17 rfl rfl rfl (by first | omega | grind [nT]) ?_
  refine P.iconst (pc := 18) (v := 0) dX8_findNumbers_18 (by decide) ?_
  refine P.istore_n (pc := 19) 1 dX8_findNumbers_19 rfl (by decide) rfl ?_
  refine P.aload_n (pc := 20) 0 dX8_findNumbers_20 rfl rfl ?_
  refine P.getI (pc := 21) fl_X8_23 dX8_findNumbers_21 rfl rfl ?_
  simp only [xw_ap, Nat.reduceEqDiff, ↓reduceIte, hB]
  refine P.iconst (pc := 24) (v := 1) dX8_findNumbers_24 (by decide) ?_
  refine P.isub (pc := 25) dX8_findNumbers_25 ?_
  refine P.istore_n (pc := 26) 2 dX8_findNumbers_26 rfl (by decide) rfl ?_
  refine l0 _ (fun c hc => by simp only [xw_ap, if_neg hc]) ?_
  refine MF0 hB24 ?_ (fun t h1 h2 => ?_)
  · simp only [xw_ap, upd_ap, ↓reduceIte]
  · simp only [xw_ap, ↓reduceIte]; exact hfill t h1 h2
