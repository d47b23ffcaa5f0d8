def xArr : List Nat := [3, 4, 6, 7, 8, 9, 10, 11, 12, 20, 22, 25, 26, 27, 29, 30, 32, 33, 34, 35, 36, 37, 39, 40, 41, 43, 44, 45]
def xObj : List Nat := [1, 2, 5, 13, 19, 21, 31, 38, 42]
def xScal : List (Nat × Nat) := [(1, 2), (13, 0), (13, 1), (19, 0), (42, 0)]
def xCnt : List (Nat × Nat × Nat) := [(2, 2, 0), (5, 7, 1), (21, 3, 2), (31, 1, 3), (19, 1, 4), (38, 0, 5)]
def xArrM : List (Nat × Nat) := [(47, 3), (48, 4), (49, 6), (50, 7), (51, 8), (52, 9), (53, 10), (55, 12), (61, 20), (64, 22), (63, 25), (65, 26), (67, 29), (66, 30), (76, 32), (74, 33), (75, 34), (73, 37), (77, 39), (78, 40), (79, 41), (80, 43), (81, 44), (82, 45)]
def xScalM : List (Nat × Nat × Nat × Nat) := [(46, 11, 1, 2), (46, 18, 19, 0), (46, 46, 42, 0), (56, 0, 13, 0), (56, 1, 13, 1)]
def xCntM : List (Nat × Nat) := [(0, 0), (3, 1), (22, 2), (34, 3), (19, 4), (38, 5)]
def nup (n : Nat → Nat) (i k : Nat) : Nat → Nat := fun q => if q = i then k else n q
theorem nup_ap (n : Nat → Nat) (i k q : Nat) : nup n i k q = if q = i then k else n q := rfl
def RX (n : Nat → Nat) (σ M : xM) : Prop := (∀ c ∈ xArr, M c = σ c) ∧ (∀ q ∈ xScal, M q.1 q.2 = σ q.1 q.2) ∧ (∀ q ∈ xCnt, M q.1 q.2.1 = nI (n q.2.2))
def RMh (n : Nat → Nat) (σ M : xM) : Prop := ∀ j, j < n 1 → M 54 j = σ 11 j
def RMr (σ M : xM) : Prop := ∀ j, j < 6 → M 62 j = σ 27 j
def RMg (σ M : xM) : Prop := ∀ g, g < 4 → (M 71 g = σ 35 g ∧ M 72 g = σ 36 g) ∨ (σ 35 g = 0 ∧ σ 36 g = -1 ∧ M 71 g = 18 ∧ M 72 g = -1)
def RM (n : Nat → Nat) (σ M : xM) : Prop := (∀ q ∈ xArrM, M q.1 = σ q.2) ∧ (∀ q ∈ xScalM, M q.1 q.2.1 = σ q.2.2.1 q.2.2.2) ∧ (∀ q ∈ xCntM, M 46 q.1 = nI (n q.2)) ∧ RMh n σ M ∧ RMr σ M ∧ RMg σ M
def frX (M M' : xM) : Prop := ∀ q, 46 ≤ q → M' q = M q
def frM (M M' : xM) : Prop := ∀ q, q < 46 → M' q = M q
theorem frX.rf {M : xM} : frX M M := fun _ _ => rfl
theorem frM.rf {M : xM} : frM M M := fun _ _ => rfl
theorem frX.tr {M M1 M2 : xM} (h : frX M M1) (h2 : frX M1 M2) : frX M M2 := fun q hq => (h2 q hq).trans (h q hq)
theorem frM.tr {M M1 M2 : xM} (h : frM M M1) (h2 : frM M1 M2) : frM M M2 := fun q hq => (h2 q hq).trans (h q hq)
theorem frX.w {M M1 : xM} (h : frX M M1) {c : Nat} (hc : c < 46) (f : Nat → Int32) : frX M (xw M1 c f) := fun q hq => by
  rw [xw_ap, if_neg (by omega)]; exact h q hq
theorem frM.w {M M1 : xM} (h : frM M M1) {c : Nat} (hc : 46 ≤ c) (f : Nat → Int32) : frM M (xw M1 c f) := fun q hq => by
  rw [xw_ap, if_neg (by omega)]; exact h q hq
theorem RX.fr {n : Nat → Nat} {σ M M' : xM} (h : RX n σ M) (f : frM M M') : RX n σ M' := by
  have a : ∀ c ∈ xArr, c < 46 := by decide
  have b : ∀ q ∈ xScal, q.1 < 46 := by decide
  have c : ∀ q ∈ xCnt, q.1 < 46 := by decide
  exact ⟨fun q hq => by rw [f q (a q hq)]; exact h.1 q hq, fun q hq => by rw [f q.1 (b q hq)]; exact h.2.1 q hq, fun q hq => by rw [f q.1 (c q hq)]; exact h.2.2 q hq⟩
theorem RM.fr {n : Nat → Nat} {σ M M' : xM} (h : RM n σ M) (f : frX M M') : RM n σ M' := by
  have a : ∀ q ∈ xArrM, 46 ≤ q.1 := by decide
  have b : ∀ q ∈ xScalM, 46 ≤ q.1 := by decide
  obtain ⟨h1, h2, h3, h4, h5, h6⟩ := h
  refine ⟨fun q hq => by rw [f q.1 (a q hq)]; exact h1 q hq, fun q hq => by rw [f q.1 (b q hq)]; exact h2 q hq, fun q hq => by rw [f 46 (by omega)]; exact h3 q hq, ?_, ?_, ?_⟩
  · intro j hj; rw [f 54 (by omega)]; exact h4 j hj
  · intro j hj; rw [f 62 (by omega)]; exact h5 j hj
  · intro g hg; rw [f 71 (by omega), f 72 (by omega)]; exact h6 g hg
theorem RX.arr {n : Nat → Nat} {σ M : xM} (h : RX n σ M) {c : Nat} (hc : c ∉ xObj) (f : Nat → Int32) : RX n (xw σ c f) (xw M c f) := by
  have b : ∀ q ∈ xScal, q.1 ∈ xObj := by decide
  have d : ∀ q ∈ xCnt, q.1 ∈ xObj := by decide
  refine ⟨fun q hq => ?_, fun q hq => ?_, fun q hq => ?_⟩
  · rw [xw_ap, xw_ap]; split
    · rfl
    · exact h.1 q hq
  · have : q.1 ≠ c := fun e => hc (e ▸ b q hq)
    rw [xw_ap, xw_ap, if_neg this, if_neg this]; exact h.2.1 q hq
  · have : q.1 ≠ c := fun e => hc (e ▸ d q hq)
    rw [xw_ap, if_neg this]; exact h.2.2 q hq
theorem RX.scal {n : Nat → Nat} {σ M : xM} (h : RX n σ M) {o j : Nat} (ho : o ∈ xObj) (hj : ∀ q ∈ xCnt, ¬ (q.1 = o ∧ q.2.1 = j)) (v : Int32) : RX n (xw σ o (upd (σ o) j v)) (xw M o (upd (M o) j v)) := by
  have b : ∀ q ∈ xArr, q ∉ xObj := by decide
  refine ⟨fun q hq => ?_, fun q hq => ?_, fun q hq => ?_⟩
  · have : q ≠ o := fun e => b q hq (e ▸ ho)
    rw [xw_ap, xw_ap, if_neg this, if_neg this]; exact h.1 q hq
  · rw [xw_ap, xw_ap]; split
    · rename_i e
      rw [upd_ap, upd_ap]; split
      · rfl
      · rw [← e]; exact h.2.1 q hq
    · exact h.2.1 q hq
  · rw [xw_ap]; split
    · rename_i e
      rw [upd_ap, if_neg (fun e2 => hj q hq ⟨e, e2⟩), ← e]; exact h.2.2 q hq
    · exact h.2.2 q hq
theorem RX.cnt {n : Nat → Nat} {σ M : xM} (h : RX n σ M) {o j i : Nat} (ho : (o, j, i) ∈ xCnt) (k : Nat) : RX (nup n i k) σ (xw M o (upd (M o) j (nI k))) := by
  have a : ∀ c ∈ xArr, ∀ q ∈ xCnt, c ≠ q.1 := by decide
  have b : ∀ q ∈ xScal, ∀ r ∈ xCnt, ¬ (q.1 = r.1 ∧ q.2 = r.2.1) := by decide
  have d : ∀ q ∈ xCnt, ∀ r ∈ xCnt, (q.1 = r.1 ∧ q.2.1 = r.2.1) ↔ q.2.2 = r.2.2 := by decide
  refine ⟨fun q hq => ?_, fun q hq => ?_, fun q hq => ?_⟩
  · rw [xw_ap, if_neg (a q hq _ ho)]; exact h.1 q hq
  · rw [xw_ap]; split
    · rename_i e
      rw [upd_ap, if_neg (fun e2 => b q hq _ ho ⟨e, e2⟩), ← e]; exact h.2.1 q hq
    · exact h.2.1 q hq
  · have d' := d q hq _ ho
    rw [nup_ap, xw_ap]; split
    · rename_i e
      rw [upd_ap]; split
      · rename_i e2
        rw [if_pos (d'.mp ⟨e, e2⟩)]
      · rename_i e2
        rw [if_neg (fun z => e2 (d'.mpr z).2), ← e]; exact h.2.2 q hq
    · rename_i e
      rw [if_neg (fun z => e (d'.mpr z).1)]; exact h.2.2 q hq
/-- cells that hold nothing of the state -/
theorem RX.scr {n : Nat → Nat} {σ M : xM} (h : RX n σ M) {c : Nat} (hc : c ∉ xArr ∧ c ∉ xObj) (f : Nat → Int32) : RX n σ (xw M c f) := by
  have b : ∀ q ∈ xScal, q.1 ∈ xObj := by decide
  have d : ∀ q ∈ xCnt, q.1 ∈ xObj := by decide
  refine ⟨fun q hq => ?_, fun q hq => ?_, fun q hq => ?_⟩
  · have e : q ≠ c := fun e => hc.1 (e ▸ hq)
    rw [xw_ap, if_neg e]; exact h.1 q hq
  · have e : q.1 ≠ c := fun e => hc.2 (e ▸ b q hq)
    rw [xw_ap, if_neg e]; exact h.2.1 q hq
  · have e : q.1 ≠ c := fun e => hc.2 (e ▸ d q hq)
    rw [xw_ap, if_neg e]; exact h.2.2 q hq
theorem RX.scrF {n : Nat → Nat} {σ M : xM} (h : RX n σ M) {j : Nat} (hj : 2 ≤ j) (v : Int32) : RX n σ (xw M 13 (upd (M 13) j v)) := by
  have a : ∀ c ∈ xArr, c ≠ 13 := by decide
  have b : ∀ q ∈ xScal, q.1 = 13 → q.2 < 2 := by decide
  have d : ∀ q ∈ xCnt, q.1 ≠ 13 := by decide
  refine ⟨fun q hq => ?_, fun q hq => ?_, fun q hq => ?_⟩
  · rw [xw_ap, if_neg (a q hq)]; exact h.1 q hq
  · rw [xw_ap]; split
    · rename_i e
      rw [upd_ap, if_neg (fun e2 => by have := b q hq e; omega), ← e]; exact h.2.1 q hq
    · exact h.2.1 q hq
  · rw [xw_ap, if_neg (d q hq)]; exact h.2.2 q hq
/-- what the state keeps -/
def IvL (n : Nat → Nat) (σ : xM) : Prop := n 0 ≤ 30 ∧ n 1 ≤ 24 ∧ (∀ h, h < n 0 → 0 ≤ σ 3 h ∧ σ 3 h ≤ 5 ∧ 1 ≤ σ 4 h ∧ σ 4 h ≤ 8) ∧ (∀ p, p < n 1 → 1 ≤ σ 6 p ∧ σ 6 p ≤ 8 ∧ 0 ≤ σ 7 p ∧ σ 7 p ≤ σ 6 p ∧ 0 ≤ σ 8 p ∧ σ 8 p ≤ σ 9 p ∧ σ 9 p ≤ 9 ∧ -1 ≤ σ 10 p ∧ σ 10 p ≤ 9) ∧
  (∀ p, p < n 1 → σ 11 p = -1 ∨ ∃ h, h < n 0 ∧ σ 11 p = nI h) ∧ (∀ p, n 1 ≤ p → p < 24 → σ 11 p = -1) ∧ (∀ p, p < 24 → σ 12 (24 * p + p) = 2)
def IvK (n : Nat → Nat) (σ : xM) : Prop := n 4 ≤ 40 ∧ 0 ≤ σ 13 0 ∧ σ 13 0 ≤ 200 ∧ 0 ≤ σ 13 1 ∧ σ 13 1 ≤ 200 ∧ 0 ≤ σ 19 0 ∧ σ 19 0 ≤ 50
def IvS (n : Nat → Nat) (σ : xM) : Prop := n 2 ≤ 12 ∧ (∀ s, s < n 2 → -1 ≤ σ 25 s ∧ σ 25 s ≤ 5 ∧ 0 ≤ σ 22 s ∧ σ 22 s ≤ 39 ∧ -1 ≤ σ 26 s ∧ σ 26 s ≤ 5) ∧ (∀ h, h < 6 → 0 ≤ σ 27 h ∧ σ 27 h ≤ 500) ∧ σ 27 6 = 1000 ∧ (∀ p, p < 24 → ∃ w, w ≤ 6 ∧ σ 30 p = nI w ∧ ∀ k, k < w → ∃ s, s < n 2 ∧ σ 29 (6 * p + k) = nI s)
/-- how many of the first m places hold v -/
def xcnt (f : Nat → Int32) (v : Int32) : Nat → Nat
  | 0 => 0
  | m + 1 => if f m = v then xcnt f v m + 1 else xcnt f v m
def IvC (n : Nat → Nat) (σ : xM) : Prop := n 3 ≤ 40 ∧ (∀ c, c < n 3 → (∃ p, p < n 1 ∧ σ 33 c = nI p) ∧ 0 ≤ σ 34 c ∧ σ 34 c ≤ 17 ∧ (σ 32 c = -1 ∨ ∃ g, g < 4 ∧ σ 32 c = nI g ∧ σ 35 g ≤ σ 34 c ∧ σ 34 c ≤ σ 36 g)) ∧
  (∀ p, p < n 1 → nI (xcnt (σ 33) (nI p) (n 3)) ≤ σ 7 p) ∧ (∀ g, g < 4 → (σ 35 g = 0 ∧ σ 36 g = -1) ∨ (0 ≤ σ 35 g ∧ σ 35 g ≤ σ 36 g ∧ σ 36 g ≤ 17)) ∧ (∀ g k, g < 4 → k < 4 → g ≠ k → ¬ (σ 35 g ≤ σ 36 k ∧ σ 35 k ≤ σ 36 g) ∨ σ 36 g = -1 ∨ σ 36 k = -1)
def IvP (n : Nat → Nat) (σ : xM) : Prop := n 5 ≤ 30 ∧ (∀ k, k < n 5 → 0 ≤ σ 39 k ∧ 0 ≤ σ 41 k)
def IvW (σ : xM) : Prop := ∀ s, s < 4 → (-1 ≤ σ 43 s ∧ σ 43 s ≤ 2) ∧ ∃ m, m ≤ 60 ∧ σ 44 s = nI m
def Iv (n : Nat → Nat) (σ : xM) : Prop := IvL n σ ∧ IvK n σ ∧ IvS n σ ∧ IvC n σ ∧ IvP n σ ∧ IvW σ
/-- an operation: its answer, counts and contents behind it -/
abbrev xO : Type := Int32 × (Nat → Nat) × xM
def PX (o : xO) (M : xM) (v : Int32) (M' : xM) : Prop := v = o.1 ∧ RX o.2.1 o.2.2 M' ∧ frX M M'
def PM (o : xO) (M : xM) (v : Int32) (M' : xM) : Prop := v = o.1 ∧ RM o.2.1 o.2.2 M' ∧ frM M M'
theorem pxI {o : xO} {v : Int32} {n : Nat → Nat} {σ M M' : xM} (e : o = (v, n, σ)) (h : RX n σ M') (f : frX M M') : ∃ w, some (Value.int v) = some (.int w) ∧ PX o M w M' := ⟨v, rfl, by rw [e], by rw [e]; exact h, f⟩
theorem pmI {o : xO} {v : Int32} {n : Nat → Nat} {σ M M' : xM} (e : o = (v, n, σ)) (h : RM n σ M') (f : frM M M') : ∃ w, some (Value.int v) = some (.int w) ∧ PM o M w M' := ⟨v, rfl, by rw [e], by rw [e]; exact h, f⟩
theorem RM.arr {n : Nat → Nat} {σ M : xM} (h : RM n σ M) {a c : Nat} (ha : (a, c) ∈ xArrM) (f : Nat → Int32) : RM n (xw σ c f) (xw M a f) := by
  have i1 : ∀ q ∈ xArrM, ∀ r ∈ xArrM, q.1 = r.1 ↔ q.2 = r.2 := by decide
  have i2 : ∀ q ∈ xScalM, ∀ r ∈ xArrM, q.1 ≠ r.1 ∧ q.2.2.1 ≠ r.2 := by decide
  have i3 : ∀ r ∈ xArrM, r.1 ≠ 46 ∧ r.1 ≠ 54 ∧ r.1 ≠ 62 ∧ r.1 ≠ 71 ∧ r.1 ≠ 72 ∧ r.2 ≠ 11 ∧ r.2 ≠ 27 ∧ r.2 ≠ 35 ∧ r.2 ≠ 36 := by decide
  obtain ⟨h1, h2, h3, h4, h5, h6⟩ := h
  obtain ⟨d1, d2, d3, d4, d5, d6, d7, d8, d9⟩ := i3 _ ha
  dsimp only at d1 d2 d3 d4 d5 d6 d7 d8 d9
  refine ⟨fun q hq => ?_, fun q hq => ?_, fun q hq => ?_, ?_, ?_, ?_⟩
  · have i := i1 q hq _ ha
    rw [xw_ap, xw_ap]
    by_cases e : q.1 = a
    · rw [if_pos e, if_pos (i.mp e)]
    · rw [if_neg e, if_neg (fun z => e (i.mpr z))]; exact h1 q hq
  · have i := i2 q hq _ ha
    rw [xw_ap, xw_ap, if_neg i.1, if_neg i.2]; exact h2 q hq
  · rw [xw_ap, if_neg (Ne.symm d1)]; exact h3 q hq
  · intro j hj; rw [xw_ap, xw_ap, if_neg (Ne.symm d2), if_neg (Ne.symm d6)]; exact h4 j hj
  · intro j hj; rw [xw_ap, xw_ap, if_neg (Ne.symm d3), if_neg (Ne.symm d7)]; exact h5 j hj
  · intro g hg; rw [xw_ap, xw_ap, xw_ap, xw_ap, if_neg (Ne.symm d4), if_neg (Ne.symm d8), if_neg (Ne.symm d5), if_neg (Ne.symm d9)]; exact h6 g hg
theorem RM.scal {n : Nat → Nat} {σ M : xM} (h : RM n σ M) {a i o j : Nat} (ha : (a, i, o, j) ∈ xScalM) (v : Int32) : RM n (xw σ o (upd (σ o) j v)) (xw M a (upd (M a) i v)) := by
  have i1 : ∀ q ∈ xArrM, ∀ r ∈ xScalM, q.1 ≠ r.1 ∧ q.2 ≠ r.2.2.1 := by decide
  have i2 : ∀ q ∈ xScalM, ∀ r ∈ xScalM, (q.1 = r.1 ∧ q.2.1 = r.2.1) ↔ (q.2.2.1 = r.2.2.1 ∧ q.2.2.2 = r.2.2.2) := by decide
  have i3 : ∀ r ∈ xScalM, r.1 ≠ 54 ∧ r.1 ≠ 62 ∧ r.1 ≠ 71 ∧ r.1 ≠ 72 ∧ r.2.2.1 ≠ 11 ∧ r.2.2.1 ≠ 27 ∧ r.2.2.1 ≠ 35 ∧ r.2.2.1 ≠ 36 := by decide
  have i4 : ∀ q ∈ xCntM, ∀ r ∈ xScalM, ¬ (46 = r.1 ∧ q.1 = r.2.1) := by decide
  obtain ⟨h1, h2, h3, h4, h5, h6⟩ := h
  obtain ⟨d2, d3, d4, d5, d6, d7, d8, d9⟩ := i3 _ ha
  dsimp only at d2 d3 d4 d5 d6 d7 d8 d9
  refine ⟨fun q hq => ?_, fun q hq => ?_, fun q hq => ?_, ?_, ?_, ?_⟩
  · have i := i1 q hq _ ha
    rw [xw_ap, xw_ap, if_neg i.1, if_neg i.2]; exact h1 q hq
  · have i := i2 q hq _ ha
    have h2' := h2 q hq
    simp only [xw_ap, upd_ap] at i ⊢
    grind [upd_ap]
  · have i := i4 q hq _ ha
    have h3' := h3 q hq
    simp only [xw_ap] at i ⊢
    grind [upd_ap]
  · intro j hj; rw [xw_ap, xw_ap, if_neg (Ne.symm d2), if_neg (Ne.symm d6)]; exact h4 j hj
  · intro j hj; rw [xw_ap, xw_ap, if_neg (Ne.symm d3), if_neg (Ne.symm d7)]; exact h5 j hj
  · intro g hg; rw [xw_ap, xw_ap, xw_ap, xw_ap, if_neg (Ne.symm d4), if_neg (Ne.symm d8), if_neg (Ne.symm d5), if_neg (Ne.symm d9)]; exact h6 g hg
theorem RM.cnt {n : Nat → Nat} {σ M : xM} (h : RM n σ M) {j i : Nat} (ho : (j, i) ∈ xCntM) (k : Nat) (hh : i = 1 → k = n 1 ∨ (k = n 1 + 1 ∧ M 54 (n 1) = σ 11 (n 1))) : RM (nup n i k) σ (xw M 46 (upd (M 46) j (nI k))) := by
  have i1 : ∀ q ∈ xArrM, q.1 ≠ 46 := by decide
  have i2 : ∀ q ∈ xScalM, ∀ r ∈ xCntM, ¬ (q.1 = 46 ∧ q.2.1 = r.1) := by decide
  have i4 : ∀ q ∈ xCntM, ∀ r ∈ xCntM, q.1 = r.1 ↔ q.2 = r.2 := by decide
  obtain ⟨h1, h2, h3, h4, h5, h6⟩ := h
  refine ⟨fun q hq => ?_, fun q hq => ?_, fun q hq => ?_, ?_, ?_, ?_⟩
  · rw [xw_ap, if_neg (i1 q hq)]; exact h1 q hq
  · have i := i2 q hq _ ho
    have h2' := h2 q hq
    rw [xw_ap]
    grind [upd_ap]
  · have i := i4 q hq _ ho
    have h3' := h3 q hq
    rw [xw_ap, if_pos rfl, upd_ap, nup_ap]
    grind
  · intro p hp
    rw [xw_ap, if_neg (by decide)]
    rw [nup_ap] at hp
    by_cases e : i = 1
    · rcases hh e with q | ⟨q, q2⟩
      · exact h4 p (by rw [if_pos e.symm] at hp; omega)
      · rw [if_pos e.symm] at hp
        by_cases e2 : p = n 1
        · rw [e2]; exact q2
        · exact h4 p (by omega)
    · rw [if_neg (fun z => e z.symm)] at hp
      exact h4 p hp
  · intro j hj; rw [xw_ap, if_neg (by decide)]; exact h5 j hj
  · intro g hg; rw [xw_ap, xw_ap, if_neg (by decide), if_neg (by decide)]; exact h6 g hg
