/-! THE GROWING WORLD: cells while they are made, as a list of contents in the order in which they are made -/
abbrev gX : Type := (Bool × Nat × (Nat → Int32)) ⊕ (Nat × List Value)
def gcell (ad : Nat → Nat) (cI cZ : ClassId) : gX → va_E
  | .inl (z, n, f) => .inl (if z = true then cZ else cI, n, .inl f)
  | .inr (ci, fs) => .inr (ci, fs.map (xcv ad))
def gws (w : List gX) (ad : Nat → Nat) (cI cZ : ClassId) : va_W := w.mapIdx (fun k x => (ad k, gcell ad cI cZ x))
theorem gws_at {w : List gX} {ad : Nat → Nat} {cI cZ : ClassId} {k : Nat} {x : gX} (h : w[k]? = some x) : (gws w ad cI cZ)[k]? = some (ad k, gcell ad cI cZ x) := by
  simp [gws, h]
theorem gws_set {w : List gX} {ad : Nat → Nat} {cI cZ : ClassId} {k : Nat} (x : gX) : (gws w ad cI cZ).set k (ad k, gcell ad cI cZ x) = gws (w.set k x) ad cI cZ := by
  apply List.ext_getElem?
  intro i
  simp only [gws, List.getElem?_set, List.getElem?_mapIdx, List.length_mapIdx]
  by_cases hi : k = i
  · subst hi
    by_cases hl : k < w.length
    · simp [hl]
    · simp [hl]
  · simp only [if_neg hi]
/-- a cell's references, and a value's, are below n -/
def gvok (n : Nat) : Value → Bool
  | .ref q => Nat.blt q n
  | _ => true
def gxok (n : Nat) : gX → Bool
  | .inl _ => true
  | .inr (_, fs) => fs.all (gvok n)
def gup (ad : Nat → Nat) (n q : Nat) : Nat → Nat := fun k => if k = n then q else ad k
theorem gvok_cv {ad : Nat → Nat} {n q : Nat} {v : Value} (h : gvok n v = true) : xcv (gup ad n q) v = xcv ad v := by
  cases v with
  | ref k =>
    have : k < n := by simpa [gvok, Nat.blt_eq] using h
    show Value.ref (if k = n then q else ad k) = Value.ref (ad k)
    rw [if_neg (Nat.ne_of_lt this)]
  | _ => rfl
theorem gxok_cell {ad : Nat → Nat} {n q : Nat} {cI cZ : ClassId} {x : gX} (h : gxok n x = true) : gcell (gup ad n q) cI cZ x = gcell ad cI cZ x := by
  cases x with
  | inl a => rfl
  | inr o =>
    obtain ⟨ci, fs⟩ := o
    simp only [gcell]
    congr 2
    apply List.map_congr_left
    intro v hv
    exact gvok_cv (List.all_eq_true.mp h v hv)
theorem gws_push {w : List gX} {ad : Nat → Nat} {cI cZ : ClassId} {q : Nat} (x : gX) (h : w.all (gxok w.length) = true) (hx : gxok w.length x = true) :
    gws (w ++ [x]) (gup ad w.length q) cI cZ = gws w ad cI cZ ++ [(q, gcell ad cI cZ x)] := by
  apply List.ext_getElem?
  intro i
  simp only [gws, List.getElem?_mapIdx]
  rcases Nat.lt_trichotomy i w.length with hi | hi | hi
  · rw [List.getElem?_append_left hi, List.getElem?_append_left (by simpa using hi), List.getElem?_mapIdx, List.getElem?_eq_getElem hi]
    simp only [Option.map_some]
    rw [gxok_cell (List.all_eq_true.mp h _ (List.getElem_mem hi))]
    congr 2
    simp only [gup]
    rw [if_neg (by omega)]
  · subst hi
    simp only [List.getElem?_append_right (Nat.le_refl _), Nat.sub_self, List.length_mapIdx, List.getElem?_cons_zero, Option.map_some, gup, ↓reduceIte]
    rw [gxok_cell hx, List.getElem?_append_right (by simp)]
    simp
  · rw [List.getElem?_eq_none (by simp; omega), List.getElem?_eq_none (by simp; omega)]
    rfl
