abbrev xM : Type := Nat → Nat → Int32
abbrev xL : Type := List (Option Value)
abbrev xK : Type := MethodName × ByteArray × Nat × Option FieldType × Nat × Nat
abbrev xS : Type := (Bool × Nat) ⊕ (Nat × List (Option Nat))
/-- a cell's contents anew -/
def xw (M : xM) (k : Nat) (f : Nat → Int32) : xM := fun q => if q = k then f else M q
theorem xw_s (M : xM) (k : Nat) (f : Nat → Int32) : xw M k f k = f := by simp [xw]
theorem xw_n {M : xM} {k q : Nat} {f : Nat → Int32} (h : q ≠ k) : xw M k f q = M q := by simp [xw, h]
def xcv (ad : Nat → Nat) : Value → Value
  | .ref q => .ref (ad q)
  | v => v
def xfs (ad : Nat → Nat) (f : Nat → Int32) : Nat → List (Option Nat) → List Value
  | _, [] => []
  | j, none :: r => .int (f j) :: xfs ad f (j + 1) r
  | j, some q :: r => .ref (ad q) :: xfs ad f (j + 1) r
def xcell (ad : Nat → Nat) (cI cZ : ClassId) (f : Nat → Int32) : xS → va_E
  | .inl (b, n) => .inl (if b = true then cZ else cI, n, .inl f)
  | .inr (ci, fs) => .inr (ci, xfs ad f 0 fs)
def xws (sh : List xS) (ad : Nat → Nat) (cI cZ : ClassId) (M : xM) : va_W := sh.mapIdx (fun k x => (ad k, xcell ad cI cZ (M k) x))
theorem xws_at {sh : List xS} {ad : Nat → Nat} {cI cZ : ClassId} {M : xM} {k : Nat} {x : xS} (h : sh[k]? = some x) : (xws sh ad cI cZ M)[k]? = some (ad k, xcell ad cI cZ (M k) x) := by
  simp [xws, h]
theorem xws_set {sh : List xS} {ad : Nat → Nat} {cI cZ : ClassId} {M : xM} {k : Nat} {x : xS} (h : sh[k]? = some x) (f : Nat → Int32) : (xws sh ad cI cZ M).set k (ad k, xcell ad cI cZ f x) = xws sh ad cI cZ (xw M k f) := by
  apply List.ext_getElem?
  intro i
  simp only [xws, List.getElem?_set, List.getElem?_mapIdx, List.length_mapIdx]
  by_cases hi : k = i
  · subst hi
    obtain ⟨hl, e⟩ := List.getElem?_eq_some_iff.mp h
    simp [hl, xw_s, e]
  · simp only [if_neg hi, xw_n (Ne.symm hi)]
theorem xfs_int {ad : Nat → Nat} {f : Nat → Int32} : ∀ {fs : List (Option Nat)} {i : Nat} (j : Nat), fs[i]? = some none → (xfs ad f j fs)[i]? = some (.int (f (j + i)))
  | [], i, j, h => by simp at h
  | none :: r, 0, j, h => by simp [xfs]
  | some q :: r, 0, j, h => by simp at h
  | none :: r, i + 1, j, h => by
    have := xfs_int (ad := ad) (f := f) (fs := r) (i := i) (j + 1) (by simpa using h)
    simp only [xfs, List.getElem?_cons_succ, this]
    congr 3; omega
  | some q :: r, i + 1, j, h => by
    have := xfs_int (ad := ad) (f := f) (fs := r) (i := i) (j + 1) (by simpa using h)
    simp only [xfs, List.getElem?_cons_succ, this]
    congr 3; omega
theorem xfs_ref {ad : Nat → Nat} {f : Nat → Int32} : ∀ {fs : List (Option Nat)} {i q : Nat} (j : Nat), fs[i]? = some (some q) → (xfs ad f j fs)[i]? = some (.ref (ad q))
  | [], i, q, j, h => by simp at h
  | none :: r, 0, q, j, h => by simp at h
  | some q' :: r, 0, q, j, h => by simp at h; simp [xfs, h]
  | none :: r, i + 1, q, j, h => by
    have := xfs_ref (ad := ad) (f := f) (fs := r) (i := i) (q := q) (j + 1) (by simpa using h)
    simpa only [xfs, List.getElem?_cons_succ] using this
  | some q' :: r, i + 1, q, j, h => by
    have := xfs_ref (ad := ad) (f := f) (fs := r) (i := i) (q := q) (j + 1) (by simpa using h)
    simpa only [xfs, List.getElem?_cons_succ] using this
theorem xfs_len {ad : Nat → Nat} {f : Nat → Int32} : ∀ (fs : List (Option Nat)) (j : Nat), (xfs ad f j fs).length = fs.length
  | [], j => rfl
  | none :: r, j => by simp [xfs, xfs_len r]
  | some q :: r, j => by simp [xfs, xfs_len r]
theorem xfs_low {ad : Nat → Nat} {f : Nat → Int32} {v : Int32} {p : Nat} : ∀ (fs : List (Option Nat)) (j : Nat), p < j → xfs ad (upd f p v) j fs = xfs ad f j fs
  | [], j, _ => rfl
  | none :: r, j, h => by
    rw [xfs, xfs, xfs_low (ad := ad) (f := f) (v := v) (p := p) r (j + 1) (by omega), upd, if_neg (show ¬ j = p by omega)]
  | some q :: r, j, h => by rw [xfs, xfs, xfs_low (ad := ad) (f := f) (v := v) (p := p) r (j + 1) (by omega)]
theorem xfs_set {ad : Nat → Nat} {f : Nat → Int32} {v : Int32} : ∀ {fs : List (Option Nat)} {i : Nat} (j : Nat), fs[i]? = some none → (xfs ad f j fs).set i (.int v) = xfs ad (upd f (j + i) v) j fs
  | [], i, j, h => by simp at h
  | none :: r, 0, j, h => by
    simp only [xfs, List.set_cons_zero, Nat.add_zero, xfs_low r (j + 1) (Nat.lt_succ_self j), upd, if_true]
  | some q :: r, 0, j, h => by simp at h
  | none :: r, i + 1, j, h => by
    have := xfs_set (ad := ad) (f := f) (v := v) (fs := r) (i := i) (j + 1) (by simpa using h)
    simp only [xfs, List.set_cons_succ, this, upd, if_neg (show ¬ j = j + (i + 1) by omega)]
    congr 3; omega
  | some q :: r, i + 1, j, h => by
    have := xfs_set (ad := ad) (f := f) (v := v) (fs := r) (i := i) (j + 1) (by simpa using h)
    simp only [xfs, List.set_cons_succ, this]
    rw [show j + 1 + i = j + (i + 1) by omega]
/-- locals: what the machine's slots hold -/
def xLr (ad : Nat → Nat) (n : Nat) (ls : Array Slot) (L : xL) : Prop := ls.size = n ∧ L.length = n ∧ lv_wf ls ∧ ∀ (i : Nat) (v : Value), L[i]? = some (some v) → ls[i]? = some (.val (xcv ad v))
theorem xLr.at {ad : Nat → Nat} {n : Nat} {ls : Array Slot} {L : xL} (h : xLr ad n ls L) {i : Nat} {v : Value} (hv : L[i]? = some (some v)) : ls[i]? = some (.val (xcv ad v)) := h.2.2.2 i v hv
def xlv (ad : Nat → Nat) (L : xL) : List (Nat × Value) := (L.zipIdx).filterMap (fun q => q.1.map (fun v => (q.2, xcv ad v)))
theorem xlv_mem {ad : Nat → Nat} {L : xL} {q : Nat × Value} : q ∈ xlv ad L ↔ ∃ v, L[q.1]? = some (some v) ∧ q.2 = xcv ad v := by
  obtain ⟨i, w⟩ := q
  simp only [xlv, List.mem_filterMap, Option.map_eq_some_iff, Prod.mk.injEq, Prod.exists, List.mem_zipIdx_iff_getElem?]
  constructor
  · rintro ⟨a, b, h1, v, h2, h3, h4⟩
    subst h3; subst h4; subst h2
    exact ⟨v, h1, rfl⟩
  · rintro ⟨v, h1, h2⟩
    exact ⟨some v, i, h1, v, rfl, rfl, h2.symm⟩
theorem xLr.has {ad : Nat → Nat} {n : Nat} {ls : Array Slot} {L : xL} (h : xLr ad n ls L) : lv_has ls n (xlv ad L) := by
  refine ⟨h.1, h.2.2.1, fun q hq => ?_⟩
  obtain ⟨v, h1, h2⟩ := xlv_mem.mp hq
  rw [h2]
  exact h.2.2.2 _ _ h1
def xok (L : xL) (i : Nat) : Bool := match i with
  | 0 => true
  | j + 1 => match L[j]? with
    | some (some (.long _)) => false
    | some (some (.double _)) => false
    | _ => true
theorem xcv_cat (ad : Nat → Nat) (v : Value) : (xcv ad v).category = v.category := by cases v <;> rfl
theorem xok_cat {L : xL} {i j : Nat} {v : Value} (h : xok L i = true) (hj : j + 1 = i) (hv : L[j]? = some (some v)) : v.category = 1 := by
  subst hj
  simp only [xok, hv] at h
  cases v <;> first | rfl | simp at h
theorem xLr.store1 {ad : Nat → Nat} {n : Nat} {ls ls' : Array Slot} {L : xL} (h : xLr ad n ls L) {i : Nat} {v w : Value} (hw : w = xcv ad v) (hok : xok L i = true)
    (h' : lv_has ls' n ((i, w) :: (xlv ad L).filter (fun q => !(q.1 == i) && !(q.1 + 1 == i && q.2.category == 2)))) : xLr ad n ls' (L.set i (some v)) := by
  subst hw
  refine ⟨h'.1, by rw [List.length_set]; exact h.2.1, h'.2.1, fun j u hj => ?_⟩
  rw [List.getElem?_set] at hj
  by_cases hij : i = j
  · subst hij
    rw [if_pos rfl] at hj
    split at hj
    · cases hj
      exact h'.2.2 (i, xcv ad v) List.mem_cons_self
    · cases hj
  · rw [if_neg hij] at hj
    refine h'.2.2 (j, xcv ad u) (List.mem_cons_of_mem _ (List.mem_filter.mpr ⟨xlv_mem.mpr ⟨u, hj, rfl⟩, ?_⟩))
    have h1 : (j == i) = false := by simp; omega
    simp only [h1, Bool.not_false, Bool.true_and, Bool.not_eq_true', Bool.and_eq_false_iff, beq_eq_false_iff_ne]
    by_cases h2 : j + 1 = i
    · right
      rw [xcv_cat, xok_cat hok h2 hj]
      decide
    · left
      exact h2
theorem xLr.store2 {ad : Nat → Nat} {n : Nat} {ls ls' : Array Slot} {L : xL} (h : xLr ad n ls L) {i : Nat} {v w : Value} (hw : w = xcv ad v) (hok : xok L i = true)
    (h' : lv_has ls' n ((i, w) :: (xlv ad L).filter (fun q => !(q.1 == i) && (!(q.1 == i + 1) && !(q.1 + 1 == i && q.2.category == 2))))) : xLr ad n ls' ((L.set (i + 1) none).set i (some v)) := by
  subst hw
  refine ⟨h'.1, by rw [List.length_set, List.length_set]; exact h.2.1, h'.2.1, fun j u hj => ?_⟩
  rw [List.getElem?_set, List.getElem?_set, List.length_set] at hj
  by_cases hij : i = j
  · subst hij
    rw [if_pos rfl] at hj
    split at hj
    · cases hj
      exact h'.2.2 (i, xcv ad v) List.mem_cons_self
    · cases hj
  · rw [if_neg hij] at hj
    by_cases hij2 : i + 1 = j
    · subst hij2
      rw [if_pos rfl] at hj
      split at hj <;> cases hj
    · rw [if_neg hij2] at hj
      refine h'.2.2 (j, xcv ad u) (List.mem_cons_of_mem _ (List.mem_filter.mpr ⟨xlv_mem.mpr ⟨u, hj, rfl⟩, ?_⟩))
      have h1 : (j == i) = false := by simp; omega
      have h3 : (j == i + 1) = false := by simp; omega
      simp only [h1, h3, Bool.not_false, Bool.true_and, Bool.not_eq_true', Bool.and_eq_false_iff, beq_eq_false_iff_ne]
      by_cases h2 : j + 1 = i
      · right
        rw [xcv_cat, xok_cat hok h2 hj]
        decide
      · left
        exact h2
/-- a method's locals at its entry -/
def xargs : Nat → List Value → xL
  | n, [] => List.replicate n none
  | n, .long x :: vs => some (.long x) :: none :: xargs (n - 2) vs
  | n, v :: vs => some v :: xargs (n - 1) vs
theorem xargs_at {ad : Nat → Nat} : ∀ (vs : List Value) (n b i : Nat) (v : Value), (∀ u ∈ vs, ∀ z, u ≠ .double z) → (xargs n vs)[i]? = some (some v) → (b + i, xcv ad v) ∈ lv_args b (vs.map (xcv ad))
  | [], n, b, i, v, hd, h => by
    simp only [xargs, List.getElem?_replicate] at h
    split at h <;> cases h
  | u :: vs, n, b, i, v, hd, h => by
    have hd' : ∀ u ∈ vs, ∀ z, u ≠ .double z := fun u hu => hd u (List.mem_cons_of_mem _ hu)
    simp only [List.map_cons, lv_args, xcv_cat]
    cases u with
    | long x =>
      simp only [xargs] at h
      match i, h with
      | 0, h => simp at h; subst h; exact List.mem_cons_self
      | 1, h => simp at h
      | i + 2, h =>
        have := xargs_at (ad := ad) vs (n - 2) (b + 2) i v hd' (by simpa using h)
        refine List.mem_cons_of_mem _ ?_
        rw [show b + (i + 2) = b + 2 + i by omega]
        exact this
    | double z => exact absurd rfl (hd _ List.mem_cons_self z)
    | int x =>
      simp only [xargs] at h
      match i, h with
      | 0, h => simp at h; subst h; exact List.mem_cons_self
      | i + 1, h =>
        have := xargs_at (ad := ad) vs (n - 1) (b + 1) i v hd' (by simpa using h)
        refine List.mem_cons_of_mem _ ?_
        rw [show b + (i + 1) = b + 1 + i by omega]
        exact this
    | float x =>
      simp only [xargs] at h
      match i, h with
      | 0, h => simp at h; subst h; exact List.mem_cons_self
      | i + 1, h =>
        have := xargs_at (ad := ad) vs (n - 1) (b + 1) i v hd' (by simpa using h)
        refine List.mem_cons_of_mem _ ?_
        rw [show b + (i + 1) = b + 1 + i by omega]
        exact this
    | null =>
      simp only [xargs] at h
      match i, h with
      | 0, h => simp at h; subst h; exact List.mem_cons_self
      | i + 1, h =>
        have := xargs_at (ad := ad) vs (n - 1) (b + 1) i v hd' (by simpa using h)
        refine List.mem_cons_of_mem _ ?_
        rw [show b + (i + 1) = b + 1 + i by omega]
        exact this
    | ref x =>
      simp only [xargs] at h
      match i, h with
      | 0, h => simp at h; subst h; exact List.mem_cons_self
      | i + 1, h =>
        have := xargs_at (ad := ad) vs (n - 1) (b + 1) i v hd' (by simpa using h)
        refine List.mem_cons_of_mem _ ?_
        rw [show b + (i + 1) = b + 1 + i by omega]
        exact this
    | retAddr x =>
      simp only [xargs] at h
      match i, h with
      | 0, h => simp at h; subst h; exact List.mem_cons_self
      | i + 1, h =>
        have := xargs_at (ad := ad) vs (n - 1) (b + 1) i v hd' (by simpa using h)
        refine List.mem_cons_of_mem _ ?_
        rw [show b + (i + 1) = b + 1 + i by omega]
        exact this
def xsh : List xS := [
  /- 0 CampWeek -/ .inr (9, [some 1, some 13, some 19, some 21, some 31, some 38, some 42]),
  /- 1 CampWeek$Lodgings -/ .inr (3, [some 2, some 5, none]),
  /- 2 CampWeek$Huts -/ .inr (1, [some 3, some 4, none]),
  /- 3 CampWeek$Huts.rows -/ .inl (false, 30),
  /- 4 CampWeek$Huts.beds -/ .inl (false, 30),
  /- 5 CampWeek$Parties -/ .inr (4, [some 6, some 7, some 8, some 9, some 10, some 11, some 12, none]),
  /- 6 CampWeek$Parties.sizes -/ .inl (false, 24),
  /- 7 CampWeek$Parties.children -/ .inl (false, 24),
  /- 8 CampWeek$Parties.firstWeeks -/ .inl (false, 24),
  /- 9 CampWeek$Parties.lastWeeks -/ .inl (false, 24),
  /- 10 CampWeek$Parties.tables -/ .inl (false, 24),
  /- 11 CampWeek$Parties.hutOf -/ .inl (false, 24),
  /- 12 CampWeek$Parties.told -/ .inl (false, 576),
  /- 13 CampWeek$Sittings -/ .inr (8, [none, none, none, none, none, some 14, some 15, some 16, some 17, some 18]),
  /- 14 CampWeek$Sittings.benchOf -/ .inl (false, 24),
  /- 15 CampWeek$Sittings.benchOfTable -/ .inl (false, 10),
  /- 16 CampWeek$Sittings.benchSize -/ .inl (false, 24),
  /- 17 CampWeek$Sittings.benchSitting -/ .inl (false, 24),
  /- 18 CampWeek$Sittings.madeFrom -/ .inl (false, 193),
  /- 19 CampWeek$Kitchen -/ .inr (2, [none, none, some 20]),
  /- 20 CampWeek$Kitchen.book -/ .inl (false, 200),
  /- 21 CampWeek$Shows -/ .inr (7, [some 22, some 23, some 24, none, some 25, some 26, some 27, some 28, some 29, some 30]),
  /- 22 CampWeek$Shows.hours -/ .inl (false, 12),
  /- 23 CampWeek$Shows.chosen -/ .inl (false, 24),
  /- 24 CampWeek$Shows.turnedAway -/ .inl (false, 24),
  /- 25 CampWeek$Shows.halls -/ .inl (false, 12),
  /- 26 CampWeek$Shows.wetHalls -/ .inl (false, 12),
  /- 27 CampWeek$Shows.rooms -/ .inl (false, 7),
  /- 28 CampWeek$Shows.roomLeft -/ .inl (false, 7),
  /- 29 CampWeek$Shows.wishes -/ .inl (false, 144),
  /- 30 CampWeek$Shows.wishCounts -/ .inl (false, 24),
  /- 31 CampWeek$Groups -/ .inr (0, [some 32, none, some 33, some 34, some 35, some 36, some 37]),
  /- 32 CampWeek$Groups.groupOf -/ .inl (false, 40),
  /- 33 CampWeek$Groups.parties -/ .inl (false, 40),
  /- 34 CampWeek$Groups.ages -/ .inl (false, 40),
  /- 35 CampWeek$Groups.youngest -/ .inl (false, 4),
  /- 36 CampWeek$Groups.oldest -/ .inl (false, 4),
  /- 37 CampWeek$Groups.mosts -/ .inl (false, 4),
  /- 38 CampWeek$PaybackLists -/ .inr (5, [none, some 39, some 40, some 41]),
  /- 39 CampWeek$PaybackLists.days -/ .inl (false, 30),
  /- 40 CampWeek$PaybackLists.notices -/ .inl (false, 30),
  /- 41 CampWeek$PaybackLists.hundredths -/ .inl (false, 30),
  /- 42 CampWeek$Sheets -/ .inr (6, [none, some 43, some 44, some 45]),
  /- 43 CampWeek$Sheets.forms -/ .inl (false, 4),
  /- 44 CampWeek$Sheets.lengths -/ .inl (false, 4),
  /- 45 CampWeek$Sheets.items -/ .inl (false, 240),
  /- 46 CampWeekModel -/ .inr (10, [none, some 47, some 48, none, some 49, some 50, some 51, some 52, some 53, some 54, some 55, none, some 56, none, some 57, some 58, some 59, some 60, none, none, some 61, some 62, none, some 63, some 64, some 65, some 66, some 67, some 68, some 69, some 70, some 71, some 72, some 73, none, some 74, some 75, some 76, none, some 77, some 78, some 79, some 80, some 81, some 82, some 83, none]),
  /- 47 CampWeekModel.row -/ .inl (false, 30),
  /- 48 CampWeekModel.beds -/ .inl (false, 30),
  /- 49 CampWeekModel.size -/ .inl (false, 24),
  /- 50 CampWeekModel.young -/ .inl (false, 24),
  /- 51 CampWeekModel.first -/ .inl (false, 24),
  /- 52 CampWeekModel.last -/ .inl (false, 24),
  /- 53 CampWeekModel.table -/ .inl (false, 24),
  /- 54 CampWeekModel.hut -/ .inl (false, 24),
  /- 55 CampWeekModel.pair -/ .inl (false, 576),
  /- 56 CampWeekModel.seats -/ .inl (false, 2),
  /- 57 CampWeekModel.unitOf -/ .inl (false, 24),
  /- 58 CampWeekModel.people -/ .inl (false, 24),
  /- 59 CampWeekModel.can -/ .inl (true, 5000),
  /- 60 CampWeekModel.sitting -/ .inl (false, 24),
  /- 61 CampWeekModel.book -/ .inl (false, 200),
  /- 62 CampWeekModel.hallRoom -/ .inl (false, 7),
  /- 63 CampWeekModel.showHall -/ .inl (false, 12),
  /- 64 CampWeekModel.showHour -/ .inl (false, 12),
  /- 65 CampWeekModel.showWet -/ .inl (false, 12),
  /- 66 CampWeekModel.wishes -/ .inl (false, 24),
  /- 67 CampWeekModel.wish -/ .inl (false, 144),
  /- 68 CampWeekModel.left -/ .inl (false, 7),
  /- 69 CampWeekModel.going -/ .inl (false, 24),
  /- 70 CampWeekModel.away -/ .inl (false, 24),
  /- 71 CampWeekModel.ageFrom -/ .inl (false, 4),
  /- 72 CampWeekModel.ageTo -/ .inl (false, 4),
  /- 73 CampWeekModel.most -/ .inl (false, 4),
  /- 74 CampWeekModel.parent -/ .inl (false, 40),
  /- 75 CampWeekModel.age -/ .inl (false, 40),
  /- 76 CampWeekModel.inGroup -/ .inl (false, 40),
  /- 77 CampWeekModel.listDay -/ .inl (false, 30),
  /- 78 CampWeekModel.listNotice -/ .inl (false, 30),
  /- 79 CampWeekModel.listPays -/ .inl (false, 30),
  /- 80 CampWeekModel.forms -/ .inl (false, 4),
  /- 81 CampWeekModel.sizes -/ .inl (false, 4),
  /- 82 CampWeekModel.items -/ .inl (false, 240),
  /- 83 CampWeekModel.copied -/ .inl (false, 60)]
/-! words of the tables that move with a call; nest mates' links apart -/
def xTB : List Cond := lw_tbl.filter goodWord
theorem xTB_of {w : Cond} (h : w ∈ lw_tbl) (hg : goodWord w = true) : w ∈ xTB := List.mem_filter.mpr ⟨h, hg⟩
def xnestL : List (String × Nat × MethodName) := [(RX1, 22, yX9_within), (RX4, 43, yX9_within), (RX4, 47, yX9_isWeek), (RX3, 33, yX9_within), (RX3, 92, yX9_isWeek), (RX8, 45, yX9_within), (RX2, 22, yX9_within), (RX7, 45, yX9_within), (RX7, 49, yX9_isHour), (RX0, 40, yX9_within), (RX5, 25, yX9_within), (RX6, 31, yX9_within)]
def xNest (U : State) : Prop := ∀ q ∈ xnestL, va_Nw (.methodLinkNest q.1 q.2.1 q.2.2 "CampWeek") U
theorem xNest.warm {s U : State} (hW : s.WarmedH U.vm) (h : xNest s) : xNest U := fun q hq => va_Nw.warmM hW (h q hq)
theorem xNest.same {u U : State} (e : u.vm = U.vm) (h : xNest u) : xNest U := fun q hq => va_Nw.same rfl e (h q hq)
def xTs (k : xK) : List Cond := Cond.code k.1 k.2.1 k.2.2.1 k.2.2.2.1 :: xTB
def xrm (k : xK) : Room := { frames := k.2.2.2.2.1, cells := 0, slots := 0, locals := k.2.2.2.2.2 }
/-- a method of the tables -/
def xMeth (k : xK) : Prop := Cond.code k.1 k.2.1 k.2.2.1 k.2.2.2.1 ∈ lw_tbl ∧ plainName k.1.cls = true ∧ k.1.cls ≠ "java/lang/invoke/MethodHandle" ∧ k.1.cls ≠ "java/lang/invoke/VarHandle" ∧ Cond.initialized k.1.cls ∈ lw_tbl
theorem xTs_in {k : xK} (h : xMeth k) : ∀ w ∈ xTs k, w ∈ xTB := fun w hw => by
  rcases List.mem_cons.mp hw with rfl | hw
  · exact xTB_of h.1 rfl
  · exact hw
theorem xgood {k : xK} : ∀ w ∈ xTB, w ∈ xTs k ∧ ((w.onTables && w.keeps) = true ∨ ∃ ty, w = .arrayClass ty) := fun w hw =>
  ⟨List.mem_cons_of_mem _ hw, good_of_word (List.mem_filter.mp hw).2⟩
abbrev xtys (cI cZ : ClassId) : List (ClassId × FieldType) := [(cI, .int), (cZ, .boolean)]
def xCtx (k : xK) (D : va_G) (ad : Nat → Nat) (cI cZ : ClassId) (p : Program) (s : State) (m : MethodId) (args : Array Value) (meth : Method) (c : Code) (A : Nat → Prop) : Prop :=
  p.tables.exec = Jvm.exec ∧ c.code = k.2.1 ∧ c.maxLocals = k.2.2.1 ∧ s.vm.findClass k.1.cls = some m.cls ∧ (∀ w ∈ xTs k, w.before args s = true) ∧ meth.sig.returnType = k.2.2.2.1 ∧ meth.locks = false ∧ va_K D vwCl (xtys cI cZ) s ∧ (∀ M, va_D A (xws xsh ad cI cZ M)) ∧ (∀ q, s.heap.size ≤ q → A q) ∧ xNest s
theorem xws_D {sh : List xS} {ad : Nat → Nat} {cI cZ : ClassId} {A : Nat → Prop} {M : xM} (h : va_D A (xws sh ad cI cZ M)) (M' : xM) : va_D A (xws sh ad cI cZ M') := by
  have key : ∀ (M1 : xM) (i : Nat) (p : Nat × va_E), (xws sh ad cI cZ M1)[i]? = some p → p.1 = ad i ∧ ∃ p', (xws sh ad cI cZ M)[i]? = some p' ∧ p'.1 = ad i := by
    intro M1 i p hp
    simp only [xws, List.getElem?_mapIdx, Option.map_eq_some_iff] at hp ⊢
    obtain ⟨x, h1, h2⟩ := hp
    subst h2
    exact ⟨rfl, _, ⟨x, h1, rfl⟩, rfl⟩
  refine ⟨fun i j p q hp hq e => ?_, fun k q hq => ?_⟩
  · obtain ⟨e1, p', g1, e1'⟩ := key _ _ _ hp
    obtain ⟨e2, q', g2, e2'⟩ := key _ _ _ hq
    exact h.1 i j p' q' g1 g2 (by rw [e1', e2', ← e1, ← e2]; exact e)
  · obtain ⟨e1, p', g1, e1'⟩ := key _ _ _ hq
    rw [e1, ← e1']
    exact h.2 k p' g1
def xQ (D : va_G) (ad : Nat → Nat) (cI cZ : ClassId) (A : Nat → Prop) (Φ : Option Value → xM → Prop) : Array Value → State → Outcome → State → Prop := fun _ st oc t =>
  (∃ (r : Option Value) (M : xM), oc = .returned (r.map (xcv ad)) ∧ Φ r M ∧ va_P D vwCl (xws xsh ad cI cZ M) t.heap ∧ va_K D vwCl (xtys cI cZ) t) ∧ va_F A st t
/-- from here the method of k comes to its end, with an answer and contents of which Φ holds -/
def P (k : xK) (pc : Nat) (L : xL) (st : List Value) (M : xM) (Φ : Option Value → xM → Prop) : Prop :=
  ∀ (l : Launch) (D : va_G) (ad : Nat → Nat) (cI cZ : ClassId) (p : Program) (e : Env) (s : State) (m : MethodId) (args : Array Value) (below : List Frame) (meth : Method) (c : Code) (A : Nat → Prop) (H : Heap) (locs : List Loc) (ls : Array Slot),
    xCtx k D ad cI cZ p s m args meth c A → xLr ad k.2.2.1 ls L → va_P D vwCl (xws xsh ad cI cZ M) H → va_S A s.heap H locs →
    W p l e (xrm k) s m args below meth c H locs 0 0 (MQ below (xQ D ad cI cZ A Φ) args s 0 0 A) (F0 m pc ls (st.map (xcv ad)))
/-- a whole call -/
def Sp (k : xK) (vs : List Value) (M : xM) (Φ : Option Value → xM → Prop) : Prop := P k 0 (xargs k.2.2.1 vs) [] M Φ
def xB (D : va_G) (ad : Nat → Nat) (cI cZ : ClassId) (M : xM) (sz : Nat) : State → Prop := fun U => U.heap.size = sz ∧ va_P D vwCl (xws xsh ad cI cZ M) U.heap ∧ va_K D vwCl (xtys cI cZ) U ∧ xNest U ∧ va_D (fun _ => True) (xws xsh ad cI cZ M)
theorem xB_blind {D : va_G} {ad : Nat → Nat} {cI cZ : ClassId} {M : xM} {sz : Nat} {vs : List Value} : FrameBlind (va_Pc vs (xB D ad cI cZ M sz)) := by
  intro a U g mk q
  obtain ⟨q0, q1, qP, qK, qN, qD⟩ := q
  exact ⟨q0, q1, qP, va_K.moved (u := U) (U := U.calling g mk a) (Vm.Alike.refl U.vm) qK, xNest.same rfl qN, qD⟩
theorem xargs_len {ad : Nat → Nat} (vs : List Value) (n : Nat) (h : (lg_sl (vs.map (xcv ad))).length ≤ n) (hd : ∀ u ∈ vs, ∀ z, u ≠ .double z) : (xargs n vs).length = n := by
  induction vs generalizing n with
  | nil => simp [xargs]
  | cons v vs ih =>
    have hd' : ∀ u ∈ vs, ∀ z, u ≠ .double z := fun u hu => hd u (List.mem_cons_of_mem _ hu)
    have e : lg_sl ((v :: vs).map (xcv ad)) = (if v.category = 2 then [.val (xcv ad v), .second] else [.val (xcv ad v)]) ++ lg_sl (vs.map (xcv ad)) := by
      simp [lg_sl, xcv_cat]
    rw [e] at h
    cases v with
    | long x =>
      have h2 : (Value.long x).category = 2 := rfl
      rw [if_pos h2] at h
      simp only [List.length_append, List.length_cons, List.length_nil] at h
      simp only [xargs, List.length_cons, ih (n - 2) (by omega) hd']
      omega
    | double z => exact absurd rfl (hd _ List.mem_cons_self z)
    | int x =>
      rw [if_neg (by simp [Value.category])] at h
      simp only [List.length_append, List.length_cons, List.length_nil] at h
      simp only [xargs, List.length_cons, ih (n - 1) (by omega) hd']
      omega
    | float x =>
      rw [if_neg (by simp [Value.category])] at h
      simp only [List.length_append, List.length_cons, List.length_nil] at h
      simp only [xargs, List.length_cons, ih (n - 1) (by omega) hd']
      omega
    | null =>
      rw [if_neg (by simp [Value.category])] at h
      simp only [List.length_append, List.length_cons, List.length_nil] at h
      simp only [xargs, List.length_cons, ih (n - 1) (by omega) hd']
      omega
    | ref x =>
      rw [if_neg (by simp [Value.category])] at h
      simp only [List.length_append, List.length_cons, List.length_nil] at h
      simp only [xargs, List.length_cons, ih (n - 1) (by omega) hd']
      omega
    | retAddr x =>
      rw [if_neg (by simp [Value.category])] at h
      simp only [List.length_append, List.length_cons, List.length_nil] at h
      simp only [xargs, List.length_cons, ih (n - 1) (by omega) hd']
      omega
/-- the machine's contract out of a walk -/
theorem Sp.met {k : xK} {vs : List Value} {M : xM} {Φ : Option Value → xM → Prop} (h : Sp k vs M Φ) (hk : xMeth k) (hd : ∀ u ∈ vs, ∀ z, u ≠ .double z) (l : Launch) (D : va_G) (ad : Nat → Nat) (cI cZ : ClassId) (sz : Nat) (hn : (lg_sl (vs.map (xcv ad))).length ≤ k.2.2.1) :
    Met l k.1 (xTs k) (xrm k) (va_Pc (vs.map (xcv ad)) (xB D ad cI cZ M sz)) (xQ D ad cI cZ (va_A (xws xsh ad cI cZ M) sz) Φ) 0 0 (va_A (xws xsh ad cI cZ M) sz) := by
  refine Met.ofW (cc := k.2.1) (maxL := k.2.2.1) (ret := k.2.2.2.1) hk.2.1 rfl ?_
  intro p e s m args below meth c s₁ B hml hv
  obtain ⟨rfl, hsz, hP, hK, hN, hD0⟩ := hv
  have hts := atoms_spec (ws := xTs k) B.pre
  have hown : s.vm.findClass k.1.cls = some m.cls := findClass_of_methodNamed B.named
  subst hsz
  have hD := hD0.self (sz := s.heap.size)
  rw [lg_entry_eq]
  have hl := lv_entry (vs.map (xcv ad)) (n := k.2.2.1) hn
  refine h l D ad cI cZ p e s m _ below meth c _ s.heap [] _ ⟨B.exec, B.bytes, hml, hown, hts, B.returns, B.notSynchronized, hK, fun M' => xws_D hD M', fun q h => Or.inr h, hN⟩ ⟨hl.1, xargs_len vs _ hn hd, hl.2.1, fun i v hv => ?_⟩ hP va_S.rf
  have := xargs_at (ad := ad) vs _ 0 i v hd hv
  rw [Nat.zero_add] at this
  exact hl.2.2 _ this
section XR
variable {k : xK} {pc : Nat} {L : xL} {st : List Value} {M : xM} {Φ : Option Value → xM → Prop}
theorem P.iconst {n : Int} {v : Int32} (hd : decode k.2.1 pc = .ok (.iconst n, 1)) (hv : Int32.ofInt n = v) (h : P k (pc + 1) L (.int v :: st) M Φ) : P k pc L st M Φ := by
  intro l D ad cI cZ p e s m args below meth c A H locs ls C hL hP hS
  exact lv_iconst C.1 C.2.1 hd hv (h l D ad cI cZ p e s m args below meth c A H locs ls C hL hP hS)
theorem P.bipush {n : Int} {v : Int32} (hd : decode k.2.1 pc = .ok (.bipush n, 2)) (hv : (Int8.ofInt n).toInt32 = v) (h : P k (pc + 2) L (.int v :: st) M Φ) : P k pc L st M Φ := by
  intro l D ad cI cZ p e s m args below meth c A H locs ls C hL hP hS
  exact lv_bipush C.1 C.2.1 hd hv (h l D ad cI cZ p e s m args below meth c A H locs ls C hL hP hS)
theorem P.sipush {n : Int} {v : Int32} (hd : decode k.2.1 pc = .ok (.sipush n, 3)) (hv : (Int16.ofInt n).toInt32 = v) (h : P k (pc + 3) L (.int v :: st) M Φ) : P k pc L st M Φ := by
  intro l D ad cI cZ p e s m args below meth c A H locs ls C hL hP hS
  exact lv_sipush C.1 C.2.1 hd hv (h l D ad cI cZ p e s m args below meth c A H locs ls C hL hP hS)
theorem P.lconst {n : Fin 2} {v : Int64} (hd : decode k.2.1 pc = .ok (.lconst n, 1)) (hv : Int64.ofNat (n : Nat) = v) (h : P k (pc + 1) L (.long v :: st) M Φ) : P k pc L st M Φ := by
  intro l D ad cI cZ p e s m args below meth c A H locs ls C hL hP hS
  exact lv_lconst C.1 C.2.1 hd hv (h l D ad cI cZ p e s m args below meth c A H locs ls C hL hP hS)
def xCI (own : String) (idx : Nat) (v : Int32) : Prop := Cond.constant own idx v ∈ lw_tbl
def xCL (own : String) (idx : Nat) (v : Int64) : Prop := Cond.constantLong own idx v ∈ lw_tbl
theorem P.ldc {idx : Nat} {v : Int32} (hc : xCI k.1.cls idx v) (hd : decode k.2.1 pc = .ok (.ldc idx, 2)) (h : P k (pc + 2) L (.int v :: st) M Φ) : P k pc L st M Φ := by
  intro l D ad cI cZ p e s m args below meth c A H locs ls C hL hP hS
  exact lv_ldc C.1 C.2.1 C.2.2.2.1 (C.2.2.2.2.1 _ (List.mem_cons_of_mem _ (xTB_of hc rfl))) hd (h l D ad cI cZ p e s m args below meth c A H locs ls C hL hP hS)
theorem P.ldc2 {idx : Nat} {v : Int64} (hc : xCL k.1.cls idx v) (hd : decode k.2.1 pc = .ok (.ldc2_w idx, 3)) (h : P k (pc + 3) L (.long v :: st) M Φ) : P k pc L st M Φ := by
  intro l D ad cI cZ p e s m args below meth c A H locs ls C hL hP hS
  exact lv_ldc2 C.1 C.2.1 C.2.2.2.1 (C.2.2.2.2.1 _ (List.mem_cons_of_mem _ (xTB_of hc rfl))) hd (h l D ad cI cZ p e s m args below meth c A H locs ls C hL hP hS)
theorem P.iload_n {n : Fin 4} (i : Nat) {x : Int32} (hd : decode k.2.1 pc = .ok (.iload_n n, 1)) (hi : (n : Nat) = i) (hx : L[i]? = some (some (.int x))) (h : P k (pc + 1) L (.int x :: st) M Φ) : P k pc L st M Φ := by
  intro l D ad cI cZ p e s m args below meth c A H locs ls C hL hP hS
  exact lv_iload_n C.1 C.2.1 hd hi (hL.at hx) (h l D ad cI cZ p e s m args below meth c A H locs ls C hL hP hS)
theorem P.iload (i : Nat) {x : Int32} (hd : decode k.2.1 pc = .ok (.iload i, 2)) (hx : L[i]? = some (some (.int x))) (h : P k (pc + 2) L (.int x :: st) M Φ) : P k pc L st M Φ := by
  intro l D ad cI cZ p e s m args below meth c A H locs ls C hL hP hS
  exact lv_iload C.1 C.2.1 hd (hL.at hx) (h l D ad cI cZ p e s m args below meth c A H locs ls C hL hP hS)
theorem P.lload_n {n : Fin 4} (i : Nat) {x : Int64} (hd : decode k.2.1 pc = .ok (.lload_n n, 1)) (hi : (n : Nat) = i) (hx : L[i]? = some (some (.long x))) (h : P k (pc + 1) L (.long x :: st) M Φ) : P k pc L st M Φ := by
  intro l D ad cI cZ p e s m args below meth c A H locs ls C hL hP hS
  exact lv_lload_n C.1 C.2.1 hd hi (hL.at hx) (h l D ad cI cZ p e s m args below meth c A H locs ls C hL hP hS)
theorem P.lload (i : Nat) {x : Int64} (hd : decode k.2.1 pc = .ok (.lload i, 2)) (hx : L[i]? = some (some (.long x))) (h : P k (pc + 2) L (.long x :: st) M Φ) : P k pc L st M Φ := by
  intro l D ad cI cZ p e s m args below meth c A H locs ls C hL hP hS
  exact lv_lload C.1 C.2.1 hd (hL.at hx) (h l D ad cI cZ p e s m args below meth c A H locs ls C hL hP hS)
theorem P.aload_n {n : Fin 4} (i : Nat) {x : Nat} (hd : decode k.2.1 pc = .ok (.aload_n n, 1)) (hi : (n : Nat) = i) (hx : L[i]? = some (some (.ref x))) (h : P k (pc + 1) L (.ref x :: st) M Φ) : P k pc L st M Φ := by
  intro l D ad cI cZ p e s m args below meth c A H locs ls C hL hP hS
  exact lv_aload_n C.1 C.2.1 hd hi (hL.at hx) (h l D ad cI cZ p e s m args below meth c A H locs ls C hL hP hS)
theorem P.istore_n {n : Fin 4} (i : Nat) {x : Int32} (hd : decode k.2.1 pc = .ok (.istore_n n, 1)) (hi : (n : Nat) = i) (hn : i < k.2.2.1) (hok : xok L i = true) (h : P k (pc + 1) (L.set i (some (.int x))) st M Φ) : P k pc L (.int x :: st) M Φ := by
  intro l D ad cI cZ p e s m args below meth c A H locs ls C hL hP hS
  exact lv_istore_n C.1 C.2.1 hd hi hL.has hn rfl (fun ls' h' => h l D ad cI cZ p e s m args below meth c A H locs ls' C (hL.store1 rfl hok h') hP hS)
theorem P.istore (i : Nat) {x : Int32} (hd : decode k.2.1 pc = .ok (.istore i, 2)) (hn : i < k.2.2.1) (hok : xok L i = true) (h : P k (pc + 2) (L.set i (some (.int x))) st M Φ) : P k pc L (.int x :: st) M Φ := by
  intro l D ad cI cZ p e s m args below meth c A H locs ls C hL hP hS
  exact lv_istore C.1 C.2.1 hd hL.has hn rfl (fun ls' h' => h l D ad cI cZ p e s m args below meth c A H locs ls' C (hL.store1 rfl hok h') hP hS)
theorem P.lstore_n {n : Fin 4} (i : Nat) {x : Int64} (hd : decode k.2.1 pc = .ok (.lstore_n n, 1)) (hi : (n : Nat) = i) (hn : i + 1 < k.2.2.1) (hok : xok L i = true) (h : P k (pc + 1) ((L.set (i + 1) none).set i (some (.long x))) st M Φ) : P k pc L (.long x :: st) M Φ := by
  intro l D ad cI cZ p e s m args below meth c A H locs ls C hL hP hS
  exact lv_lstore_n C.1 C.2.1 hd hi hL.has hn rfl (fun ls' h' => h l D ad cI cZ p e s m args below meth c A H locs ls' C (hL.store2 rfl hok h') hP hS)
theorem P.iinc (i : Nat) {n : Int} {x : Int32} (v : Int32) (hd : decode k.2.1 pc = .ok (.iinc i n, 3)) (hx : L[i]? = some (some (.int x))) (hv : Int32.ofInt n = v) (hn : i < k.2.2.1) (hok : xok L i = true) (h : P k (pc + 3) (L.set i (some (.int (x + v)))) st M Φ) : P k pc L st M Φ := by
  intro l D ad cI cZ p e s m args below meth c A H locs ls C hL hP hS
  obtain ⟨q, hq⟩ := List.getElem?_of_mem (xlv_mem (ad := ad) (q := (i, Value.int x)).mpr ⟨_, hx, rfl⟩)
  exact lv_iinc C.1 C.2.1 hd hL.has hq rfl hn rfl (fun ls' h' => by subst hv; exact h l D ad cI cZ p e s m args below meth c A H locs ls' C (hL.store1 rfl hok h') hP hS)
theorem P.iadd {x y : Int32} (hd : decode k.2.1 pc = .ok (.iadd, 1)) (h : P k (pc + 1) L (.int (x + y) :: st) M Φ) : P k pc L (.int y :: .int x :: st) M Φ := by
  intro l D ad cI cZ p e s m args below meth c A H locs ls C hL hP hS
  exact lv_iadd C.1 C.2.1 hd (h l D ad cI cZ p e s m args below meth c A H locs ls C hL hP hS)
theorem P.isub {x y : Int32} (hd : decode k.2.1 pc = .ok (.isub, 1)) (h : P k (pc + 1) L (.int (x - y) :: st) M Φ) : P k pc L (.int y :: .int x :: st) M Φ := by
  intro l D ad cI cZ p e s m args below meth c A H locs ls C hL hP hS
  exact lv_isub C.1 C.2.1 hd (h l D ad cI cZ p e s m args below meth c A H locs ls C hL hP hS)
theorem P.imul {x y : Int32} (hd : decode k.2.1 pc = .ok (.imul, 1)) (h : P k (pc + 1) L (.int (x * y) :: st) M Φ) : P k pc L (.int y :: .int x :: st) M Φ := by
  intro l D ad cI cZ p e s m args below meth c A H locs ls C hL hP hS
  exact lv_imul C.1 C.2.1 hd (h l D ad cI cZ p e s m args below meth c A H locs ls C hL hP hS)
theorem P.idiv {x y : Int32} (hd : decode k.2.1 pc = .ok (.idiv, 1)) (hne : ¬ y = 0) (h : P k (pc + 1) L (.int (x / y) :: st) M Φ) : P k pc L (.int y :: .int x :: st) M Φ := by
  intro l D ad cI cZ p e s m args below meth c A H locs ls C hL hP hS
  exact lv_idiv C.1 C.2.1 hd hne (h l D ad cI cZ p e s m args below meth c A H locs ls C hL hP hS)
theorem P.irem {x y : Int32} (hd : decode k.2.1 pc = .ok (.irem, 1)) (hne : ¬ y = 0) (h : P k (pc + 1) L (.int (x - x / y * y) :: st) M Φ) : P k pc L (.int y :: .int x :: st) M Φ := by
  intro l D ad cI cZ p e s m args below meth c A H locs ls C hL hP hS
  exact lv_irem C.1 C.2.1 hd hne (h l D ad cI cZ p e s m args below meth c A H locs ls C hL hP hS)
theorem P.ladd {x y : Int64} (hd : decode k.2.1 pc = .ok (.ladd, 1)) (h : P k (pc + 1) L (.long (x + y) :: st) M Φ) : P k pc L (.long y :: .long x :: st) M Φ := by
  intro l D ad cI cZ p e s m args below meth c A H locs ls C hL hP hS
  exact lv_ladd C.1 C.2.1 hd (h l D ad cI cZ p e s m args below meth c A H locs ls C hL hP hS)
theorem P.lmul {x y : Int64} (hd : decode k.2.1 pc = .ok (.lmul, 1)) (h : P k (pc + 1) L (.long (x * y) :: st) M Φ) : P k pc L (.long y :: .long x :: st) M Φ := by
  intro l D ad cI cZ p e s m args below meth c A H locs ls C hL hP hS
  exact lv_lmul C.1 C.2.1 hd (h l D ad cI cZ p e s m args below meth c A H locs ls C hL hP hS)
theorem P.lcmp {x y : Int64} (hd : decode k.2.1 pc = .ok (.lcmp, 1)) (h : P k (pc + 1) L (.int (lg_cmp x y) :: st) M Φ) : P k pc L (.long y :: .long x :: st) M Φ := by
  intro l D ad cI cZ p e s m args below meth c A H locs ls C hL hP hS
  exact W.lcmp C.1 C.2.1 hd (h l D ad cI cZ p e s m args below meth c A H locs ls C hL hP hS)
theorem P.i2l {x : Int32} (hd : decode k.2.1 pc = .ok (.i2l, 1)) (h : P k (pc + 1) L (.long x.toInt64 :: st) M Φ) : P k pc L (.int x :: st) M Φ := by
  intro l D ad cI cZ p e s m args below meth c A H locs ls C hL hP hS
  exact lv_i2l C.1 C.2.1 hd rfl (h l D ad cI cZ p e s m args below meth c A H locs ls C hL hP hS)
theorem P.i2b {x : Int32} (hd : decode k.2.1 pc = .ok (.i2b, 1)) (h : P k (pc + 1) L (.int x.toInt8.toInt32 :: st) M Φ) : P k pc L (.int x :: st) M Φ := by
  intro l D ad cI cZ p e s m args below meth c A H locs ls C hL hP hS
  exact lv_i2b C.1 C.2.1 hd rfl (h l D ad cI cZ p e s m args below meth c A H locs ls C hL hP hS)
theorem P.i2s {x : Int32} (hd : decode k.2.1 pc = .ok (.i2s, 1)) (h : P k (pc + 1) L (.int x.toInt16.toInt32 :: st) M Φ) : P k pc L (.int x :: st) M Φ := by
  intro l D ad cI cZ p e s m args below meth c A H locs ls C hL hP hS
  exact lv_i2s C.1 C.2.1 hd rfl (h l D ad cI cZ p e s m args below meth c A H locs ls C hL hP hS)
theorem P.dup {v : Value} (hd : decode k.2.1 pc = .ok (.dup, 1)) (hv : v.category = 1) (h : P k (pc + 1) L (v :: v :: st) M Φ) : P k pc L (v :: st) M Φ := by
  intro l D ad cI cZ p e s m args below meth c A H locs ls C hL hP hS
  exact lv_dup C.1 C.2.1 hd (by rw [xcv_cat]; exact hv) (h l D ad cI cZ p e s m args below meth c A H locs ls C hL hP hS)
theorem P.dup2 {v w : Value} (hd : decode k.2.1 pc = .ok (.dup2, 1)) (hv : v.category = 1) (hw : w.category = 1) (h : P k (pc + 1) L (v :: w :: v :: w :: st) M Φ) : P k pc L (v :: w :: st) M Φ := by
  intro l D ad cI cZ p e s m args below meth c A H locs ls C hL hP hS
  exact lv_dup2_11 C.1 C.2.1 hd (by rw [xcv_cat]; exact hv) (by rw [xcv_cat]; exact hw) (h l D ad cI cZ p e s m args below meth c A H locs ls C hL hP hS)
theorem P.pop {v : Value} (hd : decode k.2.1 pc = .ok (.pop, 1)) (hv : v.category = 1) (h : P k (pc + 1) L st M Φ) : P k pc L (v :: st) M Φ := by
  intro l D ad cI cZ p e s m args below meth c A H locs ls C hL hP hS
  exact lv_pop C.1 C.2.1 hd (by rw [xcv_cat]; exact hv) (h l D ad cI cZ p e s m args below meth c A H locs ls C hL hP hS)
theorem P.goto {off : Int} (tgt : Nat) (hd : decode k.2.1 pc = .ok (.goto off, 3)) (ht : (pc : Int) + off = (tgt : Int)) (h : P k tgt L st M Φ) : P k pc L st M Φ := by
  intro l D ad cI cZ p e s m args below meth c A H locs ls C hL hP hS
  exact lv_goto C.1 C.2.1 hd ht (h l D ad cI cZ p e s m args below meth c A H locs ls C hL hP hS)
theorem P.ifeq {x : Int32} {off : Int} (tgt : Nat) (hd : decode k.2.1 pc = .ok (.ifCond .eq off, 3)) (ht : (pc : Int) + off = (tgt : Int)) (kt : x = 0 → P k tgt L st M Φ) (kf : ¬ x = 0 → P k (pc + 3) L st M Φ) : P k pc L (.int x :: st) M Φ := by
  intro l D ad cI cZ p e s m args below meth c A H locs ls C hL hP hS
  exact lv_if_eq C.1 C.2.1 hd ht (fun q => kt q l D ad cI cZ p e s m args below meth c A H locs ls C hL hP hS) (fun q => kf q l D ad cI cZ p e s m args below meth c A H locs ls C hL hP hS)
theorem P.ifne {x : Int32} {off : Int} (tgt : Nat) (hd : decode k.2.1 pc = .ok (.ifCond .ne off, 3)) (ht : (pc : Int) + off = (tgt : Int)) (kt : ¬ x = 0 → P k tgt L st M Φ) (kf : x = 0 → P k (pc + 3) L st M Φ) : P k pc L (.int x :: st) M Φ := by
  intro l D ad cI cZ p e s m args below meth c A H locs ls C hL hP hS
  exact lv_if_ne C.1 C.2.1 hd ht (fun q => kt q l D ad cI cZ p e s m args below meth c A H locs ls C hL hP hS) (fun q => kf q l D ad cI cZ p e s m args below meth c A H locs ls C hL hP hS)
theorem P.iflt {x : Int32} {off : Int} (tgt : Nat) (hd : decode k.2.1 pc = .ok (.ifCond .lt off, 3)) (ht : (pc : Int) + off = (tgt : Int)) (kt : x < 0 → P k tgt L st M Φ) (kf : ¬ x < 0 → P k (pc + 3) L st M Φ) : P k pc L (.int x :: st) M Φ := by
  intro l D ad cI cZ p e s m args below meth c A H locs ls C hL hP hS
  exact lv_if_lt C.1 C.2.1 hd ht (fun q => kt q l D ad cI cZ p e s m args below meth c A H locs ls C hL hP hS) (fun q => kf q l D ad cI cZ p e s m args below meth c A H locs ls C hL hP hS)
theorem P.ifge {x : Int32} {off : Int} (tgt : Nat) (hd : decode k.2.1 pc = .ok (.ifCond .ge off, 3)) (ht : (pc : Int) + off = (tgt : Int)) (kt : 0 ≤ x → P k tgt L st M Φ) (kf : ¬ 0 ≤ x → P k (pc + 3) L st M Φ) : P k pc L (.int x :: st) M Φ := by
  intro l D ad cI cZ p e s m args below meth c A H locs ls C hL hP hS
  exact lv_if_ge C.1 C.2.1 hd ht (fun q => kt q l D ad cI cZ p e s m args below meth c A H locs ls C hL hP hS) (fun q => kf q l D ad cI cZ p e s m args below meth c A H locs ls C hL hP hS)
theorem P.ifgt {x : Int32} {off : Int} (tgt : Nat) (hd : decode k.2.1 pc = .ok (.ifCond .gt off, 3)) (ht : (pc : Int) + off = (tgt : Int)) (kt : 0 < x → P k tgt L st M Φ) (kf : ¬ 0 < x → P k (pc + 3) L st M Φ) : P k pc L (.int x :: st) M Φ := by
  intro l D ad cI cZ p e s m args below meth c A H locs ls C hL hP hS
  exact lv_if_gt C.1 C.2.1 hd ht (fun q => kt q l D ad cI cZ p e s m args below meth c A H locs ls C hL hP hS) (fun q => kf q l D ad cI cZ p e s m args below meth c A H locs ls C hL hP hS)
theorem P.ifle {x : Int32} {off : Int} (tgt : Nat) (hd : decode k.2.1 pc = .ok (.ifCond .le off, 3)) (ht : (pc : Int) + off = (tgt : Int)) (kt : x ≤ 0 → P k tgt L st M Φ) (kf : ¬ x ≤ 0 → P k (pc + 3) L st M Φ) : P k pc L (.int x :: st) M Φ := by
  intro l D ad cI cZ p e s m args below meth c A H locs ls C hL hP hS
  exact lv_if_le C.1 C.2.1 hd ht (fun q => kt q l D ad cI cZ p e s m args below meth c A H locs ls C hL hP hS) (fun q => kf q l D ad cI cZ p e s m args below meth c A H locs ls C hL hP hS)
theorem P.iceq {x y : Int32} {off : Int} (tgt : Nat) (hd : decode k.2.1 pc = .ok (.if_icmp .eq off, 3)) (ht : (pc : Int) + off = (tgt : Int)) (kt : x = y → P k tgt L st M Φ) (kf : ¬ x = y → P k (pc + 3) L st M Φ) : P k pc L (.int y :: .int x :: st) M Φ := by
  intro l D ad cI cZ p e s m args below meth c A H locs ls C hL hP hS
  exact lv_icmp_eq C.1 C.2.1 hd ht (fun q => kt q l D ad cI cZ p e s m args below meth c A H locs ls C hL hP hS) (fun q => kf q l D ad cI cZ p e s m args below meth c A H locs ls C hL hP hS)
theorem P.icne {x y : Int32} {off : Int} (tgt : Nat) (hd : decode k.2.1 pc = .ok (.if_icmp .ne off, 3)) (ht : (pc : Int) + off = (tgt : Int)) (kt : ¬ x = y → P k tgt L st M Φ) (kf : x = y → P k (pc + 3) L st M Φ) : P k pc L (.int y :: .int x :: st) M Φ := by
  intro l D ad cI cZ p e s m args below meth c A H locs ls C hL hP hS
  exact lv_icmp_ne C.1 C.2.1 hd ht (fun q => kt q l D ad cI cZ p e s m args below meth c A H locs ls C hL hP hS) (fun q => kf q l D ad cI cZ p e s m args below meth c A H locs ls C hL hP hS)
theorem P.iclt {x y : Int32} {off : Int} (tgt : Nat) (hd : decode k.2.1 pc = .ok (.if_icmp .lt off, 3)) (ht : (pc : Int) + off = (tgt : Int)) (kt : x < y → P k tgt L st M Φ) (kf : ¬ x < y → P k (pc + 3) L st M Φ) : P k pc L (.int y :: .int x :: st) M Φ := by
  intro l D ad cI cZ p e s m args below meth c A H locs ls C hL hP hS
  exact lv_icmp_lt C.1 C.2.1 hd ht (fun q => kt q l D ad cI cZ p e s m args below meth c A H locs ls C hL hP hS) (fun q => kf q l D ad cI cZ p e s m args below meth c A H locs ls C hL hP hS)
theorem P.icge {x y : Int32} {off : Int} (tgt : Nat) (hd : decode k.2.1 pc = .ok (.if_icmp .ge off, 3)) (ht : (pc : Int) + off = (tgt : Int)) (kt : y ≤ x → P k tgt L st M Φ) (kf : ¬ y ≤ x → P k (pc + 3) L st M Φ) : P k pc L (.int y :: .int x :: st) M Φ := by
  intro l D ad cI cZ p e s m args below meth c A H locs ls C hL hP hS
  exact lv_icmp_ge C.1 C.2.1 hd ht (fun q => kt q l D ad cI cZ p e s m args below meth c A H locs ls C hL hP hS) (fun q => kf q l D ad cI cZ p e s m args below meth c A H locs ls C hL hP hS)
theorem P.icgt {x y : Int32} {off : Int} (tgt : Nat) (hd : decode k.2.1 pc = .ok (.if_icmp .gt off, 3)) (ht : (pc : Int) + off = (tgt : Int)) (kt : y < x → P k tgt L st M Φ) (kf : ¬ y < x → P k (pc + 3) L st M Φ) : P k pc L (.int y :: .int x :: st) M Φ := by
  intro l D ad cI cZ p e s m args below meth c A H locs ls C hL hP hS
  exact lv_icmp_gt C.1 C.2.1 hd ht (fun q => kt q l D ad cI cZ p e s m args below meth c A H locs ls C hL hP hS) (fun q => kf q l D ad cI cZ p e s m args below meth c A H locs ls C hL hP hS)
theorem P.icle {x y : Int32} {off : Int} (tgt : Nat) (hd : decode k.2.1 pc = .ok (.if_icmp .le off, 3)) (ht : (pc : Int) + off = (tgt : Int)) (kt : x ≤ y → P k tgt L st M Φ) (kf : ¬ x ≤ y → P k (pc + 3) L st M Φ) : P k pc L (.int y :: .int x :: st) M Φ := by
  intro l D ad cI cZ p e s m args below meth c A H locs ls C hL hP hS
  exact lv_icmp_le C.1 C.2.1 hd ht (fun q => kt q l D ad cI cZ p e s m args below meth c A H locs ls C hL hP hS) (fun q => kf q l D ad cI cZ p e s m args below meth c A H locs ls C hL hP hS)
theorem P.tswIn {dflt lo hi : Int} {offs : Array Int} {len : Nat} {x : Int32} {off : Int} (tgt : Nat) (hd : decode k.2.1 pc = .ok (.tableswitch dflt lo hi offs, len)) (h1 : ¬ x.toInt < lo) (h2 : ¬ hi < x.toInt) (ho : offs[(x.toInt - lo).toNat]? = some off) (ht : (pc : Int) + off = (tgt : Int)) (h : P k tgt L st M Φ) : P k pc L (.int x :: st) M Φ := by
  intro l D ad cI cZ p e s m args below meth c A H locs ls C hL hP hS
  exact lv_tableIn C.1 C.2.1 hd h1 h2 ho ht (h l D ad cI cZ p e s m args below meth c A H locs ls C hL hP hS)
theorem P.tswOut {dflt lo hi : Int} {offs : Array Int} {len : Nat} {x : Int32} (tgt : Nat) (hd : decode k.2.1 pc = .ok (.tableswitch dflt lo hi offs, len)) (h1 : x.toInt < lo ∨ hi < x.toInt) (ht : (pc : Int) + dflt = (tgt : Int)) (h : P k tgt L st M Φ) : P k pc L (.int x :: st) M Φ := by
  intro l D ad cI cZ p e s m args below meth c A H locs ls C hL hP hS
  exact lv_tableOut C.1 C.2.1 hd h1 ht (h l D ad cI cZ p e s m args below meth c A H locs ls C hL hP hS)
def xFL (own : String) (idx ci j : Nat) : Prop := ∃ (C : String) (T : u_T) (N : Nat) (ty : Nat → FieldType), vwCl[ci]? = some (C, T, N) ∧ j < N ∧ Cond.fieldLink own idx (T j).1 (T j).2.1 (T j).2.2.1 ∈ lw_tbl ∧ (∀ w ∈ u_ws C T N, w ∈ lw_tbl) ∧ (∀ k, k < N → parseFieldDescriptor (T k).2.2.1 = some (ty k)) ∧ (∀ a, a < N → ∀ b, b < N → a ≠ b → (T a).2.1 ≠ (T b).2.1) ∧ (∀ w ∈ u_ws C T N, goodWord w = true)
/-- the same, of an int that isn't final -/
def xFP (own : String) (idx ci j : Nat) : Prop := xFL own idx ci j ∧ ∃ (C : String) (T : u_T) (N : Nat), vwCl[ci]? = some (C, T, N) ∧ (T j).2.2.2 = false ∧ parseFieldDescriptor (T j).2.2.1 = some .int
theorem P.getR {idx ci j q q' : Nat} {fs : List (Option Nat)} (hf : xFL k.1.cls idx ci j) (hd : decode k.2.1 pc = .ok (.getfield idx, 3)) (hq : xsh[q]? = some (.inr (ci, fs))) (hj : fs[j]? = some (some q')) (h : P k (pc + 3) L (.ref q' :: st) M Φ) : P k pc L (.ref q :: st) M Φ := by
  intro l D ad cI cZ p e s m args below meth c A H locs ls C hL hP hS
  obtain ⟨Cn, T, N, ty, h1, h2, h3, h4, h5, h6, h7⟩ := hf
  exact va_get (v := .ref (ad q')) C.1 C.2.1 C.2.2.2.2.1 (fun w hw => List.mem_cons_of_mem _ (xTB_of (h4 w hw) (h7 w hw))) C.2.2.2.1 C.2.2.2.2.2.2.2.1 hP q (xws_at hq) h1 j h2 (C.2.2.2.2.1 _ (List.mem_cons_of_mem _ (xTB_of h3 rfl))) (fun _ h9 => h9) (xfs_ref 0 hj) hd (h l D ad cI cZ p e s m args below meth c A H locs ls C hL hP hS)
theorem P.getI {idx ci j q : Nat} {fs : List (Option Nat)} (hf : xFL k.1.cls idx ci j) (hd : decode k.2.1 pc = .ok (.getfield idx, 3)) (hq : xsh[q]? = some (.inr (ci, fs))) (hj : fs[j]? = some none) (h : P k (pc + 3) L (.int (M q j) :: st) M Φ) : P k pc L (.ref q :: st) M Φ := by
  intro l D ad cI cZ p e s m args below meth c A H locs ls C hL hP hS
  obtain ⟨Cn, T, N, ty, h1, h2, h3, h4, h5, h6, h7⟩ := hf
  exact va_get (v := .int (M q j)) C.1 C.2.1 C.2.2.2.2.1 (fun w hw => List.mem_cons_of_mem _ (xTB_of (h4 w hw) (h7 w hw))) C.2.2.2.1 C.2.2.2.2.2.2.2.1 hP q (xws_at hq) h1 j h2 (C.2.2.2.2.1 _ (List.mem_cons_of_mem _ (xTB_of h3 rfl))) (fun _ h9 => h9) (by have := xfs_int (ad := ad) (f := M q) 0 hj; rwa [Nat.zero_add] at this) hd (h l D ad cI cZ p e s m args below meth c A H locs ls C hL hP hS)
theorem P.put {idx ci j q : Nat} {fs : List (Option Nat)} {v : Int32} (hf : xFP k.1.cls idx ci j) (hd : decode k.2.1 pc = .ok (.putfield idx, 3)) (hq : xsh[q]? = some (.inr (ci, fs))) (hj : fs[j]? = some none) (h : P k (pc + 3) L st (xw M q (upd (M q) j v)) Φ) : P k pc L (.int v :: .ref q :: st) M Φ := by
  intro l D ad cI cZ p e s m args below meth c A H locs ls C hL hP hS
  obtain ⟨⟨Cn, T, N, ty, h1, h2, h3, h4, h5, h6, h7⟩, Cn', T', N', g1, g2, g3⟩ := hf
  cases h1.symm.trans g1
  refine va_put (ty := .int) C.1 C.2.1 C.2.2.2.2.1 (fun w hw => List.mem_cons_of_mem _ (xTB_of (h4 w hw) (h7 w hw))) ty h5 h6 C.2.2.2.1 C.2.2.2.2.2.2.2.1 hP (C.2.2.2.2.2.2.2.2.1 M) hS q (xws_at hq) h1 j h2 (C.2.2.2.2.1 _ (List.mem_cons_of_mem _ (xTB_of h3 rfl))) (fun _ h9 => h9) g2 g3 rfl rfl (by rw [xfs_len]; exact (List.getElem?_eq_some_iff.mp hj).1) hd (fun H1 locs1 hP1 hD1 hS1 => ?_)
  rw [show (xfs ad (M q) 0 fs).set j (xcv ad (.int v)) = xfs ad (upd (M q) j v) 0 fs by have := xfs_set (ad := ad) (f := M q) (v := v) 0 hj; rwa [Nat.zero_add] at this] at hP1
  have hP2 : va_P D vwCl (xws xsh ad cI cZ (xw M q (upd (M q) j v))) H1 := by rw [← xws_set hq]; exact hP1
  exact h l D ad cI cZ p e s m args below meth c A H1 locs1 ls C hL hP2 hS1
theorem P.iald {q n : Nat} {i : Int32} (hd : decode k.2.1 pc = .ok (.iaload, 1)) (hq : xsh[q]? = some (.inl (false, n))) (hi : vp_in i n) (h : P k (pc + 1) L (.int (M q i.toNatClampNeg) :: st) M Φ) : P k pc L (.int i :: .ref q :: st) M Φ := by
  intro l D ad cI cZ p e s m args below meth c A H locs ls C hL hP hS
  exact va_iald C.1 C.2.1 C.2.2.2.2.2.2.2.1 hP q 0 (xws_at hq) rfl hi hd (h l D ad cI cZ p e s m args below meth c A H locs ls C hL hP hS)
theorem P.zald {q n : Nat} {i : Int32} (hd : decode k.2.1 pc = .ok (.baload, 1)) (hq : xsh[q]? = some (.inl (true, n))) (hi : vp_in i n) (h : P k (pc + 1) L (.int (M q i.toNatClampNeg) :: st) M Φ) : P k pc L (.int i :: .ref q :: st) M Φ := by
  intro l D ad cI cZ p e s m args below meth c A H locs ls C hL hP hS
  exact va_zald C.1 C.2.1 C.2.2.2.2.2.2.2.1 hP q 1 (xws_at hq) rfl hi hd (h l D ad cI cZ p e s m args below meth c A H locs ls C hL hP hS)
theorem P.iast {q n : Nat} {i x : Int32} (hd : decode k.2.1 pc = .ok (.iastore, 1)) (hq : xsh[q]? = some (.inl (false, n))) (hi : vp_in i n) (h : P k (pc + 1) L st (xw M q (upd (M q) i.toNatClampNeg x)) Φ) : P k pc L (.int x :: .int i :: .ref q :: st) M Φ := by
  intro l D ad cI cZ p e s m args below meth c A H locs ls C hL hP hS
  refine va_iast C.1 C.2.1 C.2.2.2.2.2.2.2.1 hP (C.2.2.2.2.2.2.2.2.1 M) hS q 0 (xws_at hq) rfl hi hd (fun H1 locs1 hP1 hD1 hS1 => ?_)
  have hP2 : va_P D vwCl (xws xsh ad cI cZ (xw M q (upd (M q) i.toNatClampNeg x))) H1 := by rw [← xws_set hq]; exact hP1
  exact h l D ad cI cZ p e s m args below meth c A H1 locs1 ls C hL hP2 hS1
theorem P.zast {q n : Nat} {i x : Int32} (hd : decode k.2.1 pc = .ok (.bastore, 1)) (hq : xsh[q]? = some (.inl (true, n))) (hi : vp_in i n) (h : P k (pc + 1) L st (xw M q (upd (M q) i.toNatClampNeg (vp_nar .boolean x))) Φ) : P k pc L (.int x :: .int i :: .ref q :: st) M Φ := by
  intro l D ad cI cZ p e s m args below meth c A H locs ls C hL hP hS
  refine va_zast C.1 C.2.1 C.2.2.2.2.2.2.2.1 hP (C.2.2.2.2.2.2.2.2.1 M) hS q 1 (xws_at hq) rfl hi hd (fun H1 locs1 hP1 hD1 hS1 => ?_)
  have hP2 : va_P D vwCl (xws xsh ad cI cZ (xw M q (upd (M q) i.toNatClampNeg (vp_nar .boolean x)))) H1 := by rw [← xws_set hq]; exact hP1
  exact h l D ad cI cZ p e s m args below meth c A H1 locs1 ls C hL hP2 hS1
theorem P.alen {q n : Nat} (hd : decode k.2.1 pc = .ok (.arraylength, 1)) (hq : xsh[q]? = some (.inl (false, n))) (h : P k (pc + 1) L (.int (nI n) :: st) M Φ) : P k pc L (.ref q :: st) M Φ := by
  intro l D ad cI cZ p e s m args below meth c A H locs ls C hL hP hS
  exact va_alen C.1 C.2.1 C.2.2.2.2.2.2.2.1 hP q 0 (xws_at hq) rfl rfl hd (h l D ad cI cZ p e s m args below meth c A H locs ls C hL hP hS)
theorem P.iret {v : Int32} (hd : decode k.2.1 pc = .ok (.ireturn, 1)) (hr : k.2.2.2.1 = some .int) (h : Φ (some (.int v)) M) : P k pc L [.int v] M Φ := by
  intro l D ad cI cZ p e s m args below meth c A H locs ls C hL hP hS
  have hlocks : meth.locks = false := C.2.2.2.2.2.2.1
  exact W.iret (v := v) C.1 C.2.1 (C.2.2.2.2.2.1.trans hr) (fun t ht hW => ⟨⟨some (.int v), M, rfl, h, by rw [ht]; exact hP, va_K.moved hW.alike C.2.2.2.2.2.2.2.1⟩, hS.F ht⟩) hS.2.2 hd
theorem P.zret {v : Int32} (hd : decode k.2.1 pc = .ok (.ireturn, 1)) (hr : k.2.2.2.1 = some .boolean) (hn : narrow .boolean (.int v) = .int v) (h : Φ (some (.int v)) M) : P k pc L [.int v] M Φ := by
  intro l D ad cI cZ p e s m args below meth c A H locs ls C hL hP hS
  have hlocks : meth.locks = false := C.2.2.2.2.2.2.1
  exact W.zret (v := v) C.1 C.2.1 (C.2.2.2.2.2.1.trans hr) hn (fun t ht hW => ⟨⟨some (.int v), M, rfl, h, by rw [ht]; exact hP, va_K.moved hW.alike C.2.2.2.2.2.2.2.1⟩, hS.F ht⟩) hS.2.2 hd
theorem P.lret {v : Int64} (hd : decode k.2.1 pc = .ok (.lreturn, 1)) (hr : k.2.2.2.1 = some .long) (h : Φ (some (.long v)) M) : P k pc L [.long v] M Φ := by
  intro l D ad cI cZ p e s m args below meth c A H locs ls C hL hP hS
  have hlocks : meth.locks = false := C.2.2.2.2.2.2.1
  exact W.lret (v := v) C.1 C.2.1 (C.2.2.2.2.2.1.trans hr) (fun t ht hW => ⟨⟨some (.long v), M, rfl, h, by rw [ht]; exact hP, va_K.moved hW.alike C.2.2.2.2.2.2.2.1⟩, hS.F ht⟩) hS.2.2 hd
theorem P.vret (hd : decode k.2.1 pc = .ok (.return_, 1)) (hr : k.2.2.2.1 = none) (h : Φ none M) : P k pc L [] M Φ := by
  intro l D ad cI cZ p e s m args below meth c A H locs ls C hL hP hS
  have hlocks : meth.locks = false := C.2.2.2.2.2.2.1
  exact W.vret C.1 C.2.1 (C.2.2.2.2.2.1.trans hr) (fun t ht hW => ⟨⟨none, M, rfl, h, by rw [ht]; exact hP, va_K.moved hW.alike C.2.2.2.2.2.2.2.1⟩, hS.F ht⟩) hS.2.2 hd
end XR
section XC
variable {p : Program} {l : Launch} {e : Env} {R : Room} {s : State} {m : MethodId} {args : Array Value} {below : List Frame} {meth : Method} {c : Code} {H : Heap} {locs : List Loc} {Q : State → Prop}
theorem x_call {D : va_G} {ad : Nat → Nat} {cI cZ : ClassId} {A0 A1 : Nat → Prop} {Ψ : Option Value → xM → Prop} {pc : Nat} {ls : Array Slot} {st0 rest : List Value} {a : Array Value} {free : Addr → Prop} {H0 : Heap}
    (hr : va_Run p l e R s m args below meth c H locs 0 0 0 0 (F0 m pc ls st0) rest (xQ D ad cI cZ A1 Ψ a) free) (hS : va_S A0 H0 H locs) (hA : ∀ q, q < H.size → A1 q → A0 q) (hf : ∀ q, free q → A0 q)
    (kk : ∀ (r : Option Value) (M : xM) (H1 : Heap) (locs1 : List Loc), Ψ r M → va_P D vwCl (xws xsh ad cI cZ M) H1 → va_S A0 H0 H1 locs1 → W p l e R s m args below meth c H1 locs1 0 0 Q (F0 m (pc + 3) ls ((r.map (xcv ad)).toList ++ rest))) : W p l e R s m args below meth c H locs 0 0 Q (F0 m pc ls st0) := by
  intro T hT X
  obtain ⟨v, st₀, t, T', L, h0, X', hL, e1, e2, ⟨⟨r, M, hv, hp, hb, hk0⟩, hz, hk⟩, st⟩ := hr T hT X
  cases hv
  rw [h0] at hz hk
  obtain ⟨t2, a1, b1⟩ := kk r M T'.heap (locs ++ L) hp (by rw [e1]; exact hb)
    ⟨Nat.le_trans hS.1 (by rw [e1]; exact hz), fun q h1 h2 => by rw [e1, hk q (Nat.lt_of_lt_of_le h1 hS.1) (fun z => h2 (hA q (Nat.lt_of_lt_of_le h1 hS.1) z))]; exact hS.2.1 q h1 h2, fun q hq => by
      rcases List.mem_append.mp hq with h | h
      · exact hS.2.2 q h
      · exact hf _ (hL q h)⟩ T' rfl X'
  exact ⟨t2, st t2 a1, b1⟩
end XC
def xgoodA (n : Nat) (vs : List Value) : Bool := vs.all (fun v => match v with | .double _ => false | _ => true) && Nat.ble ((vs.map fun v => v.category).sum) n
theorem xsl_len (ad : Nat → Nat) (vs : List Value) : (lg_sl (vs.map (xcv ad))).length = (vs.map fun v => v.category).sum := by
  induction vs with
  | nil => rfl
  | cons v vs ih =>
    have e : lg_sl ((v :: vs).map (xcv ad)) = (if v.category = 2 then [.val (xcv ad v), .second] else [.val (xcv ad v)]) ++ lg_sl (vs.map (xcv ad)) := by
      simp [lg_sl, xcv_cat]
    rw [e, List.length_append, ih, List.map_cons, List.sum_cons]
    rcases lv_cat v with h | h <;> simp [h]
theorem xgoodA_spec {n : Nat} {vs : List Value} (h : xgoodA n vs = true) (ad : Nat → Nat) : (lg_sl (vs.map (xcv ad))).length ≤ n ∧ ∀ u ∈ vs, ∀ z, u ≠ .double z := by
  simp only [xgoodA, Bool.and_eq_true, List.all_eq_true] at h
  refine ⟨by rw [xsl_len]; exact Nat.le_of_ble_eq_true h.2, fun u hu z e => ?_⟩
  have := h.1 u hu
  rw [e] at this
  cases this
theorem xcat_map (ad : Nat → Nat) (vs : List Value) : ((vs.map (xcv ad)).map fun v => v.category) = vs.map fun v => v.category := by
  rw [List.map_map]
  apply List.map_congr_left
  intro v _
  exact xcv_cat ad v
/-- a call's words: of an object's method; of a static one; of a nest mate's static one -/
def xCR (k kc : xK) (n : Nat) : Prop := xMeth kc ∧ (parseMethodDescriptor kc.1.desc).map (fun d => d.parameters.length) = some n ∧ kc.2.2.2.2.1 + 1 ≤ k.2.2.2.2.1 ∧ 8 + (kc.2.2.1 + 11) + kc.2.2.2.2.2 ≤ k.2.2.2.2.2
def xCV (k kc : xK) (idx ci n : Nat) : Prop := xCR k kc n ∧ Cond.methodLink k.1.cls idx kc.1 ∈ lw_tbl ∧ Cond.instanceMethod kc.1 ∈ lw_tbl ∧ Cond.selects kc.1.cls kc.1 kc.1 ∈ lw_tbl ∧ (vwCl[ci]?).map (fun q => q.1) = some kc.1.cls
def xCS (k kc : xK) (idx n : Nat) : Prop := xCR k kc n ∧ Cond.methodLink k.1.cls idx kc.1 ∈ lw_tbl ∧ Cond.static kc.1 ∈ lw_tbl
def xCN (k kc : xK) (idx n : Nat) : Prop := xCR k kc n ∧ (k.1.cls, idx, kc.1) ∈ xnestL ∧ Cond.static kc.1 ∈ lw_tbl
theorem xGI {k : xK} {ws : List Cond} (h : ∀ w ∈ ws, w ∈ xTB) : GoodIn (xTs k) ws := fun w hw => xgood w (h w hw)
section XR2
variable {k kc : xK} {pc : Nat} {L : xL} {st : List Value} {M : xM} {Φ Ψ : Option Value → xM → Prop}
theorem xfree {D : va_G} {ad : Nat → Nat} {cI cZ : ClassId} {p : Program} {s : State} {m : MethodId} {args : Array Value} {meth : Method} {c : Code} {A : Nat → Prop} {H : Heap} {locs : List Loc} (C : xCtx k D ad cI cZ p s m args meth c A) (hS : va_S A s.heap H locs) : ∀ q, va_A (xws xsh ad cI cZ M) H.size q → A q := by
  intro q h
  rcases h with ⟨i, e, h⟩ | h
  · exact (C.2.2.2.2.2.2.2.2.1 M).2 i (q, e) h
  · exact C.2.2.2.2.2.2.2.2.2.1 q (Nat.le_trans hS.1 h)
theorem P.callV {idx ci n b : Nat} {fs : List (Option Nat)} {As rest : List Value} (hc : xCV k kc idx ci n) (hd : decode k.2.1 pc = .ok (.invokevirtual idx, 3)) (hb : xsh[b]? = some (.inr (ci, fs))) (hn : As.length = n) (hg : xgoodA kc.2.2.1 (.ref b :: As) = true) (hrest : Nat.ble ((rest.map fun v => v.category).sum) 8 = true) (hst : st = As.reverse ++ .ref b :: rest)
    (hs : Sp kc (.ref b :: As) M Ψ) (h : ∀ r M', Ψ r M' → P k (pc + 3) L (r.toList ++ rest) M' Φ) : P k pc L st M Φ := by
  intro l D ad cI cZ p e s m args below meth c A H locs ls C hL hP hS
  subst hst
  obtain ⟨⟨hme, hde, hfr, hlo⟩, hlk, hin, hse, hcl⟩ := hc
  obtain ⟨hg1, hg2⟩ := xgoodA_spec hg ad
  have hM := hs.met hme hg2 l D ad cI cZ H.size hg1
  obtain ⟨q, hq, hq1⟩ := Option.map_eq_some_iff.mp hcl
  have hFc := xfree (M := M) C hS
  have hcw : CallW (xrm k) s args k.1.cls kc.1.cls idx kc.1 kc.2.1 kc.2.2.1 kc.2.2.2.1 (xTs kc) (xrm kc) 0 0 n := by
    refine cwV n C.2.2.2.2.1 (xGI ?_) rfl rfl rfl ⟨rfl, hme.2.2.1, hme.2.2.2.1, hde⟩ ⟨hfr, hlo⟩
    intro w hw
    rcases List.mem_append.mp hw with hw | hw
    · simp only [List.mem_cons, List.not_mem_nil, or_false] at hw
      rcases hw with rfl | rfl | rfl | rfl
      · exact xTB_of hlk rfl
      · exact xTB_of hin rfl
      · exact xTB_of hse rfl
      · exact xTB_of hme.2.2.2.2 rfl
    · exact xTs_in hme w hw
  refine x_call (rest := rest.map (xcv ad)) (va_runV (As := As.map (xcv ad)) (rest := rest.map (xcv ad)) ⟨C.1, C.2.1, C.2.2.1, C.2.2.2.1, C.2.2.2.2.1⟩ hM hcw ⟨xB_blind, ?_, fun U hU hW => ⟨rfl, by rw [hU], by rw [hU]; exact hP, va_K.moved hW.alike C.2.2.2.2.2.2.2.1, C.2.2.2.2.2.2.2.2.2.2.warm hW, (C.2.2.2.2.2.2.2.2.1 M).weaken (fun _ _ _ _ => trivial)⟩⟩ rfl (by rw [List.length_map]; exact hn) hL.1 ?_ (lv_room (by rw [xcat_map]; exact Nat.le_of_ble_eq_true hrest)) hd ⟨Nat.le_refl _, Nat.le_refl _⟩) hS (fun q _ h => hFc q h) hFc (fun r M' H1 locs1 hr hP1 hS1 => ?_)
  · obtain ⟨cell, g1, g2, g3⟩ := va_recv C.2.2.2.2.2.2.2.1 hP hq (xws_at hb)
    exact ⟨cell, g1, g2, by rw [← hq1]; exact g3⟩
  · simp [F0, List.map_append, List.map_reverse, xcv]
  · have := h r M' hr l D ad cI cZ p e s m args below meth c A H1 locs1 ls C hL hP1 hS1
    have e2 : (r.toList ++ rest).map (xcv ad) = (r.map (xcv ad)).toList ++ rest.map (xcv ad) := by cases r <;> simp
    rw [e2] at this
    exact this
theorem P.callS {idx n : Nat} {As rest : List Value} (hc : xCS k kc idx n) (hd : decode k.2.1 pc = .ok (.invokestatic idx, 3)) (hn : As.length = n) (hg : xgoodA kc.2.2.1 As = true) (hrest : Nat.ble ((rest.map fun v => v.category).sum) 8 = true) (hst : st = As.reverse ++ rest)
    (hs : Sp kc As M Ψ) (h : ∀ r M', Ψ r M' → P k (pc + 3) L (r.toList ++ rest) M' Φ) : P k pc L st M Φ := by
  intro l D ad cI cZ p e s m args below meth c A H locs ls C hL hP hS
  subst hst
  obtain ⟨⟨hme, hde, hfr, hlo⟩, hlk, hsta⟩ := hc
  obtain ⟨hg1, hg2⟩ := xgoodA_spec hg ad
  have hM := hs.met hme hg2 l D ad cI cZ H.size hg1
  have hFc := xfree (M := M) C hS
  have hcw : CallB (xrm k) s args k.1.cls idx kc.1 kc.2.1 kc.2.2.1 kc.2.2.2.1 (xTs kc) (xrm kc) 0 0 n ∧ (Cond.static kc.1).before args s = true := by
    refine va_cwS n C.2.2.2.2.1 (xGI ?_) rfl rfl rfl ⟨hme.2.2.1, hme.2.2.2.1, hde⟩ ⟨hfr, hlo⟩
    intro w hw
    rcases List.mem_append.mp hw with hw | hw
    · simp only [List.mem_cons, List.not_mem_nil, or_false] at hw
      rcases hw with rfl | rfl | rfl
      · exact xTB_of hlk rfl
      · exact xTB_of hsta rfl
      · exact xTB_of hme.2.2.2.2 rfl
    · exact xTs_in hme w hw
  refine x_call (rest := rest.map (xcv ad)) (va_runS (As := As.map (xcv ad)) (rest := rest.map (xcv ad)) ⟨C.1, C.2.1, C.2.2.1, C.2.2.2.1, C.2.2.2.2.1⟩ hM hcw ⟨xB_blind, fun U hU hW => ⟨rfl, by rw [hU], by rw [hU]; exact hP, va_K.moved hW.alike C.2.2.2.2.2.2.2.1, C.2.2.2.2.2.2.2.2.2.2.warm hW, (C.2.2.2.2.2.2.2.2.1 M).weaken (fun _ _ _ _ => trivial)⟩⟩ rfl (by rw [List.length_map]; exact hn) hL.1 ?_ (lv_room (by rw [xcat_map]; exact Nat.le_of_ble_eq_true hrest)) hd ⟨Nat.le_refl _, Nat.le_refl _⟩) hS (fun q _ h => hFc q h) hFc (fun r M' H1 locs1 hr hP1 hS1 => ?_)
  · simp [F0, List.map_append, List.map_reverse]
  · have := h r M' hr l D ad cI cZ p e s m args below meth c A H1 locs1 ls C hL hP1 hS1
    have e2 : (r.toList ++ rest).map (xcv ad) = (r.map (xcv ad)).toList ++ rest.map (xcv ad) := by cases r <;> simp
    rw [e2] at this
    exact this
theorem P.callN {idx n : Nat} {As rest : List Value} (hc : xCN k kc idx n) (hd : decode k.2.1 pc = .ok (.invokestatic idx, 3)) (hn : As.length = n) (hg : xgoodA kc.2.2.1 As = true) (hrest : Nat.ble ((rest.map fun v => v.category).sum) 8 = true) (hst : st = As.reverse ++ rest)
    (hs : Sp kc As M Ψ) (h : ∀ r M', Ψ r M' → P k (pc + 3) L (r.toList ++ rest) M' Φ) : P k pc L st M Φ := by
  intro l D ad cI cZ p e s m args below meth c A H locs ls C hL hP hS
  subst hst
  obtain ⟨⟨hme, hde, hfr, hlo⟩, hlk, hsta⟩ := hc
  obtain ⟨hg1, hg2⟩ := xgoodA_spec hg ad
  have hM := hs.met hme hg2 l D ad cI cZ H.size hg1
  have hFc := xfree (M := M) C hS
  have hw' : ∀ w ∈ xTB, w.before args s = true := fun w hw => C.2.2.2.2.1 w (List.mem_cons_of_mem _ hw)
  have hcw : va_CN (xrm k) s args k.1.cls idx kc.1 "CampWeek" kc.2.1 kc.2.2.1 kc.2.2.2.1 (xTs kc) (xrm kc) 0 0 n ∧ (Cond.static kc.1).before args s = true ∧ True :=
    ⟨va_cnB n C.2.2.2.2.1 (xGI (xTs_in hme)) rfl rfl rfl (C.2.2.2.2.2.2.2.2.2.2 _ hlk) (hw' _ (xTB_of hme.2.2.2.2 rfl)) ⟨hme.2.2.1, hme.2.2.2.1, hde⟩ ⟨hfr, hlo⟩, hw' _ (xTB_of hsta rfl), trivial⟩
  refine x_call (rest := rest.map (xcv ad)) (va_runSN (As := As.map (xcv ad)) (rest := rest.map (xcv ad)) ⟨C.1, C.2.1, C.2.2.1, C.2.2.2.1, C.2.2.2.2.1⟩ hM hcw ⟨xB_blind, fun U hU hW => ⟨rfl, by rw [hU], by rw [hU]; exact hP, va_K.moved hW.alike C.2.2.2.2.2.2.2.1, C.2.2.2.2.2.2.2.2.2.2.warm hW, (C.2.2.2.2.2.2.2.2.1 M).weaken (fun _ _ _ _ => trivial)⟩⟩ rfl (by rw [List.length_map]; exact hn) hL.1 ?_ (lv_room (by rw [xcat_map]; exact Nat.le_of_ble_eq_true hrest)) hd ⟨Nat.le_refl _, Nat.le_refl _⟩) hS (fun q _ h => hFc q h) hFc (fun r M' H1 locs1 hr hP1 hS1 => ?_)
  · simp [F0, List.map_append, List.map_reverse]
  · have := h r M' hr l D ad cI cZ p e s m args below meth c A H1 locs1 ls C hL hP1 hS1
    have e2 : (r.toList ++ rest).map (xcv ad) = (r.map (xcv ad)).toList ++ rest.map (xcv ad) := by cases r <;> simp
    rw [e2] at this
    exact this
/-- Math.max, Math.abs, System.arraycopy -/
def xMX (own : String) (idx : Nat) : Prop := Cond.methodLink own idx Lib.Math.max.name ∈ lw_tbl ∧ Cond.static Lib.Math.max.name ∈ lw_tbl ∧ Cond.initialized "java/lang/Math" ∈ lw_tbl ∧ Cond.code Lib.Math.max.name Lib.Math.max.code 2 (some .int) ∈ lw_tbl
def xMA (own : String) (idx : Nat) : Prop := Cond.methodLink own idx Lib.Math.abs.name ∈ lw_tbl ∧ Cond.static Lib.Math.abs.name ∈ lw_tbl ∧ Cond.initialized "java/lang/Math" ∈ lw_tbl ∧ Cond.code Lib.Math.abs.name Lib.Math.abs.code 1 (some .int) ∈ lw_tbl
def xMC (own : String) (idx : Nat) : Prop := Cond.methodLink own idx arraycopyName ∈ lw_tbl ∧ Cond.native arraycopyName ∈ lw_tbl ∧ Cond.static arraycopyName ∈ lw_tbl ∧ Cond.initialized "java/lang/System" ∈ lw_tbl
theorem P.mmax {idx : Nat} {x y : Int32} (hc : xMX k.1.cls idx) (hd : decode k.2.1 pc = .ok (.invokestatic idx, 3)) (hrest : Nat.ble ((st.map fun v => v.category).sum) 8 = true) (hR : Nat.ble 1 k.2.2.2.2.1 = true ∧ Nat.ble 40 k.2.2.2.2.2 = true)
    (h : P k (pc + 3) L (.int (if x < y then y else x) :: st) M Φ) : P k pc L (.int y :: .int x :: st) M Φ := by
  intro l D ad cI cZ p e s m args below meth c A H locs ls C hL hP hS
  have hw' : ∀ w ∈ xTB, w.before args s = true := fun w hw => C.2.2.2.2.1 w (List.mem_cons_of_mem _ hw)
  have h1 := Nat.le_of_ble_eq_true hrest
  have h2 := Nat.le_of_ble_eq_true hR.2
  exact va_mmax C.1 C.2.1 (C.2.2.1.trans hL.1.symm) C.2.2.2.1 (hw' _ (xTB_of hc.1 rfl)) (hw' _ (xTB_of hc.2.1 rfl)) (hw' _ (xTB_of hc.2.2.1 rfl)) (hw' _ (xTB_of hc.2.2.2 rfl)) (Nat.le_of_ble_eq_true hR.1) (by rw [xcat_map]; show _ + 13 ≤ k.2.2.2.2.2; omega) (Nat.zero_le _) (Nat.zero_le _) hd (h l D ad cI cZ p e s m args below meth c A H locs ls C hL hP hS)
theorem P.mabs {idx : Nat} {x : Int32} (hc : xMA k.1.cls idx) (hd : decode k.2.1 pc = .ok (.invokestatic idx, 3)) (hrest : Nat.ble ((st.map fun v => v.category).sum) 8 = true) (hR : Nat.ble 1 k.2.2.2.2.1 = true ∧ Nat.ble 40 k.2.2.2.2.2 = true)
    (h : P k (pc + 3) L (.int (if 0 ≤ x then x else 0 - x) :: st) M Φ) : P k pc L (.int x :: st) M Φ := by
  intro l D ad cI cZ p e s m args below meth c A H locs ls C hL hP hS
  have hw' : ∀ w ∈ xTB, w.before args s = true := fun w hw => C.2.2.2.2.1 w (List.mem_cons_of_mem _ hw)
  have h1 := Nat.le_of_ble_eq_true hrest
  have h2 := Nat.le_of_ble_eq_true hR.2
  exact va_mabs C.1 C.2.1 (C.2.2.1.trans hL.1.symm) C.2.2.2.1 (hw' _ (xTB_of hc.1 rfl)) (hw' _ (xTB_of hc.2.1 rfl)) (hw' _ (xTB_of hc.2.2.1 rfl)) (hw' _ (xTB_of hc.2.2.2 rfl)) (Nat.le_of_ble_eq_true hR.1) (by rw [xcat_map]; show _ + 13 ≤ k.2.2.2.2.2; omega) (Nat.zero_le _) (Nat.zero_le _) hd (h l D ad cI cZ p e s m args below meth c A H locs ls C hL hP hS)
theorem P.copy {idx q0 q1 n0 n1 : Nat} {sp dp n : Int32} (hc : xMC k.1.cls idx) (hd : decode k.2.1 pc = .ok (.invokestatic idx, 3)) (ha0 : xsh[q0]? = some (.inl (false, n0))) (ha1 : xsh[q1]? = some (.inl (false, n1))) (hrest : Nat.ble ((st.map fun v => v.category).sum) 8 = true) (hR : Nat.ble 1 k.2.2.2.2.1 = true ∧ Nat.ble (8 + (nativeFrameWords "java/lang/System" "arraycopy" 5 + 11)) k.2.2.2.2.2 = true)
    (h1 : ¬ sp < 0) (h2 : ¬ dp < 0) (h3 : ¬ n < 0) (h4 : sp.toNatClampNeg + n.toNatClampNeg ≤ n0) (h5 : dp.toNatClampNeg + n.toNatClampNeg ≤ n1)
    (h : P k (pc + 3) L st (xw M q1 (va_cpy (M q0) (M q1) sp.toNatClampNeg dp.toNatClampNeg n.toNatClampNeg)) Φ) : P k pc L (.int n :: .int dp :: .ref q1 :: .int sp :: .ref q0 :: st) M Φ := by
  intro l D ad cI cZ p e s m args below meth c A H locs ls C hL hP hS
  have hw' : ∀ w ∈ xTB, w.before args s = true := fun w hw => C.2.2.2.2.1 w (List.mem_cons_of_mem _ hw)
  have h6 := Nat.le_of_ble_eq_true hrest
  have h7 := Nat.le_of_ble_eq_true hR.2
  refine va_copyi C.1 C.2.1 (C.2.2.1.trans hL.1.symm) C.2.2.2.1 (hw' _ (xTB_of hc.1 rfl)) (hw' _ (xTB_of hc.2.1 rfl)) (hw' _ (xTB_of hc.2.2.1 rfl)) (hw' _ (xTB_of hc.2.2.2 rfl)) C.2.2.2.2.2.2.2.1 hP (C.2.2.2.2.2.2.2.2.1 M) hS q0 q1 0 0 (xws_at ha0) (xws_at ha1) rfl rfl rfl h1 h2 h3 h4 h5 (fun i _ => rfl) (Nat.le_of_ble_eq_true hR.1) (by rw [xcat_map]; show _ ≤ k.2.2.2.2.2; omega) hd (fun H1 locs1 hP1 hD1 hS1 => ?_)
  have hP2 : va_P D vwCl (xws xsh ad cI cZ (xw M q1 (va_cpy (M q0) (M q1) sp.toNatClampNeg dp.toNatClampNeg n.toNatClampNeg))) H1 := by rw [← xws_set ha1]; exact hP1
  exact h l D ad cI cZ p e s m args below meth c A H1 locs1 ls C hL hP2 hS1
end XR2
