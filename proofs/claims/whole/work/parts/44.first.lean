/-! THE FIRST WORLD: what the two constructors leave, as the world of both sides at its start -/
def gfm : List Value → List (Option Nat) → Bool
  | [], [] => true
  | .int _ :: a, none :: b => gfm a b
  | .ref q :: a, some r :: b => Nat.beq q r && gfm a b
  | _, _ => false
def gmc : gX → xS → Bool
  | .inl (z, n, _), .inl (z', n') => (z == z') && Nat.beq n n'
  | .inr (ci, fs), .inr (ci', fs') => Nat.beq ci ci' && gfm fs fs'
  | _, _ => false
def gmw : List gX → List xS → Bool
  | [], [] => true
  | x :: a, y :: b => gmc x y && gmw a b
  | _, _ => false
def gfv (fs : List Value) (i : Nat) : Int32 := match fs[i]? with
  | some (.int v) => v
  | _ => 0
def gxv : gX → Nat → Int32
  | .inl (_, _, f) => f
  | .inr (_, fs) => gfv fs
def gM (w : List gX) : xM := fun k => match w[k]? with
  | some x => gxv x
  | none => fun _ => 0
theorem gfm_spec {ad : Nat → Nat} : ∀ (fs : List Value) (sh : List (Option Nat)) (f : Nat → Int32) (j : Nat), gfm fs sh = true → (∀ i, f (j + i) = gfv fs i) → fs.map (xcv ad) = xfs ad f j sh
  | [], [], f, j, _, _ => rfl
  | [], _ :: _, f, j, h, _ => by simp [gfm] at h
  | v :: a, [], f, j, h, _ => by cases v <;> simp [gfm] at h
  | .int v :: a, none :: b, f, j, h, hf => by
    have h0 := hf 0
    rw [Nat.add_zero] at h0
    have e0 : gfv (.int v :: a) 0 = v := rfl
    rw [e0] at h0
    simp only [gfm] at h
    have ih := gfm_spec (ad := ad) a b f (j + 1) h (fun i => by
      have := hf (i + 1)
      rw [show j + (i + 1) = j + 1 + i by omega] at this
      rw [this]; rfl)
    rw [List.map_cons, ih, xfs, h0]; rfl
  | .ref q :: a, some r :: b, f, j, h, hf => by
    simp only [gfm, Bool.and_eq_true] at h
    have e := Nat.eq_of_beq_eq_true h.1
    subst e
    have ih := gfm_spec (ad := ad) a b f (j + 1) h.2 (fun i => by
      have := hf (i + 1)
      rw [show j + (i + 1) = j + 1 + i by omega] at this
      rw [this]; rfl)
    rw [List.map_cons, ih, xfs]; rfl
  | .int v :: a, some r :: b, f, j, h, _ => by simp [gfm] at h
  | .ref v :: a, none :: b, f, j, h, _ => by simp [gfm] at h
  | .null :: a, c :: b, f, j, h, _ => by cases c <;> simp [gfm] at h
  | .long v :: a, c :: b, f, j, h, _ => by cases c <;> simp [gfm] at h
  | .float v :: a, c :: b, f, j, h, _ => by cases c <;> simp [gfm] at h
  | .double v :: a, c :: b, f, j, h, _ => by cases c <;> simp [gfm] at h
  | .retAddr v :: a, c :: b, f, j, h, _ => by cases c <;> simp [gfm] at h
theorem gmc_spec {ad : Nat → Nat} {cI cZ : ClassId} {x : gX} {y : xS} {f : Nat → Int32} (h : gmc x y = true) (hf : ∀ i, f i = gxv x i) : gcell ad cI cZ x = xcell ad cI cZ f y := by
  match x, y, h, hf with
  | .inl (z, n, g), .inl (z', n'), h, hf =>
    simp only [gmc, Bool.and_eq_true, beq_iff_eq] at h
    obtain ⟨h1, h2⟩ := h
    have h2 := Nat.eq_of_beq_eq_true h2
    subst h1; subst h2
    have : f = g := funext hf
    subst this
    rfl
  | .inr (ci, fs), .inr (ci', fs'), h, hf =>
    simp only [gmc, Bool.and_eq_true] at h
    have h1 := Nat.eq_of_beq_eq_true h.1
    subst h1
    simp only [gcell, xcell]
    rw [gfm_spec fs fs' f 0 h.2 (fun i => by rw [Nat.zero_add]; exact hf i)]
  | .inl _, .inr _, h, _ => simp [gmc] at h
  | .inr _, .inl _, h, _ => simp [gmc] at h
theorem gmw_at : ∀ (w : List gX) (sh : List xS), gmw w sh = true → w.length = sh.length ∧ ∀ (i : Nat) (x : gX) (y : xS), w[i]? = some x → sh[i]? = some y → gmc x y = true
  | [], [], _ => ⟨rfl, fun i x y h => by simp at h⟩
  | [], _ :: _, h => by simp [gmw] at h
  | _ :: _, [], h => by simp [gmw] at h
  | a :: w, b :: sh, h => by
    simp only [gmw, Bool.and_eq_true] at h
    have ih := gmw_at w sh h.2
    refine ⟨by simp [ih.1], fun i x y h1 h2 => ?_⟩
    cases i with
    | zero => simp at h1 h2; subst h1; subst h2; exact h.1
    | succ i => exact ih.2 i x y (by simpa using h1) (by simpa using h2)
theorem gmw_spec {w : List gX} {sh : List xS} (h : gmw w sh = true) (ad : Nat → Nat) (cI cZ : ClassId) : gws w ad cI cZ = xws sh ad cI cZ (gM w) := by
  obtain ⟨h1, h2⟩ := gmw_at w sh h
  apply List.ext_getElem?
  intro i
  simp only [gws, xws, List.getElem?_mapIdx]
  by_cases hi : i < w.length
  · have hi2 : i < sh.length := by omega
    rw [List.getElem?_eq_getElem hi, List.getElem?_eq_getElem hi2]
    simp only [Option.map_some, Option.some.injEq, Prod.mk.injEq, true_and]
    refine gmc_spec (h2 i _ _ (List.getElem?_eq_getElem hi) (List.getElem?_eq_getElem hi2)) (fun k => ?_)
    simp only [gM, List.getElem?_eq_getElem hi]
  · rw [List.getElem?_eq_none (by omega), List.getElem?_eq_none (by omega)]
    rfl
set_option maxRecDepth 100000 in
theorem gmw_0 : gmw go_X10 xsh = true := by decide +kernel
def zN : Nat → Nat := fun _ => 0
def gM0 : xM := gM go_X10
set_option maxRecDepth 100000 in
theorem gRX : RX zN gM0 gM0 := ⟨fun _ _ => rfl, fun _ _ => rfl, by
  have : ∀ q ∈ xCnt, gM0 q.1 q.2.1 = nI 0 := by decide +kernel
  exact this⟩
theorem gfill4 : upd (upd (upd (upd (fun _ => (0 : Int32)) 0 (-1)) 1 (-1)) 2 (-1)) 3 (-1) = (fun j => if j < 4 then (-1) else (fun _ => (0 : Int32)) j) := by
  funext j
  simp only [upd]
  repeat' split
  all_goals first | rfl | omega
set_option maxRecDepth 100000 in
theorem gArrM : ∀ q ∈ xArrM, gM0 q.1 = gM0 q.2 := by
  intro q hq
  simp only [xArrM, List.mem_cons, List.not_mem_nil, or_false] at hq
  rcases hq with rfl | rfl | rfl | rfl | rfl | rfl | rfl | rfl | rfl | rfl | rfl | rfl | rfl | rfl | rfl | rfl | rfl | rfl | rfl | rfl | rfl | rfl | rfl | rfl
  all_goals first | exact (rfl : gM0 _ = gM0 _) | exact gfill4
set_option maxRecDepth 100000 in
theorem gRM : RM zN gM0 gM0 := ⟨gArrM, by decide +kernel, by
  have : ∀ q ∈ xCntM, gM0 46 q.1 = nI 0 := by decide +kernel
  exact this, fun j h => absurd h (Nat.not_lt_zero j), by
  have : ∀ j, j < 6 → gM0 62 j = gM0 27 j := by decide +kernel
  exact this, by
  have : ∀ g, g < 4 → gM0 35 g = 0 ∧ gM0 36 g = -1 ∧ gM0 71 g = 18 ∧ gM0 72 g = -1 := by decide +kernel
  exact fun g h => Or.inr (this g h)⟩
set_option maxRecDepth 100000 in
theorem gIv : Iv zN gM0 := by
  have n0 : ∀ h, ¬ h < zN 0 := fun h => Nat.not_lt_zero h
  have a11 : ∀ p, p < 24 → gM0 11 p = -1 := by decide +kernel
  have a12 : ∀ p, p < 24 → gM0 12 (24 * p + p) = 2 := by decide +kernel
  have k1 : 0 ≤ gM0 13 0 ∧ gM0 13 0 ≤ 200 ∧ 0 ≤ gM0 13 1 ∧ gM0 13 1 ≤ 200 ∧ 0 ≤ gM0 19 0 ∧ gM0 19 0 ≤ 50 := by decide +kernel
  have s1 : ∀ h, h < 6 → 0 ≤ gM0 27 h ∧ gM0 27 h ≤ 500 := by decide +kernel
  have s2 : gM0 27 6 = 1000 := by decide +kernel
  have s3 : ∀ p, p < 24 → gM0 30 p = nI 0 := by decide +kernel
  have c1 : ∀ g, g < 4 → gM0 35 g = 0 ∧ gM0 36 g = -1 := by decide +kernel
  have w1 : ∀ s, s < 4 → (-1 ≤ gM0 43 s ∧ gM0 43 s ≤ 2) ∧ gM0 44 s = nI 0 := by decide +kernel
  refine ⟨⟨Nat.zero_le _, Nat.zero_le _, fun h q => absurd q (Nat.not_lt_zero h), fun h q => absurd q (Nat.not_lt_zero h), fun h q => absurd q (Nat.not_lt_zero h), fun p _ q => a11 p q, a12⟩, ⟨Nat.zero_le _, k1⟩, ⟨Nat.zero_le _, fun h q => absurd q (Nat.not_lt_zero h), s1, s2, fun p q => ⟨0, Nat.zero_le _, s3 p q, fun k z => absurd z (Nat.not_lt_zero k)⟩⟩, ⟨Nat.zero_le _, fun h q => absurd q (Nat.not_lt_zero h), fun h q => absurd q (Nat.not_lt_zero h), fun g q => Or.inl (c1 g q), fun g k q _ _ => Or.inr (Or.inl (c1 g q).2)⟩, ⟨Nat.zero_le _, fun h q => absurd q (Nat.not_lt_zero h)⟩, fun s q => ⟨(w1 s q).1, 0, Nat.zero_le _, (w1 s q).2⟩⟩
