/-! truth values as ints; indices as numbers; calls by arity and by what comes back -/
noncomputable def bI (q : Prop) : Int32 := @ite _ q (Classical.propDecidable q) 1 0
theorem bI_t {q : Prop} (h : q) : bI q = 1 := if_pos h
theorem bI_f {q : Prop} (h : ¬ q) : bI q = 0 := if_neg h
theorem bI_0 {q : Prop} : bI q = 0 ↔ ¬ q := by
  by_cases h : q
  · rw [bI_t h]; exact ⟨fun e => absurd e (by decide), fun e => absurd h e⟩
  · rw [bI_f h]; exact ⟨fun _ => h, fun _ => rfl⟩
theorem bI_1 {q : Prop} : bI q = 1 ↔ q := by
  by_cases h : q
  · rw [bI_t h]; exact ⟨fun _ => h, fun _ => rfl⟩
  · rw [bI_f h]; exact ⟨fun e => absurd e (by decide), fun e => absurd e h⟩
theorem bI_c {q r : Prop} (h : q ↔ r) : bI q = bI r := by rw [propext h]
theorem bI_n (q : Prop) : narrow .boolean (.int (bI q)) = .int (bI q) := by
  by_cases h : q
  · rw [bI_t h]; decide
  · rw [bI_f h]; decide
theorem bI_v (q : Prop) : vp_nar .boolean (bI q) = bI q := by
  by_cases h : q
  · rw [bI_t h]; decide
  · rw [bI_f h]; decide
/-- a pure call with an int answer -/
def SpF (k : xK) (vs : List Value) (M : xM) (v : Int32) : Prop := Sp k vs M (fun r M' => r = some (.int v) ∧ M' = M)
def SpI (k : xK) (vs : List Value) (M : xM) (Ψ : Int32 → xM → Prop) : Prop := Sp k vs M (fun r M' => ∃ v, r = some (.int v) ∧ Ψ v M')
def SpL (k : xK) (vs : List Value) (M : xM) (Ψ : Int64 → xM → Prop) : Prop := Sp k vs M (fun r M' => ∃ v, r = some (.long v) ∧ Ψ v M')
def SpV (k : xK) (vs : List Value) (M : xM) (Ψ : xM → Prop) : Prop := Sp k vs M (fun r M' => r = none ∧ Ψ M')
theorem SpF.val {k : xK} {vs : List Value} {M : xM} {v w : Int32} (h : SpF k vs M v) (e : v = w) : SpF k vs M w := e ▸ h
theorem P.imp {k : xK} {pc : Nat} {L : xL} {st : List Value} {M : xM} {Φ Ψ : Option Value → xM → Prop} (h : P k pc L st M Φ) (i : ∀ r M', Φ r M' → Ψ r M') : P k pc L st M Ψ := by
  intro l D ad cI cZ p e s m args below meth c A H locs ls C hL hP hS T hT X
  obtain ⟨t, a, o, b1, b2, ⟨⟨r, M', q1, q2, q3⟩, q4⟩, b4⟩ := h l D ad cI cZ p e s m args below meth c A H locs ls C hL hP hS T hT X
  exact ⟨t, a, o, b1, b2, ⟨⟨r, M', q1, i r M' q2, q3⟩, q4⟩, b4⟩
theorem SpF.toI {k : xK} {vs : List Value} {M : xM} {v : Int32} (h : SpF k vs M v) : SpI k vs M (fun r M' => r = v ∧ M' = M) := P.imp h (fun r M' q => ⟨v, q.1, rfl, q.2⟩)
theorem SpI.imp {k : xK} {vs : List Value} {M : xM} {Φ Ψ : Int32 → xM → Prop} (h : SpI k vs M Φ) (i : ∀ r M', Φ r M' → Ψ r M') : SpI k vs M Ψ := P.imp h (fun r M' ⟨v, q1, q2⟩ => ⟨v, q1, i v M' q2⟩)
theorem SpV.imp {k : xK} {vs : List Value} {M : xM} {Φ Ψ : xM → Prop} (h : SpV k vs M Φ) (i : ∀ M', Φ M' → Ψ M') : SpV k vs M Ψ := P.imp h (fun r M' ⟨q1, q2⟩ => ⟨q1, i M' q2⟩)
section XR3
variable {k kc : xK} {pc : Nat} {L : xL} {st rest : List Value} {M : xM} {Φ : Option Value → xM → Prop}
theorem P.ifeqB {q : Prop} {off : Int} (tgt : Nat) (hd : decode k.2.1 pc = .ok (.ifCond .eq off, 3)) (ht : (pc : Int) + off = (tgt : Int)) (kt : ¬ q → P k tgt L st M Φ) (kf : q → P k (pc + 3) L st M Φ) : P k pc L (.int (bI q) :: st) M Φ :=
  P.ifeq tgt hd ht (fun h => kt (bI_0.mp h)) (fun h => kf (Classical.byContradiction fun h2 => h (bI_0.mpr h2)))
theorem P.ifneB {q : Prop} {off : Int} (tgt : Nat) (hd : decode k.2.1 pc = .ok (.ifCond .ne off, 3)) (ht : (pc : Int) + off = (tgt : Int)) (kt : q → P k tgt L st M Φ) (kf : ¬ q → P k (pc + 3) L st M Φ) : P k pc L (.int (bI q) :: st) M Φ :=
  P.ifne tgt hd ht (fun h => kt (Classical.byContradiction fun h2 => h (bI_0.mpr h2))) (fun h => kf (bI_0.mp h))
theorem P.zretB {q : Prop} (hd : decode k.2.1 pc = .ok (.ireturn, 1)) (hr : k.2.2.2.1 = some .boolean) (h : Φ (some (.int (bI q))) M) : P k pc L [.int (bI q)] M Φ := P.zret hd hr (bI_n q) h
theorem P.iaN {q n : Nat} {i : Int32} (j : Nat) (hd : decode k.2.1 pc = .ok (.iaload, 1)) (hq : xsh[q]? = some (.inl (false, n))) (hn : Nat.ble n 5000 = true) (hi : i = nI j) (hj : j < n) (h : P k (pc + 1) L (.int (M q j) :: st) M Φ) : P k pc L (.int i :: .ref q :: st) M Φ := by
  subst hi
  have hn' := Nat.le_of_ble_eq_true hn
  refine P.iald hd hq (vp_in_nI hj (by omega)) ?_
  rw [nI_clamp (by omega)]
  exact h
theorem P.zaN {q n : Nat} {i : Int32} (j : Nat) (hd : decode k.2.1 pc = .ok (.baload, 1)) (hq : xsh[q]? = some (.inl (true, n))) (hn : Nat.ble n 5000 = true) (hi : i = nI j) (hj : j < n) (h : P k (pc + 1) L (.int (M q j) :: st) M Φ) : P k pc L (.int i :: .ref q :: st) M Φ := by
  subst hi
  have hn' := Nat.le_of_ble_eq_true hn
  refine P.zald hd hq (vp_in_nI hj (by omega)) ?_
  rw [nI_clamp (by omega)]
  exact h
theorem P.isN {q n : Nat} {i x : Int32} (j : Nat) (hd : decode k.2.1 pc = .ok (.iastore, 1)) (hq : xsh[q]? = some (.inl (false, n))) (hn : Nat.ble n 5000 = true) (hi : i = nI j) (hj : j < n) (h : P k (pc + 1) L st (xw M q (upd (M q) j x)) Φ) : P k pc L (.int x :: .int i :: .ref q :: st) M Φ := by
  subst hi
  have hn' := Nat.le_of_ble_eq_true hn
  refine P.iast hd hq (vp_in_nI hj (by omega)) ?_
  rw [nI_clamp (by omega)]
  exact h
theorem P.zsN {q n : Nat} {i : Int32} {b : Prop} (j : Nat) (hd : decode k.2.1 pc = .ok (.bastore, 1)) (hq : xsh[q]? = some (.inl (true, n))) (hn : Nat.ble n 5000 = true) (hi : i = nI j) (hj : j < n) (h : P k (pc + 1) L st (xw M q (upd (M q) j (bI b))) Φ) : P k pc L (.int (bI b) :: .int i :: .ref q :: st) M Φ := by
  subst hi
  have hn' := Nat.le_of_ble_eq_true hn
  refine P.zast hd hq (vp_in_nI hj (by omega)) ?_
  rw [nI_clamp (by omega), bI_v]
  exact h
theorem nT {n : Nat} (h : n < 2147483648) : (Lean.Grind.ToInt.toInt (nI n) : Int) = n := nI_toInt h
theorem nlit (n : Nat) : (OfNat.ofNat n : Int32) = nI n := rfl
theorem xw_ap (M : xM) (k : Nat) (f : Nat → Int32) (q : Nat) : xw M k f q = if q = k then f else M q := rfl
theorem upd_ap (f : Nat → Int32) (k : Nat) (x : Int32) (j : Nat) : upd f k x j = if j = k then x else f j := rfl
/-- p is one of the first n numbers -/
def xin (n : Nat) (v : Int32) : Prop := ∃ j : Nat, j < n ∧ v = nI j
theorem xin_iff {n : Nat} (hn : n < 2 ^ 31) (v : Int32) : xin n v ↔ 0 ≤ v ∧ v ≤ nI n - 1 := by
  have e1 : ∀ a b : Int32, a ≤ b ↔ a.toInt ≤ b.toInt := fun a b => Int32.le_iff_toInt_le
  cases n with
  | zero =>
    constructor
    · rintro ⟨j, hj, -⟩; omega
    · rintro ⟨h1, h2⟩
      rw [e1] at h1 h2
      have h3 : (nI 0 - 1 : Int32).toInt = -1 := by decide
      have h4 : (0 : Int32).toInt = 0 := by decide
      omega
  | succ n =>
    rw [nI_pred, e1, e1, nI_toInt (by omega)]
    have h4 : (0 : Int32).toInt = 0 := by decide
    constructor
    · rintro ⟨j, hj, rfl⟩
      rw [nI_toInt (by omega)]; omega
    · rintro ⟨h1, h2⟩
      refine ⟨v.toInt.toNat, by omega, ?_⟩
      apply Int32.toInt_inj.mp
      rw [nI_toInt (by omega)]; omega
theorem xin_nat {lo : Nat} (hi : Nat) {v : Int32} (h1 : nI lo ≤ v) (h2 : v ≤ nI hi) (hb : hi < 2 ^ 31) (hl : lo < 2 ^ 31) : ∃ j : Nat, lo ≤ j ∧ j ≤ hi ∧ v = nI j := by
  have e1 : ∀ a b : Int32, a ≤ b ↔ a.toInt ≤ b.toInt := fun a b => Int32.le_iff_toInt_le
  rw [e1, nI_toInt (by omega)] at h1 h2
  refine ⟨v.toInt.toNat, by omega, by omega, ?_⟩
  apply Int32.toInt_inj.mp
  rw [nI_toInt (by omega)]; omega
theorem xt {q : Prop} (h : q) : some (Value.int 1) = some (.int (bI q)) ∧ M = M := ⟨by rw [bI_t h], rfl⟩
theorem xf {q : Prop} (h : ¬ q) : some (Value.int 0) = some (.int (bI q)) ∧ M = M := ⟨by rw [bI_f h], rfl⟩
theorem P.V0F {idx ci b : Nat} {fs : List (Option Nat)} (hc : xCV k kc idx ci 0) (hd : decode k.2.1 pc = .ok (.invokevirtual idx, 3)) (hb : xsh[b]? = some (.inr (ci, fs))) (hg : xgoodA kc.2.2.1 [.ref b] = true) (hr : Nat.ble ((rest.map fun v => v.category).sum) 8 = true) {v : Int32} (hs : SpF kc [.ref b] M v) (h : P k (pc + 3) L (.int v :: rest) M Φ) : P k pc L (.ref b :: rest) M Φ :=
  P.callV (As := []) hc hd hb rfl hg hr rfl hs (fun r M' q => by obtain ⟨rfl, rfl⟩ := q; exact h)
theorem P.V0I {idx ci b : Nat} {fs : List (Option Nat)} (hc : xCV k kc idx ci 0) (hd : decode k.2.1 pc = .ok (.invokevirtual idx, 3)) (hb : xsh[b]? = some (.inr (ci, fs))) (hg : xgoodA kc.2.2.1 [.ref b] = true) (hr : Nat.ble ((rest.map fun v => v.category).sum) 8 = true) {Ψ : Int32 → xM → Prop} (hs : SpI kc [.ref b] M Ψ) (h : ∀ v M', Ψ v M' → P k (pc + 3) L (.int v :: rest) M' Φ) : P k pc L (.ref b :: rest) M Φ :=
  P.callV (As := []) hc hd hb rfl hg hr rfl hs (fun r M' q => by obtain ⟨v, rfl, q⟩ := q; exact h v M' q)
theorem P.V0V {idx ci b : Nat} {fs : List (Option Nat)} (hc : xCV k kc idx ci 0) (hd : decode k.2.1 pc = .ok (.invokevirtual idx, 3)) (hb : xsh[b]? = some (.inr (ci, fs))) (hg : xgoodA kc.2.2.1 [.ref b] = true) (hr : Nat.ble ((rest.map fun v => v.category).sum) 8 = true) {Ψ : xM → Prop} (hs : SpV kc [.ref b] M Ψ) (h : ∀ M', Ψ M' → P k (pc + 3) L rest M' Φ) : P k pc L (.ref b :: rest) M Φ :=
  P.callV (As := []) hc hd hb rfl hg hr rfl hs (fun r M' q => by obtain ⟨rfl, q⟩ := q; exact h M' q)
theorem P.V1F {idx ci b : Nat} {fs : List (Option Nat)} {a1 : Value} (hc : xCV k kc idx ci 1) (hd : decode k.2.1 pc = .ok (.invokevirtual idx, 3)) (hb : xsh[b]? = some (.inr (ci, fs))) (hg : xgoodA kc.2.2.1 [.ref b, a1] = true) (hr : Nat.ble ((rest.map fun v => v.category).sum) 8 = true) {v : Int32} (hs : SpF kc [.ref b, a1] M v) (h : P k (pc + 3) L (.int v :: rest) M Φ) : P k pc L (a1 :: .ref b :: rest) M Φ :=
  P.callV (As := [a1]) hc hd hb rfl hg hr rfl hs (fun r M' q => by obtain ⟨rfl, rfl⟩ := q; exact h)
theorem P.V1I {idx ci b : Nat} {fs : List (Option Nat)} {a1 : Value} (hc : xCV k kc idx ci 1) (hd : decode k.2.1 pc = .ok (.invokevirtual idx, 3)) (hb : xsh[b]? = some (.inr (ci, fs))) (hg : xgoodA kc.2.2.1 [.ref b, a1] = true) (hr : Nat.ble ((rest.map fun v => v.category).sum) 8 = true) {Ψ : Int32 → xM → Prop} (hs : SpI kc [.ref b, a1] M Ψ) (h : ∀ v M', Ψ v M' → P k (pc + 3) L (.int v :: rest) M' Φ) : P k pc L (a1 :: .ref b :: rest) M Φ :=
  P.callV (As := [a1]) hc hd hb rfl hg hr rfl hs (fun r M' q => by obtain ⟨v, rfl, q⟩ := q; exact h v M' q)
theorem P.V1V {idx ci b : Nat} {fs : List (Option Nat)} {a1 : Value} (hc : xCV k kc idx ci 1) (hd : decode k.2.1 pc = .ok (.invokevirtual idx, 3)) (hb : xsh[b]? = some (.inr (ci, fs))) (hg : xgoodA kc.2.2.1 [.ref b, a1] = true) (hr : Nat.ble ((rest.map fun v => v.category).sum) 8 = true) {Ψ : xM → Prop} (hs : SpV kc [.ref b, a1] M Ψ) (h : ∀ M', Ψ M' → P k (pc + 3) L rest M' Φ) : P k pc L (a1 :: .ref b :: rest) M Φ :=
  P.callV (As := [a1]) hc hd hb rfl hg hr rfl hs (fun r M' q => by obtain ⟨rfl, q⟩ := q; exact h M' q)
theorem P.V2F {idx ci b : Nat} {fs : List (Option Nat)} {a1 a2 : Value} (hc : xCV k kc idx ci 2) (hd : decode k.2.1 pc = .ok (.invokevirtual idx, 3)) (hb : xsh[b]? = some (.inr (ci, fs))) (hg : xgoodA kc.2.2.1 [.ref b, a1, a2] = true) (hr : Nat.ble ((rest.map fun v => v.category).sum) 8 = true) {v : Int32} (hs : SpF kc [.ref b, a1, a2] M v) (h : P k (pc + 3) L (.int v :: rest) M Φ) : P k pc L (a2 :: a1 :: .ref b :: rest) M Φ :=
  P.callV (As := [a1, a2]) hc hd hb rfl hg hr rfl hs (fun r M' q => by obtain ⟨rfl, rfl⟩ := q; exact h)
theorem P.V2I {idx ci b : Nat} {fs : List (Option Nat)} {a1 a2 : Value} (hc : xCV k kc idx ci 2) (hd : decode k.2.1 pc = .ok (.invokevirtual idx, 3)) (hb : xsh[b]? = some (.inr (ci, fs))) (hg : xgoodA kc.2.2.1 [.ref b, a1, a2] = true) (hr : Nat.ble ((rest.map fun v => v.category).sum) 8 = true) {Ψ : Int32 → xM → Prop} (hs : SpI kc [.ref b, a1, a2] M Ψ) (h : ∀ v M', Ψ v M' → P k (pc + 3) L (.int v :: rest) M' Φ) : P k pc L (a2 :: a1 :: .ref b :: rest) M Φ :=
  P.callV (As := [a1, a2]) hc hd hb rfl hg hr rfl hs (fun r M' q => by obtain ⟨v, rfl, q⟩ := q; exact h v M' q)
theorem P.V2V {idx ci b : Nat} {fs : List (Option Nat)} {a1 a2 : Value} (hc : xCV k kc idx ci 2) (hd : decode k.2.1 pc = .ok (.invokevirtual idx, 3)) (hb : xsh[b]? = some (.inr (ci, fs))) (hg : xgoodA kc.2.2.1 [.ref b, a1, a2] = true) (hr : Nat.ble ((rest.map fun v => v.category).sum) 8 = true) {Ψ : xM → Prop} (hs : SpV kc [.ref b, a1, a2] M Ψ) (h : ∀ M', Ψ M' → P k (pc + 3) L rest M' Φ) : P k pc L (a2 :: a1 :: .ref b :: rest) M Φ :=
  P.callV (As := [a1, a2]) hc hd hb rfl hg hr rfl hs (fun r M' q => by obtain ⟨rfl, q⟩ := q; exact h M' q)
theorem P.V3F {idx ci b : Nat} {fs : List (Option Nat)} {a1 a2 a3 : Value} (hc : xCV k kc idx ci 3) (hd : decode k.2.1 pc = .ok (.invokevirtual idx, 3)) (hb : xsh[b]? = some (.inr (ci, fs))) (hg : xgoodA kc.2.2.1 [.ref b, a1, a2, a3] = true) (hr : Nat.ble ((rest.map fun v => v.category).sum) 8 = true) {v : Int32} (hs : SpF kc [.ref b, a1, a2, a3] M v) (h : P k (pc + 3) L (.int v :: rest) M Φ) : P k pc L (a3 :: a2 :: a1 :: .ref b :: rest) M Φ :=
  P.callV (As := [a1, a2, a3]) hc hd hb rfl hg hr rfl hs (fun r M' q => by obtain ⟨rfl, rfl⟩ := q; exact h)
theorem P.V3I {idx ci b : Nat} {fs : List (Option Nat)} {a1 a2 a3 : Value} (hc : xCV k kc idx ci 3) (hd : decode k.2.1 pc = .ok (.invokevirtual idx, 3)) (hb : xsh[b]? = some (.inr (ci, fs))) (hg : xgoodA kc.2.2.1 [.ref b, a1, a2, a3] = true) (hr : Nat.ble ((rest.map fun v => v.category).sum) 8 = true) {Ψ : Int32 → xM → Prop} (hs : SpI kc [.ref b, a1, a2, a3] M Ψ) (h : ∀ v M', Ψ v M' → P k (pc + 3) L (.int v :: rest) M' Φ) : P k pc L (a3 :: a2 :: a1 :: .ref b :: rest) M Φ :=
  P.callV (As := [a1, a2, a3]) hc hd hb rfl hg hr rfl hs (fun r M' q => by obtain ⟨v, rfl, q⟩ := q; exact h v M' q)
theorem P.V3V {idx ci b : Nat} {fs : List (Option Nat)} {a1 a2 a3 : Value} (hc : xCV k kc idx ci 3) (hd : decode k.2.1 pc = .ok (.invokevirtual idx, 3)) (hb : xsh[b]? = some (.inr (ci, fs))) (hg : xgoodA kc.2.2.1 [.ref b, a1, a2, a3] = true) (hr : Nat.ble ((rest.map fun v => v.category).sum) 8 = true) {Ψ : xM → Prop} (hs : SpV kc [.ref b, a1, a2, a3] M Ψ) (h : ∀ M', Ψ M' → P k (pc + 3) L rest M' Φ) : P k pc L (a3 :: a2 :: a1 :: .ref b :: rest) M Φ :=
  P.callV (As := [a1, a2, a3]) hc hd hb rfl hg hr rfl hs (fun r M' q => by obtain ⟨rfl, q⟩ := q; exact h M' q)
theorem P.V4F {idx ci b : Nat} {fs : List (Option Nat)} {a1 a2 a3 a4 : Value} (hc : xCV k kc idx ci 4) (hd : decode k.2.1 pc = .ok (.invokevirtual idx, 3)) (hb : xsh[b]? = some (.inr (ci, fs))) (hg : xgoodA kc.2.2.1 [.ref b, a1, a2, a3, a4] = true) (hr : Nat.ble ((rest.map fun v => v.category).sum) 8 = true) {v : Int32} (hs : SpF kc [.ref b, a1, a2, a3, a4] M v) (h : P k (pc + 3) L (.int v :: rest) M Φ) : P k pc L (a4 :: a3 :: a2 :: a1 :: .ref b :: rest) M Φ :=
  P.callV (As := [a1, a2, a3, a4]) hc hd hb rfl hg hr rfl hs (fun r M' q => by obtain ⟨rfl, rfl⟩ := q; exact h)
theorem P.V4I {idx ci b : Nat} {fs : List (Option Nat)} {a1 a2 a3 a4 : Value} (hc : xCV k kc idx ci 4) (hd : decode k.2.1 pc = .ok (.invokevirtual idx, 3)) (hb : xsh[b]? = some (.inr (ci, fs))) (hg : xgoodA kc.2.2.1 [.ref b, a1, a2, a3, a4] = true) (hr : Nat.ble ((rest.map fun v => v.category).sum) 8 = true) {Ψ : Int32 → xM → Prop} (hs : SpI kc [.ref b, a1, a2, a3, a4] M Ψ) (h : ∀ v M', Ψ v M' → P k (pc + 3) L (.int v :: rest) M' Φ) : P k pc L (a4 :: a3 :: a2 :: a1 :: .ref b :: rest) M Φ :=
  P.callV (As := [a1, a2, a3, a4]) hc hd hb rfl hg hr rfl hs (fun r M' q => by obtain ⟨v, rfl, q⟩ := q; exact h v M' q)
theorem P.V4V {idx ci b : Nat} {fs : List (Option Nat)} {a1 a2 a3 a4 : Value} (hc : xCV k kc idx ci 4) (hd : decode k.2.1 pc = .ok (.invokevirtual idx, 3)) (hb : xsh[b]? = some (.inr (ci, fs))) (hg : xgoodA kc.2.2.1 [.ref b, a1, a2, a3, a4] = true) (hr : Nat.ble ((rest.map fun v => v.category).sum) 8 = true) {Ψ : xM → Prop} (hs : SpV kc [.ref b, a1, a2, a3, a4] M Ψ) (h : ∀ M', Ψ M' → P k (pc + 3) L rest M' Φ) : P k pc L (a4 :: a3 :: a2 :: a1 :: .ref b :: rest) M Φ :=
  P.callV (As := [a1, a2, a3, a4]) hc hd hb rfl hg hr rfl hs (fun r M' q => by obtain ⟨rfl, q⟩ := q; exact h M' q)
theorem P.V5F {idx ci b : Nat} {fs : List (Option Nat)} {a1 a2 a3 a4 a5 : Value} (hc : xCV k kc idx ci 5) (hd : decode k.2.1 pc = .ok (.invokevirtual idx, 3)) (hb : xsh[b]? = some (.inr (ci, fs))) (hg : xgoodA kc.2.2.1 [.ref b, a1, a2, a3, a4, a5] = true) (hr : Nat.ble ((rest.map fun v => v.category).sum) 8 = true) {v : Int32} (hs : SpF kc [.ref b, a1, a2, a3, a4, a5] M v) (h : P k (pc + 3) L (.int v :: rest) M Φ) : P k pc L (a5 :: a4 :: a3 :: a2 :: a1 :: .ref b :: rest) M Φ :=
  P.callV (As := [a1, a2, a3, a4, a5]) hc hd hb rfl hg hr rfl hs (fun r M' q => by obtain ⟨rfl, rfl⟩ := q; exact h)
theorem P.V5I {idx ci b : Nat} {fs : List (Option Nat)} {a1 a2 a3 a4 a5 : Value} (hc : xCV k kc idx ci 5) (hd : decode k.2.1 pc = .ok (.invokevirtual idx, 3)) (hb : xsh[b]? = some (.inr (ci, fs))) (hg : xgoodA kc.2.2.1 [.ref b, a1, a2, a3, a4, a5] = true) (hr : Nat.ble ((rest.map fun v => v.category).sum) 8 = true) {Ψ : Int32 → xM → Prop} (hs : SpI kc [.ref b, a1, a2, a3, a4, a5] M Ψ) (h : ∀ v M', Ψ v M' → P k (pc + 3) L (.int v :: rest) M' Φ) : P k pc L (a5 :: a4 :: a3 :: a2 :: a1 :: .ref b :: rest) M Φ :=
  P.callV (As := [a1, a2, a3, a4, a5]) hc hd hb rfl hg hr rfl hs (fun r M' q => by obtain ⟨v, rfl, q⟩ := q; exact h v M' q)
theorem P.V5V {idx ci b : Nat} {fs : List (Option Nat)} {a1 a2 a3 a4 a5 : Value} (hc : xCV k kc idx ci 5) (hd : decode k.2.1 pc = .ok (.invokevirtual idx, 3)) (hb : xsh[b]? = some (.inr (ci, fs))) (hg : xgoodA kc.2.2.1 [.ref b, a1, a2, a3, a4, a5] = true) (hr : Nat.ble ((rest.map fun v => v.category).sum) 8 = true) {Ψ : xM → Prop} (hs : SpV kc [.ref b, a1, a2, a3, a4, a5] M Ψ) (h : ∀ M', Ψ M' → P k (pc + 3) L rest M' Φ) : P k pc L (a5 :: a4 :: a3 :: a2 :: a1 :: .ref b :: rest) M Φ :=
  P.callV (As := [a1, a2, a3, a4, a5]) hc hd hb rfl hg hr rfl hs (fun r M' q => by obtain ⟨rfl, q⟩ := q; exact h M' q)
theorem P.S1F {idx : Nat} {a1 : Value} (hc : xCS k kc idx 1) (hd : decode k.2.1 pc = .ok (.invokestatic idx, 3)) (hg : xgoodA kc.2.2.1 [a1] = true) (hr : Nat.ble ((rest.map fun v => v.category).sum) 8 = true) {v : Int32} (hs : SpF kc [a1] M v) (h : P k (pc + 3) L (.int v :: rest) M Φ) : P k pc L (a1 :: rest) M Φ :=
  P.callS (As := [a1]) hc hd rfl hg hr rfl hs (fun r M' q => by obtain ⟨rfl, rfl⟩ := q; exact h)
theorem P.S1I {idx : Nat} {a1 : Value} (hc : xCS k kc idx 1) (hd : decode k.2.1 pc = .ok (.invokestatic idx, 3)) (hg : xgoodA kc.2.2.1 [a1] = true) (hr : Nat.ble ((rest.map fun v => v.category).sum) 8 = true) {Ψ : Int32 → xM → Prop} (hs : SpI kc [a1] M Ψ) (h : ∀ v M', Ψ v M' → P k (pc + 3) L (.int v :: rest) M' Φ) : P k pc L (a1 :: rest) M Φ :=
  P.callS (As := [a1]) hc hd rfl hg hr rfl hs (fun r M' q => by obtain ⟨v, rfl, q⟩ := q; exact h v M' q)
theorem P.S1V {idx : Nat} {a1 : Value} (hc : xCS k kc idx 1) (hd : decode k.2.1 pc = .ok (.invokestatic idx, 3)) (hg : xgoodA kc.2.2.1 [a1] = true) (hr : Nat.ble ((rest.map fun v => v.category).sum) 8 = true) {Ψ : xM → Prop} (hs : SpV kc [a1] M Ψ) (h : ∀ M', Ψ M' → P k (pc + 3) L rest M' Φ) : P k pc L (a1 :: rest) M Φ :=
  P.callS (As := [a1]) hc hd rfl hg hr rfl hs (fun r M' q => by obtain ⟨rfl, q⟩ := q; exact h M' q)
theorem P.S2F {idx : Nat} {a1 a2 : Value} (hc : xCS k kc idx 2) (hd : decode k.2.1 pc = .ok (.invokestatic idx, 3)) (hg : xgoodA kc.2.2.1 [a1, a2] = true) (hr : Nat.ble ((rest.map fun v => v.category).sum) 8 = true) {v : Int32} (hs : SpF kc [a1, a2] M v) (h : P k (pc + 3) L (.int v :: rest) M Φ) : P k pc L (a2 :: a1 :: rest) M Φ :=
  P.callS (As := [a1, a2]) hc hd rfl hg hr rfl hs (fun r M' q => by obtain ⟨rfl, rfl⟩ := q; exact h)
theorem P.S2I {idx : Nat} {a1 a2 : Value} (hc : xCS k kc idx 2) (hd : decode k.2.1 pc = .ok (.invokestatic idx, 3)) (hg : xgoodA kc.2.2.1 [a1, a2] = true) (hr : Nat.ble ((rest.map fun v => v.category).sum) 8 = true) {Ψ : Int32 → xM → Prop} (hs : SpI kc [a1, a2] M Ψ) (h : ∀ v M', Ψ v M' → P k (pc + 3) L (.int v :: rest) M' Φ) : P k pc L (a2 :: a1 :: rest) M Φ :=
  P.callS (As := [a1, a2]) hc hd rfl hg hr rfl hs (fun r M' q => by obtain ⟨v, rfl, q⟩ := q; exact h v M' q)
theorem P.S2V {idx : Nat} {a1 a2 : Value} (hc : xCS k kc idx 2) (hd : decode k.2.1 pc = .ok (.invokestatic idx, 3)) (hg : xgoodA kc.2.2.1 [a1, a2] = true) (hr : Nat.ble ((rest.map fun v => v.category).sum) 8 = true) {Ψ : xM → Prop} (hs : SpV kc [a1, a2] M Ψ) (h : ∀ M', Ψ M' → P k (pc + 3) L rest M' Φ) : P k pc L (a2 :: a1 :: rest) M Φ :=
  P.callS (As := [a1, a2]) hc hd rfl hg hr rfl hs (fun r M' q => by obtain ⟨rfl, q⟩ := q; exact h M' q)
theorem P.S3F {idx : Nat} {a1 a2 a3 : Value} (hc : xCS k kc idx 3) (hd : decode k.2.1 pc = .ok (.invokestatic idx, 3)) (hg : xgoodA kc.2.2.1 [a1, a2, a3] = true) (hr : Nat.ble ((rest.map fun v => v.category).sum) 8 = true) {v : Int32} (hs : SpF kc [a1, a2, a3] M v) (h : P k (pc + 3) L (.int v :: rest) M Φ) : P k pc L (a3 :: a2 :: a1 :: rest) M Φ :=
  P.callS (As := [a1, a2, a3]) hc hd rfl hg hr rfl hs (fun r M' q => by obtain ⟨rfl, rfl⟩ := q; exact h)
theorem P.S3I {idx : Nat} {a1 a2 a3 : Value} (hc : xCS k kc idx 3) (hd : decode k.2.1 pc = .ok (.invokestatic idx, 3)) (hg : xgoodA kc.2.2.1 [a1, a2, a3] = true) (hr : Nat.ble ((rest.map fun v => v.category).sum) 8 = true) {Ψ : Int32 → xM → Prop} (hs : SpI kc [a1, a2, a3] M Ψ) (h : ∀ v M', Ψ v M' → P k (pc + 3) L (.int v :: rest) M' Φ) : P k pc L (a3 :: a2 :: a1 :: rest) M Φ :=
  P.callS (As := [a1, a2, a3]) hc hd rfl hg hr rfl hs (fun r M' q => by obtain ⟨v, rfl, q⟩ := q; exact h v M' q)
theorem P.S3V {idx : Nat} {a1 a2 a3 : Value} (hc : xCS k kc idx 3) (hd : decode k.2.1 pc = .ok (.invokestatic idx, 3)) (hg : xgoodA kc.2.2.1 [a1, a2, a3] = true) (hr : Nat.ble ((rest.map fun v => v.category).sum) 8 = true) {Ψ : xM → Prop} (hs : SpV kc [a1, a2, a3] M Ψ) (h : ∀ M', Ψ M' → P k (pc + 3) L rest M' Φ) : P k pc L (a3 :: a2 :: a1 :: rest) M Φ :=
  P.callS (As := [a1, a2, a3]) hc hd rfl hg hr rfl hs (fun r M' q => by obtain ⟨rfl, q⟩ := q; exact h M' q)
theorem P.S4F {idx : Nat} {a1 a2 a3 a4 : Value} (hc : xCS k kc idx 4) (hd : decode k.2.1 pc = .ok (.invokestatic idx, 3)) (hg : xgoodA kc.2.2.1 [a1, a2, a3, a4] = true) (hr : Nat.ble ((rest.map fun v => v.category).sum) 8 = true) {v : Int32} (hs : SpF kc [a1, a2, a3, a4] M v) (h : P k (pc + 3) L (.int v :: rest) M Φ) : P k pc L (a4 :: a3 :: a2 :: a1 :: rest) M Φ :=
  P.callS (As := [a1, a2, a3, a4]) hc hd rfl hg hr rfl hs (fun r M' q => by obtain ⟨rfl, rfl⟩ := q; exact h)
theorem P.S4I {idx : Nat} {a1 a2 a3 a4 : Value} (hc : xCS k kc idx 4) (hd : decode k.2.1 pc = .ok (.invokestatic idx, 3)) (hg : xgoodA kc.2.2.1 [a1, a2, a3, a4] = true) (hr : Nat.ble ((rest.map fun v => v.category).sum) 8 = true) {Ψ : Int32 → xM → Prop} (hs : SpI kc [a1, a2, a3, a4] M Ψ) (h : ∀ v M', Ψ v M' → P k (pc + 3) L (.int v :: rest) M' Φ) : P k pc L (a4 :: a3 :: a2 :: a1 :: rest) M Φ :=
  P.callS (As := [a1, a2, a3, a4]) hc hd rfl hg hr rfl hs (fun r M' q => by obtain ⟨v, rfl, q⟩ := q; exact h v M' q)
theorem P.S4V {idx : Nat} {a1 a2 a3 a4 : Value} (hc : xCS k kc idx 4) (hd : decode k.2.1 pc = .ok (.invokestatic idx, 3)) (hg : xgoodA kc.2.2.1 [a1, a2, a3, a4] = true) (hr : Nat.ble ((rest.map fun v => v.category).sum) 8 = true) {Ψ : xM → Prop} (hs : SpV kc [a1, a2, a3, a4] M Ψ) (h : ∀ M', Ψ M' → P k (pc + 3) L rest M' Φ) : P k pc L (a4 :: a3 :: a2 :: a1 :: rest) M Φ :=
  P.callS (As := [a1, a2, a3, a4]) hc hd rfl hg hr rfl hs (fun r M' q => by obtain ⟨rfl, q⟩ := q; exact h M' q)
theorem P.S5F {idx : Nat} {a1 a2 a3 a4 a5 : Value} (hc : xCS k kc idx 5) (hd : decode k.2.1 pc = .ok (.invokestatic idx, 3)) (hg : xgoodA kc.2.2.1 [a1, a2, a3, a4, a5] = true) (hr : Nat.ble ((rest.map fun v => v.category).sum) 8 = true) {v : Int32} (hs : SpF kc [a1, a2, a3, a4, a5] M v) (h : P k (pc + 3) L (.int v :: rest) M Φ) : P k pc L (a5 :: a4 :: a3 :: a2 :: a1 :: rest) M Φ :=
  P.callS (As := [a1, a2, a3, a4, a5]) hc hd rfl hg hr rfl hs (fun r M' q => by obtain ⟨rfl, rfl⟩ := q; exact h)
theorem P.S5I {idx : Nat} {a1 a2 a3 a4 a5 : Value} (hc : xCS k kc idx 5) (hd : decode k.2.1 pc = .ok (.invokestatic idx, 3)) (hg : xgoodA kc.2.2.1 [a1, a2, a3, a4, a5] = true) (hr : Nat.ble ((rest.map fun v => v.category).sum) 8 = true) {Ψ : Int32 → xM → Prop} (hs : SpI kc [a1, a2, a3, a4, a5] M Ψ) (h : ∀ v M', Ψ v M' → P k (pc + 3) L (.int v :: rest) M' Φ) : P k pc L (a5 :: a4 :: a3 :: a2 :: a1 :: rest) M Φ :=
  P.callS (As := [a1, a2, a3, a4, a5]) hc hd rfl hg hr rfl hs (fun r M' q => by obtain ⟨v, rfl, q⟩ := q; exact h v M' q)
theorem P.S5V {idx : Nat} {a1 a2 a3 a4 a5 : Value} (hc : xCS k kc idx 5) (hd : decode k.2.1 pc = .ok (.invokestatic idx, 3)) (hg : xgoodA kc.2.2.1 [a1, a2, a3, a4, a5] = true) (hr : Nat.ble ((rest.map fun v => v.category).sum) 8 = true) {Ψ : xM → Prop} (hs : SpV kc [a1, a2, a3, a4, a5] M Ψ) (h : ∀ M', Ψ M' → P k (pc + 3) L rest M' Φ) : P k pc L (a5 :: a4 :: a3 :: a2 :: a1 :: rest) M Φ :=
  P.callS (As := [a1, a2, a3, a4, a5]) hc hd rfl hg hr rfl hs (fun r M' q => by obtain ⟨rfl, q⟩ := q; exact h M' q)
theorem P.N1F {idx : Nat} {a1 : Value} (hc : xCN k kc idx 1) (hd : decode k.2.1 pc = .ok (.invokestatic idx, 3)) (hg : xgoodA kc.2.2.1 [a1] = true) (hr : Nat.ble ((rest.map fun v => v.category).sum) 8 = true) {v : Int32} (hs : SpF kc [a1] M v) (h : P k (pc + 3) L (.int v :: rest) M Φ) : P k pc L (a1 :: rest) M Φ :=
  P.callN (As := [a1]) hc hd rfl hg hr rfl hs (fun r M' q => by obtain ⟨rfl, rfl⟩ := q; exact h)
theorem P.N1I {idx : Nat} {a1 : Value} (hc : xCN k kc idx 1) (hd : decode k.2.1 pc = .ok (.invokestatic idx, 3)) (hg : xgoodA kc.2.2.1 [a1] = true) (hr : Nat.ble ((rest.map fun v => v.category).sum) 8 = true) {Ψ : Int32 → xM → Prop} (hs : SpI kc [a1] M Ψ) (h : ∀ v M', Ψ v M' → P k (pc + 3) L (.int v :: rest) M' Φ) : P k pc L (a1 :: rest) M Φ :=
  P.callN (As := [a1]) hc hd rfl hg hr rfl hs (fun r M' q => by obtain ⟨v, rfl, q⟩ := q; exact h v M' q)
theorem P.N1V {idx : Nat} {a1 : Value} (hc : xCN k kc idx 1) (hd : decode k.2.1 pc = .ok (.invokestatic idx, 3)) (hg : xgoodA kc.2.2.1 [a1] = true) (hr : Nat.ble ((rest.map fun v => v.category).sum) 8 = true) {Ψ : xM → Prop} (hs : SpV kc [a1] M Ψ) (h : ∀ M', Ψ M' → P k (pc + 3) L rest M' Φ) : P k pc L (a1 :: rest) M Φ :=
  P.callN (As := [a1]) hc hd rfl hg hr rfl hs (fun r M' q => by obtain ⟨rfl, q⟩ := q; exact h M' q)
theorem P.N2F {idx : Nat} {a1 a2 : Value} (hc : xCN k kc idx 2) (hd : decode k.2.1 pc = .ok (.invokestatic idx, 3)) (hg : xgoodA kc.2.2.1 [a1, a2] = true) (hr : Nat.ble ((rest.map fun v => v.category).sum) 8 = true) {v : Int32} (hs : SpF kc [a1, a2] M v) (h : P k (pc + 3) L (.int v :: rest) M Φ) : P k pc L (a2 :: a1 :: rest) M Φ :=
  P.callN (As := [a1, a2]) hc hd rfl hg hr rfl hs (fun r M' q => by obtain ⟨rfl, rfl⟩ := q; exact h)
theorem P.N2I {idx : Nat} {a1 a2 : Value} (hc : xCN k kc idx 2) (hd : decode k.2.1 pc = .ok (.invokestatic idx, 3)) (hg : xgoodA kc.2.2.1 [a1, a2] = true) (hr : Nat.ble ((rest.map fun v => v.category).sum) 8 = true) {Ψ : Int32 → xM → Prop} (hs : SpI kc [a1, a2] M Ψ) (h : ∀ v M', Ψ v M' → P k (pc + 3) L (.int v :: rest) M' Φ) : P k pc L (a2 :: a1 :: rest) M Φ :=
  P.callN (As := [a1, a2]) hc hd rfl hg hr rfl hs (fun r M' q => by obtain ⟨v, rfl, q⟩ := q; exact h v M' q)
theorem P.N2V {idx : Nat} {a1 a2 : Value} (hc : xCN k kc idx 2) (hd : decode k.2.1 pc = .ok (.invokestatic idx, 3)) (hg : xgoodA kc.2.2.1 [a1, a2] = true) (hr : Nat.ble ((rest.map fun v => v.category).sum) 8 = true) {Ψ : xM → Prop} (hs : SpV kc [a1, a2] M Ψ) (h : ∀ M', Ψ M' → P k (pc + 3) L rest M' Φ) : P k pc L (a2 :: a1 :: rest) M Φ :=
  P.callN (As := [a1, a2]) hc hd rfl hg hr rfl hs (fun r M' q => by obtain ⟨rfl, q⟩ := q; exact h M' q)
theorem P.N3F {idx : Nat} {a1 a2 a3 : Value} (hc : xCN k kc idx 3) (hd : decode k.2.1 pc = .ok (.invokestatic idx, 3)) (hg : xgoodA kc.2.2.1 [a1, a2, a3] = true) (hr : Nat.ble ((rest.map fun v => v.category).sum) 8 = true) {v : Int32} (hs : SpF kc [a1, a2, a3] M v) (h : P k (pc + 3) L (.int v :: rest) M Φ) : P k pc L (a3 :: a2 :: a1 :: rest) M Φ :=
  P.callN (As := [a1, a2, a3]) hc hd rfl hg hr rfl hs (fun r M' q => by obtain ⟨rfl, rfl⟩ := q; exact h)
theorem P.N3I {idx : Nat} {a1 a2 a3 : Value} (hc : xCN k kc idx 3) (hd : decode k.2.1 pc = .ok (.invokestatic idx, 3)) (hg : xgoodA kc.2.2.1 [a1, a2, a3] = true) (hr : Nat.ble ((rest.map fun v => v.category).sum) 8 = true) {Ψ : Int32 → xM → Prop} (hs : SpI kc [a1, a2, a3] M Ψ) (h : ∀ v M', Ψ v M' → P k (pc + 3) L (.int v :: rest) M' Φ) : P k pc L (a3 :: a2 :: a1 :: rest) M Φ :=
  P.callN (As := [a1, a2, a3]) hc hd rfl hg hr rfl hs (fun r M' q => by obtain ⟨v, rfl, q⟩ := q; exact h v M' q)
theorem P.N3V {idx : Nat} {a1 a2 a3 : Value} (hc : xCN k kc idx 3) (hd : decode k.2.1 pc = .ok (.invokestatic idx, 3)) (hg : xgoodA kc.2.2.1 [a1, a2, a3] = true) (hr : Nat.ble ((rest.map fun v => v.category).sum) 8 = true) {Ψ : xM → Prop} (hs : SpV kc [a1, a2, a3] M Ψ) (h : ∀ M', Ψ M' → P k (pc + 3) L rest M' Φ) : P k pc L (a3 :: a2 :: a1 :: rest) M Φ :=
  P.callN (As := [a1, a2, a3]) hc hd rfl hg hr rfl hs (fun r M' q => by obtain ⟨rfl, q⟩ := q; exact h M' q)
theorem P.N4F {idx : Nat} {a1 a2 a3 a4 : Value} (hc : xCN k kc idx 4) (hd : decode k.2.1 pc = .ok (.invokestatic idx, 3)) (hg : xgoodA kc.2.2.1 [a1, a2, a3, a4] = true) (hr : Nat.ble ((rest.map fun v => v.category).sum) 8 = true) {v : Int32} (hs : SpF kc [a1, a2, a3, a4] M v) (h : P k (pc + 3) L (.int v :: rest) M Φ) : P k pc L (a4 :: a3 :: a2 :: a1 :: rest) M Φ :=
  P.callN (As := [a1, a2, a3, a4]) hc hd rfl hg hr rfl hs (fun r M' q => by obtain ⟨rfl, rfl⟩ := q; exact h)
theorem P.N4I {idx : Nat} {a1 a2 a3 a4 : Value} (hc : xCN k kc idx 4) (hd : decode k.2.1 pc = .ok (.invokestatic idx, 3)) (hg : xgoodA kc.2.2.1 [a1, a2, a3, a4] = true) (hr : Nat.ble ((rest.map fun v => v.category).sum) 8 = true) {Ψ : Int32 → xM → Prop} (hs : SpI kc [a1, a2, a3, a4] M Ψ) (h : ∀ v M', Ψ v M' → P k (pc + 3) L (.int v :: rest) M' Φ) : P k pc L (a4 :: a3 :: a2 :: a1 :: rest) M Φ :=
  P.callN (As := [a1, a2, a3, a4]) hc hd rfl hg hr rfl hs (fun r M' q => by obtain ⟨v, rfl, q⟩ := q; exact h v M' q)
theorem P.N4V {idx : Nat} {a1 a2 a3 a4 : Value} (hc : xCN k kc idx 4) (hd : decode k.2.1 pc = .ok (.invokestatic idx, 3)) (hg : xgoodA kc.2.2.1 [a1, a2, a3, a4] = true) (hr : Nat.ble ((rest.map fun v => v.category).sum) 8 = true) {Ψ : xM → Prop} (hs : SpV kc [a1, a2, a3, a4] M Ψ) (h : ∀ M', Ψ M' → P k (pc + 3) L rest M' Φ) : P k pc L (a4 :: a3 :: a2 :: a1 :: rest) M Φ :=
  P.callN (As := [a1, a2, a3, a4]) hc hd rfl hg hr rfl hs (fun r M' q => by obtain ⟨rfl, q⟩ := q; exact h M' q)
theorem P.N5F {idx : Nat} {a1 a2 a3 a4 a5 : Value} (hc : xCN k kc idx 5) (hd : decode k.2.1 pc = .ok (.invokestatic idx, 3)) (hg : xgoodA kc.2.2.1 [a1, a2, a3, a4, a5] = true) (hr : Nat.ble ((rest.map fun v => v.category).sum) 8 = true) {v : Int32} (hs : SpF kc [a1, a2, a3, a4, a5] M v) (h : P k (pc + 3) L (.int v :: rest) M Φ) : P k pc L (a5 :: a4 :: a3 :: a2 :: a1 :: rest) M Φ :=
  P.callN (As := [a1, a2, a3, a4, a5]) hc hd rfl hg hr rfl hs (fun r M' q => by obtain ⟨rfl, rfl⟩ := q; exact h)
theorem P.N5I {idx : Nat} {a1 a2 a3 a4 a5 : Value} (hc : xCN k kc idx 5) (hd : decode k.2.1 pc = .ok (.invokestatic idx, 3)) (hg : xgoodA kc.2.2.1 [a1, a2, a3, a4, a5] = true) (hr : Nat.ble ((rest.map fun v => v.category).sum) 8 = true) {Ψ : Int32 → xM → Prop} (hs : SpI kc [a1, a2, a3, a4, a5] M Ψ) (h : ∀ v M', Ψ v M' → P k (pc + 3) L (.int v :: rest) M' Φ) : P k pc L (a5 :: a4 :: a3 :: a2 :: a1 :: rest) M Φ :=
  P.callN (As := [a1, a2, a3, a4, a5]) hc hd rfl hg hr rfl hs (fun r M' q => by obtain ⟨v, rfl, q⟩ := q; exact h v M' q)
theorem P.N5V {idx : Nat} {a1 a2 a3 a4 a5 : Value} (hc : xCN k kc idx 5) (hd : decode k.2.1 pc = .ok (.invokestatic idx, 3)) (hg : xgoodA kc.2.2.1 [a1, a2, a3, a4, a5] = true) (hr : Nat.ble ((rest.map fun v => v.category).sum) 8 = true) {Ψ : xM → Prop} (hs : SpV kc [a1, a2, a3, a4, a5] M Ψ) (h : ∀ M', Ψ M' → P k (pc + 3) L rest M' Φ) : P k pc L (a5 :: a4 :: a3 :: a2 :: a1 :: rest) M Φ :=
  P.callN (As := [a1, a2, a3, a4, a5]) hc hd rfl hg hr rfl hs (fun r M' q => by obtain ⟨rfl, q⟩ := q; exact h M' q)
end XR3
