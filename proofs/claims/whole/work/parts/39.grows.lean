/-! THE GROWING WORLD: a constructor on its way, its rows -/
def gnestL : List (String × Nat × MethodName) := [(RX9, 9, yX3_init), (RX3, 11, yX1_init), (RX9, 18, yX8_init), (RX9, 25, yX2_init), (RX9, 46, yX5_init)]
def gNest (U : State) : Prop := ∀ q ∈ gnestL, va_Nw (.methodLinkNest q.1 q.2.1 q.2.2 "CampWeek") U
theorem gNest.warm {s U : State} (hW : s.WarmedH U.vm) (h : gNest s) : gNest U := fun q hq => va_Nw.warmM hW (h q hq)
theorem gNest.same {u U : State} (e : u.vm = U.vm) (h : gNest u) : gNest U := fun q hq => va_Nw.same rfl e (h q hq)
def grm (k : xK) (mc ms : Nat) : Room := { frames := k.2.2.2.2.1, cells := mc, slots := ms, locals := k.2.2.2.2.2 }
def gctx (k : xK) (D : va_G) (cI cZ : ClassId) (p : Program) (s : State) (m : MethodId) (args : Array Value) (meth : Method) (c : Code) (A : Nat → Prop) : Prop :=
  p.tables.exec = Jvm.exec ∧ c.code = k.2.1 ∧ c.maxLocals = k.2.2.1 ∧ s.vm.findClass k.1.cls = some m.cls ∧ (∀ w ∈ xTs k, w.before args s = true) ∧ meth.sig.returnType = k.2.2.2.1 ∧ meth.locks = false ∧ va_K D vwCl (xtys cI cZ) s ∧ meth.name = k.1.name ∧ (∀ q, s.heap.size ≤ q → A q) ∧ gNest s
def gQ (D : va_G) (ad0 : Nat → Nat) (n0 : Nat) (cI cZ : ClassId) (A : Nat → Prop) (wF : List gX) : Array Value → State → Outcome → State → Prop := fun _ st oc t =>
  (∃ ad : Nat → Nat, oc = .returned none ∧ (∀ i, i < n0 → ad i = ad0 i) ∧ va_P D vwCl (gws wF ad cI cZ) t.heap ∧ va_D A (gws wF ad cI cZ) ∧ va_K D vwCl (xtys cI cZ) t) ∧ va_F A st t
/-- from here the method of k ends, with the world wF; cs cells and sl slots are made by now -/
def G (k : xK) (mc ms n0 : Nat) (pc : Nat) (L : xL) (st : List Value) (w : List gX) (cs sl : Nat) (wF : List gX) : Prop :=
  ∀ (l : Launch) (D : va_G) (ad0 ad : Nat → Nat) (cI cZ : ClassId) (p : Program) (e : Env) (s : State) (m : MethodId) (args : Array Value) (below : List Frame) (meth : Method) (c : Code) (A : Nat → Prop) (H : Heap) (locs : List Loc) (ls : Array Slot),
    gctx k D cI cZ p s m args meth c A → (∀ i, i < n0 → ad i = ad0 i) → xLr ad k.2.2.1 ls L → va_P D vwCl (gws w ad cI cZ) H → va_D A (gws w ad cI cZ) → va_S A s.heap H locs →
    W p l e (grm k mc ms) s m args below meth c H locs cs sl (MQ below (gQ D ad0 n0 cI cZ A wF) args s mc ms A) (F0 m pc ls (st.map (xcv ad)))
/-- addresses that agree below n: the same values -/
theorem gcv_of {ad ad' : Nat → Nat} {n : Nat} (h : ∀ i, i < n → ad' i = ad i) {v : Value} (hv : gvok n v = true) : xcv ad' v = xcv ad v := by
  cases v with
  | ref k =>
    have : k < n := by simpa [gvok, Nat.blt_eq] using hv
    show Value.ref (ad' k) = Value.ref (ad k)
    rw [h k this]
  | _ => rfl
theorem gst_of {ad ad' : Nat → Nat} {n : Nat} (h : ∀ i, i < n → ad' i = ad i) {st : List Value} (hv : st.all (gvok n) = true) : st.map (xcv ad') = st.map (xcv ad) :=
  List.map_congr_left (fun v m => gcv_of h (List.all_eq_true.mp hv v m))
def gLok (n : Nat) (o : Option Value) : Bool := match o with
  | some v => gvok n v
  | none => true
theorem gL_of {ad ad' : Nat → Nat} {n N : Nat} (h : ∀ i, i < n → ad' i = ad i) {ls : Array Slot} {L : xL} (hL : xLr ad N ls L) (hv : L.all (gLok n) = true) : xLr ad' N ls L :=
  ⟨hL.1, hL.2.1, hL.2.2.1, fun i v hi => by
    rw [gcv_of h (v := v) (List.all_eq_true.mp hv (some v) (List.mem_of_getElem? hi))]
    exact hL.2.2.2 i v hi⟩
def gok (n0 n : Nat) (w : List gX) (L : xL) (st : List Value) : Bool := Nat.beq w.length n && (w.all (gxok n) && (L.all (gLok n) && (st.all (gvok n) && Nat.ble n0 n)))
theorem gok_spec {n0 n : Nat} {w : List gX} {L : xL} {st : List Value} (h : gok n0 n w L st = true) : w.length = n ∧ w.all (gxok n) = true ∧ L.all (gLok n) = true ∧ st.all (gvok n) = true ∧ n0 ≤ n := by
  simp only [gok, Bool.and_eq_true] at h
  exact ⟨Nat.eq_of_beq_eq_true h.1, h.2.1, h.2.2.1, h.2.2.2.1, Nat.le_of_ble_eq_true h.2.2.2.2⟩
theorem gup_lt {ad : Nat → Nat} {n q : Nat} : ∀ i, i < n → gup ad n q i = ad i := fun i h => if_neg (Nat.ne_of_lt h)
section GR
variable {k : xK} {mc ms n0 pc : Nat} {L : xL} {st : List Value} {w : List gX} {cs sl : Nat} {wF : List gX}
theorem G.iconst {n : Int} {v : Int32} (hd : decode k.2.1 pc = .ok (.iconst n, 1)) (hv : Int32.ofInt n = v) (h : G k mc ms n0 (pc + 1) L (.int v :: st) w cs sl wF) : G k mc ms n0 pc L st w cs sl wF := by
  intro l D ad0 ad cI cZ p e s m args below meth c A H locs ls C hg hL hP hD hS
  exact lv_iconst C.1 C.2.1 hd hv (h l D ad0 ad cI cZ p e s m args below meth c A H locs ls C hg hL hP hD hS)
theorem G.bipush {n : Int} {v : Int32} (hd : decode k.2.1 pc = .ok (.bipush n, 2)) (hv : (Int8.ofInt n).toInt32 = v) (h : G k mc ms n0 (pc + 2) L (.int v :: st) w cs sl wF) : G k mc ms n0 pc L st w cs sl wF := by
  intro l D ad0 ad cI cZ p e s m args below meth c A H locs ls C hg hL hP hD hS
  exact lv_bipush C.1 C.2.1 hd hv (h l D ad0 ad cI cZ p e s m args below meth c A H locs ls C hg hL hP hD hS)
theorem G.sipush {n : Int} {v : Int32} (hd : decode k.2.1 pc = .ok (.sipush n, 3)) (hv : (Int16.ofInt n).toInt32 = v) (h : G k mc ms n0 (pc + 3) L (.int v :: st) w cs sl wF) : G k mc ms n0 pc L st w cs sl wF := by
  intro l D ad0 ad cI cZ p e s m args below meth c A H locs ls C hg hL hP hD hS
  exact lv_sipush C.1 C.2.1 hd hv (h l D ad0 ad cI cZ p e s m args below meth c A H locs ls C hg hL hP hD hS)
theorem G.iload_n {n : Fin 4} (i : Nat) {x : Int32} (hd : decode k.2.1 pc = .ok (.iload_n n, 1)) (hi : (n : Nat) = i) (hx : L[i]? = some (some (.int x))) (h : G k mc ms n0 (pc + 1) L (.int x :: st) w cs sl wF) : G k mc ms n0 pc L st w cs sl wF := by
  intro l D ad0 ad cI cZ p e s m args below meth c A H locs ls C hg hL hP hD hS
  exact lv_iload_n C.1 C.2.1 hd hi (hL.at hx) (h l D ad0 ad cI cZ p e s m args below meth c A H locs ls C hg hL hP hD hS)
theorem G.aload_n {n : Fin 4} (i : Nat) {x : Nat} (hd : decode k.2.1 pc = .ok (.aload_n n, 1)) (hi : (n : Nat) = i) (hx : L[i]? = some (some (.ref x))) (h : G k mc ms n0 (pc + 1) L (.ref x :: st) w cs sl wF) : G k mc ms n0 pc L st w cs sl wF := by
  intro l D ad0 ad cI cZ p e s m args below meth c A H locs ls C hg hL hP hD hS
  exact lv_aload_n C.1 C.2.1 hd hi (hL.at hx) (h l D ad0 ad cI cZ p e s m args below meth c A H locs ls C hg hL hP hD hS)
theorem G.istore_n {n : Fin 4} (i : Nat) {x : Int32} (hd : decode k.2.1 pc = .ok (.istore_n n, 1)) (hi : (n : Nat) = i) (hn : i < k.2.2.1) (hok : xok L i = true) (h : G k mc ms n0 (pc + 1) (L.set i (some (.int x))) st w cs sl wF) : G k mc ms n0 pc L (.int x :: st) w cs sl wF := by
  intro l D ad0 ad cI cZ p e s m args below meth c A H locs ls C hg hL hP hD hS
  exact lv_istore_n C.1 C.2.1 hd hi hL.has hn rfl (fun ls' h' => h l D ad0 ad cI cZ p e s m args below meth c A H locs ls' C hg (hL.store1 rfl hok h') hP hD hS)
theorem G.dup (v : Value) (hd : decode k.2.1 pc = .ok (.dup, 1)) (hc : v.category = 1) (h : G k mc ms n0 (pc + 1) L (v :: v :: st) w cs sl wF) : G k mc ms n0 pc L (v :: st) w cs sl wF := by
  intro l D ad0 ad cI cZ p e s m args below meth c A H locs ls C hg hL hP hD hS
  exact lv_dup C.1 C.2.1 hd (by rw [xcv_cat]; exact hc) (h l D ad0 ad cI cZ p e s m args below meth c A H locs ls C hg hL hP hD hS)
theorem G.iinc (i : Nat) {n : Int} {x : Int32} (v : Int32) (hd : decode k.2.1 pc = .ok (.iinc i n, 3)) (hx : L[i]? = some (some (.int x))) (hv : Int32.ofInt n = v) (hn : i < k.2.2.1) (hok : xok L i = true) (h : G k mc ms n0 (pc + 3) (L.set i (some (.int (x + v)))) st w cs sl wF) : G k mc ms n0 pc L st w cs sl wF := by
  intro l D ad0 ad cI cZ p e s m args below meth c A H locs ls C hg hL hP hD hS
  obtain ⟨q, hq⟩ := List.getElem?_of_mem (xlv_mem (ad := ad) (q := (i, Value.int x)).mpr ⟨_, hx, rfl⟩)
  exact lv_iinc C.1 C.2.1 hd hL.has hq rfl hn rfl (fun ls' h' => by subst hv; exact h l D ad0 ad cI cZ p e s m args below meth c A H locs ls' C hg (hL.store1 rfl hok h') hP hD hS)
theorem G.goto {off : Int} (tgt : Nat) (hd : decode k.2.1 pc = .ok (.goto off, 3)) (ht : (pc : Int) + off = (tgt : Int)) (h : G k mc ms n0 tgt L st w cs sl wF) : G k mc ms n0 pc L st w cs sl wF := by
  intro l D ad0 ad cI cZ p e s m args below meth c A H locs ls C hg hL hP hD hS
  exact lv_goto C.1 C.2.1 hd ht (h l D ad0 ad cI cZ p e s m args below meth c A H locs ls C hg hL hP hD hS)
theorem G.icge {x y : Int32} {off : Int} (tgt : Nat) (hd : decode k.2.1 pc = .ok (.if_icmp .ge off, 3)) (ht : (pc : Int) + off = (tgt : Int)) (kt : y ≤ x → G k mc ms n0 tgt L st w cs sl wF) (kf : ¬ y ≤ x → G k mc ms n0 (pc + 3) L st w cs sl wF) : G k mc ms n0 pc L (.int y :: .int x :: st) w cs sl wF := by
  intro l D ad0 ad cI cZ p e s m args below meth c A H locs ls C hg hL hP hD hS
  exact lv_icmp_ge C.1 C.2.1 hd ht (fun q => kt q l D ad0 ad cI cZ p e s m args below meth c A H locs ls C hg hL hP hD hS) (fun q => kf q l D ad0 ad cI cZ p e s m args below meth c A H locs ls C hg hL hP hD hS)
theorem G.alen {q n : Nat} {f : Nat → Int32} (hd : decode k.2.1 pc = .ok (.arraylength, 1)) (hq : w[q]? = some (.inl (false, n, f))) (h : G k mc ms n0 (pc + 1) L (.int (nI n) :: st) w cs sl wF) : G k mc ms n0 pc L (.ref q :: st) w cs sl wF := by
  intro l D ad0 ad cI cZ p e s m args below meth c A H locs ls C hg hL hP hD hS
  exact va_alen C.1 C.2.1 C.2.2.2.2.2.2.2.1 hP q 0 (gws_at hq) rfl rfl hd (h l D ad0 ad cI cZ p e s m args below meth c A H locs ls C hg hL hP hD hS)
theorem G.iast {q n : Nat} {f : Nat → Int32} {i x : Int32} (j : Nat) (hd : decode k.2.1 pc = .ok (.iastore, 1)) (hq : w[q]? = some (.inl (false, n, f))) (hi : vp_in i n) (hj : i.toNatClampNeg = j) (h : G k mc ms n0 (pc + 1) L st (w.set q (.inl (false, n, upd f j x))) cs sl wF) : G k mc ms n0 pc L (.int x :: .int i :: .ref q :: st) w cs sl wF := by
  intro l D ad0 ad cI cZ p e s m args below meth c A H locs ls C hg hL hP hD hS
  subst hj
  refine va_iast C.1 C.2.1 C.2.2.2.2.2.2.2.1 hP hD hS q 0 (gws_at hq) rfl hi hd (fun H1 locs1 hP1 hD1 hS1 => ?_)
  refine h l D ad0 ad cI cZ p e s m args below meth c A H1 locs1 ls C hg hL ?_ ?_ hS1
  · rw [← gws_set]; exact hP1
  · rw [← gws_set]; exact hD1
theorem G.get {idx ci j q : Nat} {fs : List Value} (v : Value) (hf : xFL k.1.cls idx ci j) (hd : decode k.2.1 pc = .ok (.getfield idx, 3)) (hq : w[q]? = some (.inr (ci, fs))) (hj : fs[j]? = some v) (h : G k mc ms n0 (pc + 3) L (v :: st) w cs sl wF) : G k mc ms n0 pc L (.ref q :: st) w cs sl wF := by
  intro l D ad0 ad cI cZ p e s m args below meth c A H locs ls C hg hL hP hD hS
  obtain ⟨Cn, T, N, ty, h1, h2, h3, h4, h5, h6, h7⟩ := hf
  exact va_get (v := xcv ad v) C.1 C.2.1 C.2.2.2.2.1 (fun w hw => List.mem_cons_of_mem _ (xTB_of (h4 w hw) (h7 w hw))) C.2.2.2.1 C.2.2.2.2.2.2.2.1 hP q (gws_at hq) h1 j h2 (C.2.2.2.2.1 _ (List.mem_cons_of_mem _ (xTB_of h3 rfl))) (fun _ h9 => h9) (by rw [List.getElem?_map, hj]; rfl) hd (h l D ad0 ad cI cZ p e s m args below meth c A H locs ls C hg hL hP hD hS)
def gFP (own : String) (idx ci j : Nat) (fin : Bool) (ty : FieldType) : Prop := xFL own idx ci j ∧ ∃ (C : String) (T : u_T) (N : Nat), vwCl[ci]? = some (C, T, N) ∧ (T j).2.2.2 = fin ∧ (T j).1 = own ∧ parseFieldDescriptor (T j).2.2.1 = some ty
theorem G.put {idx ci j q : Nat} {fs : List Value} {v : Value} {fin : Bool} {ty : FieldType} (hm : k.1.name = "<init>") (hf : gFP k.1.cls idx ci j fin ty) (hn : ∀ ad, narrow ty (xcv ad v) = xcv ad v) (hfit : ∀ ad, fits ty (xcv ad v) = true) (hd : decode k.2.1 pc = .ok (.putfield idx, 3)) (hq : w[q]? = some (.inr (ci, fs))) (hj : Nat.blt j fs.length = true) (h : G k mc ms n0 (pc + 3) L st (w.set q (.inr (ci, fs.set j v))) cs sl wF) : G k mc ms n0 pc L (v :: .ref q :: st) w cs sl wF := by
  intro l D ad0 ad cI cZ p e s m args below meth c A H locs ls C hg hL hP hD hS
  obtain ⟨⟨Cn, T, N, tys, h1, h2, h3, h4, h5, h6, h7⟩, Cn', T', N', g1, g2, g0, g3⟩ := hf
  cases h1.symm.trans g1
  have eM : (fs.map (xcv ad)).set j (xcv ad v) = (fs.set j v).map (xcv ad) := by rw [List.map_set]
  have hl : j < (fs.map (xcv ad)).length := by rw [List.length_map]; exact Nat.blt_eq.mp hj
  have kk : ∀ (H1 : Heap) (locs1 : List Loc), va_P D vwCl ((gws w ad cI cZ).set q (ad q, .inr (ci, (fs.map (xcv ad)).set j (xcv ad v)))) H1 → va_D A ((gws w ad cI cZ).set q (ad q, .inr (ci, (fs.map (xcv ad)).set j (xcv ad v)))) → va_S A s.heap H1 locs1 → W p l e (grm k mc ms) s m args below meth c H1 locs1 cs sl (MQ below (gQ D ad0 n0 cI cZ A wF) args s mc ms A) (F0 m (pc + 3) ls (st.map (xcv ad))) := by
    intro H1 locs1 hP1 hD1 hS1
    rw [eM] at hP1 hD1
    have e2 : ((ad q, Sum.inr (ci, (fs.set j v).map (xcv ad))) : Nat × va_E) = (ad q, gcell ad cI cZ (.inr (ci, fs.set j v))) := rfl
    rw [e2, gws_set] at hP1 hD1
    exact h l D ad0 ad cI cZ p e s m args below meth c A H1 locs1 ls C hg hL hP1 hD1 hS1
  cases fin with
  | false => exact va_put (ty := ty) C.1 C.2.1 C.2.2.2.2.1 (fun w hw => List.mem_cons_of_mem _ (xTB_of (h4 w hw) (h7 w hw))) tys h5 h6 C.2.2.2.1 C.2.2.2.2.2.2.2.1 hP hD hS q (gws_at hq) h1 j h2 (C.2.2.2.2.1 _ (List.mem_cons_of_mem _ (xTB_of h3 rfl))) (fun _ h9 => h9) g2 g3 (hn ad) (hfit ad) hl hd kk
  | true => exact va_putF (ty := ty) C.1 C.2.1 C.2.2.2.2.1 (fun w hw => List.mem_cons_of_mem _ (xTB_of (h4 w hw) (h7 w hw))) tys h5 h6 C.2.2.2.1 C.2.2.2.2.2.2.2.1 hP hD hS q (gws_at hq) h1 j h2 (C.2.2.2.2.1 _ (List.mem_cons_of_mem _ (xTB_of h3 rfl))) (fun _ h9 => h9) g2 (C.2.2.2.2.2.2.2.2.1.trans hm) g0 g3 (hn ad) (hfit ad) hl hd kk
theorem G.vret (hd : decode k.2.1 pc = .ok (.return_, 1)) (hr : k.2.2.2.1 = none) (hc : cs = mc) (hs : sl = ms) (h : w = wF) : G k mc ms n0 pc L [] w cs sl wF := by
  intro l D ad0 ad cI cZ p e s m args below meth c A H locs ls C hg hL hP hD hS
  subst hc; subst hs; subst h
  have hlocks : meth.locks = false := C.2.2.2.2.2.2.1
  exact W.vret C.1 C.2.1 (C.2.2.2.2.2.1.trans hr) (fun t ht hW => ⟨⟨ad, rfl, hg, by rw [ht]; exact hP, hD, va_K.moved hW.alike C.2.2.2.2.2.2.2.1⟩, hS.F ht⟩) hS.2.2 hd
/-- Object.<init> -/
def gOI (own : String) (idx : Nat) : Prop := Cond.methodLink own idx Lib.objectInit ∈ lw_tbl ∧ Cond.instanceMethod Lib.objectInit ∈ lw_tbl ∧ Cond.code Lib.objectInit ⟨#[0xb1]⟩ 1 none ∈ lw_tbl
theorem G.obj {idx q : Nat} (hc : gOI k.1.cls idx) (hd : decode k.2.1 pc = .ok (.invokespecial idx, 3)) (hR : Nat.ble 1 k.2.2.2.2.1 = true ∧ Nat.ble 40 k.2.2.2.2.2 = true) (hrest : Nat.ble ((st.map fun v => v.category).sum) 8 = true) (h : G k mc ms n0 (pc + 3) L st w cs sl wF) : G k mc ms n0 pc L (.ref q :: st) w cs sl wF := by
  intro l D ad0 ad cI cZ p e s m args below meth c A H locs ls C hg hL hP hD hS
  have hw' : ∀ w ∈ xTB, w.before args s = true := fun w hw => C.2.2.2.2.1 w (List.mem_cons_of_mem _ hw)
  have h1 := Nat.le_of_ble_eq_true hR.1
  have h2 := Nat.le_of_ble_eq_true hR.2
  have h3 := Nat.le_of_ble_eq_true hrest
  refine W.objInit C.1 C.2.1 C.2.2.2.1 (hw' _ (xTB_of hc.1 rfl)) (hw' _ (xTB_of hc.2.1 rfl)) (hw' _ (xTB_of hc.2.2 rfl)) rfl (by rw [C.2.2.1]; exact hL.1) rfl hd h1 ?_ (h l D ad0 ad cI cZ p e s m args below meth c A H locs ls C hg hL hP hD hS)
  show 2 * 0 + (((st.map (xcv ad)).map fun v => v.category).sum) + 12 ≤ k.2.2.2.2.2
  rw [xcat_map]
  omega
/-- a new object -/
def gCN (own : String) (idx ci N : Nat) (fs : List Value) : Prop := ∃ (C : String) (T : u_T) (ty : Nat → FieldType), vwCl[ci]? = some (C, T, N) ∧ Cond.classLink own idx C ∈ lw_tbl ∧ Cond.instantiable C N ∈ lw_tbl ∧ Cond.initialized C ∈ lw_tbl ∧ (∀ w ∈ u_ws C T N, w ∈ lw_tbl) ∧ (∀ k, k < N → parseFieldDescriptor (T k).2.2.1 = some (ty k)) ∧ (∀ w ∈ u_ws C T N, goodWord w = true) ∧ (∀ j, j < N → defaultValue (ty j) = vp_V fs j) ∧ fs.all (fun v => match v with | .ref _ => false | _ => true) = true
theorem gnoref {ad : Nat → Nat} {fs : List Value} (h : fs.all (fun v => match v with | .ref _ => false | _ => true) = true) : fs.map (xcv ad) = fs := by
  rw [List.all_eq_true] at h
  conv => rhs; rw [← List.map_id fs]
  apply List.map_congr_left
  intro v hv
  have := h v hv
  cases v <;> first | rfl | cases this
theorem gnoref_ok {n : Nat} {ci : Nat} {fs : List Value} (h : fs.all (fun v => match v with | .ref _ => false | _ => true) = true) : gxok n (.inr (ci, fs)) = true := by
  rw [List.all_eq_true] at h
  show fs.all (gvok n) = true
  rw [List.all_eq_true]
  intro v hv
  have := h v hv
  cases v <;> first | rfl | cases this
theorem G.new {idx ci N : Nat} {fs : List Value} (n : Nat) (hc : gCN k.1.cls idx ci N fs) (hd : decode k.2.1 pc = .ok (.new idx, 3)) (hok : gok n0 n w L st = true) (hcs : Nat.ble (cs + 1) mc = true) (hsl : Nat.ble (sl + N) ms = true) (h : G k mc ms n0 (pc + 3) L (.ref n :: st) (w ++ [.inr (ci, fs)]) (cs + 1) (sl + N) wF) : G k mc ms n0 pc L st w cs sl wF := by
  intro l D ad0 ad cI cZ p e s m args below meth c A H locs ls C hg hL hP hD hS
  obtain ⟨Cn, T, ty, h1, h2, h3, h4, h5, h6, h7, h8, h9⟩ := hc
  obtain ⟨e1, e2, e3, e4, e5⟩ := gok_spec hok
  subst e1
  have hw' : ∀ w ∈ xTB, w.before args s = true := fun w hw => C.2.2.2.2.1 w (List.mem_cons_of_mem _ hw)
  refine va_new (ci := ci) (fs := fs) C.1 C.2.1 C.2.2.2.2.1 (fun w hw => List.mem_cons_of_mem _ (xTB_of (h5 w hw) (h7 w hw))) ty h6 C.2.2.2.1 (hw' _ (xTB_of h2 rfl)) (hw' _ (xTB_of h3 rfl)) (hw' _ (xTB_of h4 rfl)) C.2.2.2.2.2.2.2.1 hP hD hS C.2.2.2.2.2.2.2.2.2.1 h1 h8 (Nat.le_of_ble_eq_true hcs) (Nat.le_of_ble_eq_true hsl) hd (fun q H1 hP1 hD1 hS1 => ?_)
  have ew : gws w ad cI cZ ++ [(q, .inr (ci, fs))] = gws (w ++ [.inr (ci, fs)]) (gup ad w.length q) cI cZ := by
    rw [gws_push _ e2 (gnoref_ok h9)]
    simp only [gcell, gnoref h9]
  rw [ew] at hP1 hD1
  have := h l D ad0 (gup ad w.length q) cI cZ p e s m args below meth c A H1 locs ls C (fun i hi => by rw [gup_lt i (Nat.lt_of_lt_of_le hi e5)]; exact hg i hi) (gL_of gup_lt hL e3) hP1 hD1 hS1
  rw [List.map_cons, gst_of gup_lt e4] at this
  have e6 : xcv (gup ad w.length q) (.ref w.length) = .ref q := by simp [xcv, gup]
  rw [e6] at this
  exact this
/-- a new array of ints, or of booleans -/
theorem G.newI {n : Int32} {N : Nat} (len : Nat) (hc : Cond.arrayClass .int ∈ lw_tbl) (hd : decode k.2.1 pc = .ok (.newarray .int, 2)) (hn : ¬ n < 0) (hN : n.toNatClampNeg = N) (hb : Nat.ble N 100000 = true) (hok : gok n0 len w L st = true) (hcs : Nat.ble (cs + 1) mc = true) (hsl : Nat.ble (sl + N) ms = true) (h : G k mc ms n0 (pc + 2) L (.ref len :: st) (w ++ [.inl (false, N, fun _ => 0)]) (cs + 1) (sl + N) wF) : G k mc ms n0 pc L (.int n :: st) w cs sl wF := by
  intro l D ad0 ad cI cZ p e s m args below meth c A H locs ls C hg hL hP hD hS
  obtain ⟨e1, e2, e3, e4, e5⟩ := gok_spec hok
  subst e1
  have hb' := Nat.le_of_ble_eq_true hb
  have hw' : ∀ w ∈ xTB, w.before args s = true := fun w hw => C.2.2.2.2.1 w (List.mem_cons_of_mem _ hw)
  refine va_newa (atype := .int) (a0 := (N, .inl (fun _ => 0))) (ty := .int) C.1 C.2.1 (hw' _ (xTB_of hc rfl)) rfl C.2.2.2.2.2.2.2.1 hP hD hS C.2.2.2.2.2.2.2.2.2.1 (fun cA => vp_cell_i cA N _) hn hN (by show N * 4 ≤ 536870912; omega) (Nat.le_of_ble_eq_true hcs) (Nat.le_of_ble_eq_true hsl) hd (fun q cA H1 hK1 hP1 hD1 hS1 => ?_)
  have ec : cA = cI := by
    have a1 : s.vm.findClass _ = some cA := (hK1.2 2 (cA, .int) rfl).2
    have a2 : s.vm.findClass _ = some cI := (C.2.2.2.2.2.2.2.1.2 0 (cI, .int) rfl).2
    exact Option.some.inj (a1.symm.trans a2)
  subst ec
  have ew : gws w ad cA cZ ++ [(q, .inl (cA, N, .inl (fun _ => 0)))] = gws (w ++ [.inl (false, N, fun _ => 0)]) (gup ad w.length q) cA cZ := by
    rw [gws_push _ e2 rfl]
    rfl
  rw [ew] at hP1 hD1
  have := h l D ad0 (gup ad w.length q) cA cZ p e s m args below meth c A H1 locs ls C (fun i hi => by rw [gup_lt i (Nat.lt_of_lt_of_le hi e5)]; exact hg i hi) (gL_of gup_lt hL e3) hP1 hD1 hS1
  rw [List.map_cons, gst_of gup_lt e4] at this
  have e6 : xcv (gup ad w.length q) (.ref w.length) = .ref q := by simp [xcv, gup]
  rw [e6] at this
  exact this
theorem G.newZ {n : Int32} {N : Nat} (len : Nat) (hc : Cond.arrayClass .boolean ∈ lw_tbl) (hd : decode k.2.1 pc = .ok (.newarray .boolean, 2)) (hn : ¬ n < 0) (hN : n.toNatClampNeg = N) (hb : Nat.ble N 100000 = true) (hok : gok n0 len w L st = true) (hcs : Nat.ble (cs + 1) mc = true) (hsl : Nat.ble (sl + N) ms = true) (h : G k mc ms n0 (pc + 2) L (.ref len :: st) (w ++ [.inl (true, N, fun _ => 0)]) (cs + 1) (sl + N) wF) : G k mc ms n0 pc L (.int n :: st) w cs sl wF := by
  intro l D ad0 ad cI cZ p e s m args below meth c A H locs ls C hg hL hP hD hS
  obtain ⟨e1, e2, e3, e4, e5⟩ := gok_spec hok
  subst e1
  have hb' := Nat.le_of_ble_eq_true hb
  have hw' : ∀ w ∈ xTB, w.before args s = true := fun w hw => C.2.2.2.2.1 w (List.mem_cons_of_mem _ hw)
  refine va_newa (atype := .boolean) (a0 := (N, .inl (fun _ => 0))) (ty := .boolean) C.1 C.2.1 (hw' _ (xTB_of hc rfl)) rfl C.2.2.2.2.2.2.2.1 hP hD hS C.2.2.2.2.2.2.2.2.2.1 (fun cA => vp_cell_i cA N _) hn hN (by show N * 1 ≤ 536870912; omega) (Nat.le_of_ble_eq_true hcs) (Nat.le_of_ble_eq_true hsl) hd (fun q cA H1 hK1 hP1 hD1 hS1 => ?_)
  have ec : cA = cZ := by
    have a1 : s.vm.findClass _ = some cA := (hK1.2 2 (cA, .boolean) rfl).2
    have a2 : s.vm.findClass _ = some cZ := (C.2.2.2.2.2.2.2.1.2 1 (cZ, .boolean) rfl).2
    exact Option.some.inj (a1.symm.trans a2)
  subst ec
  have ew : gws w ad cI cA ++ [(q, .inl (cA, N, .inl (fun _ => 0)))] = gws (w ++ [.inl (true, N, fun _ => 0)]) (gup ad w.length q) cI cA := by
    rw [gws_push _ e2 rfl]
    rfl
  rw [ew] at hP1 hD1
  have := h l D ad0 (gup ad w.length q) cI cA p e s m args below meth c A H1 locs ls C (fun i hi => by rw [gup_lt i (Nat.lt_of_lt_of_le hi e5)]; exact hg i hi) (gL_of gup_lt hL e3) hP1 hD1 hS1
  rw [List.map_cons, gst_of gup_lt e4] at this
  have e6 : xcv (gup ad w.length q) (.ref w.length) = .ref q := by simp [xcv, gup]
  rw [e6] at this
  exact this
end GR
