/-! THE GROWING WORLD: calls -/
def Gs (k : xK) (vs : List Value) (w : List gX) (mc ms : Nat) (wF : List gX) : Prop := G k mc ms w.length 0 (xargs k.2.2.1 vs) [] w 0 0 wF
def gB (D : va_G) (ad : Nat → Nat) (cI cZ : ClassId) (w : List gX) (sz : Nat) : State → Prop := fun U => U.heap.size = sz ∧ va_P D vwCl (gws w ad cI cZ) U.heap ∧ va_K D vwCl (xtys cI cZ) U ∧ gNest U ∧ va_D (fun _ => True) (gws w ad cI cZ)
theorem gB_blind {D : va_G} {ad : Nat → Nat} {cI cZ : ClassId} {w : List gX} {sz : Nat} {vs : List Value} : FrameBlind (va_Pc vs (gB D ad cI cZ w sz)) := by
  intro a U g mk q
  obtain ⟨q0, q1, qP, qK, qN, qD⟩ := q
  exact ⟨q0, q1, qP, va_K.moved (u := U) (U := U.calling g mk a) (Vm.Alike.refl U.vm) qK, gNest.same rfl qN, qD⟩
theorem Gs.met {k : xK} {vs : List Value} {w wF : List gX} {mc ms : Nat} (h : Gs k vs w mc ms wF) (hk : xMeth k) (hd : ∀ u ∈ vs, ∀ z, u ≠ .double z) (l : Launch) (D : va_G) (ad : Nat → Nat) (cI cZ : ClassId) (sz : Nat) (hn : (lg_sl (vs.map (xcv ad))).length ≤ k.2.2.1) :
    Met l k.1 (xTs k) (grm k mc ms) (va_Pc (vs.map (xcv ad)) (gB D ad cI cZ w sz)) (gQ D ad w.length cI cZ (va_A (gws w ad cI cZ) sz) wF) mc ms (va_A (gws w ad cI cZ) sz) := by
  refine Met.ofW (cc := k.2.1) (maxL := k.2.2.1) (ret := k.2.2.2.1) hk.2.1 rfl ?_
  intro p e s m args below meth c s₁ B hml hv
  obtain ⟨rfl, hsz, hP, hK, hN, hD0⟩ := hv
  have hts := atoms_spec (ws := xTs k) B.pre
  have hown : s.vm.findClass k.1.cls = some m.cls := findClass_of_methodNamed B.named
  have hnm : meth.name = k.1.name := (name_of_methodNamed B.named B.method).1
  subst hsz
  have hD := hD0.self (sz := s.heap.size)
  rw [lg_entry_eq]
  have hl := lv_entry (vs.map (xcv ad)) (n := k.2.2.1) hn
  refine h l D ad ad cI cZ p e s m _ below meth c _ s.heap [] _ ⟨B.exec, B.bytes, hml, hown, hts, B.returns, B.notSynchronized, hK, hnm, fun q h => Or.inr h, hN⟩ (fun _ _ => rfl) ⟨hl.1, xargs_len vs _ hn hd, hl.2.1, fun i v hv => ?_⟩ hP hD va_S.rf
  have := xargs_at (ad := ad) vs _ 0 i v hd hv
  rw [Nat.zero_add] at this
  exact hl.2.2 _ this
section GC
variable {p : Program} {l : Launch} {e : Env} {R : Room} {s : State} {m : MethodId} {args : Array Value} {below : List Frame} {meth : Method} {c : Code} {H : Heap} {locs : List Loc} {Q : State → Prop} {cs sl mc ms : Nat}
theorem g_call {D : va_G} {ad : Nat → Nat} {n : Nat} {cI cZ : ClassId} {A0 A1 : Nat → Prop} {wF : List gX} {pc : Nat} {ls : Array Slot} {st0 rest : List Value} {a : Array Value} {free : Addr → Prop} {H0 : Heap}
    (hr : va_Run p l e R s m args below meth c H locs cs sl mc ms (F0 m pc ls st0) rest (gQ D ad n cI cZ A1 wF a) free) (hS : va_S A0 H0 H locs) (hA : ∀ q, q < H.size → A1 q → A0 q) (hf : ∀ q, free q → A0 q)
    (kk : ∀ (ad' : Nat → Nat) (H1 : Heap) (locs1 : List Loc), (∀ i, i < n → ad' i = ad i) → va_P D vwCl (gws wF ad' cI cZ) H1 → va_D A1 (gws wF ad' cI cZ) → va_S A0 H0 H1 locs1 → W p l e R s m args below meth c H1 locs1 (cs + mc) (sl + ms) Q (F0 m (pc + 3) ls rest)) : W p l e R s m args below meth c H locs cs sl Q (F0 m pc ls st0) := by
  intro T hT X
  obtain ⟨v, st₀, t, T', L, h0, X', hL, e1, e2, ⟨⟨ad', hv, hag, hb, hd, hk0⟩, hz, hk⟩, st⟩ := hr T hT X
  cases hv
  rw [h0] at hz hk
  obtain ⟨t2, a1, b1⟩ := kk ad' T'.heap (locs ++ L) hag (by rw [e1]; exact hb) hd
    ⟨Nat.le_trans hS.1 (by rw [e1]; exact hz), fun q h1 h2 => by rw [e1, hk q (Nat.lt_of_lt_of_le h1 hS.1) (fun z => h2 (hA q (Nat.lt_of_lt_of_le h1 hS.1) z))]; exact hS.2.1 q h1 h2, fun q hq => by
      rcases List.mem_append.mp hq with h | h
      · exact hS.2.2 q h
      · exact hf _ (hL q h)⟩ T' rfl X'
  exact ⟨t2, st t2 a1, b1⟩
end GC
def gCI (k kc : xK) (idx : Nat) : Prop := xCR k kc 0 ∧ kc.2.2.2.1 = none ∧ Cond.methodLink k.1.cls idx kc.1 ∈ lw_tbl ∧ Cond.instanceMethod kc.1 ∈ lw_tbl ∧ kc.1.name = "<init>"
def gCM (k kc : xK) (idx : Nat) : Prop := xCR k kc 0 ∧ kc.2.2.2.1 = none ∧ (k.1.cls, idx, kc.1) ∈ gnestL ∧ Cond.instanceMethod kc.1 ∈ lw_tbl ∧ kc.1.name = "<init>"
section GR2
variable {k kc : xK} {mc ms n0 pc : Nat} {L : xL} {st : List Value} {w w1 : List gX} {cs sl mc1 ms1 : Nat} {wF : List gX}
theorem gfree {D : va_G} {ad : Nat → Nat} {cI cZ : ClassId} {p : Program} {s : State} {m : MethodId} {args : Array Value} {meth : Method} {c : Code} {A : Nat → Prop} {H : Heap} {locs : List Loc} (C : gctx k D cI cZ p s m args meth c A) (hD : va_D A (gws w ad cI cZ)) (hS : va_S A s.heap H locs) : ∀ q, va_A (gws w ad cI cZ) H.size q → A q := by
  intro q h
  rcases h with ⟨i, e, h⟩ | h
  · exact hD.2 i (q, e) h
  · exact C.2.2.2.2.2.2.2.2.2.1 q (Nat.le_trans hS.1 h)
theorem G.callI {idx q : Nat} (n : Nat) (hc : gCI k kc idx) (hd : decode k.2.1 pc = .ok (.invokespecial idx, 3)) (hg : xgoodA kc.2.2.1 [.ref q] = true) (hrest : Nat.ble ((st.map fun v => v.category).sum) 8 = true) (hok : gok n0 n w L st = true) (hs : Gs kc [.ref q] w mc1 ms1 w1) (hcs : Nat.ble (cs + mc1) mc = true) (hsl : Nat.ble (sl + ms1) ms = true)
    (h : G k mc ms n0 (pc + 3) L st w1 (cs + mc1) (sl + ms1) wF) : G k mc ms n0 pc L (.ref q :: st) w cs sl wF := by
  intro l D ad0 ad cI cZ p e s m args below meth c A H locs ls C hag hL hP hD hS
  obtain ⟨⟨hme, hde, hfr, hlo⟩, hrn, hlk, hin, hnm⟩ := hc
  obtain ⟨e1, e2, e3, e4, e5⟩ := gok_spec hok
  subst e1
  obtain ⟨hg1, hg2⟩ := xgoodA_spec hg ad
  have hM := hs.met hme hg2 l D ad cI cZ H.size hg1
  have hFc := gfree (w := w) (ad := ad) C hD hS
  have hw' : ∀ w ∈ xTB, w.before args s = true := fun w hw => C.2.2.2.2.1 w (List.mem_cons_of_mem _ hw)
  have hcw : CallB (grm k mc ms) s args k.1.cls idx kc.1 kc.2.1 kc.2.2.1 none (xTs kc) (grm kc mc1 ms1) mc1 ms1 0 ∧ kc.1.name = "<init>" ∧ (Cond.instanceMethod kc.1).before args s = true :=
    cwI (ws' := xTB) 0 C.2.2.2.2.1 (xGI (xTs_in hme)) (by unfold xTs; rw [hrn]) rfl rfl (hw' _ (xTB_of hme.2.2.2.2 rfl)) (hw' _ (xTB_of hlk rfl)) (hw' _ (xTB_of hin rfl)) hnm ⟨hme.2.2.1, hme.2.2.2.1, hde⟩ ⟨hfr, hlo⟩
  refine g_call (rest := st.map (xcv ad)) (va_runI (As := []) (rest := st.map (xcv ad)) ⟨C.1, C.2.1, C.2.2.1, C.2.2.2.1, C.2.2.2.2.1⟩ hM hcw ⟨gB_blind, fun U hU hW => ⟨rfl, by rw [hU], by rw [hU]; exact hP, va_K.moved hW.alike C.2.2.2.2.2.2.2.1, C.2.2.2.2.2.2.2.2.2.2.warm hW, hD.weaken (fun _ _ _ _ => trivial)⟩⟩ rfl rfl hL.1 rfl (lv_room (by rw [xcat_map]; exact Nat.le_of_ble_eq_true hrest)) hd ⟨Nat.le_of_ble_eq_true hcs, Nat.le_of_ble_eq_true hsl⟩) hS (fun q _ h => hFc q h) hFc (fun ad' H1 locs1 hag1 hP1 hD1 hS1 => ?_)
  have := h l D ad0 ad' cI cZ p e s m args below meth c A H1 locs1 ls C (fun i hi => by rw [hag1 i (Nat.lt_of_lt_of_le hi e5)]; exact hag i hi) (gL_of hag1 hL e3) hP1 (hD1.weaken (fun _ _ _ z => hFc _ z)) hS1
  rw [gst_of hag1 e4] at this
  exact this
theorem G.callM {idx q : Nat} (n : Nat) (hc : gCM k kc idx) (hd : decode k.2.1 pc = .ok (.invokespecial idx, 3)) (hg : xgoodA kc.2.2.1 [.ref q] = true) (hrest : Nat.ble ((st.map fun v => v.category).sum) 8 = true) (hok : gok n0 n w L st = true) (hs : Gs kc [.ref q] w mc1 ms1 w1) (hcs : Nat.ble (cs + mc1) mc = true) (hsl : Nat.ble (sl + ms1) ms = true)
    (h : G k mc ms n0 (pc + 3) L st w1 (cs + mc1) (sl + ms1) wF) : G k mc ms n0 pc L (.ref q :: st) w cs sl wF := by
  intro l D ad0 ad cI cZ p e s m args below meth c A H locs ls C hag hL hP hD hS
  obtain ⟨⟨hme, hde, hfr, hlo⟩, hrn, hlk, hin, hnm⟩ := hc
  obtain ⟨e1, e2, e3, e4, e5⟩ := gok_spec hok
  subst e1
  obtain ⟨hg1, hg2⟩ := xgoodA_spec hg ad
  have hM := hs.met hme hg2 l D ad cI cZ H.size hg1
  have hFc := gfree (w := w) (ad := ad) C hD hS
  have hw' : ∀ w ∈ xTB, w.before args s = true := fun w hw => C.2.2.2.2.1 w (List.mem_cons_of_mem _ hw)
  have hcw : va_CN (grm k mc ms) s args k.1.cls idx kc.1 "CampWeek" kc.2.1 kc.2.2.1 none (xTs kc) (grm kc mc1 ms1) mc1 ms1 0 ∧ kc.1.name = "<init>" ∧ (Cond.instanceMethod kc.1).before args s = true :=
    ⟨va_cnB (ws' := xTB) 0 C.2.2.2.2.1 (xGI (xTs_in hme)) (by unfold xTs; rw [hrn]) rfl rfl (C.2.2.2.2.2.2.2.2.2.2 _ hlk) (hw' _ (xTB_of hme.2.2.2.2 rfl)) ⟨hme.2.2.1, hme.2.2.2.1, hde⟩ ⟨hfr, hlo⟩, hnm, hw' _ (xTB_of hin rfl)⟩
  refine g_call (rest := st.map (xcv ad)) (va_runIN (As := []) (rest := st.map (xcv ad)) ⟨C.1, C.2.1, C.2.2.1, C.2.2.2.1, C.2.2.2.2.1⟩ hM hcw ⟨gB_blind, fun U hU hW => ⟨rfl, by rw [hU], by rw [hU]; exact hP, va_K.moved hW.alike C.2.2.2.2.2.2.2.1, C.2.2.2.2.2.2.2.2.2.2.warm hW, hD.weaken (fun _ _ _ _ => trivial)⟩⟩ rfl rfl hL.1 rfl (lv_room (by rw [xcat_map]; exact Nat.le_of_ble_eq_true hrest)) hd ⟨Nat.le_of_ble_eq_true hcs, Nat.le_of_ble_eq_true hsl⟩) hS (fun q _ h => hFc q h) hFc (fun ad' H1 locs1 hag1 hP1 hD1 hS1 => ?_)
  have := h l D ad0 ad' cI cZ p e s m args below meth c A H1 locs1 ls C (fun i hi => by rw [hag1 i (Nat.lt_of_lt_of_le hi e5)]; exact hag i hi) (gL_of hag1 hL e3) hP1 (hD1.weaken (fun _ _ _ z => hFc _ z)) hS1
  rw [gst_of hag1 e4] at this
  exact this
theorem G.callS {idx a : Nat} {As : List Value} {st0 : List Value} (n : Nat) (hc : xCS k kc idx a) (hd : decode k.2.1 pc = .ok (.invokestatic idx, 3)) (hn : As.length = a) (hg : xgoodA kc.2.2.1 As = true) (hrest : Nat.ble ((st.map fun v => v.category).sum) 8 = true) (hst : st0 = As.reverse ++ st) (hok : gok n0 n w L st = true) (hs : Gs kc As w 0 0 w1)
    (hcs : Nat.ble cs mc = true) (hsl : Nat.ble sl ms = true) (h : G k mc ms n0 (pc + 3) L st w1 cs sl wF) : G k mc ms n0 pc L st0 w cs sl wF := by
  intro l D ad0 ad cI cZ p e s m args below meth c A H locs ls C hag hL hP hD hS
  subst hst
  obtain ⟨⟨hme, hde, hfr, hlo⟩, hlk, hsta⟩ := hc
  obtain ⟨e1, e2, e3, e4, e5⟩ := gok_spec hok
  subst e1
  obtain ⟨hg1, hg2⟩ := xgoodA_spec hg ad
  have hM := hs.met hme hg2 l D ad cI cZ H.size hg1
  have hFc := gfree (w := w) (ad := ad) C hD hS
  have hcw : CallB (grm k mc ms) s args k.1.cls idx kc.1 kc.2.1 kc.2.2.1 kc.2.2.2.1 (xTs kc) (grm kc 0 0) 0 0 a ∧ (Cond.static kc.1).before args s = true := by
    refine va_cwS a C.2.2.2.2.1 (xGI ?_) rfl rfl rfl ⟨hme.2.2.1, hme.2.2.2.1, hde⟩ ⟨hfr, hlo⟩
    intro w hw
    rcases List.mem_append.mp hw with hw | hw
    · simp only [List.mem_cons, List.not_mem_nil, or_false] at hw
      rcases hw with rfl | rfl | rfl
      · exact xTB_of hlk rfl
      · exact xTB_of hsta rfl
      · exact xTB_of hme.2.2.2.2 rfl
    · exact xTs_in hme w hw
  refine g_call (rest := st.map (xcv ad)) (va_runS (As := As.map (xcv ad)) (rest := st.map (xcv ad)) ⟨C.1, C.2.1, C.2.2.1, C.2.2.2.1, C.2.2.2.2.1⟩ hM hcw ⟨gB_blind, fun U hU hW => ⟨rfl, by rw [hU], by rw [hU]; exact hP, va_K.moved hW.alike C.2.2.2.2.2.2.2.1, C.2.2.2.2.2.2.2.2.2.2.warm hW, hD.weaken (fun _ _ _ _ => trivial)⟩⟩ rfl (by rw [List.length_map]; exact hn) hL.1 ?_ (lv_room (by rw [xcat_map]; exact Nat.le_of_ble_eq_true hrest)) hd ⟨Nat.le_of_ble_eq_true hcs, Nat.le_of_ble_eq_true hsl⟩) hS (fun q _ h => hFc q h) hFc (fun ad' H1 locs1 hag1 hP1 hD1 hS1 => ?_)
  · simp [F0, List.map_append, List.map_reverse]
  · have := h l D ad0 ad' cI cZ p e s m args below meth c A H1 locs1 ls C (fun i hi => by rw [hag1 i (Nat.lt_of_lt_of_le hi e5)]; exact hag i hi) (gL_of hag1 hL e3) hP1 (hD1.weaken (fun _ _ _ z => hFc _ z)) hS1
    rw [gst_of hag1 e4] at this
    exact this
end GR2
