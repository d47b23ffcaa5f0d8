/-! the start of the law -/
theorem li_X0 : Cond.instantiable RX0 7 ∈ lw_tbl := List.mem_of_getElem? (i := 253) (by decide +kernel)
theorem li_X1 : Cond.instantiable RX1 3 ∈ lw_tbl := List.mem_of_getElem? (i := 77) (by decide +kernel)
theorem li_X2 : Cond.instantiable RX2 3 ∈ lw_tbl := List.mem_of_getElem? (i := 195) (by decide +kernel)
theorem li_X3 : Cond.instantiable RX3 3 ∈ lw_tbl := List.mem_of_getElem? (i := 71) (by decide +kernel)
theorem li_X4 : Cond.instantiable RX4 8 ∈ lw_tbl := List.mem_of_getElem? (i := 98) (by decide +kernel)
theorem li_X5 : Cond.instantiable RX5 4 ∈ lw_tbl := List.mem_of_getElem? (i := 284) (by decide +kernel)
theorem li_X6 : Cond.instantiable RX6 4 ∈ lw_tbl := List.mem_of_getElem? (i := 304) (by decide +kernel)
theorem li_X7 : Cond.instantiable RX7 10 ∈ lw_tbl := List.mem_of_getElem? (i := 212) (by decide +kernel)
theorem li_X8 : Cond.instantiable RX8 10 ∈ lw_tbl := List.mem_of_getElem? (i := 157) (by decide +kernel)
theorem li_X9 : Cond.instantiable RX9 7 ∈ lw_tbl := List.mem_of_getElem? (i := 63) (by decide +kernel)
theorem li_X10 : Cond.instantiable RX10 47 ∈ lw_tbl := List.mem_of_getElem? (i := 840) (by decide +kernel)
theorem lk_law_7 : Cond.classLink R_law 7 RX9 ∈ lw_tbl := List.mem_of_getElem? (i := 62) (by decide +kernel)
theorem lk_law_10 : Cond.classLink R_law 10 RX10 ∈ lw_tbl := List.mem_of_getElem? (i := 839) (by decide +kernel)
theorem lk_law_9 : Cond.methodLink R_law 9 yX9_init ∈ lw_tbl := List.mem_of_getElem? (i := 64) (by decide +kernel)
theorem lk_law_12 : Cond.methodLink R_law 12 yX10_init ∈ lw_tbl := List.mem_of_getElem? (i := 841) (by decide +kernel)
theorem l_nest : ∀ q ∈ xnestL, Cond.methodLinkNest q.1 q.2.1 q.2.2 "CampWeek" ∈ lw_tbl := by decide +kernel
theorem l_gnest : ∀ q ∈ gnestL, Cond.methodLinkNest q.1 q.2.1 q.2.2 "CampWeek" ∈ lw_tbl := by decide +kernel
theorem l_cl {s : State} {a : Array Value} (hts : ∀ w ∈ lw_tbl, w.before a s = true) : ∀ q ∈ vwCl, ∃ z : ClassId × (Nat → Nat), u_Kn s q.1 q.2.1 q.2.2 z.1 z.2 := by
  have key : ∀ q ∈ vwCl, ∃ (cC : ClassId) (iS : Nat → Nat), u_Kn s q.1 q.2.1 q.2.2 cC iS := by
    intro q hq
    simp only [List.mem_cons, List.not_mem_nil, or_false] at hq
    rcases hq with rfl | rfl | rfl | rfl | rfl | rfl | rfl | rfl | rfl | rfl | rfl
    · exact u_known hts inX0 (hts _ li_X0)
    · exact u_known hts inX1 (hts _ li_X1)
    · exact u_known hts inX2 (hts _ li_X2)
    · exact u_known hts inX3 (hts _ li_X3)
    · exact u_known hts inX4 (hts _ li_X4)
    · exact u_known hts inX5 (hts _ li_X5)
    · exact u_known hts inX6 (hts _ li_X6)
    · exact u_known hts inX7 (hts _ li_X7)
    · exact u_known hts inX8 (hts _ li_X8)
    · exact u_known hts inX9 (hts _ li_X9)
    · exact u_known hts inX10 (hts _ li_X10)
  intro q hq
  obtain ⟨cC, iS, h⟩ := key q hq
  exact ⟨(cC, iS), h⟩
theorem l_arr {s : State} {a : Array Value} (hts : ∀ w ∈ lw_tbl, w.before a s = true) : ∃ cI cZ : ClassId, (ArrOfT s cI .int ∧ va_RA s cI .int) ∧ (ArrOfT s cZ .boolean ∧ va_RA s cZ .boolean) := by
  obtain ⟨cI, kI, pI, i1, i2, i3⟩ := Cond.arrayClass_spec (hts _ g_aI)
  obtain ⟨cZ, kZ, pZ, z1, z2, z3⟩ := Cond.arrayClass_spec (hts _ g_aZ)
  exact ⟨cI, cZ, ⟨fun n z => ⟨fun k h => (by cases h), kI, i2, pI, i3⟩, i1⟩, ⟨fun n z => ⟨fun k h => (by cases h), kZ, z2, pZ, z3⟩, z1⟩⟩
theorem l_know {s : State} {a : Array Value} (hts : ∀ w ∈ lw_tbl, w.before a s = true) : ∃ (D : va_G) (cI cZ : ClassId), va_K D vwCl (xtys cI cZ) s := by
  obtain ⟨cI, cZ, hI, hZ⟩ := l_arr hts
  have h : ∀ c : Nat, ∃ z : ClassId × (Nat → Nat), ∀ q, vwCl[c]? = some q → u_Kn s q.1 q.2.1 q.2.2 z.1 z.2 := by
    intro c
    cases hc : vwCl[c]? with
    | none => exact ⟨(cI, fun _ => 0), fun q h => by cases h⟩
    | some q =>
      obtain ⟨z, hz⟩ := l_cl hts q (List.mem_of_getElem? hc)
      exact ⟨z, fun q' h => by cases h; exact hz⟩
  obtain ⟨f, hf⟩ := Classical.axiomOfChoice h
  refine ⟨(fun c => (f c).1, fun c => (f c).2), cI, cZ, fun c q hq => hf c q hq, fun k q hk => ?_⟩
  match k, hk with
  | 0, hk => cases hk; exact hI
  | 1, hk => cases hk; exact hZ
  | k + 2, hk => simp at hk
section LI
variable {p : Program} {l : Launch} {e : Env} {s : State} {m : MethodId} {below : List Frame} {meth : Method} {c : Code} {H : Heap} {locs : List Loc} {Q : State → Prop} {cs sl b pc : Nat} {D : va_G} {ad : Nat → Nat} {cI cZ : ClassId} {ls : Array Slot} {rest : List Value}
theorem l_init (hx : p.tables.exec = Jvm.exec) (hb : c.code = code) (hml : c.maxLocals = 4) (hown : s.vm.findClass R_law = some m.cls) (hts : ∀ w ∈ lw_tbl, w.before #[Value.ref b] s = true) (hK : va_K D vwCl (xtys cI cZ) s) (gN : gNest s) {kc : xK} {idx q mc1 ms1 : Nat} {w w1 : List gX}
    (hme : xMeth kc) (hde : (parseMethodDescriptor kc.1.desc).map (fun d => d.parameters.length) = some 0) (hR : kc.2.2.2.2.1 + 1 ≤ room_1.frames ∧ 8 + (kc.2.2.1 + 11) + kc.2.2.2.2.2 ≤ room_1.locals) (hrn : kc.2.2.2.1 = none) (hlk : Cond.methodLink R_law idx kc.1 ∈ lw_tbl) (hin : Cond.instanceMethod kc.1 ∈ lw_tbl) (hnm : kc.1.name = "<init>") (hd : decode code pc = .ok (.invokespecial idx, 3)) (hg : xgoodA kc.2.2.1 [.ref q] = true)
    (hrest : Nat.ble ((rest.map fun v => v.category).sum) 8 = true) (hs : Gs kc [.ref q] w mc1 ms1 w1) (hcs : cs + mc1 ≤ 84) (hsl : sl + ms1 ≤ 8947) (hls : ls.size = 4) (hP : va_P D vwCl (gws w ad cI cZ) H) (hD : va_D (lA s) (gws w ad cI cZ)) (hS : va_S (lA s) s.heap H locs)
    (kk : ∀ (ad' : Nat → Nat) (H1 : Heap) (locs1 : List Loc), (∀ i, i < w.length → ad' i = ad i) → va_P D vwCl (gws w1 ad' cI cZ) H1 → va_D (lA s) (gws w1 ad' cI cZ) → va_S (lA s) s.heap H1 locs1 → W p l e room_1 s m #[Value.ref b] below meth c H1 locs1 (cs + mc1) (sl + ms1) Q (F0 m (pc + 3) ls rest)) :
    W p l e room_1 s m #[Value.ref b] below meth c H locs cs sl Q (F0 m pc ls (.ref (ad q) :: rest)) := by
  obtain ⟨hg1, hg2⟩ := xgoodA_spec hg ad
  have hM := hs.met hme hg2 l D ad cI cZ H.size hg1
  have hFc : ∀ q, va_A (gws w ad cI cZ) H.size q → lA s q := by
    intro q h
    rcases h with ⟨i, e, h⟩ | h
    · exact hD.2 i (q, e) h
    · exact Nat.le_trans hS.1 h
  have hcw : CallB room_1 s #[Value.ref b] R_law idx kc.1 kc.2.1 kc.2.2.1 none (xTs kc) (grm kc mc1 ms1) mc1 ms1 0 ∧ kc.1.name = "<init>" ∧ (Cond.instanceMethod kc.1).before #[Value.ref b] s = true :=
    cwI (ws' := xTB) 0 hts (lGI (xTs_in hme)) (by unfold xTs; rw [hrn]) rfl rfl (hts _ hme.2.2.2.2) (hts _ hlk) (hts _ hin) hnm ⟨hme.2.2.1, hme.2.2.2.1, hde⟩ hR
  refine g_call (rest := rest) (va_runI (As := []) (rest := rest) ⟨hx, hb, hml, hown, hts⟩ hM hcw ⟨gB_blind, fun U hU hW => ⟨rfl, by rw [hU], by rw [hU]; exact hP, va_K.moved hW.alike hK, gN.warm hW, hD.weaken (fun _ _ _ _ => trivial)⟩⟩ rfl rfl hls rfl (lv_room (Nat.le_of_ble_eq_true hrest)) hd ⟨hcs, hsl⟩) hS (fun q _ h => hFc q h) hFc (fun ad' H1 locs1 hag1 hP1 hD1 hS1 => ?_)
  exact kk ad' H1 locs1 hag1 hP1 (hD1.weaken (fun _ _ _ z => hFc _ z)) hS1
end LI
