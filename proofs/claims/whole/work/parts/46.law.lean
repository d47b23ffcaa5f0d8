/-! THE LAW: its loop over the world of both sides -/
def lA (s : State) : Nat → Prop := fun q => s.heap.size ≤ q
def lctx (D : va_G) (ad : Nat → Nat) (cI cZ : ClassId) (p : Program) (s : State) (m : MethodId) (meth : Method) (c : Code) (b L : Nat) (xs : Nat → Int32) : Prop :=
  p.tables.exec = Jvm.exec ∧ c.code = code ∧ meth.sig.returnType = ret ∧ c.maxLocals = 4 ∧ s.vm.findClass R_law = some m.cls ∧ (∀ w ∈ lw_tbl, w.before #[Value.ref b] s = true) ∧ va_X b L xs s s.heap ∧ b < s.heap.size ∧ meth.locks = false ∧ va_K D vwCl (xtys cI cZ) s ∧ (∀ M, va_D (lA s) (xws xsh ad cI cZ M)) ∧ xNest s
def xLW (L : Nat) (xs : Nat → Int32) (pc i : Nat) (st : List Value) (M : xM) : Prop :=
  ∀ (l : Launch) (D : va_G) (ad : Nat → Nat) (cI cZ : ClassId) (p : Program) (e : Env) (s : State) (m : MethodId) (below : List Frame) (meth : Method) (c : Code) (b : Nat) (H : Heap) (locs : List Loc) (ls : Array Slot),
    lctx D ad cI cZ p s m meth c b L xs → lv_has ls 4 [(3, .int (nI i)), (0, .ref b), (1, .ref (ad 0)), (2, .ref (ad 46))] → va_P D vwCl (xws xsh ad cI cZ M) H → va_S (lA s) s.heap H locs →
    W p l e room_1 s m #[Value.ref b] below meth c H locs 84 8947 (lw_Z below #[Value.ref b] s) (F0 m pc ls (st.map (xcv ad)))
section LC
variable {p : Program} {l : Launch} {e : Env} {R : Room} {s : State} {m : MethodId} {args : Array Value} {below : List Frame} {meth : Method} {c : Code} {H : Heap} {locs : List Loc} {Q : State → Prop} {cs sl : Nat}
theorem l_call {D : va_G} {ad : Nat → Nat} {cI cZ : ClassId} {A0 A1 : Nat → Prop} {Ψ : Option Value → xM → Prop} {pc : Nat} {ls : Array Slot} {st0 rest : List Value} {a : Array Value} {free : Addr → Prop} {H0 : Heap}
    (hr : va_Run p l e R s m args below meth c H locs cs sl 0 0 (F0 m pc ls st0) rest (xQ D ad cI cZ A1 Ψ a) free) (hS : va_S A0 H0 H locs) (hA : ∀ q, q < H.size → A1 q → A0 q) (hf : ∀ q, free q → A0 q)
    (kk : ∀ (r : Option Value) (M : xM) (H1 : Heap) (locs1 : List Loc), Ψ r M → va_P D vwCl (xws xsh ad cI cZ M) H1 → va_S A0 H0 H1 locs1 → W p l e R s m args below meth c H1 locs1 cs sl Q (F0 m (pc + 3) ls ((r.map (xcv ad)).toList ++ rest))) : W p l e R s m args below meth c H locs cs sl Q (F0 m pc ls st0) := by
  intro T hT X
  obtain ⟨v, st₀, t, T', L, h0, X', hL, e1, e2, ⟨⟨r, M, hv, hp, hb, hk0⟩, hz, hk⟩, st⟩ := hr T hT X
  cases hv
  rw [h0] at hz hk
  obtain ⟨t2, a1, b1⟩ := kk r M T'.heap (locs ++ L) hp (by rw [e1]; exact hb)
    ⟨Nat.le_trans hS.1 (by rw [e1]; exact hz), fun q h1 h2 => by rw [e1, hk q (Nat.lt_of_lt_of_le h1 hS.1) (fun z => h2 (hA q (Nat.lt_of_lt_of_le h1 hS.1) z))]; exact hS.2.1 q h1 h2, fun q hq => by
      rcases List.mem_append.mp hq with h | h
      · exact hS.2.2 q h
      · exact hf _ (hL q h)⟩ T' rfl X'
  exact ⟨t2, st t2 a1, b1⟩
end LC
def lCV (kc : xK) (idx ci n : Nat) : Prop := (xMeth kc ∧ (parseMethodDescriptor kc.1.desc).map (fun d => d.parameters.length) = some n ∧ kc.2.2.2.2.1 + 1 ≤ room_1.frames ∧ 8 + (kc.2.2.1 + 11) + kc.2.2.2.2.2 ≤ room_1.locals) ∧ Cond.methodLink R_law idx kc.1 ∈ lw_tbl ∧ Cond.instanceMethod kc.1 ∈ lw_tbl ∧ Cond.selects kc.1.cls kc.1 kc.1 ∈ lw_tbl ∧ (vwCl[ci]?).map (fun q => q.1) = some kc.1.cls
theorem lGI {ws : List Cond} (h : ∀ w ∈ ws, w ∈ xTB) : GoodIn lw_tbl ws := fun w hw => ⟨(List.mem_filter.mp (h w hw)).1, good_of_word (List.mem_filter.mp (h w hw)).2⟩
section LR
variable {L : Nat} {xs : Nat → Int32} {pc i : Nat} {st : List Value} {M : xM}
theorem xLW.objX (hd : decode code pc = .ok (.aload_n 1, 1)) (h : xLW L xs (pc + 1) i (.ref 0 :: st) M) : xLW L xs pc i st M := by
  intro l D ad cI cZ p e s m below meth c b H locs ls C hl hP hS
  exact lv_aload_n C.1 C.2.1 hd rfl (lv_at hl 2 rfl) (h l D ad cI cZ p e s m below meth c b H locs ls C hl hP hS)
theorem xLW.objM (hd : decode code pc = .ok (.aload_n 2, 1)) (h : xLW L xs (pc + 1) i (.ref 46 :: st) M) : xLW L xs pc i st M := by
  intro l D ad cI cZ p e s m below meth c b H locs ls C hl hP hS
  exact lv_aload_n C.1 C.2.1 hd rfl (lv_at hl 3 rfl) (h l D ad cI cZ p e s m below meth c b H locs ls C hl hP hS)
theorem xLW.arg {n : Int} (k : Nat) (d0 : decode code pc = .ok (.aload_n 0, 1)) (d1 : decode code (pc + 1) = .ok (.iload_n 3, 1)) (d2 : decode code (pc + 2) = .ok (.iconst n, 1)) (hv : Int32.ofInt n = nI k) (d3 : decode code (pc + 3) = .ok (.iadd, 1)) (d4 : decode code (pc + 4) = .ok (.iaload, 1)) (hi : i + k < L) (hL : L ≤ 3072)
    (h : xLW L xs (pc + 5) i (.int (xs (i + k)) :: st) M) : xLW L xs pc i st M := by
  intro l D ad cI cZ p e s m below meth c b H locs ls C hl hP hS
  refine lv_aload_n C.1 C.2.1 d0 rfl (lv_at hl 1 rfl) ?_
  refine lv_iload_n C.1 C.2.1 d1 rfl (lv_at hl 0 rfl) ?_
  refine lv_iconst C.1 C.2.1 d2 hv ?_
  refine lv_iadd C.1 C.2.1 d3 ?_
  rw [nI_add]
  refine va_sld C.1 C.2.1 C.2.2.2.2.2.2.1 C.2.2.2.2.2.2.2.1 (fun z => absurd C.2.2.2.2.2.2.2.1 (Nat.not_lt.mpr z)) hS (vp_in_nI hi (by omega)) d4 ?_
  rw [nI_clamp (by omega)]
  exact h l D ad cI cZ p e s m below meth c b H locs ls C hl hP hS
theorem xLW.call {kc : xK} {idx ci n q : Nat} {fs : List (Option Nat)} {As rest : List Value} {Ψ : Option Value → xM → Prop} (hc : lCV kc idx ci n) (hd : decode code pc = .ok (.invokevirtual idx, 3)) (hb : xsh[q]? = some (.inr (ci, fs))) (hn : As.length = n) (hg : xgoodA kc.2.2.1 (.ref q :: As) = true) (hrest : Nat.ble ((rest.map fun v => v.category).sum) 8 = true) (hst : st = As.reverse ++ .ref q :: rest)
    (hs : Sp kc (.ref q :: As) M Ψ) (h : ∀ r M', Ψ r M' → xLW L xs (pc + 3) i (r.toList ++ rest) M') : xLW L xs pc i st M := by
  intro l D ad cI cZ p e s m below meth c b H locs ls C hl hP hS
  subst hst
  obtain ⟨⟨hme, hde, hfr, hlo⟩, hlk, hin, hse, hcl⟩ := hc
  obtain ⟨hg1, hg2⟩ := xgoodA_spec hg ad
  have hM := hs.met hme hg2 l D ad cI cZ H.size hg1
  obtain ⟨z, hz, hz1⟩ := Option.map_eq_some_iff.mp hcl
  have hDM := C.2.2.2.2.2.2.2.2.2.2.1 M
  have hFc : ∀ q, va_A (xws xsh ad cI cZ M) H.size q → lA s q := by
    intro q h
    rcases h with ⟨i, e, h⟩ | h
    · exact hDM.2 i (q, e) h
    · exact Nat.le_trans hS.1 h
  have hcw : CallW room_1 s #[Value.ref b] R_law kc.1.cls idx kc.1 kc.2.1 kc.2.2.1 kc.2.2.2.1 (xTs kc) (xrm kc) 0 0 n := by
    refine cwV n C.2.2.2.2.2.1 (lGI ?_) rfl rfl rfl ⟨rfl, hme.2.2.1, hme.2.2.2.1, hde⟩ ⟨hfr, hlo⟩
    intro w hw
    rcases List.mem_append.mp hw with hw | hw
    · simp only [List.mem_cons, List.not_mem_nil, or_false] at hw
      rcases hw with rfl | rfl | rfl | rfl
      · exact xTB_of hlk rfl
      · exact xTB_of hin rfl
      · exact xTB_of hse rfl
      · exact xTB_of hme.2.2.2.2 rfl
    · exact xTs_in hme w hw
  refine l_call (rest := rest.map (xcv ad)) (va_runV (As := As.map (xcv ad)) (rest := rest.map (xcv ad)) ⟨C.1, C.2.1, C.2.2.2.1, C.2.2.2.2.1, C.2.2.2.2.2.1⟩ hM hcw ⟨xB_blind, ?_, fun U hU hW => ⟨rfl, by rw [hU], by rw [hU]; exact hP, va_K.moved hW.alike C.2.2.2.2.2.2.2.2.2.1, C.2.2.2.2.2.2.2.2.2.2.2.warm hW, hDM.weaken (fun _ _ _ _ => trivial)⟩⟩ rfl (by rw [List.length_map]; exact hn) hl.1 ?_ (lv_room (by rw [xcat_map]; exact Nat.le_of_ble_eq_true hrest)) hd ⟨Nat.le_refl _, Nat.le_refl _⟩) hS (fun q _ h => hFc q h) hFc (fun r M' H1 locs1 hr hP1 hS1 => ?_)
  · obtain ⟨cell, g1, g2, g3⟩ := va_recv C.2.2.2.2.2.2.2.2.2.1 hP hz (xws_at hb)
    exact ⟨cell, g1, g2, by rw [← hz1]; exact g3⟩
  · simp [F0, List.map_append, List.map_reverse, xcv]
  · have := h r M' hr l D ad cI cZ p e s m below meth c b H1 locs1 ls C hl hP1 hS1
    have e2 : (r.toList ++ rest).map (xcv ad) = (r.map (xcv ad)).toList ++ rest.map (xcv ad) := by cases r <;> simp
    rw [e2] at this
    exact this
theorem xLW.eq {x y : Int32} {off : Int} (tgt : Nat) (hd : decode code pc = .ok (.if_icmp .eq off, 3)) (ht : (pc : Int) + off = (tgt : Int)) (q : x = y) (h : xLW L xs tgt i st M) : xLW L xs pc i (.int y :: .int x :: st) M := by
  intro l D ad cI cZ p e s m below meth c b H locs ls C hl hP hS
  exact lv_icmp_eq C.1 C.2.1 hd ht (fun _ => h l D ad cI cZ p e s m below meth c b H locs ls C hl hP hS) (fun z => absurd q z)
theorem xLW.leq {x y : Int64} {off : Int} (tgt : Nat) (hd : decode code pc = .ok (.lcmp, 1)) (hd2 : decode code (pc + 1) = .ok (.ifCond .eq off, 3)) (ht : ((pc + 1 : Nat) : Int) + off = (tgt : Int)) (q : x = y) (h : xLW L xs tgt i st M) : xLW L xs pc i (.long y :: .long x :: st) M := by
  subst q
  intro l D ad cI cZ p e s m below meth c b H locs ls C hl hP hS
  refine W.lcmp C.1 C.2.1 hd ?_
  rw [show lg_cmp x x = 0 by simp [lg_cmp]]
  exact lv_if_eq C.1 C.2.1 hd2 ht (fun _ => h l D ad cI cZ p e s m below meth c b H locs ls C hl hP hS) (fun z => absurd rfl z)
theorem xLW.next (h : xLW L xs 18 (i + 6) [] M) : xLW L xs 1485 i [] M := by
  intro l D ad cI cZ p e s m below meth c b H locs ls C hl hP hS
  refine lv_iinc (k := 0) (v := nI (i + 6)) C.1 C.2.1 dL_law_1485 hl rfl (by rw [show Int32.ofInt 6 = nI 6 by decide, nI_add]) (by decide) rfl (fun ls' h' => ?_)
  exact lv_goto C.1 C.2.1 dL_law_1488 (by decide) (h l D ad cI cZ p e s m below meth c b H locs ls' C h' hP hS)
theorem lsub6 {L i : Nat} (hL : L ≤ 3072) (hi : i ≤ L + 6) (h : ¬ nI L - 6 < nI i) : i + 6 ≤ L := by
  by_cases h6 : 6 ≤ L
  · have e : nI L - 6 = nI (L - 6) := by
      have : nI (L - 6) + nI 6 = nI L := by rw [nI_add]; congr 1; omega
      rw [← this, show nI 6 = (6 : Int32) by decide, Int32.add_sub_cancel]
    rw [e, nI_ltI (by omega) (by omega)] at h
    omega
  · exfalso
    apply h
    rw [Int32.lt_iff_toInt_lt, nI_toInt (by omega)]
    have : ∀ q, q < 6 → (nI q - 6).toInt < 0 := by decide +kernel
    have := this L (by omega)
    omega
theorem xLW.head (hL : L ≤ 3072) (hi : i ≤ L + 6) (h : i + 6 ≤ L → xLW L xs 33 i [.int (xs i &&& 63)] M) : xLW L xs 18 i [] M := by
  intro l D ad cI cZ p e s m below meth c b H locs ls C hl hP hS
  have hlocks : meth.locks = false := C.2.2.2.2.2.2.2.2.1
  have hbA : ¬ lA s b := fun z => absurd C.2.2.2.2.2.2.2.1 (Nat.not_lt.mpr z)
  refine lv_iload_n C.1 C.2.1 dL_law_18 rfl (lv_at hl 0 rfl) ?_
  refine lv_aload_n C.1 C.2.1 dL_law_19 rfl (lv_at hl 1 rfl) ?_
  refine va_slen C.1 C.2.1 C.2.2.2.2.2.2.1 C.2.2.2.2.2.2.2.1 hbA hS dL_law_20 ?_
  refine lv_bipush (v := 6) C.1 C.2.1 dL_law_21 (by decide) ?_
  refine lv_isub C.1 C.2.1 dL_law_23 ?_
  refine lv_icmp_gt (tgt := 1491) C.1 C.2.1 dL_law_24 (by decide) (fun _ => ?_) (fun q => ?_)
  · refine lv_iconst (v := 1) C.1 C.2.1 dL_law_1491 (by decide) ?_
    refine va_forget (fun q hq => hS.2.2 q hq) ?_
    exact lw_ret C.1 C.2.1 C.2.2.1 hlocks dL_law_1492
  · have h6 := lsub6 hL hi q
    refine lv_aload_n C.1 C.2.1 dL_law_27 rfl (lv_at hl 1 rfl) ?_
    refine lv_iload_n C.1 C.2.1 dL_law_28 rfl (lv_at hl 0 rfl) ?_
    refine va_sld C.1 C.2.1 C.2.2.2.2.2.2.1 C.2.2.2.2.2.2.2.1 hbA hS (vp_in_nI (show i < L by omega) (by omega)) dL_law_29 ?_
    rw [nI_clamp (by omega)]
    refine lv_bipush (v := 63) C.1 C.2.1 dL_law_30 (by decide) ?_
    refine lv_iand C.1 C.2.1 dL_law_32 ?_
    exact h h6 l D ad cI cZ p e s m below meth c b H locs ls C hl hP hS
theorem xLW.tswIn {dflt lo hi : Int} {offs : Array Int} {len : Nat} {x : Int32} {off : Int} (tgt : Nat) (hd : decode code pc = .ok (.tableswitch dflt lo hi offs, len)) (h1 : ¬ x.toInt < lo) (h2 : ¬ hi < x.toInt) (ho : offs[(x.toInt - lo).toNat]? = some off) (ht : (pc : Int) + off = (tgt : Int)) (h : xLW L xs tgt i st M) : xLW L xs pc i (.int x :: st) M := by
  intro l D ad cI cZ p e s m below meth c b H locs ls C hl hP hS
  exact lv_tableIn C.1 C.2.1 hd h1 h2 ho ht (h l D ad cI cZ p e s m below meth c b H locs ls C hl hP hS)
theorem xLW.tswOut {dflt lo hi : Int} {offs : Array Int} {len : Nat} {x : Int32} (tgt : Nat) (hd : decode code pc = .ok (.tableswitch dflt lo hi offs, len)) (h1 : x.toInt < lo ∨ hi < x.toInt) (ht : (pc : Int) + dflt = (tgt : Int)) (h : xLW L xs tgt i st M) : xLW L xs pc i (.int x :: st) M := by
  intro l D ad cI cZ p e s m below meth c b H locs ls C hl hP hS
  exact lv_tableOut C.1 C.2.1 hd h1 ht (h l D ad cI cZ p e s m below meth c b H locs ls C hl hP hS)
end LR
