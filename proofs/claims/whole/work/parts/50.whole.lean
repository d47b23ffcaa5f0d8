def lf9 : List Value := [.null, .null, .null, .null, .null, .null, .null]
def lf10 : List Value := [.int 0, .null, .null, .int 0, .null, .null, .null, .null, .null, .null, .null, .int 0, .null, .int 0, .null, .null, .null, .null, .int 0, .int 0, .null, .null, .int 0, .null, .null, .null, .null, .null, .null, .null, .null, .null, .null, .null, .int 0, .null, .null, .null, .int 0, .null, .null, .null, .null, .null, .null, .null, .int 0]
theorem lf9_ok : ∀ j, j < 7 → defaultValue (tyX9 j) = vp_V lf9 j := by decide +kernel
theorem lf10_ok : ∀ j, j < 47 → defaultValue (tyX10 j) = vp_V lf10 j := by decide +kernel
theorem lw9 (q : Nat) (cI cZ : ClassId) : [(q, (.inr (9, lf9) : va_E))] = gws gi_X9 (fun _ => q) cI cZ := rfl
theorem lw10a : go_X9.all (gxok 46) = true := by decide +kernel
theorem lw10b : gxok 46 (.inr (10, lf10)) = true := by decide +kernel
theorem lw10l : go_X9.length = 46 := by decide +kernel
theorem lw10m : gcell (fun k => k) 0 0 (.inr (10, lf10)) = .inr (10, lf10) := rfl
theorem lw10g : gi_X10 = go_X9 ++ [.inr (10, lf10)] := rfl
theorem lw10 (ad : Nat → Nat) (q : Nat) (cI cZ : ClassId) : gws go_X9 ad cI cZ ++ [(q, (.inr (10, lf10) : va_E))] = gws gi_X10 (gup ad 46 q) cI cZ := by
  have h := gws_push (w := go_X9) (ad := ad) (q := q) (cI := cI) (cZ := cZ) (.inr (10, lf10)) (by rw [lw10l]; exact lw10a) (by rw [lw10l]; exact lw10b)
  rw [lw10l] at h
  rw [lw10g, h]
  rfl
/-- from the entry, for every script of at most 3072 ints, the law comes to its end with true -/
theorem whole_start {p : Program} {e : Env} {s : State} {m : MethodId} {below : List Frame} {meth : Method} {c : Code} (l : Launch) (hflags : l.flags = flags0) {b L : Nat} {xs : Nat → Int32} (hL : L ≤ 3072) (C0 : lw_At p s m meth c b L xs) : W p l e room_1 s m #[Value.ref b] below meth c s.heap [] 0 0 (lw_Z below #[Value.ref b] s) (entryFrame m ([Value.ref b] : List Value).toArray 4) := by
  obtain ⟨hx, hb, hr, hml, hown, hts, hX, hbl, hlocks, hgv⟩ := C0
  obtain ⟨D, cI, cZ, hK⟩ := l_know hts
  have hN : xNest s := fun q hq => va_Nw.of rfl (hts _ (l_nest q hq))
  have gN : gNest s := fun q hq => va_Nw.of rfl (hts _ (l_gnest q hq))
  have hS : va_S (lA s) s.heap s.heap [] := va_S.rf
  have hA : ∀ q, s.heap.size ≤ q → lA s q := fun q h => h
  have hP : va_P D vwCl [] s.heap := fun k q h => by simp at h
  have hD : va_D (lA s) [] := ⟨fun i j p q h => by simp at h, fun k q h => by simp at h⟩
  rw [lg_entry_eq]
  have hl := lv_entry ([Value.ref b]) (n := 4) (Nat.le_of_ble_eq_true rfl)
  generalize (lg_sl ([Value.ref b]) ++ List.replicate (4 - (lg_sl ([Value.ref b])).length) Slot.unset).toArray = ls at hl ⊢
  have hl : lv_has ls 4 [(0, .ref b)] := hl
  refine va_new (ci := 9) (fs := lf9) (T := TX9) (N := 7) hx hb hts inX9 tyX9 tyX9_ok hown (hts _ lk_law_7) (hts _ li_X9) (hts _ ini_RX9) hK hP hD hS hA rfl lf9_ok (by decide) (by decide) dL_law_0 (fun q0 H1 hP1 hD1 hS1 => ?_)
  rw [List.nil_append, lw9 q0 cI cZ] at hP1 hD1
  refine lv_dup hx hb dL_law_3 rfl ?_
  refine l_init (ad := fun _ => q0) (q := 0) hx hb hml hown hts hK gN me_X9_init pd_X9_init (by decide) rfl lk_law_9 im_X9_init rfl dL_law_4 rfl rfl gs_X9 (by decide) (by decide) hl.1 hP1 hD1 hS1 (fun ad1 H2 locs2 ag1 hP2 hD2 hS2 => ?_)
  have e0 : ad1 0 = q0 := ag1 0 (by decide)
  refine lv_astore_n (nL := 4) hx hb dL_law_7 rfl hl (by decide) rfl (fun ls2 hl2 => ?_)
  have hl2 : lv_has ls2 4 [(1, .ref q0), (0, .ref b)] := hl2
  refine va_new (ci := 10) (fs := lf10) (T := TX10) (N := 47) hx hb hts inX10 tyX10 tyX10_ok hown (hts _ lk_law_10) (hts _ li_X10) (hts _ ini_RX10) hK hP2 hD2 hS2 hA rfl lf10_ok (by decide) (by decide) dL_law_8 (fun q1 H3 hP3 hD3 hS3 => ?_)
  rw [lw10] at hP3 hD3
  refine lv_dup hx hb dL_law_11 rfl ?_
  refine l_init (ad := gup ad1 46 q1) (q := 46) hx hb hml hown hts hK gN me_X10_init pd_X10_init (by decide) rfl lk_law_12 im_X10_init rfl dL_law_12 rfl rfl gs_X10 (by decide) (by decide) hl2.1 hP3 hD3 hS3 (fun ad2 H4 locs4 ag2 hP4 hD4 hS4 => ?_)
  have e1 : ad2 0 = q0 := (ag2 0 (by decide)).trans e0
  have e2 : ad2 46 = q1 := ag2 46 (by decide)
  refine lv_astore_n (nL := 4) hx hb dL_law_15 rfl hl2 (by decide) rfl (fun ls3 hl3 => ?_)
  have hl3 : lv_has ls3 4 [(2, .ref q1), (1, .ref q0), (0, .ref b)] := hl3
  refine lv_iconst (v := 0) hx hb dL_law_16 (by decide) ?_
  refine lv_istore_n (nL := 4) hx hb dL_law_17 rfl hl3 (by decide) rfl (fun ls4 hl4 => ?_)
  have hl4 : lv_has ls4 4 [(3, .int 0), (0, .ref b), (1, .ref q0), (2, .ref q1)] := lv_sub hl4 [0, 3, 2, 1] rfl
  rw [← e1, ← e2] at hl4
  rw [gmw_spec gmw_0] at hP4 hD4
  exact l_loop hL (L + 6) 0 zN gM0 gM0 (by omega) (by omega) gIv gRX gRM l D ad2 cI cZ p e s m below meth c b H4 locs4 ls4 ⟨hx, hb, hr, hml, hown, hts, hX, hbl, hlocks, hK, fun M => xws_D hD4 M, hN⟩ hl4 hP4 hS4
set_option maxHeartbeats 4000000 in
theorem lw_walk (l : Launch) (hflags : l.flags = flags0) (b : Addr) (xs : List Int32) : MetFree l x (headSpec (Jvm.Cond.code x code maxLocals ret :: tables_1) room_1) (lw_P b xs) (fun _ _ _ _ _ => True) lw_Q := by
  refine MetFree.of_bodyS (code := code) (maxLocals := maxLocals) (ret := ret) (by decide) ?_ ?_
  · intro args s m h hn
    obtain ⟨meth, c, h1, h2, h3, h4, h5, h6, -, -⟩ := Cond.code_spec hn (atoms_spec (ws := Jvm.Cond.code x code maxLocals ret :: tables_1) h _ List.mem_cons_self)
    exact ⟨meth, c, h1, h2, h3, h4, h5, h6⟩
  · intro p e s m args below meth c s₁ B hml0 hP _
    obtain ⟨rfl, hx, hbd, hgv⟩ := hP
    obtain ⟨scr, harrAt, hlist, hof, hsmall⟩ := hx
    obtain ⟨hcb, hkn, -, -⟩ := State.arrayAt?_spec harrAt
    have hown : s.vm.findClass R_law = some m.cls := findClass_of_methodNamed B.named
    have hts0 : ∀ c ∈ (Jvm.Cond.code x code maxLocals ret :: tables_1), c.before #[Value.ref b] s = true := atoms_spec (ws := Jvm.Cond.code x code maxLocals ret :: tables_1) B.pre
    have hts : ∀ w ∈ lw_tbl, w.before #[Value.ref b] s = true := k2_hts_sels lw_privs (fun w hw => hts0 w (List.mem_cons_of_mem _ hw)) lw_privs_ok
    have hml : c.maxLocals = 4 := B.maxLocals_eq (hts0 _ List.mem_cons_self)
    have X₀ : Stand p l e room_1 s m #[Value.ref b] below meth c s₁ [] 0 0 := Stand.of_body B
    have hh0 : s₁.heap = s.heap := by rw [B.state]; rfl
    have hsz : scr.slots.size = xs.length := by rw [← Array.length_toList, hlist, List.length_map]
    have hval : ∀ j : Nat, j < xs.length → scr.slots[j]? = some (.int (xs.getD j 0)) := fun j hj => by
      rw [← Array.getElem?_toList, hlist]
      simp [hj]
    have hbl : b < s.heap.size := (Array.getElem?_eq_some_iff.mp hcb).1
    have hX : va_X b xs.length (fun j => xs.getD j 0) s s.heap := ⟨scr, hcb, hof, hkn, hsz, hval⟩
    have K : W p l e room_1 s m #[Value.ref b] below meth c s₁.heap [] 0 0 (lw_Z below #[Value.ref b] s) (entryFrame m ([Value.ref b] : List Value).toArray 4) := by
      rw [hh0]
      exact whole_start l hflags hbd ⟨B.exec, B.bytes, B.returns, hml, hown, hts, hX, hbl, B.notSynchronized, hgv⟩
    obtain ⟨t, a1, o, b1, b2, b3⟩ := K s₁ rfl X₀
    exact ⟨t, o, a1, b1, b2, b3⟩
theorem lw_pre_spec {args : Array Value} {s : State} (h : (Jvm.Cond.and given_1 narrow_1).before args s = true) (hr : rest_1_c.before args s = true) : ∃ (b : Addr) (xs : List Int32), lw_P b xs args s := by
  have hs := flat_of_before _ h
  have hq := flat_of_before _ hr
  have hc : (Cond.count 1).before args s = true := hs _ (by decide +kernel)
  have harr : (Cond.arrayOf (.arg 0) .int).before args s = true := hs _ (by decide +kernel)
  have hle : (Cond.le (.length (.arg 0)) (.int 3072)).before args s = true := hs _ (by decide +kernel)
  have hlen : (Cond.isInt (.length (.arg 0))).before args s = true := hq _ (by decide +kernel)
  have hall : (Cond.all (.arg 0) (.isInt (.elem (.arg 0) (.index 0)))).before args s = true := hq _ (by decide +kernel)
  obtain ⟨b, xs, hb, hx⟩ := State.ints_of_pre rfl harr hlen hall
  have hsm : xs.length < 2 ^ 31 := hx.choose_spec.2.2.2
  have hev : (Term.length (.arg 0)).eval args s none [] s = some (.int xs.length.toInt32) := hx.length_eval hb
  have hv := Cond.le_ints hev (show (Term.int 3072).eval args s none [] s = some (.int 3072) from rfl)
  have hd : xs.length.toInt32 ≤ 3072 := by
    simpa [Cond.before, Cond.holds, hv] using hle
  have hN : xs.length ≤ 3072 := (Int32.ofNat_le_ofNat hsm (by decide)).mp (show Int32.ofNat xs.length ≤ Int32.ofNat 3072 from hd)
  exact ⟨b, xs, Cond.one_arg hc (show args[0]? = some (.ref b) from hb), hx, hN, h⟩
theorem lw_comes (l : Launch) (hflags : l.flags = flags0) : Comes l x (Jvm.Cond.code x code maxLocals ret :: tables_1) room_1 (fun tb e args s => Calls_1 tb e args s ∧ rest_1 tb e args s ∧ Pre_1 tb e args s)
    (fun _ _ args s o t => lw_Q args s o t) := by
  intro p e ha hc hk s m args below hf hfit hheap happ hpre
  obtain ⟨b, xs, hP⟩ := lw_pre_spec hpre.2.2 hpre.2.1
  obtain ⟨k, o, h1, h2, h3, hQ⟩ := lw_walk l hflags b xs p e ha hc hk s m args below hf ((Spec.applies_iff_loose hf).mp happ).1 hP trivial
  exact ⟨k, o, h1, h2, h3, hQ⟩
theorem lw_frame {s t : State} {o : Outcome} {args : Array Value} (h : Framed s o t [] 84 8947) :
    Framed s o t (fieldLocs frame_1_writes args s ++ arrayLocs frame_1_arrays args s ++ staticLocs frame_1_statics s) 84 8947 := h
theorem lw_limb (L : Cond) (hL : ∀ (args : Array Value) (s t : State), L.after args s (.returned (some (.int 1))) t = true) :
    ArmFor flags0 classFile x code maxLocals ret World_1 tables_1 room_1 Calls_1 rest_1 Pre_1
      (fun tb e a s o t => postC L tb e a s o t ∧ Framed s o t (fieldLocs frame_1_writes a s ++ arrayLocs frame_1_arrays a s ++ staticLocs frame_1_statics s) 84 8947) := by
  intro l hflags _ _ p e ha hc hk s m args below hf hfit hheap happ hpre
  obtain ⟨k, o, h1, h2, h3, rfl, hF⟩ := lw_comes l hflags p e ha hc hk s m args below hf hfit hheap happ hpre
  exact ⟨k, _, h1, h2, h3, hL args s _, lw_frame hF⟩
theorem i_vc : Claimed_1_1 ∧ Claimed_1_2 := ⟨lw_limb limb_1_1 (fun args s t => by simp [limb_1_1, Cond.after, Cond.holds, Cond.value]), lw_limb limb_1_2 (fun args s t => Cond.after_iff.mpr (by
  first | (rw [show limb_1_2 = Cond.eq .result (.int 1) from rfl, Cond.eq_ints (x := 1) (y := 1) rfl rfl]; simp; done) | (simp [limb_1_2, Cond.value, Term.eval]; done)))⟩
