/-! the constructor of the reference -/
theorem gf_X10_7 : gFP RX10 7 10 1 true (.array .int) := ⟨fl_X10_7, RX10, TX10, 47, rfl, rfl, rfl, by decide +kernel⟩
theorem gf_X10_13 : gFP RX10 13 10 2 true (.array .int) := ⟨fl_X10_13, RX10, TX10, 47, rfl, rfl, rfl, by decide +kernel⟩
theorem gf_X10_16 : gFP RX10 16 10 4 true (.array .int) := ⟨fl_X10_16, RX10, TX10, 47, rfl, rfl, rfl, by decide +kernel⟩
theorem gf_X10_19 : gFP RX10 19 10 5 true (.array .int) := ⟨fl_X10_19, RX10, TX10, 47, rfl, rfl, rfl, by decide +kernel⟩
theorem gf_X10_22 : gFP RX10 22 10 6 true (.array .int) := ⟨fl_X10_22, RX10, TX10, 47, rfl, rfl, rfl, by decide +kernel⟩
theorem gf_X10_25 : gFP RX10 25 10 7 true (.array .int) := ⟨fl_X10_25, RX10, TX10, 47, rfl, rfl, rfl, by decide +kernel⟩
theorem gf_X10_28 : gFP RX10 28 10 8 true (.array .int) := ⟨fl_X10_28, RX10, TX10, 47, rfl, rfl, rfl, by decide +kernel⟩
theorem gf_X10_31 : gFP RX10 31 10 9 true (.array .int) := ⟨fl_X10_31, RX10, TX10, 47, rfl, rfl, rfl, by decide +kernel⟩
theorem gf_X10_34 : gFP RX10 34 10 10 true (.array .int) := ⟨fl_X10_34, RX10, TX10, 47, rfl, rfl, rfl, by decide +kernel⟩
theorem gf_X10_37 : gFP RX10 37 10 11 false (.int) := ⟨fl_X10_37, RX10, TX10, 47, rfl, rfl, rfl, by decide +kernel⟩
theorem gf_X10_41 : gFP RX10 41 10 12 true (.array .int) := ⟨fl_X10_41, RX10, TX10, 47, rfl, rfl, rfl, by decide +kernel⟩
theorem gf_X10_44 : gFP RX10 44 10 14 true (.array .int) := ⟨fl_X10_44, RX10, TX10, 47, rfl, rfl, rfl, by decide +kernel⟩
theorem gf_X10_47 : gFP RX10 47 10 15 true (.array .int) := ⟨fl_X10_47, RX10, TX10, 47, rfl, rfl, rfl, by decide +kernel⟩
theorem gf_X10_50 : gFP RX10 50 10 16 true (.array .boolean) := ⟨fl_X10_50, RX10, TX10, 47, rfl, rfl, rfl, by decide +kernel⟩
theorem gf_X10_54 : gFP RX10 54 10 17 true (.array .int) := ⟨fl_X10_54, RX10, TX10, 47, rfl, rfl, rfl, by decide +kernel⟩
theorem gf_X10_57 : gFP RX10 57 10 18 false (.int) := ⟨fl_X10_57, RX10, TX10, 47, rfl, rfl, rfl, by decide +kernel⟩
theorem gf_X10_60 : gFP RX10 60 10 20 true (.array .int) := ⟨fl_X10_60, RX10, TX10, 47, rfl, rfl, rfl, by decide +kernel⟩
theorem gf_X10_63 : gFP RX10 63 10 21 true (.array .int) := ⟨fl_X10_63, RX10, TX10, 47, rfl, rfl, rfl, by decide +kernel⟩
theorem gf_X10_66 : gFP RX10 66 10 23 true (.array .int) := ⟨fl_X10_66, RX10, TX10, 47, rfl, rfl, rfl, by decide +kernel⟩
theorem gf_X10_69 : gFP RX10 69 10 24 true (.array .int) := ⟨fl_X10_69, RX10, TX10, 47, rfl, rfl, rfl, by decide +kernel⟩
theorem gf_X10_72 : gFP RX10 72 10 25 true (.array .int) := ⟨fl_X10_72, RX10, TX10, 47, rfl, rfl, rfl, by decide +kernel⟩
theorem gf_X10_75 : gFP RX10 75 10 26 true (.array .int) := ⟨fl_X10_75, RX10, TX10, 47, rfl, rfl, rfl, by decide +kernel⟩
theorem gf_X10_78 : gFP RX10 78 10 27 true (.array .int) := ⟨fl_X10_78, RX10, TX10, 47, rfl, rfl, rfl, by decide +kernel⟩
theorem gf_X10_81 : gFP RX10 81 10 28 true (.array .int) := ⟨fl_X10_81, RX10, TX10, 47, rfl, rfl, rfl, by decide +kernel⟩
theorem gf_X10_84 : gFP RX10 84 10 29 true (.array .int) := ⟨fl_X10_84, RX10, TX10, 47, rfl, rfl, rfl, by decide +kernel⟩
theorem gf_X10_87 : gFP RX10 87 10 30 true (.array .int) := ⟨fl_X10_87, RX10, TX10, 47, rfl, rfl, rfl, by decide +kernel⟩
theorem gf_X10_90 : gFP RX10 90 10 31 true (.array .int) := ⟨fl_X10_90, RX10, TX10, 47, rfl, rfl, rfl, by decide +kernel⟩
theorem gf_X10_93 : gFP RX10 93 10 32 true (.array .int) := ⟨fl_X10_93, RX10, TX10, 47, rfl, rfl, rfl, by decide +kernel⟩
theorem gf_X10_96 : gFP RX10 96 10 33 true (.array .int) := ⟨fl_X10_96, RX10, TX10, 47, rfl, rfl, rfl, by decide +kernel⟩
theorem gf_X10_99 : gFP RX10 99 10 35 true (.array .int) := ⟨fl_X10_99, RX10, TX10, 47, rfl, rfl, rfl, by decide +kernel⟩
theorem gf_X10_102 : gFP RX10 102 10 36 true (.array .int) := ⟨fl_X10_102, RX10, TX10, 47, rfl, rfl, rfl, by decide +kernel⟩
theorem gf_X10_105 : gFP RX10 105 10 37 true (.array .int) := ⟨fl_X10_105, RX10, TX10, 47, rfl, rfl, rfl, by decide +kernel⟩
theorem gf_X10_108 : gFP RX10 108 10 39 true (.array .int) := ⟨fl_X10_108, RX10, TX10, 47, rfl, rfl, rfl, by decide +kernel⟩
theorem gf_X10_111 : gFP RX10 111 10 40 true (.array .int) := ⟨fl_X10_111, RX10, TX10, 47, rfl, rfl, rfl, by decide +kernel⟩
theorem gf_X10_114 : gFP RX10 114 10 41 true (.array .int) := ⟨fl_X10_114, RX10, TX10, 47, rfl, rfl, rfl, by decide +kernel⟩
theorem gf_X10_117 : gFP RX10 117 10 42 true (.array .int) := ⟨fl_X10_117, RX10, TX10, 47, rfl, rfl, rfl, by decide +kernel⟩
theorem gf_X10_120 : gFP RX10 120 10 43 true (.array .int) := ⟨fl_X10_120, RX10, TX10, 47, rfl, rfl, rfl, by decide +kernel⟩
theorem gf_X10_123 : gFP RX10 123 10 44 true (.array .int) := ⟨fl_X10_123, RX10, TX10, 47, rfl, rfl, rfl, by decide +kernel⟩
theorem gf_X10_126 : gFP RX10 126 10 45 true (.array .int) := ⟨fl_X10_126, RX10, TX10, 47, rfl, rfl, rfl, by decide +kernel⟩
def gi_X10 : List gX := [.inr (9, [.ref 1, .ref 13, .ref 19, .ref 21, .ref 31, .ref 38, .ref 42]), .inr (3, [.ref 2, .ref 5, .int (-1)]), .inr (1, [.ref 3, .ref 4, .int 0]), .inl (false, 30, fun _ => 0), .inl (false, 30, fun _ => 0), .inr (4, [.ref 6, .ref 7, .ref 8, .ref 9, .ref 10, .ref 11, .ref 12, .int 0]), .inl (false, 24, fun _ => 0), .inl (false, 24, fun _ => 0), .inl (false, 24, fun _ => 0), .inl (false, 24, fun _ => 0), .inl (false, 24, fun _ => 0), .inl (false, 24, fun j => if j < 24 then (-1) else (fun _ => 0) j), .inl (false, 576, fun j => if j < 576 then 2 else (fun _ => 0) j), .inr (8, [.int 60, .int 60, .int (-1), .int 0, .int 0, .ref 14, .ref 15, .ref 16, .ref 17, .ref 18]), .inl (false, 24, fun _ => 0), .inl (false, 10, fun _ => 0), .inl (false, 24, fun _ => 0), .inl (false, 24, fun _ => 0), .inl (false, 193, fun _ => 0), .inr (2, [.int 10, .int 0, .ref 20]), .inl (false, 200, fun _ => 0), .inr (7, [.ref 22, .ref 23, .ref 24, .int 0, .ref 25, .ref 26, .ref 27, .ref 28, .ref 29, .ref 30]), .inl (false, 12, fun _ => 0), .inl (false, 24, fun _ => 0), .inl (false, 24, fun _ => 0), .inl (false, 12, fun _ => 0), .inl (false, 12, fun _ => 0), .inl (false, 7, upd (fun _ => 0) 6 1000), .inl (false, 7, fun _ => 0), .inl (false, 144, fun _ => 0), .inl (false, 24, fun _ => 0), .inr (0, [.ref 32, .int 0, .ref 33, .ref 34, .ref 35, .ref 36, .ref 37]), .inl (false, 40, fun _ => 0), .inl (false, 40, fun _ => 0), .inl (false, 40, fun _ => 0), .inl (false, 4, fun _ => 0), .inl (false, 4, fun j => if j < 4 then (-1) else (fun _ => 0) j), .inl (false, 4, fun _ => 0), .inr (5, [.int 0, .ref 39, .ref 40, .ref 41]), .inl (false, 30, fun _ => 0), .inl (false, 30, fun _ => 0), .inl (false, 30, fun _ => 0), .inr (6, [.int 0, .ref 43, .ref 44, .ref 45]), .inl (false, 4, fun j => if j < 4 then (-1) else (fun _ => 0) j), .inl (false, 4, fun _ => 0), .inl (false, 240, fun _ => 0), .inr (10, [.int 0, .null, .null, .int 0, .null, .null, .null, .null, .null, .null, .null, .int 0, .null, .int 0, .null, .null, .null, .null, .int 0, .int 0, .null, .null, .int 0, .null, .null, .null, .null, .null, .null, .null, .null, .null, .null, .null, .int 0, .null, .null, .null, .int 0, .null, .null, .null, .null, .null, .null, .null, .int 0])]
/-- the reference's second loop -/
theorem gl_X10' {w : List gX} {fs : List Value} {f : Nat → Int32} {cs sl : Nat} {wF : List gX} (hq : w[55]? = some (.inl (false, 576, f))) (hp : w[46]? = some (.inr (10, fs))) (hj : fs[10]? = some (.ref 55))
    (h : G mX10_init 37 6850 47 367 [some (.ref 46), some (.int (nI 576))] [] (w.set 55 (.inl (false, 576, fun j => if j < 576 then 2 else f j))) cs sl wF) : ∀ (d i : Nat), 576 = i + d → G mX10_init 37 6850 47 347 [some (.ref 46), some (.int (nI i))] [] (w.set 55 (.inl (false, 576, fun j => if j < i then 2 else f j))) cs sl wF := by
  intro d
  induction d with
  | zero =>
    intro i e
    have e : i = 576 := by omega
    subst e
    refine G.iload_n 1 dX10_init_347 rfl rfl ?_
    refine G.sipush (v := 576) dX10_init_348 (by decide) ?_
    refine G.icge 367 dX10_init_351 (by decide) (fun _ => h) (fun h => absurd (by decide) h)
  | succ d ih =>
    intro i e
    refine G.iload_n 1 dX10_init_347 rfl rfl ?_
    refine G.sipush (v := 576) dX10_init_348 (by decide) ?_
    refine G.icge 367 dX10_init_351 (by decide) (fun h => absurd h (nI_ge (b := 576) (by omega) (by omega))) (fun _ => ?_)
    refine G.aload_n 0 dX10_init_354 rfl rfl ?_
    refine G.get (.ref 55) fl_X10_34 dX10_init_355 (by rw [List.getElem?_set_ne (by decide)]; exact hp) hj ?_
    refine G.iload_n 1 dX10_init_358 rfl rfl ?_
    refine G.iconst (v := 2) dX10_init_359 (by decide) ?_
    refine G.iast i dX10_init_360 (gset_at hq) (vp_in_nI (by omega) (by omega)) (nI_clamp (by omega)) ?_
    rw [List.set_set, gupd_fill]
    refine G.iinc 1 1 dX10_init_361 rfl rfl (by decide) rfl ?_
    refine G.goto 347 dX10_init_364 (by decide) ?_
    have := ih (i + 1) (by omega)
    rw [nI_succ] at this
    exact this
theorem gl_X10 {w : List gX} {fs : List Value} {f : Nat → Int32} {cs sl : Nat} {wF : List gX} (hq : w[55]? = some (.inl (false, 576, f))) (hp : w[46]? = some (.inr (10, fs))) (hj : fs[10]? = some (.ref 55))
    (h : G mX10_init 37 6850 47 367 [some (.ref 46), some (.int (nI 576))] [] (w.set 55 (.inl (false, 576, fun j => if j < 576 then 2 else f j))) cs sl wF) : G mX10_init 37 6850 47 347 [some (.ref 46), some (.int 0)] [] w cs sl wF := by
  have := gl_X10' hq hp hj h 576 0 (by omega)
  have e : (w.set 55 (.inl (false, 576, fun j => if j < 0 then 2 else f j))) = w := by
    have e2 : (fun j => if j < 0 then 2 else f j) = f := by funext j; simp
    rw [e2]; exact gset_self hq
  rw [e, nI_0] at this
  exact this
def go_X10 : List gX := [.inr (9, [.ref 1, .ref 13, .ref 19, .ref 21, .ref 31, .ref 38, .ref 42]), .inr (3, [.ref 2, .ref 5, .int (-1)]), .inr (1, [.ref 3, .ref 4, .int 0]), .inl (false, 30, fun _ => 0), .inl (false, 30, fun _ => 0), .inr (4, [.ref 6, .ref 7, .ref 8, .ref 9, .ref 10, .ref 11, .ref 12, .int 0]), .inl (false, 24, fun _ => 0), .inl (false, 24, fun _ => 0), .inl (false, 24, fun _ => 0), .inl (false, 24, fun _ => 0), .inl (false, 24, fun _ => 0), .inl (false, 24, fun j => if j < 24 then (-1) else (fun _ => 0) j), .inl (false, 576, fun j => if j < 576 then 2 else (fun _ => 0) j), .inr (8, [.int 60, .int 60, .int (-1), .int 0, .int 0, .ref 14, .ref 15, .ref 16, .ref 17, .ref 18]), .inl (false, 24, fun _ => 0), .inl (false, 10, fun _ => 0), .inl (false, 24, fun _ => 0), .inl (false, 24, fun _ => 0), .inl (false, 193, fun _ => 0), .inr (2, [.int 10, .int 0, .ref 20]), .inl (false, 200, fun _ => 0), .inr (7, [.ref 22, .ref 23, .ref 24, .int 0, .ref 25, .ref 26, .ref 27, .ref 28, .ref 29, .ref 30]), .inl (false, 12, fun _ => 0), .inl (false, 24, fun _ => 0), .inl (false, 24, fun _ => 0), .inl (false, 12, fun _ => 0), .inl (false, 12, fun _ => 0), .inl (false, 7, upd (fun _ => 0) 6 1000), .inl (false, 7, fun _ => 0), .inl (false, 144, fun _ => 0), .inl (false, 24, fun _ => 0), .inr (0, [.ref 32, .int 0, .ref 33, .ref 34, .ref 35, .ref 36, .ref 37]), .inl (false, 40, fun _ => 0), .inl (false, 40, fun _ => 0), .inl (false, 40, fun _ => 0), .inl (false, 4, fun _ => 0), .inl (false, 4, fun j => if j < 4 then (-1) else (fun _ => 0) j), .inl (false, 4, fun _ => 0), .inr (5, [.int 0, .ref 39, .ref 40, .ref 41]), .inl (false, 30, fun _ => 0), .inl (false, 30, fun _ => 0), .inl (false, 30, fun _ => 0), .inr (6, [.int 0, .ref 43, .ref 44, .ref 45]), .inl (false, 4, fun j => if j < 4 then (-1) else (fun _ => 0) j), .inl (false, 4, fun _ => 0), .inl (false, 240, fun _ => 0), .inr (10, [.int 0, .ref 47, .ref 48, .int 0, .ref 49, .ref 50, .ref 51, .ref 52, .ref 53, .ref 54, .ref 55, .int (-1), .ref 56, .int 0, .ref 57, .ref 58, .ref 59, .ref 60, .int 10, .int 0, .ref 61, .ref 62, .int 0, .ref 63, .ref 64, .ref 65, .ref 66, .ref 67, .ref 68, .ref 69, .ref 70, .ref 71, .ref 72, .ref 73, .int 0, .ref 74, .ref 75, .ref 76, .int 0, .ref 77, .ref 78, .ref 79, .ref 80, .ref 81, .ref 82, .ref 83, .int 0]), .inl (false, 30, fun _ => 0), .inl (false, 30, fun _ => 0), .inl (false, 24, fun _ => 0), .inl (false, 24, fun _ => 0), .inl (false, 24, fun _ => 0), .inl (false, 24, fun _ => 0), .inl (false, 24, fun _ => 0), .inl (false, 24, fun _ => 0), .inl (false, 576, fun j => if j < 576 then 2 else (fun _ => 0) j), .inl (false, 2, upd (upd (fun _ => 0) 0 60) 1 60), .inl (false, 24, fun _ => 0), .inl (false, 24, fun _ => 0), .inl (true, 5000, fun _ => 0), .inl (false, 24, fun _ => 0), .inl (false, 200, fun _ => 0), .inl (false, 7, fun _ => 0), .inl (false, 12, fun _ => 0), .inl (false, 12, fun _ => 0), .inl (false, 12, fun _ => 0), .inl (false, 24, fun _ => 0), .inl (false, 144, fun _ => 0), .inl (false, 7, fun _ => 0), .inl (false, 24, fun _ => 0), .inl (false, 24, fun _ => 0), .inl (false, 4, upd (upd (upd (upd (fun _ => 0) 0 18) 1 18) 2 18) 3 18), .inl (false, 4, upd (upd (upd (upd (fun _ => 0) 0 (-1)) 1 (-1)) 2 (-1)) 3 (-1)), .inl (false, 4, fun _ => 0), .inl (false, 40, fun _ => 0), .inl (false, 40, fun _ => 0), .inl (false, 40, fun _ => 0), .inl (false, 30, fun _ => 0), .inl (false, 30, fun _ => 0), .inl (false, 30, fun _ => 0), .inl (false, 4, upd (upd (upd (upd (fun _ => 0) 0 (-1)) 1 (-1)) 2 (-1)) 3 (-1)), .inl (false, 4, fun _ => 0), .inl (false, 240, fun _ => 0), .inl (false, 60, fun _ => 0)]
set_option maxHeartbeats 4000000 in
set_option maxRecDepth 100000 in
theorem gs_X10 : Gs mX10_init [.ref 46] gi_X10 37 6850 go_X10 := by
  show G mX10_init 37 6850 47 0 _ [] gi_X10 0 0 go_X10
  refine G.aload_n 0 dX10_init_0 rfl rfl ?_
  refine G.obj go_X10_init dX10_init_1 ⟨rfl, rfl⟩ rfl ?_
  refine G.aload_n 0 dX10_init_4 rfl rfl ?_
  refine G.bipush (v := 30) dX10_init_5 (by decide) ?_
  refine G.newI (N := 30) 47 g_aI dX10_init_7 (by decide) (by decide) rfl (by decide +kernel) rfl rfl ?_
  refine G.put (q := 46) rfl gf_X10_7 (fun _ => rfl) (fun _ => rfl) dX10_init_9 rfl rfl ?_
  refine G.aload_n 0 dX10_init_12 rfl rfl ?_
  refine G.bipush (v := 30) dX10_init_13 (by decide) ?_
  refine G.newI (N := 30) 48 g_aI dX10_init_15 (by decide) (by decide) rfl (by decide +kernel) rfl rfl ?_
  refine G.put (q := 46) rfl gf_X10_13 (fun _ => rfl) (fun _ => rfl) dX10_init_17 rfl rfl ?_
  refine G.aload_n 0 dX10_init_20 rfl rfl ?_
  refine G.bipush (v := 24) dX10_init_21 (by decide) ?_
  refine G.newI (N := 24) 49 g_aI dX10_init_23 (by decide) (by decide) rfl (by decide +kernel) rfl rfl ?_
  refine G.put (q := 46) rfl gf_X10_16 (fun _ => rfl) (fun _ => rfl) dX10_init_25 rfl rfl ?_
  refine G.aload_n 0 dX10_init_28 rfl rfl ?_
  refine G.bipush (v := 24) dX10_init_29 (by decide) ?_
  refine G.newI (N := 24) 50 g_aI dX10_init_31 (by decide) (by decide) rfl (by decide +kernel) rfl rfl ?_
  refine G.put (q := 46) rfl gf_X10_19 (fun _ => rfl) (fun _ => rfl) dX10_init_33 rfl rfl ?_
  refine G.aload_n 0 dX10_init_36 rfl rfl ?_
  refine G.bipush (v := 24) dX10_init_37 (by decide) ?_
  refine G.newI (N := 24) 51 g_aI dX10_init_39 (by decide) (by decide) rfl (by decide +kernel) rfl rfl ?_
  refine G.put (q := 46) rfl gf_X10_22 (fun _ => rfl) (fun _ => rfl) dX10_init_41 rfl rfl ?_
  refine G.aload_n 0 dX10_init_44 rfl rfl ?_
  refine G.bipush (v := 24) dX10_init_45 (by decide) ?_
  refine G.newI (N := 24) 52 g_aI dX10_init_47 (by decide) (by decide) rfl (by decide +kernel) rfl rfl ?_
  refine G.put (q := 46) rfl gf_X10_25 (fun _ => rfl) (fun _ => rfl) dX10_init_49 rfl rfl ?_
  refine G.aload_n 0 dX10_init_52 rfl rfl ?_
  refine G.bipush (v := 24) dX10_init_53 (by decide) ?_
  refine G.newI (N := 24) 53 g_aI dX10_init_55 (by decide) (by decide) rfl (by decide +kernel) rfl rfl ?_
  refine G.put (q := 46) rfl gf_X10_28 (fun _ => rfl) (fun _ => rfl) dX10_init_57 rfl rfl ?_
  refine G.aload_n 0 dX10_init_60 rfl rfl ?_
  refine G.bipush (v := 24) dX10_init_61 (by decide) ?_
  refine G.newI (N := 24) 54 g_aI dX10_init_63 (by decide) (by decide) rfl (by decide +kernel) rfl rfl ?_
  refine G.put (q := 46) rfl gf_X10_31 (fun _ => rfl) (fun _ => rfl) dX10_init_65 rfl rfl ?_
  refine G.aload_n 0 dX10_init_68 rfl rfl ?_
  refine G.sipush (v := 576) dX10_init_69 (by decide) ?_
  refine G.newI (N := 576) 55 g_aI dX10_init_72 (by decide) (by decide) rfl (by decide +kernel) rfl rfl ?_
  refine G.put (q := 46) rfl gf_X10_34 (fun _ => rfl) (fun _ => rfl) dX10_init_74 rfl rfl ?_
  refine G.aload_n 0 dX10_init_77 rfl rfl ?_
  refine G.iconst (v := (-1)) dX10_init_78 (by decide) ?_
  refine G.put (q := 46) rfl gf_X10_37 (fun _ => rfl) (fun _ => rfl) dX10_init_79 rfl rfl ?_
  refine G.aload_n 0 dX10_init_82 rfl rfl ?_
  refine G.iconst (v := 2) dX10_init_83 (by decide) ?_
  refine G.newI (N := 2) 56 g_aI dX10_init_84 (by decide) (by decide) rfl (by decide +kernel) rfl rfl ?_
  refine G.put (q := 46) rfl gf_X10_41 (fun _ => rfl) (fun _ => rfl) dX10_init_86 rfl rfl ?_
  refine G.aload_n 0 dX10_init_89 rfl rfl ?_
  refine G.bipush (v := 24) dX10_init_90 (by decide) ?_
  refine G.newI (N := 24) 57 g_aI dX10_init_92 (by decide) (by decide) rfl (by decide +kernel) rfl rfl ?_
  refine G.put (q := 46) rfl gf_X10_44 (fun _ => rfl) (fun _ => rfl) dX10_init_94 rfl rfl ?_
  refine G.aload_n 0 dX10_init_97 rfl rfl ?_
  refine G.bipush (v := 24) dX10_init_98 (by decide) ?_
  refine G.newI (N := 24) 58 g_aI dX10_init_100 (by decide) (by decide) rfl (by decide +kernel) rfl rfl ?_
  refine G.put (q := 46) rfl gf_X10_47 (fun _ => rfl) (fun _ => rfl) dX10_init_102 rfl rfl ?_
  refine G.aload_n 0 dX10_init_105 rfl rfl ?_
  refine G.sipush (v := 5000) dX10_init_106 (by decide) ?_
  refine G.newZ (N := 5000) 59 g_aZ dX10_init_109 (by decide) (by decide) rfl (by decide +kernel) rfl rfl ?_
  refine G.put (q := 46) rfl gf_X10_50 (fun _ => rfl) (fun _ => rfl) dX10_init_111 rfl rfl ?_
  refine G.aload_n 0 dX10_init_114 rfl rfl ?_
  refine G.bipush (v := 24) dX10_init_115 (by decide) ?_
  refine G.newI (N := 24) 60 g_aI dX10_init_117 (by decide) (by decide) rfl (by decide +kernel) rfl rfl ?_
  refine G.put (q := 46) rfl gf_X10_54 (fun _ => rfl) (fun _ => rfl) dX10_init_119 rfl rfl ?_
  refine G.aload_n 0 dX10_init_122 rfl rfl ?_
  refine G.bipush (v := 10) dX10_init_123 (by decide) ?_
  refine G.put (q := 46) rfl gf_X10_57 (fun _ => rfl) (fun _ => rfl) dX10_init_125 rfl rfl ?_
  refine G.aload_n 0 dX10_init_128 rfl rfl ?_
  refine G.sipush (v := 200) dX10_init_129 (by decide) ?_
  refine G.newI (N := 200) 61 g_aI dX10_init_132 (by decide) (by decide) rfl (by decide +kernel) rfl rfl ?_
  refine G.put (q := 46) rfl gf_X10_60 (fun _ => rfl) (fun _ => rfl) dX10_init_134 rfl rfl ?_
  refine G.aload_n 0 dX10_init_137 rfl rfl ?_
  refine G.bipush (v := 7) dX10_init_138 (by decide) ?_
  refine G.newI (N := 7) 62 g_aI dX10_init_140 (by decide) (by decide) rfl (by decide +kernel) rfl rfl ?_
  refine G.put (q := 46) rfl gf_X10_63 (fun _ => rfl) (fun _ => rfl) dX10_init_142 rfl rfl ?_
  refine G.aload_n 0 dX10_init_145 rfl rfl ?_
  refine G.bipush (v := 12) dX10_init_146 (by decide) ?_
  refine G.newI (N := 12) 63 g_aI dX10_init_148 (by decide) (by decide) rfl (by decide +kernel) rfl rfl ?_
  refine G.put (q := 46) rfl gf_X10_66 (fun _ => rfl) (fun _ => rfl) dX10_init_150 rfl rfl ?_
  refine G.aload_n 0 dX10_init_153 rfl rfl ?_
  refine G.bipush (v := 12) dX10_init_154 (by decide) ?_
  refine G.newI (N := 12) 64 g_aI dX10_init_156 (by decide) (by decide) rfl (by decide +kernel) rfl rfl ?_
  refine G.put (q := 46) rfl gf_X10_69 (fun _ => rfl) (fun _ => rfl) dX10_init_158 rfl rfl ?_
  refine G.aload_n 0 dX10_init_161 rfl rfl ?_
  refine G.bipush (v := 12) dX10_init_162 (by decide) ?_
  refine G.newI (N := 12) 65 g_aI dX10_init_164 (by decide) (by decide) rfl (by decide +kernel) rfl rfl ?_
  refine G.put (q := 46) rfl gf_X10_72 (fun _ => rfl) (fun _ => rfl) dX10_init_166 rfl rfl ?_
  refine G.aload_n 0 dX10_init_169 rfl rfl ?_
  refine G.bipush (v := 24) dX10_init_170 (by decide) ?_
  refine G.newI (N := 24) 66 g_aI dX10_init_172 (by decide) (by decide) rfl (by decide +kernel) rfl rfl ?_
  refine G.put (q := 46) rfl gf_X10_75 (fun _ => rfl) (fun _ => rfl) dX10_init_174 rfl rfl ?_
  refine G.aload_n 0 dX10_init_177 rfl rfl ?_
  refine G.sipush (v := 144) dX10_init_178 (by decide) ?_
  refine G.newI (N := 144) 67 g_aI dX10_init_181 (by decide) (by decide) rfl (by decide +kernel) rfl rfl ?_
  refine G.put (q := 46) rfl gf_X10_78 (fun _ => rfl) (fun _ => rfl) dX10_init_183 rfl rfl ?_
  refine G.aload_n 0 dX10_init_186 rfl rfl ?_
  refine G.bipush (v := 7) dX10_init_187 (by decide) ?_
  refine G.newI (N := 7) 68 g_aI dX10_init_189 (by decide) (by decide) rfl (by decide +kernel) rfl rfl ?_
  refine G.put (q := 46) rfl gf_X10_81 (fun _ => rfl) (fun _ => rfl) dX10_init_191 rfl rfl ?_
  refine G.aload_n 0 dX10_init_194 rfl rfl ?_
  refine G.bipush (v := 24) dX10_init_195 (by decide) ?_
  refine G.newI (N := 24) 69 g_aI dX10_init_197 (by decide) (by decide) rfl (by decide +kernel) rfl rfl ?_
  refine G.put (q := 46) rfl gf_X10_84 (fun _ => rfl) (fun _ => rfl) dX10_init_199 rfl rfl ?_
  refine G.aload_n 0 dX10_init_202 rfl rfl ?_
  refine G.bipush (v := 24) dX10_init_203 (by decide) ?_
  refine G.newI (N := 24) 70 g_aI dX10_init_205 (by decide) (by decide) rfl (by decide +kernel) rfl rfl ?_
  refine G.put (q := 46) rfl gf_X10_87 (fun _ => rfl) (fun _ => rfl) dX10_init_207 rfl rfl ?_
  refine G.aload_n 0 dX10_init_210 rfl rfl ?_
  refine G.iconst (v := 4) dX10_init_211 (by decide) ?_
  refine G.newI (N := 4) 71 g_aI dX10_init_212 (by decide) (by decide) rfl (by decide +kernel) rfl rfl ?_
  refine G.put (q := 46) rfl gf_X10_90 (fun _ => rfl) (fun _ => rfl) dX10_init_214 rfl rfl ?_
  refine G.aload_n 0 dX10_init_217 rfl rfl ?_
  refine G.iconst (v := 4) dX10_init_218 (by decide) ?_
  refine G.newI (N := 4) 72 g_aI dX10_init_219 (by decide) (by decide) rfl (by decide +kernel) rfl rfl ?_
  refine G.put (q := 46) rfl gf_X10_93 (fun _ => rfl) (fun _ => rfl) dX10_init_221 rfl rfl ?_
  refine G.aload_n 0 dX10_init_224 rfl rfl ?_
  refine G.iconst (v := 4) dX10_init_225 (by decide) ?_
  refine G.newI (N := 4) 73 g_aI dX10_init_226 (by decide) (by decide) rfl (by decide +kernel) rfl rfl ?_
  refine G.put (q := 46) rfl gf_X10_96 (fun _ => rfl) (fun _ => rfl) dX10_init_228 rfl rfl ?_
  refine G.aload_n 0 dX10_init_231 rfl rfl ?_
  refine G.bipush (v := 40) dX10_init_232 (by decide) ?_
  refine G.newI (N := 40) 74 g_aI dX10_init_234 (by decide) (by decide) rfl (by decide +kernel) rfl rfl ?_
  refine G.put (q := 46) rfl gf_X10_99 (fun _ => rfl) (fun _ => rfl) dX10_init_236 rfl rfl ?_
  refine G.aload_n 0 dX10_init_239 rfl rfl ?_
  refine G.bipush (v := 40) dX10_init_240 (by decide) ?_
  refine G.newI (N := 40) 75 g_aI dX10_init_242 (by decide) (by decide) rfl (by decide +kernel) rfl rfl ?_
  refine G.put (q := 46) rfl gf_X10_102 (fun _ => rfl) (fun _ => rfl) dX10_init_244 rfl rfl ?_
  refine G.aload_n 0 dX10_init_247 rfl rfl ?_
  refine G.bipush (v := 40) dX10_init_248 (by decide) ?_
  refine G.newI (N := 40) 76 g_aI dX10_init_250 (by decide) (by decide) rfl (by decide +kernel) rfl rfl ?_
  refine G.put (q := 46) rfl gf_X10_105 (fun _ => rfl) (fun _ => rfl) dX10_init_252 rfl rfl ?_
  refine G.aload_n 0 dX10_init_255 rfl rfl ?_
  refine G.bipush (v := 30) dX10_init_256 (by decide) ?_
  refine G.newI (N := 30) 77 g_aI dX10_init_258 (by decide) (by decide) rfl (by decide +kernel) rfl rfl ?_
  refine G.put (q := 46) rfl gf_X10_108 (fun _ => rfl) (fun _ => rfl) dX10_init_260 rfl rfl ?_
  refine G.aload_n 0 dX10_init_263 rfl rfl ?_
  refine G.bipush (v := 30) dX10_init_264 (by decide) ?_
  refine G.newI (N := 30) 78 g_aI dX10_init_266 (by decide) (by decide) rfl (by decide +kernel) rfl rfl ?_
  refine G.put (q := 46) rfl gf_X10_111 (fun _ => rfl) (fun _ => rfl) dX10_init_268 rfl rfl ?_
  refine G.aload_n 0 dX10_init_271 rfl rfl ?_
  refine G.bipush (v := 30) dX10_init_272 (by decide) ?_
  refine G.newI (N := 30) 79 g_aI dX10_init_274 (by decide) (by decide) rfl (by decide +kernel) rfl rfl ?_
  refine G.put (q := 46) rfl gf_X10_114 (fun _ => rfl) (fun _ => rfl) dX10_init_276 rfl rfl ?_
  refine G.aload_n 0 dX10_init_279 rfl rfl ?_
  refine G.iconst (v := 4) dX10_init_280 (by decide) ?_
  refine G.newI (N := 4) 80 g_aI dX10_init_281 (by decide) (by decide) rfl (by decide +kernel) rfl rfl ?_
  refine G.put (q := 46) rfl gf_X10_117 (fun _ => rfl) (fun _ => rfl) dX10_init_283 rfl rfl ?_
  refine G.aload_n 0 dX10_init_286 rfl rfl ?_
  refine G.iconst (v := 4) dX10_init_287 (by decide) ?_
  refine G.newI (N := 4) 81 g_aI dX10_init_288 (by decide) (by decide) rfl (by decide +kernel) rfl rfl ?_
  refine G.put (q := 46) rfl gf_X10_120 (fun _ => rfl) (fun _ => rfl) dX10_init_290 rfl rfl ?_
  refine G.aload_n 0 dX10_init_293 rfl rfl ?_
  refine G.sipush (v := 240) dX10_init_294 (by decide) ?_
  refine G.newI (N := 240) 82 g_aI dX10_init_297 (by decide) (by decide) rfl (by decide +kernel) rfl rfl ?_
  refine G.put (q := 46) rfl gf_X10_123 (fun _ => rfl) (fun _ => rfl) dX10_init_299 rfl rfl ?_
  refine G.aload_n 0 dX10_init_302 rfl rfl ?_
  refine G.bipush (v := 60) dX10_init_303 (by decide) ?_
  refine G.newI (N := 60) 83 g_aI dX10_init_305 (by decide) (by decide) rfl (by decide +kernel) rfl rfl ?_
  refine G.put (q := 46) rfl gf_X10_126 (fun _ => rfl) (fun _ => rfl) dX10_init_307 rfl rfl ?_
  refine G.iconst (v := 0) dX10_init_310 (by decide) ?_
  refine G.istore_n 1 dX10_init_311 rfl (by decide) rfl ?_
  refine G.iload_n 1 dX10_init_312 rfl rfl ?_
  refine G.iconst (v := 4) dX10_init_313 (by decide) ?_
  refine G.icge 345 dX10_init_314 (by decide) (fun h => absurd h (by decide)) (fun _ => ?_)
  refine G.aload_n 0 dX10_init_317 rfl rfl ?_
  refine G.get (.ref 80) fl_X10_117 dX10_init_318 rfl rfl ?_
  refine G.iload_n 1 dX10_init_321 rfl rfl ?_
  refine G.iconst (v := (-1)) dX10_init_322 (by decide) ?_
  refine G.iast (q := 80) 0 dX10_init_323 rfl (vp_in_nI (n := 0) (by decide) (by decide)) (by decide) ?_
  refine G.aload_n 0 dX10_init_324 rfl rfl ?_
  refine G.get (.ref 71) fl_X10_90 dX10_init_325 rfl rfl ?_
  refine G.iload_n 1 dX10_init_328 rfl rfl ?_
  refine G.bipush (v := 18) dX10_init_329 (by decide) ?_
  refine G.iast (q := 71) 0 dX10_init_331 rfl (vp_in_nI (n := 0) (by decide) (by decide)) (by decide) ?_
  refine G.aload_n 0 dX10_init_332 rfl rfl ?_
  refine G.get (.ref 72) fl_X10_93 dX10_init_333 rfl rfl ?_
  refine G.iload_n 1 dX10_init_336 rfl rfl ?_
  refine G.iconst (v := (-1)) dX10_init_337 (by decide) ?_
  refine G.iast (q := 72) 0 dX10_init_338 rfl (vp_in_nI (n := 0) (by decide) (by decide)) (by decide) ?_
  refine G.iinc 1 1 dX10_init_339 rfl rfl (by decide) rfl ?_
  refine G.convL (L2 := [some (.ref 46), some (.int 1)]) rfl ?_
  refine G.goto 312 dX10_init_342 (by decide) ?_
  refine G.iload_n 1 dX10_init_312 rfl rfl ?_
  refine G.iconst (v := 4) dX10_init_313 (by decide) ?_
  refine G.icge 345 dX10_init_314 (by decide) (fun h => absurd h (by decide)) (fun _ => ?_)
  refine G.aload_n 0 dX10_init_317 rfl rfl ?_
  refine G.get (.ref 80) fl_X10_117 dX10_init_318 rfl rfl ?_
  refine G.iload_n 1 dX10_init_321 rfl rfl ?_
  refine G.iconst (v := (-1)) dX10_init_322 (by decide) ?_
  refine G.iast (q := 80) 1 dX10_init_323 rfl (vp_in_nI (n := 1) (by decide) (by decide)) (by decide) ?_
  refine G.aload_n 0 dX10_init_324 rfl rfl ?_
  refine G.get (.ref 71) fl_X10_90 dX10_init_325 rfl rfl ?_
  refine G.iload_n 1 dX10_init_328 rfl rfl ?_
  refine G.bipush (v := 18) dX10_init_329 (by decide) ?_
  refine G.iast (q := 71) 1 dX10_init_331 rfl (vp_in_nI (n := 1) (by decide) (by decide)) (by decide) ?_
  refine G.aload_n 0 dX10_init_332 rfl rfl ?_
  refine G.get (.ref 72) fl_X10_93 dX10_init_333 rfl rfl ?_
  refine G.iload_n 1 dX10_init_336 rfl rfl ?_
  refine G.iconst (v := (-1)) dX10_init_337 (by decide) ?_
  refine G.iast (q := 72) 1 dX10_init_338 rfl (vp_in_nI (n := 1) (by decide) (by decide)) (by decide) ?_
  refine G.iinc 1 1 dX10_init_339 rfl rfl (by decide) rfl ?_
  refine G.convL (L2 := [some (.ref 46), some (.int 2)]) rfl ?_
  refine G.goto 312 dX10_init_342 (by decide) ?_
  refine G.iload_n 1 dX10_init_312 rfl rfl ?_
  refine G.iconst (v := 4) dX10_init_313 (by decide) ?_
  refine G.icge 345 dX10_init_314 (by decide) (fun h => absurd h (by decide)) (fun _ => ?_)
  refine G.aload_n 0 dX10_init_317 rfl rfl ?_
  refine G.get (.ref 80) fl_X10_117 dX10_init_318 rfl rfl ?_
  refine G.iload_n 1 dX10_init_321 rfl rfl ?_
  refine G.iconst (v := (-1)) dX10_init_322 (by decide) ?_
  refine G.iast (q := 80) 2 dX10_init_323 rfl (vp_in_nI (n := 2) (by decide) (by decide)) (by decide) ?_
  refine G.aload_n 0 dX10_init_324 rfl rfl ?_
  refine G.get (.ref 71) fl_X10_90 dX10_init_325 rfl rfl ?_
  refine G.iload_n 1 dX10_init_328 rfl rfl ?_
  refine G.bipush (v := 18) dX10_init_329 (by decide) ?_
  refine G.iast (q := 71) 2 dX10_init_331 rfl (vp_in_nI (n := 2) (by decide) (by decide)) (by decide) ?_
  refine G.aload_n 0 dX10_init_332 rfl rfl ?_
  refine G.get (.ref 72) fl_X10_93 dX10_init_333 rfl rfl ?_
  refine G.iload_n 1 dX10_init_336 rfl rfl ?_
  refine G.iconst (v := (-1)) dX10_init_337 (by decide) ?_
  refine G.iast (q := 72) 2 dX10_init_338 rfl (vp_in_nI (n := 2) (by decide) (by decide)) (by decide) ?_
  refine G.iinc 1 1 dX10_init_339 rfl rfl (by decide) rfl ?_
  refine G.convL (L2 := [some (.ref 46), some (.int 3)]) rfl ?_
  refine G.goto 312 dX10_init_342 (by decide) ?_
  refine G.iload_n 1 dX10_init_312 rfl rfl ?_
  refine G.iconst (v := 4) dX10_init_313 (by decide) ?_
  refine G.icge 345 dX10_init_314 (by decide) (fun h => absurd h (by decide)) (fun _ => ?_)
  refine G.aload_n 0 dX10_init_317 rfl rfl ?_
  refine G.get (.ref 80) fl_X10_117 dX10_init_318 rfl rfl ?_
  refine G.iload_n 1 dX10_init_321 rfl rfl ?_
  refine G.iconst (v := (-1)) dX10_init_322 (by decide) ?_
  refine G.iast (q := 80) 3 dX10_init_323 rfl (vp_in_nI (n := 3) (by decide) (by decide)) (by decide) ?_
  refine G.aload_n 0 dX10_init_324 rfl rfl ?_
  refine G.get (.ref 71) fl_X10_90 dX10_init_325 rfl rfl ?_
  refine G.iload_n 1 dX10_init_328 rfl rfl ?_
  refine G.bipush (v := 18) dX10_init_329 (by decide) ?_
  refine G.iast (q := 71) 3 dX10_init_331 rfl (vp_in_nI (n := 3) (by decide) (by decide)) (by decide) ?_
  refine G.aload_n 0 dX10_init_332 rfl rfl ?_
  refine G.get (.ref 72) fl_X10_93 dX10_init_333 rfl rfl ?_
  refine G.iload_n 1 dX10_init_336 rfl rfl ?_
  refine G.iconst (v := (-1)) dX10_init_337 (by decide) ?_
  refine G.iast (q := 72) 3 dX10_init_338 rfl (vp_in_nI (n := 3) (by decide) (by decide)) (by decide) ?_
  refine G.iinc 1 1 dX10_init_339 rfl rfl (by decide) rfl ?_
  refine G.convL (L2 := [some (.ref 46), some (.int 4)]) rfl ?_
  refine G.goto 312 dX10_init_342 (by decide) ?_
  refine G.iload_n 1 dX10_init_312 rfl rfl ?_
  refine G.iconst (v := 4) dX10_init_313 (by decide) ?_
  refine G.icge 345 dX10_init_314 (by decide) (fun _ => ?_) (fun h => absurd (by decide) h)
  refine G.iconst (v := 0) dX10_init_345 (by decide) ?_
  refine G.istore_n 1 dX10_init_346 rfl (by decide) rfl ?_
  refine gl_X10 rfl rfl rfl ?_
  refine G.aload_n 0 dX10_init_367 rfl rfl ?_
  refine G.get (.ref 56) fl_X10_41 dX10_init_368 rfl rfl ?_
  refine G.iconst (v := 0) dX10_init_371 (by decide) ?_
  refine G.bipush (v := 60) dX10_init_372 (by decide) ?_
  refine G.iast (q := 56) 0 dX10_init_374 rfl (vp_in_nI (n := 0) (by decide) (by decide)) (by decide) ?_
  refine G.aload_n 0 dX10_init_375 rfl rfl ?_
  refine G.get (.ref 56) fl_X10_41 dX10_init_376 rfl rfl ?_
  refine G.iconst (v := 1) dX10_init_379 (by decide) ?_
  refine G.bipush (v := 60) dX10_init_380 (by decide) ?_
  refine G.iast (q := 56) 1 dX10_init_382 rfl (vp_in_nI (n := 1) (by decide) (by decide)) (by decide) ?_
  exact G.vret dX10_init_383 rfl rfl rfl rfl
