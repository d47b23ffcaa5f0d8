/-! the constructors -/
theorem g_aI : Cond.arrayClass .int ∈ lw_tbl := List.mem_of_getElem? (i := 96) (by decide +kernel)
theorem g_aZ : Cond.arrayClass .boolean ∈ lw_tbl := List.mem_of_getElem? (i := 987) (by decide +kernel)
theorem g_oi : Cond.instanceMethod Lib.objectInit ∈ lw_tbl := List.mem_of_getElem? (i := 68) (by decide +kernel)
theorem g_oc : Cond.code Lib.objectInit ⟨#[0xb1]⟩ 1 none ∈ lw_tbl := List.mem_of_getElem? (i := 69) (by decide +kernel)
abbrev mX1_init : xK := (yX1_init, cX1_init, 1, none, 1, 40)
theorem me_X1_init : xMeth mX1_init := ⟨List.mem_of_getElem? (i := 80) (by decide +kernel), by decide +kernel, by decide +kernel, by decide +kernel, ini_RX1⟩
theorem pd_X1_init : (parseMethodDescriptor (mX1_init).1.desc).map (fun d => d.parameters.length) = some 0 := by decide +kernel
theorem im_X1_init : Cond.instanceMethod yX1_init ∈ lw_tbl := List.mem_of_getElem? (i := 79) (by decide +kernel)
theorem go_X1_init : gOI RX1 3 := ⟨List.mem_of_getElem? (i := 81) (by decide +kernel), g_oi, g_oc⟩
abbrev mX4_init : xK := (yX4_init, cX4_init, 1, none, 1, 40)
theorem me_X4_init : xMeth mX4_init := ⟨List.mem_of_getElem? (i := 101) (by decide +kernel), by decide +kernel, by decide +kernel, by decide +kernel, ini_RX4⟩
theorem pd_X4_init : (parseMethodDescriptor (mX4_init).1.desc).map (fun d => d.parameters.length) = some 0 := by decide +kernel
theorem im_X4_init : Cond.instanceMethod yX4_init ∈ lw_tbl := List.mem_of_getElem? (i := 100) (by decide +kernel)
theorem go_X4_init : gOI RX4 3 := ⟨List.mem_of_getElem? (i := 102) (by decide +kernel), g_oi, g_oc⟩
abbrev mX3_init : xK := (yX3_init, cX3_init, 1, none, 2, 60)
theorem me_X3_init : xMeth mX3_init := ⟨List.mem_of_getElem? (i := 74) (by decide +kernel), by decide +kernel, by decide +kernel, by decide +kernel, ini_RX3⟩
theorem pd_X3_init : (parseMethodDescriptor (mX3_init).1.desc).map (fun d => d.parameters.length) = some 0 := by decide +kernel
theorem im_X3_init : Cond.instanceMethod yX3_init ∈ lw_tbl := List.mem_of_getElem? (i := 73) (by decide +kernel)
theorem go_X3_init : gOI RX3 3 := ⟨List.mem_of_getElem? (i := 75) (by decide +kernel), g_oi, g_oc⟩
abbrev mX8_init : xK := (yX8_init, cX8_init, 1, none, 1, 40)
theorem me_X8_init : xMeth mX8_init := ⟨List.mem_of_getElem? (i := 160) (by decide +kernel), by decide +kernel, by decide +kernel, by decide +kernel, ini_RX8⟩
theorem pd_X8_init : (parseMethodDescriptor (mX8_init).1.desc).map (fun d => d.parameters.length) = some 0 := by decide +kernel
theorem im_X8_init : Cond.instanceMethod yX8_init ∈ lw_tbl := List.mem_of_getElem? (i := 159) (by decide +kernel)
theorem go_X8_init : gOI RX8 5 := ⟨List.mem_of_getElem? (i := 161) (by decide +kernel), g_oi, g_oc⟩
abbrev mX2_init : xK := (yX2_init, cX2_init, 1, none, 1, 40)
theorem me_X2_init : xMeth mX2_init := ⟨List.mem_of_getElem? (i := 198) (by decide +kernel), by decide +kernel, by decide +kernel, by decide +kernel, ini_RX2⟩
theorem pd_X2_init : (parseMethodDescriptor (mX2_init).1.desc).map (fun d => d.parameters.length) = some 0 := by decide +kernel
theorem im_X2_init : Cond.instanceMethod yX2_init ∈ lw_tbl := List.mem_of_getElem? (i := 197) (by decide +kernel)
theorem go_X2_init : gOI RX2 3 := ⟨List.mem_of_getElem? (i := 199) (by decide +kernel), g_oi, g_oc⟩
abbrev mX7_init : xK := (yX7_init, cX7_init, 1, none, 1, 40)
theorem me_X7_init : xMeth mX7_init := ⟨List.mem_of_getElem? (i := 215) (by decide +kernel), by decide +kernel, by decide +kernel, by decide +kernel, ini_RX7⟩
theorem pd_X7_init : (parseMethodDescriptor (mX7_init).1.desc).map (fun d => d.parameters.length) = some 0 := by decide +kernel
theorem im_X7_init : Cond.instanceMethod yX7_init ∈ lw_tbl := List.mem_of_getElem? (i := 214) (by decide +kernel)
theorem go_X7_init : gOI RX7 3 := ⟨List.mem_of_getElem? (i := 216) (by decide +kernel), g_oi, g_oc⟩
abbrev mX0_init : xK := (yX0_init, cX0_init, 1, none, 1, 40)
theorem me_X0_init : xMeth mX0_init := ⟨List.mem_of_getElem? (i := 256) (by decide +kernel), by decide +kernel, by decide +kernel, by decide +kernel, ini_RX0⟩
theorem pd_X0_init : (parseMethodDescriptor (mX0_init).1.desc).map (fun d => d.parameters.length) = some 0 := by decide +kernel
theorem im_X0_init : Cond.instanceMethod yX0_init ∈ lw_tbl := List.mem_of_getElem? (i := 255) (by decide +kernel)
theorem go_X0_init : gOI RX0 3 := ⟨List.mem_of_getElem? (i := 257) (by decide +kernel), g_oi, g_oc⟩
abbrev mX5_init : xK := (yX5_init, cX5_init, 1, none, 1, 40)
theorem me_X5_init : xMeth mX5_init := ⟨List.mem_of_getElem? (i := 287) (by decide +kernel), by decide +kernel, by decide +kernel, by decide +kernel, ini_RX5⟩
theorem pd_X5_init : (parseMethodDescriptor (mX5_init).1.desc).map (fun d => d.parameters.length) = some 0 := by decide +kernel
theorem im_X5_init : Cond.instanceMethod yX5_init ∈ lw_tbl := List.mem_of_getElem? (i := 286) (by decide +kernel)
theorem go_X5_init : gOI RX5 3 := ⟨List.mem_of_getElem? (i := 288) (by decide +kernel), g_oi, g_oc⟩
abbrev mX6_init : xK := (yX6_init, cX6_init, 1, none, 1, 40)
theorem me_X6_init : xMeth mX6_init := ⟨List.mem_of_getElem? (i := 307) (by decide +kernel), by decide +kernel, by decide +kernel, by decide +kernel, ini_RX6⟩
theorem pd_X6_init : (parseMethodDescriptor (mX6_init).1.desc).map (fun d => d.parameters.length) = some 0 := by decide +kernel
theorem im_X6_init : Cond.instanceMethod yX6_init ∈ lw_tbl := List.mem_of_getElem? (i := 306) (by decide +kernel)
theorem go_X6_init : gOI RX6 3 := ⟨List.mem_of_getElem? (i := 308) (by decide +kernel), g_oi, g_oc⟩
abbrev mX9_init : xK := (yX9_init, cX9_init, 1, none, 3, 80)
theorem me_X9_init : xMeth mX9_init := ⟨List.mem_of_getElem? (i := 66) (by decide +kernel), by decide +kernel, by decide +kernel, by decide +kernel, ini_RX9⟩
theorem pd_X9_init : (parseMethodDescriptor (mX9_init).1.desc).map (fun d => d.parameters.length) = some 0 := by decide +kernel
theorem im_X9_init : Cond.instanceMethod yX9_init ∈ lw_tbl := List.mem_of_getElem? (i := 65) (by decide +kernel)
theorem go_X9_init : gOI RX9 1 := ⟨List.mem_of_getElem? (i := 67) (by decide +kernel), g_oi, g_oc⟩
abbrev mX10_init : xK := (yX10_init, cX10_init, 2, none, 1, 40)
theorem me_X10_init : xMeth mX10_init := ⟨List.mem_of_getElem? (i := 843) (by decide +kernel), by decide +kernel, by decide +kernel, by decide +kernel, ini_RX10⟩
theorem pd_X10_init : (parseMethodDescriptor (mX10_init).1.desc).map (fun d => d.parameters.length) = some 0 := by decide +kernel
theorem im_X10_init : Cond.instanceMethod yX10_init ∈ lw_tbl := List.mem_of_getElem? (i := 842) (by decide +kernel)
theorem go_X10_init : gOI RX10 1 := ⟨List.mem_of_getElem? (i := 844) (by decide +kernel), g_oi, g_oc⟩
theorem gn_X9_7 : gCN RX9 7 3 3 [.null, .null, .int 0] := ⟨RX3, TX3, tyX3, rfl, List.mem_of_getElem? (i := 70) (by decide +kernel), List.mem_of_getElem? (i := 71) (by decide +kernel), ini_RX3, inX3, tyX3_ok, gdX3, by decide, rfl⟩
theorem gn_X3_9 : gCN RX3 9 1 3 [.null, .null, .int 0] := ⟨RX1, TX1, tyX1, rfl, List.mem_of_getElem? (i := 76) (by decide +kernel), List.mem_of_getElem? (i := 77) (by decide +kernel), ini_RX1, inX1, tyX1_ok, gdX1, by decide, rfl⟩
theorem gf_X1_11 : gFP RX1 11 1 0 true (.array .int) := ⟨fl_X1_11, RX1, TX1, 3, rfl, rfl, rfl, by decide +kernel⟩
theorem gf_X1_15 : gFP RX1 15 1 1 true (.array .int) := ⟨fl_X1_15, RX1, TX1, 3, rfl, rfl, rfl, by decide +kernel⟩
theorem gf_X1_18 : gFP RX1 18 1 2 false (.int) := ⟨fl_X1_18, RX1, TX1, 3, rfl, rfl, rfl, by decide +kernel⟩
def gi_X1 : List gX := [.inr (9, [.null, .null, .null, .null, .null, .null, .null]), .inr (3, [.null, .null, .int 0]), .inr (1, [.null, .null, .int 0])]
def go_X1 : List gX := [.inr (9, [.null, .null, .null, .null, .null, .null, .null]), .inr (3, [.null, .null, .int 0]), .inr (1, [.ref 3, .ref 4, .int 0]), .inl (false, 30, fun _ => 0), .inl (false, 30, fun _ => 0)]
set_option maxHeartbeats 4000000 in
set_option maxRecDepth 100000 in
theorem gs_X1 : Gs mX1_init [.ref 2] gi_X1 2 60 go_X1 := by
  show G mX1_init 2 60 3 0 _ [] gi_X1 0 0 go_X1
  refine G.aload_n 0 dX1_init_0 rfl rfl ?_
  refine G.obj go_X1_init dX1_init_1 ⟨rfl, rfl⟩ rfl ?_
  refine G.aload_n 0 dX1_init_4 rfl rfl ?_
  refine G.bipush (v := 30) dX1_init_5 (by decide) ?_
  refine G.newI (N := 30) 3 g_aI dX1_init_7 (by decide) (by decide) rfl (by decide +kernel) rfl rfl ?_
  refine G.put (q := 2) rfl gf_X1_11 (fun _ => rfl) (fun _ => rfl) dX1_init_9 rfl rfl ?_
  refine G.aload_n 0 dX1_init_12 rfl rfl ?_
  refine G.bipush (v := 30) dX1_init_13 (by decide) ?_
  refine G.newI (N := 30) 4 g_aI dX1_init_15 (by decide) (by decide) rfl (by decide +kernel) rfl rfl ?_
  refine G.put (q := 2) rfl gf_X1_15 (fun _ => rfl) (fun _ => rfl) dX1_init_17 rfl rfl ?_
  refine G.aload_n 0 dX1_init_20 rfl rfl ?_
  refine G.iconst (v := 0) dX1_init_21 (by decide) ?_
  refine G.put (q := 2) rfl gf_X1_18 (fun _ => rfl) (fun _ => rfl) dX1_init_22 rfl rfl ?_
  exact G.vret dX1_init_25 rfl rfl rfl rfl
theorem gc_X3_11 : gCM mX3_init mX1_init 11 := ⟨⟨me_X1_init, pd_X1_init, by decide, by decide⟩, rfl, List.mem_of_getElem? (i := 1) rfl, im_X1_init, rfl⟩
theorem gf_X3_12 : gFP RX3 12 3 0 true (.object "CampWeek$Huts") := ⟨fl_X3_12, RX3, TX3, 3, rfl, rfl, rfl, by decide +kernel⟩
theorem gn_X3_18 : gCN RX3 18 4 8 [.null, .null, .null, .null, .null, .null, .null, .int 0] := ⟨RX4, TX4, tyX4, rfl, List.mem_of_getElem? (i := 97) (by decide +kernel), List.mem_of_getElem? (i := 98) (by decide +kernel), ini_RX4, inX4, tyX4_ok, gdX4, by decide, rfl⟩
theorem gf_X4_11 : gFP RX4 11 4 0 true (.array .int) := ⟨fl_X4_11, RX4, TX4, 8, rfl, rfl, rfl, by decide +kernel⟩
theorem gf_X4_15 : gFP RX4 15 4 1 true (.array .int) := ⟨fl_X4_15, RX4, TX4, 8, rfl, rfl, rfl, by decide +kernel⟩
theorem gf_X4_18 : gFP RX4 18 4 2 true (.array .int) := ⟨fl_X4_18, RX4, TX4, 8, rfl, rfl, rfl, by decide +kernel⟩
theorem gf_X4_21 : gFP RX4 21 4 3 true (.array .int) := ⟨fl_X4_21, RX4, TX4, 8, rfl, rfl, rfl, by decide +kernel⟩
theorem gf_X4_24 : gFP RX4 24 4 4 true (.array .int) := ⟨fl_X4_24, RX4, TX4, 8, rfl, rfl, rfl, by decide +kernel⟩
theorem gf_X4_27 : gFP RX4 27 4 5 true (.array .int) := ⟨fl_X4_27, RX4, TX4, 8, rfl, rfl, rfl, by decide +kernel⟩
theorem gf_X4_30 : gFP RX4 30 4 6 true (.array .int) := ⟨fl_X4_30, RX4, TX4, 8, rfl, rfl, rfl, by decide +kernel⟩
theorem gf_X4_33 : gFP RX4 33 4 7 false (.int) := ⟨fl_X4_33, RX4, TX4, 8, rfl, rfl, rfl, by decide +kernel⟩
theorem cs_X4_init_37 : xCS mX4_init mJ7_fill_53178 37 2 := ⟨⟨me_J7_fill_53178, pd_J7_fill_53178, by decide, by decide⟩, lk_X4_37, st_J7_fill_53178⟩
def gi_X4 : List gX := [.inr (9, [.null, .null, .null, .null, .null, .null, .null]), .inr (3, [.ref 2, .null, .int 0]), .inr (1, [.ref 3, .ref 4, .int 0]), .inl (false, 30, fun _ => 0), .inl (false, 30, fun _ => 0), .inr (4, [.null, .null, .null, .null, .null, .null, .null, .int 0])]
def go_X4 : List gX := [.inr (9, [.null, .null, .null, .null, .null, .null, .null]), .inr (3, [.ref 2, .null, .int 0]), .inr (1, [.ref 3, .ref 4, .int 0]), .inl (false, 30, fun _ => 0), .inl (false, 30, fun _ => 0), .inr (4, [.ref 6, .ref 7, .ref 8, .ref 9, .ref 10, .ref 11, .ref 12, .int 0]), .inl (false, 24, fun _ => 0), .inl (false, 24, fun _ => 0), .inl (false, 24, fun _ => 0), .inl (false, 24, fun _ => 0), .inl (false, 24, fun _ => 0), .inl (false, 24, fun j => if j < 24 then (-1) else (fun _ => 0) j), .inl (false, 576, fun j => if j < 576 then 2 else (fun _ => 0) j)]
set_option maxHeartbeats 4000000 in
set_option maxRecDepth 100000 in
theorem gs_X4 : Gs mX4_init [.ref 5] gi_X4 7 720 go_X4 := by
  show G mX4_init 7 720 6 0 _ [] gi_X4 0 0 go_X4
  refine G.aload_n 0 dX4_init_0 rfl rfl ?_
  refine G.obj go_X4_init dX4_init_1 ⟨rfl, rfl⟩ rfl ?_
  refine G.aload_n 0 dX4_init_4 rfl rfl ?_
  refine G.bipush (v := 24) dX4_init_5 (by decide) ?_
  refine G.newI (N := 24) 6 g_aI dX4_init_7 (by decide) (by decide) rfl (by decide +kernel) rfl rfl ?_
  refine G.put (q := 5) rfl gf_X4_11 (fun _ => rfl) (fun _ => rfl) dX4_init_9 rfl rfl ?_
  refine G.aload_n 0 dX4_init_12 rfl rfl ?_
  refine G.bipush (v := 24) dX4_init_13 (by decide) ?_
  refine G.newI (N := 24) 7 g_aI dX4_init_15 (by decide) (by decide) rfl (by decide +kernel) rfl rfl ?_
  refine G.put (q := 5) rfl gf_X4_15 (fun _ => rfl) (fun _ => rfl) dX4_init_17 rfl rfl ?_
  refine G.aload_n 0 dX4_init_20 rfl rfl ?_
  refine G.bipush (v := 24) dX4_init_21 (by decide) ?_
  refine G.newI (N := 24) 8 g_aI dX4_init_23 (by decide) (by decide) rfl (by decide +kernel) rfl rfl ?_
  refine G.put (q := 5) rfl gf_X4_18 (fun _ => rfl) (fun _ => rfl) dX4_init_25 rfl rfl ?_
  refine G.aload_n 0 dX4_init_28 rfl rfl ?_
  refine G.bipush (v := 24) dX4_init_29 (by decide) ?_
  refine G.newI (N := 24) 9 g_aI dX4_init_31 (by decide) (by decide) rfl (by decide +kernel) rfl rfl ?_
  refine G.put (q := 5) rfl gf_X4_21 (fun _ => rfl) (fun _ => rfl) dX4_init_33 rfl rfl ?_
  refine G.aload_n 0 dX4_init_36 rfl rfl ?_
  refine G.bipush (v := 24) dX4_init_37 (by decide) ?_
  refine G.newI (N := 24) 10 g_aI dX4_init_39 (by decide) (by decide) rfl (by decide +kernel) rfl rfl ?_
  refine G.put (q := 5) rfl gf_X4_24 (fun _ => rfl) (fun _ => rfl) dX4_init_41 rfl rfl ?_
  refine G.aload_n 0 dX4_init_44 rfl rfl ?_
  refine G.bipush (v := 24) dX4_init_45 (by decide) ?_
  refine G.newI (N := 24) 11 g_aI dX4_init_47 (by decide) (by decide) rfl (by decide +kernel) rfl rfl ?_
  refine G.put (q := 5) rfl gf_X4_27 (fun _ => rfl) (fun _ => rfl) dX4_init_49 rfl rfl ?_
  refine G.aload_n 0 dX4_init_52 rfl rfl ?_
  refine G.sipush (v := 576) dX4_init_53 (by decide) ?_
  refine G.newI (N := 576) 12 g_aI dX4_init_56 (by decide) (by decide) rfl (by decide +kernel) rfl rfl ?_
  refine G.put (q := 5) rfl gf_X4_30 (fun _ => rfl) (fun _ => rfl) dX4_init_58 rfl rfl ?_
  refine G.aload_n 0 dX4_init_61 rfl rfl ?_
  refine G.iconst (v := 0) dX4_init_62 (by decide) ?_
  refine G.put (q := 5) rfl gf_X4_33 (fun _ => rfl) (fun _ => rfl) dX4_init_63 rfl rfl ?_
  refine G.aload_n 0 dX4_init_66 rfl rfl ?_
  refine G.get (.ref 11) fl_X4_27 dX4_init_67 rfl rfl ?_
  refine G.iconst (v := (-1)) dX4_init_70 (by decide) ?_
  refine G.callS (As := [.ref 11, .int (-1)]) (st := []) 13 cs_X4_init_37 dX4_init_71 rfl rfl rfl rfl (by decide +kernel) (gs_fill (-1) rfl (by decide)) rfl rfl ?_
  refine G.aload_n 0 dX4_init_74 rfl rfl ?_
  refine G.get (.ref 12) fl_X4_30 dX4_init_75 rfl rfl ?_
  refine G.iconst (v := 2) dX4_init_78 (by decide) ?_
  refine G.callS (As := [.ref 12, .int 2]) (st := []) 13 cs_X4_init_37 dX4_init_79 rfl rfl rfl rfl (by decide +kernel) (gs_fill 2 rfl (by decide)) rfl rfl ?_
  exact G.vret dX4_init_82 rfl rfl rfl rfl
theorem gc_X3_20 : gCI mX3_init mX4_init 20 := ⟨⟨me_X4_init, pd_X4_init, by decide, by decide⟩, rfl, List.mem_of_getElem? (i := 99) (by decide +kernel), im_X4_init, rfl⟩
theorem gf_X3_21 : gFP RX3 21 3 1 true (.object "CampWeek$Parties") := ⟨fl_X3_21, RX3, TX3, 3, rfl, rfl, rfl, by decide +kernel⟩
theorem gf_X3_25 : gFP RX3 25 3 2 false (.int) := ⟨fl_X3_25, RX3, TX3, 3, rfl, rfl, rfl, by decide +kernel⟩
def gi_X3 : List gX := [.inr (9, [.null, .null, .null, .null, .null, .null, .null]), .inr (3, [.null, .null, .int 0])]
def go_X3 : List gX := [.inr (9, [.null, .null, .null, .null, .null, .null, .null]), .inr (3, [.ref 2, .ref 5, .int (-1)]), .inr (1, [.ref 3, .ref 4, .int 0]), .inl (false, 30, fun _ => 0), .inl (false, 30, fun _ => 0), .inr (4, [.ref 6, .ref 7, .ref 8, .ref 9, .ref 10, .ref 11, .ref 12, .int 0]), .inl (false, 24, fun _ => 0), .inl (false, 24, fun _ => 0), .inl (false, 24, fun _ => 0), .inl (false, 24, fun _ => 0), .inl (false, 24, fun _ => 0), .inl (false, 24, fun j => if j < 24 then (-1) else (fun _ => 0) j), .inl (false, 576, fun j => if j < 576 then 2 else (fun _ => 0) j)]
set_option maxHeartbeats 4000000 in
set_option maxRecDepth 100000 in
theorem gs_X3 : Gs mX3_init [.ref 1] gi_X3 11 791 go_X3 := by
  show G mX3_init 11 791 2 0 _ [] gi_X3 0 0 go_X3
  refine G.aload_n 0 dX3_init_0 rfl rfl ?_
  refine G.obj go_X3_init dX3_init_1 ⟨rfl, rfl⟩ rfl ?_
  refine G.aload_n 0 dX3_init_4 rfl rfl ?_
  refine G.new 2 gn_X3_9 dX3_init_5 (by decide +kernel) rfl rfl ?_
  refine G.dup _ dX3_init_8 rfl ?_
  refine G.conv (w2 := gi_X1) rfl ?_
  refine G.callM 3 gc_X3_11 dX3_init_9 rfl rfl (by decide +kernel) gs_X1 rfl rfl ?_
  refine G.put (q := 1) rfl gf_X3_12 (fun _ => rfl) (fun _ => rfl) dX3_init_12 rfl rfl ?_
  refine G.aload_n 0 dX3_init_15 rfl rfl ?_
  refine G.new 5 gn_X3_18 dX3_init_16 (by decide +kernel) rfl rfl ?_
  refine G.dup _ dX3_init_19 rfl ?_
  refine G.conv (w2 := gi_X4) rfl ?_
  refine G.callI 6 gc_X3_20 dX3_init_20 rfl rfl (by decide +kernel) gs_X4 rfl rfl ?_
  refine G.put (q := 1) rfl gf_X3_21 (fun _ => rfl) (fun _ => rfl) dX3_init_23 rfl rfl ?_
  refine G.aload_n 0 dX3_init_26 rfl rfl ?_
  refine G.iconst (v := (-1)) dX3_init_27 (by decide) ?_
  refine G.put (q := 1) rfl gf_X3_25 (fun _ => rfl) (fun _ => rfl) dX3_init_28 rfl rfl ?_
  exact G.vret dX3_init_31 rfl rfl rfl rfl
theorem gc_X9_9 : gCM mX9_init mX3_init 9 := ⟨⟨me_X3_init, pd_X3_init, by decide, by decide⟩, rfl, List.mem_of_getElem? (i := 0) rfl, im_X3_init, rfl⟩
theorem gf_X9_10 : gFP RX9 10 9 0 true (.object "CampWeek$Lodgings") := ⟨fl_X9_10, RX9, TX9, 7, rfl, rfl, rfl, by decide +kernel⟩
theorem gn_X9_16 : gCN RX9 16 8 10 [.int 0, .int 0, .int 0, .int 0, .int 0, .null, .null, .null, .null, .null] := ⟨RX8, TX8, tyX8, rfl, List.mem_of_getElem? (i := 156) (by decide +kernel), List.mem_of_getElem? (i := 157) (by decide +kernel), ini_RX8, inX8, tyX8_ok, gdX8, by decide, rfl⟩
theorem gf_X8_13 : gFP RX8 13 8 0 false (.int) := ⟨fl_X8_13, RX8, TX8, 10, rfl, rfl, rfl, by decide +kernel⟩
theorem gf_X8_17 : gFP RX8 17 8 1 false (.int) := ⟨fl_X8_17, RX8, TX8, 10, rfl, rfl, rfl, by decide +kernel⟩
theorem gf_X8_20 : gFP RX8 20 8 2 false (.int) := ⟨fl_X8_20, RX8, TX8, 10, rfl, rfl, rfl, by decide +kernel⟩
theorem gf_X8_23 : gFP RX8 23 8 3 false (.int) := ⟨fl_X8_23, RX8, TX8, 10, rfl, rfl, rfl, by decide +kernel⟩
theorem gf_X8_26 : gFP RX8 26 8 4 false (.int) := ⟨fl_X8_26, RX8, TX8, 10, rfl, rfl, rfl, by decide +kernel⟩
theorem gf_X8_29 : gFP RX8 29 8 5 true (.array .int) := ⟨fl_X8_29, RX8, TX8, 10, rfl, rfl, rfl, by decide +kernel⟩
theorem gf_X8_33 : gFP RX8 33 8 6 true (.array .int) := ⟨fl_X8_33, RX8, TX8, 10, rfl, rfl, rfl, by decide +kernel⟩
theorem gf_X8_36 : gFP RX8 36 8 7 true (.array .int) := ⟨fl_X8_36, RX8, TX8, 10, rfl, rfl, rfl, by decide +kernel⟩
theorem gf_X8_39 : gFP RX8 39 8 8 true (.array .int) := ⟨fl_X8_39, RX8, TX8, 10, rfl, rfl, rfl, by decide +kernel⟩
theorem gf_X8_42 : gFP RX8 42 8 9 true (.array .int) := ⟨fl_X8_42, RX8, TX8, 10, rfl, rfl, rfl, by decide +kernel⟩
def gi_X8 : List gX := [.inr (9, [.ref 1, .null, .null, .null, .null, .null, .null]), .inr (3, [.ref 2, .ref 5, .int (-1)]), .inr (1, [.ref 3, .ref 4, .int 0]), .inl (false, 30, fun _ => 0), .inl (false, 30, fun _ => 0), .inr (4, [.ref 6, .ref 7, .ref 8, .ref 9, .ref 10, .ref 11, .ref 12, .int 0]), .inl (false, 24, fun _ => 0), .inl (false, 24, fun _ => 0), .inl (false, 24, fun _ => 0), .inl (false, 24, fun _ => 0), .inl (false, 24, fun _ => 0), .inl (false, 24, fun j => if j < 24 then (-1) else (fun _ => 0) j), .inl (false, 576, fun j => if j < 576 then 2 else (fun _ => 0) j), .inr (8, [.int 0, .int 0, .int 0, .int 0, .int 0, .null, .null, .null, .null, .null])]
def go_X8 : List gX := [.inr (9, [.ref 1, .null, .null, .null, .null, .null, .null]), .inr (3, [.ref 2, .ref 5, .int (-1)]), .inr (1, [.ref 3, .ref 4, .int 0]), .inl (false, 30, fun _ => 0), .inl (false, 30, fun _ => 0), .inr (4, [.ref 6, .ref 7, .ref 8, .ref 9, .ref 10, .ref 11, .ref 12, .int 0]), .inl (false, 24, fun _ => 0), .inl (false, 24, fun _ => 0), .inl (false, 24, fun _ => 0), .inl (false, 24, fun _ => 0), .inl (false, 24, fun _ => 0), .inl (false, 24, fun j => if j < 24 then (-1) else (fun _ => 0) j), .inl (false, 576, fun j => if j < 576 then 2 else (fun _ => 0) j), .inr (8, [.int 60, .int 60, .int (-1), .int 0, .int 0, .ref 14, .ref 15, .ref 16, .ref 17, .ref 18]), .inl (false, 24, fun _ => 0), .inl (false, 10, fun _ => 0), .inl (false, 24, fun _ => 0), .inl (false, 24, fun _ => 0), .inl (false, 193, fun _ => 0)]
set_option maxHeartbeats 4000000 in
set_option maxRecDepth 100000 in
theorem gs_X8 : Gs mX8_init [.ref 13] gi_X8 5 275 go_X8 := by
  show G mX8_init 5 275 14 0 _ [] gi_X8 0 0 go_X8
  refine G.aload_n 0 dX8_init_0 rfl rfl ?_
  refine G.obj go_X8_init dX8_init_1 ⟨rfl, rfl⟩ rfl ?_
  refine G.aload_n 0 dX8_init_4 rfl rfl ?_
  refine G.bipush (v := 60) dX8_init_5 (by decide) ?_
  refine G.put (q := 13) rfl gf_X8_13 (fun _ => rfl) (fun _ => rfl) dX8_init_7 rfl rfl ?_
  refine G.aload_n 0 dX8_init_10 rfl rfl ?_
  refine G.bipush (v := 60) dX8_init_11 (by decide) ?_
  refine G.put (q := 13) rfl gf_X8_17 (fun _ => rfl) (fun _ => rfl) dX8_init_13 rfl rfl ?_
  refine G.aload_n 0 dX8_init_16 rfl rfl ?_
  refine G.iconst (v := (-1)) dX8_init_17 (by decide) ?_
  refine G.put (q := 13) rfl gf_X8_20 (fun _ => rfl) (fun _ => rfl) dX8_init_18 rfl rfl ?_
  refine G.aload_n 0 dX8_init_21 rfl rfl ?_
  refine G.iconst (v := 0) dX8_init_22 (by decide) ?_
  refine G.put (q := 13) rfl gf_X8_23 (fun _ => rfl) (fun _ => rfl) dX8_init_23 rfl rfl ?_
  refine G.aload_n 0 dX8_init_26 rfl rfl ?_
  refine G.iconst (v := 0) dX8_init_27 (by decide) ?_
  refine G.put (q := 13) rfl gf_X8_26 (fun _ => rfl) (fun _ => rfl) dX8_init_28 rfl rfl ?_
  refine G.aload_n 0 dX8_init_31 rfl rfl ?_
  refine G.bipush (v := 24) dX8_init_32 (by decide) ?_
  refine G.newI (N := 24) 14 g_aI dX8_init_34 (by decide) (by decide) rfl (by decide +kernel) rfl rfl ?_
  refine G.put (q := 13) rfl gf_X8_29 (fun _ => rfl) (fun _ => rfl) dX8_init_36 rfl rfl ?_
  refine G.aload_n 0 dX8_init_39 rfl rfl ?_
  refine G.bipush (v := 10) dX8_init_40 (by decide) ?_
  refine G.newI (N := 10) 15 g_aI dX8_init_42 (by decide) (by decide) rfl (by decide +kernel) rfl rfl ?_
  refine G.put (q := 13) rfl gf_X8_33 (fun _ => rfl) (fun _ => rfl) dX8_init_44 rfl rfl ?_
  refine G.aload_n 0 dX8_init_47 rfl rfl ?_
  refine G.bipush (v := 24) dX8_init_48 (by decide) ?_
  refine G.newI (N := 24) 16 g_aI dX8_init_50 (by decide) (by decide) rfl (by decide +kernel) rfl rfl ?_
  refine G.put (q := 13) rfl gf_X8_36 (fun _ => rfl) (fun _ => rfl) dX8_init_52 rfl rfl ?_
  refine G.aload_n 0 dX8_init_55 rfl rfl ?_
  refine G.bipush (v := 24) dX8_init_56 (by decide) ?_
  refine G.newI (N := 24) 17 g_aI dX8_init_58 (by decide) (by decide) rfl (by decide +kernel) rfl rfl ?_
  refine G.put (q := 13) rfl gf_X8_39 (fun _ => rfl) (fun _ => rfl) dX8_init_60 rfl rfl ?_
  refine G.aload_n 0 dX8_init_63 rfl rfl ?_
  refine G.sipush (v := 193) dX8_init_64 (by decide) ?_
  refine G.newI (N := 193) 18 g_aI dX8_init_67 (by decide) (by decide) rfl (by decide +kernel) rfl rfl ?_
  refine G.put (q := 13) rfl gf_X8_42 (fun _ => rfl) (fun _ => rfl) dX8_init_69 rfl rfl ?_
  exact G.vret dX8_init_72 rfl rfl rfl rfl
theorem gc_X9_18 : gCM mX9_init mX8_init 18 := ⟨⟨me_X8_init, pd_X8_init, by decide, by decide⟩, rfl, List.mem_of_getElem? (i := 2) rfl, im_X8_init, rfl⟩
theorem gf_X9_19 : gFP RX9 19 9 1 true (.object "CampWeek$Sittings") := ⟨fl_X9_19, RX9, TX9, 7, rfl, rfl, rfl, by decide +kernel⟩
theorem gn_X9_23 : gCN RX9 23 2 3 [.int 0, .int 0, .null] := ⟨RX2, TX2, tyX2, rfl, List.mem_of_getElem? (i := 194) (by decide +kernel), List.mem_of_getElem? (i := 195) (by decide +kernel), ini_RX2, inX2, tyX2_ok, gdX2, by decide, rfl⟩
theorem gf_X2_9 : gFP RX2 9 2 0 false (.int) := ⟨fl_X2_9, RX2, TX2, 3, rfl, rfl, rfl, by decide +kernel⟩
theorem gf_X2_15 : gFP RX2 15 2 1 false (.int) := ⟨fl_X2_15, RX2, TX2, 3, rfl, rfl, rfl, by decide +kernel⟩
theorem gf_X2_18 : gFP RX2 18 2 2 true (.array .int) := ⟨fl_X2_18, RX2, TX2, 3, rfl, rfl, rfl, by decide +kernel⟩
def gi_X2 : List gX := [.inr (9, [.ref 1, .ref 13, .null, .null, .null, .null, .null]), .inr (3, [.ref 2, .ref 5, .int (-1)]), .inr (1, [.ref 3, .ref 4, .int 0]), .inl (false, 30, fun _ => 0), .inl (false, 30, fun _ => 0), .inr (4, [.ref 6, .ref 7, .ref 8, .ref 9, .ref 10, .ref 11, .ref 12, .int 0]), .inl (false, 24, fun _ => 0), .inl (false, 24, fun _ => 0), .inl (false, 24, fun _ => 0), .inl (false, 24, fun _ => 0), .inl (false, 24, fun _ => 0), .inl (false, 24, fun j => if j < 24 then (-1) else (fun _ => 0) j), .inl (false, 576, fun j => if j < 576 then 2 else (fun _ => 0) j), .inr (8, [.int 60, .int 60, .int (-1), .int 0, .int 0, .ref 14, .ref 15, .ref 16, .ref 17, .ref 18]), .inl (false, 24, fun _ => 0), .inl (false, 10, fun _ => 0), .inl (false, 24, fun _ => 0), .inl (false, 24, fun _ => 0), .inl (false, 193, fun _ => 0), .inr (2, [.int 0, .int 0, .null])]
def go_X2 : List gX := [.inr (9, [.ref 1, .ref 13, .null, .null, .null, .null, .null]), .inr (3, [.ref 2, .ref 5, .int (-1)]), .inr (1, [.ref 3, .ref 4, .int 0]), .inl (false, 30, fun _ => 0), .inl (false, 30, fun _ => 0), .inr (4, [.ref 6, .ref 7, .ref 8, .ref 9, .ref 10, .ref 11, .ref 12, .int 0]), .inl (false, 24, fun _ => 0), .inl (false, 24, fun _ => 0), .inl (false, 24, fun _ => 0), .inl (false, 24, fun _ => 0), .inl (false, 24, fun _ => 0), .inl (false, 24, fun j => if j < 24 then (-1) else (fun _ => 0) j), .inl (false, 576, fun j => if j < 576 then 2 else (fun _ => 0) j), .inr (8, [.int 60, .int 60, .int (-1), .int 0, .int 0, .ref 14, .ref 15, .ref 16, .ref 17, .ref 18]), .inl (false, 24, fun _ => 0), .inl (false, 10, fun _ => 0), .inl (false, 24, fun _ => 0), .inl (false, 24, fun _ => 0), .inl (false, 193, fun _ => 0), .inr (2, [.int 10, .int 0, .ref 20]), .inl (false, 200, fun _ => 0)]
set_option maxHeartbeats 4000000 in
set_option maxRecDepth 100000 in
theorem gs_X2 : Gs mX2_init [.ref 19] gi_X2 1 200 go_X2 := by
  show G mX2_init 1 200 20 0 _ [] gi_X2 0 0 go_X2
  refine G.aload_n 0 dX2_init_0 rfl rfl ?_
  refine G.obj go_X2_init dX2_init_1 ⟨rfl, rfl⟩ rfl ?_
  refine G.aload_n 0 dX2_init_4 rfl rfl ?_
  refine G.bipush (v := 10) dX2_init_5 (by decide) ?_
  refine G.put (q := 19) rfl gf_X2_9 (fun _ => rfl) (fun _ => rfl) dX2_init_7 rfl rfl ?_
  refine G.aload_n 0 dX2_init_10 rfl rfl ?_
  refine G.iconst (v := 0) dX2_init_11 (by decide) ?_
  refine G.put (q := 19) rfl gf_X2_15 (fun _ => rfl) (fun _ => rfl) dX2_init_12 rfl rfl ?_
  refine G.aload_n 0 dX2_init_15 rfl rfl ?_
  refine G.sipush (v := 200) dX2_init_16 (by decide) ?_
  refine G.newI (N := 200) 20 g_aI dX2_init_19 (by decide) (by decide) rfl (by decide +kernel) rfl rfl ?_
  refine G.put (q := 19) rfl gf_X2_18 (fun _ => rfl) (fun _ => rfl) dX2_init_21 rfl rfl ?_
  exact G.vret dX2_init_24 rfl rfl rfl rfl
theorem gc_X9_25 : gCM mX9_init mX2_init 25 := ⟨⟨me_X2_init, pd_X2_init, by decide, by decide⟩, rfl, List.mem_of_getElem? (i := 3) rfl, im_X2_init, rfl⟩
theorem gf_X9_26 : gFP RX9 26 9 2 true (.object "CampWeek$Kitchen") := ⟨fl_X9_26, RX9, TX9, 7, rfl, rfl, rfl, by decide +kernel⟩
theorem gn_X9_30 : gCN RX9 30 7 10 [.null, .null, .null, .int 0, .null, .null, .null, .null, .null, .null] := ⟨RX7, TX7, tyX7, rfl, List.mem_of_getElem? (i := 211) (by decide +kernel), List.mem_of_getElem? (i := 212) (by decide +kernel), ini_RX7, inX7, tyX7_ok, gdX7, by decide, rfl⟩
theorem gf_X7_11 : gFP RX7 11 7 0 true (.array .int) := ⟨fl_X7_11, RX7, TX7, 10, rfl, rfl, rfl, by decide +kernel⟩
theorem gf_X7_17 : gFP RX7 17 7 1 true (.array .int) := ⟨fl_X7_17, RX7, TX7, 10, rfl, rfl, rfl, by decide +kernel⟩
theorem gf_X7_20 : gFP RX7 20 7 2 true (.array .int) := ⟨fl_X7_20, RX7, TX7, 10, rfl, rfl, rfl, by decide +kernel⟩
theorem gf_X7_23 : gFP RX7 23 7 3 false (.int) := ⟨fl_X7_23, RX7, TX7, 10, rfl, rfl, rfl, by decide +kernel⟩
theorem gf_X7_27 : gFP RX7 27 7 4 true (.array .int) := ⟨fl_X7_27, RX7, TX7, 10, rfl, rfl, rfl, by decide +kernel⟩
theorem gf_X7_30 : gFP RX7 30 7 5 true (.array .int) := ⟨fl_X7_30, RX7, TX7, 10, rfl, rfl, rfl, by decide +kernel⟩
theorem gf_X7_33 : gFP RX7 33 7 6 true (.array .int) := ⟨fl_X7_33, RX7, TX7, 10, rfl, rfl, rfl, by decide +kernel⟩
theorem gf_X7_36 : gFP RX7 36 7 7 true (.array .int) := ⟨fl_X7_36, RX7, TX7, 10, rfl, rfl, rfl, by decide +kernel⟩
theorem gf_X7_39 : gFP RX7 39 7 8 true (.array .int) := ⟨fl_X7_39, RX7, TX7, 10, rfl, rfl, rfl, by decide +kernel⟩
theorem gf_X7_42 : gFP RX7 42 7 9 true (.array .int) := ⟨fl_X7_42, RX7, TX7, 10, rfl, rfl, rfl, by decide +kernel⟩
def gi_X7 : List gX := [.inr (9, [.ref 1, .ref 13, .ref 19, .null, .null, .null, .null]), .inr (3, [.ref 2, .ref 5, .int (-1)]), .inr (1, [.ref 3, .ref 4, .int 0]), .inl (false, 30, fun _ => 0), .inl (false, 30, fun _ => 0), .inr (4, [.ref 6, .ref 7, .ref 8, .ref 9, .ref 10, .ref 11, .ref 12, .int 0]), .inl (false, 24, fun _ => 0), .inl (false, 24, fun _ => 0), .inl (false, 24, fun _ => 0), .inl (false, 24, fun _ => 0), .inl (false, 24, fun _ => 0), .inl (false, 24, fun j => if j < 24 then (-1) else (fun _ => 0) j), .inl (false, 576, fun j => if j < 576 then 2 else (fun _ => 0) j), .inr (8, [.int 60, .int 60, .int (-1), .int 0, .int 0, .ref 14, .ref 15, .ref 16, .ref 17, .ref 18]), .inl (false, 24, fun _ => 0), .inl (false, 10, fun _ => 0), .inl (false, 24, fun _ => 0), .inl (false, 24, fun _ => 0), .inl (false, 193, fun _ => 0), .inr (2, [.int 10, .int 0, .ref 20]), .inl (false, 200, fun _ => 0), .inr (7, [.null, .null, .null, .int 0, .null, .null, .null, .null, .null, .null])]
def go_X7 : List gX := [.inr (9, [.ref 1, .ref 13, .ref 19, .null, .null, .null, .null]), .inr (3, [.ref 2, .ref 5, .int (-1)]), .inr (1, [.ref 3, .ref 4, .int 0]), .inl (false, 30, fun _ => 0), .inl (false, 30, fun _ => 0), .inr (4, [.ref 6, .ref 7, .ref 8, .ref 9, .ref 10, .ref 11, .ref 12, .int 0]), .inl (false, 24, fun _ => 0), .inl (false, 24, fun _ => 0), .inl (false, 24, fun _ => 0), .inl (false, 24, fun _ => 0), .inl (false, 24, fun _ => 0), .inl (false, 24, fun j => if j < 24 then (-1) else (fun _ => 0) j), .inl (false, 576, fun j => if j < 576 then 2 else (fun _ => 0) j), .inr (8, [.int 60, .int 60, .int (-1), .int 0, .int 0, .ref 14, .ref 15, .ref 16, .ref 17, .ref 18]), .inl (false, 24, fun _ => 0), .inl (false, 10, fun _ => 0), .inl (false, 24, fun _ => 0), .inl (false, 24, fun _ => 0), .inl (false, 193, fun _ => 0), .inr (2, [.int 10, .int 0, .ref 20]), .inl (false, 200, fun _ => 0), .inr (7, [.ref 22, .ref 23, .ref 24, .int 0, .ref 25, .ref 26, .ref 27, .ref 28, .ref 29, .ref 30]), .inl (false, 12, fun _ => 0), .inl (false, 24, fun _ => 0), .inl (false, 24, fun _ => 0), .inl (false, 12, fun _ => 0), .inl (false, 12, fun _ => 0), .inl (false, 7, upd (fun _ => 0) 6 1000), .inl (false, 7, fun _ => 0), .inl (false, 144, fun _ => 0), .inl (false, 24, fun _ => 0)]
set_option maxHeartbeats 4000000 in
set_option maxRecDepth 100000 in
theorem gs_X7 : Gs mX7_init [.ref 21] gi_X7 9 266 go_X7 := by
  show G mX7_init 9 266 22 0 _ [] gi_X7 0 0 go_X7
  refine G.aload_n 0 dX7_init_0 rfl rfl ?_
  refine G.obj go_X7_init dX7_init_1 ⟨rfl, rfl⟩ rfl ?_
  refine G.aload_n 0 dX7_init_4 rfl rfl ?_
  refine G.bipush (v := 12) dX7_init_5 (by decide) ?_
  refine G.newI (N := 12) 22 g_aI dX7_init_7 (by decide) (by decide) rfl (by decide +kernel) rfl rfl ?_
  refine G.put (q := 21) rfl gf_X7_11 (fun _ => rfl) (fun _ => rfl) dX7_init_9 rfl rfl ?_
  refine G.aload_n 0 dX7_init_12 rfl rfl ?_
  refine G.bipush (v := 24) dX7_init_13 (by decide) ?_
  refine G.newI (N := 24) 23 g_aI dX7_init_15 (by decide) (by decide) rfl (by decide +kernel) rfl rfl ?_
  refine G.put (q := 21) rfl gf_X7_17 (fun _ => rfl) (fun _ => rfl) dX7_init_17 rfl rfl ?_
  refine G.aload_n 0 dX7_init_20 rfl rfl ?_
  refine G.bipush (v := 24) dX7_init_21 (by decide) ?_
  refine G.newI (N := 24) 24 g_aI dX7_init_23 (by decide) (by decide) rfl (by decide +kernel) rfl rfl ?_
  refine G.put (q := 21) rfl gf_X7_20 (fun _ => rfl) (fun _ => rfl) dX7_init_25 rfl rfl ?_
  refine G.aload_n 0 dX7_init_28 rfl rfl ?_
  refine G.iconst (v := 0) dX7_init_29 (by decide) ?_
  refine G.put (q := 21) rfl gf_X7_23 (fun _ => rfl) (fun _ => rfl) dX7_init_30 rfl rfl ?_
  refine G.aload_n 0 dX7_init_33 rfl rfl ?_
  refine G.bipush (v := 12) dX7_init_34 (by decide) ?_
  refine G.newI (N := 12) 25 g_aI dX7_init_36 (by decide) (by decide) rfl (by decide +kernel) rfl rfl ?_
  refine G.put (q := 21) rfl gf_X7_27 (fun _ => rfl) (fun _ => rfl) dX7_init_38 rfl rfl ?_
  refine G.aload_n 0 dX7_init_41 rfl rfl ?_
  refine G.bipush (v := 12) dX7_init_42 (by decide) ?_
  refine G.newI (N := 12) 26 g_aI dX7_init_44 (by decide) (by decide) rfl (by decide +kernel) rfl rfl ?_
  refine G.put (q := 21) rfl gf_X7_30 (fun _ => rfl) (fun _ => rfl) dX7_init_46 rfl rfl ?_
  refine G.aload_n 0 dX7_init_49 rfl rfl ?_
  refine G.bipush (v := 7) dX7_init_50 (by decide) ?_
  refine G.newI (N := 7) 27 g_aI dX7_init_52 (by decide) (by decide) rfl (by decide +kernel) rfl rfl ?_
  refine G.put (q := 21) rfl gf_X7_33 (fun _ => rfl) (fun _ => rfl) dX7_init_54 rfl rfl ?_
  refine G.aload_n 0 dX7_init_57 rfl rfl ?_
  refine G.bipush (v := 7) dX7_init_58 (by decide) ?_
  refine G.newI (N := 7) 28 g_aI dX7_init_60 (by decide) (by decide) rfl (by decide +kernel) rfl rfl ?_
  refine G.put (q := 21) rfl gf_X7_36 (fun _ => rfl) (fun _ => rfl) dX7_init_62 rfl rfl ?_
  refine G.aload_n 0 dX7_init_65 rfl rfl ?_
  refine G.sipush (v := 144) dX7_init_66 (by decide) ?_
  refine G.newI (N := 144) 29 g_aI dX7_init_69 (by decide) (by decide) rfl (by decide +kernel) rfl rfl ?_
  refine G.put (q := 21) rfl gf_X7_39 (fun _ => rfl) (fun _ => rfl) dX7_init_71 rfl rfl ?_
  refine G.aload_n 0 dX7_init_74 rfl rfl ?_
  refine G.bipush (v := 24) dX7_init_75 (by decide) ?_
  refine G.newI (N := 24) 30 g_aI dX7_init_77 (by decide) (by decide) rfl (by decide +kernel) rfl rfl ?_
  refine G.put (q := 21) rfl gf_X7_42 (fun _ => rfl) (fun _ => rfl) dX7_init_79 rfl rfl ?_
  refine G.aload_n 0 dX7_init_82 rfl rfl ?_
  refine G.get (.ref 27) fl_X7_33 dX7_init_83 rfl rfl ?_
  refine G.bipush (v := 6) dX7_init_86 (by decide) ?_
  refine G.sipush (v := 1000) dX7_init_88 (by decide) ?_
  refine G.iast (q := 27) 6 dX7_init_91 rfl (vp_in_nI (n := 6) (by decide) (by decide)) (by decide) ?_
  exact G.vret dX7_init_92 rfl rfl rfl rfl
theorem gc_X9_32 : gCI mX9_init mX7_init 32 := ⟨⟨me_X7_init, pd_X7_init, by decide, by decide⟩, rfl, List.mem_of_getElem? (i := 213) (by decide +kernel), im_X7_init, rfl⟩
theorem gf_X9_33 : gFP RX9 33 9 3 true (.object "CampWeek$Shows") := ⟨fl_X9_33, RX9, TX9, 7, rfl, rfl, rfl, by decide +kernel⟩
theorem gn_X9_37 : gCN RX9 37 0 7 [.null, .int 0, .null, .null, .null, .null, .null] := ⟨RX0, TX0, tyX0, rfl, List.mem_of_getElem? (i := 252) (by decide +kernel), List.mem_of_getElem? (i := 253) (by decide +kernel), ini_RX0, inX0, tyX0_ok, gdX0, by decide, rfl⟩
theorem gf_X0_11 : gFP RX0 11 0 0 true (.array .int) := ⟨fl_X0_11, RX0, TX0, 7, rfl, rfl, rfl, by decide +kernel⟩
theorem gf_X0_15 : gFP RX0 15 0 1 false (.int) := ⟨fl_X0_15, RX0, TX0, 7, rfl, rfl, rfl, by decide +kernel⟩
theorem gf_X0_19 : gFP RX0 19 0 2 true (.array .int) := ⟨fl_X0_19, RX0, TX0, 7, rfl, rfl, rfl, by decide +kernel⟩
theorem gf_X0_22 : gFP RX0 22 0 3 true (.array .int) := ⟨fl_X0_22, RX0, TX0, 7, rfl, rfl, rfl, by decide +kernel⟩
theorem gf_X0_25 : gFP RX0 25 0 4 true (.array .int) := ⟨fl_X0_25, RX0, TX0, 7, rfl, rfl, rfl, by decide +kernel⟩
theorem gf_X0_28 : gFP RX0 28 0 5 true (.array .int) := ⟨fl_X0_28, RX0, TX0, 7, rfl, rfl, rfl, by decide +kernel⟩
theorem gf_X0_31 : gFP RX0 31 0 6 true (.array .int) := ⟨fl_X0_31, RX0, TX0, 7, rfl, rfl, rfl, by decide +kernel⟩
theorem cs_X0_init_34 : xCS mX0_init mJ7_fill_53178 34 2 := ⟨⟨me_J7_fill_53178, pd_J7_fill_53178, by decide, by decide⟩, lk_X0_34, st_J7_fill_53178⟩
def gi_X0 : List gX := [.inr (9, [.ref 1, .ref 13, .ref 19, .ref 21, .null, .null, .null]), .inr (3, [.ref 2, .ref 5, .int (-1)]), .inr (1, [.ref 3, .ref 4, .int 0]), .inl (false, 30, fun _ => 0), .inl (false, 30, fun _ => 0), .inr (4, [.ref 6, .ref 7, .ref 8, .ref 9, .ref 10, .ref 11, .ref 12, .int 0]), .inl (false, 24, fun _ => 0), .inl (false, 24, fun _ => 0), .inl (false, 24, fun _ => 0), .inl (false, 24, fun _ => 0), .inl (false, 24, fun _ => 0), .inl (false, 24, fun j => if j < 24 then (-1) else (fun _ => 0) j), .inl (false, 576, fun j => if j < 576 then 2 else (fun _ => 0) j), .inr (8, [.int 60, .int 60, .int (-1), .int 0, .int 0, .ref 14, .ref 15, .ref 16, .ref 17, .ref 18]), .inl (false, 24, fun _ => 0), .inl (false, 10, fun _ => 0), .inl (false, 24, fun _ => 0), .inl (false, 24, fun _ => 0), .inl (false, 193, fun _ => 0), .inr (2, [.int 10, .int 0, .ref 20]), .inl (false, 200, fun _ => 0), .inr (7, [.ref 22, .ref 23, .ref 24, .int 0, .ref 25, .ref 26, .ref 27, .ref 28, .ref 29, .ref 30]), .inl (false, 12, fun _ => 0), .inl (false, 24, fun _ => 0), .inl (false, 24, fun _ => 0), .inl (false, 12, fun _ => 0), .inl (false, 12, fun _ => 0), .inl (false, 7, upd (fun _ => 0) 6 1000), .inl (false, 7, fun _ => 0), .inl (false, 144, fun _ => 0), .inl (false, 24, fun _ => 0), .inr (0, [.null, .int 0, .null, .null, .null, .null, .null])]
def go_X0 : List gX := [.inr (9, [.ref 1, .ref 13, .ref 19, .ref 21, .null, .null, .null]), .inr (3, [.ref 2, .ref 5, .int (-1)]), .inr (1, [.ref 3, .ref 4, .int 0]), .inl (false, 30, fun _ => 0), .inl (false, 30, fun _ => 0), .inr (4, [.ref 6, .ref 7, .ref 8, .ref 9, .ref 10, .ref 11, .ref 12, .int 0]), .inl (false, 24, fun _ => 0), .inl (false, 24, fun _ => 0), .inl (false, 24, fun _ => 0), .inl (false, 24, fun _ => 0), .inl (false, 24, fun _ => 0), .inl (false, 24, fun j => if j < 24 then (-1) else (fun _ => 0) j), .inl (false, 576, fun j => if j < 576 then 2 else (fun _ => 0) j), .inr (8, [.int 60, .int 60, .int (-1), .int 0, .int 0, .ref 14, .ref 15, .ref 16, .ref 17, .ref 18]), .inl (false, 24, fun _ => 0), .inl (false, 10, fun _ => 0), .inl (false, 24, fun _ => 0), .inl (false, 24, fun _ => 0), .inl (false, 193, fun _ => 0), .inr (2, [.int 10, .int 0, .ref 20]), .inl (false, 200, fun _ => 0), .inr (7, [.ref 22, .ref 23, .ref 24, .int 0, .ref 25, .ref 26, .ref 27, .ref 28, .ref 29, .ref 30]), .inl (false, 12, fun _ => 0), .inl (false, 24, fun _ => 0), .inl (false, 24, fun _ => 0), .inl (false, 12, fun _ => 0), .inl (false, 12, fun _ => 0), .inl (false, 7, upd (fun _ => 0) 6 1000), .inl (false, 7, fun _ => 0), .inl (false, 144, fun _ => 0), .inl (false, 24, fun _ => 0), .inr (0, [.ref 32, .int 0, .ref 33, .ref 34, .ref 35, .ref 36, .ref 37]), .inl (false, 40, fun _ => 0), .inl (false, 40, fun _ => 0), .inl (false, 40, fun _ => 0), .inl (false, 4, fun _ => 0), .inl (false, 4, fun j => if j < 4 then (-1) else (fun _ => 0) j), .inl (false, 4, fun _ => 0)]
set_option maxHeartbeats 4000000 in
set_option maxRecDepth 100000 in
theorem gs_X0 : Gs mX0_init [.ref 31] gi_X0 6 132 go_X0 := by
  show G mX0_init 6 132 32 0 _ [] gi_X0 0 0 go_X0
  refine G.aload_n 0 dX0_init_0 rfl rfl ?_
  refine G.obj go_X0_init dX0_init_1 ⟨rfl, rfl⟩ rfl ?_
  refine G.aload_n 0 dX0_init_4 rfl rfl ?_
  refine G.bipush (v := 40) dX0_init_5 (by decide) ?_
  refine G.newI (N := 40) 32 g_aI dX0_init_7 (by decide) (by decide) rfl (by decide +kernel) rfl rfl ?_
  refine G.put (q := 31) rfl gf_X0_11 (fun _ => rfl) (fun _ => rfl) dX0_init_9 rfl rfl ?_
  refine G.aload_n 0 dX0_init_12 rfl rfl ?_
  refine G.iconst (v := 0) dX0_init_13 (by decide) ?_
  refine G.put (q := 31) rfl gf_X0_15 (fun _ => rfl) (fun _ => rfl) dX0_init_14 rfl rfl ?_
  refine G.aload_n 0 dX0_init_17 rfl rfl ?_
  refine G.bipush (v := 40) dX0_init_18 (by decide) ?_
  refine G.newI (N := 40) 33 g_aI dX0_init_20 (by decide) (by decide) rfl (by decide +kernel) rfl rfl ?_
  refine G.put (q := 31) rfl gf_X0_19 (fun _ => rfl) (fun _ => rfl) dX0_init_22 rfl rfl ?_
  refine G.aload_n 0 dX0_init_25 rfl rfl ?_
  refine G.bipush (v := 40) dX0_init_26 (by decide) ?_
  refine G.newI (N := 40) 34 g_aI dX0_init_28 (by decide) (by decide) rfl (by decide +kernel) rfl rfl ?_
  refine G.put (q := 31) rfl gf_X0_22 (fun _ => rfl) (fun _ => rfl) dX0_init_30 rfl rfl ?_
  refine G.aload_n 0 dX0_init_33 rfl rfl ?_
  refine G.iconst (v := 4) dX0_init_34 (by decide) ?_
  refine G.newI (N := 4) 35 g_aI dX0_init_35 (by decide) (by decide) rfl (by decide +kernel) rfl rfl ?_
  refine G.put (q := 31) rfl gf_X0_25 (fun _ => rfl) (fun _ => rfl) dX0_init_37 rfl rfl ?_
  refine G.aload_n 0 dX0_init_40 rfl rfl ?_
  refine G.iconst (v := 4) dX0_init_41 (by decide) ?_
  refine G.newI (N := 4) 36 g_aI dX0_init_42 (by decide) (by decide) rfl (by decide +kernel) rfl rfl ?_
  refine G.put (q := 31) rfl gf_X0_28 (fun _ => rfl) (fun _ => rfl) dX0_init_44 rfl rfl ?_
  refine G.aload_n 0 dX0_init_47 rfl rfl ?_
  refine G.iconst (v := 4) dX0_init_48 (by decide) ?_
  refine G.newI (N := 4) 37 g_aI dX0_init_49 (by decide) (by decide) rfl (by decide +kernel) rfl rfl ?_
  refine G.put (q := 31) rfl gf_X0_31 (fun _ => rfl) (fun _ => rfl) dX0_init_51 rfl rfl ?_
  refine G.aload_n 0 dX0_init_54 rfl rfl ?_
  refine G.get (.ref 36) fl_X0_28 dX0_init_55 rfl rfl ?_
  refine G.iconst (v := (-1)) dX0_init_58 (by decide) ?_
  refine G.callS (As := [.ref 36, .int (-1)]) (st := []) 38 cs_X0_init_34 dX0_init_59 rfl rfl rfl rfl (by decide +kernel) (gs_fill (-1) rfl (by decide)) rfl rfl ?_
  exact G.vret dX0_init_62 rfl rfl rfl rfl
theorem gc_X9_39 : gCI mX9_init mX0_init 39 := ⟨⟨me_X0_init, pd_X0_init, by decide, by decide⟩, rfl, List.mem_of_getElem? (i := 254) (by decide +kernel), im_X0_init, rfl⟩
theorem gf_X9_40 : gFP RX9 40 9 4 true (.object "CampWeek$Groups") := ⟨fl_X9_40, RX9, TX9, 7, rfl, rfl, rfl, by decide +kernel⟩
theorem gn_X9_44 : gCN RX9 44 5 4 [.int 0, .null, .null, .null] := ⟨RX5, TX5, tyX5, rfl, List.mem_of_getElem? (i := 283) (by decide +kernel), List.mem_of_getElem? (i := 284) (by decide +kernel), ini_RX5, inX5, tyX5_ok, gdX5, by decide, rfl⟩
theorem gf_X5_9 : gFP RX5 9 5 0 false (.int) := ⟨fl_X5_9, RX5, TX5, 4, rfl, rfl, rfl, by decide +kernel⟩
theorem gf_X5_15 : gFP RX5 15 5 1 true (.array .int) := ⟨fl_X5_15, RX5, TX5, 4, rfl, rfl, rfl, by decide +kernel⟩
theorem gf_X5_19 : gFP RX5 19 5 2 true (.array .int) := ⟨fl_X5_19, RX5, TX5, 4, rfl, rfl, rfl, by decide +kernel⟩
theorem gf_X5_22 : gFP RX5 22 5 3 true (.array .int) := ⟨fl_X5_22, RX5, TX5, 4, rfl, rfl, rfl, by decide +kernel⟩
def gi_X5 : List gX := [.inr (9, [.ref 1, .ref 13, .ref 19, .ref 21, .ref 31, .null, .null]), .inr (3, [.ref 2, .ref 5, .int (-1)]), .inr (1, [.ref 3, .ref 4, .int 0]), .inl (false, 30, fun _ => 0), .inl (false, 30, fun _ => 0), .inr (4, [.ref 6, .ref 7, .ref 8, .ref 9, .ref 10, .ref 11, .ref 12, .int 0]), .inl (false, 24, fun _ => 0), .inl (false, 24, fun _ => 0), .inl (false, 24, fun _ => 0), .inl (false, 24, fun _ => 0), .inl (false, 24, fun _ => 0), .inl (false, 24, fun j => if j < 24 then (-1) else (fun _ => 0) j), .inl (false, 576, fun j => if j < 576 then 2 else (fun _ => 0) j), .inr (8, [.int 60, .int 60, .int (-1), .int 0, .int 0, .ref 14, .ref 15, .ref 16, .ref 17, .ref 18]), .inl (false, 24, fun _ => 0), .inl (false, 10, fun _ => 0), .inl (false, 24, fun _ => 0), .inl (false, 24, fun _ => 0), .inl (false, 193, fun _ => 0), .inr (2, [.int 10, .int 0, .ref 20]), .inl (false, 200, fun _ => 0), .inr (7, [.ref 22, .ref 23, .ref 24, .int 0, .ref 25, .ref 26, .ref 27, .ref 28, .ref 29, .ref 30]), .inl (false, 12, fun _ => 0), .inl (false, 24, fun _ => 0), .inl (false, 24, fun _ => 0), .inl (false, 12, fun _ => 0), .inl (false, 12, fun _ => 0), .inl (false, 7, upd (fun _ => 0) 6 1000), .inl (false, 7, fun _ => 0), .inl (false, 144, fun _ => 0), .inl (false, 24, fun _ => 0), .inr (0, [.ref 32, .int 0, .ref 33, .ref 34, .ref 35, .ref 36, .ref 37]), .inl (false, 40, fun _ => 0), .inl (false, 40, fun _ => 0), .inl (false, 40, fun _ => 0), .inl (false, 4, fun _ => 0), .inl (false, 4, fun j => if j < 4 then (-1) else (fun _ => 0) j), .inl (false, 4, fun _ => 0), .inr (5, [.int 0, .null, .null, .null])]
def go_X5 : List gX := [.inr (9, [.ref 1, .ref 13, .ref 19, .ref 21, .ref 31, .null, .null]), .inr (3, [.ref 2, .ref 5, .int (-1)]), .inr (1, [.ref 3, .ref 4, .int 0]), .inl (false, 30, fun _ => 0), .inl (false, 30, fun _ => 0), .inr (4, [.ref 6, .ref 7, .ref 8, .ref 9, .ref 10, .ref 11, .ref 12, .int 0]), .inl (false, 24, fun _ => 0), .inl (false, 24, fun _ => 0), .inl (false, 24, fun _ => 0), .inl (false, 24, fun _ => 0), .inl (false, 24, fun _ => 0), .inl (false, 24, fun j => if j < 24 then (-1) else (fun _ => 0) j), .inl (false, 576, fun j => if j < 576 then 2 else (fun _ => 0) j), .inr (8, [.int 60, .int 60, .int (-1), .int 0, .int 0, .ref 14, .ref 15, .ref 16, .ref 17, .ref 18]), .inl (false, 24, fun _ => 0), .inl (false, 10, fun _ => 0), .inl (false, 24, fun _ => 0), .inl (false, 24, fun _ => 0), .inl (false, 193, fun _ => 0), .inr (2, [.int 10, .int 0, .ref 20]), .inl (false, 200, fun _ => 0), .inr (7, [.ref 22, .ref 23, .ref 24, .int 0, .ref 25, .ref 26, .ref 27, .ref 28, .ref 29, .ref 30]), .inl (false, 12, fun _ => 0), .inl (false, 24, fun _ => 0), .inl (false, 24, fun _ => 0), .inl (false, 12, fun _ => 0), .inl (false, 12, fun _ => 0), .inl (false, 7, upd (fun _ => 0) 6 1000), .inl (false, 7, fun _ => 0), .inl (false, 144, fun _ => 0), .inl (false, 24, fun _ => 0), .inr (0, [.ref 32, .int 0, .ref 33, .ref 34, .ref 35, .ref 36, .ref 37]), .inl (false, 40, fun _ => 0), .inl (false, 40, fun _ => 0), .inl (false, 40, fun _ => 0), .inl (false, 4, fun _ => 0), .inl (false, 4, fun j => if j < 4 then (-1) else (fun _ => 0) j), .inl (false, 4, fun _ => 0), .inr (5, [.int 0, .ref 39, .ref 40, .ref 41]), .inl (false, 30, fun _ => 0), .inl (false, 30, fun _ => 0), .inl (false, 30, fun _ => 0)]
set_option maxHeartbeats 4000000 in
set_option maxRecDepth 100000 in
theorem gs_X5 : Gs mX5_init [.ref 38] gi_X5 3 90 go_X5 := by
  show G mX5_init 3 90 39 0 _ [] gi_X5 0 0 go_X5
  refine G.aload_n 0 dX5_init_0 rfl rfl ?_
  refine G.obj go_X5_init dX5_init_1 ⟨rfl, rfl⟩ rfl ?_
  refine G.aload_n 0 dX5_init_4 rfl rfl ?_
  refine G.iconst (v := 0) dX5_init_5 (by decide) ?_
  refine G.put (q := 38) rfl gf_X5_9 (fun _ => rfl) (fun _ => rfl) dX5_init_6 rfl rfl ?_
  refine G.aload_n 0 dX5_init_9 rfl rfl ?_
  refine G.bipush (v := 30) dX5_init_10 (by decide) ?_
  refine G.newI (N := 30) 39 g_aI dX5_init_12 (by decide) (by decide) rfl (by decide +kernel) rfl rfl ?_
  refine G.put (q := 38) rfl gf_X5_15 (fun _ => rfl) (fun _ => rfl) dX5_init_14 rfl rfl ?_
  refine G.aload_n 0 dX5_init_17 rfl rfl ?_
  refine G.bipush (v := 30) dX5_init_18 (by decide) ?_
  refine G.newI (N := 30) 40 g_aI dX5_init_20 (by decide) (by decide) rfl (by decide +kernel) rfl rfl ?_
  refine G.put (q := 38) rfl gf_X5_19 (fun _ => rfl) (fun _ => rfl) dX5_init_22 rfl rfl ?_
  refine G.aload_n 0 dX5_init_25 rfl rfl ?_
  refine G.bipush (v := 30) dX5_init_26 (by decide) ?_
  refine G.newI (N := 30) 41 g_aI dX5_init_28 (by decide) (by decide) rfl (by decide +kernel) rfl rfl ?_
  refine G.put (q := 38) rfl gf_X5_22 (fun _ => rfl) (fun _ => rfl) dX5_init_30 rfl rfl ?_
  exact G.vret dX5_init_33 rfl rfl rfl rfl
theorem gc_X9_46 : gCM mX9_init mX5_init 46 := ⟨⟨me_X5_init, pd_X5_init, by decide, by decide⟩, rfl, List.mem_of_getElem? (i := 4) rfl, im_X5_init, rfl⟩
theorem gf_X9_47 : gFP RX9 47 9 5 true (.object "CampWeek$PaybackLists") := ⟨fl_X9_47, RX9, TX9, 7, rfl, rfl, rfl, by decide +kernel⟩
theorem gn_X9_51 : gCN RX9 51 6 4 [.int 0, .null, .null, .null] := ⟨RX6, TX6, tyX6, rfl, List.mem_of_getElem? (i := 303) (by decide +kernel), List.mem_of_getElem? (i := 304) (by decide +kernel), ini_RX6, inX6, tyX6_ok, gdX6, by decide, rfl⟩
theorem gf_X6_9 : gFP RX6 9 6 0 false (.int) := ⟨fl_X6_9, RX6, TX6, 4, rfl, rfl, rfl, by decide +kernel⟩
theorem gf_X6_15 : gFP RX6 15 6 1 true (.array .int) := ⟨fl_X6_15, RX6, TX6, 4, rfl, rfl, rfl, by decide +kernel⟩
theorem gf_X6_19 : gFP RX6 19 6 2 true (.array .int) := ⟨fl_X6_19, RX6, TX6, 4, rfl, rfl, rfl, by decide +kernel⟩
theorem gf_X6_22 : gFP RX6 22 6 3 true (.array .int) := ⟨fl_X6_22, RX6, TX6, 4, rfl, rfl, rfl, by decide +kernel⟩
theorem cs_X6_init_25 : xCS mX6_init mJ7_fill_53178 25 2 := ⟨⟨me_J7_fill_53178, pd_J7_fill_53178, by decide, by decide⟩, lk_X6_25, st_J7_fill_53178⟩
def gi_X6 : List gX := [.inr (9, [.ref 1, .ref 13, .ref 19, .ref 21, .ref 31, .ref 38, .null]), .inr (3, [.ref 2, .ref 5, .int (-1)]), .inr (1, [.ref 3, .ref 4, .int 0]), .inl (false, 30, fun _ => 0), .inl (false, 30, fun _ => 0), .inr (4, [.ref 6, .ref 7, .ref 8, .ref 9, .ref 10, .ref 11, .ref 12, .int 0]), .inl (false, 24, fun _ => 0), .inl (false, 24, fun _ => 0), .inl (false, 24, fun _ => 0), .inl (false, 24, fun _ => 0), .inl (false, 24, fun _ => 0), .inl (false, 24, fun j => if j < 24 then (-1) else (fun _ => 0) j), .inl (false, 576, fun j => if j < 576 then 2 else (fun _ => 0) j), .inr (8, [.int 60, .int 60, .int (-1), .int 0, .int 0, .ref 14, .ref 15, .ref 16, .ref 17, .ref 18]), .inl (false, 24, fun _ => 0), .inl (false, 10, fun _ => 0), .inl (false, 24, fun _ => 0), .inl (false, 24, fun _ => 0), .inl (false, 193, fun _ => 0), .inr (2, [.int 10, .int 0, .ref 20]), .inl (false, 200, fun _ => 0), .inr (7, [.ref 22, .ref 23, .ref 24, .int 0, .ref 25, .ref 26, .ref 27, .ref 28, .ref 29, .ref 30]), .inl (false, 12, fun _ => 0), .inl (false, 24, fun _ => 0), .inl (false, 24, fun _ => 0), .inl (false, 12, fun _ => 0), .inl (false, 12, fun _ => 0), .inl (false, 7, upd (fun _ => 0) 6 1000), .inl (false, 7, fun _ => 0), .inl (false, 144, fun _ => 0), .inl (false, 24, fun _ => 0), .inr (0, [.ref 32, .int 0, .ref 33, .ref 34, .ref 35, .ref 36, .ref 37]), .inl (false, 40, fun _ => 0), .inl (false, 40, fun _ => 0), .inl (false, 40, fun _ => 0), .inl (false, 4, fun _ => 0), .inl (false, 4, fun j => if j < 4 then (-1) else (fun _ => 0) j), .inl (false, 4, fun _ => 0), .inr (5, [.int 0, .ref 39, .ref 40, .ref 41]), .inl (false, 30, fun _ => 0), .inl (false, 30, fun _ => 0), .inl (false, 30, fun _ => 0), .inr (6, [.int 0, .null, .null, .null])]
def go_X6 : List gX := [.inr (9, [.ref 1, .ref 13, .ref 19, .ref 21, .ref 31, .ref 38, .null]), .inr (3, [.ref 2, .ref 5, .int (-1)]), .inr (1, [.ref 3, .ref 4, .int 0]), .inl (false, 30, fun _ => 0), .inl (false, 30, fun _ => 0), .inr (4, [.ref 6, .ref 7, .ref 8, .ref 9, .ref 10, .ref 11, .ref 12, .int 0]), .inl (false, 24, fun _ => 0), .inl (false, 24, fun _ => 0), .inl (false, 24, fun _ => 0), .inl (false, 24, fun _ => 0), .inl (false, 24, fun _ => 0), .inl (false, 24, fun j => if j < 24 then (-1) else (fun _ => 0) j), .inl (false, 576, fun j => if j < 576 then 2 else (fun _ => 0) j), .inr (8, [.int 60, .int 60, .int (-1), .int 0, .int 0, .ref 14, .ref 15, .ref 16, .ref 17, .ref 18]), .inl (false, 24, fun _ => 0), .inl (false, 10, fun _ => 0), .inl (false, 24, fun _ => 0), .inl (false, 24, fun _ => 0), .inl (false, 193, fun _ => 0), .inr (2, [.int 10, .int 0, .ref 20]), .inl (false, 200, fun _ => 0), .inr (7, [.ref 22, .ref 23, .ref 24, .int 0, .ref 25, .ref 26, .ref 27, .ref 28, .ref 29, .ref 30]), .inl (false, 12, fun _ => 0), .inl (false, 24, fun _ => 0), .inl (false, 24, fun _ => 0), .inl (false, 12, fun _ => 0), .inl (false, 12, fun _ => 0), .inl (false, 7, upd (fun _ => 0) 6 1000), .inl (false, 7, fun _ => 0), .inl (false, 144, fun _ => 0), .inl (false, 24, fun _ => 0), .inr (0, [.ref 32, .int 0, .ref 33, .ref 34, .ref 35, .ref 36, .ref 37]), .inl (false, 40, fun _ => 0), .inl (false, 40, fun _ => 0), .inl (false, 40, fun _ => 0), .inl (false, 4, fun _ => 0), .inl (false, 4, fun j => if j < 4 then (-1) else (fun _ => 0) j), .inl (false, 4, fun _ => 0), .inr (5, [.int 0, .ref 39, .ref 40, .ref 41]), .inl (false, 30, fun _ => 0), .inl (false, 30, fun _ => 0), .inl (false, 30, fun _ => 0), .inr (6, [.int 0, .ref 43, .ref 44, .ref 45]), .inl (false, 4, fun j => if j < 4 then (-1) else (fun _ => 0) j), .inl (false, 4, fun _ => 0), .inl (false, 240, fun _ => 0)]
set_option maxHeartbeats 4000000 in
set_option maxRecDepth 100000 in
theorem gs_X6 : Gs mX6_init [.ref 42] gi_X6 3 248 go_X6 := by
  show G mX6_init 3 248 43 0 _ [] gi_X6 0 0 go_X6
  refine G.aload_n 0 dX6_init_0 rfl rfl ?_
  refine G.obj go_X6_init dX6_init_1 ⟨rfl, rfl⟩ rfl ?_
  refine G.aload_n 0 dX6_init_4 rfl rfl ?_
  refine G.iconst (v := 0) dX6_init_5 (by decide) ?_
  refine G.put (q := 42) rfl gf_X6_9 (fun _ => rfl) (fun _ => rfl) dX6_init_6 rfl rfl ?_
  refine G.aload_n 0 dX6_init_9 rfl rfl ?_
  refine G.iconst (v := 4) dX6_init_10 (by decide) ?_
  refine G.newI (N := 4) 43 g_aI dX6_init_11 (by decide) (by decide) rfl (by decide +kernel) rfl rfl ?_
  refine G.put (q := 42) rfl gf_X6_15 (fun _ => rfl) (fun _ => rfl) dX6_init_13 rfl rfl ?_
  refine G.aload_n 0 dX6_init_16 rfl rfl ?_
  refine G.iconst (v := 4) dX6_init_17 (by decide) ?_
  refine G.newI (N := 4) 44 g_aI dX6_init_18 (by decide) (by decide) rfl (by decide +kernel) rfl rfl ?_
  refine G.put (q := 42) rfl gf_X6_19 (fun _ => rfl) (fun _ => rfl) dX6_init_20 rfl rfl ?_
  refine G.aload_n 0 dX6_init_23 rfl rfl ?_
  refine G.sipush (v := 240) dX6_init_24 (by decide) ?_
  refine G.newI (N := 240) 45 g_aI dX6_init_27 (by decide) (by decide) rfl (by decide +kernel) rfl rfl ?_
  refine G.put (q := 42) rfl gf_X6_22 (fun _ => rfl) (fun _ => rfl) dX6_init_29 rfl rfl ?_
  refine G.aload_n 0 dX6_init_32 rfl rfl ?_
  refine G.get (.ref 43) fl_X6_15 dX6_init_33 rfl rfl ?_
  refine G.iconst (v := (-1)) dX6_init_36 (by decide) ?_
  refine G.callS (As := [.ref 43, .int (-1)]) (st := []) 46 cs_X6_init_25 dX6_init_37 rfl rfl rfl rfl (by decide +kernel) (gs_fill (-1) rfl (by decide)) rfl rfl ?_
  exact G.vret dX6_init_40 rfl rfl rfl rfl
theorem gc_X9_53 : gCI mX9_init mX6_init 53 := ⟨⟨me_X6_init, pd_X6_init, by decide, by decide⟩, rfl, List.mem_of_getElem? (i := 305) (by decide +kernel), im_X6_init, rfl⟩
theorem gf_X9_54 : gFP RX9 54 9 6 true (.object "CampWeek$Sheets") := ⟨fl_X9_54, RX9, TX9, 7, rfl, rfl, rfl, by decide +kernel⟩
def gi_X9 : List gX := [.inr (9, [.null, .null, .null, .null, .null, .null, .null])]
def go_X9 : List gX := [.inr (9, [.ref 1, .ref 13, .ref 19, .ref 21, .ref 31, .ref 38, .ref 42]), .inr (3, [.ref 2, .ref 5, .int (-1)]), .inr (1, [.ref 3, .ref 4, .int 0]), .inl (false, 30, fun _ => 0), .inl (false, 30, fun _ => 0), .inr (4, [.ref 6, .ref 7, .ref 8, .ref 9, .ref 10, .ref 11, .ref 12, .int 0]), .inl (false, 24, fun _ => 0), .inl (false, 24, fun _ => 0), .inl (false, 24, fun _ => 0), .inl (false, 24, fun _ => 0), .inl (false, 24, fun _ => 0), .inl (false, 24, fun j => if j < 24 then (-1) else (fun _ => 0) j), .inl (false, 576, fun j => if j < 576 then 2 else (fun _ => 0) j), .inr (8, [.int 60, .int 60, .int (-1), .int 0, .int 0, .ref 14, .ref 15, .ref 16, .ref 17, .ref 18]), .inl (false, 24, fun _ => 0), .inl (false, 10, fun _ => 0), .inl (false, 24, fun _ => 0), .inl (false, 24, fun _ => 0), .inl (false, 193, fun _ => 0), .inr (2, [.int 10, .int 0, .ref 20]), .inl (false, 200, fun _ => 0), .inr (7, [.ref 22, .ref 23, .ref 24, .int 0, .ref 25, .ref 26, .ref 27, .ref 28, .ref 29, .ref 30]), .inl (false, 12, fun _ => 0), .inl (false, 24, fun _ => 0), .inl (false, 24, fun _ => 0), .inl (false, 12, fun _ => 0), .inl (false, 12, fun _ => 0), .inl (false, 7, upd (fun _ => 0) 6 1000), .inl (false, 7, fun _ => 0), .inl (false, 144, fun _ => 0), .inl (false, 24, fun _ => 0), .inr (0, [.ref 32, .int 0, .ref 33, .ref 34, .ref 35, .ref 36, .ref 37]), .inl (false, 40, fun _ => 0), .inl (false, 40, fun _ => 0), .inl (false, 40, fun _ => 0), .inl (false, 4, fun _ => 0), .inl (false, 4, fun j => if j < 4 then (-1) else (fun _ => 0) j), .inl (false, 4, fun _ => 0), .inr (5, [.int 0, .ref 39, .ref 40, .ref 41]), .inl (false, 30, fun _ => 0), .inl (false, 30, fun _ => 0), .inl (false, 30, fun _ => 0), .inr (6, [.int 0, .ref 43, .ref 44, .ref 45]), .inl (false, 4, fun j => if j < 4 then (-1) else (fun _ => 0) j), .inl (false, 4, fun _ => 0), .inl (false, 240, fun _ => 0)]
set_option maxHeartbeats 4000000 in
set_option maxRecDepth 100000 in
theorem gs_X9 : Gs mX9_init [.ref 0] gi_X9 45 2043 go_X9 := by
  show G mX9_init 45 2043 1 0 _ [] gi_X9 0 0 go_X9
  refine G.aload_n 0 dX9_init_0 rfl rfl ?_
  refine G.obj go_X9_init dX9_init_1 ⟨rfl, rfl⟩ rfl ?_
  refine G.aload_n 0 dX9_init_4 rfl rfl ?_
  refine G.new 1 gn_X9_7 dX9_init_5 (by decide +kernel) rfl rfl ?_
  refine G.dup _ dX9_init_8 rfl ?_
  refine G.conv (w2 := gi_X3) rfl ?_
  refine G.callM 2 gc_X9_9 dX9_init_9 rfl rfl (by decide +kernel) gs_X3 rfl rfl ?_
  refine G.put (q := 0) rfl gf_X9_10 (fun _ => rfl) (fun _ => rfl) dX9_init_12 rfl rfl ?_
  refine G.aload_n 0 dX9_init_15 rfl rfl ?_
  refine G.new 13 gn_X9_16 dX9_init_16 (by decide +kernel) rfl rfl ?_
  refine G.dup _ dX9_init_19 rfl ?_
  refine G.conv (w2 := gi_X8) rfl ?_
  refine G.callM 14 gc_X9_18 dX9_init_20 rfl rfl (by decide +kernel) gs_X8 rfl rfl ?_
  refine G.put (q := 0) rfl gf_X9_19 (fun _ => rfl) (fun _ => rfl) dX9_init_23 rfl rfl ?_
  refine G.aload_n 0 dX9_init_26 rfl rfl ?_
  refine G.new 19 gn_X9_23 dX9_init_27 (by decide +kernel) rfl rfl ?_
  refine G.dup _ dX9_init_30 rfl ?_
  refine G.conv (w2 := gi_X2) rfl ?_
  refine G.callM 20 gc_X9_25 dX9_init_31 rfl rfl (by decide +kernel) gs_X2 rfl rfl ?_
  refine G.put (q := 0) rfl gf_X9_26 (fun _ => rfl) (fun _ => rfl) dX9_init_34 rfl rfl ?_
  refine G.aload_n 0 dX9_init_37 rfl rfl ?_
  refine G.new 21 gn_X9_30 dX9_init_38 (by decide +kernel) rfl rfl ?_
  refine G.dup _ dX9_init_41 rfl ?_
  refine G.conv (w2 := gi_X7) rfl ?_
  refine G.callI 22 gc_X9_32 dX9_init_42 rfl rfl (by decide +kernel) gs_X7 rfl rfl ?_
  refine G.put (q := 0) rfl gf_X9_33 (fun _ => rfl) (fun _ => rfl) dX9_init_45 rfl rfl ?_
  refine G.aload_n 0 dX9_init_48 rfl rfl ?_
  refine G.new 31 gn_X9_37 dX9_init_49 (by decide +kernel) rfl rfl ?_
  refine G.dup _ dX9_init_52 rfl ?_
  refine G.conv (w2 := gi_X0) rfl ?_
  refine G.callI 32 gc_X9_39 dX9_init_53 rfl rfl (by decide +kernel) gs_X0 rfl rfl ?_
  refine G.put (q := 0) rfl gf_X9_40 (fun _ => rfl) (fun _ => rfl) dX9_init_56 rfl rfl ?_
  refine G.aload_n 0 dX9_init_59 rfl rfl ?_
  refine G.new 38 gn_X9_44 dX9_init_60 (by decide +kernel) rfl rfl ?_
  refine G.dup _ dX9_init_63 rfl ?_
  refine G.conv (w2 := gi_X5) rfl ?_
  refine G.callM 39 gc_X9_46 dX9_init_64 rfl rfl (by decide +kernel) gs_X5 rfl rfl ?_
  refine G.put (q := 0) rfl gf_X9_47 (fun _ => rfl) (fun _ => rfl) dX9_init_67 rfl rfl ?_
  refine G.aload_n 0 dX9_init_70 rfl rfl ?_
  refine G.new 42 gn_X9_51 dX9_init_71 (by decide +kernel) rfl rfl ?_
  refine G.dup _ dX9_init_74 rfl ?_
  refine G.conv (w2 := gi_X6) rfl ?_
  refine G.callI 43 gc_X9_53 dX9_init_75 rfl rfl (by decide +kernel) gs_X6 rfl rfl ?_
  refine G.put (q := 0) rfl gf_X9_54 (fun _ => rfl) (fun _ => rfl) dX9_init_78 rfl rfl ?_
  exact G.vret dX9_init_81 rfl rfl rfl rfl
