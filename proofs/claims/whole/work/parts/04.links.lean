theorem inX0 : ∀ w ∈ u_ws RX0 TX0 7, w ∈ lw_tbl := by decide +kernel
theorem gdX0 : ∀ w ∈ u_ws RX0 TX0 7, goodWord w = true := by decide +kernel
theorem inX1 : ∀ w ∈ u_ws RX1 TX1 3, w ∈ lw_tbl := by decide +kernel
theorem gdX1 : ∀ w ∈ u_ws RX1 TX1 3, goodWord w = true := by decide +kernel
theorem inX2 : ∀ w ∈ u_ws RX2 TX2 3, w ∈ lw_tbl := by decide +kernel
theorem gdX2 : ∀ w ∈ u_ws RX2 TX2 3, goodWord w = true := by decide +kernel
theorem inX3 : ∀ w ∈ u_ws RX3 TX3 3, w ∈ lw_tbl := by decide +kernel
theorem gdX3 : ∀ w ∈ u_ws RX3 TX3 3, goodWord w = true := by decide +kernel
theorem inX4 : ∀ w ∈ u_ws RX4 TX4 8, w ∈ lw_tbl := by decide +kernel
theorem gdX4 : ∀ w ∈ u_ws RX4 TX4 8, goodWord w = true := by decide +kernel
theorem inX5 : ∀ w ∈ u_ws RX5 TX5 4, w ∈ lw_tbl := by decide +kernel
theorem gdX5 : ∀ w ∈ u_ws RX5 TX5 4, goodWord w = true := by decide +kernel
theorem inX6 : ∀ w ∈ u_ws RX6 TX6 4, w ∈ lw_tbl := by decide +kernel
theorem gdX6 : ∀ w ∈ u_ws RX6 TX6 4, goodWord w = true := by decide +kernel
theorem inX7 : ∀ w ∈ u_ws RX7 TX7 10, w ∈ lw_tbl := by decide +kernel
theorem gdX7 : ∀ w ∈ u_ws RX7 TX7 10, goodWord w = true := by decide +kernel
theorem inX8 : ∀ w ∈ u_ws RX8 TX8 10, w ∈ lw_tbl := by decide +kernel
theorem gdX8 : ∀ w ∈ u_ws RX8 TX8 10, goodWord w = true := by decide +kernel
theorem inX9 : ∀ w ∈ u_ws RX9 TX9 7, w ∈ lw_tbl := by decide +kernel
theorem gdX9 : ∀ w ∈ u_ws RX9 TX9 7, goodWord w = true := by decide +kernel
theorem inX10 : ∀ w ∈ u_ws RX10 TX10 47, w ∈ lw_tbl := by decide +kernel
theorem gdX10 : ∀ w ∈ u_ws RX10 TX10 47, goodWord w = true := by decide +kernel
theorem ini_RL : Cond.initialized RL ∈ lw_tbl := List.mem_of_getElem? (i := 47) (by decide +kernel)
theorem ini_RX9 : Cond.initialized RX9 ∈ lw_tbl := List.mem_of_getElem? (i := 48) (by decide +kernel)
theorem ini_RX3 : Cond.initialized RX3 ∈ lw_tbl := List.mem_of_getElem? (i := 49) (by decide +kernel)
theorem ini_RX1 : Cond.initialized RX1 ∈ lw_tbl := List.mem_of_getElem? (i := 50) (by decide +kernel)
theorem ini_RX4 : Cond.initialized RX4 ∈ lw_tbl := List.mem_of_getElem? (i := 51) (by decide +kernel)
theorem ini_RJ7 : Cond.initialized RJ7 ∈ lw_tbl := List.mem_of_getElem? (i := 52) (by decide +kernel)
theorem ini_RX8 : Cond.initialized RX8 ∈ lw_tbl := List.mem_of_getElem? (i := 53) (by decide +kernel)
theorem ini_RX2 : Cond.initialized RX2 ∈ lw_tbl := List.mem_of_getElem? (i := 54) (by decide +kernel)
theorem ini_RX7 : Cond.initialized RX7 ∈ lw_tbl := List.mem_of_getElem? (i := 55) (by decide +kernel)
theorem ini_RX0 : Cond.initialized RX0 ∈ lw_tbl := List.mem_of_getElem? (i := 56) (by decide +kernel)
theorem ini_RX5 : Cond.initialized RX5 ∈ lw_tbl := List.mem_of_getElem? (i := 57) (by decide +kernel)
theorem ini_RX6 : Cond.initialized RX6 ∈ lw_tbl := List.mem_of_getElem? (i := 58) (by decide +kernel)
theorem ini_RX10 : Cond.initialized RX10 ∈ lw_tbl := List.mem_of_getElem? (i := 59) (by decide +kernel)
theorem ini_RJ9 : Cond.initialized RJ9 ∈ lw_tbl := List.mem_of_getElem? (i := 60) (by decide +kernel)
theorem ini_RJ10 : Cond.initialized RJ10 ∈ lw_tbl := List.mem_of_getElem? (i := 61) (by decide +kernel)
abbrev mX0_define : xK := (yX0_define, cX0_define, 5, (some .int), 1, 24)
theorem me_X0_define : xMeth mX0_define := ⟨List.mem_of_getElem? (i := 679) (by decide +kernel), by decide +kernel, by decide +kernel, by decide +kernel, ini_RX0⟩
theorem pd_X0_define : (parseMethodDescriptor (mX0_define).1.desc).map (fun d => d.parameters.length) = some 4 := by decide +kernel
theorem im_X0_define : Cond.instanceMethod yX0_define ∈ lw_tbl := List.mem_of_getElem? (i := 677) (by decide +kernel)
theorem se_X0_define : Cond.selects yX0_define.cls yX0_define yX0_define ∈ lw_tbl := List.mem_of_getElem? (i := 678) (by decide +kernel)
abbrev mX0_isOfAnother : xK := (yX0_isOfAnother, cX0_isOfAnother, 5, (some .boolean), 0, 0)
theorem me_X0_isOfAnother : xMeth mX0_isOfAnother := ⟨List.mem_of_getElem? (i := 684) (by decide +kernel), by decide +kernel, by decide +kernel, by decide +kernel, ini_RX0⟩
theorem pd_X0_isOfAnother : (parseMethodDescriptor (mX0_isOfAnother).1.desc).map (fun d => d.parameters.length) = some 3 := by decide +kernel
theorem im_X0_isOfAnother : Cond.instanceMethod yX0_isOfAnother ∈ lw_tbl := List.mem_of_getElem? (i := 683) (by decide +kernel)
theorem se_X0_isOfAnother : Cond.selects yX0_isOfAnother.cls yX0_isOfAnother yX0_isOfAnother ∈ lw_tbl := List.mem_of_getElem? (i := 19) (by decide +kernel)
abbrev mX0_childrenIn : xK := (yX0_childrenIn, cX0_childrenIn, 4, (some .int), 0, 0)
theorem me_X0_childrenIn : xMeth mX0_childrenIn := ⟨List.mem_of_getElem? (i := 688) (by decide +kernel), by decide +kernel, by decide +kernel, by decide +kernel, ini_RX0⟩
theorem pd_X0_childrenIn : (parseMethodDescriptor (mX0_childrenIn).1.desc).map (fun d => d.parameters.length) = some 1 := by decide +kernel
theorem im_X0_childrenIn : Cond.instanceMethod yX0_childrenIn ∈ lw_tbl := List.mem_of_getElem? (i := 687) (by decide +kernel)
theorem se_X0_childrenIn : Cond.selects yX0_childrenIn.cls yX0_childrenIn yX0_childrenIn ∈ lw_tbl := List.mem_of_getElem? (i := 20) (by decide +kernel)
abbrev mX0_hasChild : xK := (yX0_hasChild, cX0_hasChild, 2, (some .boolean), 1, 22)
theorem me_X0_hasChild : xMeth mX0_hasChild := ⟨List.mem_of_getElem? (i := 712) (by decide +kernel), by decide +kernel, by decide +kernel, by decide +kernel, ini_RX0⟩
theorem pd_X0_hasChild : (parseMethodDescriptor (mX0_hasChild).1.desc).map (fun d => d.parameters.length) = some 1 := by decide +kernel
theorem im_X0_hasChild : Cond.instanceMethod yX0_hasChild ∈ lw_tbl := List.mem_of_getElem? (i := 710) (by decide +kernel)
theorem se_X0_hasChild : Cond.selects yX0_hasChild.cls yX0_hasChild yX0_hasChild ∈ lw_tbl := List.mem_of_getElem? (i := 711) (by decide +kernel)
abbrev mX0_addChild : xK := (yX0_addChild, cX0_addChild, 4, (some .int), 1, 23)
theorem me_X0_addChild : xMeth mX0_addChild := ⟨List.mem_of_getElem? (i := 696) (by decide +kernel), by decide +kernel, by decide +kernel, by decide +kernel, ini_RX0⟩
theorem pd_X0_addChild : (parseMethodDescriptor (mX0_addChild).1.desc).map (fun d => d.parameters.length) = some 3 := by decide +kernel
theorem im_X0_addChild : Cond.instanceMethod yX0_addChild ∈ lw_tbl := List.mem_of_getElem? (i := 694) (by decide +kernel)
theorem se_X0_addChild : Cond.selects yX0_addChild.cls yX0_addChild yX0_addChild ∈ lw_tbl := List.mem_of_getElem? (i := 695) (by decide +kernel)
abbrev mX0_childrenOf : xK := (yX0_childrenOf, cX0_childrenOf, 4, (some .int), 0, 0)
theorem me_X0_childrenOf : xMeth mX0_childrenOf := ⟨List.mem_of_getElem? (i := 700) (by decide +kernel), by decide +kernel, by decide +kernel, by decide +kernel, ini_RX0⟩
theorem pd_X0_childrenOf : (parseMethodDescriptor (mX0_childrenOf).1.desc).map (fun d => d.parameters.length) = some 1 := by decide +kernel
theorem im_X0_childrenOf : Cond.instanceMethod yX0_childrenOf ∈ lw_tbl := List.mem_of_getElem? (i := 699) (by decide +kernel)
theorem se_X0_childrenOf : Cond.selects yX0_childrenOf.cls yX0_childrenOf yX0_childrenOf ∈ lw_tbl := List.mem_of_getElem? (i := 21) (by decide +kernel)
abbrev mX0_handOver : xK := (yX0_handOver, cX0_handOver, 3, (some .int), 2, 44)
theorem me_X0_handOver : xMeth mX0_handOver := ⟨List.mem_of_getElem? (i := 708) (by decide +kernel), by decide +kernel, by decide +kernel, by decide +kernel, ini_RX0⟩
theorem pd_X0_handOver : (parseMethodDescriptor (mX0_handOver).1.desc).map (fun d => d.parameters.length) = some 1 := by decide +kernel
theorem im_X0_handOver : Cond.instanceMethod yX0_handOver ∈ lw_tbl := List.mem_of_getElem? (i := 706) (by decide +kernel)
theorem se_X0_handOver : Cond.selects yX0_handOver.cls yX0_handOver yX0_handOver ∈ lw_tbl := List.mem_of_getElem? (i := 707) (by decide +kernel)
abbrev mX0_groupFor : xK := (yX0_groupFor, cX0_groupFor, 3, (some .int), 1, 22)
theorem me_X0_groupFor : xMeth mX0_groupFor := ⟨List.mem_of_getElem? (i := 716) (by decide +kernel), by decide +kernel, by decide +kernel, by decide +kernel, ini_RX0⟩
theorem pd_X0_groupFor : (parseMethodDescriptor (mX0_groupFor).1.desc).map (fun d => d.parameters.length) = some 1 := by decide +kernel
theorem im_X0_groupFor : Cond.instanceMethod yX0_groupFor ∈ lw_tbl := List.mem_of_getElem? (i := 715) (by decide +kernel)
theorem se_X0_groupFor : Cond.selects yX0_groupFor.cls yX0_groupFor yX0_groupFor ∈ lw_tbl := List.mem_of_getElem? (i := 22) (by decide +kernel)
abbrev mX0_giveBack : xK := (yX0_giveBack, cX0_giveBack, 3, (some .int), 2, 43)
theorem me_X0_giveBack : xMeth mX0_giveBack := ⟨List.mem_of_getElem? (i := 724) (by decide +kernel), by decide +kernel, by decide +kernel, by decide +kernel, ini_RX0⟩
theorem pd_X0_giveBack : (parseMethodDescriptor (mX0_giveBack).1.desc).map (fun d => d.parameters.length) = some 2 := by decide +kernel
theorem im_X0_giveBack : Cond.instanceMethod yX0_giveBack ∈ lw_tbl := List.mem_of_getElem? (i := 722) (by decide +kernel)
theorem se_X0_giveBack : Cond.selects yX0_giveBack.cls yX0_giveBack yX0_giveBack ∈ lw_tbl := List.mem_of_getElem? (i := 723) (by decide +kernel)
abbrev mX1_has : xK := (yX1_has, cX1_has, 2, (some .boolean), 1, 22)
theorem me_X1_has : xMeth mX1_has := ⟨List.mem_of_getElem? (i := 468) (by decide +kernel), by decide +kernel, by decide +kernel, by decide +kernel, ini_RX1⟩
theorem pd_X1_has : (parseMethodDescriptor (mX1_has).1.desc).map (fun d => d.parameters.length) = some 1 := by decide +kernel
theorem im_X1_has : Cond.instanceMethod yX1_has ∈ lw_tbl := List.mem_of_getElem? (i := 466) (by decide +kernel)
theorem se_X1_has : Cond.selects yX1_has.cls yX1_has yX1_has ∈ lw_tbl := List.mem_of_getElem? (i := 467) (by decide +kernel)
abbrev mX1_add : xK := (yX1_add, cX1_add, 3, (some .int), 1, 22)
theorem me_X1_add : xMeth mX1_add := ⟨List.mem_of_getElem? (i := 353) (by decide +kernel), by decide +kernel, by decide +kernel, by decide +kernel, ini_RX1⟩
theorem pd_X1_add : (parseMethodDescriptor (mX1_add).1.desc).map (fun d => d.parameters.length) = some 2 := by decide +kernel
theorem im_X1_add : Cond.instanceMethod yX1_add ∈ lw_tbl := List.mem_of_getElem? (i := 351) (by decide +kernel)
theorem se_X1_add : Cond.selects yX1_add.cls yX1_add yX1_add ∈ lw_tbl := List.mem_of_getElem? (i := 352) (by decide +kernel)
abbrev mX2_setPart : xK := (yX2_setPart, cX2_setPart, 3, (some .int), 1, 22)
theorem me_X2_setPart : xMeth mX2_setPart := ⟨List.mem_of_getElem? (i := 557) (by decide +kernel), by decide +kernel, by decide +kernel, by decide +kernel, ini_RX2⟩
theorem pd_X2_setPart : (parseMethodDescriptor (mX2_setPart).1.desc).map (fun d => d.parameters.length) = some 1 := by decide +kernel
theorem im_X2_setPart : Cond.instanceMethod yX2_setPart ∈ lw_tbl := List.mem_of_getElem? (i := 555) (by decide +kernel)
theorem se_X2_setPart : Cond.selects yX2_setPart.cls yX2_setPart yX2_setPart ∈ lw_tbl := List.mem_of_getElem? (i := 556) (by decide +kernel)
abbrev mX2_serve : xK := (yX2_serve, cX2_serve, 7, (some .int), 0, 0)
theorem me_X2_serve : xMeth mX2_serve := ⟨List.mem_of_getElem? (i := 576) (by decide +kernel), by decide +kernel, by decide +kernel, by decide +kernel, ini_RX2⟩
theorem pd_X2_serve : (parseMethodDescriptor (mX2_serve).1.desc).map (fun d => d.parameters.length) = some 4 := by decide +kernel
theorem im_X2_serve : Cond.instanceMethod yX2_serve ∈ lw_tbl := List.mem_of_getElem? (i := 574) (by decide +kernel)
theorem se_X2_serve : Cond.selects yX2_serve.cls yX2_serve yX2_serve ∈ lw_tbl := List.mem_of_getElem? (i := 575) (by decide +kernel)
abbrev mX2_entry : xK := (yX2_entry, cX2_entry, 3, (some .int), 1, 22)
theorem me_X2_entry : xMeth mX2_entry := ⟨List.mem_of_getElem? (i := 584) (by decide +kernel), by decide +kernel, by decide +kernel, by decide +kernel, ini_RX2⟩
theorem pd_X2_entry : (parseMethodDescriptor (mX2_entry).1.desc).map (fun d => d.parameters.length) = some 2 := by decide +kernel
theorem im_X2_entry : Cond.instanceMethod yX2_entry ∈ lw_tbl := List.mem_of_getElem? (i := 582) (by decide +kernel)
theorem se_X2_entry : Cond.selects yX2_entry.cls yX2_entry yX2_entry ∈ lw_tbl := List.mem_of_getElem? (i := 583) (by decide +kernel)
abbrev mX3_relate : xK := (yX3_relate, cX3_relate, 4, (some .int), 2, 45)
theorem me_X3_relate : xMeth mX3_relate := ⟨List.mem_of_getElem? (i := 377) (by decide +kernel), by decide +kernel, by decide +kernel, by decide +kernel, ini_RX3⟩
theorem pd_X3_relate : (parseMethodDescriptor (mX3_relate).1.desc).map (fun d => d.parameters.length) = some 3 := by decide +kernel
theorem im_X3_relate : Cond.instanceMethod yX3_relate ∈ lw_tbl := List.mem_of_getElem? (i := 375) (by decide +kernel)
theorem se_X3_relate : Cond.selects yX3_relate.cls yX3_relate yX3_relate ∈ lw_tbl := List.mem_of_getElem? (i := 376) (by decide +kernel)
abbrev mX3_liveInOneRow : xK := (yX3_liveInOneRow, cX3_liveInOneRow, 3, (some .boolean), 1, 23)
theorem me_X3_liveInOneRow : xMeth mX3_liveInOneRow := ⟨List.mem_of_getElem? (i := 386) (by decide +kernel), by decide +kernel, by decide +kernel, by decide +kernel, ini_RX3⟩
theorem pd_X3_liveInOneRow : (parseMethodDescriptor (mX3_liveInOneRow).1.desc).map (fun d => d.parameters.length) = some 2 := by decide +kernel
theorem im_X3_liveInOneRow : Cond.instanceMethod yX3_liveInOneRow ∈ lw_tbl := List.mem_of_getElem? (i := 385) (by decide +kernel)
theorem se_X3_liveInOneRow : Cond.selects yX3_liveInOneRow.cls yX3_liveInOneRow yX3_liveInOneRow ∈ lw_tbl := List.mem_of_getElem? (i := 0) (by decide +kernel)
abbrev mX3_isInRow : xK := (yX3_isInRow, cX3_isInRow, 4, (some .boolean), 0, 0)
theorem me_X3_isInRow : xMeth mX3_isInRow := ⟨List.mem_of_getElem? (i := 394) (by decide +kernel), by decide +kernel, by decide +kernel, by decide +kernel, ini_RX3⟩
theorem pd_X3_isInRow : (parseMethodDescriptor (mX3_isInRow).1.desc).map (fun d => d.parameters.length) = some 2 := by decide +kernel
theorem im_X3_isInRow : Cond.instanceMethod yX3_isInRow ∈ lw_tbl := List.mem_of_getElem? (i := 393) (by decide +kernel)
theorem se_X3_isInRow : Cond.selects yX3_isInRow.cls yX3_isInRow yX3_isInRow ∈ lw_tbl := List.mem_of_getElem? (i := 1) (by decide +kernel)
abbrev mX3_takeIn : xK := (yX3_takeIn, cX3_takeIn, 4, (some .int), 5, 118)
theorem me_X3_takeIn : xMeth mX3_takeIn := ⟨List.mem_of_getElem? (i := 410) (by decide +kernel), by decide +kernel, by decide +kernel, by decide +kernel, ini_RX3⟩
theorem pd_X3_takeIn : (parseMethodDescriptor (mX3_takeIn).1.desc).map (fun d => d.parameters.length) = some 1 := by decide +kernel
theorem im_X3_takeIn : Cond.instanceMethod yX3_takeIn ∈ lw_tbl := List.mem_of_getElem? (i := 408) (by decide +kernel)
theorem se_X3_takeIn : Cond.selects yX3_takeIn.cls yX3_takeIn yX3_takeIn ∈ lw_tbl := List.mem_of_getElem? (i := 409) (by decide +kernel)
abbrev mX3_dearestHut : xK := (yX3_dearestHut, cX3_dearestHut, 6, (some .int), 3, 69)
theorem me_X3_dearestHut : xMeth mX3_dearestHut := ⟨List.mem_of_getElem? (i := 414) (by decide +kernel), by decide +kernel, by decide +kernel, by decide +kernel, ini_RX3⟩
theorem pd_X3_dearestHut : (parseMethodDescriptor (mX3_dearestHut).1.desc).map (fun d => d.parameters.length) = some 1 := by decide +kernel
theorem im_X3_dearestHut : Cond.instanceMethod yX3_dearestHut ∈ lw_tbl := List.mem_of_getElem? (i := 413) (by decide +kernel)
theorem se_X3_dearestHut : Cond.selects yX3_dearestHut.cls yX3_dearestHut yX3_dearestHut ∈ lw_tbl := List.mem_of_getElem? (i := 2) (by decide +kernel)
abbrev mX3_mayHave : xK := (yX3_mayHave, cX3_mayHave, 4, (some .boolean), 1, 23)
theorem me_X3_mayHave : xMeth mX3_mayHave := ⟨List.mem_of_getElem? (i := 418) (by decide +kernel), by decide +kernel, by decide +kernel, by decide +kernel, ini_RX3⟩
theorem pd_X3_mayHave : (parseMethodDescriptor (mX3_mayHave).1.desc).map (fun d => d.parameters.length) = some 2 := by decide +kernel
theorem im_X3_mayHave : Cond.instanceMethod yX3_mayHave ∈ lw_tbl := List.mem_of_getElem? (i := 417) (by decide +kernel)
theorem se_X3_mayHave : Cond.selects yX3_mayHave.cls yX3_mayHave yX3_mayHave ∈ lw_tbl := List.mem_of_getElem? (i := 3) (by decide +kernel)
abbrev mX3_cost : xK := (yX3_cost, cX3_cost, 4, (some .int), 2, 46)
theorem me_X3_cost : xMeth mX3_cost := ⟨List.mem_of_getElem? (i := 426) (by decide +kernel), by decide +kernel, by decide +kernel, by decide +kernel, ini_RX3⟩
theorem pd_X3_cost : (parseMethodDescriptor (mX3_cost).1.desc).map (fun d => d.parameters.length) = some 2 := by decide +kernel
theorem im_X3_cost : Cond.instanceMethod yX3_cost ∈ lw_tbl := List.mem_of_getElem? (i := 425) (by decide +kernel)
theorem se_X3_cost : Cond.selects yX3_cost.cls yX3_cost yX3_cost ∈ lw_tbl := List.mem_of_getElem? (i := 4) (by decide +kernel)
abbrev mX3_isNextTo : xK := (yX3_isNextTo, cX3_isNextTo, 4, (some .boolean), 1, 23)
theorem me_X3_isNextTo : xMeth mX3_isNextTo := ⟨List.mem_of_getElem? (i := 430) (by decide +kernel), by decide +kernel, by decide +kernel, by decide +kernel, ini_RX3⟩
theorem pd_X3_isNextTo : (parseMethodDescriptor (mX3_isNextTo).1.desc).map (fun d => d.parameters.length) = some 2 := by decide +kernel
theorem im_X3_isNextTo : Cond.instanceMethod yX3_isNextTo ∈ lw_tbl := List.mem_of_getElem? (i := 429) (by decide +kernel)
theorem se_X3_isNextTo : Cond.selects yX3_isNextTo.cls yX3_isNextTo yX3_isNextTo ∈ lw_tbl := List.mem_of_getElem? (i := 5) (by decide +kernel)
abbrev mX3_makesRoom : xK := (yX3_makesRoom, cX3_makesRoom, 5, (some .boolean), 4, 94)
theorem me_X3_makesRoom : xMeth mX3_makesRoom := ⟨List.mem_of_getElem? (i := 434) (by decide +kernel), by decide +kernel, by decide +kernel, by decide +kernel, ini_RX3⟩
theorem pd_X3_makesRoom : (parseMethodDescriptor (mX3_makesRoom).1.desc).map (fun d => d.parameters.length) = some 2 := by decide +kernel
theorem im_X3_makesRoom : Cond.instanceMethod yX3_makesRoom ∈ lw_tbl := List.mem_of_getElem? (i := 433) (by decide +kernel)
theorem se_X3_makesRoom : Cond.selects yX3_makesRoom.cls yX3_makesRoom yX3_makesRoom ∈ lw_tbl := List.mem_of_getElem? (i := 6) (by decide +kernel)
abbrev mX3_guest : xK := (yX3_guest, cX3_guest, 3, (some .int), 3, 67)
theorem me_X3_guest : xMeth mX3_guest := ⟨List.mem_of_getElem? (i := 464) (by decide +kernel), by decide +kernel, by decide +kernel, by decide +kernel, ini_RX3⟩
theorem pd_X3_guest : (parseMethodDescriptor (mX3_guest).1.desc).map (fun d => d.parameters.length) = some 2 := by decide +kernel
theorem im_X3_guest : Cond.instanceMethod yX3_guest ∈ lw_tbl := List.mem_of_getElem? (i := 462) (by decide +kernel)
theorem se_X3_guest : Cond.selects yX3_guest.cls yX3_guest yX3_guest ∈ lw_tbl := List.mem_of_getElem? (i := 463) (by decide +kernel)
abbrev mX3_whoIsIn : xK := (yX3_whoIsIn, cX3_whoIsIn, 4, (some .int), 2, 44)
theorem me_X3_whoIsIn : xMeth mX3_whoIsIn := ⟨List.mem_of_getElem? (i := 473) (by decide +kernel), by decide +kernel, by decide +kernel, by decide +kernel, ini_RX3⟩
theorem pd_X3_whoIsIn : (parseMethodDescriptor (mX3_whoIsIn).1.desc).map (fun d => d.parameters.length) = some 2 := by decide +kernel
theorem im_X3_whoIsIn : Cond.instanceMethod yX3_whoIsIn ∈ lw_tbl := List.mem_of_getElem? (i := 472) (by decide +kernel)
theorem se_X3_whoIsIn : Cond.selects yX3_whoIsIn.cls yX3_whoIsIn yX3_whoIsIn ∈ lw_tbl := List.mem_of_getElem? (i := 7) (by decide +kernel)
abbrev mX3_emptyBeds : xK := (yX3_emptyBeds, cX3_emptyBeds, 4, (some .int), 3, 67)
theorem me_X3_emptyBeds : xMeth mX3_emptyBeds := ⟨List.mem_of_getElem? (i := 485) (by decide +kernel), by decide +kernel, by decide +kernel, by decide +kernel, ini_RX3⟩
theorem pd_X3_emptyBeds : (parseMethodDescriptor (mX3_emptyBeds).1.desc).map (fun d => d.parameters.length) = some 1 := by decide +kernel
theorem im_X3_emptyBeds : Cond.instanceMethod yX3_emptyBeds ∈ lw_tbl := List.mem_of_getElem? (i := 483) (by decide +kernel)
theorem se_X3_emptyBeds : Cond.selects yX3_emptyBeds.cls yX3_emptyBeds yX3_emptyBeds ∈ lw_tbl := List.mem_of_getElem? (i := 484) (by decide +kernel)
abbrev mX4_has : xK := (yX4_has, cX4_has, 2, (some .boolean), 1, 22)
theorem me_X4_has : xMeth mX4_has := ⟨List.mem_of_getElem? (i := 381) (by decide +kernel), by decide +kernel, by decide +kernel, by decide +kernel, ini_RX4⟩
theorem pd_X4_has : (parseMethodDescriptor (mX4_has).1.desc).map (fun d => d.parameters.length) = some 1 := by decide +kernel
theorem im_X4_has : Cond.instanceMethod yX4_has ∈ lw_tbl := List.mem_of_getElem? (i := 379) (by decide +kernel)
theorem se_X4_has : Cond.selects yX4_has.cls yX4_has yX4_has ∈ lw_tbl := List.mem_of_getElem? (i := 380) (by decide +kernel)
abbrev mX4_add : xK := (yX4_add, cX4_add, 6, (some .int), 2, 42)
theorem me_X4_add : xMeth mX4_add := ⟨List.mem_of_getElem? (i := 364) (by decide +kernel), by decide +kernel, by decide +kernel, by decide +kernel, ini_RX4⟩
theorem pd_X4_add : (parseMethodDescriptor (mX4_add).1.desc).map (fun d => d.parameters.length) = some 5 := by decide +kernel
theorem im_X4_add : Cond.instanceMethod yX4_add ∈ lw_tbl := List.mem_of_getElem? (i := 362) (by decide +kernel)
theorem se_X4_add : Cond.selects yX4_add.cls yX4_add yX4_add ∈ lw_tbl := List.mem_of_getElem? (i := 363) (by decide +kernel)
abbrev mX4_isLodged : xK := (yX4_isLodged, cX4_isLodged, 2, (some .boolean), 0, 0)
theorem me_X4_isLodged : xMeth mX4_isLodged := ⟨List.mem_of_getElem? (i := 390) (by decide +kernel), by decide +kernel, by decide +kernel, by decide +kernel, ini_RX4⟩
theorem pd_X4_isLodged : (parseMethodDescriptor (mX4_isLodged).1.desc).map (fun d => d.parameters.length) = some 1 := by decide +kernel
theorem im_X4_isLodged : Cond.instanceMethod yX4_isLodged ∈ lw_tbl := List.mem_of_getElem? (i := 388) (by decide +kernel)
theorem se_X4_isLodged : Cond.selects yX4_isLodged.cls yX4_isLodged yX4_isLodged ∈ lw_tbl := List.mem_of_getElem? (i := 389) (by decide +kernel)
abbrev mX4_isThere : xK := (yX4_isThere, cX4_isThere, 3, (some .boolean), 1, 22)
theorem me_X4_isThere : xMeth mX4_isThere := ⟨List.mem_of_getElem? (i := 477) (by decide +kernel), by decide +kernel, by decide +kernel, by decide +kernel, ini_RX4⟩
theorem pd_X4_isThere : (parseMethodDescriptor (mX4_isThere).1.desc).map (fun d => d.parameters.length) = some 2 := by decide +kernel
theorem im_X4_isThere : Cond.instanceMethod yX4_isThere ∈ lw_tbl := List.mem_of_getElem? (i := 475) (by decide +kernel)
theorem se_X4_isThere : Cond.selects yX4_isThere.cls yX4_isThere yX4_isThere ∈ lw_tbl := List.mem_of_getElem? (i := 476) (by decide +kernel)
abbrev mX4_shareWeek : xK := (yX4_shareWeek, cX4_shareWeek, 3, (some .boolean), 0, 0)
theorem me_X4_shareWeek : xMeth mX4_shareWeek := ⟨List.mem_of_getElem? (i := 398) (by decide +kernel), by decide +kernel, by decide +kernel, by decide +kernel, ini_RX4⟩
theorem pd_X4_shareWeek : (parseMethodDescriptor (mX4_shareWeek).1.desc).map (fun d => d.parameters.length) = some 2 := by decide +kernel
theorem im_X4_shareWeek : Cond.instanceMethod yX4_shareWeek ∈ lw_tbl := List.mem_of_getElem? (i := 396) (by decide +kernel)
theorem se_X4_shareWeek : Cond.selects yX4_shareWeek.cls yX4_shareWeek yX4_shareWeek ∈ lw_tbl := List.mem_of_getElem? (i := 397) (by decide +kernel)
abbrev mX4_areTold : xK := (yX4_areTold, cX4_areTold, 4, (some .boolean), 0, 0)
theorem me_X4_areTold : xMeth mX4_areTold := ⟨List.mem_of_getElem? (i := 422) (by decide +kernel), by decide +kernel, by decide +kernel, by decide +kernel, ini_RX4⟩
theorem pd_X4_areTold : (parseMethodDescriptor (mX4_areTold).1.desc).map (fun d => d.parameters.length) = some 3 := by decide +kernel
theorem im_X4_areTold : Cond.instanceMethod yX4_areTold ∈ lw_tbl := List.mem_of_getElem? (i := 420) (by decide +kernel)
theorem se_X4_areTold : Cond.selects yX4_areTold.cls yX4_areTold yX4_areTold ∈ lw_tbl := List.mem_of_getElem? (i := 421) (by decide +kernel)
abbrev mX4_setTold : xK := (yX4_setTold, cX4_setTold, 5, (some .int), 0, 0)
theorem me_X4_setTold : xMeth mX4_setTold := ⟨List.mem_of_getElem? (i := 402) (by decide +kernel), by decide +kernel, by decide +kernel, by decide +kernel, ini_RX4⟩
theorem pd_X4_setTold : (parseMethodDescriptor (mX4_setTold).1.desc).map (fun d => d.parameters.length) = some 3 := by decide +kernel
theorem im_X4_setTold : Cond.instanceMethod yX4_setTold ∈ lw_tbl := List.mem_of_getElem? (i := 400) (by decide +kernel)
theorem se_X4_setTold : Cond.selects yX4_setTold.cls yX4_setTold yX4_setTold ∈ lw_tbl := List.mem_of_getElem? (i := 401) (by decide +kernel)
abbrev mX4_giveUpHut : xK := (yX4_giveUpHut, cX4_giveUpHut, 3, (some .int), 2, 43)
theorem me_X4_giveUpHut : xMeth mX4_giveUpHut := ⟨List.mem_of_getElem? (i := 446) (by decide +kernel), by decide +kernel, by decide +kernel, by decide +kernel, ini_RX4⟩
theorem pd_X4_giveUpHut : (parseMethodDescriptor (mX4_giveUpHut).1.desc).map (fun d => d.parameters.length) = some 1 := by decide +kernel
theorem im_X4_giveUpHut : Cond.instanceMethod yX4_giveUpHut ∈ lw_tbl := List.mem_of_getElem? (i := 444) (by decide +kernel)
theorem se_X4_giveUpHut : Cond.selects yX4_giveUpHut.cls yX4_giveUpHut yX4_giveUpHut ∈ lw_tbl := List.mem_of_getElem? (i := 445) (by decide +kernel)
abbrev mX4_fact : xK := (yX4_fact, cX4_fact, 3, (some .int), 2, 43)
theorem me_X4_fact : xMeth mX4_fact := ⟨List.mem_of_getElem? (i := 456) (by decide +kernel), by decide +kernel, by decide +kernel, by decide +kernel, ini_RX4⟩
theorem pd_X4_fact : (parseMethodDescriptor (mX4_fact).1.desc).map (fun d => d.parameters.length) = some 2 := by decide +kernel
theorem im_X4_fact : Cond.instanceMethod yX4_fact ∈ lw_tbl := List.mem_of_getElem? (i := 454) (by decide +kernel)
theorem se_X4_fact : Cond.selects yX4_fact.cls yX4_fact yX4_fact ∈ lw_tbl := List.mem_of_getElem? (i := 455) (by decide +kernel)
abbrev mX4_lodgedCount : xK := (yX4_lodgedCount, cX4_lodgedCount, 3, (some .int), 1, 21)
theorem me_X4_lodgedCount : xMeth mX4_lodgedCount := ⟨List.mem_of_getElem? (i := 829) (by decide +kernel), by decide +kernel, by decide +kernel, by decide +kernel, ini_RX4⟩
theorem pd_X4_lodgedCount : (parseMethodDescriptor (mX4_lodgedCount).1.desc).map (fun d => d.parameters.length) = some 0 := by decide +kernel
theorem im_X4_lodgedCount : Cond.instanceMethod yX4_lodgedCount ∈ lw_tbl := List.mem_of_getElem? (i := 827) (by decide +kernel)
theorem se_X4_lodgedCount : Cond.selects yX4_lodgedCount.cls yX4_lodgedCount yX4_lodgedCount ∈ lw_tbl := List.mem_of_getElem? (i := 828) (by decide +kernel)
abbrev mX5_add : xK := (yX5_add, cX5_add, 4, (some .int), 1, 22)
theorem me_X5_add : xMeth mX5_add := ⟨List.mem_of_getElem? (i := 737) (by decide +kernel), by decide +kernel, by decide +kernel, by decide +kernel, ini_RX5⟩
theorem pd_X5_add : (parseMethodDescriptor (mX5_add).1.desc).map (fun d => d.parameters.length) = some 3 := by decide +kernel
theorem im_X5_add : Cond.instanceMethod yX5_add ∈ lw_tbl := List.mem_of_getElem? (i := 735) (by decide +kernel)
theorem se_X5_add : Cond.selects yX5_add.cls yX5_add yX5_add ∈ lw_tbl := List.mem_of_getElem? (i := 736) (by decide +kernel)
abbrev mX5_paidBack : xK := (yX5_paidBack, cX5_paidBack, 6, (some .int), 2, 63)
theorem me_X5_paidBack : xMeth mX5_paidBack := ⟨List.mem_of_getElem? (i := 746) (by decide +kernel), by decide +kernel, by decide +kernel, by decide +kernel, ini_RX5⟩
theorem pd_X5_paidBack : (parseMethodDescriptor (mX5_paidBack).1.desc).map (fun d => d.parameters.length) = some 2 := by decide +kernel
theorem im_X5_paidBack : Cond.instanceMethod yX5_paidBack ∈ lw_tbl := List.mem_of_getElem? (i := 744) (by decide +kernel)
theorem se_X5_paidBack : Cond.selects yX5_paidBack.cls yX5_paidBack yX5_paidBack ∈ lw_tbl := List.mem_of_getElem? (i := 745) (by decide +kernel)
abbrev mX5_latestDay : xK := (yX5_latestDay, cX5_latestDay, 4, (some .int), 1, 40)
theorem me_X5_latestDay : xMeth mX5_latestDay := ⟨List.mem_of_getElem? (i := 750) (by decide +kernel), by decide +kernel, by decide +kernel, by decide +kernel, ini_RX5⟩
theorem pd_X5_latestDay : (parseMethodDescriptor (mX5_latestDay).1.desc).map (fun d => d.parameters.length) = some 1 := by decide +kernel
theorem im_X5_latestDay : Cond.instanceMethod yX5_latestDay ∈ lw_tbl := List.mem_of_getElem? (i := 749) (by decide +kernel)
theorem se_X5_latestDay : Cond.selects yX5_latestDay.cls yX5_latestDay yX5_latestDay ∈ lw_tbl := List.mem_of_getElem? (i := 23) (by decide +kernel)
abbrev mX6_has : xK := (yX6_has, cX6_has, 2, (some .boolean), 1, 22)
theorem me_X6_has : xMeth mX6_has := ⟨List.mem_of_getElem? (i := 765) (by decide +kernel), by decide +kernel, by decide +kernel, by decide +kernel, ini_RX6⟩
theorem pd_X6_has : (parseMethodDescriptor (mX6_has).1.desc).map (fun d => d.parameters.length) = some 1 := by decide +kernel
theorem im_X6_has : Cond.instanceMethod yX6_has ∈ lw_tbl := List.mem_of_getElem? (i := 764) (by decide +kernel)
theorem se_X6_has : Cond.selects yX6_has.cls yX6_has yX6_has ∈ lw_tbl := List.mem_of_getElem? (i := 24) (by decide +kernel)
abbrev mX6_find : xK := (yX6_find, cX6_find, 2, (some .int), 0, 0)
theorem me_X6_find : xMeth mX6_find := ⟨List.mem_of_getElem? (i := 770) (by decide +kernel), by decide +kernel, by decide +kernel, by decide +kernel, ini_RX6⟩
theorem pd_X6_find : (parseMethodDescriptor (mX6_find).1.desc).map (fun d => d.parameters.length) = some 1 := by decide +kernel
theorem im_X6_find : Cond.instanceMethod yX6_find ∈ lw_tbl := List.mem_of_getElem? (i := 769) (by decide +kernel)
theorem se_X6_find : Cond.selects yX6_find.cls yX6_find yX6_find ∈ lw_tbl := List.mem_of_getElem? (i := 25) (by decide +kernel)
abbrev mX6_renew : xK := (yX6_renew, cX6_renew, 4, (some .int), 2, 46)
theorem me_X6_renew : xMeth mX6_renew := ⟨List.mem_of_getElem? (i := 761) (by decide +kernel), by decide +kernel, by decide +kernel, by decide +kernel, ini_RX6⟩
theorem pd_X6_renew : (parseMethodDescriptor (mX6_renew).1.desc).map (fun d => d.parameters.length) = some 3 := by decide +kernel
theorem im_X6_renew : Cond.instanceMethod yX6_renew ∈ lw_tbl := List.mem_of_getElem? (i := 759) (by decide +kernel)
theorem se_X6_renew : Cond.selects yX6_renew.cls yX6_renew yX6_renew ∈ lw_tbl := List.mem_of_getElem? (i := 760) (by decide +kernel)
abbrev mX6_drop : xK := (yX6_drop, cX6_drop, 2, (some .int), 2, 43)
theorem me_X6_drop : xMeth mX6_drop := ⟨List.mem_of_getElem? (i := 784) (by decide +kernel), by decide +kernel, by decide +kernel, by decide +kernel, ini_RX6⟩
theorem pd_X6_drop : (parseMethodDescriptor (mX6_drop).1.desc).map (fun d => d.parameters.length) = some 1 := by decide +kernel
theorem im_X6_drop : Cond.instanceMethod yX6_drop ∈ lw_tbl := List.mem_of_getElem? (i := 782) (by decide +kernel)
theorem se_X6_drop : Cond.selects yX6_drop.cls yX6_drop yX6_drop ∈ lw_tbl := List.mem_of_getElem? (i := 783) (by decide +kernel)
abbrev mX6_store : xK := (yX6_store, cX6_store, 6, (some .int), 3, 66)
theorem me_X6_store : xMeth mX6_store := ⟨List.mem_of_getElem? (i := 792) (by decide +kernel), by decide +kernel, by decide +kernel, by decide +kernel, ini_RX6⟩
theorem pd_X6_store : (parseMethodDescriptor (mX6_store).1.desc).map (fun d => d.parameters.length) = some 4 := by decide +kernel
theorem im_X6_store : Cond.instanceMethod yX6_store ∈ lw_tbl := List.mem_of_getElem? (i := 790) (by decide +kernel)
theorem se_X6_store : Cond.selects yX6_store.cls yX6_store yX6_store ∈ lw_tbl := List.mem_of_getElem? (i := 791) (by decide +kernel)
abbrev mX6_read : xK := (yX6_read, cX6_read, 4, (some .int), 3, 66)
theorem me_X6_read : xMeth mX6_read := ⟨List.mem_of_getElem? (i := 807) (by decide +kernel), by decide +kernel, by decide +kernel, by decide +kernel, ini_RX6⟩
theorem pd_X6_read : (parseMethodDescriptor (mX6_read).1.desc).map (fun d => d.parameters.length) = some 3 := by decide +kernel
theorem im_X6_read : Cond.instanceMethod yX6_read ∈ lw_tbl := List.mem_of_getElem? (i := 805) (by decide +kernel)
theorem se_X6_read : Cond.selects yX6_read.cls yX6_read yX6_read ∈ lw_tbl := List.mem_of_getElem? (i := 806) (by decide +kernel)
abbrev mX6_refusal : xK := (yX6_refusal, cX6_refusal, 4, (some .int), 2, 43)
theorem me_X6_refusal : xMeth mX6_refusal := ⟨List.mem_of_getElem? (i := 796) (by decide +kernel), by decide +kernel, by decide +kernel, by decide +kernel, ini_RX6⟩
theorem pd_X6_refusal : (parseMethodDescriptor (mX6_refusal).1.desc).map (fun d => d.parameters.length) = some 3 := by decide +kernel
theorem im_X6_refusal : Cond.instanceMethod yX6_refusal ∈ lw_tbl := List.mem_of_getElem? (i := 795) (by decide +kernel)
theorem se_X6_refusal : Cond.selects yX6_refusal.cls yX6_refusal yX6_refusal ∈ lw_tbl := List.mem_of_getElem? (i := 26) (by decide +kernel)
abbrev mX6_cut : xK := (yX6_cut, cX6_cut, 2, (some .int), 0, 0)
theorem me_X6_cut : xMeth mX6_cut := ⟨List.mem_of_getElem? (i := 799) (by decide +kernel), by decide +kernel, by decide +kernel, by decide +kernel, ini_RX6⟩
theorem pd_X6_cut : (parseMethodDescriptor (mX6_cut).1.desc).map (fun d => d.parameters.length) = some 2 := by decide +kernel
theorem st_X6_cut : Cond.static yX6_cut ∈ lw_tbl := List.mem_of_getElem? (i := 798) (by decide +kernel)
abbrev mX6_transfer : xK := (yX6_transfer, cX6_transfer, 6, (some .int), 2, 43)
theorem me_X6_transfer : xMeth mX6_transfer := ⟨List.mem_of_getElem? (i := 816) (by decide +kernel), by decide +kernel, by decide +kernel, by decide +kernel, ini_RX6⟩
theorem pd_X6_transfer : (parseMethodDescriptor (mX6_transfer).1.desc).map (fun d => d.parameters.length) = some 5 := by decide +kernel
theorem im_X6_transfer : Cond.instanceMethod yX6_transfer ∈ lw_tbl := List.mem_of_getElem? (i := 814) (by decide +kernel)
theorem se_X6_transfer : Cond.selects yX6_transfer.cls yX6_transfer yX6_transfer ∈ lw_tbl := List.mem_of_getElem? (i := 815) (by decide +kernel)
abbrev mX6_hasItems : xK := (yX6_hasItems, cX6_hasItems, 4, (some .boolean), 0, 0)
theorem me_X6_hasItems : xMeth mX6_hasItems := ⟨List.mem_of_getElem? (i := 820) (by decide +kernel), by decide +kernel, by decide +kernel, by decide +kernel, ini_RX6⟩
theorem pd_X6_hasItems : (parseMethodDescriptor (mX6_hasItems).1.desc).map (fun d => d.parameters.length) = some 3 := by decide +kernel
theorem im_X6_hasItems : Cond.instanceMethod yX6_hasItems ∈ lw_tbl := List.mem_of_getElem? (i := 819) (by decide +kernel)
theorem se_X6_hasItems : Cond.selects yX6_hasItems.cls yX6_hasItems yX6_hasItems ∈ lw_tbl := List.mem_of_getElem? (i := 27) (by decide +kernel)
abbrev mX6_countsAsWet : xK := (yX6_countsAsWet, cX6_countsAsWet, 3, (some .boolean), 1, 21)
theorem me_X6_countsAsWet : xMeth mX6_countsAsWet := ⟨List.mem_of_getElem? (i := 629) (by decide +kernel), by decide +kernel, by decide +kernel, by decide +kernel, ini_RX6⟩
theorem pd_X6_countsAsWet : (parseMethodDescriptor (mX6_countsAsWet).1.desc).map (fun d => d.parameters.length) = some 1 := by decide +kernel
theorem im_X6_countsAsWet : Cond.instanceMethod yX6_countsAsWet ∈ lw_tbl := List.mem_of_getElem? (i := 627) (by decide +kernel)
theorem se_X6_countsAsWet : Cond.selects yX6_countsAsWet.cls yX6_countsAsWet yX6_countsAsWet ∈ lw_tbl := List.mem_of_getElem? (i := 628) (by decide +kernel)
abbrev mX6_isWet : xK := (yX6_isWet, cX6_isWet, 2, (some .boolean), 0, 0)
theorem me_X6_isWet : xMeth mX6_isWet := ⟨List.mem_of_getElem? (i := 633) (by decide +kernel), by decide +kernel, by decide +kernel, by decide +kernel, ini_RX6⟩
theorem pd_X6_isWet : (parseMethodDescriptor (mX6_isWet).1.desc).map (fun d => d.parameters.length) = some 1 := by decide +kernel
theorem im_X6_isWet : Cond.instanceMethod yX6_isWet ∈ lw_tbl := List.mem_of_getElem? (i := 632) (by decide +kernel)
theorem se_X6_isWet : Cond.selects yX6_isWet.cls yX6_isWet yX6_isWet ∈ lw_tbl := List.mem_of_getElem? (i := 17) (by decide +kernel)
abbrev mX7_has : xK := (yX7_has, cX7_has, 2, (some .boolean), 1, 22)
theorem me_X7_has : xMeth mX7_has := ⟨List.mem_of_getElem? (i := 616) (by decide +kernel), by decide +kernel, by decide +kernel, by decide +kernel, ini_RX7⟩
theorem pd_X7_has : (parseMethodDescriptor (mX7_has).1.desc).map (fun d => d.parameters.length) = some 1 := by decide +kernel
theorem im_X7_has : Cond.instanceMethod yX7_has ∈ lw_tbl := List.mem_of_getElem? (i := 614) (by decide +kernel)
theorem se_X7_has : Cond.selects yX7_has.cls yX7_has yX7_has ∈ lw_tbl := List.mem_of_getElem? (i := 615) (by decide +kernel)
abbrev mX7_setRoom : xK := (yX7_setRoom, cX7_setRoom, 4, (some .int), 1, 22)
theorem me_X7_setRoom : xMeth mX7_setRoom := ⟨List.mem_of_getElem? (i := 592) (by decide +kernel), by decide +kernel, by decide +kernel, by decide +kernel, ini_RX7⟩
theorem pd_X7_setRoom : (parseMethodDescriptor (mX7_setRoom).1.desc).map (fun d => d.parameters.length) = some 2 := by decide +kernel
theorem im_X7_setRoom : Cond.instanceMethod yX7_setRoom ∈ lw_tbl := List.mem_of_getElem? (i := 590) (by decide +kernel)
theorem se_X7_setRoom : Cond.selects yX7_setRoom.cls yX7_setRoom yX7_setRoom ∈ lw_tbl := List.mem_of_getElem? (i := 591) (by decide +kernel)
abbrev mX7_add : xK := (yX7_add, cX7_add, 4, (some .int), 2, 42)
theorem me_X7_add : xMeth mX7_add := ⟨List.mem_of_getElem? (i := 601) (by decide +kernel), by decide +kernel, by decide +kernel, by decide +kernel, ini_RX7⟩
theorem pd_X7_add : (parseMethodDescriptor (mX7_add).1.desc).map (fun d => d.parameters.length) = some 3 := by decide +kernel
theorem im_X7_add : Cond.instanceMethod yX7_add ∈ lw_tbl := List.mem_of_getElem? (i := 599) (by decide +kernel)
theorem se_X7_add : Cond.selects yX7_add.cls yX7_add yX7_add ∈ lw_tbl := List.mem_of_getElem? (i := 600) (by decide +kernel)
abbrev mX7_addWish : xK := (yX7_addWish, cX7_addWish, 3, (some .int), 2, 43)
theorem me_X7_addWish : xMeth mX7_addWish := ⟨List.mem_of_getElem? (i := 612) (by decide +kernel), by decide +kernel, by decide +kernel, by decide +kernel, ini_RX7⟩
theorem pd_X7_addWish : (parseMethodDescriptor (mX7_addWish).1.desc).map (fun d => d.parameters.length) = some 2 := by decide +kernel
theorem im_X7_addWish : Cond.instanceMethod yX7_addWish ∈ lw_tbl := List.mem_of_getElem? (i := 610) (by decide +kernel)
theorem se_X7_addWish : Cond.selects yX7_addWish.cls yX7_addWish yX7_addWish ∈ lw_tbl := List.mem_of_getElem? (i := 611) (by decide +kernel)
abbrev mX7_isWished : xK := (yX7_isWished, cX7_isWished, 4, (some .boolean), 0, 0)
theorem me_X7_isWished : xMeth mX7_isWished := ⟨List.mem_of_getElem? (i := 620) (by decide +kernel), by decide +kernel, by decide +kernel, by decide +kernel, ini_RX7⟩
theorem pd_X7_isWished : (parseMethodDescriptor (mX7_isWished).1.desc).map (fun d => d.parameters.length) = some 2 := by decide +kernel
theorem im_X7_isWished : Cond.instanceMethod yX7_isWished ∈ lw_tbl := List.mem_of_getElem? (i := 619) (by decide +kernel)
theorem se_X7_isWished : Cond.selects yX7_isWished.cls yX7_isWished yX7_isWished ∈ lw_tbl := List.mem_of_getElem? (i := 16) (by decide +kernel)
abbrev mX7_place : xK := (yX7_place, cX7_place, 3, (some .int), 0, 0)
theorem me_X7_place : xMeth mX7_place := ⟨List.mem_of_getElem? (i := 642) (by decide +kernel), by decide +kernel, by decide +kernel, by decide +kernel, ini_RX7⟩
theorem pd_X7_place : (parseMethodDescriptor (mX7_place).1.desc).map (fun d => d.parameters.length) = some 2 := by decide +kernel
theorem im_X7_place : Cond.instanceMethod yX7_place ∈ lw_tbl := List.mem_of_getElem? (i := 640) (by decide +kernel)
theorem se_X7_place : Cond.selects yX7_place.cls yX7_place yX7_place ∈ lw_tbl := List.mem_of_getElem? (i := 641) (by decide +kernel)
abbrev mX7_send : xK := (yX7_send, cX7_send, 6, none, 2, 49)
theorem me_X7_send : xMeth mX7_send := ⟨List.mem_of_getElem? (i := 650) (by decide +kernel), by decide +kernel, by decide +kernel, by decide +kernel, ini_RX7⟩
theorem pd_X7_send : (parseMethodDescriptor (mX7_send).1.desc).map (fun d => d.parameters.length) = some 4 := by decide +kernel
theorem im_X7_send : Cond.instanceMethod yX7_send ∈ lw_tbl := List.mem_of_getElem? (i := 648) (by decide +kernel)
theorem se_X7_send : Cond.selects yX7_send.cls yX7_send yX7_send ∈ lw_tbl := List.mem_of_getElem? (i := 649) (by decide +kernel)
abbrev mX7_sendParty : xK := (yX7_sendParty, cX7_sendParty, 8, none, 1, 22)
theorem me_X7_sendParty : xMeth mX7_sendParty := ⟨List.mem_of_getElem? (i := 658) (by decide +kernel), by decide +kernel, by decide +kernel, by decide +kernel, ini_RX7⟩
theorem pd_X7_sendParty : (parseMethodDescriptor (mX7_sendParty).1.desc).map (fun d => d.parameters.length) = some 4 := by decide +kernel
theorem im_X7_sendParty : Cond.instanceMethod yX7_sendParty ∈ lw_tbl := List.mem_of_getElem? (i := 657) (by decide +kernel)
theorem se_X7_sendParty : Cond.selects yX7_sendParty.cls yX7_sendParty yX7_sendParty ∈ lw_tbl := List.mem_of_getElem? (i := 18) (by decide +kernel)
abbrev mX7_peopleIn : xK := (yX7_peopleIn, cX7_peopleIn, 5, (some .int), 0, 0)
theorem me_X7_peopleIn : xMeth mX7_peopleIn := ⟨List.mem_of_getElem? (i := 671) (by decide +kernel), by decide +kernel, by decide +kernel, by decide +kernel, ini_RX7⟩
theorem pd_X7_peopleIn : (parseMethodDescriptor (mX7_peopleIn).1.desc).map (fun d => d.parameters.length) = some 2 := by decide +kernel
theorem im_X7_peopleIn : Cond.instanceMethod yX7_peopleIn ∈ lw_tbl := List.mem_of_getElem? (i := 669) (by decide +kernel)
theorem se_X7_peopleIn : Cond.selects yX7_peopleIn.cls yX7_peopleIn yX7_peopleIn ∈ lw_tbl := List.mem_of_getElem? (i := 670) (by decide +kernel)
abbrev mX8_setSeats : xK := (yX8_setSeats, cX8_setSeats, 3, (some .int), 1, 22)
theorem me_X8_setSeats : xMeth mX8_setSeats := ⟨List.mem_of_getElem? (i := 493) (by decide +kernel), by decide +kernel, by decide +kernel, by decide +kernel, ini_RX8⟩
theorem pd_X8_setSeats : (parseMethodDescriptor (mX8_setSeats).1.desc).map (fun d => d.parameters.length) = some 2 := by decide +kernel
theorem im_X8_setSeats : Cond.instanceMethod yX8_setSeats ∈ lw_tbl := List.mem_of_getElem? (i := 491) (by decide +kernel)
theorem se_X8_setSeats : Cond.selects yX8_setSeats.cls yX8_setSeats yX8_setSeats ∈ lw_tbl := List.mem_of_getElem? (i := 492) (by decide +kernel)
abbrev mX8_arrange : xK := (yX8_arrange, cX8_arrange, 3, none, 4, 89)
theorem me_X8_arrange : xMeth mX8_arrange := ⟨List.mem_of_getElem? (i := 503) (by decide +kernel), by decide +kernel, by decide +kernel, by decide +kernel, ini_RX8⟩
theorem pd_X8_arrange : (parseMethodDescriptor (mX8_arrange).1.desc).map (fun d => d.parameters.length) = some 2 := by decide +kernel
theorem im_X8_arrange : Cond.instanceMethod yX8_arrange ∈ lw_tbl := List.mem_of_getElem? (i := 501) (by decide +kernel)
theorem se_X8_arrange : Cond.selects yX8_arrange.cls yX8_arrange yX8_arrange ∈ lw_tbl := List.mem_of_getElem? (i := 502) (by decide +kernel)
abbrev mX8_fillBenches : xK := (yX8_fillBenches, cX8_fillBenches, 5, none, 2, 44)
theorem me_X8_fillBenches : xMeth mX8_fillBenches := ⟨List.mem_of_getElem? (i := 507) (by decide +kernel), by decide +kernel, by decide +kernel, by decide +kernel, ini_RX8⟩
theorem pd_X8_fillBenches : (parseMethodDescriptor (mX8_fillBenches).1.desc).map (fun d => d.parameters.length) = some 2 := by decide +kernel
theorem im_X8_fillBenches : Cond.instanceMethod yX8_fillBenches ∈ lw_tbl := List.mem_of_getElem? (i := 506) (by decide +kernel)
theorem se_X8_fillBenches : Cond.selects yX8_fillBenches.cls yX8_fillBenches yX8_fillBenches ∈ lw_tbl := List.mem_of_getElem? (i := 8) (by decide +kernel)
abbrev mX8_benchFor : xK := (yX8_benchFor, cX8_benchFor, 3, (some .int), 0, 0)
theorem me_X8_benchFor : xMeth mX8_benchFor := ⟨List.mem_of_getElem? (i := 513) (by decide +kernel), by decide +kernel, by decide +kernel, by decide +kernel, ini_RX8⟩
theorem pd_X8_benchFor : (parseMethodDescriptor (mX8_benchFor).1.desc).map (fun d => d.parameters.length) = some 1 := by decide +kernel
theorem im_X8_benchFor : Cond.instanceMethod yX8_benchFor ∈ lw_tbl := List.mem_of_getElem? (i := 512) (by decide +kernel)
theorem se_X8_benchFor : Cond.selects yX8_benchFor.cls yX8_benchFor yX8_benchFor ∈ lw_tbl := List.mem_of_getElem? (i := 9) (by decide +kernel)
abbrev mX8_findNumbers : xK := (yX8_findNumbers, cX8_findNumbers, 5, none, 1, 23)
theorem me_X8_findNumbers : xMeth mX8_findNumbers := ⟨List.mem_of_getElem? (i := 517) (by decide +kernel), by decide +kernel, by decide +kernel, by decide +kernel, ini_RX8⟩
theorem pd_X8_findNumbers : (parseMethodDescriptor (mX8_findNumbers).1.desc).map (fun d => d.parameters.length) = some 0 := by decide +kernel
theorem im_X8_findNumbers : Cond.instanceMethod yX8_findNumbers ∈ lw_tbl := List.mem_of_getElem? (i := 516) (by decide +kernel)
theorem se_X8_findNumbers : Cond.selects yX8_findNumbers.cls yX8_findNumbers yX8_findNumbers ∈ lw_tbl := List.mem_of_getElem? (i := 10) (by decide +kernel)
abbrev mX8_findDifference : xK := (yX8_findDifference, cX8_findDifference, 3, none, 1, 40)
theorem me_X8_findDifference : xMeth mX8_findDifference := ⟨List.mem_of_getElem? (i := 521) (by decide +kernel), by decide +kernel, by decide +kernel, by decide +kernel, ini_RX8⟩
theorem pd_X8_findDifference : (parseMethodDescriptor (mX8_findDifference).1.desc).map (fun d => d.parameters.length) = some 0 := by decide +kernel
theorem im_X8_findDifference : Cond.instanceMethod yX8_findDifference ∈ lw_tbl := List.mem_of_getElem? (i := 520) (by decide +kernel)
theorem se_X8_findDifference : Cond.selects yX8_findDifference.cls yX8_findDifference yX8_findDifference ∈ lw_tbl := List.mem_of_getElem? (i := 11) (by decide +kernel)
abbrev mX8_isWay : xK := (yX8_isWay, cX8_isWay, 2, (some .boolean), 0, 0)
theorem me_X8_isWay : xMeth mX8_isWay := ⟨List.mem_of_getElem? (i := 528) (by decide +kernel), by decide +kernel, by decide +kernel, by decide +kernel, ini_RX8⟩
theorem pd_X8_isWay : (parseMethodDescriptor (mX8_isWay).1.desc).map (fun d => d.parameters.length) = some 1 := by decide +kernel
theorem im_X8_isWay : Cond.instanceMethod yX8_isWay ∈ lw_tbl := List.mem_of_getElem? (i := 527) (by decide +kernel)
theorem se_X8_isWay : Cond.selects yX8_isWay.cls yX8_isWay yX8_isWay ∈ lw_tbl := List.mem_of_getElem? (i := 12) (by decide +kernel)
abbrev mX8_partBenches : xK := (yX8_partBenches, cX8_partBenches, 4, none, 3, 66)
theorem me_X8_partBenches : xMeth mX8_partBenches := ⟨List.mem_of_getElem? (i := 532) (by decide +kernel), by decide +kernel, by decide +kernel, by decide +kernel, ini_RX8⟩
theorem pd_X8_partBenches : (parseMethodDescriptor (mX8_partBenches).1.desc).map (fun d => d.parameters.length) = some 0 := by decide +kernel
theorem im_X8_partBenches : Cond.instanceMethod yX8_partBenches ∈ lw_tbl := List.mem_of_getElem? (i := 531) (by decide +kernel)
theorem se_X8_partBenches : Cond.selects yX8_partBenches.cls yX8_partBenches yX8_partBenches ∈ lw_tbl := List.mem_of_getElem? (i := 13) (by decide +kernel)
abbrev mX8_leadsToBest : xK := (yX8_leadsToBest, cX8_leadsToBest, 3, (some .boolean), 2, 44)
theorem me_X8_leadsToBest : xMeth mX8_leadsToBest := ⟨List.mem_of_getElem? (i := 536) (by decide +kernel), by decide +kernel, by decide +kernel, by decide +kernel, ini_RX8⟩
theorem pd_X8_leadsToBest : (parseMethodDescriptor (mX8_leadsToBest).1.desc).map (fun d => d.parameters.length) = some 2 := by decide +kernel
theorem im_X8_leadsToBest : Cond.instanceMethod yX8_leadsToBest ∈ lw_tbl := List.mem_of_getElem? (i := 535) (by decide +kernel)
theorem se_X8_leadsToBest : Cond.selects yX8_leadsToBest.cls yX8_leadsToBest yX8_leadsToBest ∈ lw_tbl := List.mem_of_getElem? (i := 14) (by decide +kernel)
abbrev mX8_canBecome : xK := (yX8_canBecome, cX8_canBecome, 4, (some .boolean), 1, 21)
theorem me_X8_canBecome : xMeth mX8_canBecome := ⟨List.mem_of_getElem? (i := 540) (by decide +kernel), by decide +kernel, by decide +kernel, by decide +kernel, ini_RX8⟩
theorem pd_X8_canBecome : (parseMethodDescriptor (mX8_canBecome).1.desc).map (fun d => d.parameters.length) = some 3 := by decide +kernel
theorem im_X8_canBecome : Cond.instanceMethod yX8_canBecome ∈ lw_tbl := List.mem_of_getElem? (i := 539) (by decide +kernel)
theorem se_X8_canBecome : Cond.selects yX8_canBecome.cls yX8_canBecome yX8_canBecome ∈ lw_tbl := List.mem_of_getElem? (i := 15) (by decide +kernel)
abbrev mX8_sittingOf : xK := (yX8_sittingOf, cX8_sittingOf, 2, (some .int), 0, 0)
theorem me_X8_sittingOf : xMeth mX8_sittingOf := ⟨List.mem_of_getElem? (i := 549) (by decide +kernel), by decide +kernel, by decide +kernel, by decide +kernel, ini_RX8⟩
theorem pd_X8_sittingOf : (parseMethodDescriptor (mX8_sittingOf).1.desc).map (fun d => d.parameters.length) = some 1 := by decide +kernel
theorem im_X8_sittingOf : Cond.instanceMethod yX8_sittingOf ∈ lw_tbl := List.mem_of_getElem? (i := 547) (by decide +kernel)
theorem se_X8_sittingOf : Cond.selects yX8_sittingOf.cls yX8_sittingOf yX8_sittingOf ∈ lw_tbl := List.mem_of_getElem? (i := 548) (by decide +kernel)
abbrev mX8_dinners : xK := (yX8_dinners, cX8_dinners, 6, (some .int), 1, 21)
theorem me_X8_dinners : xMeth mX8_dinners := ⟨List.mem_of_getElem? (i := 566) (by decide +kernel), by decide +kernel, by decide +kernel, by decide +kernel, ini_RX8⟩
theorem pd_X8_dinners : (parseMethodDescriptor (mX8_dinners).1.desc).map (fun d => d.parameters.length) = some 2 := by decide +kernel
theorem im_X8_dinners : Cond.instanceMethod yX8_dinners ∈ lw_tbl := List.mem_of_getElem? (i := 564) (by decide +kernel)
theorem se_X8_dinners : Cond.selects yX8_dinners.cls yX8_dinners yX8_dinners ∈ lw_tbl := List.mem_of_getElem? (i := 565) (by decide +kernel)
abbrev mX9_hut : xK := (yX9_hut, cX9_hut, 3, (some .int), 2, 44)
theorem me_X9_hut : xMeth mX9_hut := ⟨List.mem_of_getElem? (i := 349) (by decide +kernel), by decide +kernel, by decide +kernel, by decide +kernel, ini_RX9⟩
theorem pd_X9_hut : (parseMethodDescriptor (mX9_hut).1.desc).map (fun d => d.parameters.length) = some 2 := by decide +kernel
theorem im_X9_hut : Cond.instanceMethod yX9_hut ∈ lw_tbl := List.mem_of_getElem? (i := 347) (by decide +kernel)
theorem se_X9_hut : Cond.selects yX9_hut.cls yX9_hut yX9_hut ∈ lw_tbl := List.mem_of_getElem? (i := 348) (by decide +kernel)
abbrev mX9_party : xK := (yX9_party, cX9_party, 6, (some .int), 3, 67)
theorem me_X9_party : xMeth mX9_party := ⟨List.mem_of_getElem? (i := 360) (by decide +kernel), by decide +kernel, by decide +kernel, by decide +kernel, ini_RX9⟩
theorem pd_X9_party : (parseMethodDescriptor (mX9_party).1.desc).map (fun d => d.parameters.length) = some 5 := by decide +kernel
theorem im_X9_party : Cond.instanceMethod yX9_party ∈ lw_tbl := List.mem_of_getElem? (i := 358) (by decide +kernel)
theorem se_X9_party : Cond.selects yX9_party.cls yX9_party yX9_party ∈ lw_tbl := List.mem_of_getElem? (i := 359) (by decide +kernel)
abbrev mX9_tell : xK := (yX9_tell, cX9_tell, 4, (some .int), 3, 68)
theorem me_X9_tell : xMeth mX9_tell := ⟨List.mem_of_getElem? (i := 373) (by decide +kernel), by decide +kernel, by decide +kernel, by decide +kernel, ini_RX9⟩
theorem pd_X9_tell : (parseMethodDescriptor (mX9_tell).1.desc).map (fun d => d.parameters.length) = some 3 := by decide +kernel
theorem im_X9_tell : Cond.instanceMethod yX9_tell ∈ lw_tbl := List.mem_of_getElem? (i := 371) (by decide +kernel)
theorem se_X9_tell : Cond.selects yX9_tell.cls yX9_tell yX9_tell ∈ lw_tbl := List.mem_of_getElem? (i := 372) (by decide +kernel)
abbrev mX9_lodge : xK := (yX9_lodge, cX9_lodge, 2, (some .int), 6, 141)
theorem me_X9_lodge : xMeth mX9_lodge := ⟨List.mem_of_getElem? (i := 406) (by decide +kernel), by decide +kernel, by decide +kernel, by decide +kernel, ini_RX9⟩
theorem pd_X9_lodge : (parseMethodDescriptor (mX9_lodge).1.desc).map (fun d => d.parameters.length) = some 1 := by decide +kernel
theorem im_X9_lodge : Cond.instanceMethod yX9_lodge ∈ lw_tbl := List.mem_of_getElem? (i := 404) (by decide +kernel)
theorem se_X9_lodge : Cond.selects yX9_lodge.cls yX9_lodge yX9_lodge ∈ lw_tbl := List.mem_of_getElem? (i := 405) (by decide +kernel)
abbrev mX9_moved : xK := (yX9_moved, cX9_moved, 1, (some .int), 0, 0)
theorem me_X9_moved : xMeth mX9_moved := ⟨List.mem_of_getElem? (i := 438) (by decide +kernel), by decide +kernel, by decide +kernel, by decide +kernel, ini_RX9⟩
theorem pd_X9_moved : (parseMethodDescriptor (mX9_moved).1.desc).map (fun d => d.parameters.length) = some 0 := by decide +kernel
theorem im_X9_moved : Cond.instanceMethod yX9_moved ∈ lw_tbl := List.mem_of_getElem? (i := 436) (by decide +kernel)
theorem se_X9_moved : Cond.selects yX9_moved.cls yX9_moved yX9_moved ∈ lw_tbl := List.mem_of_getElem? (i := 437) (by decide +kernel)
abbrev mX9_leave : xK := (yX9_leave, cX9_leave, 2, (some .int), 3, 65)
theorem me_X9_leave : xMeth mX9_leave := ⟨List.mem_of_getElem? (i := 442) (by decide +kernel), by decide +kernel, by decide +kernel, by decide +kernel, ini_RX9⟩
theorem pd_X9_leave : (parseMethodDescriptor (mX9_leave).1.desc).map (fun d => d.parameters.length) = some 1 := by decide +kernel
theorem im_X9_leave : Cond.instanceMethod yX9_leave ∈ lw_tbl := List.mem_of_getElem? (i := 440) (by decide +kernel)
theorem se_X9_leave : Cond.selects yX9_leave.cls yX9_leave yX9_leave ∈ lw_tbl := List.mem_of_getElem? (i := 441) (by decide +kernel)
abbrev mX9_about : xK := (yX9_about, cX9_about, 3, (some .int), 3, 65)
theorem me_X9_about : xMeth mX9_about := ⟨List.mem_of_getElem? (i := 452) (by decide +kernel), by decide +kernel, by decide +kernel, by decide +kernel, ini_RX9⟩
theorem pd_X9_about : (parseMethodDescriptor (mX9_about).1.desc).map (fun d => d.parameters.length) = some 2 := by decide +kernel
theorem im_X9_about : Cond.instanceMethod yX9_about ∈ lw_tbl := List.mem_of_getElem? (i := 450) (by decide +kernel)
theorem se_X9_about : Cond.selects yX9_about.cls yX9_about yX9_about ∈ lw_tbl := List.mem_of_getElem? (i := 451) (by decide +kernel)
abbrev mX9_in : xK := (yX9_in, cX9_in, 3, (some .int), 4, 89)
theorem me_X9_in : xMeth mX9_in := ⟨List.mem_of_getElem? (i := 460) (by decide +kernel), by decide +kernel, by decide +kernel, by decide +kernel, ini_RX9⟩
theorem pd_X9_in : (parseMethodDescriptor (mX9_in).1.desc).map (fun d => d.parameters.length) = some 2 := by decide +kernel
theorem im_X9_in : Cond.instanceMethod yX9_in ∈ lw_tbl := List.mem_of_getElem? (i := 458) (by decide +kernel)
theorem se_X9_in : Cond.selects yX9_in.cls yX9_in yX9_in ∈ lw_tbl := List.mem_of_getElem? (i := 459) (by decide +kernel)
abbrev mX9_empty : xK := (yX9_empty, cX9_empty, 2, (some .int), 4, 90)
theorem me_X9_empty : xMeth mX9_empty := ⟨List.mem_of_getElem? (i := 481) (by decide +kernel), by decide +kernel, by decide +kernel, by decide +kernel, ini_RX9⟩
theorem pd_X9_empty : (parseMethodDescriptor (mX9_empty).1.desc).map (fun d => d.parameters.length) = some 1 := by decide +kernel
theorem im_X9_empty : Cond.instanceMethod yX9_empty ∈ lw_tbl := List.mem_of_getElem? (i := 479) (by decide +kernel)
theorem se_X9_empty : Cond.selects yX9_empty.cls yX9_empty yX9_empty ∈ lw_tbl := List.mem_of_getElem? (i := 480) (by decide +kernel)
abbrev mX9_seats : xK := (yX9_seats, cX9_seats, 3, (some .int), 2, 44)
theorem me_X9_seats : xMeth mX9_seats := ⟨List.mem_of_getElem? (i := 489) (by decide +kernel), by decide +kernel, by decide +kernel, by decide +kernel, ini_RX9⟩
theorem pd_X9_seats : (parseMethodDescriptor (mX9_seats).1.desc).map (fun d => d.parameters.length) = some 2 := by decide +kernel
theorem im_X9_seats : Cond.instanceMethod yX9_seats ∈ lw_tbl := List.mem_of_getElem? (i := 487) (by decide +kernel)
theorem se_X9_seats : Cond.selects yX9_seats.cls yX9_seats yX9_seats ∈ lw_tbl := List.mem_of_getElem? (i := 488) (by decide +kernel)
abbrev mX9_apart : xK := (yX9_apart, cX9_apart, 2, (some .int), 5, 111)
theorem me_X9_apart : xMeth mX9_apart := ⟨List.mem_of_getElem? (i := 498) (by decide +kernel), by decide +kernel, by decide +kernel, by decide +kernel, ini_RX9⟩
theorem pd_X9_apart : (parseMethodDescriptor (mX9_apart).1.desc).map (fun d => d.parameters.length) = some 1 := by decide +kernel
theorem im_X9_apart : Cond.instanceMethod yX9_apart ∈ lw_tbl := List.mem_of_getElem? (i := 496) (by decide +kernel)
theorem se_X9_apart : Cond.selects yX9_apart.cls yX9_apart yX9_apart ∈ lw_tbl := List.mem_of_getElem? (i := 497) (by decide +kernel)
abbrev mX9_sits : xK := (yX9_sits, cX9_sits, 3, (some .int), 5, 111)
theorem me_X9_sits : xMeth mX9_sits := ⟨List.mem_of_getElem? (i := 544) (by decide +kernel), by decide +kernel, by decide +kernel, by decide +kernel, ini_RX9⟩
theorem pd_X9_sits : (parseMethodDescriptor (mX9_sits).1.desc).map (fun d => d.parameters.length) = some 2 := by decide +kernel
theorem im_X9_sits : Cond.instanceMethod yX9_sits ∈ lw_tbl := List.mem_of_getElem? (i := 542) (by decide +kernel)
theorem se_X9_sits : Cond.selects yX9_sits.cls yX9_sits yX9_sits ∈ lw_tbl := List.mem_of_getElem? (i := 543) (by decide +kernel)
abbrev mX9_more : xK := (yX9_more, cX9_more, 2, (some .int), 2, 44)
theorem me_X9_more : xMeth mX9_more := ⟨List.mem_of_getElem? (i := 553) (by decide +kernel), by decide +kernel, by decide +kernel, by decide +kernel, ini_RX9⟩
theorem pd_X9_more : (parseMethodDescriptor (mX9_more).1.desc).map (fun d => d.parameters.length) = some 1 := by decide +kernel
theorem im_X9_more : Cond.instanceMethod yX9_more ∈ lw_tbl := List.mem_of_getElem? (i := 551) (by decide +kernel)
theorem se_X9_more : Cond.selects yX9_more.cls yX9_more yX9_more ∈ lw_tbl := List.mem_of_getElem? (i := 552) (by decide +kernel)
abbrev mX9_foretell : xK := (yX9_foretell, cX9_foretell, 3, (some .int), 5, 111)
theorem me_X9_foretell : xMeth mX9_foretell := ⟨List.mem_of_getElem? (i := 562) (by decide +kernel), by decide +kernel, by decide +kernel, by decide +kernel, ini_RX9⟩
theorem pd_X9_foretell : (parseMethodDescriptor (mX9_foretell).1.desc).map (fun d => d.parameters.length) = some 2 := by decide +kernel
theorem im_X9_foretell : Cond.instanceMethod yX9_foretell ∈ lw_tbl := List.mem_of_getElem? (i := 560) (by decide +kernel)
theorem se_X9_foretell : Cond.selects yX9_foretell.cls yX9_foretell yX9_foretell ∈ lw_tbl := List.mem_of_getElem? (i := 561) (by decide +kernel)
abbrev mX9_cook : xK := (yX9_cook, cX9_cook, 5, (some .int), 6, 133)
theorem me_X9_cook : xMeth mX9_cook := ⟨List.mem_of_getElem? (i := 571) (by decide +kernel), by decide +kernel, by decide +kernel, by decide +kernel, ini_RX9⟩
theorem pd_X9_cook : (parseMethodDescriptor (mX9_cook).1.desc).map (fun d => d.parameters.length) = some 3 := by decide +kernel
theorem im_X9_cook : Cond.instanceMethod yX9_cook ∈ lw_tbl := List.mem_of_getElem? (i := 569) (by decide +kernel)
theorem se_X9_cook : Cond.selects yX9_cook.cls yX9_cook yX9_cook ∈ lw_tbl := List.mem_of_getElem? (i := 570) (by decide +kernel)
abbrev mX9_line : xK := (yX9_line, cX9_line, 3, (some .int), 2, 44)
theorem me_X9_line : xMeth mX9_line := ⟨List.mem_of_getElem? (i := 580) (by decide +kernel), by decide +kernel, by decide +kernel, by decide +kernel, ini_RX9⟩
theorem pd_X9_line : (parseMethodDescriptor (mX9_line).1.desc).map (fun d => d.parameters.length) = some 2 := by decide +kernel
theorem im_X9_line : Cond.instanceMethod yX9_line ∈ lw_tbl := List.mem_of_getElem? (i := 578) (by decide +kernel)
theorem se_X9_line : Cond.selects yX9_line.cls yX9_line yX9_line ∈ lw_tbl := List.mem_of_getElem? (i := 579) (by decide +kernel)
abbrev mX9_hall : xK := (yX9_hall, cX9_hall, 3, (some .int), 2, 45)
theorem me_X9_hall : xMeth mX9_hall := ⟨List.mem_of_getElem? (i := 588) (by decide +kernel), by decide +kernel, by decide +kernel, by decide +kernel, ini_RX9⟩
theorem pd_X9_hall : (parseMethodDescriptor (mX9_hall).1.desc).map (fun d => d.parameters.length) = some 2 := by decide +kernel
theorem im_X9_hall : Cond.instanceMethod yX9_hall ∈ lw_tbl := List.mem_of_getElem? (i := 586) (by decide +kernel)
theorem se_X9_hall : Cond.selects yX9_hall.cls yX9_hall yX9_hall ∈ lw_tbl := List.mem_of_getElem? (i := 587) (by decide +kernel)
abbrev mX9_show : xK := (yX9_show, cX9_show, 4, (some .int), 3, 65)
theorem me_X9_show : xMeth mX9_show := ⟨List.mem_of_getElem? (i := 597) (by decide +kernel), by decide +kernel, by decide +kernel, by decide +kernel, ini_RX9⟩
theorem pd_X9_show : (parseMethodDescriptor (mX9_show).1.desc).map (fun d => d.parameters.length) = some 3 := by decide +kernel
theorem im_X9_show : Cond.instanceMethod yX9_show ∈ lw_tbl := List.mem_of_getElem? (i := 595) (by decide +kernel)
theorem se_X9_show : Cond.selects yX9_show.cls yX9_show yX9_show ∈ lw_tbl := List.mem_of_getElem? (i := 596) (by decide +kernel)
abbrev mX9_wish : xK := (yX9_wish, cX9_wish, 3, (some .int), 3, 65)
theorem me_X9_wish : xMeth mX9_wish := ⟨List.mem_of_getElem? (i := 608) (by decide +kernel), by decide +kernel, by decide +kernel, by decide +kernel, ini_RX9⟩
theorem pd_X9_wish : (parseMethodDescriptor (mX9_wish).1.desc).map (fun d => d.parameters.length) = some 2 := by decide +kernel
theorem im_X9_wish : Cond.instanceMethod yX9_wish ∈ lw_tbl := List.mem_of_getElem? (i := 606) (by decide +kernel)
theorem se_X9_wish : Cond.selects yX9_wish.cls yX9_wish yX9_wish ∈ lw_tbl := List.mem_of_getElem? (i := 607) (by decide +kernel)
abbrev mX9_wet : xK := (yX9_wet, cX9_wet, 2, (some .int), 2, 43)
theorem me_X9_wet : xMeth mX9_wet := ⟨List.mem_of_getElem? (i := 624) (by decide +kernel), by decide +kernel, by decide +kernel, by decide +kernel, ini_RX9⟩
theorem pd_X9_wet : (parseMethodDescriptor (mX9_wet).1.desc).map (fun d => d.parameters.length) = some 1 := by decide +kernel
theorem im_X9_wet : Cond.instanceMethod yX9_wet ∈ lw_tbl := List.mem_of_getElem? (i := 622) (by decide +kernel)
theorem se_X9_wet : Cond.selects yX9_wet.cls yX9_wet yX9_wet ∈ lw_tbl := List.mem_of_getElem? (i := 623) (by decide +kernel)
abbrev mX9_where : xK := (yX9_where, cX9_where, 2, (some .int), 2, 43)
theorem me_X9_where : xMeth mX9_where := ⟨List.mem_of_getElem? (i := 637) (by decide +kernel), by decide +kernel, by decide +kernel, by decide +kernel, ini_RX9⟩
theorem pd_X9_where : (parseMethodDescriptor (mX9_where).1.desc).map (fun d => d.parameters.length) = some 1 := by decide +kernel
theorem im_X9_where : Cond.instanceMethod yX9_where ∈ lw_tbl := List.mem_of_getElem? (i := 635) (by decide +kernel)
theorem se_X9_where : Cond.selects yX9_where.cls yX9_where yX9_where ∈ lw_tbl := List.mem_of_getElem? (i := 636) (by decide +kernel)
abbrev mX9_goes : xK := (yX9_goes, cX9_goes, 4, (some .int), 3, 74)
theorem me_X9_goes : xMeth mX9_goes := ⟨List.mem_of_getElem? (i := 646) (by decide +kernel), by decide +kernel, by decide +kernel, by decide +kernel, ini_RX9⟩
theorem pd_X9_goes : (parseMethodDescriptor (mX9_goes).1.desc).map (fun d => d.parameters.length) = some 3 := by decide +kernel
theorem im_X9_goes : Cond.instanceMethod yX9_goes ∈ lw_tbl := List.mem_of_getElem? (i := 644) (by decide +kernel)
theorem se_X9_goes : Cond.selects yX9_goes.cls yX9_goes yX9_goes ∈ lw_tbl := List.mem_of_getElem? (i := 645) (by decide +kernel)
abbrev mX9_turned : xK := (yX9_turned, cX9_turned, 4, (some .int), 3, 74)
theorem me_X9_turned : xMeth mX9_turned := ⟨List.mem_of_getElem? (i := 663) (by decide +kernel), by decide +kernel, by decide +kernel, by decide +kernel, ini_RX9⟩
theorem pd_X9_turned : (parseMethodDescriptor (mX9_turned).1.desc).map (fun d => d.parameters.length) = some 3 := by decide +kernel
theorem im_X9_turned : Cond.instanceMethod yX9_turned ∈ lw_tbl := List.mem_of_getElem? (i := 661) (by decide +kernel)
theorem se_X9_turned : Cond.selects yX9_turned.cls yX9_turned yX9_turned ∈ lw_tbl := List.mem_of_getElem? (i := 662) (by decide +kernel)
abbrev mX9_crowd : xK := (yX9_crowd, cX9_crowd, 4, (some .int), 3, 74)
theorem me_X9_crowd : xMeth mX9_crowd := ⟨List.mem_of_getElem? (i := 667) (by decide +kernel), by decide +kernel, by decide +kernel, by decide +kernel, ini_RX9⟩
theorem pd_X9_crowd : (parseMethodDescriptor (mX9_crowd).1.desc).map (fun d => d.parameters.length) = some 2 := by decide +kernel
theorem im_X9_crowd : Cond.instanceMethod yX9_crowd ∈ lw_tbl := List.mem_of_getElem? (i := 665) (by decide +kernel)
theorem se_X9_crowd : Cond.selects yX9_crowd.cls yX9_crowd yX9_crowd ∈ lw_tbl := List.mem_of_getElem? (i := 666) (by decide +kernel)
abbrev mX9_group : xK := (yX9_group, cX9_group, 5, (some .int), 2, 48)
theorem me_X9_group : xMeth mX9_group := ⟨List.mem_of_getElem? (i := 675) (by decide +kernel), by decide +kernel, by decide +kernel, by decide +kernel, ini_RX9⟩
theorem pd_X9_group : (parseMethodDescriptor (mX9_group).1.desc).map (fun d => d.parameters.length) = some 4 := by decide +kernel
theorem im_X9_group : Cond.instanceMethod yX9_group ∈ lw_tbl := List.mem_of_getElem? (i := 673) (by decide +kernel)
theorem se_X9_group : Cond.selects yX9_group.cls yX9_group yX9_group ∈ lw_tbl := List.mem_of_getElem? (i := 674) (by decide +kernel)
abbrev mX9_child : xK := (yX9_child, cX9_child, 3, (some .int), 2, 46)
theorem me_X9_child : xMeth mX9_child := ⟨List.mem_of_getElem? (i := 692) (by decide +kernel), by decide +kernel, by decide +kernel, by decide +kernel, ini_RX9⟩
theorem pd_X9_child : (parseMethodDescriptor (mX9_child).1.desc).map (fun d => d.parameters.length) = some 2 := by decide +kernel
theorem im_X9_child : Cond.instanceMethod yX9_child ∈ lw_tbl := List.mem_of_getElem? (i := 690) (by decide +kernel)
theorem se_X9_child : Cond.selects yX9_child.cls yX9_child yX9_child ∈ lw_tbl := List.mem_of_getElem? (i := 691) (by decide +kernel)
abbrev mX9_hand : xK := (yX9_hand, cX9_hand, 2, (some .int), 3, 66)
theorem me_X9_hand : xMeth mX9_hand := ⟨List.mem_of_getElem? (i := 704) (by decide +kernel), by decide +kernel, by decide +kernel, by decide +kernel, ini_RX9⟩
theorem pd_X9_hand : (parseMethodDescriptor (mX9_hand).1.desc).map (fun d => d.parameters.length) = some 1 := by decide +kernel
theorem im_X9_hand : Cond.instanceMethod yX9_hand ∈ lw_tbl := List.mem_of_getElem? (i := 702) (by decide +kernel)
theorem se_X9_hand : Cond.selects yX9_hand.cls yX9_hand yX9_hand ∈ lw_tbl := List.mem_of_getElem? (i := 703) (by decide +kernel)
abbrev mX9_fetch : xK := (yX9_fetch, cX9_fetch, 3, (some .int), 3, 65)
theorem me_X9_fetch : xMeth mX9_fetch := ⟨List.mem_of_getElem? (i := 720) (by decide +kernel), by decide +kernel, by decide +kernel, by decide +kernel, ini_RX9⟩
theorem pd_X9_fetch : (parseMethodDescriptor (mX9_fetch).1.desc).map (fun d => d.parameters.length) = some 2 := by decide +kernel
theorem im_X9_fetch : Cond.instanceMethod yX9_fetch ∈ lw_tbl := List.mem_of_getElem? (i := 718) (by decide +kernel)
theorem se_X9_fetch : Cond.selects yX9_fetch.cls yX9_fetch yX9_fetch ∈ lw_tbl := List.mem_of_getElem? (i := 719) (by decide +kernel)
abbrev mX9_with : xK := (yX9_with, cX9_with, 2, (some .int), 2, 43)
theorem me_X9_with : xMeth mX9_with := ⟨List.mem_of_getElem? (i := 728) (by decide +kernel), by decide +kernel, by decide +kernel, by decide +kernel, ini_RX9⟩
theorem pd_X9_with : (parseMethodDescriptor (mX9_with).1.desc).map (fun d => d.parameters.length) = some 1 := by decide +kernel
theorem im_X9_with : Cond.instanceMethod yX9_with ∈ lw_tbl := List.mem_of_getElem? (i := 726) (by decide +kernel)
theorem se_X9_with : Cond.selects yX9_with.cls yX9_with yX9_with ∈ lw_tbl := List.mem_of_getElem? (i := 727) (by decide +kernel)
abbrev mX9_list : xK := (yX9_list, cX9_list, 4, (some .int), 2, 45)
theorem me_X9_list : xMeth mX9_list := ⟨List.mem_of_getElem? (i := 733) (by decide +kernel), by decide +kernel, by decide +kernel, by decide +kernel, ini_RX9⟩
theorem pd_X9_list : (parseMethodDescriptor (mX9_list).1.desc).map (fun d => d.parameters.length) = some 3 := by decide +kernel
theorem im_X9_list : Cond.instanceMethod yX9_list ∈ lw_tbl := List.mem_of_getElem? (i := 731) (by decide +kernel)
theorem se_X9_list : Cond.selects yX9_list.cls yX9_list yX9_list ∈ lw_tbl := List.mem_of_getElem? (i := 732) (by decide +kernel)
abbrev mX9_pays : xK := (yX9_pays, cX9_pays, 3, (some .int), 3, 88)
theorem me_X9_pays : xMeth mX9_pays := ⟨List.mem_of_getElem? (i := 742) (by decide +kernel), by decide +kernel, by decide +kernel, by decide +kernel, ini_RX9⟩
theorem pd_X9_pays : (parseMethodDescriptor (mX9_pays).1.desc).map (fun d => d.parameters.length) = some 2 := by decide +kernel
theorem im_X9_pays : Cond.instanceMethod yX9_pays ∈ lw_tbl := List.mem_of_getElem? (i := 740) (by decide +kernel)
theorem se_X9_pays : Cond.selects yX9_pays.cls yX9_pays yX9_pays ∈ lw_tbl := List.mem_of_getElem? (i := 741) (by decide +kernel)
abbrev mX9_sheet : xK := (yX9_sheet, cX9_sheet, 4, (some .int), 3, 69)
theorem me_X9_sheet : xMeth mX9_sheet := ⟨List.mem_of_getElem? (i := 757) (by decide +kernel), by decide +kernel, by decide +kernel, by decide +kernel, ini_RX9⟩
theorem pd_X9_sheet : (parseMethodDescriptor (mX9_sheet).1.desc).map (fun d => d.parameters.length) = some 3 := by decide +kernel
theorem im_X9_sheet : Cond.instanceMethod yX9_sheet ∈ lw_tbl := List.mem_of_getElem? (i := 755) (by decide +kernel)
theorem se_X9_sheet : Cond.selects yX9_sheet.cls yX9_sheet yX9_sheet ∈ lw_tbl := List.mem_of_getElem? (i := 756) (by decide +kernel)
abbrev mX9_lose : xK := (yX9_lose, cX9_lose, 2, (some .int), 3, 64)
theorem me_X9_lose : xMeth mX9_lose := ⟨List.mem_of_getElem? (i := 780) (by decide +kernel), by decide +kernel, by decide +kernel, by decide +kernel, ini_RX9⟩
theorem pd_X9_lose : (parseMethodDescriptor (mX9_lose).1.desc).map (fun d => d.parameters.length) = some 1 := by decide +kernel
theorem im_X9_lose : Cond.instanceMethod yX9_lose ∈ lw_tbl := List.mem_of_getElem? (i := 778) (by decide +kernel)
theorem se_X9_lose : Cond.selects yX9_lose.cls yX9_lose yX9_lose ∈ lw_tbl := List.mem_of_getElem? (i := 779) (by decide +kernel)
abbrev mX9_put : xK := (yX9_put, cX9_put, 5, (some .int), 4, 91)
theorem me_X9_put : xMeth mX9_put := ⟨List.mem_of_getElem? (i := 788) (by decide +kernel), by decide +kernel, by decide +kernel, by decide +kernel, ini_RX9⟩
theorem pd_X9_put : (parseMethodDescriptor (mX9_put).1.desc).map (fun d => d.parameters.length) = some 4 := by decide +kernel
theorem im_X9_put : Cond.instanceMethod yX9_put ∈ lw_tbl := List.mem_of_getElem? (i := 786) (by decide +kernel)
theorem se_X9_put : Cond.selects yX9_put.cls yX9_put yX9_put ∈ lw_tbl := List.mem_of_getElem? (i := 787) (by decide +kernel)
abbrev mX9_get : xK := (yX9_get, cX9_get, 4, (some .int), 4, 89)
theorem me_X9_get : xMeth mX9_get := ⟨List.mem_of_getElem? (i := 803) (by decide +kernel), by decide +kernel, by decide +kernel, by decide +kernel, ini_RX9⟩
theorem pd_X9_get : (parseMethodDescriptor (mX9_get).1.desc).map (fun d => d.parameters.length) = some 3 := by decide +kernel
theorem im_X9_get : Cond.instanceMethod yX9_get ∈ lw_tbl := List.mem_of_getElem? (i := 801) (by decide +kernel)
theorem se_X9_get : Cond.selects yX9_get.cls yX9_get yX9_get ∈ lw_tbl := List.mem_of_getElem? (i := 802) (by decide +kernel)
abbrev mX9_copy : xK := (yX9_copy, cX9_copy, 6, (some .int), 3, 68)
theorem me_X9_copy : xMeth mX9_copy := ⟨List.mem_of_getElem? (i := 812) (by decide +kernel), by decide +kernel, by decide +kernel, by decide +kernel, ini_RX9⟩
theorem pd_X9_copy : (parseMethodDescriptor (mX9_copy).1.desc).map (fun d => d.parameters.length) = some 5 := by decide +kernel
theorem im_X9_copy : Cond.instanceMethod yX9_copy ∈ lw_tbl := List.mem_of_getElem? (i := 810) (by decide +kernel)
theorem se_X9_copy : Cond.selects yX9_copy.cls yX9_copy yX9_copy ∈ lw_tbl := List.mem_of_getElem? (i := 811) (by decide +kernel)
abbrev mX9_count : xK := (yX9_count, cX9_count, 2, (some .int), 2, 43)
theorem me_X9_count : xMeth mX9_count := ⟨List.mem_of_getElem? (i := 825) (by decide +kernel), by decide +kernel, by decide +kernel, by decide +kernel, ini_RX9⟩
theorem pd_X9_count : (parseMethodDescriptor (mX9_count).1.desc).map (fun d => d.parameters.length) = some 1 := by decide +kernel
theorem im_X9_count : Cond.instanceMethod yX9_count ∈ lw_tbl := List.mem_of_getElem? (i := 823) (by decide +kernel)
theorem se_X9_count : Cond.selects yX9_count.cls yX9_count yX9_count ∈ lw_tbl := List.mem_of_getElem? (i := 824) (by decide +kernel)
abbrev mX9_digest : xK := (yX9_digest, cX9_digest, 4, (some .long), 6, 132)
theorem me_X9_digest : xMeth mX9_digest := ⟨List.mem_of_getElem? (i := 833) (by decide +kernel), by decide +kernel, by decide +kernel, by decide +kernel, ini_RX9⟩
theorem pd_X9_digest : (parseMethodDescriptor (mX9_digest).1.desc).map (fun d => d.parameters.length) = some 0 := by decide +kernel
theorem im_X9_digest : Cond.instanceMethod yX9_digest ∈ lw_tbl := List.mem_of_getElem? (i := 831) (by decide +kernel)
theorem se_X9_digest : Cond.selects yX9_digest.cls yX9_digest yX9_digest ∈ lw_tbl := List.mem_of_getElem? (i := 832) (by decide +kernel)
abbrev mX9_within : xK := (yX9_within, cX9_within, 3, (some .boolean), 0, 0)
theorem me_X9_within : xMeth mX9_within := ⟨List.mem_of_getElem? (i := 356) (by decide +kernel), by decide +kernel, by decide +kernel, by decide +kernel, ini_RX9⟩
theorem pd_X9_within : (parseMethodDescriptor (mX9_within).1.desc).map (fun d => d.parameters.length) = some 3 := by decide +kernel
theorem st_X9_within : Cond.static yX9_within ∈ lw_tbl := List.mem_of_getElem? (i := 355) (by decide +kernel)
abbrev mX9_isWeek : xK := (yX9_isWeek, cX9_isWeek, 1, (some .boolean), 1, 22)
theorem me_X9_isWeek : xMeth mX9_isWeek := ⟨List.mem_of_getElem? (i := 368) (by decide +kernel), by decide +kernel, by decide +kernel, by decide +kernel, ini_RX9⟩
theorem pd_X9_isWeek : (parseMethodDescriptor (mX9_isWeek).1.desc).map (fun d => d.parameters.length) = some 1 := by decide +kernel
theorem st_X9_isWeek : Cond.static yX9_isWeek ∈ lw_tbl := List.mem_of_getElem? (i := 367) (by decide +kernel)
abbrev mX9_isHour : xK := (yX9_isHour, cX9_isHour, 1, (some .boolean), 1, 22)
theorem me_X9_isHour : xMeth mX9_isHour := ⟨List.mem_of_getElem? (i := 604) (by decide +kernel), by decide +kernel, by decide +kernel, by decide +kernel, ini_RX9⟩
theorem pd_X9_isHour : (parseMethodDescriptor (mX9_isHour).1.desc).map (fun d => d.parameters.length) = some 1 := by decide +kernel
theorem st_X9_isHour : Cond.static yX9_isHour ∈ lw_tbl := List.mem_of_getElem? (i := 603) (by decide +kernel)
abbrev mX10_within : xK := (yX10_within, cX10_within, 6, (some .boolean), 0, 0)
theorem me_X10_within : xMeth mX10_within := ⟨List.mem_of_getElem? (i := 995) (by decide +kernel), by decide +kernel, by decide +kernel, by decide +kernel, ini_RX10⟩
theorem pd_X10_within : (parseMethodDescriptor (mX10_within).1.desc).map (fun d => d.parameters.length) = some 3 := by decide +kernel
theorem st_X10_within : Cond.static yX10_within ∈ lw_tbl := List.mem_of_getElem? (i := 994) (by decide +kernel)
abbrev mX10_isHut : xK := (yX10_isHut, cX10_isHut, 2, (some .boolean), 1, 25)
theorem me_X10_isHut : xMeth mX10_isHut := ⟨List.mem_of_getElem? (i := 1058) (by decide +kernel), by decide +kernel, by decide +kernel, by decide +kernel, ini_RX10⟩
theorem pd_X10_isHut : (parseMethodDescriptor (mX10_isHut).1.desc).map (fun d => d.parameters.length) = some 1 := by decide +kernel
theorem im_X10_isHut : Cond.instanceMethod yX10_isHut ∈ lw_tbl := List.mem_of_getElem? (i := 1057) (by decide +kernel)
theorem se_X10_isHut : Cond.selects yX10_isHut.cls yX10_isHut yX10_isHut ∈ lw_tbl := List.mem_of_getElem? (i := 34) (by decide +kernel)
abbrev mX10_isParty : xK := (yX10_isParty, cX10_isParty, 2, (some .boolean), 1, 25)
theorem me_X10_isParty : xMeth mX10_isParty := ⟨List.mem_of_getElem? (i := 1013) (by decide +kernel), by decide +kernel, by decide +kernel, by decide +kernel, ini_RX10⟩
theorem pd_X10_isParty : (parseMethodDescriptor (mX10_isParty).1.desc).map (fun d => d.parameters.length) = some 1 := by decide +kernel
theorem im_X10_isParty : Cond.instanceMethod yX10_isParty ∈ lw_tbl := List.mem_of_getElem? (i := 1012) (by decide +kernel)
theorem se_X10_isParty : Cond.selects yX10_isParty.cls yX10_isParty yX10_isParty ∈ lw_tbl := List.mem_of_getElem? (i := 28) (by decide +kernel)
abbrev mX10_isWeek : xK := (yX10_isWeek, cX10_isWeek, 1, (some .boolean), 1, 25)
theorem me_X10_isWeek : xMeth mX10_isWeek := ⟨List.mem_of_getElem? (i := 1003) (by decide +kernel), by decide +kernel, by decide +kernel, by decide +kernel, ini_RX10⟩
theorem pd_X10_isWeek : (parseMethodDescriptor (mX10_isWeek).1.desc).map (fun d => d.parameters.length) = some 1 := by decide +kernel
theorem st_X10_isWeek : Cond.static yX10_isWeek ∈ lw_tbl := List.mem_of_getElem? (i := 1002) (by decide +kernel)
abbrev mX10_hut : xK := (yX10_hut, cX10_hut, 3, (some .int), 1, 25)
theorem me_X10_hut : xMeth mX10_hut := ⟨List.mem_of_getElem? (i := 991) (by decide +kernel), by decide +kernel, by decide +kernel, by decide +kernel, ini_RX10⟩
theorem pd_X10_hut : (parseMethodDescriptor (mX10_hut).1.desc).map (fun d => d.parameters.length) = some 2 := by decide +kernel
theorem im_X10_hut : Cond.instanceMethod yX10_hut ∈ lw_tbl := List.mem_of_getElem? (i := 989) (by decide +kernel)
theorem se_X10_hut : Cond.selects yX10_hut.cls yX10_hut yX10_hut ∈ lw_tbl := List.mem_of_getElem? (i := 990) (by decide +kernel)
abbrev mX10_party : xK := (yX10_party, cX10_party, 6, (some .int), 2, 45)
theorem me_X10_party : xMeth mX10_party := ⟨List.mem_of_getElem? (i := 1000) (by decide +kernel), by decide +kernel, by decide +kernel, by decide +kernel, ini_RX10⟩
theorem pd_X10_party : (parseMethodDescriptor (mX10_party).1.desc).map (fun d => d.parameters.length) = some 5 := by decide +kernel
theorem im_X10_party : Cond.instanceMethod yX10_party ∈ lw_tbl := List.mem_of_getElem? (i := 998) (by decide +kernel)
theorem se_X10_party : Cond.selects yX10_party.cls yX10_party yX10_party ∈ lw_tbl := List.mem_of_getElem? (i := 999) (by decide +kernel)
abbrev mX10_meet : xK := (yX10_meet, cX10_meet, 3, (some .boolean), 0, 0)
theorem me_X10_meet : xMeth mX10_meet := ⟨List.mem_of_getElem? (i := 1018) (by decide +kernel), by decide +kernel, by decide +kernel, by decide +kernel, ini_RX10⟩
theorem pd_X10_meet : (parseMethodDescriptor (mX10_meet).1.desc).map (fun d => d.parameters.length) = some 2 := by decide +kernel
theorem im_X10_meet : Cond.instanceMethod yX10_meet ∈ lw_tbl := List.mem_of_getElem? (i := 1017) (by decide +kernel)
theorem se_X10_meet : Cond.selects yX10_meet.cls yX10_meet yX10_meet ∈ lw_tbl := List.mem_of_getElem? (i := 29) (by decide +kernel)
abbrev mX10_tell : xK := (yX10_tell, cX10_tell, 5, (some .int), 2, 46)
theorem me_X10_tell : xMeth mX10_tell := ⟨List.mem_of_getElem? (i := 1009) (by decide +kernel), by decide +kernel, by decide +kernel, by decide +kernel, ini_RX10⟩
theorem pd_X10_tell : (parseMethodDescriptor (mX10_tell).1.desc).map (fun d => d.parameters.length) = some 3 := by decide +kernel
theorem im_X10_tell : Cond.instanceMethod yX10_tell ∈ lw_tbl := List.mem_of_getElem? (i := 1007) (by decide +kernel)
theorem se_X10_tell : Cond.selects yX10_tell.cls yX10_tell yX10_tell ∈ lw_tbl := List.mem_of_getElem? (i := 1008) (by decide +kernel)
abbrev mX10_isFree : xK := (yX10_isFree, cX10_isFree, 4, (some .boolean), 1, 22)
theorem me_X10_isFree : xMeth mX10_isFree := ⟨List.mem_of_getElem? (i := 1034) (by decide +kernel), by decide +kernel, by decide +kernel, by decide +kernel, ini_RX10⟩
theorem pd_X10_isFree : (parseMethodDescriptor (mX10_isFree).1.desc).map (fun d => d.parameters.length) = some 2 := by decide +kernel
theorem im_X10_isFree : Cond.instanceMethod yX10_isFree ∈ lw_tbl := List.mem_of_getElem? (i := 1033) (by decide +kernel)
theorem se_X10_isFree : Cond.selects yX10_isFree.cls yX10_isFree yX10_isFree ∈ lw_tbl := List.mem_of_getElem? (i := 32) (by decide +kernel)
abbrev mX10_hasTold : xK := (yX10_hasTold, cX10_hasTold, 5, (some .boolean), 1, 22)
theorem me_X10_hasTold : xMeth mX10_hasTold := ⟨List.mem_of_getElem? (i := 1038) (by decide +kernel), by decide +kernel, by decide +kernel, by decide +kernel, ini_RX10⟩
theorem pd_X10_hasTold : (parseMethodDescriptor (mX10_hasTold).1.desc).map (fun d => d.parameters.length) = some 3 := by decide +kernel
theorem im_X10_hasTold : Cond.instanceMethod yX10_hasTold ∈ lw_tbl := List.mem_of_getElem? (i := 1037) (by decide +kernel)
theorem se_X10_hasTold : Cond.selects yX10_hasTold.cls yX10_hasTold yX10_hasTold ∈ lw_tbl := List.mem_of_getElem? (i := 33) (by decide +kernel)
abbrev mX10_mayLodge : xK := (yX10_mayLodge, cX10_mayLodge, 3, (some .boolean), 2, 46)
theorem me_X10_mayLodge : xMeth mX10_mayLodge := ⟨List.mem_of_getElem? (i := 1030) (by decide +kernel), by decide +kernel, by decide +kernel, by decide +kernel, ini_RX10⟩
theorem pd_X10_mayLodge : (parseMethodDescriptor (mX10_mayLodge).1.desc).map (fun d => d.parameters.length) = some 2 := by decide +kernel
theorem im_X10_mayLodge : Cond.instanceMethod yX10_mayLodge ∈ lw_tbl := List.mem_of_getElem? (i := 1029) (by decide +kernel)
theorem se_X10_mayLodge : Cond.selects yX10_mayLodge.cls yX10_mayLodge yX10_mayLodge ∈ lw_tbl := List.mem_of_getElem? (i := 31) (by decide +kernel)
abbrev mX10_dearest : xK := (yX10_dearest, cX10_dearest, 8, (some .int), 3, 68)
theorem me_X10_dearest : xMeth mX10_dearest := ⟨List.mem_of_getElem? (i := 1026) (by decide +kernel), by decide +kernel, by decide +kernel, by decide +kernel, ini_RX10⟩
theorem pd_X10_dearest : (parseMethodDescriptor (mX10_dearest).1.desc).map (fun d => d.parameters.length) = some 2 := by decide +kernel
theorem im_X10_dearest : Cond.instanceMethod yX10_dearest ∈ lw_tbl := List.mem_of_getElem? (i := 1025) (by decide +kernel)
theorem se_X10_dearest : Cond.selects yX10_dearest.cls yX10_dearest yX10_dearest ∈ lw_tbl := List.mem_of_getElem? (i := 30) (by decide +kernel)
abbrev mX10_lodge : xK := (yX10_lodge, cX10_lodge, 6, (some .int), 4, 95)
theorem me_X10_lodge : xMeth mX10_lodge := ⟨List.mem_of_getElem? (i := 1022) (by decide +kernel), by decide +kernel, by decide +kernel, by decide +kernel, ini_RX10⟩
theorem pd_X10_lodge : (parseMethodDescriptor (mX10_lodge).1.desc).map (fun d => d.parameters.length) = some 1 := by decide +kernel
theorem im_X10_lodge : Cond.instanceMethod yX10_lodge ∈ lw_tbl := List.mem_of_getElem? (i := 1020) (by decide +kernel)
theorem se_X10_lodge : Cond.selects yX10_lodge.cls yX10_lodge yX10_lodge ∈ lw_tbl := List.mem_of_getElem? (i := 1021) (by decide +kernel)
abbrev mX10_moved : xK := (yX10_moved, cX10_moved, 1, (some .int), 0, 0)
theorem me_X10_moved : xMeth mX10_moved := ⟨List.mem_of_getElem? (i := 1042) (by decide +kernel), by decide +kernel, by decide +kernel, by decide +kernel, ini_RX10⟩
theorem pd_X10_moved : (parseMethodDescriptor (mX10_moved).1.desc).map (fun d => d.parameters.length) = some 0 := by decide +kernel
theorem im_X10_moved : Cond.instanceMethod yX10_moved ∈ lw_tbl := List.mem_of_getElem? (i := 1040) (by decide +kernel)
theorem se_X10_moved : Cond.selects yX10_moved.cls yX10_moved yX10_moved ∈ lw_tbl := List.mem_of_getElem? (i := 1041) (by decide +kernel)
abbrev mX10_leave : xK := (yX10_leave, cX10_leave, 3, (some .int), 2, 46)
theorem me_X10_leave : xMeth mX10_leave := ⟨List.mem_of_getElem? (i := 1046) (by decide +kernel), by decide +kernel, by decide +kernel, by decide +kernel, ini_RX10⟩
theorem pd_X10_leave : (parseMethodDescriptor (mX10_leave).1.desc).map (fun d => d.parameters.length) = some 1 := by decide +kernel
theorem im_X10_leave : Cond.instanceMethod yX10_leave ∈ lw_tbl := List.mem_of_getElem? (i := 1044) (by decide +kernel)
theorem se_X10_leave : Cond.selects yX10_leave.cls yX10_leave yX10_leave ∈ lw_tbl := List.mem_of_getElem? (i := 1045) (by decide +kernel)
abbrev mX10_about : xK := (yX10_about, cX10_about, 3, (some .int), 2, 46)
theorem me_X10_about : xMeth mX10_about := ⟨List.mem_of_getElem? (i := 1050) (by decide +kernel), by decide +kernel, by decide +kernel, by decide +kernel, ini_RX10⟩
theorem pd_X10_about : (parseMethodDescriptor (mX10_about).1.desc).map (fun d => d.parameters.length) = some 2 := by decide +kernel
theorem im_X10_about : Cond.instanceMethod yX10_about ∈ lw_tbl := List.mem_of_getElem? (i := 1048) (by decide +kernel)
theorem se_X10_about : Cond.selects yX10_about.cls yX10_about yX10_about ∈ lw_tbl := List.mem_of_getElem? (i := 1049) (by decide +kernel)
abbrev mX10_isThere : xK := (yX10_isThere, cX10_isThere, 3, (some .boolean), 1, 25)
theorem me_X10_isThere : xMeth mX10_isThere := ⟨List.mem_of_getElem? (i := 1066) (by decide +kernel), by decide +kernel, by decide +kernel, by decide +kernel, ini_RX10⟩
theorem pd_X10_isThere : (parseMethodDescriptor (mX10_isThere).1.desc).map (fun d => d.parameters.length) = some 2 := by decide +kernel
theorem im_X10_isThere : Cond.instanceMethod yX10_isThere ∈ lw_tbl := List.mem_of_getElem? (i := 1065) (by decide +kernel)
theorem se_X10_isThere : Cond.selects yX10_isThere.cls yX10_isThere yX10_isThere ∈ lw_tbl := List.mem_of_getElem? (i := 36) (by decide +kernel)
abbrev mX10_who : xK := (yX10_who, cX10_who, 4, (some .int), 2, 47)
theorem me_X10_who : xMeth mX10_who := ⟨List.mem_of_getElem? (i := 1062) (by decide +kernel), by decide +kernel, by decide +kernel, by decide +kernel, ini_RX10⟩
theorem pd_X10_who : (parseMethodDescriptor (mX10_who).1.desc).map (fun d => d.parameters.length) = some 2 := by decide +kernel
theorem im_X10_who : Cond.instanceMethod yX10_who ∈ lw_tbl := List.mem_of_getElem? (i := 1061) (by decide +kernel)
theorem se_X10_who : Cond.selects yX10_who.cls yX10_who yX10_who ∈ lw_tbl := List.mem_of_getElem? (i := 35) (by decide +kernel)
abbrev mX10_in : xK := (yX10_in, cX10_in, 3, (some .int), 3, 70)
theorem me_X10_in : xMeth mX10_in := ⟨List.mem_of_getElem? (i := 1054) (by decide +kernel), by decide +kernel, by decide +kernel, by decide +kernel, ini_RX10⟩
theorem pd_X10_in : (parseMethodDescriptor (mX10_in).1.desc).map (fun d => d.parameters.length) = some 2 := by decide +kernel
theorem im_X10_in : Cond.instanceMethod yX10_in ∈ lw_tbl := List.mem_of_getElem? (i := 1052) (by decide +kernel)
theorem se_X10_in : Cond.selects yX10_in.cls yX10_in yX10_in ∈ lw_tbl := List.mem_of_getElem? (i := 1053) (by decide +kernel)
abbrev mX10_empty : xK := (yX10_empty, cX10_empty, 4, (some .int), 3, 70)
theorem me_X10_empty : xMeth mX10_empty := ⟨List.mem_of_getElem? (i := 1070) (by decide +kernel), by decide +kernel, by decide +kernel, by decide +kernel, ini_RX10⟩
theorem pd_X10_empty : (parseMethodDescriptor (mX10_empty).1.desc).map (fun d => d.parameters.length) = some 1 := by decide +kernel
theorem im_X10_empty : Cond.instanceMethod yX10_empty ∈ lw_tbl := List.mem_of_getElem? (i := 1068) (by decide +kernel)
theorem se_X10_empty : Cond.selects yX10_empty.cls yX10_empty yX10_empty ∈ lw_tbl := List.mem_of_getElem? (i := 1069) (by decide +kernel)
abbrev mX10_seats : xK := (yX10_seats, cX10_seats, 3, (some .int), 1, 25)
theorem me_X10_seats : xMeth mX10_seats := ⟨List.mem_of_getElem? (i := 1074) (by decide +kernel), by decide +kernel, by decide +kernel, by decide +kernel, ini_RX10⟩
theorem pd_X10_seats : (parseMethodDescriptor (mX10_seats).1.desc).map (fun d => d.parameters.length) = some 2 := by decide +kernel
theorem im_X10_seats : Cond.instanceMethod yX10_seats ∈ lw_tbl := List.mem_of_getElem? (i := 1072) (by decide +kernel)
theorem se_X10_seats : Cond.selects yX10_seats.cls yX10_seats yX10_seats ∈ lw_tbl := List.mem_of_getElem? (i := 1073) (by decide +kernel)
abbrev mX10_findUnits : xK := (yX10_findUnits, cX10_findUnits, 4, none, 2, 47)
theorem me_X10_findUnits : xMeth mX10_findUnits := ⟨List.mem_of_getElem? (i := 1087) (by decide +kernel), by decide +kernel, by decide +kernel, by decide +kernel, ini_RX10⟩
theorem pd_X10_findUnits : (parseMethodDescriptor (mX10_findUnits).1.desc).map (fun d => d.parameters.length) = some 1 := by decide +kernel
theorem im_X10_findUnits : Cond.instanceMethod yX10_findUnits ∈ lw_tbl := List.mem_of_getElem? (i := 1086) (by decide +kernel)
theorem se_X10_findUnits : Cond.selects yX10_findUnits.cls yX10_findUnits yX10_findUnits ∈ lw_tbl := List.mem_of_getElem? (i := 38) (by decide +kernel)
abbrev mX10_findSittings : xK := (yX10_findSittings, cX10_findSittings, 13, (some .int), 3, 70)
theorem me_X10_findSittings : xMeth mX10_findSittings := ⟨List.mem_of_getElem? (i := 1083) (by decide +kernel), by decide +kernel, by decide +kernel, by decide +kernel, ini_RX10⟩
theorem pd_X10_findSittings : (parseMethodDescriptor (mX10_findSittings).1.desc).map (fun d => d.parameters.length) = some 1 := by decide +kernel
theorem im_X10_findSittings : Cond.instanceMethod yX10_findSittings ∈ lw_tbl := List.mem_of_getElem? (i := 1082) (by decide +kernel)
theorem se_X10_findSittings : Cond.selects yX10_findSittings.cls yX10_findSittings yX10_findSittings ∈ lw_tbl := List.mem_of_getElem? (i := 37) (by decide +kernel)
abbrev mX10_apart : xK := (yX10_apart, cX10_apart, 2, (some .int), 4, 102)
theorem me_X10_apart : xMeth mX10_apart := ⟨List.mem_of_getElem? (i := 1079) (by decide +kernel), by decide +kernel, by decide +kernel, by decide +kernel, ini_RX10⟩
theorem pd_X10_apart : (parseMethodDescriptor (mX10_apart).1.desc).map (fun d => d.parameters.length) = some 1 := by decide +kernel
theorem im_X10_apart : Cond.instanceMethod yX10_apart ∈ lw_tbl := List.mem_of_getElem? (i := 1077) (by decide +kernel)
theorem se_X10_apart : Cond.selects yX10_apart.cls yX10_apart yX10_apart ∈ lw_tbl := List.mem_of_getElem? (i := 1078) (by decide +kernel)
abbrev mX10_sits : xK := (yX10_sits, cX10_sits, 3, (some .int), 4, 102)
theorem me_X10_sits : xMeth mX10_sits := ⟨List.mem_of_getElem? (i := 1091) (by decide +kernel), by decide +kernel, by decide +kernel, by decide +kernel, ini_RX10⟩
theorem pd_X10_sits : (parseMethodDescriptor (mX10_sits).1.desc).map (fun d => d.parameters.length) = some 2 := by decide +kernel
theorem im_X10_sits : Cond.instanceMethod yX10_sits ∈ lw_tbl := List.mem_of_getElem? (i := 1089) (by decide +kernel)
theorem se_X10_sits : Cond.selects yX10_sits.cls yX10_sits yX10_sits ∈ lw_tbl := List.mem_of_getElem? (i := 1090) (by decide +kernel)
abbrev mX10_more : xK := (yX10_more, cX10_more, 3, (some .int), 1, 25)
theorem me_X10_more : xMeth mX10_more := ⟨List.mem_of_getElem? (i := 1095) (by decide +kernel), by decide +kernel, by decide +kernel, by decide +kernel, ini_RX10⟩
theorem pd_X10_more : (parseMethodDescriptor (mX10_more).1.desc).map (fun d => d.parameters.length) = some 1 := by decide +kernel
theorem im_X10_more : Cond.instanceMethod yX10_more ∈ lw_tbl := List.mem_of_getElem? (i := 1093) (by decide +kernel)
theorem se_X10_more : Cond.selects yX10_more.cls yX10_more yX10_more ∈ lw_tbl := List.mem_of_getElem? (i := 1094) (by decide +kernel)
abbrev mX10_dinners : xK := (yX10_dinners, cX10_dinners, 6, (some .int), 4, 102)
theorem me_X10_dinners : xMeth mX10_dinners := ⟨List.mem_of_getElem? (i := 1104) (by decide +kernel), by decide +kernel, by decide +kernel, by decide +kernel, ini_RX10⟩
theorem pd_X10_dinners : (parseMethodDescriptor (mX10_dinners).1.desc).map (fun d => d.parameters.length) = some 2 := by decide +kernel
theorem im_X10_dinners : Cond.instanceMethod yX10_dinners ∈ lw_tbl := List.mem_of_getElem? (i := 1103) (by decide +kernel)
theorem se_X10_dinners : Cond.selects yX10_dinners.cls yX10_dinners yX10_dinners ∈ lw_tbl := List.mem_of_getElem? (i := 39) (by decide +kernel)
abbrev mX10_foretell : xK := (yX10_foretell, cX10_foretell, 3, (some .int), 5, 127)
theorem me_X10_foretell : xMeth mX10_foretell := ⟨List.mem_of_getElem? (i := 1100) (by decide +kernel), by decide +kernel, by decide +kernel, by decide +kernel, ini_RX10⟩
theorem pd_X10_foretell : (parseMethodDescriptor (mX10_foretell).1.desc).map (fun d => d.parameters.length) = some 2 := by decide +kernel
theorem im_X10_foretell : Cond.instanceMethod yX10_foretell ∈ lw_tbl := List.mem_of_getElem? (i := 1098) (by decide +kernel)
theorem se_X10_foretell : Cond.selects yX10_foretell.cls yX10_foretell yX10_foretell ∈ lw_tbl := List.mem_of_getElem? (i := 1099) (by decide +kernel)
abbrev mX10_cook : xK := (yX10_cook, cX10_cook, 6, (some .int), 5, 127)
theorem me_X10_cook : xMeth mX10_cook := ⟨List.mem_of_getElem? (i := 1108) (by decide +kernel), by decide +kernel, by decide +kernel, by decide +kernel, ini_RX10⟩
theorem pd_X10_cook : (parseMethodDescriptor (mX10_cook).1.desc).map (fun d => d.parameters.length) = some 3 := by decide +kernel
theorem im_X10_cook : Cond.instanceMethod yX10_cook ∈ lw_tbl := List.mem_of_getElem? (i := 1106) (by decide +kernel)
theorem se_X10_cook : Cond.selects yX10_cook.cls yX10_cook yX10_cook ∈ lw_tbl := List.mem_of_getElem? (i := 1107) (by decide +kernel)
abbrev mX10_line : xK := (yX10_line, cX10_line, 3, (some .int), 1, 25)
theorem me_X10_line : xMeth mX10_line := ⟨List.mem_of_getElem? (i := 1113) (by decide +kernel), by decide +kernel, by decide +kernel, by decide +kernel, ini_RX10⟩
theorem pd_X10_line : (parseMethodDescriptor (mX10_line).1.desc).map (fun d => d.parameters.length) = some 2 := by decide +kernel
theorem im_X10_line : Cond.instanceMethod yX10_line ∈ lw_tbl := List.mem_of_getElem? (i := 1111) (by decide +kernel)
theorem se_X10_line : Cond.selects yX10_line.cls yX10_line yX10_line ∈ lw_tbl := List.mem_of_getElem? (i := 1112) (by decide +kernel)
abbrev mX10_hall : xK := (yX10_hall, cX10_hall, 4, (some .int), 1, 25)
theorem me_X10_hall : xMeth mX10_hall := ⟨List.mem_of_getElem? (i := 1118) (by decide +kernel), by decide +kernel, by decide +kernel, by decide +kernel, ini_RX10⟩
theorem pd_X10_hall : (parseMethodDescriptor (mX10_hall).1.desc).map (fun d => d.parameters.length) = some 2 := by decide +kernel
theorem im_X10_hall : Cond.instanceMethod yX10_hall ∈ lw_tbl := List.mem_of_getElem? (i := 1116) (by decide +kernel)
theorem se_X10_hall : Cond.selects yX10_hall.cls yX10_hall yX10_hall ∈ lw_tbl := List.mem_of_getElem? (i := 1117) (by decide +kernel)
abbrev mX10_show : xK := (yX10_show, cX10_show, 4, (some .int), 1, 25)
theorem me_X10_show : xMeth mX10_show := ⟨List.mem_of_getElem? (i := 1122) (by decide +kernel), by decide +kernel, by decide +kernel, by decide +kernel, ini_RX10⟩
theorem pd_X10_show : (parseMethodDescriptor (mX10_show).1.desc).map (fun d => d.parameters.length) = some 3 := by decide +kernel
theorem im_X10_show : Cond.instanceMethod yX10_show ∈ lw_tbl := List.mem_of_getElem? (i := 1120) (by decide +kernel)
theorem se_X10_show : Cond.selects yX10_show.cls yX10_show yX10_show ∈ lw_tbl := List.mem_of_getElem? (i := 1121) (by decide +kernel)
abbrev mX10_wish : xK := (yX10_wish, cX10_wish, 4, (some .int), 2, 46)
theorem me_X10_wish : xMeth mX10_wish := ⟨List.mem_of_getElem? (i := 1127) (by decide +kernel), by decide +kernel, by decide +kernel, by decide +kernel, ini_RX10⟩
theorem pd_X10_wish : (parseMethodDescriptor (mX10_wish).1.desc).map (fun d => d.parameters.length) = some 2 := by decide +kernel
theorem im_X10_wish : Cond.instanceMethod yX10_wish ∈ lw_tbl := List.mem_of_getElem? (i := 1125) (by decide +kernel)
theorem se_X10_wish : Cond.selects yX10_wish.cls yX10_wish yX10_wish ∈ lw_tbl := List.mem_of_getElem? (i := 1126) (by decide +kernel)
abbrev mX10_isWet : xK := (yX10_isWet, cX10_isWet, 4, (some .boolean), 0, 0)
theorem me_X10_isWet : xMeth mX10_isWet := ⟨List.mem_of_getElem? (i := 1135) (by decide +kernel), by decide +kernel, by decide +kernel, by decide +kernel, ini_RX10⟩
theorem pd_X10_isWet : (parseMethodDescriptor (mX10_isWet).1.desc).map (fun d => d.parameters.length) = some 1 := by decide +kernel
theorem im_X10_isWet : Cond.instanceMethod yX10_isWet ∈ lw_tbl := List.mem_of_getElem? (i := 1134) (by decide +kernel)
theorem se_X10_isWet : Cond.selects yX10_isWet.cls yX10_isWet yX10_isWet ∈ lw_tbl := List.mem_of_getElem? (i := 40) (by decide +kernel)
abbrev mX10_wet : xK := (yX10_wet, cX10_wet, 2, (some .int), 1, 25)
theorem me_X10_wet : xMeth mX10_wet := ⟨List.mem_of_getElem? (i := 1131) (by decide +kernel), by decide +kernel, by decide +kernel, by decide +kernel, ini_RX10⟩
theorem pd_X10_wet : (parseMethodDescriptor (mX10_wet).1.desc).map (fun d => d.parameters.length) = some 1 := by decide +kernel
theorem im_X10_wet : Cond.instanceMethod yX10_wet ∈ lw_tbl := List.mem_of_getElem? (i := 1129) (by decide +kernel)
theorem se_X10_wet : Cond.selects yX10_wet.cls yX10_wet yX10_wet ∈ lw_tbl := List.mem_of_getElem? (i := 1130) (by decide +kernel)
abbrev mX10_placeOf : xK := (yX10_placeOf, cX10_placeOf, 2, (some .int), 1, 23)
theorem me_X10_placeOf : xMeth mX10_placeOf := ⟨List.mem_of_getElem? (i := 1143) (by decide +kernel), by decide +kernel, by decide +kernel, by decide +kernel, ini_RX10⟩
theorem pd_X10_placeOf : (parseMethodDescriptor (mX10_placeOf).1.desc).map (fun d => d.parameters.length) = some 1 := by decide +kernel
theorem im_X10_placeOf : Cond.instanceMethod yX10_placeOf ∈ lw_tbl := List.mem_of_getElem? (i := 1142) (by decide +kernel)
theorem se_X10_placeOf : Cond.selects yX10_placeOf.cls yX10_placeOf yX10_placeOf ∈ lw_tbl := List.mem_of_getElem? (i := 41) (by decide +kernel)
abbrev mX10_where : xK := (yX10_where, cX10_where, 2, (some .int), 2, 44)
theorem me_X10_where : xMeth mX10_where := ⟨List.mem_of_getElem? (i := 1139) (by decide +kernel), by decide +kernel, by decide +kernel, by decide +kernel, ini_RX10⟩
theorem pd_X10_where : (parseMethodDescriptor (mX10_where).1.desc).map (fun d => d.parameters.length) = some 1 := by decide +kernel
theorem im_X10_where : Cond.instanceMethod yX10_where ∈ lw_tbl := List.mem_of_getElem? (i := 1137) (by decide +kernel)
theorem se_X10_where : Cond.selects yX10_where.cls yX10_where yX10_where ∈ lw_tbl := List.mem_of_getElem? (i := 1138) (by decide +kernel)
abbrev mX10_findCrowds : xK := (yX10_findCrowds, cX10_findCrowds, 7, none, 2, 47)
theorem me_X10_findCrowds : xMeth mX10_findCrowds := ⟨List.mem_of_getElem? (i := 1151) (by decide +kernel), by decide +kernel, by decide +kernel, by decide +kernel, ini_RX10⟩
theorem pd_X10_findCrowds : (parseMethodDescriptor (mX10_findCrowds).1.desc).map (fun d => d.parameters.length) = some 2 := by decide +kernel
theorem im_X10_findCrowds : Cond.instanceMethod yX10_findCrowds ∈ lw_tbl := List.mem_of_getElem? (i := 1150) (by decide +kernel)
theorem se_X10_findCrowds : Cond.selects yX10_findCrowds.cls yX10_findCrowds yX10_findCrowds ∈ lw_tbl := List.mem_of_getElem? (i := 42) (by decide +kernel)
abbrev mX10_goes : xK := (yX10_goes, cX10_goes, 4, (some .int), 3, 73)
theorem me_X10_goes : xMeth mX10_goes := ⟨List.mem_of_getElem? (i := 1147) (by decide +kernel), by decide +kernel, by decide +kernel, by decide +kernel, ini_RX10⟩
theorem pd_X10_goes : (parseMethodDescriptor (mX10_goes).1.desc).map (fun d => d.parameters.length) = some 3 := by decide +kernel
theorem im_X10_goes : Cond.instanceMethod yX10_goes ∈ lw_tbl := List.mem_of_getElem? (i := 1145) (by decide +kernel)
theorem se_X10_goes : Cond.selects yX10_goes.cls yX10_goes yX10_goes ∈ lw_tbl := List.mem_of_getElem? (i := 1146) (by decide +kernel)
abbrev mX10_turned : xK := (yX10_turned, cX10_turned, 4, (some .int), 3, 73)
theorem me_X10_turned : xMeth mX10_turned := ⟨List.mem_of_getElem? (i := 1155) (by decide +kernel), by decide +kernel, by decide +kernel, by decide +kernel, ini_RX10⟩
theorem pd_X10_turned : (parseMethodDescriptor (mX10_turned).1.desc).map (fun d => d.parameters.length) = some 3 := by decide +kernel
theorem im_X10_turned : Cond.instanceMethod yX10_turned ∈ lw_tbl := List.mem_of_getElem? (i := 1153) (by decide +kernel)
theorem se_X10_turned : Cond.selects yX10_turned.cls yX10_turned yX10_turned ∈ lw_tbl := List.mem_of_getElem? (i := 1154) (by decide +kernel)
abbrev mX10_crowd : xK := (yX10_crowd, cX10_crowd, 5, (some .int), 3, 73)
theorem me_X10_crowd : xMeth mX10_crowd := ⟨List.mem_of_getElem? (i := 1159) (by decide +kernel), by decide +kernel, by decide +kernel, by decide +kernel, ini_RX10⟩
theorem pd_X10_crowd : (parseMethodDescriptor (mX10_crowd).1.desc).map (fun d => d.parameters.length) = some 2 := by decide +kernel
theorem im_X10_crowd : Cond.instanceMethod yX10_crowd ∈ lw_tbl := List.mem_of_getElem? (i := 1157) (by decide +kernel)
theorem se_X10_crowd : Cond.selects yX10_crowd.cls yX10_crowd yX10_crowd ∈ lw_tbl := List.mem_of_getElem? (i := 1158) (by decide +kernel)
abbrev mX10_manyIn : xK := (yX10_manyIn, cX10_manyIn, 4, (some .int), 0, 0)
theorem me_X10_manyIn : xMeth mX10_manyIn := ⟨List.mem_of_getElem? (i := 1170) (by decide +kernel), by decide +kernel, by decide +kernel, by decide +kernel, ini_RX10⟩
theorem pd_X10_manyIn : (parseMethodDescriptor (mX10_manyIn).1.desc).map (fun d => d.parameters.length) = some 1 := by decide +kernel
theorem im_X10_manyIn : Cond.instanceMethod yX10_manyIn ∈ lw_tbl := List.mem_of_getElem? (i := 1169) (by decide +kernel)
theorem se_X10_manyIn : Cond.selects yX10_manyIn.cls yX10_manyIn yX10_manyIn ∈ lw_tbl := List.mem_of_getElem? (i := 43) (by decide +kernel)
abbrev mX10_group : xK := (yX10_group, cX10_group, 6, (some .int), 1, 25)
theorem me_X10_group : xMeth mX10_group := ⟨List.mem_of_getElem? (i := 1163) (by decide +kernel), by decide +kernel, by decide +kernel, by decide +kernel, ini_RX10⟩
theorem pd_X10_group : (parseMethodDescriptor (mX10_group).1.desc).map (fun d => d.parameters.length) = some 4 := by decide +kernel
theorem im_X10_group : Cond.instanceMethod yX10_group ∈ lw_tbl := List.mem_of_getElem? (i := 1161) (by decide +kernel)
theorem se_X10_group : Cond.selects yX10_group.cls yX10_group yX10_group ∈ lw_tbl := List.mem_of_getElem? (i := 1162) (by decide +kernel)
abbrev mX10_isChild : xK := (yX10_isChild, cX10_isChild, 2, (some .boolean), 1, 25)
theorem me_X10_isChild : xMeth mX10_isChild := ⟨List.mem_of_getElem? (i := 1182) (by decide +kernel), by decide +kernel, by decide +kernel, by decide +kernel, ini_RX10⟩
theorem pd_X10_isChild : (parseMethodDescriptor (mX10_isChild).1.desc).map (fun d => d.parameters.length) = some 1 := by decide +kernel
theorem im_X10_isChild : Cond.instanceMethod yX10_isChild ∈ lw_tbl := List.mem_of_getElem? (i := 1181) (by decide +kernel)
theorem se_X10_isChild : Cond.selects yX10_isChild.cls yX10_isChild yX10_isChild ∈ lw_tbl := List.mem_of_getElem? (i := 44) (by decide +kernel)
abbrev mX10_child : xK := (yX10_child, cX10_child, 5, (some .int), 2, 46)
theorem me_X10_child : xMeth mX10_child := ⟨List.mem_of_getElem? (i := 1174) (by decide +kernel), by decide +kernel, by decide +kernel, by decide +kernel, ini_RX10⟩
theorem pd_X10_child : (parseMethodDescriptor (mX10_child).1.desc).map (fun d => d.parameters.length) = some 2 := by decide +kernel
theorem im_X10_child : Cond.instanceMethod yX10_child ∈ lw_tbl := List.mem_of_getElem? (i := 1172) (by decide +kernel)
theorem se_X10_child : Cond.selects yX10_child.cls yX10_child yX10_child ∈ lw_tbl := List.mem_of_getElem? (i := 1173) (by decide +kernel)
abbrev mX10_hand : xK := (yX10_hand, cX10_hand, 4, (some .int), 2, 46)
theorem me_X10_hand : xMeth mX10_hand := ⟨List.mem_of_getElem? (i := 1178) (by decide +kernel), by decide +kernel, by decide +kernel, by decide +kernel, ini_RX10⟩
theorem pd_X10_hand : (parseMethodDescriptor (mX10_hand).1.desc).map (fun d => d.parameters.length) = some 1 := by decide +kernel
theorem im_X10_hand : Cond.instanceMethod yX10_hand ∈ lw_tbl := List.mem_of_getElem? (i := 1176) (by decide +kernel)
theorem se_X10_hand : Cond.selects yX10_hand.cls yX10_hand yX10_hand ∈ lw_tbl := List.mem_of_getElem? (i := 1177) (by decide +kernel)
abbrev mX10_fetch : xK := (yX10_fetch, cX10_fetch, 3, (some .int), 2, 46)
theorem me_X10_fetch : xMeth mX10_fetch := ⟨List.mem_of_getElem? (i := 1186) (by decide +kernel), by decide +kernel, by decide +kernel, by decide +kernel, ini_RX10⟩
theorem pd_X10_fetch : (parseMethodDescriptor (mX10_fetch).1.desc).map (fun d => d.parameters.length) = some 2 := by decide +kernel
theorem im_X10_fetch : Cond.instanceMethod yX10_fetch ∈ lw_tbl := List.mem_of_getElem? (i := 1184) (by decide +kernel)
theorem se_X10_fetch : Cond.selects yX10_fetch.cls yX10_fetch yX10_fetch ∈ lw_tbl := List.mem_of_getElem? (i := 1185) (by decide +kernel)
abbrev mX10_with : xK := (yX10_with, cX10_with, 2, (some .int), 2, 46)
theorem me_X10_with : xMeth mX10_with := ⟨List.mem_of_getElem? (i := 1190) (by decide +kernel), by decide +kernel, by decide +kernel, by decide +kernel, ini_RX10⟩
theorem pd_X10_with : (parseMethodDescriptor (mX10_with).1.desc).map (fun d => d.parameters.length) = some 1 := by decide +kernel
theorem im_X10_with : Cond.instanceMethod yX10_with ∈ lw_tbl := List.mem_of_getElem? (i := 1188) (by decide +kernel)
theorem se_X10_with : Cond.selects yX10_with.cls yX10_with yX10_with ∈ lw_tbl := List.mem_of_getElem? (i := 1189) (by decide +kernel)
abbrev mX10_list : xK := (yX10_list, cX10_list, 4, (some .int), 1, 25)
theorem me_X10_list : xMeth mX10_list := ⟨List.mem_of_getElem? (i := 1194) (by decide +kernel), by decide +kernel, by decide +kernel, by decide +kernel, ini_RX10⟩
theorem pd_X10_list : (parseMethodDescriptor (mX10_list).1.desc).map (fun d => d.parameters.length) = some 3 := by decide +kernel
theorem im_X10_list : Cond.instanceMethod yX10_list ∈ lw_tbl := List.mem_of_getElem? (i := 1192) (by decide +kernel)
theorem se_X10_list : Cond.selects yX10_list.cls yX10_list yX10_list ∈ lw_tbl := List.mem_of_getElem? (i := 1193) (by decide +kernel)
abbrev mX10_pays : xK := (yX10_pays, cX10_pays, 7, (some .int), 1, 25)
theorem me_X10_pays : xMeth mX10_pays := ⟨List.mem_of_getElem? (i := 1201) (by decide +kernel), by decide +kernel, by decide +kernel, by decide +kernel, ini_RX10⟩
theorem pd_X10_pays : (parseMethodDescriptor (mX10_pays).1.desc).map (fun d => d.parameters.length) = some 2 := by decide +kernel
theorem im_X10_pays : Cond.instanceMethod yX10_pays ∈ lw_tbl := List.mem_of_getElem? (i := 1199) (by decide +kernel)
theorem se_X10_pays : Cond.selects yX10_pays.cls yX10_pays yX10_pays ∈ lw_tbl := List.mem_of_getElem? (i := 1200) (by decide +kernel)
abbrev mX10_met : xK := (yX10_met, cX10_met, 2, (some .int), 0, 0)
theorem me_X10_met : xMeth mX10_met := ⟨List.mem_of_getElem? (i := 1212) (by decide +kernel), by decide +kernel, by decide +kernel, by decide +kernel, ini_RX10⟩
theorem pd_X10_met : (parseMethodDescriptor (mX10_met).1.desc).map (fun d => d.parameters.length) = some 1 := by decide +kernel
theorem im_X10_met : Cond.instanceMethod yX10_met ∈ lw_tbl := List.mem_of_getElem? (i := 1211) (by decide +kernel)
theorem se_X10_met : Cond.selects yX10_met.cls yX10_met yX10_met ∈ lw_tbl := List.mem_of_getElem? (i := 45) (by decide +kernel)
abbrev mX10_isSheet : xK := (yX10_isSheet, cX10_isSheet, 1, (some .boolean), 1, 25)
theorem me_X10_isSheet : xMeth mX10_isSheet := ⟨List.mem_of_getElem? (i := 1208) (by decide +kernel), by decide +kernel, by decide +kernel, by decide +kernel, ini_RX10⟩
theorem pd_X10_isSheet : (parseMethodDescriptor (mX10_isSheet).1.desc).map (fun d => d.parameters.length) = some 1 := by decide +kernel
theorem st_X10_isSheet : Cond.static yX10_isSheet ∈ lw_tbl := List.mem_of_getElem? (i := 1207) (by decide +kernel)
abbrev mX10_sheet : xK := (yX10_sheet, cX10_sheet, 5, (some .int), 2, 45)
theorem me_X10_sheet : xMeth mX10_sheet := ⟨List.mem_of_getElem? (i := 1205) (by decide +kernel), by decide +kernel, by decide +kernel, by decide +kernel, ini_RX10⟩
theorem pd_X10_sheet : (parseMethodDescriptor (mX10_sheet).1.desc).map (fun d => d.parameters.length) = some 3 := by decide +kernel
theorem im_X10_sheet : Cond.instanceMethod yX10_sheet ∈ lw_tbl := List.mem_of_getElem? (i := 1203) (by decide +kernel)
theorem se_X10_sheet : Cond.selects yX10_sheet.cls yX10_sheet yX10_sheet ∈ lw_tbl := List.mem_of_getElem? (i := 1204) (by decide +kernel)
abbrev mX10_lose : xK := (yX10_lose, cX10_lose, 2, (some .int), 2, 45)
theorem me_X10_lose : xMeth mX10_lose := ⟨List.mem_of_getElem? (i := 1216) (by decide +kernel), by decide +kernel, by decide +kernel, by decide +kernel, ini_RX10⟩
theorem pd_X10_lose : (parseMethodDescriptor (mX10_lose).1.desc).map (fun d => d.parameters.length) = some 1 := by decide +kernel
theorem im_X10_lose : Cond.instanceMethod yX10_lose ∈ lw_tbl := List.mem_of_getElem? (i := 1214) (by decide +kernel)
theorem se_X10_lose : Cond.selects yX10_lose.cls yX10_lose yX10_lose ∈ lw_tbl := List.mem_of_getElem? (i := 1215) (by decide +kernel)
abbrev mX10_lacks : xK := (yX10_lacks, cX10_lacks, 4, (some .int), 1, 25)
theorem me_X10_lacks : xMeth mX10_lacks := ⟨List.mem_of_getElem? (i := 1224) (by decide +kernel), by decide +kernel, by decide +kernel, by decide +kernel, ini_RX10⟩
theorem pd_X10_lacks : (parseMethodDescriptor (mX10_lacks).1.desc).map (fun d => d.parameters.length) = some 3 := by decide +kernel
theorem im_X10_lacks : Cond.instanceMethod yX10_lacks ∈ lw_tbl := List.mem_of_getElem? (i := 1223) (by decide +kernel)
theorem se_X10_lacks : Cond.selects yX10_lacks.cls yX10_lacks yX10_lacks ∈ lw_tbl := List.mem_of_getElem? (i := 46) (by decide +kernel)
abbrev mX10_put : xK := (yX10_put, cX10_put, 6, (some .int), 2, 48)
theorem me_X10_put : xMeth mX10_put := ⟨List.mem_of_getElem? (i := 1220) (by decide +kernel), by decide +kernel, by decide +kernel, by decide +kernel, ini_RX10⟩
theorem pd_X10_put : (parseMethodDescriptor (mX10_put).1.desc).map (fun d => d.parameters.length) = some 4 := by decide +kernel
theorem im_X10_put : Cond.instanceMethod yX10_put ∈ lw_tbl := List.mem_of_getElem? (i := 1218) (by decide +kernel)
theorem se_X10_put : Cond.selects yX10_put.cls yX10_put yX10_put ∈ lw_tbl := List.mem_of_getElem? (i := 1219) (by decide +kernel)
abbrev mX10_get : xK := (yX10_get, cX10_get, 4, (some .int), 2, 48)
theorem me_X10_get : xMeth mX10_get := ⟨List.mem_of_getElem? (i := 1228) (by decide +kernel), by decide +kernel, by decide +kernel, by decide +kernel, ini_RX10⟩
theorem pd_X10_get : (parseMethodDescriptor (mX10_get).1.desc).map (fun d => d.parameters.length) = some 3 := by decide +kernel
theorem im_X10_get : Cond.instanceMethod yX10_get ∈ lw_tbl := List.mem_of_getElem? (i := 1226) (by decide +kernel)
theorem se_X10_get : Cond.selects yX10_get.cls yX10_get yX10_get ∈ lw_tbl := List.mem_of_getElem? (i := 1227) (by decide +kernel)
abbrev mX10_copy : xK := (yX10_copy, cX10_copy, 7, (some .int), 2, 45)
theorem me_X10_copy : xMeth mX10_copy := ⟨List.mem_of_getElem? (i := 1233) (by decide +kernel), by decide +kernel, by decide +kernel, by decide +kernel, ini_RX10⟩
theorem pd_X10_copy : (parseMethodDescriptor (mX10_copy).1.desc).map (fun d => d.parameters.length) = some 5 := by decide +kernel
theorem im_X10_copy : Cond.instanceMethod yX10_copy ∈ lw_tbl := List.mem_of_getElem? (i := 1231) (by decide +kernel)
theorem se_X10_copy : Cond.selects yX10_copy.cls yX10_copy yX10_copy ∈ lw_tbl := List.mem_of_getElem? (i := 1232) (by decide +kernel)
abbrev mX10_count : xK := (yX10_count, cX10_count, 4, (some .int), 0, 0)
theorem me_X10_count : xMeth mX10_count := ⟨List.mem_of_getElem? (i := 1237) (by decide +kernel), by decide +kernel, by decide +kernel, by decide +kernel, ini_RX10⟩
theorem pd_X10_count : (parseMethodDescriptor (mX10_count).1.desc).map (fun d => d.parameters.length) = some 1 := by decide +kernel
theorem im_X10_count : Cond.instanceMethod yX10_count ∈ lw_tbl := List.mem_of_getElem? (i := 1235) (by decide +kernel)
theorem se_X10_count : Cond.selects yX10_count.cls yX10_count yX10_count ∈ lw_tbl := List.mem_of_getElem? (i := 1236) (by decide +kernel)
abbrev mX10_digest : xK := (yX10_digest, cX10_digest, 4, (some .long), 5, 123)
theorem me_X10_digest : xMeth mX10_digest := ⟨List.mem_of_getElem? (i := 1241) (by decide +kernel), by decide +kernel, by decide +kernel, by decide +kernel, ini_RX10⟩
theorem pd_X10_digest : (parseMethodDescriptor (mX10_digest).1.desc).map (fun d => d.parameters.length) = some 0 := by decide +kernel
theorem im_X10_digest : Cond.instanceMethod yX10_digest ∈ lw_tbl := List.mem_of_getElem? (i := 1239) (by decide +kernel)
theorem se_X10_digest : Cond.selects yX10_digest.cls yX10_digest yX10_digest ∈ lw_tbl := List.mem_of_getElem? (i := 1240) (by decide +kernel)
abbrev mJ7_rangeCheck_23922 : xK := (yJ7_rangeCheck_23922, cJ7_rangeCheck_23922, 3, none, 0, 0)
theorem me_J7_rangeCheck_23922 : xMeth mJ7_rangeCheck_23922 := ⟨List.mem_of_getElem? (i := 776) (by decide +kernel), by decide +kernel, by decide +kernel, by decide +kernel, ini_RJ7⟩
theorem pd_J7_rangeCheck_23922 : (parseMethodDescriptor (mJ7_rangeCheck_23922).1.desc).map (fun d => d.parameters.length) = some 3 := by decide +kernel
theorem st_J7_rangeCheck_23922 : Cond.static yJ7_rangeCheck_23922 ∈ lw_tbl := List.mem_of_getElem? (i := 775) (by decide +kernel)
abbrev mJ7_fill_53178 : xK := (yJ7_fill_53178, cJ7_fill_53178, 4, none, 0, 0)
theorem me_J7_fill_53178 : xMeth mJ7_fill_53178 := ⟨List.mem_of_getElem? (i := 105) (by decide +kernel), by decide +kernel, by decide +kernel, by decide +kernel, ini_RJ7⟩
theorem pd_J7_fill_53178 : (parseMethodDescriptor (mJ7_fill_53178).1.desc).map (fun d => d.parameters.length) = some 2 := by decide +kernel
theorem st_J7_fill_53178 : Cond.static yJ7_fill_53178 ∈ lw_tbl := List.mem_of_getElem? (i := 104) (by decide +kernel)
abbrev mJ7_fill_fda19 : xK := (yJ7_fill_fda19, cJ7_fill_fda19, 5, none, 1, 22)
theorem me_J7_fill_fda19 : xMeth mJ7_fill_fda19 := ⟨List.mem_of_getElem? (i := 773) (by decide +kernel), by decide +kernel, by decide +kernel, by decide +kernel, ini_RJ7⟩
theorem pd_J7_fill_fda19 : (parseMethodDescriptor (mJ7_fill_fda19).1.desc).map (fun d => d.parameters.length) = some 4 := by decide +kernel
theorem st_J7_fill_fda19 : Cond.static yJ7_fill_fda19 ∈ lw_tbl := List.mem_of_getElem? (i := 772) (by decide +kernel)
theorem fl_X1_11 : xFL RX1 11 1 0 := ⟨RX1, TX1, 3, tyX1, rfl, by decide, List.mem_of_getElem? (i := 82) (by decide +kernel), inX1, tyX1_ok, nmX1, gdX1⟩
theorem fl_X3_48 : xFL RX3 48 1 0 := ⟨RX1, TX1, 3, tyX1, rfl, by decide, List.mem_of_getElem? (i := 83) (by decide +kernel), inX1, tyX1_ok, nmX1, gdX1⟩
theorem fl_X1_15 : xFL RX1 15 1 1 := ⟨RX1, TX1, 3, tyX1, rfl, by decide, List.mem_of_getElem? (i := 84) (by decide +kernel), inX1, tyX1_ok, nmX1, gdX1⟩
theorem fl_X3_79 : xFL RX3 79 1 1 := ⟨RX1, TX1, 3, tyX1, rfl, by decide, List.mem_of_getElem? (i := 85) (by decide +kernel), inX1, tyX1_ok, nmX1, gdX1⟩
theorem fl_X1_18 : xFL RX1 18 1 2 := ⟨RX1, TX1, 3, tyX1, rfl, by decide, List.mem_of_getElem? (i := 86) (by decide +kernel), inX1, tyX1_ok, nmX1, gdX1⟩
theorem fp_X1_18 : xFP RX1 18 1 2 := ⟨fl_X1_18, RX1, TX1, 3, rfl, rfl, by decide +kernel⟩
theorem fl_X3_71 : xFL RX3 71 1 2 := ⟨RX1, TX1, 3, tyX1, rfl, by decide, List.mem_of_getElem? (i := 87) (by decide +kernel), inX1, tyX1_ok, nmX1, gdX1⟩
theorem fp_X3_71 : xFP RX3 71 1 2 := ⟨fl_X3_71, RX1, TX1, 3, rfl, rfl, by decide +kernel⟩
theorem fl_X9_219 : xFL RX9 219 1 2 := ⟨RX1, TX1, 3, tyX1, rfl, by decide, List.mem_of_getElem? (i := 88) (by decide +kernel), inX1, tyX1_ok, nmX1, gdX1⟩
theorem fp_X9_219 : xFP RX9 219 1 2 := ⟨fl_X9_219, RX1, TX1, 3, rfl, rfl, by decide +kernel⟩
theorem fl_X4_11 : xFL RX4 11 4 0 := ⟨RX4, TX4, 8, tyX4, rfl, by decide, List.mem_of_getElem? (i := 106) (by decide +kernel), inX4, tyX4_ok, nmX4, gdX4⟩
theorem fl_X8_82 : xFL RX8 82 4 0 := ⟨RX4, TX4, 8, tyX4, rfl, by decide, List.mem_of_getElem? (i := 107) (by decide +kernel), inX4, tyX4_ok, nmX4, gdX4⟩
theorem fl_X3_82 : xFL RX3 82 4 0 := ⟨RX4, TX4, 8, tyX4, rfl, by decide, List.mem_of_getElem? (i := 108) (by decide +kernel), inX4, tyX4_ok, nmX4, gdX4⟩
theorem fl_X7_70 : xFL RX7 70 4 0 := ⟨RX4, TX4, 8, tyX4, rfl, by decide, List.mem_of_getElem? (i := 109) (by decide +kernel), inX4, tyX4_ok, nmX4, gdX4⟩
theorem fl_X4_15 : xFL RX4 15 4 1 := ⟨RX4, TX4, 8, tyX4, rfl, by decide, List.mem_of_getElem? (i := 110) (by decide +kernel), inX4, tyX4_ok, nmX4, gdX4⟩
theorem fl_X8_103 : xFL RX8 103 4 1 := ⟨RX4, TX4, 8, tyX4, rfl, by decide, List.mem_of_getElem? (i := 111) (by decide +kernel), inX4, tyX4_ok, nmX4, gdX4⟩
theorem fl_X9_182 : xFL RX9 182 4 1 := ⟨RX4, TX4, 8, tyX4, rfl, by decide, List.mem_of_getElem? (i := 112) (by decide +kernel), inX4, tyX4_ok, nmX4, gdX4⟩
theorem fl_X4_18 : xFL RX4 18 4 2 := ⟨RX4, TX4, 8, tyX4, rfl, by decide, List.mem_of_getElem? (i := 113) (by decide +kernel), inX4, tyX4_ok, nmX4, gdX4⟩
theorem fl_X4_21 : xFL RX4 21 4 3 := ⟨RX4, TX4, 8, tyX4, rfl, by decide, List.mem_of_getElem? (i := 114) (by decide +kernel), inX4, tyX4_ok, nmX4, gdX4⟩
theorem fl_X4_24 : xFL RX4 24 4 4 := ⟨RX4, TX4, 8, tyX4, rfl, by decide, List.mem_of_getElem? (i := 115) (by decide +kernel), inX4, tyX4_ok, nmX4, gdX4⟩
theorem fl_X8_75 : xFL RX8 75 4 4 := ⟨RX4, TX4, 8, tyX4, rfl, by decide, List.mem_of_getElem? (i := 116) (by decide +kernel), inX4, tyX4_ok, nmX4, gdX4⟩
theorem fl_X4_27 : xFL RX4 27 4 5 := ⟨RX4, TX4, 8, tyX4, rfl, by decide, List.mem_of_getElem? (i := 117) (by decide +kernel), inX4, tyX4_ok, nmX4, gdX4⟩
theorem fl_X3_52 : xFL RX3 52 4 5 := ⟨RX4, TX4, 8, tyX4, rfl, by decide, List.mem_of_getElem? (i := 118) (by decide +kernel), inX4, tyX4_ok, nmX4, gdX4⟩
theorem fl_X9_244 : xFL RX9 244 4 5 := ⟨RX4, TX4, 8, tyX4, rfl, by decide, List.mem_of_getElem? (i := 119) (by decide +kernel), inX4, tyX4_ok, nmX4, gdX4⟩
theorem fl_X4_30 : xFL RX4 30 4 6 := ⟨RX4, TX4, 8, tyX4, rfl, by decide, List.mem_of_getElem? (i := 120) (by decide +kernel), inX4, tyX4_ok, nmX4, gdX4⟩
theorem fl_X4_33 : xFL RX4 33 4 7 := ⟨RX4, TX4, 8, tyX4, rfl, by decide, List.mem_of_getElem? (i := 121) (by decide +kernel), inX4, tyX4_ok, nmX4, gdX4⟩
theorem fp_X4_33 : xFP RX4 33 4 7 := ⟨fl_X4_33, RX4, TX4, 8, rfl, rfl, by decide +kernel⟩
theorem fl_X8_68 : xFL RX8 68 4 7 := ⟨RX4, TX4, 8, tyX4, rfl, by decide, List.mem_of_getElem? (i := 122) (by decide +kernel), inX4, tyX4_ok, nmX4, gdX4⟩
theorem fp_X8_68 : xFP RX8 68 4 7 := ⟨fl_X8_68, RX4, TX4, 8, rfl, rfl, by decide +kernel⟩
theorem fl_X3_65 : xFL RX3 65 4 7 := ⟨RX4, TX4, 8, tyX4, rfl, by decide, List.mem_of_getElem? (i := 123) (by decide +kernel), inX4, tyX4_ok, nmX4, gdX4⟩
theorem fp_X3_65 : xFP RX3 65 4 7 := ⟨fl_X3_65, RX4, TX4, 8, rfl, rfl, by decide +kernel⟩
theorem fl_X7_66 : xFL RX7 66 4 7 := ⟨RX4, TX4, 8, tyX4, rfl, by decide, List.mem_of_getElem? (i := 124) (by decide +kernel), inX4, tyX4_ok, nmX4, gdX4⟩
theorem fp_X7_66 : xFP RX7 66 4 7 := ⟨fl_X7_66, RX4, TX4, 8, rfl, rfl, by decide +kernel⟩
theorem fl_X9_222 : xFL RX9 222 4 7 := ⟨RX4, TX4, 8, tyX4, rfl, by decide, List.mem_of_getElem? (i := 125) (by decide +kernel), inX4, tyX4_ok, nmX4, gdX4⟩
theorem fp_X9_222 : xFP RX9 222 4 7 := ⟨fl_X9_222, RX4, TX4, 8, rfl, rfl, by decide +kernel⟩
theorem fl_X3_12 : xFL RX3 12 3 0 := ⟨RX3, TX3, 3, tyX3, rfl, by decide, List.mem_of_getElem? (i := 143) (by decide +kernel), inX3, tyX3_ok, nmX3, gdX3⟩
theorem fl_X9_58 : xFL RX9 58 3 0 := ⟨RX3, TX3, 3, tyX3, rfl, by decide, List.mem_of_getElem? (i := 144) (by decide +kernel), inX3, tyX3_ok, nmX3, gdX3⟩
theorem fl_X3_21 : xFL RX3 21 3 1 := ⟨RX3, TX3, 3, tyX3, rfl, by decide, List.mem_of_getElem? (i := 145) (by decide +kernel), inX3, tyX3_ok, nmX3, gdX3⟩
theorem fl_X9_68 : xFL RX9 68 3 1 := ⟨RX3, TX3, 3, tyX3, rfl, by decide, List.mem_of_getElem? (i := 146) (by decide +kernel), inX3, tyX3_ok, nmX3, gdX3⟩
theorem fl_X3_25 : xFL RX3 25 3 2 := ⟨RX3, TX3, 3, tyX3, rfl, by decide, List.mem_of_getElem? (i := 147) (by decide +kernel), inX3, tyX3_ok, nmX3, gdX3⟩
theorem fp_X3_25 : xFP RX3 25 3 2 := ⟨fl_X3_25, RX3, TX3, 3, rfl, rfl, by decide +kernel⟩
theorem fl_X9_85 : xFL RX9 85 3 2 := ⟨RX3, TX3, 3, tyX3, rfl, by decide, List.mem_of_getElem? (i := 148) (by decide +kernel), inX3, tyX3_ok, nmX3, gdX3⟩
theorem fp_X9_85 : xFP RX9 85 3 2 := ⟨fl_X9_85, RX3, TX3, 3, rfl, rfl, by decide +kernel⟩
theorem fl_X8_13 : xFL RX8 13 8 0 := ⟨RX8, TX8, 10, tyX8, rfl, by decide, List.mem_of_getElem? (i := 162) (by decide +kernel), inX8, tyX8_ok, nmX8, gdX8⟩
theorem fp_X8_13 : xFP RX8 13 8 0 := ⟨fl_X8_13, RX8, TX8, 10, rfl, rfl, by decide +kernel⟩
theorem fl_X8_17 : xFL RX8 17 8 1 := ⟨RX8, TX8, 10, tyX8, rfl, by decide, List.mem_of_getElem? (i := 163) (by decide +kernel), inX8, tyX8_ok, nmX8, gdX8⟩
theorem fp_X8_17 : xFP RX8 17 8 1 := ⟨fl_X8_17, RX8, TX8, 10, rfl, rfl, by decide +kernel⟩
theorem fl_X8_20 : xFL RX8 20 8 2 := ⟨RX8, TX8, 10, tyX8, rfl, by decide, List.mem_of_getElem? (i := 164) (by decide +kernel), inX8, tyX8_ok, nmX8, gdX8⟩
theorem fp_X8_20 : xFP RX8 20 8 2 := ⟨fl_X8_20, RX8, TX8, 10, rfl, rfl, by decide +kernel⟩
theorem fl_X9_112 : xFL RX9 112 8 2 := ⟨RX8, TX8, 10, tyX8, rfl, by decide, List.mem_of_getElem? (i := 165) (by decide +kernel), inX8, tyX8_ok, nmX8, gdX8⟩
theorem fp_X9_112 : xFP RX9 112 8 2 := ⟨fl_X9_112, RX8, TX8, 10, rfl, rfl, by decide +kernel⟩
theorem fl_X8_23 : xFL RX8 23 8 3 := ⟨RX8, TX8, 10, tyX8, rfl, by decide, List.mem_of_getElem? (i := 166) (by decide +kernel), inX8, tyX8_ok, nmX8, gdX8⟩
theorem fp_X8_23 : xFP RX8 23 8 3 := ⟨fl_X8_23, RX8, TX8, 10, rfl, rfl, by decide +kernel⟩
theorem fl_X8_26 : xFL RX8 26 8 4 := ⟨RX8, TX8, 10, tyX8, rfl, by decide, List.mem_of_getElem? (i := 167) (by decide +kernel), inX8, tyX8_ok, nmX8, gdX8⟩
theorem fp_X8_26 : xFP RX8 26 8 4 := ⟨fl_X8_26, RX8, TX8, 10, rfl, rfl, by decide +kernel⟩
theorem fl_X8_29 : xFL RX8 29 8 5 := ⟨RX8, TX8, 10, tyX8, rfl, by decide, List.mem_of_getElem? (i := 168) (by decide +kernel), inX8, tyX8_ok, nmX8, gdX8⟩
theorem fl_X8_33 : xFL RX8 33 8 6 := ⟨RX8, TX8, 10, tyX8, rfl, by decide, List.mem_of_getElem? (i := 169) (by decide +kernel), inX8, tyX8_ok, nmX8, gdX8⟩
theorem fl_X8_36 : xFL RX8 36 8 7 := ⟨RX8, TX8, 10, tyX8, rfl, by decide, List.mem_of_getElem? (i := 170) (by decide +kernel), inX8, tyX8_ok, nmX8, gdX8⟩
theorem fl_X8_39 : xFL RX8 39 8 8 := ⟨RX8, TX8, 10, tyX8, rfl, by decide, List.mem_of_getElem? (i := 171) (by decide +kernel), inX8, tyX8_ok, nmX8, gdX8⟩
theorem fl_X8_42 : xFL RX8 42 8 9 := ⟨RX8, TX8, 10, tyX8, rfl, by decide, List.mem_of_getElem? (i := 172) (by decide +kernel), inX8, tyX8_ok, nmX8, gdX8⟩
theorem fl_X2_9 : xFL RX2 9 2 0 := ⟨RX2, TX2, 3, tyX2, rfl, by decide, List.mem_of_getElem? (i := 200) (by decide +kernel), inX2, tyX2_ok, nmX2, gdX2⟩
theorem fp_X2_9 : xFP RX2 9 2 0 := ⟨fl_X2_9, RX2, TX2, 3, rfl, rfl, by decide +kernel⟩
theorem fl_X2_15 : xFL RX2 15 2 1 := ⟨RX2, TX2, 3, tyX2, rfl, by decide, List.mem_of_getElem? (i := 201) (by decide +kernel), inX2, tyX2_ok, nmX2, gdX2⟩
theorem fp_X2_15 : xFP RX2 15 2 1 := ⟨fl_X2_15, RX2, TX2, 3, rfl, rfl, by decide +kernel⟩
theorem fl_X9_231 : xFL RX9 231 2 1 := ⟨RX2, TX2, 3, tyX2, rfl, by decide, List.mem_of_getElem? (i := 202) (by decide +kernel), inX2, tyX2_ok, nmX2, gdX2⟩
theorem fp_X9_231 : xFP RX9 231 2 1 := ⟨fl_X9_231, RX2, TX2, 3, rfl, rfl, by decide +kernel⟩
theorem fl_X2_18 : xFL RX2 18 2 2 := ⟨RX2, TX2, 3, tyX2, rfl, by decide, List.mem_of_getElem? (i := 203) (by decide +kernel), inX2, tyX2_ok, nmX2, gdX2⟩
theorem fl_X7_11 : xFL RX7 11 7 0 := ⟨RX7, TX7, 10, tyX7, rfl, by decide, List.mem_of_getElem? (i := 217) (by decide +kernel), inX7, tyX7_ok, nmX7, gdX7⟩
theorem fl_X9_157 : xFL RX9 157 7 0 := ⟨RX7, TX7, 10, tyX7, rfl, by decide, List.mem_of_getElem? (i := 218) (by decide +kernel), inX7, tyX7_ok, nmX7, gdX7⟩
theorem fl_X7_17 : xFL RX7 17 7 1 := ⟨RX7, TX7, 10, tyX7, rfl, by decide, List.mem_of_getElem? (i := 219) (by decide +kernel), inX7, tyX7_ok, nmX7, gdX7⟩
theorem fl_X9_169 : xFL RX9 169 7 1 := ⟨RX7, TX7, 10, tyX7, rfl, by decide, List.mem_of_getElem? (i := 220) (by decide +kernel), inX7, tyX7_ok, nmX7, gdX7⟩
theorem fl_X7_20 : xFL RX7 20 7 2 := ⟨RX7, TX7, 10, tyX7, rfl, by decide, List.mem_of_getElem? (i := 221) (by decide +kernel), inX7, tyX7_ok, nmX7, gdX7⟩
theorem fl_X9_172 : xFL RX9 172 7 2 := ⟨RX7, TX7, 10, tyX7, rfl, by decide, List.mem_of_getElem? (i := 222) (by decide +kernel), inX7, tyX7_ok, nmX7, gdX7⟩
theorem fl_X7_23 : xFL RX7 23 7 3 := ⟨RX7, TX7, 10, tyX7, rfl, by decide, List.mem_of_getElem? (i := 223) (by decide +kernel), inX7, tyX7_ok, nmX7, gdX7⟩
theorem fp_X7_23 : xFP RX7 23 7 3 := ⟨fl_X7_23, RX7, TX7, 10, rfl, rfl, by decide +kernel⟩
theorem fl_X9_227 : xFL RX9 227 7 3 := ⟨RX7, TX7, 10, tyX7, rfl, by decide, List.mem_of_getElem? (i := 224) (by decide +kernel), inX7, tyX7_ok, nmX7, gdX7⟩
theorem fp_X9_227 : xFP RX9 227 7 3 := ⟨fl_X9_227, RX7, TX7, 10, rfl, rfl, by decide +kernel⟩
theorem fl_X7_27 : xFL RX7 27 7 4 := ⟨RX7, TX7, 10, tyX7, rfl, by decide, List.mem_of_getElem? (i := 225) (by decide +kernel), inX7, tyX7_ok, nmX7, gdX7⟩
theorem fl_X7_30 : xFL RX7 30 7 5 := ⟨RX7, TX7, 10, tyX7, rfl, by decide, List.mem_of_getElem? (i := 226) (by decide +kernel), inX7, tyX7_ok, nmX7, gdX7⟩
theorem fl_X7_33 : xFL RX7 33 7 6 := ⟨RX7, TX7, 10, tyX7, rfl, by decide, List.mem_of_getElem? (i := 227) (by decide +kernel), inX7, tyX7_ok, nmX7, gdX7⟩
theorem fl_X7_36 : xFL RX7 36 7 7 := ⟨RX7, TX7, 10, tyX7, rfl, by decide, List.mem_of_getElem? (i := 228) (by decide +kernel), inX7, tyX7_ok, nmX7, gdX7⟩
theorem fl_X7_39 : xFL RX7 39 7 8 := ⟨RX7, TX7, 10, tyX7, rfl, by decide, List.mem_of_getElem? (i := 229) (by decide +kernel), inX7, tyX7_ok, nmX7, gdX7⟩
theorem fl_X7_42 : xFL RX7 42 7 9 := ⟨RX7, TX7, 10, tyX7, rfl, by decide, List.mem_of_getElem? (i := 230) (by decide +kernel), inX7, tyX7_ok, nmX7, gdX7⟩
theorem fl_X0_11 : xFL RX0 11 0 0 := ⟨RX0, TX0, 7, tyX0, rfl, by decide, List.mem_of_getElem? (i := 259) (by decide +kernel), inX0, tyX0_ok, nmX0, gdX0⟩
theorem fl_X9_197 : xFL RX9 197 0 0 := ⟨RX0, TX0, 7, tyX0, rfl, by decide, List.mem_of_getElem? (i := 260) (by decide +kernel), inX0, tyX0_ok, nmX0, gdX0⟩
theorem fl_X0_15 : xFL RX0 15 0 1 := ⟨RX0, TX0, 7, tyX0, rfl, by decide, List.mem_of_getElem? (i := 261) (by decide +kernel), inX0, tyX0_ok, nmX0, gdX0⟩
theorem fp_X0_15 : xFP RX0 15 0 1 := ⟨fl_X0_15, RX0, TX0, 7, rfl, rfl, by decide +kernel⟩
theorem fl_X9_228 : xFL RX9 228 0 1 := ⟨RX0, TX0, 7, tyX0, rfl, by decide, List.mem_of_getElem? (i := 262) (by decide +kernel), inX0, tyX0_ok, nmX0, gdX0⟩
theorem fp_X9_228 : xFP RX9 228 0 1 := ⟨fl_X9_228, RX0, TX0, 7, rfl, rfl, by decide +kernel⟩
theorem fl_X0_19 : xFL RX0 19 0 2 := ⟨RX0, TX0, 7, tyX0, rfl, by decide, List.mem_of_getElem? (i := 263) (by decide +kernel), inX0, tyX0_ok, nmX0, gdX0⟩
theorem fl_X0_22 : xFL RX0 22 0 3 := ⟨RX0, TX0, 7, tyX0, rfl, by decide, List.mem_of_getElem? (i := 264) (by decide +kernel), inX0, tyX0_ok, nmX0, gdX0⟩
theorem fl_X0_25 : xFL RX0 25 0 4 := ⟨RX0, TX0, 7, tyX0, rfl, by decide, List.mem_of_getElem? (i := 265) (by decide +kernel), inX0, tyX0_ok, nmX0, gdX0⟩
theorem fl_X0_28 : xFL RX0 28 0 5 := ⟨RX0, TX0, 7, tyX0, rfl, by decide, List.mem_of_getElem? (i := 266) (by decide +kernel), inX0, tyX0_ok, nmX0, gdX0⟩
theorem fl_X0_31 : xFL RX0 31 0 6 := ⟨RX0, TX0, 7, tyX0, rfl, by decide, List.mem_of_getElem? (i := 267) (by decide +kernel), inX0, tyX0_ok, nmX0, gdX0⟩
theorem fl_X5_9 : xFL RX5 9 5 0 := ⟨RX5, TX5, 4, tyX5, rfl, by decide, List.mem_of_getElem? (i := 289) (by decide +kernel), inX5, tyX5_ok, nmX5, gdX5⟩
theorem fp_X5_9 : xFP RX5 9 5 0 := ⟨fl_X5_9, RX5, TX5, 4, rfl, rfl, by decide +kernel⟩
theorem fl_X9_234 : xFL RX9 234 5 0 := ⟨RX5, TX5, 4, tyX5, rfl, by decide, List.mem_of_getElem? (i := 290) (by decide +kernel), inX5, tyX5_ok, nmX5, gdX5⟩
theorem fp_X9_234 : xFP RX9 234 5 0 := ⟨fl_X9_234, RX5, TX5, 4, rfl, rfl, by decide +kernel⟩
theorem fl_X5_15 : xFL RX5 15 5 1 := ⟨RX5, TX5, 4, tyX5, rfl, by decide, List.mem_of_getElem? (i := 291) (by decide +kernel), inX5, tyX5_ok, nmX5, gdX5⟩
theorem fl_X5_19 : xFL RX5 19 5 2 := ⟨RX5, TX5, 4, tyX5, rfl, by decide, List.mem_of_getElem? (i := 292) (by decide +kernel), inX5, tyX5_ok, nmX5, gdX5⟩
theorem fl_X5_22 : xFL RX5 22 5 3 := ⟨RX5, TX5, 4, tyX5, rfl, by decide, List.mem_of_getElem? (i := 293) (by decide +kernel), inX5, tyX5_ok, nmX5, gdX5⟩
theorem fl_X6_9 : xFL RX6 9 6 0 := ⟨RX6, TX6, 4, tyX6, rfl, by decide, List.mem_of_getElem? (i := 310) (by decide +kernel), inX6, tyX6_ok, nmX6, gdX6⟩
theorem fp_X6_9 : xFP RX6 9 6 0 := ⟨fl_X6_9, RX6, TX6, 4, rfl, rfl, by decide +kernel⟩
theorem fl_X9_235 : xFL RX9 235 6 0 := ⟨RX6, TX6, 4, tyX6, rfl, by decide, List.mem_of_getElem? (i := 311) (by decide +kernel), inX6, tyX6_ok, nmX6, gdX6⟩
theorem fp_X9_235 : xFP RX9 235 6 0 := ⟨fl_X9_235, RX6, TX6, 4, rfl, rfl, by decide +kernel⟩
theorem fl_X6_15 : xFL RX6 15 6 1 := ⟨RX6, TX6, 4, tyX6, rfl, by decide, List.mem_of_getElem? (i := 312) (by decide +kernel), inX6, tyX6_ok, nmX6, gdX6⟩
theorem fl_X6_19 : xFL RX6 19 6 2 := ⟨RX6, TX6, 4, tyX6, rfl, by decide, List.mem_of_getElem? (i := 313) (by decide +kernel), inX6, tyX6_ok, nmX6, gdX6⟩
theorem fl_X6_22 : xFL RX6 22 6 3 := ⟨RX6, TX6, 4, tyX6, rfl, by decide, List.mem_of_getElem? (i := 314) (by decide +kernel), inX6, tyX6_ok, nmX6, gdX6⟩
theorem fl_X9_10 : xFL RX9 10 9 0 := ⟨RX9, TX9, 7, tyX9, rfl, by decide, List.mem_of_getElem? (i := 324) (by decide +kernel), inX9, tyX9_ok, nmX9, gdX9⟩
theorem fl_X9_19 : xFL RX9 19 9 1 := ⟨RX9, TX9, 7, tyX9, rfl, by decide, List.mem_of_getElem? (i := 325) (by decide +kernel), inX9, tyX9_ok, nmX9, gdX9⟩
theorem fl_X9_26 : xFL RX9 26 9 2 := ⟨RX9, TX9, 7, tyX9, rfl, by decide, List.mem_of_getElem? (i := 326) (by decide +kernel), inX9, tyX9_ok, nmX9, gdX9⟩
theorem fl_X9_33 : xFL RX9 33 9 3 := ⟨RX9, TX9, 7, tyX9, rfl, by decide, List.mem_of_getElem? (i := 327) (by decide +kernel), inX9, tyX9_ok, nmX9, gdX9⟩
theorem fl_X9_40 : xFL RX9 40 9 4 := ⟨RX9, TX9, 7, tyX9, rfl, by decide, List.mem_of_getElem? (i := 328) (by decide +kernel), inX9, tyX9_ok, nmX9, gdX9⟩
theorem fl_X9_47 : xFL RX9 47 9 5 := ⟨RX9, TX9, 7, tyX9, rfl, by decide, List.mem_of_getElem? (i := 329) (by decide +kernel), inX9, tyX9_ok, nmX9, gdX9⟩
theorem fl_X9_54 : xFL RX9 54 9 6 := ⟨RX9, TX9, 7, tyX9, rfl, by decide, List.mem_of_getElem? (i := 330) (by decide +kernel), inX9, tyX9_ok, nmX9, gdX9⟩
theorem fl_X10_129 : xFL RX10 129 10 0 := ⟨RX10, TX10, 47, tyX10, rfl, by decide, List.mem_of_getElem? (i := 845) (by decide +kernel), inX10, tyX10_ok, nmX10, gdX10⟩
theorem fp_X10_129 : xFP RX10 129 10 0 := ⟨fl_X10_129, RX10, TX10, 47, rfl, rfl, by decide +kernel⟩
theorem fl_X10_7 : xFL RX10 7 10 1 := ⟨RX10, TX10, 47, tyX10, rfl, by decide, List.mem_of_getElem? (i := 846) (by decide +kernel), inX10, tyX10_ok, nmX10, gdX10⟩
theorem fl_X10_13 : xFL RX10 13 10 2 := ⟨RX10, TX10, 47, tyX10, rfl, by decide, List.mem_of_getElem? (i := 847) (by decide +kernel), inX10, tyX10_ok, nmX10, gdX10⟩
theorem fl_X10_136 : xFL RX10 136 10 3 := ⟨RX10, TX10, 47, tyX10, rfl, by decide, List.mem_of_getElem? (i := 848) (by decide +kernel), inX10, tyX10_ok, nmX10, gdX10⟩
theorem fp_X10_136 : xFP RX10 136 10 3 := ⟨fl_X10_136, RX10, TX10, 47, rfl, rfl, by decide +kernel⟩
theorem fl_X10_16 : xFL RX10 16 10 4 := ⟨RX10, TX10, 47, tyX10, rfl, by decide, List.mem_of_getElem? (i := 849) (by decide +kernel), inX10, tyX10_ok, nmX10, gdX10⟩
theorem fl_X10_19 : xFL RX10 19 10 5 := ⟨RX10, TX10, 47, tyX10, rfl, by decide, List.mem_of_getElem? (i := 850) (by decide +kernel), inX10, tyX10_ok, nmX10, gdX10⟩
theorem fl_X10_22 : xFL RX10 22 10 6 := ⟨RX10, TX10, 47, tyX10, rfl, by decide, List.mem_of_getElem? (i := 851) (by decide +kernel), inX10, tyX10_ok, nmX10, gdX10⟩
theorem fl_X10_25 : xFL RX10 25 10 7 := ⟨RX10, TX10, 47, tyX10, rfl, by decide, List.mem_of_getElem? (i := 852) (by decide +kernel), inX10, tyX10_ok, nmX10, gdX10⟩
theorem fl_X10_28 : xFL RX10 28 10 8 := ⟨RX10, TX10, 47, tyX10, rfl, by decide, List.mem_of_getElem? (i := 853) (by decide +kernel), inX10, tyX10_ok, nmX10, gdX10⟩
theorem fl_X10_31 : xFL RX10 31 10 9 := ⟨RX10, TX10, 47, tyX10, rfl, by decide, List.mem_of_getElem? (i := 854) (by decide +kernel), inX10, tyX10_ok, nmX10, gdX10⟩
theorem fl_X10_34 : xFL RX10 34 10 10 := ⟨RX10, TX10, 47, tyX10, rfl, by decide, List.mem_of_getElem? (i := 855) (by decide +kernel), inX10, tyX10_ok, nmX10, gdX10⟩
theorem fl_X10_37 : xFL RX10 37 10 11 := ⟨RX10, TX10, 47, tyX10, rfl, by decide, List.mem_of_getElem? (i := 856) (by decide +kernel), inX10, tyX10_ok, nmX10, gdX10⟩
theorem fp_X10_37 : xFP RX10 37 10 11 := ⟨fl_X10_37, RX10, TX10, 47, rfl, rfl, by decide +kernel⟩
theorem fl_X10_41 : xFL RX10 41 10 12 := ⟨RX10, TX10, 47, tyX10, rfl, by decide, List.mem_of_getElem? (i := 857) (by decide +kernel), inX10, tyX10_ok, nmX10, gdX10⟩
theorem fl_X10_185 : xFL RX10 185 10 13 := ⟨RX10, TX10, 47, tyX10, rfl, by decide, List.mem_of_getElem? (i := 858) (by decide +kernel), inX10, tyX10_ok, nmX10, gdX10⟩
theorem fp_X10_185 : xFP RX10 185 10 13 := ⟨fl_X10_185, RX10, TX10, 47, rfl, rfl, by decide +kernel⟩
theorem fl_X10_44 : xFL RX10 44 10 14 := ⟨RX10, TX10, 47, tyX10, rfl, by decide, List.mem_of_getElem? (i := 859) (by decide +kernel), inX10, tyX10_ok, nmX10, gdX10⟩
theorem fl_X10_47 : xFL RX10 47 10 15 := ⟨RX10, TX10, 47, tyX10, rfl, by decide, List.mem_of_getElem? (i := 860) (by decide +kernel), inX10, tyX10_ok, nmX10, gdX10⟩
theorem fl_X10_50 : xFL RX10 50 10 16 := ⟨RX10, TX10, 47, tyX10, rfl, by decide, List.mem_of_getElem? (i := 861) (by decide +kernel), inX10, tyX10_ok, nmX10, gdX10⟩
theorem fl_X10_54 : xFL RX10 54 10 17 := ⟨RX10, TX10, 47, tyX10, rfl, by decide, List.mem_of_getElem? (i := 862) (by decide +kernel), inX10, tyX10_ok, nmX10, gdX10⟩
theorem fl_X10_57 : xFL RX10 57 10 18 := ⟨RX10, TX10, 47, tyX10, rfl, by decide, List.mem_of_getElem? (i := 863) (by decide +kernel), inX10, tyX10_ok, nmX10, gdX10⟩
theorem fp_X10_57 : xFP RX10 57 10 18 := ⟨fl_X10_57, RX10, TX10, 47, rfl, rfl, by decide +kernel⟩
theorem fl_X10_203 : xFL RX10 203 10 19 := ⟨RX10, TX10, 47, tyX10, rfl, by decide, List.mem_of_getElem? (i := 864) (by decide +kernel), inX10, tyX10_ok, nmX10, gdX10⟩
theorem fp_X10_203 : xFP RX10 203 10 19 := ⟨fl_X10_203, RX10, TX10, 47, rfl, rfl, by decide +kernel⟩
theorem fl_X10_60 : xFL RX10 60 10 20 := ⟨RX10, TX10, 47, tyX10, rfl, by decide, List.mem_of_getElem? (i := 865) (by decide +kernel), inX10, tyX10_ok, nmX10, gdX10⟩
theorem fl_X10_63 : xFL RX10 63 10 21 := ⟨RX10, TX10, 47, tyX10, rfl, by decide, List.mem_of_getElem? (i := 866) (by decide +kernel), inX10, tyX10_ok, nmX10, gdX10⟩
theorem fl_X10_210 : xFL RX10 210 10 22 := ⟨RX10, TX10, 47, tyX10, rfl, by decide, List.mem_of_getElem? (i := 867) (by decide +kernel), inX10, tyX10_ok, nmX10, gdX10⟩
theorem fp_X10_210 : xFP RX10 210 10 22 := ⟨fl_X10_210, RX10, TX10, 47, rfl, rfl, by decide +kernel⟩
theorem fl_X10_66 : xFL RX10 66 10 23 := ⟨RX10, TX10, 47, tyX10, rfl, by decide, List.mem_of_getElem? (i := 868) (by decide +kernel), inX10, tyX10_ok, nmX10, gdX10⟩
theorem fl_X10_69 : xFL RX10 69 10 24 := ⟨RX10, TX10, 47, tyX10, rfl, by decide, List.mem_of_getElem? (i := 869) (by decide +kernel), inX10, tyX10_ok, nmX10, gdX10⟩
theorem fl_X10_72 : xFL RX10 72 10 25 := ⟨RX10, TX10, 47, tyX10, rfl, by decide, List.mem_of_getElem? (i := 870) (by decide +kernel), inX10, tyX10_ok, nmX10, gdX10⟩
theorem fl_X10_75 : xFL RX10 75 10 26 := ⟨RX10, TX10, 47, tyX10, rfl, by decide, List.mem_of_getElem? (i := 871) (by decide +kernel), inX10, tyX10_ok, nmX10, gdX10⟩
theorem fl_X10_78 : xFL RX10 78 10 27 := ⟨RX10, TX10, 47, tyX10, rfl, by decide, List.mem_of_getElem? (i := 872) (by decide +kernel), inX10, tyX10_ok, nmX10, gdX10⟩
theorem fl_X10_81 : xFL RX10 81 10 28 := ⟨RX10, TX10, 47, tyX10, rfl, by decide, List.mem_of_getElem? (i := 873) (by decide +kernel), inX10, tyX10_ok, nmX10, gdX10⟩
theorem fl_X10_84 : xFL RX10 84 10 29 := ⟨RX10, TX10, 47, tyX10, rfl, by decide, List.mem_of_getElem? (i := 874) (by decide +kernel), inX10, tyX10_ok, nmX10, gdX10⟩
theorem fl_X10_87 : xFL RX10 87 10 30 := ⟨RX10, TX10, 47, tyX10, rfl, by decide, List.mem_of_getElem? (i := 875) (by decide +kernel), inX10, tyX10_ok, nmX10, gdX10⟩
theorem fl_X10_90 : xFL RX10 90 10 31 := ⟨RX10, TX10, 47, tyX10, rfl, by decide, List.mem_of_getElem? (i := 876) (by decide +kernel), inX10, tyX10_ok, nmX10, gdX10⟩
theorem fl_X10_93 : xFL RX10 93 10 32 := ⟨RX10, TX10, 47, tyX10, rfl, by decide, List.mem_of_getElem? (i := 877) (by decide +kernel), inX10, tyX10_ok, nmX10, gdX10⟩
theorem fl_X10_96 : xFL RX10 96 10 33 := ⟨RX10, TX10, 47, tyX10, rfl, by decide, List.mem_of_getElem? (i := 878) (by decide +kernel), inX10, tyX10_ok, nmX10, gdX10⟩
theorem fl_X10_223 : xFL RX10 223 10 34 := ⟨RX10, TX10, 47, tyX10, rfl, by decide, List.mem_of_getElem? (i := 879) (by decide +kernel), inX10, tyX10_ok, nmX10, gdX10⟩
theorem fp_X10_223 : xFP RX10 223 10 34 := ⟨fl_X10_223, RX10, TX10, 47, rfl, rfl, by decide +kernel⟩
theorem fl_X10_99 : xFL RX10 99 10 35 := ⟨RX10, TX10, 47, tyX10, rfl, by decide, List.mem_of_getElem? (i := 880) (by decide +kernel), inX10, tyX10_ok, nmX10, gdX10⟩
theorem fl_X10_102 : xFL RX10 102 10 36 := ⟨RX10, TX10, 47, tyX10, rfl, by decide, List.mem_of_getElem? (i := 881) (by decide +kernel), inX10, tyX10_ok, nmX10, gdX10⟩
theorem fl_X10_105 : xFL RX10 105 10 37 := ⟨RX10, TX10, 47, tyX10, rfl, by decide, List.mem_of_getElem? (i := 882) (by decide +kernel), inX10, tyX10_ok, nmX10, gdX10⟩
theorem fl_X10_244 : xFL RX10 244 10 38 := ⟨RX10, TX10, 47, tyX10, rfl, by decide, List.mem_of_getElem? (i := 883) (by decide +kernel), inX10, tyX10_ok, nmX10, gdX10⟩
theorem fp_X10_244 : xFP RX10 244 10 38 := ⟨fl_X10_244, RX10, TX10, 47, rfl, rfl, by decide +kernel⟩
theorem fl_X10_108 : xFL RX10 108 10 39 := ⟨RX10, TX10, 47, tyX10, rfl, by decide, List.mem_of_getElem? (i := 884) (by decide +kernel), inX10, tyX10_ok, nmX10, gdX10⟩
theorem fl_X10_111 : xFL RX10 111 10 40 := ⟨RX10, TX10, 47, tyX10, rfl, by decide, List.mem_of_getElem? (i := 885) (by decide +kernel), inX10, tyX10_ok, nmX10, gdX10⟩
theorem fl_X10_114 : xFL RX10 114 10 41 := ⟨RX10, TX10, 47, tyX10, rfl, by decide, List.mem_of_getElem? (i := 886) (by decide +kernel), inX10, tyX10_ok, nmX10, gdX10⟩
theorem fl_X10_117 : xFL RX10 117 10 42 := ⟨RX10, TX10, 47, tyX10, rfl, by decide, List.mem_of_getElem? (i := 887) (by decide +kernel), inX10, tyX10_ok, nmX10, gdX10⟩
theorem fl_X10_120 : xFL RX10 120 10 43 := ⟨RX10, TX10, 47, tyX10, rfl, by decide, List.mem_of_getElem? (i := 888) (by decide +kernel), inX10, tyX10_ok, nmX10, gdX10⟩
theorem fl_X10_123 : xFL RX10 123 10 44 := ⟨RX10, TX10, 47, tyX10, rfl, by decide, List.mem_of_getElem? (i := 889) (by decide +kernel), inX10, tyX10_ok, nmX10, gdX10⟩
theorem fl_X10_126 : xFL RX10 126 10 45 := ⟨RX10, TX10, 47, tyX10, rfl, by decide, List.mem_of_getElem? (i := 890) (by decide +kernel), inX10, tyX10_ok, nmX10, gdX10⟩
theorem fl_X10_247 : xFL RX10 247 10 46 := ⟨RX10, TX10, 47, tyX10, rfl, by decide, List.mem_of_getElem? (i := 891) (by decide +kernel), inX10, tyX10_ok, nmX10, gdX10⟩
theorem fp_X10_247 : xFP RX10 247 10 46 := ⟨fl_X10_247, RX10, TX10, 47, rfl, rfl, by decide +kernel⟩
theorem kc_X6_54 : xCI RX6 54 (-2147483648) := List.mem_of_getElem? (i := 808) (by decide +kernel)
theorem kc_X9_238 : xCL RX9 238 (17) := List.mem_of_getElem? (i := 834) (by decide +kernel)
theorem kc_X9_240 : xCL RX9 240 (31) := List.mem_of_getElem? (i := 835) (by decide +kernel)
theorem kc_X10_141 : xCL RX10 141 (5) := List.mem_of_getElem? (i := 992) (by decide +kernel)
theorem kc_X10_143 : xCL RX10 143 (8) := List.mem_of_getElem? (i := 996) (by decide +kernel)
theorem kc_X10_139 : xCL RX10 139 (9) := List.mem_of_getElem? (i := 1004) (by decide +kernel)
theorem kc_X10_149 : xCL RX10 149 (-1) := List.mem_of_getElem? (i := 1005) (by decide +kernel)
theorem kc_X10_154 : xCL RX10 154 (2) := List.mem_of_getElem? (i := 1014) (by decide +kernel)
theorem kc_X10_183 : xCL RX10 183 (200) := List.mem_of_getElem? (i := 1075) (by decide +kernel)
theorem kc_X10_196 : xCL RX10 196 (50) := List.mem_of_getElem? (i := 1096) (by decide +kernel)
theorem kc_X10_201 : xCL RX10 201 (500) := List.mem_of_getElem? (i := 1109) (by decide +kernel)
theorem kc_X10_206 : xCL RX10 206 (4) := List.mem_of_getElem? (i := 1114) (by decide +kernel)
theorem kc_X10_208 : xCL RX10 208 (39) := List.mem_of_getElem? (i := 1123) (by decide +kernel)
theorem kc_X10_226 : xCL RX10 226 (3) := List.mem_of_getElem? (i := 1164) (by decide +kernel)
theorem kc_X10_228 : xCL RX10 228 (17) := List.mem_of_getElem? (i := 1165) (by decide +kernel)
theorem kc_X10_230 : xCL RX10 230 (20) := List.mem_of_getElem? (i := 1166) (by decide +kernel)
theorem kc_X10_238 : xCL RX10 238 (999) := List.mem_of_getElem? (i := 1195) (by decide +kernel)
theorem kc_X10_240 : xCL RX10 240 (99) := List.mem_of_getElem? (i := 1196) (by decide +kernel)
theorem kc_X10_242 : xCL RX10 242 (100) := List.mem_of_getElem? (i := 1197) (by decide +kernel)
theorem kc_X10_260 : xCI RX10 260 (-2147483648) := List.mem_of_getElem? (i := 1229) (by decide +kernel)
theorem kc_X10_261 : xCL RX10 261 (31) := List.mem_of_getElem? (i := 1242) (by decide +kernel)
theorem lk_X4_37 : Cond.methodLink RX4 37 yJ7_fill_53178 ∈ lw_tbl := List.mem_of_getElem? (i := 103) (by decide +kernel)
theorem lk_X0_34 : Cond.methodLink RX0 34 yJ7_fill_53178 ∈ lw_tbl := List.mem_of_getElem? (i := 258) (by decide +kernel)
theorem lk_X6_25 : Cond.methodLink RX6 25 yJ7_fill_53178 ∈ lw_tbl := List.mem_of_getElem? (i := 309) (by decide +kernel)
theorem lk_X9_62 : Cond.methodLink RX9 62 yX1_add ∈ lw_tbl := List.mem_of_getElem? (i := 350) (by decide +kernel)
theorem lk_X9_72 : Cond.methodLink RX9 72 yX4_add ∈ lw_tbl := List.mem_of_getElem? (i := 361) (by decide +kernel)
theorem lk_X9_124 : Cond.methodLink RX9 124 yX9_within ∈ lw_tbl := List.mem_of_getElem? (i := 369) (by decide +kernel)
theorem lk_X9_77 : Cond.methodLink RX9 77 yX3_relate ∈ lw_tbl := List.mem_of_getElem? (i := 374) (by decide +kernel)
theorem lk_X3_29 : Cond.methodLink RX3 29 yX4_has ∈ lw_tbl := List.mem_of_getElem? (i := 378) (by decide +kernel)
theorem lk_X3_37 : Cond.methodLink RX3 37 yX3_liveInOneRow ∈ lw_tbl := List.mem_of_getElem? (i := 383) (by decide +kernel)
theorem lk_X3_45 : Cond.methodLink RX3 45 yX4_isLodged ∈ lw_tbl := List.mem_of_getElem? (i := 387) (by decide +kernel)
theorem lk_X3_55 : Cond.methodLink RX3 55 yX3_isInRow ∈ lw_tbl := List.mem_of_getElem? (i := 391) (by decide +kernel)
theorem lk_X3_58 : Cond.methodLink RX3 58 yX4_shareWeek ∈ lw_tbl := List.mem_of_getElem? (i := 395) (by decide +kernel)
theorem lk_X3_41 : Cond.methodLink RX3 41 yX4_setTold ∈ lw_tbl := List.mem_of_getElem? (i := 399) (by decide +kernel)
theorem lk_X9_81 : Cond.methodLink RX9 81 yX3_takeIn ∈ lw_tbl := List.mem_of_getElem? (i := 407) (by decide +kernel)
theorem lk_X3_61 : Cond.methodLink RX3 61 yX3_dearestHut ∈ lw_tbl := List.mem_of_getElem? (i := 411) (by decide +kernel)
theorem lk_X3_72 : Cond.methodLink RX3 72 yX3_mayHave ∈ lw_tbl := List.mem_of_getElem? (i := 415) (by decide +kernel)
theorem lk_X3_85 : Cond.methodLink RX3 85 yX4_areTold ∈ lw_tbl := List.mem_of_getElem? (i := 419) (by decide +kernel)
theorem lk_X3_75 : Cond.methodLink RX3 75 yX3_cost ∈ lw_tbl := List.mem_of_getElem? (i := 423) (by decide +kernel)
theorem lk_X3_88 : Cond.methodLink RX3 88 yX3_isNextTo ∈ lw_tbl := List.mem_of_getElem? (i := 427) (by decide +kernel)
theorem lk_X3_68 : Cond.methodLink RX3 68 yX3_makesRoom ∈ lw_tbl := List.mem_of_getElem? (i := 431) (by decide +kernel)
theorem lk_X9_89 : Cond.methodLink RX9 89 yX4_giveUpHut ∈ lw_tbl := List.mem_of_getElem? (i := 443) (by decide +kernel)
theorem lk_X4_54 : Cond.methodLink RX4 54 yX4_has ∈ lw_tbl := List.mem_of_getElem? (i := 447) (by decide +kernel)
theorem lk_X4_51 : Cond.methodLink RX4 51 yX4_isLodged ∈ lw_tbl := List.mem_of_getElem? (i := 448) (by decide +kernel)
theorem lk_X9_92 : Cond.methodLink RX9 92 yX4_fact ∈ lw_tbl := List.mem_of_getElem? (i := 453) (by decide +kernel)
theorem lk_X9_95 : Cond.methodLink RX9 95 yX3_guest ∈ lw_tbl := List.mem_of_getElem? (i := 461) (by decide +kernel)
theorem lk_X3_91 : Cond.methodLink RX3 91 yX1_has ∈ lw_tbl := List.mem_of_getElem? (i := 465) (by decide +kernel)
theorem lk_X3_95 : Cond.methodLink RX3 95 yX3_whoIsIn ∈ lw_tbl := List.mem_of_getElem? (i := 470) (by decide +kernel)
theorem lk_X3_98 : Cond.methodLink RX3 98 yX4_isThere ∈ lw_tbl := List.mem_of_getElem? (i := 474) (by decide +kernel)
theorem lk_X9_98 : Cond.methodLink RX9 98 yX3_emptyBeds ∈ lw_tbl := List.mem_of_getElem? (i := 482) (by decide +kernel)
theorem lk_X9_101 : Cond.methodLink RX9 101 yX8_setSeats ∈ lw_tbl := List.mem_of_getElem? (i := 490) (by decide +kernel)
theorem lk_X9_104 : Cond.methodLink RX9 104 yX9_isWeek ∈ lw_tbl := List.mem_of_getElem? (i := 499) (by decide +kernel)
theorem lk_X9_108 : Cond.methodLink RX9 108 yX8_arrange ∈ lw_tbl := List.mem_of_getElem? (i := 500) (by decide +kernel)
theorem lk_X8_49 : Cond.methodLink RX8 49 yX8_fillBenches ∈ lw_tbl := List.mem_of_getElem? (i := 504) (by decide +kernel)
theorem lk_X8_62 : Cond.methodLink RX8 62 yJ7_fill_53178 ∈ lw_tbl := List.mem_of_getElem? (i := 508) (by decide +kernel)
theorem lk_X8_71 : Cond.methodLink RX8 71 yX4_isThere ∈ lw_tbl := List.mem_of_getElem? (i := 509) (by decide +kernel)
theorem lk_X8_78 : Cond.methodLink RX8 78 yX8_benchFor ∈ lw_tbl := List.mem_of_getElem? (i := 510) (by decide +kernel)
theorem lk_X8_53 : Cond.methodLink RX8 53 yX8_findNumbers ∈ lw_tbl := List.mem_of_getElem? (i := 514) (by decide +kernel)
theorem lk_X8_56 : Cond.methodLink RX8 56 yX8_findDifference ∈ lw_tbl := List.mem_of_getElem? (i := 518) (by decide +kernel)
theorem lk_X8_90 : Cond.methodLink RX8 90 yX8_isWay ∈ lw_tbl := List.mem_of_getElem? (i := 525) (by decide +kernel)
theorem lk_X8_59 : Cond.methodLink RX8 59 yX8_partBenches ∈ lw_tbl := List.mem_of_getElem? (i := 529) (by decide +kernel)
theorem lk_X8_94 : Cond.methodLink RX8 94 yX8_leadsToBest ∈ lw_tbl := List.mem_of_getElem? (i := 533) (by decide +kernel)
theorem lk_X8_97 : Cond.methodLink RX8 97 yX8_canBecome ∈ lw_tbl := List.mem_of_getElem? (i := 537) (by decide +kernel)
theorem lk_X9_115 : Cond.methodLink RX9 115 yX4_has ∈ lw_tbl := List.mem_of_getElem? (i := 545) (by decide +kernel)
theorem lk_X9_118 : Cond.methodLink RX9 118 yX8_sittingOf ∈ lw_tbl := List.mem_of_getElem? (i := 546) (by decide +kernel)
theorem lk_X9_121 : Cond.methodLink RX9 121 yX2_setPart ∈ lw_tbl := List.mem_of_getElem? (i := 554) (by decide +kernel)
theorem lk_X9_128 : Cond.methodLink RX9 128 yX8_dinners ∈ lw_tbl := List.mem_of_getElem? (i := 563) (by decide +kernel)
theorem lk_X8_100 : Cond.methodLink RX8 100 yX8_sittingOf ∈ lw_tbl := List.mem_of_getElem? (i := 567) (by decide +kernel)
theorem lk_X9_132 : Cond.methodLink RX9 132 yX9_foretell ∈ lw_tbl := List.mem_of_getElem? (i := 572) (by decide +kernel)
theorem lk_X9_135 : Cond.methodLink RX9 135 yX2_serve ∈ lw_tbl := List.mem_of_getElem? (i := 573) (by decide +kernel)
theorem lk_X9_139 : Cond.methodLink RX9 139 yX2_entry ∈ lw_tbl := List.mem_of_getElem? (i := 581) (by decide +kernel)
theorem lk_X9_142 : Cond.methodLink RX9 142 yX7_setRoom ∈ lw_tbl := List.mem_of_getElem? (i := 589) (by decide +kernel)
theorem lk_X9_145 : Cond.methodLink RX9 145 yX7_add ∈ lw_tbl := List.mem_of_getElem? (i := 598) (by decide +kernel)
theorem lk_X9_147 : Cond.methodLink RX9 147 yX7_addWish ∈ lw_tbl := List.mem_of_getElem? (i := 609) (by decide +kernel)
theorem lk_X7_53 : Cond.methodLink RX7 53 yX7_has ∈ lw_tbl := List.mem_of_getElem? (i := 613) (by decide +kernel)
theorem lk_X7_56 : Cond.methodLink RX7 56 yX7_isWished ∈ lw_tbl := List.mem_of_getElem? (i := 617) (by decide +kernel)
theorem lk_X9_150 : Cond.methodLink RX9 150 yX9_isHour ∈ lw_tbl := List.mem_of_getElem? (i := 625) (by decide +kernel)
theorem lk_X9_153 : Cond.methodLink RX9 153 yX6_countsAsWet ∈ lw_tbl := List.mem_of_getElem? (i := 626) (by decide +kernel)
theorem lk_X6_64 : Cond.methodLink RX6 64 yX6_isWet ∈ lw_tbl := List.mem_of_getElem? (i := 630) (by decide +kernel)
theorem lk_X9_156 : Cond.methodLink RX9 156 yX7_has ∈ lw_tbl := List.mem_of_getElem? (i := 638) (by decide +kernel)
theorem lk_X9_161 : Cond.methodLink RX9 161 yX7_place ∈ lw_tbl := List.mem_of_getElem? (i := 639) (by decide +kernel)
theorem lk_X9_165 : Cond.methodLink RX9 165 yX7_send ∈ lw_tbl := List.mem_of_getElem? (i := 647) (by decide +kernel)
theorem lk_X7_67 : Cond.methodLink RX7 67 yX4_isThere ∈ lw_tbl := List.mem_of_getElem? (i := 654) (by decide +kernel)
theorem lk_X7_73 : Cond.methodLink RX7 73 yX7_sendParty ∈ lw_tbl := List.mem_of_getElem? (i := 655) (by decide +kernel)
theorem lk_X7_77 : Cond.methodLink RX7 77 yX7_place ∈ lw_tbl := List.mem_of_getElem? (i := 659) (by decide +kernel)
theorem lk_X9_175 : Cond.methodLink RX9 175 yX7_peopleIn ∈ lw_tbl := List.mem_of_getElem? (i := 668) (by decide +kernel)
theorem lk_X9_179 : Cond.methodLink RX9 179 yX0_define ∈ lw_tbl := List.mem_of_getElem? (i := 676) (by decide +kernel)
theorem lk_X0_44 : Cond.methodLink RX0 44 yX0_isOfAnother ∈ lw_tbl := List.mem_of_getElem? (i := 681) (by decide +kernel)
theorem lk_X0_47 : Cond.methodLink RX0 47 yX0_childrenIn ∈ lw_tbl := List.mem_of_getElem? (i := 685) (by decide +kernel)
theorem lk_X9_185 : Cond.methodLink RX9 185 yX0_addChild ∈ lw_tbl := List.mem_of_getElem? (i := 693) (by decide +kernel)
theorem lk_X0_51 : Cond.methodLink RX0 51 yX0_childrenOf ∈ lw_tbl := List.mem_of_getElem? (i := 697) (by decide +kernel)
theorem lk_X9_188 : Cond.methodLink RX9 188 yX0_handOver ∈ lw_tbl := List.mem_of_getElem? (i := 705) (by decide +kernel)
theorem lk_X0_54 : Cond.methodLink RX0 54 yX0_hasChild ∈ lw_tbl := List.mem_of_getElem? (i := 709) (by decide +kernel)
theorem lk_X0_58 : Cond.methodLink RX0 58 yX0_groupFor ∈ lw_tbl := List.mem_of_getElem? (i := 713) (by decide +kernel)
theorem lk_X9_191 : Cond.methodLink RX9 191 yX0_giveBack ∈ lw_tbl := List.mem_of_getElem? (i := 721) (by decide +kernel)
theorem lk_X9_194 : Cond.methodLink RX9 194 yX0_hasChild ∈ lw_tbl := List.mem_of_getElem? (i := 729) (by decide +kernel)
theorem lk_X9_200 : Cond.methodLink RX9 200 yX5_add ∈ lw_tbl := List.mem_of_getElem? (i := 734) (by decide +kernel)
theorem lk_X9_201 : Cond.methodLink RX9 201 yX5_paidBack ∈ lw_tbl := List.mem_of_getElem? (i := 743) (by decide +kernel)
theorem lk_X5_29 : Cond.methodLink RX5 29 yX5_latestDay ∈ lw_tbl := List.mem_of_getElem? (i := 747) (by decide +kernel)
theorem lk_X9_204 : Cond.methodLink RX9 204 yX6_renew ∈ lw_tbl := List.mem_of_getElem? (i := 758) (by decide +kernel)
theorem lk_X6_35 : Cond.methodLink RX6 35 yX6_has ∈ lw_tbl := List.mem_of_getElem? (i := 762) (by decide +kernel)
theorem lk_X6_39 : Cond.methodLink RX6 39 yX6_find ∈ lw_tbl := List.mem_of_getElem? (i := 767) (by decide +kernel)
theorem lk_X6_43 : Cond.methodLink RX6 43 yJ7_fill_fda19 ∈ lw_tbl := List.mem_of_getElem? (i := 771) (by decide +kernel)
theorem lk_J7_13 : Cond.methodLink RJ7 13 yJ7_rangeCheck_23922 ∈ lw_tbl := List.mem_of_getElem? (i := 774) (by decide +kernel)
theorem lk_X9_207 : Cond.methodLink RX9 207 yX6_drop ∈ lw_tbl := List.mem_of_getElem? (i := 781) (by decide +kernel)
theorem lk_X9_210 : Cond.methodLink RX9 210 yX6_store ∈ lw_tbl := List.mem_of_getElem? (i := 789) (by decide +kernel)
theorem lk_X6_46 : Cond.methodLink RX6 46 yX6_refusal ∈ lw_tbl := List.mem_of_getElem? (i := 793) (by decide +kernel)
theorem lk_X6_50 : Cond.methodLink RX6 50 yX6_cut ∈ lw_tbl := List.mem_of_getElem? (i := 797) (by decide +kernel)
theorem lk_X9_213 : Cond.methodLink RX9 213 yX6_read ∈ lw_tbl := List.mem_of_getElem? (i := 804) (by decide +kernel)
theorem lk_X9_216 : Cond.methodLink RX9 216 yX6_transfer ∈ lw_tbl := List.mem_of_getElem? (i := 813) (by decide +kernel)
theorem lk_X6_55 : Cond.methodLink RX6 55 yX6_hasItems ∈ lw_tbl := List.mem_of_getElem? (i := 817) (by decide +kernel)
theorem lk_X9_223 : Cond.methodLink RX9 223 yX4_lodgedCount ∈ lw_tbl := List.mem_of_getElem? (i := 826) (by decide +kernel)
theorem lk_X9_242 : Cond.methodLink RX9 242 yX9_count ∈ lw_tbl := List.mem_of_getElem? (i := 836) (by decide +kernel)
theorem lk_X9_247 : Cond.methodLink RX9 247 yX9_apart ∈ lw_tbl := List.mem_of_getElem? (i := 837) (by decide +kernel)
theorem lk_X9_250 : Cond.methodLink RX9 250 yX9_where ∈ lw_tbl := List.mem_of_getElem? (i := 838) (by decide +kernel)
theorem lk_X10_132 : Cond.methodLink RX10 132 yX10_within ∈ lw_tbl := List.mem_of_getElem? (i := 993) (by decide +kernel)
theorem lk_X10_145 : Cond.methodLink RX10 145 yX10_isWeek ∈ lw_tbl := List.mem_of_getElem? (i := 1001) (by decide +kernel)
theorem lk_X10_151 : Cond.methodLink RX10 151 yX10_isParty ∈ lw_tbl := List.mem_of_getElem? (i := 1010) (by decide +kernel)
theorem lk_X10_156 : Cond.methodLink RX10 156 yX10_meet ∈ lw_tbl := List.mem_of_getElem? (i := 1015) (by decide +kernel)
theorem lk_X10_170 : Cond.methodLink RX10 170 yX10_dearest ∈ lw_tbl := List.mem_of_getElem? (i := 1023) (by decide +kernel)
theorem lk_X10_167 : Cond.methodLink RX10 167 yX10_mayLodge ∈ lw_tbl := List.mem_of_getElem? (i := 1027) (by decide +kernel)
theorem lk_X10_160 : Cond.methodLink RX10 160 yX10_isFree ∈ lw_tbl := List.mem_of_getElem? (i := 1031) (by decide +kernel)
theorem lk_X10_163 : Cond.methodLink RX10 163 yX10_hasTold ∈ lw_tbl := List.mem_of_getElem? (i := 1035) (by decide +kernel)
theorem lk_X10_177 : Cond.methodLink RX10 177 yX10_isHut ∈ lw_tbl := List.mem_of_getElem? (i := 1055) (by decide +kernel)
theorem lk_X10_180 : Cond.methodLink RX10 180 yX10_who ∈ lw_tbl := List.mem_of_getElem? (i := 1059) (by decide +kernel)
theorem lk_X10_174 : Cond.methodLink RX10 174 yX10_isThere ∈ lw_tbl := List.mem_of_getElem? (i := 1063) (by decide +kernel)
theorem lk_X10_192 : Cond.methodLink RX10 192 yX10_findSittings ∈ lw_tbl := List.mem_of_getElem? (i := 1080) (by decide +kernel)
theorem lk_X10_188 : Cond.methodLink RX10 188 yX10_findUnits ∈ lw_tbl := List.mem_of_getElem? (i := 1084) (by decide +kernel)
theorem lk_X10_198 : Cond.methodLink RX10 198 yX10_dinners ∈ lw_tbl := List.mem_of_getElem? (i := 1101) (by decide +kernel)
theorem lk_X10_213 : Cond.methodLink RX10 213 yX10_isWet ∈ lw_tbl := List.mem_of_getElem? (i := 1132) (by decide +kernel)
theorem lk_X10_216 : Cond.methodLink RX10 216 yX10_placeOf ∈ lw_tbl := List.mem_of_getElem? (i := 1140) (by decide +kernel)
theorem lk_X10_219 : Cond.methodLink RX10 219 yX10_findCrowds ∈ lw_tbl := List.mem_of_getElem? (i := 1148) (by decide +kernel)
theorem lk_X10_232 : Cond.methodLink RX10 232 yX10_manyIn ∈ lw_tbl := List.mem_of_getElem? (i := 1167) (by decide +kernel)
theorem lk_X10_235 : Cond.methodLink RX10 235 yX10_isChild ∈ lw_tbl := List.mem_of_getElem? (i := 1179) (by decide +kernel)
theorem lk_X10_250 : Cond.methodLink RX10 250 yX10_isSheet ∈ lw_tbl := List.mem_of_getElem? (i := 1206) (by decide +kernel)
theorem lk_X10_253 : Cond.methodLink RX10 253 yX10_met ∈ lw_tbl := List.mem_of_getElem? (i := 1209) (by decide +kernel)
theorem lk_X10_256 : Cond.methodLink RX10 256 yX10_lacks ∈ lw_tbl := List.mem_of_getElem? (i := 1221) (by decide +kernel)
theorem lk_X10_263 : Cond.methodLink RX10 263 yX10_count ∈ lw_tbl := List.mem_of_getElem? (i := 1243) (by decide +kernel)
theorem lk_X10_266 : Cond.methodLink RX10 266 yX10_apart ∈ lw_tbl := List.mem_of_getElem? (i := 1244) (by decide +kernel)
theorem cs_X0_define_40 : xCN mX0_define mX9_within 40 3 := ⟨⟨me_X9_within, pd_X9_within, by decide, by decide⟩, List.mem_of_getElem? (i := 9) rfl, st_X9_within⟩
theorem cs_X0_define_44 : xCV mX0_define mX0_isOfAnother 44 0 3 := ⟨⟨me_X0_isOfAnother, pd_X0_isOfAnother, by decide, by decide⟩, lk_X0_44, im_X0_isOfAnother, se_X0_isOfAnother, rfl⟩
theorem cs_X0_define_47 : xCV mX0_define mX0_childrenIn 47 0 1 := ⟨⟨me_X0_childrenIn, pd_X0_childrenIn, by decide, by decide⟩, lk_X0_47, im_X0_childrenIn, se_X0_childrenIn, rfl⟩
theorem cs_X0_hasChild_40 : xCN mX0_hasChild mX9_within 40 3 := ⟨⟨me_X9_within, pd_X9_within, by decide, by decide⟩, List.mem_of_getElem? (i := 9) rfl, st_X9_within⟩
theorem cs_X0_addChild_40 : xCN mX0_addChild mX9_within 40 3 := ⟨⟨me_X9_within, pd_X9_within, by decide, by decide⟩, List.mem_of_getElem? (i := 9) rfl, st_X9_within⟩
theorem cs_X0_addChild_51 : xCV mX0_addChild mX0_childrenOf 51 0 1 := ⟨⟨me_X0_childrenOf, pd_X0_childrenOf, by decide, by decide⟩, lk_X0_51, im_X0_childrenOf, se_X0_childrenOf, rfl⟩
theorem cs_X0_handOver_54 : xCV mX0_handOver mX0_hasChild 54 0 1 := ⟨⟨me_X0_hasChild, pd_X0_hasChild, by decide, by decide⟩, lk_X0_54, im_X0_hasChild, se_X0_hasChild, rfl⟩
theorem cs_X0_handOver_58 : xCV mX0_handOver mX0_groupFor 58 0 1 := ⟨⟨me_X0_groupFor, pd_X0_groupFor, by decide, by decide⟩, lk_X0_58, im_X0_groupFor, se_X0_groupFor, rfl⟩
theorem cs_X0_handOver_47 : xCV mX0_handOver mX0_childrenIn 47 0 1 := ⟨⟨me_X0_childrenIn, pd_X0_childrenIn, by decide, by decide⟩, lk_X0_47, im_X0_childrenIn, se_X0_childrenIn, rfl⟩
theorem cs_X0_groupFor_40 : xCN mX0_groupFor mX9_within 40 3 := ⟨⟨me_X9_within, pd_X9_within, by decide, by decide⟩, List.mem_of_getElem? (i := 9) rfl, st_X9_within⟩
theorem cs_X0_giveBack_54 : xCV mX0_giveBack mX0_hasChild 54 0 1 := ⟨⟨me_X0_hasChild, pd_X0_hasChild, by decide, by decide⟩, lk_X0_54, im_X0_hasChild, se_X0_hasChild, rfl⟩
theorem cs_X1_has_22 : xCN mX1_has mX9_within 22 3 := ⟨⟨me_X9_within, pd_X9_within, by decide, by decide⟩, List.mem_of_getElem? (i := 0) rfl, st_X9_within⟩
theorem cs_X1_add_22 : xCN mX1_add mX9_within 22 3 := ⟨⟨me_X9_within, pd_X9_within, by decide, by decide⟩, List.mem_of_getElem? (i := 0) rfl, st_X9_within⟩
theorem cs_X2_setPart_22 : xCN mX2_setPart mX9_within 22 3 := ⟨⟨me_X9_within, pd_X9_within, by decide, by decide⟩, List.mem_of_getElem? (i := 6) rfl, st_X9_within⟩
theorem cs_X2_entry_22 : xCN mX2_entry mX9_within 22 3 := ⟨⟨me_X9_within, pd_X9_within, by decide, by decide⟩, List.mem_of_getElem? (i := 6) rfl, st_X9_within⟩
theorem cs_X3_relate_29 : xCV mX3_relate mX4_has 29 4 1 := ⟨⟨me_X4_has, pd_X4_has, by decide, by decide⟩, lk_X3_29, im_X4_has, se_X4_has, rfl⟩
theorem cs_X3_relate_33 : xCN mX3_relate mX9_within 33 3 := ⟨⟨me_X9_within, pd_X9_within, by decide, by decide⟩, List.mem_of_getElem? (i := 3) rfl, st_X9_within⟩
theorem cs_X3_relate_37 : xCV mX3_relate mX3_liveInOneRow 37 3 2 := ⟨⟨me_X3_liveInOneRow, pd_X3_liveInOneRow, by decide, by decide⟩, lk_X3_37, im_X3_liveInOneRow, se_X3_liveInOneRow, rfl⟩
theorem cs_X3_relate_41 : xCV mX3_relate mX4_setTold 41 4 3 := ⟨⟨me_X4_setTold, pd_X4_setTold, by decide, by decide⟩, lk_X3_41, im_X4_setTold, se_X4_setTold, rfl⟩
theorem cs_X3_liveInOneRow_45 : xCV mX3_liveInOneRow mX4_isLodged 45 4 1 := ⟨⟨me_X4_isLodged, pd_X4_isLodged, by decide, by decide⟩, lk_X3_45, im_X4_isLodged, se_X4_isLodged, rfl⟩
theorem cs_X3_liveInOneRow_55 : xCV mX3_liveInOneRow mX3_isInRow 55 3 2 := ⟨⟨me_X3_isInRow, pd_X3_isInRow, by decide, by decide⟩, lk_X3_55, im_X3_isInRow, se_X3_isInRow, rfl⟩
theorem cs_X3_liveInOneRow_58 : xCV mX3_liveInOneRow mX4_shareWeek 58 4 2 := ⟨⟨me_X4_shareWeek, pd_X4_shareWeek, by decide, by decide⟩, lk_X3_58, im_X4_shareWeek, se_X4_shareWeek, rfl⟩
theorem cs_X3_takeIn_29 : xCV mX3_takeIn mX4_has 29 4 1 := ⟨⟨me_X4_has, pd_X4_has, by decide, by decide⟩, lk_X3_29, im_X4_has, se_X4_has, rfl⟩
theorem cs_X3_takeIn_45 : xCV mX3_takeIn mX4_isLodged 45 4 1 := ⟨⟨me_X4_isLodged, pd_X4_isLodged, by decide, by decide⟩, lk_X3_45, im_X4_isLodged, se_X4_isLodged, rfl⟩
theorem cs_X3_takeIn_61 : xCV mX3_takeIn mX3_dearestHut 61 3 1 := ⟨⟨me_X3_dearestHut, pd_X3_dearestHut, by decide, by decide⟩, lk_X3_61, im_X3_dearestHut, se_X3_dearestHut, rfl⟩
theorem cs_X3_takeIn_68 : xCV mX3_takeIn mX3_makesRoom 68 3 2 := ⟨⟨me_X3_makesRoom, pd_X3_makesRoom, by decide, by decide⟩, lk_X3_68, im_X3_makesRoom, se_X3_makesRoom, rfl⟩
theorem cs_X3_dearestHut_72 : xCV mX3_dearestHut mX3_mayHave 72 3 2 := ⟨⟨me_X3_mayHave, pd_X3_mayHave, by decide, by decide⟩, lk_X3_72, im_X3_mayHave, se_X3_mayHave, rfl⟩
theorem cs_X3_dearestHut_75 : xCV mX3_dearestHut mX3_cost 75 3 2 := ⟨⟨me_X3_cost, pd_X3_cost, by decide, by decide⟩, lk_X3_75, im_X3_cost, se_X3_cost, rfl⟩
theorem cs_X3_mayHave_55 : xCV mX3_mayHave mX3_isInRow 55 3 2 := ⟨⟨me_X3_isInRow, pd_X3_isInRow, by decide, by decide⟩, lk_X3_55, im_X3_isInRow, se_X3_isInRow, rfl⟩
theorem cs_X3_mayHave_58 : xCV mX3_mayHave mX4_shareWeek 58 4 2 := ⟨⟨me_X4_shareWeek, pd_X4_shareWeek, by decide, by decide⟩, lk_X3_58, im_X4_shareWeek, se_X4_shareWeek, rfl⟩
theorem cs_X3_mayHave_85 : xCV mX3_mayHave mX4_areTold 85 4 3 := ⟨⟨me_X4_areTold, pd_X4_areTold, by decide, by decide⟩, lk_X3_85, im_X4_areTold, se_X4_areTold, rfl⟩
theorem cs_X3_cost_88 : xCV mX3_cost mX3_isNextTo 88 3 2 := ⟨⟨me_X3_isNextTo, pd_X3_isNextTo, by decide, by decide⟩, lk_X3_88, im_X3_isNextTo, se_X3_isNextTo, rfl⟩
theorem cs_X3_isNextTo_85 : xCV mX3_isNextTo mX4_areTold 85 4 3 := ⟨⟨me_X4_areTold, pd_X4_areTold, by decide, by decide⟩, lk_X3_85, im_X4_areTold, se_X4_areTold, rfl⟩
theorem cs_X3_isNextTo_55 : xCV mX3_isNextTo mX3_isInRow 55 3 2 := ⟨⟨me_X3_isInRow, pd_X3_isInRow, by decide, by decide⟩, lk_X3_55, im_X3_isInRow, se_X3_isInRow, rfl⟩
theorem cs_X3_isNextTo_58 : xCV mX3_isNextTo mX4_shareWeek 58 4 2 := ⟨⟨me_X4_shareWeek, pd_X4_shareWeek, by decide, by decide⟩, lk_X3_58, im_X4_shareWeek, se_X4_shareWeek, rfl⟩
theorem cs_X3_makesRoom_72 : xCV mX3_makesRoom mX3_mayHave 72 3 2 := ⟨⟨me_X3_mayHave, pd_X3_mayHave, by decide, by decide⟩, lk_X3_72, im_X3_mayHave, se_X3_mayHave, rfl⟩
theorem cs_X3_makesRoom_61 : xCV mX3_makesRoom mX3_dearestHut 61 3 1 := ⟨⟨me_X3_dearestHut, pd_X3_dearestHut, by decide, by decide⟩, lk_X3_61, im_X3_dearestHut, se_X3_dearestHut, rfl⟩
theorem cs_X3_guest_91 : xCV mX3_guest mX1_has 91 1 1 := ⟨⟨me_X1_has, pd_X1_has, by decide, by decide⟩, lk_X3_91, im_X1_has, se_X1_has, rfl⟩
theorem cs_X3_guest_92 : xCN mX3_guest mX9_isWeek 92 1 := ⟨⟨me_X9_isWeek, pd_X9_isWeek, by decide, by decide⟩, List.mem_of_getElem? (i := 4) rfl, st_X9_isWeek⟩
theorem cs_X3_guest_95 : xCV mX3_guest mX3_whoIsIn 95 3 2 := ⟨⟨me_X3_whoIsIn, pd_X3_whoIsIn, by decide, by decide⟩, lk_X3_95, im_X3_whoIsIn, se_X3_whoIsIn, rfl⟩
theorem cs_X3_whoIsIn_98 : xCV mX3_whoIsIn mX4_isThere 98 4 2 := ⟨⟨me_X4_isThere, pd_X4_isThere, by decide, by decide⟩, lk_X3_98, im_X4_isThere, se_X4_isThere, rfl⟩
theorem cs_X3_emptyBeds_92 : xCN mX3_emptyBeds mX9_isWeek 92 1 := ⟨⟨me_X9_isWeek, pd_X9_isWeek, by decide, by decide⟩, List.mem_of_getElem? (i := 4) rfl, st_X9_isWeek⟩
theorem cs_X3_emptyBeds_95 : xCV mX3_emptyBeds mX3_whoIsIn 95 3 2 := ⟨⟨me_X3_whoIsIn, pd_X3_whoIsIn, by decide, by decide⟩, lk_X3_95, im_X3_whoIsIn, se_X3_whoIsIn, rfl⟩
theorem cs_X4_has_43 : xCN mX4_has mX9_within 43 3 := ⟨⟨me_X9_within, pd_X9_within, by decide, by decide⟩, List.mem_of_getElem? (i := 1) rfl, st_X9_within⟩
theorem cs_X4_add_43 : xCN mX4_add mX9_within 43 3 := ⟨⟨me_X9_within, pd_X9_within, by decide, by decide⟩, List.mem_of_getElem? (i := 1) rfl, st_X9_within⟩
theorem cs_X4_add_47 : xCN mX4_add mX9_isWeek 47 1 := ⟨⟨me_X9_isWeek, pd_X9_isWeek, by decide, by decide⟩, List.mem_of_getElem? (i := 2) rfl, st_X9_isWeek⟩
theorem cs_X4_isThere_51 : xCV mX4_isThere mX4_isLodged 51 4 1 := ⟨⟨me_X4_isLodged, pd_X4_isLodged, by decide, by decide⟩, lk_X4_51, im_X4_isLodged, se_X4_isLodged, rfl⟩
theorem cs_X4_isThere_43 : xCN mX4_isThere mX9_within 43 3 := ⟨⟨me_X9_within, pd_X9_within, by decide, by decide⟩, List.mem_of_getElem? (i := 1) rfl, st_X9_within⟩
theorem cs_X4_giveUpHut_54 : xCV mX4_giveUpHut mX4_has 54 4 1 := ⟨⟨me_X4_has, pd_X4_has, by decide, by decide⟩, lk_X4_54, im_X4_has, se_X4_has, rfl⟩
theorem cs_X4_giveUpHut_51 : xCV mX4_giveUpHut mX4_isLodged 51 4 1 := ⟨⟨me_X4_isLodged, pd_X4_isLodged, by decide, by decide⟩, lk_X4_51, im_X4_isLodged, se_X4_isLodged, rfl⟩
theorem cs_X4_fact_54 : xCV mX4_fact mX4_has 54 4 1 := ⟨⟨me_X4_has, pd_X4_has, by decide, by decide⟩, lk_X4_54, im_X4_has, se_X4_has, rfl⟩
theorem cs_X4_lodgedCount_51 : xCV mX4_lodgedCount mX4_isLodged 51 4 1 := ⟨⟨me_X4_isLodged, pd_X4_isLodged, by decide, by decide⟩, lk_X4_51, im_X4_isLodged, se_X4_isLodged, rfl⟩
theorem cs_X5_add_25 : xCN mX5_add mX9_within 25 3 := ⟨⟨me_X9_within, pd_X9_within, by decide, by decide⟩, List.mem_of_getElem? (i := 10) rfl, st_X9_within⟩
theorem cs_X5_paidBack_25 : xCN mX5_paidBack mX9_within 25 3 := ⟨⟨me_X9_within, pd_X9_within, by decide, by decide⟩, List.mem_of_getElem? (i := 10) rfl, st_X9_within⟩
theorem cs_X5_paidBack_29 : xCV mX5_paidBack mX5_latestDay 29 5 1 := ⟨⟨me_X5_latestDay, pd_X5_latestDay, by decide, by decide⟩, lk_X5_29, im_X5_latestDay, se_X5_latestDay, rfl⟩
theorem pr_X5_33 : xMX RX5 33 := ⟨List.mem_of_getElem? (i := 751) (by decide +kernel), List.mem_of_getElem? (i := 752) (by decide +kernel), List.mem_of_getElem? (i := 60) (by decide +kernel), List.mem_of_getElem? (i := 753) (by decide +kernel)⟩
theorem cs_X6_has_31 : xCN mX6_has mX9_within 31 3 := ⟨⟨me_X9_within, pd_X9_within, by decide, by decide⟩, List.mem_of_getElem? (i := 11) rfl, st_X9_within⟩
theorem cs_X6_renew_35 : xCV mX6_renew mX6_has 35 6 1 := ⟨⟨me_X6_has, pd_X6_has, by decide, by decide⟩, lk_X6_35, im_X6_has, se_X6_has, rfl⟩
theorem cs_X6_renew_31 : xCN mX6_renew mX9_within 31 3 := ⟨⟨me_X9_within, pd_X9_within, by decide, by decide⟩, List.mem_of_getElem? (i := 11) rfl, st_X9_within⟩
theorem cs_X6_renew_39 : xCV mX6_renew mX6_find 39 6 1 := ⟨⟨me_X6_find, pd_X6_find, by decide, by decide⟩, lk_X6_39, im_X6_find, se_X6_find, rfl⟩
theorem cs_X6_renew_43 : xCS mX6_renew mJ7_fill_fda19 43 4 := ⟨⟨me_J7_fill_fda19, pd_J7_fill_fda19, by decide, by decide⟩, lk_X6_43, st_J7_fill_fda19⟩
theorem cs_X6_drop_35 : xCV mX6_drop mX6_has 35 6 1 := ⟨⟨me_X6_has, pd_X6_has, by decide, by decide⟩, lk_X6_35, im_X6_has, se_X6_has, rfl⟩
theorem cs_X6_drop_39 : xCV mX6_drop mX6_find 39 6 1 := ⟨⟨me_X6_find, pd_X6_find, by decide, by decide⟩, lk_X6_39, im_X6_find, se_X6_find, rfl⟩
theorem cs_X6_store_46 : xCV mX6_store mX6_refusal 46 6 3 := ⟨⟨me_X6_refusal, pd_X6_refusal, by decide, by decide⟩, lk_X6_46, im_X6_refusal, se_X6_refusal, rfl⟩
theorem cs_X6_store_50 : xCS mX6_store mX6_cut 50 2 := ⟨⟨me_X6_cut, pd_X6_cut, by decide, by decide⟩, lk_X6_50, st_X6_cut⟩
theorem cs_X6_read_46 : xCV mX6_read mX6_refusal 46 6 3 := ⟨⟨me_X6_refusal, pd_X6_refusal, by decide, by decide⟩, lk_X6_46, im_X6_refusal, se_X6_refusal, rfl⟩
theorem cs_X6_refusal_35 : xCV mX6_refusal mX6_has 35 6 1 := ⟨⟨me_X6_has, pd_X6_has, by decide, by decide⟩, lk_X6_35, im_X6_has, se_X6_has, rfl⟩
theorem cs_X6_refusal_31 : xCN mX6_refusal mX9_within 31 3 := ⟨⟨me_X9_within, pd_X9_within, by decide, by decide⟩, List.mem_of_getElem? (i := 11) rfl, st_X9_within⟩
theorem cs_X6_refusal_39 : xCV mX6_refusal mX6_find 39 6 1 := ⟨⟨me_X6_find, pd_X6_find, by decide, by decide⟩, lk_X6_39, im_X6_find, se_X6_find, rfl⟩
theorem cs_X6_transfer_35 : xCV mX6_transfer mX6_has 35 6 1 := ⟨⟨me_X6_has, pd_X6_has, by decide, by decide⟩, lk_X6_35, im_X6_has, se_X6_has, rfl⟩
theorem cs_X6_transfer_39 : xCV mX6_transfer mX6_find 39 6 1 := ⟨⟨me_X6_find, pd_X6_find, by decide, by decide⟩, lk_X6_39, im_X6_find, se_X6_find, rfl⟩
theorem cs_X6_transfer_55 : xCV mX6_transfer mX6_hasItems 55 6 3 := ⟨⟨me_X6_hasItems, pd_X6_hasItems, by decide, by decide⟩, lk_X6_55, im_X6_hasItems, se_X6_hasItems, rfl⟩
theorem pr_X6_58 : xMC RX6 58 := ⟨List.mem_of_getElem? (i := 821) (by decide +kernel), List.mem_of_getElem? (i := 653) (by decide +kernel), List.mem_of_getElem? (i := 652) (by decide +kernel), List.mem_of_getElem? (i := 61) (by decide +kernel)⟩
theorem cs_X6_countsAsWet_64 : xCV mX6_countsAsWet mX6_isWet 64 6 1 := ⟨⟨me_X6_isWet, pd_X6_isWet, by decide, by decide⟩, lk_X6_64, im_X6_isWet, se_X6_isWet, rfl⟩
theorem cs_X7_has_45 : xCN mX7_has mX9_within 45 3 := ⟨⟨me_X9_within, pd_X9_within, by decide, by decide⟩, List.mem_of_getElem? (i := 7) rfl, st_X9_within⟩
theorem cs_X7_setRoom_45 : xCN mX7_setRoom mX9_within 45 3 := ⟨⟨me_X9_within, pd_X9_within, by decide, by decide⟩, List.mem_of_getElem? (i := 7) rfl, st_X9_within⟩
theorem cs_X7_add_45 : xCN mX7_add mX9_within 45 3 := ⟨⟨me_X9_within, pd_X9_within, by decide, by decide⟩, List.mem_of_getElem? (i := 7) rfl, st_X9_within⟩
theorem cs_X7_add_49 : xCN mX7_add mX9_isHour 49 1 := ⟨⟨me_X9_isHour, pd_X9_isHour, by decide, by decide⟩, List.mem_of_getElem? (i := 8) rfl, st_X9_isHour⟩
theorem cs_X7_addWish_53 : xCV mX7_addWish mX7_has 53 7 1 := ⟨⟨me_X7_has, pd_X7_has, by decide, by decide⟩, lk_X7_53, im_X7_has, se_X7_has, rfl⟩
theorem cs_X7_addWish_56 : xCV mX7_addWish mX7_isWished 56 7 2 := ⟨⟨me_X7_isWished, pd_X7_isWished, by decide, by decide⟩, lk_X7_56, im_X7_isWished, se_X7_isWished, rfl⟩
theorem pr_X7_60 : xMC RX7 60 := ⟨List.mem_of_getElem? (i := 651) (by decide +kernel), List.mem_of_getElem? (i := 653) (by decide +kernel), List.mem_of_getElem? (i := 652) (by decide +kernel), List.mem_of_getElem? (i := 61) (by decide +kernel)⟩
theorem cs_X7_send_67 : xCV mX7_send mX4_isThere 67 4 2 := ⟨⟨me_X4_isThere, pd_X4_isThere, by decide, by decide⟩, lk_X7_67, im_X4_isThere, se_X4_isThere, rfl⟩
theorem cs_X7_send_73 : xCV mX7_send mX7_sendParty 73 7 4 := ⟨⟨me_X7_sendParty, pd_X7_sendParty, by decide, by decide⟩, lk_X7_73, im_X7_sendParty, se_X7_sendParty, rfl⟩
theorem cs_X7_sendParty_77 : xCV mX7_sendParty mX7_place 77 7 2 := ⟨⟨me_X7_place, pd_X7_place, by decide, by decide⟩, lk_X7_77, im_X7_place, se_X7_place, rfl⟩
theorem cs_X8_setSeats_45 : xCN mX8_setSeats mX9_within 45 3 := ⟨⟨me_X9_within, pd_X9_within, by decide, by decide⟩, List.mem_of_getElem? (i := 5) rfl, st_X9_within⟩
theorem cs_X8_arrange_49 : xCV mX8_arrange mX8_fillBenches 49 8 2 := ⟨⟨me_X8_fillBenches, pd_X8_fillBenches, by decide, by decide⟩, lk_X8_49, im_X8_fillBenches, se_X8_fillBenches, rfl⟩
theorem cs_X8_arrange_53 : xCV mX8_arrange mX8_findNumbers 53 8 0 := ⟨⟨me_X8_findNumbers, pd_X8_findNumbers, by decide, by decide⟩, lk_X8_53, im_X8_findNumbers, se_X8_findNumbers, rfl⟩
theorem cs_X8_arrange_56 : xCV mX8_arrange mX8_findDifference 56 8 0 := ⟨⟨me_X8_findDifference, pd_X8_findDifference, by decide, by decide⟩, lk_X8_56, im_X8_findDifference, se_X8_findDifference, rfl⟩
theorem cs_X8_arrange_59 : xCV mX8_arrange mX8_partBenches 59 8 0 := ⟨⟨me_X8_partBenches, pd_X8_partBenches, by decide, by decide⟩, lk_X8_59, im_X8_partBenches, se_X8_partBenches, rfl⟩
theorem cs_X8_fillBenches_62 : xCS mX8_fillBenches mJ7_fill_53178 62 2 := ⟨⟨me_J7_fill_53178, pd_J7_fill_53178, by decide, by decide⟩, lk_X8_62, st_J7_fill_53178⟩
theorem cs_X8_fillBenches_71 : xCV mX8_fillBenches mX4_isThere 71 4 2 := ⟨⟨me_X4_isThere, pd_X4_isThere, by decide, by decide⟩, lk_X8_71, im_X4_isThere, se_X4_isThere, rfl⟩
theorem cs_X8_fillBenches_78 : xCV mX8_fillBenches mX8_benchFor 78 8 1 := ⟨⟨me_X8_benchFor, pd_X8_benchFor, by decide, by decide⟩, lk_X8_78, im_X8_benchFor, se_X8_benchFor, rfl⟩
theorem cs_X8_findNumbers_62 : xCS mX8_findNumbers mJ7_fill_53178 62 2 := ⟨⟨me_J7_fill_53178, pd_J7_fill_53178, by decide, by decide⟩, lk_X8_62, st_J7_fill_53178⟩
theorem pr_X8_85 : xMA RX8 85 := ⟨List.mem_of_getElem? (i := 522) (by decide +kernel), List.mem_of_getElem? (i := 523) (by decide +kernel), List.mem_of_getElem? (i := 60) (by decide +kernel), List.mem_of_getElem? (i := 524) (by decide +kernel)⟩
theorem cs_X8_findDifference_90 : xCV mX8_findDifference mX8_isWay 90 8 1 := ⟨⟨me_X8_isWay, pd_X8_isWay, by decide, by decide⟩, lk_X8_90, im_X8_isWay, se_X8_isWay, rfl⟩
theorem cs_X8_partBenches_94 : xCV mX8_partBenches mX8_leadsToBest 94 8 2 := ⟨⟨me_X8_leadsToBest, pd_X8_leadsToBest, by decide, by decide⟩, lk_X8_94, im_X8_leadsToBest, se_X8_leadsToBest, rfl⟩
theorem cs_X8_leadsToBest_97 : xCV mX8_leadsToBest mX8_canBecome 97 8 3 := ⟨⟨me_X8_canBecome, pd_X8_canBecome, by decide, by decide⟩, lk_X8_97, im_X8_canBecome, se_X8_canBecome, rfl⟩
theorem cs_X8_canBecome_90 : xCV mX8_canBecome mX8_isWay 90 8 1 := ⟨⟨me_X8_isWay, pd_X8_isWay, by decide, by decide⟩, lk_X8_90, im_X8_isWay, se_X8_isWay, rfl⟩
theorem cs_X8_dinners_100 : xCV mX8_dinners mX8_sittingOf 100 8 1 := ⟨⟨me_X8_sittingOf, pd_X8_sittingOf, by decide, by decide⟩, lk_X8_100, im_X8_sittingOf, se_X8_sittingOf, rfl⟩
theorem cs_X9_hut_62 : xCV mX9_hut mX1_add 62 1 2 := ⟨⟨me_X1_add, pd_X1_add, by decide, by decide⟩, lk_X9_62, im_X1_add, se_X1_add, rfl⟩
theorem cs_X9_party_72 : xCV mX9_party mX4_add 72 4 5 := ⟨⟨me_X4_add, pd_X4_add, by decide, by decide⟩, lk_X9_72, im_X4_add, se_X4_add, rfl⟩
theorem cs_X9_tell_77 : xCV mX9_tell mX3_relate 77 3 3 := ⟨⟨me_X3_relate, pd_X3_relate, by decide, by decide⟩, lk_X9_77, im_X3_relate, se_X3_relate, rfl⟩
theorem cs_X9_lodge_81 : xCV mX9_lodge mX3_takeIn 81 3 1 := ⟨⟨me_X3_takeIn, pd_X3_takeIn, by decide, by decide⟩, lk_X9_81, im_X3_takeIn, se_X3_takeIn, rfl⟩
theorem cs_X9_leave_89 : xCV mX9_leave mX4_giveUpHut 89 4 1 := ⟨⟨me_X4_giveUpHut, pd_X4_giveUpHut, by decide, by decide⟩, lk_X9_89, im_X4_giveUpHut, se_X4_giveUpHut, rfl⟩
theorem cs_X9_about_92 : xCV mX9_about mX4_fact 92 4 2 := ⟨⟨me_X4_fact, pd_X4_fact, by decide, by decide⟩, lk_X9_92, im_X4_fact, se_X4_fact, rfl⟩
theorem cs_X9_in_95 : xCV mX9_in mX3_guest 95 3 2 := ⟨⟨me_X3_guest, pd_X3_guest, by decide, by decide⟩, lk_X9_95, im_X3_guest, se_X3_guest, rfl⟩
theorem cs_X9_empty_98 : xCV mX9_empty mX3_emptyBeds 98 3 1 := ⟨⟨me_X3_emptyBeds, pd_X3_emptyBeds, by decide, by decide⟩, lk_X9_98, im_X3_emptyBeds, se_X3_emptyBeds, rfl⟩
theorem cs_X9_seats_101 : xCV mX9_seats mX8_setSeats 101 8 2 := ⟨⟨me_X8_setSeats, pd_X8_setSeats, by decide, by decide⟩, lk_X9_101, im_X8_setSeats, se_X8_setSeats, rfl⟩
theorem cs_X9_apart_104 : xCS mX9_apart mX9_isWeek 104 1 := ⟨⟨me_X9_isWeek, pd_X9_isWeek, by decide, by decide⟩, lk_X9_104, st_X9_isWeek⟩
theorem cs_X9_apart_108 : xCV mX9_apart mX8_arrange 108 8 2 := ⟨⟨me_X8_arrange, pd_X8_arrange, by decide, by decide⟩, lk_X9_108, im_X8_arrange, se_X8_arrange, rfl⟩
theorem cs_X9_sits_115 : xCV mX9_sits mX4_has 115 4 1 := ⟨⟨me_X4_has, pd_X4_has, by decide, by decide⟩, lk_X9_115, im_X4_has, se_X4_has, rfl⟩
theorem cs_X9_sits_104 : xCS mX9_sits mX9_isWeek 104 1 := ⟨⟨me_X9_isWeek, pd_X9_isWeek, by decide, by decide⟩, lk_X9_104, st_X9_isWeek⟩
theorem cs_X9_sits_108 : xCV mX9_sits mX8_arrange 108 8 2 := ⟨⟨me_X8_arrange, pd_X8_arrange, by decide, by decide⟩, lk_X9_108, im_X8_arrange, se_X8_arrange, rfl⟩
theorem cs_X9_sits_118 : xCV mX9_sits mX8_sittingOf 118 8 1 := ⟨⟨me_X8_sittingOf, pd_X8_sittingOf, by decide, by decide⟩, lk_X9_118, im_X8_sittingOf, se_X8_sittingOf, rfl⟩
theorem cs_X9_more_121 : xCV mX9_more mX2_setPart 121 2 1 := ⟨⟨me_X2_setPart, pd_X2_setPart, by decide, by decide⟩, lk_X9_121, im_X2_setPart, se_X2_setPart, rfl⟩
theorem cs_X9_foretell_104 : xCS mX9_foretell mX9_isWeek 104 1 := ⟨⟨me_X9_isWeek, pd_X9_isWeek, by decide, by decide⟩, lk_X9_104, st_X9_isWeek⟩
theorem cs_X9_foretell_124 : xCS mX9_foretell mX9_within 124 3 := ⟨⟨me_X9_within, pd_X9_within, by decide, by decide⟩, lk_X9_124, st_X9_within⟩
theorem cs_X9_foretell_108 : xCV mX9_foretell mX8_arrange 108 8 2 := ⟨⟨me_X8_arrange, pd_X8_arrange, by decide, by decide⟩, lk_X9_108, im_X8_arrange, se_X8_arrange, rfl⟩
theorem cs_X9_foretell_128 : xCV mX9_foretell mX8_dinners 128 8 2 := ⟨⟨me_X8_dinners, pd_X8_dinners, by decide, by decide⟩, lk_X9_128, im_X8_dinners, se_X8_dinners, rfl⟩
theorem cs_X9_cook_124 : xCS mX9_cook mX9_within 124 3 := ⟨⟨me_X9_within, pd_X9_within, by decide, by decide⟩, lk_X9_124, st_X9_within⟩
theorem cs_X9_cook_132 : xCV mX9_cook mX9_foretell 132 9 2 := ⟨⟨me_X9_foretell, pd_X9_foretell, by decide, by decide⟩, lk_X9_132, im_X9_foretell, se_X9_foretell, rfl⟩
theorem cs_X9_cook_135 : xCV mX9_cook mX2_serve 135 2 4 := ⟨⟨me_X2_serve, pd_X2_serve, by decide, by decide⟩, lk_X9_135, im_X2_serve, se_X2_serve, rfl⟩
theorem cs_X9_line_139 : xCV mX9_line mX2_entry 139 2 2 := ⟨⟨me_X2_entry, pd_X2_entry, by decide, by decide⟩, lk_X9_139, im_X2_entry, se_X2_entry, rfl⟩
theorem cs_X9_hall_142 : xCV mX9_hall mX7_setRoom 142 7 2 := ⟨⟨me_X7_setRoom, pd_X7_setRoom, by decide, by decide⟩, lk_X9_142, im_X7_setRoom, se_X7_setRoom, rfl⟩
theorem cs_X9_show_145 : xCV mX9_show mX7_add 145 7 3 := ⟨⟨me_X7_add, pd_X7_add, by decide, by decide⟩, lk_X9_145, im_X7_add, se_X7_add, rfl⟩
theorem cs_X9_wish_115 : xCV mX9_wish mX4_has 115 4 1 := ⟨⟨me_X4_has, pd_X4_has, by decide, by decide⟩, lk_X9_115, im_X4_has, se_X4_has, rfl⟩
theorem cs_X9_wish_147 : xCV mX9_wish mX7_addWish 147 7 2 := ⟨⟨me_X7_addWish, pd_X7_addWish, by decide, by decide⟩, lk_X9_147, im_X7_addWish, se_X7_addWish, rfl⟩
theorem cs_X9_wet_150 : xCS mX9_wet mX9_isHour 150 1 := ⟨⟨me_X9_isHour, pd_X9_isHour, by decide, by decide⟩, lk_X9_150, st_X9_isHour⟩
theorem cs_X9_wet_153 : xCV mX9_wet mX6_countsAsWet 153 6 1 := ⟨⟨me_X6_countsAsWet, pd_X6_countsAsWet, by decide, by decide⟩, lk_X9_153, im_X6_countsAsWet, se_X6_countsAsWet, rfl⟩
theorem cs_X9_where_156 : xCV mX9_where mX7_has 156 7 1 := ⟨⟨me_X7_has, pd_X7_has, by decide, by decide⟩, lk_X9_156, im_X7_has, se_X7_has, rfl⟩
theorem cs_X9_where_153 : xCV mX9_where mX6_countsAsWet 153 6 1 := ⟨⟨me_X6_countsAsWet, pd_X6_countsAsWet, by decide, by decide⟩, lk_X9_153, im_X6_countsAsWet, se_X6_countsAsWet, rfl⟩
theorem cs_X9_where_161 : xCV mX9_where mX7_place 161 7 2 := ⟨⟨me_X7_place, pd_X7_place, by decide, by decide⟩, lk_X9_161, im_X7_place, se_X7_place, rfl⟩
theorem cs_X9_goes_115 : xCV mX9_goes mX4_has 115 4 1 := ⟨⟨me_X4_has, pd_X4_has, by decide, by decide⟩, lk_X9_115, im_X4_has, se_X4_has, rfl⟩
theorem cs_X9_goes_104 : xCS mX9_goes mX9_isWeek 104 1 := ⟨⟨me_X9_isWeek, pd_X9_isWeek, by decide, by decide⟩, lk_X9_104, st_X9_isWeek⟩
theorem cs_X9_goes_150 : xCS mX9_goes mX9_isHour 150 1 := ⟨⟨me_X9_isHour, pd_X9_isHour, by decide, by decide⟩, lk_X9_150, st_X9_isHour⟩
theorem cs_X9_goes_153 : xCV mX9_goes mX6_countsAsWet 153 6 1 := ⟨⟨me_X6_countsAsWet, pd_X6_countsAsWet, by decide, by decide⟩, lk_X9_153, im_X6_countsAsWet, se_X6_countsAsWet, rfl⟩
theorem cs_X9_goes_165 : xCV mX9_goes mX7_send 165 7 4 := ⟨⟨me_X7_send, pd_X7_send, by decide, by decide⟩, lk_X9_165, im_X7_send, se_X7_send, rfl⟩
theorem cs_X9_turned_115 : xCV mX9_turned mX4_has 115 4 1 := ⟨⟨me_X4_has, pd_X4_has, by decide, by decide⟩, lk_X9_115, im_X4_has, se_X4_has, rfl⟩
theorem cs_X9_turned_104 : xCS mX9_turned mX9_isWeek 104 1 := ⟨⟨me_X9_isWeek, pd_X9_isWeek, by decide, by decide⟩, lk_X9_104, st_X9_isWeek⟩
theorem cs_X9_turned_150 : xCS mX9_turned mX9_isHour 150 1 := ⟨⟨me_X9_isHour, pd_X9_isHour, by decide, by decide⟩, lk_X9_150, st_X9_isHour⟩
theorem cs_X9_turned_153 : xCV mX9_turned mX6_countsAsWet 153 6 1 := ⟨⟨me_X6_countsAsWet, pd_X6_countsAsWet, by decide, by decide⟩, lk_X9_153, im_X6_countsAsWet, se_X6_countsAsWet, rfl⟩
theorem cs_X9_turned_165 : xCV mX9_turned mX7_send 165 7 4 := ⟨⟨me_X7_send, pd_X7_send, by decide, by decide⟩, lk_X9_165, im_X7_send, se_X7_send, rfl⟩
theorem cs_X9_crowd_156 : xCV mX9_crowd mX7_has 156 7 1 := ⟨⟨me_X7_has, pd_X7_has, by decide, by decide⟩, lk_X9_156, im_X7_has, se_X7_has, rfl⟩
theorem cs_X9_crowd_104 : xCS mX9_crowd mX9_isWeek 104 1 := ⟨⟨me_X9_isWeek, pd_X9_isWeek, by decide, by decide⟩, lk_X9_104, st_X9_isWeek⟩
theorem cs_X9_crowd_153 : xCV mX9_crowd mX6_countsAsWet 153 6 1 := ⟨⟨me_X6_countsAsWet, pd_X6_countsAsWet, by decide, by decide⟩, lk_X9_153, im_X6_countsAsWet, se_X6_countsAsWet, rfl⟩
theorem cs_X9_crowd_165 : xCV mX9_crowd mX7_send 165 7 4 := ⟨⟨me_X7_send, pd_X7_send, by decide, by decide⟩, lk_X9_165, im_X7_send, se_X7_send, rfl⟩
theorem cs_X9_crowd_175 : xCV mX9_crowd mX7_peopleIn 175 7 2 := ⟨⟨me_X7_peopleIn, pd_X7_peopleIn, by decide, by decide⟩, lk_X9_175, im_X7_peopleIn, se_X7_peopleIn, rfl⟩
theorem cs_X9_group_179 : xCV mX9_group mX0_define 179 0 4 := ⟨⟨me_X0_define, pd_X0_define, by decide, by decide⟩, lk_X9_179, im_X0_define, se_X0_define, rfl⟩
theorem cs_X9_child_115 : xCV mX9_child mX4_has 115 4 1 := ⟨⟨me_X4_has, pd_X4_has, by decide, by decide⟩, lk_X9_115, im_X4_has, se_X4_has, rfl⟩
theorem cs_X9_child_185 : xCV mX9_child mX0_addChild 185 0 3 := ⟨⟨me_X0_addChild, pd_X0_addChild, by decide, by decide⟩, lk_X9_185, im_X0_addChild, se_X0_addChild, rfl⟩
theorem cs_X9_hand_188 : xCV mX9_hand mX0_handOver 188 0 1 := ⟨⟨me_X0_handOver, pd_X0_handOver, by decide, by decide⟩, lk_X9_188, im_X0_handOver, se_X0_handOver, rfl⟩
theorem cs_X9_fetch_115 : xCV mX9_fetch mX4_has 115 4 1 := ⟨⟨me_X4_has, pd_X4_has, by decide, by decide⟩, lk_X9_115, im_X4_has, se_X4_has, rfl⟩
theorem cs_X9_fetch_191 : xCV mX9_fetch mX0_giveBack 191 0 2 := ⟨⟨me_X0_giveBack, pd_X0_giveBack, by decide, by decide⟩, lk_X9_191, im_X0_giveBack, se_X0_giveBack, rfl⟩
theorem cs_X9_with_194 : xCV mX9_with mX0_hasChild 194 0 1 := ⟨⟨me_X0_hasChild, pd_X0_hasChild, by decide, by decide⟩, lk_X9_194, im_X0_hasChild, se_X0_hasChild, rfl⟩
theorem cs_X9_list_200 : xCV mX9_list mX5_add 200 5 3 := ⟨⟨me_X5_add, pd_X5_add, by decide, by decide⟩, lk_X9_200, im_X5_add, se_X5_add, rfl⟩
theorem cs_X9_pays_201 : xCV mX9_pays mX5_paidBack 201 5 2 := ⟨⟨me_X5_paidBack, pd_X5_paidBack, by decide, by decide⟩, lk_X9_201, im_X5_paidBack, se_X5_paidBack, rfl⟩
theorem cs_X9_sheet_204 : xCV mX9_sheet mX6_renew 204 6 3 := ⟨⟨me_X6_renew, pd_X6_renew, by decide, by decide⟩, lk_X9_204, im_X6_renew, se_X6_renew, rfl⟩
theorem cs_X9_lose_207 : xCV mX9_lose mX6_drop 207 6 1 := ⟨⟨me_X6_drop, pd_X6_drop, by decide, by decide⟩, lk_X9_207, im_X6_drop, se_X6_drop, rfl⟩
theorem cs_X9_put_210 : xCV mX9_put mX6_store 210 6 4 := ⟨⟨me_X6_store, pd_X6_store, by decide, by decide⟩, lk_X9_210, im_X6_store, se_X6_store, rfl⟩
theorem cs_X9_get_213 : xCV mX9_get mX6_read 213 6 3 := ⟨⟨me_X6_read, pd_X6_read, by decide, by decide⟩, lk_X9_213, im_X6_read, se_X6_read, rfl⟩
theorem cs_X9_copy_216 : xCV mX9_copy mX6_transfer 216 6 5 := ⟨⟨me_X6_transfer, pd_X6_transfer, by decide, by decide⟩, lk_X9_216, im_X6_transfer, se_X6_transfer, rfl⟩
theorem cs_X9_count_223 : xCV mX9_count mX4_lodgedCount 223 4 0 := ⟨⟨me_X4_lodgedCount, pd_X4_lodgedCount, by decide, by decide⟩, lk_X9_223, im_X4_lodgedCount, se_X4_lodgedCount, rfl⟩
theorem cs_X9_digest_242 : xCV mX9_digest mX9_count 242 9 1 := ⟨⟨me_X9_count, pd_X9_count, by decide, by decide⟩, lk_X9_242, im_X9_count, se_X9_count, rfl⟩
theorem cs_X9_digest_247 : xCV mX9_digest mX9_apart 247 9 1 := ⟨⟨me_X9_apart, pd_X9_apart, by decide, by decide⟩, lk_X9_247, im_X9_apart, se_X9_apart, rfl⟩
theorem cs_X9_digest_250 : xCV mX9_digest mX9_where 250 9 1 := ⟨⟨me_X9_where, pd_X9_where, by decide, by decide⟩, lk_X9_250, im_X9_where, se_X9_where, rfl⟩
theorem cs_X9_isWeek_124 : xCS mX9_isWeek mX9_within 124 3 := ⟨⟨me_X9_within, pd_X9_within, by decide, by decide⟩, lk_X9_124, st_X9_within⟩
theorem cs_X9_isHour_124 : xCS mX9_isHour mX9_within 124 3 := ⟨⟨me_X9_within, pd_X9_within, by decide, by decide⟩, lk_X9_124, st_X9_within⟩
theorem cs_X10_isHut_132 : xCS mX10_isHut mX10_within 132 3 := ⟨⟨me_X10_within, pd_X10_within, by decide, by decide⟩, lk_X10_132, st_X10_within⟩
theorem cs_X10_isParty_132 : xCS mX10_isParty mX10_within 132 3 := ⟨⟨me_X10_within, pd_X10_within, by decide, by decide⟩, lk_X10_132, st_X10_within⟩
theorem cs_X10_isWeek_132 : xCS mX10_isWeek mX10_within 132 3 := ⟨⟨me_X10_within, pd_X10_within, by decide, by decide⟩, lk_X10_132, st_X10_within⟩
theorem cs_X10_hut_132 : xCS mX10_hut mX10_within 132 3 := ⟨⟨me_X10_within, pd_X10_within, by decide, by decide⟩, lk_X10_132, st_X10_within⟩
theorem cs_X10_party_132 : xCS mX10_party mX10_within 132 3 := ⟨⟨me_X10_within, pd_X10_within, by decide, by decide⟩, lk_X10_132, st_X10_within⟩
theorem cs_X10_party_145 : xCS mX10_party mX10_isWeek 145 1 := ⟨⟨me_X10_isWeek, pd_X10_isWeek, by decide, by decide⟩, lk_X10_145, st_X10_isWeek⟩
theorem cs_X10_tell_151 : xCV mX10_tell mX10_isParty 151 10 1 := ⟨⟨me_X10_isParty, pd_X10_isParty, by decide, by decide⟩, lk_X10_151, im_X10_isParty, se_X10_isParty, rfl⟩
theorem cs_X10_tell_132 : xCS mX10_tell mX10_within 132 3 := ⟨⟨me_X10_within, pd_X10_within, by decide, by decide⟩, lk_X10_132, st_X10_within⟩
theorem cs_X10_tell_156 : xCV mX10_tell mX10_meet 156 10 2 := ⟨⟨me_X10_meet, pd_X10_meet, by decide, by decide⟩, lk_X10_156, im_X10_meet, se_X10_meet, rfl⟩
theorem cs_X10_isFree_156 : xCV mX10_isFree mX10_meet 156 10 2 := ⟨⟨me_X10_meet, pd_X10_meet, by decide, by decide⟩, lk_X10_156, im_X10_meet, se_X10_meet, rfl⟩
theorem cs_X10_hasTold_156 : xCV mX10_hasTold mX10_meet 156 10 2 := ⟨⟨me_X10_meet, pd_X10_meet, by decide, by decide⟩, lk_X10_156, im_X10_meet, se_X10_meet, rfl⟩
theorem cs_X10_mayLodge_160 : xCV mX10_mayLodge mX10_isFree 160 10 2 := ⟨⟨me_X10_isFree, pd_X10_isFree, by decide, by decide⟩, lk_X10_160, im_X10_isFree, se_X10_isFree, rfl⟩
theorem cs_X10_mayLodge_163 : xCV mX10_mayLodge mX10_hasTold 163 10 3 := ⟨⟨me_X10_hasTold, pd_X10_hasTold, by decide, by decide⟩, lk_X10_163, im_X10_hasTold, se_X10_hasTold, rfl⟩
theorem cs_X10_dearest_167 : xCV mX10_dearest mX10_mayLodge 167 10 2 := ⟨⟨me_X10_mayLodge, pd_X10_mayLodge, by decide, by decide⟩, lk_X10_167, im_X10_mayLodge, se_X10_mayLodge, rfl⟩
theorem cs_X10_dearest_163 : xCV mX10_dearest mX10_hasTold 163 10 3 := ⟨⟨me_X10_hasTold, pd_X10_hasTold, by decide, by decide⟩, lk_X10_163, im_X10_hasTold, se_X10_hasTold, rfl⟩
theorem cs_X10_lodge_151 : xCV mX10_lodge mX10_isParty 151 10 1 := ⟨⟨me_X10_isParty, pd_X10_isParty, by decide, by decide⟩, lk_X10_151, im_X10_isParty, se_X10_isParty, rfl⟩
theorem cs_X10_lodge_170 : xCV mX10_lodge mX10_dearest 170 10 2 := ⟨⟨me_X10_dearest, pd_X10_dearest, by decide, by decide⟩, lk_X10_170, im_X10_dearest, se_X10_dearest, rfl⟩
theorem cs_X10_lodge_167 : xCV mX10_lodge mX10_mayLodge 167 10 2 := ⟨⟨me_X10_mayLodge, pd_X10_mayLodge, by decide, by decide⟩, lk_X10_167, im_X10_mayLodge, se_X10_mayLodge, rfl⟩
theorem cs_X10_leave_151 : xCV mX10_leave mX10_isParty 151 10 1 := ⟨⟨me_X10_isParty, pd_X10_isParty, by decide, by decide⟩, lk_X10_151, im_X10_isParty, se_X10_isParty, rfl⟩
theorem cs_X10_about_151 : xCV mX10_about mX10_isParty 151 10 1 := ⟨⟨me_X10_isParty, pd_X10_isParty, by decide, by decide⟩, lk_X10_151, im_X10_isParty, se_X10_isParty, rfl⟩
theorem cs_X10_isThere_132 : xCS mX10_isThere mX10_within 132 3 := ⟨⟨me_X10_within, pd_X10_within, by decide, by decide⟩, lk_X10_132, st_X10_within⟩
theorem cs_X10_who_174 : xCV mX10_who mX10_isThere 174 10 2 := ⟨⟨me_X10_isThere, pd_X10_isThere, by decide, by decide⟩, lk_X10_174, im_X10_isThere, se_X10_isThere, rfl⟩
theorem cs_X10_in_177 : xCV mX10_in mX10_isHut 177 10 1 := ⟨⟨me_X10_isHut, pd_X10_isHut, by decide, by decide⟩, lk_X10_177, im_X10_isHut, se_X10_isHut, rfl⟩
theorem cs_X10_in_145 : xCS mX10_in mX10_isWeek 145 1 := ⟨⟨me_X10_isWeek, pd_X10_isWeek, by decide, by decide⟩, lk_X10_145, st_X10_isWeek⟩
theorem cs_X10_in_180 : xCV mX10_in mX10_who 180 10 2 := ⟨⟨me_X10_who, pd_X10_who, by decide, by decide⟩, lk_X10_180, im_X10_who, se_X10_who, rfl⟩
theorem cs_X10_empty_145 : xCS mX10_empty mX10_isWeek 145 1 := ⟨⟨me_X10_isWeek, pd_X10_isWeek, by decide, by decide⟩, lk_X10_145, st_X10_isWeek⟩
theorem cs_X10_empty_180 : xCV mX10_empty mX10_who 180 10 2 := ⟨⟨me_X10_who, pd_X10_who, by decide, by decide⟩, lk_X10_180, im_X10_who, se_X10_who, rfl⟩
theorem cs_X10_seats_132 : xCS mX10_seats mX10_within 132 3 := ⟨⟨me_X10_within, pd_X10_within, by decide, by decide⟩, lk_X10_132, st_X10_within⟩
theorem cs_X10_findUnits_174 : xCV mX10_findUnits mX10_isThere 174 10 2 := ⟨⟨me_X10_isThere, pd_X10_isThere, by decide, by decide⟩, lk_X10_174, im_X10_isThere, se_X10_isThere, rfl⟩
theorem cs_X10_findSittings_188 : xCV mX10_findSittings mX10_findUnits 188 10 1 := ⟨⟨me_X10_findUnits, pd_X10_findUnits, by decide, by decide⟩, lk_X10_188, im_X10_findUnits, se_X10_findUnits, rfl⟩
theorem cs_X10_apart_145 : xCS mX10_apart mX10_isWeek 145 1 := ⟨⟨me_X10_isWeek, pd_X10_isWeek, by decide, by decide⟩, lk_X10_145, st_X10_isWeek⟩
theorem cs_X10_apart_192 : xCV mX10_apart mX10_findSittings 192 10 1 := ⟨⟨me_X10_findSittings, pd_X10_findSittings, by decide, by decide⟩, lk_X10_192, im_X10_findSittings, se_X10_findSittings, rfl⟩
theorem cs_X10_sits_151 : xCV mX10_sits mX10_isParty 151 10 1 := ⟨⟨me_X10_isParty, pd_X10_isParty, by decide, by decide⟩, lk_X10_151, im_X10_isParty, se_X10_isParty, rfl⟩
theorem cs_X10_sits_145 : xCS mX10_sits mX10_isWeek 145 1 := ⟨⟨me_X10_isWeek, pd_X10_isWeek, by decide, by decide⟩, lk_X10_145, st_X10_isWeek⟩
theorem cs_X10_sits_174 : xCV mX10_sits mX10_isThere 174 10 2 := ⟨⟨me_X10_isThere, pd_X10_isThere, by decide, by decide⟩, lk_X10_174, im_X10_isThere, se_X10_isThere, rfl⟩
theorem cs_X10_sits_192 : xCV mX10_sits mX10_findSittings 192 10 1 := ⟨⟨me_X10_findSittings, pd_X10_findSittings, by decide, by decide⟩, lk_X10_192, im_X10_findSittings, se_X10_findSittings, rfl⟩
theorem cs_X10_more_132 : xCS mX10_more mX10_within 132 3 := ⟨⟨me_X10_within, pd_X10_within, by decide, by decide⟩, lk_X10_132, st_X10_within⟩
theorem cs_X10_dinners_192 : xCV mX10_dinners mX10_findSittings 192 10 1 := ⟨⟨me_X10_findSittings, pd_X10_findSittings, by decide, by decide⟩, lk_X10_192, im_X10_findSittings, se_X10_findSittings, rfl⟩
theorem cs_X10_foretell_145 : xCS mX10_foretell mX10_isWeek 145 1 := ⟨⟨me_X10_isWeek, pd_X10_isWeek, by decide, by decide⟩, lk_X10_145, st_X10_isWeek⟩
theorem cs_X10_foretell_132 : xCS mX10_foretell mX10_within 132 3 := ⟨⟨me_X10_within, pd_X10_within, by decide, by decide⟩, lk_X10_132, st_X10_within⟩
theorem cs_X10_foretell_198 : xCV mX10_foretell mX10_dinners 198 10 2 := ⟨⟨me_X10_dinners, pd_X10_dinners, by decide, by decide⟩, lk_X10_198, im_X10_dinners, se_X10_dinners, rfl⟩
theorem cs_X10_cook_145 : xCS mX10_cook mX10_isWeek 145 1 := ⟨⟨me_X10_isWeek, pd_X10_isWeek, by decide, by decide⟩, lk_X10_145, st_X10_isWeek⟩
theorem cs_X10_cook_132 : xCS mX10_cook mX10_within 132 3 := ⟨⟨me_X10_within, pd_X10_within, by decide, by decide⟩, lk_X10_132, st_X10_within⟩
theorem cs_X10_cook_198 : xCV mX10_cook mX10_dinners 198 10 2 := ⟨⟨me_X10_dinners, pd_X10_dinners, by decide, by decide⟩, lk_X10_198, im_X10_dinners, se_X10_dinners, rfl⟩
theorem cs_X10_line_132 : xCS mX10_line mX10_within 132 3 := ⟨⟨me_X10_within, pd_X10_within, by decide, by decide⟩, lk_X10_132, st_X10_within⟩
theorem cs_X10_hall_132 : xCS mX10_hall mX10_within 132 3 := ⟨⟨me_X10_within, pd_X10_within, by decide, by decide⟩, lk_X10_132, st_X10_within⟩
theorem cs_X10_show_132 : xCS mX10_show mX10_within 132 3 := ⟨⟨me_X10_within, pd_X10_within, by decide, by decide⟩, lk_X10_132, st_X10_within⟩
theorem cs_X10_wish_151 : xCV mX10_wish mX10_isParty 151 10 1 := ⟨⟨me_X10_isParty, pd_X10_isParty, by decide, by decide⟩, lk_X10_151, im_X10_isParty, se_X10_isParty, rfl⟩
theorem cs_X10_wish_132 : xCS mX10_wish mX10_within 132 3 := ⟨⟨me_X10_within, pd_X10_within, by decide, by decide⟩, lk_X10_132, st_X10_within⟩
theorem cs_X10_wet_132 : xCS mX10_wet mX10_within 132 3 := ⟨⟨me_X10_within, pd_X10_within, by decide, by decide⟩, lk_X10_132, st_X10_within⟩
theorem cs_X10_wet_213 : xCV mX10_wet mX10_isWet 213 10 1 := ⟨⟨me_X10_isWet, pd_X10_isWet, by decide, by decide⟩, lk_X10_213, im_X10_isWet, se_X10_isWet, rfl⟩
theorem cs_X10_placeOf_213 : xCV mX10_placeOf mX10_isWet 213 10 1 := ⟨⟨me_X10_isWet, pd_X10_isWet, by decide, by decide⟩, lk_X10_213, im_X10_isWet, se_X10_isWet, rfl⟩
theorem cs_X10_where_132 : xCS mX10_where mX10_within 132 3 := ⟨⟨me_X10_within, pd_X10_within, by decide, by decide⟩, lk_X10_132, st_X10_within⟩
theorem cs_X10_where_216 : xCV mX10_where mX10_placeOf 216 10 1 := ⟨⟨me_X10_placeOf, pd_X10_placeOf, by decide, by decide⟩, lk_X10_216, im_X10_placeOf, se_X10_placeOf, rfl⟩
theorem cs_X10_findCrowds_174 : xCV mX10_findCrowds mX10_isThere 174 10 2 := ⟨⟨me_X10_isThere, pd_X10_isThere, by decide, by decide⟩, lk_X10_174, im_X10_isThere, se_X10_isThere, rfl⟩
theorem cs_X10_findCrowds_216 : xCV mX10_findCrowds mX10_placeOf 216 10 1 := ⟨⟨me_X10_placeOf, pd_X10_placeOf, by decide, by decide⟩, lk_X10_216, im_X10_placeOf, se_X10_placeOf, rfl⟩
theorem cs_X10_goes_151 : xCV mX10_goes mX10_isParty 151 10 1 := ⟨⟨me_X10_isParty, pd_X10_isParty, by decide, by decide⟩, lk_X10_151, im_X10_isParty, se_X10_isParty, rfl⟩
theorem cs_X10_goes_145 : xCS mX10_goes mX10_isWeek 145 1 := ⟨⟨me_X10_isWeek, pd_X10_isWeek, by decide, by decide⟩, lk_X10_145, st_X10_isWeek⟩
theorem cs_X10_goes_132 : xCS mX10_goes mX10_within 132 3 := ⟨⟨me_X10_within, pd_X10_within, by decide, by decide⟩, lk_X10_132, st_X10_within⟩
theorem cs_X10_goes_219 : xCV mX10_goes mX10_findCrowds 219 10 2 := ⟨⟨me_X10_findCrowds, pd_X10_findCrowds, by decide, by decide⟩, lk_X10_219, im_X10_findCrowds, se_X10_findCrowds, rfl⟩
theorem cs_X10_turned_151 : xCV mX10_turned mX10_isParty 151 10 1 := ⟨⟨me_X10_isParty, pd_X10_isParty, by decide, by decide⟩, lk_X10_151, im_X10_isParty, se_X10_isParty, rfl⟩
theorem cs_X10_turned_145 : xCS mX10_turned mX10_isWeek 145 1 := ⟨⟨me_X10_isWeek, pd_X10_isWeek, by decide, by decide⟩, lk_X10_145, st_X10_isWeek⟩
theorem cs_X10_turned_132 : xCS mX10_turned mX10_within 132 3 := ⟨⟨me_X10_within, pd_X10_within, by decide, by decide⟩, lk_X10_132, st_X10_within⟩
theorem cs_X10_turned_219 : xCV mX10_turned mX10_findCrowds 219 10 2 := ⟨⟨me_X10_findCrowds, pd_X10_findCrowds, by decide, by decide⟩, lk_X10_219, im_X10_findCrowds, se_X10_findCrowds, rfl⟩
theorem cs_X10_crowd_132 : xCS mX10_crowd mX10_within 132 3 := ⟨⟨me_X10_within, pd_X10_within, by decide, by decide⟩, lk_X10_132, st_X10_within⟩
theorem cs_X10_crowd_145 : xCS mX10_crowd mX10_isWeek 145 1 := ⟨⟨me_X10_isWeek, pd_X10_isWeek, by decide, by decide⟩, lk_X10_145, st_X10_isWeek⟩
theorem cs_X10_crowd_219 : xCV mX10_crowd mX10_findCrowds 219 10 2 := ⟨⟨me_X10_findCrowds, pd_X10_findCrowds, by decide, by decide⟩, lk_X10_219, im_X10_findCrowds, se_X10_findCrowds, rfl⟩
theorem cs_X10_group_132 : xCS mX10_group mX10_within 132 3 := ⟨⟨me_X10_within, pd_X10_within, by decide, by decide⟩, lk_X10_132, st_X10_within⟩
theorem cs_X10_group_232 : xCV mX10_group mX10_manyIn 232 10 1 := ⟨⟨me_X10_manyIn, pd_X10_manyIn, by decide, by decide⟩, lk_X10_232, im_X10_manyIn, se_X10_manyIn, rfl⟩
theorem cs_X10_isChild_132 : xCS mX10_isChild mX10_within 132 3 := ⟨⟨me_X10_within, pd_X10_within, by decide, by decide⟩, lk_X10_132, st_X10_within⟩
theorem cs_X10_child_151 : xCV mX10_child mX10_isParty 151 10 1 := ⟨⟨me_X10_isParty, pd_X10_isParty, by decide, by decide⟩, lk_X10_151, im_X10_isParty, se_X10_isParty, rfl⟩
theorem cs_X10_child_132 : xCS mX10_child mX10_within 132 3 := ⟨⟨me_X10_within, pd_X10_within, by decide, by decide⟩, lk_X10_132, st_X10_within⟩
theorem cs_X10_hand_235 : xCV mX10_hand mX10_isChild 235 10 1 := ⟨⟨me_X10_isChild, pd_X10_isChild, by decide, by decide⟩, lk_X10_235, im_X10_isChild, se_X10_isChild, rfl⟩
theorem cs_X10_hand_132 : xCS mX10_hand mX10_within 132 3 := ⟨⟨me_X10_within, pd_X10_within, by decide, by decide⟩, lk_X10_132, st_X10_within⟩
theorem cs_X10_hand_232 : xCV mX10_hand mX10_manyIn 232 10 1 := ⟨⟨me_X10_manyIn, pd_X10_manyIn, by decide, by decide⟩, lk_X10_232, im_X10_manyIn, se_X10_manyIn, rfl⟩
theorem cs_X10_fetch_235 : xCV mX10_fetch mX10_isChild 235 10 1 := ⟨⟨me_X10_isChild, pd_X10_isChild, by decide, by decide⟩, lk_X10_235, im_X10_isChild, se_X10_isChild, rfl⟩
theorem cs_X10_fetch_151 : xCV mX10_fetch mX10_isParty 151 10 1 := ⟨⟨me_X10_isParty, pd_X10_isParty, by decide, by decide⟩, lk_X10_151, im_X10_isParty, se_X10_isParty, rfl⟩
theorem cs_X10_with_235 : xCV mX10_with mX10_isChild 235 10 1 := ⟨⟨me_X10_isChild, pd_X10_isChild, by decide, by decide⟩, lk_X10_235, im_X10_isChild, se_X10_isChild, rfl⟩
theorem cs_X10_list_132 : xCS mX10_list mX10_within 132 3 := ⟨⟨me_X10_within, pd_X10_within, by decide, by decide⟩, lk_X10_132, st_X10_within⟩
theorem cs_X10_pays_132 : xCS mX10_pays mX10_within 132 3 := ⟨⟨me_X10_within, pd_X10_within, by decide, by decide⟩, lk_X10_132, st_X10_within⟩
theorem cs_X10_isSheet_132 : xCS mX10_isSheet mX10_within 132 3 := ⟨⟨me_X10_within, pd_X10_within, by decide, by decide⟩, lk_X10_132, st_X10_within⟩
theorem cs_X10_sheet_250 : xCS mX10_sheet mX10_isSheet 250 1 := ⟨⟨me_X10_isSheet, pd_X10_isSheet, by decide, by decide⟩, lk_X10_250, st_X10_isSheet⟩
theorem cs_X10_sheet_132 : xCS mX10_sheet mX10_within 132 3 := ⟨⟨me_X10_within, pd_X10_within, by decide, by decide⟩, lk_X10_132, st_X10_within⟩
theorem cs_X10_sheet_253 : xCV mX10_sheet mX10_met 253 10 1 := ⟨⟨me_X10_met, pd_X10_met, by decide, by decide⟩, lk_X10_253, im_X10_met, se_X10_met, rfl⟩
theorem cs_X10_lose_250 : xCS mX10_lose mX10_isSheet 250 1 := ⟨⟨me_X10_isSheet, pd_X10_isSheet, by decide, by decide⟩, lk_X10_250, st_X10_isSheet⟩
theorem cs_X10_lose_253 : xCV mX10_lose mX10_met 253 10 1 := ⟨⟨me_X10_met, pd_X10_met, by decide, by decide⟩, lk_X10_253, im_X10_met, se_X10_met, rfl⟩
theorem cs_X10_lacks_253 : xCV mX10_lacks mX10_met 253 10 1 := ⟨⟨me_X10_met, pd_X10_met, by decide, by decide⟩, lk_X10_253, im_X10_met, se_X10_met, rfl⟩
theorem cs_X10_lacks_132 : xCS mX10_lacks mX10_within 132 3 := ⟨⟨me_X10_within, pd_X10_within, by decide, by decide⟩, lk_X10_132, st_X10_within⟩
theorem cs_X10_put_250 : xCS mX10_put mX10_isSheet 250 1 := ⟨⟨me_X10_isSheet, pd_X10_isSheet, by decide, by decide⟩, lk_X10_250, st_X10_isSheet⟩
theorem cs_X10_put_132 : xCS mX10_put mX10_within 132 3 := ⟨⟨me_X10_within, pd_X10_within, by decide, by decide⟩, lk_X10_132, st_X10_within⟩
theorem cs_X10_put_256 : xCV mX10_put mX10_lacks 256 10 3 := ⟨⟨me_X10_lacks, pd_X10_lacks, by decide, by decide⟩, lk_X10_256, im_X10_lacks, se_X10_lacks, rfl⟩
theorem cs_X10_get_250 : xCS mX10_get mX10_isSheet 250 1 := ⟨⟨me_X10_isSheet, pd_X10_isSheet, by decide, by decide⟩, lk_X10_250, st_X10_isSheet⟩
theorem cs_X10_get_132 : xCS mX10_get mX10_within 132 3 := ⟨⟨me_X10_within, pd_X10_within, by decide, by decide⟩, lk_X10_132, st_X10_within⟩
theorem cs_X10_get_256 : xCV mX10_get mX10_lacks 256 10 3 := ⟨⟨me_X10_lacks, pd_X10_lacks, by decide, by decide⟩, lk_X10_256, im_X10_lacks, se_X10_lacks, rfl⟩
theorem cs_X10_copy_250 : xCS mX10_copy mX10_isSheet 250 1 := ⟨⟨me_X10_isSheet, pd_X10_isSheet, by decide, by decide⟩, lk_X10_250, st_X10_isSheet⟩
theorem cs_X10_copy_253 : xCV mX10_copy mX10_met 253 10 1 := ⟨⟨me_X10_met, pd_X10_met, by decide, by decide⟩, lk_X10_253, im_X10_met, se_X10_met, rfl⟩
theorem cs_X10_digest_263 : xCV mX10_digest mX10_count 263 10 1 := ⟨⟨me_X10_count, pd_X10_count, by decide, by decide⟩, lk_X10_263, im_X10_count, se_X10_count, rfl⟩
theorem cs_X10_digest_266 : xCV mX10_digest mX10_apart 266 10 1 := ⟨⟨me_X10_apart, pd_X10_apart, by decide, by decide⟩, lk_X10_266, im_X10_apart, se_X10_apart, rfl⟩
theorem cs_X10_digest_216 : xCV mX10_digest mX10_placeOf 216 10 1 := ⟨⟨me_X10_placeOf, pd_X10_placeOf, by decide, by decide⟩, lk_X10_216, im_X10_placeOf, se_X10_placeOf, rfl⟩
theorem cs_J7_fill_fda19_13 : xCS mJ7_fill_fda19 mJ7_rangeCheck_23922 13 3 := ⟨⟨me_J7_rangeCheck_23922, pd_J7_rangeCheck_23922, by decide, by decide⟩, lk_J7_13, st_J7_rangeCheck_23922⟩
