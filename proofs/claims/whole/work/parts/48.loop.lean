/-! the dispatch, the loop -/
theorem l_disp {L : Nat} {xs : Nat → Int32} {i : Nat} {n : Nat → Nat} {σ M : xM} (hL : L ≤ 3072) (hi : i + 6 ≤ L) (I : Iv n σ) (R : RX n σ M) (Rm : RM n σ M) (next : ∀ (n' : Nat → Nat) (σ' M' : xM), Iv n' σ' → RX n' σ' M' → RM n' σ' M' → xLW L xs 1485 i [] M') (x : Int32) : xLW L xs 33 i [.int x] M := by
  by_cases h0 : x.toInt = 0
  · exact xLW.tswIn 200 dL_law_33 (by omega) (by omega) (by rw [h0]; rfl) (by decide) (lc_0 hL hi I R Rm next)
  by_cases h1 : x.toInt = 1
  · exact xLW.tswIn 233 dL_law_33 (by omega) (by omega) (by rw [h1]; rfl) (by decide) (lc_1 hL hi I R Rm next)
  by_cases h2 : x.toInt = 2
  · exact xLW.tswIn 296 dL_law_33 (by omega) (by omega) (by rw [h2]; rfl) (by decide) (lc_2 hL hi I R Rm next)
  by_cases h3 : x.toInt = 3
  · exact xLW.tswIn 339 dL_law_33 (by omega) (by omega) (by rw [h3]; rfl) (by decide) (lc_3 hL hi I R Rm next)
  by_cases h4 : x.toInt = 4
  · exact xLW.tswIn 362 dL_law_33 (by omega) (by omega) (by rw [h4]; rfl) (by decide) (lc_4 hL hi I R Rm next)
  by_cases h5 : x.toInt = 5
  · exact xLW.tswIn 375 dL_law_33 (by omega) (by omega) (by rw [h5]; rfl) (by decide) (lc_5 hL hi I R Rm next)
  by_cases h6 : x.toInt = 6
  · exact xLW.tswIn 398 dL_law_33 (by omega) (by omega) (by rw [h6]; rfl) (by decide) (lc_6 hL hi I R Rm next)
  by_cases h7 : x.toInt = 7
  · exact xLW.tswIn 431 dL_law_33 (by omega) (by omega) (by rw [h7]; rfl) (by decide) (lc_7 hL hi I R Rm next)
  by_cases h8 : x.toInt = 8
  · exact xLW.tswIn 464 dL_law_33 (by omega) (by omega) (by rw [h8]; rfl) (by decide) (lc_8 hL hi I R Rm next)
  by_cases h9 : x.toInt = 9
  · exact xLW.tswIn 487 dL_law_33 (by omega) (by omega) (by rw [h9]; rfl) (by decide) (lc_9 hL hi I R Rm next)
  by_cases h10 : x.toInt = 10
  · exact xLW.tswIn 520 dL_law_33 (by omega) (by omega) (by rw [h10]; rfl) (by decide) (lc_10 hL hi I R Rm next)
  by_cases h11 : x.toInt = 11
  · exact xLW.tswIn 543 dL_law_33 (by omega) (by omega) (by rw [h11]; rfl) (by decide) (lc_11 hL hi I R Rm next)
  by_cases h12 : x.toInt = 12
  · exact xLW.tswIn 576 dL_law_33 (by omega) (by omega) (by rw [h12]; rfl) (by decide) (lc_12 hL hi I R Rm next)
  by_cases h13 : x.toInt = 13
  · exact xLW.tswIn 599 dL_law_33 (by omega) (by omega) (by rw [h13]; rfl) (by decide) (lc_13 hL hi I R Rm next)
  by_cases h14 : x.toInt = 14
  · exact xLW.tswIn 632 dL_law_33 (by omega) (by omega) (by rw [h14]; rfl) (by decide) (lc_14 hL hi I R Rm next)
  by_cases h15 : x.toInt = 15
  · exact xLW.tswIn 675 dL_law_33 (by omega) (by omega) (by rw [h15]; rfl) (by decide) (lc_15 hL hi I R Rm next)
  by_cases h16 : x.toInt = 16
  · exact xLW.tswIn 708 dL_law_33 (by omega) (by omega) (by rw [h16]; rfl) (by decide) (lc_16 hL hi I R Rm next)
  by_cases h17 : x.toInt = 17
  · exact xLW.tswIn 741 dL_law_33 (by omega) (by omega) (by rw [h17]; rfl) (by decide) (lc_17 hL hi I R Rm next)
  by_cases h18 : x.toInt = 18
  · exact xLW.tswIn 784 dL_law_33 (by omega) (by omega) (by rw [h18]; rfl) (by decide) (lc_18 hL hi I R Rm next)
  by_cases h19 : x.toInt = 19
  · exact xLW.tswIn 817 dL_law_33 (by omega) (by omega) (by rw [h19]; rfl) (by decide) (lc_19 hL hi I R Rm next)
  by_cases h20 : x.toInt = 20
  · exact xLW.tswIn 840 dL_law_33 (by omega) (by omega) (by rw [h20]; rfl) (by decide) (lc_20 hL hi I R Rm next)
  by_cases h21 : x.toInt = 21
  · exact xLW.tswIn 863 dL_law_33 (by omega) (by omega) (by rw [h21]; rfl) (by decide) (lc_21 hL hi I R Rm next)
  by_cases h22 : x.toInt = 22
  · exact xLW.tswIn 906 dL_law_33 (by omega) (by omega) (by rw [h22]; rfl) (by decide) (lc_22 hL hi I R Rm next)
  by_cases h23 : x.toInt = 23
  · exact xLW.tswIn 949 dL_law_33 (by omega) (by omega) (by rw [h23]; rfl) (by decide) (lc_23 hL hi I R Rm next)
  by_cases h24 : x.toInt = 24
  · exact xLW.tswIn 982 dL_law_33 (by omega) (by omega) (by rw [h24]; rfl) (by decide) (lc_24 hL hi I R Rm next)
  by_cases h25 : x.toInt = 25
  · exact xLW.tswIn 1035 dL_law_33 (by omega) (by omega) (by rw [h25]; rfl) (by decide) (lc_25 hL hi I R Rm next)
  by_cases h26 : x.toInt = 26
  · exact xLW.tswIn 1068 dL_law_33 (by omega) (by omega) (by rw [h26]; rfl) (by decide) (lc_26 hL hi I R Rm next)
  by_cases h27 : x.toInt = 27
  · exact xLW.tswIn 1091 dL_law_33 (by omega) (by omega) (by rw [h27]; rfl) (by decide) (lc_27 hL hi I R Rm next)
  by_cases h28 : x.toInt = 28
  · exact xLW.tswIn 1124 dL_law_33 (by omega) (by omega) (by rw [h28]; rfl) (by decide) (lc_28 hL hi I R Rm next)
  by_cases h29 : x.toInt = 29
  · exact xLW.tswIn 1147 dL_law_33 (by omega) (by omega) (by rw [h29]; rfl) (by decide) (lc_29 hL hi I R Rm next)
  by_cases h30 : x.toInt = 30
  · exact xLW.tswIn 1190 dL_law_33 (by omega) (by omega) (by rw [h30]; rfl) (by decide) (lc_30 hL hi I R Rm next)
  by_cases h31 : x.toInt = 31
  · exact xLW.tswIn 1223 dL_law_33 (by omega) (by omega) (by rw [h31]; rfl) (by decide) (lc_31 hL hi I R Rm next)
  by_cases h32 : x.toInt = 32
  · exact xLW.tswIn 1266 dL_law_33 (by omega) (by omega) (by rw [h32]; rfl) (by decide) (lc_32 hL hi I R Rm next)
  by_cases h33 : x.toInt = 33
  · exact xLW.tswIn 1289 dL_law_33 (by omega) (by omega) (by rw [h33]; rfl) (by decide) (lc_33 hL hi I R Rm next)
  by_cases h34 : x.toInt = 34
  · exact xLW.tswIn 1342 dL_law_33 (by omega) (by omega) (by rw [h34]; rfl) (by decide) (lc_34 hL hi I R Rm next)
  by_cases h35 : x.toInt = 35
  · exact xLW.tswIn 1385 dL_law_33 (by omega) (by omega) (by rw [h35]; rfl) (by decide) (lc_35 hL hi I R Rm next)
  by_cases h36 : x.toInt = 36
  · exact xLW.tswIn 1448 dL_law_33 (by omega) (by omega) (by rw [h36]; rfl) (by decide) (lc_36 hL hi I R Rm next)
  by_cases h37 : x.toInt = 37
  · exact xLW.tswIn 1471 dL_law_33 (by omega) (by omega) (by rw [h37]; rfl) (by decide) (lc_37 hL hi I R Rm next)
  exact xLW.tswOut 1485 dL_law_33 (by omega) (by decide) (next _ _ _ I R Rm)
theorem l_loop {L : Nat} {xs : Nat → Int32} (hL : L ≤ 3072) : ∀ (d i : Nat) (n : Nat → Nat) (σ M : xM), L + 6 ≤ i + d → i ≤ L + 6 → Iv n σ → RX n σ M → RM n σ M → xLW L xs 18 i [] M := by
  intro d
  induction d with
  | zero =>
    intro i n σ M hd hi I R Rm
    exact xLW.head hL hi (fun h6 => by omega)
  | succ d ih =>
    intro i n σ M hd hi I R Rm
    exact xLW.head hL hi (fun h6 => l_disp hL h6 I R Rm (fun n1 σ1 M1 I1 R1 Rm1 => xLW.next (ih (i + 6) n1 σ1 M1 (by omega) (by omega) I1 R1 Rm1)) _)
