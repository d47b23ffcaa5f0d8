/-! THE GROWING WORLD: changes of form, Arrays.fill -/
section GF
variable {k : xK} {mc ms n0 pc : Nat} {L : xL} {st : List Value} {w : List gX} {cs sl : Nat} {wF : List gX}
theorem G.conv {w2 : List gX} (e : w = w2) (h : G k mc ms n0 pc L st w2 cs sl wF) : G k mc ms n0 pc L st w cs sl wF := by subst e; exact h
theorem G.convL {L2 : xL} (e : L = L2) (h : G k mc ms n0 pc L2 st w cs sl wF) : G k mc ms n0 pc L st w cs sl wF := by subst e; exact h
end GF
theorem gupd_fill (f : Nat → Int32) (v : Int32) (i : Nat) : upd (fun j => if j < i then v else f j) i v = (fun j => if j < i + 1 then v else f j) := by
  funext j
  simp only [upd]
  by_cases h1 : j = i
  · subst h1; simp
  · rw [if_neg h1]
    by_cases h2 : j < i
    · rw [if_pos h2, if_pos (by omega)]
    · rw [if_neg h2, if_neg (by omega)]
theorem gset_at {w : List gX} {q : Nat} {X Y : gX} (h : w[q]? = some Y) : (w.set q X)[q]? = some X := by
  rw [List.getElem?_set_self (List.getElem?_eq_some_iff.mp h).1]
theorem gset_self {w : List gX} {q : Nat} {X : gX} (h : w[q]? = some X) : w.set q X = w := by
  apply List.ext_getElem?
  intro i
  rw [List.getElem?_set]
  split
  · rename_i e; subst e; split
    · exact h.symm
    · rename_i h2; exact absurd (List.getElem?_eq_some_iff.mp h).1 h2
  · rfl
theorem gl_fill {w : List gX} {q n : Nat} {f : Nat → Int32} (v : Int32) (hq : w[q]? = some (.inl (false, n, f))) (hn : n < 5001) : ∀ (d i : Nat), n = i + d →
    G mJ7_fill_53178 0 0 w.length 5 [some (.ref q), some (.int v), some (.int (nI i)), some (.int (nI n))] [] (w.set q (.inl (false, n, fun j => if j < i then v else f j))) 0 0 (w.set q (.inl (false, n, fun j => if j < n then v else f j))) := by
  intro d
  induction d with
  | zero =>
    intro i h
    have e : i = n := by omega
    subst e
    refine G.iload_n 2 dJ7_fill_53178_5 rfl rfl ?_
    refine G.iload_n 3 dJ7_fill_53178_6 rfl rfl ?_
    refine G.icge 20 dJ7_fill_53178_7 (by decide) (fun _ => ?_) (fun h => absurd (nI_le (Nat.le_refl _) (by omega)) h)
    exact G.vret dJ7_fill_53178_20 rfl rfl rfl rfl
  | succ d ih =>
    intro i h
    refine G.iload_n 2 dJ7_fill_53178_5 rfl rfl ?_
    refine G.iload_n 3 dJ7_fill_53178_6 rfl rfl ?_
    refine G.icge 20 dJ7_fill_53178_7 (by decide) (fun h => absurd h (nI_ge (by omega) (by omega))) (fun _ => ?_)
    refine G.aload_n 0 dJ7_fill_53178_10 rfl rfl ?_
    refine G.iload_n 2 dJ7_fill_53178_11 rfl rfl ?_
    refine G.iload_n 1 dJ7_fill_53178_12 rfl rfl ?_
    refine G.iast i dJ7_fill_53178_13 (gset_at hq) (vp_in_nI (by omega) (by omega)) (nI_clamp (by omega)) ?_
    rw [List.set_set, gupd_fill]
    refine G.iinc 2 1 dJ7_fill_53178_14 rfl rfl (by decide) rfl ?_
    refine G.goto 5 dJ7_fill_53178_17 (by decide) ?_
    have := ih (i + 1) (by omega)
    rw [nI_succ] at this
    exact this
theorem gs_fill {w : List gX} {q n : Nat} {f : Nat → Int32} (v : Int32) (hq : w[q]? = some (.inl (false, n, f))) (hn : n < 5001) : Gs mJ7_fill_53178 [.ref q, .int v] w 0 0 (w.set q (.inl (false, n, fun j => if j < n then v else f j))) := by
  show G mJ7_fill_53178 0 0 w.length 0 [some (.ref q), some (.int v), none, none] [] w 0 0 _
  refine G.iconst (v := 0) dJ7_fill_53178_0 (by decide) ?_
  refine G.istore_n 2 dJ7_fill_53178_1 rfl (by decide) rfl ?_
  refine G.aload_n 0 dJ7_fill_53178_2 rfl rfl ?_
  refine G.alen dJ7_fill_53178_3 hq ?_
  refine G.istore_n 3 dJ7_fill_53178_4 rfl (by decide) rfl ?_
  have := gl_fill v hq hn n 0 (by omega)
  have e : w.set q (.inl (false, n, fun j => if j < 0 then v else f j)) = w := by
    have e2 : (fun j => if j < 0 then v else f j) = f := by funext j; simp
    rw [e2]; exact gset_self hq
  rw [e, nI_0] at this
  exact this
