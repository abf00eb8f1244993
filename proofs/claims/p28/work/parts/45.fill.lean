/-- the first i are v -/
def flF (f : Nat → Int32) (v : Int32) (i : Nat) : Nat → Int32 := fun j => if j < i then v else f j
theorem flF_0 (f : Nat → Int32) (v : Int32) : f = flF f v 0 := by
  funext j
  exact (if_neg (Nat.not_lt_zero j)).symm
theorem flF_s (f : Nat → Int32) (v : Int32) (i : Nat) : upd (flF f v i) i v = flF f v (i + 1) := by
  funext j
  unfold upd flF
  by_cases h : j = i
  · subst h
    rw [if_pos rfl, if_pos (by omega)]
  · rw [if_neg h]
    by_cases h2 : j < i
    · rw [if_pos h2, if_pos (by omega)]
    · rw [if_neg h2, if_neg (by omega)]

set_option maxRecDepth 100000 in
set_option maxHeartbeats 4000000 in
theorem kJ7_fill_a (l : Launch) (G : GG) (p : Nat) (f : Nat → Int32) (v : Int32)  : MU l G yJ7_fill_53178 wsJ7_fill_53178 ({ frames := 0, cells := 0, slots := 0, locals := 0 } : Room) [.ref p, .int v] [(p, .inl (G.2.1, 24, .inl f))] none [(p, .inl (G.2.1, 24, .inl (flF f v 24)))] := by
  refine MU.of (cc := cJ7_fill_53178) (maxL := 4) (ret := none) (by decide) rfl (Nat.le_of_ble_eq_true rfl) ?_
  intro cx hxl hxG C M E
  subst hxl
  subst hxG
  show X cx (0, 0) [(p, .inl ((xG cx).2.1, 24, .inl f))] [(0, .ref p), (1, .int v)] 0 []
  refine x_iconst (v := 0) C dJ7_fill_53178_0 (by decide) ?_
  refine x_istore_n C [(2, .int 0), (0, .ref p), (1, .int v)] dJ7_fill_53178_1 rfl (by decide) rfl ?_
  refine x_aload_n C 1 dJ7_fill_53178_2 rfl rfl ?_
  refine x_alen (v := 24) C 0 rfl rfl rfl dJ7_fill_53178_3 ?_
  refine x_istore_n C [(3, .int 24), (2, .int 0), (0, .ref p), (1, .int v)] dJ7_fill_53178_4 rfl (by decide) rfl ?_
  have loop_5 : ∀ (zz : Nat) (i : Nat) (g : Nat → Int32) (hi : i ≤ 24) (hz : 25 ≤ i + zz) (eg : g = flF f v i), X cx (0, 0) [(p, .inl ((xG cx).2.1, 24, .inl g))] [(0, .ref p), (1, .int v), (2, .int (nI i)), (3, .int 24)] 5 [] := by
    intro zz
    induction zz with
    | zero =>
      intro i g hi hz eg
      exfalso; omega
    | succ zz ih =>
      intro i g hi hz eg
      refine x_iload_n C 2 dJ7_fill_53178_5 rfl rfl ?_
      refine x_iload_n C 3 dJ7_fill_53178_6 rfl rfl ?_
      refine x_icmp_ge C 20 dJ7_fill_53178_7 (by decide) (fun c_7 => ?_) (fun c_7 => ?_)
      ·
        have n_7 : 24 ≤ i := (nI_leI (a := 24) (b := i) (by omega) (by omega)).mp c_7
        exact x_vret C E dJ7_fill_53178_20 (by rw [eg, show i = 24 from by omega])
      ·
        have n_7 : ¬ (24 ≤ i) := fun q => c_7 ((nI_leI (a := 24) (b := i) (by omega) (by omega)).mpr q)
        refine x_aload_n C 0 dJ7_fill_53178_10 rfl rfl ?_
        refine x_iload_n C 2 dJ7_fill_53178_11 rfl rfl ?_
        refine x_iload_n C 1 dJ7_fill_53178_12 rfl rfl ?_
        refine x_iast C M 0 rfl rfl (vp_in_nI (by omega) (by decide)) (nI_clamp (by omega)) [(p, .inl ((xG cx).2.1, 24, .inl (upd g i v)))] rfl dJ7_fill_53178_13 ?_
        refine x_iinc C 2 [(2, .int (nI (i + 1))), (0, .ref p), (1, .int v), (3, .int 24)] dJ7_fill_53178_14 rfl (inc1 i) (by decide) rfl ?_
        refine x_goto (tgt := 5) C dJ7_fill_53178_17 (by decide) ?_
        refine x_lv [(0, .ref p), (1, .int v), (2, .int (nI (i + 1))), (3, .int 24)] [1, 2, 0, 3] rfl ?_
        exact ih (i + 1) (upd g i v) (by omega) (by omega) (by rw [eg]; exact flF_s f v i)
  refine x_lv [(0, .ref p), (1, .int v), (2, .int (nI 0)), (3, .int 24)] [2, 3, 1, 0] rfl ?_
  exact loop_5 (25) 0 f (by omega) (by omega) (flF_0 f v)

set_option maxRecDepth 100000 in
set_option maxHeartbeats 4000000 in
theorem kJ7_fill_b (l : Launch) (G : GG) (p : Nat) (f : Nat → Int32) (v : Int32)  : MU l G yJ7_fill_53178 wsJ7_fill_53178 ({ frames := 0, cells := 0, slots := 0, locals := 0 } : Room) [.ref p, .int v] [(p, .inl (G.2.1, 3, .inl f))] none [(p, .inl (G.2.1, 3, .inl (flF f v 3)))] := by
  refine MU.of (cc := cJ7_fill_53178) (maxL := 4) (ret := none) (by decide) rfl (Nat.le_of_ble_eq_true rfl) ?_
  intro cx hxl hxG C M E
  subst hxl
  subst hxG
  show X cx (0, 0) [(p, .inl ((xG cx).2.1, 3, .inl f))] [(0, .ref p), (1, .int v)] 0 []
  refine x_iconst (v := 0) C dJ7_fill_53178_0 (by decide) ?_
  refine x_istore_n C [(2, .int 0), (0, .ref p), (1, .int v)] dJ7_fill_53178_1 rfl (by decide) rfl ?_
  refine x_aload_n C 1 dJ7_fill_53178_2 rfl rfl ?_
  refine x_alen (v := 3) C 0 rfl rfl rfl dJ7_fill_53178_3 ?_
  refine x_istore_n C [(3, .int 3), (2, .int 0), (0, .ref p), (1, .int v)] dJ7_fill_53178_4 rfl (by decide) rfl ?_
  have loop_5 : ∀ (zz : Nat) (i : Nat) (g : Nat → Int32) (hi : i ≤ 3) (hz : 4 ≤ i + zz) (eg : g = flF f v i), X cx (0, 0) [(p, .inl ((xG cx).2.1, 3, .inl g))] [(0, .ref p), (1, .int v), (2, .int (nI i)), (3, .int 3)] 5 [] := by
    intro zz
    induction zz with
    | zero =>
      intro i g hi hz eg
      exfalso; omega
    | succ zz ih =>
      intro i g hi hz eg
      refine x_iload_n C 2 dJ7_fill_53178_5 rfl rfl ?_
      refine x_iload_n C 3 dJ7_fill_53178_6 rfl rfl ?_
      refine x_icmp_ge C 20 dJ7_fill_53178_7 (by decide) (fun c_7 => ?_) (fun c_7 => ?_)
      ·
        have n_7 : 3 ≤ i := (nI_leI (a := 3) (b := i) (by omega) (by omega)).mp c_7
        exact x_vret C E dJ7_fill_53178_20 (by rw [eg, show i = 3 from by omega])
      ·
        have n_7 : ¬ (3 ≤ i) := fun q => c_7 ((nI_leI (a := 3) (b := i) (by omega) (by omega)).mpr q)
        refine x_aload_n C 0 dJ7_fill_53178_10 rfl rfl ?_
        refine x_iload_n C 2 dJ7_fill_53178_11 rfl rfl ?_
        refine x_iload_n C 1 dJ7_fill_53178_12 rfl rfl ?_
        refine x_iast C M 0 rfl rfl (vp_in_nI (by omega) (by decide)) (nI_clamp (by omega)) [(p, .inl ((xG cx).2.1, 3, .inl (upd g i v)))] rfl dJ7_fill_53178_13 ?_
        refine x_iinc C 2 [(2, .int (nI (i + 1))), (0, .ref p), (1, .int v), (3, .int 3)] dJ7_fill_53178_14 rfl (inc1 i) (by decide) rfl ?_
        refine x_goto (tgt := 5) C dJ7_fill_53178_17 (by decide) ?_
        refine x_lv [(0, .ref p), (1, .int v), (2, .int (nI (i + 1))), (3, .int 3)] [1, 2, 0, 3] rfl ?_
        exact ih (i + 1) (upd g i v) (by omega) (by omega) (by rw [eg]; exact flF_s f v i)
  refine x_lv [(0, .ref p), (1, .int v), (2, .int (nI 0)), (3, .int 3)] [2, 3, 1, 0] rfl ?_
  exact loop_5 (4) 0 f (by omega) (by omega) (flF_0 f v)
