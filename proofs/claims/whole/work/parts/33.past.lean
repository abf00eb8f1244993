theorem upd_ne {f : Nat → Int32} {j k : Nat} {v : Int32} (h : k ≠ j) : upd f j v k = f k := by
  unfold upd
  exact if_neg h
theorem upd_eq {f : Nat → Int32} {j : Nat} {v : Int32} : upd f j v j = v := by
  unfold upd
  exact if_pos rfl
/-- k of f's, from fo on, put into g from t on -/
def cpS (f : Nat → Int32) (fo : Nat) (g : Nat → Int32) (t k : Nat) : Nat → Int32 := fun j => if t ≤ j ∧ j < t + k then f (fo + (j - t)) else g j
theorem cpS_0 (f : Nat → Int32) (fo : Nat) (g : Nat → Int32) (t : Nat) : g = cpS f fo g t 0 := by
  funext j
  exact (if_neg (fun q => by omega)).symm
theorem cpS_s (f : Nat → Int32) (fo : Nat) (g : Nat → Int32) (t i : Nat) : upd (cpS f fo g t i) (t + i) (f (fo + i)) = cpS f fo g t (i + 1) := by
  funext j
  unfold upd cpS
  by_cases h : j = t + i
  · subst h
    rw [if_pos rfl, if_pos (by omega), show t + i - t = i from by omega]
  · rw [if_neg h]
    by_cases h2 : t ≤ j ∧ j < t + i
    · rw [if_pos h2, if_pos (by omega)]
    · rw [if_neg h2, if_neg (by omega)]
/-- the first i are those a state further on -/
def shF (f : Nat → Int32) (i : Nat) : Nat → Int32 := fun j => if j < i then f (j + 508) else f j
theorem shF_0 (f : Nat → Int32) : f = shF f 0 := by
  funext j
  exact (if_neg (Nat.not_lt_zero j)).symm
theorem shF_s (f : Nat → Int32) (i : Nat) : upd (shF f i) i (shF f i (i + 508)) = shF f (i + 1) := by
  funext j
  unfold upd shF
  by_cases h : j = i
  · subst h
    rw [if_pos rfl, if_neg (by omega), if_pos (by omega)]
  · rw [if_neg h]
    by_cases h2 : j < i
    · rw [if_pos h2, if_pos (by omega)]
    · rw [if_neg h2, if_neg (by omega)]
def rcN (s : Nat) : Nat := if s = 4 then 4 else s + 1
def rcF (f : Nat → Int32) (s : Nat) (z : Nat → Int32) : Nat → Int32 := if s = 4 then cpS z 0 (shF f 1524) (508 * 3) 508 else cpS z 0 f (508 * s) 508
theorem rc_n {s : Nat} (h : ¬ s = 4) (f z : Nat → Int32) : rcN s = s + 1 ∧ rcF f s z = cpS z 0 f (508 * s) 508 := ⟨if_neg h, if_neg h⟩
theorem rc_4 (f z : Nat → Int32) : rcN 4 = 3 + 1 ∧ rcF f 4 z = cpS z 0 (shF f 1524) (508 * 3) 508 := ⟨rfl, if_pos rfl⟩
def unZ (z f : Nat → Int32) (s : Nat) : Nat → Int32 := if s = 0 then z else cpS f (508 * (s - 1)) z 0 508
theorem unZ_s (z f : Nat → Int32) (s : Nat) : unZ z f (s + 1) = cpS f (508 * s) z 0 508 := if_neg (Nat.succ_ne_zero s)
abbrev RZ := (Nat → Int32) × (Nat → Int32) × Nat
theorem lat_nat (z : Nat → Int32) (r p : Int32) : ∀ n, lat z r p n = -1005 ∨ ∃ j, j < n ∧ lat z r p n = nI j
  | 0 => Or.inl rfl
  | n + 1 => by
    rw [lat_s]
    split
    · exact Or.inr ⟨n, by omega, rfl⟩
    · exact (lat_nat z r p n).imp id (fun ⟨j, h1, h2⟩ => ⟨j, by omega, h2⟩)
theorem lat_60 {n : Nat} (hn : n ≤ 60) (z : Nat → Int32) (r p : Int32) : lat z r p n = -1005 ∨ ∃ j, j < 60 ∧ lat z r p n = nI j := (lat_nat z r p n).imp id (fun ⟨j, h1, h2⟩ => ⟨j, by omega, h2⟩)

set_option maxRecDepth 100000 in
set_option maxHeartbeats 4000000 in
theorem kX7_copyState_a (l : Launch) (G : GG) (p : Nat) (q : Nat) (f : Nat → Int32) (g : Nat → Int32) (fo : Nat) (t : Nat) (hf : fo + 508 ≤ 508) (ht : t + 508 ≤ 2032) : MU l G yX7_copyState wsX7_copyState ({ frames := 0, cells := 0, slots := 0, locals := 0 } : Room) [.ref p, .int (nI fo), .ref q, .int (nI t)] [(p, .inl (G.2.1, 508, .inl f)), (q, .inl (G.2.1, 2032, .inl g))] none [(p, .inl (G.2.1, 508, .inl f)), (q, .inl (G.2.1, 2032, .inl (cpS f fo g t 508)))] := by
  refine MU.of (cc := cX7_copyState) (maxL := 5) (ret := none) (by decide) rfl (Nat.le_of_ble_eq_true rfl) ?_
  intro cx hxl hxG C M E
  subst hxl
  subst hxG
  show X cx (0, 0) [(p, .inl ((xG cx).2.1, 508, .inl f)), (q, .inl ((xG cx).2.1, 2032, .inl g))] [(0, .ref p), (1, .int (nI fo)), (2, .ref q), (3, .int (nI t))] 0 []
  refine x_iconst (v := 0) C dX7_copyState_0 (by decide) ?_
  refine x_istore C [(4, .int 0), (0, .ref p), (1, .int (nI fo)), (2, .ref q), (3, .int (nI t))] dX7_copyState_1 (by decide) rfl ?_
  have loop_3 : ∀ (zz : Nat) (i : Nat) (h : Nat → Int32) (hi : i ≤ 508) (hz : 509 ≤ i + zz) (eh : h = cpS f fo g t i), X cx (0, 0) [(p, .inl ((xG cx).2.1, 508, .inl f)), (q, .inl ((xG cx).2.1, 2032, .inl h))] [(0, .ref p), (1, .int (nI fo)), (2, .ref q), (3, .int (nI t)), (4, .int (nI i))] 3 [] := by
    intro zz
    induction zz with
    | zero =>
      intro i h hi hz eh
      exfalso; omega
    | succ zz ih =>
      intro i h hi hz eh
      refine x_iload C 4 dX7_copyState_3 rfl ?_
      refine x_sipush (v := 508) C dX7_copyState_5 (by decide) ?_
      refine x_icmp_ge C 29 dX7_copyState_8 (by decide) (fun c_8 => ?_) (fun c_8 => ?_)
      ·
        have n_8 : 508 ≤ i := (nI_leI (a := 508) (b := i) (by omega) (by omega)).mp c_8
        exact x_vret C E dX7_copyState_29 (by rw [eh, show i = 508 from by omega])
      ·
        have n_8 : ¬ (508 ≤ i) := fun q => c_8 ((nI_leI (a := 508) (b := i) (by omega) (by omega)).mpr q)
        refine x_aload_n C 2 dX7_copyState_11 rfl rfl ?_
        refine x_iload_n C 3 dX7_copyState_12 rfl rfl ?_
        refine x_iload C 4 dX7_copyState_13 rfl ?_
        refine x_iadd C (nI_add t i) dX7_copyState_15 ?_
        refine x_aload_n C 0 dX7_copyState_16 rfl rfl ?_
        refine x_iload_n C 1 dX7_copyState_17 rfl rfl ?_
        refine x_iload C 4 dX7_copyState_18 rfl ?_
        refine x_iadd C (nI_add fo i) dX7_copyState_20 ?_
        refine x_iald C 0 rfl rfl (vp_in_nI (by omega) (by decide)) (congrArg f (nI_clamp (by omega))) dX7_copyState_21 ?_
        refine x_iast C M 1 rfl rfl (vp_in_nI (by omega) (by decide)) (nI_clamp (by omega)) [(p, .inl ((xG cx).2.1, 508, .inl f)), (q, .inl ((xG cx).2.1, 2032, .inl (upd h (t + i) (f (fo + i)))))] rfl dX7_copyState_22 ?_
        refine x_iinc C 4 [(4, .int (nI (i + 1))), (0, .ref p), (1, .int (nI fo)), (2, .ref q), (3, .int (nI t))] dX7_copyState_23 rfl (inc1 i) (by decide) rfl ?_
        refine x_goto (tgt := 3) C dX7_copyState_26 (by decide) ?_
        refine x_lv [(0, .ref p), (1, .int (nI fo)), (2, .ref q), (3, .int (nI t)), (4, .int (nI (i + 1)))] [1, 2, 3, 4, 0] rfl ?_
        exact ih (i + 1) (upd h (t + i) (f (fo + i))) (by omega) (by omega) (by rw [eh]; exact cpS_s f fo g t i)
  refine x_lv [(0, .ref p), (1, .int (nI fo)), (2, .ref q), (3, .int (nI t)), (4, .int (nI 0))] [1, 2, 3, 4, 0] rfl ?_
  exact loop_3 (509) 0 g (by omega) (by omega) (cpS_0 f fo g t)

set_option maxRecDepth 100000 in
set_option maxHeartbeats 4000000 in
theorem kX7_copyState_b (l : Launch) (G : GG) (p : Nat) (q : Nat) (f : Nat → Int32) (g : Nat → Int32) (fo : Nat) (t : Nat) (hf : fo + 508 ≤ 2032) (ht : t + 508 ≤ 508) : MU l G yX7_copyState wsX7_copyState ({ frames := 0, cells := 0, slots := 0, locals := 0 } : Room) [.ref p, .int (nI fo), .ref q, .int (nI t)] [(p, .inl (G.2.1, 2032, .inl f)), (q, .inl (G.2.1, 508, .inl g))] none [(p, .inl (G.2.1, 2032, .inl f)), (q, .inl (G.2.1, 508, .inl (cpS f fo g t 508)))] := by
  refine MU.of (cc := cX7_copyState) (maxL := 5) (ret := none) (by decide) rfl (Nat.le_of_ble_eq_true rfl) ?_
  intro cx hxl hxG C M E
  subst hxl
  subst hxG
  show X cx (0, 0) [(p, .inl ((xG cx).2.1, 2032, .inl f)), (q, .inl ((xG cx).2.1, 508, .inl g))] [(0, .ref p), (1, .int (nI fo)), (2, .ref q), (3, .int (nI t))] 0 []
  refine x_iconst (v := 0) C dX7_copyState_0 (by decide) ?_
  refine x_istore C [(4, .int 0), (0, .ref p), (1, .int (nI fo)), (2, .ref q), (3, .int (nI t))] dX7_copyState_1 (by decide) rfl ?_
  have loop_3 : ∀ (zz : Nat) (i : Nat) (h : Nat → Int32) (hi : i ≤ 508) (hz : 509 ≤ i + zz) (eh : h = cpS f fo g t i), X cx (0, 0) [(p, .inl ((xG cx).2.1, 2032, .inl f)), (q, .inl ((xG cx).2.1, 508, .inl h))] [(0, .ref p), (1, .int (nI fo)), (2, .ref q), (3, .int (nI t)), (4, .int (nI i))] 3 [] := by
    intro zz
    induction zz with
    | zero =>
      intro i h hi hz eh
      exfalso; omega
    | succ zz ih =>
      intro i h hi hz eh
      refine x_iload C 4 dX7_copyState_3 rfl ?_
      refine x_sipush (v := 508) C dX7_copyState_5 (by decide) ?_
      refine x_icmp_ge C 29 dX7_copyState_8 (by decide) (fun c_8 => ?_) (fun c_8 => ?_)
      ·
        have n_8 : 508 ≤ i := (nI_leI (a := 508) (b := i) (by omega) (by omega)).mp c_8
        exact x_vret C E dX7_copyState_29 (by rw [eh, show i = 508 from by omega])
      ·
        have n_8 : ¬ (508 ≤ i) := fun q => c_8 ((nI_leI (a := 508) (b := i) (by omega) (by omega)).mpr q)
        refine x_aload_n C 2 dX7_copyState_11 rfl rfl ?_
        refine x_iload_n C 3 dX7_copyState_12 rfl rfl ?_
        refine x_iload C 4 dX7_copyState_13 rfl ?_
        refine x_iadd C (nI_add t i) dX7_copyState_15 ?_
        refine x_aload_n C 0 dX7_copyState_16 rfl rfl ?_
        refine x_iload_n C 1 dX7_copyState_17 rfl rfl ?_
        refine x_iload C 4 dX7_copyState_18 rfl ?_
        refine x_iadd C (nI_add fo i) dX7_copyState_20 ?_
        refine x_iald C 0 rfl rfl (vp_in_nI (by omega) (by decide)) (congrArg f (nI_clamp (by omega))) dX7_copyState_21 ?_
        refine x_iast C M 1 rfl rfl (vp_in_nI (by omega) (by decide)) (nI_clamp (by omega)) [(p, .inl ((xG cx).2.1, 2032, .inl f)), (q, .inl ((xG cx).2.1, 508, .inl (upd h (t + i) (f (fo + i)))))] rfl dX7_copyState_22 ?_
        refine x_iinc C 4 [(4, .int (nI (i + 1))), (0, .ref p), (1, .int (nI fo)), (2, .ref q), (3, .int (nI t))] dX7_copyState_23 rfl (inc1 i) (by decide) rfl ?_
        refine x_goto (tgt := 3) C dX7_copyState_26 (by decide) ?_
        refine x_lv [(0, .ref p), (1, .int (nI fo)), (2, .ref q), (3, .int (nI t)), (4, .int (nI (i + 1)))] [1, 2, 3, 4, 0] rfl ?_
        exact ih (i + 1) (upd h (t + i) (f (fo + i))) (by omega) (by omega) (by rw [eh]; exact cpS_s f fo g t i)
  refine x_lv [(0, .ref p), (1, .int (nI fo)), (2, .ref q), (3, .int (nI t)), (4, .int (nI 0))] [1, 2, 3, 4, 0] rfl ?_
  exact loop_3 (509) 0 g (by omega) (by omega) (cpS_0 f fo g t)

set_option maxRecDepth 100000 in
set_option maxHeartbeats 4000000 in
theorem kX7_copyState_c (l : Launch) (G : GG) (p : Nat) (q : Nat) (f : Nat → Int32) (g : Nat → Int32) (fo : Nat) (t : Nat) (hf : fo + 508 ≤ 508) (ht : t + 508 ≤ 508) : MU l G yX7_copyState wsX7_copyState ({ frames := 0, cells := 0, slots := 0, locals := 0 } : Room) [.ref p, .int (nI fo), .ref q, .int (nI t)] [(p, .inl (G.2.1, 508, .inl f)), (q, .inl (G.2.1, 508, .inl g))] none [(p, .inl (G.2.1, 508, .inl f)), (q, .inl (G.2.1, 508, .inl (cpS f fo g t 508)))] := by
  refine MU.of (cc := cX7_copyState) (maxL := 5) (ret := none) (by decide) rfl (Nat.le_of_ble_eq_true rfl) ?_
  intro cx hxl hxG C M E
  subst hxl
  subst hxG
  show X cx (0, 0) [(p, .inl ((xG cx).2.1, 508, .inl f)), (q, .inl ((xG cx).2.1, 508, .inl g))] [(0, .ref p), (1, .int (nI fo)), (2, .ref q), (3, .int (nI t))] 0 []
  refine x_iconst (v := 0) C dX7_copyState_0 (by decide) ?_
  refine x_istore C [(4, .int 0), (0, .ref p), (1, .int (nI fo)), (2, .ref q), (3, .int (nI t))] dX7_copyState_1 (by decide) rfl ?_
  have loop_3 : ∀ (zz : Nat) (i : Nat) (h : Nat → Int32) (hi : i ≤ 508) (hz : 509 ≤ i + zz) (eh : h = cpS f fo g t i), X cx (0, 0) [(p, .inl ((xG cx).2.1, 508, .inl f)), (q, .inl ((xG cx).2.1, 508, .inl h))] [(0, .ref p), (1, .int (nI fo)), (2, .ref q), (3, .int (nI t)), (4, .int (nI i))] 3 [] := by
    intro zz
    induction zz with
    | zero =>
      intro i h hi hz eh
      exfalso; omega
    | succ zz ih =>
      intro i h hi hz eh
      refine x_iload C 4 dX7_copyState_3 rfl ?_
      refine x_sipush (v := 508) C dX7_copyState_5 (by decide) ?_
      refine x_icmp_ge C 29 dX7_copyState_8 (by decide) (fun c_8 => ?_) (fun c_8 => ?_)
      ·
        have n_8 : 508 ≤ i := (nI_leI (a := 508) (b := i) (by omega) (by omega)).mp c_8
        exact x_vret C E dX7_copyState_29 (by rw [eh, show i = 508 from by omega])
      ·
        have n_8 : ¬ (508 ≤ i) := fun q => c_8 ((nI_leI (a := 508) (b := i) (by omega) (by omega)).mpr q)
        refine x_aload_n C 2 dX7_copyState_11 rfl rfl ?_
        refine x_iload_n C 3 dX7_copyState_12 rfl rfl ?_
        refine x_iload C 4 dX7_copyState_13 rfl ?_
        refine x_iadd C (nI_add t i) dX7_copyState_15 ?_
        refine x_aload_n C 0 dX7_copyState_16 rfl rfl ?_
        refine x_iload_n C 1 dX7_copyState_17 rfl rfl ?_
        refine x_iload C 4 dX7_copyState_18 rfl ?_
        refine x_iadd C (nI_add fo i) dX7_copyState_20 ?_
        refine x_iald C 0 rfl rfl (vp_in_nI (by omega) (by decide)) (congrArg f (nI_clamp (by omega))) dX7_copyState_21 ?_
        refine x_iast C M 1 rfl rfl (vp_in_nI (by omega) (by decide)) (nI_clamp (by omega)) [(p, .inl ((xG cx).2.1, 508, .inl f)), (q, .inl ((xG cx).2.1, 508, .inl (upd h (t + i) (f (fo + i)))))] rfl dX7_copyState_22 ?_
        refine x_iinc C 4 [(4, .int (nI (i + 1))), (0, .ref p), (1, .int (nI fo)), (2, .ref q), (3, .int (nI t))] dX7_copyState_23 rfl (inc1 i) (by decide) rfl ?_
        refine x_goto (tgt := 3) C dX7_copyState_26 (by decide) ?_
        refine x_lv [(0, .ref p), (1, .int (nI fo)), (2, .ref q), (3, .int (nI t)), (4, .int (nI (i + 1)))] [1, 2, 3, 4, 0] rfl ?_
        exact ih (i + 1) (upd h (t + i) (f (fo + i))) (by omega) (by omega) (by rw [eh]; exact cpS_s f fo g t i)
  refine x_lv [(0, .ref p), (1, .int (nI fo)), (2, .ref q), (3, .int (nI t)), (4, .int (nI 0))] [1, 2, 3, 4, 0] rfl ?_
  exact loop_3 (509) 0 g (by omega) (by omega) (cpS_0 f fo g t)

theorem i_kX7_recordRow_X7 : ∀ w ∈ u_ws RX7 TX7 13, w ∈ wsX7_recordRow := by decide +kernel
theorem m_kX7_recordRow_1 : (Cond.fieldLink RX7 36 "LampRacksModel" "states" "I" : Cond) ∈ wsX7_recordRow := by decide +kernel
theorem m_kX7_recordRow_2 : (Cond.fieldLink RX7 16 "LampRacksModel" "past" "[I" : Cond) ∈ wsX7_recordRow := by decide +kernel
set_option maxRecDepth 100000 in
set_option maxHeartbeats 4000000 in
theorem kX7_recordRow (l : Launch) (G : GG) (m : Nat) (w1 : Nat) (w2 : Nat) (w3 : Nat) (w4 : Nat) (w5 : Nat) (w6 : Nat) (ns : Nat) (ln : Nat) (tm : Nat) (sp : Nat) (ik : Int32) (e1 : Int32) (e2 : Int32) (p : Nat) (z : Nat → Int32) (f : Nat → Int32) (hs : ns ≤ 4) : MU l G yX7_recordRow wsX7_recordRow ({ frames := 1, cells := 0, slots := 0, locals := 24 } : Room) [.ref m, .ref p] [(m, .inr (7, [.ref w1, .ref w2, .ref w3, .int (nI ns), .ref w4, .int ik, .ref w5, .int (nI ln), .int e1, .int e2, .ref w6, .int (nI tm), .int (nI sp)])), (p, .inl (G.2.1, 508, .inl z)), (w3, .inl (G.2.1, 2032, .inl f))] none [(m, .inr (7, [.ref w1, .ref w2, .ref w3, .int (nI (rcN ns)), .ref w4, .int ik, .ref w5, .int (nI ln), .int e1, .int e2, .ref w6, .int (nI tm), .int (nI sp)])), (p, .inl (G.2.1, 508, .inl z)), (w3, .inl (G.2.1, 2032, .inl (rcF f ns z)))] := by
  refine MU.of (cc := cX7_recordRow) (maxL := 3) (ret := none) (by decide) rfl (Nat.le_of_ble_eq_true rfl) ?_
  intro cx hxl hxG C M E
  subst hxl
  subst hxG
  show X cx (0, 0) [(m, .inr (7, [.ref w1, .ref w2, .ref w3, .int (nI ns), .ref w4, .int ik, .ref w5, .int (nI ln), .int e1, .int e2, .ref w6, .int (nI tm), .int (nI sp)])), (p, .inl ((xG cx).2.1, 508, .inl z)), (w3, .inl ((xG cx).2.1, 2032, .inl f))] [(0, .ref m), (1, .ref p)] 0 []
  refine x_aload_n C 0 dX7_recordRow_0 rfl rfl ?_
  refine x_getf C 0 rfl rfl i_kX7_recordRow_X7 3 (by decide) m_kX7_recordRow_1 rfl rfl dX7_recordRow_1 ?_
  refine x_iconst (v := 4) C dX7_recordRow_4 (by decide) ?_
  refine x_icmp_ne C 49 dX7_recordRow_5 (by decide) (fun c_5 => ?_) (fun c_5 => ?_)
  ·
    have n_5 : ¬ (ns = 4) := fun q => c_5 ((nI_eq (a := ns) (b := 4) (by omega) (by omega)).mpr q)
    refine x_aload_n C 1 dX7_recordRow_49 rfl rfl ?_
    refine x_iconst (v := 0) C dX7_recordRow_50 (by decide) ?_
    refine x_aload_n C 0 dX7_recordRow_51 rfl rfl ?_
    refine x_getf C 0 rfl rfl i_kX7_recordRow_X7 2 (by decide) m_kX7_recordRow_2 rfl rfl dX7_recordRow_52 ?_
    refine x_sipush (v := 508) C dX7_recordRow_55 (by decide) ?_
    refine x_aload_n C 0 dX7_recordRow_58 rfl rfl ?_
    refine x_getf C 0 rfl rfl i_kX7_recordRow_X7 3 (by decide) m_kX7_recordRow_1 rfl rfl dX7_recordRow_59 ?_
    refine x_imul C (pk_mul 508 ns) dX7_recordRow_62 ?_
    refine x_callSMU C ([.ref p, .int 0, .ref w3, .int (nI (508 * ns))]) ([]) [1, 2] [(m, .inr (7, [.ref w1, .ref w2, .ref w3, .int (nI ns), .ref w4, .int ik, .ref w5, .int (nI ln), .int e1, .int e2, .ref w6, .int (nI tm), .int (nI sp)])), (p, .inl ((xG cx).2.1, 508, .inl z)), (w3, .inl ((xG cx).2.1, 2032, .inl (cpS z 0 f (508 * ns) 508)))] [0] [m, p, w3] rfl rfl [(m, .inr (7, [.ref w1, .ref w2, .ref w3, .int (nI ns), .ref w4, .int ik, .ref w5, .int (nI ln), .int e1, .int e2, .ref w6, .int (nI tm), .int (nI sp)]))] rfl rfl 3 rfl (by decide +kernel) rfl (na := 4) gX7_recordRow_X7_copyState rfl (by decide +kernel) rfl M (kX7_copyState_a (xl cx) (xG cx) p w3 z f 0 (508 * ns) (by first | assumption | rfl | omega | decide) (by first | assumption | rfl | omega | decide)) rfl (by decide) rfl rfl rfl ⟨by decide, by decide⟩ (Nat.le_of_ble_eq_true rfl) ⟨by decide, by decide⟩ dX7_recordRow_63 ?_
    refine x_aload_n C 0 dX7_recordRow_66 rfl rfl ?_
    refine x_dup C dX7_recordRow_67 rfl ?_
    refine x_getf C 0 rfl rfl i_kX7_recordRow_X7 3 (by decide) m_kX7_recordRow_1 rfl rfl dX7_recordRow_68 ?_
    refine x_iconst (v := 1) C dX7_recordRow_71 (by decide) ?_
    refine x_iadd C (nI_add ns 1) dX7_recordRow_72 ?_
    refine x_putf (ty := .int) C M 0 rfl rfl i_kX7_recordRow_X7 3 (by decide) m_kX7_recordRow_1 rfl rfl tyX7 tyX7_ok nmX7 (by decide +kernel) rfl rfl (Nat.le_of_ble_eq_true rfl) [(m, .inr (7, [.ref w1, .ref w2, .ref w3, .int (nI (ns + 1)), .ref w4, .int ik, .ref w5, .int (nI ln), .int e1, .int e2, .ref w6, .int (nI tm), .int (nI sp)])), (p, .inl ((xG cx).2.1, 508, .inl z)), (w3, .inl ((xG cx).2.1, 2032, .inl (cpS z 0 f (508 * ns) 508)))] rfl dX7_recordRow_73 ?_
    exact x_vret C E dX7_recordRow_76 (by first | (rw [eg, show i = 1524 from by omega, (rc_4 f z).1, (rc_4 f z).2]; done) | (rw [(rc_n n_5 f z).1, (rc_n n_5 f z).2]; done))
  ·
    have n_5 : ns = 4 := (nI_eq (a := ns) (b := 4) (by omega) (by omega)).mp c_5
    subst n_5
    refine x_iconst (v := 0) C dX7_recordRow_8 (by decide) ?_
    refine x_istore_n C [(2, .int 0), (0, .ref m), (1, .ref p)] dX7_recordRow_9 rfl (by decide) rfl ?_
    have loop_10 : ∀ (zz : Nat) (i : Nat) (g : Nat → Int32) (hi : i ≤ 1524) (hz : 1525 ≤ i + zz) (eg : g = shF f i), X cx (0, 0) [(m, .inr (7, [.ref w1, .ref w2, .ref w3, .int (nI 4), .ref w4, .int ik, .ref w5, .int (nI ln), .int e1, .int e2, .ref w6, .int (nI tm), .int (nI sp)])), (p, .inl ((xG cx).2.1, 508, .inl z)), (w3, .inl ((xG cx).2.1, 2032, .inl g))] [(0, .ref m), (1, .ref p), (2, .int (nI i))] 10 [] := by
      intro zz
      induction zz with
      | zero =>
        intro i g hi hz eg
        exfalso; omega
      | succ zz ih =>
        intro i g hi hz eg
        refine x_iload_n C 2 dX7_recordRow_10 rfl rfl ?_
        refine x_sipush (v := 1524) C dX7_recordRow_11 (by decide) ?_
        refine x_icmp_ge C 39 dX7_recordRow_14 (by decide) (fun c_14 => ?_) (fun c_14 => ?_)
        ·
          have n_14 : 1524 ≤ i := (nI_leI (a := 1524) (b := i) (by omega) (by omega)).mp c_14
          refine x_aload_n C 0 dX7_recordRow_39 rfl rfl ?_
          refine x_dup C dX7_recordRow_40 rfl ?_
          refine x_getf C 0 rfl rfl i_kX7_recordRow_X7 3 (by decide) m_kX7_recordRow_1 rfl rfl dX7_recordRow_41 ?_
          refine x_iconst (v := 1) C dX7_recordRow_44 (by decide) ?_
          refine x_isub C (show nI 4 - 1 = nI 3 from by decide) dX7_recordRow_45 ?_
          refine x_putf (ty := .int) C M 0 rfl rfl i_kX7_recordRow_X7 3 (by decide) m_kX7_recordRow_1 rfl rfl tyX7 tyX7_ok nmX7 (by decide +kernel) rfl rfl (Nat.le_of_ble_eq_true rfl) [(m, .inr (7, [.ref w1, .ref w2, .ref w3, .int (nI 3), .ref w4, .int ik, .ref w5, .int (nI ln), .int e1, .int e2, .ref w6, .int (nI tm), .int (nI sp)])), (p, .inl ((xG cx).2.1, 508, .inl z)), (w3, .inl ((xG cx).2.1, 2032, .inl g))] rfl dX7_recordRow_46 ?_
          refine x_aload_n C 1 dX7_recordRow_49 rfl rfl ?_
          refine x_iconst (v := 0) C dX7_recordRow_50 (by decide) ?_
          refine x_aload_n C 0 dX7_recordRow_51 rfl rfl ?_
          refine x_getf C 0 rfl rfl i_kX7_recordRow_X7 2 (by decide) m_kX7_recordRow_2 rfl rfl dX7_recordRow_52 ?_
          refine x_sipush (v := 508) C dX7_recordRow_55 (by decide) ?_
          refine x_aload_n C 0 dX7_recordRow_58 rfl rfl ?_
          refine x_getf C 0 rfl rfl i_kX7_recordRow_X7 3 (by decide) m_kX7_recordRow_1 rfl rfl dX7_recordRow_59 ?_
          refine x_imul C (pk_mul 508 3) dX7_recordRow_62 ?_
          refine x_callSMU C ([.ref p, .int 0, .ref w3, .int (nI (508 * 3))]) ([]) [1, 2] [(m, .inr (7, [.ref w1, .ref w2, .ref w3, .int (nI 3), .ref w4, .int ik, .ref w5, .int (nI ln), .int e1, .int e2, .ref w6, .int (nI tm), .int (nI sp)])), (p, .inl ((xG cx).2.1, 508, .inl z)), (w3, .inl ((xG cx).2.1, 2032, .inl (cpS z 0 g (508 * 3) 508)))] [0] [m, p, w3] rfl rfl [(m, .inr (7, [.ref w1, .ref w2, .ref w3, .int (nI 3), .ref w4, .int ik, .ref w5, .int (nI ln), .int e1, .int e2, .ref w6, .int (nI tm), .int (nI sp)]))] rfl rfl 3 rfl (by decide +kernel) rfl (na := 4) gX7_recordRow_X7_copyState rfl (by decide +kernel) rfl M (kX7_copyState_a (xl cx) (xG cx) p w3 z g 0 (508 * 3) (by first | assumption | rfl | omega | decide) (by first | assumption | rfl | omega | decide)) rfl (by decide) rfl rfl rfl ⟨by decide, by decide⟩ (Nat.le_of_ble_eq_true rfl) ⟨by decide, by decide⟩ dX7_recordRow_63 ?_
          refine x_aload_n C 0 dX7_recordRow_66 rfl rfl ?_
          refine x_dup C dX7_recordRow_67 rfl ?_
          refine x_getf C 0 rfl rfl i_kX7_recordRow_X7 3 (by decide) m_kX7_recordRow_1 rfl rfl dX7_recordRow_68 ?_
          refine x_iconst (v := 1) C dX7_recordRow_71 (by decide) ?_
          refine x_iadd C (nI_add 3 1) dX7_recordRow_72 ?_
          refine x_putf (ty := .int) C M 0 rfl rfl i_kX7_recordRow_X7 3 (by decide) m_kX7_recordRow_1 rfl rfl tyX7 tyX7_ok nmX7 (by decide +kernel) rfl rfl (Nat.le_of_ble_eq_true rfl) [(m, .inr (7, [.ref w1, .ref w2, .ref w3, .int (nI (3 + 1)), .ref w4, .int ik, .ref w5, .int (nI ln), .int e1, .int e2, .ref w6, .int (nI tm), .int (nI sp)])), (p, .inl ((xG cx).2.1, 508, .inl z)), (w3, .inl ((xG cx).2.1, 2032, .inl (cpS z 0 g (508 * 3) 508)))] rfl dX7_recordRow_73 ?_
          exact x_vret C E dX7_recordRow_76 (by first | (rw [eg, show i = 1524 from by omega, (rc_4 f z).1, (rc_4 f z).2]; done) | (rw [(rc_n n_5 f z).1, (rc_n n_5 f z).2]; done))
        ·
          have n_14 : ¬ (1524 ≤ i) := fun q => c_14 ((nI_leI (a := 1524) (b := i) (by omega) (by omega)).mpr q)
          refine x_aload_n C 0 dX7_recordRow_17 rfl rfl ?_
          refine x_getf C 0 rfl rfl i_kX7_recordRow_X7 2 (by decide) m_kX7_recordRow_2 rfl rfl dX7_recordRow_18 ?_
          refine x_iload_n C 2 dX7_recordRow_21 rfl rfl ?_
          refine x_aload_n C 0 dX7_recordRow_22 rfl rfl ?_
          refine x_getf C 0 rfl rfl i_kX7_recordRow_X7 2 (by decide) m_kX7_recordRow_2 rfl rfl dX7_recordRow_23 ?_
          refine x_iload_n C 2 dX7_recordRow_26 rfl rfl ?_
          refine x_sipush (v := 508) C dX7_recordRow_27 (by decide) ?_
          refine x_iadd C (nI_add i 508) dX7_recordRow_30 ?_
          refine x_iald C 2 rfl rfl (vp_in_nI (by omega) (by decide)) (congrArg g (nI_clamp (by omega))) dX7_recordRow_31 ?_
          refine x_iast C M 2 rfl rfl (vp_in_nI (by omega) (by decide)) (nI_clamp (by omega)) [(m, .inr (7, [.ref w1, .ref w2, .ref w3, .int (nI 4), .ref w4, .int ik, .ref w5, .int (nI ln), .int e1, .int e2, .ref w6, .int (nI tm), .int (nI sp)])), (p, .inl ((xG cx).2.1, 508, .inl z)), (w3, .inl ((xG cx).2.1, 2032, .inl (upd g i (g (i + 508)))))] rfl dX7_recordRow_32 ?_
          refine x_iinc C 2 [(2, .int (nI (i + 1))), (0, .ref m), (1, .ref p)] dX7_recordRow_33 rfl (inc1 i) (by decide) rfl ?_
          refine x_goto (tgt := 10) C dX7_recordRow_36 (by decide) ?_
          refine x_lv [(0, .ref m), (1, .ref p), (2, .int (nI (i + 1)))] [1, 2, 0] rfl ?_
          exact ih (i + 1) (upd g i (g (i + 508))) (by omega) (by omega) (by rw [eg]; exact shF_s f i)
    refine x_lv [(0, .ref m), (1, .ref p), (2, .int (nI 0))] [1, 2, 0] rfl ?_
    exact loop_10 (1525) 0 f (by omega) (by omega) (shF_0 f)

theorem i_kX7_record_X7 : ∀ w ∈ u_ws RX7 TX7 13, w ∈ wsX7_record := by decide +kernel
theorem m_kX7_record_1 : (Cond.fieldLink RX7 7 "LampRacksModel" "z" "[I" : Cond) ∈ wsX7_record := by decide +kernel
set_option maxRecDepth 100000 in
set_option maxHeartbeats 4000000 in
theorem kX7_record (l : Launch) (G : GG) (m : Nat) (w1 : Nat) (w2 : Nat) (w3 : Nat) (w4 : Nat) (w5 : Nat) (w6 : Nat) (ns : Nat) (ln : Nat) (tm : Nat) (sp : Nat) (ik : Int32) (e1 : Int32) (e2 : Int32) (z : Nat → Int32) (f : Nat → Int32) (hs : ns ≤ 4) : MU l G yX7_record wsX7_record ({ frames := 2, cells := 0, slots := 0, locals := 46 } : Room) [.ref m] [(m, .inr (7, [.ref w1, .ref w2, .ref w3, .int (nI ns), .ref w4, .int ik, .ref w5, .int (nI ln), .int e1, .int e2, .ref w6, .int (nI tm), .int (nI sp)])), (w1, .inl (G.2.1, 508, .inl z)), (w3, .inl (G.2.1, 2032, .inl f))] none [(m, .inr (7, [.ref w1, .ref w2, .ref w3, .int (nI (rcN ns)), .ref w4, .int ik, .ref w5, .int (nI ln), .int e1, .int e2, .ref w6, .int (nI tm), .int (nI sp)])), (w1, .inl (G.2.1, 508, .inl z)), (w3, .inl (G.2.1, 2032, .inl (rcF f ns z)))] := by
  refine MU.of (cc := cX7_record) (maxL := 1) (ret := none) (by decide) rfl (Nat.le_of_ble_eq_true rfl) ?_
  intro cx hxl hxG C M E
  subst hxl
  subst hxG
  show X cx (0, 0) [(m, .inr (7, [.ref w1, .ref w2, .ref w3, .int (nI ns), .ref w4, .int ik, .ref w5, .int (nI ln), .int e1, .int e2, .ref w6, .int (nI tm), .int (nI sp)])), (w1, .inl ((xG cx).2.1, 508, .inl z)), (w3, .inl ((xG cx).2.1, 2032, .inl f))] [(0, .ref m)] 0 []
  refine x_aload_n C 0 dX7_record_0 rfl rfl ?_
  refine x_aload_n C 0 dX7_record_1 rfl rfl ?_
  refine x_getf C 0 rfl rfl i_kX7_record_X7 0 (by decide) m_kX7_record_1 rfl rfl dX7_record_2 ?_
  refine x_callVMU C ([.ref w1]) ([]) [0, 1, 2] [(m, .inr (7, [.ref w1, .ref w2, .ref w3, .int (nI (rcN ns)), .ref w4, .int ik, .ref w5, .int (nI ln), .int e1, .int e2, .ref w6, .int (nI tm), .int (nI sp)])), (w1, .inl ((xG cx).2.1, 508, .inl z)), (w3, .inl ((xG cx).2.1, 2032, .inl (rcF f ns z)))] [] [m, w1, w3] rfl rfl [] rfl rfl 3 rfl (by decide +kernel) rfl (k0 := 0) (na := 1) gX7_record_X7_recordRow rfl (by decide +kernel) rfl rfl rfl M (kX7_recordRow (xl cx) (xG cx) m w1 w2 w3 w4 w5 w6 ns ln tm sp ik e1 e2 w1 z f (by first | assumption | rfl | omega | decide)) rfl (by decide) rfl rfl rfl ⟨by decide, by decide⟩ (Nat.le_of_ble_eq_true rfl) ⟨by decide, by decide⟩ dX7_record_5 ?_
  exact x_vret C E dX7_record_8 (rfl)

theorem i_kX7_undo_X7 : ∀ w ∈ u_ws RX7 TX7 13, w ∈ wsX7_undo := by decide +kernel
theorem m_kX7_undo_1 : (Cond.fieldLink RX7 36 "LampRacksModel" "states" "I" : Cond) ∈ wsX7_undo := by decide +kernel
theorem m_kX7_undo_2 : (Cond.fieldLink RX7 16 "LampRacksModel" "past" "[I" : Cond) ∈ wsX7_undo := by decide +kernel
theorem m_kX7_undo_3 : (Cond.fieldLink RX7 7 "LampRacksModel" "z" "[I" : Cond) ∈ wsX7_undo := by decide +kernel
set_option maxRecDepth 100000 in
set_option maxHeartbeats 4000000 in
theorem kX7_undo (l : Launch) (G : GG) (m : Nat) (w1 : Nat) (w2 : Nat) (w3 : Nat) (w4 : Nat) (w5 : Nat) (w6 : Nat) (ns : Nat) (ln : Nat) (tm : Nat) (sp : Nat) (ik : Int32) (e1 : Int32) (e2 : Int32) (z : Nat → Int32) (f : Nat → Int32) (hs : ns ≤ 4) : MU l G yX7_undo wsX7_undo ({ frames := 1, cells := 0, slots := 0, locals := 24 } : Room) [.ref m] [(m, .inr (7, [.ref w1, .ref w2, .ref w3, .int (nI ns), .ref w4, .int ik, .ref w5, .int (nI ln), .int e1, .int e2, .ref w6, .int (nI tm), .int (nI sp)])), (w1, .inl (G.2.1, 508, .inl z)), (w3, .inl (G.2.1, 2032, .inl f))] (some (.int (if ns = 0 then -1005 else nI (ns - 1)))) [(m, .inr (7, [.ref w1, .ref w2, .ref w3, .int (nI (ns - 1)), .ref w4, .int ik, .ref w5, .int (nI ln), .int e1, .int e2, .ref w6, .int (nI tm), .int (nI sp)])), (w1, .inl (G.2.1, 508, .inl (unZ z f ns))), (w3, .inl (G.2.1, 2032, .inl f))] := by
  refine MU.of (cc := cX7_undo) (maxL := 1) (ret := (some .int)) (by decide) rfl (Nat.le_of_ble_eq_true rfl) ?_
  intro cx hxl hxG C M E
  subst hxl
  subst hxG
  show X cx (0, 0) [(m, .inr (7, [.ref w1, .ref w2, .ref w3, .int (nI ns), .ref w4, .int ik, .ref w5, .int (nI ln), .int e1, .int e2, .ref w6, .int (nI tm), .int (nI sp)])), (w1, .inl ((xG cx).2.1, 508, .inl z)), (w3, .inl ((xG cx).2.1, 2032, .inl f))] [(0, .ref m)] 0 []
  refine x_aload_n C 0 dX7_undo_0 rfl rfl ?_
  refine x_getf C 0 rfl rfl i_kX7_undo_X7 3 (by decide) m_kX7_undo_1 rfl rfl dX7_undo_1 ?_
  refine x_if_ne C 11 dX7_undo_4 (by decide) (fun c_4 => ?_) (fun c_4 => ?_)
  ·
    have n_4 : ¬ (ns = 0) := fun q => c_4 ((nI_eq (a := ns) (b := 0) (by omega) (by omega)).mpr q)
    obtain ⟨s1, rfl⟩ : ∃ s1, ns = s1 + 1 := ⟨ns - 1, by omega⟩
    refine x_aload_n C 0 dX7_undo_11 rfl rfl ?_
    refine x_dup C dX7_undo_12 rfl ?_
    refine x_getf C 0 rfl rfl i_kX7_undo_X7 3 (by decide) m_kX7_undo_1 rfl rfl dX7_undo_13 ?_
    refine x_iconst (v := 1) C dX7_undo_16 (by decide) ?_
    refine x_isub C (by exact nI_pred s1) dX7_undo_17 ?_
    refine x_putf (ty := .int) C M 0 rfl rfl i_kX7_undo_X7 3 (by decide) m_kX7_undo_1 rfl rfl tyX7 tyX7_ok nmX7 (by decide +kernel) rfl rfl (Nat.le_of_ble_eq_true rfl) [(m, .inr (7, [.ref w1, .ref w2, .ref w3, .int (nI s1), .ref w4, .int ik, .ref w5, .int (nI ln), .int e1, .int e2, .ref w6, .int (nI tm), .int (nI sp)])), (w1, .inl ((xG cx).2.1, 508, .inl z)), (w3, .inl ((xG cx).2.1, 2032, .inl f))] rfl dX7_undo_18 ?_
    refine x_aload_n C 0 dX7_undo_21 rfl rfl ?_
    refine x_getf C 0 rfl rfl i_kX7_undo_X7 2 (by decide) m_kX7_undo_2 rfl rfl dX7_undo_22 ?_
    refine x_sipush (v := 508) C dX7_undo_25 (by decide) ?_
    refine x_aload_n C 0 dX7_undo_28 rfl rfl ?_
    refine x_getf C 0 rfl rfl i_kX7_undo_X7 3 (by decide) m_kX7_undo_1 rfl rfl dX7_undo_29 ?_
    refine x_imul C (pk_mul 508 s1) dX7_undo_32 ?_
    refine x_aload_n C 0 dX7_undo_33 rfl rfl ?_
    refine x_getf C 0 rfl rfl i_kX7_undo_X7 0 (by decide) m_kX7_undo_3 rfl rfl dX7_undo_34 ?_
    refine x_iconst (v := 0) C dX7_undo_37 (by decide) ?_
    refine x_callSMU C ([.ref w3, .int (nI (508 * s1)), .ref w1, .int 0]) ([]) [2, 1] [(m, .inr (7, [.ref w1, .ref w2, .ref w3, .int (nI s1), .ref w4, .int ik, .ref w5, .int (nI ln), .int e1, .int e2, .ref w6, .int (nI tm), .int (nI sp)])), (w1, .inl ((xG cx).2.1, 508, .inl (cpS f (508 * s1) z 0 508))), (w3, .inl ((xG cx).2.1, 2032, .inl f))] [0] [m, w1, w3] rfl rfl [(m, .inr (7, [.ref w1, .ref w2, .ref w3, .int (nI s1), .ref w4, .int ik, .ref w5, .int (nI ln), .int e1, .int e2, .ref w6, .int (nI tm), .int (nI sp)]))] rfl rfl 3 rfl (by decide +kernel) rfl (na := 4) gX7_undo_X7_copyState rfl (by decide +kernel) rfl M (kX7_copyState_b (xl cx) (xG cx) w3 w1 f z (508 * s1) 0 (by first | assumption | rfl | omega | decide) (by first | assumption | rfl | omega | decide)) rfl (by decide) rfl rfl rfl ⟨by decide, by decide⟩ (Nat.le_of_ble_eq_true rfl) ⟨by decide, by decide⟩ dX7_undo_38 ?_
    refine x_aload_n C 0 dX7_undo_41 rfl rfl ?_
    refine x_getf C 0 rfl rfl i_kX7_undo_X7 3 (by decide) m_kX7_undo_1 rfl rfl dX7_undo_42 ?_
    exact x_iret C E dX7_undo_45 ((if_neg (Nat.succ_ne_zero s1)).symm) (by rw [unZ_s]; rfl)
  ·
    have n_4 : ns = 0 := (nI_eq (a := ns) (b := 0) (by omega) (by omega)).mp c_4
    refine x_sipush (v := (-1005)) C dX7_undo_7 (by decide) ?_
    exact x_iret C E dX7_undo_10 ((if_pos n_4).symm) (by subst n_4; rfl)

theorem i_kX7_keep_X7 : ∀ w ∈ u_ws RX7 TX7 13, w ∈ wsX7_keep := by decide +kernel
theorem m_kX7_keep_1 : (Cond.fieldLink RX7 7 "LampRacksModel" "z" "[I" : Cond) ∈ wsX7_keep := by decide +kernel
theorem m_kX7_keep_2 : (Cond.fieldLink RX7 19 "LampRacksModel" "kept" "[I" : Cond) ∈ wsX7_keep := by decide +kernel
theorem m_kX7_keep_3 : (Cond.fieldLink RX7 48 "LampRacksModel" "isKept" "Z" : Cond) ∈ wsX7_keep := by decide +kernel
set_option maxRecDepth 100000 in
set_option maxHeartbeats 4000000 in
theorem kX7_keep (l : Launch) (G : GG) (m : Nat) (w1 : Nat) (w2 : Nat) (w3 : Nat) (w4 : Nat) (w5 : Nat) (w6 : Nat) (ns : Nat) (ln : Nat) (tm : Nat) (sp : Nat) (ik : Int32) (e1 : Int32) (e2 : Int32) (z : Nat → Int32) (k : Nat → Int32)  : MU l G yX7_keep wsX7_keep ({ frames := 1, cells := 0, slots := 0, locals := 24 } : Room) [.ref m] [(m, .inr (7, [.ref w1, .ref w2, .ref w3, .int (nI ns), .ref w4, .int ik, .ref w5, .int (nI ln), .int e1, .int e2, .ref w6, .int (nI tm), .int (nI sp)])), (w1, .inl (G.2.1, 508, .inl z)), (w4, .inl (G.2.1, 508, .inl k))] (some (.int (z 3))) [(m, .inr (7, [.ref w1, .ref w2, .ref w3, .int (nI ns), .ref w4, .int 1, .ref w5, .int (nI ln), .int e1, .int e2, .ref w6, .int (nI tm), .int (nI sp)])), (w1, .inl (G.2.1, 508, .inl z)), (w4, .inl (G.2.1, 508, .inl (cpS z 0 k 0 508)))] := by
  refine MU.of (cc := cX7_keep) (maxL := 1) (ret := (some .int)) (by decide) rfl (Nat.le_of_ble_eq_true rfl) ?_
  intro cx hxl hxG C M E
  subst hxl
  subst hxG
  show X cx (0, 0) [(m, .inr (7, [.ref w1, .ref w2, .ref w3, .int (nI ns), .ref w4, .int ik, .ref w5, .int (nI ln), .int e1, .int e2, .ref w6, .int (nI tm), .int (nI sp)])), (w1, .inl ((xG cx).2.1, 508, .inl z)), (w4, .inl ((xG cx).2.1, 508, .inl k))] [(0, .ref m)] 0 []
  refine x_aload_n C 0 dX7_keep_0 rfl rfl ?_
  refine x_getf C 0 rfl rfl i_kX7_keep_X7 0 (by decide) m_kX7_keep_1 rfl rfl dX7_keep_1 ?_
  refine x_iconst (v := 0) C dX7_keep_4 (by decide) ?_
  refine x_aload_n C 0 dX7_keep_5 rfl rfl ?_
  refine x_getf C 0 rfl rfl i_kX7_keep_X7 4 (by decide) m_kX7_keep_2 rfl rfl dX7_keep_6 ?_
  refine x_iconst (v := 0) C dX7_keep_9 (by decide) ?_
  refine x_callSMU C ([.ref w1, .int 0, .ref w4, .int 0]) ([]) [1, 2] [(m, .inr (7, [.ref w1, .ref w2, .ref w3, .int (nI ns), .ref w4, .int ik, .ref w5, .int (nI ln), .int e1, .int e2, .ref w6, .int (nI tm), .int (nI sp)])), (w1, .inl ((xG cx).2.1, 508, .inl z)), (w4, .inl ((xG cx).2.1, 508, .inl (cpS z 0 k 0 508)))] [0] [m, w1, w4] rfl rfl [(m, .inr (7, [.ref w1, .ref w2, .ref w3, .int (nI ns), .ref w4, .int ik, .ref w5, .int (nI ln), .int e1, .int e2, .ref w6, .int (nI tm), .int (nI sp)]))] rfl rfl 3 rfl (by decide +kernel) rfl (na := 4) gX7_keep_X7_copyState rfl (by decide +kernel) rfl M (kX7_copyState_c (xl cx) (xG cx) w1 w4 z k 0 0 (by first | assumption | rfl | omega | decide) (by first | assumption | rfl | omega | decide)) rfl (by decide) rfl rfl rfl ⟨by decide, by decide⟩ (Nat.le_of_ble_eq_true rfl) ⟨by decide, by decide⟩ dX7_keep_10 ?_
  refine x_aload_n C 0 dX7_keep_13 rfl rfl ?_
  refine x_iconst (v := 1) C dX7_keep_14 (by decide) ?_
  refine x_putf (ty := .boolean) C M 0 rfl rfl i_kX7_keep_X7 5 (by decide) m_kX7_keep_3 rfl rfl tyX7 tyX7_ok nmX7 (by decide +kernel) rfl rfl (Nat.le_of_ble_eq_true rfl) [(m, .inr (7, [.ref w1, .ref w2, .ref w3, .int (nI ns), .ref w4, .int 1, .ref w5, .int (nI ln), .int e1, .int e2, .ref w6, .int (nI tm), .int (nI sp)])), (w1, .inl ((xG cx).2.1, 508, .inl z)), (w4, .inl ((xG cx).2.1, 508, .inl (cpS z 0 k 0 508)))] rfl dX7_keep_15 ?_
  refine x_aload_n C 0 dX7_keep_18 rfl rfl ?_
  refine x_getf C 0 rfl rfl i_kX7_keep_X7 0 (by decide) m_kX7_keep_1 rfl rfl dX7_keep_19 ?_
  refine x_iconst (v := 3) C dX7_keep_22 (by decide) ?_
  refine x_iald C 1 rfl rfl (vp_in_nI (n := 3) (by decide) (by decide)) (congrArg z (nI_clamp (n := 3) (by decide))) dX7_keep_23 ?_
  exact x_iret C E dX7_keep_24 (rfl) (rfl)

theorem i_kX7_restore_X7 : ∀ w ∈ u_ws RX7 TX7 13, w ∈ wsX7_restore := by decide +kernel
theorem m_kX7_restore_1 : (Cond.fieldLink RX7 48 "LampRacksModel" "isKept" "Z" : Cond) ∈ wsX7_restore := by decide +kernel
theorem m_kX7_restore_2 : (Cond.fieldLink RX7 19 "LampRacksModel" "kept" "[I" : Cond) ∈ wsX7_restore := by decide +kernel
theorem m_kX7_restore_3 : (Cond.fieldLink RX7 7 "LampRacksModel" "z" "[I" : Cond) ∈ wsX7_restore := by decide +kernel
set_option maxRecDepth 100000 in
set_option maxHeartbeats 4000000 in
theorem kX7_restore (l : Launch) (G : GG) (m : Nat) (w1 : Nat) (w2 : Nat) (w3 : Nat) (w4 : Nat) (w5 : Nat) (w6 : Nat) (ns : Nat) (ln : Nat) (tm : Nat) (sp : Nat) (ik : Int32) (e1 : Int32) (e2 : Int32) (z : Nat → Int32) (f : Nat → Int32) (k : Nat → Int32) (hs : ns ≤ 4) : MU l G yX7_restore wsX7_restore ({ frames := 3, cells := 0, slots := 0, locals := 66 } : Room) [.ref m] [(m, .inr (7, [.ref w1, .ref w2, .ref w3, .int (nI ns), .ref w4, .int ik, .ref w5, .int (nI ln), .int e1, .int e2, .ref w6, .int (nI tm), .int (nI sp)])), (w1, .inl (G.2.1, 508, .inl z)), (w3, .inl (G.2.1, 2032, .inl f)), (w4, .inl (G.2.1, 508, .inl k))] (some (.int (if ik = 0 then -1005 else cpS k 0 z 0 508 3))) [(m, .inr (7, [.ref w1, .ref w2, .ref w3, .int (nI (if ik = 0 then ns else rcN ns)), .ref w4, .int ik, .ref w5, .int (nI ln), .int e1, .int e2, .ref w6, .int (nI tm), .int (nI sp)])), (w1, .inl (G.2.1, 508, .inl (if ik = 0 then z else cpS k 0 z 0 508))), (w3, .inl (G.2.1, 2032, .inl (if ik = 0 then f else rcF f ns z))), (w4, .inl (G.2.1, 508, .inl k))] := by
  refine MU.of (cc := cX7_restore) (maxL := 1) (ret := (some .int)) (by decide) rfl (Nat.le_of_ble_eq_true rfl) ?_
  intro cx hxl hxG C M E
  subst hxl
  subst hxG
  show X cx (0, 0) [(m, .inr (7, [.ref w1, .ref w2, .ref w3, .int (nI ns), .ref w4, .int ik, .ref w5, .int (nI ln), .int e1, .int e2, .ref w6, .int (nI tm), .int (nI sp)])), (w1, .inl ((xG cx).2.1, 508, .inl z)), (w3, .inl ((xG cx).2.1, 2032, .inl f)), (w4, .inl ((xG cx).2.1, 508, .inl k))] [(0, .ref m)] 0 []
  refine x_aload_n C 0 dX7_restore_0 rfl rfl ?_
  refine x_getf C 0 rfl rfl i_kX7_restore_X7 5 (by decide) m_kX7_restore_1 rfl rfl dX7_restore_1 ?_
  refine x_if_ne C 11 dX7_restore_4 (by decide) (fun c_4 => ?_) (fun c_4 => ?_)
  ·
    refine x_aload_n C 0 dX7_restore_11 rfl rfl ?_
    refine x_callVMU C ([]) ([]) [0, 1, 2] [(m, .inr (7, [.ref w1, .ref w2, .ref w3, .int (nI (rcN ns)), .ref w4, .int ik, .ref w5, .int (nI ln), .int e1, .int e2, .ref w6, .int (nI tm), .int (nI sp)])), (w1, .inl ((xG cx).2.1, 508, .inl z)), (w3, .inl ((xG cx).2.1, 2032, .inl (rcF f ns z))), (w4, .inl ((xG cx).2.1, 508, .inl k))] [3] [m, w1, w3, w4] rfl rfl [(w4, .inl ((xG cx).2.1, 508, .inl k))] rfl rfl 4 rfl (by decide +kernel) rfl (k0 := 0) (na := 0) gX7_restore_X7_record rfl (by decide +kernel) rfl rfl rfl M (kX7_record (xl cx) (xG cx) m w1 w2 w3 w4 w5 w6 ns ln tm sp ik e1 e2 z f (by first | assumption | rfl | omega | decide)) rfl (by decide) rfl rfl rfl ⟨by decide, by decide⟩ (Nat.le_of_ble_eq_true rfl) ⟨by decide, by decide⟩ dX7_restore_12 ?_
    refine x_aload_n C 0 dX7_restore_15 rfl rfl ?_
    refine x_getf C 0 rfl rfl i_kX7_restore_X7 4 (by decide) m_kX7_restore_2 rfl rfl dX7_restore_16 ?_
    refine x_iconst (v := 0) C dX7_restore_19 (by decide) ?_
    refine x_aload_n C 0 dX7_restore_20 rfl rfl ?_
    refine x_getf C 0 rfl rfl i_kX7_restore_X7 0 (by decide) m_kX7_restore_3 rfl rfl dX7_restore_21 ?_
    refine x_iconst (v := 0) C dX7_restore_24 (by decide) ?_
    refine x_callSMU C ([.ref w4, .int 0, .ref w1, .int 0]) ([]) [3, 1] [(m, .inr (7, [.ref w1, .ref w2, .ref w3, .int (nI (rcN ns)), .ref w4, .int ik, .ref w5, .int (nI ln), .int e1, .int e2, .ref w6, .int (nI tm), .int (nI sp)])), (w1, .inl ((xG cx).2.1, 508, .inl (cpS k 0 z 0 508))), (w3, .inl ((xG cx).2.1, 2032, .inl (rcF f ns z))), (w4, .inl ((xG cx).2.1, 508, .inl k))] [0, 2] [m, w1, w3, w4] rfl rfl [(m, .inr (7, [.ref w1, .ref w2, .ref w3, .int (nI (rcN ns)), .ref w4, .int ik, .ref w5, .int (nI ln), .int e1, .int e2, .ref w6, .int (nI tm), .int (nI sp)])), (w3, .inl ((xG cx).2.1, 2032, .inl (rcF f ns z)))] rfl rfl 4 rfl (by decide +kernel) rfl (na := 4) gX7_restore_X7_copyState rfl (by decide +kernel) rfl M (kX7_copyState_c (xl cx) (xG cx) w4 w1 k z 0 0 (by first | assumption | rfl | omega | decide) (by first | assumption | rfl | omega | decide)) rfl (by decide) rfl rfl rfl ⟨by decide, by decide⟩ (Nat.le_of_ble_eq_true rfl) ⟨by decide, by decide⟩ dX7_restore_25 ?_
    refine x_aload_n C 0 dX7_restore_28 rfl rfl ?_
    refine x_getf C 0 rfl rfl i_kX7_restore_X7 0 (by decide) m_kX7_restore_3 rfl rfl dX7_restore_29 ?_
    refine x_iconst (v := 3) C dX7_restore_32 (by decide) ?_
    refine x_iald C 1 rfl rfl (vp_in_nI (n := 3) (by decide) (by decide)) (congrArg (cpS k 0 z 0 508) (nI_clamp (n := 3) (by decide))) dX7_restore_33 ?_
    exact x_iret C E dX7_restore_34 ((if_neg c_4).symm) (by rw [if_neg c_4, if_neg c_4, if_neg c_4])
  ·
    refine x_sipush (v := (-1005)) C dX7_restore_7 (by decide) ?_
    exact x_iret C E dX7_restore_10 ((if_pos c_4).symm) (by rw [if_pos c_4, if_pos c_4, if_pos c_4])

theorem i_kX7_type_X7 : ∀ w ∈ u_ws RX7 TX7 13, w ∈ wsX7_type := by decide +kernel
theorem m_kX7_type_1 : (Cond.fieldLink RX7 116 "LampRacksModel" "length" "I" : Cond) ∈ wsX7_type := by decide +kernel
theorem m_kX7_type_2 : (Cond.fieldLink RX7 22 "LampRacksModel" "text" "[I" : Cond) ∈ wsX7_type := by decide +kernel
set_option maxRecDepth 100000 in
set_option maxHeartbeats 4000000 in
theorem kX7_type (l : Launch) (G : GG) (m : Nat) (w1 : Nat) (w2 : Nat) (w3 : Nat) (w4 : Nat) (w5 : Nat) (w6 : Nat) (ns : Nat) (ln : Nat) (tm : Nat) (sp : Nat) (ik : Int32) (e1 : Int32) (e2 : Int32) (tx : Nat → Int32) (x : Int32) (hl : ln ≤ 60) : MU l G yX7_type wsX7_type ({ frames := 0, cells := 0, slots := 0, locals := 0 } : Room) [.ref m, .int x] [(m, .inr (7, [.ref w1, .ref w2, .ref w3, .int (nI ns), .ref w4, .int ik, .ref w5, .int (nI ln), .int e1, .int e2, .ref w6, .int (nI tm), .int (nI sp)])), (w5, .inl (G.2.1, 60, .inl tx))] (some (.int (if ln = 60 then -1003 else nI (ln + 1)))) [(m, .inr (7, [.ref w1, .ref w2, .ref w3, .int (nI ns), .ref w4, .int ik, .ref w5, .int (nI (if ln = 60 then ln else ln + 1)), .int e1, .int e2, .ref w6, .int (nI tm), .int (nI sp)])), (w5, .inl (G.2.1, 60, .inl (if ln = 60 then tx else upd tx ln x)))] := by
  refine MU.of (cc := cX7_type) (maxL := 2) (ret := (some .int)) (by decide) rfl (Nat.le_of_ble_eq_true rfl) ?_
  intro cx hxl hxG C M E
  subst hxl
  subst hxG
  show X cx (0, 0) [(m, .inr (7, [.ref w1, .ref w2, .ref w3, .int (nI ns), .ref w4, .int ik, .ref w5, .int (nI ln), .int e1, .int e2, .ref w6, .int (nI tm), .int (nI sp)])), (w5, .inl ((xG cx).2.1, 60, .inl tx))] [(0, .ref m), (1, .int x)] 0 []
  refine x_aload_n C 0 dX7_type_0 rfl rfl ?_
  refine x_getf C 0 rfl rfl i_kX7_type_X7 7 (by decide) m_kX7_type_1 rfl rfl dX7_type_1 ?_
  refine x_bipush (v := 60) C dX7_type_4 (by decide) ?_
  refine x_icmp_ne C 13 dX7_type_6 (by decide) (fun c_6 => ?_) (fun c_6 => ?_)
  ·
    have n_6 : ¬ (ln = 60) := fun q => c_6 ((nI_eq (a := ln) (b := 60) (by omega) (by omega)).mpr q)
    refine x_aload_n C 0 dX7_type_13 rfl rfl ?_
    refine x_getf C 0 rfl rfl i_kX7_type_X7 6 (by decide) m_kX7_type_2 rfl rfl dX7_type_14 ?_
    refine x_aload_n C 0 dX7_type_17 rfl rfl ?_
    refine x_getf C 0 rfl rfl i_kX7_type_X7 7 (by decide) m_kX7_type_1 rfl rfl dX7_type_18 ?_
    refine x_iload_n C 1 dX7_type_21 rfl rfl ?_
    refine x_iast C M 1 rfl rfl (vp_in_nI (by omega) (by decide)) (nI_clamp (by omega)) [(m, .inr (7, [.ref w1, .ref w2, .ref w3, .int (nI ns), .ref w4, .int ik, .ref w5, .int (nI ln), .int e1, .int e2, .ref w6, .int (nI tm), .int (nI sp)])), (w5, .inl ((xG cx).2.1, 60, .inl (upd tx ln x)))] rfl dX7_type_22 ?_
    refine x_aload_n C 0 dX7_type_23 rfl rfl ?_
    refine x_dup C dX7_type_24 rfl ?_
    refine x_getf C 0 rfl rfl i_kX7_type_X7 7 (by decide) m_kX7_type_1 rfl rfl dX7_type_25 ?_
    refine x_iconst (v := 1) C dX7_type_28 (by decide) ?_
    refine x_iadd C (nI_add ln 1) dX7_type_29 ?_
    refine x_putf (ty := .int) C M 0 rfl rfl i_kX7_type_X7 7 (by decide) m_kX7_type_1 rfl rfl tyX7 tyX7_ok nmX7 (by decide +kernel) rfl rfl (Nat.le_of_ble_eq_true rfl) [(m, .inr (7, [.ref w1, .ref w2, .ref w3, .int (nI ns), .ref w4, .int ik, .ref w5, .int (nI (ln + 1)), .int e1, .int e2, .ref w6, .int (nI tm), .int (nI sp)])), (w5, .inl ((xG cx).2.1, 60, .inl (upd tx ln x)))] rfl dX7_type_30 ?_
    refine x_aload_n C 0 dX7_type_33 rfl rfl ?_
    refine x_getf C 0 rfl rfl i_kX7_type_X7 7 (by decide) m_kX7_type_1 rfl rfl dX7_type_34 ?_
    exact x_iret C E dX7_type_37 ((if_neg n_6).symm) (by rw [if_neg n_6, if_neg n_6])
  ·
    have n_6 : ln = 60 := (nI_eq (a := ln) (b := 60) (by omega) (by omega)).mp c_6
    refine x_sipush (v := (-1003)) C dX7_type_9 (by decide) ?_
    exact x_iret C E dX7_type_12 ((if_pos n_6).symm) (by rw [if_pos n_6, if_pos n_6])

theorem i_kX7_clearText_X7 : ∀ w ∈ u_ws RX7 TX7 13, w ∈ wsX7_clearText := by decide +kernel
theorem m_kX7_clearText_1 : (Cond.fieldLink RX7 116 "LampRacksModel" "length" "I" : Cond) ∈ wsX7_clearText := by decide +kernel
set_option maxRecDepth 100000 in
set_option maxHeartbeats 4000000 in
theorem kX7_clearText (l : Launch) (G : GG) (m : Nat) (w1 : Nat) (w2 : Nat) (w3 : Nat) (w4 : Nat) (w5 : Nat) (w6 : Nat) (ns : Nat) (ln : Nat) (tm : Nat) (sp : Nat) (ik : Int32) (e1 : Int32) (e2 : Int32)  : MU l G yX7_clearText wsX7_clearText ({ frames := 0, cells := 0, slots := 0, locals := 0 } : Room) [.ref m] [(m, .inr (7, [.ref w1, .ref w2, .ref w3, .int (nI ns), .ref w4, .int ik, .ref w5, .int (nI ln), .int e1, .int e2, .ref w6, .int (nI tm), .int (nI sp)]))] (some (.int (nI ln))) [(m, .inr (7, [.ref w1, .ref w2, .ref w3, .int (nI ns), .ref w4, .int ik, .ref w5, .int (nI 0), .int e1, .int e2, .ref w6, .int (nI tm), .int (nI sp)]))] := by
  refine MU.of (cc := cX7_clearText) (maxL := 2) (ret := (some .int)) (by decide) rfl (Nat.le_of_ble_eq_true rfl) ?_
  intro cx hxl hxG C M E
  subst hxl
  subst hxG
  show X cx (0, 0) [(m, .inr (7, [.ref w1, .ref w2, .ref w3, .int (nI ns), .ref w4, .int ik, .ref w5, .int (nI ln), .int e1, .int e2, .ref w6, .int (nI tm), .int (nI sp)]))] [(0, .ref m)] 0 []
  refine x_aload_n C 0 dX7_clearText_0 rfl rfl ?_
  refine x_getf C 0 rfl rfl i_kX7_clearText_X7 7 (by decide) m_kX7_clearText_1 rfl rfl dX7_clearText_1 ?_
  refine x_istore_n C [(1, .int (nI ln)), (0, .ref m)] dX7_clearText_4 rfl (by decide) rfl ?_
  refine x_aload_n C 1 dX7_clearText_5 rfl rfl ?_
  refine x_iconst (v := 0) C dX7_clearText_6 (by decide) ?_
  refine x_putf (ty := .int) C M 0 rfl rfl i_kX7_clearText_X7 7 (by decide) m_kX7_clearText_1 rfl rfl tyX7 tyX7_ok nmX7 (by decide +kernel) rfl rfl (Nat.le_of_ble_eq_true rfl) [(m, .inr (7, [.ref w1, .ref w2, .ref w3, .int (nI ns), .ref w4, .int ik, .ref w5, .int 0, .int e1, .int e2, .ref w6, .int (nI tm), .int (nI sp)]))] rfl dX7_clearText_7 ?_
  refine x_iload_n C 0 dX7_clearText_10 rfl rfl ?_
  exact x_iret C E dX7_clearText_11 (rfl) (rfl)
