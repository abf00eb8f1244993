theorem okZ_lay1 {z : Nat → Int32} {n j : Nat} {v : Int32} (h : okZ z n) (hv : v = -1005 ∨ ∃ r, r < 3 ∧ v = nI r) : okZ (upd z (28 + 8 * j + 1) v) n := by
  refine ⟨h.1, ?_, ?_, fun k q => ?_⟩
  · rw [upd_ne (by omega)]
    exact h.2.1
  · rw [upd_ne (by omega)]
    exact h.2.2.1
  · show upd z (28 + 8 * j + 1) v (28 + 8 * k + 1) = -1005 ∨ ∃ r, r < 3 ∧ upd z (28 + 8 * j + 1) v (28 + 8 * k + 1) = nI r
    by_cases e : k = j
    · subst e
      rw [upd_eq]
      exact hv
    · rw [upd_ne (by omega)]
      exact h.2.2.2 k q
theorem okZ_3 {z : Nat → Int32} {n m : Nat} (h : okZ z n) (hm : m ≤ 60) : okZ (upd z 3 (nI m)) m := by
  refine ⟨hm, upd_eq, ?_, fun k q => ?_⟩
  · rw [upd_ne (by omega)]
    exact h.2.2.1
  · show upd z 3 (nI m) (28 + 8 * k + 1) = -1005 ∨ ∃ r, r < 3 ∧ upd z 3 (nI m) (28 + 8 * k + 1) = nI r
    rw [upd_ne (by omega)]
    exact h.2.2.2 k q
theorem okZ_put {z : Nat → Int32} {n b : Nat} {r p : Int32} (h : okZ z n) (hn : n < 60) (hr : 0 ≤ r ∧ r ≤ 2) : okZ (ptZ z n r p b) (n + 1) := by
  obtain ⟨k, hk, rfl⟩ := in_nat (M := 2) (m := 2) hr (by decide)
  exact okZ_3 (okZ_upd (okZ_upd (okZ_upd (okZ_upd (okZ_upd (okZ_upd (okZ_lay1 (okZ_upd h (by omega) (by omega) (fun k _ => by omega)) (Or.inr ⟨k, by omega, rfl⟩)) (by omega) (by omega) (fun k _ => by omega)) (by omega) (by omega) (fun k _ => by omega)) (by omega) (by omega) (fun k _ => by omega)) (by omega) (by omega) (fun k _ => by omega)) (by omega) (by omega) (fun k _ => by omega)) (by omega) (by omega) (fun k _ => by omega)) (by omega)
theorem okZ_mv {z : Nat → Int32} {n : Nat} {k r p : Int32} (h : okZ z n) (hr : r = -1005 ∨ ∃ j, j < 3 ∧ r = nI j) : okZ (mvZ z k r p) n := by
  unfold mvZ
  split
  · exact h
  · exact okZ_upd (okZ_lay1 h hr) (by omega) (by omega) (fun k _ => by omega)
theorem dt_ok {z td : Nat → Int32} {n i : Nat} (h : okZ z n) (ho : okT td i) (hw : td (4 * i) = 112 → n < 60) : okZ (dtZ z n td i) (if td (4 * i) = 112 then n + 1 else n) := by
  unfold dtZ
  by_cases c1 : td (4 * i) = 112
  · rw [if_pos c1, if_pos c1]
    exact okZ_put h (hw c1) (okT_a ho c1 (by decide))
  · rw [if_neg c1, if_neg c1]
    by_cases c2 : td (4 * i) = 116
    · rw [if_pos c2]
      exact okZ_mv h (Or.inl rfl)
    · rw [if_neg c2]
      by_cases c3 : td (4 * i) = 118
      · rw [if_pos c3]
        obtain ⟨a, ha, ea⟩ := in_nat (M := 2) (m := 2) (okT_a ho c3 (by decide)) (by decide)
        rw [ea, show ixz (nI a) = a from ix a (by omega)]
        exact okZ_upd h (by omega) (by omega) (fun k _ => by omega)
      · rw [if_neg c3]
        by_cases c4 : td (4 * i) = 115
        · rw [if_pos c4]
          obtain ⟨a, ha, ea⟩ := in_nat (M := 2) (m := 2) (okT_a ho c4 (by decide)) (by decide)
          rw [ea, show ixz (nI a) = a from ix a (by omega)]
          exact okZ_upd (okZ_upd (okZ_upd h (by omega) (by omega) (fun k _ => by omega)) (by omega) (by omega) (fun k _ => by omega)) (by omega) (by omega) (fun k _ => by omega)
        · rw [if_neg c4]
          exact phR_ok h _
theorem wn_put {z td : Nat → Int32} {n i : Nat} (h : okZ z n) (hw : 0 ≤ wnR z n td i) (e : td (4 * i) = 112) : n < 60 := by
  unfold wnR at hw
  rw [if_pos e] at hw
  have h1 := (wpR_ok hw).2.2.2
  have h2 := h.1
  omega
def pfS (z : Nat → Int32) (n : Nat) (td : Nat → Int32) : Nat → (Nat → Int32) × Nat
  | 0 => (z, n)
  | i + 1 => (dtZ (pfS z n td i).1 (pfS z n td i).2 td i, if td (4 * i) = 112 then (pfS z n td i).2 + 1 else (pfS z n td i).2)
theorem pfS_s (z : Nat → Int32) (n : Nat) (td : Nat → Int32) (i : Nat) : pfS z n td (i + 1) = (dtZ (pfS z n td i).1 (pfS z n td i).2 td i, if td (4 * i) = 112 then (pfS z n td i).2 + 1 else (pfS z n td i).2) := rfl
def pfW (z : Nat → Int32) (n : Nat) (td : Nat → Int32) (i : Nat) : Int32 := wnR (pfS z n td i).1 (pfS z n td i).2 td i
def pfI (z : Nat → Int32) (n : Nat) (td : Nat → Int32) : Nat → Nat → Nat
  | i, 0 => i
  | i, d + 1 => if 0 ≤ pfW z n td i then pfI z n td (i + 1) d else i
theorem pfI_go {z td : Nat → Int32} {n i d : Nat} (h : 0 ≤ pfW z n td i) (hd : 0 < d) : pfI z n td (i + 1) (d - 1) = pfI z n td i d := by
  cases d with
  | zero => exact absurd hd (by omega)
  | succ d => exact (if_pos h).symm
theorem pfI_st {z td : Nat → Int32} {n i d : Nat} (h : ¬ 0 ≤ pfW z n td i) : pfI z n td i d = i := by
  cases d with
  | zero => rfl
  | succ d => exact if_neg h
theorem pfI_0 {z td : Nat → Int32} {n i d : Nat} (h : d = 0) : pfI z n td i d = i := by
  subst h
  rfl
def pfN (z : Nat → Int32) (n : Nat) (V : Bool × TS) : Nat := pfI z n V.2.2.1 0 V.2.2.2
def pfV (z g f : Nat → Int32) (ns n : Nat) (e1 e2 : Int32) (V : Bool × TS) : Int32 × (Nat → Int32) × (Nat → Int32) × (Nat → Int32) × Nat × Int32 × Int32 :=
  if V.1 = true then
    if pfN z n V < V.2.2.2 then (-1004, cpS (cpS z 0 g 0 508) 0 (pfS z n V.2.2.1 (pfN z n V)).1 0 508, cpS z 0 g 0 508, f, ns, nI (pfN z n V), pfW z n V.2.2.1 (pfN z n V))
    else (nI V.2.2.2, (pfS z n V.2.2.1 V.2.2.2).1, cpS z 0 g 0 508, rcF f ns (cpS z 0 g 0 508), rcN ns, e1, e2)
  else (-1100 - nI V.2.1, z, g, f, ns, e1, e2)
/-- what is read is good -/
def okX (tx : Nat → Int32) (ln : Nat) (td : Nat → Int32) : Prop := ∀ V, xtF tx ln td = V → V.1 = true → V.2.2.2 ≤ 20 ∧ ∀ i, i < V.2.2.2 → okT V.2.2.1 i

theorem i_kX7_perform_X7 : ∀ w ∈ u_ws RX7 TX7 13, w ∈ wsX7_perform := by decide +kernel
theorem m_kX7_perform_1 : (Cond.fieldLink RX7 7 "LampRacksModel" "z" "[I" : Cond) ∈ wsX7_perform := by decide +kernel
theorem m_kX7_perform_2 : (Cond.fieldLink RX7 13 "LampRacksModel" "spare" "[I" : Cond) ∈ wsX7_perform := by decide +kernel
theorem m_kX7_perform_3 : (Cond.fieldLink RX7 126 "LampRacksModel" "toldMany" "I" : Cond) ∈ wsX7_perform := by decide +kernel
theorem m_kX7_perform_4 : (Cond.fieldLink RX7 148 "LampRacksModel" "stopNumber" "I" : Cond) ∈ wsX7_perform := by decide +kernel
theorem m_kX7_perform_5 : (Cond.fieldLink RX7 151 "LampRacksModel" "stopError" "I" : Cond) ∈ wsX7_perform := by decide +kernel
theorem m_kX7_perform_6 : (Cond.fieldLink RX7 119 "LampRacksModel" "spot" "I" : Cond) ∈ wsX7_perform := by decide +kernel
set_option maxRecDepth 100000 in
set_option maxHeartbeats 4000000 in
theorem kX7_perform (l : Launch) (G : GG) (m : Nat) (w1 : Nat) (w2 : Nat) (w3 : Nat) (w4 : Nat) (w5 : Nat) (w6 : Nat) (ns : Nat) (ln : Nat) (tm : Nat) (sp : Nat) (ik : Int32) (e1 : Int32) (e2 : Int32) (z : Nat → Int32) (n : Nat) (g : Nat → Int32) (f : Nat → Int32) (tx : Nat → Int32) (td : Nat → Int32) (hs : ns ≤ 4) (hok : okZ z n) (hl : ln ≤ 60) (hX : okX tx ln td) : MU l G yX7_perform wsX7_perform ({ frames := 6, cells := 0, slots := 0, locals := 135 } : Room) [.ref m] [(m, .inr (7, [.ref w1, .ref w2, .ref w3, .int (nI ns), .ref w4, .int ik, .ref w5, .int (nI ln), .int e1, .int e2, .ref w6, .int (nI tm), .int (nI sp)])), (w1, .inl (G.2.1, 508, .inl z)), (w2, .inl (G.2.1, 508, .inl g)), (w3, .inl (G.2.1, 2032, .inl f)), (w5, .inl (G.2.1, 60, .inl tx)), (w6, .inl (G.2.1, 84, .inl td))] (some (.int ((pfV z g f ns n e1 e2 (xtF tx ln td)).1))) [(m, .inr (7, [.ref w1, .ref w2, .ref w3, .int (nI ((pfV z g f ns n e1 e2 (xtF tx ln td)).2.2.2.2.1)), .ref w4, .int ik, .ref w5, .int (nI ln), .int ((pfV z g f ns n e1 e2 (xtF tx ln td)).2.2.2.2.2.1), .int ((pfV z g f ns n e1 e2 (xtF tx ln td)).2.2.2.2.2.2), .ref w6, .int (nI ((xtF tx ln td).2.2.2)), .int (nI ((xtF tx ln td).2.1))])), (w1, .inl (G.2.1, 508, .inl ((pfV z g f ns n e1 e2 (xtF tx ln td)).2.1))), (w2, .inl (G.2.1, 508, .inl ((pfV z g f ns n e1 e2 (xtF tx ln td)).2.2.1))), (w3, .inl (G.2.1, 2032, .inl ((pfV z g f ns n e1 e2 (xtF tx ln td)).2.2.2.1))), (w5, .inl (G.2.1, 60, .inl tx)), (w6, .inl (G.2.1, 84, .inl ((xtF tx ln td).2.2.1)))] := by
  refine MU.of (cc := cX7_perform) (maxL := 3) (ret := (some .int)) (by decide) rfl (Nat.le_of_ble_eq_true rfl) ?_
  intro cx hxl hxG C M E
  subst hxl
  subst hxG
  show X cx (0, 0) [(m, .inr (7, [.ref w1, .ref w2, .ref w3, .int (nI ns), .ref w4, .int ik, .ref w5, .int (nI ln), .int e1, .int e2, .ref w6, .int (nI tm), .int (nI sp)])), (w1, .inl ((xG cx).2.1, 508, .inl z)), (w2, .inl ((xG cx).2.1, 508, .inl g)), (w3, .inl ((xG cx).2.1, 2032, .inl f)), (w5, .inl ((xG cx).2.1, 60, .inl tx)), (w6, .inl ((xG cx).2.1, 84, .inl td))] [(0, .ref m)] 0 []
  refine x_aload_n C 0 dX7_perform_0 rfl rfl ?_
  refine x_callVMU C ([]) ([]) [0, 4, 5] [(m, .inr (7, [.ref w1, .ref w2, .ref w3, .int (nI ns), .ref w4, .int ik, .ref w5, .int (nI ln), .int e1, .int e2, .ref w6, .int (nI ((xtF tx ln td).2.2.2)), .int (nI ((xtF tx ln td).2.1))])), (w1, .inl ((xG cx).2.1, 508, .inl z)), (w2, .inl ((xG cx).2.1, 508, .inl g)), (w3, .inl ((xG cx).2.1, 2032, .inl f)), (w5, .inl ((xG cx).2.1, 60, .inl tx)), (w6, .inl ((xG cx).2.1, 84, .inl ((xtF tx ln td).2.2.1)))] [1, 2, 3] [m, w1, w2, w3, w5, w6] rfl rfl [(w1, .inl ((xG cx).2.1, 508, .inl z)), (w2, .inl ((xG cx).2.1, 508, .inl g)), (w3, .inl ((xG cx).2.1, 2032, .inl f))] rfl rfl 6 rfl (by decide +kernel) rfl (k0 := 0) (na := 0) gX7_perform_X7_readText rfl (by decide +kernel) rfl rfl rfl M (kX7_readText (xl cx) (xG cx) m w1 w2 w3 w4 w5 w6 ns ln tm sp ik e1 e2 tx td (by first | assumption | rfl | omega | decide)) rfl (by decide) rfl rfl rfl ⟨by decide, by decide⟩ (Nat.le_of_ble_eq_true rfl) ⟨by decide, by decide⟩ dX7_perform_1 ?_
  generalize e_V : xtF tx ln td = V
  refine x_ifb_ne (P := V.1 = true) C 16 dX7_perform_4 (by decide) (fun c_4 => ?_) (fun c_4 => ?_)
  ·
    have hV := hX V e_V c_4
    have hV1 := hV.1
    refine x_aload_n C 0 dX7_perform_16 rfl rfl ?_
    refine x_getf C 0 rfl rfl i_kX7_perform_X7 0 (by decide) m_kX7_perform_1 rfl rfl dX7_perform_17 ?_
    refine x_iconst (v := 0) C dX7_perform_20 (by decide) ?_
    refine x_aload_n C 0 dX7_perform_21 rfl rfl ?_
    refine x_getf C 0 rfl rfl i_kX7_perform_X7 1 (by decide) m_kX7_perform_2 rfl rfl dX7_perform_22 ?_
    refine x_iconst (v := 0) C dX7_perform_25 (by decide) ?_
    refine x_callSMU C ([.ref w1, .int 0, .ref w2, .int 0]) ([]) [1, 2] [(m, .inr (7, [.ref w1, .ref w2, .ref w3, .int (nI ns), .ref w4, .int ik, .ref w5, .int (nI ln), .int e1, .int e2, .ref w6, .int (nI (V.2.2.2)), .int (nI (V.2.1))])), (w1, .inl ((xG cx).2.1, 508, .inl z)), (w2, .inl ((xG cx).2.1, 508, .inl (cpS z 0 g 0 508))), (w3, .inl ((xG cx).2.1, 2032, .inl f)), (w5, .inl ((xG cx).2.1, 60, .inl tx)), (w6, .inl ((xG cx).2.1, 84, .inl V.2.2.1))] [0, 3, 4, 5] [m, w1, w2, w3, w5, w6] rfl rfl [(m, .inr (7, [.ref w1, .ref w2, .ref w3, .int (nI ns), .ref w4, .int ik, .ref w5, .int (nI ln), .int e1, .int e2, .ref w6, .int (nI (V.2.2.2)), .int (nI (V.2.1))])), (w3, .inl ((xG cx).2.1, 2032, .inl f)), (w5, .inl ((xG cx).2.1, 60, .inl tx)), (w6, .inl ((xG cx).2.1, 84, .inl V.2.2.1))] rfl rfl 6 rfl (by decide +kernel) rfl (na := 4) gX7_perform_X7_copyState rfl (by decide +kernel) rfl M (kX7_copyState_c (xl cx) (xG cx) w1 w2 z g 0 0 (by first | assumption | rfl | omega | decide) (by first | assumption | rfl | omega | decide)) rfl (by decide) rfl rfl rfl ⟨by decide, by decide⟩ (Nat.le_of_ble_eq_true rfl) ⟨by decide, by decide⟩ dX7_perform_26 ?_
    refine x_iconst (v := 0) C dX7_perform_29 (by decide) ?_
    refine x_istore_n C [(1, .int 0), (0, .ref m)] dX7_perform_30 rfl (by decide) rfl ?_
    have loop_31 : ∀ (zz : Nat) (i : Nat) (dd : Nat) (n1 : Nat) (y : Nat → Int32) (hi : i + dd = V.2.2.2) (hz : V.2.2.2 + 1 ≤ i + zz) (ey : pfS z n V.2.2.1 i = (y, n1)) (en : pfI z n V.2.2.1 i dd = pfN z n V) (hoy : okZ y n1), X cx (0, 0) [(m, .inr (7, [.ref w1, .ref w2, .ref w3, .int (nI ns), .ref w4, .int ik, .ref w5, .int (nI ln), .int e1, .int e2, .ref w6, .int (nI V.2.2.2), .int (nI V.2.1)])), (w1, .inl ((xG cx).2.1, 508, .inl y)), (w2, .inl ((xG cx).2.1, 508, .inl (cpS z 0 g 0 508))), (w3, .inl ((xG cx).2.1, 2032, .inl f)), (w5, .inl ((xG cx).2.1, 60, .inl tx)), (w6, .inl ((xG cx).2.1, 84, .inl V.2.2.1))] [(0, .ref m), (1, .int (nI i))] 31 [] := by
      intro zz
      induction zz with
      | zero =>
        intro i dd n1 y hi hz ey en hoy
        exfalso; omega
      | succ zz ih =>
        intro i dd n1 y hi hz ey en hoy
        refine x_iload_n C 1 dX7_perform_31 rfl rfl ?_
        refine x_aload_n C 0 dX7_perform_32 rfl rfl ?_
        refine x_getf C 0 rfl rfl i_kX7_perform_X7 11 (by decide) m_kX7_perform_3 rfl rfl dX7_perform_33 ?_
        refine x_icmp_ge C 87 dX7_perform_36 (by decide) (fun c_36 => ?_) (fun c_36 => ?_)
        ·
          have n_36 : V.2.2.2 ≤ i := (nI_leI (a := V.2.2.2) (b := i) (by omega) (by omega)).mp c_36
          have eT : i = V.2.2.2 := by omega
          have eN : pfN z n V = i := en.symm.trans (pfI_0 (by omega))
          refine x_aload_n C 0 dX7_perform_87 rfl rfl ?_
          refine x_aload_n C 0 dX7_perform_88 rfl rfl ?_
          refine x_getf C 0 rfl rfl i_kX7_perform_X7 1 (by decide) m_kX7_perform_2 rfl rfl dX7_perform_89 ?_
          refine x_callVMU C ([.ref w2]) ([]) [0, 2, 3] [(m, .inr (7, [.ref w1, .ref w2, .ref w3, .int (nI (rcN ns)), .ref w4, .int ik, .ref w5, .int (nI ln), .int e1, .int e2, .ref w6, .int (nI V.2.2.2), .int (nI V.2.1)])), (w1, .inl ((xG cx).2.1, 508, .inl y)), (w2, .inl ((xG cx).2.1, 508, .inl (cpS z 0 g 0 508))), (w3, .inl ((xG cx).2.1, 2032, .inl (rcF f ns (cpS z 0 g 0 508)))), (w5, .inl ((xG cx).2.1, 60, .inl tx)), (w6, .inl ((xG cx).2.1, 84, .inl V.2.2.1))] [1, 4, 5] [m, w1, w2, w3, w5, w6] rfl rfl [(w1, .inl ((xG cx).2.1, 508, .inl y)), (w5, .inl ((xG cx).2.1, 60, .inl tx)), (w6, .inl ((xG cx).2.1, 84, .inl V.2.2.1))] rfl rfl 6 rfl (by decide +kernel) rfl (k0 := 0) (na := 1) gX7_perform_X7_recordRow rfl (by decide +kernel) rfl rfl rfl M (kX7_recordRow (xl cx) (xG cx) m w1 w2 w3 w4 w5 w6 ns ln V.2.2.2 V.2.1 ik e1 e2 w2 (cpS z 0 g 0 508) f (by first | assumption | rfl | omega | decide)) rfl (by decide) rfl rfl rfl ⟨by decide, by decide⟩ (Nat.le_of_ble_eq_true rfl) ⟨by decide, by decide⟩ dX7_perform_92 ?_
          refine x_aload_n C 0 dX7_perform_95 rfl rfl ?_
          refine x_getf C 0 rfl rfl i_kX7_perform_X7 11 (by decide) m_kX7_perform_3 rfl rfl dX7_perform_96 ?_
          have e_ret : pfV z g f ns n e1 e2 (xtF tx ln td) = (nI V.2.2.2, y, (cpS z 0 g 0 508), rcF f ns (cpS z 0 g 0 508), rcN ns, e1, e2) := by rw [e_V]; unfold pfV; rw [if_pos c_4, if_neg (by rw [eN]; omega), ← eT, ey]
          exact x_iret C E dX7_perform_99 (by rw [e_ret]) (by rw [e_ret, e_V])
        ·
          have n_36 : ¬ (V.2.2.2 ≤ i) := fun q => c_36 ((nI_leI (a := V.2.2.2) (b := i) (by omega) (by omega)).mpr q)
          have hlt : i < V.2.2.2 := by omega
          have hi21 : i < 21 := by omega
          refine x_aload_n C 0 dX7_perform_39 rfl rfl ?_
          refine x_iload_n C 1 dX7_perform_40 rfl rfl ?_
          refine x_callVRO C ([.int (nI i)]) ([]) [0, 1, 5] (k0 := 0) (na := 1) gX7_perform_X7_whyNot rfl (by decide +kernel) rfl rfl rfl (kX7_whyNot (xl cx) (xG cx) m w1 w2 w3 w4 w5 w6 ns ln V.2.2.2 V.2.1 ik e1 e2 y n1 V.2.2.1 i (hoy.1) (hoy.2.1) (by first | assumption | rfl | omega | decide)) rfl (by decide) rfl rfl rfl ⟨by decide, by decide⟩ (Nat.le_of_ble_eq_true rfl) ⟨by decide, by decide⟩ dX7_perform_41 ?_
          refine x_istore_n C [(2, .int (wnR y n1 V.2.2.1 i)), (0, .ref m), (1, .int (nI i))] dX7_perform_44 rfl (by decide) rfl ?_
          refine x_iload_n C 0 dX7_perform_45 rfl rfl ?_
          refine x_if_ge C 76 dX7_perform_46 (by decide) (fun c_46 => ?_) (fun c_46 => ?_)
          ·
            refine x_aload_n C 1 dX7_perform_76 rfl rfl ?_
            refine x_iload_n C 2 dX7_perform_77 rfl rfl ?_
            refine x_callVMU C ([.int (nI i)]) ([]) [0, 1, 5] [(m, .inr (7, [.ref w1, .ref w2, .ref w3, .int (nI ns), .ref w4, .int ik, .ref w5, .int (nI ln), .int e1, .int e2, .ref w6, .int (nI V.2.2.2), .int (nI V.2.1)])), (w1, .inl ((xG cx).2.1, 508, .inl (dtZ y n1 V.2.2.1 i))), (w2, .inl ((xG cx).2.1, 508, .inl (cpS z 0 g 0 508))), (w3, .inl ((xG cx).2.1, 2032, .inl f)), (w5, .inl ((xG cx).2.1, 60, .inl tx)), (w6, .inl ((xG cx).2.1, 84, .inl V.2.2.1))] [2, 3, 4] [m, w1, w2, w3, w5, w6] rfl rfl [(w2, .inl ((xG cx).2.1, 508, .inl (cpS z 0 g 0 508))), (w3, .inl ((xG cx).2.1, 2032, .inl f)), (w5, .inl ((xG cx).2.1, 60, .inl tx))] rfl rfl 6 rfl (by decide +kernel) rfl (k0 := 0) (na := 1) gX7_perform_X7_doThing rfl (by decide +kernel) rfl rfl rfl M (kX7_doThing (xl cx) (xG cx) m w1 w2 w3 w4 w5 w6 ns ln V.2.2.2 V.2.1 ik e1 e2 y n1 V.2.2.1 i (hoy) (hV.2 i hlt) (by first | assumption | rfl | omega | decide) (fun q => wn_put hoy c_46 q)) rfl (by decide) rfl rfl rfl ⟨by decide, by decide⟩ (Nat.le_of_ble_eq_true rfl) ⟨by decide, by decide⟩ dX7_perform_78 ?_
            refine x_iinc C 2 [(1, .int (nI (i + 1))), (2, .int (wnR y n1 V.2.2.1 i)), (0, .ref m)] dX7_perform_81 rfl (inc1 i) (by decide) rfl ?_
            refine x_goto (tgt := 31) C dX7_perform_84 (by decide) ?_
            refine x_lv [(0, .ref m), (1, .int (nI (i + 1)))] [2, 0] rfl ?_
            exact ih (i + 1) (dd - 1) (if V.2.2.1 (4 * i) = 112 then n1 + 1 else n1) (dtZ y n1 V.2.2.1 i) (by omega) (by omega) (by rw [pfS_s, ey]) ((pfI_go (by unfold pfW; rw [ey]; exact c_46) (by omega)).trans en) (dt_ok hoy (hV.2 i hlt) (fun q => wn_put hoy c_46 q))
          ·
            have eN : pfN z n V = i := en.symm.trans (pfI_st (by unfold pfW; rw [ey]; exact c_46))
            refine x_aload_n C 1 dX7_perform_49 rfl rfl ?_
            refine x_getf C 0 rfl rfl i_kX7_perform_X7 1 (by decide) m_kX7_perform_2 rfl rfl dX7_perform_50 ?_
            refine x_iconst (v := 0) C dX7_perform_53 (by decide) ?_
            refine x_aload_n C 1 dX7_perform_54 rfl rfl ?_
            refine x_getf C 0 rfl rfl i_kX7_perform_X7 0 (by decide) m_kX7_perform_1 rfl rfl dX7_perform_55 ?_
            refine x_iconst (v := 0) C dX7_perform_58 (by decide) ?_
            refine x_callSMU C ([.ref w2, .int 0, .ref w1, .int 0]) ([]) [2, 1] [(m, .inr (7, [.ref w1, .ref w2, .ref w3, .int (nI ns), .ref w4, .int ik, .ref w5, .int (nI ln), .int e1, .int e2, .ref w6, .int (nI V.2.2.2), .int (nI V.2.1)])), (w1, .inl ((xG cx).2.1, 508, .inl (cpS (cpS z 0 g 0 508) 0 y 0 508))), (w2, .inl ((xG cx).2.1, 508, .inl (cpS z 0 g 0 508))), (w3, .inl ((xG cx).2.1, 2032, .inl f)), (w5, .inl ((xG cx).2.1, 60, .inl tx)), (w6, .inl ((xG cx).2.1, 84, .inl V.2.2.1))] [0, 3, 4, 5] [m, w1, w2, w3, w5, w6] rfl rfl [(m, .inr (7, [.ref w1, .ref w2, .ref w3, .int (nI ns), .ref w4, .int ik, .ref w5, .int (nI ln), .int e1, .int e2, .ref w6, .int (nI V.2.2.2), .int (nI V.2.1)])), (w3, .inl ((xG cx).2.1, 2032, .inl f)), (w5, .inl ((xG cx).2.1, 60, .inl tx)), (w6, .inl ((xG cx).2.1, 84, .inl V.2.2.1))] rfl rfl 6 rfl (by decide +kernel) rfl (na := 4) gX7_perform_X7_copyState rfl (by decide +kernel) rfl M (kX7_copyState_c (xl cx) (xG cx) w2 w1 (cpS z 0 g 0 508) y 0 0 (by first | assumption | rfl | omega | decide) (by first | assumption | rfl | omega | decide)) rfl (by decide) rfl rfl rfl ⟨by decide, by decide⟩ (Nat.le_of_ble_eq_true rfl) ⟨by decide, by decide⟩ dX7_perform_59 ?_
            refine x_aload_n C 1 dX7_perform_62 rfl rfl ?_
            refine x_iload_n C 2 dX7_perform_63 rfl rfl ?_
            refine x_putf (ty := .int) C M 0 rfl rfl i_kX7_perform_X7 8 (by decide) m_kX7_perform_4 rfl rfl tyX7 tyX7_ok nmX7 (by decide +kernel) rfl rfl (Nat.le_of_ble_eq_true rfl) [(m, .inr (7, [.ref w1, .ref w2, .ref w3, .int (nI ns), .ref w4, .int ik, .ref w5, .int (nI ln), .int (nI i), .int e2, .ref w6, .int (nI V.2.2.2), .int (nI V.2.1)])), (w1, .inl ((xG cx).2.1, 508, .inl (cpS (cpS z 0 g 0 508) 0 y 0 508))), (w2, .inl ((xG cx).2.1, 508, .inl (cpS z 0 g 0 508))), (w3, .inl ((xG cx).2.1, 2032, .inl f)), (w5, .inl ((xG cx).2.1, 60, .inl tx)), (w6, .inl ((xG cx).2.1, 84, .inl V.2.2.1))] rfl dX7_perform_64 ?_
            refine x_aload_n C 1 dX7_perform_67 rfl rfl ?_
            refine x_iload_n C 0 dX7_perform_68 rfl rfl ?_
            refine x_putf (ty := .int) C M 0 rfl rfl i_kX7_perform_X7 9 (by decide) m_kX7_perform_5 rfl rfl tyX7 tyX7_ok nmX7 (by decide +kernel) rfl rfl (Nat.le_of_ble_eq_true rfl) [(m, .inr (7, [.ref w1, .ref w2, .ref w3, .int (nI ns), .ref w4, .int ik, .ref w5, .int (nI ln), .int (nI i), .int (wnR y n1 V.2.2.1 i), .ref w6, .int (nI V.2.2.2), .int (nI V.2.1)])), (w1, .inl ((xG cx).2.1, 508, .inl (cpS (cpS z 0 g 0 508) 0 y 0 508))), (w2, .inl ((xG cx).2.1, 508, .inl (cpS z 0 g 0 508))), (w3, .inl ((xG cx).2.1, 2032, .inl f)), (w5, .inl ((xG cx).2.1, 60, .inl tx)), (w6, .inl ((xG cx).2.1, 84, .inl V.2.2.1))] rfl dX7_perform_69 ?_
            refine x_sipush (v := (-1004)) C dX7_perform_72 (by decide) ?_
            have e_ret : pfV z g f ns n e1 e2 (xtF tx ln td) = (-1004, cpS (cpS z 0 g 0 508) 0 y 0 508, (cpS z 0 g 0 508), f, ns, nI i, wnR y n1 V.2.2.1 i) := by rw [e_V]; unfold pfV; rw [if_pos c_4, if_pos (by rw [eN]; omega), eN]; unfold pfW; rw [ey]
            exact x_iret C E dX7_perform_75 (by rw [e_ret]) (by rw [e_ret, e_V])
    refine x_lv [(0, .ref m), (1, .int (nI 0))] [1, 0] rfl ?_
    exact loop_31 (V.2.2.2 + 1) 0 V.2.2.2 n z (Nat.zero_add _) (by omega) (rfl) (rfl) (hok)
  ·
    refine x_sipush (v := (-1100)) C dX7_perform_7 (by decide) ?_
    refine x_aload_n C 0 dX7_perform_10 rfl rfl ?_
    refine x_getf C 0 rfl rfl i_kX7_perform_X7 12 (by decide) m_kX7_perform_6 rfl rfl dX7_perform_11 ?_
    refine x_isub C (rfl) dX7_perform_14 ?_
    have e_ret : pfV z g f ns n e1 e2 (xtF tx ln td) = (-1100 - nI V.2.1, z, g, f, ns, e1, e2) := by rw [e_V]; unfold pfV; rw [if_neg c_4]
    exact x_iret C E dX7_perform_15 (by rw [e_ret]) (by rw [e_ret, e_V])
