/-- a thing that was read -/
def okT (td : Nat → Int32) (i : Nat) : Prop :=
  (td (4 * i) = 112 ∧ (0 ≤ td (4 * i + 1) ∧ td (4 * i + 1) ≤ 2) ∧ (0 ≤ td (4 * i + 2) ∧ td (4 * i + 2) ≤ 7) ∧ (0 ≤ td (4 * i + 3) ∧ td (4 * i + 3) ≤ 5)) ∨
  (td (4 * i) = 116 ∧ (0 ≤ td (4 * i + 1) ∧ td (4 * i + 1) ≤ 2) ∧ (0 ≤ td (4 * i + 2) ∧ td (4 * i + 2) ≤ 7)) ∨
  (td (4 * i) = 118 ∧ (0 ≤ td (4 * i + 1) ∧ td (4 * i + 1) ≤ 2) ∧ (0 ≤ td (4 * i + 2) ∧ td (4 * i + 2) ≤ 300)) ∨
  (td (4 * i) = 115 ∧ (0 ≤ td (4 * i + 1) ∧ td (4 * i + 1) ≤ 2) ∧ (0 ≤ td (4 * i + 2) ∧ td (4 * i + 2) ≤ 99) ∧ (-50 ≤ td (4 * i + 3) ∧ td (4 * i + 3) ≤ 50)) ∨
  (td (4 * i) = 46 ∧ (1 ≤ td (4 * i + 1) ∧ td (4 * i + 1) ≤ 999))
theorem okT_no {td : Nat → Int32} {i : Nat} {v : Int32} (h : okT td i) (e : td (4 * i) = v) (h1 : v ≠ 112) (h2 : v ≠ 116) (h3 : v ≠ 118) (h4 : v ≠ 115) (h5 : v ≠ 46) : False := by
  subst e
  rcases h with h | h | h | h | h
  · exact h1 h.1
  · exact h2 h.1
  · exact h3 h.1
  · exact h4 h.1
  · exact h5 h.1
theorem okT_a {td : Nat → Int32} {i : Nat} {v : Int32} (h : okT td i) (e : td (4 * i) = v) (h5 : v ≠ 46) : 0 ≤ td (4 * i + 1) ∧ td (4 * i + 1) ≤ 2 := by
  subst e
  rcases h with h | h | h | h | h
  · exact h.2.1
  · exact h.2.1
  · exact h.2.1
  · exact h.2.1
  · exact absurd h.1 h5
theorem okT_h {td : Nat → Int32} {i : Nat} (h : okT td i) (h1 : ¬ td (4 * i) = 112) (h2 : ¬ td (4 * i) = 116) (h3 : ¬ td (4 * i) = 118) (h4 : ¬ td (4 * i) = 115) : 1 ≤ td (4 * i + 1) ∧ td (4 * i + 1) ≤ 999 := by
  rcases h with h | h | h | h | h
  · exact absurd h.1 h1
  · exact absurd h.1 h2
  · exact absurd h.1 h3
  · exact absurd h.1 h4
  · exact h.2
theorem okT_d {td : Nat → Int32} {i : Nat} (h : okT td i) (e : td (4 * i) = 112) : 0 ≤ td (4 * i + 3) ∧ td (4 * i + 3) ≤ 5 := by
  rcases h with h | h | h | h | h
  · exact h.2.2.2
  all_goals (rw [h.1] at e; exact absurd e (by decide))
def wnR (z : Nat → Int32) (n : Nat) (td : Nat → Int32) (i : Nat) : Int32 := if td (4 * i) = 112 then wpR z n (td (4 * i + 1)) (td (4 * i + 2)) (td (4 * i + 3)) else if td (4 * i) = 46 then wsR z (td (4 * i + 1)) else 0
def dtZ (z : Nat → Int32) (n : Nat) (td : Nat → Int32) (i : Nat) : Nat → Int32 :=
  if td (4 * i) = 112 then ptZ z n (td (4 * i + 1)) (td (4 * i + 2)) (ixz (td (4 * i + 3)))
  else if td (4 * i) = 116 then mvZ z (lat z (td (4 * i + 1)) (td (4 * i + 2)) n) (-1005) (-1005)
  else if td (4 * i) = 118 then upd z (16 + 4 * ixz (td (4 * i + 1))) (td (4 * i + 2))
  else if td (4 * i) = 115 then spZ z (ixz (td (4 * i + 1))) (td (4 * i + 2)) (td (4 * i + 3))
  else (phR z n (ixz (td (4 * i + 1)))).1

theorem i_kX7_whyNot_X7 : ∀ w ∈ u_ws RX7 TX7 13, w ∈ wsX7_whyNot := by decide +kernel
theorem m_kX7_whyNot_1 : (Cond.fieldLink RX7 25 "LampRacksModel" "told" "[I" : Cond) ∈ wsX7_whyNot := by decide +kernel
set_option maxRecDepth 100000 in
set_option maxHeartbeats 4000000 in
theorem kX7_whyNot (l : Launch) (G : GG) (m : Nat) (w1 : Nat) (w2 : Nat) (w3 : Nat) (w4 : Nat) (w5 : Nat) (w6 : Nat) (ns : Nat) (ln : Nat) (tm : Nat) (sp : Nat) (ik : Int32) (e1 : Int32) (e2 : Int32) (z : Nat → Int32) (n : Nat) (td : Nat → Int32) (i : Nat) (hn : n ≤ 60) (hz3 : z 3 = nI n) (hi : i < 21) : RO l G yX7_whyNot wsX7_whyNot ({ frames := 3, cells := 0, slots := 0, locals := 69 } : Room) [.ref m, .int (nI i)] [(m, .inr (7, [.ref w1, .ref w2, .ref w3, .int (nI ns), .ref w4, .int ik, .ref w5, .int (nI ln), .int e1, .int e2, .ref w6, .int (nI tm), .int (nI sp)])), (w1, .inl (G.2.1, 508, .inl z)), (w6, .inl (G.2.1, 84, .inl td))] (.int (wnR z n td i)) := by
  refine RO.of (cc := cX7_whyNot) (maxL := 4) (ret := (some .int)) (by decide) rfl (Nat.le_of_ble_eq_true rfl) ?_
  intro cx hxl hxG C E
  subst hxl
  subst hxG
  show X cx (0, 0) [(m, .inr (7, [.ref w1, .ref w2, .ref w3, .int (nI ns), .ref w4, .int ik, .ref w5, .int (nI ln), .int e1, .int e2, .ref w6, .int (nI tm), .int (nI sp)])), (w1, .inl ((xG cx).2.1, 508, .inl z)), (w6, .inl ((xG cx).2.1, 84, .inl td))] [(0, .ref m), (1, .int (nI i))] 0 []
  refine x_aload_n C 0 dX7_whyNot_0 rfl rfl ?_
  refine x_getf C 0 rfl rfl i_kX7_whyNot_X7 10 (by decide) m_kX7_whyNot_1 rfl rfl dX7_whyNot_1 ?_
  refine x_iconst (v := 4) C dX7_whyNot_4 (by decide) ?_
  refine x_iload_n C 1 dX7_whyNot_5 rfl rfl ?_
  refine x_imul C (pk_mul 4 i) dX7_whyNot_6 ?_
  refine x_iconst (v := 1) C dX7_whyNot_7 (by decide) ?_
  refine x_iadd C (nI_add (4 * i) 1) dX7_whyNot_8 ?_
  refine x_iald C 2 rfl rfl (vp_in_nI (by omega) (by decide)) (congrArg td (nI_clamp (by omega))) dX7_whyNot_9 ?_
  refine x_istore_n C [(2, .int (td ((4 * i) + 1))), (0, .ref m), (1, .int (nI i))] dX7_whyNot_10 rfl (by decide) rfl ?_
  refine x_aload_n C 1 dX7_whyNot_11 rfl rfl ?_
  refine x_getf C 0 rfl rfl i_kX7_whyNot_X7 10 (by decide) m_kX7_whyNot_1 rfl rfl dX7_whyNot_12 ?_
  refine x_iconst (v := 4) C dX7_whyNot_15 (by decide) ?_
  refine x_iload_n C 2 dX7_whyNot_16 rfl rfl ?_
  refine x_imul C (pk_mul 4 i) dX7_whyNot_17 ?_
  refine x_iald C 2 rfl rfl (vp_in_nI (by omega) (by decide)) (congrArg td (nI_clamp (by omega))) dX7_whyNot_18 ?_
  refine x_istore_n C [(3, .int (td (4 * i))), (2, .int (td ((4 * i) + 1))), (0, .ref m), (1, .int (nI i))] dX7_whyNot_19 rfl (by decide) rfl ?_
  refine x_iload_n C 0 dX7_whyNot_20 rfl rfl ?_
  refine x_bipush (v := 112) C dX7_whyNot_21 (by decide) ?_
  refine x_icmp_ne C 54 dX7_whyNot_23 (by decide) (fun c_23 => ?_) (fun c_23 => ?_)
  ·
    refine x_iload_n C 0 dX7_whyNot_54 rfl rfl ?_
    refine x_bipush (v := 46) C dX7_whyNot_55 (by decide) ?_
    refine x_icmp_ne C 68 dX7_whyNot_57 (by decide) (fun c_57 => ?_) (fun c_57 => ?_)
    ·
      refine x_iconst (v := 0) C dX7_whyNot_68 (by decide) ?_
      exact x_iret C E dX7_whyNot_69 (by simp [wnR, c_23, c_57]) (rfl)
    ·
      refine x_aload_n C 2 dX7_whyNot_60 rfl rfl ?_
      refine x_iload_n C 1 dX7_whyNot_61 rfl rfl ?_
      refine x_callVRO C ([.int (td ((4 * i) + 1))]) ([]) [0, 1] (k0 := 0) (na := 1) gX7_whyNot_X7_whyNotPass rfl (by decide +kernel) rfl rfl rfl (kX7_whyNotPass (xl cx) (xG cx) m w1 w2 w3 w4 w5 w6 ns ln tm sp ik e1 e2 z (td ((4 * i) + 1))) rfl (by decide) rfl rfl rfl ⟨by decide, by decide⟩ (Nat.le_of_ble_eq_true rfl) ⟨by decide, by decide⟩ dX7_whyNot_62 ?_
      refine x_goto (tgt := 69) C dX7_whyNot_65 (by decide) ?_
      exact x_iret C E dX7_whyNot_69 (by simp [wnR, c_23, c_57]) (rfl)
  ·
    refine x_aload_n C 2 dX7_whyNot_26 rfl rfl ?_
    refine x_iload_n C 1 dX7_whyNot_27 rfl rfl ?_
    refine x_aload_n C 2 dX7_whyNot_28 rfl rfl ?_
    refine x_getf C 0 rfl rfl i_kX7_whyNot_X7 10 (by decide) m_kX7_whyNot_1 rfl rfl dX7_whyNot_29 ?_
    refine x_iconst (v := 4) C dX7_whyNot_32 (by decide) ?_
    refine x_iload_n C 3 dX7_whyNot_33 rfl rfl ?_
    refine x_imul C (pk_mul 4 i) dX7_whyNot_34 ?_
    refine x_iconst (v := 2) C dX7_whyNot_35 (by decide) ?_
    refine x_iadd C (nI_add (4 * i) 2) dX7_whyNot_36 ?_
    refine x_iald C 2 rfl rfl (vp_in_nI (by omega) (by decide)) (congrArg td (nI_clamp (by omega))) dX7_whyNot_37 ?_
    refine x_aload_n C 2 dX7_whyNot_38 rfl rfl ?_
    refine x_getf C 0 rfl rfl i_kX7_whyNot_X7 10 (by decide) m_kX7_whyNot_1 rfl rfl dX7_whyNot_39 ?_
    refine x_iconst (v := 4) C dX7_whyNot_42 (by decide) ?_
    refine x_iload_n C 3 dX7_whyNot_43 rfl rfl ?_
    refine x_imul C (pk_mul 4 i) dX7_whyNot_44 ?_
    refine x_iconst (v := 3) C dX7_whyNot_45 (by decide) ?_
    refine x_iadd C (nI_add (4 * i) 3) dX7_whyNot_46 ?_
    refine x_iald C 2 rfl rfl (vp_in_nI (by omega) (by decide)) (congrArg td (nI_clamp (by omega))) dX7_whyNot_47 ?_
    refine x_callVRO C ([.int (td ((4 * i) + 1)), .int (td ((4 * i) + 2)), .int (td ((4 * i) + 3))]) ([]) [0, 1] (k0 := 0) (na := 3) gX7_whyNot_X7_whyNotPut rfl (by decide +kernel) rfl rfl rfl (kX7_whyNotPut (xl cx) (xG cx) m w1 w2 w3 w4 w5 w6 ns ln tm sp ik e1 e2 z n (td ((4 * i) + 1)) (td ((4 * i) + 2)) (td ((4 * i) + 3)) (by first | assumption | rfl | omega | decide) (by first | assumption | rfl | omega | decide)) rfl (by decide) rfl rfl rfl ⟨by decide, by decide⟩ (Nat.le_of_ble_eq_true rfl) ⟨by decide, by decide⟩ dX7_whyNot_48 ?_
    refine x_goto (tgt := 69) C dX7_whyNot_51 (by decide) ?_
    exact x_iret C E dX7_whyNot_69 (by simp [wnR, c_23]) (rfl)

theorem i_kX7_doThing_X7 : ∀ w ∈ u_ws RX7 TX7 13, w ∈ wsX7_doThing := by decide +kernel
theorem m_kX7_doThing_1 : (Cond.fieldLink RX7 25 "LampRacksModel" "told" "[I" : Cond) ∈ wsX7_doThing := by decide +kernel
theorem m_kX7_doThing_2 : (Cond.fieldLink RX7 7 "LampRacksModel" "z" "[I" : Cond) ∈ wsX7_doThing := by decide +kernel
set_option maxRecDepth 100000 in
set_option maxHeartbeats 4000000 in
theorem kX7_doThing (l : Launch) (G : GG) (m : Nat) (w1 : Nat) (w2 : Nat) (w3 : Nat) (w4 : Nat) (w5 : Nat) (w6 : Nat) (ns : Nat) (ln : Nat) (tm : Nat) (sp : Nat) (ik : Int32) (e1 : Int32) (e2 : Int32) (z : Nat → Int32) (n : Nat) (td : Nat → Int32) (i : Nat) (hok : okZ z n) (ho : okT td i) (hi : i < 21) (hw : td (4 * i) = 112 → n < 60) : MU l G yX7_doThing wsX7_doThing ({ frames := 5, cells := 0, slots := 0, locals := 111 } : Room) [.ref m, .int (nI i)] [(m, .inr (7, [.ref w1, .ref w2, .ref w3, .int (nI ns), .ref w4, .int ik, .ref w5, .int (nI ln), .int e1, .int e2, .ref w6, .int (nI tm), .int (nI sp)])), (w1, .inl (G.2.1, 508, .inl z)), (w6, .inl (G.2.1, 84, .inl td))] none [(m, .inr (7, [.ref w1, .ref w2, .ref w3, .int (nI ns), .ref w4, .int ik, .ref w5, .int (nI ln), .int e1, .int e2, .ref w6, .int (nI tm), .int (nI sp)])), (w1, .inl (G.2.1, 508, .inl (dtZ z n td i))), (w6, .inl (G.2.1, 84, .inl td))] := by
  refine MU.of (cc := cX7_doThing) (maxL := 5) (ret := none) (by decide) rfl (Nat.le_of_ble_eq_true rfl) ?_
  intro cx hxl hxG C M E
  subst hxl
  subst hxG
  show X cx (0, 0) [(m, .inr (7, [.ref w1, .ref w2, .ref w3, .int (nI ns), .ref w4, .int ik, .ref w5, .int (nI ln), .int e1, .int e2, .ref w6, .int (nI tm), .int (nI sp)])), (w1, .inl ((xG cx).2.1, 508, .inl z)), (w6, .inl ((xG cx).2.1, 84, .inl td))] [(0, .ref m), (1, .int (nI i))] 0 []
  refine x_aload_n C 0 dX7_doThing_0 rfl rfl ?_
  refine x_getf C 0 rfl rfl i_kX7_doThing_X7 10 (by decide) m_kX7_doThing_1 rfl rfl dX7_doThing_1 ?_
  refine x_iconst (v := 4) C dX7_doThing_4 (by decide) ?_
  refine x_iload_n C 1 dX7_doThing_5 rfl rfl ?_
  refine x_imul C (pk_mul 4 i) dX7_doThing_6 ?_
  refine x_iconst (v := 1) C dX7_doThing_7 (by decide) ?_
  refine x_iadd C (nI_add (4 * i) 1) dX7_doThing_8 ?_
  refine x_iald C 2 rfl rfl (vp_in_nI (by omega) (by decide)) (congrArg td (nI_clamp (by omega))) dX7_doThing_9 ?_
  refine x_istore_n C [(2, .int (td ((4 * i) + 1))), (0, .ref m), (1, .int (nI i))] dX7_doThing_10 rfl (by decide) rfl ?_
  refine x_aload_n C 1 dX7_doThing_11 rfl rfl ?_
  refine x_getf C 0 rfl rfl i_kX7_doThing_X7 10 (by decide) m_kX7_doThing_1 rfl rfl dX7_doThing_12 ?_
  refine x_iconst (v := 4) C dX7_doThing_15 (by decide) ?_
  refine x_iload_n C 2 dX7_doThing_16 rfl rfl ?_
  refine x_imul C (pk_mul 4 i) dX7_doThing_17 ?_
  refine x_iconst (v := 2) C dX7_doThing_18 (by decide) ?_
  refine x_iadd C (nI_add (4 * i) 2) dX7_doThing_19 ?_
  refine x_iald C 2 rfl rfl (vp_in_nI (by omega) (by decide)) (congrArg td (nI_clamp (by omega))) dX7_doThing_20 ?_
  refine x_istore_n C [(3, .int (td ((4 * i) + 2))), (2, .int (td ((4 * i) + 1))), (0, .ref m), (1, .int (nI i))] dX7_doThing_21 rfl (by decide) rfl ?_
  refine x_aload_n C 2 dX7_doThing_22 rfl rfl ?_
  refine x_getf C 0 rfl rfl i_kX7_doThing_X7 10 (by decide) m_kX7_doThing_1 rfl rfl dX7_doThing_23 ?_
  refine x_iconst (v := 4) C dX7_doThing_26 (by decide) ?_
  refine x_iload_n C 3 dX7_doThing_27 rfl rfl ?_
  refine x_imul C (pk_mul 4 i) dX7_doThing_28 ?_
  refine x_iconst (v := 3) C dX7_doThing_29 (by decide) ?_
  refine x_iadd C (nI_add (4 * i) 3) dX7_doThing_30 ?_
  refine x_iald C 2 rfl rfl (vp_in_nI (by omega) (by decide)) (congrArg td (nI_clamp (by omega))) dX7_doThing_31 ?_
  refine x_istore C [(4, .int (td ((4 * i) + 3))), (3, .int (td ((4 * i) + 2))), (2, .int (td ((4 * i) + 1))), (0, .ref m), (1, .int (nI i))] dX7_doThing_32 (by decide) rfl ?_
  refine x_aload_n C 3 dX7_doThing_34 rfl rfl ?_
  refine x_getf C 0 rfl rfl i_kX7_doThing_X7 10 (by decide) m_kX7_doThing_1 rfl rfl dX7_doThing_35 ?_
  refine x_iconst (v := 4) C dX7_doThing_38 (by decide) ?_
  refine x_iload_n C 4 dX7_doThing_39 rfl rfl ?_
  refine x_imul C (pk_mul 4 i) dX7_doThing_40 ?_
  refine x_iald C 2 rfl rfl (vp_in_nI (by omega) (by decide)) (congrArg td (nI_clamp (by omega))) dX7_doThing_41 ?_
  have hn := hok.1
  have hz3 := hok.2.1
  generalize e_ch : td (4 * i) = ch
  refine x_tswL 112 C dX7_doThing_42 [84, 141, 141, 130, 96, 141, 115] 141 (by decide) (by decide) (by decide) ⟨fun c_42 => ?_, fun c_42 => ?_, fun c_42 => ?_, fun c_42 => ?_, fun c_42 => ?_, fun c_42 => ?_, fun c_42 => ?_, trivial⟩ (fun c_42 => ?_)
  ·
    have e_42 : ch = 112 := Int32.toInt_inj.mp (by rw [c_42]; rfl)
    have hn6 := hw (e_ch.trans e_42)
    refine x_aload_n C 3 dX7_doThing_84 rfl rfl ?_
    refine x_iload_n C 2 dX7_doThing_85 rfl rfl ?_
    refine x_iload_n C 1 dX7_doThing_86 rfl rfl ?_
    refine x_iload C 0 dX7_doThing_87 rfl ?_
    obtain ⟨kb, h_kb, e_kb⟩ := in_nat (M := 5) (m := 5) (okT_d ho (e_ch.trans e_42)) (by decide)
    rw [e_kb]
    refine x_callVMU C ([.int (td ((4 * i) + 1)), .int (td ((4 * i) + 2)), .int (nI kb)]) ([]) [0, 1] [(m, .inr (7, [.ref w1, .ref w2, .ref w3, .int (nI ns), .ref w4, .int ik, .ref w5, .int (nI ln), .int e1, .int e2, .ref w6, .int (nI tm), .int (nI sp)])), (w1, .inl ((xG cx).2.1, 508, .inl (ptZ z n (td ((4 * i) + 1)) (td ((4 * i) + 2)) kb))), (w6, .inl ((xG cx).2.1, 84, .inl td))] [2] [m, w1, w6] rfl rfl [(w6, .inl ((xG cx).2.1, 84, .inl td))] rfl rfl 3 rfl (by decide +kernel) rfl (k0 := 0) (na := 3) gX7_doThing_X7_putNow rfl (by decide +kernel) rfl rfl rfl M (kX7_putNow (xl cx) (xG cx) m w1 w2 w3 w4 w5 w6 ns ln tm sp ik e1 e2 z n (td ((4 * i) + 1)) (td ((4 * i) + 2)) kb (by first | assumption | rfl | omega | decide) (by first | assumption | rfl | omega | decide) (by first | assumption | rfl | omega | decide)) rfl (by decide) rfl rfl rfl ⟨by decide, by decide⟩ (Nat.le_of_ble_eq_true rfl) ⟨by decide, by decide⟩ dX7_doThing_89 ?_
    refine x_pop C dX7_doThing_92 rfl ?_
    refine x_goto (tgt := 147) C dX7_doThing_93 (by decide) ?_
    have e_ret : dtZ z n td i = ptZ z n (td ((4 * i) + 1)) (td ((4 * i) + 2)) kb := by simp +decide only [dtZ, ixz, e_ch, e_42, e_kb, ix kb (by omega), if_true, if_false, reduceIte]
    exact x_vret C E dX7_doThing_147 ((rfl : _ = ([(m, .inr (7, [.ref w1, .ref w2, .ref w3, .int (nI ns), .ref w4, .int ik, .ref w5, .int (nI ln), .int e1, .int e2, .ref w6, .int (nI tm), .int (nI sp)])), (w1, .inl ((xG cx).2.1, 508, .inl (ptZ z n (td ((4 * i) + 1)) (td ((4 * i) + 2)) kb))), (w6, .inl ((xG cx).2.1, 84, .inl td))] : va_W)).trans (by rw [e_ret]))
  ·
    exact (okT_no ho (e_ch.trans (show ch = 113 from Int32.toInt_inj.mp (by rw [c_42]; rfl))) (by decide) (by decide) (by decide) (by decide) (by decide)).elim
  ·
    exact (okT_no ho (e_ch.trans (show ch = 114 from Int32.toInt_inj.mp (by rw [c_42]; rfl))) (by decide) (by decide) (by decide) (by decide) (by decide)).elim
  ·
    have e_42 : ch = 115 := Int32.toInt_inj.mp (by rw [c_42]; rfl)
    refine x_aload_n C 3 dX7_doThing_130 rfl rfl ?_
    refine x_iload_n C 2 dX7_doThing_131 rfl rfl ?_
    refine x_iload_n C 1 dX7_doThing_132 rfl rfl ?_
    refine x_iload C 0 dX7_doThing_133 rfl ?_
    obtain ⟨ka, h_ka, e_ka⟩ := in_nat (M := 2) (m := 2) (okT_a ho (e_ch.trans e_42) (by decide)) (by decide)
    rw [e_ka]
    refine x_callVMU C ([.int (nI ka), .int (td ((4 * i) + 2)), .int (td ((4 * i) + 3))]) ([]) [0, 1] [(m, .inr (7, [.ref w1, .ref w2, .ref w3, .int (nI ns), .ref w4, .int ik, .ref w5, .int (nI ln), .int e1, .int e2, .ref w6, .int (nI tm), .int (nI sp)])), (w1, .inl ((xG cx).2.1, 508, .inl (spZ z ka (td ((4 * i) + 2)) (td ((4 * i) + 3))))), (w6, .inl ((xG cx).2.1, 84, .inl td))] [2] [m, w1, w6] rfl rfl [(w6, .inl ((xG cx).2.1, 84, .inl td))] rfl rfl 3 rfl (by decide +kernel) rfl (k0 := 0) (na := 3) gX7_doThing_X7_stepsNow rfl (by decide +kernel) rfl rfl rfl M (kX7_stepsNow (xl cx) (xG cx) m w1 w2 w3 w4 w5 w6 ns ln tm sp ik e1 e2 z ka (td ((4 * i) + 2)) (td ((4 * i) + 3)) (by first | assumption | rfl | omega | decide)) rfl (by decide) rfl rfl rfl ⟨by decide, by decide⟩ (Nat.le_of_ble_eq_true rfl) ⟨by decide, by decide⟩ dX7_doThing_135 ?_
    refine x_goto (tgt := 147) C dX7_doThing_138 (by decide) ?_
    have e_ret : dtZ z n td i = spZ z ka (td ((4 * i) + 2)) (td ((4 * i) + 3)) := by simp +decide only [dtZ, ixz, e_ch, e_42, e_ka, ix ka (by omega), if_true, if_false, reduceIte]
    exact x_vret C E dX7_doThing_147 ((rfl : _ = ([(m, .inr (7, [.ref w1, .ref w2, .ref w3, .int (nI ns), .ref w4, .int ik, .ref w5, .int (nI ln), .int e1, .int e2, .ref w6, .int (nI tm), .int (nI sp)])), (w1, .inl ((xG cx).2.1, 508, .inl (spZ z ka (td ((4 * i) + 2)) (td ((4 * i) + 3))))), (w6, .inl ((xG cx).2.1, 84, .inl td))] : va_W)).trans (by rw [e_ret]))
  ·
    have e_42 : ch = 116 := Int32.toInt_inj.mp (by rw [c_42]; rfl)
    refine x_aload_n C 3 dX7_doThing_96 rfl rfl ?_
    refine x_aload_n C 3 dX7_doThing_97 rfl rfl ?_
    refine x_iload_n C 2 dX7_doThing_98 rfl rfl ?_
    refine x_iload_n C 1 dX7_doThing_99 rfl rfl ?_
    refine x_callVRO C ([.int (td ((4 * i) + 1)), .int (td ((4 * i) + 2))]) ([.ref m]) [0, 1] (k0 := 0) (na := 2) gX7_doThing_X7_lampAt rfl (by decide +kernel) rfl rfl rfl (kX7_lampAt (xl cx) (xG cx) m w1 w2 w3 w4 w5 w6 ns ln tm sp ik e1 e2 z n (td ((4 * i) + 1)) (td ((4 * i) + 2)) (by first | assumption | rfl | omega | decide) (by first | assumption | rfl | omega | decide)) rfl (by decide) rfl rfl rfl ⟨by decide, by decide⟩ (Nat.le_of_ble_eq_true rfl) ⟨by decide, by decide⟩ dX7_doThing_100 ?_
    refine x_sipush (v := (-1005)) C dX7_doThing_103 (by decide) ?_
    refine x_sipush (v := (-1005)) C dX7_doThing_106 (by decide) ?_
    refine x_callVMU C ([.int (lat z (td ((4 * i) + 1)) (td ((4 * i) + 2)) n), .int (-1005), .int (-1005)]) ([]) [0, 1] [(m, .inr (7, [.ref w1, .ref w2, .ref w3, .int (nI ns), .ref w4, .int ik, .ref w5, .int (nI ln), .int e1, .int e2, .ref w6, .int (nI tm), .int (nI sp)])), (w1, .inl ((xG cx).2.1, 508, .inl (mvZ z (lat z (td ((4 * i) + 1)) (td ((4 * i) + 2)) n) (-1005) (-1005)))), (w6, .inl ((xG cx).2.1, 84, .inl td))] [2] [m, w1, w6] rfl rfl [(w6, .inl ((xG cx).2.1, 84, .inl td))] rfl rfl 3 rfl (by decide +kernel) rfl (k0 := 0) (na := 3) gX7_doThing_X7_moveTo rfl (by decide +kernel) rfl rfl rfl M (kX7_moveTo (xl cx) (xG cx) m w1 w2 w3 w4 w5 w6 ns ln tm sp ik e1 e2 z (lat z (td ((4 * i) + 1)) (td ((4 * i) + 2)) n) (-1005) (-1005) (lat_60 hn _ _ _)) rfl (by decide) rfl rfl rfl ⟨by decide, by decide⟩ (Nat.le_of_ble_eq_true rfl) ⟨by decide, by decide⟩ dX7_doThing_109 ?_
    refine x_goto (tgt := 147) C dX7_doThing_112 (by decide) ?_
    have e_ret : dtZ z n td i = mvZ z (lat z (td ((4 * i) + 1)) (td ((4 * i) + 2)) n) (-1005) (-1005) := by simp +decide only [dtZ, ixz, e_ch, e_42, if_true, if_false, reduceIte]
    exact x_vret C E dX7_doThing_147 ((rfl : _ = ([(m, .inr (7, [.ref w1, .ref w2, .ref w3, .int (nI ns), .ref w4, .int ik, .ref w5, .int (nI ln), .int e1, .int e2, .ref w6, .int (nI tm), .int (nI sp)])), (w1, .inl ((xG cx).2.1, 508, .inl (mvZ z (lat z (td ((4 * i) + 1)) (td ((4 * i) + 2)) n) (-1005) (-1005)))), (w6, .inl ((xG cx).2.1, 84, .inl td))] : va_W)).trans (by rw [e_ret]))
  ·
    exact (okT_no ho (e_ch.trans (show ch = 117 from Int32.toInt_inj.mp (by rw [c_42]; rfl))) (by decide) (by decide) (by decide) (by decide) (by decide)).elim
  ·
    have e_42 : ch = 118 := Int32.toInt_inj.mp (by rw [c_42]; rfl)
    refine x_aload_n C 3 dX7_doThing_115 rfl rfl ?_
    refine x_getf C 0 rfl rfl i_kX7_doThing_X7 0 (by decide) m_kX7_doThing_2 rfl rfl dX7_doThing_116 ?_
    refine x_bipush (v := 16) C dX7_doThing_119 (by decide) ?_
    refine x_iconst (v := 4) C dX7_doThing_121 (by decide) ?_
    obtain ⟨ka, h_ka, e_ka⟩ := in_nat (M := 2) (m := 2) (okT_a ho (e_ch.trans e_42) (by decide)) (by decide)
    rw [e_ka]
    refine x_iload_n C 2 dX7_doThing_122 rfl rfl ?_
    refine x_imul C (pk_mul 4 ka) dX7_doThing_123 ?_
    refine x_iadd C (nI_add 16 (4 * ka)) dX7_doThing_124 ?_
    refine x_iload_n C 1 dX7_doThing_125 rfl rfl ?_
    refine x_iast C M 1 rfl rfl (vp_in_nI (by omega) (by decide)) (nI_clamp (by omega)) [(m, .inr (7, [.ref w1, .ref w2, .ref w3, .int (nI ns), .ref w4, .int ik, .ref w5, .int (nI ln), .int e1, .int e2, .ref w6, .int (nI tm), .int (nI sp)])), (w1, .inl ((xG cx).2.1, 508, .inl (upd z (16 + (4 * ka)) (td ((4 * i) + 2))))), (w6, .inl ((xG cx).2.1, 84, .inl td))] rfl dX7_doThing_126 ?_
    refine x_goto (tgt := 147) C dX7_doThing_127 (by decide) ?_
    have e_ret : dtZ z n td i = upd z (16 + (4 * ka)) (td ((4 * i) + 2)) := by simp +decide only [dtZ, ixz, e_ch, e_42, e_ka, ix ka (by omega), if_true, if_false, reduceIte]
    exact x_vret C E dX7_doThing_147 ((rfl : _ = ([(m, .inr (7, [.ref w1, .ref w2, .ref w3, .int (nI ns), .ref w4, .int ik, .ref w5, .int (nI ln), .int e1, .int e2, .ref w6, .int (nI tm), .int (nI sp)])), (w1, .inl ((xG cx).2.1, 508, .inl (upd z (16 + (4 * ka)) (td ((4 * i) + 2))))), (w6, .inl ((xG cx).2.1, 84, .inl td))] : va_W)).trans (by rw [e_ret]))
  ·
    have d_42_0 : ¬ ch = 112 := fun q => c_42 0 (by decide) (by rw [q]; rfl)
    have d_42_1 : ¬ ch = 113 := fun q => c_42 1 (by decide) (by rw [q]; rfl)
    have d_42_2 : ¬ ch = 114 := fun q => c_42 2 (by decide) (by rw [q]; rfl)
    have d_42_3 : ¬ ch = 115 := fun q => c_42 3 (by decide) (by rw [q]; rfl)
    have d_42_4 : ¬ ch = 116 := fun q => c_42 4 (by decide) (by rw [q]; rfl)
    have d_42_5 : ¬ ch = 117 := fun q => c_42 5 (by decide) (by rw [q]; rfl)
    have d_42_6 : ¬ ch = 118 := fun q => c_42 6 (by decide) (by rw [q]; rfl)
    refine x_aload_n C 3 dX7_doThing_141 rfl rfl ?_
    refine x_iload_n C 2 dX7_doThing_142 rfl rfl ?_
    obtain ⟨kh, h_kh, e_kh⟩ := in_nat1 (M := 999) (m := 999) (okT_h ho (by rw [e_ch]; exact d_42_0) (by rw [e_ch]; exact d_42_4) (by rw [e_ch]; exact d_42_6) (by rw [e_ch]; exact d_42_3)) (by decide)
    rw [e_kh]
    refine x_callVMU C ([.int (nI kh)]) ([]) [0, 1] [(m, .inr (7, [.ref w1, .ref w2, .ref w3, .int (nI ns), .ref w4, .int ik, .ref w5, .int (nI ln), .int e1, .int e2, .ref w6, .int (nI tm), .int (nI sp)])), (w1, .inl ((xG cx).2.1, 508, .inl ((phR z n kh).1))), (w6, .inl ((xG cx).2.1, 84, .inl td))] [2] [m, w1, w6] rfl rfl [(w6, .inl ((xG cx).2.1, 84, .inl td))] rfl rfl 3 rfl (by decide +kernel) rfl (k0 := 0) (na := 1) gX7_doThing_X7_passNow rfl (by decide +kernel) rfl rfl rfl M (kX7_passNow (xl cx) (xG cx) m w1 w2 w3 w4 w5 w6 ns ln tm sp ik e1 e2 z n kh (by first | assumption | rfl | omega | decide) (by first | assumption | rfl | omega | decide)) rfl (by decide) rfl rfl rfl ⟨by decide, by decide⟩ (Nat.le_of_ble_eq_true rfl) ⟨by decide, by decide⟩ dX7_doThing_143 ?_
    refine x_pop C dX7_doThing_146 rfl ?_
    have e_ret : dtZ z n td i = (phR z n kh).1 := by simp +decide only [dtZ, ixz, e_ch, d_42_0, d_42_1, d_42_2, d_42_3, d_42_4, d_42_5, d_42_6, e_kh, ix kh (by omega), if_true, if_false, reduceIte]
    exact x_vret C E dX7_doThing_147 ((rfl : _ = ([(m, .inr (7, [.ref w1, .ref w2, .ref w3, .int (nI ns), .ref w4, .int ik, .ref w5, .int (nI ln), .int e1, .int e2, .ref w6, .int (nI tm), .int (nI sp)])), (w1, .inl ((xG cx).2.1, 508, .inl ((phR z n kh).1))), (w6, .inl ((xG cx).2.1, 84, .inl td))] : va_W)).trans (by rw [e_ret]))
