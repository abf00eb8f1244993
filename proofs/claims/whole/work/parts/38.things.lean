def rsF (tx : Nat → Int32) (ln tm : Nat) (P : PS) : Bool × PS :=
  thn (nuF tx ln tm 1 0 2 P) fun P1 => thn (tkF tx ln 58 P1) fun P2 => thn (nuF tx ln tm 2 0 99 P2) fun P3 =>
    if (tkF tx ln 43 P3).1 = true then thn (nuF tx ln tm 3 0 50 ((tkF tx ln 43 P3).2.1, (tkF tx ln 43 P3).2.2)) fun P4 => (true, (P4.1, upd P4.2 (4 * tm + 3) (P4.2 (4 * tm + 3) * 1)))
    else thn (tkF tx ln 45 ((tkF tx ln 43 P3).2.1, (tkF tx ln 43 P3).2.2)) fun P5 => thn (nuF tx ln tm 3 0 50 P5) fun P6 => (true, (P6.1, upd P6.2 (4 * tm + 3) (P6.2 (4 * tm + 3) * (-1))))
abbrev TS := Nat × (Nat → Int32) × Nat
def fin (Q : Bool × PS) (tm : Nat) : Bool × TS := (Q.1, Q.2.1, Q.2.2, tm + 1)
def rtF (tx : Nat → Int32) (ln : Nat) (P : TS) : Bool × TS :=
  if P.1 < ln then
    if tx P.1 = 112 then fin (thn (nuF tx ln P.2.2 1 0 2 (P.1 + 1, upd P.2.1 (4 * P.2.2) 112)) fun P1 => thn (nuF tx ln P.2.2 2 0 7 P1) fun P2 => thn (tkF tx ln 58 P2) fun P3 => nuF tx ln P.2.2 3 0 5 P3) P.2.2
    else if tx P.1 = 116 then fin (thn (nuF tx ln P.2.2 1 0 2 (P.1 + 1, upd P.2.1 (4 * P.2.2) 116)) fun P1 => nuF tx ln P.2.2 2 0 7 P1) P.2.2
    else if tx P.1 = 118 then fin (thn (nuF tx ln P.2.2 1 0 2 (P.1 + 1, upd P.2.1 (4 * P.2.2) 118)) fun P1 => thn (tkF tx ln 58 P1) fun P2 => nuF tx ln P.2.2 2 0 300 P2) P.2.2
    else if tx P.1 = 115 then fin (rsF tx ln P.2.2 (P.1 + 1, upd P.2.1 (4 * P.2.2) 115)) P.2.2
    else if tx P.1 = 46 then fin (nuF tx ln P.2.2 1 1 999 (P.1 + 1, upd P.2.1 (4 * P.2.2) 46)) P.2.2
    else (false, P)
  else (false, P)

theorem i_kX7_readSteps_X7 : ∀ w ∈ u_ws RX7 TX7 13, w ∈ wsX7_readSteps := by decide +kernel
theorem m_kX7_readSteps_1 : (Cond.fieldLink RX7 25 "LampRacksModel" "told" "[I" : Cond) ∈ wsX7_readSteps := by decide +kernel
theorem m_kX7_readSteps_2 : (Cond.fieldLink RX7 126 "LampRacksModel" "toldMany" "I" : Cond) ∈ wsX7_readSteps := by decide +kernel
set_option maxRecDepth 100000 in
set_option maxHeartbeats 4000000 in
theorem kX7_readSteps (l : Launch) (G : GG) (m : Nat) (w1 : Nat) (w2 : Nat) (w3 : Nat) (w4 : Nat) (w5 : Nat) (w6 : Nat) (ns : Nat) (ln : Nat) (tm : Nat) (sp : Nat) (ik : Int32) (e1 : Int32) (e2 : Int32) (tx : Nat → Int32) (td : Nat → Int32) (hl : ln ≤ 60) (hsp : sp ≤ ln) (htm : tm < 21) : MU l G yX7_readSteps wsX7_readSteps ({ frames := 3, cells := 0, slots := 0, locals := 70 } : Room) [.ref m] [(m, .inr (7, [.ref w1, .ref w2, .ref w3, .int (nI ns), .ref w4, .int ik, .ref w5, .int (nI ln), .int e1, .int e2, .ref w6, .int (nI tm), .int (nI sp)])), (w5, .inl (G.2.1, 60, .inl tx)), (w6, .inl (G.2.1, 84, .inl td))] (some (.int (b2i ((rsF tx ln tm (sp, td)).1 = true)))) [(m, .inr (7, [.ref w1, .ref w2, .ref w3, .int (nI ns), .ref w4, .int ik, .ref w5, .int (nI ln), .int e1, .int e2, .ref w6, .int (nI tm), .int (nI ((rsF tx ln tm (sp, td)).2.1))])), (w5, .inl (G.2.1, 60, .inl tx)), (w6, .inl (G.2.1, 84, .inl ((rsF tx ln tm (sp, td)).2.2)))] := by
  refine MU.of (cc := cX7_readSteps) (maxL := 3) (ret := (some .boolean)) (by decide) rfl (Nat.le_of_ble_eq_true rfl) ?_
  intro cx hxl hxG C M E
  subst hxl
  subst hxG
  show X cx (0, 0) [(m, .inr (7, [.ref w1, .ref w2, .ref w3, .int (nI ns), .ref w4, .int ik, .ref w5, .int (nI ln), .int e1, .int e2, .ref w6, .int (nI tm), .int (nI sp)])), (w5, .inl ((xG cx).2.1, 60, .inl tx)), (w6, .inl ((xG cx).2.1, 84, .inl td))] [(0, .ref m)] 0 []
  refine x_aload_n C 0 dX7_readSteps_0 rfl rfl ?_
  refine x_iconst (v := 1) C dX7_readSteps_1 (by decide) ?_
  refine x_iconst (v := 0) C dX7_readSteps_2 (by decide) ?_
  refine x_iconst (v := 2) C dX7_readSteps_3 (by decide) ?_
  refine x_callVMU C ([.int 1, .int 0, .int 2]) ([]) [0, 1, 2] [(m, .inr (7, [.ref w1, .ref w2, .ref w3, .int (nI ns), .ref w4, .int ik, .ref w5, .int (nI ln), .int e1, .int e2, .ref w6, .int (nI tm), .int (nI ((nuF tx ln tm 1 0 2 (sp, td)).2.1))])), (w5, .inl ((xG cx).2.1, 60, .inl tx)), (w6, .inl ((xG cx).2.1, 84, .inl ((nuF tx ln tm 1 0 2 (sp, td)).2.2)))] [] [m, w5, w6] rfl rfl [] rfl rfl 3 rfl (by decide +kernel) rfl (k0 := 0) (na := 3) gX7_readSteps_X7_number rfl (by decide +kernel) rfl rfl rfl M (kX7_number (xl cx) (xG cx) m w1 w2 w3 w4 w5 w6 ns ln tm sp ik e1 e2 tx td 1 0 2 (by first | assumption | rfl | omega | decide) (by first | assumption | rfl | omega | decide) (by first | assumption | rfl | omega | decide) (by first | assumption | rfl | omega | decide)) rfl (by decide) rfl rfl rfl ⟨by decide, by decide⟩ (Nat.le_of_ble_eq_true rfl) ⟨by decide, by decide⟩ dX7_readSteps_4 ?_
  generalize e_A : nuF tx ln tm 1 0 2 (sp, td) = A
  have l_A : A.2.1 ≤ ln := by rw [← e_A]; exact nuF_le (by assumption)
  refine x_ifb_eq (P := A.1 = true) C 34 dX7_readSteps_7 (by decide) (fun c_7 => ?_) (fun c_7 => ?_)
  ·
    refine x_iconst (v := 0) C dX7_readSteps_34 (by decide) ?_
    refine x_istore_n C [(1, .int 0), (0, .ref m)] dX7_readSteps_35 rfl (by decide) rfl ?_
    refine x_iload_n C 0 dX7_readSteps_36 rfl rfl ?_
    refine x_if_eq C 53 dX7_readSteps_37 (by decide) (fun _ => ?_) (fun h => absurd h (by decide))
    refine x_iconst (v := 0) C dX7_readSteps_53 (by decide) ?_
    refine x_istore_n C [(2, .int 0), (1, .int 0), (0, .ref m)] dX7_readSteps_54 rfl (by decide) rfl ?_
    refine x_iload_n C 1 dX7_readSteps_55 rfl rfl ?_
    refine x_if_eq C 83 dX7_readSteps_56 (by decide) (fun _ => ?_) (fun h => absurd h (by decide))
    refine x_iconst (v := 0) C dX7_readSteps_83 (by decide) ?_
    have e_ret : rsF tx ln tm (sp, td) = (false, (A.2.1, A.2.2)) := by simp only [rsF, fin, thn, c_7, e_A, if_true, if_false, reduceIte, Bool.false_eq_true, reduceCtorEq]
    exact x_zret C E dX7_readSteps_84 (by rw [e_ret]; exact (b2i_f Bool.false_ne_true).symm) ((rfl : _ = ([(m, .inr (7, [.ref w1, .ref w2, .ref w3, .int (nI ns), .ref w4, .int ik, .ref w5, .int (nI ln), .int e1, .int e2, .ref w6, .int (nI tm), .int (nI ((A.2.1, A.2.2).1))])), (w5, .inl ((xG cx).2.1, 60, .inl tx)), (w6, .inl ((xG cx).2.1, 84, .inl ((A.2.1, A.2.2).2)))] : va_W)).trans (by rw [e_ret]))
  ·
    refine x_aload_n C 0 dX7_readSteps_10 rfl rfl ?_
    refine x_bipush (v := 58) C dX7_readSteps_11 (by decide) ?_
    refine x_callVMU C ([.int 58]) ([]) [0, 1, 2] [(m, .inr (7, [.ref w1, .ref w2, .ref w3, .int (nI ns), .ref w4, .int ik, .ref w5, .int (nI ln), .int e1, .int e2, .ref w6, .int (nI tm), .int (nI ((tkF tx ln 58 (A.2.1, A.2.2)).2.1))])), (w5, .inl ((xG cx).2.1, 60, .inl tx)), (w6, .inl ((xG cx).2.1, 84, .inl ((tkF tx ln 58 (A.2.1, A.2.2)).2.2)))] [] [m, w5, w6] rfl rfl [] rfl rfl 3 rfl (by decide +kernel) rfl (k0 := 0) (na := 1) gX7_readSteps_X7_takes rfl (by decide +kernel) rfl rfl rfl M (kX7_takes (xl cx) (xG cx) m w1 w2 w3 w4 w5 w6 ns ln tm A.2.1 ik e1 e2 tx A.2.2 58 (by first | assumption | rfl | omega | decide) (by first | assumption | rfl | omega | decide)) rfl (by decide) rfl rfl rfl ⟨by decide, by decide⟩ (Nat.le_of_ble_eq_true rfl) ⟨by decide, by decide⟩ dX7_readSteps_13 ?_
    generalize e_B : tkF tx ln 58 (A.2.1, A.2.2) = B
    have l_B : B.2.1 ≤ ln := by rw [← e_B]; exact tkF_le (by assumption)
    refine x_ifb_eq (P := B.1 = true) C 34 dX7_readSteps_16 (by decide) (fun c_16 => ?_) (fun c_16 => ?_)
    ·
      refine x_iconst (v := 0) C dX7_readSteps_34 (by decide) ?_
      refine x_istore_n C [(1, .int 0), (0, .ref m)] dX7_readSteps_35 rfl (by decide) rfl ?_
      refine x_iload_n C 0 dX7_readSteps_36 rfl rfl ?_
      refine x_if_eq C 53 dX7_readSteps_37 (by decide) (fun _ => ?_) (fun h => absurd h (by decide))
      refine x_iconst (v := 0) C dX7_readSteps_53 (by decide) ?_
      refine x_istore_n C [(2, .int 0), (1, .int 0), (0, .ref m)] dX7_readSteps_54 rfl (by decide) rfl ?_
      refine x_iload_n C 1 dX7_readSteps_55 rfl rfl ?_
      refine x_if_eq C 83 dX7_readSteps_56 (by decide) (fun _ => ?_) (fun h => absurd h (by decide))
      refine x_iconst (v := 0) C dX7_readSteps_83 (by decide) ?_
      have e_ret : rsF tx ln tm (sp, td) = (false, (B.2.1, B.2.2)) := by simp only [rsF, fin, thn, c_7, c_16, e_A, e_B, if_true, if_false, reduceIte, Bool.false_eq_true, reduceCtorEq]
      exact x_zret C E dX7_readSteps_84 (by rw [e_ret]; exact (b2i_f Bool.false_ne_true).symm) ((rfl : _ = ([(m, .inr (7, [.ref w1, .ref w2, .ref w3, .int (nI ns), .ref w4, .int ik, .ref w5, .int (nI ln), .int e1, .int e2, .ref w6, .int (nI tm), .int (nI ((B.2.1, B.2.2).1))])), (w5, .inl ((xG cx).2.1, 60, .inl tx)), (w6, .inl ((xG cx).2.1, 84, .inl ((B.2.1, B.2.2).2)))] : va_W)).trans (by rw [e_ret]))
    ·
      refine x_aload_n C 0 dX7_readSteps_19 rfl rfl ?_
      refine x_iconst (v := 2) C dX7_readSteps_20 (by decide) ?_
      refine x_iconst (v := 0) C dX7_readSteps_21 (by decide) ?_
      refine x_bipush (v := 99) C dX7_readSteps_22 (by decide) ?_
      refine x_callVMU C ([.int 2, .int 0, .int 99]) ([]) [0, 1, 2] [(m, .inr (7, [.ref w1, .ref w2, .ref w3, .int (nI ns), .ref w4, .int ik, .ref w5, .int (nI ln), .int e1, .int e2, .ref w6, .int (nI tm), .int (nI ((nuF tx ln tm 2 0 99 (B.2.1, B.2.2)).2.1))])), (w5, .inl ((xG cx).2.1, 60, .inl tx)), (w6, .inl ((xG cx).2.1, 84, .inl ((nuF tx ln tm 2 0 99 (B.2.1, B.2.2)).2.2)))] [] [m, w5, w6] rfl rfl [] rfl rfl 3 rfl (by decide +kernel) rfl (k0 := 0) (na := 3) gX7_readSteps_X7_number rfl (by decide +kernel) rfl rfl rfl M (kX7_number (xl cx) (xG cx) m w1 w2 w3 w4 w5 w6 ns ln tm B.2.1 ik e1 e2 tx B.2.2 2 0 99 (by first | assumption | rfl | omega | decide) (by first | assumption | rfl | omega | decide) (by first | assumption | rfl | omega | decide) (by first | assumption | rfl | omega | decide)) rfl (by decide) rfl rfl rfl ⟨by decide, by decide⟩ (Nat.le_of_ble_eq_true rfl) ⟨by decide, by decide⟩ dX7_readSteps_24 ?_
      generalize e_D : nuF tx ln tm 2 0 99 (B.2.1, B.2.2) = D
      have l_D : D.2.1 ≤ ln := by rw [← e_D]; exact nuF_le (by assumption)
      refine x_ifb_eq (P := D.1 = true) C 34 dX7_readSteps_27 (by decide) (fun c_27 => ?_) (fun c_27 => ?_)
      ·
        refine x_iconst (v := 0) C dX7_readSteps_34 (by decide) ?_
        refine x_istore_n C [(1, .int 0), (0, .ref m)] dX7_readSteps_35 rfl (by decide) rfl ?_
        refine x_iload_n C 0 dX7_readSteps_36 rfl rfl ?_
        refine x_if_eq C 53 dX7_readSteps_37 (by decide) (fun _ => ?_) (fun h => absurd h (by decide))
        refine x_iconst (v := 0) C dX7_readSteps_53 (by decide) ?_
        refine x_istore_n C [(2, .int 0), (1, .int 0), (0, .ref m)] dX7_readSteps_54 rfl (by decide) rfl ?_
        refine x_iload_n C 1 dX7_readSteps_55 rfl rfl ?_
        refine x_if_eq C 83 dX7_readSteps_56 (by decide) (fun _ => ?_) (fun h => absurd h (by decide))
        refine x_iconst (v := 0) C dX7_readSteps_83 (by decide) ?_
        have e_ret : rsF tx ln tm (sp, td) = (false, (D.2.1, D.2.2)) := by simp only [rsF, fin, thn, c_7, c_16, c_27, e_A, e_B, e_D, if_true, if_false, reduceIte, Bool.false_eq_true, reduceCtorEq]
        exact x_zret C E dX7_readSteps_84 (by rw [e_ret]; exact (b2i_f Bool.false_ne_true).symm) ((rfl : _ = ([(m, .inr (7, [.ref w1, .ref w2, .ref w3, .int (nI ns), .ref w4, .int ik, .ref w5, .int (nI ln), .int e1, .int e2, .ref w6, .int (nI tm), .int (nI ((D.2.1, D.2.2).1))])), (w5, .inl ((xG cx).2.1, 60, .inl tx)), (w6, .inl ((xG cx).2.1, 84, .inl ((D.2.1, D.2.2).2)))] : va_W)).trans (by rw [e_ret]))
      ·
        refine x_iconst (v := 1) C dX7_readSteps_30 (by decide) ?_
        refine x_goto (tgt := 35) C dX7_readSteps_31 (by decide) ?_
        refine x_istore_n C [(1, .int 1), (0, .ref m)] dX7_readSteps_35 rfl (by decide) rfl ?_
        refine x_iload_n C 0 dX7_readSteps_36 rfl rfl ?_
        refine x_if_eq C 53 dX7_readSteps_37 (by decide) (fun h => absurd h (by decide)) (fun _ => ?_)
        refine x_aload_n C 1 dX7_readSteps_40 rfl rfl ?_
        refine x_bipush (v := 43) C dX7_readSteps_41 (by decide) ?_
        refine x_callVMU C ([.int 43]) ([]) [0, 1, 2] [(m, .inr (7, [.ref w1, .ref w2, .ref w3, .int (nI ns), .ref w4, .int ik, .ref w5, .int (nI ln), .int e1, .int e2, .ref w6, .int (nI tm), .int (nI ((tkF tx ln 43 (D.2.1, D.2.2)).2.1))])), (w5, .inl ((xG cx).2.1, 60, .inl tx)), (w6, .inl ((xG cx).2.1, 84, .inl ((tkF tx ln 43 (D.2.1, D.2.2)).2.2)))] [] [m, w5, w6] rfl rfl [] rfl rfl 3 rfl (by decide +kernel) rfl (k0 := 0) (na := 1) gX7_readSteps_X7_takes rfl (by decide +kernel) rfl rfl rfl M (kX7_takes (xl cx) (xG cx) m w1 w2 w3 w4 w5 w6 ns ln tm D.2.1 ik e1 e2 tx D.2.2 43 (by first | assumption | rfl | omega | decide) (by first | assumption | rfl | omega | decide)) rfl (by decide) rfl rfl rfl ⟨by decide, by decide⟩ (Nat.le_of_ble_eq_true rfl) ⟨by decide, by decide⟩ dX7_readSteps_43 ?_
        generalize e_F : tkF tx ln 43 (D.2.1, D.2.2) = F
        have l_F : F.2.1 ≤ ln := by rw [← e_F]; exact tkF_le (by assumption)
        refine x_ifb_eq (P := F.1 = true) C 53 dX7_readSteps_46 (by decide) (fun c_46 => ?_) (fun c_46 => ?_)
        ·
          refine x_iconst (v := 0) C dX7_readSteps_53 (by decide) ?_
          refine x_istore_n C [(2, .int 0), (1, .int 1), (0, .ref m)] dX7_readSteps_54 rfl (by decide) rfl ?_
          refine x_iload_n C 1 dX7_readSteps_55 rfl rfl ?_
          refine x_if_eq C 83 dX7_readSteps_56 (by decide) (fun h => absurd h (by decide)) (fun _ => ?_)
          refine x_iload_n C 0 dX7_readSteps_59 rfl rfl ?_
          refine x_if_ne C 72 dX7_readSteps_60 (by decide) (fun h => absurd h (by decide)) (fun _ => ?_)
          refine x_aload_n C 2 dX7_readSteps_63 rfl rfl ?_
          refine x_bipush (v := 45) C dX7_readSteps_64 (by decide) ?_
          refine x_callVMU C ([.int 45]) ([]) [0, 1, 2] [(m, .inr (7, [.ref w1, .ref w2, .ref w3, .int (nI ns), .ref w4, .int ik, .ref w5, .int (nI ln), .int e1, .int e2, .ref w6, .int (nI tm), .int (nI ((tkF tx ln 45 (F.2.1, F.2.2)).2.1))])), (w5, .inl ((xG cx).2.1, 60, .inl tx)), (w6, .inl ((xG cx).2.1, 84, .inl ((tkF tx ln 45 (F.2.1, F.2.2)).2.2)))] [] [m, w5, w6] rfl rfl [] rfl rfl 3 rfl (by decide +kernel) rfl (k0 := 0) (na := 1) gX7_readSteps_X7_takes rfl (by decide +kernel) rfl rfl rfl M (kX7_takes (xl cx) (xG cx) m w1 w2 w3 w4 w5 w6 ns ln tm F.2.1 ik e1 e2 tx F.2.2 45 (by first | assumption | rfl | omega | decide) (by first | assumption | rfl | omega | decide)) rfl (by decide) rfl rfl rfl ⟨by decide, by decide⟩ (Nat.le_of_ble_eq_true rfl) ⟨by decide, by decide⟩ dX7_readSteps_66 ?_
          generalize e_H : tkF tx ln 45 (F.2.1, F.2.2) = H
          have l_H : H.2.1 ≤ ln := by rw [← e_H]; exact tkF_le (by assumption)
          refine x_ifb_eq (P := H.1 = true) C 83 dX7_readSteps_69 (by decide) (fun c_69 => ?_) (fun c_69 => ?_)
          ·
            refine x_iconst (v := 0) C dX7_readSteps_83 (by decide) ?_
            have e_ret : rsF tx ln tm (sp, td) = (false, (H.2.1, H.2.2)) := by simp only [rsF, fin, thn, c_7, c_16, c_27, c_46, c_69, e_A, e_B, e_D, e_F, e_H, if_true, if_false, reduceIte, Bool.false_eq_true, reduceCtorEq]
            exact x_zret C E dX7_readSteps_84 (by rw [e_ret]; exact (b2i_f Bool.false_ne_true).symm) ((rfl : _ = ([(m, .inr (7, [.ref w1, .ref w2, .ref w3, .int (nI ns), .ref w4, .int ik, .ref w5, .int (nI ln), .int e1, .int e2, .ref w6, .int (nI tm), .int (nI ((H.2.1, H.2.2).1))])), (w5, .inl ((xG cx).2.1, 60, .inl tx)), (w6, .inl ((xG cx).2.1, 84, .inl ((H.2.1, H.2.2).2)))] : va_W)).trans (by rw [e_ret]))
          ·
            refine x_aload_n C 2 dX7_readSteps_72 rfl rfl ?_
            refine x_iconst (v := 3) C dX7_readSteps_73 (by decide) ?_
            refine x_iconst (v := 0) C dX7_readSteps_74 (by decide) ?_
            refine x_bipush (v := 50) C dX7_readSteps_75 (by decide) ?_
            refine x_callVMU C ([.int 3, .int 0, .int 50]) ([]) [0, 1, 2] [(m, .inr (7, [.ref w1, .ref w2, .ref w3, .int (nI ns), .ref w4, .int ik, .ref w5, .int (nI ln), .int e1, .int e2, .ref w6, .int (nI tm), .int (nI ((nuF tx ln tm 3 0 50 (H.2.1, H.2.2)).2.1))])), (w5, .inl ((xG cx).2.1, 60, .inl tx)), (w6, .inl ((xG cx).2.1, 84, .inl ((nuF tx ln tm 3 0 50 (H.2.1, H.2.2)).2.2)))] [] [m, w5, w6] rfl rfl [] rfl rfl 3 rfl (by decide +kernel) rfl (k0 := 0) (na := 3) gX7_readSteps_X7_number rfl (by decide +kernel) rfl rfl rfl M (kX7_number (xl cx) (xG cx) m w1 w2 w3 w4 w5 w6 ns ln tm H.2.1 ik e1 e2 tx H.2.2 3 0 50 (by first | assumption | rfl | omega | decide) (by first | assumption | rfl | omega | decide) (by first | assumption | rfl | omega | decide) (by first | assumption | rfl | omega | decide)) rfl (by decide) rfl rfl rfl ⟨by decide, by decide⟩ (Nat.le_of_ble_eq_true rfl) ⟨by decide, by decide⟩ dX7_readSteps_77 ?_
            generalize e_J : nuF tx ln tm 3 0 50 (H.2.1, H.2.2) = J
            have l_J : J.2.1 ≤ ln := by rw [← e_J]; exact nuF_le (by assumption)
            refine x_ifb_ne (P := J.1 = true) C 85 dX7_readSteps_80 (by decide) (fun c_80 => ?_) (fun c_80 => ?_)
            ·
              refine x_aload_n C 2 dX7_readSteps_85 rfl rfl ?_
              refine x_getf C 0 rfl rfl i_kX7_readSteps_X7 10 (by decide) m_kX7_readSteps_1 rfl rfl dX7_readSteps_86 ?_
              refine x_iconst (v := 4) C dX7_readSteps_89 (by decide) ?_
              refine x_aload_n C 2 dX7_readSteps_90 rfl rfl ?_
              refine x_getf C 0 rfl rfl i_kX7_readSteps_X7 11 (by decide) m_kX7_readSteps_2 rfl rfl dX7_readSteps_91 ?_
              refine x_imul C (pk_mul 4 tm) dX7_readSteps_94 ?_
              refine x_iconst (v := 3) C dX7_readSteps_95 (by decide) ?_
              refine x_iadd C (nI_add (4 * tm) 3) dX7_readSteps_96 ?_
              refine x_dup2 C dX7_readSteps_97 rfl rfl ?_
              refine x_iald C 2 rfl rfl (vp_in_nI (by omega) (by decide)) (congrArg J.2.2 (nI_clamp (by omega))) dX7_readSteps_98 ?_
              refine x_iload_n C 0 dX7_readSteps_99 rfl rfl ?_
              refine x_if_eq C 107 dX7_readSteps_100 (by decide) (fun _ => ?_) (fun h => absurd h (by decide))
              refine x_iconst (v := (-1)) C dX7_readSteps_107 (by decide) ?_
              refine x_imul C (rfl) dX7_readSteps_108 ?_
              refine x_iast C M 2 rfl rfl (vp_in_nI (by omega) (by decide)) (nI_clamp (by omega)) [(m, .inr (7, [.ref w1, .ref w2, .ref w3, .int (nI ns), .ref w4, .int ik, .ref w5, .int (nI ln), .int e1, .int e2, .ref w6, .int (nI tm), .int (nI (J.2.1))])), (w5, .inl ((xG cx).2.1, 60, .inl tx)), (w6, .inl ((xG cx).2.1, 84, .inl (upd J.2.2 ((4 * tm) + 3) ((J.2.2 ((4 * tm) + 3)) * (-1)))))] rfl dX7_readSteps_109 ?_
              refine x_iconst (v := 1) C dX7_readSteps_110 (by decide) ?_
              have e_ret : rsF tx ln tm (sp, td) = (true, (J.2.1, upd J.2.2 ((4 * tm) + 3) ((J.2.2 ((4 * tm) + 3)) * (-1)))) := by simp only [rsF, fin, thn, c_7, c_16, c_27, c_46, c_69, c_80, e_A, e_B, e_D, e_F, e_H, e_J, if_true, if_false, reduceIte, Bool.false_eq_true, reduceCtorEq]
              exact x_zret C E dX7_readSteps_111 (by rw [e_ret]; exact (b2i_t rfl).symm) ((rfl : _ = ([(m, .inr (7, [.ref w1, .ref w2, .ref w3, .int (nI ns), .ref w4, .int ik, .ref w5, .int (nI ln), .int e1, .int e2, .ref w6, .int (nI tm), .int (nI ((J.2.1, upd J.2.2 ((4 * tm) + 3) ((J.2.2 ((4 * tm) + 3)) * (-1))).1))])), (w5, .inl ((xG cx).2.1, 60, .inl tx)), (w6, .inl ((xG cx).2.1, 84, .inl ((J.2.1, upd J.2.2 ((4 * tm) + 3) ((J.2.2 ((4 * tm) + 3)) * (-1))).2)))] : va_W)).trans (by rw [e_ret]))
            ·
              refine x_iconst (v := 0) C dX7_readSteps_83 (by decide) ?_
              have e_ret : rsF tx ln tm (sp, td) = (false, (J.2.1, J.2.2)) := by simp only [rsF, fin, thn, c_7, c_16, c_27, c_46, c_69, c_80, e_A, e_B, e_D, e_F, e_H, e_J, if_true, if_false, reduceIte, Bool.false_eq_true, reduceCtorEq]
              exact x_zret C E dX7_readSteps_84 (by rw [e_ret]; exact (b2i_f Bool.false_ne_true).symm) ((rfl : _ = ([(m, .inr (7, [.ref w1, .ref w2, .ref w3, .int (nI ns), .ref w4, .int ik, .ref w5, .int (nI ln), .int e1, .int e2, .ref w6, .int (nI tm), .int (nI ((J.2.1, J.2.2).1))])), (w5, .inl ((xG cx).2.1, 60, .inl tx)), (w6, .inl ((xG cx).2.1, 84, .inl ((J.2.1, J.2.2).2)))] : va_W)).trans (by rw [e_ret]))
        ·
          refine x_iconst (v := 1) C dX7_readSteps_49 (by decide) ?_
          refine x_goto (tgt := 54) C dX7_readSteps_50 (by decide) ?_
          refine x_istore_n C [(2, .int 1), (1, .int 1), (0, .ref m)] dX7_readSteps_54 rfl (by decide) rfl ?_
          refine x_iload_n C 1 dX7_readSteps_55 rfl rfl ?_
          refine x_if_eq C 83 dX7_readSteps_56 (by decide) (fun h => absurd h (by decide)) (fun _ => ?_)
          refine x_iload_n C 0 dX7_readSteps_59 rfl rfl ?_
          refine x_if_ne C 72 dX7_readSteps_60 (by decide) (fun _ => ?_) (fun h => absurd h (by decide))
          refine x_aload_n C 2 dX7_readSteps_72 rfl rfl ?_
          refine x_iconst (v := 3) C dX7_readSteps_73 (by decide) ?_
          refine x_iconst (v := 0) C dX7_readSteps_74 (by decide) ?_
          refine x_bipush (v := 50) C dX7_readSteps_75 (by decide) ?_
          refine x_callVMU C ([.int 3, .int 0, .int 50]) ([]) [0, 1, 2] [(m, .inr (7, [.ref w1, .ref w2, .ref w3, .int (nI ns), .ref w4, .int ik, .ref w5, .int (nI ln), .int e1, .int e2, .ref w6, .int (nI tm), .int (nI ((nuF tx ln tm 3 0 50 (F.2.1, F.2.2)).2.1))])), (w5, .inl ((xG cx).2.1, 60, .inl tx)), (w6, .inl ((xG cx).2.1, 84, .inl ((nuF tx ln tm 3 0 50 (F.2.1, F.2.2)).2.2)))] [] [m, w5, w6] rfl rfl [] rfl rfl 3 rfl (by decide +kernel) rfl (k0 := 0) (na := 3) gX7_readSteps_X7_number rfl (by decide +kernel) rfl rfl rfl M (kX7_number (xl cx) (xG cx) m w1 w2 w3 w4 w5 w6 ns ln tm F.2.1 ik e1 e2 tx F.2.2 3 0 50 (by first | assumption | rfl | omega | decide) (by first | assumption | rfl | omega | decide) (by first | assumption | rfl | omega | decide) (by first | assumption | rfl | omega | decide)) rfl (by decide) rfl rfl rfl ⟨by decide, by decide⟩ (Nat.le_of_ble_eq_true rfl) ⟨by decide, by decide⟩ dX7_readSteps_77 ?_
          generalize e_J : nuF tx ln tm 3 0 50 (F.2.1, F.2.2) = J
          have l_J : J.2.1 ≤ ln := by rw [← e_J]; exact nuF_le (by assumption)
          refine x_ifb_ne (P := J.1 = true) C 85 dX7_readSteps_80 (by decide) (fun c_80 => ?_) (fun c_80 => ?_)
          ·
            refine x_aload_n C 2 dX7_readSteps_85 rfl rfl ?_
            refine x_getf C 0 rfl rfl i_kX7_readSteps_X7 10 (by decide) m_kX7_readSteps_1 rfl rfl dX7_readSteps_86 ?_
            refine x_iconst (v := 4) C dX7_readSteps_89 (by decide) ?_
            refine x_aload_n C 2 dX7_readSteps_90 rfl rfl ?_
            refine x_getf C 0 rfl rfl i_kX7_readSteps_X7 11 (by decide) m_kX7_readSteps_2 rfl rfl dX7_readSteps_91 ?_
            refine x_imul C (pk_mul 4 tm) dX7_readSteps_94 ?_
            refine x_iconst (v := 3) C dX7_readSteps_95 (by decide) ?_
            refine x_iadd C (nI_add (4 * tm) 3) dX7_readSteps_96 ?_
            refine x_dup2 C dX7_readSteps_97 rfl rfl ?_
            refine x_iald C 2 rfl rfl (vp_in_nI (by omega) (by decide)) (congrArg J.2.2 (nI_clamp (by omega))) dX7_readSteps_98 ?_
            refine x_iload_n C 0 dX7_readSteps_99 rfl rfl ?_
            refine x_if_eq C 107 dX7_readSteps_100 (by decide) (fun h => absurd h (by decide)) (fun _ => ?_)
            refine x_iconst (v := 1) C dX7_readSteps_103 (by decide) ?_
            refine x_goto (tgt := 108) C dX7_readSteps_104 (by decide) ?_
            refine x_imul C (rfl) dX7_readSteps_108 ?_
            refine x_iast C M 2 rfl rfl (vp_in_nI (by omega) (by decide)) (nI_clamp (by omega)) [(m, .inr (7, [.ref w1, .ref w2, .ref w3, .int (nI ns), .ref w4, .int ik, .ref w5, .int (nI ln), .int e1, .int e2, .ref w6, .int (nI tm), .int (nI (J.2.1))])), (w5, .inl ((xG cx).2.1, 60, .inl tx)), (w6, .inl ((xG cx).2.1, 84, .inl (upd J.2.2 ((4 * tm) + 3) ((J.2.2 ((4 * tm) + 3)) * 1))))] rfl dX7_readSteps_109 ?_
            refine x_iconst (v := 1) C dX7_readSteps_110 (by decide) ?_
            have e_ret : rsF tx ln tm (sp, td) = (true, (J.2.1, upd J.2.2 ((4 * tm) + 3) ((J.2.2 ((4 * tm) + 3)) * 1))) := by simp only [rsF, fin, thn, c_7, c_16, c_27, c_46, c_80, e_A, e_B, e_D, e_F, e_J, if_true, if_false, reduceIte, Bool.false_eq_true, reduceCtorEq]
            exact x_zret C E dX7_readSteps_111 (by rw [e_ret]; exact (b2i_t rfl).symm) ((rfl : _ = ([(m, .inr (7, [.ref w1, .ref w2, .ref w3, .int (nI ns), .ref w4, .int ik, .ref w5, .int (nI ln), .int e1, .int e2, .ref w6, .int (nI tm), .int (nI ((J.2.1, upd J.2.2 ((4 * tm) + 3) ((J.2.2 ((4 * tm) + 3)) * 1)).1))])), (w5, .inl ((xG cx).2.1, 60, .inl tx)), (w6, .inl ((xG cx).2.1, 84, .inl ((J.2.1, upd J.2.2 ((4 * tm) + 3) ((J.2.2 ((4 * tm) + 3)) * 1)).2)))] : va_W)).trans (by rw [e_ret]))
          ·
            refine x_iconst (v := 0) C dX7_readSteps_83 (by decide) ?_
            have e_ret : rsF tx ln tm (sp, td) = (false, (J.2.1, J.2.2)) := by simp only [rsF, fin, thn, c_7, c_16, c_27, c_46, c_80, e_A, e_B, e_D, e_F, e_J, if_true, if_false, reduceIte, Bool.false_eq_true, reduceCtorEq]
            exact x_zret C E dX7_readSteps_84 (by rw [e_ret]; exact (b2i_f Bool.false_ne_true).symm) ((rfl : _ = ([(m, .inr (7, [.ref w1, .ref w2, .ref w3, .int (nI ns), .ref w4, .int ik, .ref w5, .int (nI ln), .int e1, .int e2, .ref w6, .int (nI tm), .int (nI ((J.2.1, J.2.2).1))])), (w5, .inl ((xG cx).2.1, 60, .inl tx)), (w6, .inl ((xG cx).2.1, 84, .inl ((J.2.1, J.2.2).2)))] : va_W)).trans (by rw [e_ret]))
