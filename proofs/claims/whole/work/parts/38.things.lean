def rsF (tx : Nat → Int32) (ln tm : Nat) (P : PS) : Bool × PS :=
  thn (nuF tx ln tm 1 0 2 P) fun P1 => thn (tkF tx ln 58 P1) fun P2 => thn (nuF tx ln tm 2 0 99 P2) fun P3 =>
    if (tkF tx ln 43 P3).1 = true then thn (nuF tx ln tm 3 0 50 ((tkF tx ln 43 P3).2.1, (tkF tx ln 43 P3).2.2)) fun P4 => (true, (P4.1, upd P4.2 (4 * tm + 3) (P4.2 (4 * tm + 3) * 1)))
    else thn (tkF tx ln 45 ((tkF tx ln 43 P3).2.1, (tkF tx ln 43 P3).2.2)) fun P5 => thn (nuF tx ln tm 3 0 50 P5) fun P6 => (true, (P6.1, upd P6.2 (4 * tm + 3) (P6.2 (4 * tm + 3) * (-1))))
abbrev TS := Nat × (Nat → Int32) × Nat
def fin (Q : Bool × PS) (tm : Nat) : Bool × TS := (Q.1, Q.2.1, Q.2.2, tm + 1)
def rtF (tx : Nat → Int32) (ln : Nat) (P : TS) : Bool × TS :=
  if P.1 < ln then
    if tx P.1 = 112 then fin (thn (nuF tx ln P.2.2 1 0 2 (P.1 + 1, upd P.2.1 (4 * P.2.2) 112)) fun P1 => thn (nuF tx ln P.2.2 2 0 7 P1) fun P2 => thn (tkF tx ln 58 P2) fun P3 => nuF tx ln P.2.2 3 0 5 P3) P.2.2
    else if tx P.1 = 116 then fin (thn (nuF tx ln P.2.2 1 0 2 (P.1 + 1, upd P.2.1 (4 * P.2.2) 116)) fun P1 => nuF tx ln P.2.2 2 0 7 P1) P.2.2
    else if tx P.1 = 118 then fin (thn (nuF tx ln P.2.2 1 0 2 (P.1 + 1, upd P.2.1 (4 * P.2.2) 118)) fun P1 => thn (tkF tx ln 58 P1) fun P2 => nuF tx ln P.2.2 2 0 300 P2) P.2.2
    else if tx P.1 = 115 then fin (rsF tx ln P.2.2 (P.1 + 1, upd P.2.1 (4 * P.2.2) 115)) P.2.2
    else if tx P.1 = 46 then fin (nuF tx ln P.2.2 1 1 999 (P.1 + 1, upd P.2.1 (4 * P.2.2) 46)) P.2.2
    else (false, P)
  else (false, P)

theorem i_kX7_readSteps_X7 : ∀ w ∈ u_ws RX7 TX7 13, w ∈ wsX7_readSteps := by decide +kernel
theorem m_kX7_readSteps_1 : (Cond.fieldLink RX7 25 "LampRacksModel" "told" "[I" : Cond) ∈ wsX7_readSteps := by decide +kernel
theorem m_kX7_readSteps_2 : (Cond.fieldLink RX7 126 "LampRacksModel" "toldMany" "I" : Cond) ∈ wsX7_readSteps := by decide +kernel
set_option maxRecDepth 100000 in
set_option maxHeartbeats 4000000 in
theorem kX7_readSteps (l : Launch) (G : GG) (m : Nat) (w1 : Nat) (w2 : Nat) (w3 : Nat) (w4 : Nat) (w5 : Nat) (w6 : Nat) (ns : Nat) (ln : Nat) (tm : Nat) (sp : Nat) (ik : Int32) (e1 : Int32) (e2 : Int32) (tx : Nat → Int32) (td : Nat → Int32) (hl : ln ≤ 60) (hsp : sp ≤ ln) (htm : tm < 21) : MU l G yX7_readSteps wsX7_readSteps ({ frames := 3, cells := 0, slots := 0, locals := 70 } : Room) [.ref m] [(m, .inr (7, [.ref w1, .ref w2, .ref w3, .int (nI ns), .ref w4, .int ik, .ref w5, .int (nI ln), .int e1, .int e2, .ref w6, .int (nI tm), .int (nI sp)])), (w5, .inl (G.2.1, 60, .inl tx)), (w6, .inl (G.2.1, 84, .inl td))] (some (.int (b2i ((rsF tx ln tm (sp, td)).1 = true)))) [(m, .inr (7, [.ref w1, .ref w2, .ref w3, .int (nI ns), .ref w4, .int ik, .ref w5, .int (nI ln), .int e1, .int e2, .ref w6, .int (nI tm), .int (nI ((rsF tx ln tm (sp, td)).2.1))])), (w5, .inl (G.2.1, 60, .inl tx)), (w6, .inl (G.2.1, 84, .inl ((rsF tx ln tm (sp, td)).2.2)))] := by
  refine MU.of (cc := cX7_readSteps) (maxL := 3) (ret := (some .boolean)) (by decide) rfl (Nat.le_of_ble_eq_true rfl) ?_
  intro cx hxl hxG C M E
  subst hxl
  subst hxG
  show X cx (0, 0) [(m, .inr (7, [.ref w1, .ref w2, .ref w3, .int (nI ns), .ref w4, .int ik, .ref w5, .int (nI ln), .int e1, .int e2, .ref w6, .int (nI tm), .int (nI sp)])), (w5, .inl ((xG cx).2.1, 60, .inl tx)), (w6, .inl ((xG cx).2.1, 84, .inl td))] [(0, .ref m)] 0 []
  refine x_aload_n C 0 dX7_readSteps_0 rfl rfl ?_
  refine x_iconst (v := 1) C dX7_readSteps_1 (by decide) ?_
  refine x_iconst (v := 0) C dX7_readSteps_2 (by decide) ?_
  refine x_iconst (v := 2) C dX7_readSteps_3 (by decide) ?_
  refine x_callVMU C ([.int 1, .int 0, .int 2]) ([]) [0, 1, 2] [(m, .inr (7, [.ref w1, .ref w2, .ref w3, .int (nI ns), .ref w4, .int ik, .ref w5, .int (nI ln), .int e1, .int e2, .ref w6, .int (nI tm), .int (nI ((nuF tx ln tm 1 0 2 (sp, td)).2.1))])), (w5, .inl ((xG cx).2.1, 60, .inl tx)), (w6, .inl ((xG cx).2.1, 84, .inl ((nuF tx ln tm 1 0 2 (sp, td)).2.2)))] [] [m, w5, w6] rfl rfl [] rfl rfl 3 rfl (by decide +kernel) rfl (k0 := 0) (na := 3) gX7_readSteps_X7_number rfl (by decide +kernel) rfl rfl rfl M (kX7_number (xl cx) (xG cx) m w1 w2 w3 w4 w5 w6 ns ln tm sp ik e1 e2 tx td 1 0 2 (by first | assumption | rfl | omega | decide) (by first | assumption | rfl | omega | decide) (by first | assumption | rfl | omega | decide) (by first | assumption | rfl | omega | decide)) rfl (by decide) rfl rfl rfl ⟨by decide, by decide⟩ (Nat.le_of_ble_eq_true rfl) ⟨by decide, by decide⟩ dX7_readSteps_4 ?_
  generalize e_A : nuF tx ln tm 1 0 2 (sp, td) = A
  have l_A : A.2.1 ≤ ln := by rw [← e_A]; exact nuF_le (by assumption)
  refine x_ifb_eq (P := A.1 = true) C 34 dX7_readSteps_7 (by decide) (fun c_7 => ?_) (fun c_7 => ?_)
  ·
    refine x_iconst (v := 0) C dX7_readSteps_34 (by decide) ?_
    refine x_istore_n C [(1, .int 0), (0, .ref m)] dX7_readSteps_35 rfl (by decide) rfl ?_
    refine x_iload_n C 0 dX7_readSteps_36 rfl rfl ?_
    refine x_if_eq C 53 dX7_readSteps_37 (by decide) (fun _ => ?_) (fun h => absurd h (by decide))
    refine x_iconst (v := 0) C dX7_readSteps_53 (by decide) ?_
    refine x_istore_n C [(2, .int 0), (1, .int 0), (0, .ref m)] dX7_readSteps_54 rfl (by decide) rfl ?_
    refine x_iload_n C 1 dX7_readSteps_55 rfl rfl ?_
    refine x_if_eq C 83 dX7_readSteps_56 (by decide) (fun _ => ?_) (fun h => absurd h (by decide))
    refine x_iconst (v := 0) C dX7_readSteps_83 (by decide) ?_
    have e_ret : rsF tx ln tm (sp, td) = (false, (A.2.1, A.2.2)) := by simp only [rsF, fin, thn, c_7, e_A, if_true, if_false, reduceIte, Bool.false_eq_true, reduceCtorEq]
    exact x_zret C E dX7_readSteps_84 (by rw [e_ret]; exact (b2i_f Bool.false_ne_true).symm) ((rfl : _ = ([(m, .inr (7, [.ref w1, .ref w2, .ref w3, .int (nI ns), .ref w4, .int ik, .ref w5, .int (nI ln), .int e1, .int e2, .ref w6, .int (nI tm), .int (nI ((A.2.1, A.2.2).1))])), (w5, .inl ((xG cx).2.1, 60, .inl tx)), (w6, .inl ((xG cx).2.1, 84, .inl ((A.2.1, A.2.2).2)))] : va_W)).trans (by rw [e_ret]))
  ·
    refine x_aload_n C 0 dX7_readSteps_10 rfl rfl ?_
    refine x_bipush (v := 58) C dX7_readSteps_11 (by decide) ?_
    refine x_callVMU C ([.int 58]) ([]) [0, 1, 2] [(m, .inr (7, [.ref w1, .ref w2, .ref w3, .int (nI ns), .ref w4, .int ik, .ref w5, .int (nI ln), .int e1, .int e2, .ref w6, .int (nI tm), .int (nI ((tkF tx ln 58 (A.2.1, A.2.2)).2.1))])), (w5, .inl ((xG cx).2.1, 60, .inl tx)), (w6, .inl ((xG cx).2.1, 84, .inl ((tkF tx ln 58 (A.2.1, A.2.2)).2.2)))] [] [m, w5, w6] rfl rfl [] rfl rfl 3 rfl (by decide +kernel) rfl (k0 := 0) (na := 1) gX7_readSteps_X7_takes rfl (by decide +kernel) rfl rfl rfl M (kX7_takes (xl cx) (xG cx) m w1 w2 w3 w4 w5 w6 ns ln tm A.2.1 ik e1 e2 tx A.2.2 58 (by first | assumption | rfl | omega | decide) (by first | assumption | rfl | omega | decide)) rfl (by decide) rfl rfl rfl ⟨by decide, by decide⟩ (Nat.le_of_ble_eq_true rfl) ⟨by decide, by decide⟩ dX7_readSteps_13 ?_
    generalize e_B : tkF tx ln 58 (A.2.1, A.2.2) = B
    have l_B : B.2.1 ≤ ln := by rw [← e_B]; exact tkF_le (by assumption)
    refine x_ifb_eq (P := B.1 = true) C 34 dX7_readSteps_16 (by decide) (fun c_16 => ?_) (fun c_16 => ?_)
    ·
      refine x_iconst (v := 0) C dX7_readSteps_34 (by decide) ?_
      refine x_istore_n C [(1, .int 0), (0, .ref m)] dX7_readSteps_35 rfl (by decide) rfl ?_
      refine x_iload_n C 0 dX7_readSteps_36 rfl rfl ?_
      refine x_if_eq C 53 dX7_readSteps_37 (by decide) (fun _ => ?_) (fun h => absurd h (by decide))
      refine x_iconst (v := 0) C dX7_readSteps_53 (by decide) ?_
      refine x_istore_n C [(2, .int 0), (1, .int 0), (0, .ref m)] dX7_readSteps_54 rfl (by decide) rfl ?_
      refine x_iload_n C 1 dX7_readSteps_55 rfl rfl ?_
      refine x_if_eq C 83 dX7_readSteps_56 (by decide) (fun _ => ?_) (fun h => absurd h (by decide))
      refine x_iconst (v := 0) C dX7_readSteps_83 (by decide) ?_
      have e_ret : rsF tx ln tm (sp, td) = (false, (B.2.1, B.2.2)) := by simp only [rsF, fin, thn, c_7, c_16, e_A, e_B, if_true, if_false, reduceIte, Bool.false_eq_true, reduceCtorEq]
      exact x_zret C E dX7_readSteps_84 (by rw [e_ret]; exact (b2i_f Bool.false_ne_true).symm) ((rfl : _ = ([(m, .inr (7, [.ref w1, .ref w2, .ref w3, .int (nI ns), .ref w4, .int ik, .ref w5, .int (nI ln), .int e1, .int e2, .ref w6, .int (nI tm), .int (nI ((B.2.1, B.2.2).1))])), (w5, .inl ((xG cx).2.1, 60, .inl tx)), (w6, .inl ((xG cx).2.1, 84, .inl ((B.2.1, B.2.2).2)))] : va_W)).trans (by rw [e_ret]))
    ·
      refine x_aload_n C 0 dX7_readSteps_19 rfl rfl ?_
      refine x_iconst (v := 2) C dX7_readSteps_20 (by decide) ?_
      refine x_iconst (v := 0) C dX7_readSteps_21 (by decide) ?_
      refine x_bipush (v := 99) C dX7_readSteps_22 (by decide) ?_
      refine x_callVMU C ([.int 2, .int 0, .int 99]) ([]) [0, 1, 2] [(m, .inr (7, [.ref w1, .ref w2, .ref w3, .int (nI ns), .ref w4, .int ik, .ref w5, .int (nI ln), .int e1, .int e2, .ref w6, .int (nI tm), .int (nI ((nuF tx ln tm 2 0 99 (B.2.1, B.2.2)).2.1))])), (w5, .inl ((xG cx).2.1, 60, .inl tx)), (w6, .inl ((xG cx).2.1, 84, .inl ((nuF tx ln tm 2 0 99 (B.2.1, B.2.2)).2.2)))] [] [m, w5, w6] rfl rfl [] rfl rfl 3 rfl (by decide +kernel) rfl (k0 := 0) (na := 3) gX7_readSteps_X7_number rfl (by decide +kernel) rfl rfl rfl M (kX7_number (xl cx) (xG cx) m w1 w2 w3 w4 w5 w6 ns ln tm B.2.1 ik e1 e2 tx B.2.2 2 0 99 (by first | assumption | rfl | omega | decide) (by first | assumption | rfl | omega | decide) (by first | assumption | rfl | omega | decide) (by first | assumption | rfl | omega | decide)) rfl (by decide) rfl rfl rfl ⟨by decide, by decide⟩ (Nat.le_of_ble_eq_true rfl) ⟨by decide, by decide⟩ dX7_readSteps_24 ?_
      generalize e_D : nuF tx ln tm 2 0 99 (B.2.1, B.2.2) = D
      have l_D : D.2.1 ≤ ln := by rw [← e_D]; exact nuF_le (by assumption)
      refine x_ifb_eq (P := D.1 = true) C 34 dX7_readSteps_27 (by decide) (fun c_27 => ?_) (fun c_27 => ?_)
      ·
        refine x_iconst (v := 0) C dX7_readSteps_34 (by decide) ?_
        refine x_istore_n C [(1, .int 0), (0, .ref m)] dX7_readSteps_35 rfl (by decide) rfl ?_
        refine x_iload_n C 0 dX7_readSteps_36 rfl rfl ?_
        refine x_if_eq C 53 dX7_readSteps_37 (by decide) (fun _ => ?_) (fun h => absurd h (by decide))
        refine x_iconst (v := 0) C dX7_readSteps_53 (by decide) ?_
        refine x_istore_n C [(2, .int 0), (1, .int 0), (0, .ref m)] dX7_readSteps_54 rfl (by decide) rfl ?_
        refine x_iload_n C 1 dX7_readSteps_55 rfl rfl ?_
        refine x_if_eq C 83 dX7_readSteps_56 (by decide) (fun _ => ?_) (fun h => absurd h (by decide))
        refine x_iconst (v := 0) C dX7_readSteps_83 (by decide) ?_
        have e_ret : rsF tx ln tm (sp, td) = (false, (D.2.1, D.2.2)) := by simp only [rsF, fin, thn, c_7, c_16, c_27, e_A, e_B, e_D, if_true, if_false, reduceIte, Bool.false_eq_true, reduceCtorEq]
        exact x_zret C E dX7_readSteps_84 (by rw [e_ret]; exact (b2i_f Bool.false_ne_true).symm) ((rfl : _ = ([(m, .inr (7, [.ref w1, .ref w2, .ref w3, .int (nI ns), .ref w4, .int ik, .ref w5, .int (nI ln), .int e1, .int e2, .ref w6, .int (nI tm), .int (nI ((D.2.1, D.2.2).1))])), (w5, .inl ((xG cx).2.1, 60, .inl tx)), (w6, .inl ((xG cx).2.1, 84, .inl ((D.2.1, D.2.2).2)))] : va_W)).trans (by rw [e_ret]))
      ·
        refine x_iconst (v := 1) C dX7_readSteps_30 (by decide) ?_
        refine x_goto (tgt := 35) C dX7_readSteps_31 (by decide) ?_
        refine x_istore_n C [(1, .int 1), (0, .ref m)] dX7_readSteps_35 rfl (by decide) rfl ?_
        refine x_iload_n C 0 dX7_readSteps_36 rfl rfl ?_
        refine x_if_eq C 53 dX7_readSteps_37 (by decide) (fun h => absurd h (by decide)) (fun _ => ?_)
        refine x_aload_n C 1 dX7_readSteps_40 rfl rfl ?_
        refine x_bipush (v := 43) C dX7_readSteps_41 (by decide) ?_
        refine x_callVMU C ([.int 43]) ([]) [0, 1, 2] [(m, .inr (7, [.ref w1, .ref w2, .ref w3, .int (nI ns), .ref w4, .int ik, .ref w5, .int (nI ln), .int e1, .int e2, .ref w6, .int (nI tm), .int (nI ((tkF tx ln 43 (D.2.1, D.2.2)).2.1))])), (w5, .inl ((xG cx).2.1, 60, .inl tx)), (w6, .inl ((xG cx).2.1, 84, .inl ((tkF tx ln 43 (D.2.1, D.2.2)).2.2)))] [] [m, w5, w6] rfl rfl [] rfl rfl 3 rfl (by decide +kernel) rfl (k0 := 0) (na := 1) gX7_readSteps_X7_takes rfl (by decide +kernel) rfl rfl rfl M (kX7_takes (xl cx) (xG cx) m w1 w2 w3 w4 w5 w6 ns ln tm D.2.1 ik e1 e2 tx D.2.2 43 (by first | assumption | rfl | omega | decide) (by first | assumption | rfl | omega | decide)) rfl (by decide) rfl rfl rfl ⟨by decide, by decide⟩ (Nat.le_of_ble_eq_true rfl) ⟨by decide, by decide⟩ dX7_readSteps_43 ?_
        generalize e_F : tkF tx ln 43 (D.2.1, D.2.2) = F
        have l_F : F.2.1 ≤ ln := by rw [← e_F]; exact tkF_le (by assumption)
        refine x_ifb_eq (P := F.1 = true) C 53 dX7_readSteps_46 (by decide) (fun c_46 => ?_) (fun c_46 => ?_)
        ·
          refine x_iconst (v := 0) C dX7_readSteps_53 (by decide) ?_
          refine x_istore_n C [(2, .int 0), (1, .int 1), (0, .ref m)] dX7_readSteps_54 rfl (by decide) rfl ?_
          refine x_iload_n C 1 dX7_readSteps_55 rfl rfl ?_
          refine x_if_eq C 83 dX7_readSteps_56 (by decide) (fun h => absurd h (by decide)) (fun _ => ?_)
          refine x_iload_n C 0 dX7_readSteps_59 rfl rfl ?_
          refine x_if_ne C 72 dX7_readSteps_60 (by decide) (fun h => absurd h (by decide)) (fun _ => ?_)
          refine x_aload_n C 2 dX7_readSteps_63 rfl rfl ?_
          refine x_bipush (v := 45) C dX7_readSteps_64 (by decide) ?_
          refine x_callVMU C ([.int 45]) ([]) [0, 1, 2] [(m, .inr (7, [.ref w1, .ref w2, .ref w3, .int (nI ns), .ref w4, .int ik, .ref w5, .int (nI ln), .int e1, .int e2, .ref w6, .int (nI tm), .int (nI ((tkF tx ln 45 (F.2.1, F.2.2)).2.1))])), (w5, .inl ((xG cx).2.1, 60, .inl tx)), (w6, .inl ((xG cx).2.1, 84, .inl ((tkF tx ln 45 (F.2.1, F.2.2)).2.2)))] [] [m, w5, w6] rfl rfl [] rfl rfl 3 rfl (by decide +kernel) rfl (k0 := 0) (na := 1) gX7_readSteps_X7_takes rfl (by decide +kernel) rfl rfl rfl M (kX7_takes (xl cx) (xG cx) m w1 w2 w3 w4 w5 w6 ns ln tm F.2.1 ik e1 e2 tx F.2.2 45 (by first | assumption | rfl | omega | decide) (by first | assumption | rfl | omega | decide)) rfl (by decide) rfl rfl rfl ⟨by decide, by decide⟩ (Nat.le_of_ble_eq_true rfl) ⟨by decide, by decide⟩ dX7_readSteps_66 ?_
          generalize e_H : tkF tx ln 45 (F.2.1, F.2.2) = H
          have l_H : H.2.1 ≤ ln := by rw [← e_H]; exact tkF_le (by assumption)
          refine x_ifb_eq (P := H.1 = true) C 83 dX7_readSteps_69 (by decide) (fun c_69 => ?_) (fun c_69 => ?_)
          ·
            refine x_iconst (v := 0) C dX7_readSteps_83 (by decide) ?_
            have e_ret : rsF tx ln tm (sp, td) = (false, (H.2.1, H.2.2)) := by simp only [rsF, fin, thn, c_7, c_16, c_27, c_46, c_69, e_A, e_B, e_D, e_F, e_H, if_true, if_false, reduceIte, Bool.false_eq_true, reduceCtorEq]
            exact x_zret C E dX7_readSteps_84 (by rw [e_ret]; exact (b2i_f Bool.false_ne_true).symm) ((rfl : _ = ([(m, .inr (7, [.ref w1, .ref w2, .ref w3, .int (nI ns), .ref w4, .int ik, .ref w5, .int (nI ln), .int e1, .int e2, .ref w6, .int (nI tm), .int (nI ((H.2.1, H.2.2).1))])), (w5, .inl ((xG cx).2.1, 60, .inl tx)), (w6, .inl ((xG cx).2.1, 84, .inl ((H.2.1, H.2.2).2)))] : va_W)).trans (by rw [e_ret]))
          ·
            refine x_aload_n C 2 dX7_readSteps_72 rfl rfl ?_
            refine x_iconst (v := 3) C dX7_readSteps_73 (by decide) ?_
            refine x_iconst (v := 0) C dX7_readSteps_74 (by decide) ?_
            refine x_bipush (v := 50) C dX7_readSteps_75 (by decide) ?_
            refine x_callVMU C ([.int 3, .int 0, .int 50]) ([]) [0, 1, 2] [(m, .inr (7, [.ref w1, .ref w2, .ref w3, .int (nI ns), .ref w4, .int ik, .ref w5, .int (nI ln), .int e1, .int e2, .ref w6, .int (nI tm), .int (nI ((nuF tx ln tm 3 0 50 (H.2.1, H.2.2)).2.1))])), (w5, .inl ((xG cx).2.1, 60, .inl tx)), (w6, .inl ((xG cx).2.1, 84, .inl ((nuF tx ln tm 3 0 50 (H.2.1, H.2.2)).2.2)))] [] [m, w5, w6] rfl rfl [] rfl rfl 3 rfl (by decide +kernel) rfl (k0 := 0) (na := 3) gX7_readSteps_X7_number rfl (by decide +kernel) rfl rfl rfl M (kX7_number (xl cx) (xG cx) m w1 w2 w3 w4 w5 w6 ns ln tm H.2.1 ik e1 e2 tx H.2.2 3 0 50 (by first | assumption | rfl | omega | decide) (by first | assumption | rfl | omega | decide) (by first | assumption | rfl | omega | decide) (by first | assumption | rfl | omega | decide)) rfl (by decide) rfl rfl rfl ⟨by decide, by decide⟩ (Nat.le_of_ble_eq_true rfl) ⟨by decide, by decide⟩ dX7_readSteps_77 ?_
            generalize e_J : nuF tx ln tm 3 0 50 (H.2.1, H.2.2) = J
            have l_J : J.2.1 ≤ ln := by rw [← e_J]; exact nuF_le (by assumption)
            refine x_ifb_ne (P := J.1 = true) C 85 dX7_readSteps_80 (by decide) (fun c_80 => ?_) (fun c_80 => ?_)
            ·
              refine x_aload_n C 2 dX7_readSteps_85 rfl rfl ?_
              refine x_getf C 0 rfl rfl i_kX7_readSteps_X7 10 (by decide) m_kX7_readSteps_1 rfl rfl dX7_readSteps_86 ?_
              refine x_iconst (v := 4) C dX7_readSteps_89 (by decide) ?_
              refine x_aload_n C 2 dX7_readSteps_90 rfl rfl ?_
              refine x_getf C 0 rfl rfl i_kX7_readSteps_X7 11 (by decide) m_kX7_readSteps_2 rfl rfl dX7_readSteps_91 ?_
              refine x_imul C (pk_mul 4 tm) dX7_readSteps_94 ?_
              refine x_iconst (v := 3) C dX7_readSteps_95 (by decide) ?_
              refine x_iadd C (nI_add (4 * tm) 3) dX7_readSteps_96 ?_
              refine x_dup2 C dX7_readSteps_97 rfl rfl ?_
              refine x_iald C 2 rfl rfl (vp_in_nI (by omega) (by decide)) (congrArg J.2.2 (nI_clamp (by omega))) dX7_readSteps_98 ?_
              refine x_iload_n C 0 dX7_readSteps_99 rfl rfl ?_
              refine x_if_eq C 107 dX7_readSteps_100 (by decide) (fun _ => ?_) (fun h => absurd h (by decide))
              refine x_iconst (v := (-1)) C dX7_readSteps_107 (by decide) ?_
              refine x_imul C (rfl) dX7_readSteps_108 ?_
              refine x_iast C M 2 rfl rfl (vp_in_nI (by omega) (by decide)) (nI_clamp (by omega)) [(m, .inr (7, [.ref w1, .ref w2, .ref w3, .int (nI ns), .ref w4, .int ik, .ref w5, .int (nI ln), .int e1, .int e2, .ref w6, .int (nI tm), .int (nI (J.2.1))])), (w5, .inl ((xG cx).2.1, 60, .inl tx)), (w6, .inl ((xG cx).2.1, 84, .inl (upd J.2.2 ((4 * tm) + 3) ((J.2.2 ((4 * tm) + 3)) * (-1)))))] rfl dX7_readSteps_109 ?_
              refine x_iconst (v := 1) C dX7_readSteps_110 (by decide) ?_
              have e_ret : rsF tx ln tm (sp, td) = (true, (J.2.1, upd J.2.2 ((4 * tm) + 3) ((J.2.2 ((4 * tm) + 3)) * (-1)))) := by simp only [rsF, fin, thn, c_7, c_16, c_27, c_46, c_69, c_80, e_A, e_B, e_D, e_F, e_H, e_J, if_true, if_false, reduceIte, Bool.false_eq_true, reduceCtorEq]
              exact x_zret C E dX7_readSteps_111 (by rw [e_ret]; exact (b2i_t rfl).symm) ((rfl : _ = ([(m, .inr (7, [.ref w1, .ref w2, .ref w3, .int (nI ns), .ref w4, .int ik, .ref w5, .int (nI ln), .int e1, .int e2, .ref w6, .int (nI tm), .int (nI ((J.2.1, upd J.2.2 ((4 * tm) + 3) ((J.2.2 ((4 * tm) + 3)) * (-1))).1))])), (w5, .inl ((xG cx).2.1, 60, .inl tx)), (w6, .inl ((xG cx).2.1, 84, .inl ((J.2.1, upd J.2.2 ((4 * tm) + 3) ((J.2.2 ((4 * tm) + 3)) * (-1))).2)))] : va_W)).trans (by rw [e_ret]))
            ·
              refine x_iconst (v := 0) C dX7_readSteps_83 (by decide) ?_
              have e_ret : rsF tx ln tm (sp, td) = (false, (J.2.1, J.2.2)) := by simp only [rsF, fin, thn, c_7, c_16, c_27, c_46, c_69, c_80, e_A, e_B, e_D, e_F, e_H, e_J, if_true, if_false, reduceIte, Bool.false_eq_true, reduceCtorEq]
              exact x_zret C E dX7_readSteps_84 (by rw [e_ret]; exact (b2i_f Bool.false_ne_true).symm) ((rfl : _ = ([(m, .inr (7, [.ref w1, .ref w2, .ref w3, .int (nI ns), .ref w4, .int ik, .ref w5, .int (nI ln), .int e1, .int e2, .ref w6, .int (nI tm), .int (nI ((J.2.1, J.2.2).1))])), (w5, .inl ((xG cx).2.1, 60, .inl tx)), (w6, .inl ((xG cx).2.1, 84, .inl ((J.2.1, J.2.2).2)))] : va_W)).trans (by rw [e_ret]))
        ·
          refine x_iconst (v := 1) C dX7_readSteps_49 (by decide) ?_
          refine x_goto (tgt := 54) C dX7_readSteps_50 (by decide) ?_
          refine x_istore_n C [(2, .int 1), (1, .int 1), (0, .ref m)] dX7_readSteps_54 rfl (by decide) rfl ?_
          refine x_iload_n C 1 dX7_readSteps_55 rfl rfl ?_
          refine x_if_eq C 83 dX7_readSteps_56 (by decide) (fun h => absurd h (by decide)) (fun _ => ?_)
          refine x_iload_n C 0 dX7_readSteps_59 rfl rfl ?_
          refine x_if_ne C 72 dX7_readSteps_60 (by decide) (fun _ => ?_) (fun h => absurd h (by decide))
          refine x_aload_n C 2 dX7_readSteps_72 rfl rfl ?_
          refine x_iconst (v := 3) C dX7_readSteps_73 (by decide) ?_
          refine x_iconst (v := 0) C dX7_readSteps_74 (by decide) ?_
          refine x_bipush (v := 50) C dX7_readSteps_75 (by decide) ?_
          refine x_callVMU C ([.int 3, .int 0, .int 50]) ([]) [0, 1, 2] [(m, .inr (7, [.ref w1, .ref w2, .ref w3, .int (nI ns), .ref w4, .int ik, .ref w5, .int (nI ln), .int e1, .int e2, .ref w6, .int (nI tm), .int (nI ((nuF tx ln tm 3 0 50 (F.2.1, F.2.2)).2.1))])), (w5, .inl ((xG cx).2.1, 60, .inl tx)), (w6, .inl ((xG cx).2.1, 84, .inl ((nuF tx ln tm 3 0 50 (F.2.1, F.2.2)).2.2)))] [] [m, w5, w6] rfl rfl [] rfl rfl 3 rfl (by decide +kernel) rfl (k0 := 0) (na := 3) gX7_readSteps_X7_number rfl (by decide +kernel) rfl rfl rfl M (kX7_number (xl cx) (xG cx) m w1 w2 w3 w4 w5 w6 ns ln tm F.2.1 ik e1 e2 tx F.2.2 3 0 50 (by first | assumption | rfl | omega | decide) (by first | assumption | rfl | omega | decide) (by first | assumption | rfl | omega | decide) (by first | assumption | rfl | omega | decide)) rfl (by decide) rfl rfl rfl ⟨by decide, by decide⟩ (Nat.le_of_ble_eq_true rfl) ⟨by decide, by decide⟩ dX7_readSteps_77 ?_
          generalize e_J : nuF tx ln tm 3 0 50 (F.2.1, F.2.2) = J
          have l_J : J.2.1 ≤ ln := by rw [← e_J]; exact nuF_le (by assumption)
          refine x_ifb_ne (P := J.1 = true) C 85 dX7_readSteps_80 (by decide) (fun c_80 => ?_) (fun c_80 => ?_)
          ·
            refine x_aload_n C 2 dX7_readSteps_85 rfl rfl ?_
            refine x_getf C 0 rfl rfl i_kX7_readSteps_X7 10 (by decide) m_kX7_readSteps_1 rfl rfl dX7_readSteps_86 ?_
            refine x_iconst (v := 4) C dX7_readSteps_89 (by decide) ?_
            refine x_aload_n C 2 dX7_readSteps_90 rfl rfl ?_
            refine x_getf C 0 rfl rfl i_kX7_readSteps_X7 11 (by decide) m_kX7_readSteps_2 rfl rfl dX7_readSteps_91 ?_
            refine x_imul C (pk_mul 4 tm) dX7_readSteps_94 ?_
            refine x_iconst (v := 3) C dX7_readSteps_95 (by decide) ?_
            refine x_iadd C (nI_add (4 * tm) 3) dX7_readSteps_96 ?_
            refine x_dup2 C dX7_readSteps_97 rfl rfl ?_
            refine x_iald C 2 rfl rfl (vp_in_nI (by omega) (by decide)) (congrArg J.2.2 (nI_clamp (by omega))) dX7_readSteps_98 ?_
            refine x_iload_n C 0 dX7_readSteps_99 rfl rfl ?_
            refine x_if_eq C 107 dX7_readSteps_100 (by decide) (fun h => absurd h (by decide)) (fun _ => ?_)
            refine x_iconst (v := 1) C dX7_readSteps_103 (by decide) ?_
            refine x_goto (tgt := 108) C dX7_readSteps_104 (by decide) ?_
            refine x_imul C (rfl) dX7_readSteps_108 ?_
            refine x_iast C M 2 rfl rfl (vp_in_nI (by omega) (by decide)) (nI_clamp (by omega)) [(m, .inr (7, [.ref w1, .ref w2, .ref w3, .int (nI ns), .ref w4, .int ik, .ref w5, .int (nI ln), .int e1, .int e2, .ref w6, .int (nI tm), .int (nI (J.2.1))])), (w5, .inl ((xG cx).2.1, 60, .inl tx)), (w6, .inl ((xG cx).2.1, 84, .inl (upd J.2.2 ((4 * tm) + 3) ((J.2.2 ((4 * tm) + 3)) * 1))))] rfl dX7_readSteps_109 ?_
            refine x_iconst (v := 1) C dX7_readSteps_110 (by decide) ?_
            have e_ret : rsF tx ln tm (sp, td) = (true, (J.2.1, upd J.2.2 ((4 * tm) + 3) ((J.2.2 ((4 * tm) + 3)) * 1))) := by simp only [rsF, fin, thn, c_7, c_16, c_27, c_46, c_80, e_A, e_B, e_D, e_F, e_J, if_true, if_false, reduceIte, Bool.false_eq_true, reduceCtorEq]
            exact x_zret C E dX7_readSteps_111 (by rw [e_ret]; exact (b2i_t rfl).symm) ((rfl : _ = ([(m, .inr (7, [.ref w1, .ref w2, .ref w3, .int (nI ns), .ref w4, .int ik, .ref w5, .int (nI ln), .int e1, .int e2, .ref w6, .int (nI tm), .int (nI ((J.2.1, upd J.2.2 ((4 * tm) + 3) ((J.2.2 ((4 * tm) + 3)) * 1)).1))])), (w5, .inl ((xG cx).2.1, 60, .inl tx)), (w6, .inl ((xG cx).2.1, 84, .inl ((J.2.1, upd J.2.2 ((4 * tm) + 3) ((J.2.2 ((4 * tm) + 3)) * 1)).2)))] : va_W)).trans (by rw [e_ret]))
          ·
            refine x_iconst (v := 0) C dX7_readSteps_83 (by decide) ?_
            have e_ret : rsF tx ln tm (sp, td) = (false, (J.2.1, J.2.2)) := by simp only [rsF, fin, thn, c_7, c_16, c_27, c_46, c_80, e_A, e_B, e_D, e_F, e_J, if_true, if_false, reduceIte, Bool.false_eq_true, reduceCtorEq]
            exact x_zret C E dX7_readSteps_84 (by rw [e_ret]; exact (b2i_f Bool.false_ne_true).symm) ((rfl : _ = ([(m, .inr (7, [.ref w1, .ref w2, .ref w3, .int (nI ns), .ref w4, .int ik, .ref w5, .int (nI ln), .int e1, .int e2, .ref w6, .int (nI tm), .int (nI ((J.2.1, J.2.2).1))])), (w5, .inl ((xG cx).2.1, 60, .inl tx)), (w6, .inl ((xG cx).2.1, 84, .inl ((J.2.1, J.2.2).2)))] : va_W)).trans (by rw [e_ret]))

theorem i_kX7_readThing_X7 : ∀ w ∈ u_ws RX7 TX7 13, w ∈ wsX7_readThing := by decide +kernel
theorem m_kX7_readThing_1 : (Cond.fieldLink RX7 119 "LampRacksModel" "spot" "I" : Cond) ∈ wsX7_readThing := by decide +kernel
theorem m_kX7_readThing_2 : (Cond.fieldLink RX7 116 "LampRacksModel" "length" "I" : Cond) ∈ wsX7_readThing := by decide +kernel
theorem m_kX7_readThing_3 : (Cond.fieldLink RX7 22 "LampRacksModel" "text" "[I" : Cond) ∈ wsX7_readThing := by decide +kernel
theorem m_kX7_readThing_4 : (Cond.fieldLink RX7 25 "LampRacksModel" "told" "[I" : Cond) ∈ wsX7_readThing := by decide +kernel
theorem m_kX7_readThing_5 : (Cond.fieldLink RX7 126 "LampRacksModel" "toldMany" "I" : Cond) ∈ wsX7_readThing := by decide +kernel
set_option maxRecDepth 100000 in
set_option maxHeartbeats 4000000 in
theorem kX7_readThing (l : Launch) (G : GG) (m : Nat) (w1 : Nat) (w2 : Nat) (w3 : Nat) (w4 : Nat) (w5 : Nat) (w6 : Nat) (ns : Nat) (ln : Nat) (tm : Nat) (sp : Nat) (ik : Int32) (e1 : Int32) (e2 : Int32) (tx : Nat → Int32) (td : Nat → Int32) (hl : ln ≤ 60) (hsp : sp ≤ ln) (htm : tm < 21) : MU l G yX7_readThing wsX7_readThing ({ frames := 4, cells := 0, slots := 0, locals := 92 } : Room) [.ref m] [(m, .inr (7, [.ref w1, .ref w2, .ref w3, .int (nI ns), .ref w4, .int ik, .ref w5, .int (nI ln), .int e1, .int e2, .ref w6, .int (nI tm), .int (nI sp)])), (w5, .inl (G.2.1, 60, .inl tx)), (w6, .inl (G.2.1, 84, .inl td))] (some (.int (b2i ((rtF tx ln (sp, td, tm)).1 = true)))) [(m, .inr (7, [.ref w1, .ref w2, .ref w3, .int (nI ns), .ref w4, .int ik, .ref w5, .int (nI ln), .int e1, .int e2, .ref w6, .int (nI ((rtF tx ln (sp, td, tm)).2.2.2)), .int (nI ((rtF tx ln (sp, td, tm)).2.1))])), (w5, .inl (G.2.1, 60, .inl tx)), (w6, .inl (G.2.1, 84, .inl ((rtF tx ln (sp, td, tm)).2.2.1)))] := by
  refine MU.of (cc := cX7_readThing) (maxL := 3) (ret := (some .boolean)) (by decide) rfl (Nat.le_of_ble_eq_true rfl) ?_
  intro cx hxl hxG C M E
  subst hxl
  subst hxG
  show X cx (0, 0) [(m, .inr (7, [.ref w1, .ref w2, .ref w3, .int (nI ns), .ref w4, .int ik, .ref w5, .int (nI ln), .int e1, .int e2, .ref w6, .int (nI tm), .int (nI sp)])), (w5, .inl ((xG cx).2.1, 60, .inl tx)), (w6, .inl ((xG cx).2.1, 84, .inl td))] [(0, .ref m)] 0 []
  refine x_aload_n C 0 dX7_readThing_0 rfl rfl ?_
  refine x_getf C 0 rfl rfl i_kX7_readThing_X7 12 (by decide) m_kX7_readThing_1 rfl rfl dX7_readThing_1 ?_
  refine x_aload_n C 0 dX7_readThing_4 rfl rfl ?_
  refine x_getf C 0 rfl rfl i_kX7_readThing_X7 7 (by decide) m_kX7_readThing_2 rfl rfl dX7_readThing_5 ?_
  refine x_icmp_ge C 23 dX7_readThing_8 (by decide) (fun c_8 => ?_) (fun c_8 => ?_)
  ·
    have n_8 : ln ≤ sp := (nI_leI (a := ln) (b := sp) (by omega) (by omega)).mp c_8
    refine x_iconst (v := 0) C dX7_readThing_23 (by decide) ?_
    generalize e_ch : tx sp = ch
    refine x_istore_n C [(1, .int 0), (0, .ref m)] dX7_readThing_24 rfl (by decide) rfl ?_
    refine x_iload_n C 0 dX7_readThing_25 rfl rfl ?_
    refine x_bipush (v := 112) C dX7_readThing_26 (by decide) ?_
    refine x_icmp_eq C 57 dX7_readThing_28 (by decide) (fun h => absurd h (by decide)) (fun _ => ?_)
    refine x_iload_n C 0 dX7_readThing_31 rfl rfl ?_
    refine x_bipush (v := 116) C dX7_readThing_32 (by decide) ?_
    refine x_icmp_eq C 57 dX7_readThing_34 (by decide) (fun h => absurd h (by decide)) (fun _ => ?_)
    refine x_iload_n C 0 dX7_readThing_37 rfl rfl ?_
    refine x_bipush (v := 118) C dX7_readThing_38 (by decide) ?_
    refine x_icmp_eq C 57 dX7_readThing_40 (by decide) (fun h => absurd h (by decide)) (fun _ => ?_)
    refine x_iload_n C 0 dX7_readThing_43 rfl rfl ?_
    refine x_bipush (v := 115) C dX7_readThing_44 (by decide) ?_
    refine x_icmp_eq C 57 dX7_readThing_46 (by decide) (fun h => absurd h (by decide)) (fun _ => ?_)
    refine x_iload_n C 0 dX7_readThing_49 rfl rfl ?_
    refine x_bipush (v := 46) C dX7_readThing_50 (by decide) ?_
    refine x_icmp_eq C 57 dX7_readThing_52 (by decide) (fun h => absurd h (by decide)) (fun _ => ?_)
    refine x_iconst (v := 0) C dX7_readThing_55 (by decide) ?_
    have e_ret : rtF tx ln (sp, td, tm) = (false, (sp, td, tm)) := by simp +decide only [rtF, fin, thn, e_ch, Nat.not_lt.mpr n_8, if_true, if_false, reduceIte, Bool.false_eq_true, reduceCtorEq]
    exact x_zret C E dX7_readThing_56 (by rw [e_ret]; exact (b2i_f Bool.false_ne_true).symm) ((rfl : _ = ([(m, .inr (7, [.ref w1, .ref w2, .ref w3, .int (nI ns), .ref w4, .int ik, .ref w5, .int (nI ln), .int e1, .int e2, .ref w6, .int (nI ((sp, td, tm).2.2)), .int (nI ((sp, td, tm).1))])), (w5, .inl ((xG cx).2.1, 60, .inl tx)), (w6, .inl ((xG cx).2.1, 84, .inl ((sp, td, tm).2.1)))] : va_W)).trans (by rw [e_ret]))
  ·
    have n_8 : ¬ (ln ≤ sp) := fun q => c_8 ((nI_leI (a := ln) (b := sp) (by omega) (by omega)).mpr q)
    refine x_aload_n C 0 dX7_readThing_11 rfl rfl ?_
    refine x_getf C 0 rfl rfl i_kX7_readThing_X7 6 (by decide) m_kX7_readThing_3 rfl rfl dX7_readThing_12 ?_
    refine x_aload_n C 0 dX7_readThing_15 rfl rfl ?_
    refine x_getf C 0 rfl rfl i_kX7_readThing_X7 12 (by decide) m_kX7_readThing_1 rfl rfl dX7_readThing_16 ?_
    refine x_iald C 1 rfl rfl (vp_in_nI (by omega) (by decide)) (congrArg tx (nI_clamp (by omega))) dX7_readThing_19 ?_
    refine x_goto (tgt := 24) C dX7_readThing_20 (by decide) ?_
    generalize e_ch : tx sp = ch
    refine x_istore_n C [(1, .int ch), (0, .ref m)] dX7_readThing_24 rfl (by decide) rfl ?_
    refine x_iload_n C 0 dX7_readThing_25 rfl rfl ?_
    refine x_bipush (v := 112) C dX7_readThing_26 (by decide) ?_
    refine x_icmp_eq C 57 dX7_readThing_28 (by decide) (fun c_28 => ?_) (fun c_28 => ?_)
    ·
      have n8 := Nat.not_le.mp n_8
      subst c_28
      refine x_aload_n C 1 dX7_readThing_57 rfl rfl ?_
      refine x_dup C dX7_readThing_58 rfl ?_
      refine x_getf C 0 rfl rfl i_kX7_readThing_X7 12 (by decide) m_kX7_readThing_1 rfl rfl dX7_readThing_59 ?_
      refine x_iconst (v := 1) C dX7_readThing_62 (by decide) ?_
      refine x_iadd C (nI_add sp 1) dX7_readThing_63 ?_
      refine x_putf (ty := .int) C M 0 rfl rfl i_kX7_readThing_X7 12 (by decide) m_kX7_readThing_1 rfl rfl tyX7 tyX7_ok nmX7 (by decide +kernel) rfl rfl (Nat.le_of_ble_eq_true rfl) [(m, .inr (7, [.ref w1, .ref w2, .ref w3, .int (nI ns), .ref w4, .int ik, .ref w5, .int (nI ln), .int e1, .int e2, .ref w6, .int (nI tm), .int (nI (sp + 1))])), (w5, .inl ((xG cx).2.1, 60, .inl tx)), (w6, .inl ((xG cx).2.1, 84, .inl td))] rfl dX7_readThing_64 ?_
      refine x_aload_n C 1 dX7_readThing_67 rfl rfl ?_
      refine x_getf C 0 rfl rfl i_kX7_readThing_X7 10 (by decide) m_kX7_readThing_4 rfl rfl dX7_readThing_68 ?_
      refine x_iconst (v := 4) C dX7_readThing_71 (by decide) ?_
      refine x_aload_n C 1 dX7_readThing_72 rfl rfl ?_
      refine x_getf C 0 rfl rfl i_kX7_readThing_X7 11 (by decide) m_kX7_readThing_5 rfl rfl dX7_readThing_73 ?_
      refine x_imul C (pk_mul 4 tm) dX7_readThing_76 ?_
      refine x_iload_n C 0 dX7_readThing_77 rfl rfl ?_
      refine x_iast C M 2 rfl rfl (vp_in_nI (by omega) (by decide)) (nI_clamp (by omega)) [(m, .inr (7, [.ref w1, .ref w2, .ref w3, .int (nI ns), .ref w4, .int ik, .ref w5, .int (nI ln), .int e1, .int e2, .ref w6, .int (nI tm), .int (nI (sp + 1))])), (w5, .inl ((xG cx).2.1, 60, .inl tx)), (w6, .inl ((xG cx).2.1, 84, .inl (upd td (4 * tm) 112)))] rfl dX7_readThing_78 ?_
      refine x_iload_n C 0 dX7_readThing_79 rfl rfl ?_
      refine x_tswL 112 C dX7_readThing_80 [124, 251, 251, 243, 173, 251, 203] 251 (by decide) (by decide) (by decide) ⟨fun c_80 => ?_, fun c_80 => ?_, fun c_80 => ?_, fun c_80 => ?_, fun c_80 => ?_, fun c_80 => ?_, fun c_80 => ?_, trivial⟩ (fun c_80 => ?_)
      ·
        refine x_aload_n C 1 dX7_readThing_124 rfl rfl ?_
        refine x_iconst (v := 1) C dX7_readThing_125 (by decide) ?_
        refine x_iconst (v := 0) C dX7_readThing_126 (by decide) ?_
        refine x_iconst (v := 2) C dX7_readThing_127 (by decide) ?_
        refine x_callVMU C ([.int 1, .int 0, .int 2]) ([]) [0, 1, 2] [(m, .inr (7, [.ref w1, .ref w2, .ref w3, .int (nI ns), .ref w4, .int ik, .ref w5, .int (nI ln), .int e1, .int e2, .ref w6, .int (nI tm), .int (nI ((nuF tx ln tm 1 0 2 ((sp + 1), (upd td (4 * tm) 112))).2.1))])), (w5, .inl ((xG cx).2.1, 60, .inl tx)), (w6, .inl ((xG cx).2.1, 84, .inl ((nuF tx ln tm 1 0 2 ((sp + 1), (upd td (4 * tm) 112))).2.2)))] [] [m, w5, w6] rfl rfl [] rfl rfl 3 rfl (by decide +kernel) rfl (k0 := 0) (na := 3) gX7_readThing_X7_number rfl (by decide +kernel) rfl rfl rfl M (kX7_number (xl cx) (xG cx) m w1 w2 w3 w4 w5 w6 ns ln tm (sp + 1) ik e1 e2 tx (upd td (4 * tm) 112) 1 0 2 (by first | assumption | rfl | omega | decide) (by first | assumption | rfl | omega | decide) (by first | assumption | rfl | omega | decide) (by first | assumption | rfl | omega | decide)) rfl (by decide) rfl rfl rfl ⟨by decide, by decide⟩ (Nat.le_of_ble_eq_true rfl) ⟨by decide, by decide⟩ dX7_readThing_128 ?_
        generalize e_A : nuF tx ln tm 1 0 2 ((sp + 1), (upd td (4 * tm) 112)) = A
        have l_A : A.2.1 ≤ ln := by rw [← e_A]; exact nuF_le (by assumption)
        refine x_ifb_eq (P := A.1 = true) C 168 dX7_readThing_131 (by decide) (fun c_131 => ?_) (fun c_131 => ?_)
        ·
          refine x_iconst (v := 0) C dX7_readThing_168 (by decide) ?_
          refine x_istore_n C [(2, .int 0), (1, .int 112), (0, .ref m)] dX7_readThing_169 rfl (by decide) rfl ?_
          refine x_goto (tgt := 261) C dX7_readThing_170 (by decide) ?_
          refine x_aload_n C 2 dX7_readThing_261 rfl rfl ?_
          refine x_dup C dX7_readThing_262 rfl ?_
          refine x_getf C 0 rfl rfl i_kX7_readThing_X7 11 (by decide) m_kX7_readThing_5 rfl rfl dX7_readThing_263 ?_
          refine x_iconst (v := 1) C dX7_readThing_266 (by decide) ?_
          refine x_iadd C (nI_add tm 1) dX7_readThing_267 ?_
          refine x_putf (ty := .int) C M 0 rfl rfl i_kX7_readThing_X7 11 (by decide) m_kX7_readThing_5 rfl rfl tyX7 tyX7_ok nmX7 (by decide +kernel) rfl rfl (Nat.le_of_ble_eq_true rfl) [(m, .inr (7, [.ref w1, .ref w2, .ref w3, .int (nI ns), .ref w4, .int ik, .ref w5, .int (nI ln), .int e1, .int e2, .ref w6, .int (nI (tm + 1)), .int (nI (A.2.1))])), (w5, .inl ((xG cx).2.1, 60, .inl tx)), (w6, .inl ((xG cx).2.1, 84, .inl A.2.2))] rfl dX7_readThing_268 ?_
          refine x_iload_n C 0 dX7_readThing_271 rfl rfl ?_
          have e_ret : rtF tx ln (sp, td, tm) = (false, (A.2.1, A.2.2, tm + 1)) := by simp +decide only [rtF, fin, thn, e_ch, c_131, Nat.not_le.mp n_8, e_A, if_true, if_false, reduceIte, Bool.false_eq_true, reduceCtorEq]
          exact x_zret C E dX7_readThing_272 (by rw [e_ret]; exact (b2i_f Bool.false_ne_true).symm) ((rfl : _ = ([(m, .inr (7, [.ref w1, .ref w2, .ref w3, .int (nI ns), .ref w4, .int ik, .ref w5, .int (nI ln), .int e1, .int e2, .ref w6, .int (nI ((A.2.1, A.2.2, tm + 1).2.2)), .int (nI ((A.2.1, A.2.2, tm + 1).1))])), (w5, .inl ((xG cx).2.1, 60, .inl tx)), (w6, .inl ((xG cx).2.1, 84, .inl ((A.2.1, A.2.2, tm + 1).2.1)))] : va_W)).trans (by rw [e_ret]))
        ·
          refine x_aload_n C 1 dX7_readThing_134 rfl rfl ?_
          refine x_iconst (v := 2) C dX7_readThing_135 (by decide) ?_
          refine x_iconst (v := 0) C dX7_readThing_136 (by decide) ?_
          refine x_bipush (v := 7) C dX7_readThing_137 (by decide) ?_
          refine x_callVMU C ([.int 2, .int 0, .int 7]) ([]) [0, 1, 2] [(m, .inr (7, [.ref w1, .ref w2, .ref w3, .int (nI ns), .ref w4, .int ik, .ref w5, .int (nI ln), .int e1, .int e2, .ref w6, .int (nI tm), .int (nI ((nuF tx ln tm 2 0 7 (A.2.1, A.2.2)).2.1))])), (w5, .inl ((xG cx).2.1, 60, .inl tx)), (w6, .inl ((xG cx).2.1, 84, .inl ((nuF tx ln tm 2 0 7 (A.2.1, A.2.2)).2.2)))] [] [m, w5, w6] rfl rfl [] rfl rfl 3 rfl (by decide +kernel) rfl (k0 := 0) (na := 3) gX7_readThing_X7_number rfl (by decide +kernel) rfl rfl rfl M (kX7_number (xl cx) (xG cx) m w1 w2 w3 w4 w5 w6 ns ln tm A.2.1 ik e1 e2 tx A.2.2 2 0 7 (by first | assumption | rfl | omega | decide) (by first | assumption | rfl | omega | decide) (by first | assumption | rfl | omega | decide) (by first | assumption | rfl | omega | decide)) rfl (by decide) rfl rfl rfl ⟨by decide, by decide⟩ (Nat.le_of_ble_eq_true rfl) ⟨by decide, by decide⟩ dX7_readThing_139 ?_
          generalize e_B : nuF tx ln tm 2 0 7 (A.2.1, A.2.2) = B
          have l_B : B.2.1 ≤ ln := by rw [← e_B]; exact nuF_le (by assumption)
          refine x_ifb_eq (P := B.1 = true) C 168 dX7_readThing_142 (by decide) (fun c_142 => ?_) (fun c_142 => ?_)
          ·
            refine x_iconst (v := 0) C dX7_readThing_168 (by decide) ?_
            refine x_istore_n C [(2, .int 0), (1, .int 112), (0, .ref m)] dX7_readThing_169 rfl (by decide) rfl ?_
            refine x_goto (tgt := 261) C dX7_readThing_170 (by decide) ?_
            refine x_aload_n C 2 dX7_readThing_261 rfl rfl ?_
            refine x_dup C dX7_readThing_262 rfl ?_
            refine x_getf C 0 rfl rfl i_kX7_readThing_X7 11 (by decide) m_kX7_readThing_5 rfl rfl dX7_readThing_263 ?_
            refine x_iconst (v := 1) C dX7_readThing_266 (by decide) ?_
            refine x_iadd C (nI_add tm 1) dX7_readThing_267 ?_
            refine x_putf (ty := .int) C M 0 rfl rfl i_kX7_readThing_X7 11 (by decide) m_kX7_readThing_5 rfl rfl tyX7 tyX7_ok nmX7 (by decide +kernel) rfl rfl (Nat.le_of_ble_eq_true rfl) [(m, .inr (7, [.ref w1, .ref w2, .ref w3, .int (nI ns), .ref w4, .int ik, .ref w5, .int (nI ln), .int e1, .int e2, .ref w6, .int (nI (tm + 1)), .int (nI (B.2.1))])), (w5, .inl ((xG cx).2.1, 60, .inl tx)), (w6, .inl ((xG cx).2.1, 84, .inl B.2.2))] rfl dX7_readThing_268 ?_
            refine x_iload_n C 0 dX7_readThing_271 rfl rfl ?_
            have e_ret : rtF tx ln (sp, td, tm) = (false, (B.2.1, B.2.2, tm + 1)) := by simp +decide only [rtF, fin, thn, e_ch, c_131, c_142, Nat.not_le.mp n_8, e_A, e_B, if_true, if_false, reduceIte, Bool.false_eq_true, reduceCtorEq]
            exact x_zret C E dX7_readThing_272 (by rw [e_ret]; exact (b2i_f Bool.false_ne_true).symm) ((rfl : _ = ([(m, .inr (7, [.ref w1, .ref w2, .ref w3, .int (nI ns), .ref w4, .int ik, .ref w5, .int (nI ln), .int e1, .int e2, .ref w6, .int (nI ((B.2.1, B.2.2, tm + 1).2.2)), .int (nI ((B.2.1, B.2.2, tm + 1).1))])), (w5, .inl ((xG cx).2.1, 60, .inl tx)), (w6, .inl ((xG cx).2.1, 84, .inl ((B.2.1, B.2.2, tm + 1).2.1)))] : va_W)).trans (by rw [e_ret]))
          ·
            refine x_aload_n C 1 dX7_readThing_145 rfl rfl ?_
            refine x_bipush (v := 58) C dX7_readThing_146 (by decide) ?_
            refine x_callVMU C ([.int 58]) ([]) [0, 1, 2] [(m, .inr (7, [.ref w1, .ref w2, .ref w3, .int (nI ns), .ref w4, .int ik, .ref w5, .int (nI ln), .int e1, .int e2, .ref w6, .int (nI tm), .int (nI ((tkF tx ln 58 (B.2.1, B.2.2)).2.1))])), (w5, .inl ((xG cx).2.1, 60, .inl tx)), (w6, .inl ((xG cx).2.1, 84, .inl ((tkF tx ln 58 (B.2.1, B.2.2)).2.2)))] [] [m, w5, w6] rfl rfl [] rfl rfl 3 rfl (by decide +kernel) rfl (k0 := 0) (na := 1) gX7_readThing_X7_takes rfl (by decide +kernel) rfl rfl rfl M (kX7_takes (xl cx) (xG cx) m w1 w2 w3 w4 w5 w6 ns ln tm B.2.1 ik e1 e2 tx B.2.2 58 (by first | assumption | rfl | omega | decide) (by first | assumption | rfl | omega | decide)) rfl (by decide) rfl rfl rfl ⟨by decide, by decide⟩ (Nat.le_of_ble_eq_true rfl) ⟨by decide, by decide⟩ dX7_readThing_148 ?_
            generalize e_D : tkF tx ln 58 (B.2.1, B.2.2) = D
            have l_D : D.2.1 ≤ ln := by rw [← e_D]; exact tkF_le (by assumption)
            refine x_ifb_eq (P := D.1 = true) C 168 dX7_readThing_151 (by decide) (fun c_151 => ?_) (fun c_151 => ?_)
            ·
              refine x_iconst (v := 0) C dX7_readThing_168 (by decide) ?_
              refine x_istore_n C [(2, .int 0), (1, .int 112), (0, .ref m)] dX7_readThing_169 rfl (by decide) rfl ?_
              refine x_goto (tgt := 261) C dX7_readThing_170 (by decide) ?_
              refine x_aload_n C 2 dX7_readThing_261 rfl rfl ?_
              refine x_dup C dX7_readThing_262 rfl ?_
              refine x_getf C 0 rfl rfl i_kX7_readThing_X7 11 (by decide) m_kX7_readThing_5 rfl rfl dX7_readThing_263 ?_
              refine x_iconst (v := 1) C dX7_readThing_266 (by decide) ?_
              refine x_iadd C (nI_add tm 1) dX7_readThing_267 ?_
              refine x_putf (ty := .int) C M 0 rfl rfl i_kX7_readThing_X7 11 (by decide) m_kX7_readThing_5 rfl rfl tyX7 tyX7_ok nmX7 (by decide +kernel) rfl rfl (Nat.le_of_ble_eq_true rfl) [(m, .inr (7, [.ref w1, .ref w2, .ref w3, .int (nI ns), .ref w4, .int ik, .ref w5, .int (nI ln), .int e1, .int e2, .ref w6, .int (nI (tm + 1)), .int (nI (D.2.1))])), (w5, .inl ((xG cx).2.1, 60, .inl tx)), (w6, .inl ((xG cx).2.1, 84, .inl D.2.2))] rfl dX7_readThing_268 ?_
              refine x_iload_n C 0 dX7_readThing_271 rfl rfl ?_
              have e_ret : rtF tx ln (sp, td, tm) = (false, (D.2.1, D.2.2, tm + 1)) := by simp +decide only [rtF, fin, thn, e_ch, c_131, c_142, c_151, Nat.not_le.mp n_8, e_A, e_B, e_D, if_true, if_false, reduceIte, Bool.false_eq_true, reduceCtorEq]
              exact x_zret C E dX7_readThing_272 (by rw [e_ret]; exact (b2i_f Bool.false_ne_true).symm) ((rfl : _ = ([(m, .inr (7, [.ref w1, .ref w2, .ref w3, .int (nI ns), .ref w4, .int ik, .ref w5, .int (nI ln), .int e1, .int e2, .ref w6, .int (nI ((D.2.1, D.2.2, tm + 1).2.2)), .int (nI ((D.2.1, D.2.2, tm + 1).1))])), (w5, .inl ((xG cx).2.1, 60, .inl tx)), (w6, .inl ((xG cx).2.1, 84, .inl ((D.2.1, D.2.2, tm + 1).2.1)))] : va_W)).trans (by rw [e_ret]))
            ·
              refine x_aload_n C 1 dX7_readThing_154 rfl rfl ?_
              refine x_iconst (v := 3) C dX7_readThing_155 (by decide) ?_
              refine x_iconst (v := 0) C dX7_readThing_156 (by decide) ?_
              refine x_iconst (v := 5) C dX7_readThing_157 (by decide) ?_
              refine x_callVMU C ([.int 3, .int 0, .int 5]) ([]) [0, 1, 2] [(m, .inr (7, [.ref w1, .ref w2, .ref w3, .int (nI ns), .ref w4, .int ik, .ref w5, .int (nI ln), .int e1, .int e2, .ref w6, .int (nI tm), .int (nI ((nuF tx ln tm 3 0 5 (D.2.1, D.2.2)).2.1))])), (w5, .inl ((xG cx).2.1, 60, .inl tx)), (w6, .inl ((xG cx).2.1, 84, .inl ((nuF tx ln tm 3 0 5 (D.2.1, D.2.2)).2.2)))] [] [m, w5, w6] rfl rfl [] rfl rfl 3 rfl (by decide +kernel) rfl (k0 := 0) (na := 3) gX7_readThing_X7_number rfl (by decide +kernel) rfl rfl rfl M (kX7_number (xl cx) (xG cx) m w1 w2 w3 w4 w5 w6 ns ln tm D.2.1 ik e1 e2 tx D.2.2 3 0 5 (by first | assumption | rfl | omega | decide) (by first | assumption | rfl | omega | decide) (by first | assumption | rfl | omega | decide) (by first | assumption | rfl | omega | decide)) rfl (by decide) rfl rfl rfl ⟨by decide, by decide⟩ (Nat.le_of_ble_eq_true rfl) ⟨by decide, by decide⟩ dX7_readThing_158 ?_
              generalize e_F : nuF tx ln tm 3 0 5 (D.2.1, D.2.2) = F
              have l_F : F.2.1 ≤ ln := by rw [← e_F]; exact nuF_le (by assumption)
              refine x_ifb_eq (P := F.1 = true) C 168 dX7_readThing_161 (by decide) (fun c_161 => ?_) (fun c_161 => ?_)
              ·
                refine x_iconst (v := 0) C dX7_readThing_168 (by decide) ?_
                refine x_istore_n C [(2, .int 0), (1, .int 112), (0, .ref m)] dX7_readThing_169 rfl (by decide) rfl ?_
                refine x_goto (tgt := 261) C dX7_readThing_170 (by decide) ?_
                refine x_aload_n C 2 dX7_readThing_261 rfl rfl ?_
                refine x_dup C dX7_readThing_262 rfl ?_
                refine x_getf C 0 rfl rfl i_kX7_readThing_X7 11 (by decide) m_kX7_readThing_5 rfl rfl dX7_readThing_263 ?_
                refine x_iconst (v := 1) C dX7_readThing_266 (by decide) ?_
                refine x_iadd C (nI_add tm 1) dX7_readThing_267 ?_
                refine x_putf (ty := .int) C M 0 rfl rfl i_kX7_readThing_X7 11 (by decide) m_kX7_readThing_5 rfl rfl tyX7 tyX7_ok nmX7 (by decide +kernel) rfl rfl (Nat.le_of_ble_eq_true rfl) [(m, .inr (7, [.ref w1, .ref w2, .ref w3, .int (nI ns), .ref w4, .int ik, .ref w5, .int (nI ln), .int e1, .int e2, .ref w6, .int (nI (tm + 1)), .int (nI (F.2.1))])), (w5, .inl ((xG cx).2.1, 60, .inl tx)), (w6, .inl ((xG cx).2.1, 84, .inl F.2.2))] rfl dX7_readThing_268 ?_
                refine x_iload_n C 0 dX7_readThing_271 rfl rfl ?_
                have e_ret : rtF tx ln (sp, td, tm) = (false, (F.2.1, F.2.2, tm + 1)) := by simp +decide only [rtF, fin, thn, e_ch, c_131, c_142, c_151, c_161, Nat.not_le.mp n_8, e_A, e_B, e_D, e_F, if_true, if_false, reduceIte, Bool.false_eq_true, reduceCtorEq]
                exact x_zret C E dX7_readThing_272 (by rw [e_ret]; exact (b2i_f Bool.false_ne_true).symm) ((rfl : _ = ([(m, .inr (7, [.ref w1, .ref w2, .ref w3, .int (nI ns), .ref w4, .int ik, .ref w5, .int (nI ln), .int e1, .int e2, .ref w6, .int (nI ((F.2.1, F.2.2, tm + 1).2.2)), .int (nI ((F.2.1, F.2.2, tm + 1).1))])), (w5, .inl ((xG cx).2.1, 60, .inl tx)), (w6, .inl ((xG cx).2.1, 84, .inl ((F.2.1, F.2.2, tm + 1).2.1)))] : va_W)).trans (by rw [e_ret]))
              ·
                refine x_iconst (v := 1) C dX7_readThing_164 (by decide) ?_
                refine x_goto (tgt := 169) C dX7_readThing_165 (by decide) ?_
                refine x_istore_n C [(2, .int 1), (1, .int 112), (0, .ref m)] dX7_readThing_169 rfl (by decide) rfl ?_
                refine x_goto (tgt := 261) C dX7_readThing_170 (by decide) ?_
                refine x_aload_n C 2 dX7_readThing_261 rfl rfl ?_
                refine x_dup C dX7_readThing_262 rfl ?_
                refine x_getf C 0 rfl rfl i_kX7_readThing_X7 11 (by decide) m_kX7_readThing_5 rfl rfl dX7_readThing_263 ?_
                refine x_iconst (v := 1) C dX7_readThing_266 (by decide) ?_
                refine x_iadd C (nI_add tm 1) dX7_readThing_267 ?_
                refine x_putf (ty := .int) C M 0 rfl rfl i_kX7_readThing_X7 11 (by decide) m_kX7_readThing_5 rfl rfl tyX7 tyX7_ok nmX7 (by decide +kernel) rfl rfl (Nat.le_of_ble_eq_true rfl) [(m, .inr (7, [.ref w1, .ref w2, .ref w3, .int (nI ns), .ref w4, .int ik, .ref w5, .int (nI ln), .int e1, .int e2, .ref w6, .int (nI (tm + 1)), .int (nI (F.2.1))])), (w5, .inl ((xG cx).2.1, 60, .inl tx)), (w6, .inl ((xG cx).2.1, 84, .inl F.2.2))] rfl dX7_readThing_268 ?_
                refine x_iload_n C 0 dX7_readThing_271 rfl rfl ?_
                have e_ret : rtF tx ln (sp, td, tm) = (true, (F.2.1, F.2.2, tm + 1)) := by simp +decide only [rtF, fin, thn, e_ch, c_131, c_142, c_151, c_161, Nat.not_le.mp n_8, e_A, e_B, e_D, e_F, if_true, if_false, reduceIte, Bool.false_eq_true, reduceCtorEq]
                exact x_zret C E dX7_readThing_272 (by rw [e_ret]; exact (b2i_t rfl).symm) ((rfl : _ = ([(m, .inr (7, [.ref w1, .ref w2, .ref w3, .int (nI ns), .ref w4, .int ik, .ref w5, .int (nI ln), .int e1, .int e2, .ref w6, .int (nI ((F.2.1, F.2.2, tm + 1).2.2)), .int (nI ((F.2.1, F.2.2, tm + 1).1))])), (w5, .inl ((xG cx).2.1, 60, .inl tx)), (w6, .inl ((xG cx).2.1, 84, .inl ((F.2.1, F.2.2, tm + 1).2.1)))] : va_W)).trans (by rw [e_ret]))
      ·
        exact absurd c_80 (by decide)
      ·
        exact absurd c_80 (by decide)
      ·
        exact absurd c_80 (by decide)
      ·
        exact absurd c_80 (by decide)
      ·
        exact absurd c_80 (by decide)
      ·
        exact absurd c_80 (by decide)
      ·
        exact absurd (by decide) (c_80 0 (by decide))
    ·
      refine x_iload_n C 0 dX7_readThing_31 rfl rfl ?_
      refine x_bipush (v := 116) C dX7_readThing_32 (by decide) ?_
      refine x_icmp_eq C 57 dX7_readThing_34 (by decide) (fun c_34 => ?_) (fun c_34 => ?_)
      ·
        have n8 := Nat.not_le.mp n_8
        subst c_34
        refine x_aload_n C 1 dX7_readThing_57 rfl rfl ?_
        refine x_dup C dX7_readThing_58 rfl ?_
        refine x_getf C 0 rfl rfl i_kX7_readThing_X7 12 (by decide) m_kX7_readThing_1 rfl rfl dX7_readThing_59 ?_
        refine x_iconst (v := 1) C dX7_readThing_62 (by decide) ?_
        refine x_iadd C (nI_add sp 1) dX7_readThing_63 ?_
        refine x_putf (ty := .int) C M 0 rfl rfl i_kX7_readThing_X7 12 (by decide) m_kX7_readThing_1 rfl rfl tyX7 tyX7_ok nmX7 (by decide +kernel) rfl rfl (Nat.le_of_ble_eq_true rfl) [(m, .inr (7, [.ref w1, .ref w2, .ref w3, .int (nI ns), .ref w4, .int ik, .ref w5, .int (nI ln), .int e1, .int e2, .ref w6, .int (nI tm), .int (nI (sp + 1))])), (w5, .inl ((xG cx).2.1, 60, .inl tx)), (w6, .inl ((xG cx).2.1, 84, .inl td))] rfl dX7_readThing_64 ?_
        refine x_aload_n C 1 dX7_readThing_67 rfl rfl ?_
        refine x_getf C 0 rfl rfl i_kX7_readThing_X7 10 (by decide) m_kX7_readThing_4 rfl rfl dX7_readThing_68 ?_
        refine x_iconst (v := 4) C dX7_readThing_71 (by decide) ?_
        refine x_aload_n C 1 dX7_readThing_72 rfl rfl ?_
        refine x_getf C 0 rfl rfl i_kX7_readThing_X7 11 (by decide) m_kX7_readThing_5 rfl rfl dX7_readThing_73 ?_
        refine x_imul C (pk_mul 4 tm) dX7_readThing_76 ?_
        refine x_iload_n C 0 dX7_readThing_77 rfl rfl ?_
        refine x_iast C M 2 rfl rfl (vp_in_nI (by omega) (by decide)) (nI_clamp (by omega)) [(m, .inr (7, [.ref w1, .ref w2, .ref w3, .int (nI ns), .ref w4, .int ik, .ref w5, .int (nI ln), .int e1, .int e2, .ref w6, .int (nI tm), .int (nI (sp + 1))])), (w5, .inl ((xG cx).2.1, 60, .inl tx)), (w6, .inl ((xG cx).2.1, 84, .inl (upd td (4 * tm) 116)))] rfl dX7_readThing_78 ?_
        refine x_iload_n C 0 dX7_readThing_79 rfl rfl ?_
        refine x_tswL 112 C dX7_readThing_80 [124, 251, 251, 243, 173, 251, 203] 251 (by decide) (by decide) (by decide) ⟨fun c_80 => ?_, fun c_80 => ?_, fun c_80 => ?_, fun c_80 => ?_, fun c_80 => ?_, fun c_80 => ?_, fun c_80 => ?_, trivial⟩ (fun c_80 => ?_)
        ·
          exact absurd c_80 (by decide)
        ·
          exact absurd c_80 (by decide)
        ·
          exact absurd c_80 (by decide)
        ·
          exact absurd c_80 (by decide)
        ·
          refine x_aload_n C 1 dX7_readThing_173 rfl rfl ?_
          refine x_iconst (v := 1) C dX7_readThing_174 (by decide) ?_
          refine x_iconst (v := 0) C dX7_readThing_175 (by decide) ?_
          refine x_iconst (v := 2) C dX7_readThing_176 (by decide) ?_
          refine x_callVMU C ([.int 1, .int 0, .int 2]) ([]) [0, 1, 2] [(m, .inr (7, [.ref w1, .ref w2, .ref w3, .int (nI ns), .ref w4, .int ik, .ref w5, .int (nI ln), .int e1, .int e2, .ref w6, .int (nI tm), .int (nI ((nuF tx ln tm 1 0 2 ((sp + 1), (upd td (4 * tm) 116))).2.1))])), (w5, .inl ((xG cx).2.1, 60, .inl tx)), (w6, .inl ((xG cx).2.1, 84, .inl ((nuF tx ln tm 1 0 2 ((sp + 1), (upd td (4 * tm) 116))).2.2)))] [] [m, w5, w6] rfl rfl [] rfl rfl 3 rfl (by decide +kernel) rfl (k0 := 0) (na := 3) gX7_readThing_X7_number rfl (by decide +kernel) rfl rfl rfl M (kX7_number (xl cx) (xG cx) m w1 w2 w3 w4 w5 w6 ns ln tm (sp + 1) ik e1 e2 tx (upd td (4 * tm) 116) 1 0 2 (by first | assumption | rfl | omega | decide) (by first | assumption | rfl | omega | decide) (by first | assumption | rfl | omega | decide) (by first | assumption | rfl | omega | decide)) rfl (by decide) rfl rfl rfl ⟨by decide, by decide⟩ (Nat.le_of_ble_eq_true rfl) ⟨by decide, by decide⟩ dX7_readThing_177 ?_
          generalize e_A : nuF tx ln tm 1 0 2 ((sp + 1), (upd td (4 * tm) 116)) = A
          have l_A : A.2.1 ≤ ln := by rw [← e_A]; exact nuF_le (by assumption)
          refine x_ifb_eq (P := A.1 = true) C 198 dX7_readThing_180 (by decide) (fun c_180 => ?_) (fun c_180 => ?_)
          ·
            refine x_iconst (v := 0) C dX7_readThing_198 (by decide) ?_
            refine x_istore_n C [(2, .int 0), (1, .int 116), (0, .ref m)] dX7_readThing_199 rfl (by decide) rfl ?_
            refine x_goto (tgt := 261) C dX7_readThing_200 (by decide) ?_
            refine x_aload_n C 2 dX7_readThing_261 rfl rfl ?_
            refine x_dup C dX7_readThing_262 rfl ?_
            refine x_getf C 0 rfl rfl i_kX7_readThing_X7 11 (by decide) m_kX7_readThing_5 rfl rfl dX7_readThing_263 ?_
            refine x_iconst (v := 1) C dX7_readThing_266 (by decide) ?_
            refine x_iadd C (nI_add tm 1) dX7_readThing_267 ?_
            refine x_putf (ty := .int) C M 0 rfl rfl i_kX7_readThing_X7 11 (by decide) m_kX7_readThing_5 rfl rfl tyX7 tyX7_ok nmX7 (by decide +kernel) rfl rfl (Nat.le_of_ble_eq_true rfl) [(m, .inr (7, [.ref w1, .ref w2, .ref w3, .int (nI ns), .ref w4, .int ik, .ref w5, .int (nI ln), .int e1, .int e2, .ref w6, .int (nI (tm + 1)), .int (nI (A.2.1))])), (w5, .inl ((xG cx).2.1, 60, .inl tx)), (w6, .inl ((xG cx).2.1, 84, .inl A.2.2))] rfl dX7_readThing_268 ?_
            refine x_iload_n C 0 dX7_readThing_271 rfl rfl ?_
            have e_ret : rtF tx ln (sp, td, tm) = (false, (A.2.1, A.2.2, tm + 1)) := by simp +decide only [rtF, fin, thn, e_ch, c_28, c_180, Nat.not_le.mp n_8, e_A, if_true, if_false, reduceIte, Bool.false_eq_true, reduceCtorEq]
            exact x_zret C E dX7_readThing_272 (by rw [e_ret]; exact (b2i_f Bool.false_ne_true).symm) ((rfl : _ = ([(m, .inr (7, [.ref w1, .ref w2, .ref w3, .int (nI ns), .ref w4, .int ik, .ref w5, .int (nI ln), .int e1, .int e2, .ref w6, .int (nI ((A.2.1, A.2.2, tm + 1).2.2)), .int (nI ((A.2.1, A.2.2, tm + 1).1))])), (w5, .inl ((xG cx).2.1, 60, .inl tx)), (w6, .inl ((xG cx).2.1, 84, .inl ((A.2.1, A.2.2, tm + 1).2.1)))] : va_W)).trans (by rw [e_ret]))
          ·
            refine x_aload_n C 1 dX7_readThing_183 rfl rfl ?_
            refine x_iconst (v := 2) C dX7_readThing_184 (by decide) ?_
            refine x_iconst (v := 0) C dX7_readThing_185 (by decide) ?_
            refine x_bipush (v := 7) C dX7_readThing_186 (by decide) ?_
            refine x_callVMU C ([.int 2, .int 0, .int 7]) ([]) [0, 1, 2] [(m, .inr (7, [.ref w1, .ref w2, .ref w3, .int (nI ns), .ref w4, .int ik, .ref w5, .int (nI ln), .int e1, .int e2, .ref w6, .int (nI tm), .int (nI ((nuF tx ln tm 2 0 7 (A.2.1, A.2.2)).2.1))])), (w5, .inl ((xG cx).2.1, 60, .inl tx)), (w6, .inl ((xG cx).2.1, 84, .inl ((nuF tx ln tm 2 0 7 (A.2.1, A.2.2)).2.2)))] [] [m, w5, w6] rfl rfl [] rfl rfl 3 rfl (by decide +kernel) rfl (k0 := 0) (na := 3) gX7_readThing_X7_number rfl (by decide +kernel) rfl rfl rfl M (kX7_number (xl cx) (xG cx) m w1 w2 w3 w4 w5 w6 ns ln tm A.2.1 ik e1 e2 tx A.2.2 2 0 7 (by first | assumption | rfl | omega | decide) (by first | assumption | rfl | omega | decide) (by first | assumption | rfl | omega | decide) (by first | assumption | rfl | omega | decide)) rfl (by decide) rfl rfl rfl ⟨by decide, by decide⟩ (Nat.le_of_ble_eq_true rfl) ⟨by decide, by decide⟩ dX7_readThing_188 ?_
            refine x_ifb_eq (P := (nuF tx ln tm 2 0 7 (A.2.1, A.2.2)).1 = true) C 198 dX7_readThing_191 (by decide) (fun c_191 => ?_) (fun c_191 => ?_)
            ·
              refine x_iconst (v := 0) C dX7_readThing_198 (by decide) ?_
              refine x_istore_n C [(2, .int 0), (1, .int 116), (0, .ref m)] dX7_readThing_199 rfl (by decide) rfl ?_
              refine x_goto (tgt := 261) C dX7_readThing_200 (by decide) ?_
              refine x_aload_n C 2 dX7_readThing_261 rfl rfl ?_
              refine x_dup C dX7_readThing_262 rfl ?_
              refine x_getf C 0 rfl rfl i_kX7_readThing_X7 11 (by decide) m_kX7_readThing_5 rfl rfl dX7_readThing_263 ?_
              refine x_iconst (v := 1) C dX7_readThing_266 (by decide) ?_
              refine x_iadd C (nI_add tm 1) dX7_readThing_267 ?_
              refine x_putf (ty := .int) C M 0 rfl rfl i_kX7_readThing_X7 11 (by decide) m_kX7_readThing_5 rfl rfl tyX7 tyX7_ok nmX7 (by decide +kernel) rfl rfl (Nat.le_of_ble_eq_true rfl) [(m, .inr (7, [.ref w1, .ref w2, .ref w3, .int (nI ns), .ref w4, .int ik, .ref w5, .int (nI ln), .int e1, .int e2, .ref w6, .int (nI (tm + 1)), .int (nI ((nuF tx ln tm 2 0 7 (A.2.1, A.2.2)).2.1))])), (w5, .inl ((xG cx).2.1, 60, .inl tx)), (w6, .inl ((xG cx).2.1, 84, .inl ((nuF tx ln tm 2 0 7 (A.2.1, A.2.2)).2.2)))] rfl dX7_readThing_268 ?_
              refine x_iload_n C 0 dX7_readThing_271 rfl rfl ?_
              have e_ret : rtF tx ln (sp, td, tm) = (false, ((nuF tx ln tm 2 0 7 (A.2.1, A.2.2)).2.1, (nuF tx ln tm 2 0 7 (A.2.1, A.2.2)).2.2, tm + 1)) := by simp +decide only [rtF, fin, thn, e_ch, c_28, c_180, c_191, Nat.not_le.mp n_8, e_A, if_true, if_false, reduceIte, Bool.false_eq_true, reduceCtorEq]
              exact x_zret C E dX7_readThing_272 (by rw [e_ret]; exact (b2i_f Bool.false_ne_true).symm) ((rfl : _ = ([(m, .inr (7, [.ref w1, .ref w2, .ref w3, .int (nI ns), .ref w4, .int ik, .ref w5, .int (nI ln), .int e1, .int e2, .ref w6, .int (nI (((nuF tx ln tm 2 0 7 (A.2.1, A.2.2)).2.1, (nuF tx ln tm 2 0 7 (A.2.1, A.2.2)).2.2, tm + 1).2.2)), .int (nI (((nuF tx ln tm 2 0 7 (A.2.1, A.2.2)).2.1, (nuF tx ln tm 2 0 7 (A.2.1, A.2.2)).2.2, tm + 1).1))])), (w5, .inl ((xG cx).2.1, 60, .inl tx)), (w6, .inl ((xG cx).2.1, 84, .inl (((nuF tx ln tm 2 0 7 (A.2.1, A.2.2)).2.1, (nuF tx ln tm 2 0 7 (A.2.1, A.2.2)).2.2, tm + 1).2.1)))] : va_W)).trans (by rw [e_ret]))
            ·
              refine x_iconst (v := 1) C dX7_readThing_194 (by decide) ?_
              refine x_goto (tgt := 199) C dX7_readThing_195 (by decide) ?_
              refine x_istore_n C [(2, .int 1), (1, .int 116), (0, .ref m)] dX7_readThing_199 rfl (by decide) rfl ?_
              refine x_goto (tgt := 261) C dX7_readThing_200 (by decide) ?_
              refine x_aload_n C 2 dX7_readThing_261 rfl rfl ?_
              refine x_dup C dX7_readThing_262 rfl ?_
              refine x_getf C 0 rfl rfl i_kX7_readThing_X7 11 (by decide) m_kX7_readThing_5 rfl rfl dX7_readThing_263 ?_
              refine x_iconst (v := 1) C dX7_readThing_266 (by decide) ?_
              refine x_iadd C (nI_add tm 1) dX7_readThing_267 ?_
              refine x_putf (ty := .int) C M 0 rfl rfl i_kX7_readThing_X7 11 (by decide) m_kX7_readThing_5 rfl rfl tyX7 tyX7_ok nmX7 (by decide +kernel) rfl rfl (Nat.le_of_ble_eq_true rfl) [(m, .inr (7, [.ref w1, .ref w2, .ref w3, .int (nI ns), .ref w4, .int ik, .ref w5, .int (nI ln), .int e1, .int e2, .ref w6, .int (nI (tm + 1)), .int (nI ((nuF tx ln tm 2 0 7 (A.2.1, A.2.2)).2.1))])), (w5, .inl ((xG cx).2.1, 60, .inl tx)), (w6, .inl ((xG cx).2.1, 84, .inl ((nuF tx ln tm 2 0 7 (A.2.1, A.2.2)).2.2)))] rfl dX7_readThing_268 ?_
              refine x_iload_n C 0 dX7_readThing_271 rfl rfl ?_
              have e_ret : rtF tx ln (sp, td, tm) = (true, ((nuF tx ln tm 2 0 7 (A.2.1, A.2.2)).2.1, (nuF tx ln tm 2 0 7 (A.2.1, A.2.2)).2.2, tm + 1)) := by simp +decide only [rtF, fin, thn, e_ch, c_28, c_180, c_191, Nat.not_le.mp n_8, e_A, if_true, if_false, reduceIte, Bool.false_eq_true, reduceCtorEq]
              exact x_zret C E dX7_readThing_272 (by rw [e_ret]; exact (b2i_t rfl).symm) ((rfl : _ = ([(m, .inr (7, [.ref w1, .ref w2, .ref w3, .int (nI ns), .ref w4, .int ik, .ref w5, .int (nI ln), .int e1, .int e2, .ref w6, .int (nI (((nuF tx ln tm 2 0 7 (A.2.1, A.2.2)).2.1, (nuF tx ln tm 2 0 7 (A.2.1, A.2.2)).2.2, tm + 1).2.2)), .int (nI (((nuF tx ln tm 2 0 7 (A.2.1, A.2.2)).2.1, (nuF tx ln tm 2 0 7 (A.2.1, A.2.2)).2.2, tm + 1).1))])), (w5, .inl ((xG cx).2.1, 60, .inl tx)), (w6, .inl ((xG cx).2.1, 84, .inl (((nuF tx ln tm 2 0 7 (A.2.1, A.2.2)).2.1, (nuF tx ln tm 2 0 7 (A.2.1, A.2.2)).2.2, tm + 1).2.1)))] : va_W)).trans (by rw [e_ret]))
        ·
          exact absurd c_80 (by decide)
        ·
          exact absurd c_80 (by decide)
        ·
          exact absurd (by decide) (c_80 4 (by decide))
      ·
        refine x_iload_n C 0 dX7_readThing_37 rfl rfl ?_
        refine x_bipush (v := 118) C dX7_readThing_38 (by decide) ?_
        refine x_icmp_eq C 57 dX7_readThing_40 (by decide) (fun c_40 => ?_) (fun c_40 => ?_)
        ·
          have n8 := Nat.not_le.mp n_8
          subst c_40
          refine x_aload_n C 1 dX7_readThing_57 rfl rfl ?_
          refine x_dup C dX7_readThing_58 rfl ?_
          refine x_getf C 0 rfl rfl i_kX7_readThing_X7 12 (by decide) m_kX7_readThing_1 rfl rfl dX7_readThing_59 ?_
          refine x_iconst (v := 1) C dX7_readThing_62 (by decide) ?_
          refine x_iadd C (nI_add sp 1) dX7_readThing_63 ?_
          refine x_putf (ty := .int) C M 0 rfl rfl i_kX7_readThing_X7 12 (by decide) m_kX7_readThing_1 rfl rfl tyX7 tyX7_ok nmX7 (by decide +kernel) rfl rfl (Nat.le_of_ble_eq_true rfl) [(m, .inr (7, [.ref w1, .ref w2, .ref w3, .int (nI ns), .ref w4, .int ik, .ref w5, .int (nI ln), .int e1, .int e2, .ref w6, .int (nI tm), .int (nI (sp + 1))])), (w5, .inl ((xG cx).2.1, 60, .inl tx)), (w6, .inl ((xG cx).2.1, 84, .inl td))] rfl dX7_readThing_64 ?_
          refine x_aload_n C 1 dX7_readThing_67 rfl rfl ?_
          refine x_getf C 0 rfl rfl i_kX7_readThing_X7 10 (by decide) m_kX7_readThing_4 rfl rfl dX7_readThing_68 ?_
          refine x_iconst (v := 4) C dX7_readThing_71 (by decide) ?_
          refine x_aload_n C 1 dX7_readThing_72 rfl rfl ?_
          refine x_getf C 0 rfl rfl i_kX7_readThing_X7 11 (by decide) m_kX7_readThing_5 rfl rfl dX7_readThing_73 ?_
          refine x_imul C (pk_mul 4 tm) dX7_readThing_76 ?_
          refine x_iload_n C 0 dX7_readThing_77 rfl rfl ?_
          refine x_iast C M 2 rfl rfl (vp_in_nI (by omega) (by decide)) (nI_clamp (by omega)) [(m, .inr (7, [.ref w1, .ref w2, .ref w3, .int (nI ns), .ref w4, .int ik, .ref w5, .int (nI ln), .int e1, .int e2, .ref w6, .int (nI tm), .int (nI (sp + 1))])), (w5, .inl ((xG cx).2.1, 60, .inl tx)), (w6, .inl ((xG cx).2.1, 84, .inl (upd td (4 * tm) 118)))] rfl dX7_readThing_78 ?_
          refine x_iload_n C 0 dX7_readThing_79 rfl rfl ?_
          refine x_tswL 112 C dX7_readThing_80 [124, 251, 251, 243, 173, 251, 203] 251 (by decide) (by decide) (by decide) ⟨fun c_80 => ?_, fun c_80 => ?_, fun c_80 => ?_, fun c_80 => ?_, fun c_80 => ?_, fun c_80 => ?_, fun c_80 => ?_, trivial⟩ (fun c_80 => ?_)
          ·
            exact absurd c_80 (by decide)
          ·
            exact absurd c_80 (by decide)
          ·
            exact absurd c_80 (by decide)
          ·
            exact absurd c_80 (by decide)
          ·
            exact absurd c_80 (by decide)
          ·
            exact absurd c_80 (by decide)
          ·
            refine x_aload_n C 1 dX7_readThing_203 rfl rfl ?_
            refine x_iconst (v := 1) C dX7_readThing_204 (by decide) ?_
            refine x_iconst (v := 0) C dX7_readThing_205 (by decide) ?_
            refine x_iconst (v := 2) C dX7_readThing_206 (by decide) ?_
            refine x_callVMU C ([.int 1, .int 0, .int 2]) ([]) [0, 1, 2] [(m, .inr (7, [.ref w1, .ref w2, .ref w3, .int (nI ns), .ref w4, .int ik, .ref w5, .int (nI ln), .int e1, .int e2, .ref w6, .int (nI tm), .int (nI ((nuF tx ln tm 1 0 2 ((sp + 1), (upd td (4 * tm) 118))).2.1))])), (w5, .inl ((xG cx).2.1, 60, .inl tx)), (w6, .inl ((xG cx).2.1, 84, .inl ((nuF tx ln tm 1 0 2 ((sp + 1), (upd td (4 * tm) 118))).2.2)))] [] [m, w5, w6] rfl rfl [] rfl rfl 3 rfl (by decide +kernel) rfl (k0 := 0) (na := 3) gX7_readThing_X7_number rfl (by decide +kernel) rfl rfl rfl M (kX7_number (xl cx) (xG cx) m w1 w2 w3 w4 w5 w6 ns ln tm (sp + 1) ik e1 e2 tx (upd td (4 * tm) 118) 1 0 2 (by first | assumption | rfl | omega | decide) (by first | assumption | rfl | omega | decide) (by first | assumption | rfl | omega | decide) (by first | assumption | rfl | omega | decide)) rfl (by decide) rfl rfl rfl ⟨by decide, by decide⟩ (Nat.le_of_ble_eq_true rfl) ⟨by decide, by decide⟩ dX7_readThing_207 ?_
            generalize e_A : nuF tx ln tm 1 0 2 ((sp + 1), (upd td (4 * tm) 118)) = A
            have l_A : A.2.1 ≤ ln := by rw [← e_A]; exact nuF_le (by assumption)
            refine x_ifb_eq (P := A.1 = true) C 238 dX7_readThing_210 (by decide) (fun c_210 => ?_) (fun c_210 => ?_)
            ·
              refine x_iconst (v := 0) C dX7_readThing_238 (by decide) ?_
              refine x_istore_n C [(2, .int 0), (1, .int 118), (0, .ref m)] dX7_readThing_239 rfl (by decide) rfl ?_
              refine x_goto (tgt := 261) C dX7_readThing_240 (by decide) ?_
              refine x_aload_n C 2 dX7_readThing_261 rfl rfl ?_
              refine x_dup C dX7_readThing_262 rfl ?_
              refine x_getf C 0 rfl rfl i_kX7_readThing_X7 11 (by decide) m_kX7_readThing_5 rfl rfl dX7_readThing_263 ?_
              refine x_iconst (v := 1) C dX7_readThing_266 (by decide) ?_
              refine x_iadd C (nI_add tm 1) dX7_readThing_267 ?_
              refine x_putf (ty := .int) C M 0 rfl rfl i_kX7_readThing_X7 11 (by decide) m_kX7_readThing_5 rfl rfl tyX7 tyX7_ok nmX7 (by decide +kernel) rfl rfl (Nat.le_of_ble_eq_true rfl) [(m, .inr (7, [.ref w1, .ref w2, .ref w3, .int (nI ns), .ref w4, .int ik, .ref w5, .int (nI ln), .int e1, .int e2, .ref w6, .int (nI (tm + 1)), .int (nI (A.2.1))])), (w5, .inl ((xG cx).2.1, 60, .inl tx)), (w6, .inl ((xG cx).2.1, 84, .inl A.2.2))] rfl dX7_readThing_268 ?_
              refine x_iload_n C 0 dX7_readThing_271 rfl rfl ?_
              have e_ret : rtF tx ln (sp, td, tm) = (false, (A.2.1, A.2.2, tm + 1)) := by simp +decide only [rtF, fin, thn, e_ch, c_28, c_34, c_210, Nat.not_le.mp n_8, e_A, if_true, if_false, reduceIte, Bool.false_eq_true, reduceCtorEq]
              exact x_zret C E dX7_readThing_272 (by rw [e_ret]; exact (b2i_f Bool.false_ne_true).symm) ((rfl : _ = ([(m, .inr (7, [.ref w1, .ref w2, .ref w3, .int (nI ns), .ref w4, .int ik, .ref w5, .int (nI ln), .int e1, .int e2, .ref w6, .int (nI ((A.2.1, A.2.2, tm + 1).2.2)), .int (nI ((A.2.1, A.2.2, tm + 1).1))])), (w5, .inl ((xG cx).2.1, 60, .inl tx)), (w6, .inl ((xG cx).2.1, 84, .inl ((A.2.1, A.2.2, tm + 1).2.1)))] : va_W)).trans (by rw [e_ret]))
            ·
              refine x_aload_n C 1 dX7_readThing_213 rfl rfl ?_
              refine x_bipush (v := 58) C dX7_readThing_214 (by decide) ?_
              refine x_callVMU C ([.int 58]) ([]) [0, 1, 2] [(m, .inr (7, [.ref w1, .ref w2, .ref w3, .int (nI ns), .ref w4, .int ik, .ref w5, .int (nI ln), .int e1, .int e2, .ref w6, .int (nI tm), .int (nI ((tkF tx ln 58 (A.2.1, A.2.2)).2.1))])), (w5, .inl ((xG cx).2.1, 60, .inl tx)), (w6, .inl ((xG cx).2.1, 84, .inl ((tkF tx ln 58 (A.2.1, A.2.2)).2.2)))] [] [m, w5, w6] rfl rfl [] rfl rfl 3 rfl (by decide +kernel) rfl (k0 := 0) (na := 1) gX7_readThing_X7_takes rfl (by decide +kernel) rfl rfl rfl M (kX7_takes (xl cx) (xG cx) m w1 w2 w3 w4 w5 w6 ns ln tm A.2.1 ik e1 e2 tx A.2.2 58 (by first | assumption | rfl | omega | decide) (by first | assumption | rfl | omega | decide)) rfl (by decide) rfl rfl rfl ⟨by decide, by decide⟩ (Nat.le_of_ble_eq_true rfl) ⟨by decide, by decide⟩ dX7_readThing_216 ?_
              generalize e_B : tkF tx ln 58 (A.2.1, A.2.2) = B
              have l_B : B.2.1 ≤ ln := by rw [← e_B]; exact tkF_le (by assumption)
              refine x_ifb_eq (P := B.1 = true) C 238 dX7_readThing_219 (by decide) (fun c_219 => ?_) (fun c_219 => ?_)
              ·
                refine x_iconst (v := 0) C dX7_readThing_238 (by decide) ?_
                refine x_istore_n C [(2, .int 0), (1, .int 118), (0, .ref m)] dX7_readThing_239 rfl (by decide) rfl ?_
                refine x_goto (tgt := 261) C dX7_readThing_240 (by decide) ?_
                refine x_aload_n C 2 dX7_readThing_261 rfl rfl ?_
                refine x_dup C dX7_readThing_262 rfl ?_
                refine x_getf C 0 rfl rfl i_kX7_readThing_X7 11 (by decide) m_kX7_readThing_5 rfl rfl dX7_readThing_263 ?_
                refine x_iconst (v := 1) C dX7_readThing_266 (by decide) ?_
                refine x_iadd C (nI_add tm 1) dX7_readThing_267 ?_
                refine x_putf (ty := .int) C M 0 rfl rfl i_kX7_readThing_X7 11 (by decide) m_kX7_readThing_5 rfl rfl tyX7 tyX7_ok nmX7 (by decide +kernel) rfl rfl (Nat.le_of_ble_eq_true rfl) [(m, .inr (7, [.ref w1, .ref w2, .ref w3, .int (nI ns), .ref w4, .int ik, .ref w5, .int (nI ln), .int e1, .int e2, .ref w6, .int (nI (tm + 1)), .int (nI (B.2.1))])), (w5, .inl ((xG cx).2.1, 60, .inl tx)), (w6, .inl ((xG cx).2.1, 84, .inl B.2.2))] rfl dX7_readThing_268 ?_
                refine x_iload_n C 0 dX7_readThing_271 rfl rfl ?_
                have e_ret : rtF tx ln (sp, td, tm) = (false, (B.2.1, B.2.2, tm + 1)) := by simp +decide only [rtF, fin, thn, e_ch, c_28, c_34, c_210, c_219, Nat.not_le.mp n_8, e_A, e_B, if_true, if_false, reduceIte, Bool.false_eq_true, reduceCtorEq]
                exact x_zret C E dX7_readThing_272 (by rw [e_ret]; exact (b2i_f Bool.false_ne_true).symm) ((rfl : _ = ([(m, .inr (7, [.ref w1, .ref w2, .ref w3, .int (nI ns), .ref w4, .int ik, .ref w5, .int (nI ln), .int e1, .int e2, .ref w6, .int (nI ((B.2.1, B.2.2, tm + 1).2.2)), .int (nI ((B.2.1, B.2.2, tm + 1).1))])), (w5, .inl ((xG cx).2.1, 60, .inl tx)), (w6, .inl ((xG cx).2.1, 84, .inl ((B.2.1, B.2.2, tm + 1).2.1)))] : va_W)).trans (by rw [e_ret]))
              ·
                refine x_aload_n C 1 dX7_readThing_222 rfl rfl ?_
                refine x_iconst (v := 2) C dX7_readThing_223 (by decide) ?_
                refine x_iconst (v := 0) C dX7_readThing_224 (by decide) ?_
                refine x_sipush (v := 300) C dX7_readThing_225 (by decide) ?_
                refine x_callVMU C ([.int 2, .int 0, .int 300]) ([]) [0, 1, 2] [(m, .inr (7, [.ref w1, .ref w2, .ref w3, .int (nI ns), .ref w4, .int ik, .ref w5, .int (nI ln), .int e1, .int e2, .ref w6, .int (nI tm), .int (nI ((nuF tx ln tm 2 0 300 (B.2.1, B.2.2)).2.1))])), (w5, .inl ((xG cx).2.1, 60, .inl tx)), (w6, .inl ((xG cx).2.1, 84, .inl ((nuF tx ln tm 2 0 300 (B.2.1, B.2.2)).2.2)))] [] [m, w5, w6] rfl rfl [] rfl rfl 3 rfl (by decide +kernel) rfl (k0 := 0) (na := 3) gX7_readThing_X7_number rfl (by decide +kernel) rfl rfl rfl M (kX7_number (xl cx) (xG cx) m w1 w2 w3 w4 w5 w6 ns ln tm B.2.1 ik e1 e2 tx B.2.2 2 0 300 (by first | assumption | rfl | omega | decide) (by first | assumption | rfl | omega | decide) (by first | assumption | rfl | omega | decide) (by first | assumption | rfl | omega | decide)) rfl (by decide) rfl rfl rfl ⟨by decide, by decide⟩ (Nat.le_of_ble_eq_true rfl) ⟨by decide, by decide⟩ dX7_readThing_228 ?_
                generalize e_D : nuF tx ln tm 2 0 300 (B.2.1, B.2.2) = D
                have l_D : D.2.1 ≤ ln := by rw [← e_D]; exact nuF_le (by assumption)
                refine x_ifb_eq (P := D.1 = true) C 238 dX7_readThing_231 (by decide) (fun c_231 => ?_) (fun c_231 => ?_)
                ·
                  refine x_iconst (v := 0) C dX7_readThing_238 (by decide) ?_
                  refine x_istore_n C [(2, .int 0), (1, .int 118), (0, .ref m)] dX7_readThing_239 rfl (by decide) rfl ?_
                  refine x_goto (tgt := 261) C dX7_readThing_240 (by decide) ?_
                  refine x_aload_n C 2 dX7_readThing_261 rfl rfl ?_
                  refine x_dup C dX7_readThing_262 rfl ?_
                  refine x_getf C 0 rfl rfl i_kX7_readThing_X7 11 (by decide) m_kX7_readThing_5 rfl rfl dX7_readThing_263 ?_
                  refine x_iconst (v := 1) C dX7_readThing_266 (by decide) ?_
                  refine x_iadd C (nI_add tm 1) dX7_readThing_267 ?_
                  refine x_putf (ty := .int) C M 0 rfl rfl i_kX7_readThing_X7 11 (by decide) m_kX7_readThing_5 rfl rfl tyX7 tyX7_ok nmX7 (by decide +kernel) rfl rfl (Nat.le_of_ble_eq_true rfl) [(m, .inr (7, [.ref w1, .ref w2, .ref w3, .int (nI ns), .ref w4, .int ik, .ref w5, .int (nI ln), .int e1, .int e2, .ref w6, .int (nI (tm + 1)), .int (nI (D.2.1))])), (w5, .inl ((xG cx).2.1, 60, .inl tx)), (w6, .inl ((xG cx).2.1, 84, .inl D.2.2))] rfl dX7_readThing_268 ?_
                  refine x_iload_n C 0 dX7_readThing_271 rfl rfl ?_
                  have e_ret : rtF tx ln (sp, td, tm) = (false, (D.2.1, D.2.2, tm + 1)) := by simp +decide only [rtF, fin, thn, e_ch, c_28, c_34, c_210, c_219, c_231, Nat.not_le.mp n_8, e_A, e_B, e_D, if_true, if_false, reduceIte, Bool.false_eq_true, reduceCtorEq]
                  exact x_zret C E dX7_readThing_272 (by rw [e_ret]; exact (b2i_f Bool.false_ne_true).symm) ((rfl : _ = ([(m, .inr (7, [.ref w1, .ref w2, .ref w3, .int (nI ns), .ref w4, .int ik, .ref w5, .int (nI ln), .int e1, .int e2, .ref w6, .int (nI ((D.2.1, D.2.2, tm + 1).2.2)), .int (nI ((D.2.1, D.2.2, tm + 1).1))])), (w5, .inl ((xG cx).2.1, 60, .inl tx)), (w6, .inl ((xG cx).2.1, 84, .inl ((D.2.1, D.2.2, tm + 1).2.1)))] : va_W)).trans (by rw [e_ret]))
                ·
                  refine x_iconst (v := 1) C dX7_readThing_234 (by decide) ?_
                  refine x_goto (tgt := 239) C dX7_readThing_235 (by decide) ?_
                  refine x_istore_n C [(2, .int 1), (1, .int 118), (0, .ref m)] dX7_readThing_239 rfl (by decide) rfl ?_
                  refine x_goto (tgt := 261) C dX7_readThing_240 (by decide) ?_
                  refine x_aload_n C 2 dX7_readThing_261 rfl rfl ?_
                  refine x_dup C dX7_readThing_262 rfl ?_
                  refine x_getf C 0 rfl rfl i_kX7_readThing_X7 11 (by decide) m_kX7_readThing_5 rfl rfl dX7_readThing_263 ?_
                  refine x_iconst (v := 1) C dX7_readThing_266 (by decide) ?_
                  refine x_iadd C (nI_add tm 1) dX7_readThing_267 ?_
                  refine x_putf (ty := .int) C M 0 rfl rfl i_kX7_readThing_X7 11 (by decide) m_kX7_readThing_5 rfl rfl tyX7 tyX7_ok nmX7 (by decide +kernel) rfl rfl (Nat.le_of_ble_eq_true rfl) [(m, .inr (7, [.ref w1, .ref w2, .ref w3, .int (nI ns), .ref w4, .int ik, .ref w5, .int (nI ln), .int e1, .int e2, .ref w6, .int (nI (tm + 1)), .int (nI (D.2.1))])), (w5, .inl ((xG cx).2.1, 60, .inl tx)), (w6, .inl ((xG cx).2.1, 84, .inl D.2.2))] rfl dX7_readThing_268 ?_
                  refine x_iload_n C 0 dX7_readThing_271 rfl rfl ?_
                  have e_ret : rtF tx ln (sp, td, tm) = (true, (D.2.1, D.2.2, tm + 1)) := by simp +decide only [rtF, fin, thn, e_ch, c_28, c_34, c_210, c_219, c_231, Nat.not_le.mp n_8, e_A, e_B, e_D, if_true, if_false, reduceIte, Bool.false_eq_true, reduceCtorEq]
                  exact x_zret C E dX7_readThing_272 (by rw [e_ret]; exact (b2i_t rfl).symm) ((rfl : _ = ([(m, .inr (7, [.ref w1, .ref w2, .ref w3, .int (nI ns), .ref w4, .int ik, .ref w5, .int (nI ln), .int e1, .int e2, .ref w6, .int (nI ((D.2.1, D.2.2, tm + 1).2.2)), .int (nI ((D.2.1, D.2.2, tm + 1).1))])), (w5, .inl ((xG cx).2.1, 60, .inl tx)), (w6, .inl ((xG cx).2.1, 84, .inl ((D.2.1, D.2.2, tm + 1).2.1)))] : va_W)).trans (by rw [e_ret]))
          ·
            exact absurd (by decide) (c_80 6 (by decide))
        ·
          refine x_iload_n C 0 dX7_readThing_43 rfl rfl ?_
          refine x_bipush (v := 115) C dX7_readThing_44 (by decide) ?_
          refine x_icmp_eq C 57 dX7_readThing_46 (by decide) (fun c_46 => ?_) (fun c_46 => ?_)
          ·
            have n8 := Nat.not_le.mp n_8
            subst c_46
            refine x_aload_n C 1 dX7_readThing_57 rfl rfl ?_
            refine x_dup C dX7_readThing_58 rfl ?_
            refine x_getf C 0 rfl rfl i_kX7_readThing_X7 12 (by decide) m_kX7_readThing_1 rfl rfl dX7_readThing_59 ?_
            refine x_iconst (v := 1) C dX7_readThing_62 (by decide) ?_
            refine x_iadd C (nI_add sp 1) dX7_readThing_63 ?_
            refine x_putf (ty := .int) C M 0 rfl rfl i_kX7_readThing_X7 12 (by decide) m_kX7_readThing_1 rfl rfl tyX7 tyX7_ok nmX7 (by decide +kernel) rfl rfl (Nat.le_of_ble_eq_true rfl) [(m, .inr (7, [.ref w1, .ref w2, .ref w3, .int (nI ns), .ref w4, .int ik, .ref w5, .int (nI ln), .int e1, .int e2, .ref w6, .int (nI tm), .int (nI (sp + 1))])), (w5, .inl ((xG cx).2.1, 60, .inl tx)), (w6, .inl ((xG cx).2.1, 84, .inl td))] rfl dX7_readThing_64 ?_
            refine x_aload_n C 1 dX7_readThing_67 rfl rfl ?_
            refine x_getf C 0 rfl rfl i_kX7_readThing_X7 10 (by decide) m_kX7_readThing_4 rfl rfl dX7_readThing_68 ?_
            refine x_iconst (v := 4) C dX7_readThing_71 (by decide) ?_
            refine x_aload_n C 1 dX7_readThing_72 rfl rfl ?_
            refine x_getf C 0 rfl rfl i_kX7_readThing_X7 11 (by decide) m_kX7_readThing_5 rfl rfl dX7_readThing_73 ?_
            refine x_imul C (pk_mul 4 tm) dX7_readThing_76 ?_
            refine x_iload_n C 0 dX7_readThing_77 rfl rfl ?_
            refine x_iast C M 2 rfl rfl (vp_in_nI (by omega) (by decide)) (nI_clamp (by omega)) [(m, .inr (7, [.ref w1, .ref w2, .ref w3, .int (nI ns), .ref w4, .int ik, .ref w5, .int (nI ln), .int e1, .int e2, .ref w6, .int (nI tm), .int (nI (sp + 1))])), (w5, .inl ((xG cx).2.1, 60, .inl tx)), (w6, .inl ((xG cx).2.1, 84, .inl (upd td (4 * tm) 115)))] rfl dX7_readThing_78 ?_
            refine x_iload_n C 0 dX7_readThing_79 rfl rfl ?_
            refine x_tswL 112 C dX7_readThing_80 [124, 251, 251, 243, 173, 251, 203] 251 (by decide) (by decide) (by decide) ⟨fun c_80 => ?_, fun c_80 => ?_, fun c_80 => ?_, fun c_80 => ?_, fun c_80 => ?_, fun c_80 => ?_, fun c_80 => ?_, trivial⟩ (fun c_80 => ?_)
            ·
              exact absurd c_80 (by decide)
            ·
              exact absurd c_80 (by decide)
            ·
              exact absurd c_80 (by decide)
            ·
              refine x_aload_n C 1 dX7_readThing_243 rfl rfl ?_
              refine x_callVMU C ([]) ([]) [0, 1, 2] [(m, .inr (7, [.ref w1, .ref w2, .ref w3, .int (nI ns), .ref w4, .int ik, .ref w5, .int (nI ln), .int e1, .int e2, .ref w6, .int (nI tm), .int (nI ((rsF tx ln tm ((sp + 1), (upd td (4 * tm) 115))).2.1))])), (w5, .inl ((xG cx).2.1, 60, .inl tx)), (w6, .inl ((xG cx).2.1, 84, .inl ((rsF tx ln tm ((sp + 1), (upd td (4 * tm) 115))).2.2)))] [] [m, w5, w6] rfl rfl [] rfl rfl 3 rfl (by decide +kernel) rfl (k0 := 0) (na := 0) gX7_readThing_X7_readSteps rfl (by decide +kernel) rfl rfl rfl M (kX7_readSteps (xl cx) (xG cx) m w1 w2 w3 w4 w5 w6 ns ln tm (sp + 1) ik e1 e2 tx (upd td (4 * tm) 115) (by first | assumption | rfl | omega | decide) (by first | assumption | rfl | omega | decide) (by first | assumption | rfl | omega | decide)) rfl (by decide) rfl rfl rfl ⟨by decide, by decide⟩ (Nat.le_of_ble_eq_true rfl) ⟨by decide, by decide⟩ dX7_readThing_244 ?_
              generalize e_A : rsF tx ln tm ((sp + 1), (upd td (4 * tm) 115)) = A
              by_cases hA : A.1 = true
              ·
                refine x_top (y := 1) (b2i_t hA) ?_
                refine x_istore_n C [(2, .int 1), (1, .int 115), (0, .ref m)] dX7_readThing_247 rfl (by decide) rfl ?_
                refine x_goto (tgt := 261) C dX7_readThing_248 (by decide) ?_
                refine x_aload_n C 2 dX7_readThing_261 rfl rfl ?_
                refine x_dup C dX7_readThing_262 rfl ?_
                refine x_getf C 0 rfl rfl i_kX7_readThing_X7 11 (by decide) m_kX7_readThing_5 rfl rfl dX7_readThing_263 ?_
                refine x_iconst (v := 1) C dX7_readThing_266 (by decide) ?_
                refine x_iadd C (nI_add tm 1) dX7_readThing_267 ?_
                refine x_putf (ty := .int) C M 0 rfl rfl i_kX7_readThing_X7 11 (by decide) m_kX7_readThing_5 rfl rfl tyX7 tyX7_ok nmX7 (by decide +kernel) rfl rfl (Nat.le_of_ble_eq_true rfl) [(m, .inr (7, [.ref w1, .ref w2, .ref w3, .int (nI ns), .ref w4, .int ik, .ref w5, .int (nI ln), .int e1, .int e2, .ref w6, .int (nI (tm + 1)), .int (nI (A.2.1))])), (w5, .inl ((xG cx).2.1, 60, .inl tx)), (w6, .inl ((xG cx).2.1, 84, .inl A.2.2))] rfl dX7_readThing_268 ?_
                refine x_iload_n C 0 dX7_readThing_271 rfl rfl ?_
                have e_ret : rtF tx ln (sp, td, tm) = (true, (A.2.1, A.2.2, tm + 1)) := by simp +decide only [rtF, fin, thn, e_ch, c_28, c_34, c_40, hA, Nat.not_le.mp n_8, e_A, if_true, if_false, reduceIte, Bool.false_eq_true, reduceCtorEq]
                exact x_zret C E dX7_readThing_272 (by rw [e_ret]; exact (b2i_t rfl).symm) ((rfl : _ = ([(m, .inr (7, [.ref w1, .ref w2, .ref w3, .int (nI ns), .ref w4, .int ik, .ref w5, .int (nI ln), .int e1, .int e2, .ref w6, .int (nI ((A.2.1, A.2.2, tm + 1).2.2)), .int (nI ((A.2.1, A.2.2, tm + 1).1))])), (w5, .inl ((xG cx).2.1, 60, .inl tx)), (w6, .inl ((xG cx).2.1, 84, .inl ((A.2.1, A.2.2, tm + 1).2.1)))] : va_W)).trans (by rw [e_ret]))
              ·
                refine x_top (y := 0) (b2i_f hA) ?_
                refine x_istore_n C [(2, .int 0), (1, .int 115), (0, .ref m)] dX7_readThing_247 rfl (by decide) rfl ?_
                refine x_goto (tgt := 261) C dX7_readThing_248 (by decide) ?_
                refine x_aload_n C 2 dX7_readThing_261 rfl rfl ?_
                refine x_dup C dX7_readThing_262 rfl ?_
                refine x_getf C 0 rfl rfl i_kX7_readThing_X7 11 (by decide) m_kX7_readThing_5 rfl rfl dX7_readThing_263 ?_
                refine x_iconst (v := 1) C dX7_readThing_266 (by decide) ?_
                refine x_iadd C (nI_add tm 1) dX7_readThing_267 ?_
                refine x_putf (ty := .int) C M 0 rfl rfl i_kX7_readThing_X7 11 (by decide) m_kX7_readThing_5 rfl rfl tyX7 tyX7_ok nmX7 (by decide +kernel) rfl rfl (Nat.le_of_ble_eq_true rfl) [(m, .inr (7, [.ref w1, .ref w2, .ref w3, .int (nI ns), .ref w4, .int ik, .ref w5, .int (nI ln), .int e1, .int e2, .ref w6, .int (nI (tm + 1)), .int (nI (A.2.1))])), (w5, .inl ((xG cx).2.1, 60, .inl tx)), (w6, .inl ((xG cx).2.1, 84, .inl A.2.2))] rfl dX7_readThing_268 ?_
                refine x_iload_n C 0 dX7_readThing_271 rfl rfl ?_
                have e_ret : rtF tx ln (sp, td, tm) = (false, (A.2.1, A.2.2, tm + 1)) := by simp +decide only [rtF, fin, thn, e_ch, c_28, c_34, c_40, hA, Nat.not_le.mp n_8, e_A, if_true, if_false, reduceIte, Bool.false_eq_true, reduceCtorEq]
                exact x_zret C E dX7_readThing_272 (by rw [e_ret]; exact (b2i_f Bool.false_ne_true).symm) ((rfl : _ = ([(m, .inr (7, [.ref w1, .ref w2, .ref w3, .int (nI ns), .ref w4, .int ik, .ref w5, .int (nI ln), .int e1, .int e2, .ref w6, .int (nI ((A.2.1, A.2.2, tm + 1).2.2)), .int (nI ((A.2.1, A.2.2, tm + 1).1))])), (w5, .inl ((xG cx).2.1, 60, .inl tx)), (w6, .inl ((xG cx).2.1, 84, .inl ((A.2.1, A.2.2, tm + 1).2.1)))] : va_W)).trans (by rw [e_ret]))
            ·
              exact absurd c_80 (by decide)
            ·
              exact absurd c_80 (by decide)
            ·
              exact absurd c_80 (by decide)
            ·
              exact absurd (by decide) (c_80 3 (by decide))
          ·
            refine x_iload_n C 0 dX7_readThing_49 rfl rfl ?_
            refine x_bipush (v := 46) C dX7_readThing_50 (by decide) ?_
            refine x_icmp_eq C 57 dX7_readThing_52 (by decide) (fun c_52 => ?_) (fun c_52 => ?_)
            ·
              have n8 := Nat.not_le.mp n_8
              subst c_52
              refine x_aload_n C 1 dX7_readThing_57 rfl rfl ?_
              refine x_dup C dX7_readThing_58 rfl ?_
              refine x_getf C 0 rfl rfl i_kX7_readThing_X7 12 (by decide) m_kX7_readThing_1 rfl rfl dX7_readThing_59 ?_
              refine x_iconst (v := 1) C dX7_readThing_62 (by decide) ?_
              refine x_iadd C (nI_add sp 1) dX7_readThing_63 ?_
              refine x_putf (ty := .int) C M 0 rfl rfl i_kX7_readThing_X7 12 (by decide) m_kX7_readThing_1 rfl rfl tyX7 tyX7_ok nmX7 (by decide +kernel) rfl rfl (Nat.le_of_ble_eq_true rfl) [(m, .inr (7, [.ref w1, .ref w2, .ref w3, .int (nI ns), .ref w4, .int ik, .ref w5, .int (nI ln), .int e1, .int e2, .ref w6, .int (nI tm), .int (nI (sp + 1))])), (w5, .inl ((xG cx).2.1, 60, .inl tx)), (w6, .inl ((xG cx).2.1, 84, .inl td))] rfl dX7_readThing_64 ?_
              refine x_aload_n C 1 dX7_readThing_67 rfl rfl ?_
              refine x_getf C 0 rfl rfl i_kX7_readThing_X7 10 (by decide) m_kX7_readThing_4 rfl rfl dX7_readThing_68 ?_
              refine x_iconst (v := 4) C dX7_readThing_71 (by decide) ?_
              refine x_aload_n C 1 dX7_readThing_72 rfl rfl ?_
              refine x_getf C 0 rfl rfl i_kX7_readThing_X7 11 (by decide) m_kX7_readThing_5 rfl rfl dX7_readThing_73 ?_
              refine x_imul C (pk_mul 4 tm) dX7_readThing_76 ?_
              refine x_iload_n C 0 dX7_readThing_77 rfl rfl ?_
              refine x_iast C M 2 rfl rfl (vp_in_nI (by omega) (by decide)) (nI_clamp (by omega)) [(m, .inr (7, [.ref w1, .ref w2, .ref w3, .int (nI ns), .ref w4, .int ik, .ref w5, .int (nI ln), .int e1, .int e2, .ref w6, .int (nI tm), .int (nI (sp + 1))])), (w5, .inl ((xG cx).2.1, 60, .inl tx)), (w6, .inl ((xG cx).2.1, 84, .inl (upd td (4 * tm) 46)))] rfl dX7_readThing_78 ?_
              refine x_iload_n C 0 dX7_readThing_79 rfl rfl ?_
              refine x_tswL 112 C dX7_readThing_80 [124, 251, 251, 243, 173, 251, 203] 251 (by decide) (by decide) (by decide) ⟨fun c_80 => ?_, fun c_80 => ?_, fun c_80 => ?_, fun c_80 => ?_, fun c_80 => ?_, fun c_80 => ?_, fun c_80 => ?_, trivial⟩ (fun c_80 => ?_)
              ·
                exact absurd c_80 (by decide)
              ·
                exact absurd c_80 (by decide)
              ·
                exact absurd c_80 (by decide)
              ·
                exact absurd c_80 (by decide)
              ·
                exact absurd c_80 (by decide)
              ·
                exact absurd c_80 (by decide)
              ·
                exact absurd c_80 (by decide)
              ·
                refine x_aload_n C 1 dX7_readThing_251 rfl rfl ?_
                refine x_iconst (v := 1) C dX7_readThing_252 (by decide) ?_
                refine x_iconst (v := 1) C dX7_readThing_253 (by decide) ?_
                refine x_sipush (v := 999) C dX7_readThing_254 (by decide) ?_
                refine x_callVMU C ([.int 1, .int 1, .int 999]) ([]) [0, 1, 2] [(m, .inr (7, [.ref w1, .ref w2, .ref w3, .int (nI ns), .ref w4, .int ik, .ref w5, .int (nI ln), .int e1, .int e2, .ref w6, .int (nI tm), .int (nI ((nuF tx ln tm 1 1 999 ((sp + 1), (upd td (4 * tm) 46))).2.1))])), (w5, .inl ((xG cx).2.1, 60, .inl tx)), (w6, .inl ((xG cx).2.1, 84, .inl ((nuF tx ln tm 1 1 999 ((sp + 1), (upd td (4 * tm) 46))).2.2)))] [] [m, w5, w6] rfl rfl [] rfl rfl 3 rfl (by decide +kernel) rfl (k0 := 0) (na := 3) gX7_readThing_X7_number rfl (by decide +kernel) rfl rfl rfl M (kX7_number (xl cx) (xG cx) m w1 w2 w3 w4 w5 w6 ns ln tm (sp + 1) ik e1 e2 tx (upd td (4 * tm) 46) 1 1 999 (by first | assumption | rfl | omega | decide) (by first | assumption | rfl | omega | decide) (by first | assumption | rfl | omega | decide) (by first | assumption | rfl | omega | decide)) rfl (by decide) rfl rfl rfl ⟨by decide, by decide⟩ (Nat.le_of_ble_eq_true rfl) ⟨by decide, by decide⟩ dX7_readThing_257 ?_
                generalize e_A : nuF tx ln tm 1 1 999 ((sp + 1), (upd td (4 * tm) 46)) = A
                have l_A : A.2.1 ≤ ln := by rw [← e_A]; exact nuF_le (by assumption)
                by_cases hA : A.1 = true
                ·
                  refine x_top (y := 1) (b2i_t hA) ?_
                  refine x_istore_n C [(2, .int 1), (1, .int 46), (0, .ref m)] dX7_readThing_260 rfl (by decide) rfl ?_
                  refine x_aload_n C 2 dX7_readThing_261 rfl rfl ?_
                  refine x_dup C dX7_readThing_262 rfl ?_
                  refine x_getf C 0 rfl rfl i_kX7_readThing_X7 11 (by decide) m_kX7_readThing_5 rfl rfl dX7_readThing_263 ?_
                  refine x_iconst (v := 1) C dX7_readThing_266 (by decide) ?_
                  refine x_iadd C (nI_add tm 1) dX7_readThing_267 ?_
                  refine x_putf (ty := .int) C M 0 rfl rfl i_kX7_readThing_X7 11 (by decide) m_kX7_readThing_5 rfl rfl tyX7 tyX7_ok nmX7 (by decide +kernel) rfl rfl (Nat.le_of_ble_eq_true rfl) [(m, .inr (7, [.ref w1, .ref w2, .ref w3, .int (nI ns), .ref w4, .int ik, .ref w5, .int (nI ln), .int e1, .int e2, .ref w6, .int (nI (tm + 1)), .int (nI (A.2.1))])), (w5, .inl ((xG cx).2.1, 60, .inl tx)), (w6, .inl ((xG cx).2.1, 84, .inl A.2.2))] rfl dX7_readThing_268 ?_
                  refine x_iload_n C 0 dX7_readThing_271 rfl rfl ?_
                  have e_ret : rtF tx ln (sp, td, tm) = (true, (A.2.1, A.2.2, tm + 1)) := by simp +decide only [rtF, fin, thn, e_ch, c_28, c_34, c_40, c_46, hA, Nat.not_le.mp n_8, e_A, if_true, if_false, reduceIte, Bool.false_eq_true, reduceCtorEq]
                  exact x_zret C E dX7_readThing_272 (by rw [e_ret]; exact (b2i_t rfl).symm) ((rfl : _ = ([(m, .inr (7, [.ref w1, .ref w2, .ref w3, .int (nI ns), .ref w4, .int ik, .ref w5, .int (nI ln), .int e1, .int e2, .ref w6, .int (nI ((A.2.1, A.2.2, tm + 1).2.2)), .int (nI ((A.2.1, A.2.2, tm + 1).1))])), (w5, .inl ((xG cx).2.1, 60, .inl tx)), (w6, .inl ((xG cx).2.1, 84, .inl ((A.2.1, A.2.2, tm + 1).2.1)))] : va_W)).trans (by rw [e_ret]))
                ·
                  refine x_top (y := 0) (b2i_f hA) ?_
                  refine x_istore_n C [(2, .int 0), (1, .int 46), (0, .ref m)] dX7_readThing_260 rfl (by decide) rfl ?_
                  refine x_aload_n C 2 dX7_readThing_261 rfl rfl ?_
                  refine x_dup C dX7_readThing_262 rfl ?_
                  refine x_getf C 0 rfl rfl i_kX7_readThing_X7 11 (by decide) m_kX7_readThing_5 rfl rfl dX7_readThing_263 ?_
                  refine x_iconst (v := 1) C dX7_readThing_266 (by decide) ?_
                  refine x_iadd C (nI_add tm 1) dX7_readThing_267 ?_
                  refine x_putf (ty := .int) C M 0 rfl rfl i_kX7_readThing_X7 11 (by decide) m_kX7_readThing_5 rfl rfl tyX7 tyX7_ok nmX7 (by decide +kernel) rfl rfl (Nat.le_of_ble_eq_true rfl) [(m, .inr (7, [.ref w1, .ref w2, .ref w3, .int (nI ns), .ref w4, .int ik, .ref w5, .int (nI ln), .int e1, .int e2, .ref w6, .int (nI (tm + 1)), .int (nI (A.2.1))])), (w5, .inl ((xG cx).2.1, 60, .inl tx)), (w6, .inl ((xG cx).2.1, 84, .inl A.2.2))] rfl dX7_readThing_268 ?_
                  refine x_iload_n C 0 dX7_readThing_271 rfl rfl ?_
                  have e_ret : rtF tx ln (sp, td, tm) = (false, (A.2.1, A.2.2, tm + 1)) := by simp +decide only [rtF, fin, thn, e_ch, c_28, c_34, c_40, c_46, hA, Nat.not_le.mp n_8, e_A, if_true, if_false, reduceIte, Bool.false_eq_true, reduceCtorEq]
                  exact x_zret C E dX7_readThing_272 (by rw [e_ret]; exact (b2i_f Bool.false_ne_true).symm) ((rfl : _ = ([(m, .inr (7, [.ref w1, .ref w2, .ref w3, .int (nI ns), .ref w4, .int ik, .ref w5, .int (nI ln), .int e1, .int e2, .ref w6, .int (nI ((A.2.1, A.2.2, tm + 1).2.2)), .int (nI ((A.2.1, A.2.2, tm + 1).1))])), (w5, .inl ((xG cx).2.1, 60, .inl tx)), (w6, .inl ((xG cx).2.1, 84, .inl ((A.2.1, A.2.2, tm + 1).2.1)))] : va_W)).trans (by rw [e_ret]))
            ·
              refine x_iconst (v := 0) C dX7_readThing_55 (by decide) ?_
              have e_ret : rtF tx ln (sp, td, tm) = (false, (sp, td, tm)) := by simp +decide only [rtF, fin, thn, e_ch, c_28, c_34, c_40, c_46, c_52, Nat.not_le.mp n_8, if_true, if_false, reduceIte, Bool.false_eq_true, reduceCtorEq]
              exact x_zret C E dX7_readThing_56 (by rw [e_ret]; exact (b2i_f Bool.false_ne_true).symm) ((rfl : _ = ([(m, .inr (7, [.ref w1, .ref w2, .ref w3, .int (nI ns), .ref w4, .int ik, .ref w5, .int (nI ln), .int e1, .int e2, .ref w6, .int (nI ((sp, td, tm).2.2)), .int (nI ((sp, td, tm).1))])), (w5, .inl ((xG cx).2.1, 60, .inl tx)), (w6, .inl ((xG cx).2.1, 84, .inl ((sp, td, tm).2.1)))] : va_W)).trans (by rw [e_ret]))
