def apN (ln : Nat) : Nat := if ln < 60 then ln + 1 else ln
def apF (f : Nat → Int32) (ln : Nat) (x : Int32) : Nat → Int32 := if ln < 60 then upd f ln (vp_nar .char x) else f
def apR (ln : Nat) : Int32 := if ln < 60 then nI (ln + 1) else -1003
/-- the text's fault, its things so far, the reader -/
def ffL (f : Nat → Int32) (ln : Nat) : Nat → Nat → TX → Int32 → Int32 × (Int32 × TX)
  | 0, _, T, th => (nI (tP T), (th, T))
  | n + 1, r, T, th => if (rdT f ln T).1 = true then
      (if tP (rdT f ln T).2 = ln then (-1, (nI r, (rdT f ln T).2))
       else if (rdS f ln (rdT f ln T).2 59).1 = true then ffL f ln n (r + 1) (rdS f ln (rdT f ln T).2 59).2 (nI r) else (nI (tP (rdS f ln (rdT f ln T).2 59).2), (nI r, (rdS f ln (rdT f ln T).2 59).2)))
    else (nI (tP (rdT f ln T).2), (th, (rdT f ln T).2))
theorem ffL_s (f : Nat → Int32) (ln n r : Nat) (T : TX) (th : Int32) : ffL f ln (n + 1) r T th = if (rdT f ln T).1 = true then
      (if tP (rdT f ln T).2 = ln then (-1, (nI r, (rdT f ln T).2))
       else if (rdS f ln (rdT f ln T).2 59).1 = true then ffL f ln n (r + 1) (rdS f ln (rdT f ln T).2 59).2 (nI r) else (nI (tP (rdS f ln (rdT f ln T).2 59).2), (nI r, (rdS f ln (rdT f ln T).2 59).2)))
    else (nI (tP (rdT f ln T).2), (th, (rdT f ln T).2)) := rfl

theorem i_kX5_empty_X5 : ∀ w ∈ u_ws RX5 TX5 10, w ∈ wsX5_empty := by decide +kernel
theorem m_kX5_empty_1 : (Cond.fieldLink RX5 9 "LampRacks$Text" "length" "I" : Cond) ∈ wsX5_empty := by decide +kernel
set_option maxRecDepth 100000 in
set_option maxHeartbeats 4000000 in
theorem kX5_empty (l : Launch) (G : GG) (b : Nat) (q : Nat) (ln : Nat) (f : Nat → Int32) (th : Int32) (T : TX)  : MU l G yX5_empty wsX5_empty ({ frames := 0, cells := 0, slots := 0, locals := 0 } : Room) [.ref b] [(b, .inr (5, [.int (nI ln), .ref q, .int (nI (tP T)), .int th, .int (tK T), .int (tR T), .int (tL T), .int (tH T), .int (tD T), .int (tN T)])), (q, .inl (G.2.2.1, 60, .inl f))] (some (.int (nI ln))) [(b, .inr (5, [.int (nI 0), .ref q, .int (nI (tP T)), .int th, .int (tK T), .int (tR T), .int (tL T), .int (tH T), .int (tD T), .int (tN T)])), (q, .inl (G.2.2.1, 60, .inl f))] := by
  refine MU.of (cc := cX5_empty) (maxL := 2) (ret := (some .int)) (by decide) rfl (Nat.le_of_ble_eq_true rfl) ?_
  intro cx hxl hxG C M E
  subst hxl
  subst hxG
  show X cx (0, 0) [(b, .inr (5, [.int (nI ln), .ref q, .int (nI (tP T)), .int th, .int (tK T), .int (tR T), .int (tL T), .int (tH T), .int (tD T), .int (tN T)])), (q, .inl ((xG cx).2.2.1, 60, .inl f))] [(0, .ref b)] 0 []
  refine x_aload_n C 0 dX5_empty_0 rfl rfl ?_
  refine x_getf C 0 rfl rfl i_kX5_empty_X5 0 (by decide) m_kX5_empty_1 rfl rfl dX5_empty_1 ?_
  refine x_istore_n C [(1, .int (nI ln)), (0, .ref b)] dX5_empty_4 rfl (by decide) rfl ?_
  refine x_aload_n C 1 dX5_empty_5 rfl rfl ?_
  refine x_iconst (v := 0) C dX5_empty_6 (by decide) ?_
  refine x_putf (ty := .int) C M 0 rfl rfl i_kX5_empty_X5 0 (by decide) m_kX5_empty_1 rfl rfl tyX5 tyX5_ok nmX5 (by decide +kernel) rfl rfl (Nat.le_of_ble_eq_true rfl) [(b, .inr (5, [.int 0, .ref q, .int (nI (tP T)), .int th, .int (tK T), .int (tR T), .int (tL T), .int (tH T), .int (tD T), .int (tN T)])), (q, .inl ((xG cx).2.2.1, 60, .inl f))] rfl dX5_empty_7 ?_
  refine x_iload_n C 0 dX5_empty_10 rfl rfl ?_
  exact x_iret C E dX5_empty_11 (rfl) (rfl)

theorem i_kX5_startReading_X5 : ∀ w ∈ u_ws RX5 TX5 10, w ∈ wsX5_startReading := by decide +kernel
theorem m_kX5_startReading_1 : (Cond.fieldLink RX5 19 "LampRacks$Text" "position" "I" : Cond) ∈ wsX5_startReading := by decide +kernel
set_option maxRecDepth 100000 in
set_option maxHeartbeats 4000000 in
theorem kX5_startReading (l : Launch) (G : GG) (b : Nat) (q : Nat) (ln : Nat) (f : Nat → Int32) (th : Int32) (T : TX)  : MU l G yX5_startReading wsX5_startReading ({ frames := 0, cells := 0, slots := 0, locals := 0 } : Room) [.ref b] (txW G b q ln f th T) none (txW G b q ln f th (uP T 0)) := by
  refine MU.of (cc := cX5_startReading) (maxL := 1) (ret := none) (by decide) rfl (Nat.le_of_ble_eq_true rfl) ?_
  intro cx hxl hxG C M E
  subst hxl
  subst hxG
  show X cx (0, 0) [(b, .inr (5, [.int (nI ln), .ref q, .int (nI (tP T)), .int th, .int (tK T), .int (tR T), .int (tL T), .int (tH T), .int (tD T), .int (tN T)])), (q, .inl ((xG cx).2.2.1, 60, .inl f))] [(0, .ref b)] 0 []
  refine x_aload_n C 0 dX5_startReading_0 rfl rfl ?_
  refine x_iconst (v := 0) C dX5_startReading_1 (by decide) ?_
  refine x_putf (ty := .int) C M 0 rfl rfl i_kX5_startReading_X5 2 (by decide) m_kX5_startReading_1 rfl rfl tyX5 tyX5_ok nmX5 (by decide +kernel) rfl rfl (Nat.le_of_ble_eq_true rfl) [(b, .inr (5, [.int (nI ln), .ref q, .int 0, .int th, .int (tK T), .int (tR T), .int (tL T), .int (tH T), .int (tD T), .int (tN T)])), (q, .inl ((xG cx).2.2.1, 60, .inl f))] rfl dX5_startReading_2 ?_
  exact x_vret C E dX5_startReading_5 (rfl)

theorem i_kX5_findFault_X5 : ∀ w ∈ u_ws RX5 TX5 10, w ∈ wsX5_findFault := by decide +kernel
theorem m_kX5_findFault_1 : (Cond.fieldLink RX5 22 "LampRacks$Text" "things" "I" : Cond) ∈ wsX5_findFault := by decide +kernel
theorem m_kX5_findFault_2 : (Cond.fieldLink RX5 19 "LampRacks$Text" "position" "I" : Cond) ∈ wsX5_findFault := by decide +kernel
theorem m_kX5_findFault_3 : (Cond.fieldLink RX5 9 "LampRacks$Text" "length" "I" : Cond) ∈ wsX5_findFault := by decide +kernel
set_option maxRecDepth 100000 in
set_option maxHeartbeats 4000000 in
theorem kX5_findFault (l : Launch) (G : GG) (b : Nat) (q : Nat) (ln : Nat) (f : Nat → Int32) (th : Int32) (T : TX) (hln : ln ≤ 60) : MU l G yX5_findFault wsX5_findFault ({ frames := 5, cells := 0, slots := 0, locals := 105 } : Room) [.ref b] (txW G b q ln f th T) (some (.int ((ffL f ln 60 1 (uP T 0) 0).1))) (txW G b q ln f (ffL f ln 60 1 (uP T 0) 0).2.1 (ffL f ln 60 1 (uP T 0) 0).2.2) := by
  refine MU.of (cc := cX5_findFault) (maxL := 2) (ret := (some .int)) (by decide) rfl (Nat.le_of_ble_eq_true rfl) ?_
  intro cx hxl hxG C M E
  subst hxl
  subst hxG
  show X cx (0, 0) [(b, .inr (5, [.int (nI ln), .ref q, .int (nI (tP T)), .int th, .int (tK T), .int (tR T), .int (tL T), .int (tH T), .int (tD T), .int (tN T)])), (q, .inl ((xG cx).2.2.1, 60, .inl f))] [(0, .ref b)] 0 []
  refine x_aload_n C 0 dX5_findFault_0 rfl rfl ?_
  refine x_callVMU C ([]) ([]) [0, 1] [(b, .inr (5, [.int (nI ln), .ref q, .int (nI (tP (uP T 0))), .int th, .int (tK (uP T 0)), .int (tR (uP T 0)), .int (tL (uP T 0)), .int (tH (uP T 0)), .int (tD (uP T 0)), .int (tN (uP T 0))])), (q, .inl ((xG cx).2.2.1, 60, .inl f))] [] [b, q] rfl rfl [] rfl rfl 2 rfl (by decide +kernel) rfl (k0 := 0) (na := 0) gX5_findFault_X5_startReading rfl (by decide +kernel) rfl rfl rfl M (kX5_startReading (xl cx) (xG cx) b q ln f th T) rfl (by decide) rfl rfl rfl ⟨by decide, by decide⟩ (Nat.le_of_ble_eq_true rfl) ⟨by decide, by decide⟩ dX5_findFault_1 ?_
  refine x_aload_n C 0 dX5_findFault_4 rfl rfl ?_
  refine x_iconst (v := 0) C dX5_findFault_5 (by decide) ?_
  refine x_putf (ty := .int) C M 0 rfl rfl i_kX5_findFault_X5 3 (by decide) m_kX5_findFault_1 rfl rfl tyX5 tyX5_ok nmX5 (by decide +kernel) rfl rfl (Nat.le_of_ble_eq_true rfl) [(b, .inr (5, [.int (nI ln), .ref q, .int (nI (tP (uP T 0))), .int 0, .int (tK (uP T 0)), .int (tR (uP T 0)), .int (tL (uP T 0)), .int (tH (uP T 0)), .int (tD (uP T 0)), .int (tN (uP T 0))])), (q, .inl ((xG cx).2.2.1, 60, .inl f))] rfl dX5_findFault_6 ?_
  refine x_iconst (v := 1) C dX5_findFault_9 (by decide) ?_
  refine x_istore_n C [(1, .int 1), (0, .ref b)] dX5_findFault_10 rfl (by decide) rfl ?_
  have loop_11 : ∀ (zz : Nat) (r : Nat) (T1 : TX) (th1 : Int32) (hr : 1 ≤ r ∧ r ≤ 61) (hz : 62 ≤ r + zz) (hp1 : tP T1 ≤ ln) (e : ffL f ln (61 - r) r T1 th1 = ffL f ln 60 1 (uP T 0) 0), X cx (0, 0) [(b, .inr (5, [.int (nI ln), .ref q, .int (nI (tP T1)), .int th1, .int (tK T1), .int (tR T1), .int (tL T1), .int (tH T1), .int (tD T1), .int (tN T1)])), (q, .inl ((xG cx).2.2.1, 60, .inl f))] [(0, .ref b), (1, .int (nI r))] 11 [] := by
    intro zz
    induction zz with
    | zero =>
      intro r T1 th1 hr hz hp1 e
      exfalso; omega
    | succ zz ih =>
      intro r T1 th1 hr hz hp1 e
      refine x_iload_n C 1 dX5_findFault_11 rfl rfl ?_
      refine x_bipush (v := 60) C dX5_findFault_12 (by decide) ?_
      refine x_icmp_gt C 67 dX5_findFault_14 (by decide) (fun c_14 => ?_) (fun c_14 => ?_)
      ·
        have n_14 : 60 < r := (nI_ltI (a := 60) (b := r) (by omega) (by omega)).mp c_14
        refine x_aload_n C 0 dX5_findFault_67 rfl rfl ?_
        refine x_getf C 0 rfl rfl i_kX5_findFault_X5 2 (by decide) m_kX5_findFault_2 rfl rfl dX5_findFault_68 ?_
        have e_ret : ffL f ln 60 1 (uP T 0) 0 = (nI (tP T1), (th1, T1)) := by rw [← e, show 61 - r = 0 from by omega]; rfl
        exact x_iret C E dX5_findFault_71 (by rw [e_ret]) ((rfl : _ = txW (xG cx) b q ln f (th1, T1).1 (th1, T1).2).trans (by rw [e_ret]))
      ·
        have n_14 : ¬ (60 < r) := fun q => c_14 ((nI_ltI (a := 60) (b := r) (by omega) (by omega)).mpr q)
        refine x_aload_n C 0 dX5_findFault_17 rfl rfl ?_
        refine x_callVMU C ([]) ([]) [0, 1] [(b, .inr (5, [.int (nI ln), .ref q, .int (nI (tP ((rdT f ln T1).2))), .int th1, .int (tK ((rdT f ln T1).2)), .int (tR ((rdT f ln T1).2)), .int (tL ((rdT f ln T1).2)), .int (tH ((rdT f ln T1).2)), .int (tD ((rdT f ln T1).2)), .int (tN ((rdT f ln T1).2))])), (q, .inl ((xG cx).2.2.1, 60, .inl f))] [] [b, q] rfl rfl [] rfl rfl 2 rfl (by decide +kernel) rfl (k0 := 0) (na := 0) gX5_findFault_X5_readThing rfl (by decide +kernel) rfl rfl rfl M (kX5_readThing (xl cx) (xG cx) b q ln f th1 T1 (hln) (by (repeat (first | with_reducible assumption | with_reducible apply pos_S58 | with_reducible apply pos_S45 | with_reducible apply pos_S43 | with_reducible apply pos_S46 | with_reducible apply pos_S112 | with_reducible apply pos_S115 | with_reducible apply pos_S116 | with_reducible apply pos_S118 | with_reducible apply pos_S59 | with_reducible apply pos_N0_99 | with_reducible apply pos_N0_50 | with_reducible apply pos_N0_300 | with_reducible apply pos_N1_999 | with_reducible apply pos_D | with_reducible apply pos_Rk | with_reducible apply pos_Sp | with_reducible apply pos_RC | with_reducible apply pos_Dir | with_reducible apply pos_St | with_reducible apply pos_T)))) rfl (by decide) rfl rfl rfl ⟨by decide, by decide⟩ (Nat.le_of_ble_eq_true rfl) ⟨by decide, by decide⟩ dX5_findFault_18 ?_
        refine x_ifb_ne (P := (rdT f ln T1).1 = true) C 29 dX5_findFault_21 (by decide) (fun c_21 => ?_) (fun c_21 => ?_)
        ·
          refine x_aload_n C 0 dX5_findFault_29 rfl rfl ?_
          refine x_iload_n C 1 dX5_findFault_30 rfl rfl ?_
          refine x_putf (ty := .int) C M 0 rfl rfl i_kX5_findFault_X5 3 (by decide) m_kX5_findFault_1 rfl rfl tyX5 tyX5_ok nmX5 (by decide +kernel) rfl rfl (Nat.le_of_ble_eq_true rfl) [(b, .inr (5, [.int (nI ln), .ref q, .int (nI (tP ((rdT f ln T1).2))), .int (nI r), .int (tK ((rdT f ln T1).2)), .int (tR ((rdT f ln T1).2)), .int (tL ((rdT f ln T1).2)), .int (tH ((rdT f ln T1).2)), .int (tD ((rdT f ln T1).2)), .int (tN ((rdT f ln T1).2))])), (q, .inl ((xG cx).2.2.1, 60, .inl f))] rfl dX5_findFault_31 ?_
          have hp2 : tP (rdT f ln T1).2 ≤ ln := pos_T hp1
          refine x_aload_n C 0 dX5_findFault_34 rfl rfl ?_
          refine x_getf C 0 rfl rfl i_kX5_findFault_X5 2 (by decide) m_kX5_findFault_2 rfl rfl dX5_findFault_35 ?_
          refine x_aload_n C 0 dX5_findFault_38 rfl rfl ?_
          refine x_getf C 0 rfl rfl i_kX5_findFault_X5 0 (by decide) m_kX5_findFault_3 rfl rfl dX5_findFault_39 ?_
          refine x_icmp_ne C 47 dX5_findFault_42 (by decide) (fun c_42 => ?_) (fun c_42 => ?_)
          ·
            have n_42 : ¬ ((tP ((rdT f ln T1).2)) = ln) := fun q => c_42 ((nI_eq (a := tP ((rdT f ln T1).2)) (b := ln) (by omega) (by omega)).mpr q)
            refine x_aload_n C 0 dX5_findFault_47 rfl rfl ?_
            refine x_bipush (v := 59) C dX5_findFault_48 (by decide) ?_
            refine x_callVMU C ([.int 59]) ([]) [0, 1] [(b, .inr (5, [.int (nI ln), .ref q, .int (nI (tP ((rdS f ln ((rdT f ln T1).2) 59).2))), .int (nI r), .int (tK ((rdS f ln ((rdT f ln T1).2) 59).2)), .int (tR ((rdS f ln ((rdT f ln T1).2) 59).2)), .int (tL ((rdS f ln ((rdT f ln T1).2) 59).2)), .int (tH ((rdS f ln ((rdT f ln T1).2) 59).2)), .int (tD ((rdS f ln ((rdT f ln T1).2) 59).2)), .int (tN ((rdS f ln ((rdT f ln T1).2) 59).2))])), (q, .inl ((xG cx).2.2.1, 60, .inl f))] [] [b, q] rfl rfl [] rfl rfl 2 rfl (by decide +kernel) rfl (k0 := 0) (na := 1) gX5_findFault_X5_readSign rfl (by decide +kernel) rfl rfl rfl M (kX5_readSign (xl cx) (xG cx) b q ln f (nI r) ((rdT f ln T1).2) 59 (hln) (by (repeat (first | with_reducible assumption | with_reducible apply pos_S58 | with_reducible apply pos_S45 | with_reducible apply pos_S43 | with_reducible apply pos_S46 | with_reducible apply pos_S112 | with_reducible apply pos_S115 | with_reducible apply pos_S116 | with_reducible apply pos_S118 | with_reducible apply pos_S59 | with_reducible apply pos_N0_99 | with_reducible apply pos_N0_50 | with_reducible apply pos_N0_300 | with_reducible apply pos_N1_999 | with_reducible apply pos_D | with_reducible apply pos_Rk | with_reducible apply pos_Sp | with_reducible apply pos_RC | with_reducible apply pos_Dir | with_reducible apply pos_St | with_reducible apply pos_T)))) rfl (by decide) rfl rfl rfl ⟨by decide, by decide⟩ (Nat.le_of_ble_eq_true rfl) ⟨by decide, by decide⟩ dX5_findFault_50 ?_
            refine x_ifb_ne (P := (rdS f ln ((rdT f ln T1).2) 59).1 = true) C 61 dX5_findFault_53 (by decide) (fun c_53 => ?_) (fun c_53 => ?_)
            ·
              refine x_iinc C 1 [(1, .int (nI (r + 1))), (0, .ref b)] dX5_findFault_61 rfl (inc1 r) (by decide) rfl ?_
              refine x_goto (tgt := 11) C dX5_findFault_64 (by decide) ?_
              refine x_lv [(0, .ref b), (1, .int (nI (r + 1)))] [1, 0] rfl ?_
              exact ih (r + 1) ((rdS f ln ((rdT f ln T1).2) 59).2) (nI r) (by omega) (by omega) (pos_S59 (pos_T hp1)) (by rw [← e, show 61 - r = (61 - (r + 1)) + 1 from by omega, ffL_s, if_pos c_21, if_neg (fun q => n_42 q), if_pos c_53])
            ·
              refine x_aload_n C 0 dX5_findFault_56 rfl rfl ?_
              refine x_getf C 0 rfl rfl i_kX5_findFault_X5 2 (by decide) m_kX5_findFault_2 rfl rfl dX5_findFault_57 ?_
              have e_ret : ffL f ln 60 1 (uP T 0) 0 = (nI (tP ((rdS f ln ((rdT f ln T1).2) 59).2)), (nI r, (rdS f ln (rdT f ln T1).2 59).2)) := by rw [← e, show 61 - r = (61 - (r + 1)) + 1 from by omega, ffL_s, if_pos c_21, if_neg (fun q => n_42 q), if_neg c_53]
              exact x_iret C E dX5_findFault_60 (by rw [e_ret]) ((rfl : _ = txW (xG cx) b q ln f (nI r, (rdS f ln (rdT f ln T1).2 59).2).1 (nI r, (rdS f ln (rdT f ln T1).2 59).2).2).trans (by rw [e_ret]))
          ·
            have n_42 : (tP ((rdT f ln T1).2)) = ln := (nI_eq (a := tP ((rdT f ln T1).2)) (b := ln) (by omega) (by omega)).mp c_42
            refine x_iconst (v := (-1)) C dX5_findFault_45 (by decide) ?_
            have e_ret : ffL f ln 60 1 (uP T 0) 0 = ((-1), (nI r, (rdT f ln T1).2)) := by rw [← e, show 61 - r = (61 - (r + 1)) + 1 from by omega, ffL_s, if_pos c_21, if_pos n_42]
            exact x_iret C E dX5_findFault_46 (by rw [e_ret]) ((rfl : _ = txW (xG cx) b q ln f (nI r, (rdT f ln T1).2).1 (nI r, (rdT f ln T1).2).2).trans (by rw [e_ret]))
        ·
          refine x_aload_n C 0 dX5_findFault_24 rfl rfl ?_
          refine x_getf C 0 rfl rfl i_kX5_findFault_X5 2 (by decide) m_kX5_findFault_2 rfl rfl dX5_findFault_25 ?_
          have e_ret : ffL f ln 60 1 (uP T 0) 0 = (nI (tP ((rdT f ln T1).2)), (th1, (rdT f ln T1).2)) := by rw [← e, show 61 - r = (61 - (r + 1)) + 1 from by omega, ffL_s, if_neg c_21]
          exact x_iret C E dX5_findFault_28 (by rw [e_ret]) ((rfl : _ = txW (xG cx) b q ln f (th1, (rdT f ln T1).2).1 (th1, (rdT f ln T1).2).2).trans (by rw [e_ret]))
  refine x_lv [(0, .ref b), (1, .int (nI 1))] [1, 0] rfl ?_
  exact loop_11 (61) 1 (uP T 0) 0 (by omega) (by omega) (Nat.zero_le _) (rfl)
