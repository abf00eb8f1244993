def ysR (z : Nat → Int32) (n : Nat) : Nat → (Nat → Int32)
  | 0 => z
  | k + 1 => (hrS (ysR z n k) n).1
theorem ysR_s (z : Nat → Int32) (n k : Nat) : ysR z n (k + 1) = (hrS (ysR z n k) n).1 := rfl
theorem ysR_ok {z : Nat → Int32} {n : Nat} (h : okZ z n) : ∀ k, okZ (ysR z n k) n
  | 0 => h
  | k + 1 => hrS_ok (ysR_ok h k)
/-- what ended in hour k -/
def esR (z : Nat → Int32) (n : Nat) : Nat → Int32
  | 0 => 0
  | k + 1 => (hrS (ysR z n k) n).2
theorem esR_s (z : Nat → Int32) (n k : Nat) : esR z n (k + 1) = (hrS (ysR z n k) n).2 := rfl
def nxI (z : Nat → Int32) (n : Nat) : Nat → Nat → Nat
  | i, 0 => i
  | i, d + 1 => if esR z n i = 0 then nxI z n (i + 1) d else i
theorem nxI_s (z : Nat → Int32) (n i d : Nat) : nxI z n i (d + 1) = if esR z n i = 0 then nxI z n (i + 1) d else i := rfl
def K3 : Nat := 3000
/-- the hour of the next end, or the last that is looked at -/
def nxQ (z : Nat → Int32) (n : Nat) : Nat := nxI z n 0 K3
def nxF (z : Nat → Int32) (n : Nat) : Int32 := if esR z n (nxQ z n) = 0 then -1005 else feR (ysR z n (nxQ z n)) (ysR z n (nxQ z n) 2) n n
def nxA (z : Nat → Int32) (n : Nat) (w : Int32) : Int32 := if 0 ≤ w ∧ w ≤ 1 then (if esR z n (nxQ z n) = 0 then nxF z n else if w = 0 then nxF z n else nI (nxQ z n)) else -1002
theorem nx_stop {z : Nat → Int32} {n i d : Nat} (h : ¬ esR z n i = 0) (hd : i + d = K3) (e : nxI z n i d = nxQ z n) : i = nxQ z n := by
  rw [← e]
  cases d with
  | zero => rfl
  | succ d => rw [nxI_s, if_neg h]
theorem nx_end {z : Nat → Int32} {n i d : Nat} (h : K3 ≤ i) (hd : i + d = K3) (e : nxI z n i d = nxQ z n) : i = nxQ z n := by
  rw [← e, show d = 0 from by omega]
  rfl
theorem nx_go {z : Nat → Int32} {n i d : Nat} (h : esR z n i = 0) (h2 : ¬ K3 ≤ i) (hd : i + d = K3) (e : nxI z n i d = nxQ z n) : nxI z n (i + 1) (d - 1) = nxQ z n := by
  rw [← e]
  cases d with
  | zero => exact absurd (show K3 ≤ i from by omega) h2
  | succ d =>
    rw [nxI_s, if_pos h]
    rfl

set_option maxRecDepth 100000 in
set_option maxHeartbeats 4000000 in
theorem kX7_passNow (l : Launch) (G : GG) (m : Nat) (w1 : Nat) (w2 : Nat) (w3 : Nat) (w4 : Nat) (w5 : Nat) (w6 : Nat) (ns : Nat) (ln : Nat) (tm : Nat) (sp : Nat) (ik : Int32) (e1 : Int32) (e2 : Int32) (z : Nat → Int32) (n : Nat) (h : Nat) (hok : okZ z n) (hh : h ≤ 999) : MU l G yX7_passNow wsX7_passNow ({ frames := 4, cells := 0, slots := 0, locals := 88 } : Room) [.ref m, .int (nI h)] [(m, .inr (7, [.ref w1, .ref w2, .ref w3, .int (nI ns), .ref w4, .int ik, .ref w5, .int (nI ln), .int e1, .int e2, .ref w6, .int (nI tm), .int (nI sp)])), (w1, .inl (G.2.1, 508, .inl z))] (some (.int ((phR z n h).2))) [(m, .inr (7, [.ref w1, .ref w2, .ref w3, .int (nI ns), .ref w4, .int ik, .ref w5, .int (nI ln), .int e1, .int e2, .ref w6, .int (nI tm), .int (nI sp)])), (w1, .inl (G.2.1, 508, .inl ((phR z n h).1)))] := by
  refine MU.of (cc := cX7_passNow) (maxL := 4) (ret := (some .int)) (by decide) rfl (Nat.le_of_ble_eq_true rfl) ?_
  intro cx hxl hxG C M E
  subst hxl
  subst hxG
  show X cx (0, 0) [(m, .inr (7, [.ref w1, .ref w2, .ref w3, .int (nI ns), .ref w4, .int ik, .ref w5, .int (nI ln), .int e1, .int e2, .ref w6, .int (nI tm), .int (nI sp)])), (w1, .inl ((xG cx).2.1, 508, .inl z))] [(0, .ref m), (1, .int (nI h))] 0 []
  refine x_iconst (v := 0) C dX7_passNow_0 (by decide) ?_
  refine x_istore_n C [(2, .int 0), (0, .ref m), (1, .int (nI h))] dX7_passNow_1 rfl (by decide) rfl ?_
  refine x_iconst (v := 0) C dX7_passNow_2 (by decide) ?_
  refine x_istore_n C [(3, .int 0), (2, .int 0), (0, .ref m), (1, .int (nI h))] dX7_passNow_3 rfl (by decide) rfl ?_
  have loop_4 : ∀ (zz : Nat) (i : Nat) (acc : Int32) (y : Nat → Int32) (hi : i ≤ h) (hz : h + 1 ≤ i + zz) (ey : phR z n i = (y, acc)) (hoy : okZ y n), X cx (0, 0) [(m, .inr (7, [.ref w1, .ref w2, .ref w3, .int (nI ns), .ref w4, .int ik, .ref w5, .int (nI ln), .int e1, .int e2, .ref w6, .int (nI tm), .int (nI sp)])), (w1, .inl ((xG cx).2.1, 508, .inl y))] [(0, .ref m), (1, .int (nI h)), (2, .int acc), (3, .int (nI i))] 4 [] := by
    intro zz
    induction zz with
    | zero =>
      intro i acc y hi hz ey hoy
      exfalso; omega
    | succ zz ih =>
      intro i acc y hi hz ey hoy
      refine x_iload_n C 3 dX7_passNow_4 rfl rfl ?_
      refine x_iload_n C 1 dX7_passNow_5 rfl rfl ?_
      refine x_icmp_ge C 22 dX7_passNow_6 (by decide) (fun c_6 => ?_) (fun c_6 => ?_)
      ·
        have n_6 : h ≤ i := (nI_leI (a := h) (b := i) (by omega) (by omega)).mp c_6
        refine x_iload_n C 2 dX7_passNow_22 rfl rfl ?_
        exact x_iret C E dX7_passNow_23 (by rw [show h = i from by omega, ey]) (by rw [show h = i from by omega, ey])
      ·
        have n_6 : ¬ (h ≤ i) := fun q => c_6 ((nI_leI (a := h) (b := i) (by omega) (by omega)).mpr q)
        refine x_iload_n C 2 dX7_passNow_9 rfl rfl ?_
        refine x_aload_n C 0 dX7_passNow_10 rfl rfl ?_
        refine x_callVMU C ([]) ([.int acc]) [0, 1] [(m, .inr (7, [.ref w1, .ref w2, .ref w3, .int (nI ns), .ref w4, .int ik, .ref w5, .int (nI ln), .int e1, .int e2, .ref w6, .int (nI tm), .int (nI sp)])), (w1, .inl ((xG cx).2.1, 508, .inl ((hrS y n).1)))] [] [m, w1] rfl rfl [] rfl rfl 2 rfl (by decide +kernel) rfl (k0 := 0) (na := 0) gX7_passNow_X7_anHour rfl (by decide +kernel) rfl rfl rfl M (kX7_anHour (xl cx) (xG cx) m w1 w2 w3 w4 w5 w6 ns ln tm sp ik e1 e2 y n (hoy)) rfl (by decide) rfl rfl rfl ⟨by decide, by decide⟩ (Nat.le_of_ble_eq_true rfl) ⟨by decide, by decide⟩ dX7_passNow_11 ?_
        refine x_iadd C (rfl) dX7_passNow_14 ?_
        refine x_istore_n C [(2, .int (acc + ((hrS y n).2))), (0, .ref m), (1, .int (nI h)), (3, .int (nI i))] dX7_passNow_15 rfl (by decide) rfl ?_
        refine x_iinc C 3 [(3, .int (nI (i + 1))), (2, .int (acc + ((hrS y n).2))), (0, .ref m), (1, .int (nI h))] dX7_passNow_16 rfl (inc1 i) (by decide) rfl ?_
        refine x_goto (tgt := 4) C dX7_passNow_19 (by decide) ?_
        refine x_lv [(0, .ref m), (1, .int (nI h)), (2, .int (acc + ((hrS y n).2))), (3, .int (nI (i + 1)))] [2, 3, 1, 0] rfl ?_
        exact ih (i + 1) (acc + ((hrS y n).2)) ((hrS y n).1) (by omega) (by omega) (by rw [phR_s, ey]) (hrS_ok hoy)
  refine x_lv [(0, .ref m), (1, .int (nI h)), (2, .int 0), (3, .int (nI 0))] [2, 3, 1, 0] rfl ?_
  exact loop_4 (h + 1) 0 0 z (by omega) (by omega) (rfl) (hok)

set_option maxRecDepth 100000 in
set_option maxHeartbeats 4000000 in
theorem kX7_pass (l : Launch) (G : GG) (m : Nat) (w1 : Nat) (w2 : Nat) (w3 : Nat) (w4 : Nat) (w5 : Nat) (w6 : Nat) (ns : Nat) (ln : Nat) (tm : Nat) (sp : Nat) (ik : Int32) (e1 : Int32) (e2 : Int32) (z : Nat → Int32) (f : Nat → Int32) (n : Nat) (h : Int32) (hs : ns ≤ 4) (hn : n ≤ 60) (hz3 : z 3 = nI n) (hok : okZ z n) : MU l G yX7_pass wsX7_pass ({ frames := 5, cells := 0, slots := 0, locals := 111 } : Room) [.ref m, .int h] [(m, .inr (7, [.ref w1, .ref w2, .ref w3, .int (nI ns), .ref w4, .int ik, .ref w5, .int (nI ln), .int e1, .int e2, .ref w6, .int (nI tm), .int (nI sp)])), (w1, .inl (G.2.1, 508, .inl z)), (w3, .inl (G.2.1, 2032, .inl f))] (some (.int ((psR z f ns n h).1))) [(m, .inr (7, [.ref w1, .ref w2, .ref w3, .int (nI ((psR z f ns n h).2.2.2)), .ref w4, .int ik, .ref w5, .int (nI ln), .int e1, .int e2, .ref w6, .int (nI tm), .int (nI sp)])), (w1, .inl (G.2.1, 508, .inl ((psR z f ns n h).2.1))), (w3, .inl (G.2.1, 2032, .inl ((psR z f ns n h).2.2.1)))] := by
  refine MU.of (cc := cX7_pass) (maxL := 3) (ret := (some .int)) (by decide) rfl (Nat.le_of_ble_eq_true rfl) ?_
  intro cx hxl hxG C M E
  subst hxl
  subst hxG
  show X cx (0, 0) [(m, .inr (7, [.ref w1, .ref w2, .ref w3, .int (nI ns), .ref w4, .int ik, .ref w5, .int (nI ln), .int e1, .int e2, .ref w6, .int (nI tm), .int (nI sp)])), (w1, .inl ((xG cx).2.1, 508, .inl z)), (w3, .inl ((xG cx).2.1, 2032, .inl f))] [(0, .ref m), (1, .int h)] 0 []
  refine x_aload_n C 0 dX7_pass_0 rfl rfl ?_
  refine x_iload_n C 1 dX7_pass_1 rfl rfl ?_
  refine x_callVRO C ([.int h]) ([]) [0, 1] (k0 := 0) (na := 1) gX7_pass_X7_whyNotPass rfl (by decide +kernel) rfl rfl rfl (kX7_whyNotPass (xl cx) (xG cx) m w1 w2 w3 w4 w5 w6 ns ln tm sp ik e1 e2 z h) rfl (by decide) rfl rfl rfl ⟨by decide, by decide⟩ (Nat.le_of_ble_eq_true rfl) ⟨by decide, by decide⟩ dX7_pass_2 ?_
  refine x_istore_n C [(2, .int (wsR z h)), (0, .ref m), (1, .int h)] dX7_pass_5 rfl (by decide) rfl ?_
  refine x_iload_n C 0 dX7_pass_6 rfl rfl ?_
  refine x_if_ge C 12 dX7_pass_7 (by decide) (fun c_7 => ?_) (fun c_7 => ?_)
  ·
    have hh := wsR_ok c_7
    obtain ⟨kh, h_kh, rfl⟩ := in_nat1 (M := 999) (m := 999) hh (by decide)
    refine x_aload_n C 1 dX7_pass_12 rfl rfl ?_
    refine x_callVMU C ([]) ([]) [0, 1, 2] [(m, .inr (7, [.ref w1, .ref w2, .ref w3, .int (nI (rcN ns)), .ref w4, .int ik, .ref w5, .int (nI ln), .int e1, .int e2, .ref w6, .int (nI tm), .int (nI sp)])), (w1, .inl ((xG cx).2.1, 508, .inl z)), (w3, .inl ((xG cx).2.1, 2032, .inl (rcF f ns z)))] [] [m, w1, w3] rfl rfl [] rfl rfl 3 rfl (by decide +kernel) rfl (k0 := 0) (na := 0) gX7_pass_X7_record rfl (by decide +kernel) rfl rfl rfl M (kX7_record (xl cx) (xG cx) m w1 w2 w3 w4 w5 w6 ns ln tm sp ik e1 e2 z f (by first | assumption | rfl | omega | decide)) rfl (by decide) rfl rfl rfl ⟨by decide, by decide⟩ (Nat.le_of_ble_eq_true rfl) ⟨by decide, by decide⟩ dX7_pass_13 ?_
    refine x_aload_n C 1 dX7_pass_16 rfl rfl ?_
    refine x_iload_n C 2 dX7_pass_17 rfl rfl ?_
    refine x_callVMU C ([.int (nI kh)]) ([]) [0, 1] [(m, .inr (7, [.ref w1, .ref w2, .ref w3, .int (nI (rcN ns)), .ref w4, .int ik, .ref w5, .int (nI ln), .int e1, .int e2, .ref w6, .int (nI tm), .int (nI sp)])), (w1, .inl ((xG cx).2.1, 508, .inl ((phR z n kh).1))), (w3, .inl ((xG cx).2.1, 2032, .inl (rcF f ns z)))] [2] [m, w1, w3] rfl rfl [(w3, .inl ((xG cx).2.1, 2032, .inl (rcF f ns z)))] rfl rfl 3 rfl (by decide +kernel) rfl (k0 := 0) (na := 1) gX7_pass_X7_passNow rfl (by decide +kernel) rfl rfl rfl M (kX7_passNow (xl cx) (xG cx) m w1 w2 w3 w4 w5 w6 (rcN ns) ln tm sp ik e1 e2 z n kh (by first | assumption | rfl | omega | decide) (by first | assumption | rfl | omega | decide)) rfl (by decide) rfl rfl rfl ⟨by decide, by decide⟩ (Nat.le_of_ble_eq_true rfl) ⟨by decide, by decide⟩ dX7_pass_18 ?_
    have e_ret : psR z f ns n (nI kh) = ((phR z n kh).2, ((phR z n kh).1, rcF f ns z, (rcN ns))) := by simp [psR, c_7, ix kh (by omega)]
    exact x_iret C E dX7_pass_21 (by rw [e_ret]) ((rfl : _ = ([(m, .inr (7, [.ref w1, .ref w2, .ref w3, .int (nI (((phR z n kh).1, rcF f ns z, (rcN ns)).2.2)), .ref w4, .int ik, .ref w5, .int (nI ln), .int e1, .int e2, .ref w6, .int (nI tm), .int (nI sp)])), (w1, .inl ((xG cx).2.1, 508, .inl (((phR z n kh).1, rcF f ns z, (rcN ns)).1))), (w3, .inl ((xG cx).2.1, 2032, .inl (((phR z n kh).1, rcF f ns z, (rcN ns)).2.1)))] : va_W)).trans (by rw [e_ret]))
  ·
    refine x_iload_n C 0 dX7_pass_10 rfl rfl ?_
    have e_ret : psR z f ns n h = (wsR z h, (z, f, ns)) := by simp [psR, c_7]
    exact x_iret C E dX7_pass_11 (by rw [e_ret]) ((rfl : _ = ([(m, .inr (7, [.ref w1, .ref w2, .ref w3, .int (nI ((z, f, ns).2.2)), .ref w4, .int ik, .ref w5, .int (nI ln), .int e1, .int e2, .ref w6, .int (nI tm), .int (nI sp)])), (w1, .inl ((xG cx).2.1, 508, .inl ((z, f, ns).1))), (w3, .inl ((xG cx).2.1, 2032, .inl ((z, f, ns).2.1)))] : va_W)).trans (by rw [e_ret]))

theorem i_kX7_next_X7 : ∀ w ∈ u_ws RX7 TX7 13, w ∈ wsX7_next := by decide +kernel
theorem m_kX7_next_1 : (Cond.fieldLink RX7 7 "LampRacksModel" "z" "[I" : Cond) ∈ wsX7_next := by decide +kernel
theorem m_kX7_next_2 : (Cond.fieldLink RX7 13 "LampRacksModel" "spare" "[I" : Cond) ∈ wsX7_next := by decide +kernel
set_option maxRecDepth 100000 in
set_option maxHeartbeats 4000000 in
theorem kX7_next (l : Launch) (G : GG) (m : Nat) (w1 : Nat) (w2 : Nat) (w3 : Nat) (w4 : Nat) (w5 : Nat) (w6 : Nat) (ns : Nat) (ln : Nat) (tm : Nat) (sp : Nat) (ik : Int32) (e1 : Int32) (e2 : Int32) (z : Nat → Int32) (n : Nat) (g : Nat → Int32) (w : Int32) (hok : okZ z n) : MU l G yX7_next wsX7_next ({ frames := 4, cells := 0, slots := 0, locals := 88 } : Room) [.ref m, .int w] [(m, .inr (7, [.ref w1, .ref w2, .ref w3, .int (nI ns), .ref w4, .int ik, .ref w5, .int (nI ln), .int e1, .int e2, .ref w6, .int (nI tm), .int (nI sp)])), (w1, .inl (G.2.1, 508, .inl z)), (w2, .inl (G.2.1, 508, .inl g))] (some (.int (nxA z n w))) [(m, .inr (7, [.ref w1, .ref w2, .ref w3, .int (nI ns), .ref w4, .int ik, .ref w5, .int (nI ln), .int e1, .int e2, .ref w6, .int (nI tm), .int (nI sp)])), (w1, .inl (G.2.1, 508, .inl (if 0 ≤ w ∧ w ≤ 1 then cpS (cpS z 0 g 0 508) 0 (ysR z n (nxQ z n)) 0 508 else z))), (w2, .inl (G.2.1, 508, .inl (if 0 ≤ w ∧ w ≤ 1 then cpS z 0 g 0 508 else g)))] := by
  refine MU.of (cc := cX7_next) (maxL := 5) (ret := (some .int)) (by decide) rfl (Nat.le_of_ble_eq_true rfl) ?_
  intro cx hxl hxG C M E
  subst hxl
  subst hxG
  show X cx (0, 0) [(m, .inr (7, [.ref w1, .ref w2, .ref w3, .int (nI ns), .ref w4, .int ik, .ref w5, .int (nI ln), .int e1, .int e2, .ref w6, .int (nI tm), .int (nI sp)])), (w1, .inl ((xG cx).2.1, 508, .inl z)), (w2, .inl ((xG cx).2.1, 508, .inl g))] [(0, .ref m), (1, .int w)] 0 []
  refine x_iload_n C 1 dX7_next_0 rfl rfl ?_
  refine x_iconst (v := 0) C dX7_next_1 (by decide) ?_
  refine x_iconst (v := 1) C dX7_next_2 (by decide) ?_
  refine x_callSRO C ([.int w, .int 0, .int 1]) ([]) [] (na := 3) gX7_next_X7_in rfl (by decide +kernel) rfl (kX7_in (xl cx) (xG cx) w 0 1) rfl (by decide) rfl rfl rfl ⟨by decide, by decide⟩ (Nat.le_of_ble_eq_true rfl) ⟨by decide, by decide⟩ dX7_next_3 ?_
  refine x_ifb_ne (P := 0 ≤ w ∧ w ≤ 1) C 13 dX7_next_6 (by decide) (fun c_6 => ?_) (fun c_6 => ?_)
  ·
    refine x_aload_n C 0 dX7_next_13 rfl rfl ?_
    refine x_getf C 0 rfl rfl i_kX7_next_X7 0 (by decide) m_kX7_next_1 rfl rfl dX7_next_14 ?_
    refine x_iconst (v := 0) C dX7_next_17 (by decide) ?_
    refine x_aload_n C 0 dX7_next_18 rfl rfl ?_
    refine x_getf C 0 rfl rfl i_kX7_next_X7 1 (by decide) m_kX7_next_2 rfl rfl dX7_next_19 ?_
    refine x_iconst (v := 0) C dX7_next_22 (by decide) ?_
    refine x_callSMU C ([.ref w1, .int 0, .ref w2, .int 0]) ([]) [1, 2] [(m, .inr (7, [.ref w1, .ref w2, .ref w3, .int (nI ns), .ref w4, .int ik, .ref w5, .int (nI ln), .int e1, .int e2, .ref w6, .int (nI tm), .int (nI sp)])), (w1, .inl ((xG cx).2.1, 508, .inl z)), (w2, .inl ((xG cx).2.1, 508, .inl (cpS z 0 g 0 508)))] [0] [m, w1, w2] rfl rfl [(m, .inr (7, [.ref w1, .ref w2, .ref w3, .int (nI ns), .ref w4, .int ik, .ref w5, .int (nI ln), .int e1, .int e2, .ref w6, .int (nI tm), .int (nI sp)]))] rfl rfl 3 rfl (by decide +kernel) rfl (na := 4) gX7_next_X7_copyState rfl (by decide +kernel) rfl M (kX7_copyState_c (xl cx) (xG cx) w1 w2 z g 0 0 (by first | assumption | rfl | omega | decide) (by first | assumption | rfl | omega | decide)) rfl (by decide) rfl rfl rfl ⟨by decide, by decide⟩ (Nat.le_of_ble_eq_true rfl) ⟨by decide, by decide⟩ dX7_next_23 ?_
    refine x_iconst (v := 0) C dX7_next_26 (by decide) ?_
    refine x_istore_n C [(2, .int 0), (0, .ref m), (1, .int w)] dX7_next_27 rfl (by decide) rfl ?_
    refine x_iconst (v := 0) C dX7_next_28 (by decide) ?_
    refine x_istore_n C [(3, .int 0), (2, .int 0), (0, .ref m), (1, .int w)] dX7_next_29 rfl (by decide) rfl ?_
    have loop_30 : ∀ (zz : Nat) (i : Nat) (dd : Nat) (e : Int32) (y : Nat → Int32) (hi : i + dd = K3) (hz : K3 + 1 ≤ i + zz) (ey : y = ysR z n i) (ee : e = esR z n i) (en : nxI z n i dd = nxQ z n) (hoy : okZ y n), X cx (0, 0) [(m, .inr (7, [.ref w1, .ref w2, .ref w3, .int (nI ns), .ref w4, .int ik, .ref w5, .int (nI ln), .int e1, .int e2, .ref w6, .int (nI tm), .int (nI sp)])), (w1, .inl ((xG cx).2.1, 508, .inl y)), (w2, .inl ((xG cx).2.1, 508, .inl (cpS z 0 g 0 508)))] [(0, .ref m), (1, .int w), (2, .int (nI i)), (3, .int e)] 30 [] := by
      intro zz
      induction zz with
      | zero =>
        intro i dd e y hi hz ey ee en hoy
        exfalso; omega
      | succ zz ih =>
        intro i dd e y hi hz ey ee en hoy
        refine x_iload_n C 3 dX7_next_30 rfl rfl ?_
        have hk : K3 = 3000 := rfl
        refine x_if_ne C 52 dX7_next_31 (by decide) (fun c_31 => ?_) (fun c_31 => ?_)
        ·
          have ei : i = nxQ z n := nx_stop (by rw [← ee]; exact c_31) hi en
          refine x_iload_n C 3 dX7_next_52 rfl rfl ?_
          refine x_if_ne C 62 dX7_next_53 (by decide) (fun c_53 => ?_) (fun c_53 => ?_)
          ·
            refine x_aload_n C 0 dX7_next_62 rfl rfl ?_
            refine x_aload_n C 0 dX7_next_63 rfl rfl ?_
            refine x_getf C 0 rfl rfl i_kX7_next_X7 0 (by decide) m_kX7_next_1 rfl rfl dX7_next_64 ?_
            refine x_iconst (v := 2) C dX7_next_67 (by decide) ?_
            refine x_iald C 1 rfl rfl (vp_in_nI (n := 2) (by decide) (by decide)) (congrArg y (nI_clamp (n := 2) (by decide))) dX7_next_68 ?_
            refine x_callVRO C ([.int (y 2)]) ([]) [0, 1] (k0 := 0) (na := 1) gX7_next_X7_firstEndedAt rfl (by decide +kernel) rfl rfl rfl (kX7_firstEndedAt (xl cx) (xG cx) m w1 w2 w3 w4 w5 w6 ns ln tm sp ik e1 e2 y n (y 2) (hoy.1) (hoy.2.1)) rfl (by decide) rfl rfl rfl ⟨by decide, by decide⟩ (Nat.le_of_ble_eq_true rfl) ⟨by decide, by decide⟩ dX7_next_69 ?_
            refine x_istore C [(4, .int (feR y (y 2) n n)), (0, .ref m), (1, .int w), (2, .int (nI i)), (3, .int e)] dX7_next_72 (by decide) rfl ?_
            refine x_aload_n C 1 dX7_next_74 rfl rfl ?_
            refine x_getf C 0 rfl rfl i_kX7_next_X7 1 (by decide) m_kX7_next_2 rfl rfl dX7_next_75 ?_
            refine x_iconst (v := 0) C dX7_next_78 (by decide) ?_
            refine x_aload_n C 1 dX7_next_79 rfl rfl ?_
            refine x_getf C 0 rfl rfl i_kX7_next_X7 0 (by decide) m_kX7_next_1 rfl rfl dX7_next_80 ?_
            refine x_iconst (v := 0) C dX7_next_83 (by decide) ?_
            refine x_callSMU C ([.ref w2, .int 0, .ref w1, .int 0]) ([]) [2, 1] [(m, .inr (7, [.ref w1, .ref w2, .ref w3, .int (nI ns), .ref w4, .int ik, .ref w5, .int (nI ln), .int e1, .int e2, .ref w6, .int (nI tm), .int (nI sp)])), (w1, .inl ((xG cx).2.1, 508, .inl (cpS (cpS z 0 g 0 508) 0 y 0 508))), (w2, .inl ((xG cx).2.1, 508, .inl (cpS z 0 g 0 508)))] [0] [m, w1, w2] rfl rfl [(m, .inr (7, [.ref w1, .ref w2, .ref w3, .int (nI ns), .ref w4, .int ik, .ref w5, .int (nI ln), .int e1, .int e2, .ref w6, .int (nI tm), .int (nI sp)]))] rfl rfl 3 rfl (by decide +kernel) rfl (na := 4) gX7_next_X7_copyState rfl (by decide +kernel) rfl M (kX7_copyState_c (xl cx) (xG cx) w2 w1 (cpS z 0 g 0 508) y 0 0 (by first | assumption | rfl | omega | decide) (by first | assumption | rfl | omega | decide)) rfl (by decide) rfl rfl rfl ⟨by decide, by decide⟩ (Nat.le_of_ble_eq_true rfl) ⟨by decide, by decide⟩ dX7_next_84 ?_
            refine x_iload_n C 4 dX7_next_87 rfl rfl ?_
            refine x_if_eq C 95 dX7_next_88 (by decide) (fun c_88 => ?_) (fun c_88 => ?_)
            ·
              refine x_iload C 0 dX7_next_95 rfl ?_
              refine x_goto (tgt := 101) C dX7_next_97 (by decide) ?_
              exact x_iret C E dX7_next_101 (by unfold nxA nxF; rw [if_pos c_6, ← ei, ← ee, ← ey]; first | (simp [c_53, c_88]; done) | exact absurd c_88 c_53 | exact absurd c_53 c_88) (by rw [if_pos c_6, if_pos c_6, ← ei, ← ey])
            ·
              refine x_iload_n C 2 dX7_next_91 rfl rfl ?_
              refine x_if_ne C 100 dX7_next_92 (by decide) (fun c_92 => ?_) (fun c_92 => ?_)
              ·
                refine x_iload_n C 3 dX7_next_100 rfl rfl ?_
                exact x_iret C E dX7_next_101 (by unfold nxA nxF; rw [if_pos c_6, ← ei, ← ee, ← ey]; first | (simp [c_53, c_88, c_92]; done) | exact absurd c_88 c_53 | exact absurd c_53 c_88) (by rw [if_pos c_6, if_pos c_6, ← ei, ← ey])
              ·
                refine x_iload C 0 dX7_next_95 rfl ?_
                refine x_goto (tgt := 101) C dX7_next_97 (by decide) ?_
                exact x_iret C E dX7_next_101 (by unfold nxA nxF; rw [if_pos c_6, ← ei, ← ee, ← ey]; first | (simp [c_53, c_88, c_92]; done) | exact absurd c_88 c_53 | exact absurd c_53 c_88) (by rw [if_pos c_6, if_pos c_6, ← ei, ← ey])
          ·
            refine x_sipush (v := (-1005)) C dX7_next_56 (by decide) ?_
            refine x_goto (tgt := 72) C dX7_next_59 (by decide) ?_
            refine x_istore C [(4, .int (-1005)), (0, .ref m), (1, .int w), (2, .int (nI i)), (3, .int e)] dX7_next_72 (by decide) rfl ?_
            refine x_aload_n C 1 dX7_next_74 rfl rfl ?_
            refine x_getf C 0 rfl rfl i_kX7_next_X7 1 (by decide) m_kX7_next_2 rfl rfl dX7_next_75 ?_
            refine x_iconst (v := 0) C dX7_next_78 (by decide) ?_
            refine x_aload_n C 1 dX7_next_79 rfl rfl ?_
            refine x_getf C 0 rfl rfl i_kX7_next_X7 0 (by decide) m_kX7_next_1 rfl rfl dX7_next_80 ?_
            refine x_iconst (v := 0) C dX7_next_83 (by decide) ?_
            refine x_callSMU C ([.ref w2, .int 0, .ref w1, .int 0]) ([]) [2, 1] [(m, .inr (7, [.ref w1, .ref w2, .ref w3, .int (nI ns), .ref w4, .int ik, .ref w5, .int (nI ln), .int e1, .int e2, .ref w6, .int (nI tm), .int (nI sp)])), (w1, .inl ((xG cx).2.1, 508, .inl (cpS (cpS z 0 g 0 508) 0 y 0 508))), (w2, .inl ((xG cx).2.1, 508, .inl (cpS z 0 g 0 508)))] [0] [m, w1, w2] rfl rfl [(m, .inr (7, [.ref w1, .ref w2, .ref w3, .int (nI ns), .ref w4, .int ik, .ref w5, .int (nI ln), .int e1, .int e2, .ref w6, .int (nI tm), .int (nI sp)]))] rfl rfl 3 rfl (by decide +kernel) rfl (na := 4) gX7_next_X7_copyState rfl (by decide +kernel) rfl M (kX7_copyState_c (xl cx) (xG cx) w2 w1 (cpS z 0 g 0 508) y 0 0 (by first | assumption | rfl | omega | decide) (by first | assumption | rfl | omega | decide)) rfl (by decide) rfl rfl rfl ⟨by decide, by decide⟩ (Nat.le_of_ble_eq_true rfl) ⟨by decide, by decide⟩ dX7_next_84 ?_
            refine x_iload_n C 4 dX7_next_87 rfl rfl ?_
            refine x_if_eq C 95 dX7_next_88 (by decide) (fun c_88 => ?_) (fun c_88 => ?_)
            ·
              refine x_iload C 0 dX7_next_95 rfl ?_
              refine x_goto (tgt := 101) C dX7_next_97 (by decide) ?_
              exact x_iret C E dX7_next_101 (by unfold nxA nxF; rw [if_pos c_6, ← ei, ← ee, ← ey]; first | (simp [c_53, c_88]; done) | exact absurd c_88 c_53 | exact absurd c_53 c_88) (by rw [if_pos c_6, if_pos c_6, ← ei, ← ey])
            ·
              refine x_iload_n C 2 dX7_next_91 rfl rfl ?_
              refine x_if_ne C 100 dX7_next_92 (by decide) (fun c_92 => ?_) (fun c_92 => ?_)
              ·
                refine x_iload_n C 3 dX7_next_100 rfl rfl ?_
                exact x_iret C E dX7_next_101 (by unfold nxA nxF; rw [if_pos c_6, ← ei, ← ee, ← ey]; first | (simp [c_53, c_88, c_92]; done) | exact absurd c_88 c_53 | exact absurd c_53 c_88) (by rw [if_pos c_6, if_pos c_6, ← ei, ← ey])
              ·
                refine x_iload C 0 dX7_next_95 rfl ?_
                refine x_goto (tgt := 101) C dX7_next_97 (by decide) ?_
                exact x_iret C E dX7_next_101 (by unfold nxA nxF; rw [if_pos c_6, ← ei, ← ee, ← ey]; first | (simp [c_53, c_88, c_92]; done) | exact absurd c_88 c_53 | exact absurd c_53 c_88) (by rw [if_pos c_6, if_pos c_6, ← ei, ← ey])
        ·
          refine x_iload_n C 2 dX7_next_34 rfl rfl ?_
          refine x_sipush (v := 3000) C dX7_next_35 (by decide) ?_
          refine x_icmp_ge C 52 dX7_next_38 (by decide) (fun c_38 => ?_) (fun c_38 => ?_)
          ·
            have n_38 : 3000 ≤ i := (nI_leI (a := 3000) (b := i) (by omega) (by omega)).mp c_38
            have ei : i = nxQ z n := nx_end (by have hk : K3 = 3000 := rfl; omega) hi en
            refine x_iload_n C 3 dX7_next_52 rfl rfl ?_
            refine x_if_ne C 62 dX7_next_53 (by decide) (fun c_53 => ?_) (fun c_53 => ?_)
            ·
              refine x_aload_n C 0 dX7_next_62 rfl rfl ?_
              refine x_aload_n C 0 dX7_next_63 rfl rfl ?_
              refine x_getf C 0 rfl rfl i_kX7_next_X7 0 (by decide) m_kX7_next_1 rfl rfl dX7_next_64 ?_
              refine x_iconst (v := 2) C dX7_next_67 (by decide) ?_
              refine x_iald C 1 rfl rfl (vp_in_nI (n := 2) (by decide) (by decide)) (congrArg y (nI_clamp (n := 2) (by decide))) dX7_next_68 ?_
              refine x_callVRO C ([.int (y 2)]) ([]) [0, 1] (k0 := 0) (na := 1) gX7_next_X7_firstEndedAt rfl (by decide +kernel) rfl rfl rfl (kX7_firstEndedAt (xl cx) (xG cx) m w1 w2 w3 w4 w5 w6 ns ln tm sp ik e1 e2 y n (y 2) (hoy.1) (hoy.2.1)) rfl (by decide) rfl rfl rfl ⟨by decide, by decide⟩ (Nat.le_of_ble_eq_true rfl) ⟨by decide, by decide⟩ dX7_next_69 ?_
              refine x_istore C [(4, .int (feR y (y 2) n n)), (0, .ref m), (1, .int w), (2, .int (nI i)), (3, .int e)] dX7_next_72 (by decide) rfl ?_
              refine x_aload_n C 1 dX7_next_74 rfl rfl ?_
              refine x_getf C 0 rfl rfl i_kX7_next_X7 1 (by decide) m_kX7_next_2 rfl rfl dX7_next_75 ?_
              refine x_iconst (v := 0) C dX7_next_78 (by decide) ?_
              refine x_aload_n C 1 dX7_next_79 rfl rfl ?_
              refine x_getf C 0 rfl rfl i_kX7_next_X7 0 (by decide) m_kX7_next_1 rfl rfl dX7_next_80 ?_
              refine x_iconst (v := 0) C dX7_next_83 (by decide) ?_
              refine x_callSMU C ([.ref w2, .int 0, .ref w1, .int 0]) ([]) [2, 1] [(m, .inr (7, [.ref w1, .ref w2, .ref w3, .int (nI ns), .ref w4, .int ik, .ref w5, .int (nI ln), .int e1, .int e2, .ref w6, .int (nI tm), .int (nI sp)])), (w1, .inl ((xG cx).2.1, 508, .inl (cpS (cpS z 0 g 0 508) 0 y 0 508))), (w2, .inl ((xG cx).2.1, 508, .inl (cpS z 0 g 0 508)))] [0] [m, w1, w2] rfl rfl [(m, .inr (7, [.ref w1, .ref w2, .ref w3, .int (nI ns), .ref w4, .int ik, .ref w5, .int (nI ln), .int e1, .int e2, .ref w6, .int (nI tm), .int (nI sp)]))] rfl rfl 3 rfl (by decide +kernel) rfl (na := 4) gX7_next_X7_copyState rfl (by decide +kernel) rfl M (kX7_copyState_c (xl cx) (xG cx) w2 w1 (cpS z 0 g 0 508) y 0 0 (by first | assumption | rfl | omega | decide) (by first | assumption | rfl | omega | decide)) rfl (by decide) rfl rfl rfl ⟨by decide, by decide⟩ (Nat.le_of_ble_eq_true rfl) ⟨by decide, by decide⟩ dX7_next_84 ?_
              refine x_iload_n C 4 dX7_next_87 rfl rfl ?_
              refine x_if_eq C 95 dX7_next_88 (by decide) (fun c_88 => ?_) (fun c_88 => ?_)
              ·
                refine x_iload C 0 dX7_next_95 rfl ?_
                refine x_goto (tgt := 101) C dX7_next_97 (by decide) ?_
                exact x_iret C E dX7_next_101 (by unfold nxA nxF; rw [if_pos c_6, ← ei, ← ee, ← ey]; first | (simp [c_53, c_88]; done) | exact absurd c_88 c_53 | exact absurd c_53 c_88) (by rw [if_pos c_6, if_pos c_6, ← ei, ← ey])
              ·
                refine x_iload_n C 2 dX7_next_91 rfl rfl ?_
                refine x_if_ne C 100 dX7_next_92 (by decide) (fun c_92 => ?_) (fun c_92 => ?_)
                ·
                  refine x_iload_n C 3 dX7_next_100 rfl rfl ?_
                  exact x_iret C E dX7_next_101 (by unfold nxA nxF; rw [if_pos c_6, ← ei, ← ee, ← ey]; first | (simp [c_53, c_88, c_92]; done) | exact absurd c_88 c_53 | exact absurd c_53 c_88) (by rw [if_pos c_6, if_pos c_6, ← ei, ← ey])
                ·
                  refine x_iload C 0 dX7_next_95 rfl ?_
                  refine x_goto (tgt := 101) C dX7_next_97 (by decide) ?_
                  exact x_iret C E dX7_next_101 (by unfold nxA nxF; rw [if_pos c_6, ← ei, ← ee, ← ey]; first | (simp [c_53, c_88, c_92]; done) | exact absurd c_88 c_53 | exact absurd c_53 c_88) (by rw [if_pos c_6, if_pos c_6, ← ei, ← ey])
            ·
              refine x_sipush (v := (-1005)) C dX7_next_56 (by decide) ?_
              refine x_goto (tgt := 72) C dX7_next_59 (by decide) ?_
              refine x_istore C [(4, .int (-1005)), (0, .ref m), (1, .int w), (2, .int (nI i)), (3, .int e)] dX7_next_72 (by decide) rfl ?_
              refine x_aload_n C 1 dX7_next_74 rfl rfl ?_
              refine x_getf C 0 rfl rfl i_kX7_next_X7 1 (by decide) m_kX7_next_2 rfl rfl dX7_next_75 ?_
              refine x_iconst (v := 0) C dX7_next_78 (by decide) ?_
              refine x_aload_n C 1 dX7_next_79 rfl rfl ?_
              refine x_getf C 0 rfl rfl i_kX7_next_X7 0 (by decide) m_kX7_next_1 rfl rfl dX7_next_80 ?_
              refine x_iconst (v := 0) C dX7_next_83 (by decide) ?_
              refine x_callSMU C ([.ref w2, .int 0, .ref w1, .int 0]) ([]) [2, 1] [(m, .inr (7, [.ref w1, .ref w2, .ref w3, .int (nI ns), .ref w4, .int ik, .ref w5, .int (nI ln), .int e1, .int e2, .ref w6, .int (nI tm), .int (nI sp)])), (w1, .inl ((xG cx).2.1, 508, .inl (cpS (cpS z 0 g 0 508) 0 y 0 508))), (w2, .inl ((xG cx).2.1, 508, .inl (cpS z 0 g 0 508)))] [0] [m, w1, w2] rfl rfl [(m, .inr (7, [.ref w1, .ref w2, .ref w3, .int (nI ns), .ref w4, .int ik, .ref w5, .int (nI ln), .int e1, .int e2, .ref w6, .int (nI tm), .int (nI sp)]))] rfl rfl 3 rfl (by decide +kernel) rfl (na := 4) gX7_next_X7_copyState rfl (by decide +kernel) rfl M (kX7_copyState_c (xl cx) (xG cx) w2 w1 (cpS z 0 g 0 508) y 0 0 (by first | assumption | rfl | omega | decide) (by first | assumption | rfl | omega | decide)) rfl (by decide) rfl rfl rfl ⟨by decide, by decide⟩ (Nat.le_of_ble_eq_true rfl) ⟨by decide, by decide⟩ dX7_next_84 ?_
              refine x_iload_n C 4 dX7_next_87 rfl rfl ?_
              refine x_if_eq C 95 dX7_next_88 (by decide) (fun c_88 => ?_) (fun c_88 => ?_)
              ·
                refine x_iload C 0 dX7_next_95 rfl ?_
                refine x_goto (tgt := 101) C dX7_next_97 (by decide) ?_
                exact x_iret C E dX7_next_101 (by unfold nxA nxF; rw [if_pos c_6, ← ei, ← ee, ← ey]; first | (simp [c_53, c_88]; done) | exact absurd c_88 c_53 | exact absurd c_53 c_88) (by rw [if_pos c_6, if_pos c_6, ← ei, ← ey])
              ·
                refine x_iload_n C 2 dX7_next_91 rfl rfl ?_
                refine x_if_ne C 100 dX7_next_92 (by decide) (fun c_92 => ?_) (fun c_92 => ?_)
                ·
                  refine x_iload_n C 3 dX7_next_100 rfl rfl ?_
                  exact x_iret C E dX7_next_101 (by unfold nxA nxF; rw [if_pos c_6, ← ei, ← ee, ← ey]; first | (simp [c_53, c_88, c_92]; done) | exact absurd c_88 c_53 | exact absurd c_53 c_88) (by rw [if_pos c_6, if_pos c_6, ← ei, ← ey])
                ·
                  refine x_iload C 0 dX7_next_95 rfl ?_
                  refine x_goto (tgt := 101) C dX7_next_97 (by decide) ?_
                  exact x_iret C E dX7_next_101 (by unfold nxA nxF; rw [if_pos c_6, ← ei, ← ee, ← ey]; first | (simp [c_53, c_88, c_92]; done) | exact absurd c_88 c_53 | exact absurd c_53 c_88) (by rw [if_pos c_6, if_pos c_6, ← ei, ← ey])
          ·
            have n_38 : ¬ (3000 ≤ i) := fun q => c_38 ((nI_leI (a := 3000) (b := i) (by omega) (by omega)).mpr q)
            refine x_aload_n C 0 dX7_next_41 rfl rfl ?_
            refine x_callVMU C ([]) ([]) [0, 1] [(m, .inr (7, [.ref w1, .ref w2, .ref w3, .int (nI ns), .ref w4, .int ik, .ref w5, .int (nI ln), .int e1, .int e2, .ref w6, .int (nI tm), .int (nI sp)])), (w1, .inl ((xG cx).2.1, 508, .inl ((hrS y n).1))), (w2, .inl ((xG cx).2.1, 508, .inl (cpS z 0 g 0 508)))] [2] [m, w1, w2] rfl rfl [(w2, .inl ((xG cx).2.1, 508, .inl (cpS z 0 g 0 508)))] rfl rfl 3 rfl (by decide +kernel) rfl (k0 := 0) (na := 0) gX7_next_X7_anHour rfl (by decide +kernel) rfl rfl rfl M (kX7_anHour (xl cx) (xG cx) m w1 w2 w3 w4 w5 w6 ns ln tm sp ik e1 e2 y n (hoy)) rfl (by decide) rfl rfl rfl ⟨by decide, by decide⟩ (Nat.le_of_ble_eq_true rfl) ⟨by decide, by decide⟩ dX7_next_42 ?_
            refine x_istore_n C [(3, .int ((hrS y n).2)), (0, .ref m), (1, .int w), (2, .int (nI i))] dX7_next_45 rfl (by decide) rfl ?_
            refine x_iinc C 3 [(2, .int (nI (i + 1))), (3, .int ((hrS y n).2)), (0, .ref m), (1, .int w)] dX7_next_46 rfl (inc1 i) (by decide) rfl ?_
            refine x_goto (tgt := 30) C dX7_next_49 (by decide) ?_
            refine x_lv [(0, .ref m), (1, .int w), (2, .int (nI (i + 1))), (3, .int ((hrS y n).2))] [2, 3, 0, 1] rfl ?_
            exact ih (i + 1) (dd - 1) ((hrS y n).2) ((hrS y n).1) (by have hk : K3 = 3000 := rfl; omega) (by omega) (by rw [ysR_s, ← ey]) (by rw [esR_s, ← ey]) (nx_go (by rw [← ee]; exact c_31) (by have hk : K3 = 3000 := rfl; omega) hi en) (hrS_ok hoy)
    refine x_lv [(0, .ref m), (1, .int w), (2, .int (nI 0)), (3, .int 0)] [2, 3, 1, 0] rfl ?_
    exact loop_30 (K3 + 1) 0 K3 0 z (Nat.zero_add _) (by omega) (rfl) (rfl) (rfl) (hok)
  ·
    refine x_sipush (v := (-1002)) C dX7_next_9 (by decide) ?_
    exact x_iret C E dX7_next_12 (by unfold nxA; rw [if_neg c_6]) (by rw [if_neg c_6, if_neg c_6])
