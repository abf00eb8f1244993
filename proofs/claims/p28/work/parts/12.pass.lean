/-- the hours of the next stretch at the same volts -/
def strN (S : SC) (r m : Nat) : Nat := (mx1 (smH (sA S 10 r) (sA S 9 r) (sA S 11 r) (sA S 12 r) (nI m))).toNatClampNeg
theorem smH_le (a v t o : Int32) (m : Nat) (hm : m < 2147483648) : (smH a v t o (nI m)).toInt ≤ m := by
  have e := nI_toInt (n := m) (by omega)
  unfold smH
  split
  · omega
  · unfold mn
    split
    · rename_i h1 h2
      have := Int32.lt_iff_toInt_lt.mp h2
      omega
    · omega
theorem strN_ok (S : SC) (r m : Nat) (h1 : 1 ≤ m) (hm : m < 2147483648) : 1 ≤ strN S r m ∧ strN S r m ≤ m ∧ mx1 (smH (sA S 10 r) (sA S 9 r) (sA S 11 r) (sA S 12 r) (nI m)) = nI (strN S r m) := by
  have hle := smH_le (sA S 10 r) (sA S 9 r) (sA S 11 r) (sA S 12 r) m hm
  unfold strN
  generalize hx : smH (sA S 10 r) (sA S 9 r) (sA S 11 r) (sA S 12 r) (nI m) = x at hle
  have e1 : (1 : Int32).toInt = 1 := by decide
  by_cases h : 1 < x
  · have h2 := Int32.lt_iff_toInt_lt.mp h
    have e : mx1 x = x := if_pos h
    have e0 : (0 : Int32).toInt = 0 := by decide
    obtain ⟨j, hj, rfl⟩ := nI_of (x := x) (fun q => by have := Int32.lt_iff_toInt_lt.mp q; omega)
    have e3 := nI_toInt (n := j) (by omega)
    rw [e, ix j (by omega)]
    exact ⟨by omega, by omega, rfl⟩
  · have e : mx1 x = 1 := if_neg h
    rw [e]
    exact ⟨by decide, h1, by decide⟩
/-- t hours are counted for the steps of a rack -/
def cntS (S : SC) (r : Nat) (t : Int32) : SC := uA (uA S 9 (chV (sA S 10 r) (sA S 12 r) t r (sA S 9) (sA S 11))) 12 (chO (sA S 10 r) t r (sA S 12))
theorem cntS_okS {S : SC} (h : okS S) (r : Nat) (t : Int32) : okS (cntS S r t) := h
theorem fold_cnt (G : GG) (a : Nat → Nat) (S : SC) (r : Nat) (t : Int32) : ([(a 0, .inr (4, [.int (sHr S), .int (sWv S), .int (sDv S), .ref (a 1), .ref (a 2), .ref (a 3)])), (a 1, .inr (0, [.ref (a 4), .ref (a 5)])), (a 2, .inr (2, [.int (nI (sN S)), .ref (a 6), .ref (a 7), .ref (a 8), .ref (a 9), .ref (a 10), .ref (a 11)])), (a 3, .inr (3, [.ref (a 12), .ref (a 13), .ref (a 14), .ref (a 15), .ref (a 16)])), (a 4, .inl (G.2.1, 6, .inl (sA S 0))), (a 5, .inl (G.2.1, 6, .inl (sA S 1))), (a 6, .inl (G.2.1, 60, .inl (sA S 2))), (a 7, .inl (G.2.1, 60, .inl (sA S 3))), (a 8, .inl (G.2.1, 60, .inl (sA S 4))), (a 9, .inl (G.2.1, 60, .inl (sA S 5))), (a 10, .inl (G.2.1, 60, .inl (sA S 6))), (a 11, .inl (G.2.1, 60, .inl (sA S 7))), (a 12, .inl (G.2.1, 24, .inl (sA S 8))), (a 13, .inl (G.2.1, 3, .inl (chV (sA S 10 r) (sA S 12 r) t r (sA S 9) (sA S 11)))), (a 14, .inl (G.2.1, 3, .inl (sA S 10))), (a 15, .inl (G.2.1, 3, .inl (sA S 11))), (a 16, .inl (G.2.1, 3, .inl (chO (sA S 10 r) t r (sA S 12))))] : va_W) = stW G a (cntS S r t) := rfl
/-- a rack's hours from p to h: what ended so far beside -/
def pRf : Nat → SC → Nat → Nat → Nat → Int32 → SC × Int32
  | 0, S, _, _, _, acc => (S, acc)
  | f + 1, S, r, h, p, acc => if h ≤ p then (S, acc) else
      pRf f (cntS (burnS S r (nI (strN S r (h - p))) (sHr S + nI p)).1 r (nI (strN S r (h - p)))) r h (p + strN S r (h - p)) (acc + (burnS S r (nI (strN S r (h - p))) (sHr S + nI p)).2)
theorem pRf_e {f : Nat} {S : SC} {r h p : Nat} {acc : Int32} (c : h ≤ p) : pRf (f + 1) S r h p acc = (S, acc) := if_pos c
theorem pRf_s {f : Nat} {S : SC} {r h p : Nat} {acc : Int32} (c : ¬ h ≤ p) : pRf (f + 1) S r h p acc = pRf f (cntS (burnS S r (nI (strN S r (h - p))) (sHr S + nI p)).1 r (nI (strN S r (h - p)))) r h (p + strN S r (h - p)) (acc + (burnS S r (nI (strN S r (h - p))) (sHr S + nI p)).2) := if_neg c
def pRk (S : SC) (r h : Nat) : SC × Int32 := pRf (h + 1) S r h 0 0
theorem pRf_okS : ∀ (f : Nat) (S : SC) (r h p : Nat) (acc : Int32), okS S → okS (pRf f S r h p acc).1
  | 0, _, _, _, _, _, hok => hok
  | f + 1, S, r, h, p, acc, hok => by
    by_cases c : h ≤ p
    · rw [pRf_e c]; exact hok
    · rw [pRf_s c]; exact pRf_okS f _ _ _ _ _ (cntS_okS (sameB_okS (burnS_sameB _ _ _ _) hok) _ _)
/-- the first n racks' hours -/
def pRs (S : SC) (h : Nat) : Nat → SC × Int32
  | 0 => (S, 0)
  | n + 1 => ((pRk (pRs S h n).1 n h).1, (pRs S h n).2 + (pRk (pRs S h n).1 n h).2)
theorem pRs_s (S : SC) (h n : Nat) : pRs S h (n + 1) = ((pRk (pRs S h n).1 n h).1, (pRs S h n).2 + (pRk (pRs S h n).1 n h).2) := rfl
theorem pRs_okS (S : SC) (h : Nat) (hok : okS S) : ∀ n, okS (pRs S h n).1
  | 0 => hok
  | n + 1 => pRf_okS _ _ _ _ _ _ (pRs_okS S h hok n)
def pHs (S : SC) (h : Nat) : SC × Int32 := (uHr (pRs S h 3).1 (sHr (pRs S h 3).1 + nI h), (pRs S h 3).2)
def lpS (S : SC) (h : Int32) : Int32 × SC :=
  if 1 ≤ h ∧ h ≤ 999 then
    if sHr S + h ≤ 99999 then ((pHs S (ixz h)).2, (pHs S (ixz h)).1) else (-1003, S)
  else (-1002, S)

theorem i_kX4_passHoursOfRack_X4 : ∀ w ∈ u_ws RX4 TX4 6, w ∈ wsX4_passHoursOfRack := by decide +kernel
theorem m_kX4_passHoursOfRack_1 : (Cond.fieldLink RX4 38 "LampRacks$State" "racks" "LLampRacks$Racks;" : Cond) ∈ wsX4_passHoursOfRack := by decide +kernel
theorem m_kX4_passHoursOfRack_2 : (Cond.methodLink RX4 130 Lib.Math.max.name : Cond) ∈ wsX4_passHoursOfRack := by decide +kernel
theorem m_kX4_passHoursOfRack_3 : (Cond.static Lib.Math.max.name : Cond) ∈ wsX4_passHoursOfRack := by decide +kernel
theorem m_kX4_passHoursOfRack_4 : (Cond.initialized "java/lang/Math" : Cond) ∈ wsX4_passHoursOfRack := by decide +kernel
theorem m_kX4_passHoursOfRack_5 : (Cond.code Lib.Math.max.name Lib.Math.max.code 2 (some .int) : Cond) ∈ wsX4_passHoursOfRack := by decide +kernel
theorem m_kX4_passHoursOfRack_6 : (Cond.fieldLink RX4 9 "LampRacks$State" "hour" "I" : Cond) ∈ wsX4_passHoursOfRack := by decide +kernel
set_option maxRecDepth 100000 in
set_option maxHeartbeats 4000000 in
theorem kX4_passHoursOfRack (l : Launch) (G : GG) (a : Nat → Nat) (S : SC) (r : Nat) (h : Nat) (hok : okS S) (hr : r < 3) (hh : h < 100000) : MU l G yX4_passHoursOfRack wsX4_passHoursOfRack ({ frames := 3, cells := 0, slots := 0, locals := 71 } : Room) [.ref (a 0), .int (nI r), .int (nI h)] (stW G a S) (some (.int ((pRk S r h).2))) (stW G a ((pRk S r h).1)) := by
  refine MU.of (cc := cX4_passHoursOfRack) (maxL := 6) (ret := (some .int)) (by decide) rfl (Nat.le_of_ble_eq_true rfl) ?_
  intro cx hxl hxG C M E
  subst hxl
  subst hxG
  show X cx (0, 0) [(a 0, .inr (4, [.int (sHr S), .int (sWv S), .int (sDv S), .ref (a 1), .ref (a 2), .ref (a 3)])), (a 1, .inr (0, [.ref (a 4), .ref (a 5)])), (a 2, .inr (2, [.int (nI (sN S)), .ref (a 6), .ref (a 7), .ref (a 8), .ref (a 9), .ref (a 10), .ref (a 11)])), (a 3, .inr (3, [.ref (a 12), .ref (a 13), .ref (a 14), .ref (a 15), .ref (a 16)])), (a 4, .inl ((xG cx).2.1, 6, .inl (sA S 0))), (a 5, .inl ((xG cx).2.1, 6, .inl (sA S 1))), (a 6, .inl ((xG cx).2.1, 60, .inl (sA S 2))), (a 7, .inl ((xG cx).2.1, 60, .inl (sA S 3))), (a 8, .inl ((xG cx).2.1, 60, .inl (sA S 4))), (a 9, .inl ((xG cx).2.1, 60, .inl (sA S 5))), (a 10, .inl ((xG cx).2.1, 60, .inl (sA S 6))), (a 11, .inl ((xG cx).2.1, 60, .inl (sA S 7))), (a 12, .inl ((xG cx).2.1, 24, .inl (sA S 8))), (a 13, .inl ((xG cx).2.1, 3, .inl (sA S 9))), (a 14, .inl ((xG cx).2.1, 3, .inl (sA S 10))), (a 15, .inl ((xG cx).2.1, 3, .inl (sA S 11))), (a 16, .inl ((xG cx).2.1, 3, .inl (sA S 12)))] [(0, .ref (a 0)), (1, .int (nI r)), (2, .int (nI h))] 0 []
  refine x_iconst (v := 0) C dX4_passHoursOfRack_0 (by decide) ?_
  refine x_istore_n C [(3, .int 0), (0, .ref (a 0)), (1, .int (nI r)), (2, .int (nI h))] dX4_passHoursOfRack_1 rfl (by decide) rfl ?_
  refine x_iconst (v := 1) C dX4_passHoursOfRack_2 (by decide) ?_
  refine x_istore C [(4, .int 1), (3, .int 0), (0, .ref (a 0)), (1, .int (nI r)), (2, .int (nI h))] dX4_passHoursOfRack_3 (by decide) rfl ?_
  refine x_iconst (v := 0) C dX4_passHoursOfRack_5 (by decide) ?_
  refine x_istore C [(5, .int 0), (4, .int 1), (3, .int 0), (0, .ref (a 0)), (1, .int (nI r)), (2, .int (nI h))] dX4_passHoursOfRack_6 (by decide) rfl ?_
  have loop_8 : ∀ (zz : Nat) (p : Nat) (S1 : SC) (acc : Int32) (y : Int32) (hp : p ≤ h) (hz : h + 1 ≤ p + zz) (hok1 : okS S1) (e : pRf zz S1 r h p acc = pRk S r h), X cx (0, 0) [(a 0, .inr (4, [.int (sHr S1), .int (sWv S1), .int (sDv S1), .ref (a 1), .ref (a 2), .ref (a 3)])), (a 1, .inr (0, [.ref (a 4), .ref (a 5)])), (a 2, .inr (2, [.int (nI (sN S1)), .ref (a 6), .ref (a 7), .ref (a 8), .ref (a 9), .ref (a 10), .ref (a 11)])), (a 3, .inr (3, [.ref (a 12), .ref (a 13), .ref (a 14), .ref (a 15), .ref (a 16)])), (a 4, .inl ((xG cx).2.1, 6, .inl (sA S1 0))), (a 5, .inl ((xG cx).2.1, 6, .inl (sA S1 1))), (a 6, .inl ((xG cx).2.1, 60, .inl (sA S1 2))), (a 7, .inl ((xG cx).2.1, 60, .inl (sA S1 3))), (a 8, .inl ((xG cx).2.1, 60, .inl (sA S1 4))), (a 9, .inl ((xG cx).2.1, 60, .inl (sA S1 5))), (a 10, .inl ((xG cx).2.1, 60, .inl (sA S1 6))), (a 11, .inl ((xG cx).2.1, 60, .inl (sA S1 7))), (a 12, .inl ((xG cx).2.1, 24, .inl (sA S1 8))), (a 13, .inl ((xG cx).2.1, 3, .inl (sA S1 9))), (a 14, .inl ((xG cx).2.1, 3, .inl (sA S1 10))), (a 15, .inl ((xG cx).2.1, 3, .inl (sA S1 11))), (a 16, .inl ((xG cx).2.1, 3, .inl (sA S1 12)))] [(0, .ref (a 0)), (1, .int (nI r)), (2, .int (nI h)), (3, .int acc), (4, .int y), (5, .int (nI p))] 8 [] := by
    intro zz
    induction zz with
    | zero =>
      intro p S1 acc y hp hz hok1 e
      exfalso; omega
    | succ zz ih =>
      intro p S1 acc y hp hz hok1 e
      refine x_iload C 5 dX4_passHoursOfRack_8 rfl ?_
      refine x_iload_n C 2 dX4_passHoursOfRack_10 rfl rfl ?_
      refine x_icmp_ge C 69 dX4_passHoursOfRack_11 (by decide) (fun c_11 => ?_) (fun c_11 => ?_)
      ·
        have n_11 : h ≤ p := (nI_leI (a := h) (b := p) (by omega) (by omega)).mp c_11
        refine x_iload_n C 3 dX4_passHoursOfRack_69 rfl rfl ?_
        exact x_iret C E dX4_passHoursOfRack_70 (by rw [show pRk S r h = (S1, acc) from by rw [← e, pRf_e n_11]]) ((rfl : _ = stW (xG cx) a S1).trans (by rw [show pRk S r h = (S1, acc) from by rw [← e, pRf_e n_11]]))
      ·
        have n_11 : ¬ (h ≤ p) := fun q => c_11 ((nI_leI (a := h) (b := p) (by omega) (by omega)).mpr q)
        have hst := strN_ok S1 r (h - p) (by omega) (by omega)
        refine x_iconst (v := 1) C dX4_passHoursOfRack_14 (by decide) ?_
        refine x_aload_n C 0 dX4_passHoursOfRack_15 rfl rfl ?_
        refine x_getf C 0 rfl rfl i_kX4_passHoursOfRack_X4 5 (by decide) m_kX4_passHoursOfRack_1 rfl rfl dX4_passHoursOfRack_16 ?_
        refine x_iload_n C 1 dX4_passHoursOfRack_19 rfl rfl ?_
        refine x_iload_n C 2 dX4_passHoursOfRack_20 rfl rfl ?_
        refine x_iload C 5 dX4_passHoursOfRack_21 rfl ?_
        refine x_isub C (pk_sub (by omega)) dX4_passHoursOfRack_23 ?_
        refine x_callVRO C ([.int (nI r), .int (nI (h - p))]) ([.int 1]) [3, 12, 13, 14, 15, 16] (k0 := 0) (na := 2) gX4_passHoursOfRack_X3_hoursAtSameVolts rfl (by decide +kernel) rfl rfl rfl (kX3_hoursAtSameVolts (xl cx) (xG cx) (a 3) (a 12) (a 13) (a 14) (a 15) (a 16) (sA S1 8) (sA S1 9) (sA S1 10) (sA S1 11) (sA S1 12) r (nI (h - p)) (by first | assumption | rfl | omega | decide)) rfl (by decide) rfl rfl rfl ⟨by decide, by decide⟩ (Nat.le_of_ble_eq_true rfl) ⟨by decide, by decide⟩ dX4_passHoursOfRack_24 ?_
        refine x_mmax C m_kX4_passHoursOfRack_2 m_kX4_passHoursOfRack_3 m_kX4_passHoursOfRack_4 m_kX4_passHoursOfRack_5 ⟨by decide, Nat.le_of_ble_eq_true rfl, by decide, by decide⟩ dX4_passHoursOfRack_27 ?_
        refine x_top (y := nI (strN S1 r (h - p))) (hst.2.2) ?_
        refine x_istore C [(4, .int (nI (strN S1 r (h - p)))), (0, .ref (a 0)), (1, .int (nI r)), (2, .int (nI h)), (3, .int acc), (5, .int (nI p))] dX4_passHoursOfRack_30 (by decide) rfl ?_
        refine x_iload_n C 4 dX4_passHoursOfRack_32 rfl rfl ?_
        refine x_aload_n C 1 dX4_passHoursOfRack_33 rfl rfl ?_
        refine x_iload_n C 2 dX4_passHoursOfRack_34 rfl rfl ?_
        refine x_iload C 0 dX4_passHoursOfRack_35 rfl ?_
        refine x_aload_n C 1 dX4_passHoursOfRack_37 rfl rfl ?_
        refine x_getf C 0 rfl rfl i_kX4_passHoursOfRack_X4 0 (by decide) m_kX4_passHoursOfRack_6 rfl rfl dX4_passHoursOfRack_38 ?_
        refine x_iload C 5 dX4_passHoursOfRack_41 rfl ?_
        refine x_iadd C (rfl) dX4_passHoursOfRack_43 ?_
        refine x_callVMU C ([.int (nI r), .int (nI (strN S1 r (h - p))), .int ((sHr S1) + (nI p))]) ([.int acc]) [0, 1, 2, 3, 4, 5, 6, 7, 8, 9, 10, 11, 12, 13, 14, 15, 16] [(a 0, .inr (4, [.int (sHr ((burnS S1 r (nI (strN S1 r (h - p))) ((sHr S1) + (nI p))).1)), .int (sWv ((burnS S1 r (nI (strN S1 r (h - p))) ((sHr S1) + (nI p))).1)), .int (sDv ((burnS S1 r (nI (strN S1 r (h - p))) ((sHr S1) + (nI p))).1)), .ref (a 1), .ref (a 2), .ref (a 3)])), (a 1, .inr (0, [.ref (a 4), .ref (a 5)])), (a 2, .inr (2, [.int (nI (sN ((burnS S1 r (nI (strN S1 r (h - p))) ((sHr S1) + (nI p))).1))), .ref (a 6), .ref (a 7), .ref (a 8), .ref (a 9), .ref (a 10), .ref (a 11)])), (a 3, .inr (3, [.ref (a 12), .ref (a 13), .ref (a 14), .ref (a 15), .ref (a 16)])), (a 4, .inl ((xG cx).2.1, 6, .inl (sA ((burnS S1 r (nI (strN S1 r (h - p))) ((sHr S1) + (nI p))).1) 0))), (a 5, .inl ((xG cx).2.1, 6, .inl (sA ((burnS S1 r (nI (strN S1 r (h - p))) ((sHr S1) + (nI p))).1) 1))), (a 6, .inl ((xG cx).2.1, 60, .inl (sA ((burnS S1 r (nI (strN S1 r (h - p))) ((sHr S1) + (nI p))).1) 2))), (a 7, .inl ((xG cx).2.1, 60, .inl (sA ((burnS S1 r (nI (strN S1 r (h - p))) ((sHr S1) + (nI p))).1) 3))), (a 8, .inl ((xG cx).2.1, 60, .inl (sA ((burnS S1 r (nI (strN S1 r (h - p))) ((sHr S1) + (nI p))).1) 4))), (a 9, .inl ((xG cx).2.1, 60, .inl (sA ((burnS S1 r (nI (strN S1 r (h - p))) ((sHr S1) + (nI p))).1) 5))), (a 10, .inl ((xG cx).2.1, 60, .inl (sA ((burnS S1 r (nI (strN S1 r (h - p))) ((sHr S1) + (nI p))).1) 6))), (a 11, .inl ((xG cx).2.1, 60, .inl (sA ((burnS S1 r (nI (strN S1 r (h - p))) ((sHr S1) + (nI p))).1) 7))), (a 12, .inl ((xG cx).2.1, 24, .inl (sA ((burnS S1 r (nI (strN S1 r (h - p))) ((sHr S1) + (nI p))).1) 8))), (a 13, .inl ((xG cx).2.1, 3, .inl (sA ((burnS S1 r (nI (strN S1 r (h - p))) ((sHr S1) + (nI p))).1) 9))), (a 14, .inl ((xG cx).2.1, 3, .inl (sA ((burnS S1 r (nI (strN S1 r (h - p))) ((sHr S1) + (nI p))).1) 10))), (a 15, .inl ((xG cx).2.1, 3, .inl (sA ((burnS S1 r (nI (strN S1 r (h - p))) ((sHr S1) + (nI p))).1) 11))), (a 16, .inl ((xG cx).2.1, 3, .inl (sA ((burnS S1 r (nI (strN S1 r (h - p))) ((sHr S1) + (nI p))).1) 12)))] [] [a 0, a 1, a 2, a 3, a 4, a 5, a 6, a 7, a 8, a 9, a 10, a 11, a 12, a 13, a 14, a 15, a 16] rfl rfl [] rfl rfl 17 rfl (by decide +kernel) rfl (k0 := 0) (na := 3) gX4_passHoursOfRack_X4_burnRack rfl (by decide +kernel) rfl rfl rfl M (kX4_burnRack (xl cx) (xG cx) a S1 r (nI (strN S1 r (h - p))) ((sHr S1) + (nI p)) (hok1) (by first | assumption | rfl | omega | decide)) rfl (by decide) rfl rfl rfl ⟨by decide, by decide⟩ (Nat.le_of_ble_eq_true rfl) ⟨by decide, by decide⟩ dX4_passHoursOfRack_44 ?_
        generalize e_Q : burnS S1 r (nI (strN S1 r (h - p))) ((sHr S1) + (nI p)) = Q
        refine x_iadd C (rfl) dX4_passHoursOfRack_47 ?_
        refine x_istore_n C [(3, .int (acc + Q.2)), (4, .int (nI (strN S1 r (h - p)))), (0, .ref (a 0)), (1, .int (nI r)), (2, .int (nI h)), (5, .int (nI p))] dX4_passHoursOfRack_48 rfl (by decide) rfl ?_
        refine x_aload_n C 2 dX4_passHoursOfRack_49 rfl rfl ?_
        refine x_getf C 0 rfl rfl i_kX4_passHoursOfRack_X4 5 (by decide) m_kX4_passHoursOfRack_1 rfl rfl dX4_passHoursOfRack_50 ?_
        refine x_iload_n C 3 dX4_passHoursOfRack_53 rfl rfl ?_
        refine x_iload C 1 dX4_passHoursOfRack_54 rfl ?_
        refine x_callVMU C ([.int (nI r), .int (nI (strN S1 r (h - p)))]) ([]) [3, 12, 13, 14, 15, 16] [(a 0, .inr (4, [.int (sHr Q.1), .int (sWv Q.1), .int (sDv Q.1), .ref (a 1), .ref (a 2), .ref (a 3)])), (a 1, .inr (0, [.ref (a 4), .ref (a 5)])), (a 2, .inr (2, [.int (nI (sN Q.1)), .ref (a 6), .ref (a 7), .ref (a 8), .ref (a 9), .ref (a 10), .ref (a 11)])), ((a 3), .inr (3, [.ref (a 12), .ref (a 13), .ref (a 14), .ref (a 15), .ref (a 16)])), (a 4, .inl ((xG cx).2.1, 6, .inl (sA Q.1 0))), (a 5, .inl ((xG cx).2.1, 6, .inl (sA Q.1 1))), (a 6, .inl ((xG cx).2.1, 60, .inl (sA Q.1 2))), (a 7, .inl ((xG cx).2.1, 60, .inl (sA Q.1 3))), (a 8, .inl ((xG cx).2.1, 60, .inl (sA Q.1 4))), (a 9, .inl ((xG cx).2.1, 60, .inl (sA Q.1 5))), (a 10, .inl ((xG cx).2.1, 60, .inl (sA Q.1 6))), (a 11, .inl ((xG cx).2.1, 60, .inl (sA Q.1 7))), ((a 12), .inl ((xG cx).2.1, 24, .inl (sA Q.1 8))), ((a 13), .inl ((xG cx).2.1, 3, .inl (chV ((sA Q.1 10) r) ((sA Q.1 12) r) (nI (strN S1 r (h - p))) r (sA Q.1 9) (sA Q.1 11)))), ((a 14), .inl ((xG cx).2.1, 3, .inl (sA Q.1 10))), ((a 15), .inl ((xG cx).2.1, 3, .inl (sA Q.1 11))), ((a 16), .inl ((xG cx).2.1, 3, .inl (chO ((sA Q.1 10) r) (nI (strN S1 r (h - p))) r (sA Q.1 12))))] [0, 1, 2, 4, 5, 6, 7, 8, 9, 10, 11] [a 0, a 1, a 2, (a 3), a 4, a 5, a 6, a 7, a 8, a 9, a 10, a 11, (a 12), (a 13), (a 14), (a 15), (a 16)] rfl rfl [(a 0, .inr (4, [.int (sHr Q.1), .int (sWv Q.1), .int (sDv Q.1), .ref (a 1), .ref (a 2), .ref (a 3)])), (a 1, .inr (0, [.ref (a 4), .ref (a 5)])), (a 2, .inr (2, [.int (nI (sN Q.1)), .ref (a 6), .ref (a 7), .ref (a 8), .ref (a 9), .ref (a 10), .ref (a 11)])), (a 4, .inl ((xG cx).2.1, 6, .inl (sA Q.1 0))), (a 5, .inl ((xG cx).2.1, 6, .inl (sA Q.1 1))), (a 6, .inl ((xG cx).2.1, 60, .inl (sA Q.1 2))), (a 7, .inl ((xG cx).2.1, 60, .inl (sA Q.1 3))), (a 8, .inl ((xG cx).2.1, 60, .inl (sA Q.1 4))), (a 9, .inl ((xG cx).2.1, 60, .inl (sA Q.1 5))), (a 10, .inl ((xG cx).2.1, 60, .inl (sA Q.1 6))), (a 11, .inl ((xG cx).2.1, 60, .inl (sA Q.1 7)))] rfl rfl 17 rfl (by decide +kernel) rfl (k0 := 0) (na := 2) gX4_passHoursOfRack_X3_countHours rfl (by decide +kernel) rfl rfl rfl M (kX3_countHours (xl cx) (xG cx) (a 3) (a 12) (a 13) (a 14) (a 15) (a 16) (sA Q.1 8) (sA Q.1 9) (sA Q.1 10) (sA Q.1 11) (sA Q.1 12) r (nI (strN S1 r (h - p))) (by first | assumption | rfl | omega | decide)) rfl (by decide) rfl rfl rfl ⟨by decide, by decide⟩ (Nat.le_of_ble_eq_true rfl) ⟨by decide, by decide⟩ dX4_passHoursOfRack_56 ?_
        refine x_iload C 5 dX4_passHoursOfRack_59 rfl ?_
        refine x_iload C 1 dX4_passHoursOfRack_61 rfl ?_
        refine x_iadd C (nI_add p (strN S1 r (h - p))) dX4_passHoursOfRack_63 ?_
        refine x_istore C [(5, .int (nI (p + (strN S1 r (h - p))))), (3, .int (acc + Q.2)), (4, .int (nI (strN S1 r (h - p)))), (0, .ref (a 0)), (1, .int (nI r)), (2, .int (nI h))] dX4_passHoursOfRack_64 (by decide) rfl ?_
        refine x_goto (tgt := 8) C dX4_passHoursOfRack_66 (by decide) ?_
        refine x_ws [(a 0, .inr (4, [.int (sHr (cntS Q.1 r (nI (strN S1 r (h - p))))), .int (sWv (cntS Q.1 r (nI (strN S1 r (h - p))))), .int (sDv (cntS Q.1 r (nI (strN S1 r (h - p))))), .ref (a 1), .ref (a 2), .ref (a 3)])), (a 1, .inr (0, [.ref (a 4), .ref (a 5)])), (a 2, .inr (2, [.int (nI (sN (cntS Q.1 r (nI (strN S1 r (h - p)))))), .ref (a 6), .ref (a 7), .ref (a 8), .ref (a 9), .ref (a 10), .ref (a 11)])), ((a 3), .inr (3, [.ref (a 12), .ref (a 13), .ref (a 14), .ref (a 15), .ref (a 16)])), (a 4, .inl ((xG cx).2.1, 6, .inl (sA (cntS Q.1 r (nI (strN S1 r (h - p)))) 0))), (a 5, .inl ((xG cx).2.1, 6, .inl (sA (cntS Q.1 r (nI (strN S1 r (h - p)))) 1))), (a 6, .inl ((xG cx).2.1, 60, .inl (sA (cntS Q.1 r (nI (strN S1 r (h - p)))) 2))), (a 7, .inl ((xG cx).2.1, 60, .inl (sA (cntS Q.1 r (nI (strN S1 r (h - p)))) 3))), (a 8, .inl ((xG cx).2.1, 60, .inl (sA (cntS Q.1 r (nI (strN S1 r (h - p)))) 4))), (a 9, .inl ((xG cx).2.1, 60, .inl (sA (cntS Q.1 r (nI (strN S1 r (h - p)))) 5))), (a 10, .inl ((xG cx).2.1, 60, .inl (sA (cntS Q.1 r (nI (strN S1 r (h - p)))) 6))), (a 11, .inl ((xG cx).2.1, 60, .inl (sA (cntS Q.1 r (nI (strN S1 r (h - p)))) 7))), ((a 12), .inl ((xG cx).2.1, 24, .inl (sA (cntS Q.1 r (nI (strN S1 r (h - p)))) 8))), ((a 13), .inl ((xG cx).2.1, 3, .inl (sA (cntS Q.1 r (nI (strN S1 r (h - p)))) 9))), ((a 14), .inl ((xG cx).2.1, 3, .inl (sA (cntS Q.1 r (nI (strN S1 r (h - p)))) 10))), ((a 15), .inl ((xG cx).2.1, 3, .inl (sA (cntS Q.1 r (nI (strN S1 r (h - p)))) 11))), ((a 16), .inl ((xG cx).2.1, 3, .inl (sA (cntS Q.1 r (nI (strN S1 r (h - p)))) 12)))] (fold_cnt (xG cx) a Q.1 r (nI (strN S1 r (h - p)))) ?_
        refine x_lv [(0, .ref (a 0)), (1, .int (nI r)), (2, .int (nI h)), (3, .int (acc + Q.2)), (4, .int (nI (strN S1 r (h - p)))), (5, .int (nI (p + (strN S1 r (h - p)))))] [3, 4, 5, 1, 2, 0] rfl ?_
        exact ih (p + (strN S1 r (h - p))) (cntS Q.1 r (nI (strN S1 r (h - p)))) (acc + Q.2) (nI (strN S1 r (h - p))) (by omega) (by omega) (cntS_okS (sameB_okS (by rw [← e_Q]; exact burnS_sameB _ _ _ _) hok1) _ _) (by rw [← e, pRf_s n_11, e_Q])
  refine x_lv [(0, .ref (a 0)), (1, .int (nI r)), (2, .int (nI h)), (3, .int 0), (4, .int 1), (5, .int (nI 0))] [3, 4, 5, 2, 1, 0] rfl ?_
  exact loop_8 (h + 1) 0 S 0 1 (by omega) (by omega) (hok) (rfl)

theorem i_kX4_passHours_X4 : ∀ w ∈ u_ws RX4 TX4 6, w ∈ wsX4_passHours := by decide +kernel
theorem m_kX4_passHours_1 : (Cond.fieldLink RX4 9 "LampRacks$State" "hour" "I" : Cond) ∈ wsX4_passHours := by decide +kernel
set_option maxRecDepth 100000 in
set_option maxHeartbeats 4000000 in
theorem kX4_passHours (l : Launch) (G : GG) (a : Nat → Nat) (S : SC) (h : Nat) (hok : okS S) (hh : h < 100000) : MU l G yX4_passHours wsX4_passHours ({ frames := 4, cells := 0, slots := 0, locals := 96 } : Room) [.ref (a 0), .int (nI h)] (stW G a S) (some (.int ((pHs S h).2))) (stW G a ((pHs S h).1)) := by
  refine MU.of (cc := cX4_passHours) (maxL := 4) (ret := (some .int)) (by decide) rfl (Nat.le_of_ble_eq_true rfl) ?_
  intro cx hxl hxG C M E
  subst hxl
  subst hxG
  show X cx (0, 0) [(a 0, .inr (4, [.int (sHr S), .int (sWv S), .int (sDv S), .ref (a 1), .ref (a 2), .ref (a 3)])), (a 1, .inr (0, [.ref (a 4), .ref (a 5)])), (a 2, .inr (2, [.int (nI (sN S)), .ref (a 6), .ref (a 7), .ref (a 8), .ref (a 9), .ref (a 10), .ref (a 11)])), (a 3, .inr (3, [.ref (a 12), .ref (a 13), .ref (a 14), .ref (a 15), .ref (a 16)])), (a 4, .inl ((xG cx).2.1, 6, .inl (sA S 0))), (a 5, .inl ((xG cx).2.1, 6, .inl (sA S 1))), (a 6, .inl ((xG cx).2.1, 60, .inl (sA S 2))), (a 7, .inl ((xG cx).2.1, 60, .inl (sA S 3))), (a 8, .inl ((xG cx).2.1, 60, .inl (sA S 4))), (a 9, .inl ((xG cx).2.1, 60, .inl (sA S 5))), (a 10, .inl ((xG cx).2.1, 60, .inl (sA S 6))), (a 11, .inl ((xG cx).2.1, 60, .inl (sA S 7))), (a 12, .inl ((xG cx).2.1, 24, .inl (sA S 8))), (a 13, .inl ((xG cx).2.1, 3, .inl (sA S 9))), (a 14, .inl ((xG cx).2.1, 3, .inl (sA S 10))), (a 15, .inl ((xG cx).2.1, 3, .inl (sA S 11))), (a 16, .inl ((xG cx).2.1, 3, .inl (sA S 12)))] [(0, .ref (a 0)), (1, .int (nI h))] 0 []
  refine x_iconst (v := 0) C dX4_passHours_0 (by decide) ?_
  refine x_istore_n C [(2, .int 0), (0, .ref (a 0)), (1, .int (nI h))] dX4_passHours_1 rfl (by decide) rfl ?_
  refine x_iconst (v := 0) C dX4_passHours_2 (by decide) ?_
  refine x_istore_n C [(3, .int 0), (2, .int 0), (0, .ref (a 0)), (1, .int (nI h))] dX4_passHours_3 rfl (by decide) rfl ?_
  have loop_4 : ∀ (zz : Nat) (i : Nat) (S1 : SC) (acc : Int32) (hi : i ≤ 3) (hz : 4 ≤ i + zz) (hok1 : okS S1) (e : pRs S h i = (S1, acc)), X cx (0, 0) [(a 0, .inr (4, [.int (sHr S1), .int (sWv S1), .int (sDv S1), .ref (a 1), .ref (a 2), .ref (a 3)])), (a 1, .inr (0, [.ref (a 4), .ref (a 5)])), (a 2, .inr (2, [.int (nI (sN S1)), .ref (a 6), .ref (a 7), .ref (a 8), .ref (a 9), .ref (a 10), .ref (a 11)])), (a 3, .inr (3, [.ref (a 12), .ref (a 13), .ref (a 14), .ref (a 15), .ref (a 16)])), (a 4, .inl ((xG cx).2.1, 6, .inl (sA S1 0))), (a 5, .inl ((xG cx).2.1, 6, .inl (sA S1 1))), (a 6, .inl ((xG cx).2.1, 60, .inl (sA S1 2))), (a 7, .inl ((xG cx).2.1, 60, .inl (sA S1 3))), (a 8, .inl ((xG cx).2.1, 60, .inl (sA S1 4))), (a 9, .inl ((xG cx).2.1, 60, .inl (sA S1 5))), (a 10, .inl ((xG cx).2.1, 60, .inl (sA S1 6))), (a 11, .inl ((xG cx).2.1, 60, .inl (sA S1 7))), (a 12, .inl ((xG cx).2.1, 24, .inl (sA S1 8))), (a 13, .inl ((xG cx).2.1, 3, .inl (sA S1 9))), (a 14, .inl ((xG cx).2.1, 3, .inl (sA S1 10))), (a 15, .inl ((xG cx).2.1, 3, .inl (sA S1 11))), (a 16, .inl ((xG cx).2.1, 3, .inl (sA S1 12)))] [(0, .ref (a 0)), (1, .int (nI h)), (2, .int acc), (3, .int (nI i))] 4 [] := by
    intro zz
    induction zz with
    | zero =>
      intro i S1 acc hi hz hok1 e
      exfalso; omega
    | succ zz ih =>
      intro i S1 acc hi hz hok1 e
      refine x_iload_n C 3 dX4_passHours_4 rfl rfl ?_
      refine x_iconst (v := 3) C dX4_passHours_5 (by decide) ?_
      refine x_icmp_ge C 24 dX4_passHours_6 (by decide) (fun c_6 => ?_) (fun c_6 => ?_)
      ·
        have n_6 : 3 ≤ i := (nI_leI (a := 3) (b := i) (by omega) (by omega)).mp c_6
        refine x_aload_n C 0 dX4_passHours_24 rfl rfl ?_
        refine x_dup C dX4_passHours_25 rfl ?_
        refine x_getf C 0 rfl rfl i_kX4_passHours_X4 0 (by decide) m_kX4_passHours_1 rfl rfl dX4_passHours_26 ?_
        refine x_iload_n C 1 dX4_passHours_29 rfl rfl ?_
        refine x_iadd C (rfl) dX4_passHours_30 ?_
        refine x_putf (ty := .int) C M 0 rfl rfl i_kX4_passHours_X4 0 (by decide) m_kX4_passHours_1 rfl rfl tyX4 tyX4_ok nmX4 (by decide +kernel) rfl rfl (Nat.le_of_ble_eq_true rfl) [(a 0, .inr (4, [.int ((sHr S1) + (nI h)), .int (sWv S1), .int (sDv S1), .ref (a 1), .ref (a 2), .ref (a 3)])), (a 1, .inr (0, [.ref (a 4), .ref (a 5)])), (a 2, .inr (2, [.int (nI (sN S1)), .ref (a 6), .ref (a 7), .ref (a 8), .ref (a 9), .ref (a 10), .ref (a 11)])), (a 3, .inr (3, [.ref (a 12), .ref (a 13), .ref (a 14), .ref (a 15), .ref (a 16)])), (a 4, .inl ((xG cx).2.1, 6, .inl (sA S1 0))), (a 5, .inl ((xG cx).2.1, 6, .inl (sA S1 1))), (a 6, .inl ((xG cx).2.1, 60, .inl (sA S1 2))), (a 7, .inl ((xG cx).2.1, 60, .inl (sA S1 3))), (a 8, .inl ((xG cx).2.1, 60, .inl (sA S1 4))), (a 9, .inl ((xG cx).2.1, 60, .inl (sA S1 5))), (a 10, .inl ((xG cx).2.1, 60, .inl (sA S1 6))), (a 11, .inl ((xG cx).2.1, 60, .inl (sA S1 7))), (a 12, .inl ((xG cx).2.1, 24, .inl (sA S1 8))), (a 13, .inl ((xG cx).2.1, 3, .inl (sA S1 9))), (a 14, .inl ((xG cx).2.1, 3, .inl (sA S1 10))), (a 15, .inl ((xG cx).2.1, 3, .inl (sA S1 11))), (a 16, .inl ((xG cx).2.1, 3, .inl (sA S1 12)))] rfl dX4_passHours_31 ?_
        refine x_iload_n C 2 dX4_passHours_34 rfl rfl ?_
        exact x_iret C E dX4_passHours_35 (by rw [show pHs S h = (uHr S1 (sHr S1 + nI h), acc) from by rw [pHs, show (3 : Nat) = i from by omega, e]]) ((rfl : _ = stW (xG cx) a (uHr S1 (sHr S1 + nI h))).trans (by rw [show pHs S h = (uHr S1 (sHr S1 + nI h), acc) from by rw [pHs, show (3 : Nat) = i from by omega, e]]))
      ·
        have n_6 : ¬ (3 ≤ i) := fun q => c_6 ((nI_leI (a := 3) (b := i) (by omega) (by omega)).mpr q)
        refine x_iload_n C 2 dX4_passHours_9 rfl rfl ?_
        refine x_aload_n C 0 dX4_passHours_10 rfl rfl ?_
        refine x_iload_n C 3 dX4_passHours_11 rfl rfl ?_
        refine x_iload_n C 1 dX4_passHours_12 rfl rfl ?_
        refine x_callVMU C ([.int (nI i), .int (nI h)]) ([.int acc]) [0, 1, 2, 3, 4, 5, 6, 7, 8, 9, 10, 11, 12, 13, 14, 15, 16] [(a 0, .inr (4, [.int (sHr ((pRk S1 i h).1)), .int (sWv ((pRk S1 i h).1)), .int (sDv ((pRk S1 i h).1)), .ref (a 1), .ref (a 2), .ref (a 3)])), (a 1, .inr (0, [.ref (a 4), .ref (a 5)])), (a 2, .inr (2, [.int (nI (sN ((pRk S1 i h).1))), .ref (a 6), .ref (a 7), .ref (a 8), .ref (a 9), .ref (a 10), .ref (a 11)])), (a 3, .inr (3, [.ref (a 12), .ref (a 13), .ref (a 14), .ref (a 15), .ref (a 16)])), (a 4, .inl ((xG cx).2.1, 6, .inl (sA ((pRk S1 i h).1) 0))), (a 5, .inl ((xG cx).2.1, 6, .inl (sA ((pRk S1 i h).1) 1))), (a 6, .inl ((xG cx).2.1, 60, .inl (sA ((pRk S1 i h).1) 2))), (a 7, .inl ((xG cx).2.1, 60, .inl (sA ((pRk S1 i h).1) 3))), (a 8, .inl ((xG cx).2.1, 60, .inl (sA ((pRk S1 i h).1) 4))), (a 9, .inl ((xG cx).2.1, 60, .inl (sA ((pRk S1 i h).1) 5))), (a 10, .inl ((xG cx).2.1, 60, .inl (sA ((pRk S1 i h).1) 6))), (a 11, .inl ((xG cx).2.1, 60, .inl (sA ((pRk S1 i h).1) 7))), (a 12, .inl ((xG cx).2.1, 24, .inl (sA ((pRk S1 i h).1) 8))), (a 13, .inl ((xG cx).2.1, 3, .inl (sA ((pRk S1 i h).1) 9))), (a 14, .inl ((xG cx).2.1, 3, .inl (sA ((pRk S1 i h).1) 10))), (a 15, .inl ((xG cx).2.1, 3, .inl (sA ((pRk S1 i h).1) 11))), (a 16, .inl ((xG cx).2.1, 3, .inl (sA ((pRk S1 i h).1) 12)))] [] [a 0, a 1, a 2, a 3, a 4, a 5, a 6, a 7, a 8, a 9, a 10, a 11, a 12, a 13, a 14, a 15, a 16] rfl rfl [] rfl rfl 17 rfl (by decide +kernel) rfl (k0 := 0) (na := 2) gX4_passHours_X4_passHoursOfRack rfl (by decide +kernel) rfl rfl rfl M (kX4_passHoursOfRack (xl cx) (xG cx) a S1 i h (hok1) (by first | assumption | rfl | omega | decide) (by first | assumption | rfl | omega | decide)) rfl (by decide) rfl rfl rfl ⟨by decide, by decide⟩ (Nat.le_of_ble_eq_true rfl) ⟨by decide, by decide⟩ dX4_passHours_13 ?_
        generalize e_Q : pRk S1 i h = Q
        refine x_iadd C (rfl) dX4_passHours_16 ?_
        refine x_istore_n C [(2, .int (acc + Q.2)), (0, .ref (a 0)), (1, .int (nI h)), (3, .int (nI i))] dX4_passHours_17 rfl (by decide) rfl ?_
        refine x_iinc C 3 [(3, .int (nI (i + 1))), (2, .int (acc + Q.2)), (0, .ref (a 0)), (1, .int (nI h))] dX4_passHours_18 rfl (inc1 i) (by decide) rfl ?_
        refine x_goto (tgt := 4) C dX4_passHours_21 (by decide) ?_
        refine x_lv [(0, .ref (a 0)), (1, .int (nI h)), (2, .int (acc + Q.2)), (3, .int (nI (i + 1)))] [2, 3, 1, 0] rfl ?_
        exact ih (i + 1) Q.1 (acc + Q.2) (by omega) (by omega) (by rw [← e_Q]; exact pRf_okS _ _ _ _ _ _ hok1) (by rw [pRs_s, e, e_Q])
  refine x_lv [(0, .ref (a 0)), (1, .int (nI h)), (2, .int 0), (3, .int (nI 0))] [2, 3, 1, 0] rfl ?_
  exact loop_4 (4) 0 S 0 (by omega) (by omega) (hok) (rfl)

theorem m_kX4_letPass_0 : (Cond.static yX6_isWithin : Cond) ∈ wsX4_letPass := by decide +kernel
theorem m_kX4_letPass_1 : (Cond.initialized RX6 : Cond) ∈ wsX4_letPass := by decide +kernel
theorem i_kX4_letPass_X4 : ∀ w ∈ u_ws RX4 TX4 6, w ∈ wsX4_letPass := by decide +kernel
theorem m_kX4_letPass_3 : (Cond.fieldLink RX4 9 "LampRacks$State" "hour" "I" : Cond) ∈ wsX4_letPass := by decide +kernel
theorem m_kX4_letPass_4 : (Cond.constant RX4 120 99999 : Cond) ∈ wsX4_letPass := by decide +kernel
set_option maxRecDepth 100000 in
set_option maxHeartbeats 4000000 in
theorem kX4_letPass (l : Launch) (G : GG) (a : Nat → Nat) (S : SC) (h : Int32) (hok : okS S) : MU l G yX4_letPass wsX4_letPass ({ frames := 5, cells := 0, slots := 0, locals := 119 } : Room) [.ref (a 0), .int h] (stW G a S) (some (.int ((lpS S h).1))) (stW G a ((lpS S h).2)) := by
  refine MU.of (cc := cX4_letPass) (maxL := 2) (ret := (some .int)) (by decide) rfl (Nat.le_of_ble_eq_true rfl) ?_
  intro cx hxl hxG C M E
  subst hxl
  subst hxG
  show X cx (0, 0) [(a 0, .inr (4, [.int (sHr S), .int (sWv S), .int (sDv S), .ref (a 1), .ref (a 2), .ref (a 3)])), (a 1, .inr (0, [.ref (a 4), .ref (a 5)])), (a 2, .inr (2, [.int (nI (sN S)), .ref (a 6), .ref (a 7), .ref (a 8), .ref (a 9), .ref (a 10), .ref (a 11)])), (a 3, .inr (3, [.ref (a 12), .ref (a 13), .ref (a 14), .ref (a 15), .ref (a 16)])), (a 4, .inl ((xG cx).2.1, 6, .inl (sA S 0))), (a 5, .inl ((xG cx).2.1, 6, .inl (sA S 1))), (a 6, .inl ((xG cx).2.1, 60, .inl (sA S 2))), (a 7, .inl ((xG cx).2.1, 60, .inl (sA S 3))), (a 8, .inl ((xG cx).2.1, 60, .inl (sA S 4))), (a 9, .inl ((xG cx).2.1, 60, .inl (sA S 5))), (a 10, .inl ((xG cx).2.1, 60, .inl (sA S 6))), (a 11, .inl ((xG cx).2.1, 60, .inl (sA S 7))), (a 12, .inl ((xG cx).2.1, 24, .inl (sA S 8))), (a 13, .inl ((xG cx).2.1, 3, .inl (sA S 9))), (a 14, .inl ((xG cx).2.1, 3, .inl (sA S 10))), (a 15, .inl ((xG cx).2.1, 3, .inl (sA S 11))), (a 16, .inl ((xG cx).2.1, 3, .inl (sA S 12)))] [(0, .ref (a 0)), (1, .int h)] 0 []
  refine x_iload_n C 1 dX4_letPass_0 rfl rfl ?_
  refine x_iconst (v := 1) C dX4_letPass_1 (by decide) ?_
  refine x_sipush (v := 999) C dX4_letPass_2 (by decide) ?_
  refine x_callNRO C ([.int h, .int 1, .int 999]) ([]) [] (na := 3) (host := "LampRacks") gX4_letPass_X6_isWithin_n56 (by decide +kernel) m_kX4_letPass_0 m_kX4_letPass_1 rfl (by decide +kernel) rfl (kX6_isWithin (xl cx) (xG cx) h 1 999) rfl (by decide) rfl rfl rfl ⟨by decide, by decide⟩ (Nat.le_of_ble_eq_true rfl) ⟨by decide, by decide⟩ dX4_letPass_5 ?_
  refine x_ifb_ne (P := 1 ≤ h ∧ h ≤ 999) C 15 dX4_letPass_8 (by decide) (fun c_8 => ?_) (fun c_8 => ?_)
  ·
    refine x_aload_n C 0 dX4_letPass_15 rfl rfl ?_
    refine x_getf C 0 rfl rfl i_kX4_letPass_X4 0 (by decide) m_kX4_letPass_3 rfl rfl dX4_letPass_16 ?_
    refine x_iload_n C 1 dX4_letPass_19 rfl rfl ?_
    refine x_iadd C (rfl) dX4_letPass_20 ?_
    refine x_ldc (v := 99999) C m_kX4_letPass_4 dX4_letPass_21 ?_
    refine x_icmp_le C 30 dX4_letPass_23 (by decide) (fun c_23 => ?_) (fun c_23 => ?_)
    ·
      obtain ⟨kh, h_kh, rfl⟩ := in_nat1 (M := 999) (m := 999) c_8 (by decide)
      refine x_aload_n C 0 dX4_letPass_30 rfl rfl ?_
      refine x_iload_n C 1 dX4_letPass_31 rfl rfl ?_
      refine x_callVMU C ([.int (nI kh)]) ([]) [0, 1, 2, 3, 4, 5, 6, 7, 8, 9, 10, 11, 12, 13, 14, 15, 16] [(a 0, .inr (4, [.int (sHr ((pHs S kh).1)), .int (sWv ((pHs S kh).1)), .int (sDv ((pHs S kh).1)), .ref (a 1), .ref (a 2), .ref (a 3)])), (a 1, .inr (0, [.ref (a 4), .ref (a 5)])), (a 2, .inr (2, [.int (nI (sN ((pHs S kh).1))), .ref (a 6), .ref (a 7), .ref (a 8), .ref (a 9), .ref (a 10), .ref (a 11)])), (a 3, .inr (3, [.ref (a 12), .ref (a 13), .ref (a 14), .ref (a 15), .ref (a 16)])), (a 4, .inl ((xG cx).2.1, 6, .inl (sA ((pHs S kh).1) 0))), (a 5, .inl ((xG cx).2.1, 6, .inl (sA ((pHs S kh).1) 1))), (a 6, .inl ((xG cx).2.1, 60, .inl (sA ((pHs S kh).1) 2))), (a 7, .inl ((xG cx).2.1, 60, .inl (sA ((pHs S kh).1) 3))), (a 8, .inl ((xG cx).2.1, 60, .inl (sA ((pHs S kh).1) 4))), (a 9, .inl ((xG cx).2.1, 60, .inl (sA ((pHs S kh).1) 5))), (a 10, .inl ((xG cx).2.1, 60, .inl (sA ((pHs S kh).1) 6))), (a 11, .inl ((xG cx).2.1, 60, .inl (sA ((pHs S kh).1) 7))), (a 12, .inl ((xG cx).2.1, 24, .inl (sA ((pHs S kh).1) 8))), (a 13, .inl ((xG cx).2.1, 3, .inl (sA ((pHs S kh).1) 9))), (a 14, .inl ((xG cx).2.1, 3, .inl (sA ((pHs S kh).1) 10))), (a 15, .inl ((xG cx).2.1, 3, .inl (sA ((pHs S kh).1) 11))), (a 16, .inl ((xG cx).2.1, 3, .inl (sA ((pHs S kh).1) 12)))] [] [a 0, a 1, a 2, a 3, a 4, a 5, a 6, a 7, a 8, a 9, a 10, a 11, a 12, a 13, a 14, a 15, a 16] rfl rfl [] rfl rfl 17 rfl (by decide +kernel) rfl (k0 := 0) (na := 1) gX4_letPass_X4_passHours rfl (by decide +kernel) rfl rfl rfl M (kX4_passHours (xl cx) (xG cx) a S kh (by first | assumption | rfl | omega | decide) (by first | assumption | rfl | omega | decide)) rfl (by decide) rfl rfl rfl ⟨by decide, by decide⟩ (Nat.le_of_ble_eq_true rfl) ⟨by decide, by decide⟩ dX4_letPass_32 ?_
      have e_ret : lpS S (nI kh) = ((pHs S kh).2, (pHs S kh).1) := by simp [lpS, c_8, c_23, ix kh (by omega)]
      exact x_iret C E dX4_letPass_35 (by rw [e_ret]) ((rfl : _ = stW (xG cx) a ((pHs S kh).1)).trans (by rw [e_ret]))
    ·
      refine x_sipush (v := (-1003)) C dX4_letPass_26 (by decide) ?_
      have e_ret : lpS S h = ((-1003), S) := by simp [lpS, c_8, c_23]
      exact x_iret C E dX4_letPass_29 (by rw [e_ret]) ((rfl : _ = stW (xG cx) a S).trans (by rw [e_ret]))
  ·
    refine x_sipush (v := (-1002)) C dX4_letPass_11 (by decide) ?_
    have e_ret : lpS S h = ((-1002), S) := by simp [lpS, c_8]
    exact x_iret C E dX4_letPass_14 (by rw [e_ret]) ((rfl : _ = stW (xG cx) a S).trans (by rw [e_ret]))
