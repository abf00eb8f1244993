/-- what a state keeps: at most 60 lamps, each place names a lamp or none, each lamp a place or none -/
def okS (S : SC) : Prop := sN S ≤ 60 ∧ (∀ j, j < 24 → sA S 8 j = -1 ∨ ∃ k, k < sN S ∧ sA S 8 j = nI k) ∧ (∀ k, k < sN S → sA S 3 k = -1 ∨ ∃ j, j < 24 ∧ sA S 3 k = nI j)
theorem okS.la {S : SC} (h : okS S) {j : Nat} (hj : j < 24) : sA S 8 j = -1 ∨ ∃ k, k < 60 ∧ sA S 8 j = nI k := (h.2.1 j hj).imp id (fun ⟨k, h1, h2⟩ => ⟨k, Nat.lt_of_lt_of_le h1 h.1, h2⟩)
theorem in_nat1 {x M : Int32} {m : Nat} (h : 1 ≤ x ∧ x ≤ M) (hM : M.toInt = m) : ∃ k, (1 ≤ k ∧ k ≤ m) ∧ x = nI k := by
  have h1 := Int32.le_iff_toInt_le.mp h.1
  obtain ⟨k, h2, h3⟩ := nI_of2 hM (fun q => by
    have h2 := Int32.lt_iff_toInt_lt.mp q
    have e1 : (1 : Int32).toInt = 1 := by decide
    have e0 : (0 : Int32).toInt = 0 := by decide
    omega) h.2
  refine ⟨k, ⟨?_, h2⟩, h3⟩
  rcases Nat.eq_zero_or_pos k with h4 | h4
  · subst h4
    subst h3
    exact absurd h.1 (by decide)
  · exact h4
/-- a lamp, or nothing, is left at a place: how many lamps that moves -/
def mvS (S : SC) (j : Nat) (L : Int32) : Int32 × SC := if L = -1 then (0, uA S 8 (upd (sA S 8) j L)) else (1, uA (uA S 8 (upd (sA S 8) j L)) 3 (upd (sA S 3) (ixz L) (nI j)))
def addS (S : SC) (j : Nat) (b : Int32) (h : Int32) : SC := uN (uA (uA (uA (uA (uA (uA (uA S 8 (upd (sA S 8) j (nI (sN S)))) 2 (upd (sA S 2) (sN S) b)) 3 (upd (sA S 3) (sN S) (nI j))) 4 (upd (sA S 4) (sN S) h)) 5 (upd (sA S 5) (sN S) 0)) 6 (upd (sA S 6) (sN S) 0)) 7 (upd (sA S 7) (sN S) (-1))) (sN S + 1)
def insS (S : SC) (r p b : Int32) : Int32 × SC :=
  if ((0 ≤ r ∧ r ≤ 2) ∧ (0 ≤ p ∧ p ≤ 7)) ∧ (0 ≤ b ∧ b ≤ 5) then
    if sA S 8 (ixz r * 8 + ixz p) = -1 then
      if 60 ≤ sN S then (-1003, S)
      else (nI (sN S), addS S (ixz r * 8 + ixz p) b (hoL (sA S 0 (ixz b)) (sA S 1 (ixz b)) (nI (sN S))))
    else (-1004, S)
  else (-1001, S)
def rmS (S : SC) (r p : Int32) : Int32 × SC :=
  if (0 ≤ r ∧ r ≤ 2) ∧ (0 ≤ p ∧ p ≤ 7) then
    if sA S 8 (ixz r * 8 + ixz p) = -1 then (-1005, S)
    else (sA S 8 (ixz r * 8 + ixz p), uA (uA S 8 (upd (sA S 8) (ixz r * 8 + ixz p) (-1))) 3 (upd (sA S 3) (ixz (sA S 8 (ixz r * 8 + ixz p))) (-1)))
  else (-1001, S)
def exS (S : SC) (r p r2 p2 : Int32) : Int32 × SC :=
  if ((0 ≤ r ∧ r ≤ 2) ∧ (0 ≤ p ∧ p ≤ 7)) ∧ ((0 ≤ r2 ∧ r2 ≤ 2) ∧ (0 ≤ p2 ∧ p2 ≤ 7)) then
    if ixz r * 8 + ixz p = ixz r2 * 8 + ixz p2 ∨ (sA S 8 (ixz r * 8 + ixz p) = -1 ∧ sA S 8 (ixz r2 * 8 + ixz p2) = -1) then (-1005, S)
    else ((mvS S (ixz r2 * 8 + ixz p2) (sA S 8 (ixz r * 8 + ixz p))).1 + (mvS (mvS S (ixz r2 * 8 + ixz p2) (sA S 8 (ixz r * 8 + ixz p))).2 (ixz r * 8 + ixz p) (sA S 8 (ixz r2 * 8 + ixz p2))).1, (mvS (mvS S (ixz r2 * 8 + ixz p2) (sA S 8 (ixz r * 8 + ixz p))).2 (ixz r * 8 + ixz p) (sA S 8 (ixz r2 * 8 + ixz p2))).2)
  else (-1001, S)

theorem i_kX4_moveTo_X4 : ∀ w ∈ u_ws RX4 TX4 6, w ∈ wsX4_moveTo := by decide +kernel
theorem m_kX4_moveTo_1 : (Cond.fieldLink RX4 38 "LampRacks$State" "racks" "LLampRacks$Racks;" : Cond) ∈ wsX4_moveTo := by decide +kernel
theorem i_kX4_moveTo_X3 : ∀ w ∈ u_ws RX3 TX3 5, w ∈ wsX4_moveTo := by decide +kernel
theorem m_kX4_moveTo_3 : (Cond.fieldLink RX4 75 "LampRacks$Racks" "lampAt" "[I" : Cond) ∈ wsX4_moveTo := by decide +kernel
theorem m_kX4_moveTo_4 : (Cond.fieldLink RX4 31 "LampRacks$State" "lamps" "LLampRacks$Lamps;" : Cond) ∈ wsX4_moveTo := by decide +kernel
theorem i_kX4_moveTo_X2 : ∀ w ∈ u_ws RX2 TX2 7, w ∈ wsX4_moveTo := by decide +kernel
theorem m_kX4_moveTo_6 : (Cond.fieldLink RX4 92 "LampRacks$Lamps" "spot" "[I" : Cond) ∈ wsX4_moveTo := by decide +kernel
set_option maxRecDepth 100000 in
set_option maxHeartbeats 4000000 in
theorem kX4_moveTo (l : Launch) (G : GG) (a : Nat → Nat) (S : SC) (j : Nat) (L : Int32) (hj : j < 24) (hL : L = -1 ∨ ∃ k, k < 60 ∧ L = nI k) : MU l G yX4_moveTo wsX4_moveTo ({ frames := 0, cells := 0, slots := 0, locals := 0 } : Room) [.ref (a 0), .int (nI j), .int L] (stW G a S) (some (.int ((mvS S j L).1))) (stW G a ((mvS S j L).2)) := by
  refine MU.of (cc := cX4_moveTo) (maxL := 3) (ret := (some .int)) (by decide) rfl (Nat.le_of_ble_eq_true rfl) ?_
  intro cx hxl hxG C M E
  subst hxl
  subst hxG
  show X cx (0, 0) [(a 0, .inr (4, [.int (sHr S), .int (sWv S), .int (sDv S), .ref (a 1), .ref (a 2), .ref (a 3)])), (a 1, .inr (0, [.ref (a 4), .ref (a 5)])), (a 2, .inr (2, [.int (nI (sN S)), .ref (a 6), .ref (a 7), .ref (a 8), .ref (a 9), .ref (a 10), .ref (a 11)])), (a 3, .inr (3, [.ref (a 12), .ref (a 13), .ref (a 14), .ref (a 15), .ref (a 16)])), (a 4, .inl ((xG cx).2.1, 6, .inl (sA S 0))), (a 5, .inl ((xG cx).2.1, 6, .inl (sA S 1))), (a 6, .inl ((xG cx).2.1, 60, .inl (sA S 2))), (a 7, .inl ((xG cx).2.1, 60, .inl (sA S 3))), (a 8, .inl ((xG cx).2.1, 60, .inl (sA S 4))), (a 9, .inl ((xG cx).2.1, 60, .inl (sA S 5))), (a 10, .inl ((xG cx).2.1, 60, .inl (sA S 6))), (a 11, .inl ((xG cx).2.1, 60, .inl (sA S 7))), (a 12, .inl ((xG cx).2.1, 24, .inl (sA S 8))), (a 13, .inl ((xG cx).2.1, 3, .inl (sA S 9))), (a 14, .inl ((xG cx).2.1, 3, .inl (sA S 10))), (a 15, .inl ((xG cx).2.1, 3, .inl (sA S 11))), (a 16, .inl ((xG cx).2.1, 3, .inl (sA S 12)))] [(0, .ref (a 0)), (1, .int (nI j)), (2, .int L)] 0 []
  refine x_aload_n C 0 dX4_moveTo_0 rfl rfl ?_
  refine x_getf C 0 rfl rfl i_kX4_moveTo_X4 5 (by decide) m_kX4_moveTo_1 rfl rfl dX4_moveTo_1 ?_
  refine x_getf C 3 rfl rfl i_kX4_moveTo_X3 0 (by decide) m_kX4_moveTo_3 rfl rfl dX4_moveTo_4 ?_
  refine x_iload_n C 1 dX4_moveTo_7 rfl rfl ?_
  refine x_iload_n C 2 dX4_moveTo_8 rfl rfl ?_
  refine x_iast C M 12 rfl rfl (vp_in_nI (by omega) (by decide)) (nI_clamp (by omega)) [(a 0, .inr (4, [.int (sHr S), .int (sWv S), .int (sDv S), .ref (a 1), .ref (a 2), .ref (a 3)])), (a 1, .inr (0, [.ref (a 4), .ref (a 5)])), (a 2, .inr (2, [.int (nI (sN S)), .ref (a 6), .ref (a 7), .ref (a 8), .ref (a 9), .ref (a 10), .ref (a 11)])), (a 3, .inr (3, [.ref (a 12), .ref (a 13), .ref (a 14), .ref (a 15), .ref (a 16)])), (a 4, .inl ((xG cx).2.1, 6, .inl (sA S 0))), (a 5, .inl ((xG cx).2.1, 6, .inl (sA S 1))), (a 6, .inl ((xG cx).2.1, 60, .inl (sA S 2))), (a 7, .inl ((xG cx).2.1, 60, .inl (sA S 3))), (a 8, .inl ((xG cx).2.1, 60, .inl (sA S 4))), (a 9, .inl ((xG cx).2.1, 60, .inl (sA S 5))), (a 10, .inl ((xG cx).2.1, 60, .inl (sA S 6))), (a 11, .inl ((xG cx).2.1, 60, .inl (sA S 7))), (a 12, .inl ((xG cx).2.1, 24, .inl (upd (sA S 8) j L))), (a 13, .inl ((xG cx).2.1, 3, .inl (sA S 9))), (a 14, .inl ((xG cx).2.1, 3, .inl (sA S 10))), (a 15, .inl ((xG cx).2.1, 3, .inl (sA S 11))), (a 16, .inl ((xG cx).2.1, 3, .inl (sA S 12)))] rfl dX4_moveTo_9 ?_
  refine x_iload_n C 2 dX4_moveTo_10 rfl rfl ?_
  refine x_iconst (v := (-1)) C dX4_moveTo_11 (by decide) ?_
  refine x_icmp_ne C 17 dX4_moveTo_12 (by decide) (fun c_12 => ?_) (fun c_12 => ?_)
  ·
    obtain ⟨kl, h_kl, rfl⟩ := hL.resolve_left c_12
    refine x_aload_n C 0 dX4_moveTo_17 rfl rfl ?_
    refine x_getf C 0 rfl rfl i_kX4_moveTo_X4 4 (by decide) m_kX4_moveTo_4 rfl rfl dX4_moveTo_18 ?_
    refine x_getf C 2 rfl rfl i_kX4_moveTo_X2 2 (by decide) m_kX4_moveTo_6 rfl rfl dX4_moveTo_21 ?_
    refine x_iload_n C 2 dX4_moveTo_24 rfl rfl ?_
    refine x_iload_n C 1 dX4_moveTo_25 rfl rfl ?_
    refine x_iast C M 7 rfl rfl (vp_in_nI (by omega) (by decide)) (nI_clamp (by omega)) [(a 0, .inr (4, [.int (sHr S), .int (sWv S), .int (sDv S), .ref (a 1), .ref (a 2), .ref (a 3)])), (a 1, .inr (0, [.ref (a 4), .ref (a 5)])), (a 2, .inr (2, [.int (nI (sN S)), .ref (a 6), .ref (a 7), .ref (a 8), .ref (a 9), .ref (a 10), .ref (a 11)])), (a 3, .inr (3, [.ref (a 12), .ref (a 13), .ref (a 14), .ref (a 15), .ref (a 16)])), (a 4, .inl ((xG cx).2.1, 6, .inl (sA S 0))), (a 5, .inl ((xG cx).2.1, 6, .inl (sA S 1))), (a 6, .inl ((xG cx).2.1, 60, .inl (sA S 2))), (a 7, .inl ((xG cx).2.1, 60, .inl (upd (sA S 3) kl (nI j)))), (a 8, .inl ((xG cx).2.1, 60, .inl (sA S 4))), (a 9, .inl ((xG cx).2.1, 60, .inl (sA S 5))), (a 10, .inl ((xG cx).2.1, 60, .inl (sA S 6))), (a 11, .inl ((xG cx).2.1, 60, .inl (sA S 7))), (a 12, .inl ((xG cx).2.1, 24, .inl (upd (sA S 8) j (nI kl)))), (a 13, .inl ((xG cx).2.1, 3, .inl (sA S 9))), (a 14, .inl ((xG cx).2.1, 3, .inl (sA S 10))), (a 15, .inl ((xG cx).2.1, 3, .inl (sA S 11))), (a 16, .inl ((xG cx).2.1, 3, .inl (sA S 12)))] rfl dX4_moveTo_26 ?_
    refine x_iconst (v := 1) C dX4_moveTo_27 (by decide) ?_
    have e_ret : mvS S j (nI kl) = (1, uA (uA S 8 (upd (sA S 8) j (nI kl))) 3 (upd (sA S 3) kl (nI j))) := by simp [mvS, c_12, ix kl (by omega)]
    exact x_iret C E dX4_moveTo_28 (by rw [e_ret]) ((rfl : _ = stW (xG cx) a (uA (uA S 8 (upd (sA S 8) j (nI kl))) 3 (upd (sA S 3) kl (nI j)))).trans (by rw [e_ret]))
  ·
    refine x_iconst (v := 0) C dX4_moveTo_15 (by decide) ?_
    have e_ret : mvS S j L = (0, uA S 8 (upd (sA S 8) j L)) := by simp [mvS, c_12]
    exact x_iret C E dX4_moveTo_16 (by rw [e_ret]) ((rfl : _ = stW (xG cx) a (uA S 8 (upd (sA S 8) j L))).trans (by rw [e_ret]))

theorem m_kX4_insertLamp_0 : (Cond.static yX6_isPlace : Cond) ∈ wsX4_insertLamp := by decide +kernel
theorem m_kX4_insertLamp_1 : (Cond.initialized RX6 : Cond) ∈ wsX4_insertLamp := by decide +kernel
theorem m_kX4_insertLamp_2 : (Cond.static yX6_isBatch : Cond) ∈ wsX4_insertLamp := by decide +kernel
theorem m_kX4_insertLamp_3 : (Cond.static yX6_spotOf : Cond) ∈ wsX4_insertLamp := by decide +kernel
theorem i_kX4_insertLamp_X4 : ∀ w ∈ u_ws RX4 TX4 6, w ∈ wsX4_insertLamp := by decide +kernel
theorem m_kX4_insertLamp_5 : (Cond.fieldLink RX4 38 "LampRacks$State" "racks" "LLampRacks$Racks;" : Cond) ∈ wsX4_insertLamp := by decide +kernel
theorem i_kX4_insertLamp_X3 : ∀ w ∈ u_ws RX3 TX3 5, w ∈ wsX4_insertLamp := by decide +kernel
theorem m_kX4_insertLamp_7 : (Cond.fieldLink RX4 75 "LampRacks$Racks" "lampAt" "[I" : Cond) ∈ wsX4_insertLamp := by decide +kernel
theorem m_kX4_insertLamp_8 : (Cond.fieldLink RX4 31 "LampRacks$State" "lamps" "LLampRacks$Lamps;" : Cond) ∈ wsX4_insertLamp := by decide +kernel
theorem m_kX4_insertLamp_9 : (Cond.fieldLink RX4 24 "LampRacks$State" "batches" "LLampRacks$Batches;" : Cond) ∈ wsX4_insertLamp := by decide +kernel
theorem i_kX4_insertLamp_X2 : ∀ w ∈ u_ws RX2 TX2 7, w ∈ wsX4_insertLamp := by decide +kernel
theorem m_kX4_insertLamp_11 : (Cond.fieldLink RX4 82 "LampRacks$Lamps" "size" "I" : Cond) ∈ wsX4_insertLamp := by decide +kernel
set_option maxRecDepth 100000 in
set_option maxHeartbeats 4000000 in
theorem kX4_insertLamp (l : Launch) (G : GG) (a : Nat → Nat) (S : SC) (r : Int32) (p : Int32) (b : Int32) (hok : okS S) : MU l G yX4_insertLamp wsX4_insertLamp ({ frames := 3, cells := 0, slots := 0, locals := 64 } : Room) [.ref (a 0), .int r, .int p, .int b] (stW G a S) (some (.int ((insS S r p b).1))) (stW G a ((insS S r p b).2)) := by
  refine MU.of (cc := cX4_insertLamp) (maxL := 6) (ret := (some .int)) (by decide) rfl (Nat.le_of_ble_eq_true rfl) ?_
  intro cx hxl hxG C M E
  subst hxl
  subst hxG
  show X cx (0, 0) [(a 0, .inr (4, [.int (sHr S), .int (sWv S), .int (sDv S), .ref (a 1), .ref (a 2), .ref (a 3)])), (a 1, .inr (0, [.ref (a 4), .ref (a 5)])), (a 2, .inr (2, [.int (nI (sN S)), .ref (a 6), .ref (a 7), .ref (a 8), .ref (a 9), .ref (a 10), .ref (a 11)])), (a 3, .inr (3, [.ref (a 12), .ref (a 13), .ref (a 14), .ref (a 15), .ref (a 16)])), (a 4, .inl ((xG cx).2.1, 6, .inl (sA S 0))), (a 5, .inl ((xG cx).2.1, 6, .inl (sA S 1))), (a 6, .inl ((xG cx).2.1, 60, .inl (sA S 2))), (a 7, .inl ((xG cx).2.1, 60, .inl (sA S 3))), (a 8, .inl ((xG cx).2.1, 60, .inl (sA S 4))), (a 9, .inl ((xG cx).2.1, 60, .inl (sA S 5))), (a 10, .inl ((xG cx).2.1, 60, .inl (sA S 6))), (a 11, .inl ((xG cx).2.1, 60, .inl (sA S 7))), (a 12, .inl ((xG cx).2.1, 24, .inl (sA S 8))), (a 13, .inl ((xG cx).2.1, 3, .inl (sA S 9))), (a 14, .inl ((xG cx).2.1, 3, .inl (sA S 10))), (a 15, .inl ((xG cx).2.1, 3, .inl (sA S 11))), (a 16, .inl ((xG cx).2.1, 3, .inl (sA S 12)))] [(0, .ref (a 0)), (1, .int r), (2, .int p), (3, .int b)] 0 []
  refine x_iload_n C 1 dX4_insertLamp_0 rfl rfl ?_
  refine x_iload_n C 2 dX4_insertLamp_1 rfl rfl ?_
  refine x_callNRO C ([.int r, .int p]) ([]) [] (na := 2) (host := "LampRacks") gX4_insertLamp_X6_isPlace_n67 (by decide +kernel) m_kX4_insertLamp_0 m_kX4_insertLamp_1 rfl (by decide +kernel) rfl (kX6_isPlace (xl cx) (xG cx) r p) rfl (by decide) rfl rfl rfl ⟨by decide, by decide⟩ (Nat.le_of_ble_eq_true rfl) ⟨by decide, by decide⟩ dX4_insertLamp_2 ?_
  refine x_ifb_eq (P := (0 ≤ r ∧ r ≤ 2) ∧ (0 ≤ p ∧ p ≤ 7)) C 15 dX4_insertLamp_5 (by decide) (fun c_5 => ?_) (fun c_5 => ?_)
  ·
    refine x_sipush (v := (-1001)) C dX4_insertLamp_15 (by decide) ?_
    have e_ret : insS S r p b = ((-1001), S) := by simp [insS, c_5]
    exact x_iret C E dX4_insertLamp_18 (by rw [e_ret]) ((rfl : _ = stW (xG cx) a S).trans (by rw [e_ret]))
  ·
    refine x_iload_n C 3 dX4_insertLamp_8 rfl rfl ?_
    refine x_callNRO C ([.int b]) ([]) [] (na := 1) (host := "LampRacks") gX4_insertLamp_X6_isBatch_n52 (by decide +kernel) m_kX4_insertLamp_2 m_kX4_insertLamp_1 rfl (by decide +kernel) rfl (kX6_isBatch (xl cx) (xG cx) b) rfl (by decide) rfl rfl rfl ⟨by decide, by decide⟩ (Nat.le_of_ble_eq_true rfl) ⟨by decide, by decide⟩ dX4_insertLamp_9 ?_
    refine x_ifb_ne (P := 0 ≤ b ∧ b ≤ 5) C 19 dX4_insertLamp_12 (by decide) (fun c_12 => ?_) (fun c_12 => ?_)
    ·
      have hn := hok.1
      obtain ⟨kr, h_kr, rfl⟩ := in_nat (M := 2) (m := 2) c_5.1 (by decide)
      obtain ⟨kp, h_kp, rfl⟩ := in_nat (M := 7) (m := 7) c_5.2 (by decide)
      obtain ⟨kb, h_kb, rfl⟩ := in_nat (M := 5) (m := 5) c_12 (by decide)
      refine x_iload_n C 1 dX4_insertLamp_19 rfl rfl ?_
      refine x_iload_n C 2 dX4_insertLamp_20 rfl rfl ?_
      refine x_callNRO C ([.int (nI kr), .int (nI kp)]) ([]) [] (na := 2) (host := "LampRacks") gX4_insertLamp_X6_spotOf_n71 (by decide +kernel) m_kX4_insertLamp_3 m_kX4_insertLamp_1 rfl (by decide +kernel) rfl (kX6_spotOf (xl cx) (xG cx) kr kp) rfl (by decide) rfl rfl rfl ⟨by decide, by decide⟩ (Nat.le_of_ble_eq_true rfl) ⟨by decide, by decide⟩ dX4_insertLamp_21 ?_
      refine x_istore C [(4, .int (nI (kr * 8 + kp))), (0, .ref (a 0)), (1, .int (nI kr)), (2, .int (nI kp)), (3, .int (nI kb))] dX4_insertLamp_24 (by decide) rfl ?_
      refine x_aload_n C 1 dX4_insertLamp_26 rfl rfl ?_
      refine x_getf C 0 rfl rfl i_kX4_insertLamp_X4 5 (by decide) m_kX4_insertLamp_5 rfl rfl dX4_insertLamp_27 ?_
      refine x_getf C 3 rfl rfl i_kX4_insertLamp_X3 0 (by decide) m_kX4_insertLamp_7 rfl rfl dX4_insertLamp_30 ?_
      refine x_iload C 0 dX4_insertLamp_33 rfl ?_
      refine x_iald C 12 rfl rfl (vp_in_nI (by omega) (by decide)) (congrArg (sA S 8) (nI_clamp (by omega))) dX4_insertLamp_35 ?_
      refine x_iconst (v := (-1)) C dX4_insertLamp_36 (by decide) ?_
      refine x_icmp_eq C 44 dX4_insertLamp_37 (by decide) (fun c_37 => ?_) (fun c_37 => ?_)
      ·
        refine x_aload_n C 1 dX4_insertLamp_44 rfl rfl ?_
        refine x_getf C 0 rfl rfl i_kX4_insertLamp_X4 4 (by decide) m_kX4_insertLamp_8 rfl rfl dX4_insertLamp_45 ?_
        refine x_callVRO C ([]) ([]) [2, 6, 7, 8, 9, 10, 11] (k0 := 0) (na := 0) gX4_insertLamp_X2_isFull rfl (by decide +kernel) rfl rfl rfl (kX2_isFull (xl cx) (xG cx) (a 2) (a 6) (a 7) (a 8) (a 9) (a 10) (a 11) (sN S) (sA S 2) (sA S 3) (sA S 4) (sA S 5) (sA S 6) (sA S 7) (by first | assumption | rfl | omega | decide)) rfl (by decide) rfl rfl rfl ⟨by decide, by decide⟩ (Nat.le_of_ble_eq_true rfl) ⟨by decide, by decide⟩ dX4_insertLamp_48 ?_
        refine x_ifb_eq (P := 60 ≤ (sN S)) C 58 dX4_insertLamp_51 (by decide) (fun c_51 => ?_) (fun c_51 => ?_)
        ·
          refine x_aload_n C 1 dX4_insertLamp_58 rfl rfl ?_
          refine x_getf C 0 rfl rfl i_kX4_insertLamp_X4 4 (by decide) m_kX4_insertLamp_8 rfl rfl dX4_insertLamp_59 ?_
          refine x_iload_n C 4 dX4_insertLamp_62 rfl rfl ?_
          refine x_iload C 0 dX4_insertLamp_63 rfl ?_
          refine x_aload_n C 1 dX4_insertLamp_65 rfl rfl ?_
          refine x_getf C 0 rfl rfl i_kX4_insertLamp_X4 3 (by decide) m_kX4_insertLamp_9 rfl rfl dX4_insertLamp_66 ?_
          refine x_iload_n C 4 dX4_insertLamp_69 rfl rfl ?_
          refine x_aload_n C 1 dX4_insertLamp_70 rfl rfl ?_
          refine x_getf C 0 rfl rfl i_kX4_insertLamp_X4 4 (by decide) m_kX4_insertLamp_8 rfl rfl dX4_insertLamp_71 ?_
          refine x_getf C 2 rfl rfl i_kX4_insertLamp_X2 0 (by decide) m_kX4_insertLamp_11 rfl rfl dX4_insertLamp_74 ?_
          refine x_callVRO C ([.int (nI kb), .int (nI (sN S))]) ([.int (nI (kr * 8 + kp)), .int (nI kb), .ref (a 2)]) [1, 4, 5] (k0 := 0) (na := 2) gX4_insertLamp_X0_hoursOfLamp rfl (by decide +kernel) rfl rfl rfl (kX0_hoursOfLamp (xl cx) (xG cx) (a 1) (a 4) (a 5) (sA S 0) (sA S 1) kb (nI (sN S)) (by first | assumption | rfl | omega | decide)) rfl (by decide) rfl rfl rfl ⟨by decide, by decide⟩ (Nat.le_of_ble_eq_true rfl) ⟨by decide, by decide⟩ dX4_insertLamp_77 ?_
          refine x_callVMU C ([.int (nI kb), .int (nI (kr * 8 + kp)), .int (hoL ((sA S 0) kb) ((sA S 1) kb) (nI (sN S)))]) ([]) [2, 6, 7, 8, 9, 10, 11] [(a 0, .inr (4, [.int (sHr S), .int (sWv S), .int (sDv S), .ref (a 1), .ref (a 2), .ref (a 3)])), (a 1, .inr (0, [.ref (a 4), .ref (a 5)])), ((a 2), .inr (2, [.int (nI ((sN S) + 1)), .ref (a 6), .ref (a 7), .ref (a 8), .ref (a 9), .ref (a 10), .ref (a 11)])), (a 3, .inr (3, [.ref (a 12), .ref (a 13), .ref (a 14), .ref (a 15), .ref (a 16)])), (a 4, .inl ((xG cx).2.1, 6, .inl (sA S 0))), (a 5, .inl ((xG cx).2.1, 6, .inl (sA S 1))), ((a 6), .inl ((xG cx).2.1, 60, .inl (upd (sA S 2) (sN S) (nI kb)))), ((a 7), .inl ((xG cx).2.1, 60, .inl (upd (sA S 3) (sN S) (nI (kr * 8 + kp))))), ((a 8), .inl ((xG cx).2.1, 60, .inl (upd (sA S 4) (sN S) (hoL ((sA S 0) kb) ((sA S 1) kb) (nI (sN S)))))), ((a 9), .inl ((xG cx).2.1, 60, .inl (upd (sA S 5) (sN S) 0))), ((a 10), .inl ((xG cx).2.1, 60, .inl (upd (sA S 6) (sN S) 0))), ((a 11), .inl ((xG cx).2.1, 60, .inl (upd (sA S 7) (sN S) (-1)))), (a 12, .inl ((xG cx).2.1, 24, .inl (sA S 8))), (a 13, .inl ((xG cx).2.1, 3, .inl (sA S 9))), (a 14, .inl ((xG cx).2.1, 3, .inl (sA S 10))), (a 15, .inl ((xG cx).2.1, 3, .inl (sA S 11))), (a 16, .inl ((xG cx).2.1, 3, .inl (sA S 12)))] [0, 1, 3, 4, 5, 12, 13, 14, 15, 16] [a 0, a 1, (a 2), a 3, a 4, a 5, (a 6), (a 7), (a 8), (a 9), (a 10), (a 11), a 12, a 13, a 14, a 15, a 16] rfl rfl [(a 0, .inr (4, [.int (sHr S), .int (sWv S), .int (sDv S), .ref (a 1), .ref (a 2), .ref (a 3)])), (a 1, .inr (0, [.ref (a 4), .ref (a 5)])), (a 3, .inr (3, [.ref (a 12), .ref (a 13), .ref (a 14), .ref (a 15), .ref (a 16)])), (a 4, .inl ((xG cx).2.1, 6, .inl (sA S 0))), (a 5, .inl ((xG cx).2.1, 6, .inl (sA S 1))), (a 12, .inl ((xG cx).2.1, 24, .inl (sA S 8))), (a 13, .inl ((xG cx).2.1, 3, .inl (sA S 9))), (a 14, .inl ((xG cx).2.1, 3, .inl (sA S 10))), (a 15, .inl ((xG cx).2.1, 3, .inl (sA S 11))), (a 16, .inl ((xG cx).2.1, 3, .inl (sA S 12)))] rfl rfl 17 rfl (by decide +kernel) rfl (k0 := 0) (na := 3) gX4_insertLamp_X2_append rfl (by decide +kernel) rfl rfl rfl M (kX2_append (xl cx) (xG cx) (a 2) (a 6) (a 7) (a 8) (a 9) (a 10) (a 11) (sN S) (sA S 2) (sA S 3) (sA S 4) (sA S 5) (sA S 6) (sA S 7) (nI kb) (nI (kr * 8 + kp)) (hoL ((sA S 0) kb) ((sA S 1) kb) (nI (sN S))) (by first | assumption | rfl | omega | decide)) rfl (by decide) rfl rfl rfl ⟨by decide, by decide⟩ (Nat.le_of_ble_eq_true rfl) ⟨by decide, by decide⟩ dX4_insertLamp_80 ?_
          refine x_istore C [(5, .int (nI (sN S))), (4, .int (nI (kr * 8 + kp))), (0, .ref (a 0)), (1, .int (nI kr)), (2, .int (nI kp)), (3, .int (nI kb))] dX4_insertLamp_83 (by decide) rfl ?_
          refine x_aload_n C 2 dX4_insertLamp_85 rfl rfl ?_
          refine x_getf C 0 rfl rfl i_kX4_insertLamp_X4 5 (by decide) m_kX4_insertLamp_5 rfl rfl dX4_insertLamp_86 ?_
          refine x_getf C 3 rfl rfl i_kX4_insertLamp_X3 0 (by decide) m_kX4_insertLamp_7 rfl rfl dX4_insertLamp_89 ?_
          refine x_iload C 1 dX4_insertLamp_92 rfl ?_
          refine x_iload C 0 dX4_insertLamp_94 rfl ?_
          refine x_iast C M 12 rfl rfl (vp_in_nI (by omega) (by decide)) (nI_clamp (by omega)) [(a 0, .inr (4, [.int (sHr S), .int (sWv S), .int (sDv S), .ref (a 1), .ref (a 2), .ref (a 3)])), (a 1, .inr (0, [.ref (a 4), .ref (a 5)])), ((a 2), .inr (2, [.int (nI ((sN S) + 1)), .ref (a 6), .ref (a 7), .ref (a 8), .ref (a 9), .ref (a 10), .ref (a 11)])), (a 3, .inr (3, [.ref (a 12), .ref (a 13), .ref (a 14), .ref (a 15), .ref (a 16)])), (a 4, .inl ((xG cx).2.1, 6, .inl (sA S 0))), (a 5, .inl ((xG cx).2.1, 6, .inl (sA S 1))), ((a 6), .inl ((xG cx).2.1, 60, .inl (upd (sA S 2) (sN S) (nI kb)))), ((a 7), .inl ((xG cx).2.1, 60, .inl (upd (sA S 3) (sN S) (nI (kr * 8 + kp))))), ((a 8), .inl ((xG cx).2.1, 60, .inl (upd (sA S 4) (sN S) (hoL ((sA S 0) kb) ((sA S 1) kb) (nI (sN S)))))), ((a 9), .inl ((xG cx).2.1, 60, .inl (upd (sA S 5) (sN S) 0))), ((a 10), .inl ((xG cx).2.1, 60, .inl (upd (sA S 6) (sN S) 0))), ((a 11), .inl ((xG cx).2.1, 60, .inl (upd (sA S 7) (sN S) (-1)))), (a 12, .inl ((xG cx).2.1, 24, .inl (upd (sA S 8) (kr * 8 + kp) (nI (sN S))))), (a 13, .inl ((xG cx).2.1, 3, .inl (sA S 9))), (a 14, .inl ((xG cx).2.1, 3, .inl (sA S 10))), (a 15, .inl ((xG cx).2.1, 3, .inl (sA S 11))), (a 16, .inl ((xG cx).2.1, 3, .inl (sA S 12)))] rfl dX4_insertLamp_96 ?_
          refine x_iload C 0 dX4_insertLamp_97 rfl ?_
          have e_ret : insS S (nI kr) (nI kp) (nI kb) = (nI (sN S), addS S (kr * 8 + kp) (nI kb) (hoL (sA S 0 kb) (sA S 1 kb) (nI (sN S)))) := by simp [insS, c_5, c_12, ix kr (by omega), ix kp (by omega), ix kb (by omega), c_37, c_51]
          exact x_iret C E dX4_insertLamp_99 (by rw [e_ret]) ((rfl : _ = stW (xG cx) a (addS S (kr * 8 + kp) (nI kb) (hoL (sA S 0 kb) (sA S 1 kb) (nI (sN S))))).trans (by rw [e_ret]))
        ·
          refine x_sipush (v := (-1003)) C dX4_insertLamp_54 (by decide) ?_
          have e_ret : insS S (nI kr) (nI kp) (nI kb) = ((-1003), S) := by simp [insS, c_5, c_12, ix kr (by omega), ix kp (by omega), ix kb (by omega), c_37, c_51]
          exact x_iret C E dX4_insertLamp_57 (by rw [e_ret]) ((rfl : _ = stW (xG cx) a S).trans (by rw [e_ret]))
      ·
        refine x_sipush (v := (-1004)) C dX4_insertLamp_40 (by decide) ?_
        have e_ret : insS S (nI kr) (nI kp) (nI kb) = ((-1004), S) := by simp [insS, c_5, c_12, ix kr (by omega), ix kp (by omega), ix kb (by omega), c_37]
        exact x_iret C E dX4_insertLamp_43 (by rw [e_ret]) ((rfl : _ = stW (xG cx) a S).trans (by rw [e_ret]))
    ·
      refine x_sipush (v := (-1001)) C dX4_insertLamp_15 (by decide) ?_
      have e_ret : insS S r p b = ((-1001), S) := by simp [insS, c_5, c_12]
      exact x_iret C E dX4_insertLamp_18 (by rw [e_ret]) ((rfl : _ = stW (xG cx) a S).trans (by rw [e_ret]))

theorem m_kX4_removeLamp_0 : (Cond.static yX6_isPlace : Cond) ∈ wsX4_removeLamp := by decide +kernel
theorem m_kX4_removeLamp_1 : (Cond.initialized RX6 : Cond) ∈ wsX4_removeLamp := by decide +kernel
theorem m_kX4_removeLamp_2 : (Cond.static yX6_spotOf : Cond) ∈ wsX4_removeLamp := by decide +kernel
theorem i_kX4_removeLamp_X4 : ∀ w ∈ u_ws RX4 TX4 6, w ∈ wsX4_removeLamp := by decide +kernel
theorem m_kX4_removeLamp_4 : (Cond.fieldLink RX4 38 "LampRacks$State" "racks" "LLampRacks$Racks;" : Cond) ∈ wsX4_removeLamp := by decide +kernel
theorem i_kX4_removeLamp_X3 : ∀ w ∈ u_ws RX3 TX3 5, w ∈ wsX4_removeLamp := by decide +kernel
theorem m_kX4_removeLamp_6 : (Cond.fieldLink RX4 75 "LampRacks$Racks" "lampAt" "[I" : Cond) ∈ wsX4_removeLamp := by decide +kernel
theorem m_kX4_removeLamp_7 : (Cond.fieldLink RX4 31 "LampRacks$State" "lamps" "LLampRacks$Lamps;" : Cond) ∈ wsX4_removeLamp := by decide +kernel
theorem i_kX4_removeLamp_X2 : ∀ w ∈ u_ws RX2 TX2 7, w ∈ wsX4_removeLamp := by decide +kernel
theorem m_kX4_removeLamp_9 : (Cond.fieldLink RX4 92 "LampRacks$Lamps" "spot" "[I" : Cond) ∈ wsX4_removeLamp := by decide +kernel
set_option maxRecDepth 100000 in
set_option maxHeartbeats 4000000 in
theorem kX4_removeLamp (l : Launch) (G : GG) (a : Nat → Nat) (S : SC) (r : Int32) (p : Int32) (hok : okS S) : MU l G yX4_removeLamp wsX4_removeLamp ({ frames := 3, cells := 0, slots := 0, locals := 63 } : Room) [.ref (a 0), .int r, .int p] (stW G a S) (some (.int ((rmS S r p).1))) (stW G a ((rmS S r p).2)) := by
  refine MU.of (cc := cX4_removeLamp) (maxL := 5) (ret := (some .int)) (by decide) rfl (Nat.le_of_ble_eq_true rfl) ?_
  intro cx hxl hxG C M E
  subst hxl
  subst hxG
  show X cx (0, 0) [(a 0, .inr (4, [.int (sHr S), .int (sWv S), .int (sDv S), .ref (a 1), .ref (a 2), .ref (a 3)])), (a 1, .inr (0, [.ref (a 4), .ref (a 5)])), (a 2, .inr (2, [.int (nI (sN S)), .ref (a 6), .ref (a 7), .ref (a 8), .ref (a 9), .ref (a 10), .ref (a 11)])), (a 3, .inr (3, [.ref (a 12), .ref (a 13), .ref (a 14), .ref (a 15), .ref (a 16)])), (a 4, .inl ((xG cx).2.1, 6, .inl (sA S 0))), (a 5, .inl ((xG cx).2.1, 6, .inl (sA S 1))), (a 6, .inl ((xG cx).2.1, 60, .inl (sA S 2))), (a 7, .inl ((xG cx).2.1, 60, .inl (sA S 3))), (a 8, .inl ((xG cx).2.1, 60, .inl (sA S 4))), (a 9, .inl ((xG cx).2.1, 60, .inl (sA S 5))), (a 10, .inl ((xG cx).2.1, 60, .inl (sA S 6))), (a 11, .inl ((xG cx).2.1, 60, .inl (sA S 7))), (a 12, .inl ((xG cx).2.1, 24, .inl (sA S 8))), (a 13, .inl ((xG cx).2.1, 3, .inl (sA S 9))), (a 14, .inl ((xG cx).2.1, 3, .inl (sA S 10))), (a 15, .inl ((xG cx).2.1, 3, .inl (sA S 11))), (a 16, .inl ((xG cx).2.1, 3, .inl (sA S 12)))] [(0, .ref (a 0)), (1, .int r), (2, .int p)] 0 []
  refine x_iload_n C 1 dX4_removeLamp_0 rfl rfl ?_
  refine x_iload_n C 2 dX4_removeLamp_1 rfl rfl ?_
  refine x_callNRO C ([.int r, .int p]) ([]) [] (na := 2) (host := "LampRacks") gX4_removeLamp_X6_isPlace_n67 (by decide +kernel) m_kX4_removeLamp_0 m_kX4_removeLamp_1 rfl (by decide +kernel) rfl (kX6_isPlace (xl cx) (xG cx) r p) rfl (by decide) rfl rfl rfl ⟨by decide, by decide⟩ (Nat.le_of_ble_eq_true rfl) ⟨by decide, by decide⟩ dX4_removeLamp_2 ?_
  refine x_ifb_ne (P := (0 ≤ r ∧ r ≤ 2) ∧ (0 ≤ p ∧ p ≤ 7)) C 12 dX4_removeLamp_5 (by decide) (fun c_5 => ?_) (fun c_5 => ?_)
  ·
    obtain ⟨kr, h_kr, rfl⟩ := in_nat (M := 2) (m := 2) c_5.1 (by decide)
    obtain ⟨kp, h_kp, rfl⟩ := in_nat (M := 7) (m := 7) c_5.2 (by decide)
    refine x_iload_n C 1 dX4_removeLamp_12 rfl rfl ?_
    refine x_iload_n C 2 dX4_removeLamp_13 rfl rfl ?_
    refine x_callNRO C ([.int (nI kr), .int (nI kp)]) ([]) [] (na := 2) (host := "LampRacks") gX4_removeLamp_X6_spotOf_n71 (by decide +kernel) m_kX4_removeLamp_2 m_kX4_removeLamp_1 rfl (by decide +kernel) rfl (kX6_spotOf (xl cx) (xG cx) kr kp) rfl (by decide) rfl rfl rfl ⟨by decide, by decide⟩ (Nat.le_of_ble_eq_true rfl) ⟨by decide, by decide⟩ dX4_removeLamp_14 ?_
    refine x_istore_n C [(3, .int (nI (kr * 8 + kp))), (0, .ref (a 0)), (1, .int (nI kr)), (2, .int (nI kp))] dX4_removeLamp_17 rfl (by decide) rfl ?_
    refine x_aload_n C 1 dX4_removeLamp_18 rfl rfl ?_
    refine x_getf C 0 rfl rfl i_kX4_removeLamp_X4 5 (by decide) m_kX4_removeLamp_4 rfl rfl dX4_removeLamp_19 ?_
    refine x_getf C 3 rfl rfl i_kX4_removeLamp_X3 0 (by decide) m_kX4_removeLamp_6 rfl rfl dX4_removeLamp_22 ?_
    refine x_iload_n C 0 dX4_removeLamp_25 rfl rfl ?_
    refine x_iald C 12 rfl rfl (vp_in_nI (by omega) (by decide)) (congrArg (sA S 8) (nI_clamp (by omega))) dX4_removeLamp_26 ?_
    refine x_istore C [(4, .int ((sA S 8) (kr * 8 + kp))), (3, .int (nI (kr * 8 + kp))), (0, .ref (a 0)), (1, .int (nI kr)), (2, .int (nI kp))] dX4_removeLamp_27 (by decide) rfl ?_
    refine x_iload C 0 dX4_removeLamp_29 rfl ?_
    refine x_iconst (v := (-1)) C dX4_removeLamp_31 (by decide) ?_
    refine x_icmp_ne C 39 dX4_removeLamp_32 (by decide) (fun c_32 => ?_) (fun c_32 => ?_)
    ·
      obtain ⟨kl, h_kl, e_kl⟩ := (hok.la (by omega)).resolve_left c_32
      rw [e_kl]
      rw [e_kl] at c_32
      refine x_aload_n C 2 dX4_removeLamp_39 rfl rfl ?_
      refine x_getf C 0 rfl rfl i_kX4_removeLamp_X4 5 (by decide) m_kX4_removeLamp_4 rfl rfl dX4_removeLamp_40 ?_
      refine x_getf C 3 rfl rfl i_kX4_removeLamp_X3 0 (by decide) m_kX4_removeLamp_6 rfl rfl dX4_removeLamp_43 ?_
      refine x_iload_n C 1 dX4_removeLamp_46 rfl rfl ?_
      refine x_iconst (v := (-1)) C dX4_removeLamp_47 (by decide) ?_
      refine x_iast C M 12 rfl rfl (vp_in_nI (by omega) (by decide)) (nI_clamp (by omega)) [(a 0, .inr (4, [.int (sHr S), .int (sWv S), .int (sDv S), .ref (a 1), .ref (a 2), .ref (a 3)])), (a 1, .inr (0, [.ref (a 4), .ref (a 5)])), (a 2, .inr (2, [.int (nI (sN S)), .ref (a 6), .ref (a 7), .ref (a 8), .ref (a 9), .ref (a 10), .ref (a 11)])), (a 3, .inr (3, [.ref (a 12), .ref (a 13), .ref (a 14), .ref (a 15), .ref (a 16)])), (a 4, .inl ((xG cx).2.1, 6, .inl (sA S 0))), (a 5, .inl ((xG cx).2.1, 6, .inl (sA S 1))), (a 6, .inl ((xG cx).2.1, 60, .inl (sA S 2))), (a 7, .inl ((xG cx).2.1, 60, .inl (sA S 3))), (a 8, .inl ((xG cx).2.1, 60, .inl (sA S 4))), (a 9, .inl ((xG cx).2.1, 60, .inl (sA S 5))), (a 10, .inl ((xG cx).2.1, 60, .inl (sA S 6))), (a 11, .inl ((xG cx).2.1, 60, .inl (sA S 7))), (a 12, .inl ((xG cx).2.1, 24, .inl (upd (sA S 8) (kr * 8 + kp) (-1)))), (a 13, .inl ((xG cx).2.1, 3, .inl (sA S 9))), (a 14, .inl ((xG cx).2.1, 3, .inl (sA S 10))), (a 15, .inl ((xG cx).2.1, 3, .inl (sA S 11))), (a 16, .inl ((xG cx).2.1, 3, .inl (sA S 12)))] rfl dX4_removeLamp_48 ?_
      refine x_aload_n C 2 dX4_removeLamp_49 rfl rfl ?_
      refine x_getf C 0 rfl rfl i_kX4_removeLamp_X4 4 (by decide) m_kX4_removeLamp_7 rfl rfl dX4_removeLamp_50 ?_
      refine x_getf C 2 rfl rfl i_kX4_removeLamp_X2 2 (by decide) m_kX4_removeLamp_9 rfl rfl dX4_removeLamp_53 ?_
      refine x_iload C 0 dX4_removeLamp_56 rfl ?_
      refine x_iconst (v := (-1)) C dX4_removeLamp_58 (by decide) ?_
      refine x_iast C M 7 rfl rfl (vp_in_nI (by omega) (by decide)) (nI_clamp (by omega)) [(a 0, .inr (4, [.int (sHr S), .int (sWv S), .int (sDv S), .ref (a 1), .ref (a 2), .ref (a 3)])), (a 1, .inr (0, [.ref (a 4), .ref (a 5)])), (a 2, .inr (2, [.int (nI (sN S)), .ref (a 6), .ref (a 7), .ref (a 8), .ref (a 9), .ref (a 10), .ref (a 11)])), (a 3, .inr (3, [.ref (a 12), .ref (a 13), .ref (a 14), .ref (a 15), .ref (a 16)])), (a 4, .inl ((xG cx).2.1, 6, .inl (sA S 0))), (a 5, .inl ((xG cx).2.1, 6, .inl (sA S 1))), (a 6, .inl ((xG cx).2.1, 60, .inl (sA S 2))), (a 7, .inl ((xG cx).2.1, 60, .inl (upd (sA S 3) kl (-1)))), (a 8, .inl ((xG cx).2.1, 60, .inl (sA S 4))), (a 9, .inl ((xG cx).2.1, 60, .inl (sA S 5))), (a 10, .inl ((xG cx).2.1, 60, .inl (sA S 6))), (a 11, .inl ((xG cx).2.1, 60, .inl (sA S 7))), (a 12, .inl ((xG cx).2.1, 24, .inl (upd (sA S 8) (kr * 8 + kp) (-1)))), (a 13, .inl ((xG cx).2.1, 3, .inl (sA S 9))), (a 14, .inl ((xG cx).2.1, 3, .inl (sA S 10))), (a 15, .inl ((xG cx).2.1, 3, .inl (sA S 11))), (a 16, .inl ((xG cx).2.1, 3, .inl (sA S 12)))] rfl dX4_removeLamp_59 ?_
      refine x_iload C 0 dX4_removeLamp_60 rfl ?_
      have e_ret : rmS S (nI kr) (nI kp) = (nI kl, uA (uA S 8 (upd (sA S 8) (kr * 8 + kp) (-1))) 3 (upd (sA S 3) kl (-1))) := by simp [rmS, c_5, ix kr (by omega), ix kp (by omega), c_32, e_kl, ix kl (by omega)]
      exact x_iret C E dX4_removeLamp_62 (by rw [e_ret]) ((rfl : _ = stW (xG cx) a (uA (uA S 8 (upd (sA S 8) (kr * 8 + kp) (-1))) 3 (upd (sA S 3) kl (-1)))).trans (by rw [e_ret]))
    ·
      refine x_sipush (v := (-1005)) C dX4_removeLamp_35 (by decide) ?_
      have e_ret : rmS S (nI kr) (nI kp) = ((-1005), S) := by simp [rmS, c_5, ix kr (by omega), ix kp (by omega), c_32]
      exact x_iret C E dX4_removeLamp_38 (by rw [e_ret]) ((rfl : _ = stW (xG cx) a S).trans (by rw [e_ret]))
  ·
    refine x_sipush (v := (-1001)) C dX4_removeLamp_8 (by decide) ?_
    have e_ret : rmS S r p = ((-1001), S) := by simp [rmS, c_5]
    exact x_iret C E dX4_removeLamp_11 (by rw [e_ret]) ((rfl : _ = stW (xG cx) a S).trans (by rw [e_ret]))

theorem m_kX4_exchange_0 : (Cond.static yX6_isPlace : Cond) ∈ wsX4_exchange := by decide +kernel
theorem m_kX4_exchange_1 : (Cond.initialized RX6 : Cond) ∈ wsX4_exchange := by decide +kernel
theorem m_kX4_exchange_2 : (Cond.static yX6_spotOf : Cond) ∈ wsX4_exchange := by decide +kernel
theorem i_kX4_exchange_X4 : ∀ w ∈ u_ws RX4 TX4 6, w ∈ wsX4_exchange := by decide +kernel
theorem m_kX4_exchange_4 : (Cond.fieldLink RX4 38 "LampRacks$State" "racks" "LLampRacks$Racks;" : Cond) ∈ wsX4_exchange := by decide +kernel
theorem i_kX4_exchange_X3 : ∀ w ∈ u_ws RX3 TX3 5, w ∈ wsX4_exchange := by decide +kernel
theorem m_kX4_exchange_6 : (Cond.fieldLink RX4 75 "LampRacks$Racks" "lampAt" "[I" : Cond) ∈ wsX4_exchange := by decide +kernel
set_option maxRecDepth 100000 in
set_option maxHeartbeats 4000000 in
theorem kX4_exchange (l : Launch) (G : GG) (a : Nat → Nat) (S : SC) (r : Int32) (p : Int32) (r2 : Int32) (p2 : Int32) (hok : okS S) : MU l G yX4_exchange wsX4_exchange ({ frames := 3, cells := 0, slots := 0, locals := 63 } : Room) [.ref (a 0), .int r, .int p, .int r2, .int p2] (stW G a S) (some (.int ((exS S r p r2 p2).1))) (stW G a ((exS S r p r2 p2).2)) := by
  refine MU.of (cc := cX4_exchange) (maxL := 9) (ret := (some .int)) (by decide) rfl (Nat.le_of_ble_eq_true rfl) ?_
  intro cx hxl hxG C M E
  subst hxl
  subst hxG
  show X cx (0, 0) [(a 0, .inr (4, [.int (sHr S), .int (sWv S), .int (sDv S), .ref (a 1), .ref (a 2), .ref (a 3)])), (a 1, .inr (0, [.ref (a 4), .ref (a 5)])), (a 2, .inr (2, [.int (nI (sN S)), .ref (a 6), .ref (a 7), .ref (a 8), .ref (a 9), .ref (a 10), .ref (a 11)])), (a 3, .inr (3, [.ref (a 12), .ref (a 13), .ref (a 14), .ref (a 15), .ref (a 16)])), (a 4, .inl ((xG cx).2.1, 6, .inl (sA S 0))), (a 5, .inl ((xG cx).2.1, 6, .inl (sA S 1))), (a 6, .inl ((xG cx).2.1, 60, .inl (sA S 2))), (a 7, .inl ((xG cx).2.1, 60, .inl (sA S 3))), (a 8, .inl ((xG cx).2.1, 60, .inl (sA S 4))), (a 9, .inl ((xG cx).2.1, 60, .inl (sA S 5))), (a 10, .inl ((xG cx).2.1, 60, .inl (sA S 6))), (a 11, .inl ((xG cx).2.1, 60, .inl (sA S 7))), (a 12, .inl ((xG cx).2.1, 24, .inl (sA S 8))), (a 13, .inl ((xG cx).2.1, 3, .inl (sA S 9))), (a 14, .inl ((xG cx).2.1, 3, .inl (sA S 10))), (a 15, .inl ((xG cx).2.1, 3, .inl (sA S 11))), (a 16, .inl ((xG cx).2.1, 3, .inl (sA S 12)))] [(0, .ref (a 0)), (1, .int r), (2, .int p), (3, .int r2), (4, .int p2)] 0 []
  refine x_iload_n C 1 dX4_exchange_0 rfl rfl ?_
  refine x_iload_n C 2 dX4_exchange_1 rfl rfl ?_
  refine x_callNRO C ([.int r, .int p]) ([]) [] (na := 2) (host := "LampRacks") gX4_exchange_X6_isPlace_n67 (by decide +kernel) m_kX4_exchange_0 m_kX4_exchange_1 rfl (by decide +kernel) rfl (kX6_isPlace (xl cx) (xG cx) r p) rfl (by decide) rfl rfl rfl ⟨by decide, by decide⟩ (Nat.le_of_ble_eq_true rfl) ⟨by decide, by decide⟩ dX4_exchange_2 ?_
  refine x_ifb_eq (P := (0 ≤ r ∧ r ≤ 2) ∧ (0 ≤ p ∧ p ≤ 7)) C 17 dX4_exchange_5 (by decide) (fun c_5 => ?_) (fun c_5 => ?_)
  ·
    refine x_sipush (v := (-1001)) C dX4_exchange_17 (by decide) ?_
    have e_ret : exS S r p r2 p2 = ((-1001), S) := by simp [exS, c_5]
    exact x_iret C E dX4_exchange_20 (by rw [e_ret]) ((rfl : _ = stW (xG cx) a S).trans (by rw [e_ret]))
  ·
    refine x_iload_n C 3 dX4_exchange_8 rfl rfl ?_
    refine x_iload C 4 dX4_exchange_9 rfl ?_
    refine x_callNRO C ([.int r2, .int p2]) ([]) [] (na := 2) (host := "LampRacks") gX4_exchange_X6_isPlace_n67 (by decide +kernel) m_kX4_exchange_0 m_kX4_exchange_1 rfl (by decide +kernel) rfl (kX6_isPlace (xl cx) (xG cx) r2 p2) rfl (by decide) rfl rfl rfl ⟨by decide, by decide⟩ (Nat.le_of_ble_eq_true rfl) ⟨by decide, by decide⟩ dX4_exchange_11 ?_
    refine x_ifb_ne (P := (0 ≤ r2 ∧ r2 ≤ 2) ∧ (0 ≤ p2 ∧ p2 ≤ 7)) C 21 dX4_exchange_14 (by decide) (fun c_14 => ?_) (fun c_14 => ?_)
    ·
      obtain ⟨kr, h_kr, rfl⟩ := in_nat (M := 2) (m := 2) c_5.1 (by decide)
      obtain ⟨kp, h_kp, rfl⟩ := in_nat (M := 7) (m := 7) c_5.2 (by decide)
      obtain ⟨kr2, h_kr2, rfl⟩ := in_nat (M := 2) (m := 2) c_14.1 (by decide)
      obtain ⟨kp2, h_kp2, rfl⟩ := in_nat (M := 7) (m := 7) c_14.2 (by decide)
      refine x_iload_n C 1 dX4_exchange_21 rfl rfl ?_
      refine x_iload_n C 2 dX4_exchange_22 rfl rfl ?_
      refine x_callNRO C ([.int (nI kr), .int (nI kp)]) ([]) [] (na := 2) (host := "LampRacks") gX4_exchange_X6_spotOf_n71 (by decide +kernel) m_kX4_exchange_2 m_kX4_exchange_1 rfl (by decide +kernel) rfl (kX6_spotOf (xl cx) (xG cx) kr kp) rfl (by decide) rfl rfl rfl ⟨by decide, by decide⟩ (Nat.le_of_ble_eq_true rfl) ⟨by decide, by decide⟩ dX4_exchange_23 ?_
      refine x_istore C [(5, .int (nI (kr * 8 + kp))), (0, .ref (a 0)), (1, .int (nI kr)), (2, .int (nI kp)), (3, .int (nI kr2)), (4, .int (nI kp2))] dX4_exchange_26 (by decide) rfl ?_
      refine x_iload_n C 4 dX4_exchange_28 rfl rfl ?_
      refine x_iload C 5 dX4_exchange_29 rfl ?_
      refine x_callNRO C ([.int (nI kr2), .int (nI kp2)]) ([]) [] (na := 2) (host := "LampRacks") gX4_exchange_X6_spotOf_n71 (by decide +kernel) m_kX4_exchange_2 m_kX4_exchange_1 rfl (by decide +kernel) rfl (kX6_spotOf (xl cx) (xG cx) kr2 kp2) rfl (by decide) rfl rfl rfl ⟨by decide, by decide⟩ (Nat.le_of_ble_eq_true rfl) ⟨by decide, by decide⟩ dX4_exchange_31 ?_
      refine x_istore C [(6, .int (nI (kr2 * 8 + kp2))), (5, .int (nI (kr * 8 + kp))), (0, .ref (a 0)), (1, .int (nI kr)), (2, .int (nI kp)), (3, .int (nI kr2)), (4, .int (nI kp2))] dX4_exchange_34 (by decide) rfl ?_
      refine x_aload_n C 2 dX4_exchange_36 rfl rfl ?_
      refine x_getf C 0 rfl rfl i_kX4_exchange_X4 5 (by decide) m_kX4_exchange_4 rfl rfl dX4_exchange_37 ?_
      refine x_getf C 3 rfl rfl i_kX4_exchange_X3 0 (by decide) m_kX4_exchange_6 rfl rfl dX4_exchange_40 ?_
      refine x_iload C 1 dX4_exchange_43 rfl ?_
      refine x_iald C 12 rfl rfl (vp_in_nI (by omega) (by decide)) (congrArg (sA S 8) (nI_clamp (by omega))) dX4_exchange_45 ?_
      refine x_istore C [(7, .int ((sA S 8) (kr * 8 + kp))), (6, .int (nI (kr2 * 8 + kp2))), (5, .int (nI (kr * 8 + kp))), (0, .ref (a 0)), (1, .int (nI kr)), (2, .int (nI kp)), (3, .int (nI kr2)), (4, .int (nI kp2))] dX4_exchange_46 (by decide) rfl ?_
      refine x_aload_n C 3 dX4_exchange_48 rfl rfl ?_
      refine x_getf C 0 rfl rfl i_kX4_exchange_X4 5 (by decide) m_kX4_exchange_4 rfl rfl dX4_exchange_49 ?_
      refine x_getf C 3 rfl rfl i_kX4_exchange_X3 0 (by decide) m_kX4_exchange_6 rfl rfl dX4_exchange_52 ?_
      refine x_iload C 1 dX4_exchange_55 rfl ?_
      refine x_iald C 12 rfl rfl (vp_in_nI (by omega) (by decide)) (congrArg (sA S 8) (nI_clamp (by omega))) dX4_exchange_57 ?_
      refine x_istore C [(8, .int ((sA S 8) (kr2 * 8 + kp2))), (7, .int ((sA S 8) (kr * 8 + kp))), (6, .int (nI (kr2 * 8 + kp2))), (5, .int (nI (kr * 8 + kp))), (0, .ref (a 0)), (1, .int (nI kr)), (2, .int (nI kp)), (3, .int (nI kr2)), (4, .int (nI kp2))] dX4_exchange_58 (by decide) rfl ?_
      refine x_iload C 3 dX4_exchange_60 rfl ?_
      refine x_iload C 2 dX4_exchange_62 rfl ?_
      refine x_icmp_eq C 79 dX4_exchange_64 (by decide) (fun c_64 => ?_) (fun c_64 => ?_)
      ·
        have n_64 : (kr * 8 + kp) = (kr2 * 8 + kp2) := (nI_eq (a := kr * 8 + kp) (b := kr2 * 8 + kp2) (by omega) (by omega)).mp c_64
        refine x_sipush (v := (-1005)) C dX4_exchange_79 (by decide) ?_
        have e_ret : exS S (nI kr) (nI kp) (nI kr2) (nI kp2) = ((-1005), S) := by simp [exS, c_5, c_14, ix kr (by omega), ix kp (by omega), ix kr2 (by omega), ix kp2 (by omega), c_64, n_64]
        exact x_iret C E dX4_exchange_82 (by rw [e_ret]) ((rfl : _ = stW (xG cx) a S).trans (by rw [e_ret]))
      ·
        have n_64 : ¬ ((kr * 8 + kp) = (kr2 * 8 + kp2)) := fun q => c_64 ((nI_eq (a := kr * 8 + kp) (b := kr2 * 8 + kp2) (by omega) (by omega)).mpr q)
        refine x_iload C 1 dX4_exchange_67 rfl ?_
        refine x_iconst (v := (-1)) C dX4_exchange_69 (by decide) ?_
        refine x_icmp_ne C 83 dX4_exchange_70 (by decide) (fun c_70 => ?_) (fun c_70 => ?_)
        ·
          refine x_aload_n C 4 dX4_exchange_83 rfl rfl ?_
          refine x_iload C 2 dX4_exchange_84 rfl ?_
          refine x_iload C 1 dX4_exchange_86 rfl ?_
          refine x_callVMU C ([.int (nI (kr2 * 8 + kp2)), .int ((sA S 8) (kr * 8 + kp))]) ([]) [0, 1, 2, 3, 4, 5, 6, 7, 8, 9, 10, 11, 12, 13, 14, 15, 16] [(a 0, .inr (4, [.int (sHr ((mvS S (kr2 * 8 + kp2) ((sA S 8) (kr * 8 + kp))).2)), .int (sWv ((mvS S (kr2 * 8 + kp2) ((sA S 8) (kr * 8 + kp))).2)), .int (sDv ((mvS S (kr2 * 8 + kp2) ((sA S 8) (kr * 8 + kp))).2)), .ref (a 1), .ref (a 2), .ref (a 3)])), (a 1, .inr (0, [.ref (a 4), .ref (a 5)])), (a 2, .inr (2, [.int (nI (sN ((mvS S (kr2 * 8 + kp2) ((sA S 8) (kr * 8 + kp))).2))), .ref (a 6), .ref (a 7), .ref (a 8), .ref (a 9), .ref (a 10), .ref (a 11)])), (a 3, .inr (3, [.ref (a 12), .ref (a 13), .ref (a 14), .ref (a 15), .ref (a 16)])), (a 4, .inl ((xG cx).2.1, 6, .inl (sA ((mvS S (kr2 * 8 + kp2) ((sA S 8) (kr * 8 + kp))).2) 0))), (a 5, .inl ((xG cx).2.1, 6, .inl (sA ((mvS S (kr2 * 8 + kp2) ((sA S 8) (kr * 8 + kp))).2) 1))), (a 6, .inl ((xG cx).2.1, 60, .inl (sA ((mvS S (kr2 * 8 + kp2) ((sA S 8) (kr * 8 + kp))).2) 2))), (a 7, .inl ((xG cx).2.1, 60, .inl (sA ((mvS S (kr2 * 8 + kp2) ((sA S 8) (kr * 8 + kp))).2) 3))), (a 8, .inl ((xG cx).2.1, 60, .inl (sA ((mvS S (kr2 * 8 + kp2) ((sA S 8) (kr * 8 + kp))).2) 4))), (a 9, .inl ((xG cx).2.1, 60, .inl (sA ((mvS S (kr2 * 8 + kp2) ((sA S 8) (kr * 8 + kp))).2) 5))), (a 10, .inl ((xG cx).2.1, 60, .inl (sA ((mvS S (kr2 * 8 + kp2) ((sA S 8) (kr * 8 + kp))).2) 6))), (a 11, .inl ((xG cx).2.1, 60, .inl (sA ((mvS S (kr2 * 8 + kp2) ((sA S 8) (kr * 8 + kp))).2) 7))), (a 12, .inl ((xG cx).2.1, 24, .inl (sA ((mvS S (kr2 * 8 + kp2) ((sA S 8) (kr * 8 + kp))).2) 8))), (a 13, .inl ((xG cx).2.1, 3, .inl (sA ((mvS S (kr2 * 8 + kp2) ((sA S 8) (kr * 8 + kp))).2) 9))), (a 14, .inl ((xG cx).2.1, 3, .inl (sA ((mvS S (kr2 * 8 + kp2) ((sA S 8) (kr * 8 + kp))).2) 10))), (a 15, .inl ((xG cx).2.1, 3, .inl (sA ((mvS S (kr2 * 8 + kp2) ((sA S 8) (kr * 8 + kp))).2) 11))), (a 16, .inl ((xG cx).2.1, 3, .inl (sA ((mvS S (kr2 * 8 + kp2) ((sA S 8) (kr * 8 + kp))).2) 12)))] [] [a 0, a 1, a 2, a 3, a 4, a 5, a 6, a 7, a 8, a 9, a 10, a 11, a 12, a 13, a 14, a 15, a 16] rfl rfl [] rfl rfl 17 rfl (by decide +kernel) rfl (k0 := 0) (na := 2) gX4_exchange_X4_moveTo rfl (by decide +kernel) rfl rfl rfl M (kX4_moveTo (xl cx) (xG cx) a S (kr2 * 8 + kp2) ((sA S 8) (kr * 8 + kp)) (by first | assumption | rfl | omega | decide) (hok.la (by omega))) rfl (by decide) rfl rfl rfl ⟨by decide, by decide⟩ (Nat.le_of_ble_eq_true rfl) ⟨by decide, by decide⟩ dX4_exchange_88 ?_
          refine x_aload_n C 4 dX4_exchange_91 rfl rfl ?_
          refine x_iload C 3 dX4_exchange_92 rfl ?_
          refine x_iload C 0 dX4_exchange_94 rfl ?_
          refine x_callVMU C ([.int (nI (kr * 8 + kp)), .int ((sA S 8) (kr2 * 8 + kp2))]) ([.int ((mvS S (kr2 * 8 + kp2) ((sA S 8) (kr * 8 + kp))).1)]) [0, 1, 2, 3, 4, 5, 6, 7, 8, 9, 10, 11, 12, 13, 14, 15, 16] [(a 0, .inr (4, [.int (sHr ((mvS ((mvS S (kr2 * 8 + kp2) ((sA S 8) (kr * 8 + kp))).2) (kr * 8 + kp) ((sA S 8) (kr2 * 8 + kp2))).2)), .int (sWv ((mvS ((mvS S (kr2 * 8 + kp2) ((sA S 8) (kr * 8 + kp))).2) (kr * 8 + kp) ((sA S 8) (kr2 * 8 + kp2))).2)), .int (sDv ((mvS ((mvS S (kr2 * 8 + kp2) ((sA S 8) (kr * 8 + kp))).2) (kr * 8 + kp) ((sA S 8) (kr2 * 8 + kp2))).2)), .ref (a 1), .ref (a 2), .ref (a 3)])), (a 1, .inr (0, [.ref (a 4), .ref (a 5)])), (a 2, .inr (2, [.int (nI (sN ((mvS ((mvS S (kr2 * 8 + kp2) ((sA S 8) (kr * 8 + kp))).2) (kr * 8 + kp) ((sA S 8) (kr2 * 8 + kp2))).2))), .ref (a 6), .ref (a 7), .ref (a 8), .ref (a 9), .ref (a 10), .ref (a 11)])), (a 3, .inr (3, [.ref (a 12), .ref (a 13), .ref (a 14), .ref (a 15), .ref (a 16)])), (a 4, .inl ((xG cx).2.1, 6, .inl (sA ((mvS ((mvS S (kr2 * 8 + kp2) ((sA S 8) (kr * 8 + kp))).2) (kr * 8 + kp) ((sA S 8) (kr2 * 8 + kp2))).2) 0))), (a 5, .inl ((xG cx).2.1, 6, .inl (sA ((mvS ((mvS S (kr2 * 8 + kp2) ((sA S 8) (kr * 8 + kp))).2) (kr * 8 + kp) ((sA S 8) (kr2 * 8 + kp2))).2) 1))), (a 6, .inl ((xG cx).2.1, 60, .inl (sA ((mvS ((mvS S (kr2 * 8 + kp2) ((sA S 8) (kr * 8 + kp))).2) (kr * 8 + kp) ((sA S 8) (kr2 * 8 + kp2))).2) 2))), (a 7, .inl ((xG cx).2.1, 60, .inl (sA ((mvS ((mvS S (kr2 * 8 + kp2) ((sA S 8) (kr * 8 + kp))).2) (kr * 8 + kp) ((sA S 8) (kr2 * 8 + kp2))).2) 3))), (a 8, .inl ((xG cx).2.1, 60, .inl (sA ((mvS ((mvS S (kr2 * 8 + kp2) ((sA S 8) (kr * 8 + kp))).2) (kr * 8 + kp) ((sA S 8) (kr2 * 8 + kp2))).2) 4))), (a 9, .inl ((xG cx).2.1, 60, .inl (sA ((mvS ((mvS S (kr2 * 8 + kp2) ((sA S 8) (kr * 8 + kp))).2) (kr * 8 + kp) ((sA S 8) (kr2 * 8 + kp2))).2) 5))), (a 10, .inl ((xG cx).2.1, 60, .inl (sA ((mvS ((mvS S (kr2 * 8 + kp2) ((sA S 8) (kr * 8 + kp))).2) (kr * 8 + kp) ((sA S 8) (kr2 * 8 + kp2))).2) 6))), (a 11, .inl ((xG cx).2.1, 60, .inl (sA ((mvS ((mvS S (kr2 * 8 + kp2) ((sA S 8) (kr * 8 + kp))).2) (kr * 8 + kp) ((sA S 8) (kr2 * 8 + kp2))).2) 7))), (a 12, .inl ((xG cx).2.1, 24, .inl (sA ((mvS ((mvS S (kr2 * 8 + kp2) ((sA S 8) (kr * 8 + kp))).2) (kr * 8 + kp) ((sA S 8) (kr2 * 8 + kp2))).2) 8))), (a 13, .inl ((xG cx).2.1, 3, .inl (sA ((mvS ((mvS S (kr2 * 8 + kp2) ((sA S 8) (kr * 8 + kp))).2) (kr * 8 + kp) ((sA S 8) (kr2 * 8 + kp2))).2) 9))), (a 14, .inl ((xG cx).2.1, 3, .inl (sA ((mvS ((mvS S (kr2 * 8 + kp2) ((sA S 8) (kr * 8 + kp))).2) (kr * 8 + kp) ((sA S 8) (kr2 * 8 + kp2))).2) 10))), (a 15, .inl ((xG cx).2.1, 3, .inl (sA ((mvS ((mvS S (kr2 * 8 + kp2) ((sA S 8) (kr * 8 + kp))).2) (kr * 8 + kp) ((sA S 8) (kr2 * 8 + kp2))).2) 11))), (a 16, .inl ((xG cx).2.1, 3, .inl (sA ((mvS ((mvS S (kr2 * 8 + kp2) ((sA S 8) (kr * 8 + kp))).2) (kr * 8 + kp) ((sA S 8) (kr2 * 8 + kp2))).2) 12)))] [] [a 0, a 1, a 2, a 3, a 4, a 5, a 6, a 7, a 8, a 9, a 10, a 11, a 12, a 13, a 14, a 15, a 16] rfl rfl [] rfl rfl 17 rfl (by decide +kernel) rfl (k0 := 0) (na := 2) gX4_exchange_X4_moveTo rfl (by decide +kernel) rfl rfl rfl M (kX4_moveTo (xl cx) (xG cx) a ((mvS S (kr2 * 8 + kp2) ((sA S 8) (kr * 8 + kp))).2) (kr * 8 + kp) ((sA S 8) (kr2 * 8 + kp2)) (by first | assumption | rfl | omega | decide) (hok.la (by omega))) rfl (by decide) rfl rfl rfl ⟨by decide, by decide⟩ (Nat.le_of_ble_eq_true rfl) ⟨by decide, by decide⟩ dX4_exchange_96 ?_
          refine x_iadd C (rfl) dX4_exchange_99 ?_
          have e_ret : exS S (nI kr) (nI kp) (nI kr2) (nI kp2) = (((mvS S (kr2 * 8 + kp2) ((sA S 8) (kr * 8 + kp))).1) + ((mvS ((mvS S (kr2 * 8 + kp2) ((sA S 8) (kr * 8 + kp))).2) (kr * 8 + kp) ((sA S 8) (kr2 * 8 + kp2))).1), (mvS (mvS S (kr2 * 8 + kp2) (sA S 8 (kr * 8 + kp))).2 (kr * 8 + kp) (sA S 8 (kr2 * 8 + kp2))).2) := by simp [exS, c_5, c_14, ix kr (by omega), ix kp (by omega), ix kr2 (by omega), ix kp2 (by omega), c_64, n_64, c_70]
          exact x_iret C E dX4_exchange_100 (by rw [e_ret]) ((rfl : _ = stW (xG cx) a ((mvS (mvS S (kr2 * 8 + kp2) (sA S 8 (kr * 8 + kp))).2 (kr * 8 + kp) (sA S 8 (kr2 * 8 + kp2))).2)).trans (by rw [e_ret]))
        ·
          refine x_iload C 0 dX4_exchange_73 rfl ?_
          refine x_iconst (v := (-1)) C dX4_exchange_75 (by decide) ?_
          refine x_icmp_ne C 83 dX4_exchange_76 (by decide) (fun c_76 => ?_) (fun c_76 => ?_)
          ·
            refine x_aload_n C 4 dX4_exchange_83 rfl rfl ?_
            refine x_iload C 2 dX4_exchange_84 rfl ?_
            refine x_iload C 1 dX4_exchange_86 rfl ?_
            refine x_callVMU C ([.int (nI (kr2 * 8 + kp2)), .int ((sA S 8) (kr * 8 + kp))]) ([]) [0, 1, 2, 3, 4, 5, 6, 7, 8, 9, 10, 11, 12, 13, 14, 15, 16] [(a 0, .inr (4, [.int (sHr ((mvS S (kr2 * 8 + kp2) ((sA S 8) (kr * 8 + kp))).2)), .int (sWv ((mvS S (kr2 * 8 + kp2) ((sA S 8) (kr * 8 + kp))).2)), .int (sDv ((mvS S (kr2 * 8 + kp2) ((sA S 8) (kr * 8 + kp))).2)), .ref (a 1), .ref (a 2), .ref (a 3)])), (a 1, .inr (0, [.ref (a 4), .ref (a 5)])), (a 2, .inr (2, [.int (nI (sN ((mvS S (kr2 * 8 + kp2) ((sA S 8) (kr * 8 + kp))).2))), .ref (a 6), .ref (a 7), .ref (a 8), .ref (a 9), .ref (a 10), .ref (a 11)])), (a 3, .inr (3, [.ref (a 12), .ref (a 13), .ref (a 14), .ref (a 15), .ref (a 16)])), (a 4, .inl ((xG cx).2.1, 6, .inl (sA ((mvS S (kr2 * 8 + kp2) ((sA S 8) (kr * 8 + kp))).2) 0))), (a 5, .inl ((xG cx).2.1, 6, .inl (sA ((mvS S (kr2 * 8 + kp2) ((sA S 8) (kr * 8 + kp))).2) 1))), (a 6, .inl ((xG cx).2.1, 60, .inl (sA ((mvS S (kr2 * 8 + kp2) ((sA S 8) (kr * 8 + kp))).2) 2))), (a 7, .inl ((xG cx).2.1, 60, .inl (sA ((mvS S (kr2 * 8 + kp2) ((sA S 8) (kr * 8 + kp))).2) 3))), (a 8, .inl ((xG cx).2.1, 60, .inl (sA ((mvS S (kr2 * 8 + kp2) ((sA S 8) (kr * 8 + kp))).2) 4))), (a 9, .inl ((xG cx).2.1, 60, .inl (sA ((mvS S (kr2 * 8 + kp2) ((sA S 8) (kr * 8 + kp))).2) 5))), (a 10, .inl ((xG cx).2.1, 60, .inl (sA ((mvS S (kr2 * 8 + kp2) ((sA S 8) (kr * 8 + kp))).2) 6))), (a 11, .inl ((xG cx).2.1, 60, .inl (sA ((mvS S (kr2 * 8 + kp2) ((sA S 8) (kr * 8 + kp))).2) 7))), (a 12, .inl ((xG cx).2.1, 24, .inl (sA ((mvS S (kr2 * 8 + kp2) ((sA S 8) (kr * 8 + kp))).2) 8))), (a 13, .inl ((xG cx).2.1, 3, .inl (sA ((mvS S (kr2 * 8 + kp2) ((sA S 8) (kr * 8 + kp))).2) 9))), (a 14, .inl ((xG cx).2.1, 3, .inl (sA ((mvS S (kr2 * 8 + kp2) ((sA S 8) (kr * 8 + kp))).2) 10))), (a 15, .inl ((xG cx).2.1, 3, .inl (sA ((mvS S (kr2 * 8 + kp2) ((sA S 8) (kr * 8 + kp))).2) 11))), (a 16, .inl ((xG cx).2.1, 3, .inl (sA ((mvS S (kr2 * 8 + kp2) ((sA S 8) (kr * 8 + kp))).2) 12)))] [] [a 0, a 1, a 2, a 3, a 4, a 5, a 6, a 7, a 8, a 9, a 10, a 11, a 12, a 13, a 14, a 15, a 16] rfl rfl [] rfl rfl 17 rfl (by decide +kernel) rfl (k0 := 0) (na := 2) gX4_exchange_X4_moveTo rfl (by decide +kernel) rfl rfl rfl M (kX4_moveTo (xl cx) (xG cx) a S (kr2 * 8 + kp2) ((sA S 8) (kr * 8 + kp)) (by first | assumption | rfl | omega | decide) (hok.la (by omega))) rfl (by decide) rfl rfl rfl ⟨by decide, by decide⟩ (Nat.le_of_ble_eq_true rfl) ⟨by decide, by decide⟩ dX4_exchange_88 ?_
            refine x_aload_n C 4 dX4_exchange_91 rfl rfl ?_
            refine x_iload C 3 dX4_exchange_92 rfl ?_
            refine x_iload C 0 dX4_exchange_94 rfl ?_
            refine x_callVMU C ([.int (nI (kr * 8 + kp)), .int ((sA S 8) (kr2 * 8 + kp2))]) ([.int ((mvS S (kr2 * 8 + kp2) ((sA S 8) (kr * 8 + kp))).1)]) [0, 1, 2, 3, 4, 5, 6, 7, 8, 9, 10, 11, 12, 13, 14, 15, 16] [(a 0, .inr (4, [.int (sHr ((mvS ((mvS S (kr2 * 8 + kp2) ((sA S 8) (kr * 8 + kp))).2) (kr * 8 + kp) ((sA S 8) (kr2 * 8 + kp2))).2)), .int (sWv ((mvS ((mvS S (kr2 * 8 + kp2) ((sA S 8) (kr * 8 + kp))).2) (kr * 8 + kp) ((sA S 8) (kr2 * 8 + kp2))).2)), .int (sDv ((mvS ((mvS S (kr2 * 8 + kp2) ((sA S 8) (kr * 8 + kp))).2) (kr * 8 + kp) ((sA S 8) (kr2 * 8 + kp2))).2)), .ref (a 1), .ref (a 2), .ref (a 3)])), (a 1, .inr (0, [.ref (a 4), .ref (a 5)])), (a 2, .inr (2, [.int (nI (sN ((mvS ((mvS S (kr2 * 8 + kp2) ((sA S 8) (kr * 8 + kp))).2) (kr * 8 + kp) ((sA S 8) (kr2 * 8 + kp2))).2))), .ref (a 6), .ref (a 7), .ref (a 8), .ref (a 9), .ref (a 10), .ref (a 11)])), (a 3, .inr (3, [.ref (a 12), .ref (a 13), .ref (a 14), .ref (a 15), .ref (a 16)])), (a 4, .inl ((xG cx).2.1, 6, .inl (sA ((mvS ((mvS S (kr2 * 8 + kp2) ((sA S 8) (kr * 8 + kp))).2) (kr * 8 + kp) ((sA S 8) (kr2 * 8 + kp2))).2) 0))), (a 5, .inl ((xG cx).2.1, 6, .inl (sA ((mvS ((mvS S (kr2 * 8 + kp2) ((sA S 8) (kr * 8 + kp))).2) (kr * 8 + kp) ((sA S 8) (kr2 * 8 + kp2))).2) 1))), (a 6, .inl ((xG cx).2.1, 60, .inl (sA ((mvS ((mvS S (kr2 * 8 + kp2) ((sA S 8) (kr * 8 + kp))).2) (kr * 8 + kp) ((sA S 8) (kr2 * 8 + kp2))).2) 2))), (a 7, .inl ((xG cx).2.1, 60, .inl (sA ((mvS ((mvS S (kr2 * 8 + kp2) ((sA S 8) (kr * 8 + kp))).2) (kr * 8 + kp) ((sA S 8) (kr2 * 8 + kp2))).2) 3))), (a 8, .inl ((xG cx).2.1, 60, .inl (sA ((mvS ((mvS S (kr2 * 8 + kp2) ((sA S 8) (kr * 8 + kp))).2) (kr * 8 + kp) ((sA S 8) (kr2 * 8 + kp2))).2) 4))), (a 9, .inl ((xG cx).2.1, 60, .inl (sA ((mvS ((mvS S (kr2 * 8 + kp2) ((sA S 8) (kr * 8 + kp))).2) (kr * 8 + kp) ((sA S 8) (kr2 * 8 + kp2))).2) 5))), (a 10, .inl ((xG cx).2.1, 60, .inl (sA ((mvS ((mvS S (kr2 * 8 + kp2) ((sA S 8) (kr * 8 + kp))).2) (kr * 8 + kp) ((sA S 8) (kr2 * 8 + kp2))).2) 6))), (a 11, .inl ((xG cx).2.1, 60, .inl (sA ((mvS ((mvS S (kr2 * 8 + kp2) ((sA S 8) (kr * 8 + kp))).2) (kr * 8 + kp) ((sA S 8) (kr2 * 8 + kp2))).2) 7))), (a 12, .inl ((xG cx).2.1, 24, .inl (sA ((mvS ((mvS S (kr2 * 8 + kp2) ((sA S 8) (kr * 8 + kp))).2) (kr * 8 + kp) ((sA S 8) (kr2 * 8 + kp2))).2) 8))), (a 13, .inl ((xG cx).2.1, 3, .inl (sA ((mvS ((mvS S (kr2 * 8 + kp2) ((sA S 8) (kr * 8 + kp))).2) (kr * 8 + kp) ((sA S 8) (kr2 * 8 + kp2))).2) 9))), (a 14, .inl ((xG cx).2.1, 3, .inl (sA ((mvS ((mvS S (kr2 * 8 + kp2) ((sA S 8) (kr * 8 + kp))).2) (kr * 8 + kp) ((sA S 8) (kr2 * 8 + kp2))).2) 10))), (a 15, .inl ((xG cx).2.1, 3, .inl (sA ((mvS ((mvS S (kr2 * 8 + kp2) ((sA S 8) (kr * 8 + kp))).2) (kr * 8 + kp) ((sA S 8) (kr2 * 8 + kp2))).2) 11))), (a 16, .inl ((xG cx).2.1, 3, .inl (sA ((mvS ((mvS S (kr2 * 8 + kp2) ((sA S 8) (kr * 8 + kp))).2) (kr * 8 + kp) ((sA S 8) (kr2 * 8 + kp2))).2) 12)))] [] [a 0, a 1, a 2, a 3, a 4, a 5, a 6, a 7, a 8, a 9, a 10, a 11, a 12, a 13, a 14, a 15, a 16] rfl rfl [] rfl rfl 17 rfl (by decide +kernel) rfl (k0 := 0) (na := 2) gX4_exchange_X4_moveTo rfl (by decide +kernel) rfl rfl rfl M (kX4_moveTo (xl cx) (xG cx) a ((mvS S (kr2 * 8 + kp2) ((sA S 8) (kr * 8 + kp))).2) (kr * 8 + kp) ((sA S 8) (kr2 * 8 + kp2)) (by first | assumption | rfl | omega | decide) (hok.la (by omega))) rfl (by decide) rfl rfl rfl ⟨by decide, by decide⟩ (Nat.le_of_ble_eq_true rfl) ⟨by decide, by decide⟩ dX4_exchange_96 ?_
            refine x_iadd C (rfl) dX4_exchange_99 ?_
            have e_ret : exS S (nI kr) (nI kp) (nI kr2) (nI kp2) = (((mvS S (kr2 * 8 + kp2) ((sA S 8) (kr * 8 + kp))).1) + ((mvS ((mvS S (kr2 * 8 + kp2) ((sA S 8) (kr * 8 + kp))).2) (kr * 8 + kp) ((sA S 8) (kr2 * 8 + kp2))).1), (mvS (mvS S (kr2 * 8 + kp2) (sA S 8 (kr * 8 + kp))).2 (kr * 8 + kp) (sA S 8 (kr2 * 8 + kp2))).2) := by simp [exS, c_5, c_14, ix kr (by omega), ix kp (by omega), ix kr2 (by omega), ix kp2 (by omega), c_64, n_64, c_70, c_76]
            exact x_iret C E dX4_exchange_100 (by rw [e_ret]) ((rfl : _ = stW (xG cx) a ((mvS (mvS S (kr2 * 8 + kp2) (sA S 8 (kr * 8 + kp))).2 (kr * 8 + kp) (sA S 8 (kr2 * 8 + kp2))).2)).trans (by rw [e_ret]))
          ·
            refine x_sipush (v := (-1005)) C dX4_exchange_79 (by decide) ?_
            have e_ret : exS S (nI kr) (nI kp) (nI kr2) (nI kp2) = ((-1005), S) := by simp [exS, c_5, c_14, ix kr (by omega), ix kp (by omega), ix kr2 (by omega), ix kp2 (by omega), c_64, n_64, c_70, c_76]
            exact x_iret C E dX4_exchange_82 (by rw [e_ret]) ((rfl : _ = stW (xG cx) a S).trans (by rw [e_ret]))
    ·
      refine x_sipush (v := (-1001)) C dX4_exchange_17 (by decide) ?_
      have e_ret : exS S r p r2 p2 = ((-1001), S) := by simp [exS, c_5, c_14]
      exact x_iret C E dX4_exchange_20 (by rw [e_ret]) ((rfl : _ = stW (xG cx) a S).trans (by rw [e_ret]))

/-- why a lamp does not burn -/
def wdS (S : SC) (k : Nat) : Int32 := if sA S 7 k ≠ -1 then 1 else if sA S 3 k = -1 then 2 else if sA S 9 (ixz (sA S 3 k) / 8) = 0 then 3 else 0

theorem i_kX4_whyDark_X4 : ∀ w ∈ u_ws RX4 TX4 6, w ∈ wsX4_whyDark := by decide +kernel
theorem m_kX4_whyDark_1 : (Cond.fieldLink RX4 31 "LampRacks$State" "lamps" "LLampRacks$Lamps;" : Cond) ∈ wsX4_whyDark := by decide +kernel
theorem i_kX4_whyDark_X2 : ∀ w ∈ u_ws RX2 TX2 7, w ∈ wsX4_whyDark := by decide +kernel
theorem m_kX4_whyDark_3 : (Cond.fieldLink RX4 92 "LampRacks$Lamps" "spot" "[I" : Cond) ∈ wsX4_whyDark := by decide +kernel
theorem m_kX4_whyDark_4 : (Cond.fieldLink RX4 38 "LampRacks$State" "racks" "LLampRacks$Racks;" : Cond) ∈ wsX4_whyDark := by decide +kernel
set_option maxRecDepth 100000 in
set_option maxHeartbeats 4000000 in
theorem kX4_whyDark (l : Launch) (G : GG) (a : Nat → Nat) (S : SC) (k : Nat) (hok : okS S) (hk : k < sN S) : RO l G yX4_whyDark wsX4_whyDark ({ frames := 1, cells := 0, slots := 0, locals := 21 } : Room) [.ref (a 0), .int (nI k)] (stW G a S) (.int (wdS S k)) := by
  refine RO.of (cc := cX4_whyDark) (maxL := 3) (ret := (some .int)) (by decide) rfl (Nat.le_of_ble_eq_true rfl) ?_
  intro cx hxl hxG C E
  subst hxl
  subst hxG
  show X cx (0, 0) [(a 0, .inr (4, [.int (sHr S), .int (sWv S), .int (sDv S), .ref (a 1), .ref (a 2), .ref (a 3)])), (a 1, .inr (0, [.ref (a 4), .ref (a 5)])), (a 2, .inr (2, [.int (nI (sN S)), .ref (a 6), .ref (a 7), .ref (a 8), .ref (a 9), .ref (a 10), .ref (a 11)])), (a 3, .inr (3, [.ref (a 12), .ref (a 13), .ref (a 14), .ref (a 15), .ref (a 16)])), (a 4, .inl ((xG cx).2.1, 6, .inl (sA S 0))), (a 5, .inl ((xG cx).2.1, 6, .inl (sA S 1))), (a 6, .inl ((xG cx).2.1, 60, .inl (sA S 2))), (a 7, .inl ((xG cx).2.1, 60, .inl (sA S 3))), (a 8, .inl ((xG cx).2.1, 60, .inl (sA S 4))), (a 9, .inl ((xG cx).2.1, 60, .inl (sA S 5))), (a 10, .inl ((xG cx).2.1, 60, .inl (sA S 6))), (a 11, .inl ((xG cx).2.1, 60, .inl (sA S 7))), (a 12, .inl ((xG cx).2.1, 24, .inl (sA S 8))), (a 13, .inl ((xG cx).2.1, 3, .inl (sA S 9))), (a 14, .inl ((xG cx).2.1, 3, .inl (sA S 10))), (a 15, .inl ((xG cx).2.1, 3, .inl (sA S 11))), (a 16, .inl ((xG cx).2.1, 3, .inl (sA S 12)))] [(0, .ref (a 0)), (1, .int (nI k))] 0 []
  have hn := hok.1
  refine x_aload_n C 0 dX4_whyDark_0 rfl rfl ?_
  refine x_getf C 0 rfl rfl i_kX4_whyDark_X4 4 (by decide) m_kX4_whyDark_1 rfl rfl dX4_whyDark_1 ?_
  refine x_iload_n C 1 dX4_whyDark_4 rfl rfl ?_
  refine x_callVRO C ([.int (nI k)]) ([]) [2, 6, 7, 8, 9, 10, 11] (k0 := 0) (na := 1) gX4_whyDark_X2_isDead rfl (by decide +kernel) rfl rfl rfl (kX2_isDead (xl cx) (xG cx) (a 2) (a 6) (a 7) (a 8) (a 9) (a 10) (a 11) (sN S) (sA S 2) (sA S 3) (sA S 4) (sA S 5) (sA S 6) (sA S 7) k (by first | assumption | rfl | omega | decide)) rfl (by decide) rfl rfl rfl ⟨by decide, by decide⟩ (Nat.le_of_ble_eq_true rfl) ⟨by decide, by decide⟩ dX4_whyDark_5 ?_
  refine x_ifb_eq (P := (sA S 7) k ≠ -1) C 13 dX4_whyDark_8 (by decide) (fun c_8 => ?_) (fun c_8 => ?_)
  ·
    refine x_aload_n C 0 dX4_whyDark_13 rfl rfl ?_
    refine x_getf C 0 rfl rfl i_kX4_whyDark_X4 4 (by decide) m_kX4_whyDark_1 rfl rfl dX4_whyDark_14 ?_
    refine x_getf C 2 rfl rfl i_kX4_whyDark_X2 2 (by decide) m_kX4_whyDark_3 rfl rfl dX4_whyDark_17 ?_
    refine x_iload_n C 1 dX4_whyDark_20 rfl rfl ?_
    refine x_iald C 7 rfl rfl (vp_in_nI (by omega) (by decide)) (congrArg (sA S 3) (nI_clamp (by omega))) dX4_whyDark_21 ?_
    refine x_istore_n C [(2, .int ((sA S 3) k)), (0, .ref (a 0)), (1, .int (nI k))] dX4_whyDark_22 rfl (by decide) rfl ?_
    refine x_iload_n C 0 dX4_whyDark_23 rfl rfl ?_
    refine x_iconst (v := (-1)) C dX4_whyDark_24 (by decide) ?_
    refine x_icmp_ne C 30 dX4_whyDark_25 (by decide) (fun c_25 => ?_) (fun c_25 => ?_)
    ·
      obtain ⟨js, h_js, e_js⟩ := (hok.2.2 k hk).resolve_left c_25
      rw [e_js]
      rw [e_js] at c_25
      refine x_aload_n C 1 dX4_whyDark_30 rfl rfl ?_
      refine x_getf C 0 rfl rfl i_kX4_whyDark_X4 5 (by decide) m_kX4_whyDark_4 rfl rfl dX4_whyDark_31 ?_
      refine x_iload_n C 0 dX4_whyDark_34 rfl rfl ?_
      refine x_bipush (v := 8) C dX4_whyDark_35 (by decide) ?_
      refine x_idiv C (pk_div (a := js) (d := 8) (by omega) (by decide) (by decide)) dX4_whyDark_37 (by decide) ?_
      refine x_callVRO C ([.int (nI (js / 8))]) ([]) [3, 12, 13, 14, 15, 16] (k0 := 0) (na := 1) gX4_whyDark_X3_isDark rfl (by decide +kernel) rfl rfl rfl (kX3_isDark (xl cx) (xG cx) (a 3) (a 12) (a 13) (a 14) (a 15) (a 16) (sA S 8) (sA S 9) (sA S 10) (sA S 11) (sA S 12) (js / 8) (by first | assumption | rfl | omega | decide)) rfl (by decide) rfl rfl rfl ⟨by decide, by decide⟩ (Nat.le_of_ble_eq_true rfl) ⟨by decide, by decide⟩ dX4_whyDark_38 ?_
      refine x_ifb_eq (P := (sA S 9) (js / 8) = 0) C 48 dX4_whyDark_41 (by decide) (fun c_41 => ?_) (fun c_41 => ?_)
      ·
        refine x_iconst (v := 0) C dX4_whyDark_48 (by decide) ?_
        exact x_iret C E dX4_whyDark_49 (by simp [wdS, c_8, c_25, e_js, ix js (by omega), c_41]) (rfl)
      ·
        refine x_iconst (v := 3) C dX4_whyDark_44 (by decide) ?_
        refine x_goto (tgt := 49) C dX4_whyDark_45 (by decide) ?_
        exact x_iret C E dX4_whyDark_49 (by simp [wdS, c_8, c_25, e_js, ix js (by omega), c_41]) (rfl)
    ·
      refine x_iconst (v := 2) C dX4_whyDark_28 (by decide) ?_
      exact x_iret C E dX4_whyDark_29 (by simp [wdS, c_8, c_25]) (rfl)
  ·
    refine x_iconst (v := 1) C dX4_whyDark_11 (by decide) ?_
    exact x_iret C E dX4_whyDark_12 (by simp [wdS, c_8]) (rfl)

theorem i_kX4_countInRack_X4 : ∀ w ∈ u_ws RX4 TX4 6, w ∈ wsX4_countInRack := by decide +kernel
theorem m_kX4_countInRack_1 : (Cond.fieldLink RX4 38 "LampRacks$State" "racks" "LLampRacks$Racks;" : Cond) ∈ wsX4_countInRack := by decide +kernel
theorem i_kX4_countInRack_X3 : ∀ w ∈ u_ws RX3 TX3 5, w ∈ wsX4_countInRack := by decide +kernel
theorem m_kX4_countInRack_3 : (Cond.fieldLink RX4 75 "LampRacks$Racks" "lampAt" "[I" : Cond) ∈ wsX4_countInRack := by decide +kernel
theorem m_kX4_countInRack_4 : (Cond.static yX6_spotOf : Cond) ∈ wsX4_countInRack := by decide +kernel
theorem m_kX4_countInRack_5 : (Cond.initialized RX6 : Cond) ∈ wsX4_countInRack := by decide +kernel
theorem m_kX4_countInRack_6 : (Cond.static yX6_oneIf : Cond) ∈ wsX4_countInRack := by decide +kernel
theorem m_kX4_countInRack_7 : (Cond.fieldLink RX4 31 "LampRacks$State" "lamps" "LLampRacks$Lamps;" : Cond) ∈ wsX4_countInRack := by decide +kernel
set_option maxRecDepth 100000 in
set_option maxHeartbeats 4000000 in
theorem kX4_countInRack (l : Launch) (G : GG) (a : Nat → Nat) (S : SC) (r : Nat) (fl : Int32) (hok : okS S) (hr : r < 3) : RO l G yX4_countInRack wsX4_countInRack ({ frames := 1, cells := 0, slots := 0, locals := 21 } : Room) [.ref (a 0), .int (nI r), .int fl] (stW G a S) (.int (cnt (fun p => sA S 8 (r * 8 + p) ≠ -1 ∧ (fl ≠ 0 ∨ ¬ sA S 7 (ixz (sA S 8 (r * 8 + p))) ≠ -1)) 8)) := by
  refine RO.of (cc := cX4_countInRack) (maxL := 6) (ret := (some .int)) (by decide) rfl (Nat.le_of_ble_eq_true rfl) ?_
  intro cx hxl hxG C E
  subst hxl
  subst hxG
  show X cx (0, 0) [(a 0, .inr (4, [.int (sHr S), .int (sWv S), .int (sDv S), .ref (a 1), .ref (a 2), .ref (a 3)])), (a 1, .inr (0, [.ref (a 4), .ref (a 5)])), (a 2, .inr (2, [.int (nI (sN S)), .ref (a 6), .ref (a 7), .ref (a 8), .ref (a 9), .ref (a 10), .ref (a 11)])), (a 3, .inr (3, [.ref (a 12), .ref (a 13), .ref (a 14), .ref (a 15), .ref (a 16)])), (a 4, .inl ((xG cx).2.1, 6, .inl (sA S 0))), (a 5, .inl ((xG cx).2.1, 6, .inl (sA S 1))), (a 6, .inl ((xG cx).2.1, 60, .inl (sA S 2))), (a 7, .inl ((xG cx).2.1, 60, .inl (sA S 3))), (a 8, .inl ((xG cx).2.1, 60, .inl (sA S 4))), (a 9, .inl ((xG cx).2.1, 60, .inl (sA S 5))), (a 10, .inl ((xG cx).2.1, 60, .inl (sA S 6))), (a 11, .inl ((xG cx).2.1, 60, .inl (sA S 7))), (a 12, .inl ((xG cx).2.1, 24, .inl (sA S 8))), (a 13, .inl ((xG cx).2.1, 3, .inl (sA S 9))), (a 14, .inl ((xG cx).2.1, 3, .inl (sA S 10))), (a 15, .inl ((xG cx).2.1, 3, .inl (sA S 11))), (a 16, .inl ((xG cx).2.1, 3, .inl (sA S 12)))] [(0, .ref (a 0)), (1, .int (nI r)), (2, .int fl)] 0 []
  refine x_iconst (v := 0) C dX4_countInRack_0 (by decide) ?_
  refine x_istore_n C [(3, .int 0), (0, .ref (a 0)), (1, .int (nI r)), (2, .int fl)] dX4_countInRack_1 rfl (by decide) rfl ?_
  refine x_iconst (v := 0) C dX4_countInRack_2 (by decide) ?_
  refine x_istore C [(4, .int 0), (3, .int 0), (0, .ref (a 0)), (1, .int (nI r)), (2, .int fl)] dX4_countInRack_3 (by decide) rfl ?_
  have loop_5 : ∀ (zz : Nat) (i : Nat) (acc : Int32) (hi : i ≤ 8) (hz : 8 + 1 ≤ i + zz) (ea : acc = (cnt (fun p => sA S 8 (r * 8 + p) ≠ -1 ∧ (fl ≠ 0 ∨ ¬ sA S 7 (ixz (sA S 8 (r * 8 + p))) ≠ -1))) i), X cx (0, 0) [(a 0, .inr (4, [.int (sHr S), .int (sWv S), .int (sDv S), .ref (a 1), .ref (a 2), .ref (a 3)])), (a 1, .inr (0, [.ref (a 4), .ref (a 5)])), (a 2, .inr (2, [.int (nI (sN S)), .ref (a 6), .ref (a 7), .ref (a 8), .ref (a 9), .ref (a 10), .ref (a 11)])), (a 3, .inr (3, [.ref (a 12), .ref (a 13), .ref (a 14), .ref (a 15), .ref (a 16)])), (a 4, .inl ((xG cx).2.1, 6, .inl (sA S 0))), (a 5, .inl ((xG cx).2.1, 6, .inl (sA S 1))), (a 6, .inl ((xG cx).2.1, 60, .inl (sA S 2))), (a 7, .inl ((xG cx).2.1, 60, .inl (sA S 3))), (a 8, .inl ((xG cx).2.1, 60, .inl (sA S 4))), (a 9, .inl ((xG cx).2.1, 60, .inl (sA S 5))), (a 10, .inl ((xG cx).2.1, 60, .inl (sA S 6))), (a 11, .inl ((xG cx).2.1, 60, .inl (sA S 7))), (a 12, .inl ((xG cx).2.1, 24, .inl (sA S 8))), (a 13, .inl ((xG cx).2.1, 3, .inl (sA S 9))), (a 14, .inl ((xG cx).2.1, 3, .inl (sA S 10))), (a 15, .inl ((xG cx).2.1, 3, .inl (sA S 11))), (a 16, .inl ((xG cx).2.1, 3, .inl (sA S 12)))] [(0, .ref (a 0)), (1, .int (nI r)), (2, .int fl), (3, .int acc), (4, .int (nI i))] 5 [] := by
    intro zz
    induction zz with
    | zero =>
      intro i acc hi hz ea
      exfalso; omega
    | succ zz ih =>
      intro i acc hi hz ea
      refine x_iload C 4 dX4_countInRack_5 rfl ?_
      refine x_bipush (v := 8) C dX4_countInRack_7 (by decide) ?_
      refine x_icmp_ge C 67 dX4_countInRack_9 (by decide) (fun c_9 => ?_) (fun c_9 => ?_)
      ·
        have n_9 : 8 ≤ i := (nI_leI (a := 8) (b := i) (by omega) (by omega)).mp c_9
        refine x_iload_n C 3 dX4_countInRack_67 rfl rfl ?_
        exact x_iret C E dX4_countInRack_68 (by rw [ea, show i = 8 from by omega]) (rfl)
      ·
        have n_9 : ¬ (8 ≤ i) := fun q => c_9 ((nI_leI (a := 8) (b := i) (by omega) (by omega)).mpr q)
        refine x_aload_n C 0 dX4_countInRack_12 rfl rfl ?_
        refine x_getf C 0 rfl rfl i_kX4_countInRack_X4 5 (by decide) m_kX4_countInRack_1 rfl rfl dX4_countInRack_13 ?_
        refine x_getf C 3 rfl rfl i_kX4_countInRack_X3 0 (by decide) m_kX4_countInRack_3 rfl rfl dX4_countInRack_16 ?_
        refine x_iload_n C 1 dX4_countInRack_19 rfl rfl ?_
        refine x_iload C 4 dX4_countInRack_20 rfl ?_
        refine x_callNRO C ([.int (nI r), .int (nI i)]) ([.ref (a 12)]) [] (na := 2) (host := "LampRacks") gX4_countInRack_X6_spotOf_n71 (by decide +kernel) m_kX4_countInRack_4 m_kX4_countInRack_5 rfl (by decide +kernel) rfl (kX6_spotOf (xl cx) (xG cx) r i) rfl (by decide) rfl rfl rfl ⟨by decide, by decide⟩ (Nat.le_of_ble_eq_true rfl) ⟨by decide, by decide⟩ dX4_countInRack_22 ?_
        refine x_iald C 12 rfl rfl (vp_in_nI (by omega) (by decide)) (congrArg (sA S 8) (nI_clamp (by omega))) dX4_countInRack_25 ?_
        refine x_istore C [(5, .int ((sA S 8) (r * 8 + i))), (0, .ref (a 0)), (1, .int (nI r)), (2, .int fl), (3, .int acc), (4, .int (nI i))] dX4_countInRack_26 (by decide) rfl ?_
        refine x_iload_n C 4 dX4_countInRack_28 rfl rfl ?_
        refine x_iload C 0 dX4_countInRack_29 rfl ?_
        refine x_iconst (v := (-1)) C dX4_countInRack_31 (by decide) ?_
        have join_56 : ∀ (v0 : Int32) (hv0 : v0 = b2i (sA S 8 (r * 8 + i) ≠ -1 ∧ (fl ≠ 0 ∨ ¬ sA S 7 (ixz (sA S 8 (r * 8 + i))) ≠ -1))), X cx (0, 0) [(a 0, .inr (4, [.int (sHr S), .int (sWv S), .int (sDv S), .ref (a 1), .ref (a 2), .ref (a 3)])), (a 1, .inr (0, [.ref (a 4), .ref (a 5)])), (a 2, .inr (2, [.int (nI (sN S)), .ref (a 6), .ref (a 7), .ref (a 8), .ref (a 9), .ref (a 10), .ref (a 11)])), (a 3, .inr (3, [.ref (a 12), .ref (a 13), .ref (a 14), .ref (a 15), .ref (a 16)])), (a 4, .inl ((xG cx).2.1, 6, .inl (sA S 0))), (a 5, .inl ((xG cx).2.1, 6, .inl (sA S 1))), (a 6, .inl ((xG cx).2.1, 60, .inl (sA S 2))), (a 7, .inl ((xG cx).2.1, 60, .inl (sA S 3))), (a 8, .inl ((xG cx).2.1, 60, .inl (sA S 4))), (a 9, .inl ((xG cx).2.1, 60, .inl (sA S 5))), (a 10, .inl ((xG cx).2.1, 60, .inl (sA S 6))), (a 11, .inl ((xG cx).2.1, 60, .inl (sA S 7))), (a 12, .inl ((xG cx).2.1, 24, .inl (sA S 8))), (a 13, .inl ((xG cx).2.1, 3, .inl (sA S 9))), (a 14, .inl ((xG cx).2.1, 3, .inl (sA S 10))), (a 15, .inl ((xG cx).2.1, 3, .inl (sA S 11))), (a 16, .inl ((xG cx).2.1, 3, .inl (sA S 12)))] [(0, .ref (a 0)), (1, .int (nI r)), (2, .int fl), (3, .int acc), (4, .int (nI i))] 56 [.int v0, .int acc] := by
          intro v0 hv0
          subst hv0
          refine x_callNRO C ([.int (b2i (sA S 8 (r * 8 + i) ≠ -1 ∧ (fl ≠ 0 ∨ ¬ sA S 7 (ixz (sA S 8 (r * 8 + i))) ≠ -1)))]) ([.int acc]) [] (na := 1) (host := "LampRacks") gX4_countInRack_X6_oneIf_n186 (by decide +kernel) m_kX4_countInRack_6 m_kX4_countInRack_5 rfl (by decide +kernel) rfl (kX6_oneIf (xl cx) (xG cx) (b2i (sA S 8 (r * 8 + i) ≠ -1 ∧ (fl ≠ 0 ∨ ¬ sA S 7 (ixz (sA S 8 (r * 8 + i))) ≠ -1))) (b2i_01 _)) rfl (by decide) rfl rfl rfl ⟨by decide, by decide⟩ (Nat.le_of_ble_eq_true rfl) ⟨by decide, by decide⟩ dX4_countInRack_56 ?_
          refine x_iadd C (rfl) dX4_countInRack_59 ?_
          refine x_istore_n C [(3, .int (acc + (b2i (sA S 8 (r * 8 + i) ≠ -1 ∧ (fl ≠ 0 ∨ ¬ sA S 7 (ixz (sA S 8 (r * 8 + i))) ≠ -1))))), (0, .ref (a 0)), (1, .int (nI r)), (2, .int fl), (4, .int (nI i))] dX4_countInRack_60 rfl (by decide) rfl ?_
          refine x_iinc C 4 [(4, .int (nI (i + 1))), (3, .int (acc + (b2i (sA S 8 (r * 8 + i) ≠ -1 ∧ (fl ≠ 0 ∨ ¬ sA S 7 (ixz (sA S 8 (r * 8 + i))) ≠ -1))))), (0, .ref (a 0)), (1, .int (nI r)), (2, .int fl)] dX4_countInRack_61 rfl (inc1 i) (by decide) rfl ?_
          refine x_goto (tgt := 5) C dX4_countInRack_64 (by decide) ?_
          refine x_lv [(0, .ref (a 0)), (1, .int (nI r)), (2, .int fl), (3, .int (acc + (b2i (sA S 8 (r * 8 + i) ≠ -1 ∧ (fl ≠ 0 ∨ ¬ sA S 7 (ixz (sA S 8 (r * 8 + i))) ≠ -1))))), (4, .int (nI (i + 1)))] [2, 3, 4, 1, 0] rfl ?_
          exact ih (i + 1) (acc + (b2i (sA S 8 (r * 8 + i) ≠ -1 ∧ (fl ≠ 0 ∨ ¬ sA S 7 (ixz (sA S 8 (r * 8 + i))) ≠ -1)))) (by omega) (by omega) (by rw [ea]; rfl)
        refine x_icmp_eq C 55 dX4_countInRack_32 (by decide) (fun c_32 => ?_) (fun c_32 => ?_)
        ·
          refine x_iconst (v := 0) C dX4_countInRack_55 (by decide) ?_
          refine x_lv [(0, .ref (a 0)), (1, .int (nI r)), (2, .int fl), (3, .int acc), (4, .int (nI i))] [1, 2, 3, 4, 5] rfl ?_
          exact join_56 _ (b2i_f (fun h => h.1 c_32) |>.symm)
        ·
          refine x_iload_n C 3 dX4_countInRack_35 rfl rfl ?_
          refine x_if_ne C 51 dX4_countInRack_36 (by decide) (fun c_36 => ?_) (fun c_36 => ?_)
          ·
            refine x_iconst (v := 1) C dX4_countInRack_51 (by decide) ?_
            refine x_goto (tgt := 56) C dX4_countInRack_52 (by decide) ?_
            refine x_lv [(0, .ref (a 0)), (1, .int (nI r)), (2, .int fl), (3, .int acc), (4, .int (nI i))] [1, 2, 3, 4, 5] rfl ?_
            exact join_56 _ (b2i_t ⟨c_32, Or.inl c_36⟩ |>.symm)
          ·
            obtain ⟨kl, h_kl, e_kl⟩ := (hok.la (by omega)).resolve_left c_32
            rw [e_kl]
            rw [e_kl] at c_32
            refine x_aload_n C 1 dX4_countInRack_39 rfl rfl ?_
            refine x_getf C 0 rfl rfl i_kX4_countInRack_X4 4 (by decide) m_kX4_countInRack_7 rfl rfl dX4_countInRack_40 ?_
            refine x_iload C 0 dX4_countInRack_43 rfl ?_
            refine x_callVRO C ([.int (nI kl)]) ([.int acc]) [2, 6, 7, 8, 9, 10, 11] (k0 := 0) (na := 1) gX4_countInRack_X2_isDead rfl (by decide +kernel) rfl rfl rfl (kX2_isDead (xl cx) (xG cx) (a 2) (a 6) (a 7) (a 8) (a 9) (a 10) (a 11) (sN S) (sA S 2) (sA S 3) (sA S 4) (sA S 5) (sA S 6) (sA S 7) kl (by first | assumption | rfl | omega | decide)) rfl (by decide) rfl rfl rfl ⟨by decide, by decide⟩ (Nat.le_of_ble_eq_true rfl) ⟨by decide, by decide⟩ dX4_countInRack_45 ?_
            refine x_ifb_ne (P := (sA S 7) kl ≠ -1) C 55 dX4_countInRack_48 (by decide) (fun c_48 => ?_) (fun c_48 => ?_)
            ·
              refine x_iconst (v := 0) C dX4_countInRack_55 (by decide) ?_
              refine x_lv [(0, .ref (a 0)), (1, .int (nI r)), (2, .int fl), (3, .int acc), (4, .int (nI i))] [1, 2, 3, 4, 5] rfl ?_
              exact join_56 _ (b2i_f (fun h => h.2.elim (fun q => q c_36) (fun q => q (by rw [e_kl, show ixz (nI kl) = kl from ix kl (by omega)]; exact c_48))) |>.symm)
            ·
              refine x_iconst (v := 1) C dX4_countInRack_51 (by decide) ?_
              refine x_goto (tgt := 56) C dX4_countInRack_52 (by decide) ?_
              refine x_lv [(0, .ref (a 0)), (1, .int (nI r)), (2, .int fl), (3, .int acc), (4, .int (nI i))] [1, 2, 3, 4, 5] rfl ?_
              exact join_56 _ (b2i_t ⟨(by rw [e_kl]; exact c_32), Or.inr (by rw [e_kl, show ixz (nI kl) = kl from ix kl (by omega)]; exact c_48)⟩ |>.symm)
  refine x_lv [(0, .ref (a 0)), (1, .int (nI r)), (2, .int fl), (3, .int 0), (4, .int (nI 0))] [2, 3, 4, 1, 0] rfl ?_
  exact loop_5 (8 + 1) 0 0 (by omega) (by omega) (rfl)

theorem i_kX4_countBurning_X4 : ∀ w ∈ u_ws RX4 TX4 6, w ∈ wsX4_countBurning := by decide +kernel
theorem m_kX4_countBurning_1 : (Cond.fieldLink RX4 31 "LampRacks$State" "lamps" "LLampRacks$Lamps;" : Cond) ∈ wsX4_countBurning := by decide +kernel
theorem i_kX4_countBurning_X2 : ∀ w ∈ u_ws RX2 TX2 7, w ∈ wsX4_countBurning := by decide +kernel
theorem m_kX4_countBurning_3 : (Cond.fieldLink RX4 82 "LampRacks$Lamps" "size" "I" : Cond) ∈ wsX4_countBurning := by decide +kernel
theorem m_kX4_countBurning_4 : (Cond.static yX6_oneIf : Cond) ∈ wsX4_countBurning := by decide +kernel
theorem m_kX4_countBurning_5 : (Cond.initialized RX6 : Cond) ∈ wsX4_countBurning := by decide +kernel
set_option maxRecDepth 100000 in
set_option maxHeartbeats 4000000 in
theorem kX4_countBurning (l : Launch) (G : GG) (a : Nat → Nat) (S : SC) (hok : okS S) : RO l G yX4_countBurning wsX4_countBurning ({ frames := 2, cells := 0, slots := 0, locals := 43 } : Room) [.ref (a 0)] (stW G a S) (.int (cnt (fun k => wdS S k = 0) (sN S))) := by
  refine RO.of (cc := cX4_countBurning) (maxL := 3) (ret := (some .int)) (by decide) rfl (Nat.le_of_ble_eq_true rfl) ?_
  intro cx hxl hxG C E
  subst hxl
  subst hxG
  show X cx (0, 0) [(a 0, .inr (4, [.int (sHr S), .int (sWv S), .int (sDv S), .ref (a 1), .ref (a 2), .ref (a 3)])), (a 1, .inr (0, [.ref (a 4), .ref (a 5)])), (a 2, .inr (2, [.int (nI (sN S)), .ref (a 6), .ref (a 7), .ref (a 8), .ref (a 9), .ref (a 10), .ref (a 11)])), (a 3, .inr (3, [.ref (a 12), .ref (a 13), .ref (a 14), .ref (a 15), .ref (a 16)])), (a 4, .inl ((xG cx).2.1, 6, .inl (sA S 0))), (a 5, .inl ((xG cx).2.1, 6, .inl (sA S 1))), (a 6, .inl ((xG cx).2.1, 60, .inl (sA S 2))), (a 7, .inl ((xG cx).2.1, 60, .inl (sA S 3))), (a 8, .inl ((xG cx).2.1, 60, .inl (sA S 4))), (a 9, .inl ((xG cx).2.1, 60, .inl (sA S 5))), (a 10, .inl ((xG cx).2.1, 60, .inl (sA S 6))), (a 11, .inl ((xG cx).2.1, 60, .inl (sA S 7))), (a 12, .inl ((xG cx).2.1, 24, .inl (sA S 8))), (a 13, .inl ((xG cx).2.1, 3, .inl (sA S 9))), (a 14, .inl ((xG cx).2.1, 3, .inl (sA S 10))), (a 15, .inl ((xG cx).2.1, 3, .inl (sA S 11))), (a 16, .inl ((xG cx).2.1, 3, .inl (sA S 12)))] [(0, .ref (a 0))] 0 []
  have hn := hok.1
  refine x_iconst (v := 0) C dX4_countBurning_0 (by decide) ?_
  refine x_istore_n C [(1, .int 0), (0, .ref (a 0))] dX4_countBurning_1 rfl (by decide) rfl ?_
  refine x_iconst (v := 0) C dX4_countBurning_2 (by decide) ?_
  refine x_istore_n C [(2, .int 0), (1, .int 0), (0, .ref (a 0))] dX4_countBurning_3 rfl (by decide) rfl ?_
  have loop_4 : ∀ (zz : Nat) (i : Nat) (acc : Int32) (hi : i ≤ sN S) (hz : sN S + 1 ≤ i + zz) (ea : acc = (cnt (fun k => wdS S k = 0)) i), X cx (0, 0) [(a 0, .inr (4, [.int (sHr S), .int (sWv S), .int (sDv S), .ref (a 1), .ref (a 2), .ref (a 3)])), (a 1, .inr (0, [.ref (a 4), .ref (a 5)])), (a 2, .inr (2, [.int (nI (sN S)), .ref (a 6), .ref (a 7), .ref (a 8), .ref (a 9), .ref (a 10), .ref (a 11)])), (a 3, .inr (3, [.ref (a 12), .ref (a 13), .ref (a 14), .ref (a 15), .ref (a 16)])), (a 4, .inl ((xG cx).2.1, 6, .inl (sA S 0))), (a 5, .inl ((xG cx).2.1, 6, .inl (sA S 1))), (a 6, .inl ((xG cx).2.1, 60, .inl (sA S 2))), (a 7, .inl ((xG cx).2.1, 60, .inl (sA S 3))), (a 8, .inl ((xG cx).2.1, 60, .inl (sA S 4))), (a 9, .inl ((xG cx).2.1, 60, .inl (sA S 5))), (a 10, .inl ((xG cx).2.1, 60, .inl (sA S 6))), (a 11, .inl ((xG cx).2.1, 60, .inl (sA S 7))), (a 12, .inl ((xG cx).2.1, 24, .inl (sA S 8))), (a 13, .inl ((xG cx).2.1, 3, .inl (sA S 9))), (a 14, .inl ((xG cx).2.1, 3, .inl (sA S 10))), (a 15, .inl ((xG cx).2.1, 3, .inl (sA S 11))), (a 16, .inl ((xG cx).2.1, 3, .inl (sA S 12)))] [(0, .ref (a 0)), (1, .int acc), (2, .int (nI i))] 4 [] := by
    intro zz
    induction zz with
    | zero =>
      intro i acc hi hz ea
      exfalso; omega
    | succ zz ih =>
      intro i acc hi hz ea
      refine x_iload_n C 2 dX4_countBurning_4 rfl rfl ?_
      refine x_aload_n C 0 dX4_countBurning_5 rfl rfl ?_
      refine x_getf C 0 rfl rfl i_kX4_countBurning_X4 4 (by decide) m_kX4_countBurning_1 rfl rfl dX4_countBurning_6 ?_
      refine x_getf C 2 rfl rfl i_kX4_countBurning_X2 0 (by decide) m_kX4_countBurning_3 rfl rfl dX4_countBurning_9 ?_
      refine x_icmp_ge C 40 dX4_countBurning_12 (by decide) (fun c_12 => ?_) (fun c_12 => ?_)
      ·
        have n_12 : (sN S) ≤ i := (nI_leI (a := sN S) (b := i) (by omega) (by omega)).mp c_12
        refine x_iload_n C 1 dX4_countBurning_40 rfl rfl ?_
        exact x_iret C E dX4_countBurning_41 (by rw [ea, show i = sN S from by omega]) (rfl)
      ·
        have n_12 : ¬ ((sN S) ≤ i) := fun q => c_12 ((nI_leI (a := sN S) (b := i) (by omega) (by omega)).mpr q)
        refine x_iload_n C 1 dX4_countBurning_15 rfl rfl ?_
        refine x_aload_n C 0 dX4_countBurning_16 rfl rfl ?_
        refine x_iload_n C 2 dX4_countBurning_17 rfl rfl ?_
        refine x_callVRO C ([.int (nI i)]) ([.int acc]) [0, 1, 2, 3, 4, 5, 6, 7, 8, 9, 10, 11, 12, 13, 14, 15, 16] (k0 := 0) (na := 1) gX4_countBurning_X4_whyDark rfl (by decide +kernel) rfl rfl rfl (kX4_whyDark (xl cx) (xG cx) a S i (by first | assumption | rfl | omega | decide) (by first | assumption | rfl | omega | decide)) rfl (by decide) rfl rfl rfl ⟨by decide, by decide⟩ (Nat.le_of_ble_eq_true rfl) ⟨by decide, by decide⟩ dX4_countBurning_18 ?_
        have join_29 : ∀ (v0 : Int32) (hv0 : v0 = b2i (wdS S i = 0)), X cx (0, 0) [(a 0, .inr (4, [.int (sHr S), .int (sWv S), .int (sDv S), .ref (a 1), .ref (a 2), .ref (a 3)])), (a 1, .inr (0, [.ref (a 4), .ref (a 5)])), (a 2, .inr (2, [.int (nI (sN S)), .ref (a 6), .ref (a 7), .ref (a 8), .ref (a 9), .ref (a 10), .ref (a 11)])), (a 3, .inr (3, [.ref (a 12), .ref (a 13), .ref (a 14), .ref (a 15), .ref (a 16)])), (a 4, .inl ((xG cx).2.1, 6, .inl (sA S 0))), (a 5, .inl ((xG cx).2.1, 6, .inl (sA S 1))), (a 6, .inl ((xG cx).2.1, 60, .inl (sA S 2))), (a 7, .inl ((xG cx).2.1, 60, .inl (sA S 3))), (a 8, .inl ((xG cx).2.1, 60, .inl (sA S 4))), (a 9, .inl ((xG cx).2.1, 60, .inl (sA S 5))), (a 10, .inl ((xG cx).2.1, 60, .inl (sA S 6))), (a 11, .inl ((xG cx).2.1, 60, .inl (sA S 7))), (a 12, .inl ((xG cx).2.1, 24, .inl (sA S 8))), (a 13, .inl ((xG cx).2.1, 3, .inl (sA S 9))), (a 14, .inl ((xG cx).2.1, 3, .inl (sA S 10))), (a 15, .inl ((xG cx).2.1, 3, .inl (sA S 11))), (a 16, .inl ((xG cx).2.1, 3, .inl (sA S 12)))] [(0, .ref (a 0)), (1, .int acc), (2, .int (nI i))] 29 [.int v0, .int acc] := by
          intro v0 hv0
          subst hv0
          refine x_callNRO C ([.int (b2i (wdS S i = 0))]) ([.int acc]) [] (na := 1) (host := "LampRacks") gX4_countBurning_X6_oneIf_n186 (by decide +kernel) m_kX4_countBurning_4 m_kX4_countBurning_5 rfl (by decide +kernel) rfl (kX6_oneIf (xl cx) (xG cx) (b2i (wdS S i = 0)) (b2i_01 _)) rfl (by decide) rfl rfl rfl ⟨by decide, by decide⟩ (Nat.le_of_ble_eq_true rfl) ⟨by decide, by decide⟩ dX4_countBurning_29 ?_
          refine x_iadd C (rfl) dX4_countBurning_32 ?_
          refine x_istore_n C [(1, .int (acc + (b2i (wdS S i = 0)))), (0, .ref (a 0)), (2, .int (nI i))] dX4_countBurning_33 rfl (by decide) rfl ?_
          refine x_iinc C 2 [(2, .int (nI (i + 1))), (1, .int (acc + (b2i (wdS S i = 0)))), (0, .ref (a 0))] dX4_countBurning_34 rfl (inc1 i) (by decide) rfl ?_
          refine x_goto (tgt := 4) C dX4_countBurning_37 (by decide) ?_
          refine x_lv [(0, .ref (a 0)), (1, .int (acc + (b2i (wdS S i = 0)))), (2, .int (nI (i + 1)))] [2, 1, 0] rfl ?_
          exact ih (i + 1) (acc + (b2i (wdS S i = 0))) (by omega) (by omega) (by rw [ea]; rfl)
        refine x_if_ne C 28 dX4_countBurning_21 (by decide) (fun c_21 => ?_) (fun c_21 => ?_)
        ·
          refine x_iconst (v := 0) C dX4_countBurning_28 (by decide) ?_
          exact join_29 _ (by first | rfl | (symm; first | (apply b2i_t; grind) | (apply b2i_f; grind)) | grind)
        ·
          refine x_iconst (v := 1) C dX4_countBurning_24 (by decide) ?_
          refine x_goto (tgt := 29) C dX4_countBurning_25 (by decide) ?_
          exact join_29 _ (by first | rfl | (symm; first | (apply b2i_t; grind) | (apply b2i_f; grind)) | grind)
  refine x_lv [(0, .ref (a 0)), (1, .int 0), (2, .int (nI 0))] [2, 1, 0] rfl ?_
  exact loop_4 (sN S + 1) 0 0 (by omega) (by omega) (rfl)
