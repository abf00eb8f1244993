def atS (S : SC) (r p : Int32) : Int32 := if (0 ≤ r ∧ r ≤ 2) ∧ (0 ≤ p ∧ p ≤ 7) then (if sA S 8 (ixz r * 8 + ixz p) = -1 then -1005 else sA S 8 (ixz r * 8 + ixz p)) else -1001
def lastN (S : SC) (x h : Int32) : Int32 := cnt (fun j => sA S 2 j = x ∧ h ≤ sA S 5 j / 10) (sN S)
def lastS (S : SC) (b h : Int32) : Int32 := if 0 ≤ b ∧ b ≤ 5 then (if 0 ≤ h ∧ h ≤ 99999 then lastN S b h else -1002) else -1001
def endN (S : SC) (x : Int32) : Int32 := (fun (fe : Nat → Int32) (n : Nat) => fst (fun j => fe j ≠ -1 ∧ cnt (fun o => fe o ≠ -1 ∧ (fe o < fe j ∨ (fe o = fe j ∧ o < j))) n = x) (-1) n 0) (sA S 7) (sN S)
def endS (S : SC) (x : Int32) : Int32 := if 0 ≤ x then (if endN S x = -1 then -1005 else endN S x) else -1002
def lstS (S : SC) (x v : Int32) : Int32 :=
  if 0 ≤ x ∧ x ≤ nI (sN S) - 1 then
    if 1 ≤ v ∧ v ≤ 300 then
      if sA S 7 (ixz x) ≠ -1 then -1004
      else hLf (sA S 4 (ixz x)) (sA S 5 (ixz x)) (wrH (sWv S) (sDv S) v (b2i (sA S 3 (ixz x) ≠ -1 ∧ (3 ≤ sA S 3 (ixz x) - sA S 3 (ixz x) / 8 * 8 ∧ sA S 3 (ixz x) - sA S 3 (ixz x) / 8 * 8 ≤ 4))))
    else -1002
  else -1001
def rsnS (S : SC) (x : Int32) : Int32 := if 0 ≤ x ∧ x ≤ nI (sN S) - 1 then wdS S (ixz x) else -1001
def nxtL (S : SC) : Int32 := ffa (sA (pHs S 3000).1 7) (sHr S) (sN (pHs S 3000).1)
def nxtS (S : SC) (w : Int32) : Int32 :=
  if 0 ≤ w ∧ w ≤ 1 then
    if nxtL S = -1 then -1005 else if w = 0 then nxtL S else sA (pHs S 3000).1 7 (ixz (nxtL S)) - sHr S
  else -1002
theorem ffa_nat (fe : Nat → Int32) (h : Int32) : ∀ n, ffa fe h n = -1 ∨ ∃ j, j < n ∧ ffa fe h n = nI j
  | 0 => Or.inl rfl
  | n + 1 => by
    rw [ffa_s]
    split
    · exact Or.inr ⟨n, by omega, rfl⟩
    · exact (ffa_nat fe h n).imp id (fun ⟨j, h1, h2⟩ => ⟨j, by omega, h2⟩)
def stpS (s1 s2 w : Int32) : Int32 := if 0 ≤ w ∧ w ≤ 1 then (if s2 = 0 then -1005 else if w = 0 then s1 else s2) else -1002
def cntT (S : SC) (s ln : Nat) (w : Int32) : Int32 := if w = 10 then nI s else if w = 11 then nI ln else taS S w

theorem i_kX6_lamp_X6 : ∀ w ∈ u_ws RX6 TX6 9, w ∈ wsX6_lamp := by decide +kernel
theorem m_kX6_lamp_1 : (Cond.fieldLink RX6 10 "LampRacks" "now" "LLampRacks$State;" : Cond) ∈ wsX6_lamp := by decide +kernel
set_option maxRecDepth 100000 in
set_option maxHeartbeats 4000000 in
theorem kX6_lamp (l : Launch) (G : GG) (x0 : Nat) (h0 : Nat) (t0 : Nat) (nw : Nat → Nat) (bf : Nat → Nat) (ah : Nat → Nat) (sn : Nat → Nat) (hk : Int32) (s1 : Int32) (s2 : Int32) (N : SC) (x : Int32) (w : Int32) (hok : okS N) : RO l G yX6_lamp wsX6_lamp ({ frames := 3, cells := 0, slots := 0, locals := 66 } : Room) [.ref x0, .int x, .int w] [(x0, .inr (6, [.ref (nw 0), .ref (bf 0), .ref (ah 0), .ref (sn 0), .int hk, .ref h0, .ref t0, .int s1, .int s2])), (nw 0, .inr (4, [.int (sHr N), .int (sWv N), .int (sDv N), .ref (nw 1), .ref (nw 2), .ref (nw 3)])), (nw 1, .inr (0, [.ref (nw 4), .ref (nw 5)])), (nw 2, .inr (2, [.int (nI (sN N)), .ref (nw 6), .ref (nw 7), .ref (nw 8), .ref (nw 9), .ref (nw 10), .ref (nw 11)])), (nw 3, .inr (3, [.ref (nw 12), .ref (nw 13), .ref (nw 14), .ref (nw 15), .ref (nw 16)])), (nw 4, .inl (G.2.1, 6, .inl (sA N 0))), (nw 5, .inl (G.2.1, 6, .inl (sA N 1))), (nw 6, .inl (G.2.1, 60, .inl (sA N 2))), (nw 7, .inl (G.2.1, 60, .inl (sA N 3))), (nw 8, .inl (G.2.1, 60, .inl (sA N 4))), (nw 9, .inl (G.2.1, 60, .inl (sA N 5))), (nw 10, .inl (G.2.1, 60, .inl (sA N 6))), (nw 11, .inl (G.2.1, 60, .inl (sA N 7))), (nw 12, .inl (G.2.1, 24, .inl (sA N 8))), (nw 13, .inl (G.2.1, 3, .inl (sA N 9))), (nw 14, .inl (G.2.1, 3, .inl (sA N 10))), (nw 15, .inl (G.2.1, 3, .inl (sA N 11))), (nw 16, .inl (G.2.1, 3, .inl (sA N 12)))] (.int (tlS N x w)) := by
  refine RO.of (cc := cX6_lamp) (maxL := 3) (ret := (some .int)) (by decide) rfl (Nat.le_of_ble_eq_true rfl) ?_
  intro cx hxl hxG C E
  subst hxl
  subst hxG
  show X cx (0, 0) [(x0, .inr (6, [.ref (nw 0), .ref (bf 0), .ref (ah 0), .ref (sn 0), .int hk, .ref h0, .ref t0, .int s1, .int s2])), (nw 0, .inr (4, [.int (sHr N), .int (sWv N), .int (sDv N), .ref (nw 1), .ref (nw 2), .ref (nw 3)])), (nw 1, .inr (0, [.ref (nw 4), .ref (nw 5)])), (nw 2, .inr (2, [.int (nI (sN N)), .ref (nw 6), .ref (nw 7), .ref (nw 8), .ref (nw 9), .ref (nw 10), .ref (nw 11)])), (nw 3, .inr (3, [.ref (nw 12), .ref (nw 13), .ref (nw 14), .ref (nw 15), .ref (nw 16)])), (nw 4, .inl ((xG cx).2.1, 6, .inl (sA N 0))), (nw 5, .inl ((xG cx).2.1, 6, .inl (sA N 1))), (nw 6, .inl ((xG cx).2.1, 60, .inl (sA N 2))), (nw 7, .inl ((xG cx).2.1, 60, .inl (sA N 3))), (nw 8, .inl ((xG cx).2.1, 60, .inl (sA N 4))), (nw 9, .inl ((xG cx).2.1, 60, .inl (sA N 5))), (nw 10, .inl ((xG cx).2.1, 60, .inl (sA N 6))), (nw 11, .inl ((xG cx).2.1, 60, .inl (sA N 7))), (nw 12, .inl ((xG cx).2.1, 24, .inl (sA N 8))), (nw 13, .inl ((xG cx).2.1, 3, .inl (sA N 9))), (nw 14, .inl ((xG cx).2.1, 3, .inl (sA N 10))), (nw 15, .inl ((xG cx).2.1, 3, .inl (sA N 11))), (nw 16, .inl ((xG cx).2.1, 3, .inl (sA N 12)))] [(0, .ref x0), (1, .int x), (2, .int w)] 0 []
  have hn := hok.1
  refine x_aload_n C 0 dX6_lamp_0 rfl rfl ?_
  refine x_getf C 0 rfl rfl i_kX6_lamp_X6 0 (by decide) m_kX6_lamp_1 rfl rfl dX6_lamp_1 ?_
  refine x_iload_n C 1 dX6_lamp_4 rfl rfl ?_
  refine x_iload_n C 2 dX6_lamp_5 rfl rfl ?_
  refine x_callVRO C ([.int x, .int w]) ([]) [1, 2, 3, 4, 5, 6, 7, 8, 9, 10, 11, 12, 13, 14, 15, 16, 17] (k0 := 0) (na := 2) gX6_lamp_X4_tellOfLamp rfl (by decide +kernel) rfl rfl rfl (kX4_tellOfLamp (xl cx) (xG cx) nw N x w (by first | assumption | rfl | omega | decide)) rfl (by decide) rfl rfl rfl ⟨by decide, by decide⟩ (Nat.le_of_ble_eq_true rfl) ⟨by decide, by decide⟩ dX6_lamp_6 ?_
  exact x_iret C E dX6_lamp_9 (rfl) (rfl)

theorem i_kX6_rack_X6 : ∀ w ∈ u_ws RX6 TX6 9, w ∈ wsX6_rack := by decide +kernel
theorem m_kX6_rack_1 : (Cond.fieldLink RX6 10 "LampRacks" "now" "LLampRacks$State;" : Cond) ∈ wsX6_rack := by decide +kernel
set_option maxRecDepth 100000 in
set_option maxHeartbeats 4000000 in
theorem kX6_rack (l : Launch) (G : GG) (x0 : Nat) (h0 : Nat) (t0 : Nat) (nw : Nat → Nat) (bf : Nat → Nat) (ah : Nat → Nat) (sn : Nat → Nat) (hk : Int32) (s1 : Int32) (s2 : Int32) (N : SC) (r : Int32) (w : Int32) (hok : okS N) : RO l G yX6_rack wsX6_rack ({ frames := 3, cells := 0, slots := 0, locals := 69 } : Room) [.ref x0, .int r, .int w] [(x0, .inr (6, [.ref (nw 0), .ref (bf 0), .ref (ah 0), .ref (sn 0), .int hk, .ref h0, .ref t0, .int s1, .int s2])), (nw 0, .inr (4, [.int (sHr N), .int (sWv N), .int (sDv N), .ref (nw 1), .ref (nw 2), .ref (nw 3)])), (nw 1, .inr (0, [.ref (nw 4), .ref (nw 5)])), (nw 2, .inr (2, [.int (nI (sN N)), .ref (nw 6), .ref (nw 7), .ref (nw 8), .ref (nw 9), .ref (nw 10), .ref (nw 11)])), (nw 3, .inr (3, [.ref (nw 12), .ref (nw 13), .ref (nw 14), .ref (nw 15), .ref (nw 16)])), (nw 4, .inl (G.2.1, 6, .inl (sA N 0))), (nw 5, .inl (G.2.1, 6, .inl (sA N 1))), (nw 6, .inl (G.2.1, 60, .inl (sA N 2))), (nw 7, .inl (G.2.1, 60, .inl (sA N 3))), (nw 8, .inl (G.2.1, 60, .inl (sA N 4))), (nw 9, .inl (G.2.1, 60, .inl (sA N 5))), (nw 10, .inl (G.2.1, 60, .inl (sA N 6))), (nw 11, .inl (G.2.1, 60, .inl (sA N 7))), (nw 12, .inl (G.2.1, 24, .inl (sA N 8))), (nw 13, .inl (G.2.1, 3, .inl (sA N 9))), (nw 14, .inl (G.2.1, 3, .inl (sA N 10))), (nw 15, .inl (G.2.1, 3, .inl (sA N 11))), (nw 16, .inl (G.2.1, 3, .inl (sA N 12)))] (.int (trS N r w)) := by
  refine RO.of (cc := cX6_rack) (maxL := 3) (ret := (some .int)) (by decide) rfl (Nat.le_of_ble_eq_true rfl) ?_
  intro cx hxl hxG C E
  subst hxl
  subst hxG
  show X cx (0, 0) [(x0, .inr (6, [.ref (nw 0), .ref (bf 0), .ref (ah 0), .ref (sn 0), .int hk, .ref h0, .ref t0, .int s1, .int s2])), (nw 0, .inr (4, [.int (sHr N), .int (sWv N), .int (sDv N), .ref (nw 1), .ref (nw 2), .ref (nw 3)])), (nw 1, .inr (0, [.ref (nw 4), .ref (nw 5)])), (nw 2, .inr (2, [.int (nI (sN N)), .ref (nw 6), .ref (nw 7), .ref (nw 8), .ref (nw 9), .ref (nw 10), .ref (nw 11)])), (nw 3, .inr (3, [.ref (nw 12), .ref (nw 13), .ref (nw 14), .ref (nw 15), .ref (nw 16)])), (nw 4, .inl ((xG cx).2.1, 6, .inl (sA N 0))), (nw 5, .inl ((xG cx).2.1, 6, .inl (sA N 1))), (nw 6, .inl ((xG cx).2.1, 60, .inl (sA N 2))), (nw 7, .inl ((xG cx).2.1, 60, .inl (sA N 3))), (nw 8, .inl ((xG cx).2.1, 60, .inl (sA N 4))), (nw 9, .inl ((xG cx).2.1, 60, .inl (sA N 5))), (nw 10, .inl ((xG cx).2.1, 60, .inl (sA N 6))), (nw 11, .inl ((xG cx).2.1, 60, .inl (sA N 7))), (nw 12, .inl ((xG cx).2.1, 24, .inl (sA N 8))), (nw 13, .inl ((xG cx).2.1, 3, .inl (sA N 9))), (nw 14, .inl ((xG cx).2.1, 3, .inl (sA N 10))), (nw 15, .inl ((xG cx).2.1, 3, .inl (sA N 11))), (nw 16, .inl ((xG cx).2.1, 3, .inl (sA N 12)))] [(0, .ref x0), (1, .int r), (2, .int w)] 0 []
  have hn := hok.1
  refine x_aload_n C 0 dX6_rack_0 rfl rfl ?_
  refine x_getf C 0 rfl rfl i_kX6_rack_X6 0 (by decide) m_kX6_rack_1 rfl rfl dX6_rack_1 ?_
  refine x_iload_n C 1 dX6_rack_4 rfl rfl ?_
  refine x_iload_n C 2 dX6_rack_5 rfl rfl ?_
  refine x_callVRO C ([.int r, .int w]) ([]) [1, 2, 3, 4, 5, 6, 7, 8, 9, 10, 11, 12, 13, 14, 15, 16, 17] (k0 := 0) (na := 2) gX6_rack_X4_tellOfRack rfl (by decide +kernel) rfl rfl rfl (kX4_tellOfRack (xl cx) (xG cx) nw N r w (by first | assumption | rfl | omega | decide)) rfl (by decide) rfl rfl rfl ⟨by decide, by decide⟩ (Nat.le_of_ble_eq_true rfl) ⟨by decide, by decide⟩ dX6_rack_6 ?_
  exact x_iret C E dX6_rack_9 (rfl) (rfl)

theorem i_kX6_at_X6 : ∀ w ∈ u_ws RX6 TX6 9, w ∈ wsX6_at := by decide +kernel
theorem m_kX6_at_1 : (Cond.fieldLink RX6 10 "LampRacks" "now" "LLampRacks$State;" : Cond) ∈ wsX6_at := by decide +kernel
theorem i_kX6_at_X4 : ∀ w ∈ u_ws RX4 TX4 6, w ∈ wsX6_at := by decide +kernel
theorem m_kX6_at_3 : (Cond.fieldLink RX6 144 "LampRacks$State" "racks" "LLampRacks$Racks;" : Cond) ∈ wsX6_at := by decide +kernel
theorem i_kX6_at_X3 : ∀ w ∈ u_ws RX3 TX3 5, w ∈ wsX6_at := by decide +kernel
theorem m_kX6_at_5 : (Cond.fieldLink RX6 148 "LampRacks$Racks" "lampAt" "[I" : Cond) ∈ wsX6_at := by decide +kernel
set_option maxRecDepth 100000 in
set_option maxHeartbeats 4000000 in
theorem kX6_at (l : Launch) (G : GG) (x0 : Nat) (h0 : Nat) (t0 : Nat) (nw : Nat → Nat) (bf : Nat → Nat) (ah : Nat → Nat) (sn : Nat → Nat) (hk : Int32) (s1 : Int32) (s2 : Int32) (N : SC) (r : Int32) (p : Int32) (hok : okS N) : RO l G yX6_at wsX6_at ({ frames := 3, cells := 0, slots := 0, locals := 63 } : Room) [.ref x0, .int r, .int p] [(x0, .inr (6, [.ref (nw 0), .ref (bf 0), .ref (ah 0), .ref (sn 0), .int hk, .ref h0, .ref t0, .int s1, .int s2])), (nw 0, .inr (4, [.int (sHr N), .int (sWv N), .int (sDv N), .ref (nw 1), .ref (nw 2), .ref (nw 3)])), (nw 1, .inr (0, [.ref (nw 4), .ref (nw 5)])), (nw 2, .inr (2, [.int (nI (sN N)), .ref (nw 6), .ref (nw 7), .ref (nw 8), .ref (nw 9), .ref (nw 10), .ref (nw 11)])), (nw 3, .inr (3, [.ref (nw 12), .ref (nw 13), .ref (nw 14), .ref (nw 15), .ref (nw 16)])), (nw 4, .inl (G.2.1, 6, .inl (sA N 0))), (nw 5, .inl (G.2.1, 6, .inl (sA N 1))), (nw 6, .inl (G.2.1, 60, .inl (sA N 2))), (nw 7, .inl (G.2.1, 60, .inl (sA N 3))), (nw 8, .inl (G.2.1, 60, .inl (sA N 4))), (nw 9, .inl (G.2.1, 60, .inl (sA N 5))), (nw 10, .inl (G.2.1, 60, .inl (sA N 6))), (nw 11, .inl (G.2.1, 60, .inl (sA N 7))), (nw 12, .inl (G.2.1, 24, .inl (sA N 8))), (nw 13, .inl (G.2.1, 3, .inl (sA N 9))), (nw 14, .inl (G.2.1, 3, .inl (sA N 10))), (nw 15, .inl (G.2.1, 3, .inl (sA N 11))), (nw 16, .inl (G.2.1, 3, .inl (sA N 12)))] (.int (atS N r p)) := by
  refine RO.of (cc := cX6_at) (maxL := 4) (ret := (some .int)) (by decide) rfl (Nat.le_of_ble_eq_true rfl) ?_
  intro cx hxl hxG C E
  subst hxl
  subst hxG
  show X cx (0, 0) [(x0, .inr (6, [.ref (nw 0), .ref (bf 0), .ref (ah 0), .ref (sn 0), .int hk, .ref h0, .ref t0, .int s1, .int s2])), (nw 0, .inr (4, [.int (sHr N), .int (sWv N), .int (sDv N), .ref (nw 1), .ref (nw 2), .ref (nw 3)])), (nw 1, .inr (0, [.ref (nw 4), .ref (nw 5)])), (nw 2, .inr (2, [.int (nI (sN N)), .ref (nw 6), .ref (nw 7), .ref (nw 8), .ref (nw 9), .ref (nw 10), .ref (nw 11)])), (nw 3, .inr (3, [.ref (nw 12), .ref (nw 13), .ref (nw 14), .ref (nw 15), .ref (nw 16)])), (nw 4, .inl ((xG cx).2.1, 6, .inl (sA N 0))), (nw 5, .inl ((xG cx).2.1, 6, .inl (sA N 1))), (nw 6, .inl ((xG cx).2.1, 60, .inl (sA N 2))), (nw 7, .inl ((xG cx).2.1, 60, .inl (sA N 3))), (nw 8, .inl ((xG cx).2.1, 60, .inl (sA N 4))), (nw 9, .inl ((xG cx).2.1, 60, .inl (sA N 5))), (nw 10, .inl ((xG cx).2.1, 60, .inl (sA N 6))), (nw 11, .inl ((xG cx).2.1, 60, .inl (sA N 7))), (nw 12, .inl ((xG cx).2.1, 24, .inl (sA N 8))), (nw 13, .inl ((xG cx).2.1, 3, .inl (sA N 9))), (nw 14, .inl ((xG cx).2.1, 3, .inl (sA N 10))), (nw 15, .inl ((xG cx).2.1, 3, .inl (sA N 11))), (nw 16, .inl ((xG cx).2.1, 3, .inl (sA N 12)))] [(0, .ref x0), (1, .int r), (2, .int p)] 0 []
  have hn := hok.1
  refine x_iload_n C 1 dX6_at_0 rfl rfl ?_
  refine x_iload_n C 2 dX6_at_1 rfl rfl ?_
  refine x_callSRO C ([.int r, .int p]) ([]) [] (na := 2) gX6_at_X6_isPlace rfl (by decide +kernel) rfl (kX6_isPlace (xl cx) (xG cx) r p) rfl (by decide) rfl rfl rfl ⟨by decide, by decide⟩ (Nat.le_of_ble_eq_true rfl) ⟨by decide, by decide⟩ dX6_at_2 ?_
  refine x_ifb_ne (P := (0 ≤ r ∧ r ≤ 2) ∧ (0 ≤ p ∧ p ≤ 7)) C 12 dX6_at_5 (by decide) (fun c_5 => ?_) (fun c_5 => ?_)
  ·
    obtain ⟨kr, h_kr, rfl⟩ := in_nat (M := 2) (m := 2) c_5.1 (by decide)
    obtain ⟨kp, h_kp, rfl⟩ := in_nat (M := 7) (m := 7) c_5.2 (by decide)
    refine x_aload_n C 0 dX6_at_12 rfl rfl ?_
    refine x_getf C 0 rfl rfl i_kX6_at_X6 0 (by decide) m_kX6_at_1 rfl rfl dX6_at_13 ?_
    refine x_getf C 1 rfl rfl i_kX6_at_X4 5 (by decide) m_kX6_at_3 rfl rfl dX6_at_16 ?_
    refine x_getf C 4 rfl rfl i_kX6_at_X3 0 (by decide) m_kX6_at_5 rfl rfl dX6_at_19 ?_
    refine x_iload_n C 1 dX6_at_22 rfl rfl ?_
    refine x_iload_n C 2 dX6_at_23 rfl rfl ?_
    refine x_callSRO C ([.int (nI kr), .int (nI kp)]) ([.ref (nw 12)]) [] (na := 2) gX6_at_X6_spotOf rfl (by decide +kernel) rfl (kX6_spotOf (xl cx) (xG cx) kr kp) rfl (by decide) rfl rfl rfl ⟨by decide, by decide⟩ (Nat.le_of_ble_eq_true rfl) ⟨by decide, by decide⟩ dX6_at_24 ?_
    refine x_iald C 13 rfl rfl (vp_in_nI (by omega) (by decide)) (congrArg (sA N 8) (nI_clamp (by omega))) dX6_at_27 ?_
    refine x_istore_n C [(3, .int ((sA N 8) (kr * 8 + kp))), (0, .ref x0), (1, .int (nI kr)), (2, .int (nI kp))] dX6_at_28 rfl (by decide) rfl ?_
    refine x_iload_n C 0 dX6_at_29 rfl rfl ?_
    refine x_iconst (v := (-1)) C dX6_at_30 (by decide) ?_
    refine x_icmp_ne C 40 dX6_at_31 (by decide) (fun c_31 => ?_) (fun c_31 => ?_)
    ·
      refine x_iload_n C 0 dX6_at_40 rfl rfl ?_
      exact x_iret C E dX6_at_41 (by simp [atS, c_5, ix kr (by omega), ix kp (by omega), c_31]) (rfl)
    ·
      refine x_sipush (v := (-1005)) C dX6_at_34 (by decide) ?_
      refine x_goto (tgt := 41) C dX6_at_37 (by decide) ?_
      exact x_iret C E dX6_at_41 (by simp [atS, c_5, ix kr (by omega), ix kp (by omega), c_31]) (rfl)
  ·
    refine x_sipush (v := (-1001)) C dX6_at_8 (by decide) ?_
    exact x_iret C E dX6_at_11 (by simp [atS, c_5]) (rfl)

theorem i_kX6_batch_X6 : ∀ w ∈ u_ws RX6 TX6 9, w ∈ wsX6_batch := by decide +kernel
theorem m_kX6_batch_1 : (Cond.fieldLink RX6 10 "LampRacks" "now" "LLampRacks$State;" : Cond) ∈ wsX6_batch := by decide +kernel
set_option maxRecDepth 100000 in
set_option maxHeartbeats 4000000 in
theorem kX6_batch (l : Launch) (G : GG) (x0 : Nat) (h0 : Nat) (t0 : Nat) (nw : Nat → Nat) (bf : Nat → Nat) (ah : Nat → Nat) (sn : Nat → Nat) (hk : Int32) (s1 : Int32) (s2 : Int32) (N : SC) (b : Int32) (w : Int32) (hok : okS N) : RO l G yX6_batch wsX6_batch ({ frames := 5, cells := 0, slots := 0, locals := 117 } : Room) [.ref x0, .int b, .int w] [(x0, .inr (6, [.ref (nw 0), .ref (bf 0), .ref (ah 0), .ref (sn 0), .int hk, .ref h0, .ref t0, .int s1, .int s2])), (nw 0, .inr (4, [.int (sHr N), .int (sWv N), .int (sDv N), .ref (nw 1), .ref (nw 2), .ref (nw 3)])), (nw 1, .inr (0, [.ref (nw 4), .ref (nw 5)])), (nw 2, .inr (2, [.int (nI (sN N)), .ref (nw 6), .ref (nw 7), .ref (nw 8), .ref (nw 9), .ref (nw 10), .ref (nw 11)])), (nw 3, .inr (3, [.ref (nw 12), .ref (nw 13), .ref (nw 14), .ref (nw 15), .ref (nw 16)])), (nw 4, .inl (G.2.1, 6, .inl (sA N 0))), (nw 5, .inl (G.2.1, 6, .inl (sA N 1))), (nw 6, .inl (G.2.1, 60, .inl (sA N 2))), (nw 7, .inl (G.2.1, 60, .inl (sA N 3))), (nw 8, .inl (G.2.1, 60, .inl (sA N 4))), (nw 9, .inl (G.2.1, 60, .inl (sA N 5))), (nw 10, .inl (G.2.1, 60, .inl (sA N 6))), (nw 11, .inl (G.2.1, 60, .inl (sA N 7))), (nw 12, .inl (G.2.1, 24, .inl (sA N 8))), (nw 13, .inl (G.2.1, 3, .inl (sA N 9))), (nw 14, .inl (G.2.1, 3, .inl (sA N 10))), (nw 15, .inl (G.2.1, 3, .inl (sA N 11))), (nw 16, .inl (G.2.1, 3, .inl (sA N 12)))] (.int (tbS N b w)) := by
  refine RO.of (cc := cX6_batch) (maxL := 3) (ret := (some .int)) (by decide) rfl (Nat.le_of_ble_eq_true rfl) ?_
  intro cx hxl hxG C E
  subst hxl
  subst hxG
  show X cx (0, 0) [(x0, .inr (6, [.ref (nw 0), .ref (bf 0), .ref (ah 0), .ref (sn 0), .int hk, .ref h0, .ref t0, .int s1, .int s2])), (nw 0, .inr (4, [.int (sHr N), .int (sWv N), .int (sDv N), .ref (nw 1), .ref (nw 2), .ref (nw 3)])), (nw 1, .inr (0, [.ref (nw 4), .ref (nw 5)])), (nw 2, .inr (2, [.int (nI (sN N)), .ref (nw 6), .ref (nw 7), .ref (nw 8), .ref (nw 9), .ref (nw 10), .ref (nw 11)])), (nw 3, .inr (3, [.ref (nw 12), .ref (nw 13), .ref (nw 14), .ref (nw 15), .ref (nw 16)])), (nw 4, .inl ((xG cx).2.1, 6, .inl (sA N 0))), (nw 5, .inl ((xG cx).2.1, 6, .inl (sA N 1))), (nw 6, .inl ((xG cx).2.1, 60, .inl (sA N 2))), (nw 7, .inl ((xG cx).2.1, 60, .inl (sA N 3))), (nw 8, .inl ((xG cx).2.1, 60, .inl (sA N 4))), (nw 9, .inl ((xG cx).2.1, 60, .inl (sA N 5))), (nw 10, .inl ((xG cx).2.1, 60, .inl (sA N 6))), (nw 11, .inl ((xG cx).2.1, 60, .inl (sA N 7))), (nw 12, .inl ((xG cx).2.1, 24, .inl (sA N 8))), (nw 13, .inl ((xG cx).2.1, 3, .inl (sA N 9))), (nw 14, .inl ((xG cx).2.1, 3, .inl (sA N 10))), (nw 15, .inl ((xG cx).2.1, 3, .inl (sA N 11))), (nw 16, .inl ((xG cx).2.1, 3, .inl (sA N 12)))] [(0, .ref x0), (1, .int b), (2, .int w)] 0 []
  have hn := hok.1
  refine x_aload_n C 0 dX6_batch_0 rfl rfl ?_
  refine x_getf C 0 rfl rfl i_kX6_batch_X6 0 (by decide) m_kX6_batch_1 rfl rfl dX6_batch_1 ?_
  refine x_iload_n C 1 dX6_batch_4 rfl rfl ?_
  refine x_iload_n C 2 dX6_batch_5 rfl rfl ?_
  refine x_callVRO C ([.int b, .int w]) ([]) [1, 2, 3, 4, 5, 6, 7, 8, 9, 10, 11, 12, 13, 14, 15, 16, 17] (k0 := 0) (na := 2) gX6_batch_X4_tellOfBatch rfl (by decide +kernel) rfl rfl rfl (kX4_tellOfBatch (xl cx) (xG cx) nw N b w (by first | assumption | rfl | omega | decide)) rfl (by decide) rfl rfl rfl ⟨by decide, by decide⟩ (Nat.le_of_ble_eq_true rfl) ⟨by decide, by decide⟩ dX6_batch_6 ?_
  exact x_iret C E dX6_batch_9 (rfl) (rfl)

theorem m_kX6_lasted_0 : (Cond.constant RX6 163 99999 : Cond) ∈ wsX6_lasted := by decide +kernel
theorem i_kX6_lasted_X6 : ∀ w ∈ u_ws RX6 TX6 9, w ∈ wsX6_lasted := by decide +kernel
theorem m_kX6_lasted_2 : (Cond.fieldLink RX6 10 "LampRacks" "now" "LLampRacks$State;" : Cond) ∈ wsX6_lasted := by decide +kernel
theorem i_kX6_lasted_X4 : ∀ w ∈ u_ws RX4 TX4 6, w ∈ wsX6_lasted := by decide +kernel
theorem m_kX6_lasted_4 : (Cond.fieldLink RX6 127 "LampRacks$State" "lamps" "LLampRacks$Lamps;" : Cond) ∈ wsX6_lasted := by decide +kernel
set_option maxRecDepth 100000 in
set_option maxHeartbeats 4000000 in
theorem kX6_lasted (l : Launch) (G : GG) (x0 : Nat) (h0 : Nat) (t0 : Nat) (nw : Nat → Nat) (bf : Nat → Nat) (ah : Nat → Nat) (sn : Nat → Nat) (hk : Int32) (s1 : Int32) (s2 : Int32) (N : SC) (b : Int32) (h : Int32) (hok : okS N) : RO l G yX6_lasted wsX6_lasted ({ frames := 2, cells := 0, slots := 0, locals := 45 } : Room) [.ref x0, .int b, .int h] [(x0, .inr (6, [.ref (nw 0), .ref (bf 0), .ref (ah 0), .ref (sn 0), .int hk, .ref h0, .ref t0, .int s1, .int s2])), (nw 0, .inr (4, [.int (sHr N), .int (sWv N), .int (sDv N), .ref (nw 1), .ref (nw 2), .ref (nw 3)])), (nw 1, .inr (0, [.ref (nw 4), .ref (nw 5)])), (nw 2, .inr (2, [.int (nI (sN N)), .ref (nw 6), .ref (nw 7), .ref (nw 8), .ref (nw 9), .ref (nw 10), .ref (nw 11)])), (nw 3, .inr (3, [.ref (nw 12), .ref (nw 13), .ref (nw 14), .ref (nw 15), .ref (nw 16)])), (nw 4, .inl (G.2.1, 6, .inl (sA N 0))), (nw 5, .inl (G.2.1, 6, .inl (sA N 1))), (nw 6, .inl (G.2.1, 60, .inl (sA N 2))), (nw 7, .inl (G.2.1, 60, .inl (sA N 3))), (nw 8, .inl (G.2.1, 60, .inl (sA N 4))), (nw 9, .inl (G.2.1, 60, .inl (sA N 5))), (nw 10, .inl (G.2.1, 60, .inl (sA N 6))), (nw 11, .inl (G.2.1, 60, .inl (sA N 7))), (nw 12, .inl (G.2.1, 24, .inl (sA N 8))), (nw 13, .inl (G.2.1, 3, .inl (sA N 9))), (nw 14, .inl (G.2.1, 3, .inl (sA N 10))), (nw 15, .inl (G.2.1, 3, .inl (sA N 11))), (nw 16, .inl (G.2.1, 3, .inl (sA N 12)))] (.int (lastS N b h)) := by
  refine RO.of (cc := cX6_lasted) (maxL := 3) (ret := (some .int)) (by decide) rfl (Nat.le_of_ble_eq_true rfl) ?_
  intro cx hxl hxG C E
  subst hxl
  subst hxG
  show X cx (0, 0) [(x0, .inr (6, [.ref (nw 0), .ref (bf 0), .ref (ah 0), .ref (sn 0), .int hk, .ref h0, .ref t0, .int s1, .int s2])), (nw 0, .inr (4, [.int (sHr N), .int (sWv N), .int (sDv N), .ref (nw 1), .ref (nw 2), .ref (nw 3)])), (nw 1, .inr (0, [.ref (nw 4), .ref (nw 5)])), (nw 2, .inr (2, [.int (nI (sN N)), .ref (nw 6), .ref (nw 7), .ref (nw 8), .ref (nw 9), .ref (nw 10), .ref (nw 11)])), (nw 3, .inr (3, [.ref (nw 12), .ref (nw 13), .ref (nw 14), .ref (nw 15), .ref (nw 16)])), (nw 4, .inl ((xG cx).2.1, 6, .inl (sA N 0))), (nw 5, .inl ((xG cx).2.1, 6, .inl (sA N 1))), (nw 6, .inl ((xG cx).2.1, 60, .inl (sA N 2))), (nw 7, .inl ((xG cx).2.1, 60, .inl (sA N 3))), (nw 8, .inl ((xG cx).2.1, 60, .inl (sA N 4))), (nw 9, .inl ((xG cx).2.1, 60, .inl (sA N 5))), (nw 10, .inl ((xG cx).2.1, 60, .inl (sA N 6))), (nw 11, .inl ((xG cx).2.1, 60, .inl (sA N 7))), (nw 12, .inl ((xG cx).2.1, 24, .inl (sA N 8))), (nw 13, .inl ((xG cx).2.1, 3, .inl (sA N 9))), (nw 14, .inl ((xG cx).2.1, 3, .inl (sA N 10))), (nw 15, .inl ((xG cx).2.1, 3, .inl (sA N 11))), (nw 16, .inl ((xG cx).2.1, 3, .inl (sA N 12)))] [(0, .ref x0), (1, .int b), (2, .int h)] 0 []
  have hn := hok.1
  refine x_iload_n C 1 dX6_lasted_0 rfl rfl ?_
  refine x_callSRO C ([.int b]) ([]) [] (na := 1) gX6_lasted_X6_isBatch rfl (by decide +kernel) rfl (kX6_isBatch (xl cx) (xG cx) b) rfl (by decide) rfl rfl rfl ⟨by decide, by decide⟩ (Nat.le_of_ble_eq_true rfl) ⟨by decide, by decide⟩ dX6_lasted_1 ?_
  refine x_ifb_ne (P := 0 ≤ b ∧ b ≤ 5) C 11 dX6_lasted_4 (by decide) (fun c_4 => ?_) (fun c_4 => ?_)
  ·
    refine x_iload_n C 2 dX6_lasted_11 rfl rfl ?_
    refine x_iconst (v := 0) C dX6_lasted_12 (by decide) ?_
    refine x_ldc (v := 99999) C m_kX6_lasted_0 dX6_lasted_13 ?_
    refine x_callSRO C ([.int h, .int 0, .int 99999]) ([]) [] (na := 3) gX6_lasted_X6_isWithin rfl (by decide +kernel) rfl (kX6_isWithin (xl cx) (xG cx) h 0 99999) rfl (by decide) rfl rfl rfl ⟨by decide, by decide⟩ (Nat.le_of_ble_eq_true rfl) ⟨by decide, by decide⟩ dX6_lasted_15 ?_
    refine x_ifb_ne (P := 0 ≤ h ∧ h ≤ 99999) C 25 dX6_lasted_18 (by decide) (fun c_18 => ?_) (fun c_18 => ?_)
    ·
      refine x_aload_n C 0 dX6_lasted_25 rfl rfl ?_
      refine x_getf C 0 rfl rfl i_kX6_lasted_X6 0 (by decide) m_kX6_lasted_2 rfl rfl dX6_lasted_26 ?_
      refine x_getf C 1 rfl rfl i_kX6_lasted_X4 4 (by decide) m_kX6_lasted_4 rfl rfl dX6_lasted_29 ?_
      refine x_iload_n C 1 dX6_lasted_32 rfl rfl ?_
      refine x_iload_n C 2 dX6_lasted_33 rfl rfl ?_
      refine x_callVRO C ([.int b, .int h]) ([]) [3, 7, 8, 9, 10, 11, 12] (k0 := 0) (na := 2) gX6_lasted_X2_countThatLasted rfl (by decide +kernel) rfl rfl rfl (kX2_countThatLasted (xl cx) (xG cx) (nw 2) (nw 6) (nw 7) (nw 8) (nw 9) (nw 10) (nw 11) (sN N) (sA N 2) (sA N 3) (sA N 4) (sA N 5) (sA N 6) (sA N 7) b h (by first | assumption | rfl | omega | decide)) rfl (by decide) rfl rfl rfl ⟨by decide, by decide⟩ (Nat.le_of_ble_eq_true rfl) ⟨by decide, by decide⟩ dX6_lasted_34 ?_
      refine x_top (y := lastN N b h) (rfl) ?_
      exact x_iret C E dX6_lasted_37 (by simp [lastS, c_4, c_18]) (rfl)
    ·
      refine x_sipush (v := (-1002)) C dX6_lasted_21 (by decide) ?_
      exact x_iret C E dX6_lasted_24 (by simp [lastS, c_4, c_18]) (rfl)
  ·
    refine x_sipush (v := (-1001)) C dX6_lasted_7 (by decide) ?_
    exact x_iret C E dX6_lasted_10 (by simp [lastS, c_4]) (rfl)

theorem i_kX6_ended_X6 : ∀ w ∈ u_ws RX6 TX6 9, w ∈ wsX6_ended := by decide +kernel
theorem m_kX6_ended_1 : (Cond.fieldLink RX6 10 "LampRacks" "now" "LLampRacks$State;" : Cond) ∈ wsX6_ended := by decide +kernel
theorem i_kX6_ended_X4 : ∀ w ∈ u_ws RX4 TX4 6, w ∈ wsX6_ended := by decide +kernel
theorem m_kX6_ended_3 : (Cond.fieldLink RX6 127 "LampRacks$State" "lamps" "LLampRacks$Lamps;" : Cond) ∈ wsX6_ended := by decide +kernel
set_option maxRecDepth 100000 in
set_option maxHeartbeats 4000000 in
theorem kX6_ended (l : Launch) (G : GG) (x0 : Nat) (h0 : Nat) (t0 : Nat) (nw : Nat → Nat) (bf : Nat → Nat) (ah : Nat → Nat) (sn : Nat → Nat) (hk : Int32) (s1 : Int32) (s2 : Int32) (N : SC) (x : Int32) (hok : okS N) : RO l G yX6_ended wsX6_ended ({ frames := 3, cells := 0, slots := 0, locals := 67 } : Room) [.ref x0, .int x] [(x0, .inr (6, [.ref (nw 0), .ref (bf 0), .ref (ah 0), .ref (sn 0), .int hk, .ref h0, .ref t0, .int s1, .int s2])), (nw 0, .inr (4, [.int (sHr N), .int (sWv N), .int (sDv N), .ref (nw 1), .ref (nw 2), .ref (nw 3)])), (nw 1, .inr (0, [.ref (nw 4), .ref (nw 5)])), (nw 2, .inr (2, [.int (nI (sN N)), .ref (nw 6), .ref (nw 7), .ref (nw 8), .ref (nw 9), .ref (nw 10), .ref (nw 11)])), (nw 3, .inr (3, [.ref (nw 12), .ref (nw 13), .ref (nw 14), .ref (nw 15), .ref (nw 16)])), (nw 4, .inl (G.2.1, 6, .inl (sA N 0))), (nw 5, .inl (G.2.1, 6, .inl (sA N 1))), (nw 6, .inl (G.2.1, 60, .inl (sA N 2))), (nw 7, .inl (G.2.1, 60, .inl (sA N 3))), (nw 8, .inl (G.2.1, 60, .inl (sA N 4))), (nw 9, .inl (G.2.1, 60, .inl (sA N 5))), (nw 10, .inl (G.2.1, 60, .inl (sA N 6))), (nw 11, .inl (G.2.1, 60, .inl (sA N 7))), (nw 12, .inl (G.2.1, 24, .inl (sA N 8))), (nw 13, .inl (G.2.1, 3, .inl (sA N 9))), (nw 14, .inl (G.2.1, 3, .inl (sA N 10))), (nw 15, .inl (G.2.1, 3, .inl (sA N 11))), (nw 16, .inl (G.2.1, 3, .inl (sA N 12)))] (.int (endS N x)) := by
  refine RO.of (cc := cX6_ended) (maxL := 3) (ret := (some .int)) (by decide) rfl (Nat.le_of_ble_eq_true rfl) ?_
  intro cx hxl hxG C E
  subst hxl
  subst hxG
  show X cx (0, 0) [(x0, .inr (6, [.ref (nw 0), .ref (bf 0), .ref (ah 0), .ref (sn 0), .int hk, .ref h0, .ref t0, .int s1, .int s2])), (nw 0, .inr (4, [.int (sHr N), .int (sWv N), .int (sDv N), .ref (nw 1), .ref (nw 2), .ref (nw 3)])), (nw 1, .inr (0, [.ref (nw 4), .ref (nw 5)])), (nw 2, .inr (2, [.int (nI (sN N)), .ref (nw 6), .ref (nw 7), .ref (nw 8), .ref (nw 9), .ref (nw 10), .ref (nw 11)])), (nw 3, .inr (3, [.ref (nw 12), .ref (nw 13), .ref (nw 14), .ref (nw 15), .ref (nw 16)])), (nw 4, .inl ((xG cx).2.1, 6, .inl (sA N 0))), (nw 5, .inl ((xG cx).2.1, 6, .inl (sA N 1))), (nw 6, .inl ((xG cx).2.1, 60, .inl (sA N 2))), (nw 7, .inl ((xG cx).2.1, 60, .inl (sA N 3))), (nw 8, .inl ((xG cx).2.1, 60, .inl (sA N 4))), (nw 9, .inl ((xG cx).2.1, 60, .inl (sA N 5))), (nw 10, .inl ((xG cx).2.1, 60, .inl (sA N 6))), (nw 11, .inl ((xG cx).2.1, 60, .inl (sA N 7))), (nw 12, .inl ((xG cx).2.1, 24, .inl (sA N 8))), (nw 13, .inl ((xG cx).2.1, 3, .inl (sA N 9))), (nw 14, .inl ((xG cx).2.1, 3, .inl (sA N 10))), (nw 15, .inl ((xG cx).2.1, 3, .inl (sA N 11))), (nw 16, .inl ((xG cx).2.1, 3, .inl (sA N 12)))] [(0, .ref x0), (1, .int x)] 0 []
  have hn := hok.1
  refine x_iload_n C 1 dX6_ended_0 rfl rfl ?_
  refine x_if_ge C 8 dX6_ended_1 (by decide) (fun c_1 => ?_) (fun c_1 => ?_)
  ·
    refine x_aload_n C 0 dX6_ended_8 rfl rfl ?_
    refine x_getf C 0 rfl rfl i_kX6_ended_X6 0 (by decide) m_kX6_ended_1 rfl rfl dX6_ended_9 ?_
    refine x_getf C 1 rfl rfl i_kX6_ended_X4 4 (by decide) m_kX6_ended_3 rfl rfl dX6_ended_12 ?_
    refine x_iload_n C 1 dX6_ended_15 rfl rfl ?_
    refine x_callVRO C ([.int x]) ([]) [3, 7, 8, 9, 10, 11, 12] (k0 := 0) (na := 1) gX6_ended_X2_findEnded rfl (by decide +kernel) rfl rfl rfl (kX2_findEnded (xl cx) (xG cx) (nw 2) (nw 6) (nw 7) (nw 8) (nw 9) (nw 10) (nw 11) (sN N) (sA N 2) (sA N 3) (sA N 4) (sA N 5) (sA N 6) (sA N 7) x (by first | assumption | rfl | omega | decide)) rfl (by decide) rfl rfl rfl ⟨by decide, by decide⟩ (Nat.le_of_ble_eq_true rfl) ⟨by decide, by decide⟩ dX6_ended_16 ?_
    refine x_top (y := endN N x) (rfl) ?_
    refine x_istore_n C [(2, .int (endN N x)), (0, .ref x0), (1, .int x)] dX6_ended_19 rfl (by decide) rfl ?_
    refine x_iload_n C 0 dX6_ended_20 rfl rfl ?_
    refine x_iconst (v := (-1)) C dX6_ended_21 (by decide) ?_
    refine x_icmp_ne C 31 dX6_ended_22 (by decide) (fun c_22 => ?_) (fun c_22 => ?_)
    ·
      refine x_iload_n C 0 dX6_ended_31 rfl rfl ?_
      exact x_iret C E dX6_ended_32 (by simp [endS, c_1, c_22]) (rfl)
    ·
      refine x_sipush (v := (-1005)) C dX6_ended_25 (by decide) ?_
      refine x_goto (tgt := 32) C dX6_ended_28 (by decide) ?_
      exact x_iret C E dX6_ended_32 (by simp [endS, c_1, c_22]) (rfl)
  ·
    refine x_sipush (v := (-1002)) C dX6_ended_4 (by decide) ?_
    exact x_iret C E dX6_ended_7 (by simp [endS, c_1]) (rfl)

theorem i_kX6_lasts_X6 : ∀ w ∈ u_ws RX6 TX6 9, w ∈ wsX6_lasts := by decide +kernel
theorem m_kX6_lasts_1 : (Cond.fieldLink RX6 10 "LampRacks" "now" "LLampRacks$State;" : Cond) ∈ wsX6_lasts := by decide +kernel
theorem i_kX6_lasts_X4 : ∀ w ∈ u_ws RX4 TX4 6, w ∈ wsX6_lasts := by decide +kernel
theorem m_kX6_lasts_3 : (Cond.fieldLink RX6 127 "LampRacks$State" "lamps" "LLampRacks$Lamps;" : Cond) ∈ wsX6_lasts := by decide +kernel
theorem i_kX6_lasts_X2 : ∀ w ∈ u_ws RX2 TX2 7, w ∈ wsX6_lasts := by decide +kernel
theorem m_kX6_lasts_5 : (Cond.fieldLink RX6 176 "LampRacks$Lamps" "spot" "[I" : Cond) ∈ wsX6_lasts := by decide +kernel
set_option maxRecDepth 100000 in
set_option maxHeartbeats 4000000 in
theorem kX6_lasts (l : Launch) (G : GG) (x0 : Nat) (h0 : Nat) (t0 : Nat) (nw : Nat → Nat) (bf : Nat → Nat) (ah : Nat → Nat) (sn : Nat → Nat) (hk : Int32) (s1 : Int32) (s2 : Int32) (N : SC) (x : Int32) (v : Int32) (hok : okS N) : RO l G yX6_lasts wsX6_lasts ({ frames := 2, cells := 0, slots := 0, locals := 43 } : Room) [.ref x0, .int x, .int v] [(x0, .inr (6, [.ref (nw 0), .ref (bf 0), .ref (ah 0), .ref (sn 0), .int hk, .ref h0, .ref t0, .int s1, .int s2])), (nw 0, .inr (4, [.int (sHr N), .int (sWv N), .int (sDv N), .ref (nw 1), .ref (nw 2), .ref (nw 3)])), (nw 1, .inr (0, [.ref (nw 4), .ref (nw 5)])), (nw 2, .inr (2, [.int (nI (sN N)), .ref (nw 6), .ref (nw 7), .ref (nw 8), .ref (nw 9), .ref (nw 10), .ref (nw 11)])), (nw 3, .inr (3, [.ref (nw 12), .ref (nw 13), .ref (nw 14), .ref (nw 15), .ref (nw 16)])), (nw 4, .inl (G.2.1, 6, .inl (sA N 0))), (nw 5, .inl (G.2.1, 6, .inl (sA N 1))), (nw 6, .inl (G.2.1, 60, .inl (sA N 2))), (nw 7, .inl (G.2.1, 60, .inl (sA N 3))), (nw 8, .inl (G.2.1, 60, .inl (sA N 4))), (nw 9, .inl (G.2.1, 60, .inl (sA N 5))), (nw 10, .inl (G.2.1, 60, .inl (sA N 6))), (nw 11, .inl (G.2.1, 60, .inl (sA N 7))), (nw 12, .inl (G.2.1, 24, .inl (sA N 8))), (nw 13, .inl (G.2.1, 3, .inl (sA N 9))), (nw 14, .inl (G.2.1, 3, .inl (sA N 10))), (nw 15, .inl (G.2.1, 3, .inl (sA N 11))), (nw 16, .inl (G.2.1, 3, .inl (sA N 12)))] (.int (lstS N x v)) := by
  refine RO.of (cc := cX6_lasts) (maxL := 4) (ret := (some .int)) (by decide) rfl (Nat.le_of_ble_eq_true rfl) ?_
  intro cx hxl hxG C E
  subst hxl
  subst hxG
  show X cx (0, 0) [(x0, .inr (6, [.ref (nw 0), .ref (bf 0), .ref (ah 0), .ref (sn 0), .int hk, .ref h0, .ref t0, .int s1, .int s2])), (nw 0, .inr (4, [.int (sHr N), .int (sWv N), .int (sDv N), .ref (nw 1), .ref (nw 2), .ref (nw 3)])), (nw 1, .inr (0, [.ref (nw 4), .ref (nw 5)])), (nw 2, .inr (2, [.int (nI (sN N)), .ref (nw 6), .ref (nw 7), .ref (nw 8), .ref (nw 9), .ref (nw 10), .ref (nw 11)])), (nw 3, .inr (3, [.ref (nw 12), .ref (nw 13), .ref (nw 14), .ref (nw 15), .ref (nw 16)])), (nw 4, .inl ((xG cx).2.1, 6, .inl (sA N 0))), (nw 5, .inl ((xG cx).2.1, 6, .inl (sA N 1))), (nw 6, .inl ((xG cx).2.1, 60, .inl (sA N 2))), (nw 7, .inl ((xG cx).2.1, 60, .inl (sA N 3))), (nw 8, .inl ((xG cx).2.1, 60, .inl (sA N 4))), (nw 9, .inl ((xG cx).2.1, 60, .inl (sA N 5))), (nw 10, .inl ((xG cx).2.1, 60, .inl (sA N 6))), (nw 11, .inl ((xG cx).2.1, 60, .inl (sA N 7))), (nw 12, .inl ((xG cx).2.1, 24, .inl (sA N 8))), (nw 13, .inl ((xG cx).2.1, 3, .inl (sA N 9))), (nw 14, .inl ((xG cx).2.1, 3, .inl (sA N 10))), (nw 15, .inl ((xG cx).2.1, 3, .inl (sA N 11))), (nw 16, .inl ((xG cx).2.1, 3, .inl (sA N 12)))] [(0, .ref x0), (1, .int x), (2, .int v)] 0 []
  have hn := hok.1
  refine x_aload_n C 0 dX6_lasts_0 rfl rfl ?_
  refine x_getf C 0 rfl rfl i_kX6_lasts_X6 0 (by decide) m_kX6_lasts_1 rfl rfl dX6_lasts_1 ?_
  refine x_getf C 1 rfl rfl i_kX6_lasts_X4 4 (by decide) m_kX6_lasts_3 rfl rfl dX6_lasts_4 ?_
  refine x_iload_n C 1 dX6_lasts_7 rfl rfl ?_
  refine x_callVRO C ([.int x]) ([]) [3, 7, 8, 9, 10, 11, 12] (k0 := 0) (na := 1) gX6_lasts_X2_has rfl (by decide +kernel) rfl rfl rfl (kX2_has (xl cx) (xG cx) (nw 2) (nw 6) (nw 7) (nw 8) (nw 9) (nw 10) (nw 11) (sN N) (sA N 2) (sA N 3) (sA N 4) (sA N 5) (sA N 6) (sA N 7) x) rfl (by decide) rfl rfl rfl ⟨by decide, by decide⟩ (Nat.le_of_ble_eq_true rfl) ⟨by decide, by decide⟩ dX6_lasts_8 ?_
  refine x_ifb_ne (P := 0 ≤ x ∧ x ≤ nI (sN N) - 1) C 18 dX6_lasts_11 (by decide) (fun c_11 => ?_) (fun c_11 => ?_)
  ·
    refine x_iload_n C 2 dX6_lasts_18 rfl rfl ?_
    refine x_iconst (v := 1) C dX6_lasts_19 (by decide) ?_
    refine x_sipush (v := 300) C dX6_lasts_20 (by decide) ?_
    refine x_callSRO C ([.int v, .int 1, .int 300]) ([]) [] (na := 3) gX6_lasts_X6_isWithin rfl (by decide +kernel) rfl (kX6_isWithin (xl cx) (xG cx) v 1 300) rfl (by decide) rfl rfl rfl ⟨by decide, by decide⟩ (Nat.le_of_ble_eq_true rfl) ⟨by decide, by decide⟩ dX6_lasts_23 ?_
    refine x_ifb_ne (P := 1 ≤ v ∧ v ≤ 300) C 33 dX6_lasts_26 (by decide) (fun c_26 => ?_) (fun c_26 => ?_)
    ·
      obtain ⟨kx, h_kx, rfl⟩ := in_lamps hok.1 c_11
      refine x_aload_n C 0 dX6_lasts_33 rfl rfl ?_
      refine x_getf C 0 rfl rfl i_kX6_lasts_X6 0 (by decide) m_kX6_lasts_1 rfl rfl dX6_lasts_34 ?_
      refine x_getf C 1 rfl rfl i_kX6_lasts_X4 4 (by decide) m_kX6_lasts_3 rfl rfl dX6_lasts_37 ?_
      refine x_iload_n C 1 dX6_lasts_40 rfl rfl ?_
      refine x_callVRO C ([.int (nI kx)]) ([]) [3, 7, 8, 9, 10, 11, 12] (k0 := 0) (na := 1) gX6_lasts_X2_isDead rfl (by decide +kernel) rfl rfl rfl (kX2_isDead (xl cx) (xG cx) (nw 2) (nw 6) (nw 7) (nw 8) (nw 9) (nw 10) (nw 11) (sN N) (sA N 2) (sA N 3) (sA N 4) (sA N 5) (sA N 6) (sA N 7) kx (by first | assumption | rfl | omega | decide)) rfl (by decide) rfl rfl rfl ⟨by decide, by decide⟩ (Nat.le_of_ble_eq_true rfl) ⟨by decide, by decide⟩ dX6_lasts_41 ?_
      refine x_ifb_eq (P := (sA N 7) kx ≠ -1) C 51 dX6_lasts_44 (by decide) (fun c_44 => ?_) (fun c_44 => ?_)
      ·
        refine x_aload_n C 0 dX6_lasts_51 rfl rfl ?_
        refine x_getf C 0 rfl rfl i_kX6_lasts_X6 0 (by decide) m_kX6_lasts_1 rfl rfl dX6_lasts_52 ?_
        refine x_iload_n C 2 dX6_lasts_55 rfl rfl ?_
        refine x_aload_n C 0 dX6_lasts_56 rfl rfl ?_
        refine x_getf C 0 rfl rfl i_kX6_lasts_X6 0 (by decide) m_kX6_lasts_1 rfl rfl dX6_lasts_57 ?_
        refine x_getf C 1 rfl rfl i_kX6_lasts_X4 4 (by decide) m_kX6_lasts_3 rfl rfl dX6_lasts_60 ?_
        refine x_getf C 3 rfl rfl i_kX6_lasts_X2 2 (by decide) m_kX6_lasts_5 rfl rfl dX6_lasts_63 ?_
        refine x_iload_n C 1 dX6_lasts_66 rfl rfl ?_
        refine x_iald C 8 rfl rfl (vp_in_nI (by omega) (by decide)) (congrArg (sA N 3) (nI_clamp (by omega))) dX6_lasts_67 ?_
        refine x_callSRO C ([.int ((sA N 3) kx)]) ([.int v, .ref (nw 0)]) [] (na := 1) gX6_lasts_X6_isHot rfl (by decide +kernel) rfl (kX6_isHot (xl cx) (xG cx) ((sA N 3) kx)) rfl (by decide) rfl rfl rfl ⟨by decide, by decide⟩ (Nat.le_of_ble_eq_true rfl) ⟨by decide, by decide⟩ dX6_lasts_68 ?_
        refine x_callVRO C ([.int v, .int (b2i (((sA N 3) kx) ≠ -1 ∧ (3 ≤ ((sA N 3) kx) - ((sA N 3) kx) / 8 * 8 ∧ ((sA N 3) kx) - ((sA N 3) kx) / 8 * 8 ≤ 4)))]) ([]) [1, 2, 3, 4, 5, 6, 7, 8, 9, 10, 11, 12, 13, 14, 15, 16, 17] (k0 := 0) (na := 2) gX6_lasts_X4_wearOfHour rfl (by decide +kernel) rfl rfl rfl (kX4_wearOfHour (xl cx) (xG cx) nw N v (b2i (((sA N 3) kx) ≠ -1 ∧ (3 ≤ ((sA N 3) kx) - ((sA N 3) kx) / 8 * 8 ∧ ((sA N 3) kx) - ((sA N 3) kx) / 8 * 8 ≤ 4)))) rfl (by decide) rfl rfl rfl ⟨by decide, by decide⟩ (Nat.le_of_ble_eq_true rfl) ⟨by decide, by decide⟩ dX6_lasts_71 ?_
        refine x_istore_n C [(3, .int (wrH (sWv N) (sDv N) v (b2i (((sA N 3) kx) ≠ -1 ∧ (3 ≤ ((sA N 3) kx) - ((sA N 3) kx) / 8 * 8 ∧ ((sA N 3) kx) - ((sA N 3) kx) / 8 * 8 ≤ 4))))), (0, .ref x0), (1, .int (nI kx)), (2, .int v)] dX6_lasts_74 rfl (by decide) rfl ?_
        refine x_aload_n C 1 dX6_lasts_75 rfl rfl ?_
        refine x_getf C 0 rfl rfl i_kX6_lasts_X6 0 (by decide) m_kX6_lasts_1 rfl rfl dX6_lasts_76 ?_
        refine x_getf C 1 rfl rfl i_kX6_lasts_X4 4 (by decide) m_kX6_lasts_3 rfl rfl dX6_lasts_79 ?_
        refine x_iload_n C 2 dX6_lasts_82 rfl rfl ?_
        refine x_iload_n C 0 dX6_lasts_83 rfl rfl ?_
        refine x_callVRO C ([.int (nI kx), .int (wrH (sWv N) (sDv N) v (b2i (((sA N 3) kx) ≠ -1 ∧ (3 ≤ ((sA N 3) kx) - ((sA N 3) kx) / 8 * 8 ∧ ((sA N 3) kx) - ((sA N 3) kx) / 8 * 8 ≤ 4))))]) ([]) [3, 7, 8, 9, 10, 11, 12] (k0 := 0) (na := 2) gX6_lasts_X2_hoursLeft rfl (by decide +kernel) rfl rfl rfl (kX2_hoursLeft (xl cx) (xG cx) (nw 2) (nw 6) (nw 7) (nw 8) (nw 9) (nw 10) (nw 11) (sN N) (sA N 2) (sA N 3) (sA N 4) (sA N 5) (sA N 6) (sA N 7) kx (wrH (sWv N) (sDv N) v (b2i (((sA N 3) kx) ≠ -1 ∧ (3 ≤ ((sA N 3) kx) - ((sA N 3) kx) / 8 * 8 ∧ ((sA N 3) kx) - ((sA N 3) kx) / 8 * 8 ≤ 4)))) (by first | assumption | rfl | omega | decide)) rfl (by decide) rfl rfl rfl ⟨by decide, by decide⟩ (Nat.le_of_ble_eq_true rfl) ⟨by decide, by decide⟩ dX6_lasts_84 ?_
        refine x_top (y := hLf (sA N 4 kx) (sA N 5 kx) (wrH (sWv N) (sDv N) v (b2i (sA N 3 kx ≠ -1 ∧ (3 ≤ sA N 3 kx - sA N 3 kx / 8 * 8 ∧ sA N 3 kx - sA N 3 kx / 8 * 8 ≤ 4))))) (rfl) ?_
        exact x_iret C E dX6_lasts_87 (by simp [lstS, c_11, c_26, ix kx (by omega), c_44]) (rfl)
      ·
        refine x_sipush (v := (-1004)) C dX6_lasts_47 (by decide) ?_
        exact x_iret C E dX6_lasts_50 (by simp [lstS, c_11, c_26, ix kx (by omega), c_44]) (rfl)
    ·
      refine x_sipush (v := (-1002)) C dX6_lasts_29 (by decide) ?_
      exact x_iret C E dX6_lasts_32 (by simp [lstS, c_11, c_26]) (rfl)
  ·
    refine x_sipush (v := (-1001)) C dX6_lasts_14 (by decide) ?_
    exact x_iret C E dX6_lasts_17 (by simp [lstS, c_11]) (rfl)

theorem i_kX6_reason_X6 : ∀ w ∈ u_ws RX6 TX6 9, w ∈ wsX6_reason := by decide +kernel
theorem m_kX6_reason_1 : (Cond.fieldLink RX6 10 "LampRacks" "now" "LLampRacks$State;" : Cond) ∈ wsX6_reason := by decide +kernel
theorem i_kX6_reason_X4 : ∀ w ∈ u_ws RX4 TX4 6, w ∈ wsX6_reason := by decide +kernel
theorem m_kX6_reason_3 : (Cond.fieldLink RX6 127 "LampRacks$State" "lamps" "LLampRacks$Lamps;" : Cond) ∈ wsX6_reason := by decide +kernel
set_option maxRecDepth 100000 in
set_option maxHeartbeats 4000000 in
theorem kX6_reason (l : Launch) (G : GG) (x0 : Nat) (h0 : Nat) (t0 : Nat) (nw : Nat → Nat) (bf : Nat → Nat) (ah : Nat → Nat) (sn : Nat → Nat) (hk : Int32) (s1 : Int32) (s2 : Int32) (N : SC) (x : Int32) (hok : okS N) : RO l G yX6_reason wsX6_reason ({ frames := 2, cells := 0, slots := 0, locals := 43 } : Room) [.ref x0, .int x] [(x0, .inr (6, [.ref (nw 0), .ref (bf 0), .ref (ah 0), .ref (sn 0), .int hk, .ref h0, .ref t0, .int s1, .int s2])), (nw 0, .inr (4, [.int (sHr N), .int (sWv N), .int (sDv N), .ref (nw 1), .ref (nw 2), .ref (nw 3)])), (nw 1, .inr (0, [.ref (nw 4), .ref (nw 5)])), (nw 2, .inr (2, [.int (nI (sN N)), .ref (nw 6), .ref (nw 7), .ref (nw 8), .ref (nw 9), .ref (nw 10), .ref (nw 11)])), (nw 3, .inr (3, [.ref (nw 12), .ref (nw 13), .ref (nw 14), .ref (nw 15), .ref (nw 16)])), (nw 4, .inl (G.2.1, 6, .inl (sA N 0))), (nw 5, .inl (G.2.1, 6, .inl (sA N 1))), (nw 6, .inl (G.2.1, 60, .inl (sA N 2))), (nw 7, .inl (G.2.1, 60, .inl (sA N 3))), (nw 8, .inl (G.2.1, 60, .inl (sA N 4))), (nw 9, .inl (G.2.1, 60, .inl (sA N 5))), (nw 10, .inl (G.2.1, 60, .inl (sA N 6))), (nw 11, .inl (G.2.1, 60, .inl (sA N 7))), (nw 12, .inl (G.2.1, 24, .inl (sA N 8))), (nw 13, .inl (G.2.1, 3, .inl (sA N 9))), (nw 14, .inl (G.2.1, 3, .inl (sA N 10))), (nw 15, .inl (G.2.1, 3, .inl (sA N 11))), (nw 16, .inl (G.2.1, 3, .inl (sA N 12)))] (.int (rsnS N x)) := by
  refine RO.of (cc := cX6_reason) (maxL := 2) (ret := (some .int)) (by decide) rfl (Nat.le_of_ble_eq_true rfl) ?_
  intro cx hxl hxG C E
  subst hxl
  subst hxG
  show X cx (0, 0) [(x0, .inr (6, [.ref (nw 0), .ref (bf 0), .ref (ah 0), .ref (sn 0), .int hk, .ref h0, .ref t0, .int s1, .int s2])), (nw 0, .inr (4, [.int (sHr N), .int (sWv N), .int (sDv N), .ref (nw 1), .ref (nw 2), .ref (nw 3)])), (nw 1, .inr (0, [.ref (nw 4), .ref (nw 5)])), (nw 2, .inr (2, [.int (nI (sN N)), .ref (nw 6), .ref (nw 7), .ref (nw 8), .ref (nw 9), .ref (nw 10), .ref (nw 11)])), (nw 3, .inr (3, [.ref (nw 12), .ref (nw 13), .ref (nw 14), .ref (nw 15), .ref (nw 16)])), (nw 4, .inl ((xG cx).2.1, 6, .inl (sA N 0))), (nw 5, .inl ((xG cx).2.1, 6, .inl (sA N 1))), (nw 6, .inl ((xG cx).2.1, 60, .inl (sA N 2))), (nw 7, .inl ((xG cx).2.1, 60, .inl (sA N 3))), (nw 8, .inl ((xG cx).2.1, 60, .inl (sA N 4))), (nw 9, .inl ((xG cx).2.1, 60, .inl (sA N 5))), (nw 10, .inl ((xG cx).2.1, 60, .inl (sA N 6))), (nw 11, .inl ((xG cx).2.1, 60, .inl (sA N 7))), (nw 12, .inl ((xG cx).2.1, 24, .inl (sA N 8))), (nw 13, .inl ((xG cx).2.1, 3, .inl (sA N 9))), (nw 14, .inl ((xG cx).2.1, 3, .inl (sA N 10))), (nw 15, .inl ((xG cx).2.1, 3, .inl (sA N 11))), (nw 16, .inl ((xG cx).2.1, 3, .inl (sA N 12)))] [(0, .ref x0), (1, .int x)] 0 []
  have hn := hok.1
  refine x_aload_n C 0 dX6_reason_0 rfl rfl ?_
  refine x_getf C 0 rfl rfl i_kX6_reason_X6 0 (by decide) m_kX6_reason_1 rfl rfl dX6_reason_1 ?_
  refine x_getf C 1 rfl rfl i_kX6_reason_X4 4 (by decide) m_kX6_reason_3 rfl rfl dX6_reason_4 ?_
  refine x_iload_n C 1 dX6_reason_7 rfl rfl ?_
  refine x_callVRO C ([.int x]) ([]) [3, 7, 8, 9, 10, 11, 12] (k0 := 0) (na := 1) gX6_reason_X2_has rfl (by decide +kernel) rfl rfl rfl (kX2_has (xl cx) (xG cx) (nw 2) (nw 6) (nw 7) (nw 8) (nw 9) (nw 10) (nw 11) (sN N) (sA N 2) (sA N 3) (sA N 4) (sA N 5) (sA N 6) (sA N 7) x) rfl (by decide) rfl rfl rfl ⟨by decide, by decide⟩ (Nat.le_of_ble_eq_true rfl) ⟨by decide, by decide⟩ dX6_reason_8 ?_
  refine x_ifb_ne (P := 0 ≤ x ∧ x ≤ nI (sN N) - 1) C 18 dX6_reason_11 (by decide) (fun c_11 => ?_) (fun c_11 => ?_)
  ·
    obtain ⟨kx, h_kx, rfl⟩ := in_lamps hok.1 c_11
    refine x_aload_n C 0 dX6_reason_18 rfl rfl ?_
    refine x_getf C 0 rfl rfl i_kX6_reason_X6 0 (by decide) m_kX6_reason_1 rfl rfl dX6_reason_19 ?_
    refine x_iload_n C 1 dX6_reason_22 rfl rfl ?_
    refine x_callVRO C ([.int (nI kx)]) ([]) [1, 2, 3, 4, 5, 6, 7, 8, 9, 10, 11, 12, 13, 14, 15, 16, 17] (k0 := 0) (na := 1) gX6_reason_X4_whyDark rfl (by decide +kernel) rfl rfl rfl (kX4_whyDark (xl cx) (xG cx) nw N kx (by first | assumption | rfl | omega | decide) (by first | assumption | rfl | omega | decide)) rfl (by decide) rfl rfl rfl ⟨by decide, by decide⟩ (Nat.le_of_ble_eq_true rfl) ⟨by decide, by decide⟩ dX6_reason_23 ?_
    exact x_iret C E dX6_reason_26 (by simp [rsnS, c_11, ix kx (by omega)]) (rfl)
  ·
    refine x_sipush (v := (-1001)) C dX6_reason_14 (by decide) ?_
    exact x_iret C E dX6_reason_17 (by simp [rsnS, c_11]) (rfl)

theorem i_kX6_stopped_X6 : ∀ w ∈ u_ws RX6 TX6 9, w ∈ wsX6_stopped := by decide +kernel
theorem m_kX6_stopped_1 : (Cond.fieldLink RX6 47 "LampRacks" "stoppedError" "I" : Cond) ∈ wsX6_stopped := by decide +kernel
theorem m_kX6_stopped_2 : (Cond.fieldLink RX6 43 "LampRacks" "stoppedThing" "I" : Cond) ∈ wsX6_stopped := by decide +kernel
set_option maxRecDepth 100000 in
set_option maxHeartbeats 4000000 in
theorem kX6_stopped (l : Launch) (G : GG) (x0 : Nat) (h0 : Nat) (t0 : Nat) (nw : Nat → Nat) (bf : Nat → Nat) (ah : Nat → Nat) (sn : Nat → Nat) (hk : Int32) (s1 : Int32) (s2 : Int32) (w : Int32)  : RO l G yX6_stopped wsX6_stopped ({ frames := 1, cells := 0, slots := 0, locals := 22 } : Room) [.ref x0, .int w] [(x0, .inr (6, [.ref (nw 0), .ref (bf 0), .ref (ah 0), .ref (sn 0), .int hk, .ref h0, .ref t0, .int s1, .int s2]))] (.int (stpS s1 s2 w)) := by
  refine RO.of (cc := cX6_stopped) (maxL := 2) (ret := (some .int)) (by decide) rfl (Nat.le_of_ble_eq_true rfl) ?_
  intro cx hxl hxG C E
  subst hxl
  subst hxG
  show X cx (0, 0) [(x0, .inr (6, [.ref (nw 0), .ref (bf 0), .ref (ah 0), .ref (sn 0), .int hk, .ref h0, .ref t0, .int s1, .int s2]))] [(0, .ref x0), (1, .int w)] 0 []
  refine x_iload_n C 1 dX6_stopped_0 rfl rfl ?_
  refine x_iconst (v := 0) C dX6_stopped_1 (by decide) ?_
  refine x_iconst (v := 1) C dX6_stopped_2 (by decide) ?_
  refine x_callSRO C ([.int w, .int 0, .int 1]) ([]) [] (na := 3) gX6_stopped_X6_isWithin rfl (by decide +kernel) rfl (kX6_isWithin (xl cx) (xG cx) w 0 1) rfl (by decide) rfl rfl rfl ⟨by decide, by decide⟩ (Nat.le_of_ble_eq_true rfl) ⟨by decide, by decide⟩ dX6_stopped_3 ?_
  refine x_ifb_ne (P := 0 ≤ w ∧ w ≤ 1) C 13 dX6_stopped_6 (by decide) (fun c_6 => ?_) (fun c_6 => ?_)
  ·
    refine x_aload_n C 0 dX6_stopped_13 rfl rfl ?_
    refine x_getf C 0 rfl rfl i_kX6_stopped_X6 8 (by decide) m_kX6_stopped_1 rfl rfl dX6_stopped_14 ?_
    refine x_if_ne C 24 dX6_stopped_17 (by decide) (fun c_17 => ?_) (fun c_17 => ?_)
    ·
      refine x_iload_n C 1 dX6_stopped_24 rfl rfl ?_
      refine x_if_ne C 35 dX6_stopped_25 (by decide) (fun c_25 => ?_) (fun c_25 => ?_)
      ·
        refine x_aload_n C 0 dX6_stopped_35 rfl rfl ?_
        refine x_getf C 0 rfl rfl i_kX6_stopped_X6 8 (by decide) m_kX6_stopped_1 rfl rfl dX6_stopped_36 ?_
        exact x_iret C E dX6_stopped_39 (by simp [stpS, c_6, c_17, c_25]) (rfl)
      ·
        refine x_aload_n C 0 dX6_stopped_28 rfl rfl ?_
        refine x_getf C 0 rfl rfl i_kX6_stopped_X6 7 (by decide) m_kX6_stopped_2 rfl rfl dX6_stopped_29 ?_
        refine x_goto (tgt := 39) C dX6_stopped_32 (by decide) ?_
        exact x_iret C E dX6_stopped_39 (by simp [stpS, c_6, c_17, c_25]) (rfl)
    ·
      refine x_sipush (v := (-1005)) C dX6_stopped_20 (by decide) ?_
      exact x_iret C E dX6_stopped_23 (by simp [stpS, c_6, c_17]) (rfl)
  ·
    refine x_sipush (v := (-1002)) C dX6_stopped_9 (by decide) ?_
    exact x_iret C E dX6_stopped_12 (by simp [stpS, c_6]) (rfl)
