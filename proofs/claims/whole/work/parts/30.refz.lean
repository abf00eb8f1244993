/-! the reference: its numbers z, by lamps and racks -/
abbrev zl (z : Nat → Int32) (k w : Nat) : Int32 := z (28 + 8 * k + w)
abbrev zr (z : Nat → Int32) (r w : Nat) : Int32 := z (16 + 4 * r + w)
/-- the last lamp of the first n at a place -/
def lat (z : Nat → Int32) (r p : Int32) : Nat → Int32
  | 0 => -1005
  | k + 1 => if zl z k 1 = r ∧ zl z k 2 = p then nI k else lat z r p k
theorem lat_s (z : Nat → Int32) (r p : Int32) (k : Nat) : lat z r p (k + 1) = if zl z k 1 = r ∧ zl z k 2 = p then nI k else lat z r p k := rfl
def wA (z : Nat → Int32) (v h : Int32) : Int32 := if h = 0 then (if 1 ≤ 10 + 10 * (v - z 0) / z 1 then 10 + 10 * (v - z 0) / z 1 else 1) else (if 1 ≤ 10 + 10 * (v - z 0) / z 1 then 10 + 10 * (v - z 0) / z 1 else 1) + (if 1 ≤ 10 + 10 * (v - z 0) / z 1 then 10 + 10 * (v - z 0) / z 1 else 1) / 10
def brn (z : Nat → Int32) (k : Nat) : Prop := zl z k 6 = -1005 ∧ (zl z k 1 ≠ -1005 ∧ 0 < zr z (ixz (zl z k 1)) 0)

set_option maxRecDepth 100000 in
set_option maxHeartbeats 4000000 in
theorem kX7_in (l : Launch) (G : GG) (x : Int32) (lo : Int32) (hi : Int32)  : RO l G yX7_in wsX7_in ({ frames := 0, cells := 0, slots := 0, locals := 0 } : Room) [.int x, .int lo, .int hi] [] (.int (b2i (lo ≤ x ∧ x ≤ hi))) := by
  refine RO.of (cc := cX7_in) (maxL := 3) (ret := (some .boolean)) (by decide) rfl (Nat.le_of_ble_eq_true rfl) ?_
  intro cx hxl hxG C E
  subst hxl
  subst hxG
  show X cx (0, 0) [] [(0, .int x), (1, .int lo), (2, .int hi)] 0 []
  refine x_iload_n C 0 dX7_in_0 rfl rfl ?_
  refine x_iload_n C 1 dX7_in_1 rfl rfl ?_
  refine x_icmp_lt C 14 dX7_in_2 (by decide) (fun c_2 => ?_) (fun c_2 => ?_)
  ·
    refine x_iconst (v := 0) C dX7_in_14 (by decide) ?_
    exact x_zret C E dX7_in_15 (by first | (symm; first | (apply b2i_t; grind) | (apply b2i_f; grind))) (rfl)
  ·
    refine x_iload_n C 0 dX7_in_5 rfl rfl ?_
    refine x_iload_n C 2 dX7_in_6 rfl rfl ?_
    refine x_icmp_gt C 14 dX7_in_7 (by decide) (fun c_7 => ?_) (fun c_7 => ?_)
    ·
      refine x_iconst (v := 0) C dX7_in_14 (by decide) ?_
      exact x_zret C E dX7_in_15 (by first | (symm; first | (apply b2i_t; grind) | (apply b2i_f; grind))) (rfl)
    ·
      refine x_iconst (v := 1) C dX7_in_10 (by decide) ?_
      refine x_goto (tgt := 15) C dX7_in_11 (by decide) ?_
      exact x_zret C E dX7_in_15 (by first | (symm; first | (apply b2i_t; grind) | (apply b2i_f; grind))) (rfl)

set_option maxRecDepth 100000 in
set_option maxHeartbeats 4000000 in
theorem kX7_isRack (l : Launch) (G : GG) (x : Int32)  : RO l G yX7_isRack wsX7_isRack ({ frames := 1, cells := 0, slots := 0, locals := 22 } : Room) [.int x] [] (.int (b2i (0 ≤ x ∧ x ≤ 2))) := by
  refine RO.of (cc := cX7_isRack) (maxL := 1) (ret := (some .boolean)) (by decide) rfl (Nat.le_of_ble_eq_true rfl) ?_
  intro cx hxl hxG C E
  subst hxl
  subst hxG
  show X cx (0, 0) [] [(0, .int x)] 0 []
  refine x_iload_n C 0 dX7_isRack_0 rfl rfl ?_
  refine x_iconst (v := 0) C dX7_isRack_1 (by decide) ?_
  refine x_iconst (v := 2) C dX7_isRack_2 (by decide) ?_
  refine x_callSRO C ([.int x, .int 0, .int 2]) ([]) [] (na := 3) gX7_isRack_X7_in rfl (by decide +kernel) rfl (kX7_in (xl cx) (xG cx) x 0 2) rfl (by decide) rfl rfl rfl ⟨by decide, by decide⟩ (Nat.le_of_ble_eq_true rfl) ⟨by decide, by decide⟩ dX7_isRack_3 ?_
  exact x_zret C E dX7_isRack_6 (rfl) (rfl)

set_option maxRecDepth 100000 in
set_option maxHeartbeats 4000000 in
theorem kX7_isPlace (l : Launch) (G : GG) (x : Int32)  : RO l G yX7_isPlace wsX7_isPlace ({ frames := 1, cells := 0, slots := 0, locals := 22 } : Room) [.int x] [] (.int (b2i (0 ≤ x ∧ x ≤ 7))) := by
  refine RO.of (cc := cX7_isPlace) (maxL := 1) (ret := (some .boolean)) (by decide) rfl (Nat.le_of_ble_eq_true rfl) ?_
  intro cx hxl hxG C E
  subst hxl
  subst hxG
  show X cx (0, 0) [] [(0, .int x)] 0 []
  refine x_iload_n C 0 dX7_isPlace_0 rfl rfl ?_
  refine x_iconst (v := 0) C dX7_isPlace_1 (by decide) ?_
  refine x_bipush (v := 7) C dX7_isPlace_2 (by decide) ?_
  refine x_callSRO C ([.int x, .int 0, .int 7]) ([]) [] (na := 3) gX7_isPlace_X7_in rfl (by decide +kernel) rfl (kX7_in (xl cx) (xG cx) x 0 7) rfl (by decide) rfl rfl rfl ⟨by decide, by decide⟩ (Nat.le_of_ble_eq_true rfl) ⟨by decide, by decide⟩ dX7_isPlace_4 ?_
  exact x_zret C E dX7_isPlace_7 (rfl) (rfl)

set_option maxRecDepth 100000 in
set_option maxHeartbeats 4000000 in
theorem kX7_isBatch (l : Launch) (G : GG) (x : Int32)  : RO l G yX7_isBatch wsX7_isBatch ({ frames := 1, cells := 0, slots := 0, locals := 22 } : Room) [.int x] [] (.int (b2i (0 ≤ x ∧ x ≤ 5))) := by
  refine RO.of (cc := cX7_isBatch) (maxL := 1) (ret := (some .boolean)) (by decide) rfl (Nat.le_of_ble_eq_true rfl) ?_
  intro cx hxl hxG C E
  subst hxl
  subst hxG
  show X cx (0, 0) [] [(0, .int x)] 0 []
  refine x_iload_n C 0 dX7_isBatch_0 rfl rfl ?_
  refine x_iconst (v := 0) C dX7_isBatch_1 (by decide) ?_
  refine x_iconst (v := 5) C dX7_isBatch_2 (by decide) ?_
  refine x_callSRO C ([.int x, .int 0, .int 5]) ([]) [] (na := 3) gX7_isBatch_X7_in rfl (by decide +kernel) rfl (kX7_in (xl cx) (xG cx) x 0 5) rfl (by decide) rfl rfl rfl ⟨by decide, by decide⟩ (Nat.le_of_ble_eq_true rfl) ⟨by decide, by decide⟩ dX7_isBatch_3 ?_
  exact x_zret C E dX7_isBatch_6 (rfl) (rfl)

theorem i_kX7_isLamp_X7 : ∀ w ∈ u_ws RX7 TX7 13, w ∈ wsX7_isLamp := by decide +kernel
theorem m_kX7_isLamp_1 : (Cond.fieldLink RX7 7 "LampRacksModel" "z" "[I" : Cond) ∈ wsX7_isLamp := by decide +kernel
set_option maxRecDepth 100000 in
set_option maxHeartbeats 4000000 in
theorem kX7_isLamp (l : Launch) (G : GG) (m : Nat) (w1 : Nat) (w2 : Nat) (w3 : Nat) (w4 : Nat) (w5 : Nat) (w6 : Nat) (ns : Nat) (ln : Nat) (tm : Nat) (sp : Nat) (ik : Int32) (e1 : Int32) (e2 : Int32) (z : Nat → Int32) (x : Int32)  : RO l G yX7_isLamp wsX7_isLamp ({ frames := 1, cells := 0, slots := 0, locals := 22 } : Room) [.ref m, .int x] [(m, .inr (7, [.ref w1, .ref w2, .ref w3, .int (nI ns), .ref w4, .int ik, .ref w5, .int (nI ln), .int e1, .int e2, .ref w6, .int (nI tm), .int (nI sp)])), (w1, .inl (G.2.1, 508, .inl z))] (.int (b2i (0 ≤ x ∧ x ≤ z 3 - 1))) := by
  refine RO.of (cc := cX7_isLamp) (maxL := 2) (ret := (some .boolean)) (by decide) rfl (Nat.le_of_ble_eq_true rfl) ?_
  intro cx hxl hxG C E
  subst hxl
  subst hxG
  show X cx (0, 0) [(m, .inr (7, [.ref w1, .ref w2, .ref w3, .int (nI ns), .ref w4, .int ik, .ref w5, .int (nI ln), .int e1, .int e2, .ref w6, .int (nI tm), .int (nI sp)])), (w1, .inl ((xG cx).2.1, 508, .inl z))] [(0, .ref m), (1, .int x)] 0 []
  refine x_iload_n C 1 dX7_isLamp_0 rfl rfl ?_
  refine x_iconst (v := 0) C dX7_isLamp_1 (by decide) ?_
  refine x_aload_n C 0 dX7_isLamp_2 rfl rfl ?_
  refine x_getf C 0 rfl rfl i_kX7_isLamp_X7 0 (by decide) m_kX7_isLamp_1 rfl rfl dX7_isLamp_3 ?_
  refine x_iconst (v := 3) C dX7_isLamp_6 (by decide) ?_
  refine x_iald C 1 rfl rfl (vp_in_nI (n := 3) (by decide) (by decide)) (congrArg z (nI_clamp (n := 3) (by decide))) dX7_isLamp_7 ?_
  refine x_iconst (v := 1) C dX7_isLamp_8 (by decide) ?_
  refine x_isub C (rfl) dX7_isLamp_9 ?_
  refine x_callSRO C ([.int x, .int 0, .int ((z 3) - 1)]) ([]) [] (na := 3) gX7_isLamp_X7_in rfl (by decide +kernel) rfl (kX7_in (xl cx) (xG cx) x 0 ((z 3) - 1)) rfl (by decide) rfl rfl rfl ⟨by decide, by decide⟩ (Nat.le_of_ble_eq_true rfl) ⟨by decide, by decide⟩ dX7_isLamp_10 ?_
  exact x_zret C E dX7_isLamp_13 (rfl) (rfl)

theorem i_kX7_of_X7 : ∀ w ∈ u_ws RX7 TX7 13, w ∈ wsX7_of := by decide +kernel
theorem m_kX7_of_1 : (Cond.fieldLink RX7 7 "LampRacksModel" "z" "[I" : Cond) ∈ wsX7_of := by decide +kernel
set_option maxRecDepth 100000 in
set_option maxHeartbeats 4000000 in
theorem kX7_of (l : Launch) (G : GG) (m : Nat) (w1 : Nat) (w2 : Nat) (w3 : Nat) (w4 : Nat) (w5 : Nat) (w6 : Nat) (ns : Nat) (ln : Nat) (tm : Nat) (sp : Nat) (ik : Int32) (e1 : Int32) (e2 : Int32) (z : Nat → Int32) (k : Nat) (w : Nat) (hk : k < 60) (hw : w < 8) : RO l G yX7_of wsX7_of ({ frames := 0, cells := 0, slots := 0, locals := 0 } : Room) [.ref m, .int (nI k), .int (nI w)] [(m, .inr (7, [.ref w1, .ref w2, .ref w3, .int (nI ns), .ref w4, .int ik, .ref w5, .int (nI ln), .int e1, .int e2, .ref w6, .int (nI tm), .int (nI sp)])), (w1, .inl (G.2.1, 508, .inl z))] (.int (zl z k w)) := by
  refine RO.of (cc := cX7_of) (maxL := 3) (ret := (some .int)) (by decide) rfl (Nat.le_of_ble_eq_true rfl) ?_
  intro cx hxl hxG C E
  subst hxl
  subst hxG
  show X cx (0, 0) [(m, .inr (7, [.ref w1, .ref w2, .ref w3, .int (nI ns), .ref w4, .int ik, .ref w5, .int (nI ln), .int e1, .int e2, .ref w6, .int (nI tm), .int (nI sp)])), (w1, .inl ((xG cx).2.1, 508, .inl z))] [(0, .ref m), (1, .int (nI k)), (2, .int (nI w))] 0 []
  refine x_aload_n C 0 dX7_of_0 rfl rfl ?_
  refine x_getf C 0 rfl rfl i_kX7_of_X7 0 (by decide) m_kX7_of_1 rfl rfl dX7_of_1 ?_
  refine x_bipush (v := 28) C dX7_of_4 (by decide) ?_
  refine x_bipush (v := 8) C dX7_of_6 (by decide) ?_
  refine x_iload_n C 1 dX7_of_8 rfl rfl ?_
  refine x_imul C (pk_mul 8 k) dX7_of_9 ?_
  refine x_iadd C (nI_add 28 (8 * k)) dX7_of_10 ?_
  refine x_iload_n C 2 dX7_of_11 rfl rfl ?_
  refine x_iadd C (nI_add (28 + (8 * k)) w) dX7_of_12 ?_
  refine x_iald C 1 rfl rfl (vp_in_nI (by omega) (by decide)) (congrArg z (nI_clamp (by omega))) dX7_of_13 ?_
  exact x_iret C E dX7_of_14 (rfl) (rfl)

theorem i_kX7_lay_X7 : ∀ w ∈ u_ws RX7 TX7 13, w ∈ wsX7_lay := by decide +kernel
theorem m_kX7_lay_1 : (Cond.fieldLink RX7 7 "LampRacksModel" "z" "[I" : Cond) ∈ wsX7_lay := by decide +kernel
set_option maxRecDepth 100000 in
set_option maxHeartbeats 4000000 in
theorem kX7_lay (l : Launch) (G : GG) (m : Nat) (w1 : Nat) (w2 : Nat) (w3 : Nat) (w4 : Nat) (w5 : Nat) (w6 : Nat) (ns : Nat) (ln : Nat) (tm : Nat) (sp : Nat) (ik : Int32) (e1 : Int32) (e2 : Int32) (z : Nat → Int32) (k : Nat) (w : Nat) (v : Int32) (hk : k < 60) (hw : w < 8) : MU l G yX7_lay wsX7_lay ({ frames := 0, cells := 0, slots := 0, locals := 0 } : Room) [.ref m, .int (nI k), .int (nI w), .int v] [(m, .inr (7, [.ref w1, .ref w2, .ref w3, .int (nI ns), .ref w4, .int ik, .ref w5, .int (nI ln), .int e1, .int e2, .ref w6, .int (nI tm), .int (nI sp)])), (w1, .inl (G.2.1, 508, .inl z))] none [(m, .inr (7, [.ref w1, .ref w2, .ref w3, .int (nI ns), .ref w4, .int ik, .ref w5, .int (nI ln), .int e1, .int e2, .ref w6, .int (nI tm), .int (nI sp)])), (w1, .inl (G.2.1, 508, .inl (upd z (28 + 8 * k + w) v)))] := by
  refine MU.of (cc := cX7_lay) (maxL := 4) (ret := none) (by decide) rfl (Nat.le_of_ble_eq_true rfl) ?_
  intro cx hxl hxG C M E
  subst hxl
  subst hxG
  show X cx (0, 0) [(m, .inr (7, [.ref w1, .ref w2, .ref w3, .int (nI ns), .ref w4, .int ik, .ref w5, .int (nI ln), .int e1, .int e2, .ref w6, .int (nI tm), .int (nI sp)])), (w1, .inl ((xG cx).2.1, 508, .inl z))] [(0, .ref m), (1, .int (nI k)), (2, .int (nI w)), (3, .int v)] 0 []
  refine x_aload_n C 0 dX7_lay_0 rfl rfl ?_
  refine x_getf C 0 rfl rfl i_kX7_lay_X7 0 (by decide) m_kX7_lay_1 rfl rfl dX7_lay_1 ?_
  refine x_bipush (v := 28) C dX7_lay_4 (by decide) ?_
  refine x_bipush (v := 8) C dX7_lay_6 (by decide) ?_
  refine x_iload_n C 1 dX7_lay_8 rfl rfl ?_
  refine x_imul C (pk_mul 8 k) dX7_lay_9 ?_
  refine x_iadd C (nI_add 28 (8 * k)) dX7_lay_10 ?_
  refine x_iload_n C 2 dX7_lay_11 rfl rfl ?_
  refine x_iadd C (nI_add (28 + (8 * k)) w) dX7_lay_12 ?_
  refine x_iload_n C 3 dX7_lay_13 rfl rfl ?_
  refine x_iast C M 1 rfl rfl (vp_in_nI (by omega) (by decide)) (nI_clamp (by omega)) [(m, .inr (7, [.ref w1, .ref w2, .ref w3, .int (nI ns), .ref w4, .int ik, .ref w5, .int (nI ln), .int e1, .int e2, .ref w6, .int (nI tm), .int (nI sp)])), (w1, .inl ((xG cx).2.1, 508, .inl (upd z ((28 + (8 * k)) + w) v)))] rfl dX7_lay_14 ?_
  exact x_vret C E dX7_lay_15 (rfl)

theorem i_kX7_ofRack_X7 : ∀ w ∈ u_ws RX7 TX7 13, w ∈ wsX7_ofRack := by decide +kernel
theorem m_kX7_ofRack_1 : (Cond.fieldLink RX7 7 "LampRacksModel" "z" "[I" : Cond) ∈ wsX7_ofRack := by decide +kernel
set_option maxRecDepth 100000 in
set_option maxHeartbeats 4000000 in
theorem kX7_ofRack (l : Launch) (G : GG) (m : Nat) (w1 : Nat) (w2 : Nat) (w3 : Nat) (w4 : Nat) (w5 : Nat) (w6 : Nat) (ns : Nat) (ln : Nat) (tm : Nat) (sp : Nat) (ik : Int32) (e1 : Int32) (e2 : Int32) (z : Nat → Int32) (r : Nat) (w : Nat) (hr : r < 3) (hw : w < 4) : RO l G yX7_ofRack wsX7_ofRack ({ frames := 0, cells := 0, slots := 0, locals := 0 } : Room) [.ref m, .int (nI r), .int (nI w)] [(m, .inr (7, [.ref w1, .ref w2, .ref w3, .int (nI ns), .ref w4, .int ik, .ref w5, .int (nI ln), .int e1, .int e2, .ref w6, .int (nI tm), .int (nI sp)])), (w1, .inl (G.2.1, 508, .inl z))] (.int (zr z r w)) := by
  refine RO.of (cc := cX7_ofRack) (maxL := 3) (ret := (some .int)) (by decide) rfl (Nat.le_of_ble_eq_true rfl) ?_
  intro cx hxl hxG C E
  subst hxl
  subst hxG
  show X cx (0, 0) [(m, .inr (7, [.ref w1, .ref w2, .ref w3, .int (nI ns), .ref w4, .int ik, .ref w5, .int (nI ln), .int e1, .int e2, .ref w6, .int (nI tm), .int (nI sp)])), (w1, .inl ((xG cx).2.1, 508, .inl z))] [(0, .ref m), (1, .int (nI r)), (2, .int (nI w))] 0 []
  refine x_aload_n C 0 dX7_ofRack_0 rfl rfl ?_
  refine x_getf C 0 rfl rfl i_kX7_ofRack_X7 0 (by decide) m_kX7_ofRack_1 rfl rfl dX7_ofRack_1 ?_
  refine x_bipush (v := 16) C dX7_ofRack_4 (by decide) ?_
  refine x_iconst (v := 4) C dX7_ofRack_6 (by decide) ?_
  refine x_iload_n C 1 dX7_ofRack_7 rfl rfl ?_
  refine x_imul C (pk_mul 4 r) dX7_ofRack_8 ?_
  refine x_iadd C (nI_add 16 (4 * r)) dX7_ofRack_9 ?_
  refine x_iload_n C 2 dX7_ofRack_10 rfl rfl ?_
  refine x_iadd C (nI_add (16 + (4 * r)) w) dX7_ofRack_11 ?_
  refine x_iald C 1 rfl rfl (vp_in_nI (by omega) (by decide)) (congrArg z (nI_clamp (by omega))) dX7_ofRack_12 ?_
  exact x_iret C E dX7_ofRack_13 (rfl) (rfl)

set_option maxRecDepth 100000 in
set_option maxHeartbeats 4000000 in
theorem kX7_isDead (l : Launch) (G : GG) (m : Nat) (w1 : Nat) (w2 : Nat) (w3 : Nat) (w4 : Nat) (w5 : Nat) (w6 : Nat) (ns : Nat) (ln : Nat) (tm : Nat) (sp : Nat) (ik : Int32) (e1 : Int32) (e2 : Int32) (z : Nat → Int32) (k : Nat) (hk : k < 60) : RO l G yX7_isDead wsX7_isDead ({ frames := 1, cells := 0, slots := 0, locals := 22 } : Room) [.ref m, .int (nI k)] [(m, .inr (7, [.ref w1, .ref w2, .ref w3, .int (nI ns), .ref w4, .int ik, .ref w5, .int (nI ln), .int e1, .int e2, .ref w6, .int (nI tm), .int (nI sp)])), (w1, .inl (G.2.1, 508, .inl z))] (.int (b2i (zl z k 6 ≠ -1005))) := by
  refine RO.of (cc := cX7_isDead) (maxL := 2) (ret := (some .boolean)) (by decide) rfl (Nat.le_of_ble_eq_true rfl) ?_
  intro cx hxl hxG C E
  subst hxl
  subst hxG
  show X cx (0, 0) [(m, .inr (7, [.ref w1, .ref w2, .ref w3, .int (nI ns), .ref w4, .int ik, .ref w5, .int (nI ln), .int e1, .int e2, .ref w6, .int (nI tm), .int (nI sp)])), (w1, .inl ((xG cx).2.1, 508, .inl z))] [(0, .ref m), (1, .int (nI k))] 0 []
  refine x_aload_n C 0 dX7_isDead_0 rfl rfl ?_
  refine x_iload_n C 1 dX7_isDead_1 rfl rfl ?_
  refine x_bipush (v := 6) C dX7_isDead_2 (by decide) ?_
  refine x_callVRO C ([.int (nI k), .int 6]) ([]) [0, 1] (k0 := 0) (na := 2) gX7_isDead_X7_of rfl (by decide +kernel) rfl rfl rfl (kX7_of (xl cx) (xG cx) m w1 w2 w3 w4 w5 w6 ns ln tm sp ik e1 e2 z k 6 (by first | assumption | rfl | omega | decide) (by first | assumption | rfl | omega | decide)) rfl (by decide) rfl rfl rfl ⟨by decide, by decide⟩ (Nat.le_of_ble_eq_true rfl) ⟨by decide, by decide⟩ dX7_isDead_4 ?_
  refine x_sipush (v := (-1005)) C dX7_isDead_7 (by decide) ?_
  refine x_icmp_eq C 17 dX7_isDead_10 (by decide) (fun c_10 => ?_) (fun c_10 => ?_)
  ·
    refine x_iconst (v := 0) C dX7_isDead_17 (by decide) ?_
    exact x_zret C E dX7_isDead_18 (by first | (symm; first | (apply b2i_t; grind) | (apply b2i_f; grind))) (rfl)
  ·
    refine x_iconst (v := 1) C dX7_isDead_13 (by decide) ?_
    refine x_goto (tgt := 18) C dX7_isDead_14 (by decide) ?_
    exact x_zret C E dX7_isDead_18 (by first | (symm; first | (apply b2i_t; grind) | (apply b2i_f; grind))) (rfl)

theorem i_kX7_lampAt_X7 : ∀ w ∈ u_ws RX7 TX7 13, w ∈ wsX7_lampAt := by decide +kernel
theorem m_kX7_lampAt_1 : (Cond.fieldLink RX7 7 "LampRacksModel" "z" "[I" : Cond) ∈ wsX7_lampAt := by decide +kernel
set_option maxRecDepth 100000 in
set_option maxHeartbeats 4000000 in
theorem kX7_lampAt (l : Launch) (G : GG) (m : Nat) (w1 : Nat) (w2 : Nat) (w3 : Nat) (w4 : Nat) (w5 : Nat) (w6 : Nat) (ns : Nat) (ln : Nat) (tm : Nat) (sp : Nat) (ik : Int32) (e1 : Int32) (e2 : Int32) (z : Nat → Int32) (n : Nat) (r : Int32) (p : Int32) (hn : n ≤ 60) (hz3 : z 3 = nI n) : RO l G yX7_lampAt wsX7_lampAt ({ frames := 1, cells := 0, slots := 0, locals := 22 } : Room) [.ref m, .int r, .int p] [(m, .inr (7, [.ref w1, .ref w2, .ref w3, .int (nI ns), .ref w4, .int ik, .ref w5, .int (nI ln), .int e1, .int e2, .ref w6, .int (nI tm), .int (nI sp)])), (w1, .inl (G.2.1, 508, .inl z))] (.int (lat z r p n)) := by
  refine RO.of (cc := cX7_lampAt) (maxL := 5) (ret := (some .int)) (by decide) rfl (Nat.le_of_ble_eq_true rfl) ?_
  intro cx hxl hxG C E
  subst hxl
  subst hxG
  show X cx (0, 0) [(m, .inr (7, [.ref w1, .ref w2, .ref w3, .int (nI ns), .ref w4, .int ik, .ref w5, .int (nI ln), .int e1, .int e2, .ref w6, .int (nI tm), .int (nI sp)])), (w1, .inl ((xG cx).2.1, 508, .inl z))] [(0, .ref m), (1, .int r), (2, .int p)] 0 []
  refine x_sipush (v := (-1005)) C dX7_lampAt_0 (by decide) ?_
  refine x_istore_n C [(3, .int (-1005)), (0, .ref m), (1, .int r), (2, .int p)] dX7_lampAt_3 rfl (by decide) rfl ?_
  refine x_iconst (v := 0) C dX7_lampAt_4 (by decide) ?_
  refine x_istore C [(4, .int 0), (3, .int (-1005)), (0, .ref m), (1, .int r), (2, .int p)] dX7_lampAt_5 (by decide) rfl ?_
  have loop_7 : ∀ (zz : Nat) (i : Nat) (acc : Int32) (hi : i ≤ n) (hz : n + 1 ≤ i + zz) (ea : acc = lat z r p i), X cx (0, 0) [(m, .inr (7, [.ref w1, .ref w2, .ref w3, .int (nI ns), .ref w4, .int ik, .ref w5, .int (nI ln), .int e1, .int e2, .ref w6, .int (nI tm), .int (nI sp)])), (w1, .inl ((xG cx).2.1, 508, .inl z))] [(0, .ref m), (1, .int r), (2, .int p), (3, .int acc), (4, .int (nI i))] 7 [] := by
    intro zz
    induction zz with
    | zero =>
      intro i acc hi hz ea
      exfalso; omega
    | succ zz ih =>
      intro i acc hi hz ea
      refine x_iload C 4 dX7_lampAt_7 rfl ?_
      refine x_aload_n C 0 dX7_lampAt_9 rfl rfl ?_
      refine x_getf C 0 rfl rfl i_kX7_lampAt_X7 0 (by decide) m_kX7_lampAt_1 rfl rfl dX7_lampAt_10 ?_
      refine x_iconst (v := 3) C dX7_lampAt_13 (by decide) ?_
      refine x_iald C 1 rfl rfl (vp_in_nI (n := 3) (by decide) (by decide)) ((congrArg z (nI_clamp (n := 3) (by decide))).trans hz3) dX7_lampAt_14 ?_
      refine x_icmp_ge C 53 dX7_lampAt_15 (by decide) (fun c_15 => ?_) (fun c_15 => ?_)
      ·
        have n_15 : n ≤ i := (nI_leI (a := n) (b := i) (by omega) (by omega)).mp c_15
        refine x_iload_n C 3 dX7_lampAt_53 rfl rfl ?_
        exact x_iret C E dX7_lampAt_54 (by rw [ea, show i = n from by omega]) (rfl)
      ·
        have n_15 : ¬ (n ≤ i) := fun q => c_15 ((nI_leI (a := n) (b := i) (by omega) (by omega)).mpr q)
        refine x_aload_n C 0 dX7_lampAt_18 rfl rfl ?_
        refine x_iload C 4 dX7_lampAt_19 rfl ?_
        refine x_iconst (v := 1) C dX7_lampAt_21 (by decide) ?_
        refine x_callVRO C ([.int (nI i), .int 1]) ([]) [0, 1] (k0 := 0) (na := 2) gX7_lampAt_X7_of rfl (by decide +kernel) rfl rfl rfl (kX7_of (xl cx) (xG cx) m w1 w2 w3 w4 w5 w6 ns ln tm sp ik e1 e2 z i 1 (by first | assumption | rfl | omega | decide) (by first | assumption | rfl | omega | decide)) rfl (by decide) rfl rfl rfl ⟨by decide, by decide⟩ (Nat.le_of_ble_eq_true rfl) ⟨by decide, by decide⟩ dX7_lampAt_22 ?_
        refine x_iload_n C 1 dX7_lampAt_25 rfl rfl ?_
        refine x_icmp_ne C 45 dX7_lampAt_26 (by decide) (fun c_26 => ?_) (fun c_26 => ?_)
        ·
          refine x_iload_n C 3 dX7_lampAt_45 rfl rfl ?_
          refine x_istore_n C [(3, .int acc), (0, .ref m), (1, .int r), (2, .int p), (4, .int (nI i))] dX7_lampAt_46 rfl (by decide) rfl ?_
          refine x_iinc C 4 [(4, .int (nI (i + 1))), (3, .int acc), (0, .ref m), (1, .int r), (2, .int p)] dX7_lampAt_47 rfl (inc1 i) (by decide) rfl ?_
          refine x_goto (tgt := 7) C dX7_lampAt_50 (by decide) ?_
          refine x_lv [(0, .ref m), (1, .int r), (2, .int p), (3, .int acc), (4, .int (nI (i + 1)))] [2, 3, 4, 1, 0] rfl ?_
          exact ih (i + 1) acc (by omega) (by omega) (by rw [lat_s, ← ea]; exact (if_neg (fun q => c_26 q.1)).symm)
        ·
          refine x_aload_n C 0 dX7_lampAt_29 rfl rfl ?_
          refine x_iload C 4 dX7_lampAt_30 rfl ?_
          refine x_iconst (v := 2) C dX7_lampAt_32 (by decide) ?_
          refine x_callVRO C ([.int (nI i), .int 2]) ([]) [0, 1] (k0 := 0) (na := 2) gX7_lampAt_X7_of rfl (by decide +kernel) rfl rfl rfl (kX7_of (xl cx) (xG cx) m w1 w2 w3 w4 w5 w6 ns ln tm sp ik e1 e2 z i 2 (by first | assumption | rfl | omega | decide) (by first | assumption | rfl | omega | decide)) rfl (by decide) rfl rfl rfl ⟨by decide, by decide⟩ (Nat.le_of_ble_eq_true rfl) ⟨by decide, by decide⟩ dX7_lampAt_33 ?_
          refine x_iload_n C 2 dX7_lampAt_36 rfl rfl ?_
          refine x_icmp_ne C 45 dX7_lampAt_37 (by decide) (fun c_37 => ?_) (fun c_37 => ?_)
          ·
            refine x_iload_n C 3 dX7_lampAt_45 rfl rfl ?_
            refine x_istore_n C [(3, .int acc), (0, .ref m), (1, .int r), (2, .int p), (4, .int (nI i))] dX7_lampAt_46 rfl (by decide) rfl ?_
            refine x_iinc C 4 [(4, .int (nI (i + 1))), (3, .int acc), (0, .ref m), (1, .int r), (2, .int p)] dX7_lampAt_47 rfl (inc1 i) (by decide) rfl ?_
            refine x_goto (tgt := 7) C dX7_lampAt_50 (by decide) ?_
            refine x_lv [(0, .ref m), (1, .int r), (2, .int p), (3, .int acc), (4, .int (nI (i + 1)))] [2, 3, 4, 1, 0] rfl ?_
            exact ih (i + 1) acc (by omega) (by omega) (by rw [lat_s, ← ea]; exact (if_neg (fun q => c_37 q.2)).symm)
          ·
            refine x_iload C 4 dX7_lampAt_40 rfl ?_
            refine x_goto (tgt := 46) C dX7_lampAt_42 (by decide) ?_
            refine x_istore_n C [(3, .int (nI i)), (0, .ref m), (1, .int r), (2, .int p), (4, .int (nI i))] dX7_lampAt_46 rfl (by decide) rfl ?_
            refine x_iinc C 4 [(4, .int (nI (i + 1))), (3, .int (nI i)), (0, .ref m), (1, .int r), (2, .int p)] dX7_lampAt_47 rfl (inc1 i) (by decide) rfl ?_
            refine x_goto (tgt := 7) C dX7_lampAt_50 (by decide) ?_
            refine x_lv [(0, .ref m), (1, .int r), (2, .int p), (3, .int (nI i)), (4, .int (nI (i + 1)))] [2, 3, 4, 1, 0] rfl ?_
            exact ih (i + 1) (nI i) (by omega) (by omega) (by rw [lat_s, ← ea]; exact (if_pos ⟨c_26, c_37⟩).symm)
  refine x_lv [(0, .ref m), (1, .int r), (2, .int p), (3, .int (-1005)), (4, .int (nI 0))] [2, 3, 4, 1, 0] rfl ?_
  exact loop_7 (n + 1) 0 (-1005) (by omega) (by omega) (rfl)

theorem i_kX7_wearAt_X7 : ∀ w ∈ u_ws RX7 TX7 13, w ∈ wsX7_wearAt := by decide +kernel
theorem m_kX7_wearAt_1 : (Cond.fieldLink RX7 7 "LampRacksModel" "z" "[I" : Cond) ∈ wsX7_wearAt := by decide +kernel
set_option maxRecDepth 100000 in
set_option maxHeartbeats 4000000 in
theorem kX7_wearAt (l : Launch) (G : GG) (m : Nat) (w1 : Nat) (w2 : Nat) (w3 : Nat) (w4 : Nat) (w5 : Nat) (w6 : Nat) (ns : Nat) (ln : Nat) (tm : Nat) (sp : Nat) (ik : Int32) (e1 : Int32) (e2 : Int32) (z : Nat → Int32) (v : Int32) (h : Int32) (hd : ¬ z 1 = 0) : RO l G yX7_wearAt wsX7_wearAt ({ frames := 0, cells := 0, slots := 0, locals := 0 } : Room) [.ref m, .int v, .int h] [(m, .inr (7, [.ref w1, .ref w2, .ref w3, .int (nI ns), .ref w4, .int ik, .ref w5, .int (nI ln), .int e1, .int e2, .ref w6, .int (nI tm), .int (nI sp)])), (w1, .inl (G.2.1, 508, .inl z))] (.int (wA z v h)) := by
  refine RO.of (cc := cX7_wearAt) (maxL := 4) (ret := (some .int)) (by decide) rfl (Nat.le_of_ble_eq_true rfl) ?_
  intro cx hxl hxG C E
  subst hxl
  subst hxG
  show X cx (0, 0) [(m, .inr (7, [.ref w1, .ref w2, .ref w3, .int (nI ns), .ref w4, .int ik, .ref w5, .int (nI ln), .int e1, .int e2, .ref w6, .int (nI tm), .int (nI sp)])), (w1, .inl ((xG cx).2.1, 508, .inl z))] [(0, .ref m), (1, .int v), (2, .int h)] 0 []
  refine x_bipush (v := 10) C dX7_wearAt_0 (by decide) ?_
  refine x_bipush (v := 10) C dX7_wearAt_2 (by decide) ?_
  refine x_iload_n C 1 dX7_wearAt_4 rfl rfl ?_
  refine x_aload_n C 0 dX7_wearAt_5 rfl rfl ?_
  refine x_getf C 0 rfl rfl i_kX7_wearAt_X7 0 (by decide) m_kX7_wearAt_1 rfl rfl dX7_wearAt_6 ?_
  refine x_iconst (v := 0) C dX7_wearAt_9 (by decide) ?_
  refine x_iald C 1 rfl rfl (vp_in_nI (n := 0) (by decide) (by decide)) (congrArg z (nI_clamp (n := 0) (by decide))) dX7_wearAt_10 ?_
  refine x_isub C (rfl) dX7_wearAt_11 ?_
  refine x_imul C (rfl) dX7_wearAt_12 ?_
  refine x_aload_n C 0 dX7_wearAt_13 rfl rfl ?_
  refine x_getf C 0 rfl rfl i_kX7_wearAt_X7 0 (by decide) m_kX7_wearAt_1 rfl rfl dX7_wearAt_14 ?_
  refine x_iconst (v := 1) C dX7_wearAt_17 (by decide) ?_
  refine x_iald C 1 rfl rfl (vp_in_nI (n := 1) (by decide) (by decide)) (congrArg z (nI_clamp (n := 1) (by decide))) dX7_wearAt_18 ?_
  refine x_idiv C (rfl) dX7_wearAt_19 (hd) ?_
  refine x_iadd C (rfl) dX7_wearAt_20 ?_
  refine x_istore_n C [(3, .int (10 + ((10 * (v - (z 0))) / (z 1)))), (0, .ref m), (1, .int v), (2, .int h)] dX7_wearAt_21 rfl (by decide) rfl ?_
  refine x_iload_n C 0 dX7_wearAt_22 rfl rfl ?_
  refine x_iconst (v := 1) C dX7_wearAt_23 (by decide) ?_
  have join_32 : ∀ (v0 : Int32) (hv0 : v0 = if 1 ≤ 10 + 10 * (v - z 0) / z 1 then 10 + 10 * (v - z 0) / z 1 else 1), X cx (0, 0) [(m, .inr (7, [.ref w1, .ref w2, .ref w3, .int (nI ns), .ref w4, .int ik, .ref w5, .int (nI ln), .int e1, .int e2, .ref w6, .int (nI tm), .int (nI sp)])), (w1, .inl ((xG cx).2.1, 508, .inl z))] [(3, .int (10 + ((10 * (v - (z 0))) / (z 1)))), (0, .ref m), (1, .int v), (2, .int h)] 32 [.int v0] := by
    intro v0 hv0
    subst hv0
    refine x_istore_n C [(3, .int (if 1 ≤ 10 + 10 * (v - z 0) / z 1 then 10 + 10 * (v - z 0) / z 1 else 1)), (0, .ref m), (1, .int v), (2, .int h)] dX7_wearAt_32 rfl (by decide) rfl ?_
    refine x_iload_n C 3 dX7_wearAt_33 rfl rfl ?_
    refine x_if_eq C 46 dX7_wearAt_34 (by decide) (fun c_34 => ?_) (fun c_34 => ?_)
    ·
      refine x_iload_n C 0 dX7_wearAt_46 rfl rfl ?_
      exact x_iret C E dX7_wearAt_47 (by simp [wA, c_34]) (rfl)
    ·
      refine x_iload_n C 0 dX7_wearAt_37 rfl rfl ?_
      refine x_iload_n C 0 dX7_wearAt_38 rfl rfl ?_
      refine x_bipush (v := 10) C dX7_wearAt_39 (by decide) ?_
      refine x_idiv C (rfl) dX7_wearAt_41 (by decide) ?_
      refine x_iadd C (rfl) dX7_wearAt_42 ?_
      refine x_goto (tgt := 47) C dX7_wearAt_43 (by decide) ?_
      exact x_iret C E dX7_wearAt_47 (by simp [wA, c_34]) (rfl)
  refine x_icmp_ge C 31 dX7_wearAt_24 (by decide) (fun c_24 => ?_) (fun c_24 => ?_)
  ·
    refine x_iload_n C 0 dX7_wearAt_31 rfl rfl ?_
    exact join_32 _ ((if_pos c_24).symm)
  ·
    refine x_iconst (v := 1) C dX7_wearAt_27 (by decide) ?_
    refine x_goto (tgt := 32) C dX7_wearAt_28 (by decide) ?_
    exact join_32 _ ((if_neg c_24).symm)

set_option maxRecDepth 100000 in
set_option maxHeartbeats 4000000 in
theorem kX7_isHot (l : Launch) (G : GG) (m : Nat) (w1 : Nat) (w2 : Nat) (w3 : Nat) (w4 : Nat) (w5 : Nat) (w6 : Nat) (ns : Nat) (ln : Nat) (tm : Nat) (sp : Nat) (ik : Int32) (e1 : Int32) (e2 : Int32) (z : Nat → Int32) (k : Nat) (hk : k < 60) : RO l G yX7_isHot wsX7_isHot ({ frames := 1, cells := 0, slots := 0, locals := 22 } : Room) [.ref m, .int (nI k)] [(m, .inr (7, [.ref w1, .ref w2, .ref w3, .int (nI ns), .ref w4, .int ik, .ref w5, .int (nI ln), .int e1, .int e2, .ref w6, .int (nI tm), .int (nI sp)])), (w1, .inl (G.2.1, 508, .inl z))] (.int (b2i (3 ≤ zl z k 2 ∧ zl z k 2 ≤ 4))) := by
  refine RO.of (cc := cX7_isHot) (maxL := 2) (ret := (some .boolean)) (by decide) rfl (Nat.le_of_ble_eq_true rfl) ?_
  intro cx hxl hxG C E
  subst hxl
  subst hxG
  show X cx (0, 0) [(m, .inr (7, [.ref w1, .ref w2, .ref w3, .int (nI ns), .ref w4, .int ik, .ref w5, .int (nI ln), .int e1, .int e2, .ref w6, .int (nI tm), .int (nI sp)])), (w1, .inl ((xG cx).2.1, 508, .inl z))] [(0, .ref m), (1, .int (nI k))] 0 []
  refine x_aload_n C 0 dX7_isHot_0 rfl rfl ?_
  refine x_iload_n C 1 dX7_isHot_1 rfl rfl ?_
  refine x_iconst (v := 2) C dX7_isHot_2 (by decide) ?_
  refine x_callVRO C ([.int (nI k), .int 2]) ([]) [0, 1] (k0 := 0) (na := 2) gX7_isHot_X7_of rfl (by decide +kernel) rfl rfl rfl (kX7_of (xl cx) (xG cx) m w1 w2 w3 w4 w5 w6 ns ln tm sp ik e1 e2 z k 2 (by first | assumption | rfl | omega | decide) (by first | assumption | rfl | omega | decide)) rfl (by decide) rfl rfl rfl ⟨by decide, by decide⟩ (Nat.le_of_ble_eq_true rfl) ⟨by decide, by decide⟩ dX7_isHot_3 ?_
  refine x_iconst (v := 3) C dX7_isHot_6 (by decide) ?_
  refine x_iconst (v := 4) C dX7_isHot_7 (by decide) ?_
  refine x_callSRO C ([.int (zl z k 2), .int 3, .int 4]) ([]) [] (na := 3) gX7_isHot_X7_in rfl (by decide +kernel) rfl (kX7_in (xl cx) (xG cx) (zl z k 2) 3 4) rfl (by decide) rfl rfl rfl ⟨by decide, by decide⟩ (Nat.le_of_ble_eq_true rfl) ⟨by decide, by decide⟩ dX7_isHot_8 ?_
  exact x_zret C E dX7_isHot_11 (rfl) (rfl)

/-- a lamp burns -/
def brnB (z : Nat → Int32) (k : Nat) : Bool := zl z k 6 == -1005 && (zl z k 1 != -1005 && decide (0 < zr z (ixz (zl z k 1)) 0))
theorem brn_iff (z : Nat → Int32) (k : Nat) : brnB z k = true ↔ zl z k 6 = -1005 ∧ (zl z k 1 ≠ -1005 ∧ 0 < zr z (ixz (zl z k 1)) 0) := by
  unfold brnB
  simp

set_option maxRecDepth 100000 in
set_option maxHeartbeats 4000000 in
theorem kX7_burns (l : Launch) (G : GG) (m : Nat) (w1 : Nat) (w2 : Nat) (w3 : Nat) (w4 : Nat) (w5 : Nat) (w6 : Nat) (ns : Nat) (ln : Nat) (tm : Nat) (sp : Nat) (ik : Int32) (e1 : Int32) (e2 : Int32) (z : Nat → Int32) (k : Nat) (hk : k < 60) (hrk : ∀ k, k < 60 → zl z k 1 = -1005 ∨ ∃ r, r < 3 ∧ zl z k 1 = nI r) : RO l G yX7_burns wsX7_burns ({ frames := 2, cells := 0, slots := 0, locals := 43 } : Room) [.ref m, .int (nI k)] [(m, .inr (7, [.ref w1, .ref w2, .ref w3, .int (nI ns), .ref w4, .int ik, .ref w5, .int (nI ln), .int e1, .int e2, .ref w6, .int (nI tm), .int (nI sp)])), (w1, .inl (G.2.1, 508, .inl z))] (.int (b2i (brnB z k = true))) := by
  refine RO.of (cc := cX7_burns) (maxL := 2) (ret := (some .boolean)) (by decide) rfl (Nat.le_of_ble_eq_true rfl) ?_
  intro cx hxl hxG C E
  subst hxl
  subst hxG
  show X cx (0, 0) [(m, .inr (7, [.ref w1, .ref w2, .ref w3, .int (nI ns), .ref w4, .int ik, .ref w5, .int (nI ln), .int e1, .int e2, .ref w6, .int (nI tm), .int (nI sp)])), (w1, .inl ((xG cx).2.1, 508, .inl z))] [(0, .ref m), (1, .int (nI k))] 0 []
  refine x_aload_n C 0 dX7_burns_0 rfl rfl ?_
  refine x_iload_n C 1 dX7_burns_1 rfl rfl ?_
  refine x_callVRO C ([.int (nI k)]) ([]) [0, 1] (k0 := 0) (na := 1) gX7_burns_X7_isDead rfl (by decide +kernel) rfl rfl rfl (kX7_isDead (xl cx) (xG cx) m w1 w2 w3 w4 w5 w6 ns ln tm sp ik e1 e2 z k (by first | assumption | rfl | omega | decide)) rfl (by decide) rfl rfl rfl ⟨by decide, by decide⟩ (Nat.le_of_ble_eq_true rfl) ⟨by decide, by decide⟩ dX7_burns_2 ?_
  refine x_ifb_ne (P := zl z k 6 ≠ -1005) C 38 dX7_burns_5 (by decide) (fun c_5 => ?_) (fun c_5 => ?_)
  ·
    refine x_iconst (v := 0) C dX7_burns_38 (by decide) ?_
    exact x_zret C E dX7_burns_39 ((b2i_f (fun q => c_5 ((brn_iff z k).mp q).1)).symm) (rfl)
  ·
    refine x_aload_n C 0 dX7_burns_8 rfl rfl ?_
    refine x_iload_n C 1 dX7_burns_9 rfl rfl ?_
    refine x_iconst (v := 1) C dX7_burns_10 (by decide) ?_
    refine x_callVRO C ([.int (nI k), .int 1]) ([]) [0, 1] (k0 := 0) (na := 2) gX7_burns_X7_of rfl (by decide +kernel) rfl rfl rfl (kX7_of (xl cx) (xG cx) m w1 w2 w3 w4 w5 w6 ns ln tm sp ik e1 e2 z k 1 (by first | assumption | rfl | omega | decide) (by first | assumption | rfl | omega | decide)) rfl (by decide) rfl rfl rfl ⟨by decide, by decide⟩ (Nat.le_of_ble_eq_true rfl) ⟨by decide, by decide⟩ dX7_burns_11 ?_
    refine x_sipush (v := (-1005)) C dX7_burns_14 (by decide) ?_
    refine x_icmp_eq C 38 dX7_burns_17 (by decide) (fun c_17 => ?_) (fun c_17 => ?_)
    ·
      refine x_iconst (v := 0) C dX7_burns_38 (by decide) ?_
      exact x_zret C E dX7_burns_39 ((b2i_f (fun q => ((brn_iff z k).mp q).2.1 c_17)).symm) (rfl)
    ·
      refine x_aload_n C 0 dX7_burns_20 rfl rfl ?_
      refine x_aload_n C 0 dX7_burns_21 rfl rfl ?_
      refine x_iload_n C 1 dX7_burns_22 rfl rfl ?_
      refine x_iconst (v := 1) C dX7_burns_23 (by decide) ?_
      refine x_callVRO C ([.int (nI k), .int 1]) ([.ref m]) [0, 1] (k0 := 0) (na := 2) gX7_burns_X7_of rfl (by decide +kernel) rfl rfl rfl (kX7_of (xl cx) (xG cx) m w1 w2 w3 w4 w5 w6 ns ln tm sp ik e1 e2 z k 1 (by first | assumption | rfl | omega | decide) (by first | assumption | rfl | omega | decide)) rfl (by decide) rfl rfl rfl ⟨by decide, by decide⟩ (Nat.le_of_ble_eq_true rfl) ⟨by decide, by decide⟩ dX7_burns_24 ?_
      refine x_iconst (v := 0) C dX7_burns_27 (by decide) ?_
      obtain ⟨kr, h_kr, e_kr⟩ := (hrk k hk).resolve_left c_17
      rw [e_kr]
      rw [e_kr] at c_17
      refine x_callVRO C ([.int (nI kr), .int 0]) ([]) [0, 1] (k0 := 0) (na := 2) gX7_burns_X7_ofRack rfl (by decide +kernel) rfl rfl rfl (kX7_ofRack (xl cx) (xG cx) m w1 w2 w3 w4 w5 w6 ns ln tm sp ik e1 e2 z kr 0 (by first | assumption | rfl | omega | decide) (by first | assumption | rfl | omega | decide)) rfl (by decide) rfl rfl rfl ⟨by decide, by decide⟩ (Nat.le_of_ble_eq_true rfl) ⟨by decide, by decide⟩ dX7_burns_28 ?_
      refine x_if_le C 38 dX7_burns_31 (by decide) (fun c_31 => ?_) (fun c_31 => ?_)
      ·
        refine x_iconst (v := 0) C dX7_burns_38 (by decide) ?_
        exact x_zret C E dX7_burns_39 ((b2i_f (fun q => absurd (show 0 < zr z kr 0 from by have w := ((brn_iff z k).mp q).2.2; rw [e_kr, show ixz (nI kr) = kr from ix kr (by omega)] at w; exact w) (Int32.not_lt.mpr c_31))).symm) (rfl)
      ·
        refine x_iconst (v := 1) C dX7_burns_34 (by decide) ?_
        refine x_goto (tgt := 39) C dX7_burns_35 (by decide) ?_
        exact x_zret C E dX7_burns_39 ((b2i_t ((brn_iff z k).mpr ⟨Classical.not_not.mp c_5, by rw [e_kr]; exact c_17, by rw [e_kr, show ixz (nI kr) = kr from ix kr (by omega)]; exact Int32.not_le.mp c_31⟩)).symm) (rfl)
