/-! pure words of the component: numbers that its methods answer -/
theorem b2i_01 (P : Prop) [Decidable P] : b2i P = 0 ∨ b2i P = 1 := by
  by_cases h : P
  · exact Or.inr (b2i_t h)
  · exact Or.inl (b2i_f h)
theorem b2i_fit {P : Prop} [Decidable P] (ty : FieldType) : True := trivial
/-- the greater of 1 and w -/
def mx1 (w : Int32) : Int32 := if 1 < w then w else 1
theorem mx1_ne (w : Int32) : ¬ mx1 w = 0 := by
  unfold mx1
  by_cases h : 1 < w
  · rw [if_pos h]
    intro e
    rw [e] at h
    exact absurd h (by decide)
  · rw [if_neg h]
    decide
/-- 7 n modulo 10, as the machine has it -/
def shr (x : Int32) : Int32 := 7 * x - 7 * x / 10 * 10
/-- how many of the first n -/
def cnt (P : Nat → Prop) [DecidablePred P] : Nat → Int32
  | 0 => 0
  | n + 1 => cnt P n + b2i (P n)
theorem cnt_s (P : Nat → Prop) [DecidablePred P] (n : Nat) : cnt P (n + 1) = cnt P n + b2i (P n) := rfl
def sm (f : Nat → Int32) : Nat → Int32
  | 0 => 0
  | n + 1 => sm f n + f n

set_option maxRecDepth 100000 in
set_option maxHeartbeats 4000000 in
theorem kX6_isWithin (l : Launch) (G : GG) (x : Int32) (lo : Int32) (hi : Int32)  : RO l G yX6_isWithin wsX6_isWithin ({ frames := 0, cells := 0, slots := 0, locals := 0 } : Room) [.int x, .int lo, .int hi] [] (.int (b2i (lo ≤ x ∧ x ≤ hi))) := by
  refine RO.of (cc := cX6_isWithin) (maxL := 3) (ret := (some .boolean)) (by decide) rfl (Nat.le_of_ble_eq_true rfl) ?_
  intro cx hxl hxG C E
  subst hxl
  subst hxG
  show X cx (0, 0) [] [(0, .int x), (1, .int lo), (2, .int hi)] 0 []
  refine x_iload_n C 0 dX6_isWithin_0 rfl rfl ?_
  refine x_iload_n C 1 dX6_isWithin_1 rfl rfl ?_
  refine x_icmp_lt C 14 dX6_isWithin_2 (by decide) (fun c_2 => ?_) (fun c_2 => ?_)
  ·
    refine x_iconst (v := 0) C dX6_isWithin_14 (by decide) ?_
    exact x_zret C E dX6_isWithin_15 (by first | (symm; first | (apply b2i_t; grind) | (apply b2i_f; grind))) (rfl)
  ·
    refine x_iload_n C 0 dX6_isWithin_5 rfl rfl ?_
    refine x_iload_n C 2 dX6_isWithin_6 rfl rfl ?_
    refine x_icmp_gt C 14 dX6_isWithin_7 (by decide) (fun c_7 => ?_) (fun c_7 => ?_)
    ·
      refine x_iconst (v := 0) C dX6_isWithin_14 (by decide) ?_
      exact x_zret C E dX6_isWithin_15 (by first | (symm; first | (apply b2i_t; grind) | (apply b2i_f; grind))) (rfl)
    ·
      refine x_iconst (v := 1) C dX6_isWithin_10 (by decide) ?_
      refine x_goto (tgt := 15) C dX6_isWithin_11 (by decide) ?_
      exact x_zret C E dX6_isWithin_15 (by first | (symm; first | (apply b2i_t; grind) | (apply b2i_f; grind))) (rfl)

set_option maxRecDepth 100000 in
set_option maxHeartbeats 4000000 in
theorem kX6_isBatch (l : Launch) (G : GG) (x : Int32)  : RO l G yX6_isBatch wsX6_isBatch ({ frames := 1, cells := 0, slots := 0, locals := 22 } : Room) [.int x] [] (.int (b2i (0 ≤ x ∧ x ≤ 5))) := by
  refine RO.of (cc := cX6_isBatch) (maxL := 1) (ret := (some .boolean)) (by decide) rfl (Nat.le_of_ble_eq_true rfl) ?_
  intro cx hxl hxG C E
  subst hxl
  subst hxG
  show X cx (0, 0) [] [(0, .int x)] 0 []
  refine x_iload_n C 0 dX6_isBatch_0 rfl rfl ?_
  refine x_iconst (v := 0) C dX6_isBatch_1 (by decide) ?_
  refine x_iconst (v := 5) C dX6_isBatch_2 (by decide) ?_
  refine x_callSRO C ([.int x, .int 0, .int 5]) ([]) [] (na := 3) gX6_isBatch_X6_isWithin rfl (by decide +kernel) rfl (kX6_isWithin (xl cx) (xG cx) x 0 5) rfl (by decide) rfl rfl rfl ⟨by decide, by decide⟩ (Nat.le_of_ble_eq_true rfl) ⟨by decide, by decide⟩ dX6_isBatch_3 ?_
  exact x_zret C E dX6_isBatch_6 (rfl) (rfl)

set_option maxRecDepth 100000 in
set_option maxHeartbeats 4000000 in
theorem kX6_isRack (l : Launch) (G : GG) (x : Int32)  : RO l G yX6_isRack wsX6_isRack ({ frames := 1, cells := 0, slots := 0, locals := 22 } : Room) [.int x] [] (.int (b2i (0 ≤ x ∧ x ≤ 2))) := by
  refine RO.of (cc := cX6_isRack) (maxL := 1) (ret := (some .boolean)) (by decide) rfl (Nat.le_of_ble_eq_true rfl) ?_
  intro cx hxl hxG C E
  subst hxl
  subst hxG
  show X cx (0, 0) [] [(0, .int x)] 0 []
  refine x_iload_n C 0 dX6_isRack_0 rfl rfl ?_
  refine x_iconst (v := 0) C dX6_isRack_1 (by decide) ?_
  refine x_iconst (v := 2) C dX6_isRack_2 (by decide) ?_
  refine x_callSRO C ([.int x, .int 0, .int 2]) ([]) [] (na := 3) gX6_isRack_X6_isWithin rfl (by decide +kernel) rfl (kX6_isWithin (xl cx) (xG cx) x 0 2) rfl (by decide) rfl rfl rfl ⟨by decide, by decide⟩ (Nat.le_of_ble_eq_true rfl) ⟨by decide, by decide⟩ dX6_isRack_3 ?_
  exact x_zret C E dX6_isRack_6 (rfl) (rfl)

set_option maxRecDepth 100000 in
set_option maxHeartbeats 4000000 in
theorem kX6_isPlace (l : Launch) (G : GG) (r : Int32) (x : Int32)  : RO l G yX6_isPlace wsX6_isPlace ({ frames := 2, cells := 0, slots := 0, locals := 42 } : Room) [.int r, .int x] [] (.int (b2i ((0 ≤ r ∧ r ≤ 2) ∧ (0 ≤ x ∧ x ≤ 7)))) := by
  refine RO.of (cc := cX6_isPlace) (maxL := 2) (ret := (some .boolean)) (by decide) rfl (Nat.le_of_ble_eq_true rfl) ?_
  intro cx hxl hxG C E
  subst hxl
  subst hxG
  show X cx (0, 0) [] [(0, .int r), (1, .int x)] 0 []
  refine x_iload_n C 0 dX6_isPlace_0 rfl rfl ?_
  refine x_callSRO C ([.int r]) ([]) [] (na := 1) gX6_isPlace_X6_isRack rfl (by decide +kernel) rfl (kX6_isRack (xl cx) (xG cx) r) rfl (by decide) rfl rfl rfl ⟨by decide, by decide⟩ (Nat.le_of_ble_eq_true rfl) ⟨by decide, by decide⟩ dX6_isPlace_1 ?_
  refine x_ifb_eq (P := 0 ≤ r ∧ r ≤ 2) C 21 dX6_isPlace_4 (by decide) (fun c_4 => ?_) (fun c_4 => ?_)
  ·
    refine x_iconst (v := 0) C dX6_isPlace_21 (by decide) ?_
    exact x_zret C E dX6_isPlace_22 (by first | (symm; first | (apply b2i_t; grind) | (apply b2i_f; grind))) (rfl)
  ·
    refine x_iload_n C 1 dX6_isPlace_7 rfl rfl ?_
    refine x_iconst (v := 0) C dX6_isPlace_8 (by decide) ?_
    refine x_bipush (v := 7) C dX6_isPlace_9 (by decide) ?_
    refine x_callSRO C ([.int x, .int 0, .int 7]) ([]) [] (na := 3) gX6_isPlace_X6_isWithin rfl (by decide +kernel) rfl (kX6_isWithin (xl cx) (xG cx) x 0 7) rfl (by decide) rfl rfl rfl ⟨by decide, by decide⟩ (Nat.le_of_ble_eq_true rfl) ⟨by decide, by decide⟩ dX6_isPlace_11 ?_
    refine x_ifb_eq (P := 0 ≤ x ∧ x ≤ 7) C 21 dX6_isPlace_14 (by decide) (fun c_14 => ?_) (fun c_14 => ?_)
    ·
      refine x_iconst (v := 0) C dX6_isPlace_21 (by decide) ?_
      exact x_zret C E dX6_isPlace_22 (by first | (symm; first | (apply b2i_t; grind) | (apply b2i_f; grind))) (rfl)
    ·
      refine x_iconst (v := 1) C dX6_isPlace_17 (by decide) ?_
      refine x_goto (tgt := 22) C dX6_isPlace_18 (by decide) ?_
      exact x_zret C E dX6_isPlace_22 (by first | (symm; first | (apply b2i_t; grind) | (apply b2i_f; grind))) (rfl)

set_option maxRecDepth 100000 in
set_option maxHeartbeats 4000000 in
theorem kX6_spotOf (l : Launch) (G : GG) (r : Nat) (x : Nat)  : RO l G yX6_spotOf wsX6_spotOf ({ frames := 0, cells := 0, slots := 0, locals := 0 } : Room) [.int (nI r), .int (nI x)] [] (.int (nI (r * 8 + x))) := by
  refine RO.of (cc := cX6_spotOf) (maxL := 2) (ret := (some .int)) (by decide) rfl (Nat.le_of_ble_eq_true rfl) ?_
  intro cx hxl hxG C E
  subst hxl
  subst hxG
  show X cx (0, 0) [] [(0, .int (nI r)), (1, .int (nI x))] 0 []
  refine x_iload_n C 0 dX6_spotOf_0 rfl rfl ?_
  refine x_bipush (v := 8) C dX6_spotOf_1 (by decide) ?_
  refine x_imul C (pk_mul r 8) dX6_spotOf_3 ?_
  refine x_iload_n C 1 dX6_spotOf_4 rfl rfl ?_
  refine x_iadd C (nI_add (r * 8) x) dX6_spotOf_5 ?_
  exact x_iret C E dX6_spotOf_6 (rfl) (rfl)

set_option maxRecDepth 100000 in
set_option maxHeartbeats 4000000 in
theorem kX6_shareOf (l : Launch) (G : GG) (x : Int32)  : RO l G yX6_shareOf wsX6_shareOf ({ frames := 0, cells := 0, slots := 0, locals := 0 } : Room) [.int x] [] (.int (shr x)) := by
  refine RO.of (cc := cX6_shareOf) (maxL := 1) (ret := (some .int)) (by decide) rfl (Nat.le_of_ble_eq_true rfl) ?_
  intro cx hxl hxG C E
  subst hxl
  subst hxG
  show X cx (0, 0) [] [(0, .int x)] 0 []
  refine x_bipush (v := 7) C dX6_shareOf_0 (by decide) ?_
  refine x_iload_n C 0 dX6_shareOf_2 rfl rfl ?_
  refine x_imul C (rfl) dX6_shareOf_3 ?_
  refine x_bipush (v := 10) C dX6_shareOf_4 (by decide) ?_
  refine x_irem C (rfl) dX6_shareOf_6 (by decide) ?_
  exact x_iret C E dX6_shareOf_7 (rfl) (rfl)

set_option maxRecDepth 100000 in
set_option maxHeartbeats 4000000 in
theorem kX6_isWeak (l : Launch) (G : GG) (x : Int32)  : RO l G yX6_isWeak wsX6_isWeak ({ frames := 1, cells := 0, slots := 0, locals := 20 } : Room) [.int x] [] (.int (b2i (shr x = 9))) := by
  refine RO.of (cc := cX6_isWeak) (maxL := 1) (ret := (some .boolean)) (by decide) rfl (Nat.le_of_ble_eq_true rfl) ?_
  intro cx hxl hxG C E
  subst hxl
  subst hxG
  show X cx (0, 0) [] [(0, .int x)] 0 []
  refine x_iload_n C 0 dX6_isWeak_0 rfl rfl ?_
  refine x_callSRO C ([.int x]) ([]) [] (na := 1) gX6_isWeak_X6_shareOf rfl (by decide +kernel) rfl (kX6_shareOf (xl cx) (xG cx) x) rfl (by decide) rfl rfl rfl ⟨by decide, by decide⟩ (Nat.le_of_ble_eq_true rfl) ⟨by decide, by decide⟩ dX6_isWeak_1 ?_
  refine x_bipush (v := 9) C dX6_isWeak_4 (by decide) ?_
  refine x_icmp_ne C 13 dX6_isWeak_6 (by decide) (fun c_6 => ?_) (fun c_6 => ?_)
  ·
    refine x_iconst (v := 0) C dX6_isWeak_13 (by decide) ?_
    exact x_zret C E dX6_isWeak_14 (by first | (symm; first | (apply b2i_t; grind) | (apply b2i_f; grind))) (rfl)
  ·
    refine x_iconst (v := 1) C dX6_isWeak_9 (by decide) ?_
    refine x_goto (tgt := 14) C dX6_isWeak_10 (by decide) ?_
    exact x_zret C E dX6_isWeak_14 (by first | (symm; first | (apply b2i_t; grind) | (apply b2i_f; grind))) (rfl)

set_option maxRecDepth 100000 in
set_option maxHeartbeats 4000000 in
theorem kX6_oneIf (l : Launch) (G : GG) (x : Int32) (h01 : x = 0 ∨ x = 1) : RO l G yX6_oneIf wsX6_oneIf ({ frames := 0, cells := 0, slots := 0, locals := 0 } : Room) [.int x] [] (.int x) := by
  refine RO.of (cc := cX6_oneIf) (maxL := 1) (ret := (some .int)) (by decide) rfl (Nat.le_of_ble_eq_true rfl) ?_
  intro cx hxl hxG C E
  subst hxl
  subst hxG
  show X cx (0, 0) [] [(0, .int x)] 0 []
  refine x_iload_n C 0 dX6_oneIf_0 rfl rfl ?_
  refine x_if_eq C 8 dX6_oneIf_1 (by decide) (fun c_1 => ?_) (fun c_1 => ?_)
  ·
    refine x_iconst (v := 0) C dX6_oneIf_8 (by decide) ?_
    exact x_iret C E dX6_oneIf_9 (by first | (rcases h01 with h | h <;> simp_all) | grind) (rfl)
  ·
    refine x_iconst (v := 1) C dX6_oneIf_4 (by decide) ?_
    refine x_goto (tgt := 9) C dX6_oneIf_5 (by decide) ?_
    exact x_iret C E dX6_oneIf_9 (by first | (rcases h01 with h | h <;> simp_all) | grind) (rfl)

set_option maxRecDepth 100000 in
set_option maxHeartbeats 4000000 in
theorem kX6_isError (l : Launch) (G : GG) (x : Int32)  : RO l G yX6_isError wsX6_isError ({ frames := 0, cells := 0, slots := 0, locals := 0 } : Room) [.int x] [] (.int (b2i (x < 0 ∧ x ≠ -1005))) := by
  refine RO.of (cc := cX6_isError) (maxL := 1) (ret := (some .boolean)) (by decide) rfl (Nat.le_of_ble_eq_true rfl) ?_
  intro cx hxl hxG C E
  subst hxl
  subst hxG
  show X cx (0, 0) [] [(0, .int x)] 0 []
  refine x_iload_n C 0 dX6_isError_0 rfl rfl ?_
  refine x_if_ge C 15 dX6_isError_1 (by decide) (fun c_1 => ?_) (fun c_1 => ?_)
  ·
    refine x_iconst (v := 0) C dX6_isError_15 (by decide) ?_
    exact x_zret C E dX6_isError_16 (by first | (symm; first | (apply b2i_t; grind) | (apply b2i_f; grind))) (rfl)
  ·
    refine x_iload_n C 0 dX6_isError_4 rfl rfl ?_
    refine x_sipush (v := (-1005)) C dX6_isError_5 (by decide) ?_
    refine x_icmp_eq C 15 dX6_isError_8 (by decide) (fun c_8 => ?_) (fun c_8 => ?_)
    ·
      refine x_iconst (v := 0) C dX6_isError_15 (by decide) ?_
      exact x_zret C E dX6_isError_16 (by first | (symm; first | (apply b2i_t; grind) | (apply b2i_f; grind))) (rfl)
    ·
      refine x_iconst (v := 1) C dX6_isError_11 (by decide) ?_
      refine x_goto (tgt := 16) C dX6_isError_12 (by decide) ?_
      exact x_zret C E dX6_isError_16 (by first | (symm; first | (apply b2i_t; grind) | (apply b2i_f; grind))) (rfl)

set_option maxRecDepth 100000 in
set_option maxHeartbeats 4000000 in
theorem kX6_isHot (l : Launch) (G : GG) (x : Int32)  : RO l G yX6_isHot wsX6_isHot ({ frames := 1, cells := 0, slots := 0, locals := 22 } : Room) [.int x] [] (.int (b2i (x ≠ -1 ∧ (3 ≤ x - x / 8 * 8 ∧ x - x / 8 * 8 ≤ 4)))) := by
  refine RO.of (cc := cX6_isHot) (maxL := 1) (ret := (some .boolean)) (by decide) rfl (Nat.le_of_ble_eq_true rfl) ?_
  intro cx hxl hxG C E
  subst hxl
  subst hxG
  show X cx (0, 0) [] [(0, .int x)] 0 []
  refine x_iload_n C 0 dX6_isHot_0 rfl rfl ?_
  refine x_iconst (v := (-1)) C dX6_isHot_1 (by decide) ?_
  refine x_icmp_eq C 21 dX6_isHot_2 (by decide) (fun c_2 => ?_) (fun c_2 => ?_)
  ·
    refine x_iconst (v := 0) C dX6_isHot_21 (by decide) ?_
    exact x_zret C E dX6_isHot_22 (by first | (symm; first | (apply b2i_t; grind) | (apply b2i_f; grind))) (rfl)
  ·
    refine x_iload_n C 0 dX6_isHot_5 rfl rfl ?_
    refine x_bipush (v := 8) C dX6_isHot_6 (by decide) ?_
    refine x_irem C (rfl) dX6_isHot_8 (by decide) ?_
    refine x_iconst (v := 3) C dX6_isHot_9 (by decide) ?_
    refine x_iconst (v := 4) C dX6_isHot_10 (by decide) ?_
    refine x_callSRO C ([.int (x - x / 8 * 8), .int 3, .int 4]) ([]) [] (na := 3) gX6_isHot_X6_isWithin rfl (by decide +kernel) rfl (kX6_isWithin (xl cx) (xG cx) (x - x / 8 * 8) 3 4) rfl (by decide) rfl rfl rfl ⟨by decide, by decide⟩ (Nat.le_of_ble_eq_true rfl) ⟨by decide, by decide⟩ dX6_isHot_11 ?_
    refine x_ifb_eq (P := 3 ≤ (x - x / 8 * 8) ∧ (x - x / 8 * 8) ≤ 4) C 21 dX6_isHot_14 (by decide) (fun c_14 => ?_) (fun c_14 => ?_)
    ·
      refine x_iconst (v := 0) C dX6_isHot_21 (by decide) ?_
      exact x_zret C E dX6_isHot_22 (by first | (symm; first | (apply b2i_t; grind) | (apply b2i_f; grind))) (rfl)
    ·
      refine x_iconst (v := 1) C dX6_isHot_17 (by decide) ?_
      refine x_goto (tgt := 22) C dX6_isHot_18 (by decide) ?_
      exact x_zret C E dX6_isHot_22 (by first | (symm; first | (apply b2i_t; grind) | (apply b2i_f; grind))) (rfl)

theorem i_kX2_has_X2 : ∀ w ∈ u_ws RX2 TX2 7, w ∈ wsX2_has := by decide +kernel
theorem m_kX2_has_1 : (Cond.fieldLink RX2 9 "LampRacks$Lamps" "size" "I" : Cond) ∈ wsX2_has := by decide +kernel
theorem m_kX2_has_2 : (Cond.static yX6_isWithin : Cond) ∈ wsX2_has := by decide +kernel
theorem m_kX2_has_3 : (Cond.initialized RX6 : Cond) ∈ wsX2_has := by decide +kernel
set_option maxRecDepth 100000 in
set_option maxHeartbeats 4000000 in
theorem kX2_has (l : Launch) (G : GG) (b : Nat) (q1 : Nat) (q2 : Nat) (q3 : Nat) (q4 : Nat) (q5 : Nat) (q6 : Nat) (n : Nat) (fb : Nat → Int32) (fs : Nat → Int32) (fc : Nat → Int32) (fw : Nat → Int32) (fu : Nat → Int32) (fe : Nat → Int32) (x : Int32)  : RO l G yX2_has wsX2_has ({ frames := 1, cells := 0, slots := 0, locals := 22 } : Room) [.ref b, .int x] [(b, .inr (2, [.int (nI n), .ref q1, .ref q2, .ref q3, .ref q4, .ref q5, .ref q6])), (q1, .inl (G.2.1, 60, .inl fb)), (q2, .inl (G.2.1, 60, .inl fs)), (q3, .inl (G.2.1, 60, .inl fc)), (q4, .inl (G.2.1, 60, .inl fw)), (q5, .inl (G.2.1, 60, .inl fu)), (q6, .inl (G.2.1, 60, .inl fe))] (.int (b2i (0 ≤ x ∧ x ≤ nI n - 1))) := by
  refine RO.of (cc := cX2_has) (maxL := 2) (ret := (some .boolean)) (by decide) rfl (Nat.le_of_ble_eq_true rfl) ?_
  intro cx hxl hxG C E
  subst hxl
  subst hxG
  show X cx (0, 0) [(b, .inr (2, [.int (nI n), .ref q1, .ref q2, .ref q3, .ref q4, .ref q5, .ref q6])), (q1, .inl ((xG cx).2.1, 60, .inl fb)), (q2, .inl ((xG cx).2.1, 60, .inl fs)), (q3, .inl ((xG cx).2.1, 60, .inl fc)), (q4, .inl ((xG cx).2.1, 60, .inl fw)), (q5, .inl ((xG cx).2.1, 60, .inl fu)), (q6, .inl ((xG cx).2.1, 60, .inl fe))] [(0, .ref b), (1, .int x)] 0 []
  refine x_iload_n C 1 dX2_has_0 rfl rfl ?_
  refine x_iconst (v := 0) C dX2_has_1 (by decide) ?_
  refine x_aload_n C 0 dX2_has_2 rfl rfl ?_
  refine x_getf C 0 rfl rfl i_kX2_has_X2 0 (by decide) m_kX2_has_1 rfl rfl dX2_has_3 ?_
  refine x_iconst (v := 1) C dX2_has_6 (by decide) ?_
  refine x_isub C (rfl) dX2_has_7 ?_
  refine x_callNRO C ([.int x, .int 0, .int ((nI n) - 1)]) ([]) [] (na := 3) (host := "LampRacks") gX2_has_X6_isWithin_n38 (by decide +kernel) m_kX2_has_2 m_kX2_has_3 rfl (by decide +kernel) rfl (kX6_isWithin (xl cx) (xG cx) x 0 ((nI n) - 1)) rfl (by decide) rfl rfl rfl ⟨by decide, by decide⟩ (Nat.le_of_ble_eq_true rfl) ⟨by decide, by decide⟩ dX2_has_8 ?_
  exact x_zret C E dX2_has_11 (rfl) (rfl)

theorem i_kX2_isFull_X2 : ∀ w ∈ u_ws RX2 TX2 7, w ∈ wsX2_isFull := by decide +kernel
theorem m_kX2_isFull_1 : (Cond.fieldLink RX2 9 "LampRacks$Lamps" "size" "I" : Cond) ∈ wsX2_isFull := by decide +kernel
set_option maxRecDepth 100000 in
set_option maxHeartbeats 4000000 in
theorem kX2_isFull (l : Launch) (G : GG) (b : Nat) (q1 : Nat) (q2 : Nat) (q3 : Nat) (q4 : Nat) (q5 : Nat) (q6 : Nat) (n : Nat) (fb : Nat → Int32) (fs : Nat → Int32) (fc : Nat → Int32) (fw : Nat → Int32) (fu : Nat → Int32) (fe : Nat → Int32) (hn : n ≤ 60) : RO l G yX2_isFull wsX2_isFull ({ frames := 0, cells := 0, slots := 0, locals := 0 } : Room) [.ref b] [(b, .inr (2, [.int (nI n), .ref q1, .ref q2, .ref q3, .ref q4, .ref q5, .ref q6])), (q1, .inl (G.2.1, 60, .inl fb)), (q2, .inl (G.2.1, 60, .inl fs)), (q3, .inl (G.2.1, 60, .inl fc)), (q4, .inl (G.2.1, 60, .inl fw)), (q5, .inl (G.2.1, 60, .inl fu)), (q6, .inl (G.2.1, 60, .inl fe))] (.int (b2i (60 ≤ n))) := by
  refine RO.of (cc := cX2_isFull) (maxL := 1) (ret := (some .boolean)) (by decide) rfl (Nat.le_of_ble_eq_true rfl) ?_
  intro cx hxl hxG C E
  subst hxl
  subst hxG
  show X cx (0, 0) [(b, .inr (2, [.int (nI n), .ref q1, .ref q2, .ref q3, .ref q4, .ref q5, .ref q6])), (q1, .inl ((xG cx).2.1, 60, .inl fb)), (q2, .inl ((xG cx).2.1, 60, .inl fs)), (q3, .inl ((xG cx).2.1, 60, .inl fc)), (q4, .inl ((xG cx).2.1, 60, .inl fw)), (q5, .inl ((xG cx).2.1, 60, .inl fu)), (q6, .inl ((xG cx).2.1, 60, .inl fe))] [(0, .ref b)] 0 []
  refine x_aload_n C 0 dX2_isFull_0 rfl rfl ?_
  refine x_getf C 0 rfl rfl i_kX2_isFull_X2 0 (by decide) m_kX2_isFull_1 rfl rfl dX2_isFull_1 ?_
  refine x_bipush (v := 60) C dX2_isFull_4 (by decide) ?_
  refine x_icmp_lt C 13 dX2_isFull_6 (by decide) (fun c_6 => ?_) (fun c_6 => ?_)
  ·
    have n_6 : n < 60 := (nI_ltI (a := n) (b := 60) (by omega) (by omega)).mp c_6
    refine x_iconst (v := 0) C dX2_isFull_13 (by decide) ?_
    exact x_zret C E dX2_isFull_14 (by first | (symm; first | (apply b2i_t; grind) | (apply b2i_f; grind))) (rfl)
  ·
    have n_6 : ¬ (n < 60) := fun q => c_6 ((nI_ltI (a := n) (b := 60) (by omega) (by omega)).mpr q)
    refine x_iconst (v := 1) C dX2_isFull_9 (by decide) ?_
    refine x_goto (tgt := 14) C dX2_isFull_10 (by decide) ?_
    exact x_zret C E dX2_isFull_14 (by first | (symm; first | (apply b2i_t; grind) | (apply b2i_f; grind))) (rfl)

theorem i_kX2_isDead_X2 : ∀ w ∈ u_ws RX2 TX2 7, w ∈ wsX2_isDead := by decide +kernel
theorem m_kX2_isDead_1 : (Cond.fieldLink RX2 31 "LampRacks$Lamps" "end" "[I" : Cond) ∈ wsX2_isDead := by decide +kernel
set_option maxRecDepth 100000 in
set_option maxHeartbeats 4000000 in
theorem kX2_isDead (l : Launch) (G : GG) (b : Nat) (q1 : Nat) (q2 : Nat) (q3 : Nat) (q4 : Nat) (q5 : Nat) (q6 : Nat) (n : Nat) (fb : Nat → Int32) (fs : Nat → Int32) (fc : Nat → Int32) (fw : Nat → Int32) (fu : Nat → Int32) (fe : Nat → Int32) (k : Nat) (hk : k < 60) : RO l G yX2_isDead wsX2_isDead ({ frames := 0, cells := 0, slots := 0, locals := 0 } : Room) [.ref b, .int (nI k)] [(b, .inr (2, [.int (nI n), .ref q1, .ref q2, .ref q3, .ref q4, .ref q5, .ref q6])), (q1, .inl (G.2.1, 60, .inl fb)), (q2, .inl (G.2.1, 60, .inl fs)), (q3, .inl (G.2.1, 60, .inl fc)), (q4, .inl (G.2.1, 60, .inl fw)), (q5, .inl (G.2.1, 60, .inl fu)), (q6, .inl (G.2.1, 60, .inl fe))] (.int (b2i (fe k ≠ -1))) := by
  refine RO.of (cc := cX2_isDead) (maxL := 2) (ret := (some .boolean)) (by decide) rfl (Nat.le_of_ble_eq_true rfl) ?_
  intro cx hxl hxG C E
  subst hxl
  subst hxG
  show X cx (0, 0) [(b, .inr (2, [.int (nI n), .ref q1, .ref q2, .ref q3, .ref q4, .ref q5, .ref q6])), (q1, .inl ((xG cx).2.1, 60, .inl fb)), (q2, .inl ((xG cx).2.1, 60, .inl fs)), (q3, .inl ((xG cx).2.1, 60, .inl fc)), (q4, .inl ((xG cx).2.1, 60, .inl fw)), (q5, .inl ((xG cx).2.1, 60, .inl fu)), (q6, .inl ((xG cx).2.1, 60, .inl fe))] [(0, .ref b), (1, .int (nI k))] 0 []
  refine x_aload_n C 0 dX2_isDead_0 rfl rfl ?_
  refine x_getf C 0 rfl rfl i_kX2_isDead_X2 6 (by decide) m_kX2_isDead_1 rfl rfl dX2_isDead_1 ?_
  refine x_iload_n C 1 dX2_isDead_4 rfl rfl ?_
  refine x_iald C 6 rfl rfl (vp_in_nI (by omega) (by decide)) (congrArg fe (nI_clamp (by omega))) dX2_isDead_5 ?_
  refine x_iconst (v := (-1)) C dX2_isDead_6 (by decide) ?_
  refine x_icmp_eq C 14 dX2_isDead_7 (by decide) (fun c_7 => ?_) (fun c_7 => ?_)
  ·
    refine x_iconst (v := 0) C dX2_isDead_14 (by decide) ?_
    exact x_zret C E dX2_isDead_15 (by first | (symm; first | (apply b2i_t; grind) | (apply b2i_f; grind))) (rfl)
  ·
    refine x_iconst (v := 1) C dX2_isDead_10 (by decide) ?_
    refine x_goto (tgt := 15) C dX2_isDead_11 (by decide) ?_
    exact x_zret C E dX2_isDead_15 (by first | (symm; first | (apply b2i_t; grind) | (apply b2i_f; grind))) (rfl)

theorem i_kX2_isDeadOf_X2 : ∀ w ∈ u_ws RX2 TX2 7, w ∈ wsX2_isDeadOf := by decide +kernel
theorem m_kX2_isDeadOf_1 : (Cond.fieldLink RX2 15 "LampRacks$Lamps" "batch" "[I" : Cond) ∈ wsX2_isDeadOf := by decide +kernel
set_option maxRecDepth 100000 in
set_option maxHeartbeats 4000000 in
theorem kX2_isDeadOf (l : Launch) (G : GG) (b : Nat) (q1 : Nat) (q2 : Nat) (q3 : Nat) (q4 : Nat) (q5 : Nat) (q6 : Nat) (n : Nat) (fb : Nat → Int32) (fs : Nat → Int32) (fc : Nat → Int32) (fw : Nat → Int32) (fu : Nat → Int32) (fe : Nat → Int32) (k : Nat) (x : Int32) (hk : k < 60) : RO l G yX2_isDeadOf wsX2_isDeadOf ({ frames := 1, cells := 0, slots := 0, locals := 21 } : Room) [.ref b, .int (nI k), .int x] [(b, .inr (2, [.int (nI n), .ref q1, .ref q2, .ref q3, .ref q4, .ref q5, .ref q6])), (q1, .inl (G.2.1, 60, .inl fb)), (q2, .inl (G.2.1, 60, .inl fs)), (q3, .inl (G.2.1, 60, .inl fc)), (q4, .inl (G.2.1, 60, .inl fw)), (q5, .inl (G.2.1, 60, .inl fu)), (q6, .inl (G.2.1, 60, .inl fe))] (.int (b2i (fb k = x ∧ fe k ≠ -1))) := by
  refine RO.of (cc := cX2_isDeadOf) (maxL := 3) (ret := (some .boolean)) (by decide) rfl (Nat.le_of_ble_eq_true rfl) ?_
  intro cx hxl hxG C E
  subst hxl
  subst hxG
  show X cx (0, 0) [(b, .inr (2, [.int (nI n), .ref q1, .ref q2, .ref q3, .ref q4, .ref q5, .ref q6])), (q1, .inl ((xG cx).2.1, 60, .inl fb)), (q2, .inl ((xG cx).2.1, 60, .inl fs)), (q3, .inl ((xG cx).2.1, 60, .inl fc)), (q4, .inl ((xG cx).2.1, 60, .inl fw)), (q5, .inl ((xG cx).2.1, 60, .inl fu)), (q6, .inl ((xG cx).2.1, 60, .inl fe))] [(0, .ref b), (1, .int (nI k)), (2, .int x)] 0 []
  refine x_aload_n C 0 dX2_isDeadOf_0 rfl rfl ?_
  refine x_getf C 0 rfl rfl i_kX2_isDeadOf_X2 1 (by decide) m_kX2_isDeadOf_1 rfl rfl dX2_isDeadOf_1 ?_
  refine x_iload_n C 1 dX2_isDeadOf_4 rfl rfl ?_
  refine x_iald C 1 rfl rfl (vp_in_nI (by omega) (by decide)) (congrArg fb (nI_clamp (by omega))) dX2_isDeadOf_5 ?_
  refine x_iload_n C 2 dX2_isDeadOf_6 rfl rfl ?_
  refine x_icmp_ne C 22 dX2_isDeadOf_7 (by decide) (fun c_7 => ?_) (fun c_7 => ?_)
  ·
    refine x_iconst (v := 0) C dX2_isDeadOf_22 (by decide) ?_
    exact x_zret C E dX2_isDeadOf_23 (by first | (symm; first | (apply b2i_t; grind) | (apply b2i_f; grind))) (rfl)
  ·
    refine x_aload_n C 0 dX2_isDeadOf_10 rfl rfl ?_
    refine x_iload_n C 1 dX2_isDeadOf_11 rfl rfl ?_
    refine x_callVRO C ([.int (nI k)]) ([]) [0, 1, 2, 3, 4, 5, 6] (k0 := 0) (na := 1) gX2_isDeadOf_X2_isDead rfl (by decide +kernel) rfl rfl rfl (kX2_isDead (xl cx) (xG cx) b q1 q2 q3 q4 q5 q6 n fb fs fc fw fu fe k (by first | assumption | rfl | omega | decide)) rfl (by decide) rfl rfl rfl ⟨by decide, by decide⟩ (Nat.le_of_ble_eq_true rfl) ⟨by decide, by decide⟩ dX2_isDeadOf_12 ?_
    refine x_ifb_eq (P := fe k ≠ -1) C 22 dX2_isDeadOf_15 (by decide) (fun c_15 => ?_) (fun c_15 => ?_)
    ·
      refine x_iconst (v := 0) C dX2_isDeadOf_22 (by decide) ?_
      exact x_zret C E dX2_isDeadOf_23 (by first | (symm; first | (apply b2i_t; grind) | (apply b2i_f; grind))) (rfl)
    ·
      refine x_iconst (v := 1) C dX2_isDeadOf_18 (by decide) ?_
      refine x_goto (tgt := 23) C dX2_isDeadOf_19 (by decide) ?_
      exact x_zret C E dX2_isDeadOf_23 (by first | (symm; first | (apply b2i_t; grind) | (apply b2i_f; grind))) (rfl)

theorem i_kX2_hoursCounted_X2 : ∀ w ∈ u_ws RX2 TX2 7, w ∈ wsX2_hoursCounted := by decide +kernel
theorem m_kX2_hoursCounted_1 : (Cond.fieldLink RX2 25 "LampRacks$Lamps" "wear" "[I" : Cond) ∈ wsX2_hoursCounted := by decide +kernel
set_option maxRecDepth 100000 in
set_option maxHeartbeats 4000000 in
theorem kX2_hoursCounted (l : Launch) (G : GG) (b : Nat) (q1 : Nat) (q2 : Nat) (q3 : Nat) (q4 : Nat) (q5 : Nat) (q6 : Nat) (n : Nat) (fb : Nat → Int32) (fs : Nat → Int32) (fc : Nat → Int32) (fw : Nat → Int32) (fu : Nat → Int32) (fe : Nat → Int32) (k : Nat) (hk : k < 60) : RO l G yX2_hoursCounted wsX2_hoursCounted ({ frames := 0, cells := 0, slots := 0, locals := 0 } : Room) [.ref b, .int (nI k)] [(b, .inr (2, [.int (nI n), .ref q1, .ref q2, .ref q3, .ref q4, .ref q5, .ref q6])), (q1, .inl (G.2.1, 60, .inl fb)), (q2, .inl (G.2.1, 60, .inl fs)), (q3, .inl (G.2.1, 60, .inl fc)), (q4, .inl (G.2.1, 60, .inl fw)), (q5, .inl (G.2.1, 60, .inl fu)), (q6, .inl (G.2.1, 60, .inl fe))] (.int (fw k / 10)) := by
  refine RO.of (cc := cX2_hoursCounted) (maxL := 2) (ret := (some .int)) (by decide) rfl (Nat.le_of_ble_eq_true rfl) ?_
  intro cx hxl hxG C E
  subst hxl
  subst hxG
  show X cx (0, 0) [(b, .inr (2, [.int (nI n), .ref q1, .ref q2, .ref q3, .ref q4, .ref q5, .ref q6])), (q1, .inl ((xG cx).2.1, 60, .inl fb)), (q2, .inl ((xG cx).2.1, 60, .inl fs)), (q3, .inl ((xG cx).2.1, 60, .inl fc)), (q4, .inl ((xG cx).2.1, 60, .inl fw)), (q5, .inl ((xG cx).2.1, 60, .inl fu)), (q6, .inl ((xG cx).2.1, 60, .inl fe))] [(0, .ref b), (1, .int (nI k))] 0 []
  refine x_aload_n C 0 dX2_hoursCounted_0 rfl rfl ?_
  refine x_getf C 0 rfl rfl i_kX2_hoursCounted_X2 4 (by decide) m_kX2_hoursCounted_1 rfl rfl dX2_hoursCounted_1 ?_
  refine x_iload_n C 1 dX2_hoursCounted_4 rfl rfl ?_
  refine x_iald C 4 rfl rfl (vp_in_nI (by omega) (by decide)) (congrArg fw (nI_clamp (by omega))) dX2_hoursCounted_5 ?_
  refine x_bipush (v := 10) C dX2_hoursCounted_6 (by decide) ?_
  refine x_idiv C (rfl) dX2_hoursCounted_8 (by decide) ?_
  exact x_iret C E dX2_hoursCounted_9 (rfl) (rfl)

theorem m_kX2_hoursLeft_0 : (Cond.methodLink RX2 46 Lib.Math.max.name : Cond) ∈ wsX2_hoursLeft := by decide +kernel
theorem m_kX2_hoursLeft_1 : (Cond.static Lib.Math.max.name : Cond) ∈ wsX2_hoursLeft := by decide +kernel
theorem m_kX2_hoursLeft_2 : (Cond.initialized "java/lang/Math" : Cond) ∈ wsX2_hoursLeft := by decide +kernel
theorem m_kX2_hoursLeft_3 : (Cond.code Lib.Math.max.name Lib.Math.max.code 2 (some .int) : Cond) ∈ wsX2_hoursLeft := by decide +kernel
theorem i_kX2_hoursLeft_X2 : ∀ w ∈ u_ws RX2 TX2 7, w ∈ wsX2_hoursLeft := by decide +kernel
theorem m_kX2_hoursLeft_5 : (Cond.fieldLink RX2 22 "LampRacks$Lamps" "canLast" "[I" : Cond) ∈ wsX2_hoursLeft := by decide +kernel
theorem m_kX2_hoursLeft_6 : (Cond.fieldLink RX2 25 "LampRacks$Lamps" "wear" "[I" : Cond) ∈ wsX2_hoursLeft := by decide +kernel
set_option maxRecDepth 100000 in
set_option maxHeartbeats 4000000 in
theorem kX2_hoursLeft (l : Launch) (G : GG) (b : Nat) (q1 : Nat) (q2 : Nat) (q3 : Nat) (q4 : Nat) (q5 : Nat) (q6 : Nat) (n : Nat) (fb : Nat → Int32) (fs : Nat → Int32) (fc : Nat → Int32) (fw : Nat → Int32) (fu : Nat → Int32) (fe : Nat → Int32) (k : Nat) (x : Int32) (hk : k < 60) : RO l G yX2_hoursLeft wsX2_hoursLeft ({ frames := 1, cells := 0, slots := 0, locals := 13 } : Room) [.ref b, .int (nI k), .int x] [(b, .inr (2, [.int (nI n), .ref q1, .ref q2, .ref q3, .ref q4, .ref q5, .ref q6])), (q1, .inl (G.2.1, 60, .inl fb)), (q2, .inl (G.2.1, 60, .inl fs)), (q3, .inl (G.2.1, 60, .inl fc)), (q4, .inl (G.2.1, 60, .inl fw)), (q5, .inl (G.2.1, 60, .inl fu)), (q6, .inl (G.2.1, 60, .inl fe))] (.int ((10 * fc k - fw k + mx1 x - 1) / mx1 x)) := by
  refine RO.of (cc := cX2_hoursLeft) (maxL := 5) (ret := (some .int)) (by decide) rfl (Nat.le_of_ble_eq_true rfl) ?_
  intro cx hxl hxG C E
  subst hxl
  subst hxG
  show X cx (0, 0) [(b, .inr (2, [.int (nI n), .ref q1, .ref q2, .ref q3, .ref q4, .ref q5, .ref q6])), (q1, .inl ((xG cx).2.1, 60, .inl fb)), (q2, .inl ((xG cx).2.1, 60, .inl fs)), (q3, .inl ((xG cx).2.1, 60, .inl fc)), (q4, .inl ((xG cx).2.1, 60, .inl fw)), (q5, .inl ((xG cx).2.1, 60, .inl fu)), (q6, .inl ((xG cx).2.1, 60, .inl fe))] [(0, .ref b), (1, .int (nI k)), (2, .int x)] 0 []
  refine x_iconst (v := 1) C dX2_hoursLeft_0 (by decide) ?_
  refine x_iload_n C 2 dX2_hoursLeft_1 rfl rfl ?_
  refine x_mmax C m_kX2_hoursLeft_0 m_kX2_hoursLeft_1 m_kX2_hoursLeft_2 m_kX2_hoursLeft_3 ⟨by decide, Nat.le_of_ble_eq_true rfl, by decide, by decide⟩ dX2_hoursLeft_2 ?_
  refine x_top (y := mx1 x) (rfl) ?_
  refine x_istore_n C [(3, .int (mx1 x)), (0, .ref b), (1, .int (nI k)), (2, .int x)] dX2_hoursLeft_5 rfl (by decide) rfl ?_
  refine x_bipush (v := 10) C dX2_hoursLeft_6 (by decide) ?_
  refine x_aload_n C 1 dX2_hoursLeft_8 rfl rfl ?_
  refine x_getf C 0 rfl rfl i_kX2_hoursLeft_X2 3 (by decide) m_kX2_hoursLeft_5 rfl rfl dX2_hoursLeft_9 ?_
  refine x_iload_n C 2 dX2_hoursLeft_12 rfl rfl ?_
  refine x_iald C 3 rfl rfl (vp_in_nI (by omega) (by decide)) (congrArg fc (nI_clamp (by omega))) dX2_hoursLeft_13 ?_
  refine x_imul C (rfl) dX2_hoursLeft_14 ?_
  refine x_aload_n C 1 dX2_hoursLeft_15 rfl rfl ?_
  refine x_getf C 0 rfl rfl i_kX2_hoursLeft_X2 4 (by decide) m_kX2_hoursLeft_6 rfl rfl dX2_hoursLeft_16 ?_
  refine x_iload_n C 2 dX2_hoursLeft_19 rfl rfl ?_
  refine x_iald C 4 rfl rfl (vp_in_nI (by omega) (by decide)) (congrArg fw (nI_clamp (by omega))) dX2_hoursLeft_20 ?_
  refine x_isub C (rfl) dX2_hoursLeft_21 ?_
  refine x_istore C [(4, .int ((10 * (fc k)) - (fw k))), (3, .int (mx1 x)), (0, .ref b), (1, .int (nI k)), (2, .int x)] dX2_hoursLeft_22 (by decide) rfl ?_
  refine x_iload C 0 dX2_hoursLeft_24 rfl ?_
  refine x_iload_n C 1 dX2_hoursLeft_26 rfl rfl ?_
  refine x_iadd C (rfl) dX2_hoursLeft_27 ?_
  refine x_iconst (v := 1) C dX2_hoursLeft_28 (by decide) ?_
  refine x_isub C (rfl) dX2_hoursLeft_29 ?_
  refine x_iload_n C 1 dX2_hoursLeft_30 rfl rfl ?_
  refine x_idiv C (rfl) dX2_hoursLeft_31 (mx1_ne x) ?_
  exact x_iret C E dX2_hoursLeft_32 (rfl) (rfl)

theorem i_kX2_burn_X2 : ∀ w ∈ u_ws RX2 TX2 7, w ∈ wsX2_burn := by decide +kernel
theorem m_kX2_burn_1 : (Cond.fieldLink RX2 28 "LampRacks$Lamps" "burned" "[I" : Cond) ∈ wsX2_burn := by decide +kernel
theorem m_kX2_burn_2 : (Cond.fieldLink RX2 25 "LampRacks$Lamps" "wear" "[I" : Cond) ∈ wsX2_burn := by decide +kernel
set_option maxRecDepth 100000 in
set_option maxHeartbeats 4000000 in
theorem kX2_burn (l : Launch) (G : GG) (b : Nat) (q1 : Nat) (q2 : Nat) (q3 : Nat) (q4 : Nat) (q5 : Nat) (q6 : Nat) (n : Nat) (fb : Nat → Int32) (fs : Nat → Int32) (fc : Nat → Int32) (fw : Nat → Int32) (fu : Nat → Int32) (fe : Nat → Int32) (k : Nat) (x : Int32) (h : Int32) (hk : k < 60) : MU l G yX2_burn wsX2_burn ({ frames := 0, cells := 0, slots := 0, locals := 0 } : Room) [.ref b, .int (nI k), .int x, .int h] [(b, .inr (2, [.int (nI n), .ref q1, .ref q2, .ref q3, .ref q4, .ref q5, .ref q6])), (q1, .inl (G.2.1, 60, .inl fb)), (q2, .inl (G.2.1, 60, .inl fs)), (q3, .inl (G.2.1, 60, .inl fc)), (q4, .inl (G.2.1, 60, .inl fw)), (q5, .inl (G.2.1, 60, .inl fu)), (q6, .inl (G.2.1, 60, .inl fe))] none [(b, .inr (2, [.int (nI n), .ref q1, .ref q2, .ref q3, .ref q4, .ref q5, .ref q6])), (q1, .inl (G.2.1, 60, .inl fb)), (q2, .inl (G.2.1, 60, .inl fs)), (q3, .inl (G.2.1, 60, .inl fc)), (q4, .inl (G.2.1, 60, .inl (upd fw k (fw k + h * x)))), (q5, .inl (G.2.1, 60, .inl (upd fu k (fu k + h)))), (q6, .inl (G.2.1, 60, .inl fe))] := by
  refine MU.of (cc := cX2_burn) (maxL := 4) (ret := none) (by decide) rfl (Nat.le_of_ble_eq_true rfl) ?_
  intro cx hxl hxG C M E
  subst hxl
  subst hxG
  show X cx (0, 0) [(b, .inr (2, [.int (nI n), .ref q1, .ref q2, .ref q3, .ref q4, .ref q5, .ref q6])), (q1, .inl ((xG cx).2.1, 60, .inl fb)), (q2, .inl ((xG cx).2.1, 60, .inl fs)), (q3, .inl ((xG cx).2.1, 60, .inl fc)), (q4, .inl ((xG cx).2.1, 60, .inl fw)), (q5, .inl ((xG cx).2.1, 60, .inl fu)), (q6, .inl ((xG cx).2.1, 60, .inl fe))] [(0, .ref b), (1, .int (nI k)), (2, .int x), (3, .int h)] 0 []
  refine x_aload_n C 0 dX2_burn_0 rfl rfl ?_
  refine x_getf C 0 rfl rfl i_kX2_burn_X2 5 (by decide) m_kX2_burn_1 rfl rfl dX2_burn_1 ?_
  refine x_iload_n C 1 dX2_burn_4 rfl rfl ?_
  refine x_dup2 C dX2_burn_5 rfl rfl ?_
  refine x_iald C 5 rfl rfl (vp_in_nI (by omega) (by decide)) (congrArg fu (nI_clamp (by omega))) dX2_burn_6 ?_
  refine x_iload_n C 3 dX2_burn_7 rfl rfl ?_
  refine x_iadd C (rfl) dX2_burn_8 ?_
  refine x_iast C M 5 rfl rfl (vp_in_nI (by omega) (by decide)) (nI_clamp (by omega)) [(b, .inr (2, [.int (nI n), .ref q1, .ref q2, .ref q3, .ref q4, .ref q5, .ref q6])), (q1, .inl ((xG cx).2.1, 60, .inl fb)), (q2, .inl ((xG cx).2.1, 60, .inl fs)), (q3, .inl ((xG cx).2.1, 60, .inl fc)), (q4, .inl ((xG cx).2.1, 60, .inl fw)), (q5, .inl ((xG cx).2.1, 60, .inl (upd fu k ((fu k) + h)))), (q6, .inl ((xG cx).2.1, 60, .inl fe))] rfl dX2_burn_9 ?_
  refine x_aload_n C 0 dX2_burn_10 rfl rfl ?_
  refine x_getf C 0 rfl rfl i_kX2_burn_X2 4 (by decide) m_kX2_burn_2 rfl rfl dX2_burn_11 ?_
  refine x_iload_n C 1 dX2_burn_14 rfl rfl ?_
  refine x_dup2 C dX2_burn_15 rfl rfl ?_
  refine x_iald C 4 rfl rfl (vp_in_nI (by omega) (by decide)) (congrArg fw (nI_clamp (by omega))) dX2_burn_16 ?_
  refine x_iload_n C 3 dX2_burn_17 rfl rfl ?_
  refine x_iload_n C 2 dX2_burn_18 rfl rfl ?_
  refine x_imul C (rfl) dX2_burn_19 ?_
  refine x_iadd C (rfl) dX2_burn_20 ?_
  refine x_iast C M 4 rfl rfl (vp_in_nI (by omega) (by decide)) (nI_clamp (by omega)) [(b, .inr (2, [.int (nI n), .ref q1, .ref q2, .ref q3, .ref q4, .ref q5, .ref q6])), (q1, .inl ((xG cx).2.1, 60, .inl fb)), (q2, .inl ((xG cx).2.1, 60, .inl fs)), (q3, .inl ((xG cx).2.1, 60, .inl fc)), (q4, .inl ((xG cx).2.1, 60, .inl (upd fw k ((fw k) + (h * x))))), (q5, .inl ((xG cx).2.1, 60, .inl (upd fu k ((fu k) + h)))), (q6, .inl ((xG cx).2.1, 60, .inl fe))] rfl dX2_burn_21 ?_
  exact x_vret C E dX2_burn_22 (rfl)

theorem i_kX2_append_X2 : ∀ w ∈ u_ws RX2 TX2 7, w ∈ wsX2_append := by decide +kernel
theorem m_kX2_append_1 : (Cond.fieldLink RX2 9 "LampRacks$Lamps" "size" "I" : Cond) ∈ wsX2_append := by decide +kernel
theorem m_kX2_append_2 : (Cond.fieldLink RX2 15 "LampRacks$Lamps" "batch" "[I" : Cond) ∈ wsX2_append := by decide +kernel
theorem m_kX2_append_3 : (Cond.fieldLink RX2 19 "LampRacks$Lamps" "spot" "[I" : Cond) ∈ wsX2_append := by decide +kernel
theorem m_kX2_append_4 : (Cond.fieldLink RX2 22 "LampRacks$Lamps" "canLast" "[I" : Cond) ∈ wsX2_append := by decide +kernel
theorem m_kX2_append_5 : (Cond.fieldLink RX2 25 "LampRacks$Lamps" "wear" "[I" : Cond) ∈ wsX2_append := by decide +kernel
theorem m_kX2_append_6 : (Cond.fieldLink RX2 28 "LampRacks$Lamps" "burned" "[I" : Cond) ∈ wsX2_append := by decide +kernel
theorem m_kX2_append_7 : (Cond.fieldLink RX2 31 "LampRacks$Lamps" "end" "[I" : Cond) ∈ wsX2_append := by decide +kernel
set_option maxRecDepth 100000 in
set_option maxHeartbeats 4000000 in
theorem kX2_append (l : Launch) (G : GG) (b : Nat) (q1 : Nat) (q2 : Nat) (q3 : Nat) (q4 : Nat) (q5 : Nat) (q6 : Nat) (n : Nat) (fb : Nat → Int32) (fs : Nat → Int32) (fc : Nat → Int32) (fw : Nat → Int32) (fu : Nat → Int32) (fe : Nat → Int32) (ib : Int32) (is : Int32) (ih : Int32) (hn : n < 60) : MU l G yX2_append wsX2_append ({ frames := 0, cells := 0, slots := 0, locals := 0 } : Room) [.ref b, .int ib, .int is, .int ih] [(b, .inr (2, [.int (nI n), .ref q1, .ref q2, .ref q3, .ref q4, .ref q5, .ref q6])), (q1, .inl (G.2.1, 60, .inl fb)), (q2, .inl (G.2.1, 60, .inl fs)), (q3, .inl (G.2.1, 60, .inl fc)), (q4, .inl (G.2.1, 60, .inl fw)), (q5, .inl (G.2.1, 60, .inl fu)), (q6, .inl (G.2.1, 60, .inl fe))] (some (.int (nI n))) [(b, .inr (2, [.int (nI (n + 1)), .ref q1, .ref q2, .ref q3, .ref q4, .ref q5, .ref q6])), (q1, .inl (G.2.1, 60, .inl (upd fb n ib))), (q2, .inl (G.2.1, 60, .inl (upd fs n is))), (q3, .inl (G.2.1, 60, .inl (upd fc n ih))), (q4, .inl (G.2.1, 60, .inl (upd fw n 0))), (q5, .inl (G.2.1, 60, .inl (upd fu n 0))), (q6, .inl (G.2.1, 60, .inl (upd fe n (-1))))] := by
  refine MU.of (cc := cX2_append) (maxL := 5) (ret := (some .int)) (by decide) rfl (Nat.le_of_ble_eq_true rfl) ?_
  intro cx hxl hxG C M E
  subst hxl
  subst hxG
  show X cx (0, 0) [(b, .inr (2, [.int (nI n), .ref q1, .ref q2, .ref q3, .ref q4, .ref q5, .ref q6])), (q1, .inl ((xG cx).2.1, 60, .inl fb)), (q2, .inl ((xG cx).2.1, 60, .inl fs)), (q3, .inl ((xG cx).2.1, 60, .inl fc)), (q4, .inl ((xG cx).2.1, 60, .inl fw)), (q5, .inl ((xG cx).2.1, 60, .inl fu)), (q6, .inl ((xG cx).2.1, 60, .inl fe))] [(0, .ref b), (1, .int ib), (2, .int is), (3, .int ih)] 0 []
  refine x_aload_n C 0 dX2_append_0 rfl rfl ?_
  refine x_getf C 0 rfl rfl i_kX2_append_X2 0 (by decide) m_kX2_append_1 rfl rfl dX2_append_1 ?_
  refine x_istore C [(4, .int (nI n)), (0, .ref b), (1, .int ib), (2, .int is), (3, .int ih)] dX2_append_4 (by decide) rfl ?_
  refine x_aload_n C 1 dX2_append_6 rfl rfl ?_
  refine x_getf C 0 rfl rfl i_kX2_append_X2 1 (by decide) m_kX2_append_2 rfl rfl dX2_append_7 ?_
  refine x_iload C 0 dX2_append_10 rfl ?_
  refine x_iload_n C 2 dX2_append_12 rfl rfl ?_
  refine x_iast C M 1 rfl rfl (vp_in_nI (by omega) (by decide)) (nI_clamp (by omega)) [(b, .inr (2, [.int (nI n), .ref q1, .ref q2, .ref q3, .ref q4, .ref q5, .ref q6])), (q1, .inl ((xG cx).2.1, 60, .inl (upd fb n ib))), (q2, .inl ((xG cx).2.1, 60, .inl fs)), (q3, .inl ((xG cx).2.1, 60, .inl fc)), (q4, .inl ((xG cx).2.1, 60, .inl fw)), (q5, .inl ((xG cx).2.1, 60, .inl fu)), (q6, .inl ((xG cx).2.1, 60, .inl fe))] rfl dX2_append_13 ?_
  refine x_aload_n C 1 dX2_append_14 rfl rfl ?_
  refine x_getf C 0 rfl rfl i_kX2_append_X2 2 (by decide) m_kX2_append_3 rfl rfl dX2_append_15 ?_
  refine x_iload C 0 dX2_append_18 rfl ?_
  refine x_iload_n C 3 dX2_append_20 rfl rfl ?_
  refine x_iast C M 2 rfl rfl (vp_in_nI (by omega) (by decide)) (nI_clamp (by omega)) [(b, .inr (2, [.int (nI n), .ref q1, .ref q2, .ref q3, .ref q4, .ref q5, .ref q6])), (q1, .inl ((xG cx).2.1, 60, .inl (upd fb n ib))), (q2, .inl ((xG cx).2.1, 60, .inl (upd fs n is))), (q3, .inl ((xG cx).2.1, 60, .inl fc)), (q4, .inl ((xG cx).2.1, 60, .inl fw)), (q5, .inl ((xG cx).2.1, 60, .inl fu)), (q6, .inl ((xG cx).2.1, 60, .inl fe))] rfl dX2_append_21 ?_
  refine x_aload_n C 1 dX2_append_22 rfl rfl ?_
  refine x_getf C 0 rfl rfl i_kX2_append_X2 3 (by decide) m_kX2_append_4 rfl rfl dX2_append_23 ?_
  refine x_iload C 0 dX2_append_26 rfl ?_
  refine x_iload_n C 4 dX2_append_28 rfl rfl ?_
  refine x_iast C M 3 rfl rfl (vp_in_nI (by omega) (by decide)) (nI_clamp (by omega)) [(b, .inr (2, [.int (nI n), .ref q1, .ref q2, .ref q3, .ref q4, .ref q5, .ref q6])), (q1, .inl ((xG cx).2.1, 60, .inl (upd fb n ib))), (q2, .inl ((xG cx).2.1, 60, .inl (upd fs n is))), (q3, .inl ((xG cx).2.1, 60, .inl (upd fc n ih))), (q4, .inl ((xG cx).2.1, 60, .inl fw)), (q5, .inl ((xG cx).2.1, 60, .inl fu)), (q6, .inl ((xG cx).2.1, 60, .inl fe))] rfl dX2_append_29 ?_
  refine x_aload_n C 1 dX2_append_30 rfl rfl ?_
  refine x_getf C 0 rfl rfl i_kX2_append_X2 4 (by decide) m_kX2_append_5 rfl rfl dX2_append_31 ?_
  refine x_iload C 0 dX2_append_34 rfl ?_
  refine x_iconst (v := 0) C dX2_append_36 (by decide) ?_
  refine x_iast C M 4 rfl rfl (vp_in_nI (by omega) (by decide)) (nI_clamp (by omega)) [(b, .inr (2, [.int (nI n), .ref q1, .ref q2, .ref q3, .ref q4, .ref q5, .ref q6])), (q1, .inl ((xG cx).2.1, 60, .inl (upd fb n ib))), (q2, .inl ((xG cx).2.1, 60, .inl (upd fs n is))), (q3, .inl ((xG cx).2.1, 60, .inl (upd fc n ih))), (q4, .inl ((xG cx).2.1, 60, .inl (upd fw n 0))), (q5, .inl ((xG cx).2.1, 60, .inl fu)), (q6, .inl ((xG cx).2.1, 60, .inl fe))] rfl dX2_append_37 ?_
  refine x_aload_n C 1 dX2_append_38 rfl rfl ?_
  refine x_getf C 0 rfl rfl i_kX2_append_X2 5 (by decide) m_kX2_append_6 rfl rfl dX2_append_39 ?_
  refine x_iload C 0 dX2_append_42 rfl ?_
  refine x_iconst (v := 0) C dX2_append_44 (by decide) ?_
  refine x_iast C M 5 rfl rfl (vp_in_nI (by omega) (by decide)) (nI_clamp (by omega)) [(b, .inr (2, [.int (nI n), .ref q1, .ref q2, .ref q3, .ref q4, .ref q5, .ref q6])), (q1, .inl ((xG cx).2.1, 60, .inl (upd fb n ib))), (q2, .inl ((xG cx).2.1, 60, .inl (upd fs n is))), (q3, .inl ((xG cx).2.1, 60, .inl (upd fc n ih))), (q4, .inl ((xG cx).2.1, 60, .inl (upd fw n 0))), (q5, .inl ((xG cx).2.1, 60, .inl (upd fu n 0))), (q6, .inl ((xG cx).2.1, 60, .inl fe))] rfl dX2_append_45 ?_
  refine x_aload_n C 1 dX2_append_46 rfl rfl ?_
  refine x_getf C 0 rfl rfl i_kX2_append_X2 6 (by decide) m_kX2_append_7 rfl rfl dX2_append_47 ?_
  refine x_iload C 0 dX2_append_50 rfl ?_
  refine x_iconst (v := (-1)) C dX2_append_52 (by decide) ?_
  refine x_iast C M 6 rfl rfl (vp_in_nI (by omega) (by decide)) (nI_clamp (by omega)) [(b, .inr (2, [.int (nI n), .ref q1, .ref q2, .ref q3, .ref q4, .ref q5, .ref q6])), (q1, .inl ((xG cx).2.1, 60, .inl (upd fb n ib))), (q2, .inl ((xG cx).2.1, 60, .inl (upd fs n is))), (q3, .inl ((xG cx).2.1, 60, .inl (upd fc n ih))), (q4, .inl ((xG cx).2.1, 60, .inl (upd fw n 0))), (q5, .inl ((xG cx).2.1, 60, .inl (upd fu n 0))), (q6, .inl ((xG cx).2.1, 60, .inl (upd fe n (-1))))] rfl dX2_append_53 ?_
  refine x_aload_n C 1 dX2_append_54 rfl rfl ?_
  refine x_dup C dX2_append_55 rfl ?_
  refine x_getf C 0 rfl rfl i_kX2_append_X2 0 (by decide) m_kX2_append_1 rfl rfl dX2_append_56 ?_
  refine x_iconst (v := 1) C dX2_append_59 (by decide) ?_
  refine x_iadd C (nI_add n 1) dX2_append_60 ?_
  refine x_putf (ty := .int) C M 0 rfl rfl i_kX2_append_X2 0 (by decide) m_kX2_append_1 rfl rfl tyX2 tyX2_ok nmX2 (by decide +kernel) rfl rfl (Nat.le_of_ble_eq_true rfl) [(b, .inr (2, [.int (nI (n + 1)), .ref q1, .ref q2, .ref q3, .ref q4, .ref q5, .ref q6])), (q1, .inl ((xG cx).2.1, 60, .inl (upd fb n ib))), (q2, .inl ((xG cx).2.1, 60, .inl (upd fs n is))), (q3, .inl ((xG cx).2.1, 60, .inl (upd fc n ih))), (q4, .inl ((xG cx).2.1, 60, .inl (upd fw n 0))), (q5, .inl ((xG cx).2.1, 60, .inl (upd fu n 0))), (q6, .inl ((xG cx).2.1, 60, .inl (upd fe n (-1))))] rfl dX2_append_61 ?_
  refine x_iload C 0 dX2_append_64 rfl ?_
  exact x_iret C E dX2_append_66 (rfl) (rfl)

theorem i_kX2_countOf_X2 : ∀ w ∈ u_ws RX2 TX2 7, w ∈ wsX2_countOf := by decide +kernel
theorem m_kX2_countOf_1 : (Cond.fieldLink RX2 9 "LampRacks$Lamps" "size" "I" : Cond) ∈ wsX2_countOf := by decide +kernel
theorem m_kX2_countOf_2 : (Cond.fieldLink RX2 15 "LampRacks$Lamps" "batch" "[I" : Cond) ∈ wsX2_countOf := by decide +kernel
theorem m_kX2_countOf_3 : (Cond.static yX6_oneIf : Cond) ∈ wsX2_countOf := by decide +kernel
theorem m_kX2_countOf_4 : (Cond.initialized RX6 : Cond) ∈ wsX2_countOf := by decide +kernel
set_option maxRecDepth 100000 in
set_option maxHeartbeats 4000000 in
theorem kX2_countOf (l : Launch) (G : GG) (b : Nat) (q1 : Nat) (q2 : Nat) (q3 : Nat) (q4 : Nat) (q5 : Nat) (q6 : Nat) (n : Nat) (fb : Nat → Int32) (fs : Nat → Int32) (fc : Nat → Int32) (fw : Nat → Int32) (fu : Nat → Int32) (fe : Nat → Int32) (x : Int32) (hn : n ≤ 60) : RO l G yX2_countOf wsX2_countOf ({ frames := 1, cells := 0, slots := 0, locals := 20 } : Room) [.ref b, .int x] [(b, .inr (2, [.int (nI n), .ref q1, .ref q2, .ref q3, .ref q4, .ref q5, .ref q6])), (q1, .inl (G.2.1, 60, .inl fb)), (q2, .inl (G.2.1, 60, .inl fs)), (q3, .inl (G.2.1, 60, .inl fc)), (q4, .inl (G.2.1, 60, .inl fw)), (q5, .inl (G.2.1, 60, .inl fu)), (q6, .inl (G.2.1, 60, .inl fe))] (.int (cnt (fun j => fb j = x) n)) := by
  refine RO.of (cc := cX2_countOf) (maxL := 4) (ret := (some .int)) (by decide) rfl (Nat.le_of_ble_eq_true rfl) ?_
  intro cx hxl hxG C E
  subst hxl
  subst hxG
  show X cx (0, 0) [(b, .inr (2, [.int (nI n), .ref q1, .ref q2, .ref q3, .ref q4, .ref q5, .ref q6])), (q1, .inl ((xG cx).2.1, 60, .inl fb)), (q2, .inl ((xG cx).2.1, 60, .inl fs)), (q3, .inl ((xG cx).2.1, 60, .inl fc)), (q4, .inl ((xG cx).2.1, 60, .inl fw)), (q5, .inl ((xG cx).2.1, 60, .inl fu)), (q6, .inl ((xG cx).2.1, 60, .inl fe))] [(0, .ref b), (1, .int x)] 0 []
  refine x_iconst (v := 0) C dX2_countOf_0 (by decide) ?_
  refine x_istore_n C [(2, .int 0), (0, .ref b), (1, .int x)] dX2_countOf_1 rfl (by decide) rfl ?_
  refine x_iconst (v := 0) C dX2_countOf_2 (by decide) ?_
  refine x_istore_n C [(3, .int 0), (2, .int 0), (0, .ref b), (1, .int x)] dX2_countOf_3 rfl (by decide) rfl ?_
  have loop_4 : ∀ (zz : Nat) (i : Nat) (acc : Int32) (hi : i ≤ n) (hz : n + 1 ≤ i + zz) (ea : acc = (cnt (fun j => fb j = x)) i), X cx (0, 0) [(b, .inr (2, [.int (nI n), .ref q1, .ref q2, .ref q3, .ref q4, .ref q5, .ref q6])), (q1, .inl ((xG cx).2.1, 60, .inl fb)), (q2, .inl ((xG cx).2.1, 60, .inl fs)), (q3, .inl ((xG cx).2.1, 60, .inl fc)), (q4, .inl ((xG cx).2.1, 60, .inl fw)), (q5, .inl ((xG cx).2.1, 60, .inl fu)), (q6, .inl ((xG cx).2.1, 60, .inl fe))] [(0, .ref b), (1, .int x), (2, .int acc), (3, .int (nI i))] 4 [] := by
    intro zz
    induction zz with
    | zero =>
      intro i acc hi hz ea
      exfalso; omega
    | succ zz ih =>
      intro i acc hi hz ea
      refine x_iload_n C 3 dX2_countOf_4 rfl rfl ?_
      refine x_aload_n C 0 dX2_countOf_5 rfl rfl ?_
      refine x_getf C 0 rfl rfl i_kX2_countOf_X2 0 (by decide) m_kX2_countOf_1 rfl rfl dX2_countOf_6 ?_
      refine x_icmp_ge C 39 dX2_countOf_9 (by decide) (fun c_9 => ?_) (fun c_9 => ?_)
      ·
        have n_9 : n ≤ i := (nI_leI (a := n) (b := i) (by omega) (by omega)).mp c_9
        refine x_iload_n C 2 dX2_countOf_39 rfl rfl ?_
        exact x_iret C E dX2_countOf_40 (by rw [ea, show i = n from by omega]) (rfl)
      ·
        have n_9 : ¬ (n ≤ i) := fun q => c_9 ((nI_leI (a := n) (b := i) (by omega) (by omega)).mpr q)
        refine x_iload_n C 2 dX2_countOf_12 rfl rfl ?_
        refine x_aload_n C 0 dX2_countOf_13 rfl rfl ?_
        refine x_getf C 0 rfl rfl i_kX2_countOf_X2 1 (by decide) m_kX2_countOf_2 rfl rfl dX2_countOf_14 ?_
        refine x_iload_n C 3 dX2_countOf_17 rfl rfl ?_
        refine x_iald C 1 rfl rfl (vp_in_nI (by omega) (by decide)) (congrArg fb (nI_clamp (by omega))) dX2_countOf_18 ?_
        refine x_iload_n C 1 dX2_countOf_19 rfl rfl ?_
        have join_28 : ∀ (v0 : Int32) (hv0 : v0 = b2i (fb i = x)), X cx (0, 0) [(b, .inr (2, [.int (nI n), .ref q1, .ref q2, .ref q3, .ref q4, .ref q5, .ref q6])), (q1, .inl ((xG cx).2.1, 60, .inl fb)), (q2, .inl ((xG cx).2.1, 60, .inl fs)), (q3, .inl ((xG cx).2.1, 60, .inl fc)), (q4, .inl ((xG cx).2.1, 60, .inl fw)), (q5, .inl ((xG cx).2.1, 60, .inl fu)), (q6, .inl ((xG cx).2.1, 60, .inl fe))] [(0, .ref b), (1, .int x), (2, .int acc), (3, .int (nI i))] 28 [.int v0, .int acc] := by
          intro v0 hv0
          subst hv0
          refine x_callNRO C ([.int (b2i (fb i = x))]) ([.int acc]) [] (na := 1) (host := "LampRacks") gX2_countOf_X6_oneIf_n52 (by decide +kernel) m_kX2_countOf_3 m_kX2_countOf_4 rfl (by decide +kernel) rfl (kX6_oneIf (xl cx) (xG cx) (b2i (fb i = x)) (b2i_01 _)) rfl (by decide) rfl rfl rfl ⟨by decide, by decide⟩ (Nat.le_of_ble_eq_true rfl) ⟨by decide, by decide⟩ dX2_countOf_28 ?_
          refine x_iadd C (rfl) dX2_countOf_31 ?_
          refine x_istore_n C [(2, .int (acc + (b2i (fb i = x)))), (0, .ref b), (1, .int x), (3, .int (nI i))] dX2_countOf_32 rfl (by decide) rfl ?_
          refine x_iinc C 3 [(3, .int (nI (i + 1))), (2, .int (acc + (b2i (fb i = x)))), (0, .ref b), (1, .int x)] dX2_countOf_33 rfl (inc1 i) (by decide) rfl ?_
          refine x_goto (tgt := 4) C dX2_countOf_36 (by decide) ?_
          refine x_lv [(0, .ref b), (1, .int x), (2, .int (acc + (b2i (fb i = x)))), (3, .int (nI (i + 1)))] [2, 3, 1, 0] rfl ?_
          exact ih (i + 1) (acc + (b2i (fb i = x))) (by omega) (by omega) (by rw [ea]; rfl)
        refine x_icmp_ne C 27 dX2_countOf_20 (by decide) (fun c_20 => ?_) (fun c_20 => ?_)
        ·
          refine x_iconst (v := 0) C dX2_countOf_27 (by decide) ?_
          exact join_28 _ (by first | rfl | (symm; first | (apply b2i_t; grind) | (apply b2i_f; grind)) | grind)
        ·
          refine x_iconst (v := 1) C dX2_countOf_23 (by decide) ?_
          refine x_goto (tgt := 28) C dX2_countOf_24 (by decide) ?_
          exact join_28 _ (by first | rfl | (symm; first | (apply b2i_t; grind) | (apply b2i_f; grind)) | grind)
  refine x_lv [(0, .ref b), (1, .int x), (2, .int 0), (3, .int (nI 0))] [2, 3, 1, 0] rfl ?_
  exact loop_4 (n + 1) 0 0 (by omega) (by omega) (rfl)

theorem i_kX2_countDeadOf_X2 : ∀ w ∈ u_ws RX2 TX2 7, w ∈ wsX2_countDeadOf := by decide +kernel
theorem m_kX2_countDeadOf_1 : (Cond.fieldLink RX2 9 "LampRacks$Lamps" "size" "I" : Cond) ∈ wsX2_countDeadOf := by decide +kernel
theorem m_kX2_countDeadOf_2 : (Cond.static yX6_oneIf : Cond) ∈ wsX2_countDeadOf := by decide +kernel
theorem m_kX2_countDeadOf_3 : (Cond.initialized RX6 : Cond) ∈ wsX2_countDeadOf := by decide +kernel
set_option maxRecDepth 100000 in
set_option maxHeartbeats 4000000 in
theorem kX2_countDeadOf (l : Launch) (G : GG) (b : Nat) (q1 : Nat) (q2 : Nat) (q3 : Nat) (q4 : Nat) (q5 : Nat) (q6 : Nat) (n : Nat) (fb : Nat → Int32) (fs : Nat → Int32) (fc : Nat → Int32) (fw : Nat → Int32) (fu : Nat → Int32) (fe : Nat → Int32) (x : Int32) (hn : n ≤ 60) : RO l G yX2_countDeadOf wsX2_countDeadOf ({ frames := 2, cells := 0, slots := 0, locals := 43 } : Room) [.ref b, .int x] [(b, .inr (2, [.int (nI n), .ref q1, .ref q2, .ref q3, .ref q4, .ref q5, .ref q6])), (q1, .inl (G.2.1, 60, .inl fb)), (q2, .inl (G.2.1, 60, .inl fs)), (q3, .inl (G.2.1, 60, .inl fc)), (q4, .inl (G.2.1, 60, .inl fw)), (q5, .inl (G.2.1, 60, .inl fu)), (q6, .inl (G.2.1, 60, .inl fe))] (.int (cnt (fun j => fb j = x ∧ fe j ≠ -1) n)) := by
  refine RO.of (cc := cX2_countDeadOf) (maxL := 4) (ret := (some .int)) (by decide) rfl (Nat.le_of_ble_eq_true rfl) ?_
  intro cx hxl hxG C E
  subst hxl
  subst hxG
  show X cx (0, 0) [(b, .inr (2, [.int (nI n), .ref q1, .ref q2, .ref q3, .ref q4, .ref q5, .ref q6])), (q1, .inl ((xG cx).2.1, 60, .inl fb)), (q2, .inl ((xG cx).2.1, 60, .inl fs)), (q3, .inl ((xG cx).2.1, 60, .inl fc)), (q4, .inl ((xG cx).2.1, 60, .inl fw)), (q5, .inl ((xG cx).2.1, 60, .inl fu)), (q6, .inl ((xG cx).2.1, 60, .inl fe))] [(0, .ref b), (1, .int x)] 0 []
  refine x_iconst (v := 0) C dX2_countDeadOf_0 (by decide) ?_
  refine x_istore_n C [(2, .int 0), (0, .ref b), (1, .int x)] dX2_countDeadOf_1 rfl (by decide) rfl ?_
  refine x_iconst (v := 0) C dX2_countDeadOf_2 (by decide) ?_
  refine x_istore_n C [(3, .int 0), (2, .int 0), (0, .ref b), (1, .int x)] dX2_countDeadOf_3 rfl (by decide) rfl ?_
  have loop_4 : ∀ (zz : Nat) (i : Nat) (acc : Int32) (hi : i ≤ n) (hz : n + 1 ≤ i + zz) (ea : acc = (cnt (fun j => fb j = x ∧ fe j ≠ -1)) i), X cx (0, 0) [(b, .inr (2, [.int (nI n), .ref q1, .ref q2, .ref q3, .ref q4, .ref q5, .ref q6])), (q1, .inl ((xG cx).2.1, 60, .inl fb)), (q2, .inl ((xG cx).2.1, 60, .inl fs)), (q3, .inl ((xG cx).2.1, 60, .inl fc)), (q4, .inl ((xG cx).2.1, 60, .inl fw)), (q5, .inl ((xG cx).2.1, 60, .inl fu)), (q6, .inl ((xG cx).2.1, 60, .inl fe))] [(0, .ref b), (1, .int x), (2, .int acc), (3, .int (nI i))] 4 [] := by
    intro zz
    induction zz with
    | zero =>
      intro i acc hi hz ea
      exfalso; omega
    | succ zz ih =>
      intro i acc hi hz ea
      refine x_iload_n C 3 dX2_countDeadOf_4 rfl rfl ?_
      refine x_aload_n C 0 dX2_countDeadOf_5 rfl rfl ?_
      refine x_getf C 0 rfl rfl i_kX2_countDeadOf_X2 0 (by decide) m_kX2_countDeadOf_1 rfl rfl dX2_countDeadOf_6 ?_
      refine x_icmp_ge C 30 dX2_countDeadOf_9 (by decide) (fun c_9 => ?_) (fun c_9 => ?_)
      ·
        have n_9 : n ≤ i := (nI_leI (a := n) (b := i) (by omega) (by omega)).mp c_9
        refine x_iload_n C 2 dX2_countDeadOf_30 rfl rfl ?_
        exact x_iret C E dX2_countDeadOf_31 (by rw [ea, show i = n from by omega]) (rfl)
      ·
        have n_9 : ¬ (n ≤ i) := fun q => c_9 ((nI_leI (a := n) (b := i) (by omega) (by omega)).mpr q)
        refine x_iload_n C 2 dX2_countDeadOf_12 rfl rfl ?_
        refine x_aload_n C 0 dX2_countDeadOf_13 rfl rfl ?_
        refine x_iload_n C 3 dX2_countDeadOf_14 rfl rfl ?_
        refine x_iload_n C 1 dX2_countDeadOf_15 rfl rfl ?_
        refine x_callVRO C ([.int (nI i), .int x]) ([.int acc]) [0, 1, 2, 3, 4, 5, 6] (k0 := 0) (na := 2) gX2_countDeadOf_X2_isDeadOf rfl (by decide +kernel) rfl rfl rfl (kX2_isDeadOf (xl cx) (xG cx) b q1 q2 q3 q4 q5 q6 n fb fs fc fw fu fe i x (by first | assumption | rfl | omega | decide)) rfl (by decide) rfl rfl rfl ⟨by decide, by decide⟩ (Nat.le_of_ble_eq_true rfl) ⟨by decide, by decide⟩ dX2_countDeadOf_16 ?_
        refine x_callNRO C ([.int (b2i (fb i = x ∧ fe i ≠ -1))]) ([.int acc]) [] (na := 1) (host := "LampRacks") gX2_countDeadOf_X6_oneIf_n52 (by decide +kernel) m_kX2_countDeadOf_2 m_kX2_countDeadOf_3 rfl (by decide +kernel) rfl (kX6_oneIf (xl cx) (xG cx) (b2i (fb i = x ∧ fe i ≠ -1)) (b2i_01 _)) rfl (by decide) rfl rfl rfl ⟨by decide, by decide⟩ (Nat.le_of_ble_eq_true rfl) ⟨by decide, by decide⟩ dX2_countDeadOf_19 ?_
        refine x_iadd C (rfl) dX2_countDeadOf_22 ?_
        refine x_istore_n C [(2, .int (acc + (b2i (fb i = x ∧ fe i ≠ -1)))), (0, .ref b), (1, .int x), (3, .int (nI i))] dX2_countDeadOf_23 rfl (by decide) rfl ?_
        refine x_iinc C 3 [(3, .int (nI (i + 1))), (2, .int (acc + (b2i (fb i = x ∧ fe i ≠ -1)))), (0, .ref b), (1, .int x)] dX2_countDeadOf_24 rfl (inc1 i) (by decide) rfl ?_
        refine x_goto (tgt := 4) C dX2_countDeadOf_27 (by decide) ?_
        refine x_lv [(0, .ref b), (1, .int x), (2, .int (acc + (b2i (fb i = x ∧ fe i ≠ -1)))), (3, .int (nI (i + 1)))] [2, 3, 1, 0] rfl ?_
        exact ih (i + 1) (acc + (b2i (fb i = x ∧ fe i ≠ -1))) (by omega) (by omega) (by rw [ea]; rfl)
  refine x_lv [(0, .ref b), (1, .int x), (2, .int 0), (3, .int (nI 0))] [2, 3, 1, 0] rfl ?_
  exact loop_4 (n + 1) 0 0 (by omega) (by omega) (rfl)

theorem i_kX2_countDeadBelow_X2 : ∀ w ∈ u_ws RX2 TX2 7, w ∈ wsX2_countDeadBelow := by decide +kernel
theorem m_kX2_countDeadBelow_1 : (Cond.fieldLink RX2 9 "LampRacks$Lamps" "size" "I" : Cond) ∈ wsX2_countDeadBelow := by decide +kernel
theorem m_kX2_countDeadBelow_2 : (Cond.static yX6_oneIf : Cond) ∈ wsX2_countDeadBelow := by decide +kernel
theorem m_kX2_countDeadBelow_3 : (Cond.initialized RX6 : Cond) ∈ wsX2_countDeadBelow := by decide +kernel
set_option maxRecDepth 100000 in
set_option maxHeartbeats 4000000 in
theorem kX2_countDeadBelow (l : Launch) (G : GG) (b : Nat) (q1 : Nat) (q2 : Nat) (q3 : Nat) (q4 : Nat) (q5 : Nat) (q6 : Nat) (n : Nat) (fb : Nat → Int32) (fs : Nat → Int32) (fc : Nat → Int32) (fw : Nat → Int32) (fu : Nat → Int32) (fe : Nat → Int32) (x : Int32) (h : Int32) (hn : n ≤ 60) : RO l G yX2_countDeadBelow wsX2_countDeadBelow ({ frames := 2, cells := 0, slots := 0, locals := 43 } : Room) [.ref b, .int x, .int h] [(b, .inr (2, [.int (nI n), .ref q1, .ref q2, .ref q3, .ref q4, .ref q5, .ref q6])), (q1, .inl (G.2.1, 60, .inl fb)), (q2, .inl (G.2.1, 60, .inl fs)), (q3, .inl (G.2.1, 60, .inl fc)), (q4, .inl (G.2.1, 60, .inl fw)), (q5, .inl (G.2.1, 60, .inl fu)), (q6, .inl (G.2.1, 60, .inl fe))] (.int (cnt (fun j => (fb j = x ∧ fe j ≠ -1) ∧ fw j / 10 < h) n)) := by
  refine RO.of (cc := cX2_countDeadBelow) (maxL := 5) (ret := (some .int)) (by decide) rfl (Nat.le_of_ble_eq_true rfl) ?_
  intro cx hxl hxG C E
  subst hxl
  subst hxG
  show X cx (0, 0) [(b, .inr (2, [.int (nI n), .ref q1, .ref q2, .ref q3, .ref q4, .ref q5, .ref q6])), (q1, .inl ((xG cx).2.1, 60, .inl fb)), (q2, .inl ((xG cx).2.1, 60, .inl fs)), (q3, .inl ((xG cx).2.1, 60, .inl fc)), (q4, .inl ((xG cx).2.1, 60, .inl fw)), (q5, .inl ((xG cx).2.1, 60, .inl fu)), (q6, .inl ((xG cx).2.1, 60, .inl fe))] [(0, .ref b), (1, .int x), (2, .int h)] 0 []
  refine x_iconst (v := 0) C dX2_countDeadBelow_0 (by decide) ?_
  refine x_istore_n C [(3, .int 0), (0, .ref b), (1, .int x), (2, .int h)] dX2_countDeadBelow_1 rfl (by decide) rfl ?_
  refine x_iconst (v := 0) C dX2_countDeadBelow_2 (by decide) ?_
  refine x_istore C [(4, .int 0), (3, .int 0), (0, .ref b), (1, .int x), (2, .int h)] dX2_countDeadBelow_3 (by decide) rfl ?_
  have loop_5 : ∀ (zz : Nat) (i : Nat) (acc : Int32) (hi : i ≤ n) (hz : n + 1 ≤ i + zz) (ea : acc = (cnt (fun j => (fb j = x ∧ fe j ≠ -1) ∧ fw j / 10 < h)) i), X cx (0, 0) [(b, .inr (2, [.int (nI n), .ref q1, .ref q2, .ref q3, .ref q4, .ref q5, .ref q6])), (q1, .inl ((xG cx).2.1, 60, .inl fb)), (q2, .inl ((xG cx).2.1, 60, .inl fs)), (q3, .inl ((xG cx).2.1, 60, .inl fc)), (q4, .inl ((xG cx).2.1, 60, .inl fw)), (q5, .inl ((xG cx).2.1, 60, .inl fu)), (q6, .inl ((xG cx).2.1, 60, .inl fe))] [(0, .ref b), (1, .int x), (2, .int h), (3, .int acc), (4, .int (nI i))] 5 [] := by
    intro zz
    induction zz with
    | zero =>
      intro i acc hi hz ea
      exfalso; omega
    | succ zz ih =>
      intro i acc hi hz ea
      refine x_iload C 4 dX2_countDeadBelow_5 rfl ?_
      refine x_aload_n C 0 dX2_countDeadBelow_7 rfl rfl ?_
      refine x_getf C 0 rfl rfl i_kX2_countDeadBelow_X2 0 (by decide) m_kX2_countDeadBelow_1 rfl rfl dX2_countDeadBelow_8 ?_
      refine x_icmp_ge C 51 dX2_countDeadBelow_11 (by decide) (fun c_11 => ?_) (fun c_11 => ?_)
      ·
        have n_11 : n ≤ i := (nI_leI (a := n) (b := i) (by omega) (by omega)).mp c_11
        refine x_iload_n C 3 dX2_countDeadBelow_51 rfl rfl ?_
        exact x_iret C E dX2_countDeadBelow_52 (by rw [ea, show i = n from by omega]) (rfl)
      ·
        have n_11 : ¬ (n ≤ i) := fun q => c_11 ((nI_leI (a := n) (b := i) (by omega) (by omega)).mpr q)
        refine x_iload_n C 3 dX2_countDeadBelow_14 rfl rfl ?_
        refine x_aload_n C 0 dX2_countDeadBelow_15 rfl rfl ?_
        refine x_iload C 4 dX2_countDeadBelow_16 rfl ?_
        refine x_iload_n C 1 dX2_countDeadBelow_18 rfl rfl ?_
        refine x_callVRO C ([.int (nI i), .int x]) ([.int acc]) [0, 1, 2, 3, 4, 5, 6] (k0 := 0) (na := 2) gX2_countDeadBelow_X2_isDeadOf rfl (by decide +kernel) rfl rfl rfl (kX2_isDeadOf (xl cx) (xG cx) b q1 q2 q3 q4 q5 q6 n fb fs fc fw fu fe i x (by first | assumption | rfl | omega | decide)) rfl (by decide) rfl rfl rfl ⟨by decide, by decide⟩ (Nat.le_of_ble_eq_true rfl) ⟨by decide, by decide⟩ dX2_countDeadBelow_19 ?_
        have join_40 : ∀ (v0 : Int32) (hv0 : v0 = b2i ((fb i = x ∧ fe i ≠ -1) ∧ fw i / 10 < h)), X cx (0, 0) [(b, .inr (2, [.int (nI n), .ref q1, .ref q2, .ref q3, .ref q4, .ref q5, .ref q6])), (q1, .inl ((xG cx).2.1, 60, .inl fb)), (q2, .inl ((xG cx).2.1, 60, .inl fs)), (q3, .inl ((xG cx).2.1, 60, .inl fc)), (q4, .inl ((xG cx).2.1, 60, .inl fw)), (q5, .inl ((xG cx).2.1, 60, .inl fu)), (q6, .inl ((xG cx).2.1, 60, .inl fe))] [(0, .ref b), (1, .int x), (2, .int h), (3, .int acc), (4, .int (nI i))] 40 [.int v0, .int acc] := by
          intro v0 hv0
          subst hv0
          refine x_callNRO C ([.int (b2i ((fb i = x ∧ fe i ≠ -1) ∧ fw i / 10 < h))]) ([.int acc]) [] (na := 1) (host := "LampRacks") gX2_countDeadBelow_X6_oneIf_n52 (by decide +kernel) m_kX2_countDeadBelow_2 m_kX2_countDeadBelow_3 rfl (by decide +kernel) rfl (kX6_oneIf (xl cx) (xG cx) (b2i ((fb i = x ∧ fe i ≠ -1) ∧ fw i / 10 < h)) (b2i_01 _)) rfl (by decide) rfl rfl rfl ⟨by decide, by decide⟩ (Nat.le_of_ble_eq_true rfl) ⟨by decide, by decide⟩ dX2_countDeadBelow_40 ?_
          refine x_iadd C (rfl) dX2_countDeadBelow_43 ?_
          refine x_istore_n C [(3, .int (acc + (b2i ((fb i = x ∧ fe i ≠ -1) ∧ fw i / 10 < h)))), (0, .ref b), (1, .int x), (2, .int h), (4, .int (nI i))] dX2_countDeadBelow_44 rfl (by decide) rfl ?_
          refine x_iinc C 4 [(4, .int (nI (i + 1))), (3, .int (acc + (b2i ((fb i = x ∧ fe i ≠ -1) ∧ fw i / 10 < h)))), (0, .ref b), (1, .int x), (2, .int h)] dX2_countDeadBelow_45 rfl (inc1 i) (by decide) rfl ?_
          refine x_goto (tgt := 5) C dX2_countDeadBelow_48 (by decide) ?_
          refine x_lv [(0, .ref b), (1, .int x), (2, .int h), (3, .int (acc + (b2i ((fb i = x ∧ fe i ≠ -1) ∧ fw i / 10 < h)))), (4, .int (nI (i + 1)))] [2, 3, 4, 1, 0] rfl ?_
          exact ih (i + 1) (acc + (b2i ((fb i = x ∧ fe i ≠ -1) ∧ fw i / 10 < h))) (by omega) (by omega) (by rw [ea]; rfl)
        refine x_ifb_eq (P := fb i = x ∧ fe i ≠ -1) C 39 dX2_countDeadBelow_22 (by decide) (fun c_22 => ?_) (fun c_22 => ?_)
        ·
          refine x_iconst (v := 0) C dX2_countDeadBelow_39 (by decide) ?_
          exact join_40 _ (by first | rfl | (symm; first | (apply b2i_t; grind) | (apply b2i_f; grind)) | grind)
        ·
          refine x_aload_n C 0 dX2_countDeadBelow_25 rfl rfl ?_
          refine x_iload C 4 dX2_countDeadBelow_26 rfl ?_
          refine x_callVRO C ([.int (nI i)]) ([.int acc]) [0, 1, 2, 3, 4, 5, 6] (k0 := 0) (na := 1) gX2_countDeadBelow_X2_hoursCounted rfl (by decide +kernel) rfl rfl rfl (kX2_hoursCounted (xl cx) (xG cx) b q1 q2 q3 q4 q5 q6 n fb fs fc fw fu fe i (by first | assumption | rfl | omega | decide)) rfl (by decide) rfl rfl rfl ⟨by decide, by decide⟩ (Nat.le_of_ble_eq_true rfl) ⟨by decide, by decide⟩ dX2_countDeadBelow_28 ?_
          refine x_iload_n C 2 dX2_countDeadBelow_31 rfl rfl ?_
          refine x_icmp_ge C 39 dX2_countDeadBelow_32 (by decide) (fun c_32 => ?_) (fun c_32 => ?_)
          ·
            refine x_iconst (v := 0) C dX2_countDeadBelow_39 (by decide) ?_
            exact join_40 _ (by first | rfl | (symm; first | (apply b2i_t; grind) | (apply b2i_f; grind)) | grind)
          ·
            refine x_iconst (v := 1) C dX2_countDeadBelow_35 (by decide) ?_
            refine x_goto (tgt := 40) C dX2_countDeadBelow_36 (by decide) ?_
            exact join_40 _ (by first | rfl | (symm; first | (apply b2i_t; grind) | (apply b2i_f; grind)) | grind)
  refine x_lv [(0, .ref b), (1, .int x), (2, .int h), (3, .int 0), (4, .int (nI 0))] [2, 3, 4, 1, 0] rfl ?_
  exact loop_5 (n + 1) 0 0 (by omega) (by omega) (rfl)

theorem i_kX2_countThatLasted_X2 : ∀ w ∈ u_ws RX2 TX2 7, w ∈ wsX2_countThatLasted := by decide +kernel
theorem m_kX2_countThatLasted_1 : (Cond.fieldLink RX2 9 "LampRacks$Lamps" "size" "I" : Cond) ∈ wsX2_countThatLasted := by decide +kernel
theorem m_kX2_countThatLasted_2 : (Cond.fieldLink RX2 15 "LampRacks$Lamps" "batch" "[I" : Cond) ∈ wsX2_countThatLasted := by decide +kernel
theorem m_kX2_countThatLasted_3 : (Cond.static yX6_oneIf : Cond) ∈ wsX2_countThatLasted := by decide +kernel
theorem m_kX2_countThatLasted_4 : (Cond.initialized RX6 : Cond) ∈ wsX2_countThatLasted := by decide +kernel
set_option maxRecDepth 100000 in
set_option maxHeartbeats 4000000 in
theorem kX2_countThatLasted (l : Launch) (G : GG) (b : Nat) (q1 : Nat) (q2 : Nat) (q3 : Nat) (q4 : Nat) (q5 : Nat) (q6 : Nat) (n : Nat) (fb : Nat → Int32) (fs : Nat → Int32) (fc : Nat → Int32) (fw : Nat → Int32) (fu : Nat → Int32) (fe : Nat → Int32) (x : Int32) (h : Int32) (hn : n ≤ 60) : RO l G yX2_countThatLasted wsX2_countThatLasted ({ frames := 1, cells := 0, slots := 0, locals := 21 } : Room) [.ref b, .int x, .int h] [(b, .inr (2, [.int (nI n), .ref q1, .ref q2, .ref q3, .ref q4, .ref q5, .ref q6])), (q1, .inl (G.2.1, 60, .inl fb)), (q2, .inl (G.2.1, 60, .inl fs)), (q3, .inl (G.2.1, 60, .inl fc)), (q4, .inl (G.2.1, 60, .inl fw)), (q5, .inl (G.2.1, 60, .inl fu)), (q6, .inl (G.2.1, 60, .inl fe))] (.int (cnt (fun j => fb j = x ∧ h ≤ fw j / 10) n)) := by
  refine RO.of (cc := cX2_countThatLasted) (maxL := 5) (ret := (some .int)) (by decide) rfl (Nat.le_of_ble_eq_true rfl) ?_
  intro cx hxl hxG C E
  subst hxl
  subst hxG
  show X cx (0, 0) [(b, .inr (2, [.int (nI n), .ref q1, .ref q2, .ref q3, .ref q4, .ref q5, .ref q6])), (q1, .inl ((xG cx).2.1, 60, .inl fb)), (q2, .inl ((xG cx).2.1, 60, .inl fs)), (q3, .inl ((xG cx).2.1, 60, .inl fc)), (q4, .inl ((xG cx).2.1, 60, .inl fw)), (q5, .inl ((xG cx).2.1, 60, .inl fu)), (q6, .inl ((xG cx).2.1, 60, .inl fe))] [(0, .ref b), (1, .int x), (2, .int h)] 0 []
  refine x_iconst (v := 0) C dX2_countThatLasted_0 (by decide) ?_
  refine x_istore_n C [(3, .int 0), (0, .ref b), (1, .int x), (2, .int h)] dX2_countThatLasted_1 rfl (by decide) rfl ?_
  refine x_iconst (v := 0) C dX2_countThatLasted_2 (by decide) ?_
  refine x_istore C [(4, .int 0), (3, .int 0), (0, .ref b), (1, .int x), (2, .int h)] dX2_countThatLasted_3 (by decide) rfl ?_
  have loop_5 : ∀ (zz : Nat) (i : Nat) (acc : Int32) (hi : i ≤ n) (hz : n + 1 ≤ i + zz) (ea : acc = (cnt (fun j => fb j = x ∧ h ≤ fw j / 10)) i), X cx (0, 0) [(b, .inr (2, [.int (nI n), .ref q1, .ref q2, .ref q3, .ref q4, .ref q5, .ref q6])), (q1, .inl ((xG cx).2.1, 60, .inl fb)), (q2, .inl ((xG cx).2.1, 60, .inl fs)), (q3, .inl ((xG cx).2.1, 60, .inl fc)), (q4, .inl ((xG cx).2.1, 60, .inl fw)), (q5, .inl ((xG cx).2.1, 60, .inl fu)), (q6, .inl ((xG cx).2.1, 60, .inl fe))] [(0, .ref b), (1, .int x), (2, .int h), (3, .int acc), (4, .int (nI i))] 5 [] := by
    intro zz
    induction zz with
    | zero =>
      intro i acc hi hz ea
      exfalso; omega
    | succ zz ih =>
      intro i acc hi hz ea
      refine x_iload C 4 dX2_countThatLasted_5 rfl ?_
      refine x_aload_n C 0 dX2_countThatLasted_7 rfl rfl ?_
      refine x_getf C 0 rfl rfl i_kX2_countThatLasted_X2 0 (by decide) m_kX2_countThatLasted_1 rfl rfl dX2_countThatLasted_8 ?_
      refine x_icmp_ge C 52 dX2_countThatLasted_11 (by decide) (fun c_11 => ?_) (fun c_11 => ?_)
      ·
        have n_11 : n ≤ i := (nI_leI (a := n) (b := i) (by omega) (by omega)).mp c_11
        refine x_iload_n C 3 dX2_countThatLasted_52 rfl rfl ?_
        exact x_iret C E dX2_countThatLasted_53 (by rw [ea, show i = n from by omega]) (rfl)
      ·
        have n_11 : ¬ (n ≤ i) := fun q => c_11 ((nI_leI (a := n) (b := i) (by omega) (by omega)).mpr q)
        refine x_iload_n C 3 dX2_countThatLasted_14 rfl rfl ?_
        refine x_aload_n C 0 dX2_countThatLasted_15 rfl rfl ?_
        refine x_getf C 0 rfl rfl i_kX2_countThatLasted_X2 1 (by decide) m_kX2_countThatLasted_2 rfl rfl dX2_countThatLasted_16 ?_
        refine x_iload C 4 dX2_countThatLasted_19 rfl ?_
        refine x_iald C 1 rfl rfl (vp_in_nI (by omega) (by decide)) (congrArg fb (nI_clamp (by omega))) dX2_countThatLasted_21 ?_
        refine x_iload_n C 1 dX2_countThatLasted_22 rfl rfl ?_
        have join_41 : ∀ (v0 : Int32) (hv0 : v0 = b2i (fb i = x ∧ h ≤ fw i / 10)), X cx (0, 0) [(b, .inr (2, [.int (nI n), .ref q1, .ref q2, .ref q3, .ref q4, .ref q5, .ref q6])), (q1, .inl ((xG cx).2.1, 60, .inl fb)), (q2, .inl ((xG cx).2.1, 60, .inl fs)), (q3, .inl ((xG cx).2.1, 60, .inl fc)), (q4, .inl ((xG cx).2.1, 60, .inl fw)), (q5, .inl ((xG cx).2.1, 60, .inl fu)), (q6, .inl ((xG cx).2.1, 60, .inl fe))] [(0, .ref b), (1, .int x), (2, .int h), (3, .int acc), (4, .int (nI i))] 41 [.int v0, .int acc] := by
          intro v0 hv0
          subst hv0
          refine x_callNRO C ([.int (b2i (fb i = x ∧ h ≤ fw i / 10))]) ([.int acc]) [] (na := 1) (host := "LampRacks") gX2_countThatLasted_X6_oneIf_n52 (by decide +kernel) m_kX2_countThatLasted_3 m_kX2_countThatLasted_4 rfl (by decide +kernel) rfl (kX6_oneIf (xl cx) (xG cx) (b2i (fb i = x ∧ h ≤ fw i / 10)) (b2i_01 _)) rfl (by decide) rfl rfl rfl ⟨by decide, by decide⟩ (Nat.le_of_ble_eq_true rfl) ⟨by decide, by decide⟩ dX2_countThatLasted_41 ?_
          refine x_iadd C (rfl) dX2_countThatLasted_44 ?_
          refine x_istore_n C [(3, .int (acc + (b2i (fb i = x ∧ h ≤ fw i / 10)))), (0, .ref b), (1, .int x), (2, .int h), (4, .int (nI i))] dX2_countThatLasted_45 rfl (by decide) rfl ?_
          refine x_iinc C 4 [(4, .int (nI (i + 1))), (3, .int (acc + (b2i (fb i = x ∧ h ≤ fw i / 10)))), (0, .ref b), (1, .int x), (2, .int h)] dX2_countThatLasted_46 rfl (inc1 i) (by decide) rfl ?_
          refine x_goto (tgt := 5) C dX2_countThatLasted_49 (by decide) ?_
          refine x_lv [(0, .ref b), (1, .int x), (2, .int h), (3, .int (acc + (b2i (fb i = x ∧ h ≤ fw i / 10)))), (4, .int (nI (i + 1)))] [2, 3, 4, 1, 0] rfl ?_
          exact ih (i + 1) (acc + (b2i (fb i = x ∧ h ≤ fw i / 10))) (by omega) (by omega) (by rw [ea]; rfl)
        refine x_icmp_ne C 40 dX2_countThatLasted_23 (by decide) (fun c_23 => ?_) (fun c_23 => ?_)
        ·
          refine x_iconst (v := 0) C dX2_countThatLasted_40 (by decide) ?_
          exact join_41 _ (by first | rfl | (symm; first | (apply b2i_t; grind) | (apply b2i_f; grind)) | grind)
        ·
          refine x_aload_n C 0 dX2_countThatLasted_26 rfl rfl ?_
          refine x_iload C 4 dX2_countThatLasted_27 rfl ?_
          refine x_callVRO C ([.int (nI i)]) ([.int acc]) [0, 1, 2, 3, 4, 5, 6] (k0 := 0) (na := 1) gX2_countThatLasted_X2_hoursCounted rfl (by decide +kernel) rfl rfl rfl (kX2_hoursCounted (xl cx) (xG cx) b q1 q2 q3 q4 q5 q6 n fb fs fc fw fu fe i (by first | assumption | rfl | omega | decide)) rfl (by decide) rfl rfl rfl ⟨by decide, by decide⟩ (Nat.le_of_ble_eq_true rfl) ⟨by decide, by decide⟩ dX2_countThatLasted_29 ?_
          refine x_iload_n C 2 dX2_countThatLasted_32 rfl rfl ?_
          refine x_icmp_lt C 40 dX2_countThatLasted_33 (by decide) (fun c_33 => ?_) (fun c_33 => ?_)
          ·
            refine x_iconst (v := 0) C dX2_countThatLasted_40 (by decide) ?_
            exact join_41 _ (by first | rfl | (symm; first | (apply b2i_t; grind) | (apply b2i_f; grind)) | grind)
          ·
            refine x_iconst (v := 1) C dX2_countThatLasted_36 (by decide) ?_
            refine x_goto (tgt := 41) C dX2_countThatLasted_37 (by decide) ?_
            exact join_41 _ (by first | rfl | (symm; first | (apply b2i_t; grind) | (apply b2i_f; grind)) | grind)
  refine x_lv [(0, .ref b), (1, .int x), (2, .int h), (3, .int 0), (4, .int (nI 0))] [2, 3, 4, 1, 0] rfl ?_
  exact loop_5 (n + 1) 0 0 (by omega) (by omega) (rfl)

theorem i_kX2_countDead_X2 : ∀ w ∈ u_ws RX2 TX2 7, w ∈ wsX2_countDead := by decide +kernel
theorem m_kX2_countDead_1 : (Cond.fieldLink RX2 9 "LampRacks$Lamps" "size" "I" : Cond) ∈ wsX2_countDead := by decide +kernel
theorem m_kX2_countDead_2 : (Cond.static yX6_oneIf : Cond) ∈ wsX2_countDead := by decide +kernel
theorem m_kX2_countDead_3 : (Cond.initialized RX6 : Cond) ∈ wsX2_countDead := by decide +kernel
set_option maxRecDepth 100000 in
set_option maxHeartbeats 4000000 in
theorem kX2_countDead (l : Launch) (G : GG) (b : Nat) (q1 : Nat) (q2 : Nat) (q3 : Nat) (q4 : Nat) (q5 : Nat) (q6 : Nat) (n : Nat) (fb : Nat → Int32) (fs : Nat → Int32) (fc : Nat → Int32) (fw : Nat → Int32) (fu : Nat → Int32) (fe : Nat → Int32) (hn : n ≤ 60) : RO l G yX2_countDead wsX2_countDead ({ frames := 1, cells := 0, slots := 0, locals := 21 } : Room) [.ref b] [(b, .inr (2, [.int (nI n), .ref q1, .ref q2, .ref q3, .ref q4, .ref q5, .ref q6])), (q1, .inl (G.2.1, 60, .inl fb)), (q2, .inl (G.2.1, 60, .inl fs)), (q3, .inl (G.2.1, 60, .inl fc)), (q4, .inl (G.2.1, 60, .inl fw)), (q5, .inl (G.2.1, 60, .inl fu)), (q6, .inl (G.2.1, 60, .inl fe))] (.int (cnt (fun j => fe j ≠ -1) n)) := by
  refine RO.of (cc := cX2_countDead) (maxL := 3) (ret := (some .int)) (by decide) rfl (Nat.le_of_ble_eq_true rfl) ?_
  intro cx hxl hxG C E
  subst hxl
  subst hxG
  show X cx (0, 0) [(b, .inr (2, [.int (nI n), .ref q1, .ref q2, .ref q3, .ref q4, .ref q5, .ref q6])), (q1, .inl ((xG cx).2.1, 60, .inl fb)), (q2, .inl ((xG cx).2.1, 60, .inl fs)), (q3, .inl ((xG cx).2.1, 60, .inl fc)), (q4, .inl ((xG cx).2.1, 60, .inl fw)), (q5, .inl ((xG cx).2.1, 60, .inl fu)), (q6, .inl ((xG cx).2.1, 60, .inl fe))] [(0, .ref b)] 0 []
  refine x_iconst (v := 0) C dX2_countDead_0 (by decide) ?_
  refine x_istore_n C [(1, .int 0), (0, .ref b)] dX2_countDead_1 rfl (by decide) rfl ?_
  refine x_iconst (v := 0) C dX2_countDead_2 (by decide) ?_
  refine x_istore_n C [(2, .int 0), (1, .int 0), (0, .ref b)] dX2_countDead_3 rfl (by decide) rfl ?_
  have loop_4 : ∀ (zz : Nat) (i : Nat) (acc : Int32) (hi : i ≤ n) (hz : n + 1 ≤ i + zz) (ea : acc = (cnt (fun j => fe j ≠ -1)) i), X cx (0, 0) [(b, .inr (2, [.int (nI n), .ref q1, .ref q2, .ref q3, .ref q4, .ref q5, .ref q6])), (q1, .inl ((xG cx).2.1, 60, .inl fb)), (q2, .inl ((xG cx).2.1, 60, .inl fs)), (q3, .inl ((xG cx).2.1, 60, .inl fc)), (q4, .inl ((xG cx).2.1, 60, .inl fw)), (q5, .inl ((xG cx).2.1, 60, .inl fu)), (q6, .inl ((xG cx).2.1, 60, .inl fe))] [(0, .ref b), (1, .int acc), (2, .int (nI i))] 4 [] := by
    intro zz
    induction zz with
    | zero =>
      intro i acc hi hz ea
      exfalso; omega
    | succ zz ih =>
      intro i acc hi hz ea
      refine x_iload_n C 2 dX2_countDead_4 rfl rfl ?_
      refine x_aload_n C 0 dX2_countDead_5 rfl rfl ?_
      refine x_getf C 0 rfl rfl i_kX2_countDead_X2 0 (by decide) m_kX2_countDead_1 rfl rfl dX2_countDead_6 ?_
      refine x_icmp_ge C 29 dX2_countDead_9 (by decide) (fun c_9 => ?_) (fun c_9 => ?_)
      ·
        have n_9 : n ≤ i := (nI_leI (a := n) (b := i) (by omega) (by omega)).mp c_9
        refine x_iload_n C 1 dX2_countDead_29 rfl rfl ?_
        exact x_iret C E dX2_countDead_30 (by rw [ea, show i = n from by omega]) (rfl)
      ·
        have n_9 : ¬ (n ≤ i) := fun q => c_9 ((nI_leI (a := n) (b := i) (by omega) (by omega)).mpr q)
        refine x_iload_n C 1 dX2_countDead_12 rfl rfl ?_
        refine x_aload_n C 0 dX2_countDead_13 rfl rfl ?_
        refine x_iload_n C 2 dX2_countDead_14 rfl rfl ?_
        refine x_callVRO C ([.int (nI i)]) ([.int acc]) [0, 1, 2, 3, 4, 5, 6] (k0 := 0) (na := 1) gX2_countDead_X2_isDead rfl (by decide +kernel) rfl rfl rfl (kX2_isDead (xl cx) (xG cx) b q1 q2 q3 q4 q5 q6 n fb fs fc fw fu fe i (by first | assumption | rfl | omega | decide)) rfl (by decide) rfl rfl rfl ⟨by decide, by decide⟩ (Nat.le_of_ble_eq_true rfl) ⟨by decide, by decide⟩ dX2_countDead_15 ?_
        refine x_callNRO C ([.int (b2i (fe i ≠ -1))]) ([.int acc]) [] (na := 1) (host := "LampRacks") gX2_countDead_X6_oneIf_n52 (by decide +kernel) m_kX2_countDead_2 m_kX2_countDead_3 rfl (by decide +kernel) rfl (kX6_oneIf (xl cx) (xG cx) (b2i (fe i ≠ -1)) (b2i_01 _)) rfl (by decide) rfl rfl rfl ⟨by decide, by decide⟩ (Nat.le_of_ble_eq_true rfl) ⟨by decide, by decide⟩ dX2_countDead_18 ?_
        refine x_iadd C (rfl) dX2_countDead_21 ?_
        refine x_istore_n C [(1, .int (acc + (b2i (fe i ≠ -1)))), (0, .ref b), (2, .int (nI i))] dX2_countDead_22 rfl (by decide) rfl ?_
        refine x_iinc C 2 [(2, .int (nI (i + 1))), (1, .int (acc + (b2i (fe i ≠ -1)))), (0, .ref b)] dX2_countDead_23 rfl (inc1 i) (by decide) rfl ?_
        refine x_goto (tgt := 4) C dX2_countDead_26 (by decide) ?_
        refine x_lv [(0, .ref b), (1, .int (acc + (b2i (fe i ≠ -1)))), (2, .int (nI (i + 1)))] [2, 1, 0] rfl ?_
        exact ih (i + 1) (acc + (b2i (fe i ≠ -1))) (by omega) (by omega) (by rw [ea]; rfl)
  refine x_lv [(0, .ref b), (1, .int 0), (2, .int (nI 0))] [2, 1, 0] rfl ?_
  exact loop_4 (n + 1) 0 0 (by omega) (by omega) (rfl)

theorem i_kX2_countInRacks_X2 : ∀ w ∈ u_ws RX2 TX2 7, w ∈ wsX2_countInRacks := by decide +kernel
theorem m_kX2_countInRacks_1 : (Cond.fieldLink RX2 9 "LampRacks$Lamps" "size" "I" : Cond) ∈ wsX2_countInRacks := by decide +kernel
theorem m_kX2_countInRacks_2 : (Cond.fieldLink RX2 19 "LampRacks$Lamps" "spot" "[I" : Cond) ∈ wsX2_countInRacks := by decide +kernel
theorem m_kX2_countInRacks_3 : (Cond.static yX6_oneIf : Cond) ∈ wsX2_countInRacks := by decide +kernel
theorem m_kX2_countInRacks_4 : (Cond.initialized RX6 : Cond) ∈ wsX2_countInRacks := by decide +kernel
set_option maxRecDepth 100000 in
set_option maxHeartbeats 4000000 in
theorem kX2_countInRacks (l : Launch) (G : GG) (b : Nat) (q1 : Nat) (q2 : Nat) (q3 : Nat) (q4 : Nat) (q5 : Nat) (q6 : Nat) (n : Nat) (fb : Nat → Int32) (fs : Nat → Int32) (fc : Nat → Int32) (fw : Nat → Int32) (fu : Nat → Int32) (fe : Nat → Int32) (hn : n ≤ 60) : RO l G yX2_countInRacks wsX2_countInRacks ({ frames := 1, cells := 0, slots := 0, locals := 20 } : Room) [.ref b] [(b, .inr (2, [.int (nI n), .ref q1, .ref q2, .ref q3, .ref q4, .ref q5, .ref q6])), (q1, .inl (G.2.1, 60, .inl fb)), (q2, .inl (G.2.1, 60, .inl fs)), (q3, .inl (G.2.1, 60, .inl fc)), (q4, .inl (G.2.1, 60, .inl fw)), (q5, .inl (G.2.1, 60, .inl fu)), (q6, .inl (G.2.1, 60, .inl fe))] (.int (cnt (fun j => fs j ≠ -1) n)) := by
  refine RO.of (cc := cX2_countInRacks) (maxL := 3) (ret := (some .int)) (by decide) rfl (Nat.le_of_ble_eq_true rfl) ?_
  intro cx hxl hxG C E
  subst hxl
  subst hxG
  show X cx (0, 0) [(b, .inr (2, [.int (nI n), .ref q1, .ref q2, .ref q3, .ref q4, .ref q5, .ref q6])), (q1, .inl ((xG cx).2.1, 60, .inl fb)), (q2, .inl ((xG cx).2.1, 60, .inl fs)), (q3, .inl ((xG cx).2.1, 60, .inl fc)), (q4, .inl ((xG cx).2.1, 60, .inl fw)), (q5, .inl ((xG cx).2.1, 60, .inl fu)), (q6, .inl ((xG cx).2.1, 60, .inl fe))] [(0, .ref b)] 0 []
  refine x_iconst (v := 0) C dX2_countInRacks_0 (by decide) ?_
  refine x_istore_n C [(1, .int 0), (0, .ref b)] dX2_countInRacks_1 rfl (by decide) rfl ?_
  refine x_iconst (v := 0) C dX2_countInRacks_2 (by decide) ?_
  refine x_istore_n C [(2, .int 0), (1, .int 0), (0, .ref b)] dX2_countInRacks_3 rfl (by decide) rfl ?_
  have loop_4 : ∀ (zz : Nat) (i : Nat) (acc : Int32) (hi : i ≤ n) (hz : n + 1 ≤ i + zz) (ea : acc = (cnt (fun j => fs j ≠ -1)) i), X cx (0, 0) [(b, .inr (2, [.int (nI n), .ref q1, .ref q2, .ref q3, .ref q4, .ref q5, .ref q6])), (q1, .inl ((xG cx).2.1, 60, .inl fb)), (q2, .inl ((xG cx).2.1, 60, .inl fs)), (q3, .inl ((xG cx).2.1, 60, .inl fc)), (q4, .inl ((xG cx).2.1, 60, .inl fw)), (q5, .inl ((xG cx).2.1, 60, .inl fu)), (q6, .inl ((xG cx).2.1, 60, .inl fe))] [(0, .ref b), (1, .int acc), (2, .int (nI i))] 4 [] := by
    intro zz
    induction zz with
    | zero =>
      intro i acc hi hz ea
      exfalso; omega
    | succ zz ih =>
      intro i acc hi hz ea
      refine x_iload_n C 2 dX2_countInRacks_4 rfl rfl ?_
      refine x_aload_n C 0 dX2_countInRacks_5 rfl rfl ?_
      refine x_getf C 0 rfl rfl i_kX2_countInRacks_X2 0 (by decide) m_kX2_countInRacks_1 rfl rfl dX2_countInRacks_6 ?_
      refine x_icmp_ge C 39 dX2_countInRacks_9 (by decide) (fun c_9 => ?_) (fun c_9 => ?_)
      ·
        have n_9 : n ≤ i := (nI_leI (a := n) (b := i) (by omega) (by omega)).mp c_9
        refine x_iload_n C 1 dX2_countInRacks_39 rfl rfl ?_
        exact x_iret C E dX2_countInRacks_40 (by rw [ea, show i = n from by omega]) (rfl)
      ·
        have n_9 : ¬ (n ≤ i) := fun q => c_9 ((nI_leI (a := n) (b := i) (by omega) (by omega)).mpr q)
        refine x_iload_n C 1 dX2_countInRacks_12 rfl rfl ?_
        refine x_aload_n C 0 dX2_countInRacks_13 rfl rfl ?_
        refine x_getf C 0 rfl rfl i_kX2_countInRacks_X2 2 (by decide) m_kX2_countInRacks_2 rfl rfl dX2_countInRacks_14 ?_
        refine x_iload_n C 2 dX2_countInRacks_17 rfl rfl ?_
        refine x_iald C 2 rfl rfl (vp_in_nI (by omega) (by decide)) (congrArg fs (nI_clamp (by omega))) dX2_countInRacks_18 ?_
        refine x_iconst (v := (-1)) C dX2_countInRacks_19 (by decide) ?_
        have join_28 : ∀ (v0 : Int32) (hv0 : v0 = b2i (fs i ≠ -1)), X cx (0, 0) [(b, .inr (2, [.int (nI n), .ref q1, .ref q2, .ref q3, .ref q4, .ref q5, .ref q6])), (q1, .inl ((xG cx).2.1, 60, .inl fb)), (q2, .inl ((xG cx).2.1, 60, .inl fs)), (q3, .inl ((xG cx).2.1, 60, .inl fc)), (q4, .inl ((xG cx).2.1, 60, .inl fw)), (q5, .inl ((xG cx).2.1, 60, .inl fu)), (q6, .inl ((xG cx).2.1, 60, .inl fe))] [(0, .ref b), (1, .int acc), (2, .int (nI i))] 28 [.int v0, .int acc] := by
          intro v0 hv0
          subst hv0
          refine x_callNRO C ([.int (b2i (fs i ≠ -1))]) ([.int acc]) [] (na := 1) (host := "LampRacks") gX2_countInRacks_X6_oneIf_n52 (by decide +kernel) m_kX2_countInRacks_3 m_kX2_countInRacks_4 rfl (by decide +kernel) rfl (kX6_oneIf (xl cx) (xG cx) (b2i (fs i ≠ -1)) (b2i_01 _)) rfl (by decide) rfl rfl rfl ⟨by decide, by decide⟩ (Nat.le_of_ble_eq_true rfl) ⟨by decide, by decide⟩ dX2_countInRacks_28 ?_
          refine x_iadd C (rfl) dX2_countInRacks_31 ?_
          refine x_istore_n C [(1, .int (acc + (b2i (fs i ≠ -1)))), (0, .ref b), (2, .int (nI i))] dX2_countInRacks_32 rfl (by decide) rfl ?_
          refine x_iinc C 2 [(2, .int (nI (i + 1))), (1, .int (acc + (b2i (fs i ≠ -1)))), (0, .ref b)] dX2_countInRacks_33 rfl (inc1 i) (by decide) rfl ?_
          refine x_goto (tgt := 4) C dX2_countInRacks_36 (by decide) ?_
          refine x_lv [(0, .ref b), (1, .int (acc + (b2i (fs i ≠ -1)))), (2, .int (nI (i + 1)))] [2, 1, 0] rfl ?_
          exact ih (i + 1) (acc + (b2i (fs i ≠ -1))) (by omega) (by omega) (by rw [ea]; rfl)
        refine x_icmp_eq C 27 dX2_countInRacks_20 (by decide) (fun c_20 => ?_) (fun c_20 => ?_)
        ·
          refine x_iconst (v := 0) C dX2_countInRacks_27 (by decide) ?_
          exact join_28 _ (by first | rfl | (symm; first | (apply b2i_t; grind) | (apply b2i_f; grind)) | grind)
        ·
          refine x_iconst (v := 1) C dX2_countInRacks_23 (by decide) ?_
          refine x_goto (tgt := 28) C dX2_countInRacks_24 (by decide) ?_
          exact join_28 _ (by first | rfl | (symm; first | (apply b2i_t; grind) | (apply b2i_f; grind)) | grind)
  refine x_lv [(0, .ref b), (1, .int 0), (2, .int (nI 0))] [2, 1, 0] rfl ?_
  exact loop_4 (n + 1) 0 0 (by omega) (by omega) (rfl)

theorem i_kX2_countWeak_X2 : ∀ w ∈ u_ws RX2 TX2 7, w ∈ wsX2_countWeak := by decide +kernel
theorem m_kX2_countWeak_1 : (Cond.fieldLink RX2 9 "LampRacks$Lamps" "size" "I" : Cond) ∈ wsX2_countWeak := by decide +kernel
theorem m_kX2_countWeak_2 : (Cond.static yX6_isWeak : Cond) ∈ wsX2_countWeak := by decide +kernel
theorem m_kX2_countWeak_3 : (Cond.initialized RX6 : Cond) ∈ wsX2_countWeak := by decide +kernel
theorem m_kX2_countWeak_4 : (Cond.static yX6_oneIf : Cond) ∈ wsX2_countWeak := by decide +kernel
set_option maxRecDepth 100000 in
set_option maxHeartbeats 4000000 in
theorem kX2_countWeak (l : Launch) (G : GG) (b : Nat) (q1 : Nat) (q2 : Nat) (q3 : Nat) (q4 : Nat) (q5 : Nat) (q6 : Nat) (n : Nat) (fb : Nat → Int32) (fs : Nat → Int32) (fc : Nat → Int32) (fw : Nat → Int32) (fu : Nat → Int32) (fe : Nat → Int32) (hn : n ≤ 60) : RO l G yX2_countWeak wsX2_countWeak ({ frames := 2, cells := 0, slots := 0, locals := 40 } : Room) [.ref b] [(b, .inr (2, [.int (nI n), .ref q1, .ref q2, .ref q3, .ref q4, .ref q5, .ref q6])), (q1, .inl (G.2.1, 60, .inl fb)), (q2, .inl (G.2.1, 60, .inl fs)), (q3, .inl (G.2.1, 60, .inl fc)), (q4, .inl (G.2.1, 60, .inl fw)), (q5, .inl (G.2.1, 60, .inl fu)), (q6, .inl (G.2.1, 60, .inl fe))] (.int (cnt (fun j => shr (nI j) = 9) n)) := by
  refine RO.of (cc := cX2_countWeak) (maxL := 3) (ret := (some .int)) (by decide) rfl (Nat.le_of_ble_eq_true rfl) ?_
  intro cx hxl hxG C E
  subst hxl
  subst hxG
  show X cx (0, 0) [(b, .inr (2, [.int (nI n), .ref q1, .ref q2, .ref q3, .ref q4, .ref q5, .ref q6])), (q1, .inl ((xG cx).2.1, 60, .inl fb)), (q2, .inl ((xG cx).2.1, 60, .inl fs)), (q3, .inl ((xG cx).2.1, 60, .inl fc)), (q4, .inl ((xG cx).2.1, 60, .inl fw)), (q5, .inl ((xG cx).2.1, 60, .inl fu)), (q6, .inl ((xG cx).2.1, 60, .inl fe))] [(0, .ref b)] 0 []
  refine x_iconst (v := 0) C dX2_countWeak_0 (by decide) ?_
  refine x_istore_n C [(1, .int 0), (0, .ref b)] dX2_countWeak_1 rfl (by decide) rfl ?_
  refine x_iconst (v := 0) C dX2_countWeak_2 (by decide) ?_
  refine x_istore_n C [(2, .int 0), (1, .int 0), (0, .ref b)] dX2_countWeak_3 rfl (by decide) rfl ?_
  have loop_4 : ∀ (zz : Nat) (i : Nat) (acc : Int32) (hi : i ≤ n) (hz : n + 1 ≤ i + zz) (ea : acc = (cnt (fun j => shr (nI j) = 9)) i), X cx (0, 0) [(b, .inr (2, [.int (nI n), .ref q1, .ref q2, .ref q3, .ref q4, .ref q5, .ref q6])), (q1, .inl ((xG cx).2.1, 60, .inl fb)), (q2, .inl ((xG cx).2.1, 60, .inl fs)), (q3, .inl ((xG cx).2.1, 60, .inl fc)), (q4, .inl ((xG cx).2.1, 60, .inl fw)), (q5, .inl ((xG cx).2.1, 60, .inl fu)), (q6, .inl ((xG cx).2.1, 60, .inl fe))] [(0, .ref b), (1, .int acc), (2, .int (nI i))] 4 [] := by
    intro zz
    induction zz with
    | zero =>
      intro i acc hi hz ea
      exfalso; omega
    | succ zz ih =>
      intro i acc hi hz ea
      refine x_iload_n C 2 dX2_countWeak_4 rfl rfl ?_
      refine x_aload_n C 0 dX2_countWeak_5 rfl rfl ?_
      refine x_getf C 0 rfl rfl i_kX2_countWeak_X2 0 (by decide) m_kX2_countWeak_1 rfl rfl dX2_countWeak_6 ?_
      refine x_icmp_ge C 28 dX2_countWeak_9 (by decide) (fun c_9 => ?_) (fun c_9 => ?_)
      ·
        have n_9 : n ≤ i := (nI_leI (a := n) (b := i) (by omega) (by omega)).mp c_9
        refine x_iload_n C 1 dX2_countWeak_28 rfl rfl ?_
        exact x_iret C E dX2_countWeak_29 (by rw [ea, show i = n from by omega]) (rfl)
      ·
        have n_9 : ¬ (n ≤ i) := fun q => c_9 ((nI_leI (a := n) (b := i) (by omega) (by omega)).mpr q)
        refine x_iload_n C 1 dX2_countWeak_12 rfl rfl ?_
        refine x_iload_n C 2 dX2_countWeak_13 rfl rfl ?_
        refine x_callNRO C ([.int (nI i)]) ([.int acc]) [] (na := 1) (host := "LampRacks") gX2_countWeak_X6_isWeak_n64 (by decide +kernel) m_kX2_countWeak_2 m_kX2_countWeak_3 rfl (by decide +kernel) rfl (kX6_isWeak (xl cx) (xG cx) (nI i)) rfl (by decide) rfl rfl rfl ⟨by decide, by decide⟩ (Nat.le_of_ble_eq_true rfl) ⟨by decide, by decide⟩ dX2_countWeak_14 ?_
        refine x_callNRO C ([.int (b2i (shr (nI i) = 9))]) ([.int acc]) [] (na := 1) (host := "LampRacks") gX2_countWeak_X6_oneIf_n52 (by decide +kernel) m_kX2_countWeak_4 m_kX2_countWeak_3 rfl (by decide +kernel) rfl (kX6_oneIf (xl cx) (xG cx) (b2i (shr (nI i) = 9)) (b2i_01 _)) rfl (by decide) rfl rfl rfl ⟨by decide, by decide⟩ (Nat.le_of_ble_eq_true rfl) ⟨by decide, by decide⟩ dX2_countWeak_17 ?_
        refine x_iadd C (rfl) dX2_countWeak_20 ?_
        refine x_istore_n C [(1, .int (acc + (b2i (shr (nI i) = 9)))), (0, .ref b), (2, .int (nI i))] dX2_countWeak_21 rfl (by decide) rfl ?_
        refine x_iinc C 2 [(2, .int (nI (i + 1))), (1, .int (acc + (b2i (shr (nI i) = 9)))), (0, .ref b)] dX2_countWeak_22 rfl (inc1 i) (by decide) rfl ?_
        refine x_goto (tgt := 4) C dX2_countWeak_25 (by decide) ?_
        refine x_lv [(0, .ref b), (1, .int (acc + (b2i (shr (nI i) = 9)))), (2, .int (nI (i + 1)))] [2, 1, 0] rfl ?_
        exact ih (i + 1) (acc + (b2i (shr (nI i) = 9))) (by omega) (by omega) (by rw [ea]; rfl)
  refine x_lv [(0, .ref b), (1, .int 0), (2, .int (nI 0))] [2, 1, 0] rfl ?_
  exact loop_4 (n + 1) 0 0 (by omega) (by omega) (rfl)

/-- the first of n with P from i on, by its number; else d -/
def fst (P : Nat → Prop) [DecidablePred P] (d : Int32) : Nat → Nat → Int32
  | 0, _ => d
  | n + 1, i => if P i then nI i else fst P d n (i + 1)
theorem min60 {n : Nat} (h : n ≤ 60) : (if (60 : Int32) < nI n then (60 : Int32) else nI n) = nI n := by
  rw [if_neg]
  intro c
  have := (nI_ltI (a := 60) (b := n) (by omega) (by omega)).mp c
  omega
theorem fst_y {P : Nat → Prop} [DecidablePred P] {d : Int32} {n i : Nat} (h : P i) : fst P d (n + 1) i = nI i := if_pos h
theorem fst_n {P : Nat → Prop} [DecidablePred P] {d : Int32} {n i : Nat} (h : ¬ P i) : fst P d (n + 1) i = fst P d n (i + 1) := if_neg h

theorem i_kX2_sumOf_w_X2 : ∀ w ∈ u_ws RX2 TX2 7, w ∈ wsX2_sumOf := by decide +kernel
theorem m_kX2_sumOf_w_1 : (Cond.fieldLink RX2 9 "LampRacks$Lamps" "size" "I" : Cond) ∈ wsX2_sumOf := by decide +kernel
theorem m_kX2_sumOf_w_2 : (Cond.methodLink RX2 67 Lib.Math.min.name : Cond) ∈ wsX2_sumOf := by decide +kernel
theorem m_kX2_sumOf_w_3 : (Cond.static Lib.Math.min.name : Cond) ∈ wsX2_sumOf := by decide +kernel
theorem m_kX2_sumOf_w_4 : (Cond.initialized "java/lang/Math" : Cond) ∈ wsX2_sumOf := by decide +kernel
theorem m_kX2_sumOf_w_5 : (Cond.code Lib.Math.min.name Lib.Math.min.code 2 (some .int) : Cond) ∈ wsX2_sumOf := by decide +kernel
set_option maxRecDepth 100000 in
set_option maxHeartbeats 4000000 in
theorem kX2_sumOf_w (l : Launch) (G : GG) (b : Nat) (q1 : Nat) (q2 : Nat) (q3 : Nat) (q4 : Nat) (q5 : Nat) (q6 : Nat) (n : Nat) (fb : Nat → Int32) (fs : Nat → Int32) (fc : Nat → Int32) (fw : Nat → Int32) (fu : Nat → Int32) (fe : Nat → Int32) (hn : n ≤ 60) : RO l G yX2_sumOf wsX2_sumOf ({ frames := 1, cells := 0, slots := 0, locals := 14 } : Room) [.ref b, .ref q4] [(b, .inr (2, [.int (nI n), .ref q1, .ref q2, .ref q3, .ref q4, .ref q5, .ref q6])), (q1, .inl (G.2.1, 60, .inl fb)), (q2, .inl (G.2.1, 60, .inl fs)), (q3, .inl (G.2.1, 60, .inl fc)), (q4, .inl (G.2.1, 60, .inl fw)), (q5, .inl (G.2.1, 60, .inl fu)), (q6, .inl (G.2.1, 60, .inl fe))] (.int (sm fw n)) := by
  refine RO.of (cc := cX2_sumOf) (maxL := 4) (ret := (some .int)) (by decide) rfl (Nat.le_of_ble_eq_true rfl) ?_
  intro cx hxl hxG C E
  subst hxl
  subst hxG
  show X cx (0, 0) [(b, .inr (2, [.int (nI n), .ref q1, .ref q2, .ref q3, .ref q4, .ref q5, .ref q6])), (q1, .inl ((xG cx).2.1, 60, .inl fb)), (q2, .inl ((xG cx).2.1, 60, .inl fs)), (q3, .inl ((xG cx).2.1, 60, .inl fc)), (q4, .inl ((xG cx).2.1, 60, .inl fw)), (q5, .inl ((xG cx).2.1, 60, .inl fu)), (q6, .inl ((xG cx).2.1, 60, .inl fe))] [(0, .ref b), (1, .ref q4)] 0 []
  refine x_iconst (v := 0) C dX2_sumOf_0 (by decide) ?_
  refine x_istore_n C [(2, .int 0), (0, .ref b), (1, .ref q4)] dX2_sumOf_1 rfl (by decide) rfl ?_
  refine x_iconst (v := 0) C dX2_sumOf_2 (by decide) ?_
  refine x_istore_n C [(3, .int 0), (2, .int 0), (0, .ref b), (1, .ref q4)] dX2_sumOf_3 rfl (by decide) rfl ?_
  have loop_4 : ∀ (zz : Nat) (i : Nat) (acc : Int32) (hi : i ≤ n) (hz : n + 1 ≤ i + zz) (ea : acc = (sm fw) i), X cx (0, 0) [(b, .inr (2, [.int (nI n), .ref q1, .ref q2, .ref q3, .ref q4, .ref q5, .ref q6])), (q1, .inl ((xG cx).2.1, 60, .inl fb)), (q2, .inl ((xG cx).2.1, 60, .inl fs)), (q3, .inl ((xG cx).2.1, 60, .inl fc)), (q4, .inl ((xG cx).2.1, 60, .inl fw)), (q5, .inl ((xG cx).2.1, 60, .inl fu)), (q6, .inl ((xG cx).2.1, 60, .inl fe))] [(0, .ref b), (1, .ref q4), (2, .int acc), (3, .int (nI i))] 4 [] := by
    intro zz
    induction zz with
    | zero =>
      intro i acc hi hz ea
      exfalso; omega
    | succ zz ih =>
      intro i acc hi hz ea
      refine x_iload_n C 3 dX2_sumOf_4 rfl rfl ?_
      refine x_aload_n C 0 dX2_sumOf_5 rfl rfl ?_
      refine x_getf C 0 rfl rfl i_kX2_sumOf_w_X2 0 (by decide) m_kX2_sumOf_w_1 rfl rfl dX2_sumOf_6 ?_
      refine x_aload_n C 1 dX2_sumOf_9 rfl rfl ?_
      refine x_alen (v := 60) C 4 rfl rfl rfl dX2_sumOf_10 ?_
      refine x_mmin C m_kX2_sumOf_w_2 m_kX2_sumOf_w_3 m_kX2_sumOf_w_4 m_kX2_sumOf_w_5 ⟨by decide, Nat.le_of_ble_eq_true rfl, by decide, by decide⟩ dX2_sumOf_11 ?_
      refine x_top (y := nI n) (min60 hn) ?_
      refine x_icmp_ge C 29 dX2_sumOf_14 (by decide) (fun c_14 => ?_) (fun c_14 => ?_)
      ·
        have n_14 : n ≤ i := (nI_leI (a := n) (b := i) (by omega) (by omega)).mp c_14
        refine x_iload_n C 2 dX2_sumOf_29 rfl rfl ?_
        exact x_iret C E dX2_sumOf_30 (by rw [ea, show i = n from by omega]) (rfl)
      ·
        have n_14 : ¬ (n ≤ i) := fun q => c_14 ((nI_leI (a := n) (b := i) (by omega) (by omega)).mpr q)
        refine x_iload_n C 2 dX2_sumOf_17 rfl rfl ?_
        refine x_aload_n C 1 dX2_sumOf_18 rfl rfl ?_
        refine x_iload_n C 3 dX2_sumOf_19 rfl rfl ?_
        refine x_iald C 4 rfl rfl (vp_in_nI (by omega) (by decide)) (congrArg fw (nI_clamp (by omega))) dX2_sumOf_20 ?_
        refine x_iadd C (rfl) dX2_sumOf_21 ?_
        refine x_istore_n C [(2, .int (acc + (fw i))), (0, .ref b), (1, .ref q4), (3, .int (nI i))] dX2_sumOf_22 rfl (by decide) rfl ?_
        refine x_iinc C 3 [(3, .int (nI (i + 1))), (2, .int (acc + (fw i))), (0, .ref b), (1, .ref q4)] dX2_sumOf_23 rfl (inc1 i) (by decide) rfl ?_
        refine x_goto (tgt := 4) C dX2_sumOf_26 (by decide) ?_
        refine x_lv [(0, .ref b), (1, .ref q4), (2, .int (acc + (fw i))), (3, .int (nI (i + 1)))] [2, 3, 1, 0] rfl ?_
        exact ih (i + 1) (acc + (fw i)) (by omega) (by omega) (by rw [ea]; rfl)
  refine x_lv [(0, .ref b), (1, .ref q4), (2, .int 0), (3, .int (nI 0))] [2, 3, 1, 0] rfl ?_
  exact loop_4 (n + 1) 0 0 (by omega) (by omega) (rfl)

theorem i_kX2_sumOf_u_X2 : ∀ w ∈ u_ws RX2 TX2 7, w ∈ wsX2_sumOf := by decide +kernel
theorem m_kX2_sumOf_u_1 : (Cond.fieldLink RX2 9 "LampRacks$Lamps" "size" "I" : Cond) ∈ wsX2_sumOf := by decide +kernel
theorem m_kX2_sumOf_u_2 : (Cond.methodLink RX2 67 Lib.Math.min.name : Cond) ∈ wsX2_sumOf := by decide +kernel
theorem m_kX2_sumOf_u_3 : (Cond.static Lib.Math.min.name : Cond) ∈ wsX2_sumOf := by decide +kernel
theorem m_kX2_sumOf_u_4 : (Cond.initialized "java/lang/Math" : Cond) ∈ wsX2_sumOf := by decide +kernel
theorem m_kX2_sumOf_u_5 : (Cond.code Lib.Math.min.name Lib.Math.min.code 2 (some .int) : Cond) ∈ wsX2_sumOf := by decide +kernel
set_option maxRecDepth 100000 in
set_option maxHeartbeats 4000000 in
theorem kX2_sumOf_u (l : Launch) (G : GG) (b : Nat) (q1 : Nat) (q2 : Nat) (q3 : Nat) (q4 : Nat) (q5 : Nat) (q6 : Nat) (n : Nat) (fb : Nat → Int32) (fs : Nat → Int32) (fc : Nat → Int32) (fw : Nat → Int32) (fu : Nat → Int32) (fe : Nat → Int32) (hn : n ≤ 60) : RO l G yX2_sumOf wsX2_sumOf ({ frames := 1, cells := 0, slots := 0, locals := 14 } : Room) [.ref b, .ref q5] [(b, .inr (2, [.int (nI n), .ref q1, .ref q2, .ref q3, .ref q4, .ref q5, .ref q6])), (q1, .inl (G.2.1, 60, .inl fb)), (q2, .inl (G.2.1, 60, .inl fs)), (q3, .inl (G.2.1, 60, .inl fc)), (q4, .inl (G.2.1, 60, .inl fw)), (q5, .inl (G.2.1, 60, .inl fu)), (q6, .inl (G.2.1, 60, .inl fe))] (.int (sm fu n)) := by
  refine RO.of (cc := cX2_sumOf) (maxL := 4) (ret := (some .int)) (by decide) rfl (Nat.le_of_ble_eq_true rfl) ?_
  intro cx hxl hxG C E
  subst hxl
  subst hxG
  show X cx (0, 0) [(b, .inr (2, [.int (nI n), .ref q1, .ref q2, .ref q3, .ref q4, .ref q5, .ref q6])), (q1, .inl ((xG cx).2.1, 60, .inl fb)), (q2, .inl ((xG cx).2.1, 60, .inl fs)), (q3, .inl ((xG cx).2.1, 60, .inl fc)), (q4, .inl ((xG cx).2.1, 60, .inl fw)), (q5, .inl ((xG cx).2.1, 60, .inl fu)), (q6, .inl ((xG cx).2.1, 60, .inl fe))] [(0, .ref b), (1, .ref q5)] 0 []
  refine x_iconst (v := 0) C dX2_sumOf_0 (by decide) ?_
  refine x_istore_n C [(2, .int 0), (0, .ref b), (1, .ref q5)] dX2_sumOf_1 rfl (by decide) rfl ?_
  refine x_iconst (v := 0) C dX2_sumOf_2 (by decide) ?_
  refine x_istore_n C [(3, .int 0), (2, .int 0), (0, .ref b), (1, .ref q5)] dX2_sumOf_3 rfl (by decide) rfl ?_
  have loop_4 : ∀ (zz : Nat) (i : Nat) (acc : Int32) (hi : i ≤ n) (hz : n + 1 ≤ i + zz) (ea : acc = (sm fu) i), X cx (0, 0) [(b, .inr (2, [.int (nI n), .ref q1, .ref q2, .ref q3, .ref q4, .ref q5, .ref q6])), (q1, .inl ((xG cx).2.1, 60, .inl fb)), (q2, .inl ((xG cx).2.1, 60, .inl fs)), (q3, .inl ((xG cx).2.1, 60, .inl fc)), (q4, .inl ((xG cx).2.1, 60, .inl fw)), (q5, .inl ((xG cx).2.1, 60, .inl fu)), (q6, .inl ((xG cx).2.1, 60, .inl fe))] [(0, .ref b), (1, .ref q5), (2, .int acc), (3, .int (nI i))] 4 [] := by
    intro zz
    induction zz with
    | zero =>
      intro i acc hi hz ea
      exfalso; omega
    | succ zz ih =>
      intro i acc hi hz ea
      refine x_iload_n C 3 dX2_sumOf_4 rfl rfl ?_
      refine x_aload_n C 0 dX2_sumOf_5 rfl rfl ?_
      refine x_getf C 0 rfl rfl i_kX2_sumOf_u_X2 0 (by decide) m_kX2_sumOf_u_1 rfl rfl dX2_sumOf_6 ?_
      refine x_aload_n C 1 dX2_sumOf_9 rfl rfl ?_
      refine x_alen (v := 60) C 5 rfl rfl rfl dX2_sumOf_10 ?_
      refine x_mmin C m_kX2_sumOf_u_2 m_kX2_sumOf_u_3 m_kX2_sumOf_u_4 m_kX2_sumOf_u_5 ⟨by decide, Nat.le_of_ble_eq_true rfl, by decide, by decide⟩ dX2_sumOf_11 ?_
      refine x_top (y := nI n) (min60 hn) ?_
      refine x_icmp_ge C 29 dX2_sumOf_14 (by decide) (fun c_14 => ?_) (fun c_14 => ?_)
      ·
        have n_14 : n ≤ i := (nI_leI (a := n) (b := i) (by omega) (by omega)).mp c_14
        refine x_iload_n C 2 dX2_sumOf_29 rfl rfl ?_
        exact x_iret C E dX2_sumOf_30 (by rw [ea, show i = n from by omega]) (rfl)
      ·
        have n_14 : ¬ (n ≤ i) := fun q => c_14 ((nI_leI (a := n) (b := i) (by omega) (by omega)).mpr q)
        refine x_iload_n C 2 dX2_sumOf_17 rfl rfl ?_
        refine x_aload_n C 1 dX2_sumOf_18 rfl rfl ?_
        refine x_iload_n C 3 dX2_sumOf_19 rfl rfl ?_
        refine x_iald C 5 rfl rfl (vp_in_nI (by omega) (by decide)) (congrArg fu (nI_clamp (by omega))) dX2_sumOf_20 ?_
        refine x_iadd C (rfl) dX2_sumOf_21 ?_
        refine x_istore_n C [(2, .int (acc + (fu i))), (0, .ref b), (1, .ref q5), (3, .int (nI i))] dX2_sumOf_22 rfl (by decide) rfl ?_
        refine x_iinc C 3 [(3, .int (nI (i + 1))), (2, .int (acc + (fu i))), (0, .ref b), (1, .ref q5)] dX2_sumOf_23 rfl (inc1 i) (by decide) rfl ?_
        refine x_goto (tgt := 4) C dX2_sumOf_26 (by decide) ?_
        refine x_lv [(0, .ref b), (1, .ref q5), (2, .int (acc + (fu i))), (3, .int (nI (i + 1)))] [2, 3, 1, 0] rfl ?_
        exact ih (i + 1) (acc + (fu i)) (by omega) (by omega) (by rw [ea]; rfl)
  refine x_lv [(0, .ref b), (1, .ref q5), (2, .int 0), (3, .int (nI 0))] [2, 3, 1, 0] rfl ?_
  exact loop_4 (n + 1) 0 0 (by omega) (by omega) (rfl)

theorem i_kX2_countEndedBefore_X2 : ∀ w ∈ u_ws RX2 TX2 7, w ∈ wsX2_countEndedBefore := by decide +kernel
theorem m_kX2_countEndedBefore_1 : (Cond.fieldLink RX2 9 "LampRacks$Lamps" "size" "I" : Cond) ∈ wsX2_countEndedBefore := by decide +kernel
theorem m_kX2_countEndedBefore_2 : (Cond.fieldLink RX2 31 "LampRacks$Lamps" "end" "[I" : Cond) ∈ wsX2_countEndedBefore := by decide +kernel
theorem m_kX2_countEndedBefore_3 : (Cond.static yX6_oneIf : Cond) ∈ wsX2_countEndedBefore := by decide +kernel
theorem m_kX2_countEndedBefore_4 : (Cond.initialized RX6 : Cond) ∈ wsX2_countEndedBefore := by decide +kernel
set_option maxRecDepth 100000 in
set_option maxHeartbeats 4000000 in
theorem kX2_countEndedBefore (l : Launch) (G : GG) (b : Nat) (q1 : Nat) (q2 : Nat) (q3 : Nat) (q4 : Nat) (q5 : Nat) (q6 : Nat) (n : Nat) (fb : Nat → Int32) (fs : Nat → Int32) (fc : Nat → Int32) (fw : Nat → Int32) (fu : Nat → Int32) (fe : Nat → Int32) (k : Nat) (hn : n ≤ 60) (hk : k < 60) : RO l G yX2_countEndedBefore wsX2_countEndedBefore ({ frames := 1, cells := 0, slots := 0, locals := 21 } : Room) [.ref b, .int (nI k)] [(b, .inr (2, [.int (nI n), .ref q1, .ref q2, .ref q3, .ref q4, .ref q5, .ref q6])), (q1, .inl (G.2.1, 60, .inl fb)), (q2, .inl (G.2.1, 60, .inl fs)), (q3, .inl (G.2.1, 60, .inl fc)), (q4, .inl (G.2.1, 60, .inl fw)), (q5, .inl (G.2.1, 60, .inl fu)), (q6, .inl (G.2.1, 60, .inl fe))] (.int (cnt (fun j => fe j ≠ -1 ∧ (fe j < fe k ∨ (fe j = fe k ∧ j < k))) n)) := by
  refine RO.of (cc := cX2_countEndedBefore) (maxL := 5) (ret := (some .int)) (by decide) rfl (Nat.le_of_ble_eq_true rfl) ?_
  intro cx hxl hxG C E
  subst hxl
  subst hxG
  show X cx (0, 0) [(b, .inr (2, [.int (nI n), .ref q1, .ref q2, .ref q3, .ref q4, .ref q5, .ref q6])), (q1, .inl ((xG cx).2.1, 60, .inl fb)), (q2, .inl ((xG cx).2.1, 60, .inl fs)), (q3, .inl ((xG cx).2.1, 60, .inl fc)), (q4, .inl ((xG cx).2.1, 60, .inl fw)), (q5, .inl ((xG cx).2.1, 60, .inl fu)), (q6, .inl ((xG cx).2.1, 60, .inl fe))] [(0, .ref b), (1, .int (nI k))] 0 []
  refine x_iconst (v := 0) C dX2_countEndedBefore_0 (by decide) ?_
  refine x_istore_n C [(2, .int 0), (0, .ref b), (1, .int (nI k))] dX2_countEndedBefore_1 rfl (by decide) rfl ?_
  refine x_iconst (v := 0) C dX2_countEndedBefore_2 (by decide) ?_
  refine x_istore_n C [(3, .int 0), (2, .int 0), (0, .ref b), (1, .int (nI k))] dX2_countEndedBefore_3 rfl (by decide) rfl ?_
  have loop_4 : ∀ (zz : Nat) (i : Nat) (acc : Int32) (hi : i ≤ n) (hz : n + 1 ≤ i + zz) (ea : acc = (cnt (fun j => fe j ≠ -1 ∧ (fe j < fe k ∨ (fe j = fe k ∧ j < k)))) i), X cx (0, 0) [(b, .inr (2, [.int (nI n), .ref q1, .ref q2, .ref q3, .ref q4, .ref q5, .ref q6])), (q1, .inl ((xG cx).2.1, 60, .inl fb)), (q2, .inl ((xG cx).2.1, 60, .inl fs)), (q3, .inl ((xG cx).2.1, 60, .inl fc)), (q4, .inl ((xG cx).2.1, 60, .inl fw)), (q5, .inl ((xG cx).2.1, 60, .inl fu)), (q6, .inl ((xG cx).2.1, 60, .inl fe))] [(0, .ref b), (1, .int (nI k)), (2, .int acc), (3, .int (nI i))] 4 [] := by
    intro zz
    induction zz with
    | zero =>
      intro i acc hi hz ea
      exfalso; omega
    | succ zz ih =>
      intro i acc hi hz ea
      refine x_iload_n C 3 dX2_countEndedBefore_4 rfl rfl ?_
      refine x_aload_n C 0 dX2_countEndedBefore_5 rfl rfl ?_
      refine x_getf C 0 rfl rfl i_kX2_countEndedBefore_X2 0 (by decide) m_kX2_countEndedBefore_1 rfl rfl dX2_countEndedBefore_6 ?_
      refine x_icmp_ge C 84 dX2_countEndedBefore_9 (by decide) (fun c_9 => ?_) (fun c_9 => ?_)
      ·
        have n_9 : n ≤ i := (nI_leI (a := n) (b := i) (by omega) (by omega)).mp c_9
        refine x_iload_n C 2 dX2_countEndedBefore_84 rfl rfl ?_
        exact x_iret C E dX2_countEndedBefore_85 (by rw [ea, show i = n from by omega]) (rfl)
      ·
        have n_9 : ¬ (n ≤ i) := fun q => c_9 ((nI_leI (a := n) (b := i) (by omega) (by omega)).mpr q)
        refine x_aload_n C 0 dX2_countEndedBefore_12 rfl rfl ?_
        refine x_getf C 0 rfl rfl i_kX2_countEndedBefore_X2 6 (by decide) m_kX2_countEndedBefore_2 rfl rfl dX2_countEndedBefore_13 ?_
        refine x_iload_n C 3 dX2_countEndedBefore_16 rfl rfl ?_
        refine x_iald C 6 rfl rfl (vp_in_nI (by omega) (by decide)) (congrArg fe (nI_clamp (by omega))) dX2_countEndedBefore_17 ?_
        refine x_aload_n C 0 dX2_countEndedBefore_18 rfl rfl ?_
        refine x_getf C 0 rfl rfl i_kX2_countEndedBefore_X2 6 (by decide) m_kX2_countEndedBefore_2 rfl rfl dX2_countEndedBefore_19 ?_
        refine x_iload_n C 1 dX2_countEndedBefore_22 rfl rfl ?_
        refine x_iald C 6 rfl rfl (vp_in_nI (by omega) (by decide)) (congrArg fe (nI_clamp (by omega))) dX2_countEndedBefore_23 ?_
        have join_52 : ∀ (v0 : Int32) (hv0 : v0 = b2i (fe i < fe k ∨ (fe i = fe k ∧ i < k))), X cx (0, 0) [(b, .inr (2, [.int (nI n), .ref q1, .ref q2, .ref q3, .ref q4, .ref q5, .ref q6])), (q1, .inl ((xG cx).2.1, 60, .inl fb)), (q2, .inl ((xG cx).2.1, 60, .inl fs)), (q3, .inl ((xG cx).2.1, 60, .inl fc)), (q4, .inl ((xG cx).2.1, 60, .inl fw)), (q5, .inl ((xG cx).2.1, 60, .inl fu)), (q6, .inl ((xG cx).2.1, 60, .inl fe))] [(0, .ref b), (1, .int (nI k)), (2, .int acc), (3, .int (nI i))] 52 [.int v0] := by
          intro v0 hv0
          subst hv0
          refine x_istore C [(4, .int (b2i (fe i < fe k ∨ (fe i = fe k ∧ i < k)))), (0, .ref b), (1, .int (nI k)), (2, .int acc), (3, .int (nI i))] dX2_countEndedBefore_52 (by decide) rfl ?_
          refine x_iload_n C 3 dX2_countEndedBefore_54 rfl rfl ?_
          refine x_aload_n C 1 dX2_countEndedBefore_55 rfl rfl ?_
          refine x_iload_n C 4 dX2_countEndedBefore_56 rfl rfl ?_
          refine x_callVRO C ([.int (nI i)]) ([.int acc]) [0, 1, 2, 3, 4, 5, 6] (k0 := 0) (na := 1) gX2_countEndedBefore_X2_isDead rfl (by decide +kernel) rfl rfl rfl (kX2_isDead (xl cx) (xG cx) b q1 q2 q3 q4 q5 q6 n fb fs fc fw fu fe i (by first | assumption | rfl | omega | decide)) rfl (by decide) rfl rfl rfl ⟨by decide, by decide⟩ (Nat.le_of_ble_eq_true rfl) ⟨by decide, by decide⟩ dX2_countEndedBefore_57 ?_
          have join_73 : ∀ (v0 : Int32) (hv0 : v0 = b2i (fe i ≠ -1 ∧ (fe i < fe k ∨ (fe i = fe k ∧ i < k)))), X cx (0, 0) [(b, .inr (2, [.int (nI n), .ref q1, .ref q2, .ref q3, .ref q4, .ref q5, .ref q6])), (q1, .inl ((xG cx).2.1, 60, .inl fb)), (q2, .inl ((xG cx).2.1, 60, .inl fs)), (q3, .inl ((xG cx).2.1, 60, .inl fc)), (q4, .inl ((xG cx).2.1, 60, .inl fw)), (q5, .inl ((xG cx).2.1, 60, .inl fu)), (q6, .inl ((xG cx).2.1, 60, .inl fe))] [(4, .int (b2i (fe i < fe k ∨ (fe i = fe k ∧ i < k)))), (0, .ref b), (1, .int (nI k)), (2, .int acc), (3, .int (nI i))] 73 [.int v0, .int acc] := by
            intro v0 hv0
            subst hv0
            refine x_callNRO C ([.int (b2i (fe i ≠ -1 ∧ (fe i < fe k ∨ (fe i = fe k ∧ i < k))))]) ([.int acc]) [] (na := 1) (host := "LampRacks") gX2_countEndedBefore_X6_oneIf_n52 (by decide +kernel) m_kX2_countEndedBefore_3 m_kX2_countEndedBefore_4 rfl (by decide +kernel) rfl (kX6_oneIf (xl cx) (xG cx) (b2i (fe i ≠ -1 ∧ (fe i < fe k ∨ (fe i = fe k ∧ i < k)))) (b2i_01 _)) rfl (by decide) rfl rfl rfl ⟨by decide, by decide⟩ (Nat.le_of_ble_eq_true rfl) ⟨by decide, by decide⟩ dX2_countEndedBefore_73 ?_
            refine x_iadd C (rfl) dX2_countEndedBefore_76 ?_
            refine x_istore_n C [(2, .int (acc + (b2i (fe i ≠ -1 ∧ (fe i < fe k ∨ (fe i = fe k ∧ i < k)))))), (4, .int (b2i (fe i < fe k ∨ (fe i = fe k ∧ i < k)))), (0, .ref b), (1, .int (nI k)), (3, .int (nI i))] dX2_countEndedBefore_77 rfl (by decide) rfl ?_
            refine x_iinc C 4 [(3, .int (nI (i + 1))), (2, .int (acc + (b2i (fe i ≠ -1 ∧ (fe i < fe k ∨ (fe i = fe k ∧ i < k)))))), (4, .int (b2i (fe i < fe k ∨ (fe i = fe k ∧ i < k)))), (0, .ref b), (1, .int (nI k))] dX2_countEndedBefore_78 rfl (inc1 i) (by decide) rfl ?_
            refine x_goto (tgt := 4) C dX2_countEndedBefore_81 (by decide) ?_
            refine x_lv [(0, .ref b), (1, .int (nI k)), (2, .int (acc + (b2i (fe i ≠ -1 ∧ (fe i < fe k ∨ (fe i = fe k ∧ i < k)))))), (3, .int (nI (i + 1)))] [3, 4, 1, 0] rfl ?_
            exact ih (i + 1) (acc + (b2i (fe i ≠ -1 ∧ (fe i < fe k ∨ (fe i = fe k ∧ i < k))))) (by omega) (by omega) (by rw [ea]; rfl)
          refine x_ifb_eq (P := fe i ≠ -1) C 72 dX2_countEndedBefore_60 (by decide) (fun c_60 => ?_) (fun c_60 => ?_)
          ·
            refine x_iconst (v := 0) C dX2_countEndedBefore_72 (by decide) ?_
            exact join_73 _ (by first | rfl | (symm; first | (apply b2i_t; grind) | (apply b2i_f; grind)) | grind)
          ·
            refine x_iload C 0 dX2_countEndedBefore_63 rfl ?_
            refine x_ifb_eq (P := fe i < fe k ∨ (fe i = fe k ∧ i < k)) C 72 dX2_countEndedBefore_65 (by decide) (fun c_65 => ?_) (fun c_65 => ?_)
            ·
              refine x_iconst (v := 0) C dX2_countEndedBefore_72 (by decide) ?_
              exact join_73 _ (by first | rfl | (symm; first | (apply b2i_t; grind) | (apply b2i_f; grind)) | grind)
            ·
              refine x_iconst (v := 1) C dX2_countEndedBefore_68 (by decide) ?_
              refine x_goto (tgt := 73) C dX2_countEndedBefore_69 (by decide) ?_
              exact join_73 _ (by first | rfl | (symm; first | (apply b2i_t; grind) | (apply b2i_f; grind)) | grind)
        refine x_icmp_lt C 47 dX2_countEndedBefore_24 (by decide) (fun c_24 => ?_) (fun c_24 => ?_)
        ·
          refine x_iconst (v := 1) C dX2_countEndedBefore_47 (by decide) ?_
          refine x_goto (tgt := 52) C dX2_countEndedBefore_48 (by decide) ?_
          exact join_52 _ (by first | rfl | (symm; first | (apply b2i_t; grind) | (apply b2i_f; grind)) | grind)
        ·
          refine x_aload_n C 0 dX2_countEndedBefore_27 rfl rfl ?_
          refine x_getf C 0 rfl rfl i_kX2_countEndedBefore_X2 6 (by decide) m_kX2_countEndedBefore_2 rfl rfl dX2_countEndedBefore_28 ?_
          refine x_iload_n C 3 dX2_countEndedBefore_31 rfl rfl ?_
          refine x_iald C 6 rfl rfl (vp_in_nI (by omega) (by decide)) (congrArg fe (nI_clamp (by omega))) dX2_countEndedBefore_32 ?_
          refine x_aload_n C 0 dX2_countEndedBefore_33 rfl rfl ?_
          refine x_getf C 0 rfl rfl i_kX2_countEndedBefore_X2 6 (by decide) m_kX2_countEndedBefore_2 rfl rfl dX2_countEndedBefore_34 ?_
          refine x_iload_n C 1 dX2_countEndedBefore_37 rfl rfl ?_
          refine x_iald C 6 rfl rfl (vp_in_nI (by omega) (by decide)) (congrArg fe (nI_clamp (by omega))) dX2_countEndedBefore_38 ?_
          refine x_icmp_ne C 51 dX2_countEndedBefore_39 (by decide) (fun c_39 => ?_) (fun c_39 => ?_)
          ·
            refine x_iconst (v := 0) C dX2_countEndedBefore_51 (by decide) ?_
            exact join_52 _ (by first | rfl | (symm; first | (apply b2i_t; grind) | (apply b2i_f; grind)) | grind)
          ·
            refine x_iload_n C 3 dX2_countEndedBefore_42 rfl rfl ?_
            refine x_iload_n C 1 dX2_countEndedBefore_43 rfl rfl ?_
            refine x_icmp_ge C 51 dX2_countEndedBefore_44 (by decide) (fun c_44 => ?_) (fun c_44 => ?_)
            ·
              have n_44 : k ≤ i := (nI_leI (a := k) (b := i) (by omega) (by omega)).mp c_44
              refine x_iconst (v := 0) C dX2_countEndedBefore_51 (by decide) ?_
              exact join_52 _ (by first | rfl | (symm; first | (apply b2i_t; grind) | (apply b2i_f; grind)) | grind)
            ·
              have n_44 : ¬ (k ≤ i) := fun q => c_44 ((nI_leI (a := k) (b := i) (by omega) (by omega)).mpr q)
              refine x_iconst (v := 1) C dX2_countEndedBefore_47 (by decide) ?_
              refine x_goto (tgt := 52) C dX2_countEndedBefore_48 (by decide) ?_
              exact join_52 _ (by first | rfl | (symm; first | (apply b2i_t; grind) | (apply b2i_f; grind)) | grind)
  refine x_lv [(0, .ref b), (1, .int (nI k)), (2, .int 0), (3, .int (nI 0))] [2, 3, 1, 0] rfl ?_
  exact loop_4 (n + 1) 0 0 (by omega) (by omega) (rfl)

theorem i_kX2_findEnded_X2 : ∀ w ∈ u_ws RX2 TX2 7, w ∈ wsX2_findEnded := by decide +kernel
theorem m_kX2_findEnded_1 : (Cond.fieldLink RX2 9 "LampRacks$Lamps" "size" "I" : Cond) ∈ wsX2_findEnded := by decide +kernel
set_option maxRecDepth 100000 in
set_option maxHeartbeats 4000000 in
theorem kX2_findEnded (l : Launch) (G : GG) (b : Nat) (q1 : Nat) (q2 : Nat) (q3 : Nat) (q4 : Nat) (q5 : Nat) (q6 : Nat) (n : Nat) (fb : Nat → Int32) (fs : Nat → Int32) (fc : Nat → Int32) (fw : Nat → Int32) (fu : Nat → Int32) (fe : Nat → Int32) (x : Int32) (hn : n ≤ 60) : RO l G yX2_findEnded wsX2_findEnded ({ frames := 2, cells := 0, slots := 0, locals := 45 } : Room) [.ref b, .int x] [(b, .inr (2, [.int (nI n), .ref q1, .ref q2, .ref q3, .ref q4, .ref q5, .ref q6])), (q1, .inl (G.2.1, 60, .inl fb)), (q2, .inl (G.2.1, 60, .inl fs)), (q3, .inl (G.2.1, 60, .inl fc)), (q4, .inl (G.2.1, 60, .inl fw)), (q5, .inl (G.2.1, 60, .inl fu)), (q6, .inl (G.2.1, 60, .inl fe))] (.int (fst (fun j => fe j ≠ -1 ∧ cnt (fun o => fe o ≠ -1 ∧ (fe o < fe j ∨ (fe o = fe j ∧ o < j))) n = x) (-1) n 0)) := by
  refine RO.of (cc := cX2_findEnded) (maxL := 3) (ret := (some .int)) (by decide) rfl (Nat.le_of_ble_eq_true rfl) ?_
  intro cx hxl hxG C E
  subst hxl
  subst hxG
  show X cx (0, 0) [(b, .inr (2, [.int (nI n), .ref q1, .ref q2, .ref q3, .ref q4, .ref q5, .ref q6])), (q1, .inl ((xG cx).2.1, 60, .inl fb)), (q2, .inl ((xG cx).2.1, 60, .inl fs)), (q3, .inl ((xG cx).2.1, 60, .inl fc)), (q4, .inl ((xG cx).2.1, 60, .inl fw)), (q5, .inl ((xG cx).2.1, 60, .inl fu)), (q6, .inl ((xG cx).2.1, 60, .inl fe))] [(0, .ref b), (1, .int x)] 0 []
  refine x_iconst (v := 0) C dX2_findEnded_0 (by decide) ?_
  refine x_istore_n C [(2, .int 0), (0, .ref b), (1, .int x)] dX2_findEnded_1 rfl (by decide) rfl ?_
  have loop_2 : ∀ (zz : Nat) (i : Nat) (hi : i ≤ n) (hz : n + 1 ≤ i + zz) (ea : fst (fun j => fe j ≠ -1 ∧ cnt (fun o => fe o ≠ -1 ∧ (fe o < fe j ∨ (fe o = fe j ∧ o < j))) n = x) (-1) (n - i) i = fst (fun j => fe j ≠ -1 ∧ cnt (fun o => fe o ≠ -1 ∧ (fe o < fe j ∨ (fe o = fe j ∧ o < j))) n = x) (-1) n 0), X cx (0, 0) [(b, .inr (2, [.int (nI n), .ref q1, .ref q2, .ref q3, .ref q4, .ref q5, .ref q6])), (q1, .inl ((xG cx).2.1, 60, .inl fb)), (q2, .inl ((xG cx).2.1, 60, .inl fs)), (q3, .inl ((xG cx).2.1, 60, .inl fc)), (q4, .inl ((xG cx).2.1, 60, .inl fw)), (q5, .inl ((xG cx).2.1, 60, .inl fu)), (q6, .inl ((xG cx).2.1, 60, .inl fe))] [(0, .ref b), (1, .int x), (2, .int (nI i))] 2 [] := by
    intro zz
    induction zz with
    | zero =>
      intro i hi hz ea
      exfalso; omega
    | succ zz ih =>
      intro i hi hz ea
      refine x_iload_n C 2 dX2_findEnded_2 rfl rfl ?_
      refine x_aload_n C 0 dX2_findEnded_3 rfl rfl ?_
      refine x_getf C 0 rfl rfl i_kX2_findEnded_X2 0 (by decide) m_kX2_findEnded_1 rfl rfl dX2_findEnded_4 ?_
      refine x_icmp_ge C 35 dX2_findEnded_7 (by decide) (fun c_7 => ?_) (fun c_7 => ?_)
      ·
        have n_7 : n ≤ i := (nI_leI (a := n) (b := i) (by omega) (by omega)).mp c_7
        refine x_iconst (v := (-1)) C dX2_findEnded_35 (by decide) ?_
        exact x_iret C E dX2_findEnded_36 (by rw [← ea, show n - i = 0 from by omega]; rfl) (rfl)
      ·
        have n_7 : ¬ (n ≤ i) := fun q => c_7 ((nI_leI (a := n) (b := i) (by omega) (by omega)).mpr q)
        refine x_aload_n C 0 dX2_findEnded_10 rfl rfl ?_
        refine x_iload_n C 2 dX2_findEnded_11 rfl rfl ?_
        refine x_callVRO C ([.int (nI i)]) ([]) [0, 1, 2, 3, 4, 5, 6] (k0 := 0) (na := 1) gX2_findEnded_X2_isDead rfl (by decide +kernel) rfl rfl rfl (kX2_isDead (xl cx) (xG cx) b q1 q2 q3 q4 q5 q6 n fb fs fc fw fu fe i (by first | assumption | rfl | omega | decide)) rfl (by decide) rfl rfl rfl ⟨by decide, by decide⟩ (Nat.le_of_ble_eq_true rfl) ⟨by decide, by decide⟩ dX2_findEnded_12 ?_
        refine x_ifb_eq (P := fe i ≠ -1) C 29 dX2_findEnded_15 (by decide) (fun c_15 => ?_) (fun c_15 => ?_)
        ·
          refine x_iinc C 2 [(2, .int (nI (i + 1))), (0, .ref b), (1, .int x)] dX2_findEnded_29 rfl (inc1 i) (by decide) rfl ?_
          refine x_goto (tgt := 2) C dX2_findEnded_32 (by decide) ?_
          refine x_lv [(0, .ref b), (1, .int x), (2, .int (nI (i + 1)))] [1, 2, 0] rfl ?_
          exact ih (i + 1) (by omega) (by omega) (by rw [← ea, show n - i = (n - (i + 1)) + 1 from by omega]; exact (fst_n (by grind)).symm)
        ·
          refine x_aload_n C 0 dX2_findEnded_18 rfl rfl ?_
          refine x_iload_n C 2 dX2_findEnded_19 rfl rfl ?_
          refine x_callVRO C ([.int (nI i)]) ([]) [0, 1, 2, 3, 4, 5, 6] (k0 := 0) (na := 1) gX2_findEnded_X2_countEndedBefore rfl (by decide +kernel) rfl rfl rfl (kX2_countEndedBefore (xl cx) (xG cx) b q1 q2 q3 q4 q5 q6 n fb fs fc fw fu fe i (by first | assumption | rfl | omega | decide) (by first | assumption | rfl | omega | decide)) rfl (by decide) rfl rfl rfl ⟨by decide, by decide⟩ (Nat.le_of_ble_eq_true rfl) ⟨by decide, by decide⟩ dX2_findEnded_20 ?_
          refine x_iload_n C 1 dX2_findEnded_23 rfl rfl ?_
          refine x_icmp_ne C 29 dX2_findEnded_24 (by decide) (fun c_24 => ?_) (fun c_24 => ?_)
          ·
            refine x_iinc C 2 [(2, .int (nI (i + 1))), (0, .ref b), (1, .int x)] dX2_findEnded_29 rfl (inc1 i) (by decide) rfl ?_
            refine x_goto (tgt := 2) C dX2_findEnded_32 (by decide) ?_
            refine x_lv [(0, .ref b), (1, .int x), (2, .int (nI (i + 1)))] [1, 2, 0] rfl ?_
            exact ih (i + 1) (by omega) (by omega) (by rw [← ea, show n - i = (n - (i + 1)) + 1 from by omega]; exact (fst_n (by grind)).symm)
          ·
            refine x_iload_n C 2 dX2_findEnded_27 rfl rfl ?_
            exact x_iret C E dX2_findEnded_28 (by rw [← ea, show n - i = (n - (i + 1)) + 1 from by omega]; exact (fst_y ⟨c_15, c_24⟩).symm) (rfl)
  refine x_lv [(0, .ref b), (1, .int x), (2, .int (nI 0))] [1, 2, 0] rfl ?_
  exact loop_2 (n + 1) 0 (by omega) (by omega) (rfl)
