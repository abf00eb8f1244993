abbrev PS := Nat × (Nat → Int32)
abbrev seS (tx : Nat → Int32) (ln sp : Nat) (lo hi : Int32) : Prop := sp < ln ∧ (lo ≤ tx sp ∧ tx sp ≤ hi)
def m9 (x : Int32) : Int32 := if x ≤ 9 then x else 9
def tkF (tx : Nat → Int32) (ln : Nat) (x : Int32) (P : PS) : Bool × PS := if seS tx ln P.1 x x then (true, (P.1 + 1, P.2)) else (false, P)
theorem tkF_t {tx : Nat → Int32} {ln sp : Nat} {x : Int32} {td : Nat → Int32} (h : seS tx ln sp x x) : tkF tx ln x (sp, td) = (true, (sp + 1, td)) := if_pos h
theorem tkF_f {tx : Nat → Int32} {ln sp : Nat} {x : Int32} {td : Nat → Int32} (h : ¬ seS tx ln sp x x) : tkF tx ln x (sp, td) = (false, (sp, td)) := if_neg h
theorem tkF_le {tx : Nat → Int32} {ln sp : Nat} {x : Int32} {td : Nat → Int32} (h : sp ≤ ln) : (tkF tx ln x (sp, td)).2.1 ≤ ln := by
  by_cases q : seS tx ln sp x x
  · rw [tkF_t q]
    exact q.1
  · rw [tkF_f q]
    exact h
/-- the digits of a number, as far as it stays small -/
def nuL (tx : Nat → Int32) (ln : Nat) (hi : Int32) : Nat → Nat → Int32 → Nat × Int32
  | 0, sp, n => (sp, n)
  | d + 1, sp, n => if 0 < n then (if seS tx ln sp 48 57 then (if 10 * n + tx sp - 48 ≤ hi then nuL tx ln hi d (sp + 1) (10 * n + tx sp - 48) else (sp, n)) else (sp, n)) else (sp, n)
theorem nuL_le {tx : Nat → Int32} {ln : Nat} {hi : Int32} : ∀ d sp n, sp ≤ ln → (nuL tx ln hi d sp n).1 ≤ ln
  | 0, sp, n, h => h
  | d + 1, sp, n, h => by
    unfold nuL
    split
    · split
      · rename_i q
        split
        · exact nuL_le d _ _ q.1
        · exact h
      · exact h
    · exact h
theorem nuL_1 {tx : Nat → Int32} {ln : Nat} {hi : Int32} {d sp : Nat} {n : Int32} (h : ¬ 0 < n) : nuL tx ln hi d sp n = (sp, n) := by
  cases d with
  | zero => rfl
  | succ d => exact if_neg h
theorem nuL_2 {tx : Nat → Int32} {ln : Nat} {hi : Int32} {d sp : Nat} {n : Int32} (h : ¬ seS tx ln sp 48 57) : nuL tx ln hi d sp n = (sp, n) := by
  cases d with
  | zero => rfl
  | succ d =>
    unfold nuL
    rw [if_neg h]
    split <;> rfl
theorem nuL_3 {tx : Nat → Int32} {ln : Nat} {hi : Int32} {d sp : Nat} {n : Int32} (h : ¬ 10 * n + tx sp - 48 ≤ hi) : nuL tx ln hi d sp n = (sp, n) := by
  cases d with
  | zero => rfl
  | succ d =>
    unfold nuL
    rw [if_neg h]
    split
    · split <;> rfl
    · rfl
theorem nuL_go {tx : Nat → Int32} {ln : Nat} {hi : Int32} {d sp : Nat} {n : Int32} (h1 : 0 < n) (h2 : seS tx ln sp 48 57) (h3 : 10 * n + tx sp - 48 ≤ hi) (hd : ln ≤ sp + d) : nuL tx ln hi (d - 1) (sp + 1) (10 * n + tx sp - 48) = nuL tx ln hi d sp n := by
  cases d with
  | zero => exact absurd h2.1 (by omega)
  | succ d =>
    conv => rhs; unfold nuL
    rw [if_pos h1, if_pos h2, if_pos h3]
    rfl
def nuF (tx : Nat → Int32) (ln tm k : Nat) (lo hi : Int32) (P : PS) : Bool × PS :=
  if seS tx ln P.1 (48 + m9 lo) (48 + m9 hi) then (true, ((nuL tx ln hi 60 (P.1 + 1) (tx P.1 - 48)).1, upd P.2 (4 * tm + k) (nuL tx ln hi 60 (P.1 + 1) (tx P.1 - 48)).2)) else (false, P)
theorem nuF_t {tx : Nat → Int32} {ln tm k sp : Nat} {lo hi : Int32} {td : Nat → Int32} {s : Nat} {n : Int32} (h : seS tx ln sp (48 + m9 lo) (48 + m9 hi)) (e : nuL tx ln hi 60 (sp + 1) (tx sp - 48) = (s, n)) : nuF tx ln tm k lo hi (sp, td) = (true, (s, upd td (4 * tm + k) n)) := by
  unfold nuF
  rw [if_pos h, e]
theorem nuF_f {tx : Nat → Int32} {ln tm k sp : Nat} {lo hi : Int32} {td : Nat → Int32} (h : ¬ seS tx ln sp (48 + m9 lo) (48 + m9 hi)) : nuF tx ln tm k lo hi (sp, td) = (false, (sp, td)) := if_neg h
theorem nuF_le {tx : Nat → Int32} {ln tm k sp : Nat} {lo hi : Int32} {td : Nat → Int32} (h : sp ≤ ln) : (nuF tx ln tm k lo hi (sp, td)).2.1 ≤ ln := by
  by_cases q : seS tx ln sp (48 + m9 lo) (48 + m9 hi)
  · cases e : nuL tx ln hi 60 (sp + 1) (tx sp - 48) with
    | mk s n =>
      have w : (nuL tx ln hi 60 (sp + 1) (tx sp - 48)).1 ≤ ln := nuL_le 60 (sp + 1) (tx sp - 48) q.1
      rw [e] at w
      rw [nuF_t q e]
      exact w
  · rw [nuF_f q]
    exact h
def thn (Q : Bool × PS) (g : PS → Bool × PS) : Bool × PS := if Q.1 = true then g (Q.2.1, Q.2.2) else (false, (Q.2.1, Q.2.2))

theorem i_kX7_sees_X7 : ∀ w ∈ u_ws RX7 TX7 13, w ∈ wsX7_sees := by decide +kernel
theorem m_kX7_sees_1 : (Cond.fieldLink RX7 119 "LampRacksModel" "spot" "I" : Cond) ∈ wsX7_sees := by decide +kernel
theorem m_kX7_sees_2 : (Cond.fieldLink RX7 116 "LampRacksModel" "length" "I" : Cond) ∈ wsX7_sees := by decide +kernel
theorem m_kX7_sees_3 : (Cond.fieldLink RX7 22 "LampRacksModel" "text" "[I" : Cond) ∈ wsX7_sees := by decide +kernel
set_option maxRecDepth 100000 in
set_option maxHeartbeats 4000000 in
theorem kX7_sees (l : Launch) (G : GG) (m : Nat) (w1 : Nat) (w2 : Nat) (w3 : Nat) (w4 : Nat) (w5 : Nat) (w6 : Nat) (ns : Nat) (ln : Nat) (tm : Nat) (sp : Nat) (ik : Int32) (e1 : Int32) (e2 : Int32) (tx : Nat → Int32) (lo : Int32) (hi : Int32) (hl : ln ≤ 60) (hsp : sp ≤ ln) : RO l G yX7_sees wsX7_sees ({ frames := 1, cells := 0, slots := 0, locals := 22 } : Room) [.ref m, .int lo, .int hi] [(m, .inr (7, [.ref w1, .ref w2, .ref w3, .int (nI ns), .ref w4, .int ik, .ref w5, .int (nI ln), .int e1, .int e2, .ref w6, .int (nI tm), .int (nI sp)])), (w5, .inl (G.2.1, 60, .inl tx))] (.int (b2i (seS tx ln sp lo hi))) := by
  refine RO.of (cc := cX7_sees) (maxL := 3) (ret := (some .boolean)) (by decide) rfl (Nat.le_of_ble_eq_true rfl) ?_
  intro cx hxl hxG C E
  subst hxl
  subst hxG
  show X cx (0, 0) [(m, .inr (7, [.ref w1, .ref w2, .ref w3, .int (nI ns), .ref w4, .int ik, .ref w5, .int (nI ln), .int e1, .int e2, .ref w6, .int (nI tm), .int (nI sp)])), (w5, .inl ((xG cx).2.1, 60, .inl tx))] [(0, .ref m), (1, .int lo), (2, .int hi)] 0 []
  refine x_aload_n C 0 dX7_sees_0 rfl rfl ?_
  refine x_getf C 0 rfl rfl i_kX7_sees_X7 12 (by decide) m_kX7_sees_1 rfl rfl dX7_sees_1 ?_
  refine x_aload_n C 0 dX7_sees_4 rfl rfl ?_
  refine x_getf C 0 rfl rfl i_kX7_sees_X7 7 (by decide) m_kX7_sees_2 rfl rfl dX7_sees_5 ?_
  refine x_icmp_ge C 32 dX7_sees_8 (by decide) (fun c_8 => ?_) (fun c_8 => ?_)
  ·
    have n_8 : ln ≤ sp := (nI_leI (a := ln) (b := sp) (by omega) (by omega)).mp c_8
    refine x_iconst (v := 0) C dX7_sees_32 (by decide) ?_
    exact x_zret C E dX7_sees_33 (by first | rfl | (symm; first | (apply b2i_t; exact ⟨Nat.not_le.mp n_8, c_25⟩) | (apply b2i_f; exact fun q => c_25 q.2) | (apply b2i_f; exact fun q => absurd q.1 (Nat.not_lt.mpr n_8)))) (rfl)
  ·
    have n_8 : ¬ (ln ≤ sp) := fun q => c_8 ((nI_leI (a := ln) (b := sp) (by omega) (by omega)).mpr q)
    refine x_aload_n C 0 dX7_sees_11 rfl rfl ?_
    refine x_getf C 0 rfl rfl i_kX7_sees_X7 6 (by decide) m_kX7_sees_3 rfl rfl dX7_sees_12 ?_
    refine x_aload_n C 0 dX7_sees_15 rfl rfl ?_
    refine x_getf C 0 rfl rfl i_kX7_sees_X7 12 (by decide) m_kX7_sees_1 rfl rfl dX7_sees_16 ?_
    refine x_iald C 1 rfl rfl (vp_in_nI (by omega) (by decide)) (congrArg tx (nI_clamp (by omega))) dX7_sees_19 ?_
    refine x_iload_n C 1 dX7_sees_20 rfl rfl ?_
    refine x_iload_n C 2 dX7_sees_21 rfl rfl ?_
    refine x_callSRO C ([.int (tx sp), .int lo, .int hi]) ([]) [] (na := 3) gX7_sees_X7_in rfl (by decide +kernel) rfl (kX7_in (xl cx) (xG cx) (tx sp) lo hi) rfl (by decide) rfl rfl rfl ⟨by decide, by decide⟩ (Nat.le_of_ble_eq_true rfl) ⟨by decide, by decide⟩ dX7_sees_22 ?_
    refine x_ifb_eq (P := lo ≤ (tx sp) ∧ (tx sp) ≤ hi) C 32 dX7_sees_25 (by decide) (fun c_25 => ?_) (fun c_25 => ?_)
    ·
      refine x_iconst (v := 0) C dX7_sees_32 (by decide) ?_
      exact x_zret C E dX7_sees_33 (by first | rfl | (symm; first | (apply b2i_t; exact ⟨Nat.not_le.mp n_8, c_25⟩) | (apply b2i_f; exact fun q => c_25 q.2) | (apply b2i_f; exact fun q => absurd q.1 (Nat.not_lt.mpr n_8)))) (rfl)
    ·
      refine x_iconst (v := 1) C dX7_sees_28 (by decide) ?_
      refine x_goto (tgt := 33) C dX7_sees_29 (by decide) ?_
      exact x_zret C E dX7_sees_33 (by first | rfl | (symm; first | (apply b2i_t; exact ⟨Nat.not_le.mp n_8, c_25⟩) | (apply b2i_f; exact fun q => c_25 q.2) | (apply b2i_f; exact fun q => absurd q.1 (Nat.not_lt.mpr n_8)))) (rfl)

theorem i_kX7_takes_X7 : ∀ w ∈ u_ws RX7 TX7 13, w ∈ wsX7_takes := by decide +kernel
theorem m_kX7_takes_1 : (Cond.fieldLink RX7 119 "LampRacksModel" "spot" "I" : Cond) ∈ wsX7_takes := by decide +kernel
set_option maxRecDepth 100000 in
set_option maxHeartbeats 4000000 in
theorem kX7_takes (l : Launch) (G : GG) (m : Nat) (w1 : Nat) (w2 : Nat) (w3 : Nat) (w4 : Nat) (w5 : Nat) (w6 : Nat) (ns : Nat) (ln : Nat) (tm : Nat) (sp : Nat) (ik : Int32) (e1 : Int32) (e2 : Int32) (tx : Nat → Int32) (td : Nat → Int32) (x : Int32) (hl : ln ≤ 60) (hsp : sp ≤ ln) : MU l G yX7_takes wsX7_takes ({ frames := 2, cells := 0, slots := 0, locals := 44 } : Room) [.ref m, .int x] [(m, .inr (7, [.ref w1, .ref w2, .ref w3, .int (nI ns), .ref w4, .int ik, .ref w5, .int (nI ln), .int e1, .int e2, .ref w6, .int (nI tm), .int (nI sp)])), (w5, .inl (G.2.1, 60, .inl tx)), (w6, .inl (G.2.1, 84, .inl td))] (some (.int (b2i ((tkF tx ln x (sp, td)).1 = true)))) [(m, .inr (7, [.ref w1, .ref w2, .ref w3, .int (nI ns), .ref w4, .int ik, .ref w5, .int (nI ln), .int e1, .int e2, .ref w6, .int (nI tm), .int (nI ((tkF tx ln x (sp, td)).2.1))])), (w5, .inl (G.2.1, 60, .inl tx)), (w6, .inl (G.2.1, 84, .inl ((tkF tx ln x (sp, td)).2.2)))] := by
  refine MU.of (cc := cX7_takes) (maxL := 3) (ret := (some .boolean)) (by decide) rfl (Nat.le_of_ble_eq_true rfl) ?_
  intro cx hxl hxG C M E
  subst hxl
  subst hxG
  show X cx (0, 0) [(m, .inr (7, [.ref w1, .ref w2, .ref w3, .int (nI ns), .ref w4, .int ik, .ref w5, .int (nI ln), .int e1, .int e2, .ref w6, .int (nI tm), .int (nI sp)])), (w5, .inl ((xG cx).2.1, 60, .inl tx)), (w6, .inl ((xG cx).2.1, 84, .inl td))] [(0, .ref m), (1, .int x)] 0 []
  refine x_aload_n C 0 dX7_takes_0 rfl rfl ?_
  refine x_iload_n C 1 dX7_takes_1 rfl rfl ?_
  refine x_iload_n C 1 dX7_takes_2 rfl rfl ?_
  refine x_callVRO C ([.int x, .int x]) ([]) [0, 1] (k0 := 0) (na := 2) gX7_takes_X7_sees rfl (by decide +kernel) rfl rfl rfl (kX7_sees (xl cx) (xG cx) m w1 w2 w3 w4 w5 w6 ns ln tm sp ik e1 e2 tx x x (by first | assumption | rfl | omega | decide) (by first | assumption | rfl | omega | decide)) rfl (by decide) rfl rfl rfl ⟨by decide, by decide⟩ (Nat.le_of_ble_eq_true rfl) ⟨by decide, by decide⟩ dX7_takes_3 ?_
  by_cases hx : seS tx ln sp x x
  ·
    refine x_top (y := 1) (b2i_t hx) ?_
    refine x_istore_n C [(2, .int 1), (0, .ref m), (1, .int x)] dX7_takes_6 rfl (by decide) rfl ?_
    refine x_aload_n C 1 dX7_takes_7 rfl rfl ?_
    refine x_dup C dX7_takes_8 rfl ?_
    refine x_getf C 0 rfl rfl i_kX7_takes_X7 12 (by decide) m_kX7_takes_1 rfl rfl dX7_takes_9 ?_
    refine x_iload_n C 0 dX7_takes_12 rfl rfl ?_
    refine x_if_eq C 20 dX7_takes_13 (by decide) (fun h => absurd h (by decide)) (fun _ => ?_)
    refine x_iconst (v := 1) C dX7_takes_16 (by decide) ?_
    refine x_goto (tgt := 21) C dX7_takes_17 (by decide) ?_
    refine x_iadd C (nI_add sp 1) dX7_takes_21 ?_
    refine x_putf (ty := .int) C M 0 rfl rfl i_kX7_takes_X7 12 (by decide) m_kX7_takes_1 rfl rfl tyX7 tyX7_ok nmX7 (by decide +kernel) rfl rfl (Nat.le_of_ble_eq_true rfl) [(m, .inr (7, [.ref w1, .ref w2, .ref w3, .int (nI ns), .ref w4, .int ik, .ref w5, .int (nI ln), .int e1, .int e2, .ref w6, .int (nI tm), .int (nI (sp + 1))])), (w5, .inl ((xG cx).2.1, 60, .inl tx)), (w6, .inl ((xG cx).2.1, 84, .inl td))] rfl dX7_takes_22 ?_
    refine x_iload_n C 0 dX7_takes_25 rfl rfl ?_
    have e_ret : tkF tx ln x (sp, td) = (true, (sp + 1, td)) := tkF_t hx
    exact x_zret C E dX7_takes_26 (by rw [e_ret]; exact (b2i_t rfl).symm) ((rfl : _ = ([(m, .inr (7, [.ref w1, .ref w2, .ref w3, .int (nI ns), .ref w4, .int ik, .ref w5, .int (nI ln), .int e1, .int e2, .ref w6, .int (nI tm), .int (nI ((sp + 1, td).1))])), (w5, .inl ((xG cx).2.1, 60, .inl tx)), (w6, .inl ((xG cx).2.1, 84, .inl ((sp + 1, td).2)))] : va_W)).trans (by rw [e_ret]))
  ·
    refine x_top (y := 0) (b2i_f hx) ?_
    refine x_istore_n C [(2, .int 0), (0, .ref m), (1, .int x)] dX7_takes_6 rfl (by decide) rfl ?_
    refine x_aload_n C 1 dX7_takes_7 rfl rfl ?_
    refine x_dup C dX7_takes_8 rfl ?_
    refine x_getf C 0 rfl rfl i_kX7_takes_X7 12 (by decide) m_kX7_takes_1 rfl rfl dX7_takes_9 ?_
    refine x_iload_n C 0 dX7_takes_12 rfl rfl ?_
    refine x_if_eq C 20 dX7_takes_13 (by decide) (fun _ => ?_) (fun h => absurd h (by decide))
    refine x_iconst (v := 0) C dX7_takes_20 (by decide) ?_
    refine x_iadd C (nI_add sp 0) dX7_takes_21 ?_
    refine x_putf (ty := .int) C M 0 rfl rfl i_kX7_takes_X7 12 (by decide) m_kX7_takes_1 rfl rfl tyX7 tyX7_ok nmX7 (by decide +kernel) rfl rfl (Nat.le_of_ble_eq_true rfl) [(m, .inr (7, [.ref w1, .ref w2, .ref w3, .int (nI ns), .ref w4, .int ik, .ref w5, .int (nI ln), .int e1, .int e2, .ref w6, .int (nI tm), .int (nI (sp + 0))])), (w5, .inl ((xG cx).2.1, 60, .inl tx)), (w6, .inl ((xG cx).2.1, 84, .inl td))] rfl dX7_takes_22 ?_
    refine x_iload_n C 0 dX7_takes_25 rfl rfl ?_
    have e_ret : tkF tx ln x (sp, td) = (false, (sp + 0, td)) := tkF_f hx
    exact x_zret C E dX7_takes_26 (by rw [e_ret]; exact (b2i_f Bool.false_ne_true).symm) ((rfl : _ = ([(m, .inr (7, [.ref w1, .ref w2, .ref w3, .int (nI ns), .ref w4, .int ik, .ref w5, .int (nI ln), .int e1, .int e2, .ref w6, .int (nI tm), .int (nI ((sp + 0, td).1))])), (w5, .inl ((xG cx).2.1, 60, .inl tx)), (w6, .inl ((xG cx).2.1, 84, .inl ((sp + 0, td).2)))] : va_W)).trans (by rw [e_ret]))

theorem i_kX7_number_X7 : ∀ w ∈ u_ws RX7 TX7 13, w ∈ wsX7_number := by decide +kernel
theorem m_kX7_number_1 : (Cond.fieldLink RX7 22 "LampRacksModel" "text" "[I" : Cond) ∈ wsX7_number := by decide +kernel
theorem m_kX7_number_2 : (Cond.fieldLink RX7 119 "LampRacksModel" "spot" "I" : Cond) ∈ wsX7_number := by decide +kernel
theorem m_kX7_number_3 : (Cond.fieldLink RX7 25 "LampRacksModel" "told" "[I" : Cond) ∈ wsX7_number := by decide +kernel
theorem m_kX7_number_4 : (Cond.fieldLink RX7 126 "LampRacksModel" "toldMany" "I" : Cond) ∈ wsX7_number := by decide +kernel
set_option maxRecDepth 100000 in
set_option maxHeartbeats 4000000 in
theorem kX7_number (l : Launch) (G : GG) (m : Nat) (w1 : Nat) (w2 : Nat) (w3 : Nat) (w4 : Nat) (w5 : Nat) (w6 : Nat) (ns : Nat) (ln : Nat) (tm : Nat) (sp : Nat) (ik : Int32) (e1 : Int32) (e2 : Int32) (tx : Nat → Int32) (td : Nat → Int32) (k : Nat) (lo : Int32) (hi : Int32) (hl : ln ≤ 60) (hsp : sp ≤ ln) (htm : tm < 21) (hk : k < 4) : MU l G yX7_number wsX7_number ({ frames := 2, cells := 0, slots := 0, locals := 44 } : Room) [.ref m, .int (nI k), .int lo, .int hi] [(m, .inr (7, [.ref w1, .ref w2, .ref w3, .int (nI ns), .ref w4, .int ik, .ref w5, .int (nI ln), .int e1, .int e2, .ref w6, .int (nI tm), .int (nI sp)])), (w5, .inl (G.2.1, 60, .inl tx)), (w6, .inl (G.2.1, 84, .inl td))] (some (.int (b2i ((nuF tx ln tm k lo hi (sp, td)).1 = true)))) [(m, .inr (7, [.ref w1, .ref w2, .ref w3, .int (nI ns), .ref w4, .int ik, .ref w5, .int (nI ln), .int e1, .int e2, .ref w6, .int (nI tm), .int (nI ((nuF tx ln tm k lo hi (sp, td)).2.1))])), (w5, .inl (G.2.1, 60, .inl tx)), (w6, .inl (G.2.1, 84, .inl ((nuF tx ln tm k lo hi (sp, td)).2.2)))] := by
  refine MU.of (cc := cX7_number) (maxL := 7) (ret := (some .boolean)) (by decide) rfl (Nat.le_of_ble_eq_true rfl) ?_
  intro cx hxl hxG C M E
  subst hxl
  subst hxG
  show X cx (0, 0) [(m, .inr (7, [.ref w1, .ref w2, .ref w3, .int (nI ns), .ref w4, .int ik, .ref w5, .int (nI ln), .int e1, .int e2, .ref w6, .int (nI tm), .int (nI sp)])), (w5, .inl ((xG cx).2.1, 60, .inl tx)), (w6, .inl ((xG cx).2.1, 84, .inl td))] [(0, .ref m), (1, .int (nI k)), (2, .int lo), (3, .int hi)] 0 []
  refine x_iload_n C 2 dX7_number_0 rfl rfl ?_
  refine x_bipush (v := 9) C dX7_number_1 (by decide) ?_
  have join_12 : ∀ (v0 : Int32) (hv0 : v0 = m9 lo), X cx (0, 0) [(m, .inr (7, [.ref w1, .ref w2, .ref w3, .int (nI ns), .ref w4, .int ik, .ref w5, .int (nI ln), .int e1, .int e2, .ref w6, .int (nI tm), .int (nI sp)])), (w5, .inl ((xG cx).2.1, 60, .inl tx)), (w6, .inl ((xG cx).2.1, 84, .inl td))] [(0, .ref m), (1, .int (nI k)), (2, .int lo), (3, .int hi)] 12 [.int v0] := by
    intro v0 hv0
    subst hv0
    refine x_istore C [(4, .int (m9 lo)), (0, .ref m), (1, .int (nI k)), (2, .int lo), (3, .int hi)] dX7_number_12 (by decide) rfl ?_
    refine x_iload_n C 4 dX7_number_14 rfl rfl ?_
    refine x_bipush (v := 9) C dX7_number_15 (by decide) ?_
    have join_26 : ∀ (v0 : Int32) (hv0 : v0 = m9 hi), X cx (0, 0) [(m, .inr (7, [.ref w1, .ref w2, .ref w3, .int (nI ns), .ref w4, .int ik, .ref w5, .int (nI ln), .int e1, .int e2, .ref w6, .int (nI tm), .int (nI sp)])), (w5, .inl ((xG cx).2.1, 60, .inl tx)), (w6, .inl ((xG cx).2.1, 84, .inl td))] [(4, .int (m9 lo)), (0, .ref m), (1, .int (nI k)), (2, .int lo), (3, .int hi)] 26 [.int v0] := by
      intro v0 hv0
      subst hv0
      refine x_istore C [(5, .int (m9 hi)), (4, .int (m9 lo)), (0, .ref m), (1, .int (nI k)), (2, .int lo), (3, .int hi)] dX7_number_26 (by decide) rfl ?_
      refine x_aload_n C 2 dX7_number_28 rfl rfl ?_
      refine x_bipush (v := 48) C dX7_number_29 (by decide) ?_
      refine x_iload C 1 dX7_number_31 rfl ?_
      refine x_iadd C (rfl) dX7_number_33 ?_
      refine x_bipush (v := 48) C dX7_number_34 (by decide) ?_
      refine x_iload C 0 dX7_number_36 rfl ?_
      refine x_iadd C (rfl) dX7_number_38 ?_
      refine x_callVRO C ([.int (48 + (m9 lo)), .int (48 + (m9 hi))]) ([]) [0, 1] (k0 := 0) (na := 2) gX7_number_X7_sees rfl (by decide +kernel) rfl rfl rfl (kX7_sees (xl cx) (xG cx) m w1 w2 w3 w4 w5 w6 ns ln tm sp ik e1 e2 tx (48 + (m9 lo)) (48 + (m9 hi)) (by first | assumption | rfl | omega | decide) (by first | assumption | rfl | omega | decide)) rfl (by decide) rfl rfl rfl ⟨by decide, by decide⟩ (Nat.le_of_ble_eq_true rfl) ⟨by decide, by decide⟩ dX7_number_39 ?_
      refine x_ifb_ne (P := seS tx ln sp (48 + (m9 lo)) (48 + (m9 hi))) C 47 dX7_number_42 (by decide) (fun c_42 => ?_) (fun c_42 => ?_)
      ·
        refine x_aload_n C 2 dX7_number_47 rfl rfl ?_
        refine x_getf C 0 rfl rfl i_kX7_number_X7 6 (by decide) m_kX7_number_1 rfl rfl dX7_number_48 ?_
        refine x_aload_n C 2 dX7_number_51 rfl rfl ?_
        refine x_getf C 0 rfl rfl i_kX7_number_X7 12 (by decide) m_kX7_number_2 rfl rfl dX7_number_52 ?_
        refine x_iald C 1 rfl rfl (vp_in_nI (by omega) (by decide)) (congrArg tx (nI_clamp (by omega))) dX7_number_55 ?_
        refine x_bipush (v := 48) C dX7_number_56 (by decide) ?_
        refine x_isub C (rfl) dX7_number_58 ?_
        refine x_istore C [(6, .int ((tx sp) - 48)), (5, .int (m9 hi)), (4, .int (m9 lo)), (0, .ref m), (1, .int (nI k)), (2, .int lo), (3, .int hi)] dX7_number_59 (by decide) rfl ?_
        refine x_aload_n C 3 dX7_number_61 rfl rfl ?_
        refine x_dup C dX7_number_62 rfl ?_
        refine x_getf C 0 rfl rfl i_kX7_number_X7 12 (by decide) m_kX7_number_2 rfl rfl dX7_number_63 ?_
        refine x_iconst (v := 1) C dX7_number_66 (by decide) ?_
        refine x_iadd C (nI_add sp 1) dX7_number_67 ?_
        refine x_putf (ty := .int) C M 0 rfl rfl i_kX7_number_X7 12 (by decide) m_kX7_number_2 rfl rfl tyX7 tyX7_ok nmX7 (by decide +kernel) rfl rfl (Nat.le_of_ble_eq_true rfl) [(m, .inr (7, [.ref w1, .ref w2, .ref w3, .int (nI ns), .ref w4, .int ik, .ref w5, .int (nI ln), .int e1, .int e2, .ref w6, .int (nI tm), .int (nI (sp + 1))])), (w5, .inl ((xG cx).2.1, 60, .inl tx)), (w6, .inl ((xG cx).2.1, 84, .inl td))] rfl dX7_number_68 ?_
        have loop_71 : ∀ (zz : Nat) (s : Nat) (dd : Nat) (n : Int32) (hs : s ≤ ln) (hd : ln ≤ s + dd) (hz : dd + 1 ≤ zz) (en : nuL tx ln hi dd s n = nuL tx ln hi 60 (sp + 1) (tx sp - 48)), X cx (0, 0) [(m, .inr (7, [.ref w1, .ref w2, .ref w3, .int (nI ns), .ref w4, .int ik, .ref w5, .int (nI ln), .int e1, .int e2, .ref w6, .int (nI tm), .int (nI s)])), (w5, .inl ((xG cx).2.1, 60, .inl tx)), (w6, .inl ((xG cx).2.1, 84, .inl td))] [(0, .ref m), (1, .int (nI k)), (2, .int lo), (3, .int hi), (4, .int (m9 lo)), (5, .int (m9 hi)), (6, .int n)] 71 [] := by
          intro zz
          induction zz with
          | zero =>
            intro s dd n hs hd hz en
            exfalso; omega
          | succ zz ih =>
            intro s dd n hs hd hz en
            refine x_iload C 6 dX7_number_71 rfl ?_
            refine x_if_le C 142 dX7_number_73 (by decide) (fun c_73 => ?_) (fun c_73 => ?_)
            ·
              have e9 : nuL tx ln hi 60 (sp + 1) (tx sp - 48) = (s, n) := en.symm.trans (nuL_1 (Int32.not_lt.mpr c_73))
              refine x_aload_n C 0 dX7_number_142 rfl rfl ?_
              refine x_getf C 0 rfl rfl i_kX7_number_X7 10 (by decide) m_kX7_number_3 rfl rfl dX7_number_143 ?_
              refine x_iconst (v := 4) C dX7_number_146 (by decide) ?_
              refine x_aload_n C 0 dX7_number_147 rfl rfl ?_
              refine x_getf C 0 rfl rfl i_kX7_number_X7 11 (by decide) m_kX7_number_4 rfl rfl dX7_number_148 ?_
              refine x_imul C (pk_mul 4 tm) dX7_number_151 ?_
              refine x_iload_n C 1 dX7_number_152 rfl rfl ?_
              refine x_iadd C (nI_add (4 * tm) k) dX7_number_153 ?_
              refine x_iload C 6 dX7_number_154 rfl ?_
              refine x_iast C M 2 rfl rfl (vp_in_nI (by omega) (by decide)) (nI_clamp (by omega)) [(m, .inr (7, [.ref w1, .ref w2, .ref w3, .int (nI ns), .ref w4, .int ik, .ref w5, .int (nI ln), .int e1, .int e2, .ref w6, .int (nI tm), .int (nI s)])), (w5, .inl ((xG cx).2.1, 60, .inl tx)), (w6, .inl ((xG cx).2.1, 84, .inl (upd td ((4 * tm) + k) n)))] rfl dX7_number_156 ?_
              refine x_iconst (v := 1) C dX7_number_157 (by decide) ?_
              have e_ret : nuF tx ln tm k lo hi (sp, td) = (true, (s, upd td ((4 * tm) + k) n)) := nuF_t c_42 e9
              exact x_zret C E dX7_number_158 (by rw [e_ret]; exact (b2i_t rfl).symm) ((rfl : _ = ([(m, .inr (7, [.ref w1, .ref w2, .ref w3, .int (nI ns), .ref w4, .int ik, .ref w5, .int (nI ln), .int e1, .int e2, .ref w6, .int (nI tm), .int (nI ((s, upd td ((4 * tm) + k) n).1))])), (w5, .inl ((xG cx).2.1, 60, .inl tx)), (w6, .inl ((xG cx).2.1, 84, .inl ((s, upd td ((4 * tm) + k) n).2)))] : va_W)).trans (by rw [e_ret]))
            ·
              refine x_aload_n C 0 dX7_number_76 rfl rfl ?_
              refine x_bipush (v := 48) C dX7_number_77 (by decide) ?_
              refine x_bipush (v := 57) C dX7_number_79 (by decide) ?_
              refine x_callVRO C ([.int 48, .int 57]) ([]) [0, 1] (k0 := 0) (na := 2) gX7_number_X7_sees rfl (by decide +kernel) rfl rfl rfl (kX7_sees (xl cx) (xG cx) m w1 w2 w3 w4 w5 w6 ns ln tm s ik e1 e2 tx 48 57 (by first | assumption | rfl | omega | decide) (by first | assumption | rfl | omega | decide)) rfl (by decide) rfl rfl rfl ⟨by decide, by decide⟩ (Nat.le_of_ble_eq_true rfl) ⟨by decide, by decide⟩ dX7_number_81 ?_
              refine x_ifb_eq (P := seS tx ln s 48 57) C 142 dX7_number_84 (by decide) (fun c_84 => ?_) (fun c_84 => ?_)
              ·
                have e9 : nuL tx ln hi 60 (sp + 1) (tx sp - 48) = (s, n) := en.symm.trans (nuL_2 c_84)
                refine x_aload_n C 0 dX7_number_142 rfl rfl ?_
                refine x_getf C 0 rfl rfl i_kX7_number_X7 10 (by decide) m_kX7_number_3 rfl rfl dX7_number_143 ?_
                refine x_iconst (v := 4) C dX7_number_146 (by decide) ?_
                refine x_aload_n C 0 dX7_number_147 rfl rfl ?_
                refine x_getf C 0 rfl rfl i_kX7_number_X7 11 (by decide) m_kX7_number_4 rfl rfl dX7_number_148 ?_
                refine x_imul C (pk_mul 4 tm) dX7_number_151 ?_
                refine x_iload_n C 1 dX7_number_152 rfl rfl ?_
                refine x_iadd C (nI_add (4 * tm) k) dX7_number_153 ?_
                refine x_iload C 6 dX7_number_154 rfl ?_
                refine x_iast C M 2 rfl rfl (vp_in_nI (by omega) (by decide)) (nI_clamp (by omega)) [(m, .inr (7, [.ref w1, .ref w2, .ref w3, .int (nI ns), .ref w4, .int ik, .ref w5, .int (nI ln), .int e1, .int e2, .ref w6, .int (nI tm), .int (nI s)])), (w5, .inl ((xG cx).2.1, 60, .inl tx)), (w6, .inl ((xG cx).2.1, 84, .inl (upd td ((4 * tm) + k) n)))] rfl dX7_number_156 ?_
                refine x_iconst (v := 1) C dX7_number_157 (by decide) ?_
                have e_ret : nuF tx ln tm k lo hi (sp, td) = (true, (s, upd td ((4 * tm) + k) n)) := nuF_t c_42 e9
                exact x_zret C E dX7_number_158 (by rw [e_ret]; exact (b2i_t rfl).symm) ((rfl : _ = ([(m, .inr (7, [.ref w1, .ref w2, .ref w3, .int (nI ns), .ref w4, .int ik, .ref w5, .int (nI ln), .int e1, .int e2, .ref w6, .int (nI tm), .int (nI ((s, upd td ((4 * tm) + k) n).1))])), (w5, .inl ((xG cx).2.1, 60, .inl tx)), (w6, .inl ((xG cx).2.1, 84, .inl ((s, upd td ((4 * tm) + k) n).2)))] : va_W)).trans (by rw [e_ret]))
              ·
                refine x_bipush (v := 10) C dX7_number_87 (by decide) ?_
                refine x_iload C 6 dX7_number_89 rfl ?_
                refine x_imul C (rfl) dX7_number_91 ?_
                refine x_aload_n C 0 dX7_number_92 rfl rfl ?_
                refine x_getf C 0 rfl rfl i_kX7_number_X7 6 (by decide) m_kX7_number_1 rfl rfl dX7_number_93 ?_
                refine x_aload_n C 0 dX7_number_96 rfl rfl ?_
                refine x_getf C 0 rfl rfl i_kX7_number_X7 12 (by decide) m_kX7_number_2 rfl rfl dX7_number_97 ?_
                refine x_iald C 1 rfl rfl (vp_in_nI (by omega) (by decide)) (congrArg tx (nI_clamp (by omega))) dX7_number_100 ?_
                refine x_iadd C (rfl) dX7_number_101 ?_
                refine x_bipush (v := 48) C dX7_number_102 (by decide) ?_
                refine x_isub C (rfl) dX7_number_104 ?_
                refine x_iload_n C 3 dX7_number_105 rfl rfl ?_
                refine x_icmp_gt C 142 dX7_number_106 (by decide) (fun c_106 => ?_) (fun c_106 => ?_)
                ·
                  have e9 : nuL tx ln hi 60 (sp + 1) (tx sp - 48) = (s, n) := en.symm.trans (nuL_3 (Int32.not_le.mpr c_106))
                  refine x_aload_n C 0 dX7_number_142 rfl rfl ?_
                  refine x_getf C 0 rfl rfl i_kX7_number_X7 10 (by decide) m_kX7_number_3 rfl rfl dX7_number_143 ?_
                  refine x_iconst (v := 4) C dX7_number_146 (by decide) ?_
                  refine x_aload_n C 0 dX7_number_147 rfl rfl ?_
                  refine x_getf C 0 rfl rfl i_kX7_number_X7 11 (by decide) m_kX7_number_4 rfl rfl dX7_number_148 ?_
                  refine x_imul C (pk_mul 4 tm) dX7_number_151 ?_
                  refine x_iload_n C 1 dX7_number_152 rfl rfl ?_
                  refine x_iadd C (nI_add (4 * tm) k) dX7_number_153 ?_
                  refine x_iload C 6 dX7_number_154 rfl ?_
                  refine x_iast C M 2 rfl rfl (vp_in_nI (by omega) (by decide)) (nI_clamp (by omega)) [(m, .inr (7, [.ref w1, .ref w2, .ref w3, .int (nI ns), .ref w4, .int ik, .ref w5, .int (nI ln), .int e1, .int e2, .ref w6, .int (nI tm), .int (nI s)])), (w5, .inl ((xG cx).2.1, 60, .inl tx)), (w6, .inl ((xG cx).2.1, 84, .inl (upd td ((4 * tm) + k) n)))] rfl dX7_number_156 ?_
                  refine x_iconst (v := 1) C dX7_number_157 (by decide) ?_
                  have e_ret : nuF tx ln tm k lo hi (sp, td) = (true, (s, upd td ((4 * tm) + k) n)) := nuF_t c_42 e9
                  exact x_zret C E dX7_number_158 (by rw [e_ret]; exact (b2i_t rfl).symm) ((rfl : _ = ([(m, .inr (7, [.ref w1, .ref w2, .ref w3, .int (nI ns), .ref w4, .int ik, .ref w5, .int (nI ln), .int e1, .int e2, .ref w6, .int (nI tm), .int (nI ((s, upd td ((4 * tm) + k) n).1))])), (w5, .inl ((xG cx).2.1, 60, .inl tx)), (w6, .inl ((xG cx).2.1, 84, .inl ((s, upd td ((4 * tm) + k) n).2)))] : va_W)).trans (by rw [e_ret]))
                ·
                  refine x_bipush (v := 10) C dX7_number_109 (by decide) ?_
                  refine x_iload C 6 dX7_number_111 rfl ?_
                  refine x_imul C (rfl) dX7_number_113 ?_
                  refine x_aload_n C 0 dX7_number_114 rfl rfl ?_
                  refine x_getf C 0 rfl rfl i_kX7_number_X7 6 (by decide) m_kX7_number_1 rfl rfl dX7_number_115 ?_
                  refine x_aload_n C 0 dX7_number_118 rfl rfl ?_
                  refine x_getf C 0 rfl rfl i_kX7_number_X7 12 (by decide) m_kX7_number_2 rfl rfl dX7_number_119 ?_
                  refine x_iald C 1 rfl rfl (vp_in_nI (by omega) (by decide)) (congrArg tx (nI_clamp (by omega))) dX7_number_122 ?_
                  refine x_iadd C (rfl) dX7_number_123 ?_
                  refine x_bipush (v := 48) C dX7_number_124 (by decide) ?_
                  refine x_isub C (rfl) dX7_number_126 ?_
                  refine x_istore C [(6, .int (((10 * n) + (tx s)) - 48)), (0, .ref m), (1, .int (nI k)), (2, .int lo), (3, .int hi), (4, .int (m9 lo)), (5, .int (m9 hi))] dX7_number_127 (by decide) rfl ?_
                  refine x_aload_n C 1 dX7_number_129 rfl rfl ?_
                  refine x_dup C dX7_number_130 rfl ?_
                  refine x_getf C 0 rfl rfl i_kX7_number_X7 12 (by decide) m_kX7_number_2 rfl rfl dX7_number_131 ?_
                  refine x_iconst (v := 1) C dX7_number_134 (by decide) ?_
                  refine x_iadd C (nI_add s 1) dX7_number_135 ?_
                  refine x_putf (ty := .int) C M 0 rfl rfl i_kX7_number_X7 12 (by decide) m_kX7_number_2 rfl rfl tyX7 tyX7_ok nmX7 (by decide +kernel) rfl rfl (Nat.le_of_ble_eq_true rfl) [(m, .inr (7, [.ref w1, .ref w2, .ref w3, .int (nI ns), .ref w4, .int ik, .ref w5, .int (nI ln), .int e1, .int e2, .ref w6, .int (nI tm), .int (nI (s + 1))])), (w5, .inl ((xG cx).2.1, 60, .inl tx)), (w6, .inl ((xG cx).2.1, 84, .inl td))] rfl dX7_number_136 ?_
                  refine x_goto (tgt := 71) C dX7_number_139 (by decide) ?_
                  refine x_lv [(0, .ref m), (1, .int (nI k)), (2, .int lo), (3, .int hi), (4, .int (m9 lo)), (5, .int (m9 hi)), (6, .int (((10 * n) + (tx s)) - 48))] [1, 2, 3, 4, 5, 6, 0] rfl ?_
                  exact ih (s + 1) (dd - 1) (((10 * n) + (tx s)) - 48) (c_84.1) (by have := c_84.1; omega) (by have := c_84.1; omega) ((nuL_go (Int32.not_le.mp c_73) c_84 (Int32.not_lt.mp c_106) hd).trans en)
        refine x_lv [(0, .ref m), (1, .int (nI k)), (2, .int lo), (3, .int hi), (4, .int (m9 lo)), (5, .int (m9 hi)), (6, .int ((tx sp) - 48))] [3, 4, 5, 6, 2, 1, 0] rfl ?_
        exact loop_71 (61) (sp + 1) 60 ((tx sp) - 48) (c_42.1) (by omega) (by omega) (rfl)
      ·
        refine x_iconst (v := 0) C dX7_number_45 (by decide) ?_
        have e_ret : nuF tx ln tm k lo hi (sp, td) = (false, (sp, td)) := nuF_f c_42
        exact x_zret C E dX7_number_46 (by rw [e_ret]; exact (b2i_f Bool.false_ne_true).symm) ((rfl : _ = ([(m, .inr (7, [.ref w1, .ref w2, .ref w3, .int (nI ns), .ref w4, .int ik, .ref w5, .int (nI ln), .int e1, .int e2, .ref w6, .int (nI tm), .int (nI ((sp, td).1))])), (w5, .inl ((xG cx).2.1, 60, .inl tx)), (w6, .inl ((xG cx).2.1, 84, .inl ((sp, td).2)))] : va_W)).trans (by rw [e_ret]))
    refine x_icmp_le C 25 dX7_number_17 (by decide) (fun c_17 => ?_) (fun c_17 => ?_)
    ·
      refine x_iload_n C 4 dX7_number_25 rfl rfl ?_
      exact join_26 _ ((if_pos c_17).symm)
    ·
      refine x_bipush (v := 9) C dX7_number_20 (by decide) ?_
      refine x_goto (tgt := 26) C dX7_number_22 (by decide) ?_
      exact join_26 _ ((if_neg c_17).symm)
  refine x_icmp_le C 11 dX7_number_3 (by decide) (fun c_3 => ?_) (fun c_3 => ?_)
  ·
    refine x_iload_n C 2 dX7_number_11 rfl rfl ?_
    exact join_12 _ ((if_pos c_3).symm)
  ·
    refine x_bipush (v := 9) C dX7_number_6 (by decide) ?_
    refine x_goto (tgt := 12) C dX7_number_8 (by decide) ?_
    exact join_12 _ ((if_neg c_3).symm)
