theorem tkF_ge {tx : Nat → Int32} {ln : Nat} {x : Int32} (P : PS) : P.1 ≤ (tkF tx ln x P).2.1 := by
  unfold tkF
  split
  · exact Nat.le_succ _
  · exact Nat.le_refl _
theorem nuL_ge {tx : Nat → Int32} {ln : Nat} {hi : Int32} : ∀ d sp n, sp ≤ (nuL tx ln hi d sp n).1
  | 0, sp, n => Nat.le_refl _
  | d + 1, sp, n => by
    unfold nuL
    split
    · split
      · split
        · exact Nat.le_trans (Nat.le_succ _) (nuL_ge d _ _)
        · exact Nat.le_refl _
      · exact Nat.le_refl _
    · exact Nat.le_refl _
theorem nuF_gt {tx : Nat → Int32} {ln tm k : Nat} {lo hi : Int32} (P : PS) (h : (nuF tx ln tm k lo hi P).1 = true) : P.1 + 1 ≤ (nuF tx ln tm k lo hi P).2.1 := by
  obtain ⟨sp, td⟩ := P
  by_cases q : seS tx ln sp (48 + m9 lo) (48 + m9 hi)
  · cases e : nuL tx ln hi 60 (sp + 1) (tx sp - 48) with
    | mk s n =>
      have w : sp + 1 ≤ (nuL tx ln hi 60 (sp + 1) (tx sp - 48)).1 := nuL_ge 60 (sp + 1) (tx sp - 48)
      rw [e] at w
      rw [nuF_t q e]
      exact w
  · rw [nuF_f q] at h
    exact absurd h Bool.false_ne_true
theorem nuF_ge {tx : Nat → Int32} {ln tm k : Nat} {lo hi : Int32} (P : PS) : P.1 ≤ (nuF tx ln tm k lo hi P).2.1 := by
  by_cases h : (nuF tx ln tm k lo hi P).1 = true
  · exact Nat.le_of_succ_le (nuF_gt P h)
  · obtain ⟨sp, td⟩ := P
    by_cases q : seS tx ln sp (48 + m9 lo) (48 + m9 hi)
    · exact absurd (by rw [nuF_t q rfl]) h
    · rw [nuF_f q]
      exact Nat.le_refl _
theorem tkF_le2 {tx : Nat → Int32} {ln : Nat} {x : Int32} (P : PS) (h : P.1 ≤ ln) : (tkF tx ln x P).2.1 ≤ ln := tkF_le (td := P.2) h
theorem nuF_le2 {tx : Nat → Int32} {ln tm k : Nat} {lo hi : Int32} (P : PS) (h : P.1 ≤ ln) : (nuF tx ln tm k lo hi P).2.1 ≤ ln := nuF_le (td := P.2) h
theorem thn_ge {Q : Bool × PS} {g : PS → Bool × PS} {s : Nat} (hg : ∀ P, P.1 ≤ (g P).2.1) (h : s ≤ Q.2.1) : s ≤ (thn Q g).2.1 := by
  unfold thn
  split
  · exact Nat.le_trans h (hg _)
  · exact h
theorem thn_le {Q : Bool × PS} {g : PS → Bool × PS} {s : Nat} (hg : ∀ P, P.1 ≤ s → (g P).2.1 ≤ s) (h : Q.2.1 ≤ s) : (thn Q g).2.1 ≤ s := by
  unfold thn
  split
  · exact hg _ h
  · exact h
theorem thn_gt {Q : Bool × PS} {g : PS → Bool × PS} {s : Nat} (hg : ∀ P, P.1 ≤ (g P).2.1) (h : Q.1 = true → s ≤ Q.2.1) (w : (thn Q g).1 = true) : s ≤ (thn Q g).2.1 := by
  unfold thn at w ⊢
  split
  · rename_i q
    exact Nat.le_trans (h q) (hg _)
  · rename_i q
    rw [if_neg q] at w
    exact absurd w Bool.false_ne_true
theorem rs3_le {tx : Nat → Int32} {ln tm : Nat} (P3 : PS) (h : P3.1 ≤ ln) : (if (tkF tx ln 43 P3).1 = true then thn (nuF tx ln tm 3 0 50 ((tkF tx ln 43 P3).2.1, (tkF tx ln 43 P3).2.2)) fun P4 => (true, (P4.1, upd P4.2 (4 * tm + 3) (P4.2 (4 * tm + 3) * 1)))
    else thn (tkF tx ln 45 ((tkF tx ln 43 P3).2.1, (tkF tx ln 43 P3).2.2)) fun P5 => thn (nuF tx ln tm 3 0 50 P5) fun P6 => ((true, (P6.1, upd P6.2 (4 * tm + 3) (P6.2 (4 * tm + 3) * (-1)))) : Bool × PS)).2.1 ≤ ln := by
  have h1 := tkF_le2 (tx := tx) (x := 43) P3 h
  split
  · exact thn_le (fun P q => q) (nuF_le2 _ h1)
  · exact thn_le (fun P q => thn_le (fun P q => q) (nuF_le2 _ q)) (tkF_le2 _ h1)
theorem rs3_ge {tx : Nat → Int32} {ln tm : Nat} (P3 : PS) : P3.1 ≤ (if (tkF tx ln 43 P3).1 = true then thn (nuF tx ln tm 3 0 50 ((tkF tx ln 43 P3).2.1, (tkF tx ln 43 P3).2.2)) fun P4 => (true, (P4.1, upd P4.2 (4 * tm + 3) (P4.2 (4 * tm + 3) * 1)))
    else thn (tkF tx ln 45 ((tkF tx ln 43 P3).2.1, (tkF tx ln 43 P3).2.2)) fun P5 => thn (nuF tx ln tm 3 0 50 P5) fun P6 => ((true, (P6.1, upd P6.2 (4 * tm + 3) (P6.2 (4 * tm + 3) * (-1)))) : Bool × PS)).2.1 := by
  have h1 := tkF_ge (tx := tx) (ln := ln) (x := 43) P3
  split
  · exact thn_ge (fun P => Nat.le_refl _) (Nat.le_trans h1 (nuF_ge _))
  · exact thn_ge (fun P => thn_ge (fun P => Nat.le_refl _) (nuF_ge _)) (Nat.le_trans h1 (tkF_ge _))
theorem rsF_le {tx : Nat → Int32} {ln tm : Nat} (P : PS) (h : P.1 ≤ ln) : (rsF tx ln tm P).2.1 ≤ ln :=
  thn_le (fun _ q => thn_le (fun _ q => thn_le (fun _ q => rs3_le _ q) (nuF_le2 _ q)) (tkF_le2 _ q)) (nuF_le2 _ h)
theorem rsF_gt {tx : Nat → Int32} {ln tm : Nat} (P : PS) (h : (rsF tx ln tm P).1 = true) : P.1 + 1 ≤ (rsF tx ln tm P).2.1 :=
  thn_gt (fun _ => thn_ge (fun _ => thn_ge (fun _ => rs3_ge _) (nuF_ge _)) (tkF_ge _)) (fun q => nuF_gt _ q) h
theorem rtF_le {tx : Nat → Int32} {ln : Nat} (P : TS) (h : P.1 ≤ ln) : (rtF tx ln P).2.1 ≤ ln := by
  unfold rtF
  by_cases q : P.1 < ln
  · rw [if_pos q]
    split
    · exact thn_le (fun _ q => thn_le (fun _ q => thn_le (fun _ q => nuF_le2 _ q) (tkF_le2 _ q)) (nuF_le2 _ q)) (nuF_le2 _ q)
    · split
      · exact thn_le (fun _ q => nuF_le2 _ q) (nuF_le2 _ q)
      · split
        · exact thn_le (fun _ q => thn_le (fun _ q => nuF_le2 _ q) (tkF_le2 _ q)) (nuF_le2 _ q)
        · split
          · exact rsF_le _ q
          · split
            · exact nuF_le2 _ q
            · exact h
  · rw [if_neg q]
    exact h
theorem rtF_gt {tx : Nat → Int32} {ln : Nat} (P : TS) (w : (rtF tx ln P).1 = true) : P.1 + 2 ≤ (rtF tx ln P).2.1 ∧ (rtF tx ln P).2.2.2 = P.2.2 + 1 := by
  unfold rtF at w ⊢
  by_cases q : P.1 < ln
  · rw [if_pos q] at w ⊢
    by_cases c1 : tx P.1 = 112
    · rw [if_pos c1] at w ⊢
      exact ⟨thn_gt (fun _ => thn_ge (fun _ => thn_ge (fun _ => nuF_ge _) (tkF_ge _)) (nuF_ge _)) (fun q => nuF_gt (P.1 + 1, _) q) w, rfl⟩
    · rw [if_neg c1] at w ⊢
      by_cases c2 : tx P.1 = 116
      · rw [if_pos c2] at w ⊢
        exact ⟨thn_gt (fun _ => nuF_ge _) (fun q => nuF_gt (P.1 + 1, _) q) w, rfl⟩
      · rw [if_neg c2] at w ⊢
        by_cases c3 : tx P.1 = 118
        · rw [if_pos c3] at w ⊢
          exact ⟨thn_gt (fun _ => thn_ge (fun _ => nuF_ge _) (tkF_ge _)) (fun q => nuF_gt (P.1 + 1, _) q) w, rfl⟩
        · rw [if_neg c3] at w ⊢
          by_cases c4 : tx P.1 = 115
          · rw [if_pos c4] at w ⊢
            exact ⟨rsF_gt (P.1 + 1, _) w, rfl⟩
          · rw [if_neg c4] at w ⊢
            by_cases c5 : tx P.1 = 46
            · rw [if_pos c5] at w ⊢
              exact ⟨nuF_gt (P.1 + 1, _) w, rfl⟩
            · rw [if_neg c5] at w
              exact absurd w Bool.false_ne_true
  · rw [if_neg q] at w
    exact absurd w Bool.false_ne_true
theorem rt_up {tx : Nat → Int32} {ln a c : Nat} {b : Nat → Int32} {V : Bool × TS} (e : rtF tx ln (a, b, c) = V) (h : V.1 = true) : a + 2 ≤ V.2.1 ∧ V.2.2.2 = c + 1 := by
  subst e
  exact rtF_gt (a, b, c) h
theorem tk_up {tx : Nat → Int32} {ln sp : Nat} {x : Int32} {td : Nat → Int32} {U : Bool × PS} (e : tkF tx ln x (sp, td) = U) (h : U.1 = true) : U.2.1 = sp + 1 := by
  subst e
  by_cases q : seS tx ln sp x x
  · rw [tkF_t q]
  · rw [tkF_f q] at h
    exact absurd h Bool.false_ne_true
/-- things, as long as they go on -/
def xtN (tx : Nat → Int32) (ln : Nat) (Q : Bool × TS) : Bool × TS :=
  if (tkF tx ln 59 (Q.2.1, Q.2.2.1)).1 = true then rtF tx ln ((tkF tx ln 59 (Q.2.1, Q.2.2.1)).2.1, (tkF tx ln 59 (Q.2.1, Q.2.2.1)).2.2, Q.2.2.2)
  else (false, (tkF tx ln 59 (Q.2.1, Q.2.2.1)).2.1, (tkF tx ln 59 (Q.2.1, Q.2.2.1)).2.2, Q.2.2.2)
def xtL (tx : Nat → Int32) (ln : Nat) : Nat → Bool × TS → Bool × TS
  | 0, Q => Q
  | d + 1, Q => if Q.1 = true then (if Q.2.1 < ln then xtL tx ln d (xtN tx ln Q) else Q) else Q
def xtF (tx : Nat → Int32) (ln : Nat) (td : Nat → Int32) : Bool × TS := xtL tx ln 60 (rtF tx ln (0, td, 0))
theorem xt_1 {tx : Nat → Int32} {ln d : Nat} {Q : Bool × TS} (h : ¬ Q.1 = true) : xtL tx ln d Q = Q := by
  cases d with
  | zero => rfl
  | succ d => exact if_neg h
theorem xt_2 {tx : Nat → Int32} {ln d : Nat} {Q : Bool × TS} (h : ¬ Q.2.1 < ln) : xtL tx ln d Q = Q := by
  cases d with
  | zero => rfl
  | succ d =>
    show (if Q.1 = true then (if Q.2.1 < ln then _ else Q) else Q) = Q
    rw [if_neg h]
    split <;> rfl
theorem xt_go {tx : Nat → Int32} {ln d : Nat} {Q R : Bool × TS} (h1 : Q.1 = true) (h2 : Q.2.1 < ln) (hd : ln ≤ Q.2.1 + d) (e : xtN tx ln Q = R) : xtL tx ln (d - 1) R = xtL tx ln d Q := by
  subst e
  cases d with
  | zero => exact absurd h2 (by omega)
  | succ d => exact ((if_pos h1).trans (if_pos h2)).symm

theorem i_kX7_readText_X7 : ∀ w ∈ u_ws RX7 TX7 13, w ∈ wsX7_readText := by decide +kernel
theorem m_kX7_readText_1 : (Cond.fieldLink RX7 119 "LampRacksModel" "spot" "I" : Cond) ∈ wsX7_readText := by decide +kernel
theorem m_kX7_readText_2 : (Cond.fieldLink RX7 126 "LampRacksModel" "toldMany" "I" : Cond) ∈ wsX7_readText := by decide +kernel
theorem m_kX7_readText_3 : (Cond.fieldLink RX7 116 "LampRacksModel" "length" "I" : Cond) ∈ wsX7_readText := by decide +kernel
set_option maxRecDepth 100000 in
set_option maxHeartbeats 4000000 in
theorem kX7_readText (l : Launch) (G : GG) (m : Nat) (w1 : Nat) (w2 : Nat) (w3 : Nat) (w4 : Nat) (w5 : Nat) (w6 : Nat) (ns : Nat) (ln : Nat) (tm : Nat) (sp : Nat) (ik : Int32) (e1 : Int32) (e2 : Int32) (tx : Nat → Int32) (td : Nat → Int32) (hl : ln ≤ 60) : MU l G yX7_readText wsX7_readText ({ frames := 5, cells := 0, slots := 0, locals := 114 } : Room) [.ref m] [(m, .inr (7, [.ref w1, .ref w2, .ref w3, .int (nI ns), .ref w4, .int ik, .ref w5, .int (nI ln), .int e1, .int e2, .ref w6, .int (nI tm), .int (nI sp)])), (w5, .inl (G.2.1, 60, .inl tx)), (w6, .inl (G.2.1, 84, .inl td))] (some (.int (b2i ((xtF tx ln td).1 = true)))) [(m, .inr (7, [.ref w1, .ref w2, .ref w3, .int (nI ns), .ref w4, .int ik, .ref w5, .int (nI ln), .int e1, .int e2, .ref w6, .int (nI ((xtF tx ln td).2.2.2)), .int (nI ((xtF tx ln td).2.1))])), (w5, .inl (G.2.1, 60, .inl tx)), (w6, .inl (G.2.1, 84, .inl ((xtF tx ln td).2.2.1)))] := by
  refine MU.of (cc := cX7_readText) (maxL := 2) (ret := (some .boolean)) (by decide) rfl (Nat.le_of_ble_eq_true rfl) ?_
  intro cx hxl hxG C M E
  subst hxl
  subst hxG
  show X cx (0, 0) [(m, .inr (7, [.ref w1, .ref w2, .ref w3, .int (nI ns), .ref w4, .int ik, .ref w5, .int (nI ln), .int e1, .int e2, .ref w6, .int (nI tm), .int (nI sp)])), (w5, .inl ((xG cx).2.1, 60, .inl tx)), (w6, .inl ((xG cx).2.1, 84, .inl td))] [(0, .ref m)] 0 []
  refine x_aload_n C 0 dX7_readText_0 rfl rfl ?_
  refine x_iconst (v := 0) C dX7_readText_1 (by decide) ?_
  refine x_putf (ty := .int) C M 0 rfl rfl i_kX7_readText_X7 12 (by decide) m_kX7_readText_1 rfl rfl tyX7 tyX7_ok nmX7 (by decide +kernel) rfl rfl (Nat.le_of_ble_eq_true rfl) [(m, .inr (7, [.ref w1, .ref w2, .ref w3, .int (nI ns), .ref w4, .int ik, .ref w5, .int (nI ln), .int e1, .int e2, .ref w6, .int (nI tm), .int 0])), (w5, .inl ((xG cx).2.1, 60, .inl tx)), (w6, .inl ((xG cx).2.1, 84, .inl td))] rfl dX7_readText_2 ?_
  refine x_aload_n C 0 dX7_readText_5 rfl rfl ?_
  refine x_iconst (v := 0) C dX7_readText_6 (by decide) ?_
  refine x_putf (ty := .int) C M 0 rfl rfl i_kX7_readText_X7 11 (by decide) m_kX7_readText_2 rfl rfl tyX7 tyX7_ok nmX7 (by decide +kernel) rfl rfl (Nat.le_of_ble_eq_true rfl) [(m, .inr (7, [.ref w1, .ref w2, .ref w3, .int (nI ns), .ref w4, .int ik, .ref w5, .int (nI ln), .int e1, .int e2, .ref w6, .int 0, .int 0])), (w5, .inl ((xG cx).2.1, 60, .inl tx)), (w6, .inl ((xG cx).2.1, 84, .inl td))] rfl dX7_readText_7 ?_
  refine x_aload_n C 0 dX7_readText_10 rfl rfl ?_
  refine x_callVMU C ([]) ([]) [0, 1, 2] [(m, .inr (7, [.ref w1, .ref w2, .ref w3, .int (nI ns), .ref w4, .int ik, .ref w5, .int (nI ln), .int e1, .int e2, .ref w6, .int (nI ((rtF tx ln (0, td, 0)).2.2.2)), .int (nI ((rtF tx ln (0, td, 0)).2.1))])), (w5, .inl ((xG cx).2.1, 60, .inl tx)), (w6, .inl ((xG cx).2.1, 84, .inl ((rtF tx ln (0, td, 0)).2.2.1)))] [] [m, w5, w6] rfl rfl [] rfl rfl 3 rfl (by decide +kernel) rfl (k0 := 0) (na := 0) gX7_readText_X7_readThing rfl (by decide +kernel) rfl rfl rfl M (kX7_readThing (xl cx) (xG cx) m w1 w2 w3 w4 w5 w6 ns ln 0 0 ik e1 e2 tx td (by first | assumption | rfl | omega | decide) (Nat.zero_le _) (by decide)) rfl (by decide) rfl rfl rfl ⟨by decide, by decide⟩ (Nat.le_of_ble_eq_true rfl) ⟨by decide, by decide⟩ dX7_readText_11 ?_
  generalize e_R : rtF tx ln (0, td, 0) = R
  have l_R : R.2.1 ≤ ln := by rw [← e_R]; exact rtF_le _ (Nat.zero_le _)
  have t_R : R.1 = true → 3 * R.2.2.2 ≤ R.2.1 + 1 := fun q => by have w := rt_up e_R q; omega
  refine x_istore_n C [(1, .int (b2i (R.1 = true))), (0, .ref m)] dX7_readText_14 rfl (by decide) rfl ?_
  have loop_15 : ∀ (zz : Nat) (dd : Nat) (Q : Bool × TS) (hq : Q.2.1 ≤ ln) (ht : Q.1 = true → 3 * Q.2.2.2 ≤ Q.2.1 + 1) (hd : Q.1 = true → ln ≤ Q.2.1 + dd) (hz : dd + 1 ≤ zz) (en : xtL tx ln dd Q = xtF tx ln td), X cx (0, 0) [(m, .inr (7, [.ref w1, .ref w2, .ref w3, .int (nI ns), .ref w4, .int ik, .ref w5, .int (nI ln), .int e1, .int e2, .ref w6, .int (nI Q.2.2.2), .int (nI Q.2.1)])), (w5, .inl ((xG cx).2.1, 60, .inl tx)), (w6, .inl ((xG cx).2.1, 84, .inl Q.2.2.1))] [(0, .ref m), (1, .int (b2i (Q.1 = true)))] 15 [] := by
    intro zz
    induction zz with
    | zero =>
      intro dd Q hq ht hd hz en
      exfalso; omega
    | succ zz ih =>
      intro dd Q hq ht hd hz en
      refine x_iload_n C 1 dX7_readText_15 rfl rfl ?_
      refine x_ifb_eq (P := Q.1 = true) C 55 dX7_readText_16 (by decide) (fun c_16 => ?_) (fun c_16 => ?_)
      ·
        refine x_iload_n C 1 dX7_readText_55 rfl rfl ?_
        exact x_zret C E dX7_readText_56 (by rw [← en, xt_1 c_16]) (by first | (rw [← en, xt_2 (Nat.not_lt.mpr n_27)]; done) | (rw [← en, xt_1 c_16]; done))
      ·
        refine x_aload_n C 0 dX7_readText_19 rfl rfl ?_
        refine x_getf C 0 rfl rfl i_kX7_readText_X7 12 (by decide) m_kX7_readText_1 rfl rfl dX7_readText_20 ?_
        refine x_aload_n C 0 dX7_readText_23 rfl rfl ?_
        refine x_getf C 0 rfl rfl i_kX7_readText_X7 7 (by decide) m_kX7_readText_3 rfl rfl dX7_readText_24 ?_
        refine x_icmp_ge C 55 dX7_readText_27 (by decide) (fun c_27 => ?_) (fun c_27 => ?_)
        ·
          have n_27 : ln ≤ Q.2.1 := (nI_leI (a := ln) (b := Q.2.1) (by omega) (by omega)).mp c_27
          refine x_iload_n C 1 dX7_readText_55 rfl rfl ?_
          exact x_zret C E dX7_readText_56 (by rw [← en, xt_2 (Nat.not_lt.mpr n_27)]) (by first | (rw [← en, xt_2 (Nat.not_lt.mpr n_27)]; done) | (rw [← en, xt_1 c_16]; done))
        ·
          have n_27 : ¬ (ln ≤ Q.2.1) := fun q => c_27 ((nI_leI (a := ln) (b := Q.2.1) (by omega) (by omega)).mpr q)
          refine x_aload_n C 0 dX7_readText_30 rfl rfl ?_
          refine x_bipush (v := 59) C dX7_readText_31 (by decide) ?_
          refine x_callVMU C ([.int 59]) ([]) [0, 1, 2] [(m, .inr (7, [.ref w1, .ref w2, .ref w3, .int (nI ns), .ref w4, .int ik, .ref w5, .int (nI ln), .int e1, .int e2, .ref w6, .int (nI Q.2.2.2), .int (nI ((tkF tx ln 59 (Q.2.1, Q.2.2.1)).2.1))])), (w5, .inl ((xG cx).2.1, 60, .inl tx)), (w6, .inl ((xG cx).2.1, 84, .inl ((tkF tx ln 59 (Q.2.1, Q.2.2.1)).2.2)))] [] [m, w5, w6] rfl rfl [] rfl rfl 3 rfl (by decide +kernel) rfl (k0 := 0) (na := 1) gX7_readText_X7_takes rfl (by decide +kernel) rfl rfl rfl M (kX7_takes (xl cx) (xG cx) m w1 w2 w3 w4 w5 w6 ns ln Q.2.2.2 Q.2.1 ik e1 e2 tx Q.2.2.1 59 (by first | assumption | rfl | omega | decide) (hq)) rfl (by decide) rfl rfl rfl ⟨by decide, by decide⟩ (Nat.le_of_ble_eq_true rfl) ⟨by decide, by decide⟩ dX7_readText_33 ?_
          generalize e_U : tkF tx ln 59 (Q.2.1, Q.2.2.1) = U
          have l_U : U.2.1 ≤ ln := by rw [← e_U]; exact tkF_le hq
          refine x_ifb_eq (P := U.1 = true) C 50 dX7_readText_36 (by decide) (fun c_36 => ?_) (fun c_36 => ?_)
          ·
            refine x_iconst (v := 0) C dX7_readText_50 (by decide) ?_
            refine x_top (y := b2i ((false, U.2.1, U.2.2, Q.2.2.2).1 = true)) ((b2i_f (P := (false, U.2.1, U.2.2, Q.2.2.2).1 = true) Bool.false_ne_true).symm) ?_
            refine x_istore_n C [(1, .int (b2i ((false, U.2.1, U.2.2, Q.2.2.2).1 = true))), (0, .ref m)] dX7_readText_51 rfl (by decide) rfl ?_
            refine x_goto (tgt := 15) C dX7_readText_52 (by decide) ?_
            refine x_ws [(m, .inr (7, [.ref w1, .ref w2, .ref w3, .int (nI ns), .ref w4, .int ik, .ref w5, .int (nI ln), .int e1, .int e2, .ref w6, .int (nI ((false, U.2.1, U.2.2, Q.2.2.2).2.2.2)), .int (nI ((false, U.2.1, U.2.2, Q.2.2.2).2.1))])), (w5, .inl ((xG cx).2.1, 60, .inl tx)), (w6, .inl ((xG cx).2.1, 84, .inl ((false, U.2.1, U.2.2, Q.2.2.2).2.2.1)))] (rfl) ?_
            refine x_lv [(0, .ref m), (1, .int (b2i ((false, U.2.1, U.2.2, Q.2.2.2).1 = true)))] [1, 0] rfl ?_
            exact ih (dd - 1) (false, U.2.1, U.2.2, Q.2.2.2) (l_U) (fun q => absurd q Bool.false_ne_true) (fun q => absurd q Bool.false_ne_true) (by have := hd c_16; omega) ((xt_go c_16 (Nat.not_le.mp n_27) (hd c_16) (by unfold xtN; rw [e_U, if_neg c_36])).trans en)
          ·
            have u1 := tk_up e_U c_36
            have h16 := ht c_16
            have htm3 : Q.2.2.2 < 21 := by omega
            refine x_aload_n C 0 dX7_readText_39 rfl rfl ?_
            refine x_callVMU C ([]) ([]) [0, 1, 2] [(m, .inr (7, [.ref w1, .ref w2, .ref w3, .int (nI ns), .ref w4, .int ik, .ref w5, .int (nI ln), .int e1, .int e2, .ref w6, .int (nI ((rtF tx ln (U.2.1, U.2.2, Q.2.2.2)).2.2.2)), .int (nI ((rtF tx ln (U.2.1, U.2.2, Q.2.2.2)).2.1))])), (w5, .inl ((xG cx).2.1, 60, .inl tx)), (w6, .inl ((xG cx).2.1, 84, .inl ((rtF tx ln (U.2.1, U.2.2, Q.2.2.2)).2.2.1)))] [] [m, w5, w6] rfl rfl [] rfl rfl 3 rfl (by decide +kernel) rfl (k0 := 0) (na := 0) gX7_readText_X7_readThing rfl (by decide +kernel) rfl rfl rfl M (kX7_readThing (xl cx) (xG cx) m w1 w2 w3 w4 w5 w6 ns ln Q.2.2.2 U.2.1 ik e1 e2 tx U.2.2 (by first | assumption | rfl | omega | decide) (l_U) (htm3)) rfl (by decide) rfl rfl rfl ⟨by decide, by decide⟩ (Nat.le_of_ble_eq_true rfl) ⟨by decide, by decide⟩ dX7_readText_40 ?_
            generalize e_V : rtF tx ln (U.2.1, U.2.2, Q.2.2.2) = V
            have l_V : V.2.1 ≤ ln := by rw [← e_V]; exact rtF_le _ l_U
            refine x_ifb_eq (P := V.1 = true) C 50 dX7_readText_43 (by decide) (fun c_43 => ?_) (fun c_43 => ?_)
            ·
              refine x_iconst (v := 0) C dX7_readText_50 (by decide) ?_
              refine x_top (y := b2i (V.1 = true)) ((b2i_f c_43).symm) ?_
              refine x_istore_n C [(1, .int (b2i (V.1 = true))), (0, .ref m)] dX7_readText_51 rfl (by decide) rfl ?_
              refine x_goto (tgt := 15) C dX7_readText_52 (by decide) ?_
              refine x_lv [(0, .ref m), (1, .int (b2i (V.1 = true)))] [1, 0] rfl ?_
              exact ih (dd - 1) V (l_V) (fun q => by have w := rt_up e_V q; omega) (fun q => by have w := rt_up e_V q; have := hd c_16; omega) (by have := hd c_16; omega) ((xt_go c_16 (Nat.not_le.mp n_27) (hd c_16) (by unfold xtN; rw [e_U, if_pos c_36]; exact e_V)).trans en)
            ·
              refine x_iconst (v := 1) C dX7_readText_46 (by decide) ?_
              refine x_goto (tgt := 51) C dX7_readText_47 (by decide) ?_
              refine x_top (y := b2i (V.1 = true)) ((b2i_t c_43).symm) ?_
              refine x_istore_n C [(1, .int (b2i (V.1 = true))), (0, .ref m)] dX7_readText_51 rfl (by decide) rfl ?_
              refine x_goto (tgt := 15) C dX7_readText_52 (by decide) ?_
              refine x_lv [(0, .ref m), (1, .int (b2i (V.1 = true)))] [1, 0] rfl ?_
              exact ih (dd - 1) V (l_V) (fun q => by have w := rt_up e_V q; omega) (fun q => by have w := rt_up e_V q; have := hd c_16; omega) (by have := hd c_16; omega) ((xt_go c_16 (Nat.not_le.mp n_27) (hd c_16) (by unfold xtN; rw [e_U, if_pos c_36]; exact e_V)).trans en)
  refine x_lv [(0, .ref m), (1, .int (b2i (R.1 = true)))] [1, 0] rfl ?_
  exact loop_15 (61) 60 R (l_R) (t_R) (fun _ => by omega) (by omega) (by rw [← e_R]; rfl)
