theorem rt_rng {tx : Nat → Int32} {ln sp tm : Nat} {td : Nat → Int32} {A : Bool × TS} (e : rtF tx ln (sp, td, tm) = A) (h : A.1 = true) : okT A.2.2.1 tm ∧ ∀ j, j < 4 * tm → A.2.2.1 j = td j := by
  subst e
  unfold rtF at h ⊢
  simp only at h ⊢
  by_cases q : sp < ln
  · rw [if_pos q] at h ⊢
    by_cases c1 : tx sp = 112
    · rw [if_pos c1] at h ⊢
      generalize eQ : (thn (nuF tx ln tm 1 0 2 (sp + 1, upd td (4 * tm) 112)) fun P1 => thn (nuF tx ln tm 2 0 7 P1) fun P2 => thn (tkF tx ln 58 P2) fun P3 => nuF tx ln tm 3 0 5 P3) = Q at h ⊢
      have hQ : Q.1 = true := h
      obtain ⟨q1, e⟩ := thn_t eQ hQ
      have w1 := nuF_rng rfl q1 (by decide) (by decide)
      generalize nuF tx ln tm 1 0 2 (sp + 1, upd td (4 * tm) 112) = A1 at *
      obtain ⟨q2, e⟩ := thn_t e hQ
      have w2 := nuF_rng rfl q2 (by decide) (by decide)
      generalize nuF tx ln tm 2 0 7 (A1.2.1, A1.2.2) = A2 at *
      obtain ⟨q3, e⟩ := thn_t e hQ
      have w3 := tkF_td (rfl : tkF tx ln 58 (A2.2.1, A2.2.2) = _)
      generalize tkF tx ln 58 (A2.2.1, A2.2.2) = A3 at *
      have w4 := nuF_rng e hQ (by decide) (by decide)
      simp only at w1 w2 w3 w4
      refine ⟨Or.inl ⟨?_, ?_, ?_, w4.1⟩, fun j hj => ?_⟩
      · show Q.2.2 (4 * tm) = 112
        rw [w4.2 _ (by omega), w3, w2.2 _ (by omega), w1.2 _ (by omega), upd_eq]
      · show 0 ≤ Q.2.2 (4 * tm + 1) ∧ Q.2.2 (4 * tm + 1) ≤ 2
        rw [w4.2 _ (by omega), w3, w2.2 _ (by omega)]
        exact w1.1
      · show 0 ≤ Q.2.2 (4 * tm + 2) ∧ Q.2.2 (4 * tm + 2) ≤ 7
        rw [w4.2 _ (by omega), w3]
        exact w2.1
      · show Q.2.2 j = td j
        rw [w4.2 _ (by omega), w3, w2.2 _ (by omega), w1.2 _ (by omega), upd_ne (by omega)]
    · rw [if_neg c1] at h ⊢
      by_cases c2 : tx sp = 116
      · rw [if_pos c2] at h ⊢
        generalize eQ : (thn (nuF tx ln tm 1 0 2 (sp + 1, upd td (4 * tm) 116)) fun P1 => nuF tx ln tm 2 0 7 P1) = Q at h ⊢
        have hQ : Q.1 = true := h
        obtain ⟨q1, e⟩ := thn_t eQ hQ
        have w1 := nuF_rng rfl q1 (by decide) (by decide)
        generalize nuF tx ln tm 1 0 2 (sp + 1, upd td (4 * tm) 116) = A1 at *
        have w2 := nuF_rng e hQ (by decide) (by decide)
        simp only at w1 w2
        refine ⟨Or.inr (Or.inl ⟨?_, ?_, w2.1⟩), fun j hj => ?_⟩
        · show Q.2.2 (4 * tm) = 116
          rw [w2.2 _ (by omega), w1.2 _ (by omega), upd_eq]
        · show 0 ≤ Q.2.2 (4 * tm + 1) ∧ Q.2.2 (4 * tm + 1) ≤ 2
          rw [w2.2 _ (by omega)]
          exact w1.1
        · show Q.2.2 j = td j
          rw [w2.2 _ (by omega), w1.2 _ (by omega), upd_ne (by omega)]
      · rw [if_neg c2] at h ⊢
        by_cases c3 : tx sp = 118
        · rw [if_pos c3] at h ⊢
          generalize eQ : (thn (nuF tx ln tm 1 0 2 (sp + 1, upd td (4 * tm) 118)) fun P1 => thn (tkF tx ln 58 P1) fun P2 => nuF tx ln tm 2 0 300 P2) = Q at h ⊢
          have hQ : Q.1 = true := h
          obtain ⟨q1, e⟩ := thn_t eQ hQ
          have w1 := nuF_rng rfl q1 (by decide) (by decide)
          generalize nuF tx ln tm 1 0 2 (sp + 1, upd td (4 * tm) 118) = A1 at *
          obtain ⟨q3, e⟩ := thn_t e hQ
          have w3 := tkF_td (rfl : tkF tx ln 58 (A1.2.1, A1.2.2) = _)
          generalize tkF tx ln 58 (A1.2.1, A1.2.2) = A3 at *
          have w4 := nuF_rng e hQ (by decide) (by decide)
          simp only at w1 w3 w4
          refine ⟨Or.inr (Or.inr (Or.inl ⟨?_, ?_, w4.1⟩)), fun j hj => ?_⟩
          · show Q.2.2 (4 * tm) = 118
            rw [w4.2 _ (by omega), w3, w1.2 _ (by omega), upd_eq]
          · show 0 ≤ Q.2.2 (4 * tm + 1) ∧ Q.2.2 (4 * tm + 1) ≤ 2
            rw [w4.2 _ (by omega), w3]
            exact w1.1
          · show Q.2.2 j = td j
            rw [w4.2 _ (by omega), w3, w1.2 _ (by omega), upd_ne (by omega)]
        · rw [if_neg c3] at h ⊢
          by_cases c4 : tx sp = 115
          · rw [if_pos c4] at h ⊢
            generalize eQ : rsF tx ln tm (sp + 1, upd td (4 * tm) 115) = Q at h ⊢
            have hQ : Q.1 = true := h
            have w := rs_rng eQ hQ
            simp only at w
            refine ⟨Or.inr (Or.inr (Or.inr (Or.inl ⟨?_, w.1, w.2.1, w.2.2.1⟩))), fun j hj => ?_⟩
            · show Q.2.2 (4 * tm) = 115
              rw [w.2.2.2 _ (by omega) (by omega) (by omega), upd_eq]
            · show Q.2.2 j = td j
              rw [w.2.2.2 _ (by omega) (by omega) (by omega), upd_ne (by omega)]
          · rw [if_neg c4] at h ⊢
            by_cases c5 : tx sp = 46
            · rw [if_pos c5] at h ⊢
              generalize eQ : nuF tx ln tm 1 1 999 (sp + 1, upd td (4 * tm) 46) = Q at h ⊢
              have hQ : Q.1 = true := h
              have w1 := nuF_rng eQ hQ (by decide) (by decide)
              simp only at w1
              refine ⟨Or.inr (Or.inr (Or.inr (Or.inr ⟨?_, w1.1⟩))), fun j hj => ?_⟩
              · show Q.2.2 (4 * tm) = 46
                rw [w1.2 _ (by omega), upd_eq]
              · show Q.2.2 j = td j
                rw [w1.2 _ (by omega), upd_ne (by omega)]
            · rw [if_neg c5] at h
              exact absurd h Bool.false_ne_true
  · rw [if_neg q] at h
    exact absurd h Bool.false_ne_true
theorem okT_same {td td' : Nat → Int32} {i : Nat} (h : okT td i) (e : ∀ j, j < 4 * i + 4 → td' j = td j) : okT td' i := by
  unfold okT
  rw [e _ (by omega), e _ (by omega), e _ (by omega), e _ (by omega)]
  exact h
def gdX (ln : Nat) (Q : Bool × TS) : Prop := Q.2.1 ≤ ln ∧ (Q.1 = true → 3 * Q.2.2.2 ≤ Q.2.1 + 1 ∧ ∀ i, i < Q.2.2.2 → okT Q.2.2.1 i)
theorem gdX_N {tx : Nat → Int32} {ln : Nat} {Q : Bool × TS} (h : gdX ln Q) (h1 : Q.1 = true) : gdX ln (xtN tx ln Q) := by
  obtain ⟨hq, hg⟩ := h
  obtain ⟨g1, g2⟩ := hg h1
  cases eU : tkF tx ln 59 (Q.2.1, Q.2.2.1) with
  | mk b U =>
    have lU : U.1 ≤ ln := by
      have w := tkF_le2 (tx := tx) (x := 59) (Q.2.1, Q.2.2.1) hq
      rw [eU] at w
      exact w
    have dU : U.2 = Q.2.2.1 := tkF_td eU
    unfold xtN
    rw [eU]
    by_cases c : b = true
    · rw [if_pos c]
      show gdX ln (rtF tx ln (U.1, U.2, Q.2.2.2))
      have u1 : U.1 = Q.2.1 + 1 := tk_up eU c
      refine ⟨rtF_le _ lU, fun hV => ?_⟩
      have w := rt_up rfl hV
      have r := rt_rng rfl hV
      have w1 := w.1
      have w2 := w.2
      refine ⟨by omega, fun i hi => ?_⟩
      rw [w.2] at hi
      by_cases hl : i < Q.2.2.2
      · refine okT_same (g2 i hl) (fun j hj => ?_)
        rw [r.2 j (by omega), dU]
      · rw [show i = Q.2.2.2 from by omega]
        exact r.1
    · rw [if_neg c]
      exact ⟨lU, fun hV => absurd hV Bool.false_ne_true⟩
theorem gdX_L {tx : Nat → Int32} {ln : Nat} : ∀ d Q, gdX ln Q → gdX ln (xtL tx ln d Q)
  | 0, Q, h => h
  | d + 1, Q, h => by
    show gdX ln (if Q.1 = true then (if Q.2.1 < ln then xtL tx ln d (xtN tx ln Q) else Q) else Q)
    split
    · rename_i c
      split
      · exact gdX_L d _ (gdX_N h c)
      · exact h
    · exact h
theorem okX_all {tx : Nat → Int32} {ln : Nat} (hl : ln ≤ 60) (td : Nat → Int32) : okX tx ln td := by
  intro V e h
  have g0 : gdX ln (rtF tx ln (0, td, 0)) := by
    refine ⟨rtF_le _ (Nat.zero_le _), fun hV => ?_⟩
    have w := rt_up rfl hV
    have r := rt_rng rfl hV
    have w2 := w.2
    have w1 := w.1
    refine ⟨by omega, fun i hi => ?_⟩
    rw [w.2] at hi
    rw [show i = 0 from by omega]
    exact r.1
  have g := gdX_L (tx := tx) 60 _ g0
  rw [show xtL tx ln 60 (rtF tx ln (0, td, 0)) = V from e] at g
  have g2 := g.2 h
  have g1 := g.1
  exact ⟨by omega, g2.2⟩
