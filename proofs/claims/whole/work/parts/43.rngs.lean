theorem thn_t {Q A : Bool × PS} {g : PS → Bool × PS} (e : thn Q g = A) (h : A.1 = true) : Q.1 = true ∧ g (Q.2.1, Q.2.2) = A := by
  subst e
  unfold thn at h ⊢
  by_cases q : Q.1 = true
  · rw [if_pos q] at h ⊢
    exact ⟨q, rfl⟩
  · rw [if_neg q] at h
    exact absurd h Bool.false_ne_true
theorem x50 {x : Int32} (h : 0 ≤ x ∧ x ≤ 50) : (-50 ≤ x * 1 ∧ x * 1 ≤ 50) ∧ (-50 ≤ x * (-1) ∧ x * (-1) ≤ 50) := by
  have h1 := Int32.le_iff_toInt_le.mp h.1
  have h2 := Int32.le_iff_toInt_le.mp h.2
  have e0 : (0 : Int32).toInt = 0 := by decide
  have e1 : (1 : Int32).toInt = 1 := by decide
  have em : (-1 : Int32).toInt = -1 := by decide
  have e50 : (50 : Int32).toInt = 50 := by decide
  have e5m : (-50 : Int32).toInt = -50 := by decide
  have m1 := ti_mul (x := x) (y := 1) (by rw [e1]; omega)
  have m2 := ti_mul (x := x) (y := -1) (by rw [em]; omega)
  rw [e1] at m1
  rw [em] at m2
  refine ⟨⟨Int32.le_iff_toInt_le.mpr ?_, Int32.le_iff_toInt_le.mpr ?_⟩, ⟨Int32.le_iff_toInt_le.mpr ?_, Int32.le_iff_toInt_le.mpr ?_⟩⟩
  · rw [m1]; omega
  · rw [m1]; omega
  · rw [m2]; omega
  · rw [m2]; omega
theorem rs_rng {tx : Nat → Int32} {ln tm : Nat} {P : PS} {A : Bool × PS} (e : rsF tx ln tm P = A) (h : A.1 = true) :
    (0 ≤ A.2.2 (4 * tm + 1) ∧ A.2.2 (4 * tm + 1) ≤ 2) ∧ (0 ≤ A.2.2 (4 * tm + 2) ∧ A.2.2 (4 * tm + 2) ≤ 99) ∧ (-50 ≤ A.2.2 (4 * tm + 3) ∧ A.2.2 (4 * tm + 3) ≤ 50) ∧ ∀ j, j ≠ 4 * tm + 1 → j ≠ 4 * tm + 2 → j ≠ 4 * tm + 3 → A.2.2 j = P.2 j := by
  unfold rsF at e
  obtain ⟨q1, e⟩ := thn_t e h
  have w1 := nuF_rng rfl q1 (by decide) (by decide)
  obtain ⟨q2, e⟩ := thn_t e h
  have t2 := tkF_td (rfl : tkF tx ln 58 ((nuF tx ln tm 1 0 2 P).2.1, (nuF tx ln tm 1 0 2 P).2.2) = _)
  obtain ⟨q3, e⟩ := thn_t e h
  have w3 := nuF_rng rfl q3 (by decide) (by decide)
  generalize nuF tx ln tm 1 0 2 P = A1 at *
  generalize tkF tx ln 58 (A1.2.1, A1.2.2) = A2 at *
  generalize nuF tx ln tm 2 0 99 (A2.2.1, A2.2.2) = A3 at *
  have t4 := tkF_td (rfl : tkF tx ln 43 (A3.2.1, A3.2.2) = _)
  generalize tkF tx ln 43 (A3.2.1, A3.2.2) = A4 at *
  simp only at t2 t4 w3
  have fin2 : ∀ (B : Bool × PS) (v : Int32), nuF tx ln tm 3 0 50 (B.2.1, B.2.2) = nuF tx ln tm 3 0 50 (B.2.1, B.2.2) → (nuF tx ln tm 3 0 50 (B.2.1, B.2.2)).1 = true → B.2.2 = A3.2.2 → (v = (nuF tx ln tm 3 0 50 (B.2.1, B.2.2)).2.2 (4 * tm + 3) * 1 ∨ v = (nuF tx ln tm 3 0 50 (B.2.1, B.2.2)).2.2 (4 * tm + 3) * (-1)) → (true, ((nuF tx ln tm 3 0 50 (B.2.1, B.2.2)).2.1, upd (nuF tx ln tm 3 0 50 (B.2.1, B.2.2)).2.2 (4 * tm + 3) v)) = A →
      (0 ≤ A.2.2 (4 * tm + 1) ∧ A.2.2 (4 * tm + 1) ≤ 2) ∧ (0 ≤ A.2.2 (4 * tm + 2) ∧ A.2.2 (4 * tm + 2) ≤ 99) ∧ (-50 ≤ A.2.2 (4 * tm + 3) ∧ A.2.2 (4 * tm + 3) ≤ 50) ∧ ∀ j, j ≠ 4 * tm + 1 → j ≠ 4 * tm + 2 → j ≠ 4 * tm + 3 → A.2.2 j = P.2 j := by
    intro B v _ qb hB hv eA
    have w5 := nuF_rng rfl qb (by decide) (by decide)
    generalize nuF tx ln tm 3 0 50 (B.2.1, B.2.2) = C at *
    simp only at w5
    subst eA
    show (0 ≤ upd C.2.2 (4 * tm + 3) v (4 * tm + 1) ∧ upd C.2.2 (4 * tm + 3) v (4 * tm + 1) ≤ 2) ∧ (0 ≤ upd C.2.2 (4 * tm + 3) v (4 * tm + 2) ∧ upd C.2.2 (4 * tm + 3) v (4 * tm + 2) ≤ 99) ∧ (-50 ≤ upd C.2.2 (4 * tm + 3) v (4 * tm + 3) ∧ upd C.2.2 (4 * tm + 3) v (4 * tm + 3) ≤ 50) ∧ ∀ j, j ≠ 4 * tm + 1 → j ≠ 4 * tm + 2 → j ≠ 4 * tm + 3 → upd C.2.2 (4 * tm + 3) v j = P.2 j
    rw [upd_eq, upd_ne (by omega), upd_ne (by omega), w5.2 _ (by omega), w5.2 _ (by omega), hB, w3.2 _ (by omega), t2]
    refine ⟨w1.1, w3.1, ?_, fun j h1 h2 h3 => ?_⟩
    · rcases hv with hv | hv
      · rw [hv]
        exact (x50 w5.1).1
      · rw [hv]
        exact (x50 w5.1).2
    · rw [upd_ne h3, w5.2 _ h3, hB, w3.2 _ h2, t2, w1.2 _ h1]
  by_cases q4 : A4.1 = true
  · rw [if_pos q4] at e
    obtain ⟨q5, e⟩ := thn_t e h
    exact fin2 A4 _ rfl q5 t4 (Or.inl rfl) e
  · rw [if_neg q4] at e
    obtain ⟨q5, e⟩ := thn_t e h
    have t5 := tkF_td (rfl : tkF tx ln 45 (A4.2.1, A4.2.2) = _)
    obtain ⟨q6, e⟩ := thn_t e h
    exact fin2 (tkF tx ln 45 (A4.2.1, A4.2.2)) _ rfl q6 (t5.trans t4) (Or.inr rfl) e
