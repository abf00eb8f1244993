theorem ti_bm {x : Int} (h : -100000 ≤ x ∧ x ≤ 100000) : x.bmod (2 ^ 32) = x := by
  rw [Int.bmod_def]
  split <;> omega
theorem ti_add {x y : Int32} (h : -100000 ≤ x.toInt + y.toInt ∧ x.toInt + y.toInt ≤ 100000) : (x + y).toInt = x.toInt + y.toInt := by
  rw [Int32.toInt_add]
  exact ti_bm h
theorem ti_sub {x y : Int32} (h : -100000 ≤ x.toInt - y.toInt ∧ x.toInt - y.toInt ≤ 100000) : (x - y).toInt = x.toInt - y.toInt := by
  rw [Int32.toInt_sub]
  exact ti_bm h
theorem ti_mul {x y : Int32} (h : -100000 ≤ x.toInt * y.toInt ∧ x.toInt * y.toInt ≤ 100000) : (x * y).toInt = x.toInt * y.toInt := by
  rw [Int32.toInt_mul]
  exact ti_bm h
theorem dig_ti {n t : Int32} (h0 : 0 < n) (h1 : n ≤ 999) (h2 : 48 ≤ t ∧ t ≤ 57) : 1 ≤ 10 * n + t - 48 := by
  have a0 := Int32.lt_iff_toInt_lt.mp h0
  have a1 := Int32.le_iff_toInt_le.mp h1
  have a2 := Int32.le_iff_toInt_le.mp h2.1
  have a3 := Int32.le_iff_toInt_le.mp h2.2
  have e0 : (0 : Int32).toInt = 0 := by decide
  have e1 : (1 : Int32).toInt = 1 := by decide
  have e10 : (10 : Int32).toInt = 10 := by decide
  have e48 : (48 : Int32).toInt = 48 := by decide
  have e57 : (57 : Int32).toInt = 57 := by decide
  have e999 : (999 : Int32).toInt = 999 := by decide
  have m := ti_mul (x := 10) (y := n) (by rw [e10]; omega)
  rw [e10] at m
  have a := ti_add (x := 10 * n) (y := t) (by rw [m]; omega)
  have s := ti_sub (x := 10 * n + t) (y := 48) (by rw [a, m, e48]; omega)
  apply Int32.le_iff_toInt_le.mpr
  rw [s, a, m, e48, e1]
  omega
theorem nuL_rng {tx : Nat → Int32} {ln : Nat} {lo hi : Int32} (hl : lo ≤ 1) (hh : hi ≤ 999) : ∀ d sp n, lo ≤ n → n ≤ hi → lo ≤ (nuL tx ln hi d sp n).2 ∧ (nuL tx ln hi d sp n).2 ≤ hi
  | 0, sp, n, h1, h2 => ⟨h1, h2⟩
  | d + 1, sp, n, h1, h2 => by
    unfold nuL
    split
    · rename_i c1
      split
      · rename_i c2
        split
        · rename_i c3
          exact nuL_rng hl hh d _ _ (Int32.le_trans hl (dig_ti c1 (Int32.le_trans h2 hh) c2.2)) c3
        · exact ⟨h1, h2⟩
      · exact ⟨h1, h2⟩
    · exact ⟨h1, h2⟩
theorem m9_le {x : Int32} : m9 x ≤ x ∧ m9 x ≤ 9 := by
  unfold m9
  by_cases h : x ≤ 9
  · rw [if_pos h]
    exact ⟨Int32.le_refl _, h⟩
  · rw [if_neg h]
    exact ⟨Int32.le_of_lt (Int32.not_le.mp h), Int32.le_refl _⟩
/-- a first digit lies where it should -/
theorem dig1 {lo hi t : Int32} (hl : 0 ≤ lo ∧ lo ≤ 1) (hh : 0 ≤ hi) (h : 48 + m9 lo ≤ t ∧ t ≤ 48 + m9 hi) : lo ≤ t - 48 ∧ t - 48 ≤ hi := by
  have e0 : (0 : Int32).toInt = 0 := by decide
  have e1 : (1 : Int32).toInt = 1 := by decide
  have e9 : (9 : Int32).toInt = 9 := by decide
  have e48 : (48 : Int32).toInt = 48 := by decide
  have l0 := Int32.le_iff_toInt_le.mp hl.1
  have l1 := Int32.le_iff_toInt_le.mp hl.2
  have h0 := Int32.le_iff_toInt_le.mp hh
  have ml : m9 lo = lo := if_pos (Int32.le_trans hl.2 (by decide))
  have mh := Int32.le_iff_toInt_le.mp (m9_le (x := hi)).1
  have mh9 := Int32.le_iff_toInt_le.mp (m9_le (x := hi)).2
  have mh0 : 0 ≤ (m9 hi).toInt := by
    unfold m9
    by_cases q : hi ≤ 9
    · rw [if_pos q]; omega
    · rw [if_neg q]; omega
  rw [ml] at h
  have a1 := ti_add (x := 48) (y := lo) (by rw [e48]; omega)
  have a2 := ti_add (x := 48) (y := m9 hi) (by rw [e48]; omega)
  have h1 := Int32.le_iff_toInt_le.mp h.1
  have h2 := Int32.le_iff_toInt_le.mp h.2
  rw [a1, e48] at h1
  rw [a2, e48] at h2
  have s := ti_sub (x := t) (y := 48) (by rw [e48]; omega)
  rw [e48] at s
  refine ⟨Int32.le_iff_toInt_le.mpr ?_, Int32.le_iff_toInt_le.mpr ?_⟩
  · rw [s]; omega
  · rw [s]; omega
/-- a number that was read: its place, its bounds; all other places as they were -/
theorem nuF_rng {tx : Nat → Int32} {ln tm k : Nat} {lo hi : Int32} {P : PS} {A : Bool × PS} (e : nuF tx ln tm k lo hi P = A) (h : A.1 = true) (hl : 0 ≤ lo ∧ lo ≤ 1) (hh : 0 ≤ hi ∧ hi ≤ 999) :
    (lo ≤ A.2.2 (4 * tm + k) ∧ A.2.2 (4 * tm + k) ≤ hi) ∧ ∀ j, j ≠ 4 * tm + k → A.2.2 j = P.2 j := by
  subst e
  obtain ⟨sp, td⟩ := P
  by_cases q : seS tx ln sp (48 + m9 lo) (48 + m9 hi)
  · cases e : nuL tx ln hi 60 (sp + 1) (tx sp - 48) with
    | mk s n =>
      have g := dig1 hl hh.1 q.2
      have w := nuL_rng (tx := tx) (ln := ln) hl.2 hh.2 60 (sp + 1) (tx sp - 48) g.1 g.2
      rw [e] at w
      rw [nuF_t q e]
      exact ⟨by show lo ≤ upd td (4 * tm + k) n (4 * tm + k) ∧ upd td (4 * tm + k) n (4 * tm + k) ≤ hi; rw [upd_eq]; exact w, fun j hj => upd_ne hj⟩
  · rw [nuF_f q] at h
    exact absurd h Bool.false_ne_true
theorem tkF_td {tx : Nat → Int32} {ln : Nat} {x : Int32} {P : PS} {A : Bool × PS} (e : tkF tx ln x P = A) : A.2.2 = P.2 := by
  subst e
  unfold tkF
  split <;> rfl
