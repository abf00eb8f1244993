/-! pure: what is told is the same -/
theorem e1_ti : (1 : Int32).toInt = 1 := by decide
theorem e0_ti : (0 : Int32).toInt = 0 := by decide
theorem e10_ti : (10 : Int32).toInt = 10 := by decide
theorem mx1_id {x : Int32} (h : 1 ≤ x.toInt) : mx1 x = x := by
  unfold mx1
  by_cases c : 1 < x
  · rw [if_pos c]
  · rw [if_neg c]
    refine eq_ti.mpr ?_
    have c2 := mt lt_ti.mpr c
    rw [e1_ti] at c2
    rw [e1_ti]
    omega
theorem mx1_le (w : Int32) : mx1 w = if 1 ≤ w then w else 1 := by
  by_cases c : 1 ≤ w
  · rw [if_pos c]
    exact mx1_id (by have := le_ti.mp c; rw [e1_ti] at this; omega)
  · rw [if_neg c]
    exact if_neg (fun q => c (Int32.le_of_lt q))
theorem wr_eq {z : Nat → Int32} (h1 : 1 ≤ (z 1).toInt) (v h : Int32) : wrH (z 0) (z 1) v h = wA z v h := by
  unfold wrH wA wr1
  rw [mx1_id h1, mx1_le]
theorem td_rng {a b : Int} (h : -3000 ≤ a ∧ a ≤ 2000) (hb : 1 ≤ b) : -3000 ≤ a.tdiv b ∧ a.tdiv b ≤ 2000 := by
  by_cases c : 0 ≤ a
  · rw [Int.tdiv_eq_ediv_of_nonneg c]
    have h1 := Int.ediv_nonneg c (by omega : (0 : Int) ≤ b)
    have h2 := Int.ediv_le_self b c
    omega
  · have e : a = -(-a) := by omega
    rw [e, Int.neg_tdiv, Int.tdiv_eq_ediv_of_nonneg (by omega)]
    have h1 := Int.ediv_nonneg (by omega : 0 ≤ -a) (by omega : (0 : Int) ≤ b)
    have h2 := Int.ediv_le_self b (by omega : 0 ≤ -a)
    omega
theorem wA_rng {z : Nat → Int32} {v h : Int32} (h0 : 100 ≤ (z 0).toInt ∧ (z 0).toInt ≤ 300) (h1 : 1 ≤ (z 1).toInt ∧ (z 1).toInt ≤ 100) (hv : 0 ≤ v.toInt ∧ v.toInt ≤ 300) : 1 ≤ (wA z v h).toInt ∧ (wA z v h).toInt ≤ 2211 := by
  have a1 := sb_ti (x := v) (y := z 0) (by omega)
  have a2 := ml_ti (x := 10) (y := v - z 0) (by rw [a1, e10_ti]; omega)
  have a3 : (10 * (v - z 0) / z 1).toInt = (10 * (v - z 0)).toInt.tdiv (z 1).toInt := Int32.toInt_div_of_ne_right _ _ (fun e => by
    have := congrArg Int32.toInt e
    rw [m1_ti] at this
    omega)
  have a4 := td_rng (a := (10 * (v - z 0)).toInt) (b := (z 1).toInt) (by rw [a2, a1, e10_ti]; omega) h1.1
  have a5 := ad_ti (x := 10) (y := 10 * (v - z 0) / z 1) (by rw [a3, e10_ti]; omega)
  have a6 := a5
  rw [a3, e10_ti] at a6
  unfold wA
  generalize 10 + 10 * (v - z 0) / z 1 = q at a6
  have a7 : 1 ≤ (if 1 ≤ q then q else 1).toInt ∧ (if 1 ≤ q then q else 1).toInt ≤ 2010 := by
    by_cases c : 1 ≤ q
    · rw [if_pos c]
      have c2 := le_ti.mp c
      rw [e1_ti] at c2
      omega
    · rw [if_neg c, e1_ti]
      omega
  generalize (if 1 ≤ q then q else 1) = W at a7
  by_cases c : h = 0
  · rw [if_pos c]; omega
  · rw [if_neg c]
    have b1 := dv_ti (x := W) (y := 10) (by omega) (by rw [e10_ti]; omega)
    rw [e10_ti] at b1
    have b2 := ad_ti (x := W) (y := W / 10) (by rw [b1]; omega)
    rw [b2, b1]
    omega
theorem Rl.wr {B : Int} {S : SC} {z : Nat → Int32} (h : Rl B S z) (v f : Int32) : wrH (sWv S) (sDv S) v f = wA z v f := by
  rw [h.1.2.1, h.1.2.2.1]
  exact wr_eq h.1.2.2.2.2.2.2.1.1 v f
theorem Rl.wAr {B : Int} {S : SC} {z : Nat → Int32} (h : Rl B S z) {v f : Int32} (hv : 0 ≤ v.toInt ∧ v.toInt ≤ 300) : 1 ≤ (wA z v f).toInt ∧ (wA z v f).toInt ≤ 2211 := wA_rng h.1.2.2.2.2.2.1 h.1.2.2.2.2.2.2.1 hv
theorem e300_ti : (300 : Int32).toInt = 300 := by decide
theorem Rl.wne {B : Int} {S : SC} {z : Nat → Int32} (h : Rl B S z) : ∀ v f, 1 ≤ v ∧ v ≤ 300 → ¬ wA z v f = 0 := fun v f hv e => by
  have h1 := le_ti.mp hv.1
  have h2 := le_ti.mp hv.2
  rw [e1_ti] at h1
  rw [e300_ti] at h2
  have := (h.wAr (v := v) (f := f) (by omega)).1
  rw [e, e0_ti] at this
  omega
theorem hot_iff {S : SC} {z : Nat → Int32} {k : Nat} (h : rlP S z k) : (sA S 3 k ≠ -1 ∧ (3 ≤ sA S 3 k - sA S 3 k / 8 * 8 ∧ sA S 3 k - sA S 3 k / 8 * 8 ≤ 4)) ↔ (3 ≤ zl z k 2 ∧ zl z k 2 ≤ 4) := by
  rcases h with ⟨a, b, c⟩ | ⟨r, p, hr, hp, a, b, c, -⟩
  · rw [a, c]
    exact ⟨fun q => absurd rfl q.1, fun q => absurd q.1 (by decide)⟩
  · have e : sA S 3 k - sA S 3 k / 8 * 8 = nI p := by
      rw [a]
      exact (pk_rem (a := r * 8 + p) (d := 8) (by omega) (by omega) (by omega)).trans (nI_eq' (by omega))
    rw [e, c]
    exact ⟨fun q => q.2, fun q => ⟨by rw [a]; exact nI_nm1 (by omega), q⟩⟩
