/-! pure: the order of the ends, the middle life -/
theorem rk_bd {D : Nat → Prop} [DecidablePred D] {K : Nat → Int} {n i : Nat} (hi : i < n) (di : D i) : rkK D K n i < cN D n := by
  have h1 : cN (fun o => (D o ∧ ltK K o i) ∨ o = i) n = rkK D K n i + 1 := cN_ins hi (fun q => by have := q.2; unfold ltK at this; omega) (fun k _ => Iff.rfl)
  have h2 : cN (fun o => (D o ∧ ltK K o i) ∨ o = i) n ≤ cN D n := cN_mono (fun k _ hk => by
    rcases hk with q | q
    · exact q.1
    · subst q; exact di)
  omega
theorem edR_none {z : Nat → Int32} {x : Int32} {n : Nat} : ∀ {m : Nat}, (∀ i, i < m → ¬ (zl z i 6 ≠ -1005 ∧ cnt (fun o => zl z o 6 ≠ -1005 ∧ (zl z o 6 < zl z i 6 ∨ (zl z o 6 = zl z i 6 ∧ o < i))) n = x)) → edR z x n m = -1005
  | 0, _ => rfl
  | m + 1, h => by
    unfold edR
    rw [if_neg (h m (by omega))]
    exact edR_none (fun i hi => h i (by omega))
theorem edR_some {z : Nat → Int32} {x : Int32} {n k : Nat} : ∀ {m : Nat}, k < m → (zl z k 6 ≠ -1005 ∧ cnt (fun o => zl z o 6 ≠ -1005 ∧ (zl z o 6 < zl z k 6 ∨ (zl z o 6 = zl z k 6 ∧ o < k))) n = x) → (∀ i, i < m → (zl z i 6 ≠ -1005 ∧ cnt (fun o => zl z o 6 ≠ -1005 ∧ (zl z o 6 < zl z i 6 ∨ (zl z o 6 = zl z i 6 ∧ o < i))) n = x) → i = k) → edR z x n m = nI k
  | 0, h, _, _ => by omega
  | m + 1, h, hk, hu => by
    unfold edR
    by_cases c : zl z m 6 ≠ -1005 ∧ cnt (fun o => zl z o 6 ≠ -1005 ∧ (zl z o 6 < zl z m 6 ∨ (zl z o 6 = zl z m 6 ∧ o < m))) n = x
    · rw [if_pos c, hu m (by omega) c]
    · rw [if_neg c]
      refine edR_some ?_ hk (fun i hi => hu i (by omega))
      refine Classical.byContradiction (fun q => c ?_)
      rw [show m = k from by omega]
      exact hk
theorem ended_eq {B : Int} {S : SC} {z : Nat → Int32} (h : Rl B S z) (x : Int32) : endS S x = if 0 ≤ x then edR z x (sN S) (sN S) else -1002 := by
  have hn := h.n60
  unfold endS
  by_cases hx : 0 ≤ x
  · rw [if_pos hx, if_pos hx]
    have hx2 := le_ti.mp hx
    rw [e0_ti] at hx2
    obtain ⟨t, rfl, -, ht⟩ := nat_of hx2
    have r1 : ∀ i, i < sN S → sA S 7 i ≠ -1 → cnt (fun o => sA S 7 o ≠ -1 ∧ (sA S 7 o < sA S 7 i ∨ (sA S 7 o = sA S 7 i ∧ o < i))) (sN S) = nI (rkK (fun j => sA S 7 j ≠ -1) (fun j => (sA S 7 j).toInt) (sN S) i) := fun i hi di => by
      rw [cnt_N]
      refine nI_eq' (cN_c (fun k hk => ?_))
      rw [lt_ti, eq_ti]
    have r2 : ∀ i, i < sN S → sA S 7 i ≠ -1 → cnt (fun o => zl z o 6 ≠ -1005 ∧ (zl z o 6 < zl z i 6 ∨ (zl z o 6 = zl z i 6 ∧ o < i))) (sN S) = nI (rkK (fun j => sA S 7 j ≠ -1) (fun j => (sA S 7 j).toInt) (sN S) i) := fun i hi di => by
      rw [cnt_N]
      refine nI_eq' (cN_c (fun k hk => ?_))
      rw [← (h.rD hk).dead]
      by_cases dk : sA S 7 k ≠ -1
      · rw [← (h.rD hk).en dk, ← (h.rD hi).en di, lt_ti, eq_ti]
      · exact ⟨fun q => absurd q.1 dk, fun q => absurd q.1 dk⟩
    have bd : ∀ i, rkK (fun j => sA S 7 j ≠ -1) (fun j => (sA S 7 j).toInt) (sN S) i < 2147483648 := fun i => by
      exact Nat.lt_of_le_of_lt (cN_le _ _) (by omega)
    unfold endN
    by_cases c : ∃ i, i < sN S ∧ sA S 7 i ≠ -1 ∧ rkK (fun j => sA S 7 j ≠ -1) (fun j => (sA S 7 j).toInt) (sN S) i = t
    · obtain ⟨i, hi, di, ri⟩ := c
      have un : ∀ j, j < sN S → sA S 7 j ≠ -1 → rkK (fun j => sA S 7 j ≠ -1) (fun j => (sA S 7 j).toInt) (sN S) j = t → j = i := fun j hj dj rj => rk_inj (D := fun j => sA S 7 j ≠ -1) hj hi dj di (rj.trans ri.symm)
      have f1 : fst (fun j => sA S 7 j ≠ -1 ∧ cnt (fun o => sA S 7 o ≠ -1 ∧ (sA S 7 o < sA S 7 j ∨ (sA S 7 o = sA S 7 j ∧ o < j))) (sN S) = nI t) (-1) (sN S) 0 = nI i := by
        refine fst_some (Nat.zero_le _) (by omega) ⟨di, by rw [r1 i hi di, ri]⟩ (fun j _ hj q => ?_)
        have := un j (by omega) q.1 (nI_i (bd j) ht ((r1 j (by omega) q.1).symm.trans q.2))
        omega
      show (if fst (fun j => sA S 7 j ≠ -1 ∧ cnt (fun o => sA S 7 o ≠ -1 ∧ (sA S 7 o < sA S 7 j ∨ (sA S 7 o = sA S 7 j ∧ o < j))) (sN S) = nI t) (-1) (sN S) 0 = -1 then -1005 else fst (fun j => sA S 7 j ≠ -1 ∧ cnt (fun o => sA S 7 o ≠ -1 ∧ (sA S 7 o < sA S 7 j ∨ (sA S 7 o = sA S 7 j ∧ o < j))) (sN S) = nI t) (-1) (sN S) 0) = _
      rw [f1, if_neg (nI_nm1 (by omega))]
      refine (edR_some hi ⟨(h.rD hi).dead.mp di, by rw [r2 i hi di, ri]⟩ (fun j hj q => ?_)).symm
      have dj := (h.rD hj).dead.mpr q.1
      exact un j hj dj (nI_i (bd j) ht ((r2 j hj dj).symm.trans q.2))
    · have f1 : fst (fun j => sA S 7 j ≠ -1 ∧ cnt (fun o => sA S 7 o ≠ -1 ∧ (sA S 7 o < sA S 7 j ∨ (sA S 7 o = sA S 7 j ∧ o < j))) (sN S) = nI t) (-1) (sN S) 0 = -1 :=
        fst_none (fun j _ hj q => c ⟨j, by omega, q.1, nI_i (bd j) ht ((r1 j (by omega) q.1).symm.trans q.2)⟩)
      show (if fst (fun j => sA S 7 j ≠ -1 ∧ cnt (fun o => sA S 7 o ≠ -1 ∧ (sA S 7 o < sA S 7 j ∨ (sA S 7 o = sA S 7 j ∧ o < j))) (sN S) = nI t) (-1) (sN S) 0 = -1 then -1005 else fst (fun j => sA S 7 j ≠ -1 ∧ cnt (fun o => sA S 7 o ≠ -1 ∧ (sA S 7 o < sA S 7 j ∨ (sA S 7 o = sA S 7 j ∧ o < j))) (sN S) = nI t) (-1) (sN S) 0) = _
      rw [f1, if_pos rfl]
      refine (edR_none (fun j hj q => ?_)).symm
      have dj := (h.rD hj).dead.mpr q.1
      exact c ⟨j, hj, dj, nI_i (bd j) ht ((r2 j hj dj).symm.trans q.2)⟩
  · rw [if_neg hx, if_neg hx]
/-- the least of the hours that can be -/
theorem mdR_is {z : Nat → Int32} {x all : Int32} {n : Nat} (hpos : ∀ i, i < n → 0 ≤ (zl z i 4 / 10).toInt) : ∀ m, m ≤ n → (mdR z x all n m = -1005 ∧ ∀ i, i < m → ¬ ((zl z i 0 = x ∧ zl z i 6 ≠ -1005) ∧ all ≤ 2 * l2R z n x (zl z i 4 / 10 + 1))) ∨ ∃ i, i < m ∧ ((zl z i 0 = x ∧ zl z i 6 ≠ -1005) ∧ all ≤ 2 * l2R z n x (zl z i 4 / 10 + 1)) ∧ mdR z x all n m = zl z i 4 / 10 ∧ ∀ j, j < m → ((zl z j 0 = x ∧ zl z j 6 ≠ -1005) ∧ all ≤ 2 * l2R z n x (zl z j 4 / 10 + 1)) → (zl z i 4 / 10).toInt ≤ (zl z j 4 / 10).toInt
  | 0, _ => Or.inl ⟨rfl, fun i hi => by omega⟩
  | m + 1, hm => by
    have e : mdR z x all n (m + 1) = if ((zl z m 0 = x ∧ zl z m 6 ≠ -1005) ∧ all ≤ 2 * l2R z n x (zl z m 4 / 10 + 1)) ∧ (mdR z x all n m = -1005 ∨ zl z m 4 / 10 < mdR z x all n m) then zl z m 4 / 10 else mdR z x all n m := rfl
    rw [e]
    by_cases cm : (zl z m 0 = x ∧ zl z m 6 ≠ -1005) ∧ all ≤ 2 * l2R z n x (zl z m 4 / 10 + 1)
    · rcases mdR_is hpos m (by omega) with ⟨q1, q2⟩ | ⟨i, hi, ci, q1, q2⟩
      · rw [if_pos ⟨cm, Or.inl q1⟩]
        refine Or.inr ⟨m, by omega, cm, rfl, fun j hj cj => ?_⟩
        by_cases ej : j = m
        · subst ej; exact Int.le_refl _
        · exact absurd cj (q2 j (by omega))
      · by_cases c2 : zl z m 4 / 10 < mdR z x all n m
        · rw [if_pos ⟨cm, Or.inr c2⟩]
          rw [q1] at c2
          have c3 := lt_ti.mp c2
          refine Or.inr ⟨m, by omega, cm, rfl, fun j hj cj => ?_⟩
          by_cases ej : j = m
          · subst ej; exact Int.le_refl _
          · have := q2 j (by omega) cj; omega
        · rw [if_neg (fun g => g.2.elim (fun g2 => by
            rw [q1] at g2
            have := congrArg Int32.toInt g2
            have h0 := hpos i (by omega)
            rw [mN_ti] at this
            omega) c2)]
          rw [q1] at c2
          have c3 := mt lt_ti.mpr c2
          refine Or.inr ⟨i, by omega, ci, q1, fun j hj cj => ?_⟩
          by_cases ej : j = m
          · subst ej; omega
          · exact q2 j (by omega) cj
    · rw [if_neg (fun g => cm g.1)]
      rcases mdR_is hpos m (by omega) with ⟨q1, q2⟩ | ⟨i, hi, ci, q1, q2⟩
      · refine Or.inl ⟨q1, fun j hj => ?_⟩
        by_cases ej : j = m
        · subst ej; exact cm
        · exact q2 j (by omega)
      · refine Or.inr ⟨i, by omega, ci, q1, fun j hj cj => ?_⟩
        by_cases ej : j = m
        · subst ej; exact absurd cj cm
        · exact q2 j (by omega) cj
theorem mid_eq {B : Int} {S : SC} {z : Nat → Int32} (h : Rl B S z) (x : Int32) : midN S x = mdL z (sN S) x := by
  have hn := h.n60
  have hw : ∀ i, i < sN S → (zl z i 4 / 10).toInt = (zl z i 4).toInt / 10 ∧ 0 ≤ (zl z i 4).toInt ∧ (zl z i 4).toInt ≤ 200000 := fun i hi => by
    have := (h.rD hi).2.2.2.2.2.2.1
    refine ⟨?_, this⟩
    rw [dv_ti this.1 (by rw [e10_ti]; omega), e10_ti]
  have e5 : ∀ i, i < sN S → sA S 5 i = zl z i 4 := fun i hi => (h.rD hi).2.2.1
  have er : ∀ i, i < sN S → cnt (fun o => (sA S 2 o = x ∧ sA S 7 o ≠ -1) ∧ (sA S 5 o / 10 < sA S 5 i / 10 ∨ (sA S 5 o / 10 = sA S 5 i / 10 ∧ o < i))) (sN S) = nI (rkK (fun j => zl z j 0 = x ∧ zl z j 6 ≠ -1005) (fun j => (zl z j 4 / 10).toInt) (sN S) i) := fun i hi => by
    rw [cnt_N]
    refine nI_eq' (cN_c (fun k hk => ?_))
    rw [(h.rD hk).1, (h.rD hk).dead, e5 k hk, e5 i hi, lt_ti, eq_ti (x := zl z k 4 / 10) (y := zl z i 4 / 10)]
  have ea : cnt (fun o => sA S 2 o = x) (sN S) = nI (cN (fun o => zl z o 0 = x) (sN S)) := by
    rw [cnt_N]
    exact nI_eq' (cN_c (fun k hk => by rw [(h.rD hk).1]))
  have e0 : l0R z (sN S) x 0 = nI (cN (fun o => zl z o 0 = x) (sN S)) := cnt_N _ _
  have e1 : l1R z (sN S) x 0 = nI (cN (fun j => zl z j 0 = x ∧ zl z j 6 ≠ -1005) (sN S)) := cnt_N _ _
  have e2 : ∀ i, i < sN S → l2R z (sN S) x (zl z i 4 / 10 + 1) = nI (cN (fun o => (zl z o 0 = x ∧ zl z o 6 ≠ -1005) ∧ (zl z o 4 / 10).toInt ≤ (zl z i 4 / 10).toInt) (sN S)) := fun i hi => by
    refine (cnt_N _ _).trans (nI_eq' (cN_c (fun k hk => ?_)))
    have a := hw i hi
    have b := ad_ti (x := zl z i 4 / 10) (y := 1) (by rw [a.1, e1_ti]; omega)
    rw [lt_ti, b, e1_ti, and_assoc]
    have : (zl z k 4 / 10).toInt < (zl z i 4 / 10).toInt + 1 ↔ (zl z k 4 / 10).toInt ≤ (zl z i 4 / 10).toInt := by omega
    rw [this]
  have bd : ∀ i, rkK (fun j => zl z j 0 = x ∧ zl z j 6 ≠ -1005) (fun j => (zl z j 4 / 10).toInt) (sN S) i < 2147483648 := fun i => by
    exact Nat.lt_of_le_of_lt (cN_le _ _) (by omega)
  have hm : midN S x = fsv (fun j => (sA S 2 j = x ∧ sA S 7 j ≠ -1) ∧ cnt (fun o => (sA S 2 o = x ∧ sA S 7 o ≠ -1) ∧ (sA S 5 o / 10 < sA S 5 j / 10 ∨ (sA S 5 o / 10 = sA S 5 j / 10 ∧ o < j))) (sN S) = (cnt (fun o => sA S 2 o = x) (sN S) + 1) / 2 - 1) (fun j => sA S 5 j / 10) (-1005) (sN S) 0 := rfl
  have hal := cN_le (fun o => zl z o 0 = x) (sN S)
  have hdl : cN (fun j => zl z j 0 = x ∧ zl z j 6 ≠ -1005) (sN S) ≤ cN (fun o => zl z o 0 = x) (sN S) := cN_mono (fun k _ q => q.1)
  rw [hm]
  unfold mdL
  rw [e0, e1]
  have hdb : ∀ i, i < sN S → (zl z i 0 = x ∧ zl z i 6 ≠ -1005) → rkK (fun j => zl z j 0 = x ∧ zl z j 6 ≠ -1005) (fun j => (zl z j 4 / 10).toInt) (sN S) i < cN (fun j => zl z j 0 = x ∧ zl z j 6 ≠ -1005) (sN S) := fun i hi di => rk_bd (D := fun j => zl z j 0 = x ∧ zl z j 6 ≠ -1005) hi di
  have hdx : ∀ t, t < cN (fun j => zl z j 0 = x ∧ zl z j 6 ≠ -1005) (sN S) → ∃ i, i < sN S ∧ (zl z i 0 = x ∧ zl z i 6 ≠ -1005) ∧ rkK (fun j => zl z j 0 = x ∧ zl z j 6 ≠ -1005) (fun j => (zl z j 4 / 10).toInt) (sN S) i = t := fun t ht => rk_ex (D := fun j => zl z j 0 = x ∧ zl z j 6 ≠ -1005) t ht
  rw [ea]
  generalize cN (fun o => zl z o 0 = x) (sN S) = a at hal hdl
  generalize cN (fun j => zl z j 0 = x ∧ zl z j 6 ≠ -1005) (sN S) = d at hdl hdb hdx
  have dd : ∀ j, j < sN S → ((sA S 2 j = x ∧ sA S 7 j ≠ -1) ↔ (zl z j 0 = x ∧ zl z j 6 ≠ -1005)) := fun j hj => by rw [(h.rD hj).1, (h.rD hj).dead]
  by_cases a0 : a = 0
  · subst a0
    rw [if_pos (show nI 0 = 0 from rfl)]
    refine fsv_none (fun j _ hj q => ?_)
    have q2 := q.2
    rw [er j (by omega)] at q2
    exact nI_nm1 (bd j) (q2.trans (by decide))
  · rw [if_neg (nI_ne0 (by omega) (by omega))]
    have ht : (nI a + 1) / 2 - 1 = nI ((a + 1) / 2 - 1) := by
      rw [nI_1, show (2 : Int32) = nI 2 from rfl, pk_div (by omega) (by omega) (by omega), show (1 : Int32) = nI 1 from rfl, pk_sub (by omega)]
    rw [ht]
    rw [show (2 : Int32) * nI d = nI (2 * d) from pk_mul 2 d]
    by_cases c : 2 * d < a
    · rw [if_pos ((nI_ltI (by omega) (by omega)).mpr c)]
      refine fsv_none (fun j _ hj q => ?_)
      have q2 := q.2
      rw [er j (by omega)] at q2
      have q3 := nI_i (bd j) (by omega) q2
      have q4 := hdb j (by omega) ((dd j (by omega)).mp q.1)
      omega
    · rw [if_neg (fun q => c ((nI_ltI (by omega) (by omega)).mp q))]
      obtain ⟨i, hi, di, ri⟩ := hdx ((a + 1) / 2 - 1) (by omega)
      have f1 : fsv (fun j => (sA S 2 j = x ∧ sA S 7 j ≠ -1) ∧ cnt (fun o => (sA S 2 o = x ∧ sA S 7 o ≠ -1) ∧ (sA S 5 o / 10 < sA S 5 j / 10 ∨ (sA S 5 o / 10 = sA S 5 j / 10 ∧ o < j))) (sN S) = nI ((a + 1) / 2 - 1)) (fun j => sA S 5 j / 10) (-1005) (sN S) 0 = sA S 5 i / 10 := by
        refine fsv_some (Nat.zero_le _) (by omega) ⟨(dd i hi).mpr di, by rw [er i hi, ri]⟩ (fun j _ hj q => ?_)
        have q2 := q.2
        rw [er j (by omega)] at q2
        have q3 := nI_i (bd j) (by omega) q2
        have := rk_inj (D := fun j => zl z j 0 = x ∧ zl z j 6 ≠ -1005) (show j < sN S by omega) hi ((dd j (by omega)).mp q.1) di (q3.trans ri.symm)
        omega
      rw [f1, e5 i hi]
      have can : ∀ j, j < sN S → (((zl z j 0 = x ∧ zl z j 6 ≠ -1005) ∧ nI a ≤ 2 * l2R z (sN S) x (zl z j 4 / 10 + 1)) ↔ ((zl z j 0 = x ∧ zl z j 6 ≠ -1005) ∧ a ≤ 2 * cN (fun o => (zl z o 0 = x ∧ zl z o 6 ≠ -1005) ∧ (zl z o 4 / 10).toInt ≤ (zl z j 4 / 10).toInt) (sN S))) := fun j hj => by
        have b := cN_le (fun o => (zl z o 0 = x ∧ zl z o 6 ≠ -1005) ∧ (zl z o 4 / 10).toInt ≤ (zl z j 4 / 10).toInt) (sN S)
        rw [e2 j hj, show (2 : Int32) * nI (cN (fun o => (zl z o 0 = x ∧ zl z o 6 ≠ -1005) ∧ (zl z o 4 / 10).toInt ≤ (zl z j 4 / 10).toInt) (sN S)) = nI (2 * cN (fun o => (zl z o 0 = x ∧ zl z o 6 ≠ -1005) ∧ (zl z o 4 / 10).toInt ≤ (zl z j 4 / 10).toInt) (sN S)) from pk_mul 2 _, nI_leI (by omega) (by omega)]
      have ci : (zl z i 0 = x ∧ zl z i 6 ≠ -1005) ∧ a ≤ 2 * cN (fun o => (zl z o 0 = x ∧ zl z o 6 ≠ -1005) ∧ (zl z o 4 / 10).toInt ≤ (zl z i 4 / 10).toInt) (sN S) := by
        refine ⟨di, ?_⟩
        have g1 : cN (fun o => ((zl z o 0 = x ∧ zl z o 6 ≠ -1005) ∧ ltK (fun j => (zl z j 4 / 10).toInt) o i) ∨ o = i) (sN S) = rkK (fun j => zl z j 0 = x ∧ zl z j 6 ≠ -1005) (fun j => (zl z j 4 / 10).toInt) (sN S) i + 1 := cN_ins hi (fun q => by have := q.2; unfold ltK at this; omega) (fun k _ => Iff.rfl)
        have g2 : cN (fun o => ((zl z o 0 = x ∧ zl z o 6 ≠ -1005) ∧ ltK (fun j => (zl z j 4 / 10).toInt) o i) ∨ o = i) (sN S) ≤ cN (fun o => (zl z o 0 = x ∧ zl z o 6 ≠ -1005) ∧ (zl z o 4 / 10).toInt ≤ (zl z i 4 / 10).toInt) (sN S) := cN_mono (fun k _ q => by
          rcases q with q | q
          · exact ⟨q.1, by have := q.2; dsimp only [ltK] at this; omega⟩
          · subst q; exact ⟨di, Int.le_refl _⟩)
        omega
      have lo : ∀ j, j < sN S → ((zl z j 0 = x ∧ zl z j 6 ≠ -1005) ∧ a ≤ 2 * cN (fun o => (zl z o 0 = x ∧ zl z o 6 ≠ -1005) ∧ (zl z o 4 / 10).toInt ≤ (zl z j 4 / 10).toInt) (sN S)) → (zl z i 4 / 10).toInt ≤ (zl z j 4 / 10).toInt := fun j hj cj => by
        refine Classical.byContradiction (fun g => ?_)
        have g1 : cN (fun o => (zl z o 0 = x ∧ zl z o 6 ≠ -1005) ∧ (zl z o 4 / 10).toInt ≤ (zl z j 4 / 10).toInt) (sN S) ≤ rkK (fun j => zl z j 0 = x ∧ zl z j 6 ≠ -1005) (fun j => (zl z j 4 / 10).toInt) (sN S) i := cN_mono (fun k _ q => ⟨q.1, Or.inl (by have := q.2; show (zl z k 4 / 10).toInt < (zl z i 4 / 10).toInt; omega)⟩)
        omega
      rcases mdR_is (z := z) (n := sN S) (x := x) (all := nI a) (fun i hi => by have := hw i hi; omega) (sN S) (Nat.le_refl _) with ⟨-, q⟩ | ⟨j, hj, cj, q1, q2⟩
      · exact absurd ((can i hi).mpr ci) (q i hi)
      · rw [q1]
        refine eq_ti.mpr (Int.le_antisymm (lo j hj ((can j hj).mp cj)) (q2 i hi ((can i hi).mpr ci)))
theorem batch_eq {B : Int} {S : SC} {z : Nat → Int32} (h : Rl B S z) (b w : Int32) : tbS S b w = btR z (sN S) b w := by
  unfold tbS btR
  by_cases hb : 0 ≤ b ∧ b ≤ 5
  · rw [if_pos hb, if_pos hb]
    obtain ⟨a, rfl, ha, ea⟩ := in_of e5_ti hb
    obtain ⟨b1, b2, -, -⟩ := h.rB (show a < 6 by omega)
    rw [ea, b1, b2, c0_eq h _ 0, c1_eq h _ 0, c2_eq h, mid_eq h]
    rfl
  · rw [if_neg hb, if_neg hb]
