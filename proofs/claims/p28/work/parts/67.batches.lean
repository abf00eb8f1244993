/-! pure: batches, the middle life, the order of ends, places and lamps -/
theorem cN_all {P : Nat → Prop} [DecidablePred P] : ∀ {n : Nat}, (∀ k, k < n → P k) → cN P n = n
  | 0, _ => rfl
  | n + 1, h => by rw [cN_s, cN_all (n := n) (fun k hk => h k (by omega)), if_pos (h n (by omega))]
theorem cN_shift {P : Nat → Prop} [DecidablePred P] (a : Nat) : ∀ m, cN P (a + m) = cN P a + cN (fun p => P (a + p)) m
  | 0 => rfl
  | m + 1 => by
    rw [show a + (m + 1) = (a + m) + 1 from rfl, cN_s, cN_shift a m, cN_s]
    omega
section BT
variable {H : Int} {S : SC}
theorem bt_i (h : Iv H S) {k : Nat} (hk : k < sN S) : ∃ b, b < 6 ∧ sA S 2 k = nI b := (h.1.lv hk).1
theorem sumA (h : Iv H S) : ∀ m, m ≤ 6 → sm (fun c => allN S (nI c)) m = nI (cN (fun j => (sA S 2 j).toInt < (m : Int)) (sN S))
  | 0, _ => by
    refine (nI_eq' (cN_0 (fun k hk q => ?_))).symm
    obtain ⟨b, hb, e⟩ := bt_i h hk
    rw [e, nI_toInt (by omega)] at q
    omega
  | m + 1, hm => by
    show sm (fun c => allN S (nI c)) m + allN S (nI m) = _
    rw [sumA h m (by omega)]
    unfold allN
    rw [cnt_N, nI_add]
    refine (nI_eq' (cN_or (fun k hk => ?_) (fun k hk p q => ?_))).symm
    · obtain ⟨b, hb, e⟩ := bt_i h hk
      rw [e, nI_toInt (by omega), nI_eq (by omega) (by omega)]
      omega
    · rw [q, nI_toInt (by omega)] at p
      omega
theorem sumD (h : Iv H S) : ∀ m, m ≤ 6 → sm (fun c => deadN S (nI c)) m = nI (cN (fun j => (sA S 2 j).toInt < (m : Int) ∧ sA S 7 j ≠ -1) (sN S))
  | 0, _ => by
    refine (nI_eq' (cN_0 (fun k hk q => ?_))).symm
    obtain ⟨b, hb, e⟩ := bt_i h hk
    have q1 := q.1
    rw [e, nI_toInt (by omega)] at q1
    omega
  | m + 1, hm => by
    show sm (fun c => deadN S (nI c)) m + deadN S (nI m) = _
    rw [sumD h m (by omega)]
    unfold deadN
    rw [cnt_N, nI_add]
    refine (nI_eq' (cN_or (fun k hk => ?_) (fun k hk p q => ?_))).symm
    · obtain ⟨b, hb, e⟩ := bt_i h hk
      rw [e, nI_toInt (by omega), nI_eq (by omega) (by omega)]
      constructor
      · intro g
        by_cases c : b = m
        · exact Or.inr ⟨c, g.2⟩
        · exact Or.inl ⟨by have := g.1; omega, g.2⟩
      · intro g
        rcases g with g | g
        · exact ⟨by have := g.1; omega, g.2⟩
        · exact ⟨by have := g.1; omega, g.2⟩
    · have p1 := p.1
      rw [q.1, nI_toInt (by omega)] at p1
      omega
theorem wb_A (h : Iv H S) : sm (fun c => allN S (nI c)) 6 = nI (sN S) := by
  rw [sumA h 6 (Nat.le_refl _)]
  refine nI_eq' (cN_all (fun k hk => ?_))
  obtain ⟨b, hb, e⟩ := bt_i h hk
  rw [e, nI_toInt (by omega)]
  omega
theorem wb_D (h : Iv H S) : sm (fun c => deadN S (nI c)) 6 = cnt (fun j => sA S 7 j ≠ -1) (sN S) := by
  rw [sumD h 6 (Nat.le_refl _), cnt_N]
  refine nI_eq' (cN_c (fun k hk => ?_))
  obtain ⟨b, hb, e⟩ := bt_i h hk
  rw [e, nI_toInt (by omega)]
  exact ⟨fun q => q.2, fun q => ⟨by omega, q⟩⟩
theorem wb_1 (hn : sN S ≤ 60) (x : Int32) : ¬ allN S x < deadN S x := by
  have a := cN_le (fun j => sA S 2 j = x) (sN S)
  have b : cN (fun j => sA S 2 j = x ∧ sA S 7 j ≠ -1) (sN S) ≤ cN (fun j => sA S 2 j = x) (sN S) := cN_mono (fun k _ q => q.1)
  unfold allN deadN
  rw [cnt_N, cnt_N, nI_ltI (by omega) (by omega)]
  omega
theorem wb_2 (hn : sN S ≤ 60) (x y : Int32) : ¬ deadN S x < erlN S x y := by
  have a := cN_le (fun j => sA S 2 j = x ∧ sA S 7 j ≠ -1) (sN S)
  have b : cN (fun j => (sA S 2 j = x ∧ sA S 7 j ≠ -1) ∧ sA S 5 j / 10 < y) (sN S) ≤ cN (fun j => sA S 2 j = x ∧ sA S 7 j ≠ -1) (sN S) := cN_mono (fun k _ q => q.1)
  unfold erlN deadN
  rw [cnt_N, cnt_N, nI_ltI (by omega) (by omega)]
  omega
theorem w10_ti (h : Iv H S) {k : Nat} (hk : k < sN S) : (sA S 5 k / 10).toInt = (sA S 5 k).toInt / 10 ∧ 0 ≤ (sA S 5 k).toInt ∧ (sA S 5 k).toInt ≤ 110000 := by
  have := (h.1.lv hk).2.2.1
  refine ⟨?_, by omega, by omega⟩
  rw [dv_ti (by omega) (by rw [e10_ti]; omega), e10_ti]
theorem wb_5 (h : Iv H S) {b : Nat} (hb : b < 6) : lastS S (nI b) 0 = allN S (nI b) := by
  unfold lastS lastN allN
  rw [if_pos (i5 hb), if_pos (by decide)]
  refine cnt_c (fun k hk => ?_)
  have w := w10_ti h hk
  exact ⟨fun q => q.1, fun q => ⟨q, by rw [le_ti, e0_ti, w.1]; omega⟩⟩
/-- the middle life, by the ranks of the batch's dead lamps -/
theorem mid_is (h : Iv H S) (x : Int32) : ((allN S x = 0 ∨ 2 * deadN S x < allN S x) ∧ midN S x = -1005) ∨ (¬ (allN S x = 0 ∨ 2 * deadN S x < allN S x) ∧ ∃ i t, i < sN S ∧ (sA S 2 i = x ∧ sA S 7 i ≠ -1) ∧ rkK (fun j => sA S 2 j = x ∧ sA S 7 j ≠ -1) (fun j => (sA S 5 j / 10).toInt) (sN S) i = t ∧ (allN S x + 1) / 2 = nI (t + 1) ∧ t + 1 ≤ 60 ∧ midN S x = sA S 5 i / 10) := by
  have hn := h.n60
  have er : ∀ i, cnt (fun o => (sA S 2 o = x ∧ sA S 7 o ≠ -1) ∧ (sA S 5 o / 10 < sA S 5 i / 10 ∨ (sA S 5 o / 10 = sA S 5 i / 10 ∧ o < i))) (sN S) = nI (rkK (fun j => sA S 2 j = x ∧ sA S 7 j ≠ -1) (fun j => (sA S 5 j / 10).toInt) (sN S) i) := fun i => by
    rw [cnt_N]
    refine nI_eq' (cN_c (fun k hk => ?_))
    rw [lt_ti, eq_ti (x := sA S 5 k / 10) (y := sA S 5 i / 10)]
  have bd : ∀ i, rkK (fun j => sA S 2 j = x ∧ sA S 7 j ≠ -1) (fun j => (sA S 5 j / 10).toInt) (sN S) i < 2147483648 := fun i => by
    exact Nat.lt_of_le_of_lt (cN_le _ _) (by omega)
  have hm : midN S x = fsv (fun j => (sA S 2 j = x ∧ sA S 7 j ≠ -1) ∧ cnt (fun o => (sA S 2 o = x ∧ sA S 7 o ≠ -1) ∧ (sA S 5 o / 10 < sA S 5 j / 10 ∨ (sA S 5 o / 10 = sA S 5 j / 10 ∧ o < j))) (sN S) = (allN S x + 1) / 2 - 1) (fun j => sA S 5 j / 10) (-1005) (sN S) 0 := rfl
  have hal := cN_le (fun o => sA S 2 o = x) (sN S)
  have hdl : cN (fun j => sA S 2 j = x ∧ sA S 7 j ≠ -1) (sN S) ≤ cN (fun o => sA S 2 o = x) (sN S) := cN_mono (fun k _ q => q.1)
  have ea : allN S x = nI (cN (fun o => sA S 2 o = x) (sN S)) := cnt_N _ _
  have ed : deadN S x = nI (cN (fun j => sA S 2 j = x ∧ sA S 7 j ≠ -1) (sN S)) := cnt_N _ _
  have hdb : ∀ i, i < sN S → (sA S 2 i = x ∧ sA S 7 i ≠ -1) → rkK (fun j => sA S 2 j = x ∧ sA S 7 j ≠ -1) (fun j => (sA S 5 j / 10).toInt) (sN S) i < cN (fun j => sA S 2 j = x ∧ sA S 7 j ≠ -1) (sN S) := fun i hi di => rk_bd (D := fun j => sA S 2 j = x ∧ sA S 7 j ≠ -1) hi di
  have hdx : ∀ t, t < cN (fun j => sA S 2 j = x ∧ sA S 7 j ≠ -1) (sN S) → ∃ i, i < sN S ∧ (sA S 2 i = x ∧ sA S 7 i ≠ -1) ∧ rkK (fun j => sA S 2 j = x ∧ sA S 7 j ≠ -1) (fun j => (sA S 5 j / 10).toInt) (sN S) i = t := fun t ht => rk_ex (D := fun j => sA S 2 j = x ∧ sA S 7 j ≠ -1) t ht
  rw [hm, ea, ed]
  generalize cN (fun o => sA S 2 o = x) (sN S) = a at hal hdl
  generalize cN (fun j => sA S 2 j = x ∧ sA S 7 j ≠ -1) (sN S) = d at hdl hdb hdx
  rw [show (2 : Int32) * nI d = nI (2 * d) from pk_mul 2 d]
  by_cases a0 : a = 0
  · subst a0
    refine Or.inl ⟨Or.inl rfl, fsv_none (fun j _ hj q => ?_)⟩
    have q2 := q.2
    rw [er j] at q2
    exact nI_nm1 (bd j) (q2.trans (by decide))
  · have a1 : ¬ nI a = 0 := nI_ne0 (by omega) (by omega)
    have h2 : (nI a + 1) / 2 = nI ((a + 1) / 2) := by
      rw [nI_1, show (2 : Int32) = nI 2 from rfl]
      exact pk_div (by omega) (by omega) (by omega)
    have ht : (nI a + 1) / 2 - 1 = nI ((a + 1) / 2 - 1) := by
      rw [h2, show (1 : Int32) = nI 1 from rfl, pk_sub (by omega)]
    rw [ht, nI_ltI (by omega) (by omega)]
    by_cases c : 2 * d < a
    · refine Or.inl ⟨Or.inr c, fsv_none (fun j _ hj q => ?_)⟩
      have q2 := q.2
      rw [er j] at q2
      have q3 := nI_i (bd j) (by omega) q2
      have q4 := hdb j (by omega) q.1
      omega
    · obtain ⟨i, hi, di, ri⟩ := hdx ((a + 1) / 2 - 1) (by omega)
      refine Or.inr ⟨fun q => q.elim a1 c, i, (a + 1) / 2 - 1, hi, di, ri, ?_, by omega, ?_⟩
      · rw [h2]
        exact nI_eq' (by omega)
      · refine fsv_some (g := fun j => sA S 5 j / 10) (Nat.zero_le _) (by omega) ⟨di, by rw [er i, ri]⟩ (fun j _ hj q => ?_)
        have q2 := q.2
        rw [er j] at q2
        have q3 := nI_i (bd j) (by omega) q2
        have := rk_inj (D := fun j => sA S 2 j = x ∧ sA S 7 j ≠ -1) (show j < sN S by omega) hi q.1 di (q3.trans ri.symm)
        omega
theorem wb_4 (h : Iv H S) (x : Int32) : midN S x = -1005 ↔ (allN S x = 0 ∨ 2 * deadN S x < allN S x) := by
  rcases mid_is h x with ⟨c, e⟩ | ⟨c, i, t, hi, di, -, -, -, e⟩
  · exact ⟨fun _ => c, fun _ => e⟩
  · refine ⟨fun q => ?_, fun q => absurd q c⟩
    have w := w10_ti h hi
    have q2 := congrArg Int32.toInt (e.symm.trans q)
    rw [w.1, mN_ti] at q2
    omega
theorem wb_6 (h : Iv H S) {b : Nat} (hb : b < 6) (c0 : ¬ midN S (nI b) < 0) : ¬ lastS S (nI b) (midN S (nI b)) < deadN S (nI b) - (allN S (nI b) + 1) / 2 + 1 := by
  have hn := h.n60
  rcases mid_is h (nI b) with ⟨c, e⟩ | ⟨c, i, t, hi, di, ri, et, ht, e⟩
  · rw [e] at c0
    exact absurd (by decide) c0
  · have w := w10_ti h hi
    have e1 : lastS S (nI b) (midN S (nI b)) = nI (cN (fun j => sA S 2 j = nI b ∧ sA S 5 i / 10 ≤ sA S 5 j / 10) (sN S)) := by
      rw [e]
      unfold lastS lastN
      rw [if_pos (i5 hb), if_pos ⟨by rw [le_ti, e0_ti, w.1]; omega, by rw [le_ti, e99999_ti, w.1]; omega⟩, cnt_N]
    have ed : deadN S (nI b) = nI (cN (fun j => sA S 2 j = nI b ∧ sA S 7 j ≠ -1) (sN S)) := cnt_N _ _
    have b1 := cN_le (fun j => sA S 2 j = nI b ∧ sA S 5 i / 10 ≤ sA S 5 j / 10) (sN S)
    have b2 := cN_le (fun j => sA S 2 j = nI b ∧ sA S 7 j ≠ -1) (sN S)
    have b3 : cN (fun j => sA S 2 j = nI b ∧ sA S 7 j ≠ -1) (sN S) ≤ t + cN (fun j => sA S 2 j = nI b ∧ sA S 5 i / 10 ≤ sA S 5 j / 10) (sN S) := by
      have o := cN_or (n := sN S) (P := fun o => (sA S 2 o = nI b ∧ sA S 7 o ≠ -1) ∧ ltK (fun j => (sA S 5 j / 10).toInt) o i) (Q := fun o => (sA S 2 o = nI b ∧ sA S 7 o ≠ -1) ∧ ¬ ltK (fun j => (sA S 5 j / 10).toInt) o i) (R := fun j => sA S 2 j = nI b ∧ sA S 7 j ≠ -1) (fun k hk => by
        by_cases l : ltK (fun j => (sA S 5 j / 10).toInt) k i
        · exact ⟨fun q => Or.inl ⟨q, l⟩, fun q => q.elim (fun z => z.1) (fun z => z.1)⟩
        · exact ⟨fun q => Or.inr ⟨q, l⟩, fun q => q.elim (fun z => z.1) (fun z => z.1)⟩) (fun k hk p q => q.2 p.2)
      have m : cN (fun o => (sA S 2 o = nI b ∧ sA S 7 o ≠ -1) ∧ ¬ ltK (fun j => (sA S 5 j / 10).toInt) o i) (sN S) ≤ cN (fun j => sA S 2 j = nI b ∧ sA S 5 i / 10 ≤ sA S 5 j / 10) (sN S) := cN_mono (fun k hk q => ⟨q.1.1, by
        have q2 := q.2
        dsimp only [ltK] at q2
        rw [le_ti]
        omega⟩)
      have r2 : cN (fun o => (sA S 2 o = nI b ∧ sA S 7 o ≠ -1) ∧ ltK (fun j => (sA S 5 j / 10).toInt) o i) (sN S) = t := ri
      omega
    have b4 := rk_bd (D := fun j => sA S 2 j = nI b ∧ sA S 7 j ≠ -1) (K := fun j => (sA S 5 j / 10).toInt) hi di
    rw [ri] at b4
    rw [e1, ed, et, pk_sub (by omega), nI_1, nI_ltI (by omega) (by omega)]
    omega
/-! the order of the ends -/
theorem end_rk (S : SC) (hn : sN S ≤ 60) (i : Nat) : cnt (fun o => sA S 7 o ≠ -1 ∧ (sA S 7 o < sA S 7 i ∨ (sA S 7 o = sA S 7 i ∧ o < i))) (sN S) = nI (rkK (fun j => sA S 7 j ≠ -1) (fun j => (sA S 7 j).toInt) (sN S) i) := by
  rw [cnt_N]
  refine nI_eq' (cN_c (fun k hk => ?_))
  rw [lt_ti, eq_ti (x := sA S 7 k) (y := sA S 7 i)]
theorem end_bd (S : SC) (hn : sN S ≤ 60) (i : Nat) : rkK (fun j => sA S 7 j ≠ -1) (fun j => (sA S 7 j).toInt) (sN S) i < 2147483648 := Nat.lt_of_le_of_lt (cN_le _ _) (by omega)
theorem end_at (h : Iv H S) {r : Nat} (hr : r < dN S) : ∃ i, i < sN S ∧ sA S 7 i ≠ -1 ∧ rkK (fun j => sA S 7 j ≠ -1) (fun j => (sA S 7 j).toInt) (sN S) i = r ∧ endS S (nI r) = nI i := by
  have hn := h.n60
  have hd := cN_le (fun k => sA S 7 k ≠ -1) (sN S)
  have hr2 : r < cN (fun k => sA S 7 k ≠ -1) (sN S) := hr
  obtain ⟨i, hi, di, ri⟩ := rk_ex (D := fun j => sA S 7 j ≠ -1) (K := fun j => (sA S 7 j).toInt) r hr
  have f1 : endN S (nI r) = nI i := by
    show fst (fun j => sA S 7 j ≠ -1 ∧ cnt (fun o => sA S 7 o ≠ -1 ∧ (sA S 7 o < sA S 7 j ∨ (sA S 7 o = sA S 7 j ∧ o < j))) (sN S) = nI r) (-1) (sN S) 0 = nI i
    refine fst_some (Nat.zero_le _) (by omega) ⟨di, by rw [end_rk S hn i, ri]⟩ (fun j _ hj q => ?_)
    have := rk_inj (D := fun j => sA S 7 j ≠ -1) (show j < sN S by omega) hi q.1 di ((nI_i (end_bd S hn j) (by omega) ((end_rk S hn j).symm.trans q.2)).trans ri.symm)
    omega
  refine ⟨i, hi, di, ri, ?_⟩
  unfold endS
  rw [if_pos (nI_pos' (by omega)), f1, if_neg (nI_nm1 (by omega))]
theorem end_no (h : Iv H S) : endS S (cnt (fun j => sA S 7 j ≠ -1) (sN S)) = -1005 := by
  have hn := h.n60
  have hd : dN S ≤ sN S := cN_le _ _
  have f1 : endN S (nI (dN S)) = -1 := by
    show fst (fun j => sA S 7 j ≠ -1 ∧ cnt (fun o => sA S 7 o ≠ -1 ∧ (sA S 7 o < sA S 7 j ∨ (sA S 7 o = sA S 7 j ∧ o < j))) (sN S) = nI (dN S)) (-1) (sN S) 0 = -1
    refine fst_none (fun j _ hj q => ?_)
    have e := nI_i (end_bd S hn j) (by omega) ((end_rk S hn j).symm.trans q.2)
    have := rk_bd (D := fun j => sA S 7 j ≠ -1) (K := fun j => (sA S 7 j).toInt) (show j < sN S by omega) q.1
    have e2 : dN S = cN (fun j => sA S 7 j ≠ -1) (sN S) := rfl
    omega
  rw [dN_cnt]
  unfold endS
  rw [if_pos (nI_pos' (by omega)), f1, if_pos rfl]
theorem end_or (h : Iv H S) {r : Nat} (hr : r + 1 < dN S) : tlS S (endS S (nI r)) 8 < tlS S (endS S (nI (r + 1))) 8 ∨ (tlS S (endS S (nI r)) 8 = tlS S (endS S (nI (r + 1))) 8 ∧ endS S (nI r) < endS S (nI (r + 1))) := by
  have hn := h.n60
  obtain ⟨i, hi, di, ri, ei⟩ := end_at h (r := r) (by omega)
  obtain ⟨j, hj, dj, rj, ej⟩ := end_at h hr
  rw [ei, ej, tl_8 hn hi, tl_8 hn hj, if_pos di, if_pos dj, lt_ti, eq_ti (x := sA S 7 i), nI_ltI (by omega) (by omega)]
  by_cases l : ltK (fun j => (sA S 7 j).toInt) i j
  · exact l
  · exfalso
    by_cases e : i = j
    · subst e
      omega
    · have := rk_lt (D := fun j => sA S 7 j ≠ -1) hj dj (K := fun j => (sA S 7 j).toInt) (i := j) (j := i) (by dsimp only [ltK] at *; omega)
      omega
/-! as many lamps have a place as places hold a lamp -/
theorem pl_cnt (h : Iv H S) : ∀ m, m ≤ 24 → cN (fun j => sA S 8 j ≠ -1) m = cN (fun k => sA S 3 k ≠ -1 ∧ (sA S 3 k).toInt < (m : Int)) (sN S)
  | 0, _ => by
    have hn := h.n60
    refine (cN_0 (fun k hk q => ?_)).symm
    rcases h.1.pl hk with e | ⟨j, hj, e1, e2⟩
    · exact q.1 e
    · have q2 := q.2
      rw [e1, nI_toInt (by omega)] at q2
      omega
  | m + 1, hm => by
    have hn := h.n60
    rw [cN_s, pl_cnt h m (by omega)]
    have un : ∀ k, k < sN S → sA S 3 k ≠ -1 → (sA S 3 k).toInt = (m : Int) → sA S 8 m = nI k := fun k hk c1 c2 => by
      rcases h.1.pl hk with e | ⟨j, hj, e1, e2⟩
      · exact absurd e c1
      · rw [e1, nI_toInt (by omega)] at c2
        have : j = m := by omega
        subst this
        exact e2
    rcases h.1.place (j := m) (by omega) with q | ⟨k0, hk0, q1, q2⟩
    · rw [if_neg (fun c => c q)]
      refine cN_c (fun k hk => ?_)
      constructor
      · intro c
        exact ⟨c.1, by have := c.2; omega⟩
      · intro c
        refine ⟨c.1, Classical.byContradiction (fun g => ?_)⟩
        have := un k hk c.1 (by have := c.2; omega)
        exact nI_nm1 (k := k) (by omega) (this.symm.trans q)
    · rw [if_pos (by rw [q1]; exact nI_nm1 (by omega))]
      have tk : (sA S 3 k0).toInt = (m : Int) := by rw [q2, nI_toInt (by omega)]
      refine (cN_ins (n := sN S) (i := k0) hk0 (fun c => by have := c.2; omega) (fun k hk => ?_)).symm
      constructor
      · intro c
        by_cases g : (sA S 3 k).toInt < (m : Int)
        · exact Or.inl ⟨c.1, g⟩
        · have := un k hk c.1 (by have := c.2; omega)
          exact Or.inr (nI_i (by omega) (by omega) (this.symm.trans q1))
      · intro c
        rcases c with c | c
        · exact ⟨c.1, by have := c.2; omega⟩
        · subst c
          exact ⟨by rw [q2]; exact nI_nm1 (by omega), by omega⟩
theorem inRk_1 (S : SC) (r : Nat) : inRk S r 1 = nI (cN (fun p => sA S 8 (r * 8 + p) ≠ -1) 8) := by
  unfold inRk
  rw [cnt_N]
  exact nI_eq' (cN_c (fun k _ => ⟨fun q => q.1, fun q => ⟨q, Or.inl (by decide)⟩⟩))
theorem wr_all (h : Iv H S) : trS S 0 1 + trS S 1 1 + trS S 2 1 = cnt (fun k => sA S 3 k ≠ -1) (sN S) := by
  have hn := h.n60
  have e0 : trS S 0 1 = inRk S 0 1 := tr_w (r := 0) (by omega) 1
  have e1 : trS S 1 1 = inRk S 1 1 := tr_w (r := 1) (by omega) 1
  have e2 : trS S 2 1 = inRk S 2 1 := tr_w (r := 2) (by omega) 1
  rw [e0, e1, e2, inRk_1, inRk_1, inRk_1, nI_add, nI_add, cnt_N]
  have a := pl_cnt h 24 (Nat.le_refl _)
  have b : cN (fun k => sA S 3 k ≠ -1 ∧ (sA S 3 k).toInt < ((24 : Nat) : Int)) (sN S) = cN (fun k => sA S 3 k ≠ -1) (sN S) := cN_c (fun k hk => ⟨fun q => q.1, fun q => ⟨q, by
    rcases h.1.pl hk with e | ⟨j, hj, e1, e2⟩
    · exact absurd e q
    · rw [e1, nI_toInt (by omega)]
      omega⟩⟩)
  have c1 : cN (fun j => sA S 8 j ≠ -1) 24 = cN (fun j => sA S 8 j ≠ -1) 16 + cN (fun p => sA S 8 (16 + p) ≠ -1) 8 := cN_shift 16 8
  have c2 : cN (fun j => sA S 8 j ≠ -1) 16 = cN (fun j => sA S 8 j ≠ -1) 8 + cN (fun p => sA S 8 (8 + p) ≠ -1) 8 := cN_shift 8 8
  have d0 : cN (fun p => sA S 8 (0 * 8 + p) ≠ -1) 8 = cN (fun j => sA S 8 j ≠ -1) 8 := cN_c (fun k _ => by rw [show 0 * 8 + k = k by omega])
  have d1 : cN (fun p => sA S 8 (1 * 8 + p) ≠ -1) 8 = cN (fun p => sA S 8 (8 + p) ≠ -1) 8 := rfl
  have d2 : cN (fun p => sA S 8 (2 * 8 + p) ≠ -1) 8 = cN (fun p => sA S 8 (16 + p) ≠ -1) 8 := rfl
  rw [d0, d1, d2]
  refine nI_eq' ?_
  rw [← b, ← a]
  omega
end BT
