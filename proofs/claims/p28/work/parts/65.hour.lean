/-! pure: one hour -/
/-- what the hour wears a lamp by; whether it ends in it -/
def byS (S : SC) (k : Nat) : Int32 := if wdS S k = 0 then wrP S (ixz (sA S 3 k) / 8) (ixz (sA S 3 k)) else 0
abbrev enP (S : SC) (k : Nat) : Prop := wdS S k = 0 ∧ 10 * sA S 4 k ≤ sA S 5 k + byS S k
theorem cntS_ne (S : SC) (r : Nat) (t : Int32) {q : Nat} (hq : q ≠ r) : sA (cntS S r t) 9 q = sA S 9 q ∧ sA (cntS S r t) 12 q = sA S 12 q := by
  refine ⟨?_, ?_⟩
  · show chV (sA S 10 r) (sA S 12 r) t r (sA S 9) (sA S 11) q = _
    unfold chV
    by_cases c : sA S 10 r = 0
    · rw [if_pos c]
    · rw [if_neg c]
      by_cases g : sA S 12 r + t < sA S 10 r
      · rw [if_pos g]
      · rw [if_neg g, upd_ne hq]
  · show chO (sA S 10 r) t r (sA S 12) q = _
    unfold chO
    by_cases c : sA S 10 r = 0
    · rw [if_pos c]
    · rw [if_neg c, upd_ne hq]
theorem pRk1 (S : SC) (r : Nat) : pRk S r 1 = (cntS (burnS S r (nI 1) (sHr S + nI 0)).1 r (nI 1), 0 + (burnS S r (nI 1) (sHr S + nI 0)).2) := by
  obtain ⟨t1, t2, -⟩ := strN_ok S r (1 - 0) (by omega) (by omega)
  have e : strN S r (1 - 0) = 1 := by omega
  show pRf (1 + 1) S r 1 0 0 = _
  rw [pRf_s (by omega), e, pRf_e (by omega)]
/-- what stands behind the hours of some racks -/
def frS (S0 S : SC) : Prop := sHr S = sHr S0 ∧ sWv S = sWv S0 ∧ sDv S = sDv S0 ∧ sN S = sN S0 ∧ ∀ j, j ≠ 5 → j ≠ 6 → j ≠ 7 → j ≠ 9 → j ≠ 12 → sA S j = sA S0 j
theorem frS.rf (S : SC) : frS S S := ⟨rfl, rfl, rfl, rfl, fun _ _ _ _ _ _ => rfl⟩
theorem frS.tr {S T U : SC} (a : frS S T) (b : frS T U) : frS S U := ⟨b.1.trans a.1, b.2.1.trans a.2.1, b.2.2.1.trans a.2.2.1, b.2.2.2.1.trans a.2.2.2.1, fun j h5 h6 h7 h9 h12 => (b.2.2.2.2 j h5 h6 h7 h9 h12).trans (a.2.2.2.2 j h5 h6 h7 h9 h12)⟩
def doneL (S T : SC) (k : Nat) : Prop := sA T 5 k = sA S 5 k + byS S k ∧ sA T 6 k = sA S 6 k + b2i (wdS S k = 0) ∧ (sA T 7 k ≠ -1 ↔ (sA S 7 k ≠ -1 ∨ enP S k))
theorem doneL.off {S T : SC} {k : Nat} (s : sL S T k) (w : ¬ wdS S k = 0) : doneL S T k := by
  unfold doneL byS
  rw [s.1, s.2.1, s.2.2, if_neg w, b2i_f w, Int32.add_zero, Int32.add_zero]
  exact ⟨rfl, rfl, fun q => Or.inl q, fun q => q.elim id (fun q => absurd q.1 w)⟩
theorem wd_dead {S : SC} {k : Nat} (d : sA S 7 k ≠ -1) : wdS S k = 1 := if_pos d
theorem wd_out {S : SC} {k : Nat} (d : ¬ sA S 7 k ≠ -1) (e : sA S 3 k = -1) : wdS S k = 2 := by
  unfold wdS
  rw [if_neg d, if_pos e]
theorem wd_in {S : SC} {k j : Nat} (d : ¬ sA S 7 k ≠ -1) (hj : j < 24) (e : sA S 3 k = nI j) : wdS S k = if sA S 9 (j / 8) = 0 then 3 else 0 := by
  unfold wdS
  rw [if_neg d, e, if_neg (nI_nm1 (by omega)), ixn (by omega)]
theorem wd_nd {S : SC} {k : Nat} (w : wdS S k = 0) : ¬ sA S 7 k ≠ -1 := fun d => by
  rw [wd_dead d] at w
  exact absurd w (by decide)
/-- a rack's hour -/
theorem rack1 {B : Int} {S T U : SC} {m : Nat} (h : IvB B S) (hT : IvB B T) (hB : B ≤ 100000) (hm : m < 3) (f : frS S T) (h0 : 0 ≤ (sHr S).toInt) (h1 : (sHr S).toInt ≤ 100000) (e9 : sA T 9 m = sA S 9 m) (eU : U = (burnS T m (nI 1) (sHr T + nI 0)).1) : (∀ k, k < sN S → ∀ q, q < 8 → sA S 8 (m * 8 + q) = nI k → sL S T k → doneL S U k) ∧ (∀ k, k < sN S → (∀ q, q < 8 → ¬ sA S 8 (m * 8 + q) = nI k) → sL T U k) := by
  have hn := h.n60
  obtain ⟨f0, f1, f2, fN, fe⟩ := f
  have e8 : sA T 8 = sA S 8 := fe 8 (by omega) (by omega) (by omega) (by omega) (by omega)
  have e4 : sA T 4 = sA S 4 := fe 4 (by omega) (by omega) (by omega) (by omega) (by omega)
  have hb : sHr T + nI 0 = sHr S := by rw [f0]; exact nI_add0 _
  rw [hb] at eU
  obtain ⟨b1, b2, -⟩ := burn_all (t := 1) (hb := sHr S) hT hm (by omega) h0 (by omega)
  rw [← eU, fN, e8] at b1 b2
  refine ⟨fun k hk q hq e sl => ?_, b2⟩
  obtain ⟨x1, x2⟩ := b1 k hk q hq e
  rw [e9] at x1 x2
  obtain ⟨s5, s6, s7⟩ := sl
  have e3 := h.one (j := m * 8 + q) (by omega) hk e
  have ed : (m * 8 + q) / 8 = m := by omega
  by_cases d : sA S 7 k ≠ -1
  · have w : ¬ wdS S k = 0 := by rw [wd_dead d]; decide
    refine doneL.off (sL.tr ⟨s5, s6, s7⟩ ?_) w
    by_cases v : sA S 9 m = 0
    · exact x1 v
    · exact (x2 v).1 (by rw [s7]; exact d)
  · have wi := wd_in d (show m * 8 + q < 24 by omega) e3
    rw [ed] at wi
    by_cases v : sA S 9 m = 0
    · rw [if_pos v] at wi
      exact doneL.off (sL.tr ⟨s5, s6, s7⟩ (x1 v)) (by rw [wi]; decide)
    · rw [if_neg v] at wi
      obtain ⟨z1, z2, z3, z4⟩ := (x2 v).2 (by rw [s7]; exact d)
      have eW : wrP T m (m * 8 + q) = wrP S m (m * 8 + q) := by
        unfold wrP
        rw [f1, f2, e9]
      rw [eW, e4, s5] at z1 z2 z3 z4
      rw [s6] at z2
      have W1 := h.wP hm (m * 8 + q)
      have eb : byS S k = wrP S m (m * 8 + q) := by
        unfold byS
        rw [if_pos wi, e3, ixn (by omega), ed]
      generalize wrP S m (m * 8 + q) = W at *
      have lv := h.lv hk
      have w9 : (sA S 5 k).toInt < 10 * (sA S 4 k).toInt := by
        have := mt lv.dead.mpr d
        omega
      obtain ⟨L, l1, l2, l3, l4, l5⟩ := hL_is lv.2.1 ⟨by have := lv.2.2.1; omega, w9⟩ W1
      rw [l1] at z1 z2 z3 z4
      rw [mn_nI (by omega) (by omega), Nat.min_eq_right (by omega)] at z1 z2
      have n1 : ((L : Int) - 1) * W.toInt = (L : Int) * W.toInt - W.toInt := by rw [Int.sub_mul, Int.one_mul]
      have te : (10 * sA S 4 k ≤ sA S 5 k + W) ↔ 10 * (sA S 4 k).toInt ≤ (sA S 5 k).toInt + W.toInt := by
        rw [le_ti, t10_ti lv.2.1, ad_ti (by have := lv.2.2.1; omega)]
      refine ⟨?_, ?_, ?_⟩
      · rw [z1, eb]
        exact congrArg _ (Int32.one_mul _)
      · rw [z2, b2i_t wi]
        rfl
      · unfold enP
        rw [eb, te]
        by_cases c : L ≤ 1
        · have cL : L = 1 := by omega
          subst cL
          rw [z3 (nI_le (by omega) (by omega))]
          refine ⟨fun _ => Or.inr ⟨wi, ?_⟩, fun _ g => ?_⟩
          · have : ((1 : Nat) : Int) * W.toInt = W.toInt := Int.one_mul _
            omega
          · have g2 := congrArg Int32.toInt g
            rw [ad_ti (by rw [nI_toInt (by omega)]; omega), nI_toInt (by omega), m1_ti] at g2
            omega
        · rw [z4 (nI_ge (by omega) (by omega))]
          refine ⟨fun q => absurd rfl q, fun q => q.elim (fun q => absurd q d) (fun q => ?_)⟩
          have m2 := Int.mul_le_mul_of_nonneg_right (show (2 : Int) ≤ (L : Int) by omega) (show 0 ≤ W.toInt by omega)
          have m3 : (2 : Int) * W.toInt = W.toInt + W.toInt := by omega
          exfalso
          have := q.2
          omega
theorem pRs1 {H : Int} {S : SC} (h : Iv H S) (hH : H ≤ 90000) : ∀ m, m ≤ 3 → frS S (pRs S 1 m).1 ∧ (∀ r, r < 3 → m ≤ r → sA (pRs S 1 m).1 9 r = sA S 9 r ∧ sA (pRs S 1 m).1 12 r = sA S 12 r) ∧ (∀ k, k < sN S → ∀ j, j < 24 → sA S 8 j = nI k → (j / 8 < m → doneL S (pRs S 1 m).1 k) ∧ (m ≤ j / 8 → sL S (pRs S 1 m).1 k)) ∧ (∀ k, k < sN S → sA S 3 k = -1 → sL S (pRs S 1 m).1 k) ∧ (1 < m → sA (pRs S 1 m).1 9 1 = chV (sA S 10 1) (sA S 12 1) (nI 1) 1 (sA S 9) (sA S 11) 1)
  | 0, _ => ⟨frS.rf S, fun r _ _ => ⟨rfl, rfl⟩, fun k hk j hj e => ⟨fun g => by omega, fun _ => ⟨rfl, rfl, rfl⟩⟩, fun k hk e => ⟨rfl, rfl, rfl⟩, fun g => by omega⟩
  | m + 1, hm => by
    obtain ⟨i1, i2, i3, i4, i5⟩ := pRs1 h hH m (by omega)
    have hn := h.n60
    obtain ⟨g1, g2, g3⟩ := h
    obtain ⟨T0, c, j1, j2, j3, j4, j5⟩ := pRs_iv (C := (sHr S).toInt + (1 : Nat)) (hh := 1) (g1.wide (by omega)) g2 (Int.le_refl _) (by omega) (by omega) m (by omega)
    have eT : (pRs S 1 m).1 = T0 := by rw [j1]
    rw [pRs_s]
    show frS S (pRk (pRs S 1 m).1 m 1).1 ∧ _
    rw [pRk1]
    rw [eT] at i1 i2 i3 i4 i5 ⊢
    generalize hU : (burnS T0 m (nI 1) (sHr T0 + nI 0)).1 = U
    have rk := rack1 (g1.wide (C := (sHr S).toInt + (1 : Nat)) (by omega)) j2 (by omega) (show m < 3 by omega) i1 g2 (by omega) (i2 m (by omega) (Nat.le_refl _)).1 hU.symm
    have sb : sameB T0 U := by rw [← hU]; exact burnS_sameB _ _ _ _
    obtain ⟨s0, s1, s2, sN', se⟩ := sb
    have fU : frS T0 U := ⟨s0, s1, s2, sN', fun j a b c _ _ => se j a b c⟩
    have fC : frS U (cntS U m (nI 1)) := ⟨rfl, rfl, rfl, rfl, fun j _ _ _ g9 g12 => by
      show va_up (va_up U.2.2.2.2 9 _) 12 _ j = _
      rw [va_up_ne _ _ g12, va_up_ne _ _ g9]⟩
    have u9 : sA U 9 = sA T0 9 := se 9 (by omega) (by omega) (by omega)
    have u12 : sA U 12 = sA T0 12 := se 12 (by omega) (by omega) (by omega)
    have cs : ∀ {k : Nat}, sL U (cntS U m (nI 1)) k := fun {k} => ⟨rfl, rfl, rfl⟩
    have dn : ∀ {k : Nat}, doneL S U k → doneL S (cntS U m (nI 1)) k := fun {k} q => q
    refine ⟨(i1.tr fU).tr fC, fun r hr hmr => ?_, fun k hk j hj e => ⟨fun g => ?_, fun g => ?_⟩, fun k hk e => ?_, fun g => ?_⟩
    · obtain ⟨y9, y12⟩ := cntS_ne U m (nI 1) (q := r) (by omega)
      obtain ⟨x9, x12⟩ := i2 r hr (by omega)
      exact ⟨by rw [y9, u9, x9], by rw [y12, u12, x12]⟩
    · have ej : j = j / 8 * 8 + j % 8 := by omega
      by_cases em : j / 8 = m
      · refine dn (rk.1 k hk (j % 8) (by omega) (by rw [← em, ← ej]; exact e) ((i3 k hk j hj e).2 (by omega)))
      · have dT := (i3 k hk j hj e).1 (by omega)
        have sl := rk.2 k hk (fun q hq e2 => em (by
          have := g1.uniq (show m * 8 + q < 24 by omega) hj hk e2 e
          omega))
        obtain ⟨d5, d6, d7⟩ := dT
        refine dn ⟨sl.1.trans d5, sl.2.1.trans d6, ?_⟩
        rw [sl.2.2]
        exact d7
    · have sl := rk.2 k hk (fun q hq e2 => by
          have := g1.uniq (show m * 8 + q < 24 by omega) hj hk e2 e
          omega)
      exact (((i3 k hk j hj e).2 (by omega)).tr sl).tr cs
    · have sl := rk.2 k hk (fun q hq e2 => by
          have := g1.one (show m * 8 + q < 24 by omega) hk e2
          exact nI_nm1 (by omega) (this.symm.trans e))
      exact ((i4 k hk e).tr sl).tr cs
    · by_cases em : m = 1
      · subst em
        show chV (sA U 10 1) (sA U 12 1) (nI 1) 1 (sA U 9) (sA U 11) 1 = _
        have u10 : sA U 10 = sA S 10 := (se 10 (by omega) (by omega) (by omega)).trans (i1.2.2.2.2 10 (by omega) (by omega) (by omega) (by omega) (by omega))
        have u11 : sA U 11 = sA S 11 := (se 11 (by omega) (by omega) (by omega)).trans (i1.2.2.2.2 11 (by omega) (by omega) (by omega) (by omega) (by omega))
        obtain ⟨x9, x12⟩ := i2 1 (by omega) (Nat.le_refl _)
        rw [u10, u11, u12, u9, x12]
        unfold chV
        by_cases c1 : sA S 10 1 = 0
        · rw [if_pos c1, if_pos c1]; exact x9
        · rw [if_neg c1, if_neg c1]
          by_cases c2 : sA S 12 1 + nI 1 < sA S 10 1
          · rw [if_pos c2, if_pos c2]; exact x9
          · rw [if_neg c2, if_neg c2, updA rfl, updA rfl, x9]
      · obtain ⟨y9, -⟩ := cntS_ne U m (nI 1) (q := 1) (by omega)
        rw [y9, u9]
        exact i5 (by omega)
theorem sm_add {f g e : Nat → Int32} : ∀ {n : Nat}, (∀ k, k < n → f k = g k + e k) → sm f n = sm g n + sm e n
  | 0, _ => rfl
  | n + 1, h => by
    show sm f n + f n = sm g n + g n + (sm e n + e n)
    rw [sm_add (n := n) (fun k hk => h k (by omega)), h n (by omega)]
    ac_rfl
/-- all that the law asks of an hour -/
theorem hour_is {H : Int} {S : SC} (h : Iv H S) (hH : H ≤ 90000) : (pHs S 1).2 = cnt (fun k => enP S k) (sN S) ∧ sHr (pHs S 1).1 = sHr S + 1 ∧ sm (sA (pHs S 1).1 6) (sN S) = sm (sA S 6) (sN S) + cnt (fun k => wdS S k = 0) (sN S) ∧ sm (sA (pHs S 1).1 5) (sN S) = sm (sA S 5) (sN S) + sm (byS S) (sN S) ∧ cnt (fun k => sA (pHs S 1).1 7 k ≠ -1) (sN S) = cnt (fun k => sA S 7 k ≠ -1) (sN S) + cnt (fun k => enP S k) (sN S) ∧ sA (pHs S 1).1 9 1 = chV (sA S 10 1) (sA S 12 1) (nI 1) 1 (sA S 9) (sA S 11) 1 := by
  have hn := h.n60
  obtain ⟨p1, p2, p3, p4, p5⟩ := pRs1 h hH 3 (Nat.le_refl _)
  obtain ⟨-, qN, c, q1, q2⟩ := pHs_iv (t := 1) h (by omega) (by omega)
  have eP : pHs S 1 = (uHr (pRs S 1 3).1 (sHr (pRs S 1 3).1 + nI 1), (pRs S 1 3).2) := rfl
  rw [eP] at qN q1 q2 ⊢
  generalize pRs S 1 3 = Q at *
  clear eP p2
  have all : ∀ k, k < sN S → doneL S Q.1 k := fun k hk => by
    rcases h.1.pl hk with e | ⟨j, hj, e1, e2⟩
    · refine doneL.off (p4 k hk e) ?_
      by_cases d : sA S 7 k ≠ -1
      · rw [wd_dead d]; decide
      · rw [wd_out d e]; decide
    · exact (p3 k hk j hj e2).1 (by omega)
  have en : cN (fun k => sA Q.1 7 k ≠ -1) (sN S) = cN (fun k => sA S 7 k ≠ -1) (sN S) + cN (fun k => enP S k) (sN S) := cN_or (fun k hk => (all k hk).2.2) (fun k hk d w => wd_nd w.1 d)
  have ec : c = cN (fun k => enP S k) (sN S) := by
    have q3 : cN (fun k => sA Q.1 7 k ≠ -1) (sN Q.1) = cN (fun k => sA S 7 k ≠ -1) (sN S) + c := q2
    have q4 : sN Q.1 = sN S := qN
    rw [q4] at q3
    omega
  refine ⟨?_, ?_, ?_, ?_, ?_, p5 (by omega)⟩
  · refine Eq.trans q1 ?_
    rw [ec, cnt_N]
  · show sHr Q.1 + nI 1 = _
    rw [p1.1]
    rfl
  · rw [← sm_cnt (f := fun k => b2i (wdS S k = 0)) (fun k _ => rfl)]
    exact sm_add (fun k hk => (all k hk).2.1)
  · exact sm_add (fun k hk => (all k hk).1)
  · rw [cnt_N, cnt_N, cnt_N, nI_add]
    exact congrArg nI en
