/-! pure: hours pass -/
/-- the wear of an hour on a rack's place -/
theorem IvB.wP {B : Int} {S : SC} (h : IvB B S) {r : Nat} (hr : r < 3) (j : Nat) : 1 ≤ (wrP S r j).toInt ∧ (wrP S r j).toInt ≤ 2211 := wrH_rng _ h.1.2.1 h.1.2.2 (h.rk hr).1
/-- a lamp that burns, behind t hours -/
theorem ivL_burn {B C : Int} {S T : SC} {k t : Nat} {W hb : Int32} (h : ivL S B k) (al : ¬ sA S 7 k ≠ -1) (hW : 1 ≤ W.toInt ∧ W.toInt ≤ 2211) (ht : t ≤ 10000) (hb0 : 0 ≤ hb.toInt) (hC : hb.toInt + t ≤ C) (hC2 : C ≤ 200000) (e2 : sA T 2 k = sA S 2 k) (e4 : sA T 4 k = sA S 4 k) (e5 : sA T 5 k = sA S 5 k + mn (hLf (sA S 4 k) (sA S 5 k) W) (nI t) * W) (e6 : sA T 6 k = sA S 6 k + mn (hLf (sA S 4 k) (sA S 5 k) W) (nI t)) (e7 : hLf (sA S 4 k) (sA S 5 k) W ≤ nI t → sA T 7 k = hb + hLf (sA S 4 k) (sA S 5 k) W) (e8 : ¬ hLf (sA S 4 k) (sA S 5 k) W ≤ nI t → sA T 7 k = -1) : ivL T C k := by
  obtain ⟨h1, h2, h3, h4⟩ := h
  have w9 : (sA S 5 k).toInt < 10 * (sA S 4 k).toInt := by
    rcases h4 with q | q
    · exact q.2
    · have e := Classical.not_not.mp al
      rw [e, m1_ti] at q
      omega
  obtain ⟨L, l1, l2, l3, l4, l5⟩ := hL_is h2 ⟨by omega, w9⟩ hW
  rw [l1] at e5 e6 e7 e8
  have tt := nI_toInt (n := t) (by omega)
  have tL := nI_toInt (n := L) (by omega)
  have n1 : ((L : Int) - 1) * W.toInt = (L : Int) * W.toInt - W.toInt := by rw [Int.sub_mul, Int.one_mul]
  by_cases c : L ≤ t
  · rw [mn_nI (by omega) (by omega), Nat.min_eq_left c] at e5 e6
    have b7 := e7 (nI_le c (by omega))
    have m0 : (L : Int) ≤ (L : Int) * W.toInt := by
      have := Int.mul_le_mul_of_nonneg_left hW.1 (show (0 : Int) ≤ (L : Int) by omega)
      rw [Int.mul_one] at this
      exact this
    have tm : (nI L * W).toInt = (L : Int) * W.toInt := by
      rw [ml_ti (by rw [tL]; omega), tL]
    have t5 : (sA T 5 k).toInt = (sA S 5 k).toInt + (L : Int) * W.toInt := by
      rw [e5, ad_ti (by rw [tm]; omega), tm]
    have t6 : (sA T 6 k).toInt = (sA S 6 k).toInt + (L : Int) := by
      rw [e6, ad_ti (by rw [tL]; omega), tL]
    have t7 : (sA T 7 k).toInt = hb.toInt + (L : Int) := by
      rw [b7, ad_ti (by rw [tL]; omega), tL]
    refine ⟨by rw [e2]; exact h1, by rw [e4]; exact h2, ?_, Or.inr ⟨?_, ?_⟩⟩
    · rw [t5, t6]; omega
    · rw [t7]; omega
    · rw [e4, t5]; omega
  · rw [mn_nI (by omega) (by omega), Nat.min_eq_right (by omega)] at e5 e6
    have b7 := e8 (nI_ge (by omega) (by omega))
    have m0 : (t : Int) ≤ (t : Int) * W.toInt := by
      have := Int.mul_le_mul_of_nonneg_left hW.1 (show (0 : Int) ≤ (t : Int) by omega)
      rw [Int.mul_one] at this
      exact this
    have m1 : (t : Int) * W.toInt ≤ ((L : Int) - 1) * W.toInt := Int.mul_le_mul_of_nonneg_right (by omega) (by omega)
    have tm : (nI t * W).toInt = (t : Int) * W.toInt := by
      rw [ml_ti (by rw [tt]; omega), tt]
    have t5 : (sA T 5 k).toInt = (sA S 5 k).toInt + (t : Int) * W.toInt := by
      rw [e5, ad_ti (by rw [tm]; omega), tm]
    have t6 : (sA T 6 k).toInt = (sA S 6 k).toInt + (t : Int) := by
      rw [e6, ad_ti (by rw [tt]; omega), tt]
    refine ⟨by rw [e2]; exact h1, by rw [e4]; exact h2, ?_, Or.inl ⟨b7, ?_⟩⟩
    · rw [t5, t6]; omega
    · rw [e4, t5]; omega
/-- what burning does to the lamps: those of the rack, the others -/
theorem burn_all {B : Int} {S : SC} {r t : Nat} {hb : Int32} (h : IvB B S) (hr : r < 3) (ht : t ≤ 10000) (hb0 : 0 ≤ hb.toInt) (hb1 : hb.toInt ≤ 200000) : (∀ k, k < sN S → ∀ q, q < 8 → sA S 8 (r * 8 + q) = nI k → (sA S 9 r = 0 → sL S (burnS S r (nI t) hb).1 k) ∧ (¬ sA S 9 r = 0 → bD S (burnS S r (nI t) hb).1 r (r * 8 + q) k (nI t) hb)) ∧
    (∀ k, k < sN S → (∀ q, q < 8 → ¬ sA S 8 (r * 8 + q) = nI k) → sL S (burnS S r (nI t) hb).1 k) ∧
    ∃ c, (burnS S r (nI t) hb).2 = nI c ∧ dN (burnS S r (nI t) hb).1 = dN S + c := by
  have hn := h.n60
  unfold burnS
  by_cases c : sA S 9 r = 0
  · rw [if_pos c]
    exact ⟨fun k hk q hq e => ⟨fun _ => ⟨rfl, rfl, rfl⟩, fun g => absurd c g⟩, fun k hk _ => ⟨rfl, rfl, rfl⟩, 0, rfl, rfl⟩
  · rw [if_neg c]
    have main := bRn_is (S := S) (r := r) (h := nI t) (hb := hb) hr hn h.at_ (fun k q hq e hk al le => by
      have lv := h.lv hk
      have w9 : (sA S 5 k).toInt < 10 * (sA S 4 k).toInt := by
        have := mt lv.dead.mpr al
        omega
      obtain ⟨L, l1, l2, l3, -⟩ := hL_is lv.2.1 ⟨by have := lv.2.2.1; omega, w9⟩ (h.wP hr (r * 8 + q))
      rw [l1]
      intro g
      have g2 := congrArg Int32.toInt g
      rw [ad_ti (by rw [nI_toInt (by omega)]; omega), nI_toInt (by omega), m1_ti] at g2
      omega) 8 (Nat.le_refl _)
    obtain ⟨m1, m2, m3⟩ := main
    exact ⟨fun k hk q hq e => ⟨fun g => absurd g c, fun _ => (m1 k hk q hq e).1 hq⟩, m2, m3⟩
theorem burn_iv {B C : Int} {S : SC} {r t : Nat} {hb : Int32} (h : IvB B S) (hr : r < 3) (ht : t ≤ 10000) (hb0 : 0 ≤ hb.toInt) (hC : hb.toInt + t ≤ C) (hBC : B ≤ C) (hC2 : C ≤ 200000) : IvB C (burnS S r (nI t) hb).1 := by
  have hn := h.n60
  obtain ⟨b1, b2, -⟩ := burn_all (t := t) (hb := hb) h hr ht hb0 (by omega)
  have sb := burnS_sameB S r (nI t) hb
  generalize (burnS S r (nI t) hb).1 = T at *
  obtain ⟨s1, s2, s3, s4, s5⟩ := sb
  have e : ∀ j, j ≠ 5 → j ≠ 6 → j ≠ 7 → sA T j = sA S j := s5
  refine ⟨?_, fun d hd => ?_, fun d hd => (h.rk hd).cg ?_ ?_ ?_ ?_, fun k hk => ?_, h.at_.cg s4 (e 3 (by omega) (by omega) (by omega)) (e 8 (by omega) (by omega) (by omega))⟩
  · have := h.1
    unfold ivH at *
    rw [s2, s3, s4]
    exact this
  · have := h.bt hd
    unfold ivB at *
    rw [e 0 (by omega) (by omega) (by omega), e 1 (by omega) (by omega) (by omega)]
    exact this
  · rw [e _ (by omega) (by omega) (by omega)]
  · rw [e _ (by omega) (by omega) (by omega)]
  · rw [e _ (by omega) (by omega) (by omega)]
  · rw [e _ (by omega) (by omega) (by omega)]
  · rw [s4] at hk
    refine ⟨?_, (h.pl hk).cg (e 3 (by omega) (by omega) (by omega)) (e 8 (by omega) (by omega) (by omega))⟩
    have f2 : sA T 2 k = sA S 2 k := by rw [e 2 (by omega) (by omega) (by omega)]
    have f4 : sA T 4 k = sA S 4 k := by rw [e 4 (by omega) (by omega) (by omega)]
    have same : sL S T k → ivL T C k := fun s => ((h.lv hk).cg f2 f4 s.1 s.2.1 s.2.2).wide hBC
    by_cases c : ∃ q, q < 8 ∧ sA S 8 (r * 8 + q) = nI k
    · obtain ⟨q, hq, e8⟩ := c
      obtain ⟨x1, x2⟩ := b1 k hk q hq e8
      by_cases v : sA S 9 r = 0
      · exact same (x1 v)
      · obtain ⟨y1, y2⟩ := x2 v
        by_cases d : sA S 7 k ≠ -1
        · exact same (y1 d)
        · obtain ⟨z1, z2, z3, z4⟩ := y2 d
          exact ivL_burn (h.lv hk) d (h.wP hr (r * 8 + q)) ht hb0 hC hC2 f2 f4 z1 z2 z3 z4
    · exact same (b2 k hk (fun q hq e8 => c ⟨q, hq, e8⟩))
/-- hours are counted for the steps -/
theorem cnt_iv {B : Int} {S : SC} {r t : Nat} (h : IvB B S) (hr : r < 3) (ht : t ≤ 10000) : IvB B (cntS S r (nI t)) := by
  refine ⟨h.1, fun d hd => h.bt hd, fun d hd => ?_, fun k hk => ⟨(h.lv hk).cg rfl rfl rfl rfl rfl, (h.pl hk).cg rfl rfl⟩, h.at_.cg rfl rfl rfl⟩
  have q := h.rk hd
  have e9 : sA (cntS S r (nI t)) 9 = chV (sA S 10 r) (sA S 12 r) (nI t) r (sA S 9) (sA S 11) := rfl
  have e12 : sA (cntS S r (nI t)) 12 = chO (sA S 10 r) (nI t) r (sA S 12) := rfl
  by_cases e : d = r
  · subst e
    show okR (sA (cntS S d (nI t)) 9 d) (sA S 10 d) (sA S 11 d) (sA (cntS S d (nI t)) 12 d)
    rw [e9, e12]
    obtain ⟨o1, o2, o3, o4, o5, o6⟩ := q
    unfold chV chO
    by_cases c : sA S 10 d = 0
    · rw [if_pos c, if_pos c]
      exact ⟨o1, o2, o3, o4, o5, o6⟩
    · rw [if_neg c, if_neg c, updA rfl]
      obtain ⟨A, eA, tA, -⟩ := nat_of o2.1
      obtain ⟨o, eo, to, -⟩ := nat_of o4
      have hA : 0 < A := by
        rcases Nat.eq_zero_or_pos A with g | g
        · subst g; exact absurd eA c
        · exact g
      have em : sA S 12 d + nI t - (sA S 12 d + nI t) / sA S 10 d * sA S 10 d = nI ((o + t) % A) := by
        rw [eA, eo, nI_add]
        exact pk_rem (by omega) hA (by omega)
      have hm := Nat.mod_lt (o + t) hA
      rw [em]
      have em2 : (nI ((o + t) % A)).toInt = (((o + t) % A : Nat) : Int) := nI_toInt (by omega)
      unfold okR
      rw [em2]
      refine ⟨?_, o2, o3, by omega, fun g => by omega, fun _ => by omega⟩
      by_cases g : sA S 12 d + nI t < sA S 10 d
      · rw [if_pos g]; exact o1
      · rw [if_neg g, updA rfl]; exact cl3_rng _
  · refine q.cg ?_ rfl rfl ?_
    · rw [e9]
      unfold chV
      by_cases c : sA S 10 r = 0
      · rw [if_pos c]
      · rw [if_neg c]
        by_cases g : sA S 12 r + nI t < sA S 10 r
        · rw [if_pos g]
        · rw [if_neg g, upd_ne e]
    · rw [e12]
      unfold chO
      by_cases c : sA S 10 r = 0
      · rw [if_pos c]
      · rw [if_neg c, upd_ne e]
theorem nI_add0 (x : Int32) : x + nI 0 = x := Int32.add_zero x
theorem pRf_iv {C : Int} {r hh : Nat} (hr : r < 3) (hh1 : hh ≤ 10000) (hC2 : C ≤ 200000) : ∀ (f : Nat) (S : SC) (p : Nat) (acc : Int32), hh - p < f → p ≤ hh → IvB C S → 0 ≤ (sHr S).toInt → (sHr S).toInt + hh ≤ C →
    ∃ (T : SC) (c : Nat), pRf f S r hh p acc = (T, acc + nI c) ∧ IvB C T ∧ sHr T = sHr S ∧ sN T = sN S ∧ dN T = dN S + c
  | 0, S, p, acc, h1, _, _, _, _ => by omega
  | f + 1, S, p, acc, h1, h2, h, h0, hC => by
    by_cases c : hh ≤ p
    · rw [pRf_e c]
      exact ⟨S, 0, by rw [nI_add0], h, rfl, rfl, rfl⟩
    · rw [pRf_s c]
      obtain ⟨t1, t2, -⟩ := strN_ok S r (hh - p) (by omega) (by omega)
      generalize strN S r (hh - p) = t at *
      have tp := nI_toInt (n := p) (by omega)
      have th : (sHr S + nI p).toInt = (sHr S).toInt + p := by rw [ad_ti (by rw [tp]; omega), tp]
      have bi := burn_iv (C := C) (t := t) (hb := sHr S + nI p) h hr (by omega) (by omega) (by omega) (Int.le_refl _) hC2
      obtain ⟨-, -, c1, b3, b4⟩ := burn_all (t := t) (hb := sHr S + nI p) h hr (by omega) (by omega) (by omega)
      have sb := burnS_sameB S r (nI t) (sHr S + nI p)
      generalize (burnS S r (nI t) (sHr S + nI p)).1 = T1 at *
      generalize (burnS S r (nI t) (sHr S + nI p)).2 = a1 at *
      obtain ⟨T, c2, i1, i2, i3, i4, i5⟩ := pRf_iv hr hh1 hC2 f (cntS T1 r (nI t)) (p + t) (acc + a1) (by omega) (by omega) (cnt_iv bi hr (by omega)) (by
        show 0 ≤ (sHr T1).toInt
        rw [sb.1]; exact h0) (by
        show (sHr T1).toInt + hh ≤ C
        rw [sb.1]; exact hC)
      refine ⟨T, c1 + c2, ?_, i2, i3.trans sb.1, i4.trans sb.2.2.2.1, ?_⟩
      · rw [i1, b3, Int32.add_assoc, nI_add]
      · rw [i5]
        show dN T1 + c2 = _
        rw [b4]
        omega
theorem pRs_iv {C : Int} {S : SC} {hh : Nat} (h : IvB C S) (h0 : 0 ≤ (sHr S).toInt) (hC : (sHr S).toInt + hh ≤ C) (hh1 : hh ≤ 10000) (hC2 : C ≤ 200000) : ∀ m, m ≤ 3 → ∃ (T : SC) (c : Nat), pRs S hh m = (T, nI c) ∧ IvB C T ∧ sHr T = sHr S ∧ sN T = sN S ∧ dN T = dN S + c
  | 0, _ => ⟨S, 0, rfl, h, rfl, rfl, rfl⟩
  | m + 1, hm => by
    obtain ⟨T, c, i1, i2, i3, i4, i5⟩ := pRs_iv h h0 hC hh1 hC2 m (by omega)
    rw [pRs_s, i1]
    obtain ⟨U, d, j1, j2, j3, j4, j5⟩ := pRf_iv (C := C) (r := m) (hh := hh) (by omega) hh1 hC2 (hh + 1) T 0 0 (by omega) (by omega) i2 (by rw [i3]; exact h0) (by rw [i3]; exact hC)
    have ej : pRk T m hh = (U, 0 + nI d) := j1
    refine ⟨U, c + d, ?_, j2, j3.trans i3, j4.trans i4, by omega⟩
    show ((pRk T m hh).1, nI c + (pRk T m hh).2) = _
    rw [ej]
    show (U, nI c + (0 + nI d)) = _
    rw [Int32.zero_add, nI_add]
theorem IvB.hr {B : Int} {S : SC} (h : IvB B S) (x : Int32) : IvB B (uHr S x) := ⟨h.1, fun d hd => h.bt hd, fun d hd => h.rk hd, fun k hk => ⟨(h.lv hk).cg rfl rfl rfl rfl rfl, (h.pl hk).cg rfl rfl⟩, h.at_.cg rfl rfl rfl⟩
theorem pHs_iv {H : Int} {S : SC} {t : Nat} (h : Iv H S) (ht : t ≤ 10000) (hH : H ≤ 100000) : Iv (H + t) (pHs S t).1 ∧ sN (pHs S t).1 = sN S ∧ ∃ c, (pHs S t).2 = nI c ∧ dN (pHs S t).1 = dN S + c := by
  obtain ⟨h1, h2, h3⟩ := h
  obtain ⟨T, c, i1, i2, i3, i4, i5⟩ := pRs_iv (C := (sHr S).toInt + t) (hh := t) (h1.wide (by omega)) h2 (Int.le_refl _) ht (by omega) 3 (Nat.le_refl _)
  have e : pHs S t = (uHr T (sHr T + nI t), nI c) := by
    unfold pHs
    rw [i1]
  have tt := nI_toInt (n := t) (by omega)
  have th : (sHr T + nI t).toInt = (sHr S).toInt + t := by rw [i3, ad_ti (by rw [tt]; omega), tt]
  rw [e]
  refine ⟨⟨?_, ?_, ?_⟩, i4, c, rfl, i5⟩
  · show IvB (sHr T + nI t).toInt _
    rw [th]
    exact i2.hr _
  · show 0 ≤ (sHr T + nI t).toInt
    omega
  · show (sHr T + nI t).toInt ≤ _
    omega
theorem e999_ti : (999 : Int32).toInt = (999 : Nat) := by decide
theorem e99999_ti : (99999 : Int32).toInt = 99999 := by decide
theorem dN_cnt (S : SC) : cnt (fun j => sA S 7 j ≠ -1) (sN S) = nI (dN S) := cnt_N _ _
theorem lpS_is {H : Int} {S : SC} {t : Nat} (h : Iv H S) (t1 : 1 ≤ t) (ht : t ≤ 999) (hH : H + t ≤ 99999) : lpS S (nI t) = ((pHs S t).2, (pHs S t).1) := by
  have tt := nI_toInt (n := t) (by omega)
  unfold lpS
  rw [if_pos ⟨by rw [le_ti, e1_ti, tt]; omega, by rw [le_ti, e999_ti, tt]; omega⟩, if_pos (by
    have := h.2
    rw [le_ti, e99999_ti, ad_ti (by rw [tt]; omega), tt]; omega), ixn (by omega)]
