/-! pure: the reference's hours one after the other -/
def zR (B : Int) (z : Nat → Int32) (n : Nat) : Prop := okZ z n ∧ (0 ≤ (z 2).toInt ∧ (z 2).toInt ≤ B) ∧ (100 ≤ (z 0).toInt ∧ (z 0).toInt ≤ 300) ∧ (1 ≤ (z 1).toInt ∧ (z 1).toInt ≤ 100) ∧ (∀ r, r < 3 → okR (zr z r 0) (zr z r 1) (zr z r 2) (zr z r 3)) ∧ ∀ k, k < n → (1 ≤ (zl z k 3).toInt ∧ (zl z k 3).toInt ≤ 9999) ∧ (0 ≤ (zl z k 4).toInt ∧ (zl z k 4).toInt ≤ 200000) ∧ ((zl z k 6 = -1005 ∧ (zl z k 4).toInt < 10 * (zl z k 3).toInt) ∨ (1 ≤ (zl z k 6).toInt ∧ (zl z k 6).toInt ≤ (z 2).toInt))
theorem Rl.zR {B : Int} {S : SC} {z : Nat → Int32} (h : Rl B S z) : zR B z (sN S) := by
  refine ⟨h.oZ, h.1.2.2.2.2.1, h.1.2.2.2.2.2.1, h.1.2.2.2.2.2.2.1, fun r hr => (h.rR hr).2.2.2.2, fun k hk => ?_⟩
  obtain ⟨a, b, c⟩ := (h.rD hk).2.2.2.2.2
  refine ⟨a, b, ?_⟩
  rcases c with ⟨-, c1, c2⟩ | ⟨-, c1, c2⟩
  · exact Or.inl ⟨c1, c2⟩
  · exact Or.inr ⟨c1, c2⟩
theorem clR_rng (x : Int32) : 0 ≤ (clR x).toInt ∧ (clR x).toInt ≤ 300 := by
  unfold clR
  by_cases c : 0 ≤ x
  · rw [if_pos c]
    have c1 := le_ti.mp c
    rw [e0_ti] at c1
    by_cases d : x ≤ 300
    · rw [if_pos d]
      have d1 := le_ti.mp d
      rw [e300_ti] at d1
      omega
    · rw [if_neg d, e300_ti]
      omega
  · rw [if_neg c, e0_ti]
    omega
theorem gt0_ti {x : Int32} : 0 < x ↔ 0 < x.toInt := by rw [lt_ti, e0_ti]
theorem t10_ti {c : Int32} (h : 1 ≤ c.toInt ∧ c.toInt ≤ 9999) : (10 * c).toInt = 10 * c.toInt := by
  rw [ml_ti (x := 10) (y := c) (by rw [e10_ti]; omega), e10_ti]
theorem lw_rng {B : Int} {z : Nat → Int32} {n k : Nat} (h : zR B z n) (hk : k < n) (c : (zl z k 4).toInt ≤ 110000) : (lw z k).toInt = (zl z k 4).toInt + (wA z (zr z (ixz (zl z k 1)) 0) (b2i (3 ≤ zl z k 2 ∧ zl z k 2 ≤ 4))).toInt ∧ 1 ≤ (wA z (zr z (ixz (zl z k 1)) 0) (b2i (3 ≤ zl z k 2 ∧ zl z k 2 ≤ 4))).toInt ∧ (wA z (zr z (ixz (zl z k 1)) 0) (b2i (3 ≤ zl z k 2 ∧ zl z k 2 ≤ 4))).toInt ≤ 2211 := by
  obtain ⟨h1, h2, h3, h4, h5, h6⟩ := h
  have hn := h1.1
  have w := wA_rng (v := zr z (ixz (zl z k 1)) 0) (h := b2i (3 ≤ zl z k 2 ∧ zl z k 2 ≤ 4)) h3 h4 (h5 _ (ixr h1 (by omega))).1
  have b := (h6 k hk).2.1
  exact ⟨ad_ti (by omega), w⟩
theorem zR_hr {B : Int} {z : Nat → Int32} {n : Nat} (h : zR B z n) (hB : B ≤ 200000) : zR (B + 1) (hrS z n).1 n := by
  obtain ⟨a1, a2, a3, a4, -⟩ := hr_is h.1
  have hok := hrS_ok h.1
  have hn := h.1.1
  generalize (hrS z n).1 = y at *
  have lwr := fun k (hk : k < n) => lw_rng (k := k) h hk
  obtain ⟨h1, h2, h3, h4, h5, h6⟩ := h
  have e2 : (y 2).toInt = (z 2).toInt + 1 := by
    rw [a2, ad_ti (by rw [e1_ti]; omega), e1_ti]
  have y0 : y 0 = z 0 := a1 0 (by omega) (by omega) (fun k hk => by omega)
  have y1 : y 1 = z 1 := a1 1 (by omega) (by omega) (fun k hk => by omega)
  refine ⟨hok, by omega, by rw [y0]; exact h3, by rw [y1]; exact h4, fun r hr => ?_, fun k hk => ?_⟩
  · obtain ⟨r1, r2, r3, r4⟩ := a4 r hr
    have hR := h5 r hr
    rw [r1, r2]
    obtain ⟨o1, o2, o3, o4, o5, o6⟩ := hR
    by_cases c : 0 < zr z r 1
    · have c1 := gt0_ti.mp c
      by_cases d : zr z r 3 + 1 = zr z r 1
      · obtain ⟨q1, q2⟩ := (r4 c).1 d
        rw [q1, q2]
        refine ⟨clR_rng _, o2, o3, ?_, ?_, ?_⟩
        · rw [e0_ti]; omega
        · intro _; exact e0_ti
        · intro q; rw [e0_ti]; exact q
      · obtain ⟨q1, q2⟩ := (r4 c).2 d
        rw [q1, q2]
        have s := ad_ti (x := zr z r 3) (y := 1) (by have := o6 c1; rw [e1_ti]; omega)
        rw [e1_ti] at s
        have d2 : (zr z r 3 + 1).toInt ≠ (zr z r 1).toInt := fun q => d (eq_ti.mpr q)
        have := o6 c1
        refine ⟨o1, o2, o3, ?_, ?_, ?_⟩
        · omega
        · intro q; omega
        · intro q; omega
    · obtain ⟨q1, q2⟩ := r3 c
      rw [q1, q2]
      exact ⟨o1, o2, o3, o4, o5, o6⟩
  · have f3 : zl y k 3 = zl z k 3 := a1 _ (by omega) (by omega) (fun k hk => by omega)
    obtain ⟨g1, g2, g3⟩ := h6 k hk
    obtain ⟨k1, k2⟩ := a3 k hk
    rw [f3]
    by_cases c : brnB z k = true
    · obtain ⟨x4, x5, x6, x7⟩ := k1 c
      have al := ((brn_iff z k).mp c).1
      have g4 : (zl z k 4).toInt < 10 * (zl z k 3).toInt := by
        rcases g3 with g | g
        · exact g.2
        · rw [al, mN_ti] at g; omega
      obtain ⟨w1, w2, w3⟩ := lwr k hk (by omega)
      have e10 := t10_ti g1
      rw [x4]
      refine ⟨g1, by omega, ?_⟩
      by_cases d : lw z k < 10 * zl z k 3
      · have d2 := lt_ti.mp d
        rw [e10] at d2
        exact Or.inl ⟨(x6 d).trans al, d2⟩
      · refine Or.inr ?_
        rw [x7 d, ← a2, e2]
        omega
    · obtain ⟨x4, x5, x6⟩ := k2 c
      rw [x4, x6, e2]
      refine ⟨g1, g2, g3.imp id (fun q => by omega)⟩
theorem ys_is {z : Nat → Int32} {n : Nat} (h : okZ z n) : ∀ m, (∀ j, j ≠ 2 → (j < 16 ∨ 28 ≤ j) → (∀ k, k < n → j ≠ 28 + 8 * k + 4 ∧ j ≠ 28 + 8 * k + 5 ∧ j ≠ 28 + 8 * k + 6) → ysR z n m j = z j) ∧ ysR z n m 2 = z 2 + nI m ∧ ∀ r, r < 3 → zr (ysR z n m) r 1 = zr z r 1 ∧ zr (ysR z n m) r 2 = zr z r 2
  | 0 => ⟨fun j _ _ _ => rfl, (Int32.add_zero _).symm, fun r _ => ⟨rfl, rfl⟩⟩
  | m + 1 => by
    obtain ⟨i1, i2, i3⟩ := ys_is h m
    obtain ⟨a1, a2, a3, a4, -⟩ := hr_is (ysR_ok h m)
    rw [ysR_s]
    refine ⟨fun j j2 hj hk => (a1 j j2 hj hk).trans (i1 j j2 hj hk), ?_, fun r hr => ?_⟩
    · rw [a2, i2, Int32.add_assoc, nI_1]
    · obtain ⟨r1, r2, -⟩ := a4 r hr
      exact ⟨r1.trans (i3 r hr).1, r2.trans (i3 r hr).2⟩
theorem ys_zR {B : Int} {z : Nat → Int32} {n : Nat} (h : zR B z n) : ∀ m : Nat, B + m ≤ 200000 → zR (B + m) (ysR z n m) n
  | 0, _ => by
    rw [show B + ((0 : Nat) : Int) = B by omega]
    exact h
  | m + 1, hm => by
    rw [ysR_s, show B + ((m + 1 : Nat) : Int) = B + m + 1 by omega]
    exact zR_hr (ys_zR h m (by omega)) (by omega)
theorem ys_l {z : Nat → Int32} {n k m : Nat} (h : okZ z n) (hk : k < n) : lhr (ysR z n m) (ysR z n (m + 1)) (z 2 + nI (m + 1)) k := by
  obtain ⟨a1, a2, a3, a4, -⟩ := hr_is (ysR_ok h m)
  have := a3 k hk
  rw [(ys_is h m).2.1, Int32.add_assoc, nI_1] at this
  exact this
theorem ys_r {z : Nat → Int32} {n r m : Nat} (h : okZ z n) (hr : r < 3) : rhr (ysR z n m) (ysR z n (m + 1)) r := (hr_is (ysR_ok h m)).2.2.2.1 r hr
theorem ys_f {z : Nat → Int32} {n k w : Nat} (h : okZ z n) (m : Nat) (hk : k < n) (hw : w < 4) : zl (ysR z n m) k w = zl z k w := (ys_is h m).1 _ (by omega) (by omega) (fun k hk => by omega)
theorem ys_01 {z : Nat → Int32} {n : Nat} (h : okZ z n) (m : Nat) : ysR z n m 0 = z 0 ∧ ysR z n m 1 = z 1 := ⟨(ys_is h m).1 _ (by omega) (by omega) (fun k hk => by omega), (ys_is h m).1 _ (by omega) (by omega) (fun k hk => by omega)⟩
/-- how a lamp burns in the hour behind m -/
theorem ys_brn {z : Nat → Int32} {n k r m : Nat} (h : okZ z n) (hk : k < n) (hr : r < 3) (e : zl z k 1 = nI r) : (brnB (ysR z n m) k = true ↔ zl (ysR z n m) k 6 = -1005 ∧ 0 < zr (ysR z n m) r 0) ∧ lw (ysR z n m) k = zl (ysR z n m) k 4 + wA z (zr (ysR z n m) r 0) (b2i (3 ≤ zl z k 2 ∧ zl z k 2 ≤ 4)) := by
  have er : ixz (nI r) = r := nI_clamp (by omega)
  constructor
  · rw [brn_iff, ys_f (w := 1) h m hk (by omega), e, er]
    exact ⟨fun q => ⟨q.1, q.2.2⟩, fun q => ⟨q.1, nI_nmN (by omega), q.2⟩⟩
  · unfold lw
    rw [ys_f (w := 1) h m hk (by omega), ys_f (w := 2) h m hk (by omega), e, er, wA_c (ys_01 h m).1 (ys_01 h m).2]
/-- a lamp that does not burn -/
theorem run_off {z : Nat → Int32} {n k r p t : Nat} {v : Int32} (h : okZ z n) (hk : k < n) (hr : r < 3) (e : zl z k 1 = nI r) (hv : ∀ i, i < t → zr (ysR z n (p + i)) r 0 = v) (c : ¬ 0 < v ∨ ¬ zl (ysR z n p) k 6 = -1005) : ∀ i, i ≤ t → zl (ysR z n (p + i)) k 4 = zl (ysR z n p) k 4 ∧ zl (ysR z n (p + i)) k 5 = zl (ysR z n p) k 5 ∧ zl (ysR z n (p + i)) k 6 = zl (ysR z n p) k 6
  | 0, _ => ⟨rfl, rfl, rfl⟩
  | i + 1, hi => by
    obtain ⟨i1, i2, i3⟩ := run_off h hk hr e hv c i (by omega)
    have l := (ys_l (m := p + i) h hk).2 (fun q => by
      have q2 := (ys_brn h hk hr e).1.mp q
      rw [hv i (by omega), i3] at q2
      exact c.elim (fun g => g q2.2) (fun g => g q2.1))
    exact ⟨l.1.trans i1, l.2.1.trans i2, l.2.2.trans i3⟩
/-- how many hours are left -/
theorem hL_is {c w W : Int32} (hc : 1 ≤ c.toInt ∧ c.toInt ≤ 9999) (hw : 0 ≤ w.toInt ∧ w.toInt < 10 * c.toInt) (hW : 1 ≤ W.toInt ∧ W.toInt ≤ 2211) : ∃ L : Nat, hLf c w W = nI L ∧ 1 ≤ L ∧ L ≤ 110000 ∧ ((L : Int) - 1) * W.toInt < 10 * c.toInt - w.toInt ∧ 10 * c.toInt - w.toInt ≤ (L : Int) * W.toInt := by
  have e10 := t10_ti hc
  have s1 := sb_ti (x := 10 * c) (y := w) (by rw [e10]; omega)
  rw [e10] at s1
  have s2 := ad_ti (x := 10 * c - w) (y := W) (by rw [s1]; omega)
  rw [s1] at s2
  have s3 := sb_ti (x := 10 * c - w + W) (y := 1) (by rw [s2, e1_ti]; omega)
  rw [s2, e1_ti] at s3
  have s4 := dv_ti (x := 10 * c - w + W - 1) (y := W) (by rw [s3]; omega) (by omega)
  rw [s3] at s4
  have d1 := Int.emod_add_mul_ediv (10 * c.toInt - w.toInt + W.toInt - 1) W.toInt
  have d2 := Int.emod_nonneg (10 * c.toInt - w.toInt + W.toInt - 1) (show W.toInt ≠ 0 by omega)
  have d3 := Int.emod_lt_of_pos (10 * c.toInt - w.toInt + W.toInt - 1) (show 0 < W.toInt by omega)
  have d4 := Int.ediv_le_self W.toInt (show 0 ≤ 10 * c.toInt - w.toInt + W.toInt - 1 by omega)
  have d5 : 1 ≤ (10 * c.toInt - w.toInt + W.toInt - 1) / W.toInt := (Int.le_ediv_iff_mul_le (show 0 < W.toInt by omega)).mpr (by omega)
  generalize hX : (10 * c.toInt - w.toInt + W.toInt - 1) / W.toInt = X at *
  generalize (10 * c.toInt - w.toInt + W.toInt - 1) % W.toInt = Y at *
  have e : hLf c w W = nI X.toNat := by
    apply eq_ti.mpr
    unfold hLf
    rw [mx1_id hW.1, s4, nI_toInt (by omega)]
    omega
  have m1 : W.toInt * X = X * W.toInt := Int.mul_comm _ _
  have m2 : ((X.toNat : Int) - 1) * W.toInt = X * W.toInt - W.toInt := by
    rw [show (X.toNat : Int) = X by omega, Int.sub_mul, Int.one_mul]
  have m3 : (X.toNat : Int) * W.toInt = X * W.toInt := by rw [show (X.toNat : Int) = X by omega]
  refine ⟨X.toNat, e, by omega, by omega, ?_, ?_⟩
  · rw [m2]; omega
  · rw [m3]; omega
/-- a lamp that burns -/
theorem run_on {B : Int} {z : Nat → Int32} {n k r p t L : Nat} {v W : Int32} (h : zR B z n) (hB : B + p + t ≤ 200000) (hk : k < n) (hr : r < 3) (e : zl z k 1 = nI r) (hv : ∀ i, i < t → zr (ysR z n (p + i)) r 0 = v) (v0 : 0 < v) (al : zl (ysR z n p) k 6 = -1005) (hW : wA z v (b2i (3 ≤ zl z k 2 ∧ zl z k 2 ≤ 4)) = W) (W1 : 1 ≤ W.toInt ∧ W.toInt ≤ 2211) (L1 : 1 ≤ L ∧ L ≤ 110000) (L2 : ((L : Int) - 1) * W.toInt < 10 * (zl z k 3).toInt - (zl (ysR z n p) k 4).toInt) (L3 : 10 * (zl z k 3).toInt - (zl (ysR z n p) k 4).toInt ≤ (L : Int) * W.toInt) : ∀ i, i ≤ t → (i < L → zl (ysR z n (p + i)) k 4 = zl (ysR z n p) k 4 + nI i * W ∧ zl (ysR z n (p + i)) k 5 = zl (ysR z n p) k 5 + nI i ∧ zl (ysR z n (p + i)) k 6 = -1005) ∧ (L ≤ i → zl (ysR z n (p + i)) k 4 = zl (ysR z n p) k 4 + nI L * W ∧ zl (ysR z n (p + i)) k 5 = zl (ysR z n p) k 5 + nI L ∧ zl (ysR z n (p + i)) k 6 = z 2 + nI (p + L))
  | 0, _ => by
    refine ⟨fun _ => ⟨?_, ?_, al⟩, fun q => by omega⟩
    · rw [show nI 0 = 0 from rfl, Int32.zero_mul, Int32.add_zero]; rfl
    · rw [show nI 0 = 0 from rfl, Int32.add_zero]; rfl
  | i + 1, hi => by
    obtain ⟨i1, i2⟩ := run_on h hB hk hr e hv v0 al hW W1 L1 L2 L3 i (by omega)
    have hok := h.1
    have l := ys_l (m := p + i) hok hk
    have b := ys_brn (m := p + i) hok hk hr e
    rw [hv i (by omega), hW] at b
    have zp := ys_zR h p (by omega)
    have w0 := (zp.2.2.2.2.2 k hk).2.1
    have hc := (h.2.2.2.2.2 k hk).1
    have e10 := t10_ti hc
    have f3 : zl (ysR z n (p + i)) k 3 = zl z k 3 := ys_f hok _ hk (by omega)
    by_cases c : i < L
    · obtain ⟨x4, x5, x6⟩ := i1 c
      have lb := l.1 (b.1.mpr ⟨x6, v0⟩)
      have el : lw (ysR z n (p + i)) k = zl (ysR z n p) k 4 + nI (i + 1) * W := by
        rw [b.2, x4, ← nI_1, Int32.add_mul, Int32.one_mul, Int32.add_assoc]
      have m0 : (i : Int) * W.toInt ≤ ((L : Int) - 1) * W.toInt := Int.mul_le_mul_of_nonneg_right (by omega) (by omega)
      have m00 : 0 ≤ (i : Int) * W.toInt := Int.mul_nonneg (by omega) (by omega)
      have m1 : ((i : Int) + 1) * W.toInt = (i : Int) * W.toInt + W.toInt := by rw [Int.add_mul, Int.one_mul]
      have tm : (nI (i + 1) * W).toInt = ((i : Int) + 1) * W.toInt := by
        rw [ml_ti (by rw [nI_toInt (by omega), show ((i + 1 : Nat) : Int) = (i : Int) + 1 from rfl, m1]; omega), nI_toInt (by omega)]
        rfl
      have ta : (zl (ysR z n p) k 4 + nI (i + 1) * W).toInt = (zl (ysR z n p) k 4).toInt + ((i : Int) + 1) * W.toInt := by
        rw [ad_ti (by rw [tm, m1]; omega), tm]
      rw [el, f3] at lb
      obtain ⟨y4, y5, y6, y7⟩ := lb
      have e5 : zl (ysR z n (p + (i + 1))) k 5 = zl (ysR z n p) k 5 + nI (i + 1) := by
        rw [show p + (i + 1) = p + i + 1 from rfl, y5, x5, Int32.add_assoc, nI_1]
      by_cases d : i + 1 < L
      · refine ⟨fun _ => ⟨y4, e5, (y6 ?_).trans x6⟩, fun q => by omega⟩
        have m2 : ((i : Int) + 1) * W.toInt ≤ ((L : Int) - 1) * W.toInt := Int.mul_le_mul_of_nonneg_right (by omega) (by omega)
        rw [lt_ti, ta, e10]
        omega
      · have eL : i + 1 = L := by omega
        refine ⟨fun q => absurd q d, fun _ => ?_⟩
        rw [← eL]
        refine ⟨y4, e5, y7 ?_⟩
        have m2 : ((i : Int) + 1) * W.toInt = (L : Int) * W.toInt := by rw [← eL]; rfl
        rw [lt_ti, ta, e10]
        omega
    · obtain ⟨x4, x5, x6⟩ := i2 (by omega)
      have dead : ¬ zl (ysR z n (p + i)) k 6 = -1005 := by
        rw [x6]
        intro q
        have q2 := congrArg Int32.toInt q
        have z2 := h.2.1
        have hb := ys_zR h (p + i) (by omega)
        have := (hb.2.2.2.2.2 k hk).2.2
        rw [x6] at this
        rcases this with g | g
        · have := congrArg Int32.toInt g.1
          have w4 := g.2
          rw [x4] at w4
          have m2 := L3
          have f3' : zl (ysR z n (p + i)) k 3 = zl z k 3 := f3
          rw [f3'] at w4
          have m00 : 0 ≤ (L : Int) * W.toInt := Int.mul_nonneg (by omega) (by omega)
          have m1 : ((L : Int) - 1) * W.toInt = (L : Int) * W.toInt - W.toInt := by rw [Int.sub_mul, Int.one_mul]
          have tm : (nI L * W).toInt = (L : Int) * W.toInt := by
            rw [ml_ti (by rw [nI_toInt (by omega)]; omega), nI_toInt (by omega)]
          rw [ad_ti (by rw [tm]; omega), tm] at w4
          omega
        · rw [q, mN_ti] at g
          omega
      have lb := l.2 (fun q => dead (b.1.mp q).1)
      exact ⟨fun q => by omega, fun _ => ⟨lb.1.trans x4, lb.2.1.trans x5, lb.2.2.trans x6⟩⟩
