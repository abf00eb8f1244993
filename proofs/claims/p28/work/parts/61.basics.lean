/-! pure: numbers, orders, a stretch (rows of the claim whole, taken over) -/
theorem upd_ne {f : Nat → Int32} {j k : Nat} {v : Int32} (h : k ≠ j) : upd f j v k = f k := by
  unfold upd
  exact if_neg h
theorem updA {f : Nat → Int32} {i j : Nat} {v : Int32} (h : j = i) : upd f i v j = v := if_pos h
def okR (v a t o : Int32) : Prop := (0 ≤ v.toInt ∧ v.toInt ≤ 300) ∧ (0 ≤ a.toInt ∧ a.toInt ≤ 99) ∧ (-50 ≤ t.toInt ∧ t.toInt ≤ 50) ∧ 0 ≤ o.toInt ∧ (a.toInt = 0 → o.toInt = 0) ∧ (0 < a.toInt → o.toInt < a.toInt)
def rlA (S : SC) : Prop := ∀ j, j < 24 → sA S 8 j = -1 ∨ ∃ k, k < sN S ∧ sA S 8 j = nI k ∧ sA S 3 k = nI j
theorem m1_ti : (-1 : Int32).toInt = -1 := by decide
theorem mN_ti : (-1005 : Int32).toInt = -1005 := by decide
theorem nI_nm1 {k : Nat} (h : k < 2147483648) : ¬ nI k = -1 := fun e => by
  have := congrArg Int32.toInt e
  rw [nI_toInt (by omega), m1_ti] at this
  omega
theorem nI_nmN {k : Nat} (h : k < 2147483648) : ¬ nI k = -1005 := fun e => by
  have := congrArg Int32.toInt e
  rw [nI_toInt (by omega), mN_ti] at this
  omega
theorem nI_i {a b : Nat} (ha : a < 2147483648) (hb : b < 2147483648) (h : nI a = nI b) : a = b := (nI_eq ha hb).mp h
theorem e2_ti : (2 : Int32).toInt = (2 : Nat) := by decide
theorem e5_ti : (5 : Int32).toInt = (5 : Nat) := by decide
theorem e7_ti : (7 : Int32).toInt = (7 : Nat) := by decide
theorem in_lamp {x : Int32} {n : Nat} (hn : n ≤ 60) (h : 0 ≤ x ∧ x ≤ nI n - 1) : ∃ k, k < n ∧ x = nI k ∧ ixz x = k := by
  obtain ⟨k, a, b⟩ := in_lamps hn h
  exact ⟨k, a, b, by rw [b]; exact nI_clamp (by omega)⟩
theorem e1_ti : (1 : Int32).toInt = 1 := by decide
theorem e0_ti : (0 : Int32).toInt = 0 := by decide
theorem e10_ti : (10 : Int32).toInt = 10 := by decide
theorem mx1_id {x : Int32} (h : 1 ≤ x.toInt) : mx1 x = x := by
  unfold mx1
  by_cases c : 1 < x
  · rw [if_pos c]
  · rw [if_neg c]
    refine eq_ti.mpr ?_
    have c2 := mt lt_ti.mpr c
    rw [e1_ti] at c2
    rw [e1_ti]
    omega
theorem td_rng {a b : Int} (h : -3000 ≤ a ∧ a ≤ 2000) (hb : 1 ≤ b) : -3000 ≤ a.tdiv b ∧ a.tdiv b ≤ 2000 := by
  by_cases c : 0 ≤ a
  · rw [Int.tdiv_eq_ediv_of_nonneg c]
    have h1 := Int.ediv_nonneg c (by omega : (0 : Int) ≤ b)
    have h2 := Int.ediv_le_self b c
    omega
  · have e : a = -(-a) := by omega
    rw [e, Int.neg_tdiv, Int.tdiv_eq_ediv_of_nonneg (by omega)]
    have h1 := Int.ediv_nonneg (by omega : 0 ≤ -a) (by omega : (0 : Int) ≤ b)
    have h2 := Int.ediv_le_self b (by omega : 0 ≤ -a)
    omega
theorem e300_ti : (300 : Int32).toInt = 300 := by decide
theorem nn_ti {x : Int32} (h : 0 ≤ x.toInt) : ¬ x < 0 := fun q => by
  have := lt_ti.mp q
  rw [e0_ti] at this
  omega
theorem e9999_ti : (9999 : Int32).toInt = 9999 := by decide
theorem e90_ti : (90 : Int32).toInt = 90 := by decide
theorem e100_ti : (100 : Int32).toInt = 100 := by decide
theorem e99_ti : (99 : Int32).toInt = 99 := by decide
theorem e50_ti : (50 : Int32).toInt = 50 := by decide
theorem m50_ti : (-50 : Int32).toInt = -50 := by decide
theorem z_le {x : Int32} (h : 0 ≤ x) : 0 ≤ x.toInt := by have := le_ti.mp h; rw [e0_ti] at this; exact this
theorem e1000_ti : (1000 : Int32).toInt = 1000 := by decide
theorem sA_up8 (S : SC) (f g : Nat → Int32) {j : Nat} (h3 : j ≠ 3) (h8 : j ≠ 8) : sA (uA (uA S 8 f) 3 g) j = sA S j := by
  show va_up (va_up S.2.2.2.2 8 _) 3 _ j = _
  rw [va_up_ne _ _ h3, va_up_ne _ _ h8]
theorem rk_bd {D : Nat → Prop} [DecidablePred D] {K : Nat → Int} {n i : Nat} (hi : i < n) (di : D i) : rkK D K n i < cN D n := by
  have h1 : cN (fun o => (D o ∧ ltK K o i) ∨ o = i) n = rkK D K n i + 1 := cN_ins hi (fun q => by have := q.2; unfold ltK at this; omega) (fun k _ => Iff.rfl)
  have h2 : cN (fun o => (D o ∧ ltK K o i) ∨ o = i) n ≤ cN D n := cN_mono (fun k _ hk => by
    rcases hk with q | q
    · exact q.1
    · subst q; exact di)
  omega
theorem gt0_ti {x : Int32} : 0 < x ↔ 0 < x.toInt := by rw [lt_ti, e0_ti]
theorem t10_ti {c : Int32} (h : 1 ≤ c.toInt ∧ c.toInt ≤ 9999) : (10 * c).toInt = 10 * c.toInt := by
  rw [ml_ti (x := 10) (y := c) (by rw [e10_ti]; omega), e10_ti]
/-- how many hours are left -/
theorem hL_is {c w W : Int32} (hc : 1 ≤ c.toInt ∧ c.toInt ≤ 9999) (hw : 0 ≤ w.toInt ∧ w.toInt < 10 * c.toInt) (hW : 1 ≤ W.toInt ∧ W.toInt ≤ 2211) : ∃ L : Nat, hLf c w W = nI L ∧ 1 ≤ L ∧ L ≤ 110000 ∧ ((L : Int) - 1) * W.toInt < 10 * c.toInt - w.toInt ∧ 10 * c.toInt - w.toInt ≤ (L : Int) * W.toInt := by
  have e10 := t10_ti hc
  have s1 := sb_ti (x := 10 * c) (y := w) (by rw [e10]; omega)
  rw [e10] at s1
  have s2 := ad_ti (x := 10 * c - w) (y := W) (by rw [s1]; omega)
  rw [s1] at s2
  have s3 := sb_ti (x := 10 * c - w + W) (y := 1) (by rw [s2, e1_ti]; omega)
  rw [s2, e1_ti] at s3
  have s4 := dv_ti (x := 10 * c - w + W - 1) (y := W) (by rw [s3]; omega) (by omega)
  rw [s3] at s4
  have d1 := Int.emod_add_mul_ediv (10 * c.toInt - w.toInt + W.toInt - 1) W.toInt
  have d2 := Int.emod_nonneg (10 * c.toInt - w.toInt + W.toInt - 1) (show W.toInt ≠ 0 by omega)
  have d3 := Int.emod_lt_of_pos (10 * c.toInt - w.toInt + W.toInt - 1) (show 0 < W.toInt by omega)
  have d4 := Int.ediv_le_self W.toInt (show 0 ≤ 10 * c.toInt - w.toInt + W.toInt - 1 by omega)
  have d5 : 1 ≤ (10 * c.toInt - w.toInt + W.toInt - 1) / W.toInt := (Int.le_ediv_iff_mul_le (show 0 < W.toInt by omega)).mpr (by omega)
  generalize hX : (10 * c.toInt - w.toInt + W.toInt - 1) / W.toInt = X at *
  generalize (10 * c.toInt - w.toInt + W.toInt - 1) % W.toInt = Y at *
  have e : hLf c w W = nI X.toNat := by
    apply eq_ti.mpr
    unfold hLf
    rw [mx1_id hW.1, s4, nI_toInt (by omega)]
    omega
  have m1 : W.toInt * X = X * W.toInt := Int.mul_comm _ _
  have m2 : ((X.toNat : Int) - 1) * W.toInt = X * W.toInt - W.toInt := by
    rw [show (X.toNat : Int) = X by omega, Int.sub_mul, Int.one_mul]
  have m3 : (X.toNat : Int) * W.toInt = X * W.toInt := by rw [show (X.toNat : Int) = X by omega]
  refine ⟨X.toNat, e, by omega, by omega, ?_, ?_⟩
  · rw [m2]; omega
  · rw [m3]; omega
theorem nI00 : nI 0 = 0 := rfl
theorem ix' {k : Nat} (h : k < 2147483648) : ixz (nI k) = k := nI_clamp (by omega)
theorem mx1_nI {k : Nat} (h1 : 1 ≤ k) (h : k < 2147483648) : mx1 (nI k) = nI k := mx1_id (by rw [nI_toInt (by omega)]; omega)
theorem mn_nI {a b : Nat} (ha : a < 2147483648) (hb : b < 2147483648) : mn (nI a) (nI b) = nI (min a b) := by
  unfold mn
  by_cases c : b < a
  · rw [if_pos ((nI_ltI hb ha).mpr c), Nat.min_eq_right (by omega)]
  · rw [if_neg (fun q => c ((nI_ltI hb ha).mp q)), Nat.min_eq_left (by omega)]
/-- the three numbers of a lamp are as they were -/
def sL (S T : SC) (k : Nat) : Prop := sA T 5 k = sA S 5 k ∧ sA T 6 k = sA S 6 k ∧ sA T 7 k = sA S 7 k
/-- the three numbers of a lamp are behind h hours on the place j of the rack r -/
def bD (S T : SC) (r j k : Nat) (h hb : Int32) : Prop := (sA S 7 k ≠ -1 → sL S T k) ∧ (¬ sA S 7 k ≠ -1 →
  sA T 5 k = sA S 5 k + mn (hLf (sA S 4 k) (sA S 5 k) (wrP S r j)) h * wrP S r j ∧ sA T 6 k = sA S 6 k + mn (hLf (sA S 4 k) (sA S 5 k) (wrP S r j)) h ∧
  (hLf (sA S 4 k) (sA S 5 k) (wrP S r j) ≤ h → sA T 7 k = hb + hLf (sA S 4 k) (sA S 5 k) (wrP S r j)) ∧ (¬ hLf (sA S 4 k) (sA S 5 k) (wrP S r j) ≤ h → sA T 7 k = -1))
theorem sL.tr {S T U : SC} {k : Nat} (a : sL S T k) (b : sL T U k) : sL S U k := ⟨b.1.trans a.1, b.2.1.trans a.2.1, b.2.2.trans a.2.2⟩
theorem bD.tr {S T U : SC} {r j k : Nat} {h hb : Int32} (a : bD S T r j k h hb) (b : sL T U k) : bD S U r j k h hb := by
  obtain ⟨b1, b2, b3⟩ := b
  refine ⟨fun q => (a.1 q).tr ⟨b1, b2, b3⟩, fun q => ?_⟩
  obtain ⟨a1, a2, a3, a4⟩ := a.2 q
  exact ⟨b1.trans a1, b2.trans a2, fun q => b3.trans (a3 q), fun q => b3.trans (a4 q)⟩
def dN (S : SC) : Nat := cN (fun k => sA S 7 k ≠ -1) (sN S)
theorem wrP_c {S T : SC} (e : sameB S T) (r j : Nat) : wrP T r j = wrP S r j := by
  unfold wrP
  rw [e.2.1, e.2.2.1, e.2.2.2.2 9 (by decide) (by decide) (by decide)]
theorem bRn_is {S : SC} {r : Nat} {h hb : Int32} (hr : r < 3) (hn : sN S ≤ 60) (hA : rlA S) (hE : ∀ k q, q < 8 → sA S 8 (r * 8 + q) = nI k → k < sN S → ¬ sA S 7 k ≠ -1 → hLf (sA S 4 k) (sA S 5 k) (wrP S r (r * 8 + q)) ≤ h → ¬ hb + hLf (sA S 4 k) (sA S 5 k) (wrP S r (r * 8 + q)) = -1) : ∀ m, m ≤ 8 →
    (∀ k, k < sN S → ∀ q, q < 8 → sA S 8 (r * 8 + q) = nI k → (q < m → bD S (bRn S r h hb m).1 r (r * 8 + q) k h hb) ∧ (m ≤ q → sL S (bRn S r h hb m).1 k)) ∧
    (∀ k, k < sN S → (∀ q, q < 8 → ¬ sA S 8 (r * 8 + q) = nI k) → sL S (bRn S r h hb m).1 k) ∧
    ∃ c, (bRn S r h hb m).2 = nI c ∧ dN (bRn S r h hb m).1 = dN S + c
  | 0, _ => ⟨fun k hk q hq e => ⟨fun g => by omega, fun _ => ⟨rfl, rfl, rfl⟩⟩, fun k hk _ => ⟨rfl, rfl, rfl⟩, 0, rfl, rfl⟩
  | m + 1, hm => by
    obtain ⟨i1, i2, c, i3, i4⟩ := bRn_is hr hn hA hE m (by omega)
    have sb := bRn_sameB S r h hb m
    rw [bRn_s]
    have ex : bRn S r h hb m = ((bRn S r h hb m).1, (bRn S r h hb m).2) := rfl
    rw [ex]
    generalize (bRn S r h hb m).1 = T at *
    generalize (bRn S r h hb m).2 = a at *
    have e8 : sA T 8 = sA S 8 := sb.2.2.2.2 8 (by decide) (by decide) (by decide)
    have e4 : sA T 4 = sA S 4 := sb.2.2.2.2 4 (by decide) (by decide) (by decide)
    have eN : sN T = sN S := sb.2.2.2.1
    have w := wrP_c sb r (r * 8 + m)
    rcases hA (r * 8 + m) (by omega) with q0 | ⟨k0, hk0, q1, q2⟩
    · have e : bPl (T, a) r h hb m = (T, a) := bPl_same (Or.inl (by rw [e8]; exact q0))
      rw [e]
      refine ⟨fun k hk q hq ej => ⟨fun g => ?_, fun g => (i1 k hk q hq ej).2 (by omega)⟩, i2, c, i3, i4⟩
      by_cases em : q = m
      · subst em
        exact absurd (ej.symm.trans q0) (nI_nm1 (by omega))
      · exact (i1 k hk q hq ej).1 (by omega)
    · obtain ⟨t5, t6, t7⟩ := (i1 k0 hk0 m (by omega) q1).2 (Nat.le_refl _)
      have un : ∀ k, k < sN S → ∀ q, q < 8 → sA S 8 (r * 8 + q) = nI k → k = k0 → q = m := fun k hk q hq ej ek => by
        subst ek
        rcases hA (r * 8 + q) (by omega) with g | ⟨d, hd, g1, g2⟩
        · exact absurd (ej.symm.trans g) (nI_nm1 (by omega))
        · have : d = k := nI_i (by omega) (by omega) (g1.symm.trans ej)
          subst this
          have := nI_i (by omega) (by omega) (g2.symm.trans q2)
          omega
      by_cases d : sA S 7 k0 ≠ -1
      · have e : bPl (T, a) r h hb m = (T, a) := bPl_same (Or.inr (by
          rw [e8, q1, show ixz (nI k0) = k0 from nI_clamp (by omega), t7]
          exact d))
        rw [e]
        refine ⟨fun k hk q hq ej => ⟨fun g => ?_, fun g => (i1 k hk q hq ej).2 (by omega)⟩, i2, c, i3, i4⟩
        by_cases em : q = m
        · subst em
          have : k = k0 := nI_i (by omega) (by omega) (ej.symm.trans q1)
          subst this
          exact ⟨fun _ => ⟨t5, t6, t7⟩, fun g => absurd d g⟩
        · exact (i1 k hk q hq ej).1 (by omega)
      · have dT : ¬ sA T 7 k0 ≠ -1 := by rw [t7]; exact d
        have e8' : sA T 8 (r * 8 + m) = nI k0 := by rw [e8]; exact q1
        have el : hLf (sA T 4 k0) (sA T 5 k0) (wrP T r (r * 8 + m)) = hLf (sA S 4 k0) (sA S 5 k0) (wrP S r (r * 8 + m)) := by rw [e4, t5, w]
        have ne := hE k0 m (by omega) q1 hk0 d
        by_cases le : hLf (sA S 4 k0) (sA S 5 k0) (wrP S r (r * 8 + m)) ≤ h
        · have e := bPl_go (acc := a) (hb := hb) e8' (by omega) dT (nI_nm1 (by omega)) (by rw [el]; exact le)
          rw [e, el, w]
          have new : ∀ k, k ≠ k0 → sL T (uA (bnS T k0 (wrP S r (r * 8 + m)) (mn (hLf (sA S 4 k0) (sA S 5 k0) (wrP S r (r * 8 + m))) h)) 7 (upd (sA T 7) k0 (hb + hLf (sA S 4 k0) (sA S 5 k0) (wrP S r (r * 8 + m))))) k := fun k hk => ⟨upd_ne hk, upd_ne hk, upd_ne hk⟩
          refine ⟨fun k hk q hq ej => ⟨fun g => ?_, fun g => ((i1 k hk q hq ej).2 (by omega)).tr (new k (fun ek => by have := un k hk q hq ej ek; omega))⟩, fun k hk g => (i2 k hk g).tr (new k (fun ek => g m (by omega) (by rw [ek]; exact q1))), c + 1, ?_, ?_⟩
          · by_cases em : q = m
            · subst em
              have : k = k0 := nI_i (by omega) (by omega) (ej.symm.trans q1)
              subst this
              refine ⟨fun g => absurd g d, fun _ => ⟨?_, ?_, fun _ => updA rfl, fun g => absurd le g⟩⟩
              · exact (updA rfl).trans (by rw [t5])
              · exact (updA rfl).trans (by rw [t6])
            · exact ((i1 k hk q hq ej).1 (by omega)).tr (new k (fun ek => em (un k hk q hq ej ek)))
          · rw [i3, nI_1]
          · show cN (fun k => upd (sA T 7) k0 (hb + hLf (sA S 4 k0) (sA S 5 k0) (wrP S r (r * 8 + m))) k ≠ -1) (sN T) = _
            rw [show dN S + (c + 1) = (dN S + c) + 1 from rfl, ← i4]
            refine cN_ins (i := k0) (by rw [eN]; exact hk0) dT (fun k hk => ?_)
            by_cases ek : k = k0
            · subst ek
              rw [updA rfl]
              exact ⟨fun _ => Or.inr rfl, fun _ => ne le⟩
            · rw [upd_ne ek]
              exact ⟨fun q => Or.inl q, fun q => q.elim id (fun q => absurd q ek)⟩
        · have e := bPl_no (acc := a) (hb := hb) e8' (by omega) dT (nI_nm1 (by omega)) (by rw [el]; exact le)
          rw [e, el, w]
          have new : ∀ k, k ≠ k0 → sL T (bnS T k0 (wrP S r (r * 8 + m)) (mn (hLf (sA S 4 k0) (sA S 5 k0) (wrP S r (r * 8 + m))) h)) k := fun k hk => ⟨upd_ne hk, upd_ne hk, rfl⟩
          refine ⟨fun k hk q hq ej => ⟨fun g => ?_, fun g => ((i1 k hk q hq ej).2 (by omega)).tr (new k (fun ek => by have := un k hk q hq ej ek; omega))⟩, fun k hk g => (i2 k hk g).tr (new k (fun ek => g m (by omega) (by rw [ek]; exact q1))), c, i3, i4⟩
          by_cases em : q = m
          · subst em
            have : k = k0 := nI_i (by omega) (by omega) (ej.symm.trans q1)
            subst this
            refine ⟨fun g => absurd g d, fun _ => ⟨?_, ?_, fun g => absurd g le, fun _ => t7.trans (Classical.not_not.mp d)⟩⟩
            · exact (updA rfl).trans (by rw [t5])
            · exact (updA rfl).trans (by rw [t6])
          · exact ((i1 k hk q hq ej).1 (by omega)).tr (new k (fun ek => em (un k hk q hq ej ek)))

/-! pure: an hour's wear, volts within their bounds -/
theorem wr1_rng {wv dv v : Int32} (h0 : 100 ≤ wv.toInt ∧ wv.toInt ≤ 300) (h1 : 1 ≤ dv.toInt ∧ dv.toInt ≤ 100) (hv : 0 ≤ v.toInt ∧ v.toInt ≤ 300) : 1 ≤ (wr1 wv dv v).toInt ∧ (wr1 wv dv v).toInt ≤ 2010 := by
  have a1 := sb_ti (x := v) (y := wv) (by omega)
  have a2 := ml_ti (x := 10) (y := v - wv) (by rw [a1, e10_ti]; omega)
  have a3 : (10 * (v - wv) / dv).toInt = (10 * (v - wv)).toInt.tdiv dv.toInt := Int32.toInt_div_of_ne_right _ _ (fun e => by
    have := congrArg Int32.toInt e
    rw [m1_ti] at this
    omega)
  have a4 := td_rng (a := (10 * (v - wv)).toInt) (b := dv.toInt) (by rw [a2, a1, e10_ti]; omega) h1.1
  have a5 := ad_ti (x := 10) (y := 10 * (v - wv) / dv) (by rw [a3, e10_ti]; omega)
  rw [a3, e10_ti] at a5
  unfold wr1
  rw [mx1_id h1.1]
  generalize 10 + 10 * (v - wv) / dv = q at a5
  unfold mx1
  by_cases c : 1 < q
  · rw [if_pos c]
    have c2 := lt_ti.mp c
    rw [e1_ti] at c2
    omega
  · rw [if_neg c, e1_ti]
    omega
theorem wrH_rng {wv dv v : Int32} (h : Int32) (h0 : 100 ≤ wv.toInt ∧ wv.toInt ≤ 300) (h1 : 1 ≤ dv.toInt ∧ dv.toInt ≤ 100) (hv : 0 ≤ v.toInt ∧ v.toInt ≤ 300) : 1 ≤ (wrH wv dv v h).toInt ∧ (wrH wv dv v h).toInt ≤ 2211 := by
  have a := wr1_rng h0 h1 hv
  unfold wrH
  generalize wr1 wv dv v = W at a
  by_cases c : h = 0
  · rw [if_pos c]; omega
  · rw [if_neg c]
    have b1 := dv_ti (x := W) (y := 10) (by omega) (by rw [e10_ti]; omega)
    rw [e10_ti] at b1
    have b2 := ad_ti (x := W) (y := W / 10) (by rw [b1]; omega)
    rw [b2, b1]
    omega
theorem mn_ti (x y : Int32) : (mn x y).toInt = min x.toInt y.toInt := by
  unfold mn
  by_cases c : y < x
  · rw [if_pos c]
    have := lt_ti.mp c
    omega
  · rw [if_neg c]
    have := mt lt_ti.mpr c
    omega
theorem cl3_ti (x : Int32) : (cl3 x).toInt = max 0 (min x.toInt 300) := by
  unfold cl3
  by_cases a : x < 300
  · rw [if_pos a]
    have a1 := lt_ti.mp a
    rw [e300_ti] at a1
    by_cases b : 0 < x
    · rw [if_pos b]
      have := gt0_ti.mp b
      omega
    · rw [if_neg b, e0_ti]
      have := mt gt0_ti.mpr b
      omega
  · rw [if_neg a, if_pos (by decide)]
    have a1 := mt lt_ti.mpr a
    rw [e300_ti] at *
    omega
theorem cl3_rng (x : Int32) : 0 ≤ (cl3 x).toInt ∧ (cl3 x).toInt ≤ 300 := by
  have := cl3_ti x
  omega
