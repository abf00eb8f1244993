/-! pure: a rack's hours, by stretches and one by one -/
theorem cl_eq (x : Int32) : cl3 x = clR x := by
  unfold cl3 clR
  by_cases a : x < 300
  · rw [if_pos a]
    have a1 := lt_ti.mp a
    rw [e300_ti] at a1
    have a2 : x ≤ 300 := by rw [le_ti, e300_ti]; omega
    by_cases b : 0 < x
    · rw [if_pos b, if_pos (Int32.le_of_lt b), if_pos a2]
    · rw [if_neg b]
      by_cases c : 0 ≤ x
      · rw [if_pos c, if_pos a2]
        have b1 := mt gt0_ti.mpr b
        have c1 := z_le c
        refine (eq_ti.mpr ?_).symm
        rw [e0_ti]
        omega
      · rw [if_neg c]
  · rw [if_neg a, if_pos (by decide)]
    have a1 := mt lt_ti.mpr a
    rw [e300_ti] at a1
    rw [if_pos (by rw [le_ti, e0_ti]; omega)]
    by_cases b : x ≤ 300
    · rw [if_pos b]
      have b1 := le_ti.mp b
      rw [e300_ti] at b1
      refine (eq_ti.mpr ?_).symm
      rw [e300_ti]
      omega
    · rw [if_neg b]
theorem nI00 : nI 0 = 0 := rfl
theorem md_w {x A : Nat} (h : x % A + 1 = A) : (x + 1) % A = 0 := by
  have := Nat.div_add_mod x A
  rw [show x + 1 = A * (x / A) + A by omega, Nat.add_mod_right, Nat.mul_mod_right]
theorem md_s {x A : Nat} (h : x % A + 1 < A) : (x + 1) % A = x % A + 1 := by
  have := Nat.div_add_mod x A
  rw [show x + 1 = A * (x / A) + (x % A + 1) by omega, Nat.mul_add_mod, Nat.mod_eq_of_lt h]
section RUN
variable {z : Nat → Int32} {n r p A o : Nat} {v t : Int32}
theorem rr_0 (h : okZ z n) (hr : r < 3) (e1 : zr z r 1 = nI 0) : ∀ i, zr (ysR z n (p + i)) r 0 = zr (ysR z n p) r 0 ∧ zr (ysR z n (p + i)) r 3 = zr (ysR z n p) r 3
  | 0 => ⟨rfl, rfl⟩
  | i + 1 => by
    obtain ⟨i1, i2⟩ := rr_0 h hr e1 i
    have q := (ys_r (m := p + i) h hr).2.2.1 (by rw [((ys_is h (p + i)).2.2 r hr).1, e1]; decide)
    exact ⟨q.1.trans i1, q.2.trans i2⟩
theorem rr_s (h : okZ z n) (hr : r < 3) (e1 : zr z r 1 = nI A) (hA : 0 < A ∧ A ≤ 99) {m x : Nat} (hx : x < A) (e3 : zr (ysR z n m) r 3 = nI x) : (x + 1 = A → zr (ysR z n (m + 1)) r 0 = clR (zr (ysR z n m) r 0 + zr z r 2) ∧ zr (ysR z n (m + 1)) r 3 = 0) ∧ (x + 1 < A → zr (ysR z n (m + 1)) r 0 = zr (ysR z n m) r 0 ∧ zr (ysR z n (m + 1)) r 3 = nI (x + 1)) := by
  have c := (ys_is h m).2.2 r hr
  have q := (ys_r (m := m) h hr).2.2.2 (by rw [c.1, e1]; exact nI_lt (a := 0) hA.1 (by omega))
  rw [c.1, c.2, e1, e3, nI_1] at q
  exact ⟨fun g => q.1 (nI_eq' g), fun g => q.2 (fun g2 => by have := nI_i (by omega) (by omega) g2; omega)⟩
theorem rr_a (h : okZ z n) (hr : r < 3) (e1 : zr z r 1 = nI A) (hA : 0 < A ∧ A ≤ 99) (e3 : zr (ysR z n p) r 3 = nI o) : ∀ i, o + i < A → zr (ysR z n (p + i)) r 0 = zr (ysR z n p) r 0 ∧ zr (ysR z n (p + i)) r 3 = nI (o + i)
  | 0, _ => ⟨rfl, e3⟩
  | i + 1, hi => by
    obtain ⟨i1, i2⟩ := rr_a h hr e1 hA e3 i (by omega)
    have q := (rr_s h hr e1 hA (by omega) i2).2 (by omega)
    exact ⟨q.1.trans i1, q.2⟩
theorem rr_w (h : okZ z n) (hr : r < 3) (e1 : zr z r 1 = nI A) (hA : 0 < A ∧ A ≤ 99) (e3 : zr (ysR z n p) r 3 = nI o) (ho : o < A) (ec : clR (zr (ysR z n p) r 0 + zr z r 2) = zr (ysR z n p) r 0) : ∀ i, zr (ysR z n (p + i)) r 0 = zr (ysR z n p) r 0 ∧ zr (ysR z n (p + i)) r 3 = nI ((o + i) % A)
  | 0 => ⟨rfl, e3.trans (nI_eq' (Nat.mod_eq_of_lt ho).symm)⟩
  | i + 1 => by
    obtain ⟨i1, i2⟩ := rr_w h hr e1 hA e3 ho ec i
    have hm := Nat.mod_lt (o + i) hA.1
    have q := rr_s h hr e1 hA hm i2
    by_cases c : (o + i) % A + 1 = A
    · obtain ⟨q1, q2⟩ := q.1 c
      rw [i1, ec] at q1
      refine ⟨q1, q2.trans ?_⟩
      rw [show o + (i + 1) = o + i + 1 from rfl, md_w c]
      rfl
    · obtain ⟨q1, q2⟩ := q.2 (by omega)
      refine ⟨q1.trans i1, q2.trans (nI_eq' ?_)⟩
      rw [show o + (i + 1) = o + i + 1 from rfl, md_s (by omega)]
end RUN
def rN (S : SC) (y : Nat → Int32) (r : Nat) : Prop := sA S 9 r = zr y r 0 ∧ sA S 12 r = zr y r 3
theorem ix' {k : Nat} (h : k < 2147483648) : ixz (nI k) = k := nI_clamp (by omega)
theorem mx1_nI {k : Nat} (h1 : 1 ≤ k) (h : k < 2147483648) : mx1 (nI k) = nI k := mx1_id (by rw [nI_toInt (by omega)]; omega)
theorem rack_step {z : Nat → Int32} {n r p m : Nat} {S : SC} (h : okZ z n) (hr : r < 3) (hR : rN S (ysR z n p) r) (e10 : sA S 10 r = zr z r 1) (e11 : sA S 11 r = zr z r 2) (ok : okR (zr (ysR z n p) r 0) (zr z r 1) (zr z r 2) (zr (ysR z n p) r 3)) (hm : 1 ≤ m ∧ m ≤ 10000) : (∀ i, i < strN S r m → zr (ysR z n (p + i)) r 0 = zr (ysR z n p) r 0) ∧ rN (cntS S r (nI (strN S r m))) (ysR z n (p + strN S r m)) r := by
  obtain ⟨o1, o2, o3, o4, o5, o6⟩ := ok
  obtain ⟨A, eA, tA, -⟩ := nat_of o2.1
  obtain ⟨o, eo, to, -⟩ := nat_of o4
  obtain ⟨r1, r2⟩ := hR
  have g9 : sA (cntS S r (nI (strN S r m))) 9 r = chV (sA S 10 r) (sA S 12 r) (nI (strN S r m)) r (sA S 9) (sA S 11) r := rfl
  have g12 : sA (cntS S r (nI (strN S r m))) 12 r = chO (sA S 10 r) (nI (strN S r m)) r (sA S 12) r := rfl
  unfold rN
  rw [g9, g12]
  by_cases c0 : A = 0
  · subst c0
    have es : strN S r m = m := by
      unfold strN smH
      rw [e10, eA, if_pos (Or.inl nI00), mx1_nI hm.1 (by omega)]
      exact nI_clamp (by omega)
    rw [es]
    have q := rr_0 (p := p) h hr eA
    refine ⟨fun i _ => (q i).1, ?_, ?_⟩
    · unfold chV
      rw [e10, eA, if_pos nI00, (q m).1]; exact r1
    · unfold chO
      rw [e10, eA, if_pos nI00, (q m).2]; exact r2
  · have hA : 0 < A ∧ A ≤ 99 := by omega
    have ho : o < A := by have := o6 (by omega); omega
    have nz : ¬ nI A = 0 := nI_ne0 hA.1 (by omega)
    have ps : ∀ t, t ≤ 10000 → chO (sA S 10 r) (nI t) r (sA S 12) r = nI ((o + t) % A) := fun t ht => by
      unfold chO
      rw [e10, eA, if_neg nz, updA rfl, r2, eo, nI_add]
      exact pk_rem (by omega) hA.1 (by omega)
    by_cases cc : cl3 (zr (ysR z n p) r 0 + zr z r 2) = zr (ysR z n p) r 0
    · have es : strN S r m = m := by
        unfold strN smH
        rw [e10, e11, r1, if_pos (Or.inr cc), mx1_nI hm.1 (by omega)]
        exact nI_clamp (by omega)
      rw [es, ps m hm.2]
      have cc2 : clR (zr (ysR z n p) r 0 + zr z r 2) = zr (ysR z n p) r 0 := by rw [← cl_eq]; exact cc
      have q := rr_w h hr eA hA eo ho cc2
      refine ⟨fun i _ => (q i).1, ?_, (q m).2.symm⟩
      rw [(q m).1]
      unfold chV
      rw [e10, eA, if_neg nz]
      split
      · exact r1
      · rw [updA rfl, e11, r1]
        exact cc
    · have es : strN S r m = min m (A - o) := by
        unfold strN smH hTS
        rw [e10, e11, r1, r2, eA, eo, if_neg (fun g => g.elim nz cc), if_neg nz, pk_sub (by omega), mn_nI (by omega) (by omega), mx1_nI (by omega) (by omega)]
        exact nI_clamp (by omega)
      rw [es, ps _ (by omega)]
      have q := rr_a h hr eA hA eo
      refine ⟨fun i hi => (q i (by omega)).1, ?_⟩
      unfold chV
      rw [e10, eA, if_neg nz, r2, eo, nI_add]
      by_cases d : o + min m (A - o) < A
      · obtain ⟨q1, q2⟩ := q _ d
        rw [if_pos ((nI_ltI (by omega) (by omega)).mpr d), q1, q2]
        exact ⟨r1, nI_eq' (Nat.mod_eq_of_lt d)⟩
      · have ed : o + min m (A - o) = A := by omega
        rw [if_neg (fun g => d ((nI_ltI (by omega) (by omega)).mp g)), updA rfl, e11, r1, ed]
        obtain ⟨k, hk⟩ : ∃ k, min m (A - o) = k + 1 := ⟨min m (A - o) - 1, by omega⟩
        rw [hk]
        obtain ⟨q1, q2⟩ := q k (by omega)
        obtain ⟨w1, w2⟩ := (rr_s h hr eA hA (by omega) q2).1 (by omega)
        rw [q1] at w1
        refine ⟨?_, ?_⟩
        · rw [cl_eq]; exact w1.symm
        · rw [Nat.mod_self]; exact w2.symm
