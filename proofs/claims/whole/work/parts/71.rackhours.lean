/-! pure: a rack's hours of the object are the reference's -/
def frS (S0 S : SC) : Prop := sHr S = sHr S0 ∧ sWv S = sWv S0 ∧ sDv S = sDv S0 ∧ sN S = sN S0 ∧ ∀ j, j ≠ 5 → j ≠ 6 → j ≠ 7 → j ≠ 9 → j ≠ 12 → sA S j = sA S0 j
theorem frS.rf (S : SC) : frS S S := ⟨rfl, rfl, rfl, rfl, fun _ _ _ _ _ _ => rfl⟩
theorem frS.tr {S T U : SC} (a : frS S T) (b : frS T U) : frS S U := ⟨b.1.trans a.1, b.2.1.trans a.2.1, b.2.2.1.trans a.2.2.1, b.2.2.2.1.trans a.2.2.2.1, fun j h5 h6 h7 h9 h12 => (b.2.2.2.2 j h5 h6 h7 h9 h12).trans (a.2.2.2.2 j h5 h6 h7 h9 h12)⟩
def eR (e e' : Int32) : Prop := (e = -1 ∧ e' = -1005) ∨ (e = e' ∧ 1 ≤ e'.toInt)
def lQ (S : SC) (y : Nat → Int32) (k : Nat) : Prop := sA S 5 k = zl y k 4 ∧ sA S 6 k = zl y k 5 ∧ eR (sA S 7 k) (zl y k 6)
theorem eR.dead {e e' : Int32} (h : eR e e') : e ≠ -1 ↔ e' ≠ -1005 := by
  rcases h with ⟨h1, h2⟩ | ⟨h1, h2⟩
  · rw [h1, h2]; simp
  · rw [h1]
    have e3 : ∀ x : Int32, x.toInt < 0 → ¬ e' = x := fun x hx e => by rw [e] at h2; omega
    exact ⟨fun _ => e3 _ (by rw [mN_ti]; omega), fun _ => e3 _ (by rw [m1_ti]; omega)⟩
theorem wrP_is {B : Int} {S0 S : SC} {z : Nat → Int32} {r q k : Nat} {v : Int32} (h0 : Rl B S0 z) (hf : frS S0 S) (hr : r < 3) (hq : q < 8) (e2 : zl z k 2 = nI q) (ev : sA S 9 r = v) : wrP S r (r * 8 + q) = wA z v (b2i (3 ≤ zl z k 2 ∧ zl z k 2 ≤ 4)) := by
  unfold wrP
  rw [hf.2.1, hf.2.2.1, ev, h0.wr, e2]
  have e : nI (r * 8 + q) - nI (r * 8 + q) / 8 * 8 = nI q := (pk_rem (a := r * 8 + q) (d := 8) (by omega) (by omega) (by omega)).trans (nI_eq' (by omega))
  rw [e]
  rw [b2i_c (show (nI (r * 8 + q) ≠ -1 ∧ (3 ≤ nI q ∧ nI q ≤ 4)) ↔ (3 ≤ nI q ∧ nI q ≤ 4) from ⟨fun g => g.2, fun g => ⟨nI_nm1 (by omega), g⟩⟩)]
/-- what stands of a lamp at the hour p -/
theorem lamp_at {B : Int} {S0 S : SC} {z : Nat → Int32} {r q k p : Nat} {v : Int32} (h0 : Rl B S0 z) (hB : B ≤ 110000) (hp : p ≤ 10000) (hf : frS S0 S) (hr : r < 3) (hq : q < 8) (hk : k < sN S0) (e2 : zl z k 2 = nI q) (ev : sA S 9 r = v) (hv : 0 ≤ v.toInt ∧ v.toInt ≤ 300) (lq : lQ S (ysR z (sN S0) p) k) (al : ¬ sA S 7 k ≠ -1) : ∃ L : Nat, hLf (sA S 4 k) (sA S 5 k) (wrP S r (r * 8 + q)) = nI L ∧ (1 ≤ L ∧ L ≤ 110000) ∧ ((L : Int) - 1) * (wrP S r (r * 8 + q)).toInt < 10 * (zl z k 3).toInt - (zl (ysR z (sN S0) p) k 4).toInt ∧ 10 * (zl z k 3).toInt - (zl (ysR z (sN S0) p) k 4).toInt ≤ (L : Int) * (wrP S r (r * 8 + q)).toInt ∧ (1 ≤ (wrP S r (r * 8 + q)).toInt ∧ (wrP S r (r * 8 + q)).toInt ≤ 2211) ∧ zl (ysR z (sN S0) p) k 6 = -1005 := by
  have hz := ys_zR h0.zR p (by omega)
  have hc := (h0.zR.2.2.2.2.2 k hk).1
  have hw := hz.2.2.2.2.2 k hk
  have f3 : zl (ysR z (sN S0) p) k 3 = zl z k 3 := ys_f h0.oZ _ hk (by omega)
  rw [f3] at hw
  have e4 : sA S 4 k = zl z k 3 := by rw [hf.2.2.2.2 4 (by omega) (by omega) (by omega) (by omega) (by omega)]; exact (h0.rD hk).2.1
  have al2 : zl (ysR z (sN S0) p) k 6 = -1005 := Classical.not_not.mp (fun g => al (lq.2.2.dead.mpr g))
  have w9 : (zl (ysR z (sN S0) p) k 4).toInt < 10 * (zl z k 3).toInt := by
    rcases hw.2.2 with g | g
    · exact g.2
    · rw [al2, mN_ti] at g; omega
  have eW := wrP_is h0 hf hr hq e2 ev
  have rW := h0.wAr (v := v) (f := b2i (3 ≤ zl z k 2 ∧ zl z k 2 ≤ 4)) hv
  rw [← eW] at rW
  obtain ⟨L, l1, l2, l3, l4, l5⟩ := hL_is (c := zl z k 3) (w := zl (ysR z (sN S0) p) k 4) (W := wrP S r (r * 8 + q)) hc ⟨hw.2.1.1, w9⟩ rW
  exact ⟨L, by rw [e4, lq.1]; exact l1, ⟨l2, l3⟩, l4, l5, rW, al2⟩
theorem lamp_step {B : Int} {S0 S T : SC} {z : Nat → Int32} {r q k p t : Nat} {v : Int32} (h0 : Rl B S0 z) (hB : B ≤ 110000) (hp : p + t ≤ 10000) (hf : frS S0 S) (hr : r < 3) (hq : q < 8) (hk : k < sN S0) (e1 : zl z k 1 = nI r) (e2 : zl z k 2 = nI q) (ev : sA S 9 r = v) (hv : 0 ≤ v.toInt ∧ v.toInt ≤ 300) (hV : ∀ i, i < t → zr (ysR z (sN S0) (p + i)) r 0 = v) (lq : lQ S (ysR z (sN S0) p) k) (hT1 : v = 0 → sL S T k) (hT2 : ¬ v = 0 → bD S T r (r * 8 + q) k (nI t) (z 2 + nI p)) : lQ T (ysR z (sN S0) (p + t)) k := by
  have off : (¬ 0 < v ∨ ¬ zl (ysR z (sN S0) p) k 6 = -1005) → sL S T k → lQ T (ysR z (sN S0) (p + t)) k := fun c s => by
    obtain ⟨a, b, d⟩ := run_off h0.oZ hk hr e1 hV c t (Nat.le_refl _)
    unfold lQ
    rw [a, b, d, s.1, s.2.1, s.2.2]
    exact lq
  by_cases v0 : v = 0
  · exact off (Or.inl (by rw [v0]; decide)) (hT1 v0)
  · have vp : 0 < v := by
      rw [gt0_ti]
      have : v.toInt ≠ (0 : Int32).toInt := fun g => v0 (eq_ti.mpr g)
      rw [e0_ti] at this
      omega
    have bd := hT2 v0
    by_cases d : sA S 7 k ≠ -1
    · exact off (Or.inr (lq.2.2.dead.mp d)) (bd.1 d)
    · obtain ⟨L, l1, l2, l3, l4, l5, al⟩ := lamp_at h0 hB (by omega) hf hr hq hk e2 ev hv lq d
      obtain ⟨b5, b6, b7, b8⟩ := bd.2 d
      have eW := wrP_is h0 hf hr hq e2 ev
      have run := run_on h0.zR (p := p) (t := t) (by omega) hk hr e1 hV vp al eW.symm l5 l2 l3 l4 t (Nat.le_refl _)
      rw [l1, mn_nI (by omega) (by omega), lq.1] at b5
      rw [l1, mn_nI (by omega) (by omega), lq.2.1] at b6
      rw [l1] at b7 b8
      by_cases c : L ≤ t
      · obtain ⟨r4, r5, r6⟩ := run.2 c
        rw [Nat.min_eq_left c] at b5 b6
        have b7' := b7 (nI_le c (by omega))
        refine ⟨b5.trans r4.symm, b6.trans r5.symm, Or.inr ⟨?_, ?_⟩⟩
        · rw [b7', r6, Int32.add_assoc, nI_add]
        · rw [r6]
          have z2 := h0.1.2.2.2.2.1
          rw [ad_ti (by rw [nI_toInt (by omega)]; omega), nI_toInt (by omega)]
          omega
      · obtain ⟨r4, r5, r6⟩ := run.1 (by omega)
        rw [Nat.min_eq_right (by omega)] at b5 b6
        exact ⟨b5.trans r4.symm, b6.trans r5.symm, Or.inl ⟨b8 (nI_ge (by omega) (by omega)), r6⟩⟩
