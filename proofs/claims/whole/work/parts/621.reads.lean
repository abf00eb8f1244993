theorem lasts_eq {B : Int} {S : SC} {z : Nat → Int32} (h : Rl B S z) (x v : Int32) : lstS S x v = lsR z x v := by
  have hn := h.n60
  unfold lstS lsR
  rw [h.z3]
  by_cases hx : 0 ≤ x ∧ x ≤ nI (sN S) - 1
  · rw [if_pos hx, if_pos hx]
    by_cases hv : 1 ≤ v ∧ v ≤ 300
    · rw [if_pos hv, if_pos hv]
      obtain ⟨k, hk, e, ek⟩ := in_lamp hn hx
      have hD := h.rD hk
      rw [ek]
      by_cases d : sA S 7 k ≠ -1
      · rw [if_pos d, if_pos (hD.dead.mp d)]
      · rw [if_neg d, if_neg (fun q => d (hD.dead.mpr q)), b2i_c (hot_iff (h.rP hk)), h.wr]
        have h1 := le_ti.mp hv.1
        have h2 := le_ti.mp hv.2
        rw [e1_ti] at h1
        rw [e300_ti] at h2
        have := (h.wAr (v := v) (f := b2i (3 ≤ zl z k 2 ∧ zl z k 2 ≤ 4)) (by omega)).1
        unfold hLf
        rw [mx1_id this, hD.2.1, hD.2.2.1]
    · rw [if_neg hv, if_neg hv]
  · rw [if_neg hx, if_neg hx]
theorem wd_eq {B : Int} {S : SC} {z : Nat → Int32} (h : Rl B S z) {k : Nat} (hk : k < sN S) : wdS S k = (if zl z k 6 ≠ -1005 then 1 else if zl z k 1 = -1005 then 2 else if brnB z k = true then 0 else 3) := by
  have hn := h.n60
  have hD := h.rD hk
  unfold wdS
  by_cases d : sA S 7 k ≠ -1
  · rw [if_pos d, if_pos (hD.dead.mp d)]
  · have d2 : ¬ zl z k 6 ≠ -1005 := fun q => d (hD.dead.mpr q)
    rw [if_neg d, if_neg d2]
    rcases h.rP hk with ⟨a, b, c⟩ | ⟨r, p, hr, hp, a, b, c, -⟩
    · rw [if_pos a, if_pos b]
    · rw [a, if_neg (nI_nm1 (by omega)), b, if_neg (nI_nmN (by omega))]
      have e8 : ixz (nI (r * 8 + p)) / 8 = r := by
        show (nI (r * 8 + p)).toNatClampNeg / 8 = r
        rw [nI_clamp (by omega)]
        omega
      have hR := h.rR hr
      rw [e8, hR.1]
      have hv := hR.2.2.2.2.1
      have er : ixz (nI r) = r := nI_clamp (by omega)
      by_cases c0 : zr z r 0 = 0
      · rw [if_pos c0, if_neg]
        intro q
        have := ((brn_iff _ _).mp q).2.2
        rw [b, er, c0] at this
        exact absurd this (by decide)
      · rw [if_neg c0, if_pos]
        refine (brn_iff _ _).mpr ⟨Classical.not_not.mp d2, by rw [b]; exact nI_nmN (by omega), ?_⟩
        rw [b, er]
        refine lt_ti.mpr ?_
        have : (zr z r 0).toInt ≠ (0 : Int32).toInt := fun q => c0 (eq_ti.mpr q)
        rw [e0_ti] at *
        omega
theorem reason_eq {B : Int} {S : SC} {z : Nat → Int32} (h : Rl B S z) (x : Int32) : rsnS S x = reR z x := by
  have hn := h.n60
  unfold rsnS reR
  rw [h.z3]
  by_cases hx : 0 ≤ x ∧ x ≤ nI (sN S) - 1
  · rw [if_pos hx, if_pos hx]
    obtain ⟨k, hk, e, ek⟩ := in_lamp hn hx
    rw [ek]
    exact wd_eq h hk
  · rw [if_neg hx, if_neg hx]
