/-! pure: what is told of a lamp, a rack, a place -/
theorem lp_in {n k : Nat} (hn : n ≤ 60) (hk : k < n) : 0 ≤ nI k ∧ nI k ≤ nI n - 1 := by
  rw [show (1 : Int32) = nI 1 from rfl, pk_sub (show 1 ≤ n by omega)]
  exact ⟨nI_pos' (by omega), nI_le (by omega) (by omega)⟩
section TL
variable {H : Int} {S : SC} {k : Nat}
theorem tl_0 (hn : sN S ≤ 60) (hk : k < sN S) : tlS S (nI k) 0 = sA S 2 k := by
  unfold tlS
  rw [if_pos (lp_in hn hk), ixn (by omega)]
  rfl
theorem tl_1 (hn : sN S ≤ 60) (hk : k < sN S) : tlS S (nI k) 1 = if sA S 3 k = -1 then -1005 else sA S 3 k / 8 := by
  unfold tlS
  rw [if_pos (lp_in hn hk), ixn (by omega)]
  rfl
theorem tl_2 (hn : sN S ≤ 60) (hk : k < sN S) : tlS S (nI k) 2 = if sA S 3 k = -1 then -1005 else sA S 3 k - sA S 3 k / 8 * 8 := by
  unfold tlS
  rw [if_pos (lp_in hn hk), ixn (by omega)]
  rfl
theorem tl_3 (hn : sN S ≤ 60) (hk : k < sN S) : tlS S (nI k) 3 = sA S 4 k := by
  unfold tlS
  rw [if_pos (lp_in hn hk), ixn (by omega)]
  rfl
theorem tl_4 (hn : sN S ≤ 60) (hk : k < sN S) : tlS S (nI k) 4 = sA S 5 k := by
  unfold tlS
  rw [if_pos (lp_in hn hk), ixn (by omega)]
  rfl
theorem tl_5 (hn : sN S ≤ 60) (hk : k < sN S) : tlS S (nI k) 5 = sA S 6 k := by
  unfold tlS
  rw [if_pos (lp_in hn hk), ixn (by omega)]
  rfl
theorem tl_6 (hn : sN S ≤ 60) (hk : k < sN S) : tlS S (nI k) 6 = sA S 5 k / 10 := by
  unfold tlS
  rw [if_pos (lp_in hn hk), ixn (by omega)]
  rfl
theorem tl_7 (hn : sN S ≤ 60) (hk : k < sN S) : tlS S (nI k) 7 = b2i (sA S 7 k ≠ -1) := by
  unfold tlS
  rw [if_pos (lp_in hn hk), ixn (by omega)]
  rfl
theorem tl_8 (hn : sN S ≤ 60) (hk : k < sN S) : tlS S (nI k) 8 = if sA S 7 k ≠ -1 then sA S 7 k else -1005 := by
  unfold tlS
  rw [if_pos (lp_in hn hk), ixn (by omega)]
  rfl
theorem tl_9 (hn : sN S ≤ 60) (hk : k < sN S) : tlS S (nI k) 9 = b2i (shr (nI k) = 9) := by
  unfold tlS
  rw [if_pos (lp_in hn hk)]
  rfl
theorem rs_k (hn : sN S ≤ 60) (hk : k < sN S) : rsnS S (nI k) = wdS S k := by
  unfold rsnS
  rw [if_pos (lp_in hn hk), ixn (by omega)]
theorem at_rp {r p : Nat} (hr : r < 3) (hp : p < 8) : atS S (nI r) (nI p) = if sA S 8 (r * 8 + p) = -1 then -1005 else sA S 8 (r * 8 + p) := by
  unfold atS
  rw [if_pos ⟨i2 hr, i7 hp⟩, ixn (by omega), ixn (by omega)]
theorem tr_w {r : Nat} (hr : r < 3) (w : Int32) : trS S (nI r) w = if w = 0 then sA S 9 r else if w = 1 then inRk S r 1 else if w = 2 then inRk S r 0
    else if w = 3 then (if sA S 9 r = 0 then 0 else wrH (sWv S) (sDv S) (sA S 9 r) 0)
    else if w = 4 then (if sA S 9 r = 0 then 0 else wrH (sWv S) (sDv S) (sA S 9 r) 1)
    else if w = 5 then sA S 10 r else if w = 6 then sA S 11 r else if w = 7 then hTS (sA S 10 r) (sA S 12 r) else -1002 := by
  unfold trS
  rw [if_pos (i2 hr), ixn (by omega)]
theorem tb_w {b : Nat} (hb : b < 6) (w : Int32) : tbS S (nI b) w = if w = 0 then sA S 0 b else if w = 1 then sA S 1 b else if w = 2 then allN S (nI b) else if w = 3 then deadN S (nI b)
    else if w = 4 then erlN S (nI b) (sA S 0 b / 2) else if w = 5 then midN S (nI b)
    else if w = 6 then b2i (deadN S (nI b) < 2 * erlN S (nI b) (sA S 0 b / 2)) else -1002 := by
  unfold tbS
  rw [if_pos (i5 hb), ixn (by omega)]
/-- where a lamp is, as it is told -/
theorem lamp_pl (h : Iv H S) (hk : k < sN S) : (sA S 3 k = -1 ∧ tlS S (nI k) 1 = -1005 ∧ tlS S (nI k) 2 = -1005) ∨ ∃ r p, r < 3 ∧ p < 8 ∧ sA S 3 k = nI (r * 8 + p) ∧ sA S 8 (r * 8 + p) = nI k ∧ tlS S (nI k) 1 = nI r ∧ tlS S (nI k) 2 = nI p := by
  have hn := h.n60
  rw [tl_1 hn hk, tl_2 hn hk]
  rcases h.1.pl hk with e | ⟨j, hj, e1, e2⟩
  · rw [if_pos e, if_pos e]
    exact Or.inl ⟨e, rfl, rfl⟩
  · refine Or.inr ⟨j / 8, j % 8, by omega, by omega, ?_, ?_, ?_, ?_⟩
    · rw [show j / 8 * 8 + j % 8 = j by omega]; exact e1
    · rw [show j / 8 * 8 + j % 8 = j by omega]; exact e2
    · rw [e1, if_neg (nI_nm1 (by omega))]
      exact pk_div (a := j) (d := 8) (by omega) (by omega) (by omega)
    · rw [e1, if_neg (nI_nm1 (by omega))]
      exact pk_rem (a := j) (d := 8) (by omega) (by omega) (by omega)
theorem nI_nn {n : Nat} (h : n < 2147483648) : ¬ nI n < 0 := nI_pos (by omega)
theorem b2i_1 {P : Prop} [Decidable P] : b2i P = 1 ↔ P := by
  by_cases h : P
  · rw [b2i_t h]; exact ⟨fun _ => h, fun _ => rfl⟩
  · rw [b2i_f h]; exact ⟨fun q => absurd q (by decide), fun q => absurd q h⟩
theorem shr_7 {k : Nat} (hk : k < 60) : shr (nI k) = 9 ↔ nI (k % 10) = 7 := by
  have ek : shr (nI k) = nI (7 * k % 10) := by
    unfold shr
    rw [show (7 : Int32) * nI k = nI (7 * k) from pk_mul 7 k]
    exact pk_rem (a := 7 * k) (d := 10) (by omega) (by omega) (by omega)
  rw [ek, show (9 : Int32) = nI 9 from rfl, show (7 : Int32) = nI 7 from rfl, nI_eq (by omega) (by omega), nI_eq (by omega) (by omega)]
  omega
/-! the facts that the law looks at, lamp by lamp -/
theorem wl_1 (h : Iv H S) (hk : k < sN S) : tlS S (nI k) 1 < 0 ↔ tlS S (nI k) 2 < 0 := by
  rcases lamp_pl h hk with ⟨-, e1, e2⟩ | ⟨r, p, hr, hp, -, -, e1, e2⟩
  · rw [e1, e2]
  · rw [e1, e2]
    exact ⟨fun q => absurd q (nI_nn (by omega)), fun q => absurd q (nI_nn (by omega))⟩
theorem wl_2 (h : Iv H S) (hk : k < sN S) (c : ¬ tlS S (nI k) 1 < 0) : atS S (tlS S (nI k) 1) (tlS S (nI k) 2) = nI k := by
  have hn := h.n60
  rcases lamp_pl h hk with ⟨-, e1, e2⟩ | ⟨r, p, hr, hp, -, e8, e1, e2⟩
  · rw [e1] at c
    exact absurd (by decide) c
  · rw [e1, e2, at_rp hr hp, e8, if_neg (nI_nm1 (by omega))]
theorem wl_3 (h : Iv H S) (hk : k < sN S) : 0 < tlS S (nI k) 3 := by
  rw [tl_3 h.n60 hk, gt0_ti]
  have := (h.1.lv hk).2.1
  omega
theorem wl_7 (h : Iv H S) (hk : k < sN S) : tlS S (nI k) 7 = 1 ↔ sA S 7 k ≠ -1 := by
  rw [tl_7 h.n60 hk, b2i_1]
theorem wl_4 (h : Iv H S) (hk : k < sN S) : tlS S (nI k) 7 = 1 ↔ ¬ tlS S (nI k) 4 < 10 * tlS S (nI k) 3 := by
  rw [wl_7 h hk, tl_4 h.n60 hk, tl_3 h.n60 hk, (h.1.lv hk).dead, lt_ti, t10_ti (h.1.lv hk).2.1]
  omega
theorem wl_5 (h : Iv H S) (hk : k < sN S) : ¬ tlS S (nI k) 4 < tlS S (nI k) 5 := by
  rw [tl_4 h.n60 hk, tl_5 h.n60 hk, lt_ti]
  have := (h.1.lv hk).2.2.1
  omega
theorem wl_6 (h : Iv H S) (hk : k < sN S) : tlS S (nI k) 6 = tlS S (nI k) 4 / 10 := by
  rw [tl_6 h.n60 hk, tl_4 h.n60 hk]
theorem wl_8 (h : Iv H S) (hk : k < sN S) (d : tlS S (nI k) 7 = 1) : 0 < tlS S (nI k) 8 ∧ tlS S (nI k) 8 ≤ taS S 0 := by
  have d2 := (wl_7 h hk).mp d
  rw [tl_8 h.n60 hk, if_pos d2]
  have e : taS S 0 = sHr S := rfl
  rw [e, gt0_ti, le_ti]
  rcases (h.1.lv hk).2.2.2 with q | q
  · exact absurd q.1 d2
  · omega
theorem wl_8n (h : Iv H S) (hk : k < sN S) (d : ¬ tlS S (nI k) 7 = 1) : tlS S (nI k) 8 = -1005 := by
  have d2 := mt (wl_7 h hk).mpr d
  rw [tl_8 h.n60 hk, if_neg d2]
theorem wl_9 (h : Iv H S) (hk : k < sN S) : tlS S (nI k) 9 = 1 ↔ nI (k % 10) = 7 := by
  have hn := h.n60
  rw [tl_9 hn hk, b2i_1, shr_7 (by omega)]
theorem wl_10 (h : Iv H S) (hk : k < sN S) : rsnS S (nI k) = if tlS S (nI k) 7 = 1 then 1 else if tlS S (nI k) 1 < 0 then 2 else if trS S (tlS S (nI k) 1) 0 = 0 then 3 else 0 := by
  have hn := h.n60
  rw [rs_k hn hk]
  by_cases d : sA S 7 k ≠ -1
  · rw [if_pos ((wl_7 h hk).mpr d), wd_dead d]
  · rw [if_neg (fun q => d ((wl_7 h hk).mp q))]
    rcases lamp_pl h hk with ⟨e, e1, e2⟩ | ⟨r, p, hr, hp, e3, -, e1, e2⟩
    · rw [e1, if_pos (by decide), wd_out d e]
    · have ed : (r * 8 + p) / 8 = r := by omega
      rw [e1, if_neg (nI_nn (by omega)), wd_in d (by omega) e3, ed, tr_w hr]
      rfl
/-! sums over the lamps -/
theorem ac_5 (hn : sN S ≤ 60) (hk : k < sN S) : sm (sA S 6) k + tlS S (nI k) 5 = sm (sA S 6) (k + 1) := by
  rw [tl_5 hn hk]
  rfl
theorem ac_4 (hn : sN S ≤ 60) (hk : k < sN S) : sm (sA S 5) k + tlS S (nI k) 4 = sm (sA S 5) (k + 1) := by
  rw [tl_4 hn hk]
  rfl
theorem ac_7 (h : Iv H S) (hk : k < sN S) : cnt (fun j => sA S 7 j ≠ -1) k + b2i (tlS S (nI k) 7 = 1) = cnt (fun j => sA S 7 j ≠ -1) (k + 1) := by
  rw [b2i_c (wl_7 h hk)]
  rfl
theorem ac_1 (h : Iv H S) (hk : k < sN S) : cnt (fun j => sA S 3 j ≠ -1) k + b2i (¬ tlS S (nI k) 1 < 0) = cnt (fun j => sA S 3 j ≠ -1) (k + 1) := by
  have hn := h.n60
  have e : (¬ tlS S (nI k) 1 < 0) ↔ sA S 3 k ≠ -1 := by
    rcases lamp_pl h hk with ⟨e, e1, e2⟩ | ⟨r, p, hr, hp, e3, -, e1, e2⟩
    · rw [e, e1]
      exact ⟨fun q => absurd (by decide) q, fun q => absurd rfl q⟩
    · rw [e3, e1]
      exact ⟨fun _ => nI_nm1 (by omega), fun _ => nI_nn (by omega)⟩
  rw [b2i_c e]
  rfl
theorem ac_9 (hn : sN S ≤ 60) (hk : k < sN S) : cnt (fun j => shr (nI j) = 9) k + tlS S (nI k) 9 = cnt (fun j => shr (nI j) = 9) (k + 1) := by
  rw [tl_9 hn hk]
  rfl
theorem ac_3 (hn : sN S ≤ 60) (hk : k < sN S) : cnt (fun j => wdS S j = 0) k + b2i (rsnS S (nI k) = 0) = cnt (fun j => wdS S j = 0) (k + 1) := by
  rw [rs_k hn hk]
  rfl
/-- the wear of the hour, as the law finds it -/
theorem by_k (h : Iv H S) (hk : k < sN S) : (if rsnS S (nI k) = 0 then trS S (tlS S (nI k) 1) (if tlS S (nI k) 2 = 3 ∨ tlS S (nI k) 2 = 4 then 4 else 3) else 0) = byS S k := by
  have hn := h.n60
  unfold byS
  rw [rs_k hn hk]
  by_cases w : wdS S k = 0
  · rw [if_pos w, if_pos w]
    have d := wd_nd w
    rcases lamp_pl h hk with ⟨e, e1, e2⟩ | ⟨r, p, hr, hp, e3, -, e1, e2⟩
    · rw [wd_out d e] at w
      exact absurd w (by decide)
    · have ed : (r * 8 + p) / 8 = r := by omega
      have wi := wd_in d (show r * 8 + p < 24 by omega) e3
      rw [ed] at wi
      have v : ¬ sA S 9 r = 0 := fun v => by
        rw [if_pos v] at wi
        rw [wi] at w
        exact absurd w (by decide)
      rw [e1, e2, e3, ixn (by omega), ed]
      unfold wrP
      have er : nI (r * 8 + p) - nI (r * 8 + p) / 8 * 8 = nI p := (pk_rem (a := r * 8 + p) (d := 8) (by omega) (by omega) (by omega)).trans (nI_eq' (by omega))
      rw [er]
      have hot : (nI p = 3 ∨ nI p = 4) ↔ (nI (r * 8 + p) ≠ -1 ∧ (3 ≤ nI p ∧ nI p ≤ 4)) := by
        rw [show (3 : Int32) = nI 3 from rfl, show (4 : Int32) = nI 4 from rfl, nI_eq (by omega) (by omega), nI_eq (by omega) (by omega), nI_leI (by omega) (by omega), nI_leI (by omega) (by omega)]
        exact ⟨fun q => ⟨nI_nm1 (by omega), by omega⟩, fun q => by have := q.2; omega⟩
      by_cases c : nI p = 3 ∨ nI p = 4
      · rw [if_pos c, b2i_t (hot.mp c), tr_w hr]
        show (if sA S 9 r = 0 then 0 else wrH (sWv S) (sDv S) (sA S 9 r) 1) = _
        rw [if_neg v]
      · rw [if_neg c, b2i_f (fun q => c (hot.mpr q)), tr_w hr]
        show (if sA S 9 r = 0 then 0 else wrH (sWv S) (sDv S) (sA S 9 r) 0) = _
        rw [if_neg v]
  · rw [if_neg w, if_neg w]
theorem en_k (h : Iv H S) (hk : k < sN S) : (rsnS S (nI k) = 0 ∧ ¬ tlS S (nI k) 4 + byS S k < 10 * tlS S (nI k) 3) ↔ enP S k := by
  have hn := h.n60
  rw [rs_k hn hk, tl_4 hn hk, tl_3 hn hk, Int32.not_lt]
end TL
