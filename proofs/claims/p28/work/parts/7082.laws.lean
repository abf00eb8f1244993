/-! pure: what each act of the law looks at -/
/-- what a new lamp can last, as the law has it -/
def nlM (l p : Int32) (k : Nat) : Int32 := if 9 ≤ nI (k % 10 * 7 % 10) then (l - l * p * nI (k % 10 * 7 % 10) / 1000) / 10 else l - l * p * nI (k % 10 * 7 % 10) / 1000
theorem nl_ho {l p : Int32} {k : Nat} (hk : k < 60) : hoL l p (nI k) = if nlM l p k ≤ 1 then 1 else nlM l p k := by
  have ek : shr (nI k) = nI (k % 10 * 7 % 10) := by
    unfold shr
    rw [show (7 : Int32) * nI k = nI (7 * k) from pk_mul 7 k]
    exact (pk_rem (a := 7 * k) (d := 10) (by omega) (by omega) (by omega)).trans (nI_eq' (by omega))
  unfold hoL nlM mx1
  rw [ek]
  have c9 : nI (k % 10 * 7 % 10) = 9 ↔ 9 ≤ nI (k % 10 * 7 % 10) := by
    rw [show (9 : Int32) = nI 9 from rfl, nI_eq (by omega) (by omega), nI_leI (by omega) (by omega)]
    omega
  have e : (if nI (k % 10 * 7 % 10) = 9 then (l - l * p * nI (k % 10 * 7 % 10) / 1000) / 10 else l - l * p * nI (k % 10 * 7 % 10) / 1000) = (if 9 ≤ nI (k % 10 * 7 % 10) then (l - l * p * nI (k % 10 * 7 % 10) / 1000) / 10 else l - l * p * nI (k % 10 * 7 % 10) / 1000) := by
    by_cases c : nI (k % 10 * 7 % 10) = 9
    · rw [if_pos c, if_pos (c9.mp c)]
    · rw [if_neg c, if_neg (fun q => c (c9.mpr q))]
  rw [e]
  generalize (if 9 ≤ nI (k % 10 * 7 % 10) then (l - l * p * nI (k % 10 * 7 % 10) / 1000) / 10 else l - l * p * nI (k % 10 * 7 % 10) / 1000) = Q
  by_cases c : Q ≤ 1
  · rw [if_pos c, if_neg (Int32.not_lt.mpr c)]
  · rw [if_neg c, if_pos (Int32.not_le.mp c)]
section LS
variable {H : Int} {S : SC}
theorem put_1 (h : Iv H S) {r p b : Nat} (hr : r < 3) (hp : p < 8) (hb : b < 6) : (insS S (nI r) (nI p) (nI b)).1 = if atS S (nI r) (nI p) < 0 then (if nI (sN S) = 60 then -1003 else nI (sN S)) else -1004 := by
  have hn := h.n60
  rw [at_rp hr hp]
  rcases insS_is h hr hp hb with ⟨k, hk, e8, e⟩ | ⟨e8, en, e⟩ | ⟨e8, en, e, -⟩
  · rw [e, e8, if_neg (nI_nm1 (by omega)), if_neg (nI_nn (by omega))]
  · rw [e, e8, if_pos rfl, if_pos (by decide), en, if_pos (show nI 60 = 60 from rfl)]
  · rw [e, e8, if_pos rfl, if_pos (by decide), if_neg (fun q => by have := nI_i (b := 60) (by omega) (by omega) q; omega)]
theorem put_iv (h : Iv H S) {r p b : Nat} (hr : r < 3) (hp : p < 8) (hb : b < 6) : Iv H (insS S (nI r) (nI p) (nI b)).2 ∧ ((insS S (nI r) (nI p) (nI b)).1 < 0 → (insS S (nI r) (nI p) (nI b)).2 = S) := by
  have hn := h.n60
  rcases insS_is h hr hp hb with ⟨k, hk, e8, e⟩ | ⟨e8, en, e⟩ | ⟨e8, en, e, i⟩
  · rw [e]; exact ⟨h, fun _ => rfl⟩
  · rw [e]; exact ⟨h, fun _ => rfl⟩
  · rw [e]; exact ⟨i, fun q => absurd q (nI_nn (by omega))⟩
theorem put_2 (h : Iv H S) {r p b : Nat} (hr : r < 3) (hp : p < 8) (hb : b < 6) {q : Int32 × SC} (eq : insS S (nI r) (nI p) (nI b) = q) (c : ¬ q.1 < 0) : ∃ k, k < sN q.2 ∧ k < 60 ∧ sN q.2 ≤ 60 ∧ q.1 = nI k ∧ atS q.2 (nI r) (nI p) = q.1 ∧ tlS q.2 (nI k) 0 = nI b ∧ tlS q.2 (nI k) 3 = (if nlM (sA q.2 0 b) (sA q.2 1 b) k ≤ 1 then 1 else nlM (sA q.2 0 b) (sA q.2 1 b) k) ∧ tlS q.2 (nI k) 4 = 0 ∧ tlS q.2 (nI k) 5 = 0 := by
  have hn := h.n60
  rcases insS_is h hr hp hb with ⟨k, hk, e8, e⟩ | ⟨e8, en, e⟩ | ⟨e8, en, e, i⟩
  · rw [← eq, e] at c; exact absurd (show (-1004 : Int32) < 0 by decide) c
  · rw [← eq, e] at c; exact absurd (show (-1003 : Int32) < 0 by decide) c
  · rw [e] at eq
    subst eq
    have k1 : sN S < sN (addS S (r * 8 + p) (nI b) (hoL (sA S 0 b) (sA S 1 b) (nI (sN S)))) := by show sN S < sN S + 1; omega
    have k2 : sN (addS S (r * 8 + p) (nI b) (hoL (sA S 0 b) (sA S 1 b) (nI (sN S)))) ≤ 60 := by show sN S + 1 ≤ 60; omega
    refine ⟨sN S, k1, en, k2, rfl, ?_, ?_, ?_, ?_, ?_⟩
    · rw [at_rp hr hp]
      show (if sA (addS S (r * 8 + p) (nI b) (hoL (sA S 0 b) (sA S 1 b) (nI (sN S)))) 8 (r * 8 + p) = -1 then -1005 else sA (addS S (r * 8 + p) (nI b) (hoL (sA S 0 b) (sA S 1 b) (nI (sN S)))) 8 (r * 8 + p)) = nI (sN S)
      rw [addS_8, updA rfl, if_neg (nI_nm1 (by omega))]
    · rw [tl_0 k2 k1, addS_2, updA rfl]
    · rw [tl_3 k2 k1, addS_4, updA rfl]
      exact nl_ho (l := sA S 0 b) (p := sA S 1 b) en
    · rw [tl_4 k2 k1, addS_5, updA rfl]
    · rw [tl_5 k2 k1, addS_6, updA rfl]
theorem rm_1 (h : Iv H S) {r p : Nat} (hr : r < 3) (hp : p < 8) {q : Int32 × SC} (eq : rmS S (nI r) (nI p) = q) : q.1 = atS S (nI r) (nI p) ∧ atS q.2 (nI r) (nI p) = -1005 ∧ taS q.2 2 = taS S 2 - b2i (0 ≤ atS S (nI r) (nI p)) ∧ (¬ atS S (nI r) (nI p) < 0 → tlS q.2 (atS S (nI r) (nI p)) 1 = -1005 ∧ tlS q.2 (atS S (nI r) (nI p)) 2 = -1005) ∧ Iv H q.2 ∧ (q.1 < 0 → q.2 = S) := by
  have hn := h.n60
  rw [at_rp hr hp]
  rcases rmS_is h hr hp with ⟨e8, e⟩ | ⟨k, hk, e8, e3, e, i⟩
  · rw [e] at eq
    subst eq
    rw [e8, if_pos rfl]
    refine ⟨rfl, ?_, ?_, fun g => absurd (by decide) g, h, fun _ => rfl⟩
    · show atS S (nI r) (nI p) = -1005
      rw [at_rp hr hp, if_pos e8]
    · rw [b2i_f (by decide), Int32.sub_zero]
  · rw [e] at eq
    subst eq
    have i60 := i.n60
    rw [e8, if_neg (nI_nm1 (by omega))]
    have hk2 : k < sN (rmT S (r * 8 + p) k) := hk
    have s3 : sA (rmT S (r * 8 + p) k) 3 k = -1 := by rw [rmT_3, updA rfl]
    refine ⟨rfl, ?_, ?_, fun _ => ⟨?_, ?_⟩, i, fun g => absurd g (nI_nn (by omega))⟩
    · show atS (rmT S (r * 8 + p) k) (nI r) (nI p) = -1005
      rw [at_rp hr hp, rmT_8, updA rfl, if_pos rfl]
    · show cnt (fun j => sA (rmT S (r * 8 + p) k) 3 j ≠ -1) (sN (rmT S (r * 8 + p) k)) = cnt (fun j => sA S 3 j ≠ -1) (sN S) - _
      rw [rmT_cnt h (by omega) hk e8, b2i_t (nI_pos' (by omega)), Int32.add_sub_cancel]
    · show tlS (rmT S (r * 8 + p) k) (nI k) 1 = -1005
      rw [tl_1 i60 hk2, if_pos s3]
    · show tlS (rmT S (r * 8 + p) k) (nI k) 2 = -1005
      rw [tl_2 i60 hk2, if_pos s3]
theorem at_b (h : Iv H S) {r p : Nat} (hr : r < 3) (hp : p < 8) : b2i (0 ≤ atS S (nI r) (nI p)) = if sA S 8 (r * 8 + p) = -1 then 0 else 1 := by
  have hn := h.n60
  rw [at_rp hr hp]
  rcases h.1.place (j := r * 8 + p) (by omega) with e | ⟨k, hk, e, -⟩
  · rw [e, if_pos rfl, if_pos rfl]; exact b2i_f (by decide)
  · rw [e, if_neg (nI_nm1 (by omega)), if_neg (nI_nm1 (by omega))]; exact b2i_t (nI_pos' (by omega))
theorem ex_1 (h : Iv H S) {r p r2 p2 : Nat} (hr : r < 3) (hp : p < 8) (hr2 : r2 < 3) (hp2 : p2 < 8) {q : Int32 × SC} (eq : exS S (nI r) (nI p) (nI r2) (nI p2) = q) : q.1 = (if (nI r = nI r2 ∧ nI p = nI p2) ∨ b2i (0 ≤ atS S (nI r) (nI p)) + b2i (0 ≤ atS S (nI r2) (nI p2)) = 0 then -1005 else b2i (0 ≤ atS S (nI r) (nI p)) + b2i (0 ≤ atS S (nI r2) (nI p2))) ∧ atS q.2 (nI r) (nI p) = atS S (nI r2) (nI p2) ∧ atS q.2 (nI r2) (nI p2) = atS S (nI r) (nI p) ∧ taS q.2 2 = taS S 2 ∧ Iv H q.2 ∧ (q.1 < 0 → q.2 = S) := by
  have hn := h.n60
  rw [at_b h hr hp, at_b h hr2 hp2]
  have k1 : (nI r = nI r2 ∧ nI p = nI p2) ↔ (r = r2 ∧ p = p2) := by rw [nI_eq (by omega) (by omega), nI_eq (by omega) (by omega)]
  have zz : ((0 : Int32) + 0 = 0) := by decide
  rcases exS_is h hr hp hr2 hp2 with ⟨c, e⟩ | ⟨c, e, i, o, o1, o2⟩
  · rw [e] at eq
    subst eq
    refine ⟨?_, ?_, ?_, rfl, h, fun _ => rfl⟩
    · rcases c with c | ⟨c1, c2⟩
      · rw [if_pos (Or.inl (k1.mpr (by omega)))]
      · rw [if_pos c1, if_pos c2, if_pos (Or.inr zz)]
    · show atS S (nI r) (nI p) = _
      rcases c with c | ⟨c1, c2⟩
      · have e1 : r = r2 := by omega
        have e2 : p = p2 := by omega
        subst e1; subst e2; rfl
      · rw [at_rp hr hp, at_rp hr2 hp2, c1, c2]
    · show atS S (nI r2) (nI p2) = _
      rcases c with c | ⟨c1, c2⟩
      · have e1 : r = r2 := by omega
        have e2 : p = p2 := by omega
        subst e1; subst e2; rfl
      · rw [at_rp hr hp, at_rp hr2 hp2, c1, c2]
  · rw [e] at eq
    subst eq
    refine ⟨?_, ?_, ?_, exO_cnt h (by omega) (by omega) o, i, fun g => ?_⟩
    · show exR S (r * 8 + p) (r2 * 8 + p2) = _
      rw [← o2, if_neg]
      intro z
      rcases z with z | z
      · exact c (Or.inl (by have := k1.mp z; omega))
      · rcases o1 with g | g
        · rw [g] at z; exact absurd z (by decide)
        · rw [g] at z; exact absurd z (by decide)
    · show atS (exT S (r * 8 + p) (r2 * 8 + p2)) (nI r) (nI p) = _
      rw [at_rp hr hp, at_rp hr2 hp2, o.2.1]
    · show atS (exT S (r * 8 + p) (r2 * 8 + p2)) (nI r2) (nI p2) = _
      rw [at_rp hr hp, at_rp hr2 hp2, o.2.2.1]
    · have g' : exR S (r * 8 + p) (r2 * 8 + p2) < 0 := g
      rcases o1 with z | z
      · rw [z] at g'; exact absurd g' (by decide)
      · rw [z] at g'; exact absurd g' (by decide)
/-- the volts behind a step -/
theorem st_volts (h : Iv H S) : chV (sA S 10 1) (sA S 12 1) (nI 1) 1 (sA S 9) (sA S 11) 1 = if 0 ≤ trS S 1 0 + (if trS S 1 7 = 1 then trS S 1 6 else 0) then (if trS S 1 0 + (if trS S 1 7 = 1 then trS S 1 6 else 0) ≤ 300 then trS S 1 0 + (if trS S 1 7 = 1 then trS S 1 6 else 0) else 300) else 0 := by
  have e0 : trS S 1 0 = sA S 9 1 := tr_w (r := 1) (by omega) 0
  have e6 : trS S 1 6 = sA S 11 1 := tr_w (r := 1) (by omega) 6
  have e7 : trS S 1 7 = hTS (sA S 10 1) (sA S 12 1) := tr_w (r := 1) (by omega) 7
  rw [e0, e6, e7]
  obtain ⟨o1, o2, o3, o4, o5, o6⟩ := h.1.rk (r := 1) (by omega)
  generalize sA S 10 1 = A at *
  generalize sA S 12 1 = o at *
  generalize e11 : sA S 11 1 = t at *
  unfold chV hTS
  have same : (if 0 ≤ sA S 9 1 + 0 then (if sA S 9 1 + 0 ≤ 300 then sA S 9 1 + 0 else 300) else 0) = sA S 9 1 := by
    rw [Int32.add_zero, if_pos (by rw [le_ti, e0_ti]; omega), if_pos (by rw [le_ti, e300_ti]; omega)]
  by_cases c : A = 0
  · rw [if_pos c, if_pos c, if_neg (show ¬ (-1005 : Int32) = 1 by decide), same]
  · rw [if_neg c, if_neg c]
    have tA : 0 < A.toInt := by
      have : A.toInt ≠ (0 : Int32).toInt := fun q => c (eq_ti.mpr q)
      rw [e0_ti] at this
      omega
    have o6' := o6 tA
    have ts : (o + nI 1).toInt = o.toInt + 1 := by rw [ad_ti (by rw [nI_toInt (by omega)]; omega), nI_toInt (by omega)]; rfl
    have td : (A - o).toInt = A.toInt - o.toInt := sb_ti (by omega)
    by_cases g : o + nI 1 < A
    · have g1 := lt_ti.mp g
      rw [if_pos g, if_neg (show ¬ A - o = 1 from fun q => by
        have := congrArg Int32.toInt q
        rw [td, e1_ti] at this
        omega), same]
    · have g1 := mt lt_ti.mpr g
      rw [if_neg g, updA rfl, if_pos (show A - o = 1 from eq_ti.mpr (by rw [td, e1_ti]; omega))]
      rw [e11]
      generalize sA S 9 1 + t = x
      have cx := cl3_ti x
      refine eq_ti.mpr ?_
      rw [cx]
      by_cases a : 0 ≤ x
      · rw [if_pos a]
        have a1 := le_ti.mp a
        rw [e0_ti] at a1
        by_cases b : x ≤ 300
        · rw [if_pos b]
          have b1 := le_ti.mp b
          rw [e300_ti] at b1
          omega
        · rw [if_neg b]
          have b1 := mt le_ti.mpr b
          rw [e300_ti] at *
          omega
      · rw [if_neg a]
        have a1 := mt le_ti.mpr a
        rw [e0_ti] at *
        omega
theorem hr_1 (h : Iv H S) (hH : H ≤ 90000) {q : Int32 × SC} (eq : lpS S 1 = q) : q.1 = cnt (fun k => enP S k) (sN S) ∧ taS q.2 0 = taS S 0 + 1 ∧ taS q.2 6 = taS S 6 + taS S 3 ∧ taS q.2 7 = taS S 7 + sm (byS S) (sN S) ∧ taS q.2 4 = taS S 4 + cnt (fun k => enP S k) (sN S) ∧ trS q.2 1 0 = (if 0 ≤ trS S 1 0 + (if trS S 1 7 = 1 then trS S 1 6 else 0) then (if trS S 1 0 + (if trS S 1 7 = 1 then trS S 1 6 else 0) ≤ 300 then trS S 1 0 + (if trS S 1 7 = 1 then trS S 1 6 else 0) else 300) else 0) ∧ Iv (H + 300) q.2 ∧ ¬ q.1 < 0 := by
  have hn := h.n60
  have e := lpS_is (t := 1) h (by omega) (by omega) (by omega)
  obtain ⟨p1, p2, p3, p4, p5, p6⟩ := hour_is h hH
  obtain ⟨i1, i2, c, i3, i4⟩ := pHs_iv (t := 1) h (by omega) (by omega)
  have sv := st_volts h
  have eq' : ((pHs S 1).2, (pHs S 1).1) = q := e.symm.trans eq
  generalize pHs S 1 = Q at *
  subst eq'
  have hc : c ≤ 60 := by
    have : dN Q.1 ≤ sN Q.1 := cN_le _ _
    omega
  refine ⟨p1, p2, ?_, ?_, ?_, ?_, i1.wide (by omega), ?_⟩
  · show sm (sA Q.1 6) (sN Q.1) = _
    rw [i2]; exact p3
  · show sm (sA Q.1 5) (sN Q.1) = _
    rw [i2]; exact p4
  · show cnt (fun j => sA Q.1 7 j ≠ -1) (sN Q.1) = _
    rw [i2]; exact p5
  · have e0 : trS Q.1 1 0 = sA Q.1 9 1 := tr_w (r := 1) (by omega) 0
    show trS Q.1 1 0 = _
    rw [e0, p6, sv]
  · show ¬ Q.2 < 0
    rw [i3]; exact nI_nn (by omega)
theorem ps_1 (h : Iv H S) (hH : H ≤ 90000) {m : Nat} (hm : m < 300) {q : Int32 × SC} (eq : lpS S (nI (1 + m)) = q) : ¬ q.1 < 0 ∧ taS q.2 4 = taS S 4 + q.1 ∧ Iv (H + 300) q.2 := by
  have hn := h.n60
  have e := lpS_is (t := 1 + m) h (by omega) (by omega) (by omega)
  obtain ⟨i1, i2, c, i3, i4⟩ := pHs_iv (t := 1 + m) h (by omega) (by omega)
  have eq' : ((pHs S (1 + m)).2, (pHs S (1 + m)).1) = q := e.symm.trans eq
  generalize pHs S (1 + m) = Q at *
  subst eq'
  have hc : c ≤ 60 := by
    have : dN Q.1 ≤ sN Q.1 := cN_le _ _
    omega
  refine ⟨?_, ?_, i1.wide (by omega)⟩
  · show ¬ Q.2 < 0
    rw [i3]; exact nI_nn (by omega)
  · show cnt (fun j => sA Q.1 7 j ≠ -1) (sN Q.1) = cnt (fun j => sA S 7 j ≠ -1) (sN S) + Q.2
    rw [dN_cnt, dN_cnt, i3, nI_add, i4]
theorem bt_1 (h : Iv H S) {b : Nat} (hb : b < 6) {x y : Nat} (hx : 10 ≤ x ∧ x ≤ 9999) (hy : y ≤ 90) {q : Int32 × SC} (eq : chBatch S (nI b) (nI x) (nI y) = q) : q.1 = (if sA S 0 b = nI x ∧ sA S 1 b = nI y then -1005 else sA S 0 b) ∧ sA q.2 0 b = nI x ∧ sA q.2 1 b = nI y ∧ Iv H q.2 ∧ (q.1 < 0 → q.2 = S) := by
  rcases chBatch_is h hb (li := nI x) (sp := nI y) (by rw [nI_toInt (by omega)]; omega) (by rw [nI_toInt (by omega)]; omega) with ⟨c, e⟩ | ⟨c, e, i, p⟩
  · rw [e] at eq; subst eq
    rw [if_pos c]
    exact ⟨rfl, c.1, c.2, h, fun _ => rfl⟩
  · rw [e] at eq; subst eq
    rw [if_neg c]
    refine ⟨rfl, ?_, ?_, i, fun g => absurd g (nn_ti p)⟩
    · show sA (btT S b (nI x) (nI y)) 0 b = _
      rw [btT_0, updA rfl]
    · show sA (btT S b (nI x) (nI y)) 1 b = _
      rw [btT_1, updA rfl]
theorem vt_1 (h : Iv H S) {r : Nat} (hr : r < 3) {v : Int32} (hv : 0 ≤ v.toInt ∧ v.toInt ≤ 300) {q : Int32 × SC} (eq : chVolts S (nI r) v = q) : q.1 = (if sA S 9 r = v then -1005 else sA S 9 r) ∧ sA q.2 9 r = v ∧ Iv H q.2 ∧ (q.1 < 0 → q.2 = S) := by
  rcases chVolts_is h hr hv with ⟨c, e⟩ | ⟨c, e, i, p⟩
  · rw [e] at eq; subst eq
    rw [if_pos c]
    exact ⟨rfl, c, h, fun _ => rfl⟩
  · rw [e] at eq; subst eq
    rw [if_neg c]
    refine ⟨rfl, ?_, i, fun g => absurd g (nn_ti p)⟩
    show sA (vtT S r v) 9 r = _
    rw [vtT_9, updA rfl]
theorem sp_1 (h : Iv H S) {r x : Nat} (hr : r < 3) (hx : x ≤ 99) {v : Int32} (hv : -50 ≤ v.toInt ∧ v.toInt ≤ 50) {q : Int32 × SC} (eq : chSteps S (nI r) (nI x) v = q) : q.1 = sA S 10 r ∧ sA q.2 10 r = nI x ∧ sA q.2 11 r = v ∧ hTS (sA q.2 10 r) (sA q.2 12 r) = (if nI x = 0 then -1005 else nI x) ∧ Iv H q.2 ∧ (q.1 < 0 → q.2 = S) := by
  obtain ⟨e, i, p⟩ := chSteps_is h hr (x := nI x) (v := v) (by rw [nI_toInt (by omega)]; omega) hv
  rw [e] at eq; subst eq
  have e10 : sA (stT S r (nI x) v) 10 r = nI x := by rw [stT_10, updA rfl]
  have e12 : sA (stT S r (nI x) v) 12 r = 0 := by rw [stT_12, updA rfl]
  refine ⟨rfl, e10, ?_, ?_, i, fun g => absurd g (nn_ti p)⟩
  · show sA (stT S r (nI x) v) 11 r = _
    rw [stT_11, updA rfl]
  · show hTS (sA (stT S r (nI x) v) 10 r) (sA (stT S r (nI x) v) 12 r) = _
    rw [e10, e12]
    unfold hTS
    rw [Int32.sub_zero]
theorem se_1 (h : Iv H S) {m : Nat} (hm : m < 2) {v : Int32} (h0 : m = 0 → 100 ≤ v.toInt ∧ v.toInt ≤ 300) (h1 : m = 1 → 1 ≤ v.toInt ∧ v.toInt ≤ 100) {q : Int32 × SC} (eq : chSet S (nI m) v = q) : q.1 = (if (if m = 0 then sWv S else sDv S) = v then -1005 else (if m = 0 then sWv S else sDv S)) ∧ (if m = 0 then sWv q.2 else sDv q.2) = v ∧ Iv H q.2 ∧ (q.1 < 0 → q.2 = S) := by
  rcases (show m = 0 ∨ m = 1 by omega) with e | e
  · subst e
    rw [if_pos rfl, if_pos rfl]
    rcases chWv_is h (h0 rfl) with ⟨c, e⟩ | ⟨c, e, i, p⟩
    · rw [e] at eq; subst eq
      rw [if_pos c]
      exact ⟨rfl, c, h, fun _ => rfl⟩
    · rw [e] at eq; subst eq
      rw [if_neg c]
      exact ⟨rfl, rfl, i, fun g => absurd g (nn_ti p)⟩
  · subst e
    rw [if_neg (show ¬ (1 : Nat) = 0 by omega), if_neg (show ¬ (1 : Nat) = 0 by omega)]
    rcases chDv_is h (h1 rfl) with ⟨c, e⟩ | ⟨c, e, i, p⟩
    · rw [e] at eq; subst eq
      rw [if_pos c]
      exact ⟨rfl, c, h, fun _ => rfl⟩
    · rw [e] at eq; subst eq
      rw [if_neg c]
      exact ⟨rfl, rfl, i, fun g => absurd g (nn_ti p)⟩
/-- the acts of the law, by the number that it draws -/
def putQ (S : SC) (y : Nat) : Int32 × SC := insS S (nI (y % 3)) (nI (y / 3 % 8)) (nI (y / 24 % 6))
def mvQ (S : SC) (y : Nat) : Int32 × SC := if y / 576 % 3 = 0 then rmS S (nI (y % 3)) (nI (y / 3 % 8)) else exS S (nI (y % 3)) (nI (y / 3 % 8)) (nI (y / 24 % 3)) (nI (y / 72 % 8))
def vtV (y : Nat) : Int32 := if nI (y / 3 % 5) = 0 then 0 else nI (y / 15 % 301)
def seV2 (y : Nat) : Int32 := if nI (y % 2) = 0 then nI (100 + y / 2 % 201) else nI (1 + y / 2 % 100)
def actQ (S : SC) (n : Nat) : Int32 × SC :=
  if n % 16 < 5 then putQ S (n / 16) else if n % 16 < 7 then mvQ S (n / 16) else if n % 16 < 10 then lpS S 1 else if n % 16 < 12 then lpS S (nI (1 + n / 16 % 300))
  else if n % 16 = 12 then chBatch S (nI (n / 16 % 6)) (nI (10 + n / 16 / 6 % 200)) (nI (n / 16 / 7 % 91))
  else if n % 16 = 13 then chVolts S (nI (n / 16 % 3)) (vtV (n / 16))
  else if n % 16 = 14 then chSteps S (nI (n / 16 % 3)) (nI (n / 16 / 3 % 100)) (nI (n / 16 / 5 % 101) - 50)
  else chSet S (nI (n / 16 % 2)) (seV2 (n / 16))
theorem mv_iv (h : Iv H S) (y : Nat) : Iv H (mvQ S y).2 ∧ ((mvQ S y).1 < 0 → (mvQ S y).2 = S) := by
  unfold mvQ
  by_cases c : y / 576 % 3 = 0
  · rw [if_pos c]
    obtain ⟨-, -, -, -, i, j⟩ := rm_1 h (r := y % 3) (p := y / 3 % 8) (by omega) (by omega) rfl
    exact ⟨i, j⟩
  · rw [if_neg c]
    obtain ⟨-, -, -, -, i, j⟩ := ex_1 h (r := y % 3) (p := y / 3 % 8) (r2 := y / 24 % 3) (p2 := y / 72 % 8) (by omega) (by omega) (by omega) (by omega) rfl
    exact ⟨i, j⟩
theorem vtV_rng (y : Nat) : 0 ≤ (vtV y).toInt ∧ (vtV y).toInt ≤ 300 := by
  refine pif (fun v => 0 ≤ v.toInt ∧ v.toInt ≤ 300) ?_ ?_
  · rw [e0_ti]; omega
  · rw [nI_toInt (by omega)]; omega
theorem stV_rng (y : Nat) : -50 ≤ (nI (y / 5 % 101) - 50).toInt ∧ (nI (y / 5 % 101) - 50).toInt ≤ 50 := by
  rw [sb_ti (by rw [nI_toInt (by omega), e50_ti]; omega), nI_toInt (by omega), e50_ti]
  omega
theorem seV_0 {y : Nat} (c : y % 2 = 0) : 100 ≤ (seV2 y).toInt ∧ (seV2 y).toInt ≤ 300 := by
  unfold seV2
  rw [if_pos (by rw [c]; rfl), nI_toInt (by omega)]
  omega
theorem seV_1 {y : Nat} (c : y % 2 = 1) : 1 ≤ (seV2 y).toInt ∧ (seV2 y).toInt ≤ 100 := by
  unfold seV2
  rw [if_neg (by rw [c]; decide), nI_toInt (by omega)]
  omega
theorem act_iv (h : Iv H S) (hH : H ≤ 90000) (hH0 : 0 ≤ H) (n : Nat) : Iv (H + 300) (actQ S n).2 ∧ ((actQ S n).1 < 0 → (actQ S n).2 = S) := by
  unfold actQ
  by_cases c1 : n % 16 < 5
  · rw [if_pos c1]
    have q := put_iv h (r := n / 16 % 3) (p := n / 16 / 3 % 8) (b := n / 16 / 24 % 6) (by omega) (by omega) (by omega)
    exact ⟨q.1.wide (by omega), q.2⟩
  rw [if_neg c1]
  by_cases c2 : n % 16 < 7
  · rw [if_pos c2]
    have q := mv_iv h (n / 16)
    exact ⟨q.1.wide (by omega), q.2⟩
  rw [if_neg c2]
  by_cases c3 : n % 16 < 10
  · rw [if_pos c3]
    obtain ⟨-, -, -, -, -, -, i, j⟩ := hr_1 h hH rfl
    exact ⟨i, fun q => absurd q j⟩
  rw [if_neg c3]
  by_cases c4 : n % 16 < 12
  · rw [if_pos c4]
    obtain ⟨j, -, i⟩ := ps_1 h hH (m := n / 16 % 300) (by omega) rfl
    exact ⟨i, fun q => absurd q j⟩
  rw [if_neg c4]
  by_cases c5 : n % 16 = 12
  · rw [if_pos c5]
    obtain ⟨-, -, -, i, j⟩ := bt_1 h (b := n / 16 % 6) (x := 10 + n / 16 / 6 % 200) (y := n / 16 / 7 % 91) (by omega) (by omega) (by omega) rfl
    exact ⟨i.wide (by omega), j⟩
  rw [if_neg c5]
  by_cases c6 : n % 16 = 13
  · rw [if_pos c6]
    obtain ⟨-, -, i, j⟩ := vt_1 h (r := n / 16 % 3) (by omega) (vtV_rng (n / 16)) rfl
    exact ⟨i.wide (by omega), j⟩
  rw [if_neg c6]
  by_cases c7 : n % 16 = 14
  · rw [if_pos c7]
    obtain ⟨-, -, -, -, i, j⟩ := sp_1 h (r := n / 16 % 3) (x := n / 16 / 3 % 100) (by omega) (by omega) (stV_rng (n / 16)) rfl
    exact ⟨i.wide (by omega), j⟩
  rw [if_neg c7]
  obtain ⟨-, -, i, j⟩ := se_1 h (m := n / 16 % 2) (by omega) (fun c => seV_0 c) (fun c => seV_1 c) rfl
  exact ⟨i.wide (by omega), j⟩
end LS
