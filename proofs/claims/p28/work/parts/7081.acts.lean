/-! pure: the acts as the law looks at them -/
theorem pif {c : Prop} [Decidable c] {x y : Int32} (P : Int32 → Prop) (h1 : P x) (h2 : P y) : P (if c then x else y) := by
  by_cases h : c
  · rw [if_pos h]; exact h1
  · rw [if_neg h]; exact h2
theorem neg_m {m : Nat} (h : m < 99) : (-1) - nI m < 0 := by
  rw [lt_ti, e0_ti, sb_ti (by rw [nI_toInt (by omega), m1_ti]; omega), nI_toInt (by omega), m1_ti]
  omega
/-- a number that is too small or too large -/
theorem bad_r {c : Prop} [Decidable c] {m K M : Nat} {R : Int32} (hR : R.toInt = (M : Int)) (hm : m < 99) (hK : M < K) (hK2 : K < 1000) : ¬ (0 ≤ (if c then (-1) - nI m else nI (K + m)) ∧ (if c then (-1) - nI m else nI (K + m)) ≤ R) := by
  refine pif (fun v => ¬ (0 ≤ v ∧ v ≤ R)) (fun q => ?_) (fun q => ?_)
  · exact absurd (neg_m hm) (Int32.not_lt.mpr q.1)
  · have := le_ti.mp q.2
    rw [hR, nI_toInt (by omega)] at this
    omega
section RF
variable {H : Int} {S : SC}
theorem chBatch_u {b li sp : Int32} (h : ¬ (0 ≤ b ∧ b ≤ 5)) : chBatch S b li sp = (-1001, S) := if_neg h
theorem chBatch_v {li sp : Int32} (h : ¬ ((10 ≤ li ∧ li ≤ 9999) ∧ (0 ≤ sp ∧ sp ≤ 90))) : chBatch S 0 li sp = (-1002, S) := by
  unfold chBatch
  rw [if_pos (by decide), if_neg h]
theorem chBatch_n (h : Iv H S) {b : Nat} (hb : b < 6) : chBatch S (nI b) (sA S 0 b) (sA S 1 b) = (-1005, S) := by
  have q := h.1.bt hb
  rcases chBatch_is h hb q.1 q.2 with ⟨-, e⟩ | ⟨g, -⟩
  · exact e
  · exact absurd ⟨rfl, rfl⟩ g
theorem insS_r {r p b : Int32} (h : ¬ (0 ≤ r ∧ r ≤ 2)) : insS S r p b = (-1001, S) := if_neg (fun q => h q.1.1)
theorem insS_p {r p b : Int32} (h : ¬ (0 ≤ p ∧ p ≤ 7)) : insS S r p b = (-1001, S) := if_neg (fun q => h q.1.2)
theorem insS_b {r p b : Int32} (h : ¬ (0 ≤ b ∧ b ≤ 5)) : insS S r p b = (-1001, S) := if_neg (fun q => h q.2)
theorem insS_f (h : Iv H S) {r p b : Nat} (hr : r < 3) (hp : p < 8) (hb : b < 6) (c : ¬ atS S (nI r) (nI p) < 0) : insS S (nI r) (nI p) (nI b) = (-1004, S) := by
  rw [at_rp hr hp] at c
  rcases insS_is h hr hp hb with ⟨k, -, -, e⟩ | ⟨e, -⟩ | ⟨e, -⟩
  · exact e
  · rw [if_pos e] at c; exact absurd (by decide) c
  · rw [if_pos e] at c; exact absurd (by decide) c
theorem rmS_r {r p : Int32} (h : ¬ (0 ≤ r ∧ r ≤ 2)) : rmS S r p = (-1001, S) := if_neg (fun q => h q.1)
theorem rmS_p {r p : Int32} (h : ¬ (0 ≤ p ∧ p ≤ 7)) : rmS S r p = (-1001, S) := if_neg (fun q => h q.2)
theorem rmS_n (h : Iv H S) {r p : Nat} (hr : r < 3) (hp : p < 8) (c : ¬ 0 ≤ atS S (nI r) (nI p)) : rmS S (nI r) (nI p) = (-1005, S) := by
  have hn := h.n60
  rw [at_rp hr hp] at c
  rcases rmS_is h hr hp with ⟨-, e⟩ | ⟨k, hk, e8, -⟩
  · exact e
  · rw [e8, if_neg (nI_nm1 (by omega))] at c
    exact absurd (nI_pos' (by omega)) c
theorem exS_1 {r p r2 p2 : Int32} (h : ¬ (0 ≤ r ∧ r ≤ 2)) : exS S r p r2 p2 = (-1001, S) := if_neg (fun q => h q.1.1)
theorem exS_2 {r p r2 p2 : Int32} (h : ¬ (0 ≤ p ∧ p ≤ 7)) : exS S r p r2 p2 = (-1001, S) := if_neg (fun q => h q.1.2)
theorem exS_3 {r p r2 p2 : Int32} (h : ¬ (0 ≤ r2 ∧ r2 ≤ 2)) : exS S r p r2 p2 = (-1001, S) := if_neg (fun q => h q.2.1)
theorem exS_4 {r p r2 p2 : Int32} (h : ¬ (0 ≤ p2 ∧ p2 ≤ 7)) : exS S r p r2 p2 = (-1001, S) := if_neg (fun q => h q.2.2)
theorem exS_n (h : Iv H S) {r p : Nat} (hr : r < 3) (hp : p < 8) : exS S (nI r) (nI p) (nI r) (nI p) = (-1005, S) := by
  rcases exS_is h hr hp hr hp with ⟨-, e⟩ | ⟨g, -⟩
  · exact e
  · exact absurd (Or.inl rfl) g
theorem chVolts_r {r v : Int32} (h : ¬ (0 ≤ r ∧ r ≤ 2)) : chVolts S r v = (-1001, S) := if_neg h
theorem chVolts_v {v : Int32} (h : ¬ (0 ≤ v ∧ v ≤ 300)) : chVolts S 0 v = (-1002, S) := by
  unfold chVolts
  rw [if_pos (by decide), if_neg h]
theorem chVolts_n (h : Iv H S) {r : Nat} (hr : r < 3) : chVolts S (nI r) (sA S 9 r) = (-1005, S) := by
  rcases chVolts_is h hr (h.1.rk hr).1 with ⟨-, e⟩ | ⟨g, -⟩
  · exact e
  · exact absurd rfl g
theorem chSteps_r {r x v : Int32} (h : ¬ (0 ≤ r ∧ r ≤ 2)) : chSteps S r x v = (-1001, S) := if_neg h
theorem chSteps_v {x v : Int32} (h : ¬ ((0 ≤ x ∧ x ≤ 99) ∧ (-50 ≤ v ∧ v ≤ 50))) : chSteps S 0 x v = (-1002, S) := by
  unfold chSteps
  rw [if_pos (by decide), if_neg h]
theorem chSet_u {w v : Int32} (h0 : ¬ w = 0) (h1 : ¬ w = 1) : chSet S w v = (-1001, S) := by
  unfold chSet
  rw [if_neg h0, if_neg h1]
theorem chSet_0 {v : Int32} (h : ¬ (100 ≤ v ∧ v ≤ 300)) : chSet S 0 v = (-1002, S) := by
  show chWv S v = _
  exact if_neg h
theorem chSet_1 {v : Int32} (h : ¬ (1 ≤ v ∧ v ≤ 100)) : chSet S 1 v = (-1002, S) := by
  show chDv S v = _
  exact if_neg h
theorem cnt_8 (S : SC) (s n m : Nat) (hm : m < 2) : cntT S s n (nI (8 + m)) = if m = 0 then sWv S else sDv S := by
  rcases (show m = 0 ∨ m = 1 by omega) with e | e
  · subst e; rfl
  · subst e; rfl
theorem chSet_n (h : Iv H S) {m : Nat} (hm : m < 2) : chSet S (nI m) (if m = 0 then sWv S else sDv S) = (-1005, S) := by
  rcases (show m = 0 ∨ m = 1 by omega) with e | e
  · subst e
    rw [if_pos rfl]
    rcases chWv_is h h.1.1.2.1 with ⟨-, e⟩ | ⟨g, -⟩
    · exact e
    · exact absurd rfl g
  · subst e
    rw [if_neg (by omega)]
    rcases chDv_is h h.1.1.2.2 with ⟨-, e⟩ | ⟨g, -⟩
    · exact e
    · exact absurd rfl g
theorem lpS_v {v : Int32} (h : ¬ (1 ≤ v ∧ v ≤ 999)) : lpS S v = (-1002, S) := if_neg h
theorem tlS_u {x w : Int32} (h : ¬ (0 ≤ x ∧ x ≤ nI (sN S) - 1)) : tlS S x w = -1001 := if_neg h
/-- of no lamp: too small or too large a number -/
theorem bad_l {c : Prop} [Decidable c] {m : Nat} (hn : sN S ≤ 60) (hm : m < 99) : ¬ (0 ≤ (if c then (-1) - nI m else nI (60 + m)) ∧ (if c then (-1) - nI m else nI (60 + m)) ≤ nI (sN S) - 1) := by
  have e : (nI (sN S) - 1).toInt = (sN S : Int) - 1 := by
    rw [sb_ti (by rw [nI_toInt (by omega), e1_ti]; omega), nI_toInt (by omega), e1_ti]
  refine pif (fun v => ¬ (0 ≤ v ∧ v ≤ nI (sN S) - 1)) (fun q => ?_) (fun q => ?_)
  · exact absurd (neg_m hm) (Int32.not_lt.mpr q.1)
  · have := le_ti.mp q.2
    rw [e, nI_toInt (by omega)] at this
    omega
theorem in_0 (hn : sN S ≤ 60) (h : ¬ nI (sN S) = 0) : 0 ≤ (0 : Int32) ∧ (0 : Int32) ≤ nI (sN S) - 1 := by
  have h1 : sN S ≠ 0 := fun e => h (by rw [e]; rfl)
  exact lp_in (n := sN S) (k := 0) hn (by omega)
theorem tlS_w (hn : sN S ≤ 60) (h : ¬ nI (sN S) = 0) {c : Prop} [Decidable c] : tlS S 0 (if c then (-1) else 10) = -1002 := by
  refine pif (fun v => tlS S 0 v = -1002) ?_ ?_
  · unfold tlS; rw [if_pos (in_0 hn h)]; rfl
  · unfold tlS; rw [if_pos (in_0 hn h)]; rfl
theorem trS_u {x w : Int32} (h : ¬ (0 ≤ x ∧ x ≤ 2)) : trS S x w = -1001 := if_neg h
theorem trS_w {c : Prop} [Decidable c] : trS S 0 (if c then (-1) else 8) = -1002 := pif (fun v => trS S 0 v = -1002) rfl rfl
theorem atS_r {r p : Int32} (h : ¬ (0 ≤ r ∧ r ≤ 2)) : atS S r p = -1001 := if_neg (fun q => h q.1)
theorem atS_p {r p : Int32} (h : ¬ (0 ≤ p ∧ p ≤ 7)) : atS S r p = -1001 := if_neg (fun q => h q.2)
theorem tbS_u {c : Prop} [Decidable c] {w : Int32} : tbS S (if c then (-1) else 6) w = -1001 := pif (fun v => tbS S v w = -1001) (if_neg (by decide)) (if_neg (by decide))
theorem tbS_w {c : Prop} [Decidable c] : tbS S 0 (if c then (-1) else 7) = -1002 := pif (fun v => tbS S 0 v = -1002) rfl rfl
theorem lastS_u {c : Prop} [Decidable c] {w : Int32} : lastS S (if c then (-1) else 6) w = -1001 := pif (fun v => lastS S v w = -1001) (if_neg (by decide)) (if_neg (by decide))
theorem lastS_w {c : Prop} [Decidable c] : lastS S 0 (if c then (-1) else 100000) = -1002 := pif (fun v => lastS S 0 v = -1002) rfl rfl
theorem endS_u {m : Nat} (hm : m < 99) : endS S ((-1) - nI m) = -1002 := if_neg (fun q => absurd (neg_m hm) (Int32.not_lt.mpr q))
theorem lstS_u {x v : Int32} (h : ¬ (0 ≤ x ∧ x ≤ nI (sN S) - 1)) : lstS S x v = -1001 := if_neg h
theorem lstS_w (hn : sN S ≤ 60) (h : ¬ nI (sN S) = 0) {c : Prop} [Decidable c] : lstS S 0 (if c then 0 else 301) = -1002 := by
  refine pif (fun v => lstS S 0 v = -1002) ?_ ?_
  · unfold lstS; rw [if_pos (in_0 hn h)]; rfl
  · unfold lstS; rw [if_pos (in_0 hn h)]; rfl
theorem rsnS_u {x : Int32} (h : ¬ (0 ≤ x ∧ x ≤ nI (sN S) - 1)) : rsnS S x = -1001 := if_neg h
theorem cntT_w {s n : Nat} {c : Prop} [Decidable c] : cntT S s n (if c then (-1) else 12) = -1002 := pif (fun v => cntT S s n v = -1002) rfl rfl
end RF
