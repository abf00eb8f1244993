/-! the law's loop, in pieces -/
theorem un_s {s : Nat} (h : s ≤ 4) : nI (if s < 4 then s else 3) = if 4 ≤ nI s then 3 else nI s := by
  have c : 4 ≤ nI s ↔ ¬ s < 4 := by
    rw [show (4 : Int32) = nI 4 from rfl, nI_leI (by omega) (by omega)]
    omega
  by_cases g : s < 4
  · rw [if_pos g, if_neg (fun q => c.mp q g)]
  · rw [if_neg g, if_pos (c.mpr g)]
    rfl
theorem su_s {s : Nat} (h : s ≤ 4) : nI (if s < 4 then s + 1 else 4) = if 4 ≤ nI s then 4 else nI (s + 1) := by
  have c : 4 ≤ nI s ↔ ¬ s < 4 := by
    rw [show (4 : Int32) = nI 4 from rfl, nI_leI (by omega) (by omega)]
    omega
  by_cases g : s < 4
  · rw [if_pos g, if_neg (fun q => c.mp q g)]
  · rw [if_neg g, if_pos (c.mpr g)]
    rfl
theorem n9_nn {x : Int32} (h : ¬ x < 0) : ¬ x = -9 := fun e => h (by rw [e]; decide)
theorem n9_at {H : Int} {S : SC} (h : Iv H S) {r p : Nat} (hr : r < 3) (hp : p < 8) : ¬ atS S (nI r) (nI p) = -9 := by
  have hn := h.n60
  rw [at_rp hr hp]
  rcases h.1.place (j := r * 8 + p) (by omega) with e | ⟨k, hk, e, -⟩
  · rw [if_pos e]; decide
  · rw [e, if_neg (nI_nm1 (by omega))]; exact n9_nn (nI_nn (by omega))
theorem act_n9 {H : Int} {S : SC} (h : Iv H S) (hH : H ≤ 90000) (n : Nat) : ¬ (actQ S n).1 = -9 := by
  have hn := h.n60
  unfold actQ
  by_cases c1 : n % 16 < 5
  · rw [if_pos c1]
    show ¬ (insS S (nI (n / 16 % 3)) (nI (n / 16 / 3 % 8)) (nI (n / 16 / 24 % 6))).1 = -9
    rw [put_1 h (by omega) (by omega) (by omega)]
    refine pif (fun v => ¬ v = -9) (pif (fun v => ¬ v = -9) (by decide) (n9_nn (nI_nn (by omega)))) (by decide)
  rw [if_neg c1]
  by_cases c2 : n % 16 < 7
  · rw [if_pos c2]
    unfold mvQ
    by_cases c : n / 16 / 576 % 3 = 0
    · rw [if_pos c]
      obtain ⟨e, -⟩ := rm_1 h (r := n / 16 % 3) (p := n / 16 / 3 % 8) (by omega) (by omega) rfl
      rw [e]
      exact n9_at h (by omega) (by omega)
    · rw [if_neg c]
      obtain ⟨e, -⟩ := ex_1 h (r := n / 16 % 3) (p := n / 16 / 3 % 8) (r2 := n / 16 / 24 % 3) (p2 := n / 16 / 72 % 8) (by omega) (by omega) (by omega) (by omega) rfl
      rw [e, at_b h (by omega) (by omega), at_b h (by omega) (by omega)]
      refine pif (fun v => ¬ v = -9) (by decide) ?_
      by_cases g1 : sA S 8 (n / 16 % 3 * 8 + n / 16 / 3 % 8) = -1
      · rw [if_pos g1]
        by_cases g2 : sA S 8 (n / 16 / 24 % 3 * 8 + n / 16 / 72 % 8) = -1
        · rw [if_pos g2]; decide
        · rw [if_neg g2]; decide
      · rw [if_neg g1]
        by_cases g2 : sA S 8 (n / 16 / 24 % 3 * 8 + n / 16 / 72 % 8) = -1
        · rw [if_pos g2]; decide
        · rw [if_neg g2]; decide
  rw [if_neg c2]
  by_cases c3 : n % 16 < 10
  · rw [if_pos c3]
    obtain ⟨-, -, -, -, -, -, -, j⟩ := hr_1 h hH rfl
    exact n9_nn j
  rw [if_neg c3]
  by_cases c4 : n % 16 < 12
  · rw [if_pos c4]
    obtain ⟨j, -⟩ := ps_1 h hH (m := n / 16 % 300) (by omega) rfl
    exact n9_nn j
  rw [if_neg c4]
  by_cases c5 : n % 16 = 12
  · rw [if_pos c5]
    obtain ⟨e, -⟩ := bt_1 h (b := n / 16 % 6) (x := 10 + n / 16 / 6 % 200) (y := n / 16 / 7 % 91) (by omega) (by omega) (by omega) rfl
    rw [e]
    exact pif (fun v => ¬ v = -9) (by decide) (n9_nn (nn_ti (by have := (h.1.bt (b := n / 16 % 6) (by omega)).1; omega)))
  rw [if_neg c5]
  by_cases c6 : n % 16 = 13
  · rw [if_pos c6]
    obtain ⟨e, -⟩ := vt_1 h (r := n / 16 % 3) (by omega) (vtV_rng (n / 16)) rfl
    rw [e]
    exact pif (fun v => ¬ v = -9) (by decide) (n9_nn (nn_ti (h.1.rk (r := n / 16 % 3) (by omega)).1.1))
  rw [if_neg c6]
  by_cases c7 : n % 16 = 14
  · rw [if_pos c7]
    obtain ⟨e, -⟩ := sp_1 h (r := n / 16 % 3) (x := n / 16 / 3 % 100) (by omega) (by omega) (stV_rng (n / 16)) rfl
    rw [e]
    exact n9_nn (nn_ti (h.1.rk (r := n / 16 % 3) (by omega)).2.1.1)
  rw [if_neg c7]
  obtain ⟨e, -⟩ := se_1 h (m := n / 16 % 2) (by omega) (fun c => seV_0 c) (fun c => seV_1 c) rfl
  rw [e]
  refine pif (fun v => ¬ v = -9) (by decide) (pif (fun v => ¬ v = -9) (n9_nn (nn_ti ?_)) (n9_nn (nn_ti ?_)))
  · have := h.1.1.2.1; omega
  · have := h.1.1.2.2; omega
