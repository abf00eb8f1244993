/-! pure: the text is read alike -/
theorem and_t {q : Bool × TX} {U : TX} {g : TX → Bool × TX} (h : q = (true, U)) : andT q g = g U := by subst h; rfl
theorem and_f {q : Bool × TX} {U : TX} {g : TX → Bool × TX} (h : q = (false, U)) : andT q g = (false, U) := by subst h; rfl
theorem thn_y {Q : Bool × PS} {p : Nat} {td : Nat → Int32} {g : PS → Bool × PS} (h : Q = (true, (p, td))) : thn Q g = g (p, td) := by subst h; rfl
theorem thn_n {Q : Bool × PS} {p : Nat} {td : Nat → Int32} {g : PS → Bool × PS} (h : Q = (false, (p, td))) : thn Q g = (false, (p, td)) := by subst h; rfl
section TXT
variable {f : Nat → Int32} {ln : Nat}
theorem cur_in {T : TX} {sp : Nat} (hp : tP T = sp) (h : sp < ln) : cur f ln T = f sp := by
  unfold cur
  rw [hp, if_pos h]
theorem cur_out {T : TX} {sp : Nat} (hp : tP T = sp) (h : ¬ sp < ln) : cur f ln T = -1 := by
  unfold cur
  rw [hp, if_neg h]
theorem i32_anti {x y : Int32} (h1 : x ≤ y) (h2 : y ≤ x) : x = y := eq_ti.mpr (Int.le_antisymm (le_ti.mp h1) (le_ti.mp h2))
theorem sgn_is {U : TX} {sp : Nat} (td : Nat → Int32) {s : Int32} (hs : ¬ -1 = s) (hp : tP U = sp) (hl : sp ≤ ln) : (rdS f ln U s = (true, uP U (sp + 1)) ∧ tkF f ln s (sp, td) = (true, (sp + 1, td)) ∧ sp + 1 ≤ ln) ∨ (rdS f ln U s = (false, U) ∧ tkF f ln s (sp, td) = (false, (sp, td))) := by
  unfold rdS tkF
  by_cases h : sp < ln
  · rw [cur_in hp h]
    by_cases c : f sp = s
    · rw [if_pos c, if_pos ⟨h, by rw [c]; exact Int32.le_refl _, by rw [c]; exact Int32.le_refl _⟩, hp]
      exact Or.inl ⟨rfl, rfl, h⟩
    · rw [if_neg c, if_neg (fun q => c (i32_anti q.2.2 q.2.1))]
      exact Or.inr ⟨rfl, rfl⟩
  · rw [cur_out hp h, if_neg hs, if_neg (fun q => h q.1)]
    exact Or.inr ⟨rfl, rfl⟩
theorem e48_ti : (48 : Int32).toInt = 48 := by decide
theorem e57_ti : (57 : Int32).toInt = 57 := by decide
theorem nuL_0 {hi : Int32} (hh : hi.toInt ≤ 9) (d sp : Nat) {n : Int32} (hn : n.toInt ≤ 9) : nuL f ln hi d sp n = (sp, n) := by
  cases d with
  | zero => rfl
  | succ d =>
    unfold nuL
    by_cases c1 : 0 < n
    · rw [if_pos c1]
      by_cases c2 : seS f ln sp 48 57
      · rw [if_pos c2, if_neg]
        intro q
        have q1 := le_ti.mp q
        have a1 := le_ti.mp c2.2.1
        have a2 := le_ti.mp c2.2.2
        have c3 := gt0_ti.mp c1
        rw [e48_ti] at a1
        rw [e57_ti] at a2
        have m1 := ml_ti (x := 10) (y := n) (by rw [e10_ti]; omega)
        rw [e10_ti] at m1
        have m2 := ad_ti (x := 10 * n) (y := f sp) (by rw [m1]; omega)
        rw [m1] at m2
        rw [sb_ti (x := 10 * n + f sp) (y := 48) (by rw [m2, e48_ti]; omega), m2, e48_ti] at q1
        omega
      · rw [if_neg c2]
    · rw [if_neg c1]
theorem m9_id {x : Int32} (h : x ≤ 9) : m9 x = x := if_pos h
theorem dig_is {U : TX} {sp tm k : Nat} (td : Nat → Int32) {m : Int32} (hm : 0 ≤ m ∧ m ≤ 9) (hp : tP U = sp) (hl : sp ≤ ln) : (∃ (p : Nat) (v : Int32), rdD f ln U m = (true, uP (uNb U v) p) ∧ nuF f ln tm k 0 m (sp, td) = (true, (p, upd td (4 * tm + k) v)) ∧ p ≤ ln) ∨ (rdD f ln U m = (false, U) ∧ nuF f ln tm k 0 m (sp, td) = (false, (sp, td))) := by
  have m1 := z_le hm.1
  have m2 := le_ti.mp hm.2
  have e9 : (9 : Int32).toInt = 9 := by decide
  rw [e9] at m2
  have z0 : m9 0 = 0 := m9_id (by decide)
  have z48 : (48 : Int32) + 0 = 48 := by decide
  unfold rdD nuF
  rw [m9_id hm.2, z0, z48]
  by_cases h : sp < ln
  · rw [cur_in hp h]
    by_cases c : 48 ≤ f sp ∧ f sp ≤ 48 + m
    · rw [if_pos c, if_pos (show seS f ln sp 48 (48 + m) from ⟨h, c⟩)]
      have a1 := le_ti.mp c.1
      have a2 := le_ti.mp c.2
      rw [e48_ti] at a1
      rw [ad_ti (by rw [e48_ti]; omega), e48_ti] at a2
      have s := sb_ti (x := f sp) (y := 48) (by rw [e48_ti]; omega)
      rw [e48_ti] at s
      show (∃ (p : Nat) (v : Int32), (true, uP (uNb U (f sp - 48)) (tP U + 1)) = (true, uP (uNb U v) p) ∧ (true, ((nuL f ln m 60 (sp + 1) (f sp - 48)).1, upd td (4 * tm + k) (nuL f ln m 60 (sp + 1) (f sp - 48)).2)) = (true, (p, upd td (4 * tm + k) v)) ∧ p ≤ ln) ∨ _
      rw [nuL_0 (by omega) 60 (sp + 1) (by omega), hp]
      exact Or.inl ⟨sp + 1, f sp - 48, rfl, rfl, h⟩
    · rw [if_neg c, if_neg (fun q : seS f ln sp 48 (48 + m) => c q.2)]
      exact Or.inr ⟨rfl, rfl⟩
  · rw [cur_out hp h, if_neg (fun q => absurd q.1 (by decide)), if_neg (fun q : seS f ln sp 48 (48 + m) => h q.1)]
    exact Or.inr ⟨rfl, rfl⟩
theorem rdL_is {m : Int32} : ∀ (d d' : Nat) (U : TX) (sp : Nat), tP U = sp → sp ≤ ln → ln - sp ≤ d → ln - sp ≤ d' → rdL f ln m d U = uP (uNb U (nuL f ln m d' sp (tN U)).2) (nuL f ln m d' sp (tN U)).1 ∧ (nuL f ln m d' sp (tN U)).1 ≤ ln
  | 0, d', U, sp, hp, hl, h1, h2 => by
    have e : nuL f ln m d' sp (tN U) = (sp, tN U) := by
      cases d' with
      | zero => rfl
      | succ d' =>
        unfold nuL
        by_cases c : 0 < tN U
        · rw [if_pos c, if_neg (fun q : seS f ln sp 48 57 => by have := q.1; omega)]
        · rw [if_neg c]
    rw [e]
    refine ⟨?_, hl⟩
    show U = (sp, tK U, tR U, tL U, tH U, tD U, tN U)
    rw [← hp]
  | d + 1, d', U, sp, hp, hl, h1, h2 => by
    have stop : rdL f ln m (d + 1) U = U → nuL f ln m d' sp (tN U) = (sp, tN U) → rdL f ln m (d + 1) U = uP (uNb U (nuL f ln m d' sp (tN U)).2) (nuL f ln m d' sp (tN U)).1 ∧ (nuL f ln m d' sp (tN U)).1 ≤ ln := fun e1 e2 => by
      rw [e1, e2]
      refine ⟨?_, hl⟩
      show U = (sp, tK U, tR U, tL U, tH U, tD U, tN U)
      rw [← hp]
    by_cases h : sp < ln
    · obtain ⟨d', rfl⟩ : ∃ x, d' = x + 1 := ⟨d' - 1, by omega⟩
      by_cases c1 : 0 < tN U
      · by_cases c2 : 48 ≤ f sp ∧ f sp ≤ 57
        · by_cases c3 : 10 * tN U + f sp - 48 ≤ m
          · have e1 : rdL f ln m (d + 1) U = rdL f ln m d (uP (uNb U (10 * tN U + f sp - 48)) (sp + 1)) := by
              show (if tP U < ln ∧ 0 < tN U ∧ ((48 ≤ cur f ln U ∧ cur f ln U ≤ 57) ∧ 10 * tN U + cur f ln U - 48 ≤ m) then rdL f ln m d (uP (uNb U (10 * tN U + cur f ln U - 48)) (tP U + 1)) else U) = _
              rw [cur_in hp h, hp, if_pos ⟨h, c1, c2, c3⟩]
            have e2 : nuL f ln m (d' + 1) sp (tN U) = nuL f ln m d' (sp + 1) (10 * tN U + f sp - 48) := by
              show (if 0 < tN U then (if seS f ln sp 48 57 then (if 10 * tN U + f sp - 48 ≤ m then nuL f ln m d' (sp + 1) (10 * tN U + f sp - 48) else (sp, tN U)) else (sp, tN U)) else (sp, tN U)) = _
              rw [if_pos c1, if_pos (show seS f ln sp 48 57 from ⟨h, c2⟩), if_pos c3]
            rw [e1, e2]
            exact rdL_is d d' (uP (uNb U (10 * tN U + f sp - 48)) (sp + 1)) (sp + 1) rfl h (by omega) (by omega)
          · refine stop ?_ ?_
            · show (if tP U < ln ∧ 0 < tN U ∧ ((48 ≤ cur f ln U ∧ cur f ln U ≤ 57) ∧ 10 * tN U + cur f ln U - 48 ≤ m) then rdL f ln m d (uP (uNb U (10 * tN U + cur f ln U - 48)) (tP U + 1)) else U) = _
              rw [cur_in hp h, if_neg (fun q => c3 q.2.2.2)]
            · show (if 0 < tN U then (if seS f ln sp 48 57 then (if 10 * tN U + f sp - 48 ≤ m then nuL f ln m d' (sp + 1) (10 * tN U + f sp - 48) else (sp, tN U)) else (sp, tN U)) else (sp, tN U)) = _
              rw [if_pos c1, if_pos (show seS f ln sp 48 57 from ⟨h, c2⟩), if_neg c3]
        · refine stop ?_ ?_
          · show (if tP U < ln ∧ 0 < tN U ∧ ((48 ≤ cur f ln U ∧ cur f ln U ≤ 57) ∧ 10 * tN U + cur f ln U - 48 ≤ m) then rdL f ln m d (uP (uNb U (10 * tN U + cur f ln U - 48)) (tP U + 1)) else U) = _
            rw [cur_in hp h, if_neg (fun q => c2 q.2.2.1)]
          · show (if 0 < tN U then (if seS f ln sp 48 57 then (if 10 * tN U + f sp - 48 ≤ m then nuL f ln m d' (sp + 1) (10 * tN U + f sp - 48) else (sp, tN U)) else (sp, tN U)) else (sp, tN U)) = _
            rw [if_pos c1, if_neg (fun q : seS f ln sp 48 57 => c2 q.2)]
      · refine stop ?_ ?_
        · show (if tP U < ln ∧ 0 < tN U ∧ ((48 ≤ cur f ln U ∧ cur f ln U ≤ 57) ∧ 10 * tN U + cur f ln U - 48 ≤ m) then rdL f ln m d (uP (uNb U (10 * tN U + cur f ln U - 48)) (tP U + 1)) else U) = _
          rw [if_neg (fun q => c1 q.2.1)]
        · show (if 0 < tN U then (if seS f ln sp 48 57 then (if 10 * tN U + f sp - 48 ≤ m then nuL f ln m d' (sp + 1) (10 * tN U + f sp - 48) else (sp, tN U)) else (sp, tN U)) else (sp, tN U)) = _
          rw [if_neg c1]
    · refine stop ?_ ?_
      · show (if tP U < ln ∧ 0 < tN U ∧ ((48 ≤ cur f ln U ∧ cur f ln U ≤ 57) ∧ 10 * tN U + cur f ln U - 48 ≤ m) then rdL f ln m d (uP (uNb U (10 * tN U + cur f ln U - 48)) (tP U + 1)) else U) = _
        rw [hp, if_neg (fun q => h q.1)]
      · cases d' with
        | zero => rfl
        | succ d' =>
          show (if 0 < tN U then (if seS f ln sp 48 57 then (if 10 * tN U + f sp - 48 ≤ m then nuL f ln m d' (sp + 1) (10 * tN U + f sp - 48) else (sp, tN U)) else (sp, tN U)) else (sp, tN U)) = _
          by_cases c : 0 < tN U
          · rw [if_pos c, if_neg (fun q : seS f ln sp 48 57 => h q.1)]
          · rw [if_neg c]
theorem num_is {U : TX} {sp tm k : Nat} (td : Nat → Int32) {lo m : Int32} (hlo : 0 ≤ lo ∧ lo ≤ 1) (hm : ¬ m ≤ 9) (hp : tP U = sp) (hl : sp ≤ ln) (hl60 : ln ≤ 60) : (∃ (p : Nat) (v : Int32), rdNum f ln U lo m = (true, uP (uNb U v) p) ∧ nuF f ln tm k lo m (sp, td) = (true, (p, upd td (4 * tm + k) v)) ∧ p ≤ ln) ∨ (rdNum f ln U lo m = (false, U) ∧ nuF f ln tm k lo m (sp, td) = (false, (sp, td))) := by
  have z9 : m9 m = 9 := if_neg hm
  have z0 : m9 lo = lo := m9_id (Int32.le_trans hlo.2 (by decide))
  have z57 : (48 : Int32) + 9 = 57 := by decide
  unfold rdNum nuF
  rw [z9, z0, z57]
  by_cases h : sp < ln
  · rw [cur_in hp h]
    by_cases c : 48 + lo ≤ f sp ∧ f sp ≤ 57
    · rw [if_pos c, if_pos (show seS f ln sp (48 + lo) 57 from ⟨h, c⟩)]
      obtain ⟨r1, r2⟩ := rdL_is (m := m) (ln + 1) 60 (uP (uNb U (f sp - 48)) (sp + 1)) (sp + 1) rfl h (by omega) (by omega)
      rw [hp, r1]
      exact Or.inl ⟨(nuL f ln m 60 (sp + 1) (f sp - 48)).1, (nuL f ln m 60 (sp + 1) (f sp - 48)).2, rfl, rfl, r2⟩
    · rw [if_neg c, if_neg (fun q : seS f ln sp (48 + lo) 57 => c q.2)]
      exact Or.inr ⟨rfl, rfl⟩
  · rw [cur_out hp h, if_neg, if_neg (fun q : seS f ln sp (48 + lo) 57 => h q.1)]
    · exact Or.inr ⟨rfl, rfl⟩
    · intro q
      have q1 := le_ti.mp q.1
      have a1 := z_le hlo.1
      have a2 := le_ti.mp hlo.2
      rw [e1_ti] at a2
      rw [ad_ti (by rw [e48_ti]; omega), e48_ti, m1_ti] at q1
      omega
end TXT
