/-! pure: a test is done alike -/
theorem upd_id {z : Nat → Int32} {i : Nat} {v : Int32} (h : z i = v) : upd z i v = z := by
  funext j
  by_cases e : j = i
  · subst e; exact (updA rfl).trans h.symm
  · exact upd_ne e
theorem Rl.n_of {B : Int} {S : SC} {z : Nat → Int32} {n : Nat} (h : Rl B S z) (e : z 3 = nI n) (hn : n ≤ 60) : sN S = n := nI_i (by have := h.n60; omega) (by omega) (h.z3.symm.trans e)
theorem q46_112 : ((46 : Int32) = 112) = False := eq_false (by decide)
theorem q46_115 : ((46 : Int32) = 115) = False := eq_false (by decide)
theorem q46_116 : ((46 : Int32) = 116) = False := eq_false (by decide)
theorem q46_118 : ((46 : Int32) = 118) = False := eq_false (by decide)
theorem q112_46 : ((112 : Int32) = 46) = False := eq_false (by decide)
theorem q112_115 : ((112 : Int32) = 115) = False := eq_false (by decide)
theorem q112_116 : ((112 : Int32) = 116) = False := eq_false (by decide)
theorem q112_118 : ((112 : Int32) = 118) = False := eq_false (by decide)
theorem q115_46 : ((115 : Int32) = 46) = False := eq_false (by decide)
theorem q115_112 : ((115 : Int32) = 112) = False := eq_false (by decide)
theorem q115_116 : ((115 : Int32) = 116) = False := eq_false (by decide)
theorem q115_118 : ((115 : Int32) = 118) = False := eq_false (by decide)
theorem q116_46 : ((116 : Int32) = 46) = False := eq_false (by decide)
theorem q116_112 : ((116 : Int32) = 112) = False := eq_false (by decide)
theorem q116_115 : ((116 : Int32) = 115) = False := eq_false (by decide)
theorem q116_118 : ((116 : Int32) = 118) = False := eq_false (by decide)
theorem q118_46 : ((118 : Int32) = 46) = False := eq_false (by decide)
theorem q118_112 : ((118 : Int32) = 112) = False := eq_false (by decide)
theorem q118_115 : ((118 : Int32) = 115) = False := eq_false (by decide)
theorem q118_116 : ((118 : Int32) = 116) = False := eq_false (by decide)
/-- a thing is done alike, or stopped alike -/
def thQ (z : Nat → Int32) (n : Nat) (td : Nat → Int32) (i : Nat) (a : Int32 × SC) : Prop :=
  (0 ≤ wnR z n td i ∧ ¬ (a.1 < 0 ∧ a.1 ≠ -1005) ∧ Rl 99999 a.2 (dtZ z n td i) ∧ sN a.2 = (if td (4 * i) = 112 then n + 1 else n)) ∨ (¬ 0 ≤ wnR z n td i ∧ a.1 = wnR z n td i ∧ a.1 < 0 ∧ a.1 ≠ -1005)
theorem th_eq {N : SC} {z : Nat → Int32} {T : TX} {td : Nat → Int32} {i : Nat} (h : Rl 99999 N z) (m : mt T td i) (o : okT td i) : thQ z (sN N) td i (doTh N T) := by
  have hn := h.n60
  obtain ⟨mk, m⟩ := m
  have no : ∀ {x y : Int32}, td (4 * i) = x → tK T = y → ¬ x = y → False := fun a b c => c (a.symm.trans (mk.trans b))
  unfold thQ doTh wnR dtZ
  rw [mk]
  rcases o with ⟨o0, o1, o2, o3⟩ | ⟨o0, o1, o2⟩ | ⟨o0, o1, o2⟩ | ⟨o0, o1, o2, o3⟩ | ⟨o0, o1⟩
  · rcases m with ⟨k, m1, m2, m3⟩ | ⟨k, -⟩ | ⟨k, -⟩ | ⟨k, -⟩ | ⟨k, -⟩
    · rw [if_pos k, if_pos k, if_pos k, if_pos k, ← m1, ← m2, ← m3]
      have q := put_eq h (fun _ => 0) 0 (td (4 * i + 1)) (td (4 * i + 2)) (td (4 * i + 3))
      unfold puR at q
      by_cases c : 0 ≤ wpR z (sN N) (td (4 * i + 1)) (td (4 * i + 2)) (td (4 * i + 3))
      · rw [if_pos c] at q
        obtain ⟨q1, q2, -⟩ := q
        refine Or.inl ⟨c, ?_, q2, ?_⟩
        · rw [q1]
          exact fun g => nI_pos (by omega) g.1
        · have := (wpR_ok c).2.2.2
          exact q2.n_of (n := sN N + 1) (ptZ_3 (z := z) (n := sN N) (r := td (4 * i + 1)) (p := td (4 * i + 2)) (b := ixz (td (4 * i + 3)))) (by omega)
      · rw [if_neg c] at q
        obtain ⟨q1, q2, -⟩ := q
        refine Or.inr ⟨c, q1, ?_⟩
        rw [q1]
        show wpR z (sN N) (td (4 * i + 1)) (td (4 * i + 2)) (td (4 * i + 3)) < 0 ∧ wpR z (sN N) (td (4 * i + 1)) (td (4 * i + 2)) (td (4 * i + 3)) ≠ -1005
        unfold wpR at c ⊢
        rw [if_pos o1, if_pos o2, if_pos o3] at c ⊢
        by_cases c1 : lat z (td (4 * i + 1)) (td (4 * i + 2)) (sN N) = -1005
        · rw [if_pos c1] at c ⊢
          by_cases c2 : sN N = 60
          · rw [if_pos c2]; decide
          · rw [if_neg c2] at c; exact absurd le00 c
        · rw [if_neg c1]; decide
    · exact (no o0 k (by decide)).elim
    · exact (no o0 k (by decide)).elim
    · exact (no o0 k (by decide)).elim
    · exact (no o0 k (by decide)).elim
  · rcases m with ⟨k, -⟩ | ⟨k, m1, m2⟩ | ⟨k, -⟩ | ⟨k, -⟩ | ⟨k, -⟩
    · exact (no o0 k (by decide)).elim
    · rw [k]
      simp only [q116_46, q116_112, q116_115, q116_118, if_false, if_true, eq_self]
      rw [← m1, ← m2]
      have q := takeOut_eq h (fun _ => 0) 0 (td (4 * i + 1)) (td (4 * i + 2))
      unfold toR at q
      rw [if_pos o1, if_pos o2] at q
      refine Or.inl ⟨le00, ?_⟩
      rcases lat_60 hn z (td (4 * i + 1)) (td (4 * i + 2)) with c | ⟨j, hj, c⟩
      · rw [if_pos c] at q
        obtain ⟨q1, q2, -⟩ := q
        rw [c, mvZ_0]
        exact ⟨by rw [q1]; exact fun g => g.2 rfl, q2, q2.n_of h.z3 hn⟩
      · rw [if_neg (by rw [c]; exact nI_nmN (by omega))] at q
        obtain ⟨q1, q2, -⟩ := q
        refine ⟨by rw [q1, c]; exact fun g => nI_pos (by omega) g.1, q2, q2.n_of ?_ hn⟩
        rw [c, mvZ_n hj]
        show upd (upd z (28 + 8 * j + 1) (-1005)) (28 + 8 * j + 2) (-1005) 3 = _
        rw [upd_ne (by omega), upd_ne (by omega)]
        exact h.z3
    · exact (no o0 k (by decide)).elim
    · exact (no o0 k (by decide)).elim
    · exact (no o0 k (by decide)).elim
  · rcases m with ⟨k, -⟩ | ⟨k, -⟩ | ⟨k, m1, m2⟩ | ⟨k, -⟩ | ⟨k, -⟩
    · exact (no o0 k (by decide)).elim
    · exact (no o0 k (by decide)).elim
    · rw [k]
      simp only [q118_46, q118_112, q118_115, q118_116, if_false, if_true, eq_self]
      rw [← m1, ← m2]
      have q := setVolts_eq h (fun _ => 0) 0 (td (4 * i + 1)) (td (4 * i + 2))
      unfold svR wvR at q
      rw [if_pos o1, if_pos o2, if_pos le00] at q
      refine Or.inl ⟨le00, ?_⟩
      obtain ⟨r, er, hr2, er2⟩ := in_of e2_ti o1
      have z3 : ∀ v, upd z (16 + 4 * ixz (td (4 * i + 1))) v 3 = nI (sN N) := fun v => by rw [upd_ne (by omega)]; exact h.z3
      by_cases c : zr z (ixz (td (4 * i + 1))) 0 = td (4 * i + 2)
      · rw [if_pos c] at q
        obtain ⟨q1, q2, -⟩ := q
        rw [upd_id (show z (16 + 4 * ixz (td (4 * i + 1))) = td (4 * i + 2) from c)]
        exact ⟨by rw [q1]; exact fun g => g.2 rfl, q2, q2.n_of h.z3 hn⟩
      · rw [if_neg c] at q
        obtain ⟨q1, q2, -⟩ := q
        refine ⟨?_, q2, q2.n_of (z3 _) hn⟩
        rw [q1]
        intro g
        have g1 : zr z (ixz (td (4 * i + 1))) 0 < 0 := g.1
        have := (h.rR (b := ixz (td (4 * i + 1))) (by omega)).2.2.2.2.1.1
        exact nn_ti this g1
    · exact (no o0 k (by decide)).elim
    · exact (no o0 k (by decide)).elim
  · rcases m with ⟨k, -⟩ | ⟨k, -⟩ | ⟨k, -⟩ | ⟨k, m1, m2, m3⟩ | ⟨k, -⟩
    · exact (no o0 k (by decide)).elim
    · exact (no o0 k (by decide)).elim
    · exact (no o0 k (by decide)).elim
    · rw [k]
      simp only [q115_46, q115_112, q115_116, q115_118, if_false, if_true, eq_self]
      rw [← m1, ← m2, ← m3]
      have q := setSteps_eq h (fun _ => 0) 0 (td (4 * i + 1)) (td (4 * i + 2)) (td (4 * i + 3))
      unfold ssR at q
      rw [if_pos o1, if_pos o2, if_pos o3] at q
      obtain ⟨q1, q2, -⟩ := q
      obtain ⟨r, er, hr2, er2⟩ := in_of e2_ti o1
      refine Or.inl ⟨le00, ?_, q2, q2.n_of ?_ hn⟩
      · rw [q1]
        intro g
        have g1 : zr z (ixz (td (4 * i + 1))) 1 < 0 := g.1
        have := (h.rR (b := ixz (td (4 * i + 1))) (by omega)).2.2.2.2.2.1.1
        exact nn_ti this g1
      · show spZ z (ixz (td (4 * i + 1))) (td (4 * i + 2)) (td (4 * i + 3)) 3 = _
        unfold spZ
        rw [upd_ne (by omega), upd_ne (by omega), upd_ne (by omega)]
        exact h.z3
    · exact (no o0 k (by decide)).elim
  · rcases m with ⟨k, -⟩ | ⟨k, -⟩ | ⟨k, -⟩ | ⟨k, -⟩ | ⟨k, m1⟩
    · exact (no o0 k (by decide)).elim
    · exact (no o0 k (by decide)).elim
    · exact (no o0 k (by decide)).elim
    · exact (no o0 k (by decide)).elim
    · rw [k]
      simp only [q46_112, q46_115, q46_116, q46_118, if_false, if_true, eq_self]
      rw [← m1]
      have q := pass_eq h (fun _ => 0) 0 (td (4 * i + 1))
      unfold psR at q
      by_cases c : 0 ≤ wsR z (td (4 * i + 1))
      · rw [if_pos c] at q
        obtain ⟨q1, q2, -⟩ := q
        obtain ⟨k2, hk2, ek⟩ := in_nat1 o1 e999_ti
        have pk := ph_is h.zR k2 (by omega)
        refine Or.inl ⟨c, ?_, q2, q2.n_of ?_ hn⟩
        · rw [q1]
          show ¬ ((phR z (sN N) (ixz (td (4 * i + 1)))).2 < 0 ∧ _)
          rw [ek, ix' (by omega)]
          obtain ⟨-, e, p2, p3⟩ := pk
          have := cN_le (fun j => zl (ysR z (sN N) k2) j 6 ≠ -1005) (sN N)
          rw [p2]
          exact fun g => nI_pos (by omega) g.1
        · show (phR z (sN N) (ixz (td (4 * i + 1)))).1 3 = _
          rw [ek, ix' (by omega), pk.1, (ys_is h.oZ k2).1 3 (by omega) (by omega) (fun k hk => by omega)]
          exact h.z3
      · rw [if_neg c] at q
        obtain ⟨q1, q2, -⟩ := q
        refine Or.inr ⟨c, q1, ?_⟩
        rw [q1]
        show wsR z (td (4 * i + 1)) < 0 ∧ wsR z (td (4 * i + 1)) ≠ -1005
        unfold wsR at c ⊢
        rw [if_pos o1] at c ⊢
        by_cases c1 : z 2 + td (4 * i + 1) ≤ 99999
        · rw [if_pos c1] at c; exact absurd le00 c
        · rw [if_neg c1]; decide
