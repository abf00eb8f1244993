/-- a lamp of a rack has a place there -/
theorem Rl.pl {B : Int} {S : SC} {z : Nat → Int32} (h : Rl B S z) {k r : Nat} (hk : k < sN S) (hr : r < 3) (e : zl z k 1 = nI r) : ∃ p, p < 8 ∧ zl z k 2 = nI p ∧ sA S 8 (r * 8 + p) = nI k := by
  rcases h.rP hk with ⟨a, b, c⟩ | ⟨r', p, hr', hp, a, b, c, d⟩
  · exact absurd (e.symm.trans b) (nI_nmN (by omega))
  · have : r' = r := nI_i (by omega) (by omega) (b.symm.trans e)
    subst this
    exact ⟨p, hp, c, d⟩
theorem inrk_eq {B : Int} {S : SC} {z : Nat → Int32} (h : Rl B S z) {r : Nat} (hr : r < 3) (fl : Int32) : inRk S r fl = lnR z (sN S) (nI r) fl := by
  have hn := h.n60
  have key : ∀ m, m ≤ 8 → cN (fun p => sA S 8 (r * 8 + p) ≠ -1 ∧ (fl ≠ 0 ∨ ¬ sA S 7 (ixz (sA S 8 (r * 8 + p))) ≠ -1)) m = cN (fun j => zl z j 1 = nI r ∧ ((zl z j 2).toInt < m ∧ (fl ≠ 0 ∨ ¬ zl z j 6 ≠ -1005))) (sN S) := by
    intro m
    induction m with
    | zero =>
      intro _
      refine (cN_0 (fun k hk q => ?_)).symm
      obtain ⟨p, hp, e1, e2⟩ := h.pl hk hr q.1
      have := q.2.1
      rw [e1, nI_toInt (by omega)] at this
      omega
    | succ m ih =>
      intro hm
      rw [cN_s, ih (by omega)]
      have un : ∀ j, j < sN S → zl z j 1 = nI r → (zl z j 2).toInt = (m : Int) → sA S 8 (r * 8 + m) = nI j := fun j hj c1 c2 => by
        obtain ⟨p, hp, f1, f2⟩ := h.pl hj hr c1
        rw [f1, nI_toInt (by omega)] at c2
        have : p = m := by omega
        subst this
        exact f2
      rcases h.lt8 (r := r) (p := m) hr (by omega) with q | ⟨k, hk, e1, e3, e4, e5, -⟩
      · rw [if_neg (fun c => c.1 q.1)]
        refine cN_c (fun j hj => ?_)
        constructor
        · intro c
          exact ⟨c.1, by have := c.2.1; omega, c.2.2⟩
        · intro c
          refine ⟨c.1, ?_, c.2.2⟩
          refine Classical.byContradiction (fun g => ?_)
          have := un j hj c.1 (by have := c.2.1; omega)
          exact nI_nm1 (k := j) (by omega) (this.symm.trans q.1)
      · have e6 : ixz (nI k) = k := nI_clamp (by omega)
        have hd := (h.rD hk).dead
        have e5' : (zl z k 2).toInt = m := by rw [e5, nI_toInt (by omega)]
        by_cases c : fl ≠ 0 ∨ ¬ zl z k 6 ≠ -1005
        · rw [if_pos ⟨by rw [e1]; exact nI_nm1 (by omega), by rw [e1, e6]; exact c.imp id (fun g q => g (hd.mp q))⟩]
          refine (cN_ins hk (fun g => by have := g.2.1; omega) (fun j hj => ?_)).symm
          constructor
          · intro g
            by_cases g2 : (zl z j 2).toInt < m
            · exact Or.inl ⟨g.1, g2, g.2.2⟩
            · refine Or.inr (nI_i (by omega) (by omega) ((un j hj g.1 (by have := g.2.1; omega)).symm.trans e1))
          · intro g
            rcases g with g | g
            · exact ⟨g.1, by have := g.2.1; omega, g.2.2⟩
            · subst g; exact ⟨e4, by omega, c⟩
        · rw [if_neg (fun g => c (by have := g.2; rw [e1, e6] at this; exact this.imp id (fun g q => g (hd.mpr q))))]
          refine cN_c (fun j hj => ?_)
          constructor
          · intro g
            exact ⟨g.1, by have := g.2.1; omega, g.2.2⟩
          · intro g
            refine ⟨g.1, ?_, g.2.2⟩
            refine Classical.byContradiction (fun g2 => ?_)
            have : j = k := nI_i (by omega) (by omega) ((un j hj g.1 (by have := g.2.1; omega)).symm.trans e1)
            subst this
            exact c g.2.2
  unfold inRk lnR
  rw [cnt_N, cnt_N, key 8 (by omega)]
  refine nI_eq' (cN_c (fun j hj => ?_))
  constructor
  · intro g; exact ⟨g.1, g.2.2⟩
  · intro g
    obtain ⟨p, hp, f1, -⟩ := h.pl hj hr g.1
    exact ⟨g.1, by rw [f1, nI_toInt (by omega)]; omega, g.2⟩
theorem rack_eq {B : Int} {S : SC} {z : Nat → Int32} (h : Rl B S z) (r w : Int32) : trS S r w = rkR z (sN S) r w := by
  unfold trS rkR
  by_cases hr : 0 ≤ r ∧ r ≤ 2
  · rw [if_pos hr, if_pos hr]
    obtain ⟨a, rfl, ha, ea⟩ := in_of e2_ti hr
    obtain ⟨b1, b2, b3, b4, b5⟩ := h.rR (show a < 3 by omega)
    rw [ea, b1, b2, b3, b4, inrk_eq h (r := a) (by omega), inrk_eq h (r := a) (by omega), h.wr, h.wr]
    unfold hTS
    rfl
  · rw [if_neg hr, if_neg hr]
