/-! pure: what changes, changes alike -/
theorem rlB.cg {S S' : SC} {z z' : Nat → Int32} {b : Nat} (h : rlB S z b) (a0 : sA S' 0 b = sA S 0 b) (a1 : sA S' 1 b = sA S 1 b) (b0 : z' (4 + 2 * b) = z (4 + 2 * b)) (b1 : z' (4 + 2 * b + 1) = z (4 + 2 * b + 1)) : rlB S' z' b := by
  unfold rlB at *
  rw [a0, a1, b0, b1]
  exact h
theorem rlR.cg {S S' : SC} {z z' : Nat → Int32} {r : Nat} (h : rlR S z r) (a0 : sA S' 9 r = sA S 9 r) (a1 : sA S' 10 r = sA S 10 r) (a2 : sA S' 11 r = sA S 11 r) (a3 : sA S' 12 r = sA S 12 r) (b0 : zr z' r 0 = zr z r 0) (b1 : zr z' r 1 = zr z r 1) (b2 : zr z' r 2 = zr z r 2) (b3 : zr z' r 3 = zr z r 3) : rlR S' z' r := by
  unfold rlR at *
  rw [a0, a1, a2, a3, b0, b1, b2, b3]
  exact h
theorem rlD.cg {S S' : SC} {z z' : Nat → Int32} {k : Nat} (h : rlD S z k) (a0 : sA S' 2 k = sA S 2 k) (a1 : sA S' 4 k = sA S 4 k) (a2 : sA S' 5 k = sA S 5 k) (a3 : sA S' 6 k = sA S 6 k) (a4 : sA S' 7 k = sA S 7 k) (b : z' 2 = z 2) (b0 : zl z' k 0 = zl z k 0) (b3 : zl z' k 3 = zl z k 3) (b4 : zl z' k 4 = zl z k 4) (b5 : zl z' k 5 = zl z k 5) (b6 : zl z' k 6 = zl z k 6) (b7 : zl z' k 7 = zl z k 7) : rlD S' z' k := by
  unfold rlD at *
  rw [a0, a1, a2, a3, a4, b, b0, b3, b4, b5, b6, b7]
  exact h
theorem rlP.cg {S S' : SC} {z z' : Nat → Int32} {k : Nat} (h : rlP S z k) (a3 : sA S' 3 k = sA S 3 k) (a8 : ∀ j, sA S 8 j = nI k → sA S' 8 j = nI k) (b1 : zl z' k 1 = zl z k 1) (b2 : zl z' k 2 = zl z k 2) : rlP S' z' k := by
  unfold rlP at *
  rw [a3, b1, b2]
  rcases h with h | ⟨r, p, h1, h2, h3, h4, h5, h6⟩
  · exact Or.inl h
  · exact Or.inr ⟨r, p, h1, h2, h3, h4, h5, a8 _ h6⟩
theorem rlH.cg {B : Int} {S S' : SC} {z z' : Nat → Int32} (h : rlH B S z) (a0 : sHr S' = sHr S) (a1 : sWv S' = sWv S) (a2 : sDv S' = sDv S) (a3 : sN S' = sN S) (b0 : z' 0 = z 0) (b1 : z' 1 = z 1) (b2 : z' 2 = z 2) (b3 : z' 3 = z 3) (b : ∀ k, k < 60 → zl z' k 1 = zl z k 1 ∨ (zl z' k 1 = -1005 ∨ ∃ r, r < 3 ∧ zl z' k 1 = nI r)) : rlH B S' z' := by
  obtain ⟨h1, h2, h3, h4, h5, h6, h7, h8, h9, h10, h11⟩ := h
  refine ⟨by rw [a0, b2]; exact h1, by rw [a1, b0]; exact h2, by rw [a2, b1]; exact h3, by rw [a3]; exact h4, by rw [b2]; exact h5, by rw [b0]; exact h6, by rw [b1]; exact h7, by rw [a3]; exact h8, by rw [a3, b3]; exact h9, by rw [b1]; exact h10, fun k hk => ?_⟩
  rcases b k hk with q | q
  · rw [q]; exact h11 k hk
  · exact q
/-- an act of the object and an act of the reference do alike -/
def eqA (B : Int) (z f : Nat → Int32) (ns : Nat) (a : Int32 × SC) (q : Int32 × RZ) : Prop := a.1 = q.1 ∧ Rl B a.2 q.2.1 ∧ ((a.1 < 0 ∧ q.2.2.1 = f ∧ q.2.2.2 = ns) ∨ (¬ a.1 < 0 ∧ q.2.2.1 = rcF f ns z ∧ q.2.2.2 = rcN ns))
theorem eqA.no {B : Int} {S : SC} {z f : Nat → Int32} {ns : Nat} (h : Rl B S z) (v : Int32) (hv : v < 0) : eqA B z f ns (v, S) (v, z, f, ns) := ⟨rfl, h, Or.inl ⟨hv, rfl, rfl⟩⟩
theorem eqA.go {B : Int} {S' : SC} {z z' f : Nat → Int32} {ns : Nat} {v w : Int32} (e : v = w) (h : Rl B S' z') (hv : ¬ v < 0) : eqA B z f ns (v, S') (w, z', rcF f ns z, rcN ns) := ⟨e, h, Or.inr ⟨hv, rfl, rfl⟩⟩
theorem le00 : (0 : Int32) ≤ 0 := by decide
theorem nle1 : ¬ (0 : Int32) ≤ -1001 := by decide
theorem nle2 : ¬ (0 : Int32) ≤ -1002 := by decide
theorem nle3 : ¬ (0 : Int32) ≤ -1003 := by decide
theorem nle4 : ¬ (0 : Int32) ≤ -1004 := by decide
theorem nn_ti {x : Int32} (h : 0 ≤ x.toInt) : ¬ x < 0 := fun q => by
  have := lt_ti.mp q
  rw [e0_ti] at this
  omega
theorem e9999_ti : (9999 : Int32).toInt = 9999 := by decide
theorem e90_ti : (90 : Int32).toInt = 90 := by decide
theorem e100_ti : (100 : Int32).toInt = 100 := by decide
theorem e99_ti : (99 : Int32).toInt = 99 := by decide
theorem e50_ti : (50 : Int32).toInt = 50 := by decide
theorem m50_ti : (-50 : Int32).toInt = -50 := by decide
theorem z_le {x : Int32} (h : 0 ≤ x) : 0 ≤ x.toInt := by have := le_ti.mp h; rw [e0_ti] at this; exact this
theorem updA {f : Nat → Int32} {i j : Nat} {v : Int32} (h : j = i) : upd f i v j = v := if_pos h
theorem setBatch_eq {B : Int} {S : SC} {z : Nat → Int32} (h : Rl B S z) (f : Nat → Int32) (ns : Nat) (b li sp : Int32) : eqA B z f ns (chBatch S b li sp) (sbR z f ns b li sp) := by
  unfold chBatch sbR
  by_cases hb : 0 ≤ b ∧ b ≤ 5
  · rw [if_pos hb, if_pos hb]
    by_cases hl : 10 ≤ li ∧ li ≤ 9999
    · rw [if_pos hl]
      by_cases hs : 0 ≤ sp ∧ sp ≤ 90
      · rw [if_pos ⟨hl, hs⟩, if_pos hs]
        obtain ⟨a, rfl, ha, ea⟩ := in_of e5_ti hb
        have hB := h.rB (show a < 6 by omega)
        obtain ⟨b1, b2, b3, b4⟩ := hB
        rw [ea, b1, b2]
        have l1 := le_ti.mp hl.1
        have l2 := le_ti.mp hl.2
        have s1 := le_ti.mp hs.1
        have s2 := le_ti.mp hs.2
        rw [e10_ti] at l1
        rw [e9999_ti] at l2
        rw [e0_ti] at s1
        rw [e90_ti] at s2
        have new : Rl B (uA (uA S 0 (upd (sA S 0) a li)) 1 (upd (sA S 1) a sp)) (upd (upd z (4 + 2 * a) li) (4 + 2 * a + 1) sp) := by
          refine ⟨h.1.cg rfl rfl rfl rfl ?_ ?_ ?_ ?_ (fun k _ => Or.inl ?_), fun c hc => ?_, fun r hr => (h.rR hr).cg rfl rfl rfl rfl ?_ ?_ ?_ ?_, fun k hk => ⟨(h.rD hk).cg rfl rfl rfl rfl rfl ?_ ?_ ?_ ?_ ?_ ?_ ?_, (h.rP hk).cg rfl (fun _ q => q) ?_ ?_⟩, h.rA⟩
          all_goals try exact (upd_ne (by omega)).trans (upd_ne (by omega))
          by_cases e : c = a
          · subst e
            refine ⟨?_, ?_, ?_, ?_⟩
            · show upd (sA S 0) c li c = _
              rw [updA rfl, upd_ne (by omega), updA rfl]
            · show upd (sA S 1) c sp c = _
              rw [updA rfl, updA rfl]
            · rw [upd_ne (by omega), updA rfl]; exact ⟨l1, l2⟩
            · rw [updA rfl]; exact ⟨s1, s2⟩
          · refine (h.rB hc).cg ?_ ?_ ?_ ?_
            · show upd (sA S 0) a li c = _
              rw [upd_ne e]
            · show upd (sA S 1) a sp c = _
              rw [upd_ne e]
            · rw [upd_ne (by omega), upd_ne (by omega)]
            · rw [upd_ne (by omega), upd_ne (by omega)]
        by_cases c1 : z (4 + 2 * a) = li
        · by_cases c2 : z (4 + 2 * a + 1) = sp
          · rw [if_pos ⟨c1, c2⟩, if_pos c1, if_pos c2]
            exact eqA.no h _ (by decide)
          · rw [if_neg (fun q => c2 q.2), if_pos c1, if_neg c2]
            exact eqA.go rfl new (nn_ti (by omega))
        · rw [if_neg (fun q => c1 q.1), if_neg c1]
          exact eqA.go rfl new (nn_ti (by omega))
      · rw [if_neg (fun q => hs q.2), if_neg hs]
        exact eqA.no h _ (by decide)
    · rw [if_neg (fun q => hl q.1), if_neg hl]
      exact eqA.no h _ (by decide)
  · rw [if_neg hb, if_neg hb]
    exact eqA.no h _ (by decide)
/-- a rack's numbers are laid -/
theorem Rl.rack {B : Int} {S S' : SC} {z z' : Nat → Int32} (h : Rl B S z) {a : Nat} (e0 : sHr S' = sHr S) (e1 : sWv S' = sWv S) (e2 : sDv S' = sDv S) (e3 : sN S' = sN S) (e4 : ∀ j, j < 9 → sA S' j = sA S j) (e5 : ∀ r, r ≠ a → sA S' 9 r = sA S 9 r ∧ sA S' 10 r = sA S 10 r ∧ sA S' 11 r = sA S 11 r ∧ sA S' 12 r = sA S 12 r) (e6 : ∀ j, (j < 16 + 4 * a ∨ 16 + 4 * a + 4 ≤ j) → z' j = z j) (new : rlR S' z' a) (ha : a < 3) : Rl B S' z' := by
  have hn := h.n60
  refine ⟨h.1.cg e0 e1 e2 e3 ?_ ?_ ?_ ?_ (fun k hk => Or.inl ?_), fun c hc => (h.rB hc).cg (by rw [e4 _ (by omega)]) (by rw [e4 _ (by omega)]) ?_ ?_, fun r hr => ?_, fun k hk => ?_, ?_⟩
  all_goals try exact e6 _ (by omega)
  · by_cases e : r = a
    · subst e; exact new
    · obtain ⟨q1, q2, q3, q4⟩ := e5 r e
      exact (h.rR hr).cg q1 q2 q3 q4 (e6 _ (by omega)) (e6 _ (by omega)) (e6 _ (by omega)) (e6 _ (by omega))
  · rw [e3] at hk
    refine ⟨(h.rD hk).cg ?_ ?_ ?_ ?_ ?_ ?_ ?_ ?_ ?_ ?_ ?_ ?_, (h.rP hk).cg ?_ ?_ ?_ ?_⟩
    all_goals first | exact e6 _ (by omega) | (intro j q; rw [e4 _ (by omega)]; exact q) | rw [e4 _ (by omega)]
  · have := h.rA
    unfold rlA at *
    rw [e3, e4 8 (by omega), e4 3 (by omega)]
    exact this
theorem rlR.v {S : SC} {z : Nat → Int32} {a : Nat} {v : Int32} (h : rlR S z a) (hv : 0 ≤ v.toInt ∧ v.toInt ≤ 300) : rlR (uA S 9 (upd (sA S 9) a v)) (upd z (16 + 4 * a) v) a := by
  obtain ⟨h1, h2, h3, h4, h5⟩ := h
  refine ⟨?_, ?_, ?_, ?_, ?_⟩
  · show upd (sA S 9) a v a = upd z (16 + 4 * a) v (16 + 4 * a + 0)
    exact (updA rfl).trans (updA rfl).symm
  · show sA S 10 a = upd z (16 + 4 * a) v (16 + 4 * a + 1)
    rw [upd_ne (by omega)]; exact h2
  · show sA S 11 a = upd z (16 + 4 * a) v (16 + 4 * a + 2)
    rw [upd_ne (by omega)]; exact h3
  · show sA S 12 a = upd z (16 + 4 * a) v (16 + 4 * a + 3)
    rw [upd_ne (by omega)]; exact h4
  · show okR (upd z (16 + 4 * a) v (16 + 4 * a + 0)) (upd z (16 + 4 * a) v (16 + 4 * a + 1)) (upd z (16 + 4 * a) v (16 + 4 * a + 2)) (upd z (16 + 4 * a) v (16 + 4 * a + 3))
    rw [show upd z (16 + 4 * a) v (16 + 4 * a + 0) = v from updA rfl, upd_ne (by omega), upd_ne (by omega), upd_ne (by omega)]
    exact ⟨hv, h5.2⟩
theorem Rl.volts {B : Int} {S : SC} {z : Nat → Int32} (h : Rl B S z) {a : Nat} (ha : a < 3) {v : Int32} (hv : 0 ≤ v.toInt ∧ v.toInt ≤ 300) : Rl B (uA S 9 (upd (sA S 9) a v)) (upd z (16 + 4 * a) v) :=
  h.rack (a := a) rfl rfl rfl rfl (fun j hj => by
    show va_up S.2.2.2.2 9 _ j = _
    rw [va_up_ne _ _ (by omega)]) (fun r hr => ⟨upd_ne hr, rfl, rfl, rfl⟩) (fun j hj => upd_ne (by omega)) ((h.rR ha).v hv) ha
theorem setVolts_eq {B : Int} {S : SC} {z : Nat → Int32} (h : Rl B S z) (f : Nat → Int32) (ns : Nat) (r v : Int32) : eqA B z f ns (chVolts S r v) (svR z f ns r v) := by
  unfold chVolts svR wvR
  by_cases hr : 0 ≤ r ∧ r ≤ 2
  · rw [if_pos hr, if_pos hr]
    by_cases hv : 0 ≤ v ∧ v ≤ 300
    · rw [if_pos hv, if_pos hv, if_pos le00]
      obtain ⟨a, rfl, ha, ea⟩ := in_of e2_ti hr
      have hR := h.rR (show a < 3 by omega)
      have v1 := le_ti.mp hv.1
      have v2 := le_ti.mp hv.2
      rw [e0_ti] at v1
      rw [e300_ti] at v2
      rw [ea, hR.1]
      by_cases c : zr z a 0 = v
      · rw [if_pos c, if_pos c]
        exact eqA.no h _ (by decide)
      · rw [if_neg c, if_neg c]
        exact eqA.go rfl (h.volts (by omega) ⟨v1, v2⟩) (nn_ti hR.2.2.2.2.1.1)
    · rw [if_neg hv, if_neg hv, if_neg nle2]
      exact eqA.no h _ (by decide)
  · rw [if_neg hr, if_neg hr, if_neg nle1]
    exact eqA.no h _ (by decide)
theorem Rl.steps {B : Int} {S : SC} {z : Nat → Int32} (h : Rl B S z) {a : Nat} (ha : a < 3) {x v : Int32} (hx : 0 ≤ x.toInt ∧ x.toInt ≤ 99) (hv : -50 ≤ v.toInt ∧ v.toInt ≤ 50) : Rl B (uA (uA (uA S 10 (upd (sA S 10) a x)) 11 (upd (sA S 11) a v)) 12 (upd (sA S 12) a 0)) (spZ z a x v) := by
  refine h.rack (a := a) rfl rfl rfl rfl (fun j hj => ?_) (fun r hr => ⟨rfl, upd_ne hr, upd_ne hr, upd_ne hr⟩) (fun j hj => ?_) ?_ ha
  · show va_up (va_up (va_up S.2.2.2.2 10 _) 11 _) 12 _ j = _
    rw [va_up_ne _ _ (by omega), va_up_ne _ _ (by omega), va_up_ne _ _ (by omega)]
  · unfold spZ
    rw [upd_ne (by omega), upd_ne (by omega), upd_ne (by omega)]
  · obtain ⟨h1, h2, h3, h4, h5⟩ := h.rR ha
    have z0 : zr (spZ z a x v) a 0 = zr z a 0 := by
      show spZ z a x v (16 + 4 * a + 0) = _
      unfold spZ
      rw [upd_ne (by omega), upd_ne (by omega), upd_ne (by omega)]
    have z1 : zr (spZ z a x v) a 1 = x := by
      show spZ z a x v (16 + 4 * a + 1) = _
      unfold spZ
      rw [upd_ne (by omega), upd_ne (by omega), updA rfl]
    have z2 : zr (spZ z a x v) a 2 = v := by
      show spZ z a x v (16 + 4 * a + 2) = _
      unfold spZ
      rw [upd_ne (by omega), updA rfl]
    have z3 : zr (spZ z a x v) a 3 = 0 := by
      show spZ z a x v (16 + 4 * a + 3) = _
      unfold spZ
      rw [updA rfl]
    unfold rlR
    rw [z0, z1, z2, z3]
    refine ⟨h1, updA rfl, updA rfl, updA rfl, h5.1, hx, hv, ?_, ?_, ?_⟩
    · rw [e0_ti]; omega
    · intro _; exact e0_ti
    · intro q; rw [e0_ti]; exact q
theorem setSteps_eq {B : Int} {S : SC} {z : Nat → Int32} (h : Rl B S z) (f : Nat → Int32) (ns : Nat) (r x v : Int32) : eqA B z f ns (chSteps S r x v) (ssR z f ns r x v) := by
  unfold chSteps ssR
  by_cases hr : 0 ≤ r ∧ r ≤ 2
  · rw [if_pos hr, if_pos hr]
    by_cases hx : 0 ≤ x ∧ x ≤ 99
    · rw [if_pos hx]
      by_cases hv : -50 ≤ v ∧ v ≤ 50
      · rw [if_pos ⟨hx, hv⟩, if_pos hv]
        obtain ⟨a, rfl, ha, ea⟩ := in_of e2_ti hr
        have hR := h.rR (show a < 3 by omega)
        have x1 := le_ti.mp hx.1
        have x2 := le_ti.mp hx.2
        have v1 := le_ti.mp hv.1
        have v2 := le_ti.mp hv.2
        rw [e0_ti] at x1
        rw [e99_ti] at x2
        rw [m50_ti] at v1
        rw [e50_ti] at v2
        rw [ea, hR.2.1]
        exact eqA.go rfl (h.steps (by omega) ⟨x1, x2⟩ ⟨v1, v2⟩) (nn_ti hR.2.2.2.2.2.1.1)
      · rw [if_neg (fun q => hv q.2), if_neg hv]
        exact eqA.no h _ (by decide)
    · rw [if_neg (fun q => hx q.1), if_neg hx]
      exact eqA.no h _ (by decide)
  · rw [if_neg hr, if_neg hr]
    exact eqA.no h _ (by decide)
theorem ixz_0 : ixz (0 : Int32) = 0 := nI_clamp (n := 0) (by decide)
theorem ixz_1 : ixz (1 : Int32) = 1 := nI_clamp (n := 1) (by decide)
theorem set_eq {B : Int} {S : SC} {z : Nat → Int32} (h : Rl B S z) (f : Nat → Int32) (ns : Nat) (w v : Int32) : eqA B z f ns (chSet S w v) (stR z f ns w v) := by
  have hn := h.n60
  obtain ⟨h1, h2, h3, h4, h5, h6, h7, h8, h9, h10, h11⟩ := h.1
  unfold chSet stR
  by_cases w0 : w = 0
  · subst w0
    rw [if_pos rfl, if_pos (by decide), if_pos rfl, if_pos rfl, ixz_0]
    unfold chWv
    by_cases hv : 100 ≤ v ∧ v ≤ 300
    · rw [if_pos hv, if_pos hv, h2]
      by_cases c : z 0 = v
      · rw [if_pos c, if_pos c]
        refine ⟨rfl, ?_, Or.inl ⟨(show (-1005 : Int32) < 0 by decide), rfl, rfl⟩⟩
        show Rl B (uWv S v) z
        rw [show uWv S v = S from by rw [← c, ← h2]]
        exact h
      · rw [if_neg c, if_neg c]
        have v1 := le_ti.mp hv.1
        have v2 := le_ti.mp hv.2
        rw [e100_ti] at v1
        rw [e300_ti] at v2
        refine eqA.go rfl ?_ (nn_ti (by omega))
        refine ⟨⟨?_, updA rfl |>.symm, ?_, h4, ?_, ?_, ?_, h8, ?_, ?_, fun k hk => ?_⟩, fun c hc => (h.rB hc).cg rfl rfl ?_ ?_, fun r hr => (h.rR hr).cg rfl rfl rfl rfl ?_ ?_ ?_ ?_, fun k hk => ⟨(h.rD hk).cg rfl rfl rfl rfl rfl ?_ ?_ ?_ ?_ ?_ ?_ ?_, (h.rP hk).cg rfl (fun _ q => q) ?_ ?_⟩, h.rA⟩
        all_goals try exact upd_ne (by omega)
        · rw [upd_ne (by omega)]; exact h1
        · rw [upd_ne (by omega)]; exact h3
        · rw [upd_ne (by omega)]; exact h5
        · rw [updA rfl]; exact ⟨v1, v2⟩
        · rw [upd_ne (by omega)]; exact h7
        · rw [upd_ne (by omega)]; exact h9
        · rw [upd_ne (by omega)]; exact h10
        · rw [show zl (upd z 0 v) k 1 = zl z k 1 from upd_ne (by omega)]; exact h11 k hk
    · rw [if_neg hv, if_neg hv]
      exact eqA.no h _ (by decide)
  · rw [if_neg w0]
    by_cases w1 : w = 1
    · subst w1
      rw [if_pos rfl, if_pos (show (0 : Int32) ≤ 1 ∧ (1 : Int32) ≤ 1 by decide), if_neg w0, if_neg w0, ixz_1]
      unfold chDv
      by_cases hv : 1 ≤ v ∧ v ≤ 100
      · rw [if_pos hv, if_pos hv, h3]
        by_cases c : z 1 = v
        · rw [if_pos c, if_pos c]
          refine ⟨rfl, ?_, Or.inl ⟨(show (-1005 : Int32) < 0 by decide), rfl, rfl⟩⟩
          show Rl B (uDv S v) z
          rw [show uDv S v = S from by rw [← c, ← h3]]
          exact h
        · rw [if_neg c, if_neg c]
          have v1 := le_ti.mp hv.1
          have v2 := le_ti.mp hv.2
          rw [e1_ti] at v1
          rw [e100_ti] at v2
          refine eqA.go rfl ?_ (nn_ti (by omega))
          refine ⟨⟨?_, ?_, updA rfl |>.symm, h4, ?_, ?_, ?_, h8, ?_, ?_, fun k hk => ?_⟩, fun c hc => (h.rB hc).cg rfl rfl ?_ ?_, fun r hr => (h.rR hr).cg rfl rfl rfl rfl ?_ ?_ ?_ ?_, fun k hk => ⟨(h.rD hk).cg rfl rfl rfl rfl rfl ?_ ?_ ?_ ?_ ?_ ?_ ?_, (h.rP hk).cg rfl (fun _ q => q) ?_ ?_⟩, h.rA⟩
          all_goals try exact upd_ne (by omega)
          · rw [upd_ne (by omega)]; exact h1
          · rw [upd_ne (by omega)]; exact h2
          · rw [upd_ne (by omega)]; exact h5
          · rw [upd_ne (by omega)]; exact h6
          · rw [updA rfl]; exact ⟨v1, v2⟩
          · rw [upd_ne (by omega)]; exact h9
          · rw [updA rfl]
            intro e
            rw [e, e0_ti] at v1
            omega
          · rw [show zl (upd z 1 v) k 1 = zl z k 1 from upd_ne (by omega)]; exact h11 k hk
      · rw [if_neg hv, if_neg hv]
        exact eqA.no h _ (by decide)
    · rw [if_neg w1, if_neg]
      · exact eqA.no h _ (by decide)
      · intro q
        obtain ⟨k, e, hk, -⟩ := in_of (M := 1) (by decide) q
        rcases (show k = 0 ∨ k = 1 by omega) with e2 | e2 <;> subst e2
        · exact w0 e
        · exact w1 e
