/-! pure: the things of a test one after the other; perform -/
theorem pLp_is {f : Nat → Int32} {ln : Nat} {z : Nat → Int32} {n : Nat} {td : Nat → Int32} : ∀ (m i : Nat) (N : SC) (T : TX), Rl 99999 N (pfS z n td i).1 → sN N = (pfS z n td i).2 → (∀ j, j < m → mt (rdT f ln (tsF f ln j T)).2 td (i + j)) → (∀ j, j < i + m → okT td j) →
    (pfI z n td i m = i + m ∧ (pLp f ln m i N T).1 = none ∧ Rl 99999 (pLp f ln m i N T).2.1 (pfS z n td (i + m)).1) ∨ (∃ q, q < i + m ∧ pfI z n td i m = q ∧ (pLp f ln m i N T).1 = some (q, pfW z n td q))
  | 0, i, N, T, h, hn, _, _ => Or.inl ⟨rfl, rfl, h⟩
  | m + 1, i, N, T, h, hn, hm, ho => by
    have q := th_eq h (hm 0 (by omega)) (ho i (by omega))
    have q0 : thQ (pfS z n td i).1 (pfS z n td i).2 td i (doTh N (rdT f ln T).2) := by rw [← hn]; exact q
    have e1 : pfI z n td i (m + 1) = if 0 ≤ pfW z n td i then pfI z n td (i + 1) m else i := rfl
    have e2 : pLp f ln (m + 1) i N T = if (doTh N (rdT f ln T).2).1 < 0 ∧ (doTh N (rdT f ln T).2).1 ≠ -1005 then (some (i, (doTh N (rdT f ln T).2).1), ((doTh N (rdT f ln T).2).2, (rdT f ln T).2)) else pLp f ln m (i + 1) (doTh N (rdT f ln T).2).2 (rdS f ln (rdT f ln T).2 59).2 := rfl
    rw [e1, e2]
    unfold pfW
    rcases q0 with ⟨c, d, r, s⟩ | ⟨c, d, r, s⟩
    · rw [if_pos c, if_neg d]
      have := pLp_is (f := f) (ln := ln) (z := z) (n := n) (td := td) m (i + 1) (doTh N (rdT f ln T).2).2 (rdS f ln (rdT f ln T).2 59).2 r s (fun j hj => by
        have := hm (j + 1) (by omega)
        rw [tsF_s, show i + (j + 1) = i + 1 + j by omega] at this
        exact this) (fun j hj => ho j (by omega))
      rw [show i + 1 + m = i + (m + 1) by omega] at this
      exact this
    · rw [if_neg c, if_pos ⟨r, s⟩]
      refine Or.inr ⟨i, by omega, rfl, ?_⟩
      rw [d]
theorem cpS_in {f g : Nat → Int32} {fo t k j : Nat} (h : t ≤ j ∧ j < t + k) : cpS f fo g t k j = f (fo + (j - t)) := if_pos h
theorem cpS_out {f g : Nat → Int32} {fo t k j : Nat} (h : ¬ (t ≤ j ∧ j < t + k)) : cpS f fo g t k j = g j := if_neg h
/-- a copy of the row -/
theorem Rl.cp {B : Int} {S : SC} {z g : Nat → Int32} (h : Rl B S z) : Rl B S (cpS z 0 g 0 508) := h.same (fun j hj => by rw [cpS_in (by omega)]; congr 1; omega)
theorem Rl.cp2 {B : Int} {S : SC} {z g y : Nat → Int32} (h : Rl B S z) : Rl B S (cpS (cpS z 0 g 0 508) 0 y 0 508) := h.cp.cp
def pfQ (N : SC) (z g fh : Nat → Int32) (ns : Nat) (e1 e2 : Int32) (R : Int32 × (Option (Nat × Int32) × (SC × (TX × Int32)))) (V : Int32 × (Nat → Int32) × (Nat → Int32) × (Nat → Int32) × Nat × Int32 × Int32) : Prop :=
  R.1 = V.1 ∧ Rl 99999 R.2.2.1 V.2.1 ∧ s1E e1 R.2.1 = V.2.2.2.2.2.1 ∧ s2E e2 R.2.1 = V.2.2.2.2.2.2 ∧ ((R.1 < 0 ∧ V.2.2.2.1 = fh ∧ V.2.2.2.2.1 = ns) ∨ (¬ R.1 < 0 ∧ V.2.2.2.1 = rcF fh ns (cpS z 0 g 0 508) ∧ V.2.2.2.2.1 = rcN ns))
theorem perform_is {N : SC} {z g fh f : Nat → Int32} {ns ln : Nat} {e1 e2 : Int32} (h : Rl 99999 N z) (hl60 : ln ≤ 60) (T : TX) (td : Nat → Int32) : pfQ N z g fh ns e1 e2 (pfR N f ln T) (pfV z g fh ns (sN N) e1 e2 (xtF f ln td)) := by
  have hn := h.n60
  have ok := okX_all (tx := f) hl60 td
  unfold pfQ pfR pfV
  rcases text_is (f := f) hl60 (uP T 0) rfl 0 td with ⟨c, p, td2, X, x1, x2, x3, x4, x5⟩ | ⟨p, x, td2, tm2, x1, x2, x3⟩
  · have okT := (ok _ x2 rfl).2
    rw [x1, x2, if_pos rfl, if_pos rfl]
    show (if (pLp f ln (ixz (nI (c + 1))) 0 N (uP X 0)).1 = none then _ else _ : Int32 × (Option (Nat × Int32) × (SC × (TX × Int32)))).1 = _ ∧ _
    rw [ix' (by omega)]
    have np : pfN z (sN N) (true, (p, (td2, c + 1))) = pfI z (sN N) td2 0 (c + 1) := rfl
    rw [np]
    have l := pLp_is (f := f) (ln := ln) (z := z) (n := sN N) (td := td2) (c + 1) 0 N (uP X 0) h rfl (fun j hj => by rw [Nat.zero_add]; exact x5 (uP X 0) rfl j hj) (fun j hj => okT j (by show j < c + 1; omega))
    rw [Nat.zero_add] at l
    rcases l with ⟨l1, l2, l3⟩ | ⟨q, l0, l1, l2⟩
    · rw [l1, l2, if_pos rfl, if_neg (show ¬ c + 1 < c + 1 by omega)]
      exact ⟨rfl, l3, rfl, rfl, Or.inr ⟨nI_pos (by omega), rfl, rfl⟩⟩
    · rw [l1, l2, if_neg (fun g => by cases g), if_pos (show q < c + 1 from l0)]
      exact ⟨rfl, h.cp2, rfl, rfl, Or.inl ⟨by show (-1004 : Int32) < 0; decide, rfl, rfl⟩⟩
  · rw [x1, x3, if_neg (nI_nm1 (by omega)), if_neg Bool.false_ne_true]
    refine ⟨rfl, h, rfl, rfl, Or.inl ⟨?_, rfl, rfl⟩⟩
    show -1100 - nI p < 0
    have e : (-1100 : Int32).toInt = -1100 := by decide
    rw [lt_ti, sb_ti (by rw [nI_toInt (by omega), e]; omega), nI_toInt (by omega), e, e0_ti]
    omega
/-- the states of the history -/
def hR (s k : Nat) (P : Nat → SC) (f : Nat → Int32) : Prop := ∀ i, i < s → Rl 99999 (P ((i + k) % 4)) (fun j => f (508 * i + j))
theorem hR_rec {s k : Nat} {P : Nat → SC} {f y : Nat → Int32} {N : SC} (h : hR s k P f) (hs : s ≤ 4) (hk : k < 4) (hN : Rl 99999 N y) : hR (nxS s) (nxK s k) (va_up P ((s + k) % 4) N) (rcF f s y) ∧ nxS s = rcN s ∧ nxS s ≤ 4 ∧ nxK s k < 4 := by
  by_cases c : s < 4
  · have e1 : nxS s = s + 1 := if_pos c
    have e2 : nxK s k = k := if_pos c
    have e3 := (rc_n (s := s) (by omega) f y)
    rw [e1, e2, e3.1, e3.2]
    refine ⟨fun i hi => ?_, rfl, by omega, hk⟩
    by_cases e : i = s
    · subst e
      rw [va_up_self]
      refine hN.same (fun j hj => ?_)
      show cpS y 0 f (508 * i) 508 (508 * i + j) = y j
      rw [cpS_in (by omega)]
      exact congrArg y (by omega)
    · rw [va_up_ne _ _ (by omega)]
      refine (h i (by omega)).same (fun j hj => ?_)
      show cpS y 0 f (508 * s) 508 (508 * i + j) = _
      rw [cpS_out (by omega)]
  · have e4 : s = 4 := by omega
    subst e4
    have e1 : nxS 4 = 4 := rfl
    have e2 : nxK 4 k = (k + 1) % 4 := rfl
    rw [e1, e2, (rc_4 f y).1, (rc_4 f y).2]
    refine ⟨fun i hi => ?_, rfl, by omega, by omega⟩
    by_cases e : i = 3
    · subst e
      rw [show (3 + (k + 1) % 4) % 4 = (4 + k) % 4 by omega, va_up_self]
      refine hN.same (fun j hj => ?_)
      show cpS y 0 (shF f 1524) (508 * 3) 508 (508 * 3 + j) = y j
      rw [cpS_in (by omega)]
      exact congrArg y (by omega)
    · rw [va_up_ne _ _ (by omega), show (i + (k + 1) % 4) % 4 = (i + 1 + k) % 4 by omega]
      refine (h (i + 1) (by omega)).same (fun j hj => ?_)
      show cpS y 0 (shF f 1524) (508 * 3) 508 (508 * i + j) = f (508 * (i + 1) + j)
      rw [cpS_out (by omega)]
      show (if 508 * i + j < 1524 then f (508 * i + j + 508) else f (508 * i + j)) = _
      rw [if_pos (by omega)]
      exact congrArg f (by omega)
/-- what stands between two calls -/
def LI (N M : SC) (P : Nat → SC) (s k ln ns lr : Nat) (hk s1 s2 ik e1 e2 : Int32) (fx z f kp tx : Nat → Int32) : Prop := Rl 99999 N z ∧ hR s k P f ∧ (s = ns ∧ s ≤ 4 ∧ k < 4) ∧ (hk = ik ∧ (¬ hk = 0 → Rl 99999 M kp)) ∧ (fx = tx ∧ ln = lr ∧ ln ≤ 60) ∧ s1 = e1 ∧ s2 = e2
section LAW
variable {N M : SC} {P : Nat → SC} {s k ln ns lr : Nat} {hk s1 s2 ik e1 e2 : Int32} {fx z f kp tx : Nat → Int32}
/-- a row y that the reference records, if v tells no error -/
theorem LI.rec (h : LI N M P s k ln ns lr hk s1 s2 ik e1 e2 fx z f kp tx) {v : Int32} {N' : SC} {z' f' y : Nat → Int32} {ns' : Nat} {s1' s2' e1' e2' : Int32} (r : Rl 99999 N' z') (hy : Rl 99999 N y) (c : (v < 0 ∧ f' = f ∧ ns' = ns) ∨ (¬ v < 0 ∧ f' = rcF f ns y ∧ ns' = rcN ns)) (g1 : s1' = e1') (g2 : s2' = e2') : LI N' M (rcP v s k P N) (rcS v s) (rcK v s k) ln ns' lr hk s1' s2' ik e1' e2' fx z' f' kp tx := by
  obtain ⟨h1, h2, ⟨h3, h4, h5⟩, h6, h7, h8, h9⟩ := h
  rcases c with ⟨c, rfl, rfl⟩ | ⟨c, rfl, rfl⟩
  · have a1 : rcS v s = s := if_pos c
    have a2 : rcK v s k = k := if_pos c
    have a3 : rcP v s k P N = P := if_pos c
    rw [a1, a2, a3]
    exact ⟨r, h2, ⟨h3, h4, h5⟩, h6, h7, g1, g2⟩
  · have a1 : rcS v s = nxS s := if_neg c
    have a2 : rcK v s k = nxK s k := if_neg c
    have a3 : rcP v s k P N = va_up P ((s + k) % 4) N := if_neg c
    rw [a1, a2, a3, ← h3]
    obtain ⟨b1, b2, b3, b4⟩ := hR_rec h2 h4 h5 hy
    exact ⟨r, b1, ⟨b2, b3, b4⟩, h6, h7, g1, g2⟩
theorem LI.act (h : LI N M P s k ln ns lr hk s1 s2 ik e1 e2 fx z f kp tx) {a : Int32 × SC} {q : Int32 × RZ} (e : eqA 99999 z f ns a q) : LI a.2 M (rcP a.1 s k P N) (rcS a.1 s) (rcK a.1 s k) ln q.2.2.2 lr hk s1 s2 ik e1 e2 fx q.2.1 q.2.2.1 kp tx := h.rec e.2.1 h.1 e.2.2 h.2.2.2.2.2.1 h.2.2.2.2.2.2
theorem LI.undo (h : LI N M P s k ln ns lr hk s1 s2 ik e1 e2 fx z f kp tx) : unR s = (if ns = 0 then -1005 else nI (ns - 1)) ∧ LI (unN s k P N) M P (s - 1) k ln (ns - 1) lr hk s1 s2 ik e1 e2 fx (unZ z f ns) f kp tx := by
  obtain ⟨h1, h2, ⟨h3, h4, h5⟩, h6⟩ := h
  subst h3
  refine ⟨rfl, ?_, fun i hi => h2 i (by omega), ⟨rfl, by omega, h5⟩, h6⟩
  cases s with
  | zero => exact h1
  | succ s =>
    rw [unZ_s]
    show Rl 99999 (if s + 1 = 0 then N else P ((s + 1 - 1 + k) % 4)) _
    rw [if_neg (by omega), show s + 1 - 1 + k = s + k by omega]
    refine (h2 s (by omega)).same (fun j hj => ?_)
    rw [cpS_in (by omega)]
    rfl
theorem LI.keep (h : LI N M P s k ln ns lr hk s1 s2 ik e1 e2 fx z f kp tx) : nI (sN N) = z 3 ∧ LI N N P s k ln ns lr 1 s1 s2 1 e1 e2 fx z f (cpS z 0 kp 0 508) tx := ⟨h.1.z3.symm, h.1, h.2.1, h.2.2.1, ⟨rfl, fun _ => h.1.cp⟩, h.2.2.2.2⟩
theorem LI.restore (h : LI N M P s k ln ns lr hk s1 s2 ik e1 e2 fx z f kp tx) : rsR hk M = (if ik = 0 then -1005 else cpS kp 0 z 0 508 3) ∧ LI (rsN hk N M) M (rcP (rsR hk M) s k P N) (rcS (rsR hk M) s) (rcK (rsR hk M) s k) ln (if ik = 0 then ns else rcN ns) lr hk s1 s2 ik e1 e2 fx (if ik = 0 then z else cpS kp 0 z 0 508) (if ik = 0 then f else rcF f ns z) kp tx := by
  obtain ⟨h6, h7⟩ := h.2.2.2.1
  subst h6
  by_cases c : hk = 0
  · have a1 : rsR hk M = -1005 := if_pos c
    have a2 : rsN hk N M = N := if_pos c
    rw [a1, a2, if_pos c, if_pos c, if_pos c, if_pos c]
    exact ⟨rfl, h.rec h.1 h.1 (Or.inl ⟨by decide, rfl, rfl⟩) h.2.2.2.2.2.1 h.2.2.2.2.2.2⟩
  · have a1 : rsR hk M = nI (sN M) := if_neg c
    have a2 : rsN hk N M = M := if_neg c
    have m := h7 c
    rw [a1, a2, if_neg c, if_neg c, if_neg c, if_neg c]
    refine ⟨?_, h.rec m.cp h.1 (Or.inr ⟨nI_pos (by have := m.n60; omega), rfl, rfl⟩) h.2.2.2.2.2.1 h.2.2.2.2.2.2⟩
    rw [m.cp.z3]
theorem LI.type (h : LI N M P s k ln ns lr hk s1 s2 ik e1 e2 fx z f kp tx) {x : Int32} (hx : vp_nar .char x = x) : apR ln = (if lr = 60 then -1003 else nI (lr + 1)) ∧ LI N M P s k (apN ln) ns (if lr = 60 then lr else lr + 1) hk s1 s2 ik e1 e2 (apF fx ln x) z f kp (if lr = 60 then tx else upd tx lr x) := by
  obtain ⟨h1, h2, h3, h4, ⟨h5, h6, h7⟩, h8⟩ := h
  subst h5
  subst h6
  unfold apR apN apF
  by_cases c : ln = 60
  · have l1 : ¬ ln < 60 := by omega
    rw [if_neg l1, if_neg l1, if_neg l1, if_pos c, if_pos c, if_pos c]
    exact ⟨rfl, h1, h2, h3, h4, ⟨rfl, rfl, h7⟩, h8⟩
  · have l1 : ln < 60 := by omega
    rw [if_pos l1, if_pos l1, if_pos l1, if_neg c, if_neg c, if_neg c, hx]
    exact ⟨rfl, h1, h2, h3, h4, ⟨rfl, rfl, by omega⟩, h8⟩
theorem LI.clear (h : LI N M P s k ln ns lr hk s1 s2 ik e1 e2 fx z f kp tx) : nI ln = nI lr ∧ LI N M P s k 0 ns 0 hk s1 s2 ik e1 e2 fx z f kp tx := by
  obtain ⟨h1, h2, h3, h4, ⟨h5, h6, h7⟩, h8⟩ := h
  exact ⟨nI_eq' h6, h1, h2, h3, h4, ⟨h5, rfl, by omega⟩, h8⟩
theorem LI.perform (h : LI N M P s k ln ns lr hk s1 s2 ik e1 e2 fx z f kp tx) (T : TX) (g td : Nat → Int32) : (pfR N fx ln T).1 = (pfV z g f ns (sN N) e1 e2 (xtF tx lr td)).1 ∧ LI (pfR N fx ln T).2.2.1 M (rcP (pfR N fx ln T).1 s k P N) (rcS (pfR N fx ln T).1 s) (rcK (pfR N fx ln T).1 s k) ln (pfV z g f ns (sN N) e1 e2 (xtF tx lr td)).2.2.2.2.1 lr hk (s1E s1 (pfR N fx ln T).2.1) (s2E s2 (pfR N fx ln T).2.1) ik (pfV z g f ns (sN N) e1 e2 (xtF tx lr td)).2.2.2.2.2.1 (pfV z g f ns (sN N) e1 e2 (xtF tx lr td)).2.2.2.2.2.2 fx (pfV z g f ns (sN N) e1 e2 (xtF tx lr td)).2.1 (pfV z g f ns (sN N) e1 e2 (xtF tx lr td)).2.2.2.1 kp tx := by
  have h0 := h
  obtain ⟨h1, h2, h3, h4, ⟨h5, h6, h7⟩, h8, h9⟩ := h
  subst h5
  subst h6
  subst h8
  subst h9
  obtain ⟨a1, a2, a3, a4, a5⟩ := perform_is (z := z) (g := g) (fh := f) (f := fx) (ns := ns) (e1 := s1) (e2 := s2) h1 h7 T td
  exact ⟨a1, h0.rec a2 h1.cp a5 a3 a4⟩
theorem LI.next (h : LI N M P s k ln ns lr hk s1 s2 ik e1 e2 fx z f kp tx) (w : Int32) (g : Nat → Int32) : LI N M P s k ln ns lr hk s1 s2 ik e1 e2 fx (if 0 ≤ w ∧ w ≤ 1 then cpS (cpS z 0 g 0 508) 0 (ysR z (sN N) (nxQ z (sN N))) 0 508 else z) f kp tx := by
  refine ⟨?_, h.2⟩
  by_cases c : 0 ≤ w ∧ w ≤ 1
  · rw [if_pos c]; exact h.1.cp2
  · rw [if_neg c]; exact h.1
theorem LI.stopped (h : LI N M P s k ln ns lr hk s1 s2 ik e1 e2 fx z f kp tx) (w : Int32) : stpS s1 s2 w = stpS e1 e2 w := by
  rw [h.2.2.2.2.2.1, h.2.2.2.2.2.2]
theorem LI.count (h : LI N M P s k ln ns lr hk s1 s2 ik e1 e2 fx z f kp tx) (w : Int32) : cntT N s ln w = coR z (sN N) ns lr w := by
  rw [← h.2.2.1.1, ← h.2.2.2.2.1.2.1]
  exact count_eq h.1 s ln w
end LAW
