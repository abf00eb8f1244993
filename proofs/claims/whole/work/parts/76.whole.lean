/-! pure: the whole text is read alike, once and again -/
theorem gdX_0 {tx : Nat → Int32} {ln : Nat} (td : Nat → Int32) : gdX ln (rtF tx ln (0, td, 0)) := by
  refine ⟨rtF_le _ (Nat.zero_le _), fun hV => ?_⟩
  have w := rt_up rfl hV
  have r := rt_rng rfl hV
  have w2 := w.2
  have w1 := w.1
  refine ⟨by omega, fun i hi => ?_⟩
  rw [w.2] at hi
  rw [show i = 0 from by omega]
  exact r.1
theorem mt_c {T : TX} {td td' : Nat → Int32} {i : Nat} (h : mt T td i) (e : ∀ j, j < 4 * i + 4 → td' j = td j) : mt T td' i := by
  unfold mt at *
  rw [e _ (by omega), e _ (by omega), e _ (by omega), e _ (by omega)]
  exact h
/-- behind i things and signs -/
def tsF (f : Nat → Int32) (ln : Nat) : Nat → TX → TX
  | 0, T => T
  | i + 1, T => tsF f ln i (rdS f ln (rdT f ln T).2 59).2
theorem tsF_s (f : Nat → Int32) (ln i : Nat) (T : TX) : tsF f ln (i + 1) T = tsF f ln i (rdS f ln (rdT f ln T).2 59).2 := rfl
/-- what the object does behind a thing -/
def ffK (f : Nat → Int32) (ln n r : Nat) (U : TX) : Int32 × (Int32 × TX) :=
  if tP U = ln then (-1, (nI r, U)) else if (rdS f ln U 59).1 = true then ffL f ln n (r + 1) (rdS f ln U 59).2 (nI r) else (nI (tP (rdS f ln U 59).2), (nI r, (rdS f ln U 59).2))
theorem ffL_y {f : Nat → Int32} {ln n r : Nat} {T U : TX} {th : Int32} (h : rdT f ln T = (true, U)) : ffL f ln (n + 1) r T th = ffK f ln n r U := by
  show (if (rdT f ln T).1 = true then (if tP (rdT f ln T).2 = ln then (-1, (nI r, (rdT f ln T).2)) else if (rdS f ln (rdT f ln T).2 59).1 = true then ffL f ln n (r + 1) (rdS f ln (rdT f ln T).2 59).2 (nI r) else (nI (tP (rdS f ln (rdT f ln T).2 59).2), (nI r, (rdS f ln (rdT f ln T).2 59).2))) else (nI (tP (rdT f ln T).2), (th, (rdT f ln T).2))) = _
  rw [h, if_pos rfl]
  rfl
theorem ffL_n {f : Nat → Int32} {ln n r : Nat} {T U : TX} {th : Int32} (h : rdT f ln T = (false, U)) : ffL f ln (n + 1) r T th = (nI (tP U), (th, U)) := by
  show (if (rdT f ln T).1 = true then (if tP (rdT f ln T).2 = ln then (-1, (nI r, (rdT f ln T).2)) else if (rdS f ln (rdT f ln T).2 59).1 = true then ffL f ln n (r + 1) (rdS f ln (rdT f ln T).2 59).2 (nI r) else (nI (tP (rdS f ln (rdT f ln T).2 59).2), (nI r, (rdS f ln (rdT f ln T).2 59).2))) else (nI (tP (rdT f ln T).2), (th, (rdT f ln T).2))) = _
  rw [h, if_neg Bool.false_ne_true]
/-- both read on to the same end -/
def rdO (f : Nat → Int32) (ln tm : Nat) (U : TX) (td : Nat → Int32) (A : Int32 × (Int32 × TX)) (C : Bool × TS) : Prop :=
  (∃ (c p : Nat) (td2 : Nat → Int32) (X : TX), A = (-1, (nI (tm + c), X)) ∧ C = (true, (p, (td2, tm + c))) ∧ p ≤ ln ∧ tm + c ≤ 20 ∧ od td td2 tm ∧ ∀ T2, tP T2 = tP U → ∀ i, i < c → mt (rdT f ln (tsF f ln i (rdS f ln T2 59).2)).2 td2 (tm + i)) ∨
  (∃ (p : Nat) (x : Int32 × TX) (td2 : Nat → Int32) (tm2 : Nat), A = (nI p, x) ∧ p ≤ ln ∧ C = (false, (p, (td2, tm2))))
theorem xtL_f {tx : Nat → Int32} {ln : Nat} {V : TS} : ∀ d, xtL tx ln d (false, V) = (false, V)
  | 0 => rfl
  | d + 1 => if_neg Bool.false_ne_true
theorem rd_is {f : Nat → Int32} {ln : Nat} (hl60 : ln ≤ 60) : ∀ (n d tm : Nat) (U : TX) (td : Nat → Int32), tP U ≤ ln → gdX ln (true, (tP U, (td, tm))) → 21 ≤ n + tm → 21 ≤ d + tm → rdO f ln tm U td (ffK f ln n tm U) (xtL f ln d (true, (tP U, (td, tm))))
  | n, d, tm, U, td, hl, hg, h1, h2 => by
    have g20 : tm ≤ 20 := by
      have := (hg.2 rfl).1
      have : 3 * tm ≤ tP U + 1 := this
      omega
    unfold ffK
    by_cases ce : tP U = ln
    · rw [if_pos ce]
      have e : xtL f ln d (true, (tP U, (td, tm))) = (true, (tP U, (td, tm))) := by
        cases d with
        | zero => rfl
        | succ d =>
          show (if true = true then (if tP U < ln then xtL f ln d (xtN f ln (true, (tP U, (td, tm)))) else (true, (tP U, (td, tm)))) else (true, (tP U, (td, tm)))) = _
          rw [if_pos rfl, if_neg (by omega)]
      rw [e]
      exact Or.inl ⟨0, tP U, td, U, rfl, rfl, hl, g20, fun j _ => rfl, fun T2 _ i hi => by omega⟩
    · rw [if_neg ce]
      obtain ⟨n, rfl⟩ : ∃ x, n = x + 1 := ⟨n - 1, by omega⟩
      obtain ⟨d, rfl⟩ : ∃ x, d = x + 1 := ⟨d - 1, by omega⟩
      have e : xtL f ln (d + 1) (true, (tP U, (td, tm))) = xtL f ln d (xtN f ln (true, (tP U, (td, tm)))) := by
        show (if true = true then (if tP U < ln then xtL f ln d (xtN f ln (true, (tP U, (td, tm)))) else (true, (tP U, (td, tm)))) else (true, (tP U, (td, tm)))) = _
        rw [if_pos rfl, if_pos (by omega)]
      rw [e]
      have xn : xtN f ln (true, (tP U, (td, tm))) = if (tkF f ln 59 (tP U, td)).1 = true then rtF f ln ((tkF f ln 59 (tP U, td)).2.1, (tkF f ln 59 (tP U, td)).2.2, tm) else (false, (tkF f ln 59 (tP U, td)).2.1, (tkF f ln 59 (tP U, td)).2.2, tm) := rfl
      have gN := gdX_N (tx := f) hg rfl
      rcases sgn_is (f := f) td (s := 59) (by decide) (rfl : tP U = tP U) hl with ⟨x1, x2, x3⟩ | ⟨x1, x2⟩
      · rw [x2, if_pos rfl] at xn
        rw [x1, if_pos rfl]
        rcases rtF_is (f := f) (uP U (tP U + 1)) tm td x3 hl60 with ⟨V, td', y1, y2, y3, y4, y5⟩ | ⟨V, td', tm', y1, y2, y3⟩
        · rw [ffL_y y1]
          have xn2 : xtN f ln (true, (tP U, (td, tm))) = (true, (tP V, (td', tm + 1))) := xn.trans y2
          rw [xn2] at gN ⊢
          have step : ∀ T2, tP T2 = tP U → ∃ V2, (rdT f ln (rdS f ln T2 59).2) = (true, V2) ∧ tP V2 = tP V ∧ mt V2 td' tm := fun T2 e2 => by
            rcases sgn_is (f := f) td (s := 59) (by decide) e2 (e2 ▸ (e2.symm ▸ hl)) with ⟨w1, w2, w3⟩ | ⟨w1, w2⟩
            · rw [w1]
              rcases rtF_is (f := f) (uP T2 (tP U + 1)) tm td w3 hl60 with ⟨V2, td2, v1, v2, v3, v4, v5⟩ | ⟨V2, td2, tm2, v1, v2, v3⟩
              · have q := v2.symm.trans y2
                have q1 : tP V2 = tP V := congrArg (fun (z : Bool × TS) => z.2.1) q
                have q2 : td2 = td' := congrArg (fun (z : Bool × TS) => z.2.2.1) q
                subst q2
                exact ⟨V2, v1, q1, v4⟩
              · have q := v2.symm.trans y2
                exact absurd (congrArg (fun (z : Bool × TS) => z.1) q) Bool.false_ne_true
            · exact absurd (congrArg (fun (z : Bool × PS) => z.1) (w2.symm.trans x2)) Bool.false_ne_true
          rcases rd_is hl60 n d (tm + 1) V td' y3 gN (by omega) (by omega) with ⟨c, p, td2, X, z1, z2, z3, z4, z5, z6⟩ | ⟨p, x, td2, tm2, z1, z2, z3⟩
          · refine Or.inl ⟨c + 1, p, td2, X, ?_, ?_, z3, by omega, fun j hj => (z5 j (by omega)).trans (y5 j hj), fun T2 e2 i hi => ?_⟩
            · rw [z1, show tm + 1 + c = tm + (c + 1) by omega]
            · rw [z2, show tm + 1 + c = tm + (c + 1) by omega]
            · obtain ⟨V2, a1, a2, a3⟩ := step T2 e2
              cases i with
              | zero =>
                show mt (rdT f ln (rdS f ln T2 59).2).2 td2 tm
                rw [a1]
                exact mt_c a3 (fun j hj => z5 j (by omega))
              | succ i =>
                rw [tsF_s, a1, show tm + (i + 1) = tm + 1 + i by omega]
                exact z6 V2 a2 i (by omega)
          · exact Or.inr ⟨p, x, td2, tm2, z1, z2, z3⟩
        · rw [ffL_n y1, xn, show rtF f ln ((true, (tP U + 1, td)).2.1, (true, (tP U + 1, td)).2.2, tm) = (false, (tP V, (td', tm'))) from y2, xtL_f]
          exact Or.inr ⟨tP V, _, td', tm', rfl, y3, rfl⟩
      · rw [x2, if_neg Bool.false_ne_true] at xn
        rw [x1, if_neg Bool.false_ne_true, xn, xtL_f]
        exact Or.inr ⟨tP U, _, td, tm, rfl, hl, rfl⟩
/-- the text from its first character -/
theorem text_is {f : Nat → Int32} {ln : Nat} (hl60 : ln ≤ 60) (T : TX) (hT : tP T = 0) (th : Int32) (td : Nat → Int32) :
    (∃ (c p : Nat) (td2 : Nat → Int32) (X : TX), ffL f ln 60 1 T th = (-1, (nI (c + 1), X)) ∧ xtF f ln td = (true, (p, (td2, c + 1))) ∧ p ≤ ln ∧ c + 1 ≤ 20 ∧ ∀ T2, tP T2 = 0 → ∀ i, i < c + 1 → mt (rdT f ln (tsF f ln i T2)).2 td2 i) ∨
    (∃ (p : Nat) (x : Int32 × TX) (td2 : Nat → Int32) (tm2 : Nat), ffL f ln 60 1 T th = (nI p, x) ∧ p ≤ ln ∧ xtF f ln td = (false, (p, (td2, tm2)))) := by
  have g0 := gdX_0 (tx := f) (ln := ln) td
  have hx : xtF f ln td = xtL f ln 60 (rtF f ln (0, td, 0)) := rfl
  have fx := rtF_is (f := f) (ln := ln) T 0 td (by omega) hl60
  unfold rtO at fx
  rw [hT] at fx
  rcases fx with ⟨V, td', y1, y2, y3, y4, y5⟩ | ⟨V, td', tm', y1, y2, y3⟩
  · rw [y2] at g0 hx
    have r := rd_is (f := f) hl60 59 60 1 V td' y3 g0 (by omega) (by omega)
    rw [ffL_y (n := 59) y1, hx]
    have step : ∀ T2, tP T2 = 0 → ∃ V2, rdT f ln T2 = (true, V2) ∧ tP V2 = tP V ∧ mt V2 td' 0 := fun T2 e2 => by
      have fx2 := rtF_is (f := f) (ln := ln) T2 0 td (by omega) hl60
      unfold rtO at fx2
      rw [e2] at fx2
      rcases fx2 with ⟨V2, td2, v1, v2, v3, v4, v5⟩ | ⟨V2, td2, tm2, v1, v2, v3⟩
      · have q := v2.symm.trans y2
        have q1 : tP V2 = tP V := congrArg (fun (z : Bool × TS) => z.2.1) q
        have q2 : td2 = td' := congrArg (fun (z : Bool × TS) => z.2.2.1) q
        subst q2
        exact ⟨V2, v1, q1, v4⟩
      · exact absurd (congrArg (fun (z : Bool × TS) => z.1) (v2.symm.trans y2)) Bool.false_ne_true
    rcases r with ⟨c, p, td2, X, z1, z2, z3, z4, z5, z6⟩ | ⟨p, x, td2, tm2, z1, z2, z3⟩
    · refine Or.inl ⟨c, p, td2, X, ?_, ?_, z3, by omega, fun T2 e2 i hi => ?_⟩
      · rw [z1, Nat.add_comm 1 c]
      · exact z2.trans (by rw [Nat.add_comm 1 c])
      · obtain ⟨V2, a1, a2, a3⟩ := step T2 e2
        cases i with
        | zero =>
          show mt (rdT f ln T2).2 td2 0
          rw [a1]
          exact mt_c a3 (fun j hj => z5 j (by omega))
        | succ i =>
          rw [tsF_s, a1, show i + 1 = 1 + i by omega]
          exact z6 V2 a2 i (by omega)
    · exact Or.inr ⟨p, x, td2, tm2, z1, z2, z3⟩
  · rw [ffL_n (n := 59) y1, hx, y2, xtL_f]
    exact Or.inr ⟨tP V, _, td', tm', rfl, y3, rfl⟩
