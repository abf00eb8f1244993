/-! pure: a thing is read alike -/
section THG
variable {f : Nat → Int32} {ln : Nat}
/-- the object's reading and the reference's end alike, and if well then with Q -/
def okP (ln : Nat) (A : Bool × TX) (C : Bool × PS) (Q : TX → (Nat → Int32) → Prop) : Prop := (∃ (T : TX) (td : Nat → Int32), A = (true, T) ∧ C = (true, (tP T, td)) ∧ tP T ≤ ln ∧ Q T td) ∨ (∃ (T : TX) (td : Nat → Int32), A = (false, T) ∧ C = (false, (tP T, td)) ∧ tP T ≤ ln)
theorem okP.bind {A : Bool × TX} {C : Bool × PS} {Q Q' : TX → (Nat → Int32) → Prop} {g : TX → Bool × TX} {h : PS → Bool × PS} (a : okP ln A C Q) (b : ∀ T td, tP T ≤ ln → Q T td → okP ln (g T) (h (tP T, td)) Q') : okP ln (andT A g) (thn C h) Q' := by
  rcases a with ⟨T, td, rfl, rfl, x, y⟩ | ⟨T, td, rfl, rfl, x⟩
  · exact b T td x y
  · exact Or.inr ⟨T, td, rfl, rfl, x⟩
theorem okP.mono {A : Bool × TX} {C : Bool × PS} {Q Q' : TX → (Nat → Int32) → Prop} (a : okP ln A C Q) (b : ∀ T td, Q T td → Q' T td) : okP ln A C Q' := by
  rcases a with ⟨T, td, x1, x2, x3, x4⟩ | h
  · exact Or.inl ⟨T, td, x1, x2, x3, b T td x4⟩
  · exact Or.inr h
theorem dig_ok (U : TX) (tm k : Nat) (td : Nat → Int32) {m : Int32} (hm : 0 ≤ m ∧ m ≤ 9) (hl : tP U ≤ ln) : okP ln (rdD f ln U m) (nuF f ln tm k 0 m (tP U, td)) (fun T td' => ∃ (p : Nat) (v : Int32), T = uP (uNb U v) p ∧ td' = upd td (4 * tm + k) v) := by
  rcases dig_is (f := f) (tm := tm) (k := k) td hm (rfl : tP U = tP U) hl with ⟨p, v, a, b, c⟩ | ⟨a, b⟩
  · exact Or.inl ⟨_, _, a, b, c, p, v, rfl, rfl⟩
  · exact Or.inr ⟨_, _, a, b, hl⟩
theorem num_ok (U : TX) (tm k : Nat) (td : Nat → Int32) {lo m : Int32} (hlo : 0 ≤ lo ∧ lo ≤ 1) (hm : ¬ m ≤ 9) (hl : tP U ≤ ln) (hl60 : ln ≤ 60) : okP ln (rdNum f ln U lo m) (nuF f ln tm k lo m (tP U, td)) (fun T td' => ∃ (p : Nat) (v : Int32), T = uP (uNb U v) p ∧ td' = upd td (4 * tm + k) v) := by
  rcases num_is (f := f) (tm := tm) (k := k) td hlo hm (rfl : tP U = tP U) hl hl60 with ⟨p, v, a, b, c⟩ | ⟨a, b⟩
  · exact Or.inl ⟨_, _, a, b, c, p, v, rfl, rfl⟩
  · exact Or.inr ⟨_, _, a, b, hl⟩
theorem sgn_ok (U : TX) (td : Nat → Int32) {s : Int32} (hs : ¬ -1 = s) (hl : tP U ≤ ln) : okP ln (rdS f ln U s) (tkF f ln s (tP U, td)) (fun T td' => ∃ p : Nat, T = uP U p ∧ td' = td) := by
  rcases sgn_is (f := f) td hs (rfl : tP U = tP U) hl with ⟨a, b, c⟩ | ⟨a, b⟩
  · exact Or.inl ⟨_, _, a, b, c, _, rfl, rfl⟩
  · exact Or.inr ⟨_, _, a, b, hl⟩
theorem rdSp_fl (U : TX) (h : TX → Bool × TX) : andT (rdSp f ln U) h = andT (rdD f ln U 2) (fun V => andT (rdD f ln (uR V (tN V)) 7) (fun W => h (uL W (tN W)))) := by
  unfold rdSp rdRk
  rcases rdD f ln U 2 with ⟨b, V⟩
  cases b
  · rfl
  · show andT (andT (rdD f ln (uR V (tN V)) 7) (fun V => (true, uL V (tN V)))) h = andT (rdD f ln (uR V (tN V)) 7) (fun W => h (uL W (tN W)))
    rcases rdD f ln (uR V (tN V)) 7 with ⟨b, W⟩
    cases b <;> rfl
theorem andT_id (q : Bool × TX) : andT q (fun U => (true, U)) = q := by
  rcases q with ⟨b, V⟩
  cases b <;> rfl
theorem rdRC_fl (U : TX) (h : TX → Bool × TX) : andT (rdRC f ln U) h = andT (rdD f ln U 2) (fun V => andT (rdS f ln (uR V (tN V)) 58) h) := by
  unfold rdRC rdRk
  rcases rdD f ln U 2 with ⟨b, V⟩
  cases b <;> rfl
/-- the thing that was read stands in the table -/
def mt (T : TX) (td : Nat → Int32) (i : Nat) : Prop := td (4 * i) = tK T ∧
  ((tK T = 112 ∧ td (4 * i + 1) = tR T ∧ td (4 * i + 2) = tL T ∧ td (4 * i + 3) = tN T) ∨ (tK T = 116 ∧ td (4 * i + 1) = tR T ∧ td (4 * i + 2) = tL T) ∨
   (tK T = 118 ∧ td (4 * i + 1) = tR T ∧ td (4 * i + 2) = tN T) ∨ (tK T = 115 ∧ td (4 * i + 1) = tR T ∧ td (4 * i + 2) = tH T ∧ td (4 * i + 3) = tD T * tN T) ∨ (tK T = 46 ∧ td (4 * i + 1) = tN T))
/-- what else stands there is as it was -/
def od (td td' : Nat → Int32) (tm : Nat) : Prop := ∀ j, j < 4 * tm → td' j = td j
theorem le9_2 : (0 : Int32) ≤ 2 ∧ (2 : Int32) ≤ 9 := by decide
theorem le9_5 : (0 : Int32) ≤ 5 ∧ (5 : Int32) ≤ 9 := by decide
theorem le9_7 : (0 : Int32) ≤ 7 ∧ (7 : Int32) ≤ 9 := by decide
theorem le01_0 : (0 : Int32) ≤ 0 ∧ (0 : Int32) ≤ 1 := by decide
theorem le01_1 : (0 : Int32) ≤ 1 ∧ (1 : Int32) ≤ 1 := by decide
theorem th_t (U : TX) (tm : Nat) (td : Nat → Int32) (hK : tK U = 116) (hd : td (4 * tm) = 116) (hl : tP U ≤ ln) : okP ln (rdSp f ln U) (thn (nuF f ln tm 1 0 2 (tP U, td)) fun P1 => nuF f ln tm 2 0 7 P1) (fun T td' => mt T td' tm ∧ od td td' tm) := by
  rw [← andT_id (rdSp f ln U), rdSp_fl]
  refine (dig_ok U tm 1 td le9_2 hl).bind (fun V td1 hV h1 => ?_)
  obtain ⟨p, a, rfl, rfl⟩ := h1
  have d := dig_ok (f := f) (ln := ln) (uR (uP (uNb U a) p) a) tm 2 (upd td (4 * tm + 1) a) le9_7 hV
  rcases d with ⟨T, td', x1, x2, x3, q, b, rfl, rfl⟩ | ⟨T, td', x1, x2, x3⟩
  · refine Or.inl ⟨uL (uP (uNb (uR (uP (uNb U a) p) a) b) q) b, _, (and_t x1), x2, x3, ⟨?_, Or.inr (Or.inl ⟨hK, ?_, ?_⟩)⟩, fun j hj => ?_⟩
    · rw [upd_ne (by omega), upd_ne (by omega), hd]; exact hK.symm
    · rw [upd_ne (by omega), updA rfl]
    · rw [updA rfl]
    · rw [upd_ne (by omega), upd_ne (by omega)]
  · exact Or.inr ⟨T, td', and_f x1, x2, x3⟩
theorem th_p (U : TX) (tm : Nat) (td : Nat → Int32) (hK : tK U = 112) (hd : td (4 * tm) = 112) (hl : tP U ≤ ln) : okP ln (andT (rdSp f ln U) (fun V => andT (rdS f ln V 58) (fun Y => rdD f ln Y 5))) (thn (nuF f ln tm 1 0 2 (tP U, td)) fun P1 => thn (nuF f ln tm 2 0 7 P1) fun P2 => thn (tkF f ln 58 P2) fun P3 => nuF f ln tm 3 0 5 P3) (fun T td' => mt T td' tm ∧ od td td' tm) := by
  rw [rdSp_fl]
  refine (dig_ok U tm 1 td le9_2 hl).bind (fun V td1 hV h1 => ?_)
  obtain ⟨p, a, rfl, rfl⟩ := h1
  refine (dig_ok (uR (uP (uNb U a) p) a) tm 2 (upd td (4 * tm + 1) a) le9_7 hV).bind (fun V td1 hV2 h1 => ?_)
  obtain ⟨q, b, rfl, rfl⟩ := h1
  refine (sgn_ok (uL (uP (uNb (uR (uP (uNb U a) p) a) b) q) b) (upd (upd td (4 * tm + 1) a) (4 * tm + 2) b) (by decide) hV2).bind (fun V td1 hV3 h1 => ?_)
  obtain ⟨q2, rfl, rfl⟩ := h1
  refine (dig_ok _ tm 3 _ le9_5 hV3).mono (fun T td' h1 => ?_)
  obtain ⟨q3, c, rfl, rfl⟩ := h1
  refine ⟨⟨?_, Or.inl ⟨hK, ?_, ?_, ?_⟩⟩, fun j hj => ?_⟩
  · rw [upd_ne (by omega), upd_ne (by omega), upd_ne (by omega), hd]; exact hK.symm
  · rw [upd_ne (by omega), upd_ne (by omega), updA rfl]
  · rw [upd_ne (by omega), updA rfl]
  · rw [updA rfl]
  · rw [upd_ne (by omega), upd_ne (by omega), upd_ne (by omega)]
theorem th_v (U : TX) (tm : Nat) (td : Nat → Int32) (hK : tK U = 118) (hd : td (4 * tm) = 118) (hl : tP U ≤ ln) (hl60 : ln ≤ 60) : okP ln (andT (rdRC f ln U) (fun V => rdNum f ln V 0 300)) (thn (nuF f ln tm 1 0 2 (tP U, td)) fun P1 => thn (tkF f ln 58 P1) fun P2 => nuF f ln tm 2 0 300 P2) (fun T td' => mt T td' tm ∧ od td td' tm) := by
  rw [rdRC_fl]
  refine (dig_ok U tm 1 td le9_2 hl).bind (fun V td1 hV h1 => ?_)
  obtain ⟨p, a, rfl, rfl⟩ := h1
  refine (sgn_ok (uR (uP (uNb U a) p) a) (upd td (4 * tm + 1) a) (by decide) hV).bind (fun V td1 hV3 h1 => ?_)
  obtain ⟨q2, rfl, rfl⟩ := h1
  refine (num_ok _ tm 2 _ le01_0 (by decide) hV3 hl60).mono (fun T td' h1 => ?_)
  obtain ⟨q3, c, rfl, rfl⟩ := h1
  refine ⟨⟨?_, Or.inr (Or.inr (Or.inl ⟨hK, ?_, ?_⟩))⟩, fun j hj => ?_⟩
  · rw [upd_ne (by omega), upd_ne (by omega), hd]; exact hK.symm
  · rw [upd_ne (by omega), updA rfl]
  · rw [updA rfl]
  · rw [upd_ne (by omega), upd_ne (by omega)]
theorem th_h (U : TX) (tm : Nat) (td : Nat → Int32) (hK : tK U = 46) (hd : td (4 * tm) = 46) (hl : tP U ≤ ln) (hl60 : ln ≤ 60) : okP ln (rdNum f ln U 1 999) (nuF f ln tm 1 1 999 (tP U, td)) (fun T td' => mt T td' tm ∧ od td td' tm) := by
  refine (num_ok _ tm 1 _ le01_1 (by decide) hl hl60).mono (fun T td' h1 => ?_)
  obtain ⟨q3, c, rfl, rfl⟩ := h1
  refine ⟨⟨?_, Or.inr (Or.inr (Or.inr (Or.inr ⟨hK, ?_⟩)))⟩, fun j hj => ?_⟩
  · rw [upd_ne (by omega), hd]; exact hK.symm
  · rw [updA rfl]
  · rw [upd_ne (by omega)]
theorem th_s2 (W : TX) (tm q : Nat) (te : Nat → Int32) (hp : tP W = q) (hK2 : tK W = 115) (hd2 : te (4 * tm) = 115) (hd3 : te (4 * tm + 1) = tR W) (hd4 : te (4 * tm + 2) = tH W) (hq : q ≤ ln) (hl60 : ln ≤ 60) : okP ln (andT (rdDir f ln W) (fun V => rdNum f ln V 0 50)) (if (tkF f ln 43 (q, te)).1 = true then thn (nuF f ln tm 3 0 50 ((tkF f ln 43 (q, te)).2.1, (tkF f ln 43 (q, te)).2.2)) fun P4 => (true, (P4.1, upd P4.2 (4 * tm + 3) (P4.2 (4 * tm + 3) * 1)))
    else thn (tkF f ln 45 ((tkF f ln 43 (q, te)).2.1, (tkF f ln 43 (q, te)).2.2)) fun P5 => thn (nuF f ln tm 3 0 50 P5) fun P6 => (true, (P6.1, upd P6.2 (4 * tm + 3) (P6.2 (4 * tm + 3) * (-1))))) (fun T td' => mt T td' tm ∧ od te td' tm) := by
  subst hp
  have m50 : ¬ (50 : Int32) ≤ 9 := by decide
  have fin2 : ∀ (D : Int32) (r : Nat), r ≤ ln → okP ln (rdNum f ln (uP (uD W D) r) 0 50) (thn (nuF f ln tm 3 0 50 (r, te)) fun P4 => (true, (P4.1, upd P4.2 (4 * tm + 3) (P4.2 (4 * tm + 3) * D)))) (fun T td' => mt T td' tm ∧ od te td' tm) := fun D r hr => by
    rcases num_ok (f := f) (uP (uD W D) r) tm 3 te le01_0 m50 hr hl60 with ⟨T, td', x1, x2, x3, q, v, rfl, rfl⟩ | ⟨T, td', x1, x2, x3⟩
    · refine Or.inl ⟨_, _, x1, thn_y x2, x3, ⟨?_, Or.inr (Or.inr (Or.inr (Or.inl ⟨hK2, ?_, ?_, ?_⟩)))⟩, fun j hj => ?_⟩
      · show upd (upd te (4 * tm + 3) v) (4 * tm + 3) _ (4 * tm) = tK W
        rw [upd_ne (by omega), upd_ne (by omega), hd2, hK2]
      · show upd (upd te (4 * tm + 3) v) (4 * tm + 3) _ (4 * tm + 1) = tR W
        rw [upd_ne (by omega), upd_ne (by omega), hd3]
      · show upd (upd te (4 * tm + 3) v) (4 * tm + 3) _ (4 * tm + 2) = tH W
        rw [upd_ne (by omega), upd_ne (by omega), hd4]
      · show upd (upd te (4 * tm + 3) v) (4 * tm + 3) (upd te (4 * tm + 3) v (4 * tm + 3) * D) (4 * tm + 3) = D * v
        rw [updA rfl, updA rfl, Int32.mul_comm]
      · show upd (upd te (4 * tm + 3) v) (4 * tm + 3) _ j = _
        rw [upd_ne (by omega), upd_ne (by omega)]
    · exact Or.inr ⟨T, td', x1, thn_n x2, x3⟩
  unfold rdDir
  by_cases c45 : cur f ln W = 45
  · rw [if_pos c45]
    have e1 : rdS f ln (uD W (-1)) 45 = (true, uP (uD W (-1)) (tP W + 1)) := if_pos c45
    have lt : tP W < ln := Classical.byContradiction (fun g => by
      have := cur_out (f := f) (T := W) rfl g
      rw [c45] at this
      exact absurd this (by decide))
    have f45 : f (tP W) = 45 := by rw [← cur_in (f := f) (T := W) rfl lt]; exact c45
    have e2 : tkF f ln 43 (tP W, te) = (false, (tP W, te)) := if_neg (fun g => by
      have g1 : f (tP W) = 43 := i32_anti g.2.2 g.2.1
      rw [f45] at g1
      exact absurd g1 (by decide))
    have e3 : tkF f ln 45 (tP W, te) = (true, (tP W + 1, te)) := if_pos ⟨lt, by rw [f45]; exact Int32.le_refl _, by rw [f45]; exact Int32.le_refl _⟩
    rw [e1, if_pos rfl, e2, if_neg Bool.false_ne_true]
    show okP ln (rdNum f ln (uP (uD W (-1)) (tP W + 1)) 0 50) (thn (tkF f ln 45 (tP W, te)) _) _
    rw [thn_y e3]
    exact fin2 (-1) (tP W + 1) lt
  · rw [if_neg c45]
    have e1 : rdS f ln (uD W 1) 45 = (false, uD W 1) := if_neg c45
    rw [e1, if_neg Bool.false_ne_true]
    rcases sgn_is (f := f) (U := uD W 1) te (s := 43) (by decide) (rfl : tP (uD W 1) = tP W) hq with ⟨x1, x2, x3⟩ | ⟨x1, x2⟩
    · rw [x2, if_pos rfl]
      show okP ln (andT (rdS f ln (uD W 1) 43) _) _ _
      rw [and_t x1]
      exact fin2 1 (tP W + 1) x3
    · rw [x2, if_neg Bool.false_ne_true]
      have e3 : tkF f ln 45 (tP W, te) = (false, (tP W, te)) := if_neg (fun g => by
        have g1 : f (tP W) = 45 := i32_anti g.2.2 g.2.1
        exact c45 ((cur_in (f := f) (T := W) rfl g.1).trans g1))
      show okP ln (andT (rdS f ln (uD W 1) 43) _) (thn (tkF f ln 45 (tP W, te)) _) _
      rw [thn_n e3, and_f x1]
      exact Or.inr ⟨uD W 1, te, rfl, rfl, hq⟩
theorem th_s (U : TX) (tm : Nat) (td : Nat → Int32) (hK : tK U = 115) (hd : td (4 * tm) = 115) (hl : tP U ≤ ln) (hl60 : ln ≤ 60) : okP ln (andT (rdRC f ln U) (fun V => rdSt f ln V)) (rsF f ln tm (tP U, td)) (fun T td' => mt T td' tm ∧ od td td' tm) := by
  rw [rdRC_fl]
  unfold rsF
  refine (dig_ok U tm 1 td le9_2 hl).bind (fun V td1 hV h1 => ?_)
  obtain ⟨p, a, rfl, rfl⟩ := h1
  refine (sgn_ok (uR (uP (uNb U a) p) a) (upd td (4 * tm + 1) a) (by decide) hV).bind (fun V td1 hV3 h1 => ?_)
  obtain ⟨q2, rfl, rfl⟩ := h1
  unfold rdSt
  refine (num_ok _ tm 2 _ le01_0 (by decide) hV3 hl60).bind (fun V td1 hV4 h1 => ?_)
  obtain ⟨q3, b, rfl, rfl⟩ := h1
  refine (th_s2 (uH (uP (uNb (uP (uR (uP (uNb U a) p) a) q2) b) q3) b) tm q3 (upd (upd td (4 * tm + 1) a) (4 * tm + 2) b) rfl hK ?_ ?_ ?_ hV4 hl60).mono (fun T td' h1 => ⟨h1.1, fun j hj => (h1.2 j hj).trans ?_⟩)
  · rw [upd_ne (by omega), upd_ne (by omega)]; exact hd
  · rw [upd_ne (by omega), updA rfl]
  · rw [updA rfl]
  · rw [upd_ne (by omega), upd_ne (by omega)]
def rtO (f : Nat → Int32) (ln : Nat) (T : TX) (tm : Nat) (td : Nat → Int32) : Prop := (∃ (U : TX) (td' : Nat → Int32), rdT f ln T = (true, U) ∧ rtF f ln (tP T, td, tm) = (true, (tP U, (td', tm + 1))) ∧ tP U ≤ ln ∧ mt U td' tm ∧ od td td' tm) ∨ (∃ (U : TX) (td' : Nat → Int32) (tm' : Nat), rdT f ln T = (false, U) ∧ rtF f ln (tP T, td, tm) = (false, (tP U, (td', tm'))) ∧ tP U ≤ ln)
theorem rtF_is (T : TX) (tm : Nat) (td : Nat → Int32) (hl : tP T ≤ ln) (hl60 : ln ≤ 60) : rtO f ln T tm td := by
  have hit : ∀ s : Int32, cur f ln T = s → rdS f ln (uK T (cur f ln T)) s = (true, uP (uK T s) (tP T + 1)) := fun s e => by rw [e]; exact if_pos e
  have conc : ∀ (s : Int32) (A : Bool × TX) (C : Bool × PS), rdT f ln T = A → rtF f ln (tP T, td, tm) = fin C tm → okP ln A C (fun U td' => mt U td' tm ∧ od (upd td (4 * tm) s) td' tm) → rtO f ln T tm td := fun s A C e1 e2 h => by
    rcases h with ⟨U, td', x1, x2, x3, x4, x5⟩ | ⟨U, td', x1, x2, x3⟩
    · subst x1
      subst x2
      exact Or.inl ⟨U, td', e1, e2, x3, x4, fun j hj => (x5 j hj).trans (upd_ne (by omega))⟩
    · subst x1
      subst x2
      exact Or.inr ⟨U, td', tm + 1, e1, e2, x3⟩
  by_cases lt : tP T < ln
  · have ec := cur_in (f := f) (T := T) rfl lt
    have rt : rtF f ln (tP T, td, tm) = if f (tP T) = 112 then fin (thn (nuF f ln tm 1 0 2 (tP T + 1, upd td (4 * tm) 112)) fun P1 => thn (nuF f ln tm 2 0 7 P1) fun P2 => thn (tkF f ln 58 P2) fun P3 => nuF f ln tm 3 0 5 P3) tm
      else if f (tP T) = 116 then fin (thn (nuF f ln tm 1 0 2 (tP T + 1, upd td (4 * tm) 116)) fun P1 => nuF f ln tm 2 0 7 P1) tm
      else if f (tP T) = 118 then fin (thn (nuF f ln tm 1 0 2 (tP T + 1, upd td (4 * tm) 118)) fun P1 => thn (tkF f ln 58 P1) fun P2 => nuF f ln tm 2 0 300 P2) tm
      else if f (tP T) = 115 then fin (rsF f ln tm (tP T + 1, upd td (4 * tm) 115)) tm
      else if f (tP T) = 46 then fin (nuF f ln tm 1 1 999 (tP T + 1, upd td (4 * tm) 46)) tm
      else (false, (tP T, (td, tm))) := if_pos lt
    rw [← ec] at rt
    unfold rdT at *
    by_cases c1 : cur f ln T = 46
    · rw [if_pos c1] at *
      rw [if_neg (by rw [c1]; decide), if_neg (by rw [c1]; decide), if_neg (by rw [c1]; decide), if_neg (by rw [c1]; decide)] at rt
      exact conc 46 _ _ (and_t (hit 46 c1)) rt (th_h (uP (uK T 46) (tP T + 1)) tm (upd td (4 * tm) 46) rfl (updA rfl) lt hl60)
    · rw [if_neg c1] at *
      by_cases c2 : cur f ln T = 112
      · rw [if_pos c2] at *
        exact conc 112 _ _ (and_t (hit 112 c2)) rt (th_p (uP (uK T 112) (tP T + 1)) tm (upd td (4 * tm) 112) rfl (updA rfl) lt)
      · rw [if_neg c2] at *
        by_cases c3 : cur f ln T = 115
        · rw [if_pos c3] at *
          rw [if_neg (by rw [c3]; decide), if_neg (by rw [c3]; decide)] at rt
          exact conc 115 _ _ (and_t (hit 115 c3)) rt (th_s (uP (uK T 115) (tP T + 1)) tm (upd td (4 * tm) 115) rfl (updA rfl) lt hl60)
        · rw [if_neg c3] at *
          by_cases c4 : cur f ln T = 116
          · rw [if_pos c4] at *
            exact conc 116 _ _ (and_t (hit 116 c4)) rt (th_t (uP (uK T 116) (tP T + 1)) tm (upd td (4 * tm) 116) rfl (updA rfl) lt)
          · rw [if_neg c4] at *
            by_cases c5 : cur f ln T = 118
            · rw [if_pos c5] at *
              exact conc 118 _ _ (and_t (hit 118 c5)) rt (th_v (uP (uK T 118) (tP T + 1)) tm (upd td (4 * tm) 118) rfl (updA rfl) lt hl60)
            · rw [if_neg c5] at *
              refine Or.inr ⟨uK T (cur f ln T), td, tm, ?_, rt, hl⟩
              unfold rdT
              rw [if_neg c1, if_neg c2, if_neg c3, if_neg c4, if_neg c5]
  · have ec := cur_out (f := f) (T := T) rfl lt
    have rt : rtF f ln (tP T, td, tm) = (false, (tP T, (td, tm))) := if_neg lt
    refine Or.inr ⟨uK T (cur f ln T), td, tm, ?_, rt, hl⟩
    unfold rdT
    rw [if_neg (by rw [ec]; decide), if_neg (by rw [ec]; decide), if_neg (by rw [ec]; decide), if_neg (by rw [ec]; decide), if_neg (by rw [ec]; decide)]
end THG
