/-! pure: lamps are put in, taken out, swapped alike -/
theorem ptZ_o {z : Nat → Int32} {n : Nat} {r p : Int32} {b j : Nat} (h : j < 28 + 8 * n ∨ 28 + 8 * n + 8 ≤ j) (h3 : j ≠ 3) : ptZ z n r p b j = z j := by
  unfold ptZ
  rw [upd_ne h3, upd_ne (by omega), upd_ne (by omega), upd_ne (by omega), upd_ne (by omega), upd_ne (by omega), upd_ne (by omega), upd_ne (by omega), upd_ne (by omega)]
theorem ptZ_3 {z : Nat → Int32} {n : Nat} {r p : Int32} {b : Nat} : ptZ z n r p b 3 = nI (n + 1) := updA rfl
theorem ptZ_n {z : Nat → Int32} {n : Nat} {r p : Int32} {b : Nat} : zl (ptZ z n r p b) n 0 = nI b ∧ zl (ptZ z n r p b) n 1 = r ∧ zl (ptZ z n r p b) n 2 = p ∧ zl (ptZ z n r p b) n 3 = lf2 z n b ∧ zl (ptZ z n r p b) n 4 = 0 ∧ zl (ptZ z n r p b) n 5 = 0 ∧ zl (ptZ z n r p b) n 6 = -1005 ∧ zl (ptZ z n r p b) n 7 = wkR n := by
  refine ⟨?_, ?_, ?_, ?_, ?_, ?_, ?_, ?_⟩
  · show ptZ z n r p b (28 + 8 * n + 0) = _
    unfold ptZ
    rw [upd_ne (by omega), upd_ne (by omega), upd_ne (by omega), upd_ne (by omega), upd_ne (by omega), upd_ne (by omega), upd_ne (by omega), upd_ne (by omega), updA rfl]
  · show ptZ z n r p b (28 + 8 * n + 1) = _
    unfold ptZ
    rw [upd_ne (by omega), upd_ne (by omega), upd_ne (by omega), upd_ne (by omega), upd_ne (by omega), upd_ne (by omega), upd_ne (by omega), updA rfl]
  · show ptZ z n r p b (28 + 8 * n + 2) = _
    unfold ptZ
    rw [upd_ne (by omega), upd_ne (by omega), upd_ne (by omega), upd_ne (by omega), upd_ne (by omega), upd_ne (by omega), updA rfl]
  · show ptZ z n r p b (28 + 8 * n + 3) = _
    unfold ptZ
    rw [upd_ne (by omega), upd_ne (by omega), upd_ne (by omega), upd_ne (by omega), upd_ne (by omega), updA rfl]
  · show ptZ z n r p b (28 + 8 * n + 4) = _
    unfold ptZ
    rw [upd_ne (by omega), upd_ne (by omega), upd_ne (by omega), upd_ne (by omega), updA rfl]
  · show ptZ z n r p b (28 + 8 * n + 5) = _
    unfold ptZ
    rw [upd_ne (by omega), upd_ne (by omega), upd_ne (by omega), updA rfl]
  · show ptZ z n r p b (28 + 8 * n + 6) = _
    unfold ptZ
    rw [upd_ne (by omega), upd_ne (by omega), updA rfl]
  · show ptZ z n r p b (28 + 8 * n + 7) = _
    unfold ptZ
    rw [upd_ne (by omega), updA rfl]
theorem shr_k (n : Nat) : shr (nI n) = kR n := by
  unfold shr kR
  rw [show (7 : Int32) * nI n = nI (7 * n) from pk_mul 7 n]
theorem kR_nat {n : Nat} (hn : n < 1000) : kR n = nI (7 * n % 10) := pk_rem (a := 7 * n) (d := 10) (by omega) (by omega) (by omega)
theorem ho_eq (z : Nat → Int32) (n b : Nat) : hoL (z (4 + 2 * b)) (z (4 + 2 * b + 1)) (nI n) = lf2 z n b := by
  unfold hoL lf2 lf1 lf0
  rw [shr_k, mx1_le]
theorem e1000_ti : (1000 : Int32).toInt = 1000 := by decide
theorem lf2_rng {z : Nat → Int32} {n b : Nat} (hn : n < 1000) (hl : 10 ≤ (z (4 + 2 * b)).toInt ∧ (z (4 + 2 * b)).toInt ≤ 9999) (hs : 0 ≤ (z (4 + 2 * b + 1)).toInt ∧ (z (4 + 2 * b + 1)).toInt ≤ 90) : 1 ≤ (lf2 z n b).toInt ∧ (lf2 z n b).toInt ≤ 9999 := by
  have hk : 0 ≤ (kR n).toInt ∧ (kR n).toInt ≤ 9 := by
    rw [kR_nat hn, nI_toInt (by omega)]
    omega
  have y1 := Int.mul_le_mul_of_nonneg_left hs.2 (show 0 ≤ (z (4 + 2 * b)).toInt by omega)
  have y0 := Int.mul_nonneg (show 0 ≤ (z (4 + 2 * b)).toInt by omega) hs.1
  have my := ml_ti (x := z (4 + 2 * b)) (y := z (4 + 2 * b + 1)) (by omega)
  have x1 := Int.mul_le_mul_of_nonneg_left hk.2 y0
  have x0 := Int.mul_nonneg y0 hk.1
  have mx := ml_ti (x := z (4 + 2 * b) * z (4 + 2 * b + 1)) (y := kR n) (by rw [my]; omega)
  have md := dv_ti (x := z (4 + 2 * b) * z (4 + 2 * b + 1) * kR n) (y := 1000) (by rw [mx, my]; exact x0) (by rw [e1000_ti]; omega)
  rw [mx, my, e1000_ti] at md
  have ms := sb_ti (x := z (4 + 2 * b)) (y := z (4 + 2 * b) * z (4 + 2 * b + 1) * kR n / 1000) (by rw [md]; omega)
  rw [md] at ms
  have r0 : 0 ≤ (lf0 z n b).toInt ∧ (lf0 z n b).toInt ≤ 9999 := by
    unfold lf0
    rw [ms]
    omega
  have r1 : 0 ≤ (lf1 z n b).toInt ∧ (lf1 z n b).toInt ≤ 9999 := by
    unfold lf1
    by_cases c : kR n = 9
    · rw [if_pos c, dv_ti r0.1 (by rw [e10_ti]; omega), e10_ti]
      omega
    · rw [if_neg c]
      exact r0
  unfold lf2
  by_cases c : 1 ≤ lf1 z n b
  · rw [if_pos c]
    have := le_ti.mp c
    rw [e1_ti] at this
    omega
  · rw [if_neg c, e1_ti]
    omega
theorem Rl.put {B : Int} {S : SC} {z : Nat → Int32} (h : Rl B S z) {r p b : Nat} (hr : r < 3) (hp : p < 8) (hb : b < 6) (hn : sN S < 60) (he : sA S 8 (r * 8 + p) = -1) : Rl B (addS S (r * 8 + p) (nI b) (lf2 z (sN S) b)) (ptZ z (sN S) (nI r) (nI p) b) := by
  obtain ⟨h1, h2, h3, h4, h5, h6, h7, h8, h9, h10, h11⟩ := h.1
  obtain ⟨p0, p1, p2, p3, p4, p5, p6, p7⟩ := ptZ_n (z := z) (n := sN S) (r := nI r) (p := nI p) (b := b)
  have hB := h.rB hb
  refine ⟨⟨?_, ?_, ?_, by show sN S + 1 ≤ 60; omega, ?_, ?_, ?_, by show sN S + 1 ≤ 60; omega, ptZ_3, ?_, fun k hk => ?_⟩, fun c hc => (h.rB hc).cg rfl rfl (ptZ_o (by omega) (by omega)) (ptZ_o (by omega) (by omega)), fun c hc => (h.rR hc).cg rfl rfl rfl rfl (ptZ_o (by omega) (by omega)) (ptZ_o (by omega) (by omega)) (ptZ_o (by omega) (by omega)) (ptZ_o (by omega) (by omega)), fun k hk => ?_, fun j hj => ?_⟩
  · rw [ptZ_o (by omega) (by omega)]; exact h1
  · rw [ptZ_o (by omega) (by omega)]; exact h2
  · rw [ptZ_o (by omega) (by omega)]; exact h3
  · rw [ptZ_o (by omega) (by omega)]; exact h5
  · rw [ptZ_o (by omega) (by omega)]; exact h6
  · rw [ptZ_o (by omega) (by omega)]; exact h7
  · rw [ptZ_o (by omega) (by omega)]; exact h10
  · by_cases e : k = sN S
    · subst e
      exact Or.inr ⟨r, hr, p1⟩
    · rw [show zl (ptZ z (sN S) (nI r) (nI p) b) k 1 = zl z k 1 from ptZ_o (by omega) (by omega)]
      exact h11 k hk
  · have hk' : k < sN S + 1 := hk
    by_cases e : k = sN S
    · subst e
      refine ⟨⟨?_, ?_, ?_, ?_, ?_, ?_⟩, Or.inr ⟨r, p, hr, hp, updA rfl, p1, p2, updA rfl⟩⟩
      · rw [p0]; exact updA rfl
      · rw [p3]; exact updA rfl
      · rw [p4]; exact updA rfl
      · rw [p5]; exact updA rfl
      · rw [p7, shr_k]; rfl
      · rw [p3, p4, p6]
        have l := lf2_rng (z := z) (n := sN S) (b := b) (by omega) hB.2.2.1 hB.2.2.2
        refine ⟨l, ?_, Or.inl ⟨updA rfl, rfl, ?_⟩⟩
        · rw [e0_ti]; omega
        · rw [e0_ti]; omega
    · have hk2 : k < sN S := by omega
      refine ⟨(h.rD hk2).cg (upd_ne e) (upd_ne e) (upd_ne e) (upd_ne e) (upd_ne e) (ptZ_o (by omega) (by omega)) (ptZ_o (by omega) (by omega)) (ptZ_o (by omega) (by omega)) (ptZ_o (by omega) (by omega)) (ptZ_o (by omega) (by omega)) (ptZ_o (by omega) (by omega)) (ptZ_o (by omega) (by omega)), (h.rP hk2).cg (upd_ne e) (fun j q => ?_) (ptZ_o (by omega) (by omega)) (ptZ_o (by omega) (by omega))⟩
      show upd (sA S 8) (r * 8 + p) (nI (sN S)) j = nI k
      rw [upd_ne (fun ej => by rw [ej, he] at q; exact nI_nm1 (by omega) q.symm)]
      exact q
  · by_cases e : j = r * 8 + p
    · exact Or.inr ⟨sN S, by show sN S < sN S + 1; omega, updA e, by rw [e]; exact updA rfl⟩
    · rcases h.rA j hj with q | ⟨k, hk, q1, q2⟩
      · exact Or.inl ((upd_ne e).trans q)
      · exact Or.inr ⟨k, by show k < sN S + 1; omega, (upd_ne e).trans q1, (upd_ne (by omega)).trans q2⟩
theorem put_eq {B : Int} {S : SC} {z : Nat → Int32} (h : Rl B S z) (f : Nat → Int32) (ns : Nat) (r p b : Int32) : eqA B z f ns (insS S r p b) (puR z f ns (sN S) r p b) := by
  have hn := h.n60
  unfold insS puR wpR
  by_cases hr : 0 ≤ r ∧ r ≤ 2
  · by_cases hp : 0 ≤ p ∧ p ≤ 7
    · by_cases hb : 0 ≤ b ∧ b ≤ 5
      · rw [if_pos ⟨⟨hr, hp⟩, hb⟩, if_pos hr, if_pos hp, if_pos hb]
        obtain ⟨r, rfl, hr2, er⟩ := in_of e2_ti hr
        obtain ⟨p, rfl, hp2, ep⟩ := in_of e7_ti hp
        obtain ⟨b, rfl, hb2, eb⟩ := in_of e5_ti hb
        rw [er, ep, eb]
        rcases h.lt8 (r := r) (p := p) (by omega) (by omega) with ⟨q1, q2⟩ | ⟨k, hk, q1, -, -, -, q2⟩
        · rw [if_pos q1, if_pos q2]
          by_cases c : 60 ≤ sN S
          · rw [if_pos c, if_pos (show sN S = 60 by omega), if_neg nle3]
            exact eqA.no h _ (by decide)
          · rw [if_neg c, if_neg (show ¬ sN S = 60 by omega), if_pos le00]
            have hB := h.rB (show b < 6 by omega)
            rw [hB.1, hB.2.1, ho_eq]
            exact eqA.go rfl (h.put (by omega) (by omega) (by omega) (by omega) q1) (nI_pos (by omega))
        · rw [q1, q2, if_neg (nI_nm1 (by omega)), if_neg (nI_nmN (by omega)), if_neg nle4]
          exact eqA.no h _ (by decide)
      · rw [if_neg (fun q => hb q.2), if_pos hr, if_pos hp, if_neg hb, if_neg nle1]
        exact eqA.no h _ (by decide)
    · rw [if_neg (fun q => hp q.1.2), if_pos hr, if_neg hp, if_neg nle1]
      exact eqA.no h _ (by decide)
  · rw [if_neg (fun q => hr q.1.1), if_neg hr, if_neg nle1]
    exact eqA.no h _ (by decide)
theorem mvZ_n {z : Nat → Int32} {k : Nat} {r p : Int32} (hk : k < 60) : mvZ z (nI k) r p = upd (upd z (28 + 8 * k + 1) r) (28 + 8 * k + 2) p := by
  unfold mvZ
  rw [if_neg (nI_nmN (by omega)), show ixz (nI k) = k from nI_clamp (by omega)]
theorem mvZ_0 {z : Nat → Int32} {r p : Int32} : mvZ z (-1005) r p = z := if_pos rfl
/-- lamps go to other places, and that is all -/
theorem Rl.move {B : Int} {S S' : SC} {z z' : Nat → Int32} (h : Rl B S z) (e0 : sHr S' = sHr S) (e1 : sWv S' = sWv S) (e2 : sDv S' = sDv S) (e3 : sN S' = sN S) (e4 : ∀ j, j ≠ 3 → j ≠ 8 → sA S' j = sA S j) (e5 : ∀ j, (∀ k, k < 60 → j ≠ 28 + 8 * k + 1 ∧ j ≠ 28 + 8 * k + 2) → z' j = z j) (e6 : ∀ k, k < 60 → zl z' k 1 = zl z k 1 ∨ (zl z' k 1 = -1005 ∨ ∃ r, r < 3 ∧ zl z' k 1 = nI r)) (hP : ∀ k, k < sN S → rlP S' z' k) (hA : rlA S') : Rl B S' z' := by
  have hn := h.n60
  refine ⟨h.1.cg e0 e1 e2 e3 ?_ ?_ ?_ ?_ e6, fun c hc => (h.rB hc).cg (by rw [e4 _ (by omega) (by omega)]) (by rw [e4 _ (by omega) (by omega)]) ?_ ?_, fun c hc => (h.rR hc).cg (by rw [e4 _ (by omega) (by omega)]) (by rw [e4 _ (by omega) (by omega)]) (by rw [e4 _ (by omega) (by omega)]) (by rw [e4 _ (by omega) (by omega)]) ?_ ?_ ?_ ?_, fun k hk => ?_, hA⟩
  all_goals try exact e5 _ (fun k hk => by omega)
  rw [e3] at hk
  refine ⟨(h.rD hk).cg (by rw [e4 _ (by omega) (by omega)]) (by rw [e4 _ (by omega) (by omega)]) (by rw [e4 _ (by omega) (by omega)]) (by rw [e4 _ (by omega) (by omega)]) (by rw [e4 _ (by omega) (by omega)]) ?_ ?_ ?_ ?_ ?_ ?_ ?_, hP k hk⟩
  all_goals exact e5 _ (fun k hk => by omega)
theorem sA_up8 (S : SC) (f g : Nat → Int32) {j : Nat} (h3 : j ≠ 3) (h8 : j ≠ 8) : sA (uA (uA S 8 f) 3 g) j = sA S j := by
  show va_up (va_up S.2.2.2.2 8 _) 3 _ j = _
  rw [va_up_ne _ _ h3, va_up_ne _ _ h8]
/-- an empty place holds none -/
theorem Rl.takeOut {B : Int} {S : SC} {z : Nat → Int32} (h : Rl B S z) {r p k : Nat} (hr : r < 3) (hp : p < 8) (hk : k < sN S) (h8 : sA S 8 (r * 8 + p) = nI k) : Rl B (uA (uA S 8 (upd (sA S 8) (r * 8 + p) (-1))) 3 (upd (sA S 3) k (-1))) (mvZ z (nI k) (-1005) (-1005)) := by
  have hn := h.n60
  rw [mvZ_n (by omega)]
  refine h.move rfl rfl rfl rfl (fun j h3 h8 => sA_up8 _ _ _ h3 h8) (fun j hj => ?_) (fun c hc => ?_) (fun c hc => ?_) (fun j hj => ?_)
  · have := hj k (by omega)
    rw [upd_ne this.2, upd_ne this.1]
  · show upd (upd z (28 + 8 * k + 1) (-1005)) (28 + 8 * k + 2) (-1005) (28 + 8 * c + 1) = _ ∨ (upd (upd z (28 + 8 * k + 1) (-1005)) (28 + 8 * k + 2) (-1005) (28 + 8 * c + 1) = _ ∨ _)
    rw [upd_ne (by omega)]
    by_cases e : c = k
    · subst e; exact Or.inr (Or.inl (updA rfl))
    · exact Or.inl (upd_ne (by omega))
  · by_cases e : c = k
    · subst e
      refine Or.inl ⟨updA rfl, ?_, updA rfl⟩
      show upd (upd z (28 + 8 * c + 1) (-1005)) (28 + 8 * c + 2) (-1005) (28 + 8 * c + 1) = _
      rw [upd_ne (by omega), updA rfl]
    · refine (h.rP hc).cg (upd_ne e) (fun j q => ?_) ?_ ?_
      · show upd (sA S 8) (r * 8 + p) (-1) j = nI c
        rw [upd_ne (fun ej => by rw [ej, h8] at q; exact e (nI_i (by omega) (by omega) q).symm)]
        exact q
      · show upd (upd z (28 + 8 * k + 1) (-1005)) (28 + 8 * k + 2) (-1005) (28 + 8 * c + 1) = _
        rw [upd_ne (by omega), upd_ne (by omega)]
      · show upd (upd z (28 + 8 * k + 1) (-1005)) (28 + 8 * k + 2) (-1005) (28 + 8 * c + 2) = _
        rw [upd_ne (by omega), upd_ne (by omega)]
  · by_cases e : j = r * 8 + p
    · exact Or.inl (updA e)
    · rcases h.rA j hj with q | ⟨c, hc, q1, q2⟩
      · exact Or.inl ((upd_ne e).trans q)
      · refine Or.inr ⟨c, hc, (upd_ne e).trans q1, (upd_ne (fun ec => ?_)).trans q2⟩
        subst ec
        rcases h.rA (r * 8 + p) (by omega) with g | ⟨d, hd, g1, g2⟩
        · exact nI_nm1 (by omega) (h8.symm.trans g)
        · have : d = c := nI_i (by omega) (by omega) (g1.symm.trans h8)
          subst this
          exact e (nI_i (by omega) (by omega) (q2.symm.trans g2))
theorem takeOut_eq {B : Int} {S : SC} {z : Nat → Int32} (h : Rl B S z) (f : Nat → Int32) (ns : Nat) (r p : Int32) : eqA B z f ns (rmS S r p) (toR z f ns (sN S) r p) := by
  have hn := h.n60
  unfold rmS toR
  by_cases hr : 0 ≤ r ∧ r ≤ 2
  · by_cases hp : 0 ≤ p ∧ p ≤ 7
    · rw [if_pos ⟨hr, hp⟩, if_pos hr, if_pos hp]
      obtain ⟨r, rfl, hr2, er⟩ := in_of e2_ti hr
      obtain ⟨p, rfl, hp2, ep⟩ := in_of e7_ti hp
      rw [er, ep]
      rcases h.lt8 (r := r) (p := p) (by omega) (by omega) with ⟨q1, q2⟩ | ⟨k, hk, q1, -, -, -, q2⟩
      · rw [if_pos q1, if_pos q2]
        exact eqA.no h _ (by decide)
      · rw [q1, q2, if_neg (nI_nm1 (by omega)), if_neg (nI_nmN (by omega)), show ixz (nI k) = k from nI_clamp (by omega)]
        exact eqA.go rfl (h.takeOut (by omega) (by omega) hk q1) (nI_pos (by omega))
    · rw [if_neg (fun q => hp q.2), if_pos hr, if_neg hp]
      exact eqA.no h _ (by decide)
  · rw [if_neg (fun q => hr q.1), if_neg hr]
    exact eqA.no h _ (by decide)
