/-! pure: two places are swapped alike -/
theorem Rl.at8 {B : Int} {S : SC} {z : Nat → Int32} (h : Rl B S z) {j k : Nat} (hj : j < 24) (hk : k < 60) (e : sA S 8 j = nI k) : k < sN S ∧ sA S 3 k = nI j := by
  have hn := h.n60
  rcases h.rA j hj with g | ⟨d, hd, g1, g2⟩
  · exact absurd (e.symm.trans g) (nI_nm1 (by omega))
  · have : d = k := nI_i (by omega) (by omega) (g1.symm.trans e)
    subst this
    exact ⟨hd, g2⟩
theorem Rl.swp {B : Int} {S S' : SC} {z z' : Nat → Int32} (h : Rl B S z) {r p s q : Nat} (hr : r < 3) (hp : p < 8) (hs : s < 3) (hq : q < 8) (hj : r * 8 + p ≠ s * 8 + q) (e0 : sHr S' = sHr S) (e1 : sWv S' = sWv S) (e2 : sDv S' = sDv S) (e3 : sN S' = sN S) (e4 : ∀ j, j ≠ 3 → j ≠ 8 → sA S' j = sA S j) (e5 : ∀ j, (∀ k, k < 60 → j ≠ 28 + 8 * k + 1 ∧ j ≠ 28 + 8 * k + 2) → z' j = z j) (e6 : ∀ k, k < 60 → zl z' k 1 = zl z k 1 ∨ (zl z' k 1 = -1005 ∨ ∃ r, r < 3 ∧ zl z' k 1 = nI r))
    (a1 : sA S' 8 (r * 8 + p) = sA S 8 (s * 8 + q)) (a2 : sA S' 8 (s * 8 + q) = sA S 8 (r * 8 + p)) (a3 : ∀ j, j ≠ r * 8 + p → j ≠ s * 8 + q → sA S' 8 j = sA S 8 j)
    (b1 : ∀ k, k < sN S → sA S 8 (s * 8 + q) = nI k → sA S' 3 k = nI (r * 8 + p) ∧ zl z' k 1 = nI r ∧ zl z' k 2 = nI p)
    (b2 : ∀ k, k < sN S → sA S 8 (r * 8 + p) = nI k → sA S' 3 k = nI (s * 8 + q) ∧ zl z' k 1 = nI s ∧ zl z' k 2 = nI q)
    (b3 : ∀ k, k < sN S → sA S 8 (s * 8 + q) ≠ nI k → sA S 8 (r * 8 + p) ≠ nI k → sA S' 3 k = sA S 3 k ∧ zl z' k 1 = zl z k 1 ∧ zl z' k 2 = zl z k 2) : Rl B S' z' := by
  have hn := h.n60
  refine h.move e0 e1 e2 e3 e4 e5 e6 (fun k hk => ?_) (fun j hj2 => ?_)
  · by_cases c1 : sA S 8 (s * 8 + q) = nI k
    · obtain ⟨x1, x2, x3⟩ := b1 k hk c1
      exact Or.inr ⟨r, p, hr, hp, x1, x2, x3, a1.trans c1⟩
    · by_cases c2 : sA S 8 (r * 8 + p) = nI k
      · obtain ⟨x1, x2, x3⟩ := b2 k hk c2
        exact Or.inr ⟨s, q, hs, hq, x1, x2, x3, a2.trans c2⟩
      · obtain ⟨x1, x2, x3⟩ := b3 k hk c1 c2
        refine (h.rP hk).cg x1 (fun j g => ?_) x2 x3
        rw [a3 j (fun e => c2 (e ▸ g)) (fun e => c1 (e ▸ g))]
        exact g
  · by_cases c1 : j = r * 8 + p
    · subst c1
      rcases h.rA (s * 8 + q) (by omega) with g | ⟨d, hd, g1, g2⟩
      · exact Or.inl (a1.trans g)
      · exact Or.inr ⟨d, by rw [e3]; exact hd, a1.trans g1, (b1 d hd g1).1⟩
    · by_cases c2 : j = s * 8 + q
      · subst c2
        rcases h.rA (r * 8 + p) (by omega) with g | ⟨d, hd, g1, g2⟩
        · exact Or.inl (a2.trans g)
        · exact Or.inr ⟨d, by rw [e3]; exact hd, a2.trans g1, (b2 d hd g1).1⟩
      · rcases h.rA j hj2 with g | ⟨d, hd, g1, g2⟩
        · exact Or.inl ((a3 j c1 c2).trans g)
        · refine Or.inr ⟨d, by rw [e3]; exact hd, (a3 j c1 c2).trans g1, (b3 d hd (fun y => ?_) (fun y => ?_)).1.trans g2⟩
          · exact c2 (nI_i (by omega) (by omega) (g2.symm.trans (h.at8 (by omega) (by omega) y).2))
          · exact c1 (nI_i (by omega) (by omega) (g2.symm.trans (h.at8 (by omega) (by omega) y).2))
theorem mvS_n (S : SC) (j : Nat) {k : Nat} (hk : k < 60) : mvS S j (nI k) = (1, uA (uA S 8 (upd (sA S 8) j (nI k))) 3 (upd (sA S 3) k (nI j))) := by
  unfold mvS
  rw [if_neg (nI_nm1 (by omega)), show ixz (nI k) = k from nI_clamp (by omega)]
theorem mvS_0 (S : SC) (j : Nat) : mvS S j (-1) = (0, uA S 8 (upd (sA S 8) j (-1))) := if_pos rfl
theorem one_n {k : Nat} (hk : k < 60) : one (nI k) = 1 := if_neg (nI_nmN (by omega))
theorem one_0 : one (-1005) = 0 := if_pos rfl
theorem zl_mv1 {z : Nat → Int32} {k c : Nat} {r p : Int32} : zl (upd (upd z (28 + 8 * k + 1) r) (28 + 8 * k + 2) p) c 1 = if c = k then r else zl z c 1 := by
  show upd (upd z (28 + 8 * k + 1) r) (28 + 8 * k + 2) p (28 + 8 * c + 1) = _
  rw [upd_ne (by omega)]
  by_cases e : c = k
  · rw [if_pos e]; exact updA (by omega)
  · rw [if_neg e]; exact upd_ne (by omega)
theorem zl_mv2 {z : Nat → Int32} {k c : Nat} {r p : Int32} : zl (upd (upd z (28 + 8 * k + 1) r) (28 + 8 * k + 2) p) c 2 = if c = k then p else zl z c 2 := by
  show upd (upd z (28 + 8 * k + 1) r) (28 + 8 * k + 2) p (28 + 8 * c + 2) = _
  by_cases e : c = k
  · rw [if_pos e]; exact updA (by omega)
  · rw [if_neg e, upd_ne (by omega), upd_ne (by omega)]
theorem zl_mvo {z : Nat → Int32} {k j : Nat} {r p : Int32} (hk : k < 60) (h : ∀ k, k < 60 → j ≠ 28 + 8 * k + 1 ∧ j ≠ 28 + 8 * k + 2) : upd (upd z (28 + 8 * k + 1) r) (28 + 8 * k + 2) p j = z j := by
  rw [upd_ne (h k hk).2, upd_ne (h k hk).1]
theorem swap_eq {B : Int} {S : SC} {z : Nat → Int32} (h : Rl B S z) (f : Nat → Int32) (ns : Nat) (r p s q : Int32) : eqA B z f ns (exS S r p s q) (swR z f ns (sN S) r p s q) := by
  have hn := h.n60
  unfold exS swR
  by_cases hr : 0 ≤ r ∧ r ≤ 2
  · by_cases hp : 0 ≤ p ∧ p ≤ 7
    · by_cases hs : 0 ≤ s ∧ s ≤ 2
      · by_cases hq : 0 ≤ q ∧ q ≤ 7
        · rw [if_pos ⟨⟨hr, hp⟩, hs, hq⟩, if_pos hr, if_pos hp, if_pos hs, if_pos hq]
          obtain ⟨r, rfl, hr2, er⟩ := in_of e2_ti hr
          obtain ⟨p, rfl, hp2, ep⟩ := in_of e7_ti hp
          obtain ⟨s, rfl, hs2, es⟩ := in_of e2_ti hs
          obtain ⟨q, rfl, hq2, eq⟩ := in_of e7_ti hq
          rw [er, ep, es, eq]
          by_cases hj : r * 8 + p = s * 8 + q
          · rw [if_pos (Or.inl hj)]
            have e1 : r = s := by omega
            have e2 : p = q := by omega
            subst e1
            subst e2
            have : (if nI r = nI r then (if nI p = nI p then ((-1005 : Int32), z, f, ns) else (one (lat z (nI r) (nI p) (sN S)) + one (lat z (nI r) (nI p) (sN S)), mvZ (mvZ z (lat z (nI r) (nI p) (sN S)) (nI r) (nI p)) (lat z (nI r) (nI p) (sN S)) (nI r) (nI p), rcF f ns z, rcN ns)) else (one (lat z (nI r) (nI p) (sN S)) + one (lat z (nI r) (nI p) (sN S)), mvZ (mvZ z (lat z (nI r) (nI p) (sN S)) (nI r) (nI p)) (lat z (nI r) (nI p) (sN S)) (nI r) (nI p), rcF f ns z, rcN ns)) = ((-1005 : Int32), z, f, ns) := by rw [if_pos rfl, if_pos rfl]
            rw [this, ite_self]
            exact eqA.no h _ (by decide)
          · have gg : ∀ X Y : Int32 × RZ, (if nI r = nI s then (if nI p = nI q then X else Y) else Y) = Y := fun X Y => by
              by_cases c1 : nI r = nI s
              · rw [if_pos c1, if_neg]
                intro c2
                have := nI_i (by omega) (by omega) c1
                have := nI_i (by omega) (by omega) c2
                omega
              · rw [if_neg c1]
            rw [gg]
            rcases h.lt8 (r := r) (p := p) (by omega) (by omega) with ⟨x1, x2⟩ | ⟨k, hk, x1, x3, -, -, x2⟩
            · rcases h.lt8 (r := s) (p := q) (by omega) (by omega) with ⟨y1, y2⟩ | ⟨d, hd, y1, y3, -, -, y2⟩
              · rw [if_pos (Or.inr ⟨x1, y1⟩), x2, y2, one_0, if_pos (show (0 : Int32) + 0 = 0 by decide)]
                exact eqA.no h _ (by decide)
              · rw [if_neg (fun g => g.elim hj (fun g => nI_nm1 (k := d) (by omega) (y1.symm.trans g.2))), x1, y1, x2, y2, one_0, one_n (by omega), if_neg (show ¬ (0 : Int32) + 1 = 0 by decide), mvS_0, mvS_n _ _ (show d < 60 by omega), mvZ_0, mvZ_n (show d < 60 by omega)]
                refine eqA.go rfl ?_ (by show ¬ (0 : Int32) + 1 < 0; decide)
                refine h.swp (r := r) (p := p) (s := s) (q := q) (by omega) (by omega) (by omega) (by omega) hj rfl rfl rfl rfl (fun j h3 h8 => ?_) (fun j g => zl_mvo (by omega) g) (fun c hc => ?_) ?_ ?_ (fun j g1 g2 => ?_) (fun c hc g => ?_) (fun c hc g => ?_) (fun c hc g1 g2 => ?_)
                · show va_up (va_up (va_up S.2.2.2.2 8 _) 8 _) 3 _ j = _
                  rw [va_up_ne _ _ h3, va_up_ne _ _ h8, va_up_ne _ _ h8]
                · rw [zl_mv1]
                  by_cases e : c = d
                  · rw [if_pos e]; exact Or.inr (Or.inr ⟨r, by omega, rfl⟩)
                  · rw [if_neg e]; exact Or.inl rfl
                · exact (updA rfl).trans y1.symm
                · exact (upd_ne (fun e => hj e.symm)).trans ((updA rfl).trans x1.symm)
                · exact (upd_ne g1).trans (upd_ne g2)
                · have e : c = d := nI_i (by omega) (by omega) (g.symm.trans y1)
                  rw [zl_mv1, zl_mv2, if_pos e, if_pos e]
                  exact ⟨updA e, rfl, rfl⟩
                · exact absurd (g.symm.trans x1) (nI_nm1 (by omega))
                · have e : c ≠ d := fun e => g1 (by rw [e]; exact y1)
                  rw [zl_mv1, zl_mv2, if_neg e, if_neg e]
                  exact ⟨upd_ne e, rfl, rfl⟩
            · rcases h.lt8 (r := s) (p := q) (by omega) (by omega) with ⟨y1, y2⟩ | ⟨d, hd, y1, y3, -, -, y2⟩
              · rw [if_neg (fun g => g.elim hj (fun g => nI_nm1 (k := k) (by omega) (x1.symm.trans g.1))), x1, y1, x2, y2, one_0, one_n (by omega), if_neg (show ¬ (1 : Int32) + 0 = 0 by decide), mvS_n _ _ (show k < 60 by omega), mvS_0, mvZ_0, mvZ_n (show k < 60 by omega)]
                refine eqA.go rfl ?_ (by show ¬ (1 : Int32) + 0 < 0; decide)
                refine h.swp (r := r) (p := p) (s := s) (q := q) (by omega) (by omega) (by omega) (by omega) hj rfl rfl rfl rfl (fun j h3 h8 => ?_) (fun j g => zl_mvo (by omega) g) (fun c hc => ?_) ?_ ?_ (fun j g1 g2 => ?_) (fun c hc g => ?_) (fun c hc g => ?_) (fun c hc g1 g2 => ?_)
                · show va_up (va_up (va_up S.2.2.2.2 8 _) 3 _) 8 _ j = _
                  rw [va_up_ne _ _ h8, va_up_ne _ _ h3, va_up_ne _ _ h8]
                · rw [zl_mv1]
                  by_cases e : c = k
                  · rw [if_pos e]; exact Or.inr (Or.inr ⟨s, by omega, rfl⟩)
                  · rw [if_neg e]; exact Or.inl rfl
                · exact (updA rfl).trans y1.symm
                · exact (upd_ne (fun e => hj e.symm)).trans ((updA rfl).trans x1.symm)
                · exact (upd_ne g1).trans (upd_ne g2)
                · exact absurd (g.symm.trans y1) (nI_nm1 (by omega))
                · have e : c = k := nI_i (by omega) (by omega) (g.symm.trans x1)
                  rw [zl_mv1, zl_mv2, if_pos e, if_pos e]
                  exact ⟨updA e, rfl, rfl⟩
                · have e : c ≠ k := fun e => g2 (by rw [e]; exact x1)
                  rw [zl_mv1, zl_mv2, if_neg e, if_neg e]
                  exact ⟨upd_ne e, rfl, rfl⟩
              · have kd : k ≠ d := fun e => by
                  subst e
                  exact hj (nI_i (by omega) (by omega) (x3.symm.trans y3))
                rw [if_neg (fun g => g.elim hj (fun g => nI_nm1 (k := k) (by omega) (x1.symm.trans g.1))), x1, y1, x2, y2, one_n (show k < 60 by omega), one_n (show d < 60 by omega), if_neg (show ¬ (1 : Int32) + 1 = 0 by decide), mvS_n _ _ (show k < 60 by omega), mvS_n _ _ (show d < 60 by omega), mvZ_n (show k < 60 by omega), mvZ_n (show d < 60 by omega)]
                refine eqA.go rfl ?_ (by show ¬ (1 : Int32) + 1 < 0; decide)
                refine h.swp (r := r) (p := p) (s := s) (q := q) (by omega) (by omega) (by omega) (by omega) hj rfl rfl rfl rfl (fun j h3 h8 => ?_) (fun j g => (zl_mvo (by omega) g).trans (zl_mvo (by omega) g)) (fun c hc => ?_) ?_ ?_ (fun j g1 g2 => ?_) (fun c hc g => ?_) (fun c hc g => ?_) (fun c hc g1 g2 => ?_)
                · show va_up (va_up (va_up (va_up S.2.2.2.2 8 _) 3 _) 8 _) 3 _ j = _
                  rw [va_up_ne _ _ h3, va_up_ne _ _ h8, va_up_ne _ _ h3, va_up_ne _ _ h8]
                · rw [zl_mv1, zl_mv1]
                  by_cases e : c = d
                  · rw [if_pos e]; exact Or.inr (Or.inr ⟨r, by omega, rfl⟩)
                  · rw [if_neg e]
                    by_cases e2 : c = k
                    · rw [if_pos e2]; exact Or.inr (Or.inr ⟨s, by omega, rfl⟩)
                    · rw [if_neg e2]; exact Or.inl rfl
                · exact (updA rfl).trans y1.symm
                · exact (upd_ne (fun e => hj e.symm)).trans ((updA rfl).trans x1.symm)
                · exact (upd_ne g1).trans (upd_ne g2)
                · have e : c = d := nI_i (by omega) (by omega) (g.symm.trans y1)
                  rw [zl_mv1, zl_mv2, if_pos e, if_pos e]
                  exact ⟨updA e, rfl, rfl⟩
                · have e : c = k := nI_i (by omega) (by omega) (g.symm.trans x1)
                  rw [zl_mv1, zl_mv2, if_neg (e ▸ kd), if_neg (e ▸ kd), zl_mv1, zl_mv2, if_pos e, if_pos e]
                  exact ⟨(upd_ne (e ▸ kd)).trans (updA e), rfl, rfl⟩
                · have e : c ≠ d := fun e => g1 (by rw [e]; exact y1)
                  have e2 : c ≠ k := fun e => g2 (by rw [e]; exact x1)
                  rw [zl_mv1, zl_mv2, if_neg e, if_neg e, zl_mv1, zl_mv2, if_neg e2, if_neg e2]
                  exact ⟨(upd_ne e).trans (upd_ne e2), rfl, rfl⟩
        · rw [if_neg (fun g => hq g.2.2), if_pos hr, if_pos hp, if_pos hs, if_neg hq]
          exact eqA.no h _ (by decide)
      · rw [if_neg (fun g => hs g.2.1), if_pos hr, if_pos hp, if_neg hs]
        exact eqA.no h _ (by decide)
    · rw [if_neg (fun g => hp g.1.2), if_pos hr, if_neg hp]
      exact eqA.no h _ (by decide)
  · rw [if_neg (fun g => hr g.1.1), if_neg hr]
    exact eqA.no h _ (by decide)
