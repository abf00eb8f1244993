/-! pure: lamps are put in, taken out, swapped -/
theorem hoL_rng {l p : Int32} {n : Nat} (hn : n < 1000) (hl : 10 ≤ l.toInt ∧ l.toInt ≤ 9999) (hs : 0 ≤ p.toInt ∧ p.toInt ≤ 90) : 1 ≤ (hoL l p (nI n)).toInt ∧ (hoL l p (nI n)).toInt ≤ 9999 := by
  have ek : shr (nI n) = nI (7 * n % 10) := by
    unfold shr
    rw [show (7 : Int32) * nI n = nI (7 * n) from pk_mul 7 n]
    exact pk_rem (a := 7 * n) (d := 10) (by omega) (by omega) (by omega)
  have hk : 0 ≤ (shr (nI n)).toInt ∧ (shr (nI n)).toInt ≤ 9 := by
    rw [ek, nI_toInt (by omega)]
    omega
  unfold hoL
  generalize shr (nI n) = u at *
  have y1 := Int.mul_le_mul_of_nonneg_left hs.2 (show 0 ≤ l.toInt by omega)
  have y0 := Int.mul_nonneg (show 0 ≤ l.toInt by omega) hs.1
  have my := ml_ti (x := l) (y := p) (by omega)
  have x1 := Int.mul_le_mul_of_nonneg_left hk.2 y0
  have x0 := Int.mul_nonneg y0 hk.1
  have mx := ml_ti (x := l * p) (y := u) (by rw [my]; omega)
  have md := dv_ti (x := l * p * u) (y := 1000) (by rw [mx, my]; exact x0) (by rw [e1000_ti]; omega)
  rw [mx, my, e1000_ti] at md
  have ms := sb_ti (x := l) (y := l * p * u / 1000) (by rw [md]; omega)
  rw [md] at ms
  generalize l - l * p * u / 1000 = M at *
  have r0 : 0 ≤ M.toInt ∧ M.toInt ≤ 9999 := by omega
  have r1 : 0 ≤ (if u = 9 then M / 10 else M).toInt ∧ (if u = 9 then M / 10 else M).toInt ≤ 9999 := by
    by_cases c : u = 9
    · rw [if_pos c, dv_ti r0.1 (by rw [e10_ti]; omega), e10_ti]
      omega
    · rw [if_neg c]
      exact r0
  generalize (if u = 9 then M / 10 else M) = Q at *
  unfold mx1
  by_cases c : 1 < Q
  · rw [if_pos c]
    have := lt_ti.mp c
    rw [e1_ti] at this
    omega
  · rw [if_neg c, e1_ti]
    omega
section MV
variable {H : Int} {S : SC}
/-- the arrays behind a lamp's putting in -/
theorem addS_8 (S : SC) (j : Nat) (b x : Int32) : sA (addS S j b x) 8 = upd (sA S 8) j (nI (sN S)) := rfl
theorem addS_2 (S : SC) (j : Nat) (b x : Int32) : sA (addS S j b x) 2 = upd (sA S 2) (sN S) b := rfl
theorem addS_3 (S : SC) (j : Nat) (b x : Int32) : sA (addS S j b x) 3 = upd (sA S 3) (sN S) (nI j) := rfl
theorem addS_4 (S : SC) (j : Nat) (b x : Int32) : sA (addS S j b x) 4 = upd (sA S 4) (sN S) x := rfl
theorem addS_5 (S : SC) (j : Nat) (b x : Int32) : sA (addS S j b x) 5 = upd (sA S 5) (sN S) 0 := rfl
theorem addS_6 (S : SC) (j : Nat) (b x : Int32) : sA (addS S j b x) 6 = upd (sA S 6) (sN S) 0 := rfl
theorem addS_7 (S : SC) (j : Nat) (b x : Int32) : sA (addS S j b x) 7 = upd (sA S 7) (sN S) (-1) := rfl
theorem addS_iv (h : Iv H S) {j b : Nat} (hj : j < 24) (hb : b < 6) (hn : sN S < 60) (he : sA S 8 j = -1) {x : Int32} (hx : 1 ≤ x.toInt ∧ x.toInt ≤ 9999) : Iv H (addS S j (nI b) x) := by
  refine ⟨⟨⟨by show sN S + 1 ≤ 60; omega, h.1.1.2⟩, fun d hd => h.1.bt hd, fun r hr => (h.1.rk hr).cg rfl rfl rfl rfl, fun k hk => ?_, fun i hi => ?_⟩, h.2⟩
  · have hk' : k < sN S + 1 := hk
    by_cases e : k = sN S
    · subst e
      refine ⟨⟨⟨b, hb, ?_⟩, ?_, ?_, Or.inl ⟨?_, ?_⟩⟩, Or.inr ⟨j, hj, ?_, ?_⟩⟩
      · rw [addS_2, updA rfl]
      · rw [addS_4, updA rfl]; exact hx
      · rw [addS_5, addS_6, updA rfl, updA rfl, e0_ti]; omega
      · rw [addS_7, updA rfl]
      · rw [addS_5, addS_4, updA rfl, updA rfl, e0_ti]; omega
      · rw [addS_3, updA rfl]
      · rw [addS_8, updA rfl]
    · have hk2 : k < sN S := by omega
      refine ⟨(h.1.lv hk2).cg (by rw [addS_2, upd_ne e]) (by rw [addS_4, upd_ne e]) (by rw [addS_5, upd_ne e]) (by rw [addS_6, upd_ne e]) (by rw [addS_7, upd_ne e]), ?_⟩
      rcases h.1.pl hk2 with q | ⟨i, hi, q1, q2⟩
      · exact Or.inl (by rw [addS_3, upd_ne e]; exact q)
      · refine Or.inr ⟨i, hi, by rw [addS_3, upd_ne e]; exact q1, ?_⟩
        rw [addS_8, upd_ne (fun ej => by rw [ej, he] at q2; exact nI_nm1 (by omega) q2.symm)]
        exact q2
  · by_cases e : i = j
    · subst e
      exact Or.inr ⟨sN S, by show sN S < sN S + 1; omega, by rw [addS_8, updA rfl], by rw [addS_3, updA rfl]⟩
    · rcases h.1.place hi with q | ⟨k, hk, q1, q2⟩
      · exact Or.inl (by rw [addS_8, upd_ne e]; exact q)
      · exact Or.inr ⟨k, by show k < sN S + 1; omega, by rw [addS_8, upd_ne e]; exact q1, by rw [addS_3, upd_ne (by omega)]; exact q2⟩
theorem insS_is (h : Iv H S) {r p b : Nat} (hr : r < 3) (hp : p < 8) (hb : b < 6) : (∃ k, k < sN S ∧ sA S 8 (r * 8 + p) = nI k ∧ insS S (nI r) (nI p) (nI b) = (-1004, S)) ∨ (sA S 8 (r * 8 + p) = -1 ∧ sN S = 60 ∧ insS S (nI r) (nI p) (nI b) = (-1003, S)) ∨ (sA S 8 (r * 8 + p) = -1 ∧ sN S < 60 ∧ insS S (nI r) (nI p) (nI b) = (nI (sN S), addS S (r * 8 + p) (nI b) (hoL (sA S 0 b) (sA S 1 b) (nI (sN S)))) ∧ Iv H (addS S (r * 8 + p) (nI b) (hoL (sA S 0 b) (sA S 1 b) (nI (sN S))))) := by
  have hn := h.n60
  unfold insS
  rw [if_pos ⟨⟨i2 hr, i7 hp⟩, i5 hb⟩, ixn (by omega), ixn (by omega), ixn (by omega)]
  rcases h.1.place (j := r * 8 + p) (by omega) with q | ⟨k, hk, q1, q2⟩
  · rw [if_pos q]
    by_cases c : 60 ≤ sN S
    · rw [if_pos c]
      exact Or.inr (Or.inl ⟨q, by omega, rfl⟩)
    · rw [if_neg c]
      have hB := h.1.bt hb
      exact Or.inr (Or.inr ⟨q, by omega, rfl, addS_iv h (by omega) hb (by omega) q (hoL_rng (by omega) hB.1 hB.2)⟩)
  · rw [if_neg (by rw [q1]; exact nI_nm1 (by omega))]
    exact Or.inl ⟨k, hk, q1, rfl⟩
/-- a lamp is taken out -/
def rmT (S : SC) (j k : Nat) : SC := uA (uA S 8 (upd (sA S 8) j (-1))) 3 (upd (sA S 3) k (-1))
theorem rmT_8 (S : SC) (j k : Nat) : sA (rmT S j k) 8 = upd (sA S 8) j (-1) := rfl
theorem rmT_3 (S : SC) (j k : Nat) : sA (rmT S j k) 3 = upd (sA S 3) k (-1) := rfl
/-- only places change -/
theorem Iv.moved {T : SC} (h : Iv H S) (e0 : sHr T = sHr S) (e1 : sWv T = sWv S) (e2 : sDv T = sDv S) (eN : sN T = sN S) (e : ∀ j, j ≠ 3 → j ≠ 8 → sA T j = sA S j) (hP : ∀ k, k < sN S → ivP T k) (hA : rlA T) : Iv H T := by
  refine ⟨⟨?_, fun d hd => ?_, fun r hr => (h.1.rk hr).cg ?_ ?_ ?_ ?_, fun k hk => ?_, hA⟩, by rw [e0]; exact h.2⟩
  · have := h.1.1
    unfold ivH at *
    rw [e1, e2, eN]
    exact this
  · have := h.1.bt hd
    unfold ivB at *
    rw [e 0 (by omega) (by omega), e 1 (by omega) (by omega)]
    exact this
  · rw [e _ (by omega) (by omega)]
  · rw [e _ (by omega) (by omega)]
  · rw [e _ (by omega) (by omega)]
  · rw [e _ (by omega) (by omega)]
  · rw [eN] at hk
    rw [e0]
    refine ⟨(h.1.lv hk).cg ?_ ?_ ?_ ?_ ?_, hP k hk⟩
    all_goals rw [e _ (by omega) (by omega)]
theorem rmT_iv (h : Iv H S) {j k : Nat} (hj : j < 24) (hk : k < sN S) (h8 : sA S 8 j = nI k) : Iv H (rmT S j k) := by
  have hn := h.n60
  have h3 := h.1.one hj hk h8
  refine h.moved rfl rfl rfl rfl (fun i i3 i8 => sA_up8 _ _ _ i3 i8) (fun c hc => ?_) (fun i hi => ?_)
  · by_cases e : c = k
    · subst e
      exact Or.inl (by rw [rmT_3, updA rfl])
    · rcases h.1.pl hc with q | ⟨i, hi, q1, q2⟩
      · exact Or.inl (by rw [rmT_3, upd_ne e]; exact q)
      · refine Or.inr ⟨i, hi, by rw [rmT_3, upd_ne e]; exact q1, ?_⟩
        rw [rmT_8, upd_ne (fun ej => ?_)]
        · exact q2
        · subst ej
          exact e (nI_i (by omega) (by omega) (q2.symm.trans h8))
  · by_cases e : i = j
    · exact Or.inl (by rw [rmT_8, updA e])
    · rcases h.1.place hi with q | ⟨c, hc, q1, q2⟩
      · exact Or.inl (by rw [rmT_8, upd_ne e]; exact q)
      · refine Or.inr ⟨c, hc, by rw [rmT_8, upd_ne e]; exact q1, ?_⟩
        rw [rmT_3, upd_ne (fun ec => ?_)]
        · exact q2
        · subst ec
          exact e (h.1.uniq hi hj hc q1 h8)
theorem rmS_is (h : Iv H S) {r p : Nat} (hr : r < 3) (hp : p < 8) : (sA S 8 (r * 8 + p) = -1 ∧ rmS S (nI r) (nI p) = (-1005, S)) ∨ ∃ k, k < sN S ∧ sA S 8 (r * 8 + p) = nI k ∧ sA S 3 k = nI (r * 8 + p) ∧ rmS S (nI r) (nI p) = (nI k, rmT S (r * 8 + p) k) ∧ Iv H (rmT S (r * 8 + p) k) := by
  have hn := h.n60
  unfold rmS
  rw [if_pos ⟨i2 hr, i7 hp⟩, ixn (by omega), ixn (by omega)]
  rcases h.1.place (j := r * 8 + p) (by omega) with q | ⟨k, hk, q1, q2⟩
  · rw [if_pos q]
    exact Or.inl ⟨q, rfl⟩
  · rw [if_neg (by rw [q1]; exact nI_nm1 (by omega))]
    refine Or.inr ⟨k, hk, q1, q2, ?_, rmT_iv h (by omega) hk q1⟩
    rw [q1, ixn (by omega)]
    rfl
/-- two places change what they hold -/
def exT (S : SC) (i j : Nat) : SC := (mvS (mvS S j (sA S 8 i)).2 i (sA S 8 j)).2
def exR (S : SC) (i j : Nat) : Int32 := (mvS S j (sA S 8 i)).1 + (mvS (mvS S j (sA S 8 i)).2 i (sA S 8 j)).1
theorem exT_2 {i j k k2 : Nat} (hk : k < 60) (hk2 : k2 < 60) (e1 : sA S 8 i = nI k) (e2 : sA S 8 j = nI k2) : exT S i j = uA (uA (uA (uA S 8 (upd (sA S 8) j (nI k))) 3 (upd (sA S 3) k (nI j))) 8 (upd (upd (sA S 8) j (nI k)) i (nI k2))) 3 (upd (upd (sA S 3) k (nI j)) k2 (nI i)) ∧ exR S i j = 2 := by
  unfold exT exR mvS
  rw [e1, e2, if_neg (nI_nm1 (by omega)), if_neg (nI_nm1 (by omega)), ixn (by omega), ixn (by omega)]
  exact ⟨rfl, rfl⟩
theorem exT_a {i j k : Nat} (hk : k < 60) (e1 : sA S 8 i = nI k) (e2 : sA S 8 j = -1) : exT S i j = uA (uA (uA S 8 (upd (sA S 8) j (nI k))) 3 (upd (sA S 3) k (nI j))) 8 (upd (upd (sA S 8) j (nI k)) i (-1)) ∧ exR S i j = 1 := by
  unfold exT exR mvS
  rw [e1, e2, if_neg (nI_nm1 (by omega)), if_pos rfl, ixn (by omega)]
  exact ⟨rfl, rfl⟩
theorem exT_b {i j k2 : Nat} (hk2 : k2 < 60) (e1 : sA S 8 i = -1) (e2 : sA S 8 j = nI k2) : exT S i j = uA (uA (uA S 8 (upd (sA S 8) j (-1))) 8 (upd (upd (sA S 8) j (-1)) i (nI k2))) 3 (upd (sA S 3) k2 (nI i)) ∧ exR S i j = 1 := by
  unfold exT exR mvS
  rw [e1, e2, if_pos rfl, if_neg (nI_nm1 (by omega)), ixn (by omega)]
  exact ⟨rfl, rfl⟩
/-- what a swap does, in words of the two arrays -/
def exO (S T : SC) (i j : Nat) : Prop := (sHr T = sHr S ∧ sWv T = sWv S ∧ sDv T = sDv S ∧ sN T = sN S ∧ ∀ q, q ≠ 3 → q ≠ 8 → sA T q = sA S q) ∧ sA T 8 i = sA S 8 j ∧ sA T 8 j = sA S 8 i ∧ (∀ q, q ≠ i → q ≠ j → sA T 8 q = sA S 8 q) ∧ (∀ k, k < sN S → sA S 8 i = nI k → sA T 3 k = nI j) ∧ (∀ k, k < sN S → sA S 8 j = nI k → sA T 3 k = nI i) ∧ ∀ k, ¬ sA S 8 i = nI k → ¬ sA S 8 j = nI k → sA T 3 k = sA S 3 k
theorem exO_of (h : Iv H S) {i j : Nat} (hi : i < 24) (hj : j < 24) (hij : i ≠ j) (hne : ¬ (sA S 8 i = -1 ∧ sA S 8 j = -1)) : exO S (exT S i j) i j ∧ (exR S i j = 1 ∨ exR S i j = 2) ∧ exR S i j = (if sA S 8 i = -1 then 0 else 1) + (if sA S 8 j = -1 then 0 else 1) := by
  have hn := h.n60
  have m1 : ∀ k, k < sN S → ¬ (-1 : Int32) = nI k := fun k hk q => nI_nm1 (by omega) q.symm
  have m2 : ∀ k, k < sN S → ¬ nI k = -1 := fun k hk q => nI_nm1 (by omega) q
  have inj : ∀ a b, a < sN S → b < sN S → nI a = nI b → a = b := fun a b ha hb e => nI_i (by omega) (by omega) e
  rcases h.1.place hi with p | ⟨k, hk, p1, p2⟩
  · rcases h.1.place hj with q | ⟨k2, hk2, q1, q2⟩
    · exact absurd ⟨p, q⟩ hne
    · obtain ⟨e, er⟩ := exT_b (S := S) (by omega : k2 < 60) p q1
      rw [e, er, p, q1, if_pos rfl, if_neg (m2 k2 hk2)]
      refine ⟨⟨⟨rfl, rfl, rfl, rfl, fun q q3 q8 => ?_⟩, ?_, ?_, fun q qi qj => ?_, fun c hc g => ?_, fun c hc g => ?_, fun c _ g => ?_⟩, Or.inl rfl, rfl⟩
      · rw [sA_u _ _ _ q3, sA_u _ _ _ q8, sA_u _ _ _ q8]
      · show upd (upd (sA S 8) j (-1)) i (nI k2) i = _
        rw [updA rfl]; exact q1.symm
      · show upd (upd (sA S 8) j (-1)) i (nI k2) j = _
        rw [upd_ne (Ne.symm hij), updA rfl]; exact p.symm
      · show upd (upd (sA S 8) j (-1)) i (nI k2) q = _
        rw [upd_ne qi, upd_ne qj]
      · exact absurd (p.symm.trans g) (m1 c hc)
      · have := inj k2 c hk2 hc (q1.symm.trans g)
        subst this
        show upd (sA S 3) k2 (nI i) k2 = _
        rw [updA rfl]
      · show upd (sA S 3) k2 (nI i) c = _
        exact upd_ne (fun ec => g (by rw [ec]; exact q1))
  · rcases h.1.place hj with q | ⟨k2, hk2, q1, q2⟩
    · obtain ⟨e, er⟩ := exT_a (S := S) (by omega : k < 60) p1 q
      rw [e, er, p1, q, if_pos rfl, if_neg (m2 k hk)]
      refine ⟨⟨⟨rfl, rfl, rfl, rfl, fun q q3 q8 => ?_⟩, ?_, ?_, fun q qi qj => ?_, fun c hc g => ?_, fun c hc g => ?_, fun c g _ => ?_⟩, Or.inl rfl, rfl⟩
      · rw [sA_u _ _ _ q8, sA_u _ _ _ q3, sA_u _ _ _ q8]
      · show upd (upd (sA S 8) j (nI k)) i (-1) i = _
        rw [updA rfl]; exact q.symm
      · show upd (upd (sA S 8) j (nI k)) i (-1) j = _
        rw [upd_ne (Ne.symm hij), updA rfl]; exact p1.symm
      · show upd (upd (sA S 8) j (nI k)) i (-1) q = _
        rw [upd_ne qi, upd_ne qj]
      · have := inj k c hk hc (p1.symm.trans g)
        subst this
        show upd (sA S 3) k (nI j) k = _
        rw [updA rfl]
      · exact absurd (q.symm.trans g) (m1 c hc)
      · show upd (sA S 3) k (nI j) c = _
        exact upd_ne (fun ec => g (by rw [ec]; exact p1))
    · have kk : k ≠ k2 := fun e => by subst e; exact hij (h.1.uniq hi hj hk p1 q1)
      obtain ⟨e, er⟩ := exT_2 (S := S) (by omega : k < 60) (by omega : k2 < 60) p1 q1
      rw [e, er, p1, q1, if_neg (m2 k hk), if_neg (m2 k2 hk2)]
      refine ⟨⟨⟨rfl, rfl, rfl, rfl, fun q q3 q8 => ?_⟩, ?_, ?_, fun q qi qj => ?_, fun c hc g => ?_, fun c hc g => ?_, fun c g g2 => ?_⟩, Or.inr rfl, rfl⟩
      · rw [sA_u _ _ _ q3, sA_u _ _ _ q8, sA_u _ _ _ q3, sA_u _ _ _ q8]
      · show upd (upd (sA S 8) j (nI k)) i (nI k2) i = _
        rw [updA rfl]; exact q1.symm
      · show upd (upd (sA S 8) j (nI k)) i (nI k2) j = _
        rw [upd_ne (Ne.symm hij), updA rfl]; exact p1.symm
      · show upd (upd (sA S 8) j (nI k)) i (nI k2) q = _
        rw [upd_ne qi, upd_ne qj]
      · have := inj k c hk hc (p1.symm.trans g)
        subst this
        show upd (upd (sA S 3) k (nI j)) k2 (nI i) k = _
        rw [upd_ne kk, updA rfl]
      · have := inj k2 c hk2 hc (q1.symm.trans g)
        subst this
        show upd (upd (sA S 3) k (nI j)) k2 (nI i) k2 = _
        rw [updA rfl]
      · show upd (upd (sA S 3) k (nI j)) k2 (nI i) c = _
        rw [upd_ne (fun ec => g2 (by rw [ec]; exact q1)), upd_ne (fun ec => g (by rw [ec]; exact p1))]
theorem exO_iv {T : SC} (h : Iv H S) {i j : Nat} (hi : i < 24) (hj : j < 24) (hij : i ≠ j) (g : exO S T i j) : Iv H T := by
  have hn := h.n60
  obtain ⟨⟨e0, e1, e2, eN, e⟩, g1, g2, g3, g4, g5, g6⟩ := g
  have no : ∀ {k q : Nat}, k < sN S → q < 24 → sA S 3 k = nI q → ∀ l, l < 24 → sA S 8 l = nI k → l = q := fun {k q} hk hq e3 l hl e8 => nI_i (by omega) (by omega) ((h.1.one hl hk e8).symm.trans e3)
  refine h.moved e0 e1 e2 eN e (fun k hk => ?_) (fun q hq => ?_)
  · by_cases c1 : sA S 8 i = nI k
    · exact Or.inr ⟨j, hj, g4 k hk c1, by rw [g2]; exact c1⟩
    · by_cases c2 : sA S 8 j = nI k
      · exact Or.inr ⟨i, hi, g5 k hk c2, by rw [g1]; exact c2⟩
      · rcases h.1.pl hk with p | ⟨q, hq, p1, p2⟩
        · exact Or.inl (by rw [g6 k c1 c2]; exact p)
        · exact Or.inr ⟨q, hq, by rw [g6 k c1 c2]; exact p1, by rw [g3 q (fun e => c1 (by rw [← e]; exact p2)) (fun e => c2 (by rw [← e]; exact p2))]; exact p2⟩
  · rw [eN]
    by_cases c1 : q = i
    · subst c1
      rcases h.1.place hj with p | ⟨k, hk, p1, p2⟩
      · exact Or.inl (by rw [g1]; exact p)
      · exact Or.inr ⟨k, hk, by rw [g1]; exact p1, g5 k hk p1⟩
    · by_cases c2 : q = j
      · subst c2
        rcases h.1.place hi with p | ⟨k, hk, p1, p2⟩
        · exact Or.inl (by rw [g2]; exact p)
        · exact Or.inr ⟨k, hk, by rw [g2]; exact p1, g4 k hk p1⟩
      · rcases h.1.place hq with p | ⟨k, hk, p1, p2⟩
        · exact Or.inl (by rw [g3 q c1 c2]; exact p)
        · refine Or.inr ⟨k, hk, by rw [g3 q c1 c2]; exact p1, ?_⟩
          rw [g6 k (fun z => c1 (h.1.uniq hq hi hk p1 z)) (fun z => c2 (h.1.uniq hq hj hk p1 z))]
          exact p2
theorem exS_is (h : Iv H S) {r p r2 p2 : Nat} (hr : r < 3) (hp : p < 8) (hr2 : r2 < 3) (hp2 : p2 < 8) : ((r * 8 + p = r2 * 8 + p2 ∨ (sA S 8 (r * 8 + p) = -1 ∧ sA S 8 (r2 * 8 + p2) = -1)) ∧ exS S (nI r) (nI p) (nI r2) (nI p2) = (-1005, S)) ∨ (¬ (r * 8 + p = r2 * 8 + p2 ∨ (sA S 8 (r * 8 + p) = -1 ∧ sA S 8 (r2 * 8 + p2) = -1)) ∧ exS S (nI r) (nI p) (nI r2) (nI p2) = (exR S (r * 8 + p) (r2 * 8 + p2), exT S (r * 8 + p) (r2 * 8 + p2)) ∧ Iv H (exT S (r * 8 + p) (r2 * 8 + p2)) ∧ exO S (exT S (r * 8 + p) (r2 * 8 + p2)) (r * 8 + p) (r2 * 8 + p2) ∧ (exR S (r * 8 + p) (r2 * 8 + p2) = 1 ∨ exR S (r * 8 + p) (r2 * 8 + p2) = 2) ∧ exR S (r * 8 + p) (r2 * 8 + p2) = (if sA S 8 (r * 8 + p) = -1 then 0 else 1) + (if sA S 8 (r2 * 8 + p2) = -1 then 0 else 1)) := by
  unfold exS
  rw [if_pos ⟨⟨i2 hr, i7 hp⟩, i2 hr2, i7 hp2⟩, ixn (by omega), ixn (by omega), ixn (by omega), ixn (by omega)]
  by_cases c : r * 8 + p = r2 * 8 + p2 ∨ (sA S 8 (r * 8 + p) = -1 ∧ sA S 8 (r2 * 8 + p2) = -1)
  · rw [if_pos c]
    exact Or.inl ⟨c, rfl⟩
  · rw [if_neg c]
    have o := exO_of h (show r * 8 + p < 24 by omega) (show r2 * 8 + p2 < 24 by omega) (fun e => c (Or.inl e)) (fun e => c (Or.inr e))
    exact Or.inr ⟨c, rfl, exO_iv h (by omega) (by omega) (fun e => c (Or.inl e)) o.1, o⟩
/-- how many lamps are in the racks behind a swap -/
theorem exO_cnt {T : SC} (h : Iv H S) {i j : Nat} (hi : i < 24) (hj : j < 24) (g : exO S T i j) : cnt (fun k => sA T 3 k ≠ -1) (sN T) = cnt (fun k => sA S 3 k ≠ -1) (sN S) := by
  have hn := h.n60
  obtain ⟨⟨e0, e1, e2, eN, e⟩, g1, g2, g3, g4, g5, g6⟩ := g
  rw [eN]
  refine cnt_c (fun k hk => ?_)
  by_cases c1 : sA S 8 i = nI k
  · rw [g4 k hk c1, h.1.one hi hk c1]
    exact ⟨fun _ => nI_nm1 (by omega), fun _ => nI_nm1 (by omega)⟩
  · by_cases c2 : sA S 8 j = nI k
    · rw [g5 k hk c2, h.1.one hj hk c2]
      exact ⟨fun _ => nI_nm1 (by omega), fun _ => nI_nm1 (by omega)⟩
    · rw [g6 k c1 c2]
theorem rmT_cnt (h : Iv H S) {j k : Nat} (hj : j < 24) (hk : k < sN S) (h8 : sA S 8 j = nI k) : cnt (fun k => sA S 3 k ≠ -1) (sN S) = cnt (fun i => sA (rmT S j k) 3 i ≠ -1) (sN (rmT S j k)) + 1 := by
  have hn := h.n60
  have h3 := h.1.one hj hk h8
  refine cnt_ins (n := sN S) (i := k) hk (fun q => q (by rw [rmT_3, updA rfl])) (fun c hc => ?_)
  rw [rmT_3]
  by_cases e : c = k
  · subst e
    rw [h3]
    exact ⟨fun _ => Or.inr rfl, fun _ => nI_nm1 (by omega)⟩
  · rw [upd_ne e]
    exact ⟨fun q => Or.inl q, fun q => q.elim id (fun q => absurd q e)⟩
end MV
