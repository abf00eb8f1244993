/-! pure: pass and next -/
theorem cN_z {P : Nat → Prop} [DecidablePred P] {n : Nat} (h : cN P n = 0) : ∀ k, k < n → ¬ P k := fun k hk hp => by
  have h1 : cN (fun j => j = k) n ≤ cN P n := cN_mono (fun j _ e => by subst e; exact hp)
  rw [cN_eq k hk] at h1
  omega
theorem hr_dead {B : Int} {z : Nat → Int32} {n : Nat} (h : zR B z n) (hB : B ≤ 200000) : ∃ e, (hrS z n).2 = nI e ∧ cN (fun k => zl (hrS z n).1 k 6 ≠ -1005) n = cN (fun k => zl z k 6 ≠ -1005) n + e := by
  obtain ⟨-, -, a3, -, a5⟩ := hr_is h.1
  refine ⟨_, a5.trans (cnt_N _ _), cN_or (fun k hk => ?_) (fun k hk p q => p ((brn_iff _ _).mp q.1).1)⟩
  obtain ⟨l1, l2⟩ := a3 k hk
  by_cases c : brnB z k = true
  · have al := ((brn_iff _ _).mp c).1
    obtain ⟨-, -, x6, x7⟩ := l1 c
    by_cases d : lw z k < 10 * zl z k 3
    · rw [x6 d, al]
      exact ⟨fun q => absurd rfl q, fun q => q.elim (fun q => absurd rfl q) (fun q => absurd d q.2)⟩
    · rw [x7 d]
      refine ⟨fun _ => Or.inr ⟨c, d⟩, fun _ q => ?_⟩
      have g := congrArg Int32.toInt q
      have z2 := h.2.1
      rw [ad_ti (by rw [e1_ti]; omega), e1_ti, mN_ti] at g
      omega
  · obtain ⟨-, -, x6⟩ := l2 c
    rw [x6]
    exact ⟨fun q => Or.inl q, fun q => q.elim id (fun q => absurd q.1 c)⟩
theorem ph_is {B : Int} {z : Nat → Int32} {n : Nat} (h : zR B z n) : ∀ k : Nat, B + k ≤ 200000 → (phR z n k).1 = ysR z n k ∧ ∃ e, (phR z n k).2 = nI e ∧ cN (fun j => zl (ysR z n k) j 6 ≠ -1005) n = cN (fun j => zl z j 6 ≠ -1005) n + e
  | 0, _ => ⟨rfl, 0, rfl, rfl⟩
  | k + 1, hk => by
    obtain ⟨i1, e, i2, i3⟩ := ph_is h k (by omega)
    obtain ⟨e2, j1, j2⟩ := hr_dead (ys_zR h k (by omega)) (by omega)
    rw [phR_s, i1, i2, j1, nI_add]
    refine ⟨rfl, e + e2, rfl, ?_⟩
    rw [ysR_s, j2, i3]
    omega
theorem Rl.dN {B : Int} {S : SC} {z : Nat → Int32} (h : Rl B S z) : dN S = cN (fun j => zl z j 6 ≠ -1005) (sN S) := cN_c (fun k hk => (h.rD hk).dead)
theorem pHs_N (S : SC) (hh : Nat) : sN (pHs S hh).1 = sN (pRs S hh 3).1 := rfl
theorem Rl.down {B C : Int} {S : SC} {z : Nat → Int32} (h : Rl C S z) (hb : (z 2).toInt ≤ B) : Rl B S z := by
  obtain ⟨⟨a1, a2, a3, a4, a5, a6⟩, h2⟩ := h
  exact ⟨⟨a1, a2, a3, a4, ⟨a5.1, hb⟩, a6⟩, h2⟩
theorem Rl.hoursN {B : Int} {S : SC} {z : Nat → Int32} {hh : Nat} (h0 : Rl B S z) (hB : B ≤ 110000) (hh1 : hh ≤ 10000) : sN (pHs S hh).1 = sN S := by
  obtain ⟨T, c, i1, i2, -⟩ := pRs_is h0 hB hh1 3 (Nat.le_refl _)
  rw [pHs_N, i1]
  exact i2.2.2.2.1
theorem e999_ti : (999 : Int32).toInt = (999 : Nat) := by decide
theorem e99999_ti : (99999 : Int32).toInt = 99999 := by decide
theorem pass_eq {S : SC} {z : Nat → Int32} (h : Rl 99999 S z) (f : Nat → Int32) (ns : Nat) (x : Int32) : eqA 99999 z f ns (lpS S x) (psR z f ns (sN S) x) := by
  have hn := h.n60
  unfold lpS psR wsR
  by_cases hx : 1 ≤ x ∧ x ≤ 999
  · rw [if_pos hx, if_pos hx, h.1.1]
    by_cases c : z 2 + x ≤ 99999
    · rw [if_pos c, if_pos c, if_pos le00]
      obtain ⟨k, hk, rfl⟩ := in_nat1 hx e999_ti
      rw [ix' (by omega)]
      obtain ⟨r1, c1, r2, r3⟩ := h.hours (hh := k) (by omega) (by omega)
      obtain ⟨p1, e1, p2, p3⟩ := ph_is h.zR k (by omega)
      have d1 := r1.dN
      have eN := h.hoursN (hh := k) (by omega) (by omega)
      rw [eN, p3, r3, h.dN] at d1
      have ec : c1 = e1 := by omega
      have z2 := h.1.2.2.2.2.1
      have tz : (ysR z (sN S) k 2).toInt = (z 2).toInt + k := by
        rw [(ys_is h.oZ k).2.1, ad_ti (by rw [nI_toInt (by omega)]; omega), nI_toInt (by omega)]
      have cl := le_ti.mp c
      rw [e99999_ti, ad_ti (by rw [nI_toInt (by omega)]; omega), nI_toInt (by omega)] at cl
      have c60 : c1 ≤ 60 := by
        have g1 := r3
        have g2 : dN (pHs S k).1 ≤ sN (pHs S k).1 := cN_le _ _
        rw [eN] at g2
        omega
      rw [p1, p2, r2]
      exact eqA.go (nI_eq' ec) (r1.down (by omega)) (nI_pos (by omega))
    · rw [if_neg c, if_neg c, if_neg nle3]
      exact eqA.no h _ (by decide)
  · rw [if_neg hx, if_neg hx, if_neg nle2]
    exact eqA.no h _ (by decide)
theorem nxI_is {z : Nat → Int32} {n : Nat} : ∀ d i, i ≤ nxI z n i d ∧ nxI z n i d ≤ i + d ∧ (∀ j, i ≤ j → j < nxI z n i d → esR z n j = 0) ∧ (nxI z n i d < i + d → ¬ esR z n (nxI z n i d) = 0)
  | 0, i => ⟨Nat.le_refl _, Nat.le_refl _, fun j a b => absurd (show j < i from b) (by omega), fun q => absurd (show i < i + 0 from q) (by omega)⟩
  | d + 1, i => by
    rw [nxI_s]
    by_cases c : esR z n i = 0
    · rw [if_pos c]
      obtain ⟨a, b, e, g⟩ := nxI_is (z := z) (n := n) d (i + 1)
      refine ⟨by omega, by omega, fun j x y => ?_, fun q => g (by omega)⟩
      by_cases ej : j = i
      · subst ej; exact c
      · exact e j (by omega) y
    · rw [if_neg c]
      exact ⟨Nat.le_refl _, by omega, fun j x y => by omega, fun _ => c⟩
theorem ffa_none {fe : Nat → Int32} {h : Int32} : ∀ {n : Nat}, (∀ j, j < n → ¬ h < fe j) → ffa fe h n = -1
  | 0, _ => rfl
  | n + 1, g => by
    rw [ffa_s, if_neg (fun q => g n (by omega) q.1)]
    exact ffa_none (fun j hj => g j (by omega))
theorem ffa_is {fe : Nat → Int32} {h : Int32} {n k0 : Nat} (hn : n ≤ 60) (hk : k0 < n) (h1 : h < fe k0) (h2 : ∀ j, j < n → h < fe j → (fe k0).toInt ≤ (fe j).toInt) (h3 : ∀ j, j < k0 → h < fe j → (fe k0).toInt < (fe j).toInt) : ∀ i, i ≤ n → (i ≤ k0 → (ffa fe h i = -1 ∨ ∃ j, j < i ∧ ffa fe h i = nI j ∧ (fe k0).toInt < (fe j).toInt)) ∧ (k0 < i → ffa fe h i = nI k0)
  | 0, _ => ⟨fun _ => Or.inl rfl, fun q => by omega⟩
  | i + 1, hi => by
    obtain ⟨i1, i2⟩ := ffa_is hn hk h1 h2 h3 i (by omega)
    rw [ffa_s]
    refine ⟨fun q => ?_, fun q => ?_⟩
    · by_cases c : h < fe i ∧ (ffa fe h i = -1 ∨ fe i < fe (ixz (ffa fe h i)))
      · rw [if_pos c]
        exact Or.inr ⟨i, by omega, rfl, h3 i (by omega) c.1⟩
      · rw [if_neg c]
        exact (i1 (by omega)).imp id (fun ⟨j, a, b⟩ => ⟨j, by omega, b⟩)
    · by_cases e : i = k0
      · subst e
        rw [if_pos]
        refine ⟨h1, ?_⟩
        rcases i1 (Nat.le_refl _) with g | ⟨j, a, b, c⟩
        · exact Or.inl g
        · rw [b, ix' (by omega)]
          exact Or.inr (lt_ti.mpr c)
      · have g := i2 (by omega)
        rw [g, if_neg]
        intro c
        rcases c.2 with c2 | c2
        · exact nI_nm1 (by omega) c2
        · rw [ix' (by omega), lt_ti] at c2
          have := h2 i (by omega) c.1
          omega
theorem feR_is {y : Nat → Int32} {h : Int32} {n k0 : Nat} (hk : k0 < n) (h1 : zl y k0 6 = h) (h2 : ∀ j, j < k0 → ¬ zl y j 6 = h) : ∀ d, d ≤ n → n - d ≤ k0 → feR y h n d = nI k0
  | 0, _, q => by omega
  | d + 1, hd, q => by
    show (if zl y (n - (d + 1)) 6 = h then nI (n - (d + 1)) else feR y h n d) = nI k0
    by_cases e : n - (d + 1) = k0
    · rw [e, if_pos h1]
    · rw [if_neg (h2 _ (by omega))]
      exact feR_is hk h1 h2 d (by omega) (by omega)
/-- an hour and a lamp's end -/
theorem ys_e {z : Nat → Int32} {n k : Nat} (h : okZ z n) (hk : k < n) (j : Nat) : ((brnB (ysR z n j) k = true ∧ ¬ lw (ysR z n j) k < 10 * zl (ysR z n j) k 3) → zl (ysR z n j) k 6 = -1005 ∧ zl (ysR z n (j + 1)) k 6 = z 2 + nI (j + 1)) ∧ (¬ (brnB (ysR z n j) k = true ∧ ¬ lw (ysR z n j) k < 10 * zl (ysR z n j) k 3) → zl (ysR z n (j + 1)) k 6 = zl (ysR z n j) k 6) := by
  obtain ⟨l1, l2⟩ := ys_l (m := j) h hk
  refine ⟨fun p => ⟨((brn_iff _ _).mp p.1).1, (l1 p.1).2.2.2 p.2⟩, fun p => ?_⟩
  by_cases c : brnB (ysR z n j) k = true
  · by_cases d : lw (ysR z n j) k < 10 * zl (ysR z n j) k 3
    · exact (l1 c).2.2.1 d
    · exact absurd ⟨c, d⟩ p
  · exact (l2 c).2.2
theorem es_0 {z : Nat → Int32} {n j : Nat} (h : okZ z n) (e : esR z n (j + 1) = 0) : ∀ k, k < n → zl (ysR z n (j + 1)) k 6 = zl (ysR z n j) k 6 := fun k hk => by
  refine (ys_e h hk j).2 ?_
  have hn := h.1
  have a := (hr_is (ysR_ok h j)).2.2.2.2
  rw [esR_s, a, cnt_N] at e
  have := cN_le (fun k => brnB (ysR z n j) k = true ∧ ¬ lw (ysR z n j) k < 10 * zl (ysR z n j) k 3) n
  exact cN_z (nI_i (b := 0) (by omega) (by omega) e) k hk
theorem es_1 {z : Nat → Int32} {n j : Nat} (h : okZ z n) (e : ¬ esR z n (j + 1) = 0) : ∃ k, k < n ∧ (brnB (ysR z n j) k = true ∧ ¬ lw (ysR z n j) k < 10 * zl (ysR z n j) k 3) := by
  have a := (hr_is (ysR_ok h j)).2.2.2.2
  rw [esR_s, a, cnt_N] at e
  exact cN_pos (Nat.pos_of_ne_zero (fun q => e (by rw [q]; rfl)))
theorem ys_later {z : Nat → Int32} {n k a : Nat} (h : okZ z n) (hk : k < n) : ∀ b, zl (ysR z n (a + b)) k 6 = zl (ysR z n a) k 6 ∨ (zl (ysR z n a) k 6 = -1005 ∧ ∃ d, a < d ∧ d ≤ a + b ∧ zl (ysR z n (a + b)) k 6 = z 2 + nI d)
  | 0 => Or.inl rfl
  | b + 1 => by
    have q := ys_e h hk (a + b)
    by_cases c : brnB (ysR z n (a + b)) k = true ∧ ¬ lw (ysR z n (a + b)) k < 10 * zl (ysR z n (a + b)) k 3
    · obtain ⟨q1, q2⟩ := q.1 c
      rcases ys_later h hk b with g | ⟨g1, g2⟩
      · exact Or.inr ⟨g.symm.trans q1, a + b + 1, by omega, by omega, q2⟩
      · exact Or.inr ⟨g1, a + b + 1, by omega, by omega, q2⟩
    · have q2 := q.2 c
      rcases ys_later h hk b with g | ⟨g1, d, g2, g3, g4⟩
      · exact Or.inl (q2.trans g)
      · exact Or.inr ⟨g1, d, g2, by omega, q2.trans g4⟩
theorem ys_same {z : Nat → Int32} {n k : Nat} (h : okZ z n) (hk : k < n) : ∀ m, (∀ j, j ≤ m → esR z n j = 0) → zl (ysR z n m) k 6 = zl z k 6
  | 0, _ => rfl
  | m + 1, g => (es_0 h (g (m + 1) (Nat.le_refl _)) k hk).trans (ys_same h hk m (fun j hj => g j (by omega)))
theorem next_eq {S : SC} {z : Nat → Int32} (h : Rl 99999 S z) (w : Int32) : nxtS S w = nxA z (sN S) w := by
  have hn := h.n60
  have hok := h.oZ
  unfold nxtS nxA
  by_cases hw : 0 ≤ w ∧ w ≤ 1
  · rw [if_pos hw, if_pos hw]
    have rT := (h.hours (hh := 3000) (by omega) (by omega)).1
    have eN := h.hoursN (hh := 3000) (by omega) (by omega)
    unfold nxtL
    generalize (pHs S 3000).1 = T at rT eN
    rw [eN]
    have z2 := h.1.2.2.2.2.1
    have tz : ∀ d : Nat, d ≤ 3000 → (z 2 + nI d).toInt = (z 2).toInt + d := fun d hd => by
      rw [ad_ti (by rw [nI_toInt (by omega)]; omega), nI_toInt (by omega)]
    have fe : ∀ k, k < sN S → (sA T 7 k = -1 ∧ zl (ysR z (sN S) 3000) k 6 = -1005) ∨ (sA T 7 k = zl (ysR z (sN S) 3000) k 6 ∧ 1 ≤ (zl (ysR z (sN S) 3000) k 6).toInt) := fun k hk => by
      rcases (rT.rD (k := k) (by omega)).2.2.2.2.2.2.2 with ⟨a, b, -⟩ | ⟨a, b, -⟩
      · exact Or.inl ⟨a, b⟩
      · exact Or.inr ⟨a, b⟩
    have e0 : ∀ k, k < sN S → zl z k 6 = -1005 ∨ (1 ≤ (zl z k 6).toInt ∧ (zl z k 6).toInt ≤ (z 2).toInt) := fun k hk => by
      rcases (h.rD hk).2.2.2.2.2.2.2 with ⟨-, b, -⟩ | ⟨-, b⟩
      · exact Or.inl b
      · exact Or.inr b
    have eH : sHr S = z 2 := h.1.1
    rw [eH]
    obtain ⟨-, q2, q3, q4⟩ := nxI_is (z := z) (n := sN S) K3 0
    have k3 : K3 = 3000 := rfl
    unfold nxF
    have eq : nxI z (sN S) 0 K3 = nxQ z (sN S) := rfl
    rw [eq] at q2 q3 q4
    rw [k3] at q2 q4
    generalize nxQ z (sN S) = q at q2 q3 q4
    by_cases c : esR z (sN S) q = 0
    · have q5 : q = 3000 := Classical.byContradiction (fun g => q4 (by omega) c)
      subst q5
      have all : ∀ j, j ≤ 3000 → esR z (sN S) j = 0 := fun j hj => by
        by_cases e : j = 3000
        · rw [e]; exact c
        · exact q3 j (by omega) (by omega)
      rw [ffa_none (fun k hk g => ?_), if_pos rfl, if_pos c, if_pos c]
      have e3 := ys_same hok hk 3000 all
      have g1 := lt_ti.mp g
      rcases fe k hk with ⟨f1, -⟩ | ⟨f1, f2⟩
      · rw [f1, m1_ti] at g1; omega
      · rw [f1, e3] at g1
        rw [e3] at f2
        rcases e0 k hk with g2 | g2
        · rw [g2, mN_ti] at f2; omega
        · omega
    · obtain ⟨m, rfl⟩ : ∃ m, q = m + 1 := by
        cases q with
        | zero => exact absurd rfl c
        | succ m => exact ⟨m, rfl⟩
      rw [if_neg c, if_neg c]
      have pre : ∀ k, k < sN S → zl (ysR z (sN S) m) k 6 = zl z k 6 := fun k hk => ys_same hok hk m (fun j hj => q3 j (by omega) (by omega))
      have ex : ∃ k, k < sN S ∧ (brnB (ysR z (sN S) m) k = true ∧ ¬ lw (ysR z (sN S) m) k < 10 * zl (ysR z (sN S) m) k 3) := es_1 hok c
      obtain ⟨k0, hk0, p0, mn0⟩ := min_ex (K := fun _ => 0) (sN S) ex
      have last : ∀ k, k < sN S → zl (ysR z (sN S) 3000) k 6 = zl (ysR z (sN S) (m + 1)) k 6 ∨ (zl (ysR z (sN S) (m + 1)) k 6 = -1005 ∧ ∃ d, m + 1 < d ∧ d ≤ 3000 ∧ zl (ysR z (sN S) 3000) k 6 = z 2 + nI d) := fun k hk => by
        have := ys_later (a := m + 1) hok hk (3000 - (m + 1))
        rw [show m + 1 + (3000 - (m + 1)) = 3000 by omega] at this
        exact this
      have f0 : sA T 7 k0 = z 2 + nI (m + 1) := by
        have a := ((ys_e hok hk0 m).1 p0).2
        have ge := tz (m + 1) (by omega)
        rcases last k0 hk0 with g | ⟨g, -⟩
        · rcases fe k0 hk0 with ⟨-, f2⟩ | ⟨f1, -⟩
          · rw [g, a] at f2
            rw [f2, mN_ti] at ge
            omega
          · rw [f1, g, a]
        · rw [a] at g
          rw [g, mN_ti] at ge
          omega
      have oth : ∀ k, k < sN S → z 2 < sA T 7 k → ((brnB (ysR z (sN S) m) k = true ∧ ¬ lw (ysR z (sN S) m) k < 10 * zl (ysR z (sN S) m) k 3) ∧ (sA T 7 k).toInt = (z 2).toInt + ((m + 1 : Nat) : Int)) ∨ (z 2).toInt + ((m + 1 : Nat) : Int) < (sA T 7 k).toInt := fun k hk g => by
        have g1 := lt_ti.mp g
        rcases fe k hk with ⟨f1, -⟩ | ⟨f1, f2⟩
        · rw [f1, m1_ti] at g1; omega
        · by_cases p : brnB (ysR z (sN S) m) k = true ∧ ¬ lw (ysR z (sN S) m) k < 10 * zl (ysR z (sN S) m) k 3
          · have a := ((ys_e hok hk m).1 p).2
            rcases last k hk with g2 | ⟨g2, -⟩
            · refine Or.inl ⟨p, ?_⟩
              rw [f1, g2, a, tz _ (by omega)]
            · rw [a] at g2
              have ge := tz (m + 1) (by omega)
              rw [g2, mN_ti] at ge
              omega
          · have a := ((ys_e hok hk m).2 p).trans (pre k hk)
            rcases last k hk with g2 | ⟨g2, d, d1, d2, d3⟩
            · rw [f1, g2, a] at g1
              rw [g2, a] at f2
              rcases e0 k hk with x | x
              · rw [x, mN_ti] at f2; omega
              · omega
            · refine Or.inr ?_
              rw [f1, d3, tz d d2]
              omega
      have t0 : (sA T 7 k0).toInt = (z 2).toInt + ((m + 1 : Nat) : Int) := by rw [f0, tz _ (by omega)]
      have fL : ffa (sA T 7) (z 2) (sN S) = nI k0 := by
        refine (ffa_is hn hk0 ?_ (fun j hj g => ?_) (fun j hj g => ?_) (sN S) (Nat.le_refl _)).2 hk0
        · rw [lt_ti, t0]; omega
        · rcases oth j hj g with ⟨-, x⟩ | x
          · omega
          · omega
        · rcases oth j (by omega) g with ⟨x, -⟩ | x
          · rcases mn0 j (by omega) x with y | y
            · omega
            · rcases y with y | y
              · exact absurd y (Int.lt_irrefl 0)
              · omega
          · omega
      rw [fL, if_neg (nI_nm1 (by omega))]
      have fR : feR (ysR z (sN S) (m + 1)) (ysR z (sN S) (m + 1) 2) (sN S) (sN S) = nI k0 := by
        have y2 : ysR z (sN S) (m + 1) 2 = z 2 + nI (m + 1) := (ys_is hok (m + 1)).2.1
        rw [y2]
        refine feR_is hk0 ((ys_e hok hk0 m).1 p0).2 (fun j hj g => ?_) (sN S) (Nat.le_refl _) (by omega)
        by_cases p : brnB (ysR z (sN S) m) j = true ∧ ¬ lw (ysR z (sN S) m) j < 10 * zl (ysR z (sN S) m) j 3
        · rcases mn0 j (by omega) p with y | y
          · omega
          · rcases y with y | y
            · exact absurd y (Int.lt_irrefl 0)
            · omega
        · have a := ((ys_e hok (by omega) m).2 p).trans (pre j (by omega))
          rw [a] at g
          have ge := tz (m + 1) (by omega)
          rw [← g] at ge
          rcases e0 j (by omega) with x | x
          · rw [x, mN_ti] at ge; omega
          · omega
      rw [fR, ix' (by omega), f0]
      by_cases w0 : w = 0
      · rw [if_pos w0, if_pos w0]
      · rw [if_neg w0, if_neg w0]
        rw [Int32.add_comm, Int32.add_sub_cancel]
  · rw [if_neg hw, if_neg hw]
