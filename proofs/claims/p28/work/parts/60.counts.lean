/-! pure: counts, ranks -/
theorem cnt_c {P Q : Nat → Prop} [DecidablePred P] [DecidablePred Q] : ∀ {n : Nat}, (∀ k, k < n → (P k ↔ Q k)) → cnt P n = cnt Q n
  | 0, _ => rfl
  | n + 1, h => by
    show cnt P n + b2i (P n) = cnt Q n + b2i (Q n)
    rw [cnt_c (n := n) (fun k hk => h k (by omega)), b2i_c (h n (by omega))]
theorem sm_c {f g : Nat → Int32} : ∀ {n : Nat}, (∀ k, k < n → f k = g k) → sm f n = sm g n
  | 0, _ => rfl
  | n + 1, h => by
    show sm f n + f n = sm g n + g n
    rw [sm_c (n := n) (fun k hk => h k (by omega)), h n (by omega)]
theorem sm_cnt {f : Nat → Int32} {P : Nat → Prop} [DecidablePred P] : ∀ {n : Nat}, (∀ k, k < n → f k = b2i (P k)) → sm f n = cnt P n
  | 0, _ => rfl
  | n + 1, h => by
    show sm f n + f n = cnt P n + b2i (P n)
    rw [sm_cnt (n := n) (fun k hk => h k (by omega)), h n (by omega)]
/-- a count as a natural number -/
def cN (P : Nat → Prop) [DecidablePred P] : Nat → Nat
  | 0 => 0
  | n + 1 => cN P n + (if P n then 1 else 0)
theorem cN_s (P : Nat → Prop) [DecidablePred P] (n : Nat) : cN P (n + 1) = cN P n + (if P n then 1 else 0) := rfl
theorem b2i_N (P : Prop) [Decidable P] : b2i P = nI (if P then 1 else 0) := by
  by_cases h : P
  · rw [b2i_t h, if_pos h]; rfl
  · rw [b2i_f h, if_neg h]; rfl
theorem cnt_N (P : Nat → Prop) [DecidablePred P] : ∀ n, cnt P n = nI (cN P n)
  | 0 => rfl
  | n + 1 => by
    show cnt P n + b2i (P n) = _
    rw [cnt_N P n, b2i_N, nI_add, cN_s]
theorem cN_le (P : Nat → Prop) [DecidablePred P] : ∀ n, cN P n ≤ n
  | 0 => Nat.le_refl _
  | n + 1 => by
    have := cN_le P n
    rw [cN_s]
    split <;> omega
theorem cN_mono {P Q : Nat → Prop} [DecidablePred P] [DecidablePred Q] : ∀ {n : Nat}, (∀ k, k < n → P k → Q k) → cN P n ≤ cN Q n
  | 0, _ => Nat.le_refl _
  | n + 1, h => by
    have ih := cN_mono (n := n) (P := P) (Q := Q) (fun k hk => h k (by omega))
    have h2 := h n (by omega)
    rw [cN_s, cN_s]
    by_cases hp : P n
    · rw [if_pos hp, if_pos (h2 hp)]; omega
    · rw [if_neg hp]; omega
theorem cN_c {P Q : Nat → Prop} [DecidablePred P] [DecidablePred Q] {n : Nat} (h : ∀ k, k < n → (P k ↔ Q k)) : cN P n = cN Q n :=
  Nat.le_antisymm (cN_mono (fun k hk => (h k hk).mp)) (cN_mono (fun k hk => (h k hk).mpr))
theorem cN_or {P Q R : Nat → Prop} [DecidablePred P] [DecidablePred Q] [DecidablePred R] : ∀ {n : Nat}, (∀ k, k < n → (R k ↔ P k ∨ Q k)) → (∀ k, k < n → P k → ¬ Q k) → cN R n = cN P n + cN Q n
  | 0, _, _ => rfl
  | n + 1, h, g => by
    have ih := cN_or (n := n) (P := P) (Q := Q) (R := R) (fun k hk => h k (by omega)) (fun k hk => g k (by omega))
    have h2 := h n (by omega)
    have g2 := g n (by omega)
    rw [cN_s, cN_s, cN_s, ih]
    by_cases hp : P n
    · rw [if_pos hp, if_pos (h2.mpr (Or.inl hp)), if_neg (g2 hp)]; omega
    · by_cases hq : Q n
      · rw [if_neg hp, if_pos hq, if_pos (h2.mpr (Or.inr hq))]; omega
      · rw [if_neg hp, if_neg hq, if_neg (fun q => (h2.mp q).elim hp hq)]; omega
theorem cN_0 {P : Nat → Prop} [DecidablePred P] : ∀ {n : Nat}, (∀ k, k < n → ¬ P k) → cN P n = 0
  | 0, _ => rfl
  | n + 1, h => by rw [cN_s, cN_0 (n := n) (fun k hk => h k (by omega)), if_neg (h n (by omega))]
theorem cN_eq (i : Nat) : ∀ {n : Nat}, i < n → cN (fun k => k = i) n = 1
  | 0, h => by omega
  | n + 1, h => by
    rw [cN_s]
    by_cases e : n = i
    · rw [if_pos e, cN_0 (fun k hk => by omega)]
    · rw [if_neg e, cN_eq i (by omega)]
theorem cN_one {P : Nat → Prop} [DecidablePred P] {n i : Nat} (hi : i < n) (h : ∀ k, k < n → (P k ↔ k = i)) : cN P n = 1 := (cN_c h).trans (cN_eq i hi)
theorem cN_pos {P : Nat → Prop} [DecidablePred P] {n : Nat} (h : 0 < cN P n) : ∃ k, k < n ∧ P k := by
  refine Classical.byContradiction (fun g => ?_)
  rw [cN_0 (fun k hk hp => g ⟨k, hk, hp⟩)] at h
  omega
/-- one more -/
theorem cN_ins {P Q : Nat → Prop} [DecidablePred P] [DecidablePred Q] {n i : Nat} (hi : i < n) (h0 : ¬ P i) (h : ∀ k, k < n → (Q k ↔ P k ∨ k = i)) : cN Q n = cN P n + 1 := by
  rw [cN_or (P := P) (Q := fun k => k = i) h (fun k _ hp e => h0 (e ▸ hp)), cN_eq i hi]
theorem nI_eq' {a b : Nat} (h : a = b) : nI a = nI b := congrArg nI h
theorem cnt_or {P Q R : Nat → Prop} [DecidablePred P] [DecidablePred Q] [DecidablePred R] {n : Nat} (h : ∀ k, k < n → (R k ↔ P k ∨ Q k)) (g : ∀ k, k < n → P k → ¬ Q k) : cnt R n = cnt P n + cnt Q n := by
  rw [cnt_N, cnt_N, cnt_N, nI_add, cN_or h g]
theorem cnt_ins {P Q : Nat → Prop} [DecidablePred P] [DecidablePred Q] {n i : Nat} (hi : i < n) (h0 : ¬ P i) (h : ∀ k, k < n → (Q k ↔ P k ∨ k = i)) : cnt Q n = cnt P n + 1 := by
  rw [cnt_N, cnt_N, cN_ins hi h0 h, nI_1]

/-- an order of lamps: by a number, then by the lamp's own -/
abbrev ltK (K : Nat → Int) (i j : Nat) : Prop := K i < K j ∨ (K i = K j ∧ i < j)
def rkK (D : Nat → Prop) [DecidablePred D] (K : Nat → Int) (n i : Nat) : Nat := cN (fun o => D o ∧ ltK K o i) n
theorem min_ex {K : Nat → Int} {E : Nat → Prop} : ∀ n, (∃ i, i < n ∧ E i) → ∃ i, i < n ∧ E i ∧ ∀ j, j < n → E j → j = i ∨ ltK K i j
  | 0, ⟨i, h, _⟩ => by omega
  | n + 1, ⟨i, hi, he⟩ => by
    by_cases hp : ∃ i, i < n ∧ E i
    · obtain ⟨m, h1, h2, h3⟩ := min_ex (K := K) n hp
      by_cases hn : E n
      · by_cases hl : ltK K n m
        · refine ⟨n, by omega, hn, fun j hj ej => ?_⟩
          by_cases e : j = n
          · exact Or.inl e
          · rcases h3 j (by omega) ej with q | q
            · subst q; exact Or.inr hl
            · unfold ltK at *; exact Or.inr (by omega)
        · refine ⟨m, by omega, h2, fun j hj ej => ?_⟩
          by_cases e : j = n
          · subst e; unfold ltK at *; exact Or.inr (by omega)
          · exact h3 j (by omega) ej
      · refine ⟨m, by omega, h2, fun j hj ej => ?_⟩
        by_cases e : j = n
        · subst e; exact absurd ej hn
        · exact h3 j (by omega) ej
    · have e : i = n := Classical.byContradiction (fun q => hp ⟨i, by omega, he⟩)
      subst e
      refine ⟨i, by omega, he, fun j hj ej => ?_⟩
      by_cases e : j = i
      · exact Or.inl e
      · exact absurd ⟨j, by omega, ej⟩ hp
theorem rk_lt {D : Nat → Prop} [DecidablePred D] {K : Nat → Int} {n i j : Nat} (hi : i < n) (di : D i) (h : ltK K i j) : rkK D K n i < rkK D K n j := by
  have h1 : cN (fun o => (D o ∧ ltK K o i) ∨ o = i) n = rkK D K n i + 1 := cN_ins hi (fun q => by have := q.2; unfold ltK at this; omega) (fun k _ => Iff.rfl)
  have h2 : cN (fun o => (D o ∧ ltK K o i) ∨ o = i) n ≤ rkK D K n j := cN_mono (fun k _ hk => by
    rcases hk with q | q
    · exact ⟨q.1, by have := q.2; unfold ltK at *; omega⟩
    · subst q; exact ⟨di, h⟩)
  omega
theorem rk_inj {D : Nat → Prop} [DecidablePred D] {K : Nat → Int} {n i j : Nat} (hi : i < n) (hj : j < n) (di : D i) (dj : D j) (h : rkK D K n i = rkK D K n j) : i = j := by
  refine Classical.byContradiction (fun e => ?_)
  by_cases hl : ltK K i j
  · have := rk_lt (D := D) hi di hl; omega
  · have := rk_lt (D := D) hj dj (K := K) (i := j) (j := i) (by unfold ltK at *; omega); omega
theorem rk_ex {D : Nat → Prop} [DecidablePred D] {K : Nat → Int} {n : Nat} : ∀ r, r < cN D n → ∃ i, i < n ∧ D i ∧ rkK D K n i = r
  | 0, h => by
    obtain ⟨m, h1, h2, h3⟩ := min_ex (K := K) n (cN_pos h)
    refine ⟨m, h1, h2, cN_0 (fun k hk q => ?_)⟩
    have := q.2
    rcases h3 k hk q.1 with e | e
    · subst e; unfold ltK at this; omega
    · unfold ltK at *; omega
  | r + 1, h => by
    obtain ⟨i, h1, h2, h3⟩ := rk_ex (D := D) (K := K) (n := n) r (by omega)
    have hE : ∃ j, j < n ∧ (D j ∧ ltK K i j) := by
      refine Classical.byContradiction (fun g => ?_)
      have e1 : cN (fun o => (D o ∧ ltK K o i) ∨ o = i) n = rkK D K n i + 1 := cN_ins h1 (fun q => by have := q.2; unfold ltK at this; omega) (fun k _ => Iff.rfl)
      have e2 : cN D n ≤ cN (fun o => (D o ∧ ltK K o i) ∨ o = i) n := cN_mono (fun k hk dk => by
        by_cases q : k = i
        · exact Or.inr q
        · refine Or.inl ⟨dk, ?_⟩
          have : ¬ ltK K i k := fun z => g ⟨k, hk, dk, z⟩
          unfold ltK at *
          omega)
      omega
    obtain ⟨j, g1, ⟨g2, g3⟩, g4⟩ := min_ex (K := K) n hE
    refine ⟨j, g1, g2, ?_⟩
    have e1 : rkK D K n j = cN (fun o => D o ∧ ltK K o i) n + 1 := cN_ins h1 (fun q => by have := q.2; unfold ltK at this; omega) (fun k hk => by
      constructor
      · intro ⟨q1, q2⟩
        by_cases e : k = i
        · exact Or.inr e
        · refine Or.inl ⟨q1, ?_⟩
          refine Classical.byContradiction (fun z => ?_)
          rcases g4 k hk ⟨q1, by unfold ltK at *; omega⟩ with e2 | e2
          · subst e2; unfold ltK at *; omega
          · unfold ltK at *; omega
      · intro q
        rcases q with q | q
        · exact ⟨q.1, by have := q.2; unfold ltK at *; omega⟩
        · subst q; exact ⟨h2, g3⟩)
    rw [e1]
    show rkK D K n i + 1 = r + 1
    rw [h3]
theorem fst_some {P : Nat → Prop} [DecidablePred P] {d : Int32} : ∀ {n i k : Nat}, i ≤ k → k < i + n → P k → (∀ j, i ≤ j → j < k → ¬ P j) → fst P d n i = nI k
  | 0, i, k, h1, h2, _, _ => by omega
  | n + 1, i, k, h1, h2, hp, h3 => by
    show (if P i then nI i else fst P d n (i + 1)) = nI k
    by_cases e : i = k
    · subst e; rw [if_pos hp]
    · rw [if_neg (h3 i (Nat.le_refl _) (by omega))]
      exact fst_some (by omega) (by omega) hp (fun j a b => h3 j (by omega) b)
theorem fst_none {P : Nat → Prop} [DecidablePred P] {d : Int32} : ∀ {n i : Nat}, (∀ j, i ≤ j → j < i + n → ¬ P j) → fst P d n i = d
  | 0, _, _ => rfl
  | n + 1, i, h => by
    show (if P i then nI i else fst P d n (i + 1)) = d
    rw [if_neg (h i (Nat.le_refl _) (by omega))]
    exact fst_none (fun j a b => h j (by omega) (by omega))
theorem fsv_some {P : Nat → Prop} [DecidablePred P] {g : Nat → Int32} {d : Int32} : ∀ {n i k : Nat}, i ≤ k → k < i + n → P k → (∀ j, i ≤ j → j < k → ¬ P j) → fsv P g d n i = g k
  | 0, i, k, h1, h2, _, _ => by omega
  | n + 1, i, k, h1, h2, hp, h3 => by
    show (if P i then g i else fsv P g d n (i + 1)) = g k
    by_cases e : i = k
    · subst e; rw [if_pos hp]
    · rw [if_neg (h3 i (Nat.le_refl _) (by omega))]
      exact fsv_some (by omega) (by omega) hp (fun j a b => h3 j (by omega) b)
theorem fsv_none {P : Nat → Prop} [DecidablePred P] {g : Nat → Int32} {d : Int32} : ∀ {n i : Nat}, (∀ j, i ≤ j → j < i + n → ¬ P j) → fsv P g d n i = d
  | 0, _, _ => rfl
  | n + 1, i, h => by
    show (if P i then g i else fsv P g d n (i + 1)) = d
    rw [if_neg (h i (Nat.le_refl _) (by omega))]
    exact fsv_none (fun j a b => h j (by omega) (by omega))
/-- machine numbers as numbers -/
theorem le_ti {x y : Int32} : x ≤ y ↔ x.toInt ≤ y.toInt := Int32.le_iff_toInt_le
theorem lt_ti {x y : Int32} : x < y ↔ x.toInt < y.toInt := Int32.lt_iff_toInt_lt
theorem eq_ti {x y : Int32} : x = y ↔ x.toInt = y.toInt := Int32.toInt_inj.symm
theorem bm_ti {x : Int} (h : -2147483648 ≤ x ∧ x ≤ 2147483647) : x.bmod (2 ^ 32) = x := by
  rw [Int.bmod_def]
  split <;> omega
theorem ad_ti {x y : Int32} (h : -2147483648 ≤ x.toInt + y.toInt ∧ x.toInt + y.toInt ≤ 2147483647) : (x + y).toInt = x.toInt + y.toInt := by
  rw [Int32.toInt_add]
  exact bm_ti h
theorem sb_ti {x y : Int32} (h : -2147483648 ≤ x.toInt - y.toInt ∧ x.toInt - y.toInt ≤ 2147483647) : (x - y).toInt = x.toInt - y.toInt := by
  rw [Int32.toInt_sub]
  exact bm_ti h
theorem ml_ti {x y : Int32} (h : -2147483648 ≤ x.toInt * y.toInt ∧ x.toInt * y.toInt ≤ 2147483647) : (x * y).toInt = x.toInt * y.toInt := by
  rw [Int32.toInt_mul]
  exact bm_ti h
theorem dv_ti {x y : Int32} (h : 0 ≤ x.toInt) (h2 : 0 < y.toInt) : (x / y).toInt = x.toInt / y.toInt := by
  rw [Int32.toInt_div_of_ne_right _ _ (fun e => by
    have := congrArg Int32.toInt e
    have e1 : (-1 : Int32).toInt = -1 := by decide
    omega), Int.tdiv_eq_ediv_of_nonneg h]
/-- a number from 0 up is a natural one -/
theorem nat_of {x : Int32} (h : 0 ≤ x.toInt) : ∃ k : Nat, x = nI k ∧ x.toInt = k ∧ k < 2147483648 := by
  have h2 := Int32.toInt_lt x
  refine ⟨x.toInt.toNat, ?_, by omega, by omega⟩
  apply Int32.toInt_inj.mp
  rw [nI_toInt (by omega)]
  omega
theorem in_of {x : Int32} {m : Int32} {M : Nat} (hM : m.toInt = M) (h : 0 ≤ x ∧ x ≤ m) : ∃ k : Nat, x = nI k ∧ k ≤ M ∧ ixz x = k := by
  have h1 := le_ti.mp h.1
  have h2 := le_ti.mp h.2
  have e0 : (0 : Int32).toInt = 0 := by decide
  obtain ⟨k, a, b, c⟩ := nat_of (x := x) (by omega)
  refine ⟨k, a, by omega, ?_⟩
  rw [a]
  exact nI_clamp c
