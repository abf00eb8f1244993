/-! pure: a stretch of the object's hours -/
theorem mn_nI {a b : Nat} (ha : a < 2147483648) (hb : b < 2147483648) : mn (nI a) (nI b) = nI (min a b) := by
  unfold mn
  by_cases c : b < a
  · rw [if_pos ((nI_ltI hb ha).mpr c), Nat.min_eq_right (by omega)]
  · rw [if_neg (fun q => c ((nI_ltI hb ha).mp q)), Nat.min_eq_left (by omega)]
/-- the three numbers of a lamp are as they were -/
def sL (S T : SC) (k : Nat) : Prop := sA T 5 k = sA S 5 k ∧ sA T 6 k = sA S 6 k ∧ sA T 7 k = sA S 7 k
/-- the three numbers of a lamp are behind h hours on the place j of the rack r -/
def bD (S T : SC) (r j k : Nat) (h hb : Int32) : Prop := (sA S 7 k ≠ -1 → sL S T k) ∧ (¬ sA S 7 k ≠ -1 →
  sA T 5 k = sA S 5 k + mn (hLf (sA S 4 k) (sA S 5 k) (wrP S r j)) h * wrP S r j ∧ sA T 6 k = sA S 6 k + mn (hLf (sA S 4 k) (sA S 5 k) (wrP S r j)) h ∧
  (hLf (sA S 4 k) (sA S 5 k) (wrP S r j) ≤ h → sA T 7 k = hb + hLf (sA S 4 k) (sA S 5 k) (wrP S r j)) ∧ (¬ hLf (sA S 4 k) (sA S 5 k) (wrP S r j) ≤ h → sA T 7 k = -1))
theorem sL.tr {S T U : SC} {k : Nat} (a : sL S T k) (b : sL T U k) : sL S U k := ⟨b.1.trans a.1, b.2.1.trans a.2.1, b.2.2.trans a.2.2⟩
theorem bD.tr {S T U : SC} {r j k : Nat} {h hb : Int32} (a : bD S T r j k h hb) (b : sL T U k) : bD S U r j k h hb := by
  obtain ⟨b1, b2, b3⟩ := b
  refine ⟨fun q => (a.1 q).tr ⟨b1, b2, b3⟩, fun q => ?_⟩
  obtain ⟨a1, a2, a3, a4⟩ := a.2 q
  exact ⟨b1.trans a1, b2.trans a2, fun q => b3.trans (a3 q), fun q => b3.trans (a4 q)⟩
def dN (S : SC) : Nat := cN (fun k => sA S 7 k ≠ -1) (sN S)
theorem wrP_c {S T : SC} (e : sameB S T) (r j : Nat) : wrP T r j = wrP S r j := by
  unfold wrP
  rw [e.2.1, e.2.2.1, e.2.2.2.2 9 (by decide) (by decide) (by decide)]
theorem bRn_is {S : SC} {r : Nat} {h hb : Int32} (hr : r < 3) (hn : sN S ≤ 60) (hA : rlA S) (hE : ∀ k q, q < 8 → sA S 8 (r * 8 + q) = nI k → k < sN S → ¬ sA S 7 k ≠ -1 → hLf (sA S 4 k) (sA S 5 k) (wrP S r (r * 8 + q)) ≤ h → ¬ hb + hLf (sA S 4 k) (sA S 5 k) (wrP S r (r * 8 + q)) = -1) : ∀ m, m ≤ 8 →
    (∀ k, k < sN S → ∀ q, q < 8 → sA S 8 (r * 8 + q) = nI k → (q < m → bD S (bRn S r h hb m).1 r (r * 8 + q) k h hb) ∧ (m ≤ q → sL S (bRn S r h hb m).1 k)) ∧
    (∀ k, k < sN S → (∀ q, q < 8 → ¬ sA S 8 (r * 8 + q) = nI k) → sL S (bRn S r h hb m).1 k) ∧
    ∃ c, (bRn S r h hb m).2 = nI c ∧ dN (bRn S r h hb m).1 = dN S + c
  | 0, _ => ⟨fun k hk q hq e => ⟨fun g => by omega, fun _ => ⟨rfl, rfl, rfl⟩⟩, fun k hk _ => ⟨rfl, rfl, rfl⟩, 0, rfl, rfl⟩
  | m + 1, hm => by
    obtain ⟨i1, i2, c, i3, i4⟩ := bRn_is hr hn hA hE m (by omega)
    have sb := bRn_sameB S r h hb m
    rw [bRn_s]
    have ex : bRn S r h hb m = ((bRn S r h hb m).1, (bRn S r h hb m).2) := rfl
    rw [ex]
    generalize (bRn S r h hb m).1 = T at *
    generalize (bRn S r h hb m).2 = a at *
    have e8 : sA T 8 = sA S 8 := sb.2.2.2.2 8 (by decide) (by decide) (by decide)
    have e4 : sA T 4 = sA S 4 := sb.2.2.2.2 4 (by decide) (by decide) (by decide)
    have eN : sN T = sN S := sb.2.2.2.1
    have w := wrP_c sb r (r * 8 + m)
    rcases hA (r * 8 + m) (by omega) with q0 | ⟨k0, hk0, q1, q2⟩
    · have e : bPl (T, a) r h hb m = (T, a) := bPl_same (Or.inl (by rw [e8]; exact q0))
      rw [e]
      refine ⟨fun k hk q hq ej => ⟨fun g => ?_, fun g => (i1 k hk q hq ej).2 (by omega)⟩, i2, c, i3, i4⟩
      by_cases em : q = m
      · subst em
        exact absurd (ej.symm.trans q0) (nI_nm1 (by omega))
      · exact (i1 k hk q hq ej).1 (by omega)
    · obtain ⟨t5, t6, t7⟩ := (i1 k0 hk0 m (by omega) q1).2 (Nat.le_refl _)
      have un : ∀ k, k < sN S → ∀ q, q < 8 → sA S 8 (r * 8 + q) = nI k → k = k0 → q = m := fun k hk q hq ej ek => by
        subst ek
        rcases hA (r * 8 + q) (by omega) with g | ⟨d, hd, g1, g2⟩
        · exact absurd (ej.symm.trans g) (nI_nm1 (by omega))
        · have : d = k := nI_i (by omega) (by omega) (g1.symm.trans ej)
          subst this
          have := nI_i (by omega) (by omega) (g2.symm.trans q2)
          omega
      by_cases d : sA S 7 k0 ≠ -1
      · have e : bPl (T, a) r h hb m = (T, a) := bPl_same (Or.inr (by
          rw [e8, q1, show ixz (nI k0) = k0 from nI_clamp (by omega), t7]
          exact d))
        rw [e]
        refine ⟨fun k hk q hq ej => ⟨fun g => ?_, fun g => (i1 k hk q hq ej).2 (by omega)⟩, i2, c, i3, i4⟩
        by_cases em : q = m
        · subst em
          have : k = k0 := nI_i (by omega) (by omega) (ej.symm.trans q1)
          subst this
          exact ⟨fun _ => ⟨t5, t6, t7⟩, fun g => absurd d g⟩
        · exact (i1 k hk q hq ej).1 (by omega)
      · have dT : ¬ sA T 7 k0 ≠ -1 := by rw [t7]; exact d
        have e8' : sA T 8 (r * 8 + m) = nI k0 := by rw [e8]; exact q1
        have el : hLf (sA T 4 k0) (sA T 5 k0) (wrP T r (r * 8 + m)) = hLf (sA S 4 k0) (sA S 5 k0) (wrP S r (r * 8 + m)) := by rw [e4, t5, w]
        have ne := hE k0 m (by omega) q1 hk0 d
        by_cases le : hLf (sA S 4 k0) (sA S 5 k0) (wrP S r (r * 8 + m)) ≤ h
        · have e := bPl_go (acc := a) (hb := hb) e8' (by omega) dT (nI_nm1 (by omega)) (by rw [el]; exact le)
          rw [e, el, w]
          have new : ∀ k, k ≠ k0 → sL T (uA (bnS T k0 (wrP S r (r * 8 + m)) (mn (hLf (sA S 4 k0) (sA S 5 k0) (wrP S r (r * 8 + m))) h)) 7 (upd (sA T 7) k0 (hb + hLf (sA S 4 k0) (sA S 5 k0) (wrP S r (r * 8 + m))))) k := fun k hk => ⟨upd_ne hk, upd_ne hk, upd_ne hk⟩
          refine ⟨fun k hk q hq ej => ⟨fun g => ?_, fun g => ((i1 k hk q hq ej).2 (by omega)).tr (new k (fun ek => by have := un k hk q hq ej ek; omega))⟩, fun k hk g => (i2 k hk g).tr (new k (fun ek => g m (by omega) (by rw [ek]; exact q1))), c + 1, ?_, ?_⟩
          · by_cases em : q = m
            · subst em
              have : k = k0 := nI_i (by omega) (by omega) (ej.symm.trans q1)
              subst this
              refine ⟨fun g => absurd g d, fun _ => ⟨?_, ?_, fun _ => updA rfl, fun g => absurd le g⟩⟩
              · exact (updA rfl).trans (by rw [t5])
              · exact (updA rfl).trans (by rw [t6])
            · exact ((i1 k hk q hq ej).1 (by omega)).tr (new k (fun ek => em (un k hk q hq ej ek)))
          · rw [i3, nI_1]
          · show cN (fun k => upd (sA T 7) k0 (hb + hLf (sA S 4 k0) (sA S 5 k0) (wrP S r (r * 8 + m))) k ≠ -1) (sN T) = _
            rw [show dN S + (c + 1) = (dN S + c) + 1 from rfl, ← i4]
            refine cN_ins (i := k0) (by rw [eN]; exact hk0) dT (fun k hk => ?_)
            by_cases ek : k = k0
            · subst ek
              rw [updA rfl]
              exact ⟨fun _ => Or.inr rfl, fun _ => ne le⟩
            · rw [upd_ne ek]
              exact ⟨fun q => Or.inl q, fun q => q.elim id (fun q => absurd q ek)⟩
        · have e := bPl_no (acc := a) (hb := hb) e8' (by omega) dT (nI_nm1 (by omega)) (by rw [el]; exact le)
          rw [e, el, w]
          have new : ∀ k, k ≠ k0 → sL T (bnS T k0 (wrP S r (r * 8 + m)) (mn (hLf (sA S 4 k0) (sA S 5 k0) (wrP S r (r * 8 + m))) h)) k := fun k hk => ⟨upd_ne hk, upd_ne hk, rfl⟩
          refine ⟨fun k hk q hq ej => ⟨fun g => ?_, fun g => ((i1 k hk q hq ej).2 (by omega)).tr (new k (fun ek => by have := un k hk q hq ej ek; omega))⟩, fun k hk g => (i2 k hk g).tr (new k (fun ek => g m (by omega) (by rw [ek]; exact q1))), c, i3, i4⟩
          by_cases em : q = m
          · subst em
            have : k = k0 := nI_i (by omega) (by omega) (ej.symm.trans q1)
            subst this
            refine ⟨fun g => absurd g d, fun _ => ⟨?_, ?_, fun g => absurd g le, fun _ => t7.trans (Classical.not_not.mp d)⟩⟩
            · exact (updA rfl).trans (by rw [t5])
            · exact (updA rfl).trans (by rw [t6])
          · exact ((i1 k hk q hq ej).1 (by omega)).tr (new k (fun ek => em (un k hk q hq ej ek)))
