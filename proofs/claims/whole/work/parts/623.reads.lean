theorem c0_eq {B : Int} {S : SC} {z : Nat → Int32} (h : Rl B S z) (x y : Int32) : allN S x = l0R z (sN S) x y := cnt_c (fun k hk => by rw [(h.rD hk).1])
theorem c1_eq {B : Int} {S : SC} {z : Nat → Int32} (h : Rl B S z) (x y : Int32) : deadN S x = l1R z (sN S) x y := cnt_c (fun k hk => by rw [(h.rD hk).1, (h.rD hk).dead])
theorem c2_eq {B : Int} {S : SC} {z : Nat → Int32} (h : Rl B S z) (x y : Int32) : erlN S x y = l2R z (sN S) x y := cnt_c (fun k hk => by rw [(h.rD hk).1, (h.rD hk).dead, (h.rD hk).2.2.1, and_assoc])
theorem c3_eq {B : Int} {S : SC} {z : Nat → Int32} (h : Rl B S z) (x y : Int32) : lastN S x y = l3R z (sN S) x y := cnt_c (fun k hk => by rw [(h.rD hk).1, (h.rD hk).2.2.1])
theorem lasted_eq {B : Int} {S : SC} {z : Nat → Int32} (h : Rl B S z) (b x : Int32) : lastS S b x = ldR z (sN S) b x := by
  unfold lastS ldR
  rw [c3_eq h]
theorem count_eq {B : Int} {S : SC} {z : Nat → Int32} (h : Rl B S z) (s ln : Nat) (w : Int32) : cntT S s ln w = coR z (sN S) s ln w := by
  have hn := h.n60
  have k2 : cnt (fun j => sA S 3 j ≠ -1) (sN S) = lnR z (sN S) 0 1 + lnR z (sN S) 1 1 + lnR z (sN S) 2 1 := by
    unfold lnR
    have e2 : ∀ r, r < 3 → ∀ k, k < sN S → ((zl z k 1 = nI r ∧ ((1 : Int32) ≠ 0 ∨ ¬ zl z k 6 ≠ -1005)) ↔ zl z k 1 = nI r) := fun r _ k _ => ⟨fun q => q.1, fun q => ⟨q, Or.inl (by decide)⟩⟩
    rw [show (0 : Int32) = nI 0 from rfl, show (2 : Int32) = nI 2 from rfl]
    rw [cnt_c (P := fun j => zl z j 1 = nI 0 ∧ ((1 : Int32) ≠ nI 0 ∨ ¬ zl z j 6 ≠ -1005)) (e2 0 (by omega)), cnt_c (P := fun j => zl z j 1 = 1 ∧ ((1 : Int32) ≠ nI 0 ∨ ¬ zl z j 6 ≠ -1005)) (e2 1 (by omega)), cnt_c (P := fun j => zl z j 1 = nI 2 ∧ ((1 : Int32) ≠ nI 0 ∨ ¬ zl z j 6 ≠ -1005)) (e2 2 (by omega))]
    have n01 : ¬ nI 0 = nI 1 := by decide
    have n02 : ¬ nI 0 = nI 2 := by decide
    have n12 : ¬ nI 1 = nI 2 := by decide
    rw [← cnt_or (P := fun j => zl z j 1 = nI 0) (Q := fun j => zl z j 1 = nI 1) (R := fun j => zl z j 1 = nI 0 ∨ zl z j 1 = nI 1) (fun _ _ => Iff.rfl) (fun k _ a b => n01 (a.symm.trans b))]
    refine cnt_or (fun k hk => ?_) (fun k _ a b => ?_)
    · rcases h.rP hk with ⟨a, b, c⟩ | ⟨r, p, hr, hp, a, b, c, -⟩
      · rw [a, b]
        exact ⟨fun q => absurd rfl q, fun q => absurd q (by decide)⟩
      · rw [a, b]
        refine ⟨fun _ => ?_, fun _ => nI_nm1 (by omega)⟩
        rcases (show r = 0 ∨ r = 1 ∨ r = 2 by omega) with e | e | e <;> subst e <;> simp
    · rcases a with a | a
      · exact n02 (a.symm.trans b)
      · exact n12 (a.symm.trans b)
  have k3 : cnt (fun k => wdS S k = 0) (sN S) = bnR z (sN S) := cnt_c (fun k hk => by
    rw [wd_eq h hk]
    by_cases c : brnB z k = true
    · have c2 := (brn_iff _ _).mp c
      rw [if_neg (fun q => q c2.1), if_neg c2.2.1, if_pos c]
      simp [c]
    · refine ⟨fun q => ?_, fun q => absurd q c⟩
      split at q
      · exact absurd q (by decide)
      · split at q
        · exact absurd q (by decide)
        · exact absurd q (by decide))
  have k4 : cnt (fun j => sA S 7 j ≠ -1) (sN S) = ddR z (sN S) := cnt_c (fun k hk => (h.rD hk).dead)
  have k5 : cnt (fun j => shr (nI j) = 9) (sN S) = smR z (sN S) 7 := (sm_cnt (fun k hk => (h.rD hk).2.2.2.2.1)).symm
  have k6 : sm (sA S 6) (sN S) = smR z (sN S) 5 := sm_c (fun k hk => (h.rD hk).2.2.2.1)
  have k7 : sm (sA S 5) (sN S) = smR z (sN S) 4 := sm_c (fun k hk => (h.rD hk).2.2.1)
  unfold cntT taS coR
  rw [k2, k3, k4, k5, k6, k7, h.1.1, h.1.2.1, h.1.2.2.1, h.z3]
  by_cases w10 : w = 10
  · subst w10; rfl
  · by_cases w11 : w = 11
    · subst w11; rfl
    · rw [if_neg w10, if_neg w11, if_neg w10, if_neg w11]
