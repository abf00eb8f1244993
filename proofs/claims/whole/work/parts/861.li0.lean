/-! pure: a new object and a new reference tell the same -/
theorem rlB_0 : ∀ b, b < 6 → rlB S00 zI b := by
  unfold rlB
  decide +kernel
theorem rlR_0 : ∀ r, r < 3 → rlR S00 zI r := by
  unfold rlR okR
  decide +kernel
theorem rk_0 : ∀ k, k < 60 → zl zI k 1 = nI 0 := by decide +kernel
theorem pl_0 : ∀ j, j < 24 → sA S00 8 j = -1 := by decide +kernel
theorem Rl_0 : Rl 99999 S00 zI := by
  refine ⟨⟨?_, ?_, ?_, by decide, ?_, ?_, ?_, ?_, ?_, ?_, fun k hk => Or.inr ⟨0, by omega, rk_0 k hk⟩⟩, rlB_0, rlR_0, fun k hk => absurd (show k < 0 from hk) (by omega), fun j hj => Or.inl (pl_0 j hj)⟩
  all_goals decide +kernel
theorem LI_0 : LI S00 S00 (fun _ => S00) 0 0 0 0 0 0 0 0 0 0 0 (fun _ => 0) zI (fun _ => 0) (fun _ => 0) (fun _ => 0) := ⟨Rl_0, fun i hi => by omega, ⟨rfl, by omega, by omega⟩, ⟨rfl, fun h => absurd rfl h⟩, ⟨rfl, rfl, by omega⟩, rfl, rfl⟩
