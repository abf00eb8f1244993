set_option maxRecDepth 100000 in
set_option maxHeartbeats 4000000 in
theorem law_337 {cx : CX} {b L : Nat} {xs : Nat → Int32} (C : XC cx cL_law wsL_law RL room_1 16) (M : XM cx) (S : XS cx b L xs) (Z : XZ cx) (hL : L ≤ 260) (a : AT) (i : Nat) (hi : i < 70) (O : OS) (v : Int64) (w : Nat) (hO : OI ((300 * (i + 1) : Nat) : Int) O) (hz : ¬ oh O = 0) (hv : v = seV (oM O)) (hw : w = sN (oM O)) (K : ∀ (O : OS) (v : Int64) (w : Nat), OI ((300 * (i + 1) : Nat) : Int) O → ¬ oh O = 0 → v = seV (oM O) → w = sN (oM O) → X cx (141, 3509) (obW (xG cx) a O) [(0, .ref b), (1, .ref (aaX a)), (2, .int 1), (3, .long v), (5, .int (nI w)), (6, .int (nI (i + 1)))] 148 []) : X cx (141, 3509) (obW (xG cx) a O) [(0, .ref b), (1, .ref (aaX a)), (2, .int 1), (3, .long v), (5, .int (nI w)), (6, .int (nI i))] 337 [] := by
  have hok : okS (oN O) := hO.1.okS
  refine x_iload_n C 2 dL_law_337 rfl rfl ?_
  refine x_if_eq C 421 dL_law_338 (by decide) (fun h => absurd h (by decide)) (fun _ => ?_)
  refine x_iload C 5 dL_law_341 rfl ?_
  refine x_bipush (v := 14) C dL_law_343 (by decide) ?_
  refine x_irem C (pk_rem (a := i) (d := 14) (by omega) (by omega) (by omega)) dL_law_345 (by decide) ?_
  refine x_bipush (v := 13) C dL_law_346 (by decide) ?_
  refine x_icmp_ne C 421 dL_law_348 (by decide) (fun c_348 => ?_) (fun c_348 => ?_)
  ·
    refine x_iinc C 5 [(6, .int (nI (i + 1))), (0, .ref b), (1, .ref (aaX a)), (2, .int 1), (3, .long v), (5, .int (nI w))] dL_law_421 rfl (inc1 i) (by decide) rfl ?_
    refine x_goto (tgt := 148) C dL_law_424 (by decide) ?_
    refine x_lv [(0, .ref b), (1, .ref (aaX a)), (2, .int 1), (3, .long v), (5, .int (nI w)), (6, .int (nI (i + 1)))] [1, 2, 3, 4, 5, 0] rfl ?_
    exact K O v w hO hz hv hw
  ·
    have hMi : Iv _ (oM O) := hO.2.2.2.2.2 hz
    have hm60 := hMi.n60
    obtain ⟨q, eq⟩ : ∃ q : Int32 × SC, (nI (sN (oM O)), oM O) = q := ⟨_, rfl⟩
    have hq0 : ¬ q.1 < 0 := by
      rw [← eq]
      exact nI_nn (by omega)
    have hO4 : OI ((300 * (i + 1) : Nat) : Int) (recO O q) := hO.rec (by rw [← eq]; exact hMi) (fun g => absurd g hq0)
    have ur := und_rec hO hq0
    have hO5 : OI ((300 * (i + 1) : Nat) : Int) (kepO (undO (recO O q))) := hO4.und.kep
    have hok4 : okS q.2 := by
      rw [← eq]
      exact hMi.okS
    have hok5 : okS (oN (undO (recO O q))) := hO4.und.1.okS
    refine x_aload_n C 1 dL_law_351 rfl rfl ?_
    refine x_sRO C ([.ref (aaX a)]) ([]) (a := a) (O := O) (na := 1) gL_law_L_seen rfl (by decide +kernel) rfl (kL_seen (xl cx) (xG cx) a O hok) rfl rfl rfl ⟨by decide, by decide⟩ (Nat.le_of_ble_eq_true rfl) ⟨by decide, by decide⟩ dL_law_352 ?_
    refine x_lstore C [(13, .long (seV (oN O))), (0, .ref b), (1, .ref (aaX a)), (2, .int 1), (3, .long v), (5, .int (nI w)), (6, .int (nI i))] dL_law_355 (by decide) rfl ?_
    refine x_aload_n C 2 dL_law_357 rfl rfl ?_
    refine x_iconst (v := 1) C dL_law_358 (by decide) ?_
    refine x_oRO C ([.int 1]) ([]) (a := a) (O := O) (na := 1) gL_law_X6_count rfl (by decide +kernel) rfl (oX6_count (xl cx) (xG cx) a O 1 (S := oN O) rfl hok) rfl rfl rfl ⟨by decide, by decide⟩ (Nat.le_of_ble_eq_true rfl) ⟨by decide, by decide⟩ dL_law_359 ?_
    refine x_top (y := nI (sN (oN O))) (cnt_1 _ _ _) ?_
    refine x_istore C [(15, .int (nI (sN (oN O)))), (13, .long (seV (oN O))), (0, .ref b), (1, .ref (aaX a)), (2, .int 1), (3, .long v), (5, .int (nI w)), (6, .int (nI i))] dL_law_362 (by decide) rfl ?_
    refine x_aload_n C 3 dL_law_364 rfl rfl ?_
    refine x_oMU C ([]) ([]) (a := a) (O := O) (O' := recO O q) (na := 0) gL_law_X6_restore rfl (by decide +kernel) rfl M (by have h0 := oX6_restore (xl cx) (xG cx) a O hO.2.1 hO.2.2.1; rw [rst_rec hz, rsR_is hz, eq] at h0; exact h0) rfl rfl rfl ⟨by decide, by decide⟩ (Nat.le_of_ble_eq_true rfl) ⟨by decide, by decide⟩ dL_law_365 ?_
    refine x_iload C 6 dL_law_368 rfl ?_
    refine x_icmp_ne C 412 dL_law_370 (by decide) (fun c => absurd (nI_eq' hw.symm) c) (fun _ => ?_)
    refine x_aload_n C 3 dL_law_373 rfl rfl ?_
    refine x_sRO C ([.ref (aaX a)]) ([]) (a := a) (O := recO O q) (na := 1) gL_law_L_seen rfl (by decide +kernel) rfl (kL_seen (xl cx) (xG cx) a (recO O q) hok4) rfl rfl rfl ⟨by decide, by decide⟩ (Nat.le_of_ble_eq_true rfl) ⟨by decide, by decide⟩ dL_law_374 ?_
    refine x_lload_n C 5 dL_law_377 rfl rfl ?_
    refine x_lcmp C (by rw [← eq]; exact hv.symm) dL_law_378 ?_
    refine x_if_ne C 412 dL_law_379 (by decide) (fun h => absurd h (by decide)) (fun _ => ?_)
    refine x_aload_n C 3 dL_law_382 rfl rfl ?_
    refine x_oMU C ([]) ([]) (a := a) (O := recO O q) (O' := undO (recO O q)) (na := 0) gL_law_X6_undo rfl (by decide +kernel) rfl M (oX6_undo (xl cx) (xG cx) a (recO O q) hO4.2.1 hO4.2.2.1) rfl rfl rfl ⟨by decide, by decide⟩ (Nat.le_of_ble_eq_true rfl) ⟨by decide, by decide⟩ dL_law_383 ?_
    refine x_if_lt C 412 dL_law_386 (by decide) (fun c => absurd c (by rw [ur.2.1]; exact nI_nn (by split <;> omega))) (fun _ => ?_)
    refine x_aload_n C 3 dL_law_389 rfl rfl ?_
    refine x_sRO C ([.ref (aaX a)]) ([]) (a := a) (O := undO (recO O q)) (na := 1) gL_law_L_seen rfl (by decide +kernel) rfl (kL_seen (xl cx) (xG cx) a (undO (recO O q)) hok5) rfl rfl rfl ⟨by decide, by decide⟩ (Nat.le_of_ble_eq_true rfl) ⟨by decide, by decide⟩ dL_law_390 ?_
    refine x_lload C 1 dL_law_393 rfl ?_
    refine x_lcmp C (by rw [ur.1]) dL_law_395 ?_
    refine x_if_ne C 412 dL_law_396 (by decide) (fun h => absurd h (by decide)) (fun _ => ?_)
    refine x_aload_n C 3 dL_law_399 rfl rfl ?_
    refine x_oMU C ([]) ([]) (a := a) (O := undO (recO O q)) (O' := kepO (undO (recO O q))) (na := 0) gL_law_X6_keep rfl (by decide +kernel) rfl M (oX6_keep (xl cx) (xG cx) a (undO (recO O q))) rfl rfl rfl ⟨by decide, by decide⟩ (Nat.le_of_ble_eq_true rfl) ⟨by decide, by decide⟩ dL_law_400 ?_
    refine x_iload C 0 dL_law_403 rfl ?_
    refine x_icmp_ne C 412 dL_law_405 (by decide) (fun c => absurd (by rw [ur.1]) c) (fun _ => ?_)
    refine x_iconst (v := 1) C dL_law_408 (by decide) ?_
    refine x_goto (tgt := 413) C dL_law_409 (by decide) ?_
    refine x_istore_n C [(2, .int 1), (15, .int (nI (sN (oN O)))), (13, .long (seV (oN O))), (0, .ref b), (1, .ref (aaX a)), (3, .long v), (5, .int (nI w)), (6, .int (nI i))] dL_law_413 rfl (by decide) rfl ?_
    refine x_lload C 2 dL_law_414 rfl ?_
    refine x_lstore_n C [(3, .long (seV (oN O))), (2, .int 1), (15, .int (nI (sN (oN O)))), (13, .long (seV (oN O))), (0, .ref b), (1, .ref (aaX a)), (5, .int (nI w)), (6, .int (nI i))] dL_law_416 rfl (by decide) rfl ?_
    refine x_iload C 2 dL_law_417 rfl ?_
    refine x_istore C [(5, .int (nI (sN (oN O)))), (3, .long (seV (oN O))), (2, .int 1), (15, .int (nI (sN (oN O)))), (13, .long (seV (oN O))), (0, .ref b), (1, .ref (aaX a)), (6, .int (nI i))] dL_law_419 (by decide) rfl ?_
    refine x_iinc C 7 [(6, .int (nI (i + 1))), (5, .int (nI (sN (oN O)))), (3, .long (seV (oN O))), (2, .int 1), (15, .int (nI (sN (oN O)))), (13, .long (seV (oN O))), (0, .ref b), (1, .ref (aaX a))] dL_law_421 rfl (inc1 i) (by decide) rfl ?_
    refine x_goto (tgt := 148) C dL_law_424 (by decide) ?_
    refine x_lv [(0, .ref b), (1, .ref (aaX a)), (2, .int 1), (3, .long (seV (oN O))), (5, .int (nI (sN (oN O)))), (6, .int (nI (i + 1)))] [6, 7, 3, 2, 1, 0] rfl ?_
    exact K (kepO (undO (recO O q))) _ _ hO5 (show ¬ (1 : Int32) = 0 by decide) (congrArg seV ur.1.symm) (congrArg sN ur.1.symm)
