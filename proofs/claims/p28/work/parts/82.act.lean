set_option maxRecDepth 100000 in
set_option maxHeartbeats 4000000 in
theorem kL_act (l : Launch) (G : GG) (a : AT) (O : OS) {H : Int} (n : Nat) (hn0 : n < 2147483648) (hI : Iv H (oN O)) (hH : H ≤ 90000) (hk4 : oK O < 4) (hs4 : oS O ≤ 4) : MU l G yL_act wsL_act ({ frames := 8, cells := 0, slots := 0, locals := 193 } : Room) [.ref (aaX a), .int (nI n)] (obW G a O) (some (.int ((actQ (oN O) n).1))) (obW G a (recO O (actQ (oN O) n))) := by
  refine MU.of (cc := cL_act) (maxL := 10) (ret := (some .int)) (by decide) rfl (Nat.le_of_ble_eq_true rfl) ?_
  intro cx hxl hxG C M E
  subst hxl
  subst hxG
  show X cx (0, 0) (obW (xG cx) a O) [(0, .ref (aaX a)), (1, .int (nI n))] 0 []
  have hok : okS (oN O) := hI.okS
  have hn : sN (oN O) ≤ 60 := hI.n60
  refine x_iload_n C 1 dL_act_0 rfl rfl ?_
  refine x_bipush (v := 16) C dL_act_1 (by decide) ?_
  refine x_irem C (pk_rem (a := n) (d := 16) (by omega) (by omega) (by omega)) dL_act_3 (by decide) ?_
  refine x_istore_n C [(2, .int (nI (n % 16))), (0, .ref (aaX a)), (1, .int (nI n))] dL_act_4 rfl (by decide) rfl ?_
  refine x_iload_n C 2 dL_act_5 rfl rfl ?_
  refine x_bipush (v := 16) C dL_act_6 (by decide) ?_
  refine x_idiv C (pk_div (a := n) (d := 16) (by omega) (by omega) (by omega)) dL_act_8 (by decide) ?_
  refine x_istore_n C [(3, .int (nI (n / 16))), (2, .int (nI (n % 16))), (0, .ref (aaX a)), (1, .int (nI n))] dL_act_9 rfl (by decide) rfl ?_
  refine x_iload_n C 1 dL_act_10 rfl rfl ?_
  refine x_iconst (v := 5) C dL_act_11 (by decide) ?_
  refine x_icmp_ge C 21 dL_act_12 (by decide) (fun c_12 => ?_) (fun c_12 => ?_)
  ·
    have c1 : ¬ n % 16 < 5 := fun g => absurd (nI_lt (a := n % 16) (b := 5) g (by omega)) (Int32.not_lt.mpr c_12)
    refine x_iload_n C 1 dL_act_21 rfl rfl ?_
    refine x_bipush (v := 7) C dL_act_22 (by decide) ?_
    refine x_icmp_ge C 33 dL_act_24 (by decide) (fun c_24 => ?_) (fun c_24 => ?_)
    ·
      have c2 : ¬ n % 16 < 7 := fun g => absurd (nI_lt (a := n % 16) (b := 7) g (by omega)) (Int32.not_lt.mpr c_24)
      refine x_iload_n C 1 dL_act_33 rfl rfl ?_
      refine x_bipush (v := 10) C dL_act_34 (by decide) ?_
      refine x_icmp_ge C 44 dL_act_36 (by decide) (fun c_36 => ?_) (fun c_36 => ?_)
      ·
        have c3 : ¬ n % 16 < 10 := fun g => absurd (nI_lt (a := n % 16) (b := 10) g (by omega)) (Int32.not_lt.mpr c_36)
        refine x_iload_n C 1 dL_act_44 rfl rfl ?_
        refine x_bipush (v := 12) C dL_act_45 (by decide) ?_
        refine x_icmp_ge C 96 dL_act_47 (by decide) (fun c_47 => ?_) (fun c_47 => ?_)
        ·
          have c4 : ¬ n % 16 < 12 := fun g => absurd (nI_lt (a := n % 16) (b := 12) g (by omega)) (Int32.not_lt.mpr c_47)
          refine x_iload_n C 1 dL_act_96 rfl rfl ?_
          refine x_bipush (v := 12) C dL_act_97 (by decide) ?_
          refine x_icmp_ne C 227 dL_act_99 (by decide) (fun c_99 => ?_) (fun c_99 => ?_)
          ·
            have c5 : ¬ n % 16 = 12 := fun g => c_99 (by rw [g]; rfl)
            refine x_iload_n C 1 dL_act_227 rfl rfl ?_
            refine x_bipush (v := 13) C dL_act_228 (by decide) ?_
            refine x_icmp_ne C 319 dL_act_230 (by decide) (fun c_230 => ?_) (fun c_230 => ?_)
            ·
              have c6 : ¬ n % 16 = 13 := fun g => c_230 (by rw [g]; rfl)
              refine x_iload_n C 1 dL_act_319 rfl rfl ?_
              refine x_bipush (v := 14) C dL_act_320 (by decide) ?_
              refine x_icmp_ne C 434 dL_act_322 (by decide) (fun c_322 => ?_) (fun c_322 => ?_)
              ·
                have c7 : ¬ n % 16 = 14 := fun g => c_322 (by rw [g]; rfl)
                obtain ⟨q, eq⟩ : ∃ q, chSet (oN O) (nI (n / 16 % 2)) (seV2 (n / 16)) = q := ⟨_, rfl⟩
                have em : actQ (oN O) n = q := (if_neg c1).trans ((if_neg c2).trans ((if_neg c3).trans ((if_neg c4).trans ((if_neg c5).trans ((if_neg c6).trans ((if_neg c7).trans eq))))))
                rw [em] at E
                obtain ⟨t1, t2, ti, -⟩ := se_1 hI (m := n / 16 % 2) (by omega) (fun c => seV_0 c) (fun c => seV_1 c) eq
                have hok2 : okS q.2 := ti.okS
                refine x_iload_n C 0 dL_act_434 rfl rfl ?_
                refine x_iconst (v := 2) C dL_act_435 (by decide) ?_
                refine x_irem C (pk_rem (a := n / 16) (d := 2) (by omega) (by omega) (by omega)) dL_act_436 (by decide) ?_
                refine x_istore C [(4, .int (nI ((n / 16) % 2))), (3, .int (nI (n / 16))), (2, .int (nI (n % 16))), (0, .ref (aaX a)), (1, .int (nI n))] dL_act_437 (by decide) rfl ?_
                refine x_iload C 0 dL_act_439 rfl ?_
                have j_465 : ∀ v0 : Int32, v0 = (if (nI ((n / 16) % 2)) = 0 then nI (100 + (((n / 16) / 2) % 201)) else nI (1 + (((n / 16) / 2) % 100))) → X cx (0, 0) (obW (xG cx) a O) [(4, .int (nI ((n / 16) % 2))), (3, .int (nI (n / 16))), (2, .int (nI (n % 16))), (0, .ref (aaX a)), (1, .int (nI n))] 465 [.int v0] := by
                  intro v0 hv0
                  subst hv0
                  refine x_top (y := seV2 (n / 16)) (rfl) ?_
                  refine x_istore C [(5, .int (seV2 (n / 16))), (4, .int (nI ((n / 16) % 2))), (3, .int (nI (n / 16))), (2, .int (nI (n % 16))), (0, .ref (aaX a)), (1, .int (nI n))] dL_act_465 (by decide) rfl ?_
                  refine x_aload_n C 4 dL_act_467 rfl rfl ?_
                  refine x_bipush (v := 8) C dL_act_468 (by decide) ?_
                  refine x_iload C 1 dL_act_470 rfl ?_
                  refine x_iadd C (nI_add 8 ((n / 16) % 2)) dL_act_472 ?_
                  refine x_oRO C ([.int (nI (8 + ((n / 16) % 2)))]) ([]) (a := a) (O := O) (na := 1) gL_act_X6_count rfl (by decide +kernel) rfl (oX6_count (xl cx) (xG cx) a O (nI (8 + ((n / 16) % 2))) (S := oN O) rfl hok) rfl rfl rfl ⟨by decide, by decide⟩ (Nat.le_of_ble_eq_true rfl) ⟨by decide, by decide⟩ dL_act_473 ?_
                  refine x_top (y := (if n / 16 % 2 = 0 then sWv (oN O) else sDv (oN O))) (cnt_8 _ _ _ _ (by omega)) ?_
                  refine x_istore C [(6, .int (if n / 16 % 2 = 0 then sWv (oN O) else sDv (oN O))), (5, .int (seV2 (n / 16))), (4, .int (nI ((n / 16) % 2))), (3, .int (nI (n / 16))), (2, .int (nI (n % 16))), (0, .ref (aaX a)), (1, .int (nI n))] dL_act_476 (by decide) rfl ?_
                  refine x_aload_n C 5 dL_act_478 rfl rfl ?_
                  refine x_iload C 2 dL_act_479 rfl ?_
                  refine x_iload C 1 dL_act_481 rfl ?_
                  refine x_oMU C ([.int (nI ((n / 16) % 2)), .int (seV2 (n / 16))]) ([]) (a := a) (O := O) (O' := recO O q) (na := 2) gL_act_X6_set rfl (by decide +kernel) rfl M (oX6_set (xl cx) (xG cx) a O (nI (n / 16 % 2)) (seV2 (n / 16)) hk4 hs4 eq) rfl rfl rfl ⟨by decide, by decide⟩ (Nat.le_of_ble_eq_true rfl) ⟨by decide, by decide⟩ dL_act_483 ?_
                  refine x_istore C [(7, .int q.1), (6, .int (if n / 16 % 2 = 0 then sWv (oN O) else sDv (oN O))), (5, .int (seV2 (n / 16))), (4, .int (nI ((n / 16) % 2))), (3, .int (nI (n / 16))), (2, .int (nI (n % 16))), (0, .ref (aaX a)), (1, .int (nI n))] dL_act_486 (by decide) rfl ?_
                  refine x_iload C 0 dL_act_488 rfl ?_
                  refine x_iload C 1 dL_act_490 rfl ?_
                  refine x_iload C 2 dL_act_492 rfl ?_
                  have j_505 : ∀ v0 : Int32, v0 = (if (if n / 16 % 2 = 0 then sWv (oN O) else sDv (oN O)) = (seV2 (n / 16)) then (-1005) else (if n / 16 % 2 = 0 then sWv (oN O) else sDv (oN O))) → X cx (0, 0) (obW (xG cx) a (recO O q)) [(7, .int q.1), (6, .int (if n / 16 % 2 = 0 then sWv (oN O) else sDv (oN O))), (5, .int (seV2 (n / 16))), (4, .int (nI ((n / 16) % 2))), (3, .int (nI (n / 16))), (2, .int (nI (n % 16))), (0, .ref (aaX a)), (1, .int (nI n))] 505 [.int v0, .int q.1] := by
                    intro v0 hv0
                    subst hv0
                    refine x_icmp_ne C 527 dL_act_505 (by decide) (fun c => absurd (t1) c) (fun _ => ?_)
                    refine x_aload_n C 6 dL_act_508 rfl rfl ?_
                    refine x_bipush (v := 8) C dL_act_509 (by decide) ?_
                    refine x_iload C 3 dL_act_511 rfl ?_
                    refine x_iadd C (nI_add 8 ((n / 16) % 2)) dL_act_513 ?_
                    refine x_oRO C ([.int (nI (8 + ((n / 16) % 2)))]) ([]) (a := a) (O := recO O q) (na := 1) gL_act_X6_count rfl (by decide +kernel) rfl (oX6_count (xl cx) (xG cx) a (recO O q) (nI (8 + ((n / 16) % 2))) (S := q.2) rfl hok2) rfl rfl rfl ⟨by decide, by decide⟩ (Nat.le_of_ble_eq_true rfl) ⟨by decide, by decide⟩ dL_act_514 ?_
                    refine x_top (y := if n / 16 % 2 = 0 then sWv q.2 else sDv q.2) (cnt_8 _ _ _ _ (by omega)) ?_
                    refine x_iload C 2 dL_act_517 rfl ?_
                    refine x_icmp_ne C 527 dL_act_519 (by decide) (fun c => absurd (t2) c) (fun _ => ?_)
                    refine x_iload C 0 dL_act_522 rfl ?_
                    refine x_goto (tgt := 529) C dL_act_524 (by decide) ?_
                    exact x_iret C E dL_act_529 (rfl) rfl
                  refine x_icmp_ne C 503 dL_act_494 (by decide) (fun c_494 => ?_) (fun c_494 => ?_)
                  ·
                    refine x_iload C 1 dL_act_503 rfl ?_
                    exact j_505 _ ((if_neg c_494).symm)
                  ·
                    refine x_sipush (v := (-1005)) C dL_act_497 (by decide) ?_
                    refine x_goto (tgt := 505) C dL_act_500 (by decide) ?_
                    exact j_505 _ ((if_pos c_494).symm)
                refine x_if_ne C 457 dL_act_441 (by decide) (fun c_441 => ?_) (fun c_441 => ?_)
                ·
                  refine x_iconst (v := 1) C dL_act_457 (by decide) ?_
                  refine x_iload_n C 1 dL_act_458 rfl rfl ?_
                  refine x_iconst (v := 2) C dL_act_459 (by decide) ?_
                  refine x_idiv C (pk_div (a := n / 16) (d := 2) (by omega) (by omega) (by omega)) dL_act_460 (by decide) ?_
                  refine x_bipush (v := 100) C dL_act_461 (by decide) ?_
                  refine x_irem C (pk_rem (a := (n / 16) / 2) (d := 100) (by omega) (by omega) (by omega)) dL_act_463 (by decide) ?_
                  refine x_iadd C (nI_add 1 (((n / 16) / 2) % 100)) dL_act_464 ?_
                  exact j_465 _ ((if_neg c_441).symm)
                ·
                  refine x_bipush (v := 100) C dL_act_444 (by decide) ?_
                  refine x_iload_n C 1 dL_act_446 rfl rfl ?_
                  refine x_iconst (v := 2) C dL_act_447 (by decide) ?_
                  refine x_idiv C (pk_div (a := n / 16) (d := 2) (by omega) (by omega) (by omega)) dL_act_448 (by decide) ?_
                  refine x_sipush (v := 201) C dL_act_449 (by decide) ?_
                  refine x_irem C (pk_rem (a := (n / 16) / 2) (d := 201) (by omega) (by omega) (by omega)) dL_act_452 (by decide) ?_
                  refine x_iadd C (nI_add 100 (((n / 16) / 2) % 201)) dL_act_453 ?_
                  refine x_goto (tgt := 465) C dL_act_454 (by decide) ?_
                  exact j_465 _ ((if_pos c_441).symm)
              ·
                have c7 : n % 16 = 14 := nI_i (b := 14) (by omega) (by omega) c_322
                obtain ⟨q, eq⟩ : ∃ q, chSteps (oN O) (nI (n / 16 % 3)) (nI (n / 16 / 3 % 100)) (nI (n / 16 / 5 % 101) - 50) = q := ⟨_, rfl⟩
                have em : actQ (oN O) n = q := (if_neg c1).trans ((if_neg c2).trans ((if_neg c3).trans ((if_neg c4).trans ((if_neg c5).trans ((if_neg c6).trans ((if_pos c7).trans eq))))))
                rw [em] at E
                obtain ⟨t1, t2, t3, t4, ti, -⟩ := sp_1 hI (r := n / 16 % 3) (x := n / 16 / 3 % 100) (by omega) (by omega) (stV_rng (n / 16)) eq
                have hok2 : okS q.2 := ti.okS
                refine x_iload_n C 0 dL_act_325 rfl rfl ?_
                refine x_iconst (v := 3) C dL_act_326 (by decide) ?_
                refine x_irem C (pk_rem (a := n / 16) (d := 3) (by omega) (by omega) (by omega)) dL_act_327 (by decide) ?_
                refine x_istore C [(4, .int (nI ((n / 16) % 3))), (3, .int (nI (n / 16))), (2, .int (nI (n % 16))), (0, .ref (aaX a)), (1, .int (nI n))] dL_act_328 (by decide) rfl ?_
                refine x_iload_n C 1 dL_act_330 rfl rfl ?_
                refine x_iconst (v := 3) C dL_act_331 (by decide) ?_
                refine x_idiv C (pk_div (a := n / 16) (d := 3) (by omega) (by omega) (by omega)) dL_act_332 (by decide) ?_
                refine x_bipush (v := 100) C dL_act_333 (by decide) ?_
                refine x_irem C (pk_rem (a := (n / 16) / 3) (d := 100) (by omega) (by omega) (by omega)) dL_act_335 (by decide) ?_
                refine x_istore C [(5, .int (nI (((n / 16) / 3) % 100))), (4, .int (nI ((n / 16) % 3))), (3, .int (nI (n / 16))), (2, .int (nI (n % 16))), (0, .ref (aaX a)), (1, .int (nI n))] dL_act_336 (by decide) rfl ?_
                refine x_iload_n C 2 dL_act_338 rfl rfl ?_
                refine x_iconst (v := 5) C dL_act_339 (by decide) ?_
                refine x_idiv C (pk_div (a := n / 16) (d := 5) (by omega) (by omega) (by omega)) dL_act_340 (by decide) ?_
                refine x_bipush (v := 101) C dL_act_341 (by decide) ?_
                refine x_irem C (pk_rem (a := (n / 16) / 5) (d := 101) (by omega) (by omega) (by omega)) dL_act_343 (by decide) ?_
                refine x_bipush (v := 50) C dL_act_344 (by decide) ?_
                refine x_isub C (rfl) dL_act_346 ?_
                refine x_istore C [(6, .int ((nI (((n / 16) / 5) % 101)) - 50)), (5, .int (nI (((n / 16) / 3) % 100))), (4, .int (nI ((n / 16) % 3))), (3, .int (nI (n / 16))), (2, .int (nI (n % 16))), (0, .ref (aaX a)), (1, .int (nI n))] dL_act_347 (by decide) rfl ?_
                refine x_aload_n C 5 dL_act_349 rfl rfl ?_
                refine x_iload C 2 dL_act_350 rfl ?_
                refine x_iconst (v := 5) C dL_act_352 (by decide) ?_
                refine x_oRO C ([.int (nI ((n / 16) % 3)), .int 5]) ([]) (a := a) (O := O) (na := 2) gL_act_X6_rack rfl (by decide +kernel) rfl (oX6_rack (xl cx) (xG cx) a O (nI ((n / 16) % 3)) 5 (S := oN O) rfl hok) rfl rfl rfl ⟨by decide, by decide⟩ (Nat.le_of_ble_eq_true rfl) ⟨by decide, by decide⟩ dL_act_353 ?_
                refine x_top (y := sA (oN O) 10 (n / 16 % 3)) (tr_w (by omega) 5) ?_
                refine x_istore C [(7, .int (sA (oN O) 10 (n / 16 % 3))), (6, .int ((nI (((n / 16) / 5) % 101)) - 50)), (5, .int (nI (((n / 16) / 3) % 100))), (4, .int (nI ((n / 16) % 3))), (3, .int (nI (n / 16))), (2, .int (nI (n % 16))), (0, .ref (aaX a)), (1, .int (nI n))] dL_act_356 (by decide) rfl ?_
                refine x_aload_n C 6 dL_act_358 rfl rfl ?_
                refine x_iload C 3 dL_act_359 rfl ?_
                refine x_iload C 2 dL_act_361 rfl ?_
                refine x_iload C 1 dL_act_363 rfl ?_
                refine x_oMU C ([.int (nI ((n / 16) % 3)), .int (nI (((n / 16) / 3) % 100)), .int ((nI (((n / 16) / 5) % 101)) - 50)]) ([]) (a := a) (O := O) (O' := recO O q) (na := 3) gL_act_X6_setSteps rfl (by decide +kernel) rfl M (oX6_setSteps (xl cx) (xG cx) a O (nI (n / 16 % 3)) (nI (n / 16 / 3 % 100)) (nI (n / 16 / 5 % 101) - 50) hk4 hs4 eq) rfl rfl rfl ⟨by decide, by decide⟩ (Nat.le_of_ble_eq_true rfl) ⟨by decide, by decide⟩ dL_act_365 ?_
                refine x_istore C [(8, .int q.1), (7, .int (sA (oN O) 10 (n / 16 % 3))), (6, .int ((nI (((n / 16) / 5) % 101)) - 50)), (5, .int (nI (((n / 16) / 3) % 100))), (4, .int (nI ((n / 16) % 3))), (3, .int (nI (n / 16))), (2, .int (nI (n % 16))), (0, .ref (aaX a)), (1, .int (nI n))] dL_act_368 (by decide) rfl ?_
                refine x_iload C 0 dL_act_370 rfl ?_
                refine x_iload C 1 dL_act_372 rfl ?_
                refine x_icmp_ne C 431 dL_act_374 (by decide) (fun c => absurd (t1) c) (fun _ => ?_)
                refine x_aload_n C 7 dL_act_377 rfl rfl ?_
                refine x_iload C 4 dL_act_378 rfl ?_
                refine x_iconst (v := 5) C dL_act_380 (by decide) ?_
                refine x_oRO C ([.int (nI ((n / 16) % 3)), .int 5]) ([]) (a := a) (O := recO O q) (na := 2) gL_act_X6_rack rfl (by decide +kernel) rfl (oX6_rack (xl cx) (xG cx) a (recO O q) (nI ((n / 16) % 3)) 5 (S := q.2) rfl hok2) rfl rfl rfl ⟨by decide, by decide⟩ (Nat.le_of_ble_eq_true rfl) ⟨by decide, by decide⟩ dL_act_381 ?_
                refine x_top (y := sA q.2 10 (n / 16 % 3)) (tr_w (by omega) 5) ?_
                refine x_iload C 3 dL_act_384 rfl ?_
                refine x_icmp_ne C 431 dL_act_386 (by decide) (fun c => absurd (t2) c) (fun _ => ?_)
                refine x_aload_n C 7 dL_act_389 rfl rfl ?_
                refine x_iload C 4 dL_act_390 rfl ?_
                refine x_bipush (v := 6) C dL_act_392 (by decide) ?_
                refine x_oRO C ([.int (nI ((n / 16) % 3)), .int 6]) ([]) (a := a) (O := recO O q) (na := 2) gL_act_X6_rack rfl (by decide +kernel) rfl (oX6_rack (xl cx) (xG cx) a (recO O q) (nI ((n / 16) % 3)) 6 (S := q.2) rfl hok2) rfl rfl rfl ⟨by decide, by decide⟩ (Nat.le_of_ble_eq_true rfl) ⟨by decide, by decide⟩ dL_act_394 ?_
                refine x_top (y := sA q.2 11 (n / 16 % 3)) (tr_w (by omega) 6) ?_
                refine x_iload C 2 dL_act_397 rfl ?_
                refine x_icmp_ne C 431 dL_act_399 (by decide) (fun c => absurd (t3) c) (fun _ => ?_)
                refine x_aload_n C 7 dL_act_402 rfl rfl ?_
                refine x_iload C 4 dL_act_403 rfl ?_
                refine x_bipush (v := 7) C dL_act_405 (by decide) ?_
                refine x_oRO C ([.int (nI ((n / 16) % 3)), .int 7]) ([]) (a := a) (O := recO O q) (na := 2) gL_act_X6_rack rfl (by decide +kernel) rfl (oX6_rack (xl cx) (xG cx) a (recO O q) (nI ((n / 16) % 3)) 7 (S := q.2) rfl hok2) rfl rfl rfl ⟨by decide, by decide⟩ (Nat.le_of_ble_eq_true rfl) ⟨by decide, by decide⟩ dL_act_407 ?_
                refine x_top (y := hTS (sA q.2 10 (n / 16 % 3)) (sA q.2 12 (n / 16 % 3))) (tr_w (by omega) 7) ?_
                refine x_iload C 3 dL_act_410 rfl ?_
                have j_423 : ∀ v0 : Int32, v0 = (if (nI (((n / 16) / 3) % 100)) = 0 then (-1005) else nI (((n / 16) / 3) % 100)) → X cx (0, 0) (obW (xG cx) a (recO O q)) [(8, .int q.1), (7, .int (sA (oN O) 10 (n / 16 % 3))), (6, .int ((nI (((n / 16) / 5) % 101)) - 50)), (5, .int (nI (((n / 16) / 3) % 100))), (4, .int (nI ((n / 16) % 3))), (3, .int (nI (n / 16))), (2, .int (nI (n % 16))), (0, .ref (aaX a)), (1, .int (nI n))] 423 [.int v0, .int (hTS (sA q.2 10 (n / 16 % 3)) (sA q.2 12 (n / 16 % 3)))] := by
                  intro v0 hv0
                  subst hv0
                  refine x_icmp_ne C 431 dL_act_423 (by decide) (fun c => absurd (t4) c) (fun _ => ?_)
                  refine x_iload C 0 dL_act_426 rfl ?_
                  refine x_goto (tgt := 433) C dL_act_428 (by decide) ?_
                  exact x_iret C E dL_act_433 (rfl) rfl
                refine x_if_ne C 421 dL_act_412 (by decide) (fun c_412 => ?_) (fun c_412 => ?_)
                ·
                  refine x_iload C 3 dL_act_421 rfl ?_
                  exact j_423 _ ((if_neg c_412).symm)
                ·
                  refine x_sipush (v := (-1005)) C dL_act_415 (by decide) ?_
                  refine x_goto (tgt := 423) C dL_act_418 (by decide) ?_
                  exact j_423 _ ((if_pos c_412).symm)
            ·
              have c6 : n % 16 = 13 := nI_i (b := 13) (by omega) (by omega) c_230
              obtain ⟨q, eq⟩ : ∃ q, chVolts (oN O) (nI (n / 16 % 3)) (vtV (n / 16)) = q := ⟨_, rfl⟩
              have em : actQ (oN O) n = q := (if_neg c1).trans ((if_neg c2).trans ((if_neg c3).trans ((if_neg c4).trans ((if_neg c5).trans ((if_pos c6).trans eq)))))
              rw [em] at E
              obtain ⟨t1, t2, ti, -⟩ := vt_1 hI (r := n / 16 % 3) (by omega) (vtV_rng (n / 16)) eq
              have hok2 : okS q.2 := ti.okS
              refine x_iload_n C 0 dL_act_233 rfl rfl ?_
              refine x_iconst (v := 3) C dL_act_234 (by decide) ?_
              refine x_irem C (pk_rem (a := n / 16) (d := 3) (by omega) (by omega) (by omega)) dL_act_235 (by decide) ?_
              refine x_istore C [(4, .int (nI ((n / 16) % 3))), (3, .int (nI (n / 16))), (2, .int (nI (n % 16))), (0, .ref (aaX a)), (1, .int (nI n))] dL_act_236 (by decide) rfl ?_
              refine x_iload_n C 1 dL_act_238 rfl rfl ?_
              refine x_iconst (v := 3) C dL_act_239 (by decide) ?_
              refine x_idiv C (pk_div (a := n / 16) (d := 3) (by omega) (by omega) (by omega)) dL_act_240 (by decide) ?_
              refine x_iconst (v := 5) C dL_act_241 (by decide) ?_
              refine x_irem C (pk_rem (a := (n / 16) / 3) (d := 5) (by omega) (by omega) (by omega)) dL_act_242 (by decide) ?_
              have j_258 : ∀ v0 : Int32, v0 = (if (nI (((n / 16) / 3) % 5)) = 0 then 0 else nI (((n / 16) / 15) % 301)) → X cx (0, 0) (obW (xG cx) a O) [(4, .int (nI ((n / 16) % 3))), (3, .int (nI (n / 16))), (2, .int (nI (n % 16))), (0, .ref (aaX a)), (1, .int (nI n))] 258 [.int v0] := by
                intro v0 hv0
                subst hv0
                refine x_top (y := vtV (n / 16)) (rfl) ?_
                refine x_istore C [(5, .int (vtV (n / 16))), (4, .int (nI ((n / 16) % 3))), (3, .int (nI (n / 16))), (2, .int (nI (n % 16))), (0, .ref (aaX a)), (1, .int (nI n))] dL_act_258 (by decide) rfl ?_
                refine x_aload_n C 4 dL_act_260 rfl rfl ?_
                refine x_iload C 1 dL_act_261 rfl ?_
                refine x_iconst (v := 0) C dL_act_263 (by decide) ?_
                refine x_oRO C ([.int (nI ((n / 16) % 3)), .int 0]) ([]) (a := a) (O := O) (na := 2) gL_act_X6_rack rfl (by decide +kernel) rfl (oX6_rack (xl cx) (xG cx) a O (nI ((n / 16) % 3)) 0 (S := oN O) rfl hok) rfl rfl rfl ⟨by decide, by decide⟩ (Nat.le_of_ble_eq_true rfl) ⟨by decide, by decide⟩ dL_act_264 ?_
                refine x_top (y := sA (oN O) 9 (n / 16 % 3)) (tr_w (by omega) 0) ?_
                refine x_istore C [(6, .int (sA (oN O) 9 (n / 16 % 3))), (5, .int (vtV (n / 16))), (4, .int (nI ((n / 16) % 3))), (3, .int (nI (n / 16))), (2, .int (nI (n % 16))), (0, .ref (aaX a)), (1, .int (nI n))] dL_act_267 (by decide) rfl ?_
                refine x_aload_n C 5 dL_act_269 rfl rfl ?_
                refine x_iload C 2 dL_act_270 rfl ?_
                refine x_iload C 1 dL_act_272 rfl ?_
                refine x_oMU C ([.int (nI ((n / 16) % 3)), .int (vtV (n / 16))]) ([]) (a := a) (O := O) (O' := recO O q) (na := 2) gL_act_X6_setVolts rfl (by decide +kernel) rfl M (oX6_setVolts (xl cx) (xG cx) a O (nI (n / 16 % 3)) (vtV (n / 16)) hk4 hs4 eq) rfl rfl rfl ⟨by decide, by decide⟩ (Nat.le_of_ble_eq_true rfl) ⟨by decide, by decide⟩ dL_act_274 ?_
                refine x_istore C [(7, .int q.1), (6, .int (sA (oN O) 9 (n / 16 % 3))), (5, .int (vtV (n / 16))), (4, .int (nI ((n / 16) % 3))), (3, .int (nI (n / 16))), (2, .int (nI (n % 16))), (0, .ref (aaX a)), (1, .int (nI n))] dL_act_277 (by decide) rfl ?_
                refine x_iload C 0 dL_act_279 rfl ?_
                refine x_iload C 1 dL_act_281 rfl ?_
                refine x_iload C 2 dL_act_283 rfl ?_
                have j_296 : ∀ v0 : Int32, v0 = (if (sA (oN O) 9 (n / 16 % 3)) = (vtV (n / 16)) then (-1005) else sA (oN O) 9 (n / 16 % 3)) → X cx (0, 0) (obW (xG cx) a (recO O q)) [(7, .int q.1), (6, .int (sA (oN O) 9 (n / 16 % 3))), (5, .int (vtV (n / 16))), (4, .int (nI ((n / 16) % 3))), (3, .int (nI (n / 16))), (2, .int (nI (n % 16))), (0, .ref (aaX a)), (1, .int (nI n))] 296 [.int v0, .int q.1] := by
                  intro v0 hv0
                  subst hv0
                  refine x_icmp_ne C 316 dL_act_296 (by decide) (fun c => absurd (t1) c) (fun _ => ?_)
                  refine x_aload_n C 6 dL_act_299 rfl rfl ?_
                  refine x_iload C 3 dL_act_300 rfl ?_
                  refine x_iconst (v := 0) C dL_act_302 (by decide) ?_
                  refine x_oRO C ([.int (nI ((n / 16) % 3)), .int 0]) ([]) (a := a) (O := recO O q) (na := 2) gL_act_X6_rack rfl (by decide +kernel) rfl (oX6_rack (xl cx) (xG cx) a (recO O q) (nI ((n / 16) % 3)) 0 (S := q.2) rfl hok2) rfl rfl rfl ⟨by decide, by decide⟩ (Nat.le_of_ble_eq_true rfl) ⟨by decide, by decide⟩ dL_act_303 ?_
                  refine x_top (y := sA q.2 9 (n / 16 % 3)) (tr_w (by omega) 0) ?_
                  refine x_iload C 2 dL_act_306 rfl ?_
                  refine x_icmp_ne C 316 dL_act_308 (by decide) (fun c => absurd (t2) c) (fun _ => ?_)
                  refine x_iload C 0 dL_act_311 rfl ?_
                  refine x_goto (tgt := 318) C dL_act_313 (by decide) ?_
                  exact x_iret C E dL_act_318 (rfl) rfl
                refine x_icmp_ne C 294 dL_act_285 (by decide) (fun c_285 => ?_) (fun c_285 => ?_)
                ·
                  refine x_iload C 1 dL_act_294 rfl ?_
                  exact j_296 _ ((if_neg c_285).symm)
                ·
                  refine x_sipush (v := (-1005)) C dL_act_288 (by decide) ?_
                  refine x_goto (tgt := 296) C dL_act_291 (by decide) ?_
                  exact j_296 _ ((if_pos c_285).symm)
              refine x_if_ne C 250 dL_act_243 (by decide) (fun c_243 => ?_) (fun c_243 => ?_)
              ·
                refine x_iload_n C 1 dL_act_250 rfl rfl ?_
                refine x_bipush (v := 15) C dL_act_251 (by decide) ?_
                refine x_idiv C (pk_div (a := n / 16) (d := 15) (by omega) (by omega) (by omega)) dL_act_253 (by decide) ?_
                refine x_sipush (v := 301) C dL_act_254 (by decide) ?_
                refine x_irem C (pk_rem (a := (n / 16) / 15) (d := 301) (by omega) (by omega) (by omega)) dL_act_257 (by decide) ?_
                exact j_258 _ ((if_neg c_243).symm)
              ·
                refine x_iconst (v := 0) C dL_act_246 (by decide) ?_
                refine x_goto (tgt := 258) C dL_act_247 (by decide) ?_
                exact j_258 _ ((if_pos c_243).symm)
          ·
            have c5 : n % 16 = 12 := nI_i (b := 12) (by omega) (by omega) c_99
            obtain ⟨q, eq⟩ : ∃ q, chBatch (oN O) (nI (n / 16 % 6)) (nI (10 + n / 16 / 6 % 200)) (nI (n / 16 / 7 % 91)) = q := ⟨_, rfl⟩
            have em : actQ (oN O) n = q := (if_neg c1).trans ((if_neg c2).trans ((if_neg c3).trans ((if_neg c4).trans ((if_pos c5).trans eq))))
            rw [em] at E
            obtain ⟨t1, t2, t3, ti, -⟩ := bt_1 hI (b := n / 16 % 6) (x := 10 + n / 16 / 6 % 200) (y := n / 16 / 7 % 91) (by omega) (by omega) (by omega) eq
            have hok2 : okS q.2 := ti.okS
            refine x_iload_n C 0 dL_act_102 rfl rfl ?_
            refine x_bipush (v := 6) C dL_act_103 (by decide) ?_
            refine x_irem C (pk_rem (a := n / 16) (d := 6) (by omega) (by omega) (by omega)) dL_act_105 (by decide) ?_
            refine x_istore C [(4, .int (nI ((n / 16) % 6))), (3, .int (nI (n / 16))), (2, .int (nI (n % 16))), (0, .ref (aaX a)), (1, .int (nI n))] dL_act_106 (by decide) rfl ?_
            refine x_bipush (v := 10) C dL_act_108 (by decide) ?_
            refine x_iload_n C 1 dL_act_110 rfl rfl ?_
            refine x_bipush (v := 6) C dL_act_111 (by decide) ?_
            refine x_idiv C (pk_div (a := n / 16) (d := 6) (by omega) (by omega) (by omega)) dL_act_113 (by decide) ?_
            refine x_sipush (v := 200) C dL_act_114 (by decide) ?_
            refine x_irem C (pk_rem (a := (n / 16) / 6) (d := 200) (by omega) (by omega) (by omega)) dL_act_117 (by decide) ?_
            refine x_iadd C (nI_add 10 (((n / 16) / 6) % 200)) dL_act_118 ?_
            refine x_istore C [(5, .int (nI (10 + (((n / 16) / 6) % 200)))), (4, .int (nI ((n / 16) % 6))), (3, .int (nI (n / 16))), (2, .int (nI (n % 16))), (0, .ref (aaX a)), (1, .int (nI n))] dL_act_119 (by decide) rfl ?_
            refine x_iload_n C 2 dL_act_121 rfl rfl ?_
            refine x_bipush (v := 7) C dL_act_122 (by decide) ?_
            refine x_idiv C (pk_div (a := n / 16) (d := 7) (by omega) (by omega) (by omega)) dL_act_124 (by decide) ?_
            refine x_bipush (v := 91) C dL_act_125 (by decide) ?_
            refine x_irem C (pk_rem (a := (n / 16) / 7) (d := 91) (by omega) (by omega) (by omega)) dL_act_127 (by decide) ?_
            refine x_istore C [(6, .int (nI (((n / 16) / 7) % 91))), (5, .int (nI (10 + (((n / 16) / 6) % 200)))), (4, .int (nI ((n / 16) % 6))), (3, .int (nI (n / 16))), (2, .int (nI (n % 16))), (0, .ref (aaX a)), (1, .int (nI n))] dL_act_128 (by decide) rfl ?_
            refine x_aload_n C 5 dL_act_130 rfl rfl ?_
            refine x_iload C 2 dL_act_131 rfl ?_
            refine x_iconst (v := 0) C dL_act_133 (by decide) ?_
            refine x_oRO C ([.int (nI ((n / 16) % 6)), .int 0]) ([]) (a := a) (O := O) (na := 2) gL_act_X6_batch rfl (by decide +kernel) rfl (oX6_batch (xl cx) (xG cx) a O (nI ((n / 16) % 6)) 0 (S := oN O) rfl hok) rfl rfl rfl ⟨by decide, by decide⟩ (Nat.le_of_ble_eq_true rfl) ⟨by decide, by decide⟩ dL_act_134 ?_
            refine x_top (y := sA (oN O) 0 (n / 16 % 6)) (tb_w (by omega) 0) ?_
            refine x_istore C [(7, .int (sA (oN O) 0 (n / 16 % 6))), (6, .int (nI (((n / 16) / 7) % 91))), (5, .int (nI (10 + (((n / 16) / 6) % 200)))), (4, .int (nI ((n / 16) % 6))), (3, .int (nI (n / 16))), (2, .int (nI (n % 16))), (0, .ref (aaX a)), (1, .int (nI n))] dL_act_137 (by decide) rfl ?_
            refine x_iload C 0 dL_act_139 rfl ?_
            refine x_iload C 2 dL_act_141 rfl ?_
            have j_163 : ∀ v0 : Int32, v0 = (b2i (sA (oN O) 0 (n / 16 % 6) = nI (10 + n / 16 / 6 % 200) ∧ sA (oN O) 1 (n / 16 % 6) = nI (n / 16 / 7 % 91))) → X cx (0, 0) (obW (xG cx) a O) [(7, .int (sA (oN O) 0 (n / 16 % 6))), (6, .int (nI (((n / 16) / 7) % 91))), (5, .int (nI (10 + (((n / 16) / 6) % 200)))), (4, .int (nI ((n / 16) % 6))), (3, .int (nI (n / 16))), (2, .int (nI (n % 16))), (0, .ref (aaX a)), (1, .int (nI n))] 163 [.int v0] := by
              intro v0 hv0
              subst hv0
              refine x_istore C [(8, .int (b2i (sA (oN O) 0 (n / 16 % 6) = nI (10 + n / 16 / 6 % 200) ∧ sA (oN O) 1 (n / 16 % 6) = nI (n / 16 / 7 % 91)))), (7, .int (sA (oN O) 0 (n / 16 % 6))), (6, .int (nI (((n / 16) / 7) % 91))), (5, .int (nI (10 + (((n / 16) / 6) % 200)))), (4, .int (nI ((n / 16) % 6))), (3, .int (nI (n / 16))), (2, .int (nI (n % 16))), (0, .ref (aaX a)), (1, .int (nI n))] dL_act_163 (by decide) rfl ?_
              refine x_aload_n C 7 dL_act_165 rfl rfl ?_
              refine x_iload C 4 dL_act_166 rfl ?_
              refine x_iload C 3 dL_act_168 rfl ?_
              refine x_iload C 2 dL_act_170 rfl ?_
              refine x_oMU C ([.int (nI ((n / 16) % 6)), .int (nI (10 + (((n / 16) / 6) % 200))), .int (nI (((n / 16) / 7) % 91))]) ([]) (a := a) (O := O) (O' := recO O q) (na := 3) gL_act_X6_setBatch rfl (by decide +kernel) rfl M (oX6_setBatch (xl cx) (xG cx) a O (nI (n / 16 % 6)) (nI (10 + n / 16 / 6 % 200)) (nI (n / 16 / 7 % 91)) hk4 hs4 eq) rfl rfl rfl ⟨by decide, by decide⟩ (Nat.le_of_ble_eq_true rfl) ⟨by decide, by decide⟩ dL_act_172 ?_
              refine x_istore C [(9, .int q.1), (8, .int (b2i (sA (oN O) 0 (n / 16 % 6) = nI (10 + n / 16 / 6 % 200) ∧ sA (oN O) 1 (n / 16 % 6) = nI (n / 16 / 7 % 91)))), (7, .int (sA (oN O) 0 (n / 16 % 6))), (6, .int (nI (((n / 16) / 7) % 91))), (5, .int (nI (10 + (((n / 16) / 6) % 200)))), (4, .int (nI ((n / 16) % 6))), (3, .int (nI (n / 16))), (2, .int (nI (n % 16))), (0, .ref (aaX a)), (1, .int (nI n))] dL_act_175 (by decide) rfl ?_
              refine x_iload C 0 dL_act_177 rfl ?_
              refine x_iload C 1 dL_act_179 rfl ?_
              have j_192 : ∀ v0 : Int32, v0 = (if sA (oN O) 0 (n / 16 % 6) = nI (10 + n / 16 / 6 % 200) ∧ sA (oN O) 1 (n / 16 % 6) = nI (n / 16 / 7 % 91) then (-1005) else sA (oN O) 0 (n / 16 % 6)) → X cx (0, 0) (obW (xG cx) a (recO O q)) [(9, .int q.1), (8, .int (b2i (sA (oN O) 0 (n / 16 % 6) = nI (10 + n / 16 / 6 % 200) ∧ sA (oN O) 1 (n / 16 % 6) = nI (n / 16 / 7 % 91)))), (7, .int (sA (oN O) 0 (n / 16 % 6))), (6, .int (nI (((n / 16) / 7) % 91))), (5, .int (nI (10 + (((n / 16) / 6) % 200)))), (4, .int (nI ((n / 16) % 6))), (3, .int (nI (n / 16))), (2, .int (nI (n % 16))), (0, .ref (aaX a)), (1, .int (nI n))] 192 [.int v0, .int q.1] := by
                intro v0 hv0
                subst hv0
                refine x_icmp_ne C 224 dL_act_192 (by decide) (fun c => absurd (t1) c) (fun _ => ?_)
                refine x_aload_n C 8 dL_act_195 rfl rfl ?_
                refine x_iload C 5 dL_act_196 rfl ?_
                refine x_iconst (v := 0) C dL_act_198 (by decide) ?_
                refine x_oRO C ([.int (nI ((n / 16) % 6)), .int 0]) ([]) (a := a) (O := recO O q) (na := 2) gL_act_X6_batch rfl (by decide +kernel) rfl (oX6_batch (xl cx) (xG cx) a (recO O q) (nI ((n / 16) % 6)) 0 (S := q.2) rfl hok2) rfl rfl rfl ⟨by decide, by decide⟩ (Nat.le_of_ble_eq_true rfl) ⟨by decide, by decide⟩ dL_act_199 ?_
                refine x_top (y := sA q.2 0 (n / 16 % 6)) (tb_w (by omega) 0) ?_
                refine x_iload C 4 dL_act_202 rfl ?_
                refine x_icmp_ne C 224 dL_act_204 (by decide) (fun c => absurd (t2) c) (fun _ => ?_)
                refine x_aload_n C 8 dL_act_207 rfl rfl ?_
                refine x_iload C 5 dL_act_208 rfl ?_
                refine x_iconst (v := 1) C dL_act_210 (by decide) ?_
                refine x_oRO C ([.int (nI ((n / 16) % 6)), .int 1]) ([]) (a := a) (O := recO O q) (na := 2) gL_act_X6_batch rfl (by decide +kernel) rfl (oX6_batch (xl cx) (xG cx) a (recO O q) (nI ((n / 16) % 6)) 1 (S := q.2) rfl hok2) rfl rfl rfl ⟨by decide, by decide⟩ (Nat.le_of_ble_eq_true rfl) ⟨by decide, by decide⟩ dL_act_211 ?_
                refine x_top (y := sA q.2 1 (n / 16 % 6)) (tb_w (by omega) 1) ?_
                refine x_iload C 3 dL_act_214 rfl ?_
                refine x_icmp_ne C 224 dL_act_216 (by decide) (fun c => absurd (t3) c) (fun _ => ?_)
                refine x_iload C 0 dL_act_219 rfl ?_
                refine x_goto (tgt := 226) C dL_act_221 (by decide) ?_
                exact x_iret C E dL_act_226 (rfl) rfl
              refine x_ifb_eq (P := sA (oN O) 0 (n / 16 % 6) = nI (10 + n / 16 / 6 % 200) ∧ sA (oN O) 1 (n / 16 % 6) = nI (n / 16 / 7 % 91)) C 190 dL_act_181 (by decide) (fun c_181 => ?_) (fun c_181 => ?_)
              ·
                refine x_iload C 2 dL_act_190 rfl ?_
                exact j_192 _ ((if_neg c_181).symm)
              ·
                refine x_sipush (v := (-1005)) C dL_act_184 (by decide) ?_
                refine x_goto (tgt := 192) C dL_act_187 (by decide) ?_
                exact j_192 _ ((if_pos c_181).symm)
            refine x_icmp_ne C 162 dL_act_143 (by decide) (fun c_143 => ?_) (fun c_143 => ?_)
            ·
              refine x_iconst (v := 0) C dL_act_162 (by decide) ?_
              exact j_163 _ ((b2i_f (fun z => c_143 z.1)).symm)
            ·
              refine x_aload_n C 6 dL_act_146 rfl rfl ?_
              refine x_iload C 3 dL_act_147 rfl ?_
              refine x_iconst (v := 1) C dL_act_149 (by decide) ?_
              refine x_oRO C ([.int (nI ((n / 16) % 6)), .int 1]) ([]) (a := a) (O := O) (na := 2) gL_act_X6_batch rfl (by decide +kernel) rfl (oX6_batch (xl cx) (xG cx) a O (nI ((n / 16) % 6)) 1 (S := oN O) rfl hok) rfl rfl rfl ⟨by decide, by decide⟩ (Nat.le_of_ble_eq_true rfl) ⟨by decide, by decide⟩ dL_act_150 ?_
              refine x_top (y := sA (oN O) 1 (n / 16 % 6)) (tb_w (by omega) 1) ?_
              refine x_iload C 1 dL_act_153 rfl ?_
              refine x_icmp_ne C 162 dL_act_155 (by decide) (fun c_155 => ?_) (fun c_155 => ?_)
              ·
                refine x_iconst (v := 0) C dL_act_162 (by decide) ?_
                exact j_163 _ ((b2i_f (fun z => c_155 z.2)).symm)
              ·
                refine x_iconst (v := 1) C dL_act_158 (by decide) ?_
                refine x_goto (tgt := 163) C dL_act_159 (by decide) ?_
                exact j_163 _ ((b2i_t ⟨c_143, c_155⟩).symm)
        ·
          have c4 : n % 16 < 12 := (nI_ltI (a := n % 16) (b := 12) (by omega) (by omega)).mp (Int32.not_le.mp c_47)
          obtain ⟨q, eq⟩ : ∃ q, lpS (oN O) (nI (1 + n / 16 % 300)) = q := ⟨_, rfl⟩
          have em : actQ (oN O) n = q := (if_neg c1).trans ((if_neg c2).trans ((if_neg c3).trans ((if_pos c4).trans eq)))
          rw [em] at E
          obtain ⟨t1, t2, ti⟩ := ps_1 hI hH (m := n / 16 % 300) (by omega) eq
          have hok2 : okS q.2 := ti.okS
          refine x_aload_n C 2 dL_act_50 rfl rfl ?_
          refine x_iconst (v := 4) C dL_act_51 (by decide) ?_
          refine x_oRO C ([.int 4]) ([]) (a := a) (O := O) (na := 1) gL_act_X6_count rfl (by decide +kernel) rfl (oX6_count (xl cx) (xG cx) a O 4 (S := oN O) rfl hok) rfl rfl rfl ⟨by decide, by decide⟩ (Nat.le_of_ble_eq_true rfl) ⟨by decide, by decide⟩ dL_act_52 ?_
          refine x_istore C [(4, .int (cntT (oN O) (oS O) (oL O) 4)), (3, .int (nI (n / 16))), (2, .int (nI (n % 16))), (0, .ref (aaX a)), (1, .int (nI n))] dL_act_55 (by decide) rfl ?_
          refine x_aload_n C 3 dL_act_57 rfl rfl ?_
          refine x_iconst (v := 1) C dL_act_58 (by decide) ?_
          refine x_iload_n C 1 dL_act_59 rfl rfl ?_
          refine x_sipush (v := 300) C dL_act_60 (by decide) ?_
          refine x_irem C (pk_rem (a := n / 16) (d := 300) (by omega) (by omega) (by omega)) dL_act_63 (by decide) ?_
          refine x_iadd C (nI_add 1 ((n / 16) % 300)) dL_act_64 ?_
          refine x_oMU C ([.int (nI (1 + ((n / 16) % 300)))]) ([]) (a := a) (O := O) (O' := recO O q) (na := 1) gL_act_X6_pass rfl (by decide +kernel) rfl M (oX6_pass (xl cx) (xG cx) a O (nI (1 + n / 16 % 300)) hk4 hs4 hok eq) rfl rfl rfl ⟨by decide, by decide⟩ (Nat.le_of_ble_eq_true rfl) ⟨by decide, by decide⟩ dL_act_65 ?_
          refine x_istore C [(5, .int q.1), (4, .int (cntT (oN O) (oS O) (oL O) 4)), (3, .int (nI (n / 16))), (2, .int (nI (n % 16))), (0, .ref (aaX a)), (1, .int (nI n))] dL_act_68 (by decide) rfl ?_
          refine x_iload C 0 dL_act_70 rfl ?_
          refine x_if_lt C 93 dL_act_72 (by decide) (fun c => absurd c (t1)) (fun _ => ?_)
          refine x_aload_n C 4 dL_act_75 rfl rfl ?_
          refine x_iconst (v := 4) C dL_act_76 (by decide) ?_
          refine x_oRO C ([.int 4]) ([]) (a := a) (O := recO O q) (na := 1) gL_act_X6_count rfl (by decide +kernel) rfl (oX6_count (xl cx) (xG cx) a (recO O q) 4 (S := q.2) rfl hok2) rfl rfl rfl ⟨by decide, by decide⟩ (Nat.le_of_ble_eq_true rfl) ⟨by decide, by decide⟩ dL_act_77 ?_
          refine x_iload C 1 dL_act_80 rfl ?_
          refine x_iload C 0 dL_act_82 rfl ?_
          refine x_iadd C (rfl) dL_act_84 ?_
          refine x_icmp_ne C 93 dL_act_85 (by decide) (fun c => absurd (t2) c) (fun _ => ?_)
          refine x_iload C 0 dL_act_88 rfl ?_
          refine x_goto (tgt := 95) C dL_act_90 (by decide) ?_
          exact x_iret C E dL_act_95 (rfl) rfl
      ·
        have c3 : n % 16 < 10 := (nI_ltI (a := n % 16) (b := 10) (by omega) (by omega)).mp (Int32.not_le.mp c_36)
        obtain ⟨q, eq⟩ : ∃ q, lpS (oN O) 1 = q := ⟨_, rfl⟩
        have em : actQ (oN O) n = q := (if_neg c1).trans ((if_neg c2).trans ((if_pos c3).trans eq))
        rw [em] at E
        refine x_aload_n C 2 dL_act_39 rfl rfl ?_
        refine x_sMU C ([.ref (aaX a)]) ([]) (a := a) (O := O) (O' := recO O q) (na := 1) gL_act_L_hour rfl (by decide +kernel) rfl M (by have h0 := kL_hour (xl cx) (xG cx) a O hI hH hk4 hs4; rw [eq] at h0; exact h0) rfl rfl rfl ⟨by decide, by decide⟩ (Nat.le_of_ble_eq_true rfl) ⟨by decide, by decide⟩ dL_act_40 ?_
        exact x_iret C E dL_act_43 (rfl) rfl
    ·
      have c2 : n % 16 < 7 := (nI_ltI (a := n % 16) (b := 7) (by omega) (by omega)).mp (Int32.not_le.mp c_24)
      obtain ⟨q, eq⟩ : ∃ q, mvQ (oN O) (n / 16) = q := ⟨_, rfl⟩
      have em : actQ (oN O) n = q := (if_neg c1).trans ((if_pos c2).trans eq)
      rw [em] at E
      refine x_aload_n C 2 dL_act_27 rfl rfl ?_
      refine x_iload_n C 0 dL_act_28 rfl rfl ?_
      refine x_sMU C ([.ref (aaX a), .int (nI (n / 16))]) ([]) (a := a) (O := O) (O' := recO O q) (na := 2) gL_act_L_move rfl (by decide +kernel) rfl M (by have h0 := kL_move (xl cx) (xG cx) a O (n / 16) (by omega) hI hk4 hs4; rw [eq] at h0; exact h0) rfl rfl rfl ⟨by decide, by decide⟩ (Nat.le_of_ble_eq_true rfl) ⟨by decide, by decide⟩ dL_act_29 ?_
      exact x_iret C E dL_act_32 (rfl) rfl
  ·
    have c1 : n % 16 < 5 := (nI_ltI (a := n % 16) (b := 5) (by omega) (by omega)).mp (Int32.not_le.mp c_12)
    obtain ⟨q, eq⟩ : ∃ q, putQ (oN O) (n / 16) = q := ⟨_, rfl⟩
    have em : actQ (oN O) n = q := (if_pos c1).trans eq
    rw [em] at E
    refine x_aload_n C 2 dL_act_15 rfl rfl ?_
    refine x_iload_n C 0 dL_act_16 rfl rfl ?_
    refine x_sMU C ([.ref (aaX a), .int (nI (n / 16))]) ([]) (a := a) (O := O) (O' := recO O q) (na := 2) gL_act_L_put rfl (by decide +kernel) rfl M (by have h0 := kL_put (xl cx) (xG cx) a O (n / 16) (by omega) hI hk4 hs4; rw [eq] at h0; exact h0) rfl rfl rfl ⟨by decide, by decide⟩ (Nat.le_of_ble_eq_true rfl) ⟨by decide, by decide⟩ dL_act_17 ?_
    exact x_iret C E dL_act_20 (rfl) rfl
