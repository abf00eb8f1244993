set_option maxRecDepth 100000 in
set_option maxHeartbeats 4000000 in
theorem law_277 {cx : CX} {b L : Nat} {xs : Nat → Int32} (C : XC cx cL_law wsL_law RL room_1 16) (M : XM cx) (S : XS cx b L xs) (Z : XZ cx) (hL : L ≤ 260) (a : AT) (i : Nat) (hi : i < 70) (n : Nat) (hn : n < 2147483648) (N0 : SC) (s : Nat) (hs : s ≤ 4) (t : Int32) (O : OS) (v : Int64) (w : Nat) (hO : OI ((300 * (i + 1) : Nat) : Int) O) (hz : ¬ oh O = 0) (hv : v = seV (oM O)) (hw : w = sN (oM O)) (hu : ¬ t < 0 → unR (oS O) = (if 4 ≤ nI s then 3 else nI s) ∧ oN (undO O) = N0) (K : ∀ (O : OS) (v : Int64) (w : Nat), OI ((300 * (i + 1) : Nat) : Int) O → ¬ oh O = 0 → v = seV (oM O) → w = sN (oM O) → X cx (141, 3509) (obW (xG cx) a O) [(0, .ref b), (1, .ref (aaX a)), (2, .int 1), (3, .long v), (5, .int (nI w)), (6, .int (nI (i + 1)))] 148 []) : X cx (141, 3509) (obW (xG cx) a O) [(0, .ref b), (1, .ref (aaX a)), (2, .int 1), (3, .long v), (5, .int (nI w)), (6, .int (nI i)), (7, .int (nI n)), (8, .long (seV N0)), (10, .int (nI s)), (11, .int t)] 277 [] := by
  have hok : okS (oN O) := hO.1.okS
  refine x_iconst (v := 1) C dL_law_277 (by decide) ?_
  refine x_goto (tgt := 282) C dL_law_278 (by decide) ?_
  refine x_istore_n C [(2, .int 1), (0, .ref b), (1, .ref (aaX a)), (3, .long v), (5, .int (nI w)), (6, .int (nI i)), (7, .int (nI n)), (8, .long (seV N0)), (10, .int (nI s)), (11, .int t)] dL_law_282 rfl (by decide) rfl ?_
  refine x_iload_n C 0 dL_law_283 rfl rfl ?_
  refine x_if_eq C 337 dL_law_284 (by decide) (fun h => absurd h (by decide)) (fun _ => ?_)
  refine x_iload C 9 dL_law_287 rfl ?_
  refine x_if_lt C 337 dL_law_289 (by decide) (fun c_289 => ?_) (fun c_289 => ?_)
  ·
    refine x_lv [(0, .ref b), (1, .ref (aaX a)), (2, .int 1), (3, .long v), (5, .int (nI w)), (6, .int (nI i))] [1, 2, 0, 3, 4, 5] rfl ?_
    exact law_337 C M S Z hL a i hi O v w hO hz hv hw K
  ·
    refine x_iload C 6 dL_law_292 rfl ?_
    refine x_bipush (v := 17) C dL_law_294 (by decide) ?_
    refine x_idiv C (pk_div (a := n) (d := 17) (by omega) (by omega) (by omega)) dL_law_296 (by decide) ?_
    refine x_iconst (v := 4) C dL_law_297 (by decide) ?_
    refine x_irem C (pk_rem (a := n / 17) (d := 4) (by omega) (by omega) (by omega)) dL_law_298 (by decide) ?_
    refine x_if_ne C 337 dL_law_299 (by decide) (fun c_299 => ?_) (fun c_299 => ?_)
    ·
      refine x_lv [(0, .ref b), (1, .ref (aaX a)), (2, .int 1), (3, .long v), (5, .int (nI w)), (6, .int (nI i))] [1, 2, 0, 3, 4, 5] rfl ?_
      exact law_337 C M S Z hL a i hi O v w hO hz hv hw K
    ·
      have hok2 : okS (oN (undO O)) := hO.und.1.okS
      refine x_aload_n C 2 dL_law_302 rfl rfl ?_
      refine x_oMU C ([]) ([]) (a := a) (O := O) (O' := undO O) (na := 0) gL_law_X6_undo rfl (by decide +kernel) rfl M (oX6_undo (xl cx) (xG cx) a O hO.2.1 hO.2.2.1) rfl rfl rfl ⟨by decide, by decide⟩ (Nat.le_of_ble_eq_true rfl) ⟨by decide, by decide⟩ dL_law_303 ?_
      refine x_iload C 8 dL_law_306 rfl ?_
      refine x_iconst (v := 4) C dL_law_308 (by decide) ?_
      have j_318 : ∀ v0 : Int32, v0 = (if 4 ≤ (nI s) then 3 else nI s) → X cx (141, 3509) (obW (xG cx) a (undO O)) [(2, .int 1), (0, .ref b), (1, .ref (aaX a)), (3, .long v), (5, .int (nI w)), (6, .int (nI i)), (7, .int (nI n)), (8, .long (seV N0)), (10, .int (nI s)), (11, .int t)] 318 [.int v0, .int (unR (oS O))] := by
        intro v0 hv0
        subst hv0
        refine x_icmp_ne C 335 dL_law_318 (by decide) (fun c => absurd ((hu c_289).1) c) (fun _ => ?_)
        refine x_aload_n C 2 dL_law_321 rfl rfl ?_
        refine x_sRO C ([.ref (aaX a)]) ([]) (a := a) (O := undO O) (na := 1) gL_law_L_seen rfl (by decide +kernel) rfl (kL_seen (xl cx) (xG cx) a (undO O) hok2) rfl rfl rfl ⟨by decide, by decide⟩ (Nat.le_of_ble_eq_true rfl) ⟨by decide, by decide⟩ dL_law_322 ?_
        refine x_lload C 7 dL_law_325 rfl ?_
        refine x_lcmp C (by rw [(hu c_289).2]) dL_law_327 ?_
        refine x_if_ne C 335 dL_law_328 (by decide) (fun h => absurd h (by decide)) (fun _ => ?_)
        refine x_iconst (v := 1) C dL_law_331 (by decide) ?_
        refine x_goto (tgt := 336) C dL_law_332 (by decide) ?_
        refine x_istore_n C [(2, .int 1), (0, .ref b), (1, .ref (aaX a)), (3, .long v), (5, .int (nI w)), (6, .int (nI i)), (7, .int (nI n)), (8, .long (seV N0)), (10, .int (nI s)), (11, .int t)] dL_law_336 rfl (by decide) rfl ?_
        refine x_lv [(0, .ref b), (1, .ref (aaX a)), (2, .int 1), (3, .long v), (5, .int (nI w)), (6, .int (nI i))] [1, 2, 0, 3, 4, 5] rfl ?_
        exact law_337 C M S Z hL a i hi (undO O) v w hO.und hz hv hw K
      refine x_icmp_ge C 317 dL_law_309 (by decide) (fun c_309 => ?_) (fun c_309 => ?_)
      ·
        refine x_iconst (v := 3) C dL_law_317 (by decide) ?_
        exact j_318 _ ((if_pos c_309).symm)
      ·
        refine x_iload C 8 dL_law_312 rfl ?_
        refine x_goto (tgt := 318) C dL_law_314 (by decide) ?_
        exact j_318 _ ((if_neg c_309).symm)
set_option maxRecDepth 100000 in
set_option maxHeartbeats 4000000 in
theorem law_248 {cx : CX} {b L : Nat} {xs : Nat → Int32} (C : XC cx cL_law wsL_law RL room_1 16) (M : XM cx) (S : XS cx b L xs) (Z : XZ cx) (hL : L ≤ 260) (a : AT) (i : Nat) (hi : i < 70) (n : Nat) (hn : n < 2147483648) (O : OS) (q : Int32 × SC) (v : Int64) (w : Nat) (hO : OI ((300 * i : Nat) : Int) O) (hq : Iv ((300 * (i + 1) : Nat) : Int) q.2 ∧ (q.1 < 0 → q.2 = oN O)) (hz : ¬ oh O = 0) (hv : v = seV (oM O)) (hw : w = sN (oM O)) (K : ∀ (O : OS) (v : Int64) (w : Nat), OI ((300 * (i + 1) : Nat) : Int) O → ¬ oh O = 0 → v = seV (oM O) → w = sN (oM O) → X cx (141, 3509) (obW (xG cx) a O) [(0, .ref b), (1, .ref (aaX a)), (2, .int 1), (3, .long v), (5, .int (nI w)), (6, .int (nI (i + 1)))] 148 []) : X cx (141, 3509) (obW (xG cx) a (recO O q)) [(0, .ref b), (1, .ref (aaX a)), (2, .int 1), (3, .long v), (5, .int (nI w)), (6, .int (nI i)), (7, .int (nI n)), (8, .long (seV (oN O))), (10, .int (nI (oS O))), (11, .int q.1)] 248 [] := by
  have hok2 : okS q.2 := hq.1.okS
  have hO2 : OI ((300 * (i + 1) : Nat) : Int) (recO O q) := (hO.wide (by omega)).rec hq.1 hq.2
  refine x_aload_n C 1 dL_law_248 rfl rfl ?_
  refine x_sRO C ([.ref (aaX a)]) ([]) (a := a) (O := recO O q) (na := 1) gL_law_L_isWhole rfl (by decide +kernel) rfl (kL_isWhole (xl cx) (xG cx) a (recO O q) hq.1) rfl rfl rfl ⟨by decide, by decide⟩ (Nat.le_of_ble_eq_true rfl) ⟨by decide, by decide⟩ dL_law_249 ?_
  refine x_if_eq C 281 dL_law_252 (by decide) (fun h => absurd h (by decide)) (fun _ => ?_)
  refine x_iload C 5 dL_law_255 rfl ?_
  refine x_bipush (v := 8) C dL_law_257 (by decide) ?_
  refine x_irem C (pk_rem (a := i) (d := 8) (by omega) (by omega) (by omega)) dL_law_259 (by decide) ?_
  refine x_bipush (v := 7) C dL_law_260 (by decide) ?_
  refine x_icmp_ne C 277 dL_law_262 (by decide) (fun c_262 => ?_) (fun c_262 => ?_)
  ·
    exact law_277 C M S Z hL a i hi n hn (oN O) (oS O) hO.2.2.1 q.1 (recO O q) v w hO2 hz hv hw (fun c => ⟨((und_rec hO c).2.1).trans (un_s hO.2.2.1), (und_rec hO c).1⟩) K
  ·
    refine x_aload_n C 1 dL_law_265 rfl rfl ?_
    refine x_iload C 6 dL_law_266 rfl ?_
    refine x_bipush (v := 7) C dL_law_268 (by decide) ?_
    refine x_idiv C (pk_div (a := n) (d := 7) (by omega) (by omega) (by omega)) dL_law_270 (by decide) ?_
    refine x_sMU C ([.ref (aaX a), .int (nI (n / 7))]) ([]) (a := a) (O := recO O q) (O' := rfuO (recO O q)) (na := 2) gL_law_L_refuses rfl (by decide +kernel) rfl M (kL_refuses (xl cx) (xG cx) a (recO O q) (n / 7) (by omega) hq.1 hO2.2.1 hO2.2.2.1 hO2.2.2.2.1) rfl rfl rfl ⟨by decide, by decide⟩ (Nat.le_of_ble_eq_true rfl) ⟨by decide, by decide⟩ dL_law_271 ?_
    refine x_if_eq C 281 dL_law_274 (by decide) (fun h => absurd h (by decide)) (fun _ => ?_)
    exact law_277 C M S Z hL a i hi n hn (oN O) (oS O) hO.2.2.1 q.1 (rfuO (recO O q)) v w hO2.rfu hz hv hw (fun c => ⟨((und_rec hO c).2.1).trans (un_s hO.2.2.1), (und_rec hO c).1⟩) K
