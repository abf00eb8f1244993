set_option maxRecDepth 100000 in
set_option maxHeartbeats 4000000 in
theorem law_body {cx : CX} {b L : Nat} {xs : Nat → Int32} (C : XC cx cL_law wsL_law RL room_1 16) (M : XM cx) (S : XS cx b L xs) (Z : XZ cx) (hL : L ≤ 260) (a : AT) (i : Nat) (hi : i < 70) (O : OS) (v : Int64) (w : Nat) (hO : OI ((300 * i : Nat) : Int) O) (hz : ¬ oh O = 0) (hv : v = seV (oM O)) (hw : w = sN (oM O)) (K : ∀ (O : OS) (v : Int64) (w : Nat), OI ((300 * (i + 1) : Nat) : Int) O → ¬ oh O = 0 → v = seV (oM O) → w = sN (oM O) → X cx (141, 3509) (obW (xG cx) a O) [(0, .ref b), (1, .ref (aaX a)), (2, .int 1), (3, .long v), (5, .int (nI w)), (6, .int (nI (i + 1)))] 148 []) : X cx (141, 3509) (obW (xG cx) a O) [(0, .ref b), (1, .ref (aaX a)), (2, .int 1), (3, .long v), (5, .int (nI w)), (6, .int (nI i))] 148 [] := by
  have hok : okS (oN O) := hO.1.okS
  refine x_iload C 5 dL_law_148 rfl ?_
  refine x_bipush (v := 70) C dL_law_150 (by decide) ?_
  refine x_icmp_ge C 427 dL_law_152 (by decide) (fun c => absurd c (nI_ge (a := i) (b := 70) (by omega) (by omega))) (fun _ => ?_)
  refine x_iload_n C 2 dL_law_155 rfl rfl ?_
  refine x_if_eq C 427 dL_law_156 (by decide) (fun h => absurd h (by decide)) (fun _ => ?_)
  refine x_aload_n C 0 dL_law_159 rfl rfl ?_
  refine x_iload C 5 dL_law_160 rfl ?_
  refine x_cell C S hL (k := i) hi gL_law_L_cell ⟨by decide, by decide⟩ ⟨by decide, by decide⟩ dL_law_162 ?_
  obtain ⟨n, hn, en⟩ := clV_nat L xs i
  refine x_top (y := nI n) (en) ?_
  refine x_istore C [(7, .int (nI n)), (0, .ref b), (1, .ref (aaX a)), (2, .int 1), (3, .long v), (5, .int (nI w)), (6, .int (nI i))] dL_law_165 (by decide) rfl ?_
  refine x_aload_n C 2 dL_law_167 rfl rfl ?_
  refine x_sRO C ([.ref (aaX a)]) ([]) (a := a) (O := O) (na := 1) gL_law_L_seen rfl (by decide +kernel) rfl (kL_seen (xl cx) (xG cx) a O hok) rfl rfl rfl ⟨by decide, by decide⟩ (Nat.le_of_ble_eq_true rfl) ⟨by decide, by decide⟩ dL_law_168 ?_
  refine x_lstore C [(8, .long (seV (oN O))), (7, .int (nI n)), (0, .ref b), (1, .ref (aaX a)), (2, .int 1), (3, .long v), (5, .int (nI w)), (6, .int (nI i))] dL_law_171 (by decide) rfl ?_
  refine x_aload_n C 3 dL_law_173 rfl rfl ?_
  refine x_bipush (v := 10) C dL_law_174 (by decide) ?_
  refine x_oRO C ([.int 10]) ([]) (a := a) (O := O) (na := 1) gL_law_X6_count rfl (by decide +kernel) rfl (oX6_count (xl cx) (xG cx) a O 10 (S := oN O) rfl hok) rfl rfl rfl ⟨by decide, by decide⟩ (Nat.le_of_ble_eq_true rfl) ⟨by decide, by decide⟩ dL_law_176 ?_
  refine x_top (y := nI (oS O)) (rfl) ?_
  refine x_istore C [(10, .int (nI (oS O))), (8, .long (seV (oN O))), (7, .int (nI n)), (0, .ref b), (1, .ref (aaX a)), (2, .int 1), (3, .long v), (5, .int (nI w)), (6, .int (nI i))] dL_law_179 (by decide) rfl ?_
  obtain ⟨q, eq⟩ : ∃ q, actQ (oN O) n = q := ⟨_, rfl⟩
  have hqv := act_iv hO.1 (by omega) (by omega) n
  have hn9 := act_n9 hO.1 (by omega) n
  rw [eq] at hqv hn9
  have hq : Iv ((300 * (i + 1) : Nat) : Int) q.2 ∧ (q.1 < 0 → q.2 = oN O) := ⟨hqv.1.wide (by omega), hqv.2⟩
  have hok2 : okS q.2 := hq.1.okS
  refine x_aload_n C 4 dL_law_181 rfl rfl ?_
  refine x_iload C 2 dL_law_182 rfl ?_
  refine x_sMU C ([.ref (aaX a), .int (nI n)]) ([]) (a := a) (O := O) (O' := recO O q) (na := 2) gL_law_L_act rfl (by decide +kernel) rfl M (by have h0 := kL_act (xl cx) (xG cx) a O n hn hO.1 (by omega) hO.2.1 hO.2.2.1; rw [eq] at h0; exact h0) rfl rfl rfl ⟨by decide, by decide⟩ (Nat.le_of_ble_eq_true rfl) ⟨by decide, by decide⟩ dL_law_184 ?_
  refine x_istore C [(11, .int q.1), (10, .int (nI (oS O))), (8, .long (seV (oN O))), (7, .int (nI n)), (0, .ref b), (1, .ref (aaX a)), (2, .int 1), (3, .long v), (5, .int (nI w)), (6, .int (nI i))] dL_law_187 (by decide) rfl ?_
  refine x_aload_n C 5 dL_law_189 rfl rfl ?_
  refine x_bipush (v := 10) C dL_law_190 (by decide) ?_
  refine x_oRO C ([.int 10]) ([]) (a := a) (O := recO O q) (na := 1) gL_law_X6_count rfl (by decide +kernel) rfl (oX6_count (xl cx) (xG cx) a (recO O q) 10 (S := q.2) rfl hok2) rfl rfl rfl ⟨by decide, by decide⟩ (Nat.le_of_ble_eq_true rfl) ⟨by decide, by decide⟩ dL_law_192 ?_
  refine x_top (y := nI (oS (recO O q))) (rfl) ?_
  refine x_istore C [(12, .int (nI (oS (recO O q)))), (11, .int q.1), (10, .int (nI (oS O))), (8, .long (seV (oN O))), (7, .int (nI n)), (0, .ref b), (1, .ref (aaX a)), (2, .int 1), (3, .long v), (5, .int (nI w)), (6, .int (nI i))] dL_law_195 (by decide) rfl ?_
  refine x_iload C 1 dL_law_197 rfl ?_
  refine x_bipush (v := (-9)) C dL_law_199 (by decide) ?_
  refine x_icmp_eq C 281 dL_law_201 (by decide) (fun c => absurd c (hn9)) (fun _ => ?_)
  refine x_iload C 1 dL_law_204 rfl ?_
  refine x_if_ge C 229 dL_law_206 (by decide) (fun c_206 => ?_) (fun c_206 => ?_)
  ·
    refine x_iload C 0 dL_law_229 rfl ?_
    refine x_iload C 2 dL_law_231 rfl ?_
    refine x_iconst (v := 4) C dL_law_233 (by decide) ?_
    have j_245 : ∀ v0 : Int32, v0 = (if 4 ≤ (nI (oS O)) then 4 else nI ((oS O) + 1)) → X cx (141, 3509) (obW (xG cx) a (recO O q)) [(12, .int (nI (oS (recO O q)))), (11, .int q.1), (10, .int (nI (oS O))), (8, .long (seV (oN O))), (7, .int (nI n)), (0, .ref b), (1, .ref (aaX a)), (2, .int 1), (3, .long v), (5, .int (nI w)), (6, .int (nI i))] 245 [.int v0, .int (nI (oS (recO O q)))] := by
      intro v0 hv0
      subst hv0
      refine x_icmp_ne C 281 dL_law_245 (by decide) (fun c => absurd ((congrArg nI (und_rec hO (Int32.not_lt.mpr c_206)).2.2).trans (su_s hO.2.2.1)) c) (fun _ => ?_)
      refine x_lv [(0, .ref b), (1, .ref (aaX a)), (2, .int 1), (3, .long v), (5, .int (nI w)), (6, .int (nI i)), (7, .int (nI n)), (8, .long (seV (oN O))), (10, .int (nI (oS O))), (11, .int q.1)] [5, 6, 7, 8, 9, 10, 4, 3, 2, 1] rfl ?_
      exact law_248 C M S Z hL a i hi n hn O q v w hO hq hz hv hw K
    refine x_icmp_ge C 244 dL_law_234 (by decide) (fun c_234 => ?_) (fun c_234 => ?_)
    ·
      refine x_iconst (v := 4) C dL_law_244 (by decide) ?_
      exact j_245 _ ((if_pos c_234).symm)
    ·
      refine x_iload C 2 dL_law_237 rfl ?_
      refine x_iconst (v := 1) C dL_law_239 (by decide) ?_
      refine x_iadd C (nI_add (oS O) 1) dL_law_240 ?_
      refine x_goto (tgt := 245) C dL_law_241 (by decide) ?_
      exact j_245 _ ((if_neg c_234).symm)
  ·
    refine x_iload C 0 dL_law_209 rfl ?_
    refine x_iload C 2 dL_law_211 rfl ?_
    refine x_icmp_ne C 281 dL_law_213 (by decide) (fun c => absurd (nI_eq' (recS_neg (Int32.not_le.mp c_206))) c) (fun _ => ?_)
    refine x_aload_n C 6 dL_law_216 rfl rfl ?_
    refine x_sRO C ([.ref (aaX a)]) ([]) (a := a) (O := recO O q) (na := 1) gL_law_L_seen rfl (by decide +kernel) rfl (kL_seen (xl cx) (xG cx) a (recO O q) hok2) rfl rfl rfl ⟨by decide, by decide⟩ (Nat.le_of_ble_eq_true rfl) ⟨by decide, by decide⟩ dL_law_217 ?_
    refine x_lload C 3 dL_law_220 rfl ?_
    refine x_lcmp C (congrArg seV (hq.2 (Int32.not_le.mp c_206))) dL_law_222 ?_
    refine x_if_ne C 281 dL_law_223 (by decide) (fun h => absurd h (by decide)) (fun _ => ?_)
    refine x_goto (tgt := 248) C dL_law_226 (by decide) ?_
    refine x_lv [(0, .ref b), (1, .ref (aaX a)), (2, .int 1), (3, .long v), (5, .int (nI w)), (6, .int (nI i)), (7, .int (nI n)), (8, .long (seV (oN O))), (10, .int (nI (oS O))), (11, .int q.1)] [5, 6, 7, 8, 9, 10, 4, 3, 2, 1] rfl ?_
    exact law_248 C M S Z hL a i hi n hn O q v w hO hq hz hv hw K
set_option maxRecDepth 100000 in
set_option maxHeartbeats 4000000 in
theorem law_loop {cx : CX} {b L : Nat} {xs : Nat → Int32} (C : XC cx cL_law wsL_law RL room_1 16) (M : XM cx) (S : XS cx b L xs) (Z : XZ cx) (hL : L ≤ 260) (a : AT) : ∀ (d i : Nat) (O : OS) (v : Int64) (w : Nat), i + d = 70 → OI ((300 * i : Nat) : Int) O → ¬ oh O = 0 → v = seV (oM O) → w = sN (oM O) → X cx (141, 3509) (obW (xG cx) a O) [(0, .ref b), (1, .ref (aaX a)), (2, .int 1), (3, .long v), (5, .int (nI w)), (6, .int (nI i))] 148 [] := by
  intro d
  induction d with
  | zero =>
    intro i O v w hi hO hz hv hw
    obtain rfl : i = 70 := by omega
    refine x_iload C 5 dL_law_148 rfl ?_
    refine x_bipush (v := 70) C dL_law_150 (by decide) ?_
    refine x_icmp_ge C 427 dL_law_152 (by decide) (fun _ => ?_) (fun c => absurd (nI_le (a := 70) (b := 70) (by omega) (by omega)) c)
    refine x_iload_n C 2 dL_law_427 rfl rfl ?_
    exact Z _ _ _ _ (Nat.le_of_ble_eq_true rfl) (Nat.le_of_ble_eq_true rfl) dL_law_428
  | succ d ih =>
    intro i O v w hi hO hz hv hw
    exact law_body C M S Z hL a i (by omega) O v w hO hz hv hw (fun O v w h1 h2 h3 h4 => ih (i + 1) O v w (by omega) h1 h2 h3 h4)
