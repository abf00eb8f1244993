set_option maxRecDepth 100000 in
set_option maxHeartbeats 4000000 in
theorem kL_hour (l : Launch) (G : GG) (a : AT) (O : OS) {H : Int} (hI : Iv H (oN O)) (hH : H ≤ 90000) (hk4 : oK O < 4) (hs4 : oS O ≤ 4) : MU l G yL_hour wsL_hour ({ frames := 7, cells := 0, slots := 0, locals := 161 } : Room) [.ref (aaX a)] (obW G a O) (some (.int ((lpS (oN O) 1).1))) (obW G a (recO O (lpS (oN O) 1))) := by
  refine MU.of (cc := cL_hour) (maxL := 12) (ret := (some .int)) (by decide) rfl (Nat.le_of_ble_eq_true rfl) ?_
  intro cx hxl hxG C M E
  subst hxl
  subst hxG
  show X cx (0, 0) (obW (xG cx) a O) [(0, .ref (aaX a))] 0 []
  have hok : okS (oN O) := hI.okS
  have hn : sN (oN O) ≤ 60 := hI.n60
  obtain ⟨q, eq⟩ : ∃ q, lpS (oN O) 1 = q := ⟨_, rfl⟩
  rw [eq] at E
  obtain ⟨t1, t2, t3, t4, t5, t6, ti, -⟩ := hr_1 hI hH eq
  have hok2 : okS q.2 := ti.okS
  refine x_aload_n C 0 dL_hour_0 rfl rfl ?_
  refine x_iconst (v := 0) C dL_hour_1 (by decide) ?_
  refine x_oRO C ([.int 0]) ([]) (a := a) (O := O) (na := 1) gL_hour_X6_count rfl (by decide +kernel) rfl (oX6_count (xl cx) (xG cx) a O 0 (S := oN O) rfl hok) rfl rfl rfl ⟨by decide, by decide⟩ (Nat.le_of_ble_eq_true rfl) ⟨by decide, by decide⟩ dL_hour_2 ?_
  refine x_istore_n C [(1, .int (cntT (oN O) (oS O) (oL O) 0)), (0, .ref (aaX a))] dL_hour_5 rfl (by decide) rfl ?_
  refine x_aload_n C 1 dL_hour_6 rfl rfl ?_
  refine x_iconst (v := 3) C dL_hour_7 (by decide) ?_
  refine x_oRO C ([.int 3]) ([]) (a := a) (O := O) (na := 1) gL_hour_X6_count rfl (by decide +kernel) rfl (oX6_count (xl cx) (xG cx) a O 3 (S := oN O) rfl hok) rfl rfl rfl ⟨by decide, by decide⟩ (Nat.le_of_ble_eq_true rfl) ⟨by decide, by decide⟩ dL_hour_8 ?_
  refine x_istore_n C [(2, .int (cntT (oN O) (oS O) (oL O) 3)), (1, .int (cntT (oN O) (oS O) (oL O) 0)), (0, .ref (aaX a))] dL_hour_11 rfl (by decide) rfl ?_
  refine x_aload_n C 2 dL_hour_12 rfl rfl ?_
  refine x_bipush (v := 6) C dL_hour_13 (by decide) ?_
  refine x_oRO C ([.int 6]) ([]) (a := a) (O := O) (na := 1) gL_hour_X6_count rfl (by decide +kernel) rfl (oX6_count (xl cx) (xG cx) a O 6 (S := oN O) rfl hok) rfl rfl rfl ⟨by decide, by decide⟩ (Nat.le_of_ble_eq_true rfl) ⟨by decide, by decide⟩ dL_hour_15 ?_
  refine x_istore_n C [(3, .int (cntT (oN O) (oS O) (oL O) 6)), (2, .int (cntT (oN O) (oS O) (oL O) 3)), (1, .int (cntT (oN O) (oS O) (oL O) 0)), (0, .ref (aaX a))] dL_hour_18 rfl (by decide) rfl ?_
  refine x_aload_n C 3 dL_hour_19 rfl rfl ?_
  refine x_bipush (v := 7) C dL_hour_20 (by decide) ?_
  refine x_oRO C ([.int 7]) ([]) (a := a) (O := O) (na := 1) gL_hour_X6_count rfl (by decide +kernel) rfl (oX6_count (xl cx) (xG cx) a O 7 (S := oN O) rfl hok) rfl rfl rfl ⟨by decide, by decide⟩ (Nat.le_of_ble_eq_true rfl) ⟨by decide, by decide⟩ dL_hour_22 ?_
  refine x_istore C [(4, .int (cntT (oN O) (oS O) (oL O) 7)), (3, .int (cntT (oN O) (oS O) (oL O) 6)), (2, .int (cntT (oN O) (oS O) (oL O) 3)), (1, .int (cntT (oN O) (oS O) (oL O) 0)), (0, .ref (aaX a))] dL_hour_25 (by decide) rfl ?_
  refine x_aload_n C 4 dL_hour_27 rfl rfl ?_
  refine x_iconst (v := 4) C dL_hour_28 (by decide) ?_
  refine x_oRO C ([.int 4]) ([]) (a := a) (O := O) (na := 1) gL_hour_X6_count rfl (by decide +kernel) rfl (oX6_count (xl cx) (xG cx) a O 4 (S := oN O) rfl hok) rfl rfl rfl ⟨by decide, by decide⟩ (Nat.le_of_ble_eq_true rfl) ⟨by decide, by decide⟩ dL_hour_29 ?_
  refine x_istore C [(5, .int (cntT (oN O) (oS O) (oL O) 4)), (4, .int (cntT (oN O) (oS O) (oL O) 7)), (3, .int (cntT (oN O) (oS O) (oL O) 6)), (2, .int (cntT (oN O) (oS O) (oL O) 3)), (1, .int (cntT (oN O) (oS O) (oL O) 0)), (0, .ref (aaX a))] dL_hour_32 (by decide) rfl ?_
  refine x_iconst (v := 0) C dL_hour_34 (by decide) ?_
  refine x_istore C [(6, .int 0), (5, .int (cntT (oN O) (oS O) (oL O) 4)), (4, .int (cntT (oN O) (oS O) (oL O) 7)), (3, .int (cntT (oN O) (oS O) (oL O) 6)), (2, .int (cntT (oN O) (oS O) (oL O) 3)), (1, .int (cntT (oN O) (oS O) (oL O) 0)), (0, .ref (aaX a))] dL_hour_35 (by decide) rfl ?_
  refine x_iconst (v := 0) C dL_hour_37 (by decide) ?_
  refine x_istore C [(7, .int 0), (6, .int 0), (5, .int (cntT (oN O) (oS O) (oL O) 4)), (4, .int (cntT (oN O) (oS O) (oL O) 7)), (3, .int (cntT (oN O) (oS O) (oL O) 6)), (2, .int (cntT (oN O) (oS O) (oL O) 3)), (1, .int (cntT (oN O) (oS O) (oL O) 0)), (0, .ref (aaX a))] dL_hour_38 (by decide) rfl ?_
  refine x_iconst (v := 0) C dL_hour_40 (by decide) ?_
  refine x_istore C [(8, .int 0), (7, .int 0), (6, .int 0), (5, .int (cntT (oN O) (oS O) (oL O) 4)), (4, .int (cntT (oN O) (oS O) (oL O) 7)), (3, .int (cntT (oN O) (oS O) (oL O) 6)), (2, .int (cntT (oN O) (oS O) (oL O) 3)), (1, .int (cntT (oN O) (oS O) (oL O) 0)), (0, .ref (aaX a))] dL_hour_41 (by decide) rfl ?_
  have ex_43 : X cx (0, 0) (obW (xG cx) a O) [(0, .ref (aaX a)), (1, .int (cntT (oN O) (oS O) (oL O) 0)), (2, .int (cntT (oN O) (oS O) (oL O) 3)), (3, .int (cntT (oN O) (oS O) (oL O) 6)), (4, .int (cntT (oN O) (oS O) (oL O) 7)), (5, .int (cntT (oN O) (oS O) (oL O) 4)), (6, .int (sm (byS (oN O)) (sN (oN O)))), (7, .int (cnt (fun k => enP (oN O) k) (sN (oN O))))] 168 [] := by
    refine x_aload_n C 0 dL_hour_168 rfl rfl ?_
    refine x_iconst (v := 1) C dL_hour_169 (by decide) ?_
    refine x_iconst (v := 0) C dL_hour_170 (by decide) ?_
    refine x_oRO C ([.int 1, .int 0]) ([]) (a := a) (O := O) (na := 2) gL_hour_X6_rack rfl (by decide +kernel) rfl (oX6_rack (xl cx) (xG cx) a O 1 0 (S := oN O) rfl hok) rfl rfl rfl ⟨by decide, by decide⟩ (Nat.le_of_ble_eq_true rfl) ⟨by decide, by decide⟩ dL_hour_171 ?_
    refine x_istore C [(8, .int (trS (oN O) 1 0)), (0, .ref (aaX a)), (1, .int (cntT (oN O) (oS O) (oL O) 0)), (2, .int (cntT (oN O) (oS O) (oL O) 3)), (3, .int (cntT (oN O) (oS O) (oL O) 6)), (4, .int (cntT (oN O) (oS O) (oL O) 7)), (5, .int (cntT (oN O) (oS O) (oL O) 4)), (6, .int (sm (byS (oN O)) (sN (oN O)))), (7, .int (cnt (fun k => enP (oN O) k) (sN (oN O))))] dL_hour_174 (by decide) rfl ?_
    refine x_aload_n C 1 dL_hour_176 rfl rfl ?_
    refine x_iconst (v := 1) C dL_hour_177 (by decide) ?_
    refine x_bipush (v := 7) C dL_hour_178 (by decide) ?_
    refine x_oRO C ([.int 1, .int 7]) ([]) (a := a) (O := O) (na := 2) gL_hour_X6_rack rfl (by decide +kernel) rfl (oX6_rack (xl cx) (xG cx) a O 1 7 (S := oN O) rfl hok) rfl rfl rfl ⟨by decide, by decide⟩ (Nat.le_of_ble_eq_true rfl) ⟨by decide, by decide⟩ dL_hour_180 ?_
    refine x_iconst (v := 1) C dL_hour_183 (by decide) ?_
    have j_198 : ∀ v0 : Int32, v0 = (if trS (oN O) 1 7 = 1 then trS (oN O) 1 6 else 0) → X cx (0, 0) (obW (xG cx) a O) [(8, .int (trS (oN O) 1 0)), (0, .ref (aaX a)), (1, .int (cntT (oN O) (oS O) (oL O) 0)), (2, .int (cntT (oN O) (oS O) (oL O) 3)), (3, .int (cntT (oN O) (oS O) (oL O) 6)), (4, .int (cntT (oN O) (oS O) (oL O) 7)), (5, .int (cntT (oN O) (oS O) (oL O) 4)), (6, .int (sm (byS (oN O)) (sN (oN O)))), (7, .int (cnt (fun k => enP (oN O) k) (sN (oN O))))] 198 [.int v0] := by
      intro v0 hv0
      subst hv0
      refine x_istore C [(9, .int (if trS (oN O) 1 7 = 1 then trS (oN O) 1 6 else 0)), (8, .int (trS (oN O) 1 0)), (0, .ref (aaX a)), (1, .int (cntT (oN O) (oS O) (oL O) 0)), (2, .int (cntT (oN O) (oS O) (oL O) 3)), (3, .int (cntT (oN O) (oS O) (oL O) 6)), (4, .int (cntT (oN O) (oS O) (oL O) 7)), (5, .int (cntT (oN O) (oS O) (oL O) 4)), (6, .int (sm (byS (oN O)) (sN (oN O)))), (7, .int (cnt (fun k => enP (oN O) k) (sN (oN O))))] dL_hour_198 (by decide) rfl ?_
      refine x_aload_n C 2 dL_hour_200 rfl rfl ?_
      refine x_iconst (v := 1) C dL_hour_201 (by decide) ?_
      refine x_oMU C ([.int 1]) ([]) (a := a) (O := O) (O' := recO O q) (na := 1) gL_hour_X6_pass rfl (by decide +kernel) rfl M (oX6_pass (xl cx) (xG cx) a O 1 hk4 hs4 hok eq) rfl rfl rfl ⟨by decide, by decide⟩ (Nat.le_of_ble_eq_true rfl) ⟨by decide, by decide⟩ dL_hour_202 ?_
      refine x_istore C [(10, .int q.1), (9, .int (if trS (oN O) 1 7 = 1 then trS (oN O) 1 6 else 0)), (8, .int (trS (oN O) 1 0)), (0, .ref (aaX a)), (1, .int (cntT (oN O) (oS O) (oL O) 0)), (2, .int (cntT (oN O) (oS O) (oL O) 3)), (3, .int (cntT (oN O) (oS O) (oL O) 6)), (4, .int (cntT (oN O) (oS O) (oL O) 7)), (5, .int (cntT (oN O) (oS O) (oL O) 4)), (6, .int (sm (byS (oN O)) (sN (oN O)))), (7, .int (cnt (fun k => enP (oN O) k) (sN (oN O))))] dL_hour_205 (by decide) rfl ?_
      refine x_iload C 2 dL_hour_207 rfl ?_
      refine x_iload C 1 dL_hour_209 rfl ?_
      refine x_iadd C (rfl) dL_hour_211 ?_
      have j_241 : ∀ v0 : Int32, v0 = (if 0 ≤ trS (oN O) 1 0 + (if trS (oN O) 1 7 = 1 then trS (oN O) 1 6 else 0) then (if trS (oN O) 1 0 + (if trS (oN O) 1 7 = 1 then trS (oN O) 1 6 else 0) ≤ 300 then trS (oN O) 1 0 + (if trS (oN O) 1 7 = 1 then trS (oN O) 1 6 else 0) else 300) else 0) → X cx (0, 0) (obW (xG cx) a (recO O q)) [(10, .int q.1), (9, .int (if trS (oN O) 1 7 = 1 then trS (oN O) 1 6 else 0)), (8, .int (trS (oN O) 1 0)), (0, .ref (aaX a)), (1, .int (cntT (oN O) (oS O) (oL O) 0)), (2, .int (cntT (oN O) (oS O) (oL O) 3)), (3, .int (cntT (oN O) (oS O) (oL O) 6)), (4, .int (cntT (oN O) (oS O) (oL O) 7)), (5, .int (cntT (oN O) (oS O) (oL O) 4)), (6, .int (sm (byS (oN O)) (sN (oN O)))), (7, .int (cnt (fun k => enP (oN O) k) (sN (oN O))))] 241 [.int v0] := by
        intro v0 hv0
        subst hv0
        refine x_istore C [(11, .int (if 0 ≤ trS (oN O) 1 0 + (if trS (oN O) 1 7 = 1 then trS (oN O) 1 6 else 0) then (if trS (oN O) 1 0 + (if trS (oN O) 1 7 = 1 then trS (oN O) 1 6 else 0) ≤ 300 then trS (oN O) 1 0 + (if trS (oN O) 1 7 = 1 then trS (oN O) 1 6 else 0) else 300) else 0)), (10, .int q.1), (9, .int (if trS (oN O) 1 7 = 1 then trS (oN O) 1 6 else 0)), (8, .int (trS (oN O) 1 0)), (0, .ref (aaX a)), (1, .int (cntT (oN O) (oS O) (oL O) 0)), (2, .int (cntT (oN O) (oS O) (oL O) 3)), (3, .int (cntT (oN O) (oS O) (oL O) 6)), (4, .int (cntT (oN O) (oS O) (oL O) 7)), (5, .int (cntT (oN O) (oS O) (oL O) 4)), (6, .int (sm (byS (oN O)) (sN (oN O)))), (7, .int (cnt (fun k => enP (oN O) k) (sN (oN O))))] dL_hour_241 (by decide) rfl ?_
        refine x_iload C 1 dL_hour_243 rfl ?_
        refine x_iload C 11 dL_hour_245 rfl ?_
        refine x_icmp_ne C 316 dL_hour_247 (by decide) (fun c => absurd (t1) c) (fun _ => ?_)
        refine x_aload_n C 4 dL_hour_250 rfl rfl ?_
        refine x_iconst (v := 0) C dL_hour_251 (by decide) ?_
        refine x_oRO C ([.int 0]) ([]) (a := a) (O := recO O q) (na := 1) gL_hour_X6_count rfl (by decide +kernel) rfl (oX6_count (xl cx) (xG cx) a (recO O q) 0 (S := q.2) rfl hok2) rfl rfl rfl ⟨by decide, by decide⟩ (Nat.le_of_ble_eq_true rfl) ⟨by decide, by decide⟩ dL_hour_252 ?_
        refine x_iload_n C 5 dL_hour_255 rfl rfl ?_
        refine x_iconst (v := 1) C dL_hour_256 (by decide) ?_
        refine x_iadd C (rfl) dL_hour_257 ?_
        refine x_icmp_ne C 316 dL_hour_258 (by decide) (fun c => absurd (t2) c) (fun _ => ?_)
        refine x_aload_n C 4 dL_hour_261 rfl rfl ?_
        refine x_bipush (v := 6) C dL_hour_262 (by decide) ?_
        refine x_oRO C ([.int 6]) ([]) (a := a) (O := recO O q) (na := 1) gL_hour_X6_count rfl (by decide +kernel) rfl (oX6_count (xl cx) (xG cx) a (recO O q) 6 (S := q.2) rfl hok2) rfl rfl rfl ⟨by decide, by decide⟩ (Nat.le_of_ble_eq_true rfl) ⟨by decide, by decide⟩ dL_hour_264 ?_
        refine x_iload_n C 7 dL_hour_267 rfl rfl ?_
        refine x_iload_n C 6 dL_hour_268 rfl rfl ?_
        refine x_iadd C (rfl) dL_hour_269 ?_
        refine x_icmp_ne C 316 dL_hour_270 (by decide) (fun c => absurd (t3) c) (fun _ => ?_)
        refine x_aload_n C 4 dL_hour_273 rfl rfl ?_
        refine x_bipush (v := 7) C dL_hour_274 (by decide) ?_
        refine x_oRO C ([.int 7]) ([]) (a := a) (O := recO O q) (na := 1) gL_hour_X6_count rfl (by decide +kernel) rfl (oX6_count (xl cx) (xG cx) a (recO O q) 7 (S := q.2) rfl hok2) rfl rfl rfl ⟨by decide, by decide⟩ (Nat.le_of_ble_eq_true rfl) ⟨by decide, by decide⟩ dL_hour_276 ?_
        refine x_iload C 8 dL_hour_279 rfl ?_
        refine x_iload C 10 dL_hour_281 rfl ?_
        refine x_iadd C (rfl) dL_hour_283 ?_
        refine x_icmp_ne C 316 dL_hour_284 (by decide) (fun c => absurd (t4) c) (fun _ => ?_)
        refine x_aload_n C 4 dL_hour_287 rfl rfl ?_
        refine x_iconst (v := 4) C dL_hour_288 (by decide) ?_
        refine x_oRO C ([.int 4]) ([]) (a := a) (O := recO O q) (na := 1) gL_hour_X6_count rfl (by decide +kernel) rfl (oX6_count (xl cx) (xG cx) a (recO O q) 4 (S := q.2) rfl hok2) rfl rfl rfl ⟨by decide, by decide⟩ (Nat.le_of_ble_eq_true rfl) ⟨by decide, by decide⟩ dL_hour_289 ?_
        refine x_iload C 9 dL_hour_292 rfl ?_
        refine x_iload C 11 dL_hour_294 rfl ?_
        refine x_iadd C (rfl) dL_hour_296 ?_
        refine x_icmp_ne C 316 dL_hour_297 (by decide) (fun c => absurd (t5) c) (fun _ => ?_)
        refine x_aload_n C 4 dL_hour_300 rfl rfl ?_
        refine x_iconst (v := 1) C dL_hour_301 (by decide) ?_
        refine x_iconst (v := 0) C dL_hour_302 (by decide) ?_
        refine x_oRO C ([.int 1, .int 0]) ([]) (a := a) (O := recO O q) (na := 2) gL_hour_X6_rack rfl (by decide +kernel) rfl (oX6_rack (xl cx) (xG cx) a (recO O q) 1 0 (S := q.2) rfl hok2) rfl rfl rfl ⟨by decide, by decide⟩ (Nat.le_of_ble_eq_true rfl) ⟨by decide, by decide⟩ dL_hour_303 ?_
        refine x_iload C 0 dL_hour_306 rfl ?_
        refine x_icmp_ne C 316 dL_hour_308 (by decide) (fun c => absurd (t6) c) (fun _ => ?_)
        refine x_iload C 1 dL_hour_311 rfl ?_
        refine x_goto (tgt := 318) C dL_hour_313 (by decide) ?_
        exact x_iret C E dL_hour_318 (rfl) rfl
      refine x_if_ge C 219 dL_hour_212 (by decide) (fun c_212 => ?_) (fun c_212 => ?_)
      ·
        refine x_iload C 2 dL_hour_219 rfl ?_
        refine x_iload C 1 dL_hour_221 rfl ?_
        refine x_iadd C (rfl) dL_hour_223 ?_
        refine x_sipush (v := 300) C dL_hour_224 (by decide) ?_
        refine x_icmp_le C 236 dL_hour_227 (by decide) (fun c_227 => ?_) (fun c_227 => ?_)
        ·
          refine x_iload C 2 dL_hour_236 rfl ?_
          refine x_iload C 1 dL_hour_238 rfl ?_
          refine x_iadd C (rfl) dL_hour_240 ?_
          exact j_241 _ (((if_pos c_212).trans (if_pos c_227)).symm)
        ·
          refine x_sipush (v := 300) C dL_hour_230 (by decide) ?_
          refine x_goto (tgt := 241) C dL_hour_233 (by decide) ?_
          exact j_241 _ (((if_pos c_212).trans (if_neg c_227)).symm)
      ·
        refine x_iconst (v := 0) C dL_hour_215 (by decide) ?_
        refine x_goto (tgt := 241) C dL_hour_216 (by decide) ?_
        exact j_241 _ ((if_neg c_212).symm)
    refine x_icmp_ne C 197 dL_hour_184 (by decide) (fun c_184 => ?_) (fun c_184 => ?_)
    ·
      refine x_iconst (v := 0) C dL_hour_197 (by decide) ?_
      exact j_198 _ ((if_neg c_184).symm)
    ·
      refine x_aload_n C 1 dL_hour_187 rfl rfl ?_
      refine x_iconst (v := 1) C dL_hour_188 (by decide) ?_
      refine x_bipush (v := 6) C dL_hour_189 (by decide) ?_
      refine x_oRO C ([.int 1, .int 6]) ([]) (a := a) (O := O) (na := 2) gL_hour_X6_rack rfl (by decide +kernel) rfl (oX6_rack (xl cx) (xG cx) a O 1 6 (S := oN O) rfl hok) rfl rfl rfl ⟨by decide, by decide⟩ (Nat.le_of_ble_eq_true rfl) ⟨by decide, by decide⟩ dL_hour_191 ?_
      refine x_goto (tgt := 198) C dL_hour_194 (by decide) ?_
      exact j_198 _ ((if_pos c_184).symm)
  have lp_43 : ∀ (d i : Nat), i + d = sN (oN O) → X cx (0, 0) (obW (xG cx) a O) [(0, .ref (aaX a)), (1, .int (cntT (oN O) (oS O) (oL O) 0)), (2, .int (cntT (oN O) (oS O) (oL O) 3)), (3, .int (cntT (oN O) (oS O) (oL O) 6)), (4, .int (cntT (oN O) (oS O) (oL O) 7)), (5, .int (cntT (oN O) (oS O) (oL O) 4)), (6, .int (sm (byS (oN O)) i)), (7, .int (cnt (fun k => enP (oN O) k) i)), (8, .int (nI i))] 43 [] := by
    intro d
    induction d with
    | zero =>
      intro i hi
      obtain rfl : i = sN (oN O) := by omega
      refine x_iload C 8 dL_hour_43 rfl ?_
      refine x_aload_n C 0 dL_hour_45 rfl rfl ?_
      refine x_iconst (v := 1) C dL_hour_46 (by decide) ?_
      refine x_oRO C ([.int 1]) ([.int (nI (sN (oN O)))]) (a := a) (O := O) (na := 1) gL_hour_X6_count rfl (by decide +kernel) rfl (oX6_count (xl cx) (xG cx) a O 1 (S := oN O) rfl hok) rfl rfl rfl ⟨by decide, by decide⟩ (Nat.le_of_ble_eq_true rfl) ⟨by decide, by decide⟩ dL_hour_47 ?_
      refine x_top (y := nI (sN (oN O))) (cnt_1 _ _ _) ?_
      refine x_icmp_ge C 168 dL_hour_50 (by decide) (fun _ => ?_) (fun c => absurd (nI_le (a := sN (oN O)) (b := sN (oN O)) (by omega) (by omega)) c)
      refine x_lv [(0, .ref (aaX a)), (1, .int (cntT (oN O) (oS O) (oL O) 0)), (2, .int (cntT (oN O) (oS O) (oL O) 3)), (3, .int (cntT (oN O) (oS O) (oL O) 6)), (4, .int (cntT (oN O) (oS O) (oL O) 7)), (5, .int (cntT (oN O) (oS O) (oL O) 4)), (6, .int (sm (byS (oN O)) (sN (oN O)))), (7, .int (cnt (fun k => enP (oN O) k) (sN (oN O))))] [0, 1, 2, 3, 4, 5, 6, 7] rfl ?_
      exact ex_43
    | succ d ih =>
      intro i hi
      have hk : i < sN (oN O) := by omega
      refine x_iload C 8 dL_hour_43 rfl ?_
      refine x_aload_n C 0 dL_hour_45 rfl rfl ?_
      refine x_iconst (v := 1) C dL_hour_46 (by decide) ?_
      refine x_oRO C ([.int 1]) ([.int (nI i)]) (a := a) (O := O) (na := 1) gL_hour_X6_count rfl (by decide +kernel) rfl (oX6_count (xl cx) (xG cx) a O 1 (S := oN O) rfl hok) rfl rfl rfl ⟨by decide, by decide⟩ (Nat.le_of_ble_eq_true rfl) ⟨by decide, by decide⟩ dL_hour_47 ?_
      refine x_top (y := nI (sN (oN O))) (cnt_1 _ _ _) ?_
      refine x_icmp_ge C 168 dL_hour_50 (by decide) (fun c => absurd c (nI_ge (a := i) (b := sN (oN O)) (by omega) (by omega))) (fun _ => ?_)
      refine x_aload_n C 0 dL_hour_53 rfl rfl ?_
      refine x_iload C 8 dL_hour_54 rfl ?_
      refine x_oRO C ([.int (nI i)]) ([]) (a := a) (O := O) (na := 1) gL_hour_X6_reason rfl (by decide +kernel) rfl (oX6_reason (xl cx) (xG cx) a O (nI i) (S := oN O) rfl hok) rfl rfl rfl ⟨by decide, by decide⟩ (Nat.le_of_ble_eq_true rfl) ⟨by decide, by decide⟩ dL_hour_56 ?_
      have j_67 : ∀ v0 : Int32, v0 = (b2i ((rsnS (oN O) (nI i)) = 0)) → X cx (0, 0) (obW (xG cx) a O) [(0, .ref (aaX a)), (1, .int (cntT (oN O) (oS O) (oL O) 0)), (2, .int (cntT (oN O) (oS O) (oL O) 3)), (3, .int (cntT (oN O) (oS O) (oL O) 6)), (4, .int (cntT (oN O) (oS O) (oL O) 7)), (5, .int (cntT (oN O) (oS O) (oL O) 4)), (6, .int (sm (byS (oN O)) i)), (7, .int (cnt (fun k => enP (oN O) k) i)), (8, .int (nI i))] 67 [.int v0] := by
        intro v0 hv0
        subst hv0
        refine x_istore C [(9, .int (b2i ((rsnS (oN O) (nI i)) = 0))), (0, .ref (aaX a)), (1, .int (cntT (oN O) (oS O) (oL O) 0)), (2, .int (cntT (oN O) (oS O) (oL O) 3)), (3, .int (cntT (oN O) (oS O) (oL O) 6)), (4, .int (cntT (oN O) (oS O) (oL O) 7)), (5, .int (cntT (oN O) (oS O) (oL O) 4)), (6, .int (sm (byS (oN O)) i)), (7, .int (cnt (fun k => enP (oN O) k) i)), (8, .int (nI i))] dL_hour_67 (by decide) rfl ?_
        refine x_aload_n C 1 dL_hour_69 rfl rfl ?_
        refine x_iload C 9 dL_hour_70 rfl ?_
        refine x_iconst (v := 2) C dL_hour_72 (by decide) ?_
        refine x_oRO C ([.int (nI i), .int 2]) ([]) (a := a) (O := O) (na := 2) gL_hour_X6_lamp rfl (by decide +kernel) rfl (oX6_lamp (xl cx) (xG cx) a O (nI i) 2 (S := oN O) rfl hok) rfl rfl rfl ⟨by decide, by decide⟩ (Nat.le_of_ble_eq_true rfl) ⟨by decide, by decide⟩ dL_hour_73 ?_
        refine x_istore C [(10, .int (tlS (oN O) (nI i) 2)), (9, .int (b2i ((rsnS (oN O) (nI i)) = 0))), (0, .ref (aaX a)), (1, .int (cntT (oN O) (oS O) (oL O) 0)), (2, .int (cntT (oN O) (oS O) (oL O) 3)), (3, .int (cntT (oN O) (oS O) (oL O) 6)), (4, .int (cntT (oN O) (oS O) (oL O) 7)), (5, .int (cntT (oN O) (oS O) (oL O) 4)), (6, .int (sm (byS (oN O)) i)), (7, .int (cnt (fun k => enP (oN O) k) i)), (8, .int (nI i))] dL_hour_76 (by decide) rfl ?_
        refine x_iload C 1 dL_hour_78 rfl ?_
        have j_115 : ∀ v0 : Int32, v0 = (byS (oN O) i) → X cx (0, 0) (obW (xG cx) a O) [(10, .int (tlS (oN O) (nI i) 2)), (9, .int (b2i ((rsnS (oN O) (nI i)) = 0))), (0, .ref (aaX a)), (1, .int (cntT (oN O) (oS O) (oL O) 0)), (2, .int (cntT (oN O) (oS O) (oL O) 3)), (3, .int (cntT (oN O) (oS O) (oL O) 6)), (4, .int (cntT (oN O) (oS O) (oL O) 7)), (5, .int (cntT (oN O) (oS O) (oL O) 4)), (6, .int (sm (byS (oN O)) i)), (7, .int (cnt (fun k => enP (oN O) k) i)), (8, .int (nI i))] 115 [.int v0] := by
          intro v0 hv0
          subst hv0
          refine x_istore C [(11, .int (byS (oN O) i)), (10, .int (tlS (oN O) (nI i) 2)), (9, .int (b2i ((rsnS (oN O) (nI i)) = 0))), (0, .ref (aaX a)), (1, .int (cntT (oN O) (oS O) (oL O) 0)), (2, .int (cntT (oN O) (oS O) (oL O) 3)), (3, .int (cntT (oN O) (oS O) (oL O) 6)), (4, .int (cntT (oN O) (oS O) (oL O) 7)), (5, .int (cntT (oN O) (oS O) (oL O) 4)), (6, .int (sm (byS (oN O)) i)), (7, .int (cnt (fun k => enP (oN O) k) i)), (8, .int (nI i))] dL_hour_115 (by decide) rfl ?_
          refine x_iload C 9 dL_hour_117 rfl ?_
          refine x_iload C 0 dL_hour_119 rfl ?_
          refine x_iadd C (rfl) dL_hour_121 ?_
          refine x_istore C [(6, .int ((sm (byS (oN O)) i) + (byS (oN O) i))), (11, .int (byS (oN O) i)), (10, .int (tlS (oN O) (nI i) 2)), (9, .int (b2i ((rsnS (oN O) (nI i)) = 0))), (0, .ref (aaX a)), (1, .int (cntT (oN O) (oS O) (oL O) 0)), (2, .int (cntT (oN O) (oS O) (oL O) 3)), (3, .int (cntT (oN O) (oS O) (oL O) 6)), (4, .int (cntT (oN O) (oS O) (oL O) 7)), (5, .int (cntT (oN O) (oS O) (oL O) 4)), (7, .int (cnt (fun k => enP (oN O) k) i)), (8, .int (nI i))] dL_hour_122 (by decide) rfl ?_
          refine x_iload C 10 dL_hour_124 rfl ?_
          refine x_iload C 3 dL_hour_126 rfl ?_
          have j_159 : ∀ v0 : Int32, v0 = (b2i (enP (oN O) i)) → X cx (0, 0) (obW (xG cx) a O) [(6, .int ((sm (byS (oN O)) i) + (byS (oN O) i))), (11, .int (byS (oN O) i)), (10, .int (tlS (oN O) (nI i) 2)), (9, .int (b2i ((rsnS (oN O) (nI i)) = 0))), (0, .ref (aaX a)), (1, .int (cntT (oN O) (oS O) (oL O) 0)), (2, .int (cntT (oN O) (oS O) (oL O) 3)), (3, .int (cntT (oN O) (oS O) (oL O) 6)), (4, .int (cntT (oN O) (oS O) (oL O) 7)), (5, .int (cntT (oN O) (oS O) (oL O) 4)), (7, .int (cnt (fun k => enP (oN O) k) i)), (8, .int (nI i))] 159 [.int v0, .int (cnt (fun k => enP (oN O) k) i)] := by
            intro v0 hv0
            subst hv0
            refine x_iadd C (rfl) dL_hour_159 ?_
            refine x_istore C [(7, .int ((cnt (fun k => enP (oN O) k) i) + (b2i (enP (oN O) i)))), (6, .int ((sm (byS (oN O)) i) + (byS (oN O) i))), (11, .int (byS (oN O) i)), (10, .int (tlS (oN O) (nI i) 2)), (9, .int (b2i ((rsnS (oN O) (nI i)) = 0))), (0, .ref (aaX a)), (1, .int (cntT (oN O) (oS O) (oL O) 0)), (2, .int (cntT (oN O) (oS O) (oL O) 3)), (3, .int (cntT (oN O) (oS O) (oL O) 6)), (4, .int (cntT (oN O) (oS O) (oL O) 7)), (5, .int (cntT (oN O) (oS O) (oL O) 4)), (8, .int (nI i))] dL_hour_160 (by decide) rfl ?_
            refine x_iinc C 11 [(8, .int (nI (i + 1))), (7, .int ((cnt (fun k => enP (oN O) k) i) + (b2i (enP (oN O) i)))), (6, .int ((sm (byS (oN O)) i) + (byS (oN O) i))), (11, .int (byS (oN O) i)), (10, .int (tlS (oN O) (nI i) 2)), (9, .int (b2i ((rsnS (oN O) (nI i)) = 0))), (0, .ref (aaX a)), (1, .int (cntT (oN O) (oS O) (oL O) 0)), (2, .int (cntT (oN O) (oS O) (oL O) 3)), (3, .int (cntT (oN O) (oS O) (oL O) 6)), (4, .int (cntT (oN O) (oS O) (oL O) 7)), (5, .int (cntT (oN O) (oS O) (oL O) 4))] dL_hour_162 rfl (inc1 i) (by decide) rfl ?_
            refine x_goto (tgt := 43) C dL_hour_165 (by decide) ?_
            refine x_lv [(0, .ref (aaX a)), (1, .int (cntT (oN O) (oS O) (oL O) 0)), (2, .int (cntT (oN O) (oS O) (oL O) 3)), (3, .int (cntT (oN O) (oS O) (oL O) 6)), (4, .int (cntT (oN O) (oS O) (oL O) 7)), (5, .int (cntT (oN O) (oS O) (oL O) 4)), (6, .int (sm (byS (oN O)) (i + 1))), (7, .int (cnt (fun k => enP (oN O) k) (i + 1))), (8, .int (nI (i + 1)))] [6, 7, 8, 9, 10, 11, 2, 1, 0] rfl ?_
            exact ih (i + 1) (by omega)
          refine x_ifb_eq (P := (rsnS (oN O) (nI i)) = 0) C 158 dL_hour_128 (by decide) (fun c_128 => ?_) (fun c_128 => ?_)
          ·
            refine x_iconst (v := 0) C dL_hour_158 (by decide) ?_
            exact j_159 _ ((b2i_f (fun z => c_128 ((en_k hI hk).mpr z).1)).symm)
          ·
            refine x_aload_n C 4 dL_hour_131 rfl rfl ?_
            refine x_iload C 11 dL_hour_132 rfl ?_
            refine x_iconst (v := 4) C dL_hour_134 (by decide) ?_
            refine x_oRO C ([.int (nI i), .int 4]) ([.int (cnt (fun k => enP (oN O) k) i)]) (a := a) (O := O) (na := 2) gL_hour_X6_lamp rfl (by decide +kernel) rfl (oX6_lamp (xl cx) (xG cx) a O (nI i) 4 (S := oN O) rfl hok) rfl rfl rfl ⟨by decide, by decide⟩ (Nat.le_of_ble_eq_true rfl) ⟨by decide, by decide⟩ dL_hour_135 ?_
            refine x_iload C 1 dL_hour_138 rfl ?_
            refine x_iadd C (rfl) dL_hour_140 ?_
            refine x_bipush (v := 10) C dL_hour_141 (by decide) ?_
            refine x_aload_n C 4 dL_hour_143 rfl rfl ?_
            refine x_iload C 11 dL_hour_144 rfl ?_
            refine x_iconst (v := 3) C dL_hour_146 (by decide) ?_
            refine x_oRO C ([.int (nI i), .int 3]) ([.int 10, .int ((tlS (oN O) (nI i) 4) + (byS (oN O) i)), .int (cnt (fun k => enP (oN O) k) i)]) (a := a) (O := O) (na := 2) gL_hour_X6_lamp rfl (by decide +kernel) rfl (oX6_lamp (xl cx) (xG cx) a O (nI i) 3 (S := oN O) rfl hok) rfl rfl rfl ⟨by decide, by decide⟩ (Nat.le_of_ble_eq_true rfl) ⟨by decide, by decide⟩ dL_hour_147 ?_
            refine x_imul C (rfl) dL_hour_150 ?_
            refine x_icmp_lt C 158 dL_hour_151 (by decide) (fun c_151 => ?_) (fun c_151 => ?_)
            ·
              refine x_iconst (v := 0) C dL_hour_158 (by decide) ?_
              exact j_159 _ ((b2i_f (fun z => ((en_k hI hk).mpr z).2 c_151)).symm)
            ·
              refine x_iconst (v := 1) C dL_hour_154 (by decide) ?_
              refine x_goto (tgt := 159) C dL_hour_155 (by decide) ?_
              exact j_159 _ ((b2i_t ((en_k hI hk).mp ⟨c_128, c_151⟩)).symm)
        refine x_ifb_eq (P := (rsnS (oN O) (nI i)) = 0) C 114 dL_hour_80 (by decide) (fun c_80 => ?_) (fun c_80 => ?_)
        ·
          refine x_iconst (v := 0) C dL_hour_114 (by decide) ?_
          exact j_115 _ ((if_neg c_80).symm.trans (by_k hI hk))
        ·
          refine x_aload_n C 2 dL_hour_83 rfl rfl ?_
          refine x_aload_n C 2 dL_hour_84 rfl rfl ?_
          refine x_iload C 10 dL_hour_85 rfl ?_
          refine x_iconst (v := 1) C dL_hour_87 (by decide) ?_
          refine x_oRO C ([.int (nI i), .int 1]) ([.ref (aaX a)]) (a := a) (O := O) (na := 2) gL_hour_X6_lamp rfl (by decide +kernel) rfl (oX6_lamp (xl cx) (xG cx) a O (nI i) 1 (S := oN O) rfl hok) rfl rfl rfl ⟨by decide, by decide⟩ (Nat.le_of_ble_eq_true rfl) ⟨by decide, by decide⟩ dL_hour_88 ?_
          refine x_iload C 0 dL_hour_91 rfl ?_
          refine x_iconst (v := 3) C dL_hour_93 (by decide) ?_
          have j_108 : ∀ v0 : Int32, v0 = (if tlS (oN O) (nI i) 2 = 3 ∨ tlS (oN O) (nI i) 2 = 4 then 4 else 3) → X cx (0, 0) (obW (xG cx) a O) [(10, .int (tlS (oN O) (nI i) 2)), (9, .int (b2i ((rsnS (oN O) (nI i)) = 0))), (0, .ref (aaX a)), (1, .int (cntT (oN O) (oS O) (oL O) 0)), (2, .int (cntT (oN O) (oS O) (oL O) 3)), (3, .int (cntT (oN O) (oS O) (oL O) 6)), (4, .int (cntT (oN O) (oS O) (oL O) 7)), (5, .int (cntT (oN O) (oS O) (oL O) 4)), (6, .int (sm (byS (oN O)) i)), (7, .int (cnt (fun k => enP (oN O) k) i)), (8, .int (nI i))] 108 [.int v0, .int (tlS (oN O) (nI i) 1), .ref (aaX a)] := by
            intro v0 hv0
            subst hv0
            refine x_oRO C ([.int (tlS (oN O) (nI i) 1), .int (if tlS (oN O) (nI i) 2 = 3 ∨ tlS (oN O) (nI i) 2 = 4 then 4 else 3)]) ([]) (a := a) (O := O) (na := 2) gL_hour_X6_rack rfl (by decide +kernel) rfl (oX6_rack (xl cx) (xG cx) a O (tlS (oN O) (nI i) 1) (if tlS (oN O) (nI i) 2 = 3 ∨ tlS (oN O) (nI i) 2 = 4 then 4 else 3) (S := oN O) rfl hok) rfl rfl rfl ⟨by decide, by decide⟩ (Nat.le_of_ble_eq_true rfl) ⟨by decide, by decide⟩ dL_hour_108 ?_
            refine x_goto (tgt := 115) C dL_hour_111 (by decide) ?_
            exact j_115 _ ((if_pos c_80).symm.trans (by_k hI hk))
          refine x_icmp_eq C 103 dL_hour_94 (by decide) (fun c_94 => ?_) (fun c_94 => ?_)
          ·
            refine x_iconst (v := 4) C dL_hour_103 (by decide) ?_
            refine x_goto (tgt := 108) C dL_hour_104 (by decide) ?_
            exact j_108 _ ((if_pos (Or.inl c_94)).symm)
          ·
            refine x_iload C 0 dL_hour_97 rfl ?_
            refine x_iconst (v := 4) C dL_hour_99 (by decide) ?_
            refine x_icmp_ne C 107 dL_hour_100 (by decide) (fun c_100 => ?_) (fun c_100 => ?_)
            ·
              refine x_iconst (v := 3) C dL_hour_107 (by decide) ?_
              exact j_108 _ ((if_neg (fun z => z.elim c_94 c_100)).symm)
            ·
              refine x_iconst (v := 4) C dL_hour_103 (by decide) ?_
              refine x_goto (tgt := 108) C dL_hour_104 (by decide) ?_
              exact j_108 _ ((if_pos (Or.inr c_100)).symm)
      refine x_if_ne C 66 dL_hour_59 (by decide) (fun c_59 => ?_) (fun c_59 => ?_)
      ·
        refine x_iconst (v := 0) C dL_hour_66 (by decide) ?_
        exact j_67 _ ((b2i_f c_59).symm)
      ·
        refine x_iconst (v := 1) C dL_hour_62 (by decide) ?_
        refine x_goto (tgt := 67) C dL_hour_63 (by decide) ?_
        exact j_67 _ ((b2i_t c_59).symm)
  refine x_lv [(0, .ref (aaX a)), (1, .int (cntT (oN O) (oS O) (oL O) 0)), (2, .int (cntT (oN O) (oS O) (oL O) 3)), (3, .int (cntT (oN O) (oS O) (oL O) 6)), (4, .int (cntT (oN O) (oS O) (oL O) 7)), (5, .int (cntT (oN O) (oS O) (oL O) 4)), (6, .int (sm (byS (oN O)) 0)), (7, .int (cnt (fun k => enP (oN O) k) 0)), (8, .int (nI 0))] [8, 7, 6, 5, 4, 3, 2, 1, 0] rfl ?_
  exact lp_43 (sN (oN O)) 0 (by omega)
