theorem m_kL_refusesAny_0 : (Cond.constant RL 69 (100000) : Cond) ∈ wsL_refusesAny := by decide +kernel
set_option maxRecDepth 100000 in
set_option maxHeartbeats 4000000 in
theorem kL_refusesAny (l : Launch) (G : GG) (a : AT) (O : OS) {H : Int} (n : Nat) (hn0 : n < 2147483648) (hI : Iv H (oN O)) (hk4 : oK O < 4) (hs4 : oS O ≤ 4) (hl : oL O = 0) : MU l G yL_refusesAny wsL_refusesAny ({ frames := 8, cells := 0, slots := 0, locals := 184 } : Room) [.ref (aaX a), .int (nI n)] (obW G a O) (some (.int 1)) (obW G a (rfuO O)) := by
  refine MU.of (cc := cL_refusesAny) (maxL := 6) (ret := (some .boolean)) (by decide) rfl (Nat.le_of_ble_eq_true rfl) ?_
  intro cx hxl hxG C M E
  subst hxl
  subst hxG
  show X cx (0, 0) (obW (xG cx) a O) [(0, .ref (aaX a)), (1, .int (nI n))] 0 []
  have hok : okS (oN O) := hI.okS
  have hn : sN (oN O) ≤ 60 := hI.n60
  refine x_iload_n C 1 dL_refusesAny_0 rfl rfl ?_
  refine x_iconst (v := 2) C dL_refusesAny_1 (by decide) ?_
  refine x_irem C (pk_rem (a := n) (d := 2) (by omega) (by omega) (by omega)) dL_refusesAny_2 (by decide) ?_
  have j_22 : ∀ v0 : Int32, v0 = (if (nI (n % 2)) = 0 then (-1) - (nI (n % 99)) else nI (60 + (n % 99))) → X cx (0, 0) (obW (xG cx) a O) [(0, .ref (aaX a)), (1, .int (nI n))] 22 [.int v0] := by
    intro v0 hv0
    subst hv0
    obtain ⟨vn, evn⟩ : ∃ v0 : Int32, (if (nI (n % 2)) = 0 then (-1) - (nI (n % 99)) else nI (60 + (n % 99))) = v0 := ⟨_, rfl⟩
    have hvn : ¬ (0 ≤ vn ∧ vn ≤ nI (sN (oN O)) - 1) := by
      rw [← evn]
      exact bad_l hn (by omega)
    refine x_top (y := vn) (evn) ?_
    refine x_istore_n C [(2, .int vn), (0, .ref (aaX a)), (1, .int (nI n))] dL_refusesAny_22 rfl (by decide) rfl ?_
    refine x_iload_n C 2 dL_refusesAny_23 rfl rfl ?_
    refine x_iconst (v := 2) C dL_refusesAny_24 (by decide) ?_
    refine x_irem C (pk_rem (a := n) (d := 2) (by omega) (by omega) (by omega)) dL_refusesAny_25 (by decide) ?_
    have j_44 : ∀ v0 : Int32, v0 = (if (nI (n % 2)) = 0 then (-1) - (nI (n % 99)) else nI (3 + (n % 99))) → X cx (0, 0) (obW (xG cx) a O) [(2, .int vn), (0, .ref (aaX a)), (1, .int (nI n))] 44 [.int v0] := by
      intro v0 hv0
      subst hv0
      obtain ⟨vr, evr⟩ : ∃ v0 : Int32, (if (nI (n % 2)) = 0 then (-1) - (nI (n % 99)) else nI (3 + (n % 99))) = v0 := ⟨_, rfl⟩
      have hvr : ¬ (0 ≤ vr ∧ vr ≤ 2) := by
        rw [← evr]
        exact bad_r (M := 2) (K := 3) e2_ti (by omega) (by omega) (by omega)
      refine x_top (y := vr) (evr) ?_
      refine x_istore_n C [(3, .int vr), (2, .int vn), (0, .ref (aaX a)), (1, .int (nI n))] dL_refusesAny_44 rfl (by decide) rfl ?_
      refine x_iload_n C 3 dL_refusesAny_45 rfl rfl ?_
      refine x_iconst (v := 2) C dL_refusesAny_46 (by decide) ?_
      refine x_irem C (pk_rem (a := n) (d := 2) (by omega) (by omega) (by omega)) dL_refusesAny_47 (by decide) ?_
      have j_67 : ∀ v0 : Int32, v0 = (if (nI (n % 2)) = 0 then (-1) - (nI (n % 99)) else nI (8 + (n % 99))) → X cx (0, 0) (obW (xG cx) a O) [(3, .int vr), (2, .int vn), (0, .ref (aaX a)), (1, .int (nI n))] 67 [.int v0] := by
        intro v0 hv0
        subst hv0
        obtain ⟨vp, evp⟩ : ∃ v0 : Int32, (if (nI (n % 2)) = 0 then (-1) - (nI (n % 99)) else nI (8 + (n % 99))) = v0 := ⟨_, rfl⟩
        have hvp : ¬ (0 ≤ vp ∧ vp ≤ 7) := by
          rw [← evp]
          exact bad_r (M := 7) (K := 8) e7_ti (by omega) (by omega) (by omega)
        refine x_top (y := vp) (evp) ?_
        refine x_istore C [(4, .int vp), (3, .int vr), (2, .int vn), (0, .ref (aaX a)), (1, .int (nI n))] dL_refusesAny_67 (by decide) rfl ?_
        refine x_aload_n C 3 dL_refusesAny_69 rfl rfl ?_
        refine x_iload_n C 4 dL_refusesAny_70 rfl rfl ?_
        refine x_iconst (v := 2) C dL_refusesAny_71 (by decide) ?_
        refine x_irem C (pk_rem (a := n) (d := 2) (by omega) (by omega) (by omega)) dL_refusesAny_72 (by decide) ?_
        have j_82 : ∀ v0 : Int32, v0 = (if (nI (n % 2)) = 0 then (-1) else 6) → X cx (0, 0) (obW (xG cx) a O) [(4, .int vp), (3, .int vr), (2, .int vn), (0, .ref (aaX a)), (1, .int (nI n))] 82 [.int v0, .ref (aaX a)] := by
          intro v0 hv0
          subst hv0
          refine x_iconst (v := 5) C dL_refusesAny_82 (by decide) ?_
          refine x_bipush (v := 99) C dL_refusesAny_83 (by decide) ?_
          refine x_oMU C ([.int (if (nI (n % 2)) = 0 then (-1) else 6), .int 5, .int 99]) ([]) (a := a) (O := O) (O' := setB O) (na := 3) gL_refusesAny_X6_setBatch rfl (by decide +kernel) rfl M (oX6_setBatch_no (xl cx) (xG cx) a O (if (nI (n % 2)) = 0 then (-1) else 6) 5 99 hk4 hs4 (v0 := (-1001)) (chBatch_u (pif (fun v => ¬ (0 ≤ v ∧ v ≤ 5)) (by decide) (by decide))) (by decide)) rfl rfl rfl ⟨by decide, by decide⟩ (Nat.le_of_ble_eq_true rfl) ⟨by decide, by decide⟩ dL_refusesAny_85 ?_
          refine x_sipush (v := (-1001)) C dL_refusesAny_88 (by decide) ?_
          refine x_icmp_ne C 382 dL_refusesAny_91 (by decide) (fun h => absurd h (by decide)) (fun _ => ?_)
          refine x_aload_n C 3 dL_refusesAny_94 rfl rfl ?_
          refine x_iconst (v := 0) C dL_refusesAny_95 (by decide) ?_
          refine x_iload_n C 4 dL_refusesAny_96 rfl rfl ?_
          refine x_iconst (v := 2) C dL_refusesAny_97 (by decide) ?_
          refine x_irem C (pk_rem (a := n) (d := 2) (by omega) (by omega) (by omega)) dL_refusesAny_98 (by decide) ?_
          have j_110 : ∀ v0 : Int32, v0 = (if (nI (n % 2)) = 0 then 9 else 10000) → X cx (0, 0) (obW (xG cx) a (setB O)) [(4, .int vp), (3, .int vr), (2, .int vn), (0, .ref (aaX a)), (1, .int (nI n))] 110 [.int v0, .int 0, .ref (aaX a)] := by
            intro v0 hv0
            subst hv0
            refine x_iconst (v := 0) C dL_refusesAny_110 (by decide) ?_
            refine x_oMU C ([.int 0, .int (if (nI (n % 2)) = 0 then 9 else 10000), .int 0]) ([]) (a := a) (O := setB O) (O' := setB O) (na := 3) gL_refusesAny_X6_setBatch rfl (by decide +kernel) rfl M (oX6_setBatch_nb (xl cx) (xG cx) a O 0 (if (nI (n % 2)) = 0 then 9 else 10000) 0 hk4 hs4 (v0 := (-1002)) (chBatch_v (pif (fun v => ¬ ((10 ≤ v ∧ v ≤ 9999) ∧ (0 ≤ (0 : Int32) ∧ (0 : Int32) ≤ 90))) (by decide) (by decide))) (by decide)) rfl rfl rfl ⟨by decide, by decide⟩ (Nat.le_of_ble_eq_true rfl) ⟨by decide, by decide⟩ dL_refusesAny_111 ?_
            refine x_sipush (v := (-1002)) C dL_refusesAny_114 (by decide) ?_
            refine x_icmp_ne C 382 dL_refusesAny_117 (by decide) (fun h => absurd h (by decide)) (fun _ => ?_)
            refine x_aload_n C 3 dL_refusesAny_120 rfl rfl ?_
            refine x_iconst (v := 0) C dL_refusesAny_121 (by decide) ?_
            refine x_bipush (v := 10) C dL_refusesAny_122 (by decide) ?_
            refine x_iload_n C 4 dL_refusesAny_124 rfl rfl ?_
            refine x_iconst (v := 2) C dL_refusesAny_125 (by decide) ?_
            refine x_irem C (pk_rem (a := n) (d := 2) (by omega) (by omega) (by omega)) dL_refusesAny_126 (by decide) ?_
            have j_136 : ∀ v0 : Int32, v0 = (if (nI (n % 2)) = 0 then (-1) else 91) → X cx (0, 0) (obW (xG cx) a (setB O)) [(4, .int vp), (3, .int vr), (2, .int vn), (0, .ref (aaX a)), (1, .int (nI n))] 136 [.int v0, .int 10, .int 0, .ref (aaX a)] := by
              intro v0 hv0
              subst hv0
              refine x_oMU C ([.int 0, .int 10, .int (if (nI (n % 2)) = 0 then (-1) else 91)]) ([]) (a := a) (O := setB O) (O' := setB O) (na := 3) gL_refusesAny_X6_setBatch rfl (by decide +kernel) rfl M (oX6_setBatch_nb (xl cx) (xG cx) a O 0 10 (if (nI (n % 2)) = 0 then (-1) else 91) hk4 hs4 (v0 := (-1002)) (chBatch_v (pif (fun v => ¬ ((10 ≤ (10 : Int32) ∧ (10 : Int32) ≤ 9999) ∧ (0 ≤ v ∧ v ≤ 90))) (by decide) (by decide))) (by decide)) rfl rfl rfl ⟨by decide, by decide⟩ (Nat.le_of_ble_eq_true rfl) ⟨by decide, by decide⟩ dL_refusesAny_136 ?_
              refine x_sipush (v := (-1002)) C dL_refusesAny_139 (by decide) ?_
              refine x_icmp_ne C 382 dL_refusesAny_142 (by decide) (fun h => absurd h (by decide)) (fun _ => ?_)
              refine x_aload_n C 3 dL_refusesAny_145 rfl rfl ?_
              refine x_iload_n C 4 dL_refusesAny_146 rfl rfl ?_
              refine x_bipush (v := 6) C dL_refusesAny_147 (by decide) ?_
              refine x_irem C (pk_rem (a := n) (d := 6) (by omega) (by omega) (by omega)) dL_refusesAny_149 (by decide) ?_
              refine x_aload_n C 3 dL_refusesAny_150 rfl rfl ?_
              refine x_iload_n C 4 dL_refusesAny_151 rfl rfl ?_
              refine x_bipush (v := 6) C dL_refusesAny_152 (by decide) ?_
              refine x_irem C (pk_rem (a := n) (d := 6) (by omega) (by omega) (by omega)) dL_refusesAny_154 (by decide) ?_
              refine x_iconst (v := 0) C dL_refusesAny_155 (by decide) ?_
              refine x_oRO C ([.int (nI (n % 6)), .int 0]) ([.int (nI (n % 6)), .ref (aaX a)]) (a := a) (O := setB O) (na := 2) gL_refusesAny_X6_batch rfl (by decide +kernel) rfl (oX6_batch (xl cx) (xG cx) a (setB O) (nI (n % 6)) 0 (S := oN (setB O)) rfl hok) rfl rfl rfl ⟨by decide, by decide⟩ (Nat.le_of_ble_eq_true rfl) ⟨by decide, by decide⟩ dL_refusesAny_156 ?_
              refine x_top (y := sA (oN O) 0 (n % 6)) (tb_w (by omega) 0) ?_
              refine x_aload_n C 3 dL_refusesAny_159 rfl rfl ?_
              refine x_iload_n C 4 dL_refusesAny_160 rfl rfl ?_
              refine x_bipush (v := 6) C dL_refusesAny_161 (by decide) ?_
              refine x_irem C (pk_rem (a := n) (d := 6) (by omega) (by omega) (by omega)) dL_refusesAny_163 (by decide) ?_
              refine x_iconst (v := 1) C dL_refusesAny_164 (by decide) ?_
              refine x_oRO C ([.int (nI (n % 6)), .int 1]) ([.int (sA (oN O) 0 (n % 6)), .int (nI (n % 6)), .ref (aaX a)]) (a := a) (O := setB O) (na := 2) gL_refusesAny_X6_batch rfl (by decide +kernel) rfl (oX6_batch (xl cx) (xG cx) a (setB O) (nI (n % 6)) 1 (S := oN (setB O)) rfl hok) rfl rfl rfl ⟨by decide, by decide⟩ (Nat.le_of_ble_eq_true rfl) ⟨by decide, by decide⟩ dL_refusesAny_165 ?_
              refine x_top (y := sA (oN O) 1 (n % 6)) (tb_w (by omega) 1) ?_
              refine x_oMU C ([.int (nI (n % 6)), .int (sA (oN O) 0 (n % 6)), .int (sA (oN O) 1 (n % 6))]) ([]) (a := a) (O := setB O) (O' := setB O) (na := 3) gL_refusesAny_X6_setBatch rfl (by decide +kernel) rfl M (oX6_setBatch_nb (xl cx) (xG cx) a O (nI (n % 6)) (sA (oN O) 0 (n % 6)) (sA (oN O) 1 (n % 6)) hk4 hs4 (v0 := (-1005)) (chBatch_n hI (by omega)) (by decide)) rfl rfl rfl ⟨by decide, by decide⟩ (Nat.le_of_ble_eq_true rfl) ⟨by decide, by decide⟩ dL_refusesAny_168 ?_
              refine x_sipush (v := (-1005)) C dL_refusesAny_171 (by decide) ?_
              refine x_icmp_ne C 382 dL_refusesAny_174 (by decide) (fun h => absurd h (by decide)) (fun _ => ?_)
              refine x_aload_n C 3 dL_refusesAny_177 rfl rfl ?_
              refine x_iload_n C 1 dL_refusesAny_178 rfl rfl ?_
              refine x_iconst (v := 0) C dL_refusesAny_179 (by decide) ?_
              refine x_iconst (v := 0) C dL_refusesAny_180 (by decide) ?_
              refine x_oMU C ([.int vr, .int 0, .int 0]) ([]) (a := a) (O := setB O) (O' := setB O) (na := 3) gL_refusesAny_X6_put rfl (by decide +kernel) rfl M (oX6_put_nb (xl cx) (xG cx) a O vr 0 0 hk4 hs4 hok (v0 := (-1001)) (insS_r hvr) (by decide)) rfl rfl rfl ⟨by decide, by decide⟩ (Nat.le_of_ble_eq_true rfl) ⟨by decide, by decide⟩ dL_refusesAny_181 ?_
              refine x_sipush (v := (-1001)) C dL_refusesAny_184 (by decide) ?_
              refine x_icmp_ne C 382 dL_refusesAny_187 (by decide) (fun h => absurd h (by decide)) (fun _ => ?_)
              refine x_aload_n C 3 dL_refusesAny_190 rfl rfl ?_
              refine x_iconst (v := 0) C dL_refusesAny_191 (by decide) ?_
              refine x_iload C 0 dL_refusesAny_192 rfl ?_
              refine x_iconst (v := 0) C dL_refusesAny_194 (by decide) ?_
              refine x_oMU C ([.int 0, .int vp, .int 0]) ([]) (a := a) (O := setB O) (O' := setB O) (na := 3) gL_refusesAny_X6_put rfl (by decide +kernel) rfl M (oX6_put_nb (xl cx) (xG cx) a O 0 vp 0 hk4 hs4 hok (v0 := (-1001)) (insS_p hvp) (by decide)) rfl rfl rfl ⟨by decide, by decide⟩ (Nat.le_of_ble_eq_true rfl) ⟨by decide, by decide⟩ dL_refusesAny_195 ?_
              refine x_sipush (v := (-1001)) C dL_refusesAny_198 (by decide) ?_
              refine x_icmp_ne C 382 dL_refusesAny_201 (by decide) (fun h => absurd h (by decide)) (fun _ => ?_)
              refine x_aload_n C 3 dL_refusesAny_204 rfl rfl ?_
              refine x_iconst (v := 0) C dL_refusesAny_205 (by decide) ?_
              refine x_iconst (v := 0) C dL_refusesAny_206 (by decide) ?_
              refine x_iload_n C 4 dL_refusesAny_207 rfl rfl ?_
              refine x_iconst (v := 2) C dL_refusesAny_208 (by decide) ?_
              refine x_irem C (pk_rem (a := n) (d := 2) (by omega) (by omega) (by omega)) dL_refusesAny_209 (by decide) ?_
              have j_219 : ∀ v0 : Int32, v0 = (if (nI (n % 2)) = 0 then (-1) else 6) → X cx (0, 0) (obW (xG cx) a (setB O)) [(4, .int vp), (3, .int vr), (2, .int vn), (0, .ref (aaX a)), (1, .int (nI n))] 219 [.int v0, .int 0, .int 0, .ref (aaX a)] := by
                intro v0 hv0
                subst hv0
                refine x_oMU C ([.int 0, .int 0, .int (if (nI (n % 2)) = 0 then (-1) else 6)]) ([]) (a := a) (O := setB O) (O' := setB O) (na := 3) gL_refusesAny_X6_put rfl (by decide +kernel) rfl M (oX6_put_nb (xl cx) (xG cx) a O 0 0 (if (nI (n % 2)) = 0 then (-1) else 6) hk4 hs4 hok (v0 := (-1001)) (insS_b (pif (fun v => ¬ (0 ≤ v ∧ v ≤ 5)) (by decide) (by decide))) (by decide)) rfl rfl rfl ⟨by decide, by decide⟩ (Nat.le_of_ble_eq_true rfl) ⟨by decide, by decide⟩ dL_refusesAny_219 ?_
                refine x_sipush (v := (-1001)) C dL_refusesAny_222 (by decide) ?_
                refine x_icmp_ne C 382 dL_refusesAny_225 (by decide) (fun h => absurd h (by decide)) (fun _ => ?_)
                refine x_aload_n C 3 dL_refusesAny_228 rfl rfl ?_
                refine x_iconst (v := 1) C dL_refusesAny_229 (by decide) ?_
                refine x_iconst (v := 3) C dL_refusesAny_230 (by decide) ?_
                refine x_oRO C ([.int 1, .int 3]) ([]) (a := a) (O := setB O) (na := 2) gL_refusesAny_X6_at rfl (by decide +kernel) rfl (oX6_at (xl cx) (xG cx) a (setB O) 1 3 (S := oN (setB O)) rfl hok) rfl rfl rfl ⟨by decide, by decide⟩ (Nat.le_of_ble_eq_true rfl) ⟨by decide, by decide⟩ dL_refusesAny_231 ?_
                have j_250 : X cx (0, 0) (obW (xG cx) a (setB O)) [(4, .int vp), (3, .int vr), (2, .int vn), (0, .ref (aaX a)), (1, .int (nI n))] 250 [] := by
                  refine x_aload_n C 3 dL_refusesAny_250 rfl rfl ?_
                  refine x_iload_n C 1 dL_refusesAny_251 rfl rfl ?_
                  refine x_iconst (v := 0) C dL_refusesAny_252 (by decide) ?_
                  refine x_oMU C ([.int vr, .int 0]) ([]) (a := a) (O := setB O) (O' := setB O) (na := 2) gL_refusesAny_X6_takeOut rfl (by decide +kernel) rfl M (oX6_takeOut_nb (xl cx) (xG cx) a O vr 0 hk4 hs4 hok (v0 := (-1001)) (rmS_r hvr) (by decide)) rfl rfl rfl ⟨by decide, by decide⟩ (Nat.le_of_ble_eq_true rfl) ⟨by decide, by decide⟩ dL_refusesAny_253 ?_
                  refine x_sipush (v := (-1001)) C dL_refusesAny_256 (by decide) ?_
                  refine x_icmp_ne C 382 dL_refusesAny_259 (by decide) (fun h => absurd h (by decide)) (fun _ => ?_)
                  refine x_aload_n C 3 dL_refusesAny_262 rfl rfl ?_
                  refine x_iconst (v := 0) C dL_refusesAny_263 (by decide) ?_
                  refine x_iload C 0 dL_refusesAny_264 rfl ?_
                  refine x_oMU C ([.int 0, .int vp]) ([]) (a := a) (O := setB O) (O' := setB O) (na := 2) gL_refusesAny_X6_takeOut rfl (by decide +kernel) rfl M (oX6_takeOut_nb (xl cx) (xG cx) a O 0 vp hk4 hs4 hok (v0 := (-1001)) (rmS_p hvp) (by decide)) rfl rfl rfl ⟨by decide, by decide⟩ (Nat.le_of_ble_eq_true rfl) ⟨by decide, by decide⟩ dL_refusesAny_266 ?_
                  refine x_sipush (v := (-1001)) C dL_refusesAny_269 (by decide) ?_
                  refine x_icmp_ne C 382 dL_refusesAny_272 (by decide) (fun h => absurd h (by decide)) (fun _ => ?_)
                  refine x_aload_n C 3 dL_refusesAny_275 rfl rfl ?_
                  refine x_iconst (v := 2) C dL_refusesAny_276 (by decide) ?_
                  refine x_iconst (v := 2) C dL_refusesAny_277 (by decide) ?_
                  refine x_oRO C ([.int 2, .int 2]) ([]) (a := a) (O := setB O) (na := 2) gL_refusesAny_X6_at rfl (by decide +kernel) rfl (oX6_at (xl cx) (xG cx) a (setB O) 2 2 (S := oN (setB O)) rfl hok) rfl rfl rfl ⟨by decide, by decide⟩ (Nat.le_of_ble_eq_true rfl) ⟨by decide, by decide⟩ dL_refusesAny_278 ?_
                  have j_296 : X cx (0, 0) (obW (xG cx) a (setB O)) [(4, .int vp), (3, .int vr), (2, .int vn), (0, .ref (aaX a)), (1, .int (nI n))] 296 [] := by
                    refine x_aload_n C 3 dL_refusesAny_296 rfl rfl ?_
                    refine x_iload_n C 1 dL_refusesAny_297 rfl rfl ?_
                    refine x_iconst (v := 0) C dL_refusesAny_298 (by decide) ?_
                    refine x_iconst (v := 0) C dL_refusesAny_299 (by decide) ?_
                    refine x_iconst (v := 0) C dL_refusesAny_300 (by decide) ?_
                    refine x_oMU C ([.int vr, .int 0, .int 0, .int 0]) ([]) (a := a) (O := setB O) (O' := setB O) (na := 4) gL_refusesAny_X6_swap rfl (by decide +kernel) rfl M (oX6_swap_nb (xl cx) (xG cx) a O vr 0 0 0 hk4 hs4 hok (v0 := (-1001)) (exS_1 hvr) (by decide)) rfl rfl rfl ⟨by decide, by decide⟩ (Nat.le_of_ble_eq_true rfl) ⟨by decide, by decide⟩ dL_refusesAny_301 ?_
                    refine x_sipush (v := (-1001)) C dL_refusesAny_304 (by decide) ?_
                    refine x_icmp_ne C 382 dL_refusesAny_307 (by decide) (fun h => absurd h (by decide)) (fun _ => ?_)
                    refine x_aload_n C 3 dL_refusesAny_310 rfl rfl ?_
                    refine x_iconst (v := 0) C dL_refusesAny_311 (by decide) ?_
                    refine x_iload C 0 dL_refusesAny_312 rfl ?_
                    refine x_iconst (v := 0) C dL_refusesAny_314 (by decide) ?_
                    refine x_iconst (v := 0) C dL_refusesAny_315 (by decide) ?_
                    refine x_oMU C ([.int 0, .int vp, .int 0, .int 0]) ([]) (a := a) (O := setB O) (O' := setB O) (na := 4) gL_refusesAny_X6_swap rfl (by decide +kernel) rfl M (oX6_swap_nb (xl cx) (xG cx) a O 0 vp 0 0 hk4 hs4 hok (v0 := (-1001)) (exS_2 hvp) (by decide)) rfl rfl rfl ⟨by decide, by decide⟩ (Nat.le_of_ble_eq_true rfl) ⟨by decide, by decide⟩ dL_refusesAny_316 ?_
                    refine x_sipush (v := (-1001)) C dL_refusesAny_319 (by decide) ?_
                    refine x_icmp_ne C 382 dL_refusesAny_322 (by decide) (fun h => absurd h (by decide)) (fun _ => ?_)
                    refine x_aload_n C 3 dL_refusesAny_325 rfl rfl ?_
                    refine x_iconst (v := 0) C dL_refusesAny_326 (by decide) ?_
                    refine x_iconst (v := 0) C dL_refusesAny_327 (by decide) ?_
                    refine x_iload_n C 1 dL_refusesAny_328 rfl rfl ?_
                    refine x_iconst (v := 0) C dL_refusesAny_329 (by decide) ?_
                    refine x_oMU C ([.int 0, .int 0, .int vr, .int 0]) ([]) (a := a) (O := setB O) (O' := setB O) (na := 4) gL_refusesAny_X6_swap rfl (by decide +kernel) rfl M (oX6_swap_nb (xl cx) (xG cx) a O 0 0 vr 0 hk4 hs4 hok (v0 := (-1001)) (exS_3 hvr) (by decide)) rfl rfl rfl ⟨by decide, by decide⟩ (Nat.le_of_ble_eq_true rfl) ⟨by decide, by decide⟩ dL_refusesAny_330 ?_
                    refine x_sipush (v := (-1001)) C dL_refusesAny_333 (by decide) ?_
                    refine x_icmp_ne C 382 dL_refusesAny_336 (by decide) (fun h => absurd h (by decide)) (fun _ => ?_)
                    refine x_aload_n C 3 dL_refusesAny_339 rfl rfl ?_
                    refine x_iconst (v := 0) C dL_refusesAny_340 (by decide) ?_
                    refine x_iconst (v := 0) C dL_refusesAny_341 (by decide) ?_
                    refine x_iconst (v := 0) C dL_refusesAny_342 (by decide) ?_
                    refine x_iload C 0 dL_refusesAny_343 rfl ?_
                    refine x_oMU C ([.int 0, .int 0, .int 0, .int vp]) ([]) (a := a) (O := setB O) (O' := setB O) (na := 4) gL_refusesAny_X6_swap rfl (by decide +kernel) rfl M (oX6_swap_nb (xl cx) (xG cx) a O 0 0 0 vp hk4 hs4 hok (v0 := (-1001)) (exS_4 hvp) (by decide)) rfl rfl rfl ⟨by decide, by decide⟩ (Nat.le_of_ble_eq_true rfl) ⟨by decide, by decide⟩ dL_refusesAny_345 ?_
                    refine x_sipush (v := (-1001)) C dL_refusesAny_348 (by decide) ?_
                    refine x_icmp_ne C 382 dL_refusesAny_351 (by decide) (fun h => absurd h (by decide)) (fun _ => ?_)
                    refine x_aload_n C 3 dL_refusesAny_354 rfl rfl ?_
                    refine x_iload_n C 4 dL_refusesAny_355 rfl rfl ?_
                    refine x_iconst (v := 3) C dL_refusesAny_356 (by decide) ?_
                    refine x_irem C (pk_rem (a := n) (d := 3) (by omega) (by omega) (by omega)) dL_refusesAny_357 (by decide) ?_
                    refine x_iload_n C 4 dL_refusesAny_358 rfl rfl ?_
                    refine x_bipush (v := 8) C dL_refusesAny_359 (by decide) ?_
                    refine x_irem C (pk_rem (a := n) (d := 8) (by omega) (by omega) (by omega)) dL_refusesAny_361 (by decide) ?_
                    refine x_iload_n C 4 dL_refusesAny_362 rfl rfl ?_
                    refine x_iconst (v := 3) C dL_refusesAny_363 (by decide) ?_
                    refine x_irem C (pk_rem (a := n) (d := 3) (by omega) (by omega) (by omega)) dL_refusesAny_364 (by decide) ?_
                    refine x_iload_n C 4 dL_refusesAny_365 rfl rfl ?_
                    refine x_bipush (v := 8) C dL_refusesAny_366 (by decide) ?_
                    refine x_irem C (pk_rem (a := n) (d := 8) (by omega) (by omega) (by omega)) dL_refusesAny_368 (by decide) ?_
                    refine x_oMU C ([.int (nI (n % 3)), .int (nI (n % 8)), .int (nI (n % 3)), .int (nI (n % 8))]) ([]) (a := a) (O := setB O) (O' := setB O) (na := 4) gL_refusesAny_X6_swap rfl (by decide +kernel) rfl M (oX6_swap_nb (xl cx) (xG cx) a O (nI (n % 3)) (nI (n % 8)) (nI (n % 3)) (nI (n % 8)) hk4 hs4 hok (v0 := (-1005)) (exS_n hI (by omega) (by omega)) (by decide)) rfl rfl rfl ⟨by decide, by decide⟩ (Nat.le_of_ble_eq_true rfl) ⟨by decide, by decide⟩ dL_refusesAny_369 ?_
                    refine x_sipush (v := (-1005)) C dL_refusesAny_372 (by decide) ?_
                    refine x_icmp_ne C 382 dL_refusesAny_375 (by decide) (fun h => absurd h (by decide)) (fun _ => ?_)
                    refine x_iconst (v := 1) C dL_refusesAny_378 (by decide) ?_
                    refine x_goto (tgt := 383) C dL_refusesAny_379 (by decide) ?_
                    refine x_istore C [(5, .int 1), (4, .int vp), (3, .int vr), (2, .int vn), (0, .ref (aaX a)), (1, .int (nI n))] dL_refusesAny_383 (by decide) rfl ?_
                    refine x_iload C 0 dL_refusesAny_385 rfl ?_
                    refine x_if_eq C 635 dL_refusesAny_387 (by decide) (fun h => absurd h (by decide)) (fun _ => ?_)
                    refine x_aload_n C 4 dL_refusesAny_390 rfl rfl ?_
                    refine x_iload_n C 2 dL_refusesAny_391 rfl rfl ?_
                    refine x_sipush (v := 999) C dL_refusesAny_392 (by decide) ?_
                    refine x_oMU C ([.int vr, .int 999]) ([]) (a := a) (O := setB O) (O' := setB O) (na := 2) gL_refusesAny_X6_setVolts rfl (by decide +kernel) rfl M (oX6_setVolts_nb (xl cx) (xG cx) a O vr 999 hk4 hs4 (v0 := (-1001)) (chVolts_r hvr) (by decide)) rfl rfl rfl ⟨by decide, by decide⟩ (Nat.le_of_ble_eq_true rfl) ⟨by decide, by decide⟩ dL_refusesAny_395 ?_
                    refine x_sipush (v := (-1001)) C dL_refusesAny_398 (by decide) ?_
                    refine x_icmp_ne C 635 dL_refusesAny_401 (by decide) (fun h => absurd h (by decide)) (fun _ => ?_)
                    refine x_aload_n C 4 dL_refusesAny_404 rfl rfl ?_
                    refine x_iconst (v := 0) C dL_refusesAny_405 (by decide) ?_
                    refine x_iload_n C 5 dL_refusesAny_406 rfl rfl ?_
                    refine x_iconst (v := 2) C dL_refusesAny_407 (by decide) ?_
                    refine x_irem C (pk_rem (a := n) (d := 2) (by omega) (by omega) (by omega)) dL_refusesAny_408 (by decide) ?_
                    have j_419 : ∀ v0 : Int32, v0 = (if (nI (n % 2)) = 0 then (-1) else 301) → X cx (0, 0) (obW (xG cx) a (setB O)) [(5, .int 1), (4, .int vp), (3, .int vr), (2, .int vn), (0, .ref (aaX a)), (1, .int (nI n))] 419 [.int v0, .int 0, .ref (aaX a)] := by
                      intro v0 hv0
                      subst hv0
                      refine x_oMU C ([.int 0, .int (if (nI (n % 2)) = 0 then (-1) else 301)]) ([]) (a := a) (O := setB O) (O' := setB O) (na := 2) gL_refusesAny_X6_setVolts rfl (by decide +kernel) rfl M (oX6_setVolts_nb (xl cx) (xG cx) a O 0 (if (nI (n % 2)) = 0 then (-1) else 301) hk4 hs4 (v0 := (-1002)) (chVolts_v (pif (fun v => ¬ (0 ≤ v ∧ v ≤ 300)) (by decide) (by decide))) (by decide)) rfl rfl rfl ⟨by decide, by decide⟩ (Nat.le_of_ble_eq_true rfl) ⟨by decide, by decide⟩ dL_refusesAny_419 ?_
                      refine x_sipush (v := (-1002)) C dL_refusesAny_422 (by decide) ?_
                      refine x_icmp_ne C 635 dL_refusesAny_425 (by decide) (fun h => absurd h (by decide)) (fun _ => ?_)
                      refine x_aload_n C 4 dL_refusesAny_428 rfl rfl ?_
                      refine x_iload_n C 5 dL_refusesAny_429 rfl rfl ?_
                      refine x_iconst (v := 3) C dL_refusesAny_430 (by decide) ?_
                      refine x_irem C (pk_rem (a := n) (d := 3) (by omega) (by omega) (by omega)) dL_refusesAny_431 (by decide) ?_
                      refine x_aload_n C 4 dL_refusesAny_432 rfl rfl ?_
                      refine x_iload_n C 5 dL_refusesAny_433 rfl rfl ?_
                      refine x_iconst (v := 3) C dL_refusesAny_434 (by decide) ?_
                      refine x_irem C (pk_rem (a := n) (d := 3) (by omega) (by omega) (by omega)) dL_refusesAny_435 (by decide) ?_
                      refine x_iconst (v := 0) C dL_refusesAny_436 (by decide) ?_
                      refine x_oRO C ([.int (nI (n % 3)), .int 0]) ([.int (nI (n % 3)), .ref (aaX a)]) (a := a) (O := setB O) (na := 2) gL_refusesAny_X6_rack rfl (by decide +kernel) rfl (oX6_rack (xl cx) (xG cx) a (setB O) (nI (n % 3)) 0 (S := oN (setB O)) rfl hok) rfl rfl rfl ⟨by decide, by decide⟩ (Nat.le_of_ble_eq_true rfl) ⟨by decide, by decide⟩ dL_refusesAny_437 ?_
                      refine x_top (y := sA (oN O) 9 (n % 3)) (tr_w (by omega) 0) ?_
                      refine x_oMU C ([.int (nI (n % 3)), .int (sA (oN O) 9 (n % 3))]) ([]) (a := a) (O := setB O) (O' := setB O) (na := 2) gL_refusesAny_X6_setVolts rfl (by decide +kernel) rfl M (oX6_setVolts_nb (xl cx) (xG cx) a O (nI (n % 3)) (sA (oN O) 9 (n % 3)) hk4 hs4 (v0 := (-1005)) (chVolts_n hI (by omega)) (by decide)) rfl rfl rfl ⟨by decide, by decide⟩ (Nat.le_of_ble_eq_true rfl) ⟨by decide, by decide⟩ dL_refusesAny_440 ?_
                      refine x_sipush (v := (-1005)) C dL_refusesAny_443 (by decide) ?_
                      refine x_icmp_ne C 635 dL_refusesAny_446 (by decide) (fun h => absurd h (by decide)) (fun _ => ?_)
                      refine x_aload_n C 4 dL_refusesAny_449 rfl rfl ?_
                      refine x_iload_n C 2 dL_refusesAny_450 rfl rfl ?_
                      refine x_sipush (v := 999) C dL_refusesAny_451 (by decide) ?_
                      refine x_iconst (v := 0) C dL_refusesAny_454 (by decide) ?_
                      refine x_oMU C ([.int vr, .int 999, .int 0]) ([]) (a := a) (O := setB O) (O' := setB O) (na := 3) gL_refusesAny_X6_setSteps rfl (by decide +kernel) rfl M (oX6_setSteps_nb (xl cx) (xG cx) a O vr 999 0 hk4 hs4 (v0 := (-1001)) (chSteps_r hvr) (by decide)) rfl rfl rfl ⟨by decide, by decide⟩ (Nat.le_of_ble_eq_true rfl) ⟨by decide, by decide⟩ dL_refusesAny_455 ?_
                      refine x_sipush (v := (-1001)) C dL_refusesAny_458 (by decide) ?_
                      refine x_icmp_ne C 635 dL_refusesAny_461 (by decide) (fun h => absurd h (by decide)) (fun _ => ?_)
                      refine x_aload_n C 4 dL_refusesAny_464 rfl rfl ?_
                      refine x_iconst (v := 0) C dL_refusesAny_465 (by decide) ?_
                      refine x_iload_n C 5 dL_refusesAny_466 rfl rfl ?_
                      refine x_iconst (v := 2) C dL_refusesAny_467 (by decide) ?_
                      refine x_irem C (pk_rem (a := n) (d := 2) (by omega) (by omega) (by omega)) dL_refusesAny_468 (by decide) ?_
                      have j_478 : ∀ v0 : Int32, v0 = (if (nI (n % 2)) = 0 then (-1) else 100) → X cx (0, 0) (obW (xG cx) a (setB O)) [(5, .int 1), (4, .int vp), (3, .int vr), (2, .int vn), (0, .ref (aaX a)), (1, .int (nI n))] 478 [.int v0, .int 0, .ref (aaX a)] := by
                        intro v0 hv0
                        subst hv0
                        refine x_iconst (v := 0) C dL_refusesAny_478 (by decide) ?_
                        refine x_oMU C ([.int 0, .int (if (nI (n % 2)) = 0 then (-1) else 100), .int 0]) ([]) (a := a) (O := setB O) (O' := setB O) (na := 3) gL_refusesAny_X6_setSteps rfl (by decide +kernel) rfl M (oX6_setSteps_nb (xl cx) (xG cx) a O 0 (if (nI (n % 2)) = 0 then (-1) else 100) 0 hk4 hs4 (v0 := (-1002)) (chSteps_v (pif (fun v => ¬ ((0 ≤ v ∧ v ≤ 99) ∧ (-50 ≤ (0 : Int32) ∧ (0 : Int32) ≤ 50))) (by decide) (by decide))) (by decide)) rfl rfl rfl ⟨by decide, by decide⟩ (Nat.le_of_ble_eq_true rfl) ⟨by decide, by decide⟩ dL_refusesAny_479 ?_
                        refine x_sipush (v := (-1002)) C dL_refusesAny_482 (by decide) ?_
                        refine x_icmp_ne C 635 dL_refusesAny_485 (by decide) (fun h => absurd h (by decide)) (fun _ => ?_)
                        refine x_aload_n C 4 dL_refusesAny_488 rfl rfl ?_
                        refine x_iconst (v := 0) C dL_refusesAny_489 (by decide) ?_
                        refine x_iconst (v := 1) C dL_refusesAny_490 (by decide) ?_
                        refine x_iload_n C 5 dL_refusesAny_491 rfl rfl ?_
                        refine x_iconst (v := 2) C dL_refusesAny_492 (by decide) ?_
                        refine x_irem C (pk_rem (a := n) (d := 2) (by omega) (by omega) (by omega)) dL_refusesAny_493 (by decide) ?_
                        have j_504 : ∀ v0 : Int32, v0 = (if (nI (n % 2)) = 0 then (-51) else 51) → X cx (0, 0) (obW (xG cx) a (setB O)) [(5, .int 1), (4, .int vp), (3, .int vr), (2, .int vn), (0, .ref (aaX a)), (1, .int (nI n))] 504 [.int v0, .int 1, .int 0, .ref (aaX a)] := by
                          intro v0 hv0
                          subst hv0
                          refine x_oMU C ([.int 0, .int 1, .int (if (nI (n % 2)) = 0 then (-51) else 51)]) ([]) (a := a) (O := setB O) (O' := setB O) (na := 3) gL_refusesAny_X6_setSteps rfl (by decide +kernel) rfl M (oX6_setSteps_nb (xl cx) (xG cx) a O 0 1 (if (nI (n % 2)) = 0 then (-51) else 51) hk4 hs4 (v0 := (-1002)) (chSteps_v (pif (fun v => ¬ ((0 ≤ (1 : Int32) ∧ (1 : Int32) ≤ 99) ∧ (-50 ≤ v ∧ v ≤ 50))) (by decide) (by decide))) (by decide)) rfl rfl rfl ⟨by decide, by decide⟩ (Nat.le_of_ble_eq_true rfl) ⟨by decide, by decide⟩ dL_refusesAny_504 ?_
                          refine x_sipush (v := (-1002)) C dL_refusesAny_507 (by decide) ?_
                          refine x_icmp_ne C 635 dL_refusesAny_510 (by decide) (fun h => absurd h (by decide)) (fun _ => ?_)
                          refine x_aload_n C 4 dL_refusesAny_513 rfl rfl ?_
                          refine x_iload_n C 5 dL_refusesAny_514 rfl rfl ?_
                          refine x_iconst (v := 2) C dL_refusesAny_515 (by decide) ?_
                          refine x_irem C (pk_rem (a := n) (d := 2) (by omega) (by omega) (by omega)) dL_refusesAny_516 (by decide) ?_
                          have j_525 : ∀ v0 : Int32, v0 = (if (nI (n % 2)) = 0 then (-1) else 2) → X cx (0, 0) (obW (xG cx) a (setB O)) [(5, .int 1), (4, .int vp), (3, .int vr), (2, .int vn), (0, .ref (aaX a)), (1, .int (nI n))] 525 [.int v0, .ref (aaX a)] := by
                            intro v0 hv0
                            subst hv0
                            refine x_sipush (v := 999) C dL_refusesAny_525 (by decide) ?_
                            refine x_oMU C ([.int (if (nI (n % 2)) = 0 then (-1) else 2), .int 999]) ([]) (a := a) (O := setB O) (O' := setB O) (na := 2) gL_refusesAny_X6_set rfl (by decide +kernel) rfl M (oX6_set_nb (xl cx) (xG cx) a O (if (nI (n % 2)) = 0 then (-1) else 2) 999 hk4 hs4 (v0 := (-1001)) (chSet_u (pif (fun v => ¬ v = 0) (by decide) (by decide)) (pif (fun v => ¬ v = 1) (by decide) (by decide))) (by decide)) rfl rfl rfl ⟨by decide, by decide⟩ (Nat.le_of_ble_eq_true rfl) ⟨by decide, by decide⟩ dL_refusesAny_528 ?_
                            refine x_sipush (v := (-1001)) C dL_refusesAny_531 (by decide) ?_
                            refine x_icmp_ne C 635 dL_refusesAny_534 (by decide) (fun h => absurd h (by decide)) (fun _ => ?_)
                            refine x_aload_n C 4 dL_refusesAny_537 rfl rfl ?_
                            refine x_iconst (v := 0) C dL_refusesAny_538 (by decide) ?_
                            refine x_iload_n C 5 dL_refusesAny_539 rfl rfl ?_
                            refine x_iconst (v := 2) C dL_refusesAny_540 (by decide) ?_
                            refine x_irem C (pk_rem (a := n) (d := 2) (by omega) (by omega) (by omega)) dL_refusesAny_541 (by decide) ?_
                            have j_553 : ∀ v0 : Int32, v0 = (if (nI (n % 2)) = 0 then 99 else 301) → X cx (0, 0) (obW (xG cx) a (setB O)) [(5, .int 1), (4, .int vp), (3, .int vr), (2, .int vn), (0, .ref (aaX a)), (1, .int (nI n))] 553 [.int v0, .int 0, .ref (aaX a)] := by
                              intro v0 hv0
                              subst hv0
                              refine x_oMU C ([.int 0, .int (if (nI (n % 2)) = 0 then 99 else 301)]) ([]) (a := a) (O := setB O) (O' := setB O) (na := 2) gL_refusesAny_X6_set rfl (by decide +kernel) rfl M (oX6_set_nb (xl cx) (xG cx) a O 0 (if (nI (n % 2)) = 0 then 99 else 301) hk4 hs4 (v0 := (-1002)) (chSet_0 (pif (fun v => ¬ (100 ≤ v ∧ v ≤ 300)) (by decide) (by decide))) (by decide)) rfl rfl rfl ⟨by decide, by decide⟩ (Nat.le_of_ble_eq_true rfl) ⟨by decide, by decide⟩ dL_refusesAny_553 ?_
                              refine x_sipush (v := (-1002)) C dL_refusesAny_556 (by decide) ?_
                              refine x_icmp_ne C 635 dL_refusesAny_559 (by decide) (fun h => absurd h (by decide)) (fun _ => ?_)
                              refine x_aload_n C 4 dL_refusesAny_562 rfl rfl ?_
                              refine x_iconst (v := 1) C dL_refusesAny_563 (by decide) ?_
                              refine x_iload_n C 5 dL_refusesAny_564 rfl rfl ?_
                              refine x_iconst (v := 2) C dL_refusesAny_565 (by decide) ?_
                              refine x_irem C (pk_rem (a := n) (d := 2) (by omega) (by omega) (by omega)) dL_refusesAny_566 (by decide) ?_
                              have j_576 : ∀ v0 : Int32, v0 = (if (nI (n % 2)) = 0 then 0 else 101) → X cx (0, 0) (obW (xG cx) a (setB O)) [(5, .int 1), (4, .int vp), (3, .int vr), (2, .int vn), (0, .ref (aaX a)), (1, .int (nI n))] 576 [.int v0, .int 1, .ref (aaX a)] := by
                                intro v0 hv0
                                subst hv0
                                refine x_oMU C ([.int 1, .int (if (nI (n % 2)) = 0 then 0 else 101)]) ([]) (a := a) (O := setB O) (O' := setB O) (na := 2) gL_refusesAny_X6_set rfl (by decide +kernel) rfl M (oX6_set_nb (xl cx) (xG cx) a O 1 (if (nI (n % 2)) = 0 then 0 else 101) hk4 hs4 (v0 := (-1002)) (chSet_1 (pif (fun v => ¬ (1 ≤ v ∧ v ≤ 100)) (by decide) (by decide))) (by decide)) rfl rfl rfl ⟨by decide, by decide⟩ (Nat.le_of_ble_eq_true rfl) ⟨by decide, by decide⟩ dL_refusesAny_576 ?_
                                refine x_sipush (v := (-1002)) C dL_refusesAny_579 (by decide) ?_
                                refine x_icmp_ne C 635 dL_refusesAny_582 (by decide) (fun h => absurd h (by decide)) (fun _ => ?_)
                                refine x_aload_n C 4 dL_refusesAny_585 rfl rfl ?_
                                refine x_iload_n C 5 dL_refusesAny_586 rfl rfl ?_
                                refine x_iconst (v := 2) C dL_refusesAny_587 (by decide) ?_
                                refine x_irem C (pk_rem (a := n) (d := 2) (by omega) (by omega) (by omega)) dL_refusesAny_588 (by decide) ?_
                                refine x_aload_n C 4 dL_refusesAny_589 rfl rfl ?_
                                refine x_bipush (v := 8) C dL_refusesAny_590 (by decide) ?_
                                refine x_iload_n C 5 dL_refusesAny_592 rfl rfl ?_
                                refine x_iconst (v := 2) C dL_refusesAny_593 (by decide) ?_
                                refine x_irem C (pk_rem (a := n) (d := 2) (by omega) (by omega) (by omega)) dL_refusesAny_594 (by decide) ?_
                                refine x_iadd C (nI_add 8 (n % 2)) dL_refusesAny_595 ?_
                                refine x_oRO C ([.int (nI (8 + (n % 2)))]) ([.int (nI (n % 2)), .ref (aaX a)]) (a := a) (O := setB O) (na := 1) gL_refusesAny_X6_count rfl (by decide +kernel) rfl (oX6_count (xl cx) (xG cx) a (setB O) (nI (8 + (n % 2))) (S := oN (setB O)) rfl hok) rfl rfl rfl ⟨by decide, by decide⟩ (Nat.le_of_ble_eq_true rfl) ⟨by decide, by decide⟩ dL_refusesAny_596 ?_
                                refine x_top (y := if n % 2 = 0 then sWv (oN O) else sDv (oN O)) (cnt_8 _ _ _ _ (by omega)) ?_
                                refine x_oMU C ([.int (nI (n % 2)), .int (if n % 2 = 0 then sWv (oN O) else sDv (oN O))]) ([]) (a := a) (O := setB O) (O' := setB O) (na := 2) gL_refusesAny_X6_set rfl (by decide +kernel) rfl M (oX6_set_nb (xl cx) (xG cx) a O (nI (n % 2)) (if n % 2 = 0 then sWv (oN O) else sDv (oN O)) hk4 hs4 (v0 := (-1005)) (chSet_n hI (by omega)) (by decide)) rfl rfl rfl ⟨by decide, by decide⟩ (Nat.le_of_ble_eq_true rfl) ⟨by decide, by decide⟩ dL_refusesAny_599 ?_
                                refine x_sipush (v := (-1005)) C dL_refusesAny_602 (by decide) ?_
                                refine x_icmp_ne C 635 dL_refusesAny_605 (by decide) (fun h => absurd h (by decide)) (fun _ => ?_)
                                refine x_aload_n C 4 dL_refusesAny_608 rfl rfl ?_
                                refine x_iload_n C 5 dL_refusesAny_609 rfl rfl ?_
                                refine x_iconst (v := 2) C dL_refusesAny_610 (by decide) ?_
                                refine x_irem C (pk_rem (a := n) (d := 2) (by omega) (by omega) (by omega)) dL_refusesAny_611 (by decide) ?_
                                have j_622 : ∀ v0 : Int32, v0 = (if (nI (n % 2)) = 0 then 0 else 1000) → X cx (0, 0) (obW (xG cx) a (setB O)) [(5, .int 1), (4, .int vp), (3, .int vr), (2, .int vn), (0, .ref (aaX a)), (1, .int (nI n))] 622 [.int v0, .ref (aaX a)] := by
                                  intro v0 hv0
                                  subst hv0
                                  refine x_oMU C ([.int (if (nI (n % 2)) = 0 then 0 else 1000)]) ([]) (a := a) (O := setB O) (O' := setB O) (na := 1) gL_refusesAny_X6_pass rfl (by decide +kernel) rfl M (oX6_pass_nb (xl cx) (xG cx) a O (if (nI (n % 2)) = 0 then 0 else 1000) hk4 hs4 hok (v0 := (-1002)) (lpS_v (pif (fun v => ¬ (1 ≤ v ∧ v ≤ 999)) (by decide) (by decide))) (by decide)) rfl rfl rfl ⟨by decide, by decide⟩ (Nat.le_of_ble_eq_true rfl) ⟨by decide, by decide⟩ dL_refusesAny_622 ?_
                                  refine x_sipush (v := (-1002)) C dL_refusesAny_625 (by decide) ?_
                                  refine x_icmp_ne C 635 dL_refusesAny_628 (by decide) (fun h => absurd h (by decide)) (fun _ => ?_)
                                  refine x_iconst (v := 1) C dL_refusesAny_631 (by decide) ?_
                                  refine x_goto (tgt := 636) C dL_refusesAny_632 (by decide) ?_
                                  refine x_istore C [(5, .int 1), (4, .int vp), (3, .int vr), (2, .int vn), (0, .ref (aaX a)), (1, .int (nI n))] dL_refusesAny_636 (by decide) rfl ?_
                                  refine x_iload C 0 dL_refusesAny_638 rfl ?_
                                  refine x_if_eq C 970 dL_refusesAny_640 (by decide) (fun h => absurd h (by decide)) (fun _ => ?_)
                                  refine x_aload_n C 4 dL_refusesAny_643 rfl rfl ?_
                                  refine x_iload_n C 3 dL_refusesAny_644 rfl rfl ?_
                                  refine x_bipush (v := 99) C dL_refusesAny_645 (by decide) ?_
                                  refine x_oRO C ([.int vn, .int 99]) ([]) (a := a) (O := setB O) (na := 2) gL_refusesAny_X6_lamp rfl (by decide +kernel) rfl (oX6_lamp (xl cx) (xG cx) a (setB O) vn 99 (S := oN (setB O)) rfl hok) rfl rfl rfl ⟨by decide, by decide⟩ (Nat.le_of_ble_eq_true rfl) ⟨by decide, by decide⟩ dL_refusesAny_647 ?_
                                  refine x_top (y := (-1001)) (tlS_u hvn) ?_
                                  refine x_sipush (v := (-1001)) C dL_refusesAny_650 (by decide) ?_
                                  refine x_icmp_ne C 970 dL_refusesAny_653 (by decide) (fun h => absurd h (by decide)) (fun _ => ?_)
                                  refine x_aload_n C 4 dL_refusesAny_656 rfl rfl ?_
                                  refine x_iconst (v := 1) C dL_refusesAny_657 (by decide) ?_
                                  refine x_oRO C ([.int 1]) ([]) (a := a) (O := setB O) (na := 1) gL_refusesAny_X6_count rfl (by decide +kernel) rfl (oX6_count (xl cx) (xG cx) a (setB O) 1 (S := oN (setB O)) rfl hok) rfl rfl rfl ⟨by decide, by decide⟩ (Nat.le_of_ble_eq_true rfl) ⟨by decide, by decide⟩ dL_refusesAny_658 ?_
                                  refine x_top (y := nI (sN (oN O))) (cnt_1 _ _ _) ?_
                                  have j_687 : X cx (0, 0) (obW (xG cx) a (setB O)) [(5, .int 1), (4, .int vp), (3, .int vr), (2, .int vn), (0, .ref (aaX a)), (1, .int (nI n))] 687 [] := by
                                    refine x_aload_n C 4 dL_refusesAny_687 rfl rfl ?_
                                    refine x_iload_n C 2 dL_refusesAny_688 rfl rfl ?_
                                    refine x_bipush (v := 99) C dL_refusesAny_689 (by decide) ?_
                                    refine x_oRO C ([.int vr, .int 99]) ([]) (a := a) (O := setB O) (na := 2) gL_refusesAny_X6_rack rfl (by decide +kernel) rfl (oX6_rack (xl cx) (xG cx) a (setB O) vr 99 (S := oN (setB O)) rfl hok) rfl rfl rfl ⟨by decide, by decide⟩ (Nat.le_of_ble_eq_true rfl) ⟨by decide, by decide⟩ dL_refusesAny_691 ?_
                                    refine x_top (y := (-1001)) (trS_u hvr) ?_
                                    refine x_sipush (v := (-1001)) C dL_refusesAny_694 (by decide) ?_
                                    refine x_icmp_ne C 970 dL_refusesAny_697 (by decide) (fun h => absurd h (by decide)) (fun _ => ?_)
                                    refine x_aload_n C 4 dL_refusesAny_700 rfl rfl ?_
                                    refine x_iconst (v := 0) C dL_refusesAny_701 (by decide) ?_
                                    refine x_iload_n C 5 dL_refusesAny_702 rfl rfl ?_
                                    refine x_iconst (v := 2) C dL_refusesAny_703 (by decide) ?_
                                    refine x_irem C (pk_rem (a := n) (d := 2) (by omega) (by omega) (by omega)) dL_refusesAny_704 (by decide) ?_
                                    have j_714 : ∀ v0 : Int32, v0 = (if (nI (n % 2)) = 0 then (-1) else 8) → X cx (0, 0) (obW (xG cx) a (setB O)) [(5, .int 1), (4, .int vp), (3, .int vr), (2, .int vn), (0, .ref (aaX a)), (1, .int (nI n))] 714 [.int v0, .int 0, .ref (aaX a)] := by
                                      intro v0 hv0
                                      subst hv0
                                      refine x_oRO C ([.int 0, .int (if (nI (n % 2)) = 0 then (-1) else 8)]) ([]) (a := a) (O := setB O) (na := 2) gL_refusesAny_X6_rack rfl (by decide +kernel) rfl (oX6_rack (xl cx) (xG cx) a (setB O) 0 (if (nI (n % 2)) = 0 then (-1) else 8) (S := oN (setB O)) rfl hok) rfl rfl rfl ⟨by decide, by decide⟩ (Nat.le_of_ble_eq_true rfl) ⟨by decide, by decide⟩ dL_refusesAny_714 ?_
                                      refine x_top (y := (-1002)) (trS_w) ?_
                                      refine x_sipush (v := (-1002)) C dL_refusesAny_717 (by decide) ?_
                                      refine x_icmp_ne C 970 dL_refusesAny_720 (by decide) (fun h => absurd h (by decide)) (fun _ => ?_)
                                      refine x_aload_n C 4 dL_refusesAny_723 rfl rfl ?_
                                      refine x_iload_n C 2 dL_refusesAny_724 rfl rfl ?_
                                      refine x_iconst (v := 0) C dL_refusesAny_725 (by decide) ?_
                                      refine x_oRO C ([.int vr, .int 0]) ([]) (a := a) (O := setB O) (na := 2) gL_refusesAny_X6_at rfl (by decide +kernel) rfl (oX6_at (xl cx) (xG cx) a (setB O) vr 0 (S := oN (setB O)) rfl hok) rfl rfl rfl ⟨by decide, by decide⟩ (Nat.le_of_ble_eq_true rfl) ⟨by decide, by decide⟩ dL_refusesAny_726 ?_
                                      refine x_top (y := (-1001)) (atS_r hvr) ?_
                                      refine x_sipush (v := (-1001)) C dL_refusesAny_729 (by decide) ?_
                                      refine x_icmp_ne C 970 dL_refusesAny_732 (by decide) (fun h => absurd h (by decide)) (fun _ => ?_)
                                      refine x_aload_n C 4 dL_refusesAny_735 rfl rfl ?_
                                      refine x_iconst (v := 0) C dL_refusesAny_736 (by decide) ?_
                                      refine x_iload C 1 dL_refusesAny_737 rfl ?_
                                      refine x_oRO C ([.int 0, .int vp]) ([]) (a := a) (O := setB O) (na := 2) gL_refusesAny_X6_at rfl (by decide +kernel) rfl (oX6_at (xl cx) (xG cx) a (setB O) 0 vp (S := oN (setB O)) rfl hok) rfl rfl rfl ⟨by decide, by decide⟩ (Nat.le_of_ble_eq_true rfl) ⟨by decide, by decide⟩ dL_refusesAny_739 ?_
                                      refine x_top (y := (-1001)) (atS_p hvp) ?_
                                      refine x_sipush (v := (-1001)) C dL_refusesAny_742 (by decide) ?_
                                      refine x_icmp_ne C 970 dL_refusesAny_745 (by decide) (fun h => absurd h (by decide)) (fun _ => ?_)
                                      refine x_aload_n C 4 dL_refusesAny_748 rfl rfl ?_
                                      refine x_iload_n C 5 dL_refusesAny_749 rfl rfl ?_
                                      refine x_iconst (v := 2) C dL_refusesAny_750 (by decide) ?_
                                      refine x_irem C (pk_rem (a := n) (d := 2) (by omega) (by omega) (by omega)) dL_refusesAny_751 (by decide) ?_
                                      have j_761 : ∀ v0 : Int32, v0 = (if (nI (n % 2)) = 0 then (-1) else 6) → X cx (0, 0) (obW (xG cx) a (setB O)) [(5, .int 1), (4, .int vp), (3, .int vr), (2, .int vn), (0, .ref (aaX a)), (1, .int (nI n))] 761 [.int v0, .ref (aaX a)] := by
                                        intro v0 hv0
                                        subst hv0
                                        refine x_bipush (v := 99) C dL_refusesAny_761 (by decide) ?_
                                        refine x_oRO C ([.int (if (nI (n % 2)) = 0 then (-1) else 6), .int 99]) ([]) (a := a) (O := setB O) (na := 2) gL_refusesAny_X6_batch rfl (by decide +kernel) rfl (oX6_batch (xl cx) (xG cx) a (setB O) (if (nI (n % 2)) = 0 then (-1) else 6) 99 (S := oN (setB O)) rfl hok) rfl rfl rfl ⟨by decide, by decide⟩ (Nat.le_of_ble_eq_true rfl) ⟨by decide, by decide⟩ dL_refusesAny_763 ?_
                                        refine x_top (y := (-1001)) (tbS_u) ?_
                                        refine x_sipush (v := (-1001)) C dL_refusesAny_766 (by decide) ?_
                                        refine x_icmp_ne C 970 dL_refusesAny_769 (by decide) (fun h => absurd h (by decide)) (fun _ => ?_)
                                        refine x_aload_n C 4 dL_refusesAny_772 rfl rfl ?_
                                        refine x_iconst (v := 0) C dL_refusesAny_773 (by decide) ?_
                                        refine x_iload_n C 5 dL_refusesAny_774 rfl rfl ?_
                                        refine x_iconst (v := 2) C dL_refusesAny_775 (by decide) ?_
                                        refine x_irem C (pk_rem (a := n) (d := 2) (by omega) (by omega) (by omega)) dL_refusesAny_776 (by decide) ?_
                                        have j_786 : ∀ v0 : Int32, v0 = (if (nI (n % 2)) = 0 then (-1) else 7) → X cx (0, 0) (obW (xG cx) a (setB O)) [(5, .int 1), (4, .int vp), (3, .int vr), (2, .int vn), (0, .ref (aaX a)), (1, .int (nI n))] 786 [.int v0, .int 0, .ref (aaX a)] := by
                                          intro v0 hv0
                                          subst hv0
                                          refine x_oRO C ([.int 0, .int (if (nI (n % 2)) = 0 then (-1) else 7)]) ([]) (a := a) (O := setB O) (na := 2) gL_refusesAny_X6_batch rfl (by decide +kernel) rfl (oX6_batch (xl cx) (xG cx) a (setB O) 0 (if (nI (n % 2)) = 0 then (-1) else 7) (S := oN (setB O)) rfl hok) rfl rfl rfl ⟨by decide, by decide⟩ (Nat.le_of_ble_eq_true rfl) ⟨by decide, by decide⟩ dL_refusesAny_786 ?_
                                          refine x_top (y := (-1002)) (tbS_w) ?_
                                          refine x_sipush (v := (-1002)) C dL_refusesAny_789 (by decide) ?_
                                          refine x_icmp_ne C 970 dL_refusesAny_792 (by decide) (fun h => absurd h (by decide)) (fun _ => ?_)
                                          refine x_aload_n C 4 dL_refusesAny_795 rfl rfl ?_
                                          refine x_iload_n C 5 dL_refusesAny_796 rfl rfl ?_
                                          refine x_iconst (v := 2) C dL_refusesAny_797 (by decide) ?_
                                          refine x_irem C (pk_rem (a := n) (d := 2) (by omega) (by omega) (by omega)) dL_refusesAny_798 (by decide) ?_
                                          have j_808 : ∀ v0 : Int32, v0 = (if (nI (n % 2)) = 0 then (-1) else 6) → X cx (0, 0) (obW (xG cx) a (setB O)) [(5, .int 1), (4, .int vp), (3, .int vr), (2, .int vn), (0, .ref (aaX a)), (1, .int (nI n))] 808 [.int v0, .ref (aaX a)] := by
                                            intro v0 hv0
                                            subst hv0
                                            refine x_iconst (v := (-1)) C dL_refusesAny_808 (by decide) ?_
                                            refine x_oRO C ([.int (if (nI (n % 2)) = 0 then (-1) else 6), .int (-1)]) ([]) (a := a) (O := setB O) (na := 2) gL_refusesAny_X6_lasted rfl (by decide +kernel) rfl (oX6_lasted (xl cx) (xG cx) a (setB O) (if (nI (n % 2)) = 0 then (-1) else 6) (-1) (S := oN (setB O)) rfl hok) rfl rfl rfl ⟨by decide, by decide⟩ (Nat.le_of_ble_eq_true rfl) ⟨by decide, by decide⟩ dL_refusesAny_809 ?_
                                            refine x_top (y := (-1001)) (lastS_u) ?_
                                            refine x_sipush (v := (-1001)) C dL_refusesAny_812 (by decide) ?_
                                            refine x_icmp_ne C 970 dL_refusesAny_815 (by decide) (fun h => absurd h (by decide)) (fun _ => ?_)
                                            refine x_aload_n C 4 dL_refusesAny_818 rfl rfl ?_
                                            refine x_iconst (v := 0) C dL_refusesAny_819 (by decide) ?_
                                            refine x_iload_n C 5 dL_refusesAny_820 rfl rfl ?_
                                            refine x_iconst (v := 2) C dL_refusesAny_821 (by decide) ?_
                                            refine x_irem C (pk_rem (a := n) (d := 2) (by omega) (by omega) (by omega)) dL_refusesAny_822 (by decide) ?_
                                            have j_832 : ∀ v0 : Int32, v0 = (if (nI (n % 2)) = 0 then (-1) else 100000) → X cx (0, 0) (obW (xG cx) a (setB O)) [(5, .int 1), (4, .int vp), (3, .int vr), (2, .int vn), (0, .ref (aaX a)), (1, .int (nI n))] 832 [.int v0, .int 0, .ref (aaX a)] := by
                                              intro v0 hv0
                                              subst hv0
                                              refine x_oRO C ([.int 0, .int (if (nI (n % 2)) = 0 then (-1) else 100000)]) ([]) (a := a) (O := setB O) (na := 2) gL_refusesAny_X6_lasted rfl (by decide +kernel) rfl (oX6_lasted (xl cx) (xG cx) a (setB O) 0 (if (nI (n % 2)) = 0 then (-1) else 100000) (S := oN (setB O)) rfl hok) rfl rfl rfl ⟨by decide, by decide⟩ (Nat.le_of_ble_eq_true rfl) ⟨by decide, by decide⟩ dL_refusesAny_832 ?_
                                              refine x_top (y := (-1002)) (lastS_w) ?_
                                              refine x_sipush (v := (-1002)) C dL_refusesAny_835 (by decide) ?_
                                              refine x_icmp_ne C 970 dL_refusesAny_838 (by decide) (fun h => absurd h (by decide)) (fun _ => ?_)
                                              refine x_aload_n C 4 dL_refusesAny_841 rfl rfl ?_
                                              refine x_iconst (v := (-1)) C dL_refusesAny_842 (by decide) ?_
                                              refine x_iload_n C 5 dL_refusesAny_843 rfl rfl ?_
                                              refine x_bipush (v := 99) C dL_refusesAny_844 (by decide) ?_
                                              refine x_irem C (pk_rem (a := n) (d := 99) (by omega) (by omega) (by omega)) dL_refusesAny_846 (by decide) ?_
                                              refine x_isub C (rfl) dL_refusesAny_847 ?_
                                              refine x_oRO C ([.int ((-1) - (nI (n % 99)))]) ([]) (a := a) (O := setB O) (na := 1) gL_refusesAny_X6_ended rfl (by decide +kernel) rfl (oX6_ended (xl cx) (xG cx) a (setB O) ((-1) - (nI (n % 99))) (S := oN (setB O)) rfl hok) rfl rfl rfl ⟨by decide, by decide⟩ (Nat.le_of_ble_eq_true rfl) ⟨by decide, by decide⟩ dL_refusesAny_848 ?_
                                              refine x_top (y := (-1002)) (endS_u (by omega)) ?_
                                              refine x_sipush (v := (-1002)) C dL_refusesAny_851 (by decide) ?_
                                              refine x_icmp_ne C 970 dL_refusesAny_854 (by decide) (fun h => absurd h (by decide)) (fun _ => ?_)
                                              refine x_aload_n C 4 dL_refusesAny_857 rfl rfl ?_
                                              refine x_iload_n C 3 dL_refusesAny_858 rfl rfl ?_
                                              refine x_iconst (v := 0) C dL_refusesAny_859 (by decide) ?_
                                              refine x_oRO C ([.int vn, .int 0]) ([]) (a := a) (O := setB O) (na := 2) gL_refusesAny_X6_lasts rfl (by decide +kernel) rfl (oX6_lasts (xl cx) (xG cx) a (setB O) vn 0 (S := oN (setB O)) rfl hok) rfl rfl rfl ⟨by decide, by decide⟩ (Nat.le_of_ble_eq_true rfl) ⟨by decide, by decide⟩ dL_refusesAny_860 ?_
                                              refine x_top (y := (-1001)) (lstS_u hvn) ?_
                                              refine x_sipush (v := (-1001)) C dL_refusesAny_863 (by decide) ?_
                                              refine x_icmp_ne C 970 dL_refusesAny_866 (by decide) (fun h => absurd h (by decide)) (fun _ => ?_)
                                              refine x_aload_n C 4 dL_refusesAny_869 rfl rfl ?_
                                              refine x_iconst (v := 1) C dL_refusesAny_870 (by decide) ?_
                                              refine x_oRO C ([.int 1]) ([]) (a := a) (O := setB O) (na := 1) gL_refusesAny_X6_count rfl (by decide +kernel) rfl (oX6_count (xl cx) (xG cx) a (setB O) 1 (S := oN (setB O)) rfl hok) rfl rfl rfl ⟨by decide, by decide⟩ (Nat.le_of_ble_eq_true rfl) ⟨by decide, by decide⟩ dL_refusesAny_871 ?_
                                              refine x_top (y := nI (sN (oN O))) (cnt_1 _ _ _) ?_
                                              have j_901 : X cx (0, 0) (obW (xG cx) a (setB O)) [(5, .int 1), (4, .int vp), (3, .int vr), (2, .int vn), (0, .ref (aaX a)), (1, .int (nI n))] 901 [] := by
                                                refine x_aload_n C 4 dL_refusesAny_901 rfl rfl ?_
                                                refine x_iload_n C 3 dL_refusesAny_902 rfl rfl ?_
                                                refine x_oRO C ([.int vn]) ([]) (a := a) (O := setB O) (na := 1) gL_refusesAny_X6_reason rfl (by decide +kernel) rfl (oX6_reason (xl cx) (xG cx) a (setB O) vn (S := oN (setB O)) rfl hok) rfl rfl rfl ⟨by decide, by decide⟩ (Nat.le_of_ble_eq_true rfl) ⟨by decide, by decide⟩ dL_refusesAny_903 ?_
                                                refine x_top (y := (-1001)) (rsnS_u hvn) ?_
                                                refine x_sipush (v := (-1001)) C dL_refusesAny_906 (by decide) ?_
                                                refine x_icmp_ne C 970 dL_refusesAny_909 (by decide) (fun h => absurd h (by decide)) (fun _ => ?_)
                                                refine x_aload_n C 4 dL_refusesAny_912 rfl rfl ?_
                                                refine x_iload_n C 5 dL_refusesAny_913 rfl rfl ?_
                                                refine x_iconst (v := 2) C dL_refusesAny_914 (by decide) ?_
                                                refine x_irem C (pk_rem (a := n) (d := 2) (by omega) (by omega) (by omega)) dL_refusesAny_915 (by decide) ?_
                                                have j_924 : ∀ v0 : Int32, v0 = (if (nI (n % 2)) = 0 then (-1) else 2) → X cx (0, 0) (obW (xG cx) a (setB O)) [(5, .int 1), (4, .int vp), (3, .int vr), (2, .int vn), (0, .ref (aaX a)), (1, .int (nI n))] 924 [.int v0, .ref (aaX a)] := by
                                                  intro v0 hv0
                                                  subst hv0
                                                  refine x_oMU C ([.int (if (nI (n % 2)) = 0 then (-1) else 2)]) ([]) (a := a) (O := setB O) (O' := setB O) (na := 1) gL_refusesAny_X6_next rfl (by decide +kernel) rfl M (oX6_next_no (xl cx) (xG cx) a (setB O) (if (nI (n % 2)) = 0 then (-1) else 2) hok (pif (fun v => ¬ (0 ≤ v ∧ v ≤ 1)) (by decide) (by decide))) rfl rfl rfl ⟨by decide, by decide⟩ (Nat.le_of_ble_eq_true rfl) ⟨by decide, by decide⟩ dL_refusesAny_924 ?_
                                                  refine x_sipush (v := (-1002)) C dL_refusesAny_927 (by decide) ?_
                                                  refine x_icmp_ne C 970 dL_refusesAny_930 (by decide) (fun h => absurd h (by decide)) (fun _ => ?_)
                                                  refine x_aload_n C 4 dL_refusesAny_933 rfl rfl ?_
                                                  refine x_iload_n C 5 dL_refusesAny_934 rfl rfl ?_
                                                  refine x_iconst (v := 2) C dL_refusesAny_935 (by decide) ?_
                                                  refine x_irem C (pk_rem (a := n) (d := 2) (by omega) (by omega) (by omega)) dL_refusesAny_936 (by decide) ?_
                                                  have j_946 : ∀ v0 : Int32, v0 = (if (nI (n % 2)) = 0 then (-1) else 12) → X cx (0, 0) (obW (xG cx) a (setB O)) [(5, .int 1), (4, .int vp), (3, .int vr), (2, .int vn), (0, .ref (aaX a)), (1, .int (nI n))] 946 [.int v0, .ref (aaX a)] := by
                                                    intro v0 hv0
                                                    subst hv0
                                                    refine x_oRO C ([.int (if (nI (n % 2)) = 0 then (-1) else 12)]) ([]) (a := a) (O := setB O) (na := 1) gL_refusesAny_X6_count rfl (by decide +kernel) rfl (oX6_count (xl cx) (xG cx) a (setB O) (if (nI (n % 2)) = 0 then (-1) else 12) (S := oN (setB O)) rfl hok) rfl rfl rfl ⟨by decide, by decide⟩ (Nat.le_of_ble_eq_true rfl) ⟨by decide, by decide⟩ dL_refusesAny_946 ?_
                                                    refine x_top (y := (-1002)) (cntT_w) ?_
                                                    refine x_sipush (v := (-1002)) C dL_refusesAny_949 (by decide) ?_
                                                    refine x_icmp_ne C 970 dL_refusesAny_952 (by decide) (fun h => absurd h (by decide)) (fun _ => ?_)
                                                    refine x_aload_n C 4 dL_refusesAny_955 rfl rfl ?_
                                                    refine x_iconst (v := 2) C dL_refusesAny_956 (by decide) ?_
                                                    refine x_oRO C ([.int 2]) ([]) (a := a) (O := setB O) (na := 1) gL_refusesAny_X6_stopped rfl (by decide +kernel) rfl (oX6_stopped (xl cx) (xG cx) a (setB O) 2 (S := oN (setB O)) rfl) rfl rfl rfl ⟨by decide, by decide⟩ (Nat.le_of_ble_eq_true rfl) ⟨by decide, by decide⟩ dL_refusesAny_957 ?_
                                                    refine x_top (y := (-1002)) (rfl) ?_
                                                    refine x_sipush (v := (-1002)) C dL_refusesAny_960 (by decide) ?_
                                                    refine x_icmp_ne C 970 dL_refusesAny_963 (by decide) (fun h => absurd h (by decide)) (fun _ => ?_)
                                                    refine x_iconst (v := 1) C dL_refusesAny_966 (by decide) ?_
                                                    refine x_goto (tgt := 971) C dL_refusesAny_967 (by decide) ?_
                                                    refine x_istore C [(5, .int 1), (4, .int vp), (3, .int vr), (2, .int vn), (0, .ref (aaX a)), (1, .int (nI n))] dL_refusesAny_971 (by decide) rfl ?_
                                                    refine x_iload C 0 dL_refusesAny_973 rfl ?_
                                                    refine x_if_eq C 999 dL_refusesAny_975 (by decide) (fun h => absurd h (by decide)) (fun _ => ?_)
                                                    refine x_aload_n C 4 dL_refusesAny_978 rfl rfl ?_
                                                    refine x_oMU C ([]) ([]) (a := a) (O := setB O) (O' := setB O) (na := 0) gL_refusesAny_X6_clearText rfl (by decide +kernel) rfl M (oX6_clearText_0 (xl cx) (xG cx) a (setB O) hl) rfl rfl rfl ⟨by decide, by decide⟩ (Nat.le_of_ble_eq_true rfl) ⟨by decide, by decide⟩ dL_refusesAny_979 ?_
                                                    refine x_if_ne C 999 dL_refusesAny_982 (by decide) (fun h => absurd h (by decide)) (fun _ => ?_)
                                                    refine x_aload_n C 4 dL_refusesAny_985 rfl rfl ?_
                                                    refine x_oMU C ([]) ([]) (a := a) (O := setB O) (O' := rfuO O) (na := 0) gL_refusesAny_X6_perform rfl (by decide +kernel) rfl M (oX6_perform_0 (xl cx) (xG cx) a (setB O) hk4 hs4 hok hl) rfl rfl rfl ⟨by decide, by decide⟩ (Nat.le_of_ble_eq_true rfl) ⟨by decide, by decide⟩ dL_refusesAny_986 ?_
                                                    refine x_sipush (v := (-1100)) C dL_refusesAny_989 (by decide) ?_
                                                    refine x_icmp_ne C 999 dL_refusesAny_992 (by decide) (fun h => absurd h (by decide)) (fun _ => ?_)
                                                    refine x_iconst (v := 1) C dL_refusesAny_995 (by decide) ?_
                                                    refine x_goto (tgt := 1000) C dL_refusesAny_996 (by decide) ?_
                                                    exact x_zret1 C E dL_refusesAny_1000 (rfl)
                                                  refine x_if_ne C 944 dL_refusesAny_937 (by decide) (fun c_937 => ?_) (fun c_937 => ?_)
                                                  ·
                                                    refine x_bipush (v := 12) C dL_refusesAny_944 (by decide) ?_
                                                    exact j_946 _ ((if_neg c_937).symm)
                                                  ·
                                                    refine x_iconst (v := (-1)) C dL_refusesAny_940 (by decide) ?_
                                                    refine x_goto (tgt := 946) C dL_refusesAny_941 (by decide) ?_
                                                    exact j_946 _ ((if_pos c_937).symm)
                                                refine x_if_ne C 923 dL_refusesAny_916 (by decide) (fun c_916 => ?_) (fun c_916 => ?_)
                                                ·
                                                  refine x_iconst (v := 2) C dL_refusesAny_923 (by decide) ?_
                                                  exact j_924 _ ((if_neg c_916).symm)
                                                ·
                                                  refine x_iconst (v := (-1)) C dL_refusesAny_919 (by decide) ?_
                                                  refine x_goto (tgt := 924) C dL_refusesAny_920 (by decide) ?_
                                                  exact j_924 _ ((if_pos c_916).symm)
                                              refine x_if_eq C 901 dL_refusesAny_874 (by decide) (fun c_874 => ?_) (fun c_874 => ?_)
                                              ·
                                                exact j_901
                                              ·
                                                refine x_aload_n C 4 dL_refusesAny_877 rfl rfl ?_
                                                refine x_iconst (v := 0) C dL_refusesAny_878 (by decide) ?_
                                                refine x_iload_n C 5 dL_refusesAny_879 rfl rfl ?_
                                                refine x_iconst (v := 2) C dL_refusesAny_880 (by decide) ?_
                                                refine x_irem C (pk_rem (a := n) (d := 2) (by omega) (by omega) (by omega)) dL_refusesAny_881 (by decide) ?_
                                                have j_892 : ∀ v0 : Int32, v0 = (if (nI (n % 2)) = 0 then 0 else 301) → X cx (0, 0) (obW (xG cx) a (setB O)) [(5, .int 1), (4, .int vp), (3, .int vr), (2, .int vn), (0, .ref (aaX a)), (1, .int (nI n))] 892 [.int v0, .int 0, .ref (aaX a)] := by
                                                  intro v0 hv0
                                                  subst hv0
                                                  refine x_oRO C ([.int 0, .int (if (nI (n % 2)) = 0 then 0 else 301)]) ([]) (a := a) (O := setB O) (na := 2) gL_refusesAny_X6_lasts rfl (by decide +kernel) rfl (oX6_lasts (xl cx) (xG cx) a (setB O) 0 (if (nI (n % 2)) = 0 then 0 else 301) (S := oN (setB O)) rfl hok) rfl rfl rfl ⟨by decide, by decide⟩ (Nat.le_of_ble_eq_true rfl) ⟨by decide, by decide⟩ dL_refusesAny_892 ?_
                                                  refine x_top (y := (-1002)) (lstS_w hn c_874) ?_
                                                  refine x_sipush (v := (-1002)) C dL_refusesAny_895 (by decide) ?_
                                                  refine x_icmp_ne C 970 dL_refusesAny_898 (by decide) (fun h => absurd h (by decide)) (fun _ => ?_)
                                                  exact j_901
                                                refine x_if_ne C 889 dL_refusesAny_882 (by decide) (fun c_882 => ?_) (fun c_882 => ?_)
                                                ·
                                                  refine x_sipush (v := 301) C dL_refusesAny_889 (by decide) ?_
                                                  exact j_892 _ ((if_neg c_882).symm)
                                                ·
                                                  refine x_iconst (v := 0) C dL_refusesAny_885 (by decide) ?_
                                                  refine x_goto (tgt := 892) C dL_refusesAny_886 (by decide) ?_
                                                  exact j_892 _ ((if_pos c_882).symm)
                                            refine x_if_ne C 830 dL_refusesAny_823 (by decide) (fun c_823 => ?_) (fun c_823 => ?_)
                                            ·
                                              refine x_ldc (v := 100000) C m_kL_refusesAny_0 dL_refusesAny_830 ?_
                                              exact j_832 _ ((if_neg c_823).symm)
                                            ·
                                              refine x_iconst (v := (-1)) C dL_refusesAny_826 (by decide) ?_
                                              refine x_goto (tgt := 832) C dL_refusesAny_827 (by decide) ?_
                                              exact j_832 _ ((if_pos c_823).symm)
                                          refine x_if_ne C 806 dL_refusesAny_799 (by decide) (fun c_799 => ?_) (fun c_799 => ?_)
                                          ·
                                            refine x_bipush (v := 6) C dL_refusesAny_806 (by decide) ?_
                                            exact j_808 _ ((if_neg c_799).symm)
                                          ·
                                            refine x_iconst (v := (-1)) C dL_refusesAny_802 (by decide) ?_
                                            refine x_goto (tgt := 808) C dL_refusesAny_803 (by decide) ?_
                                            exact j_808 _ ((if_pos c_799).symm)
                                        refine x_if_ne C 784 dL_refusesAny_777 (by decide) (fun c_777 => ?_) (fun c_777 => ?_)
                                        ·
                                          refine x_bipush (v := 7) C dL_refusesAny_784 (by decide) ?_
                                          exact j_786 _ ((if_neg c_777).symm)
                                        ·
                                          refine x_iconst (v := (-1)) C dL_refusesAny_780 (by decide) ?_
                                          refine x_goto (tgt := 786) C dL_refusesAny_781 (by decide) ?_
                                          exact j_786 _ ((if_pos c_777).symm)
                                      refine x_if_ne C 759 dL_refusesAny_752 (by decide) (fun c_752 => ?_) (fun c_752 => ?_)
                                      ·
                                        refine x_bipush (v := 6) C dL_refusesAny_759 (by decide) ?_
                                        exact j_761 _ ((if_neg c_752).symm)
                                      ·
                                        refine x_iconst (v := (-1)) C dL_refusesAny_755 (by decide) ?_
                                        refine x_goto (tgt := 761) C dL_refusesAny_756 (by decide) ?_
                                        exact j_761 _ ((if_pos c_752).symm)
                                    refine x_if_ne C 712 dL_refusesAny_705 (by decide) (fun c_705 => ?_) (fun c_705 => ?_)
                                    ·
                                      refine x_bipush (v := 8) C dL_refusesAny_712 (by decide) ?_
                                      exact j_714 _ ((if_neg c_705).symm)
                                    ·
                                      refine x_iconst (v := (-1)) C dL_refusesAny_708 (by decide) ?_
                                      refine x_goto (tgt := 714) C dL_refusesAny_709 (by decide) ?_
                                      exact j_714 _ ((if_pos c_705).symm)
                                  refine x_if_eq C 687 dL_refusesAny_661 (by decide) (fun c_661 => ?_) (fun c_661 => ?_)
                                  ·
                                    exact j_687
                                  ·
                                    refine x_aload_n C 4 dL_refusesAny_664 rfl rfl ?_
                                    refine x_iconst (v := 0) C dL_refusesAny_665 (by decide) ?_
                                    refine x_iload_n C 5 dL_refusesAny_666 rfl rfl ?_
                                    refine x_iconst (v := 2) C dL_refusesAny_667 (by decide) ?_
                                    refine x_irem C (pk_rem (a := n) (d := 2) (by omega) (by omega) (by omega)) dL_refusesAny_668 (by decide) ?_
                                    have j_678 : ∀ v0 : Int32, v0 = (if (nI (n % 2)) = 0 then (-1) else 10) → X cx (0, 0) (obW (xG cx) a (setB O)) [(5, .int 1), (4, .int vp), (3, .int vr), (2, .int vn), (0, .ref (aaX a)), (1, .int (nI n))] 678 [.int v0, .int 0, .ref (aaX a)] := by
                                      intro v0 hv0
                                      subst hv0
                                      refine x_oRO C ([.int 0, .int (if (nI (n % 2)) = 0 then (-1) else 10)]) ([]) (a := a) (O := setB O) (na := 2) gL_refusesAny_X6_lamp rfl (by decide +kernel) rfl (oX6_lamp (xl cx) (xG cx) a (setB O) 0 (if (nI (n % 2)) = 0 then (-1) else 10) (S := oN (setB O)) rfl hok) rfl rfl rfl ⟨by decide, by decide⟩ (Nat.le_of_ble_eq_true rfl) ⟨by decide, by decide⟩ dL_refusesAny_678 ?_
                                      refine x_top (y := (-1002)) (tlS_w hn c_661) ?_
                                      refine x_sipush (v := (-1002)) C dL_refusesAny_681 (by decide) ?_
                                      refine x_icmp_ne C 970 dL_refusesAny_684 (by decide) (fun h => absurd h (by decide)) (fun _ => ?_)
                                      exact j_687
                                    refine x_if_ne C 676 dL_refusesAny_669 (by decide) (fun c_669 => ?_) (fun c_669 => ?_)
                                    ·
                                      refine x_bipush (v := 10) C dL_refusesAny_676 (by decide) ?_
                                      exact j_678 _ ((if_neg c_669).symm)
                                    ·
                                      refine x_iconst (v := (-1)) C dL_refusesAny_672 (by decide) ?_
                                      refine x_goto (tgt := 678) C dL_refusesAny_673 (by decide) ?_
                                      exact j_678 _ ((if_pos c_669).symm)
                                refine x_if_ne C 619 dL_refusesAny_612 (by decide) (fun c_612 => ?_) (fun c_612 => ?_)
                                ·
                                  refine x_sipush (v := 1000) C dL_refusesAny_619 (by decide) ?_
                                  exact j_622 _ ((if_neg c_612).symm)
                                ·
                                  refine x_iconst (v := 0) C dL_refusesAny_615 (by decide) ?_
                                  refine x_goto (tgt := 622) C dL_refusesAny_616 (by decide) ?_
                                  exact j_622 _ ((if_pos c_612).symm)
                              refine x_if_ne C 574 dL_refusesAny_567 (by decide) (fun c_567 => ?_) (fun c_567 => ?_)
                              ·
                                refine x_bipush (v := 101) C dL_refusesAny_574 (by decide) ?_
                                exact j_576 _ ((if_neg c_567).symm)
                              ·
                                refine x_iconst (v := 0) C dL_refusesAny_570 (by decide) ?_
                                refine x_goto (tgt := 576) C dL_refusesAny_571 (by decide) ?_
                                exact j_576 _ ((if_pos c_567).symm)
                            refine x_if_ne C 550 dL_refusesAny_542 (by decide) (fun c_542 => ?_) (fun c_542 => ?_)
                            ·
                              refine x_sipush (v := 301) C dL_refusesAny_550 (by decide) ?_
                              exact j_553 _ ((if_neg c_542).symm)
                            ·
                              refine x_bipush (v := 99) C dL_refusesAny_545 (by decide) ?_
                              refine x_goto (tgt := 553) C dL_refusesAny_547 (by decide) ?_
                              exact j_553 _ ((if_pos c_542).symm)
                          refine x_if_ne C 524 dL_refusesAny_517 (by decide) (fun c_517 => ?_) (fun c_517 => ?_)
                          ·
                            refine x_iconst (v := 2) C dL_refusesAny_524 (by decide) ?_
                            exact j_525 _ ((if_neg c_517).symm)
                          ·
                            refine x_iconst (v := (-1)) C dL_refusesAny_520 (by decide) ?_
                            refine x_goto (tgt := 525) C dL_refusesAny_521 (by decide) ?_
                            exact j_525 _ ((if_pos c_517).symm)
                        refine x_if_ne C 502 dL_refusesAny_494 (by decide) (fun c_494 => ?_) (fun c_494 => ?_)
                        ·
                          refine x_bipush (v := 51) C dL_refusesAny_502 (by decide) ?_
                          exact j_504 _ ((if_neg c_494).symm)
                        ·
                          refine x_bipush (v := (-51)) C dL_refusesAny_497 (by decide) ?_
                          refine x_goto (tgt := 504) C dL_refusesAny_499 (by decide) ?_
                          exact j_504 _ ((if_pos c_494).symm)
                      refine x_if_ne C 476 dL_refusesAny_469 (by decide) (fun c_469 => ?_) (fun c_469 => ?_)
                      ·
                        refine x_bipush (v := 100) C dL_refusesAny_476 (by decide) ?_
                        exact j_478 _ ((if_neg c_469).symm)
                      ·
                        refine x_iconst (v := (-1)) C dL_refusesAny_472 (by decide) ?_
                        refine x_goto (tgt := 478) C dL_refusesAny_473 (by decide) ?_
                        exact j_478 _ ((if_pos c_469).symm)
                    refine x_if_ne C 416 dL_refusesAny_409 (by decide) (fun c_409 => ?_) (fun c_409 => ?_)
                    ·
                      refine x_sipush (v := 301) C dL_refusesAny_416 (by decide) ?_
                      exact j_419 _ ((if_neg c_409).symm)
                    ·
                      refine x_iconst (v := (-1)) C dL_refusesAny_412 (by decide) ?_
                      refine x_goto (tgt := 419) C dL_refusesAny_413 (by decide) ?_
                      exact j_419 _ ((if_pos c_409).symm)
                  refine x_if_ge C 296 dL_refusesAny_281 (by decide) (fun c_281 => ?_) (fun c_281 => ?_)
                  ·
                    exact j_296
                  ·
                    refine x_aload_n C 3 dL_refusesAny_284 rfl rfl ?_
                    refine x_iconst (v := 2) C dL_refusesAny_285 (by decide) ?_
                    refine x_iconst (v := 2) C dL_refusesAny_286 (by decide) ?_
                    refine x_oMU C ([.int 2, .int 2]) ([]) (a := a) (O := setB O) (O' := setB O) (na := 2) gL_refusesAny_X6_takeOut rfl (by decide +kernel) rfl M (oX6_takeOut_nb (xl cx) (xG cx) a O 2 2 hk4 hs4 hok (v0 := (-1005)) (rmS_n (r := 2) (p := 2) hI (by omega) (by omega) c_281) (by decide)) rfl rfl rfl ⟨by decide, by decide⟩ (Nat.le_of_ble_eq_true rfl) ⟨by decide, by decide⟩ dL_refusesAny_287 ?_
                    refine x_sipush (v := (-1005)) C dL_refusesAny_290 (by decide) ?_
                    refine x_icmp_ne C 382 dL_refusesAny_293 (by decide) (fun h => absurd h (by decide)) (fun _ => ?_)
                    exact j_296
                refine x_if_lt C 250 dL_refusesAny_234 (by decide) (fun c_234 => ?_) (fun c_234 => ?_)
                ·
                  exact j_250
                ·
                  refine x_aload_n C 3 dL_refusesAny_237 rfl rfl ?_
                  refine x_iconst (v := 1) C dL_refusesAny_238 (by decide) ?_
                  refine x_iconst (v := 3) C dL_refusesAny_239 (by decide) ?_
                  refine x_iconst (v := 0) C dL_refusesAny_240 (by decide) ?_
                  refine x_oMU C ([.int 1, .int 3, .int 0]) ([]) (a := a) (O := setB O) (O' := setB O) (na := 3) gL_refusesAny_X6_put rfl (by decide +kernel) rfl M (oX6_put_nb (xl cx) (xG cx) a O 1 3 0 hk4 hs4 hok (v0 := (-1004)) (insS_f (r := 1) (p := 3) (b := 0) hI (by omega) (by omega) (by omega) c_234) (by decide)) rfl rfl rfl ⟨by decide, by decide⟩ (Nat.le_of_ble_eq_true rfl) ⟨by decide, by decide⟩ dL_refusesAny_241 ?_
                  refine x_sipush (v := (-1004)) C dL_refusesAny_244 (by decide) ?_
                  refine x_icmp_ne C 382 dL_refusesAny_247 (by decide) (fun h => absurd h (by decide)) (fun _ => ?_)
                  exact j_250
              refine x_if_ne C 217 dL_refusesAny_210 (by decide) (fun c_210 => ?_) (fun c_210 => ?_)
              ·
                refine x_bipush (v := 6) C dL_refusesAny_217 (by decide) ?_
                exact j_219 _ ((if_neg c_210).symm)
              ·
                refine x_iconst (v := (-1)) C dL_refusesAny_213 (by decide) ?_
                refine x_goto (tgt := 219) C dL_refusesAny_214 (by decide) ?_
                exact j_219 _ ((if_pos c_210).symm)
            refine x_if_ne C 134 dL_refusesAny_127 (by decide) (fun c_127 => ?_) (fun c_127 => ?_)
            ·
              refine x_bipush (v := 91) C dL_refusesAny_134 (by decide) ?_
              exact j_136 _ ((if_neg c_127).symm)
            ·
              refine x_iconst (v := (-1)) C dL_refusesAny_130 (by decide) ?_
              refine x_goto (tgt := 136) C dL_refusesAny_131 (by decide) ?_
              exact j_136 _ ((if_pos c_127).symm)
          refine x_if_ne C 107 dL_refusesAny_99 (by decide) (fun c_99 => ?_) (fun c_99 => ?_)
          ·
            refine x_sipush (v := 10000) C dL_refusesAny_107 (by decide) ?_
            exact j_110 _ ((if_neg c_99).symm)
          ·
            refine x_bipush (v := 9) C dL_refusesAny_102 (by decide) ?_
            refine x_goto (tgt := 110) C dL_refusesAny_104 (by decide) ?_
            exact j_110 _ ((if_pos c_99).symm)
        refine x_if_ne C 80 dL_refusesAny_73 (by decide) (fun c_73 => ?_) (fun c_73 => ?_)
        ·
          refine x_bipush (v := 6) C dL_refusesAny_80 (by decide) ?_
          exact j_82 _ ((if_neg c_73).symm)
        ·
          refine x_iconst (v := (-1)) C dL_refusesAny_76 (by decide) ?_
          refine x_goto (tgt := 82) C dL_refusesAny_77 (by decide) ?_
          exact j_82 _ ((if_pos c_73).symm)
      refine x_if_ne C 60 dL_refusesAny_48 (by decide) (fun c_48 => ?_) (fun c_48 => ?_)
      ·
        refine x_bipush (v := 8) C dL_refusesAny_60 (by decide) ?_
        refine x_iload_n C 3 dL_refusesAny_62 rfl rfl ?_
        refine x_bipush (v := 99) C dL_refusesAny_63 (by decide) ?_
        refine x_irem C (pk_rem (a := n) (d := 99) (by omega) (by omega) (by omega)) dL_refusesAny_65 (by decide) ?_
        refine x_iadd C (nI_add 8 (n % 99)) dL_refusesAny_66 ?_
        exact j_67 _ ((if_neg c_48).symm)
      ·
        refine x_iconst (v := (-1)) C dL_refusesAny_51 (by decide) ?_
        refine x_iload_n C 3 dL_refusesAny_52 rfl rfl ?_
        refine x_bipush (v := 99) C dL_refusesAny_53 (by decide) ?_
        refine x_irem C (pk_rem (a := n) (d := 99) (by omega) (by omega) (by omega)) dL_refusesAny_55 (by decide) ?_
        refine x_isub C (rfl) dL_refusesAny_56 ?_
        refine x_goto (tgt := 67) C dL_refusesAny_57 (by decide) ?_
        exact j_67 _ ((if_pos c_48).symm)
    refine x_if_ne C 38 dL_refusesAny_26 (by decide) (fun c_26 => ?_) (fun c_26 => ?_)
    ·
      refine x_iconst (v := 3) C dL_refusesAny_38 (by decide) ?_
      refine x_iload_n C 2 dL_refusesAny_39 rfl rfl ?_
      refine x_bipush (v := 99) C dL_refusesAny_40 (by decide) ?_
      refine x_irem C (pk_rem (a := n) (d := 99) (by omega) (by omega) (by omega)) dL_refusesAny_42 (by decide) ?_
      refine x_iadd C (nI_add 3 (n % 99)) dL_refusesAny_43 ?_
      exact j_44 _ ((if_neg c_26).symm)
    ·
      refine x_iconst (v := (-1)) C dL_refusesAny_29 (by decide) ?_
      refine x_iload_n C 2 dL_refusesAny_30 rfl rfl ?_
      refine x_bipush (v := 99) C dL_refusesAny_31 (by decide) ?_
      refine x_irem C (pk_rem (a := n) (d := 99) (by omega) (by omega) (by omega)) dL_refusesAny_33 (by decide) ?_
      refine x_isub C (rfl) dL_refusesAny_34 ?_
      refine x_goto (tgt := 44) C dL_refusesAny_35 (by decide) ?_
      exact j_44 _ ((if_pos c_26).symm)
  refine x_if_ne C 15 dL_refusesAny_3 (by decide) (fun c_3 => ?_) (fun c_3 => ?_)
  ·
    refine x_bipush (v := 60) C dL_refusesAny_15 (by decide) ?_
    refine x_iload_n C 1 dL_refusesAny_17 rfl rfl ?_
    refine x_bipush (v := 99) C dL_refusesAny_18 (by decide) ?_
    refine x_irem C (pk_rem (a := n) (d := 99) (by omega) (by omega) (by omega)) dL_refusesAny_20 (by decide) ?_
    refine x_iadd C (nI_add 60 (n % 99)) dL_refusesAny_21 ?_
    exact j_22 _ ((if_neg c_3).symm)
  ·
    refine x_iconst (v := (-1)) C dL_refusesAny_6 (by decide) ?_
    refine x_iload_n C 1 dL_refusesAny_7 rfl rfl ?_
    refine x_bipush (v := 99) C dL_refusesAny_8 (by decide) ?_
    refine x_irem C (pk_rem (a := n) (d := 99) (by omega) (by omega) (by omega)) dL_refusesAny_10 (by decide) ?_
    refine x_isub C (rfl) dL_refusesAny_11 ?_
    refine x_goto (tgt := 22) C dL_refusesAny_12 (by decide) ?_
    exact j_22 _ ((if_pos c_3).symm)
