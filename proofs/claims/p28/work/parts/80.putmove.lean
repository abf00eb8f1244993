set_option maxRecDepth 100000 in
set_option maxHeartbeats 4000000 in
theorem kL_isNew (l : Launch) (G : GG) (a : AT) (O : OS) (k b : Nat) (hn : sN (oN O) ≤ 60) (hok : okS (oN O)) (hk : k < sN (oN O)) (hb : b < 6) (f0 : tlS (oN O) (nI k) 0 = nI b) (f3 : tlS (oN O) (nI k) 3 = (if nlM (sA (oN O) 0 b) (sA (oN O) 1 b) k ≤ 1 then 1 else nlM (sA (oN O) 0 b) (sA (oN O) 1 b) k)) (f4 : tlS (oN O) (nI k) 4 = 0) (f5 : tlS (oN O) (nI k) 5 = 0) : RO l G yL_isNew wsL_isNew ({ frames := 6, cells := 0, slots := 0, locals := 139 } : Room) [.ref (aaX a), .int (nI k), .int (nI b)] (obW G a O) (.int 1) := by
  refine RO.of (cc := cL_isNew) (maxL := 7) (ret := (some .boolean)) (by decide) rfl (Nat.le_of_ble_eq_true rfl) ?_
  intro cx hxl hxG C E
  subst hxl
  subst hxG
  show X cx (0, 0) (obW (xG cx) a O) [(0, .ref (aaX a)), (1, .int (nI k)), (2, .int (nI b))] 0 []
  refine x_aload_n C 0 dL_isNew_0 rfl rfl ?_
  refine x_iload_n C 2 dL_isNew_1 rfl rfl ?_
  refine x_iconst (v := 0) C dL_isNew_2 (by decide) ?_
  refine x_oRO C ([.int (nI b), .int 0]) ([]) (a := a) (O := O) (na := 2) gL_isNew_X6_batch rfl (by decide +kernel) rfl (oX6_batch (xl cx) (xG cx) a O (nI b) 0 (S := oN O) rfl hok) rfl rfl rfl ⟨by decide, by decide⟩ (Nat.le_of_ble_eq_true rfl) ⟨by decide, by decide⟩ dL_isNew_3 ?_
  refine x_top (y := sA (oN O) 0 b) (tb_w hb 0) ?_
  refine x_istore_n C [(3, .int (sA (oN O) 0 b)), (0, .ref (aaX a)), (1, .int (nI k)), (2, .int (nI b))] dL_isNew_6 rfl (by decide) rfl ?_
  refine x_iload_n C 2 dL_isNew_7 rfl rfl ?_
  refine x_bipush (v := 10) C dL_isNew_8 (by decide) ?_
  refine x_irem C (pk_rem (a := k) (d := 10) (by omega) (by omega) (by omega)) dL_isNew_10 (by decide) ?_
  refine x_bipush (v := 7) C dL_isNew_11 (by decide) ?_
  refine x_imul C (pk_mul (k % 10) 7) dL_isNew_13 ?_
  refine x_bipush (v := 10) C dL_isNew_14 (by decide) ?_
  refine x_irem C (pk_rem (a := (k % 10) * 7) (d := 10) (by omega) (by omega) (by omega)) dL_isNew_16 (by decide) ?_
  refine x_istore C [(4, .int (nI (((k % 10) * 7) % 10))), (3, .int (sA (oN O) 0 b)), (0, .ref (aaX a)), (1, .int (nI k)), (2, .int (nI b))] dL_isNew_17 (by decide) rfl ?_
  refine x_iload_n C 1 dL_isNew_19 rfl rfl ?_
  refine x_iload_n C 1 dL_isNew_20 rfl rfl ?_
  refine x_aload_n C 2 dL_isNew_21 rfl rfl ?_
  refine x_iload_n C 4 dL_isNew_22 rfl rfl ?_
  refine x_iconst (v := 1) C dL_isNew_23 (by decide) ?_
  refine x_oRO C ([.int (nI b), .int 1]) ([.int (sA (oN O) 0 b), .int (sA (oN O) 0 b)]) (a := a) (O := O) (na := 2) gL_isNew_X6_batch rfl (by decide +kernel) rfl (oX6_batch (xl cx) (xG cx) a O (nI b) 1 (S := oN O) rfl hok) rfl rfl rfl ⟨by decide, by decide⟩ (Nat.le_of_ble_eq_true rfl) ⟨by decide, by decide⟩ dL_isNew_24 ?_
  refine x_top (y := sA (oN O) 1 b) (tb_w hb 1) ?_
  refine x_imul C (rfl) dL_isNew_27 ?_
  refine x_iload C 0 dL_isNew_28 rfl ?_
  refine x_imul C (rfl) dL_isNew_30 ?_
  refine x_sipush (v := 1000) C dL_isNew_31 (by decide) ?_
  refine x_idiv C (rfl) dL_isNew_34 (by decide) ?_
  refine x_isub C (rfl) dL_isNew_35 ?_
  refine x_istore C [(5, .int ((sA (oN O) 0 b) - ((((sA (oN O) 0 b) * (sA (oN O) 1 b)) * (nI (((k % 10) * 7) % 10))) / 1000))), (4, .int (nI (((k % 10) * 7) % 10))), (3, .int (sA (oN O) 0 b)), (0, .ref (aaX a)), (1, .int (nI k)), (2, .int (nI b))] dL_isNew_36 (by decide) rfl ?_
  refine x_iload C 1 dL_isNew_38 rfl ?_
  refine x_bipush (v := 9) C dL_isNew_40 (by decide) ?_
  have j_55 : ∀ v0 : Int32, v0 = (if 9 ≤ (nI (((k % 10) * 7) % 10)) then ((sA (oN O) 0 b) - ((((sA (oN O) 0 b) * (sA (oN O) 1 b)) * (nI (((k % 10) * 7) % 10))) / 1000)) / 10 else (sA (oN O) 0 b) - ((((sA (oN O) 0 b) * (sA (oN O) 1 b)) * (nI (((k % 10) * 7) % 10))) / 1000)) → X cx (0, 0) (obW (xG cx) a O) [(5, .int ((sA (oN O) 0 b) - ((((sA (oN O) 0 b) * (sA (oN O) 1 b)) * (nI (((k % 10) * 7) % 10))) / 1000))), (4, .int (nI (((k % 10) * 7) % 10))), (3, .int (sA (oN O) 0 b)), (0, .ref (aaX a)), (1, .int (nI k)), (2, .int (nI b))] 55 [.int v0] := by
    intro v0 hv0
    subst hv0
    refine x_top (y := nlM (sA (oN O) 0 b) (sA (oN O) 1 b) k) (rfl) ?_
    refine x_istore C [(6, .int (nlM (sA (oN O) 0 b) (sA (oN O) 1 b) k)), (5, .int ((sA (oN O) 0 b) - ((((sA (oN O) 0 b) * (sA (oN O) 1 b)) * (nI (((k % 10) * 7) % 10))) / 1000))), (4, .int (nI (((k % 10) * 7) % 10))), (3, .int (sA (oN O) 0 b)), (0, .ref (aaX a)), (1, .int (nI k)), (2, .int (nI b))] dL_isNew_55 (by decide) rfl ?_
    refine x_aload_n C 4 dL_isNew_57 rfl rfl ?_
    refine x_iload_n C 5 dL_isNew_58 rfl rfl ?_
    refine x_iconst (v := 0) C dL_isNew_59 (by decide) ?_
    refine x_oRO C ([.int (nI k), .int 0]) ([]) (a := a) (O := O) (na := 2) gL_isNew_X6_lamp rfl (by decide +kernel) rfl (oX6_lamp (xl cx) (xG cx) a O (nI k) 0 (S := oN O) rfl hok) rfl rfl rfl ⟨by decide, by decide⟩ (Nat.le_of_ble_eq_true rfl) ⟨by decide, by decide⟩ dL_isNew_60 ?_
    refine x_iload_n C 6 dL_isNew_63 rfl rfl ?_
    refine x_icmp_ne C 110 dL_isNew_64 (by decide) (fun c => absurd (f0) c) (fun _ => ?_)
    refine x_aload_n C 4 dL_isNew_67 rfl rfl ?_
    refine x_iload_n C 5 dL_isNew_68 rfl rfl ?_
    refine x_iconst (v := 3) C dL_isNew_69 (by decide) ?_
    refine x_oRO C ([.int (nI k), .int 3]) ([]) (a := a) (O := O) (na := 2) gL_isNew_X6_lamp rfl (by decide +kernel) rfl (oX6_lamp (xl cx) (xG cx) a O (nI k) 3 (S := oN O) rfl hok) rfl rfl rfl ⟨by decide, by decide⟩ (Nat.le_of_ble_eq_true rfl) ⟨by decide, by decide⟩ dL_isNew_70 ?_
    refine x_iload C 0 dL_isNew_73 rfl ?_
    refine x_iconst (v := 1) C dL_isNew_75 (by decide) ?_
    have j_85 : ∀ v0 : Int32, v0 = (if (nlM (sA (oN O) 0 b) (sA (oN O) 1 b) k) ≤ 1 then 1 else nlM (sA (oN O) 0 b) (sA (oN O) 1 b) k) → X cx (0, 0) (obW (xG cx) a O) [(6, .int (nlM (sA (oN O) 0 b) (sA (oN O) 1 b) k)), (5, .int ((sA (oN O) 0 b) - ((((sA (oN O) 0 b) * (sA (oN O) 1 b)) * (nI (((k % 10) * 7) % 10))) / 1000))), (4, .int (nI (((k % 10) * 7) % 10))), (3, .int (sA (oN O) 0 b)), (0, .ref (aaX a)), (1, .int (nI k)), (2, .int (nI b))] 85 [.int v0, .int (tlS (oN O) (nI k) 3)] := by
      intro v0 hv0
      subst hv0
      refine x_icmp_ne C 110 dL_isNew_85 (by decide) (fun c => absurd (f3) c) (fun _ => ?_)
      refine x_aload_n C 4 dL_isNew_88 rfl rfl ?_
      refine x_iload_n C 5 dL_isNew_89 rfl rfl ?_
      refine x_iconst (v := 4) C dL_isNew_90 (by decide) ?_
      refine x_oRO C ([.int (nI k), .int 4]) ([]) (a := a) (O := O) (na := 2) gL_isNew_X6_lamp rfl (by decide +kernel) rfl (oX6_lamp (xl cx) (xG cx) a O (nI k) 4 (S := oN O) rfl hok) rfl rfl rfl ⟨by decide, by decide⟩ (Nat.le_of_ble_eq_true rfl) ⟨by decide, by decide⟩ dL_isNew_91 ?_
      refine x_if_ne C 110 dL_isNew_94 (by decide) (fun c => absurd (f4) c) (fun _ => ?_)
      refine x_aload_n C 4 dL_isNew_97 rfl rfl ?_
      refine x_iload_n C 5 dL_isNew_98 rfl rfl ?_
      refine x_iconst (v := 5) C dL_isNew_99 (by decide) ?_
      refine x_oRO C ([.int (nI k), .int 5]) ([]) (a := a) (O := O) (na := 2) gL_isNew_X6_lamp rfl (by decide +kernel) rfl (oX6_lamp (xl cx) (xG cx) a O (nI k) 5 (S := oN O) rfl hok) rfl rfl rfl ⟨by decide, by decide⟩ (Nat.le_of_ble_eq_true rfl) ⟨by decide, by decide⟩ dL_isNew_100 ?_
      refine x_if_ne C 110 dL_isNew_103 (by decide) (fun c => absurd (f5) c) (fun _ => ?_)
      refine x_iconst (v := 1) C dL_isNew_106 (by decide) ?_
      refine x_goto (tgt := 111) C dL_isNew_107 (by decide) ?_
      exact x_zret1 C E dL_isNew_111 (rfl)
    refine x_icmp_le C 84 dL_isNew_76 (by decide) (fun c_76 => ?_) (fun c_76 => ?_)
    ·
      refine x_iconst (v := 1) C dL_isNew_84 (by decide) ?_
      exact j_85 _ ((if_pos c_76).symm)
    ·
      refine x_iload C 0 dL_isNew_79 rfl ?_
      refine x_goto (tgt := 85) C dL_isNew_81 (by decide) ?_
      exact j_85 _ ((if_neg c_76).symm)
  refine x_icmp_ge C 50 dL_isNew_42 (by decide) (fun c_42 => ?_) (fun c_42 => ?_)
  ·
    refine x_iload C 0 dL_isNew_50 rfl ?_
    refine x_bipush (v := 10) C dL_isNew_52 (by decide) ?_
    refine x_idiv C (rfl) dL_isNew_54 (by decide) ?_
    exact j_55 _ ((if_pos c_42).symm)
  ·
    refine x_iload C 0 dL_isNew_45 rfl ?_
    refine x_goto (tgt := 55) C dL_isNew_47 (by decide) ?_
    exact j_55 _ ((if_neg c_42).symm)

set_option maxRecDepth 100000 in
set_option maxHeartbeats 4000000 in
theorem kL_put (l : Launch) (G : GG) (a : AT) (O : OS) {H : Int} (n : Nat) (hn0 : n < 2147483648) (hI : Iv H (oN O)) (hk4 : oK O < 4) (hs4 : oS O ≤ 4) : MU l G yL_put wsL_put ({ frames := 7, cells := 0, slots := 0, locals := 165 } : Room) [.ref (aaX a), .int (nI n)] (obW G a O) (some (.int ((putQ (oN O) n).1))) (obW G a (recO O (putQ (oN O) n))) := by
  refine MU.of (cc := cL_put) (maxL := 9) (ret := (some .int)) (by decide) rfl (Nat.le_of_ble_eq_true rfl) ?_
  intro cx hxl hxG C M E
  subst hxl
  subst hxG
  show X cx (0, 0) (obW (xG cx) a O) [(0, .ref (aaX a)), (1, .int (nI n))] 0 []
  have hok : okS (oN O) := hI.okS
  have hn : sN (oN O) ≤ 60 := hI.n60
  obtain ⟨q, eq⟩ : ∃ q, putQ (oN O) n = q := ⟨_, rfl⟩
  rw [eq] at E
  have eq2 : insS (oN O) (nI (n % 3)) (nI (n / 3 % 8)) (nI (n / 24 % 6)) = q := eq
  have p1 := put_1 hI (r := n % 3) (p := n / 3 % 8) (b := n / 24 % 6) (by omega) (by omega) (by omega)
  have pi := put_iv hI (r := n % 3) (p := n / 3 % 8) (b := n / 24 % 6) (by omega) (by omega) (by omega)
  have p2 := put_2 hI (r := n % 3) (p := n / 3 % 8) (b := n / 24 % 6) (by omega) (by omega) (by omega) eq2
  rw [eq2] at p1 pi
  have hok2 : okS q.2 := pi.1.okS
  refine x_iload_n C 1 dL_put_0 rfl rfl ?_
  refine x_iconst (v := 3) C dL_put_1 (by decide) ?_
  refine x_irem C (pk_rem (a := n) (d := 3) (by omega) (by omega) (by omega)) dL_put_2 (by decide) ?_
  refine x_istore_n C [(2, .int (nI (n % 3))), (0, .ref (aaX a)), (1, .int (nI n))] dL_put_3 rfl (by decide) rfl ?_
  refine x_iload_n C 2 dL_put_4 rfl rfl ?_
  refine x_iconst (v := 3) C dL_put_5 (by decide) ?_
  refine x_idiv C (pk_div (a := n) (d := 3) (by omega) (by omega) (by omega)) dL_put_6 (by decide) ?_
  refine x_bipush (v := 8) C dL_put_7 (by decide) ?_
  refine x_irem C (pk_rem (a := n / 3) (d := 8) (by omega) (by omega) (by omega)) dL_put_9 (by decide) ?_
  refine x_istore_n C [(3, .int (nI ((n / 3) % 8))), (2, .int (nI (n % 3))), (0, .ref (aaX a)), (1, .int (nI n))] dL_put_10 rfl (by decide) rfl ?_
  refine x_iload_n C 3 dL_put_11 rfl rfl ?_
  refine x_bipush (v := 24) C dL_put_12 (by decide) ?_
  refine x_idiv C (pk_div (a := n) (d := 24) (by omega) (by omega) (by omega)) dL_put_14 (by decide) ?_
  refine x_bipush (v := 6) C dL_put_15 (by decide) ?_
  refine x_irem C (pk_rem (a := n / 24) (d := 6) (by omega) (by omega) (by omega)) dL_put_17 (by decide) ?_
  refine x_istore C [(4, .int (nI ((n / 24) % 6))), (3, .int (nI ((n / 3) % 8))), (2, .int (nI (n % 3))), (0, .ref (aaX a)), (1, .int (nI n))] dL_put_18 (by decide) rfl ?_
  refine x_aload_n C 3 dL_put_20 rfl rfl ?_
  refine x_iconst (v := 1) C dL_put_21 (by decide) ?_
  refine x_oRO C ([.int 1]) ([]) (a := a) (O := O) (na := 1) gL_put_X6_count rfl (by decide +kernel) rfl (oX6_count (xl cx) (xG cx) a O 1 (S := oN O) rfl hok) rfl rfl rfl ⟨by decide, by decide⟩ (Nat.le_of_ble_eq_true rfl) ⟨by decide, by decide⟩ dL_put_22 ?_
  refine x_top (y := nI (sN (oN O))) (cnt_1 _ _ _) ?_
  refine x_istore C [(5, .int (nI (sN (oN O)))), (4, .int (nI ((n / 24) % 6))), (3, .int (nI ((n / 3) % 8))), (2, .int (nI (n % 3))), (0, .ref (aaX a)), (1, .int (nI n))] dL_put_25 (by decide) rfl ?_
  refine x_aload_n C 4 dL_put_27 rfl rfl ?_
  refine x_iload_n C 3 dL_put_28 rfl rfl ?_
  refine x_iload_n C 2 dL_put_29 rfl rfl ?_
  refine x_oRO C ([.int (nI (n % 3)), .int (nI ((n / 3) % 8))]) ([]) (a := a) (O := O) (na := 2) gL_put_X6_at rfl (by decide +kernel) rfl (oX6_at (xl cx) (xG cx) a O (nI (n % 3)) (nI ((n / 3) % 8)) (S := oN O) rfl hok) rfl rfl rfl ⟨by decide, by decide⟩ (Nat.le_of_ble_eq_true rfl) ⟨by decide, by decide⟩ dL_put_30 ?_
  refine x_istore C [(6, .int (atS (oN O) (nI (n % 3)) (nI ((n / 3) % 8)))), (5, .int (nI (sN (oN O)))), (4, .int (nI ((n / 24) % 6))), (3, .int (nI ((n / 3) % 8))), (2, .int (nI (n % 3))), (0, .ref (aaX a)), (1, .int (nI n))] dL_put_33 (by decide) rfl ?_
  refine x_aload_n C 5 dL_put_35 rfl rfl ?_
  refine x_iload_n C 4 dL_put_36 rfl rfl ?_
  refine x_iload_n C 3 dL_put_37 rfl rfl ?_
  refine x_iload C 2 dL_put_38 rfl ?_
  refine x_oMU C ([.int (nI (n % 3)), .int (nI ((n / 3) % 8)), .int (nI ((n / 24) % 6))]) ([]) (a := a) (O := O) (O' := recO O q) (na := 3) gL_put_X6_put rfl (by decide +kernel) rfl M (oX6_put (xl cx) (xG cx) a O (nI (n % 3)) (nI (n / 3 % 8)) (nI (n / 24 % 6)) hk4 hs4 hok eq2) rfl rfl rfl ⟨by decide, by decide⟩ (Nat.le_of_ble_eq_true rfl) ⟨by decide, by decide⟩ dL_put_40 ?_
  refine x_istore C [(7, .int q.1), (6, .int (atS (oN O) (nI (n % 3)) (nI ((n / 3) % 8)))), (5, .int (nI (sN (oN O)))), (4, .int (nI ((n / 24) % 6))), (3, .int (nI ((n / 3) % 8))), (2, .int (nI (n % 3))), (0, .ref (aaX a)), (1, .int (nI n))] dL_put_43 (by decide) rfl ?_
  refine x_iload C 1 dL_put_45 rfl ?_
  have j_71 : ∀ v0 : Int32, v0 = (if atS (oN O) (nI (n % 3)) (nI (n / 3 % 8)) < 0 then (if nI (sN (oN O)) = 60 then -1003 else nI (sN (oN O))) else -1004) → X cx (0, 0) (obW (xG cx) a (recO O q)) [(7, .int q.1), (6, .int (atS (oN O) (nI (n % 3)) (nI ((n / 3) % 8)))), (5, .int (nI (sN (oN O)))), (4, .int (nI ((n / 24) % 6))), (3, .int (nI ((n / 3) % 8))), (2, .int (nI (n % 3))), (0, .ref (aaX a)), (1, .int (nI n))] 71 [.int v0] := by
    intro v0 hv0
    subst hv0
    refine x_istore C [(8, .int (if atS (oN O) (nI (n % 3)) (nI (n / 3 % 8)) < 0 then (if nI (sN (oN O)) = 60 then -1003 else nI (sN (oN O))) else -1004)), (7, .int q.1), (6, .int (atS (oN O) (nI (n % 3)) (nI ((n / 3) % 8)))), (5, .int (nI (sN (oN O)))), (4, .int (nI ((n / 24) % 6))), (3, .int (nI ((n / 3) % 8))), (2, .int (nI (n % 3))), (0, .ref (aaX a)), (1, .int (nI n))] dL_put_71 (by decide) rfl ?_
    refine x_iload C 1 dL_put_73 rfl ?_
    refine x_iload C 0 dL_put_75 rfl ?_
    refine x_icmp_ne C 112 dL_put_77 (by decide) (fun c => absurd (p1) c) (fun _ => ?_)
    refine x_iload C 1 dL_put_80 rfl ?_
    have j_107 : X cx (0, 0) (obW (xG cx) a (recO O q)) [(8, .int (if atS (oN O) (nI (n % 3)) (nI (n / 3 % 8)) < 0 then (if nI (sN (oN O)) = 60 then -1003 else nI (sN (oN O))) else -1004)), (7, .int q.1), (6, .int (atS (oN O) (nI (n % 3)) (nI ((n / 3) % 8)))), (5, .int (nI (sN (oN O)))), (4, .int (nI ((n / 24) % 6))), (3, .int (nI ((n / 3) % 8))), (2, .int (nI (n % 3))), (0, .ref (aaX a)), (1, .int (nI n))] 107 [] := by
      refine x_iload C 1 dL_put_107 rfl ?_
      refine x_goto (tgt := 114) C dL_put_109 (by decide) ?_
      exact x_iret C E dL_put_114 (rfl) rfl
    refine x_if_lt C 107 dL_put_82 (by decide) (fun c_82 => ?_) (fun c_82 => ?_)
    ·
      exact j_107
    ·
      obtain ⟨k, g1, g2, g3, g4, g5, g6, g7, g8, g9⟩ := p2 c_82
      refine x_aload_n C 7 dL_put_85 rfl rfl ?_
      refine x_iload_n C 6 dL_put_86 rfl rfl ?_
      refine x_iload_n C 5 dL_put_87 rfl rfl ?_
      refine x_oRO C ([.int (nI (n % 3)), .int (nI ((n / 3) % 8))]) ([]) (a := a) (O := recO O q) (na := 2) gL_put_X6_at rfl (by decide +kernel) rfl (oX6_at (xl cx) (xG cx) a (recO O q) (nI (n % 3)) (nI ((n / 3) % 8)) (S := q.2) rfl hok2) rfl rfl rfl ⟨by decide, by decide⟩ (Nat.le_of_ble_eq_true rfl) ⟨by decide, by decide⟩ dL_put_88 ?_
      refine x_iload C 1 dL_put_91 rfl ?_
      refine x_icmp_ne C 112 dL_put_93 (by decide) (fun c => absurd (g5) c) (fun _ => ?_)
      refine x_aload_n C 7 dL_put_96 rfl rfl ?_
      refine x_iload C 1 dL_put_97 rfl ?_
      refine x_top (y := nI k) (g4) ?_
      refine x_iload C 4 dL_put_99 rfl ?_
      refine x_sRO C ([.ref (aaX a), .int (nI k), .int (nI ((n / 24) % 6))]) ([]) (a := a) (O := recO O q) (na := 3) gL_put_L_isNew rfl (by decide +kernel) rfl (kL_isNew (xl cx) (xG cx) a (recO O q) k (n / 24 % 6) g3 hok2 g1 (by omega) g6 g7 g8 g9) rfl rfl rfl ⟨by decide, by decide⟩ (Nat.le_of_ble_eq_true rfl) ⟨by decide, by decide⟩ dL_put_101 ?_
      refine x_if_eq C 112 dL_put_104 (by decide) (fun h => absurd h (by decide)) (fun _ => ?_)
      exact j_107
  refine x_if_lt C 56 dL_put_47 (by decide) (fun c_47 => ?_) (fun c_47 => ?_)
  ·
    refine x_iload C 2 dL_put_56 rfl ?_
    refine x_bipush (v := 60) C dL_put_58 (by decide) ?_
    refine x_icmp_ne C 69 dL_put_60 (by decide) (fun c_60 => ?_) (fun c_60 => ?_)
    ·
      refine x_iload C 2 dL_put_69 rfl ?_
      exact j_71 _ (((if_pos c_47).trans (if_neg c_60)).symm)
    ·
      refine x_sipush (v := (-1003)) C dL_put_63 (by decide) ?_
      refine x_goto (tgt := 71) C dL_put_66 (by decide) ?_
      exact j_71 _ (((if_pos c_47).trans (if_pos c_60)).symm)
  ·
    refine x_sipush (v := (-1004)) C dL_put_50 (by decide) ?_
    refine x_goto (tgt := 71) C dL_put_53 (by decide) ?_
    exact j_71 _ ((if_neg c_47).symm)

set_option maxRecDepth 100000 in
set_option maxHeartbeats 4000000 in
theorem kL_move (l : Launch) (G : GG) (a : AT) (O : OS) {H : Int} (n : Nat) (hn0 : n < 2147483648) (hI : Iv H (oN O)) (hk4 : oK O < 4) (hs4 : oS O ≤ 4) : MU l G yL_move wsL_move ({ frames := 7, cells := 0, slots := 0, locals := 147 } : Room) [.ref (aaX a), .int (nI n)] (obW G a O) (some (.int ((mvQ (oN O) n).1))) (obW G a (recO O (mvQ (oN O) n))) := by
  refine MU.of (cc := cL_move) (maxL := 12) (ret := (some .int)) (by decide) rfl (Nat.le_of_ble_eq_true rfl) ?_
  intro cx hxl hxG C M E
  subst hxl
  subst hxG
  show X cx (0, 0) (obW (xG cx) a O) [(0, .ref (aaX a)), (1, .int (nI n))] 0 []
  have hok : okS (oN O) := hI.okS
  have hn : sN (oN O) ≤ 60 := hI.n60
  refine x_iload_n C 1 dL_move_0 rfl rfl ?_
  refine x_iconst (v := 3) C dL_move_1 (by decide) ?_
  refine x_irem C (pk_rem (a := n) (d := 3) (by omega) (by omega) (by omega)) dL_move_2 (by decide) ?_
  refine x_istore_n C [(2, .int (nI (n % 3))), (0, .ref (aaX a)), (1, .int (nI n))] dL_move_3 rfl (by decide) rfl ?_
  refine x_iload_n C 2 dL_move_4 rfl rfl ?_
  refine x_iconst (v := 3) C dL_move_5 (by decide) ?_
  refine x_idiv C (pk_div (a := n) (d := 3) (by omega) (by omega) (by omega)) dL_move_6 (by decide) ?_
  refine x_bipush (v := 8) C dL_move_7 (by decide) ?_
  refine x_irem C (pk_rem (a := n / 3) (d := 8) (by omega) (by omega) (by omega)) dL_move_9 (by decide) ?_
  refine x_istore_n C [(3, .int (nI ((n / 3) % 8))), (2, .int (nI (n % 3))), (0, .ref (aaX a)), (1, .int (nI n))] dL_move_10 rfl (by decide) rfl ?_
  refine x_iload_n C 3 dL_move_11 rfl rfl ?_
  refine x_bipush (v := 24) C dL_move_12 (by decide) ?_
  refine x_idiv C (pk_div (a := n) (d := 24) (by omega) (by omega) (by omega)) dL_move_14 (by decide) ?_
  refine x_iconst (v := 3) C dL_move_15 (by decide) ?_
  refine x_irem C (pk_rem (a := n / 24) (d := 3) (by omega) (by omega) (by omega)) dL_move_16 (by decide) ?_
  refine x_istore C [(4, .int (nI ((n / 24) % 3))), (3, .int (nI ((n / 3) % 8))), (2, .int (nI (n % 3))), (0, .ref (aaX a)), (1, .int (nI n))] dL_move_17 (by decide) rfl ?_
  refine x_iload_n C 4 dL_move_19 rfl rfl ?_
  refine x_bipush (v := 72) C dL_move_20 (by decide) ?_
  refine x_idiv C (pk_div (a := n) (d := 72) (by omega) (by omega) (by omega)) dL_move_22 (by decide) ?_
  refine x_bipush (v := 8) C dL_move_23 (by decide) ?_
  refine x_irem C (pk_rem (a := n / 72) (d := 8) (by omega) (by omega) (by omega)) dL_move_25 (by decide) ?_
  refine x_istore C [(5, .int (nI ((n / 72) % 8))), (4, .int (nI ((n / 24) % 3))), (3, .int (nI ((n / 3) % 8))), (2, .int (nI (n % 3))), (0, .ref (aaX a)), (1, .int (nI n))] dL_move_26 (by decide) rfl ?_
  refine x_aload_n C 4 dL_move_28 rfl rfl ?_
  refine x_iload_n C 3 dL_move_29 rfl rfl ?_
  refine x_iload_n C 2 dL_move_30 rfl rfl ?_
  refine x_oRO C ([.int (nI (n % 3)), .int (nI ((n / 3) % 8))]) ([]) (a := a) (O := O) (na := 2) gL_move_X6_at rfl (by decide +kernel) rfl (oX6_at (xl cx) (xG cx) a O (nI (n % 3)) (nI ((n / 3) % 8)) (S := oN O) rfl hok) rfl rfl rfl ⟨by decide, by decide⟩ (Nat.le_of_ble_eq_true rfl) ⟨by decide, by decide⟩ dL_move_31 ?_
  refine x_istore C [(6, .int (atS (oN O) (nI (n % 3)) (nI ((n / 3) % 8)))), (5, .int (nI ((n / 72) % 8))), (4, .int (nI ((n / 24) % 3))), (3, .int (nI ((n / 3) % 8))), (2, .int (nI (n % 3))), (0, .ref (aaX a)), (1, .int (nI n))] dL_move_34 (by decide) rfl ?_
  refine x_aload_n C 5 dL_move_36 rfl rfl ?_
  refine x_iload C 2 dL_move_37 rfl ?_
  refine x_iload C 1 dL_move_39 rfl ?_
  refine x_oRO C ([.int (nI ((n / 24) % 3)), .int (nI ((n / 72) % 8))]) ([]) (a := a) (O := O) (na := 2) gL_move_X6_at rfl (by decide +kernel) rfl (oX6_at (xl cx) (xG cx) a O (nI ((n / 24) % 3)) (nI ((n / 72) % 8)) (S := oN O) rfl hok) rfl rfl rfl ⟨by decide, by decide⟩ (Nat.le_of_ble_eq_true rfl) ⟨by decide, by decide⟩ dL_move_41 ?_
  refine x_istore C [(7, .int (atS (oN O) (nI ((n / 24) % 3)) (nI ((n / 72) % 8)))), (6, .int (atS (oN O) (nI (n % 3)) (nI ((n / 3) % 8)))), (5, .int (nI ((n / 72) % 8))), (4, .int (nI ((n / 24) % 3))), (3, .int (nI ((n / 3) % 8))), (2, .int (nI (n % 3))), (0, .ref (aaX a)), (1, .int (nI n))] dL_move_44 (by decide) rfl ?_
  refine x_aload_n C 6 dL_move_46 rfl rfl ?_
  refine x_iconst (v := 2) C dL_move_47 (by decide) ?_
  refine x_oRO C ([.int 2]) ([]) (a := a) (O := O) (na := 1) gL_move_X6_count rfl (by decide +kernel) rfl (oX6_count (xl cx) (xG cx) a O 2 (S := oN O) rfl hok) rfl rfl rfl ⟨by decide, by decide⟩ (Nat.le_of_ble_eq_true rfl) ⟨by decide, by decide⟩ dL_move_48 ?_
  refine x_istore C [(8, .int (cntT (oN O) (oS O) (oL O) 2)), (7, .int (atS (oN O) (nI ((n / 24) % 3)) (nI ((n / 72) % 8)))), (6, .int (atS (oN O) (nI (n % 3)) (nI ((n / 3) % 8)))), (5, .int (nI ((n / 72) % 8))), (4, .int (nI ((n / 24) % 3))), (3, .int (nI ((n / 3) % 8))), (2, .int (nI (n % 3))), (0, .ref (aaX a)), (1, .int (nI n))] dL_move_51 (by decide) rfl ?_
  refine x_iload_n C 8 dL_move_53 rfl rfl ?_
  refine x_sipush (v := 576) C dL_move_54 (by decide) ?_
  refine x_idiv C (pk_div (a := n) (d := 576) (by omega) (by omega) (by omega)) dL_move_57 (by decide) ?_
  refine x_iconst (v := 3) C dL_move_58 (by decide) ?_
  refine x_irem C (pk_rem (a := n / 576) (d := 3) (by omega) (by omega) (by omega)) dL_move_59 (by decide) ?_
  refine x_if_ne C 150 dL_move_60 (by decide) (fun c_60 => ?_) (fun c_60 => ?_)
  ·
    have hm : ¬ n / 576 % 3 = 0 := fun g => c_60 (by rw [g]; rfl)
    obtain ⟨q, eq⟩ : ∃ q, exS (oN O) (nI (n % 3)) (nI (n / 3 % 8)) (nI (n / 24 % 3)) (nI (n / 72 % 8)) = q := ⟨_, rfl⟩
    have em : mvQ (oN O) n = q := (if_neg hm).trans eq
    rw [em] at E
    obtain ⟨t1, t2, t3, t4, ti, -⟩ := ex_1 hI (r := n % 3) (p := n / 3 % 8) (r2 := n / 24 % 3) (p2 := n / 72 % 8) (by omega) (by omega) (by omega) (by omega) eq
    have hok2 : okS q.2 := ti.okS
    refine x_aload_n C 7 dL_move_150 rfl rfl ?_
    refine x_iload_n C 6 dL_move_151 rfl rfl ?_
    refine x_iload_n C 5 dL_move_152 rfl rfl ?_
    refine x_iload C 4 dL_move_153 rfl ?_
    refine x_iload C 3 dL_move_155 rfl ?_
    refine x_oMU C ([.int (nI (n % 3)), .int (nI ((n / 3) % 8)), .int (nI ((n / 24) % 3)), .int (nI ((n / 72) % 8))]) ([]) (a := a) (O := O) (O' := recO O q) (na := 4) gL_move_X6_swap rfl (by decide +kernel) rfl M (oX6_swap (xl cx) (xG cx) a O (nI (n % 3)) (nI (n / 3 % 8)) (nI (n / 24 % 3)) (nI (n / 72 % 8)) hk4 hs4 hok eq) rfl rfl rfl ⟨by decide, by decide⟩ (Nat.le_of_ble_eq_true rfl) ⟨by decide, by decide⟩ dL_move_157 ?_
    refine x_istore C [(9, .int q.1), (8, .int (cntT (oN O) (oS O) (oL O) 2)), (7, .int (atS (oN O) (nI ((n / 24) % 3)) (nI ((n / 72) % 8)))), (6, .int (atS (oN O) (nI (n % 3)) (nI ((n / 3) % 8)))), (5, .int (nI ((n / 72) % 8))), (4, .int (nI ((n / 24) % 3))), (3, .int (nI ((n / 3) % 8))), (2, .int (nI (n % 3))), (0, .ref (aaX a)), (1, .int (nI n))] dL_move_160 (by decide) rfl ?_
    refine x_iload C 3 dL_move_162 rfl ?_
    have j_172 : ∀ v0 : Int32, v0 = (b2i (0 ≤ (atS (oN O) (nI (n % 3)) (nI ((n / 3) % 8))))) → X cx (0, 0) (obW (xG cx) a (recO O q)) [(9, .int q.1), (8, .int (cntT (oN O) (oS O) (oL O) 2)), (7, .int (atS (oN O) (nI ((n / 24) % 3)) (nI ((n / 72) % 8)))), (6, .int (atS (oN O) (nI (n % 3)) (nI ((n / 3) % 8)))), (5, .int (nI ((n / 72) % 8))), (4, .int (nI ((n / 24) % 3))), (3, .int (nI ((n / 3) % 8))), (2, .int (nI (n % 3))), (0, .ref (aaX a)), (1, .int (nI n))] 172 [.int v0] := by
      intro v0 hv0
      subst hv0
      refine x_iload C 2 dL_move_172 rfl ?_
      have j_182 : ∀ v0 : Int32, v0 = (b2i (0 ≤ (atS (oN O) (nI ((n / 24) % 3)) (nI ((n / 72) % 8))))) → X cx (0, 0) (obW (xG cx) a (recO O q)) [(9, .int q.1), (8, .int (cntT (oN O) (oS O) (oL O) 2)), (7, .int (atS (oN O) (nI ((n / 24) % 3)) (nI ((n / 72) % 8)))), (6, .int (atS (oN O) (nI (n % 3)) (nI ((n / 3) % 8)))), (5, .int (nI ((n / 72) % 8))), (4, .int (nI ((n / 24) % 3))), (3, .int (nI ((n / 3) % 8))), (2, .int (nI (n % 3))), (0, .ref (aaX a)), (1, .int (nI n))] 182 [.int v0, .int (b2i (0 ≤ (atS (oN O) (nI (n % 3)) (nI ((n / 3) % 8)))))] := by
        intro v0 hv0
        subst hv0
        refine x_iadd C (rfl) dL_move_182 ?_
        refine x_istore C [(10, .int ((b2i (0 ≤ (atS (oN O) (nI (n % 3)) (nI ((n / 3) % 8))))) + (b2i (0 ≤ (atS (oN O) (nI ((n / 24) % 3)) (nI ((n / 72) % 8))))))), (9, .int q.1), (8, .int (cntT (oN O) (oS O) (oL O) 2)), (7, .int (atS (oN O) (nI ((n / 24) % 3)) (nI ((n / 72) % 8)))), (6, .int (atS (oN O) (nI (n % 3)) (nI ((n / 3) % 8)))), (5, .int (nI ((n / 72) % 8))), (4, .int (nI ((n / 24) % 3))), (3, .int (nI ((n / 3) % 8))), (2, .int (nI (n % 3))), (0, .ref (aaX a)), (1, .int (nI n))] dL_move_183 (by decide) rfl ?_
        refine x_iload_n C 8 dL_move_185 rfl rfl ?_
        refine x_iload C 6 dL_move_186 rfl ?_
        have j_202 : ∀ v0 : Int32, v0 = (b2i (nI (n % 3) = nI (n / 24 % 3) ∧ nI (n / 3 % 8) = nI (n / 72 % 8))) → X cx (0, 0) (obW (xG cx) a (recO O q)) [(10, .int ((b2i (0 ≤ (atS (oN O) (nI (n % 3)) (nI ((n / 3) % 8))))) + (b2i (0 ≤ (atS (oN O) (nI ((n / 24) % 3)) (nI ((n / 72) % 8))))))), (9, .int q.1), (8, .int (cntT (oN O) (oS O) (oL O) 2)), (7, .int (atS (oN O) (nI ((n / 24) % 3)) (nI ((n / 72) % 8)))), (6, .int (atS (oN O) (nI (n % 3)) (nI ((n / 3) % 8)))), (5, .int (nI ((n / 72) % 8))), (4, .int (nI ((n / 24) % 3))), (3, .int (nI ((n / 3) % 8))), (2, .int (nI (n % 3))), (0, .ref (aaX a)), (1, .int (nI n))] 202 [.int v0] := by
          intro v0 hv0
          subst hv0
          refine x_istore C [(11, .int (b2i (nI (n % 3) = nI (n / 24 % 3) ∧ nI (n / 3 % 8) = nI (n / 72 % 8)))), (10, .int ((b2i (0 ≤ (atS (oN O) (nI (n % 3)) (nI ((n / 3) % 8))))) + (b2i (0 ≤ (atS (oN O) (nI ((n / 24) % 3)) (nI ((n / 72) % 8))))))), (9, .int q.1), (8, .int (cntT (oN O) (oS O) (oL O) 2)), (7, .int (atS (oN O) (nI ((n / 24) % 3)) (nI ((n / 72) % 8)))), (6, .int (atS (oN O) (nI (n % 3)) (nI ((n / 3) % 8)))), (5, .int (nI ((n / 72) % 8))), (4, .int (nI ((n / 24) % 3))), (3, .int (nI ((n / 3) % 8))), (2, .int (nI (n % 3))), (0, .ref (aaX a)), (1, .int (nI n))] dL_move_202 (by decide) rfl ?_
          refine x_iload C 2 dL_move_204 rfl ?_
          refine x_iload C 0 dL_move_206 rfl ?_
          have j_224 : ∀ v0 : Int32, v0 = (if (nI (n % 3) = nI (n / 24 % 3) ∧ nI (n / 3 % 8) = nI (n / 72 % 8)) ∨ b2i (0 ≤ atS (oN O) (nI (n % 3)) (nI (n / 3 % 8))) + b2i (0 ≤ atS (oN O) (nI (n / 24 % 3)) (nI (n / 72 % 8))) = 0 then -1005 else b2i (0 ≤ atS (oN O) (nI (n % 3)) (nI (n / 3 % 8))) + b2i (0 ≤ atS (oN O) (nI (n / 24 % 3)) (nI (n / 72 % 8)))) → X cx (0, 0) (obW (xG cx) a (recO O q)) [(11, .int (b2i (nI (n % 3) = nI (n / 24 % 3) ∧ nI (n / 3 % 8) = nI (n / 72 % 8)))), (10, .int ((b2i (0 ≤ (atS (oN O) (nI (n % 3)) (nI ((n / 3) % 8))))) + (b2i (0 ≤ (atS (oN O) (nI ((n / 24) % 3)) (nI ((n / 72) % 8))))))), (9, .int q.1), (8, .int (cntT (oN O) (oS O) (oL O) 2)), (7, .int (atS (oN O) (nI ((n / 24) % 3)) (nI ((n / 72) % 8)))), (6, .int (atS (oN O) (nI (n % 3)) (nI ((n / 3) % 8)))), (5, .int (nI ((n / 72) % 8))), (4, .int (nI ((n / 24) % 3))), (3, .int (nI ((n / 3) % 8))), (2, .int (nI (n % 3))), (0, .ref (aaX a)), (1, .int (nI n))] 224 [.int v0, .int q.1] := by
            intro v0 hv0
            subst hv0
            refine x_icmp_ne C 266 dL_move_224 (by decide) (fun c => absurd (t1) c) (fun _ => ?_)
            refine x_aload_n C 10 dL_move_227 rfl rfl ?_
            refine x_iload_n C 9 dL_move_228 rfl rfl ?_
            refine x_iload_n C 8 dL_move_229 rfl rfl ?_
            refine x_oRO C ([.int (nI (n % 3)), .int (nI ((n / 3) % 8))]) ([]) (a := a) (O := recO O q) (na := 2) gL_move_X6_at rfl (by decide +kernel) rfl (oX6_at (xl cx) (xG cx) a (recO O q) (nI (n % 3)) (nI ((n / 3) % 8)) (S := q.2) rfl hok2) rfl rfl rfl ⟨by decide, by decide⟩ (Nat.le_of_ble_eq_true rfl) ⟨by decide, by decide⟩ dL_move_230 ?_
            refine x_iload C 4 dL_move_233 rfl ?_
            refine x_icmp_ne C 266 dL_move_235 (by decide) (fun c => absurd (t2) c) (fun _ => ?_)
            refine x_aload_n C 10 dL_move_238 rfl rfl ?_
            refine x_iload C 7 dL_move_239 rfl ?_
            refine x_iload C 6 dL_move_241 rfl ?_
            refine x_oRO C ([.int (nI ((n / 24) % 3)), .int (nI ((n / 72) % 8))]) ([]) (a := a) (O := recO O q) (na := 2) gL_move_X6_at rfl (by decide +kernel) rfl (oX6_at (xl cx) (xG cx) a (recO O q) (nI ((n / 24) % 3)) (nI ((n / 72) % 8)) (S := q.2) rfl hok2) rfl rfl rfl ⟨by decide, by decide⟩ (Nat.le_of_ble_eq_true rfl) ⟨by decide, by decide⟩ dL_move_243 ?_
            refine x_iload C 5 dL_move_246 rfl ?_
            refine x_icmp_ne C 266 dL_move_248 (by decide) (fun c => absurd (t3) c) (fun _ => ?_)
            refine x_aload_n C 10 dL_move_251 rfl rfl ?_
            refine x_iconst (v := 2) C dL_move_252 (by decide) ?_
            refine x_oRO C ([.int 2]) ([]) (a := a) (O := recO O q) (na := 1) gL_move_X6_count rfl (by decide +kernel) rfl (oX6_count (xl cx) (xG cx) a (recO O q) 2 (S := q.2) rfl hok2) rfl rfl rfl ⟨by decide, by decide⟩ (Nat.le_of_ble_eq_true rfl) ⟨by decide, by decide⟩ dL_move_253 ?_
            refine x_iload C 3 dL_move_256 rfl ?_
            refine x_icmp_ne C 266 dL_move_258 (by decide) (fun c => absurd (t4) c) (fun _ => ?_)
            refine x_iload C 2 dL_move_261 rfl ?_
            refine x_goto (tgt := 268) C dL_move_263 (by decide) ?_
            exact x_iret C E dL_move_268 (rfl) rfl
          refine x_ifb_ne (P := nI (n % 3) = nI (n / 24 % 3) ∧ nI (n / 3 % 8) = nI (n / 72 % 8)) C 216 dL_move_208 (by decide) (fun c_208 => ?_) (fun c_208 => ?_)
          ·
            refine x_sipush (v := (-1005)) C dL_move_216 (by decide) ?_
            refine x_goto (tgt := 224) C dL_move_219 (by decide) ?_
            exact j_224 _ ((if_pos (Or.inl c_208)).symm)
          ·
            refine x_iload C 1 dL_move_211 rfl ?_
            refine x_if_ne C 222 dL_move_213 (by decide) (fun c_213 => ?_) (fun c_213 => ?_)
            ·
              refine x_iload C 1 dL_move_222 rfl ?_
              exact j_224 _ ((if_neg (fun z => z.elim c_208 c_213)).symm)
            ·
              refine x_sipush (v := (-1005)) C dL_move_216 (by decide) ?_
              refine x_goto (tgt := 224) C dL_move_219 (by decide) ?_
              exact j_224 _ ((if_pos (Or.inr c_213)).symm)
        refine x_icmp_ne C 201 dL_move_188 (by decide) (fun c_188 => ?_) (fun c_188 => ?_)
        ·
          refine x_iconst (v := 0) C dL_move_201 (by decide) ?_
          exact j_202 _ ((b2i_f (fun z => c_188 z.1)).symm)
        ·
          refine x_iload_n C 7 dL_move_191 rfl rfl ?_
          refine x_iload C 5 dL_move_192 rfl ?_
          refine x_icmp_ne C 201 dL_move_194 (by decide) (fun c_194 => ?_) (fun c_194 => ?_)
          ·
            refine x_iconst (v := 0) C dL_move_201 (by decide) ?_
            exact j_202 _ ((b2i_f (fun z => c_194 z.2)).symm)
          ·
            refine x_iconst (v := 1) C dL_move_197 (by decide) ?_
            refine x_goto (tgt := 202) C dL_move_198 (by decide) ?_
            exact j_202 _ ((b2i_t ⟨c_188, c_194⟩).symm)
      refine x_if_ge C 181 dL_move_174 (by decide) (fun c_174 => ?_) (fun c_174 => ?_)
      ·
        refine x_iconst (v := 1) C dL_move_181 (by decide) ?_
        exact j_182 _ ((b2i_t c_174).symm)
      ·
        refine x_iconst (v := 0) C dL_move_177 (by decide) ?_
        refine x_goto (tgt := 182) C dL_move_178 (by decide) ?_
        exact j_182 _ ((b2i_f c_174).symm)
    refine x_if_ge C 171 dL_move_164 (by decide) (fun c_164 => ?_) (fun c_164 => ?_)
    ·
      refine x_iconst (v := 1) C dL_move_171 (by decide) ?_
      exact j_172 _ ((b2i_t c_164).symm)
    ·
      refine x_iconst (v := 0) C dL_move_167 (by decide) ?_
      refine x_goto (tgt := 172) C dL_move_168 (by decide) ?_
      exact j_172 _ ((b2i_f c_164).symm)
  ·
    have hm : n / 576 % 3 = 0 := by have := nI_i (b := 0) (by omega) (by omega) c_60; omega
    obtain ⟨q, eq⟩ : ∃ q, rmS (oN O) (nI (n % 3)) (nI (n / 3 % 8)) = q := ⟨_, rfl⟩
    have em : mvQ (oN O) n = q := (if_pos hm).trans eq
    rw [em] at E
    obtain ⟨t1, t2, t3, t4, ti, -⟩ := rm_1 hI (r := n % 3) (p := n / 3 % 8) (by omega) (by omega) eq
    have hok2 : okS q.2 := ti.okS
    refine x_aload_n C 7 dL_move_63 rfl rfl ?_
    refine x_iload_n C 6 dL_move_64 rfl rfl ?_
    refine x_iload_n C 5 dL_move_65 rfl rfl ?_
    refine x_oMU C ([.int (nI (n % 3)), .int (nI ((n / 3) % 8))]) ([]) (a := a) (O := O) (O' := recO O q) (na := 2) gL_move_X6_takeOut rfl (by decide +kernel) rfl M (oX6_takeOut (xl cx) (xG cx) a O (nI (n % 3)) (nI (n / 3 % 8)) hk4 hs4 hok eq) rfl rfl rfl ⟨by decide, by decide⟩ (Nat.le_of_ble_eq_true rfl) ⟨by decide, by decide⟩ dL_move_66 ?_
    refine x_istore C [(9, .int q.1), (8, .int (cntT (oN O) (oS O) (oL O) 2)), (7, .int (atS (oN O) (nI ((n / 24) % 3)) (nI ((n / 72) % 8)))), (6, .int (atS (oN O) (nI (n % 3)) (nI ((n / 3) % 8)))), (5, .int (nI ((n / 72) % 8))), (4, .int (nI ((n / 24) % 3))), (3, .int (nI ((n / 3) % 8))), (2, .int (nI (n % 3))), (0, .ref (aaX a)), (1, .int (nI n))] dL_move_69 (by decide) rfl ?_
    refine x_iload C 0 dL_move_71 rfl ?_
    refine x_iload C 3 dL_move_73 rfl ?_
    refine x_icmp_ne C 147 dL_move_75 (by decide) (fun c => absurd (t1) c) (fun _ => ?_)
    refine x_aload_n C 8 dL_move_78 rfl rfl ?_
    refine x_iload_n C 7 dL_move_79 rfl rfl ?_
    refine x_iload_n C 6 dL_move_80 rfl rfl ?_
    refine x_oRO C ([.int (nI (n % 3)), .int (nI ((n / 3) % 8))]) ([]) (a := a) (O := recO O q) (na := 2) gL_move_X6_at rfl (by decide +kernel) rfl (oX6_at (xl cx) (xG cx) a (recO O q) (nI (n % 3)) (nI ((n / 3) % 8)) (S := q.2) rfl hok2) rfl rfl rfl ⟨by decide, by decide⟩ (Nat.le_of_ble_eq_true rfl) ⟨by decide, by decide⟩ dL_move_81 ?_
    refine x_sipush (v := (-1005)) C dL_move_84 (by decide) ?_
    refine x_icmp_ne C 147 dL_move_87 (by decide) (fun c => absurd (t2) c) (fun _ => ?_)
    refine x_aload_n C 8 dL_move_90 rfl rfl ?_
    refine x_iconst (v := 2) C dL_move_91 (by decide) ?_
    refine x_oRO C ([.int 2]) ([]) (a := a) (O := recO O q) (na := 1) gL_move_X6_count rfl (by decide +kernel) rfl (oX6_count (xl cx) (xG cx) a (recO O q) 2 (S := q.2) rfl hok2) rfl rfl rfl ⟨by decide, by decide⟩ (Nat.le_of_ble_eq_true rfl) ⟨by decide, by decide⟩ dL_move_92 ?_
    refine x_iload C 1 dL_move_95 rfl ?_
    refine x_iload C 3 dL_move_97 rfl ?_
    have j_107 : ∀ v0 : Int32, v0 = (b2i (0 ≤ (atS (oN O) (nI (n % 3)) (nI ((n / 3) % 8))))) → X cx (0, 0) (obW (xG cx) a (recO O q)) [(9, .int q.1), (8, .int (cntT (oN O) (oS O) (oL O) 2)), (7, .int (atS (oN O) (nI ((n / 24) % 3)) (nI ((n / 72) % 8)))), (6, .int (atS (oN O) (nI (n % 3)) (nI ((n / 3) % 8)))), (5, .int (nI ((n / 72) % 8))), (4, .int (nI ((n / 24) % 3))), (3, .int (nI ((n / 3) % 8))), (2, .int (nI (n % 3))), (0, .ref (aaX a)), (1, .int (nI n))] 107 [.int v0, .int (cntT (oN O) (oS O) (oL O) 2), .int (cntT q.2 (oS (recO O q)) (oL (recO O q)) 2)] := by
      intro v0 hv0
      subst hv0
      refine x_isub C (rfl) dL_move_107 ?_
      refine x_icmp_ne C 147 dL_move_108 (by decide) (fun c => absurd (t3) c) (fun _ => ?_)
      refine x_iload C 3 dL_move_111 rfl ?_
      have j_142 : X cx (0, 0) (obW (xG cx) a (recO O q)) [(9, .int q.1), (8, .int (cntT (oN O) (oS O) (oL O) 2)), (7, .int (atS (oN O) (nI ((n / 24) % 3)) (nI ((n / 72) % 8)))), (6, .int (atS (oN O) (nI (n % 3)) (nI ((n / 3) % 8)))), (5, .int (nI ((n / 72) % 8))), (4, .int (nI ((n / 24) % 3))), (3, .int (nI ((n / 3) % 8))), (2, .int (nI (n % 3))), (0, .ref (aaX a)), (1, .int (nI n))] 142 [] := by
        refine x_iload C 0 dL_move_142 rfl ?_
        refine x_goto (tgt := 149) C dL_move_144 (by decide) ?_
        exact x_iret C E dL_move_149 (rfl) rfl
      refine x_if_lt C 142 dL_move_113 (by decide) (fun c_113 => ?_) (fun c_113 => ?_)
      ·
        exact j_142
      ·
        refine x_aload_n C 8 dL_move_116 rfl rfl ?_
        refine x_iload C 3 dL_move_117 rfl ?_
        refine x_iconst (v := 1) C dL_move_119 (by decide) ?_
        refine x_oRO C ([.int (atS (oN O) (nI (n % 3)) (nI ((n / 3) % 8))), .int 1]) ([]) (a := a) (O := recO O q) (na := 2) gL_move_X6_lamp rfl (by decide +kernel) rfl (oX6_lamp (xl cx) (xG cx) a (recO O q) (atS (oN O) (nI (n % 3)) (nI ((n / 3) % 8))) 1 (S := q.2) rfl hok2) rfl rfl rfl ⟨by decide, by decide⟩ (Nat.le_of_ble_eq_true rfl) ⟨by decide, by decide⟩ dL_move_120 ?_
        refine x_sipush (v := (-1005)) C dL_move_123 (by decide) ?_
        refine x_icmp_ne C 147 dL_move_126 (by decide) (fun c => absurd ((t4 c_113).1) c) (fun _ => ?_)
        refine x_aload_n C 8 dL_move_129 rfl rfl ?_
        refine x_iload C 3 dL_move_130 rfl ?_
        refine x_iconst (v := 2) C dL_move_132 (by decide) ?_
        refine x_oRO C ([.int (atS (oN O) (nI (n % 3)) (nI ((n / 3) % 8))), .int 2]) ([]) (a := a) (O := recO O q) (na := 2) gL_move_X6_lamp rfl (by decide +kernel) rfl (oX6_lamp (xl cx) (xG cx) a (recO O q) (atS (oN O) (nI (n % 3)) (nI ((n / 3) % 8))) 2 (S := q.2) rfl hok2) rfl rfl rfl ⟨by decide, by decide⟩ (Nat.le_of_ble_eq_true rfl) ⟨by decide, by decide⟩ dL_move_133 ?_
        refine x_sipush (v := (-1005)) C dL_move_136 (by decide) ?_
        refine x_icmp_ne C 147 dL_move_139 (by decide) (fun c => absurd ((t4 c_113).2) c) (fun _ => ?_)
        exact j_142
    refine x_if_ge C 106 dL_move_99 (by decide) (fun c_99 => ?_) (fun c_99 => ?_)
    ·
      refine x_iconst (v := 1) C dL_move_106 (by decide) ?_
      exact j_107 _ ((b2i_t c_99).symm)
    ·
      refine x_iconst (v := 0) C dL_move_102 (by decide) ?_
      refine x_goto (tgt := 107) C dL_move_103 (by decide) ?_
      exact j_107 _ ((b2i_f c_99).symm)
