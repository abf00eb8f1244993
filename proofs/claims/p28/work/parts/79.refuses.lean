set_option maxRecDepth 100000 in
set_option maxHeartbeats 4000000 in
theorem kL_refuses (l : Launch) (G : GG) (a : AT) (O : OS) {H : Int} (n : Nat) (hn0 : n < 2147483648) (hI : Iv H (oN O)) (hk4 : oK O < 4) (hs4 : oS O ≤ 4) (hl : oL O = 0) : MU l G yL_refuses wsL_refuses ({ frames := 9, cells := 0, slots := 0, locals := 209 } : Room) [.ref (aaX a), .int (nI n)] (obW G a O) (some (.int 1)) (obW G a (rfuO O)) := by
  refine MU.of (cc := cL_refuses) (maxL := 5) (ret := (some .boolean)) (by decide) rfl (Nat.le_of_ble_eq_true rfl) ?_
  intro cx hxl hxG C M E
  subst hxl
  subst hxG
  show X cx (0, 0) (obW (xG cx) a O) [(0, .ref (aaX a)), (1, .int (nI n))] 0 []
  have hok : okS (oN O) := hI.okS
  refine x_aload_n C 0 dL_refuses_0 rfl rfl ?_
  refine x_sRO C ([.ref (aaX a)]) ([]) (a := a) (O := O) (na := 1) gL_refuses_L_seen rfl (by decide +kernel) rfl (kL_seen (xl cx) (xG cx) a O hok) rfl rfl rfl ⟨by decide, by decide⟩ (Nat.le_of_ble_eq_true rfl) ⟨by decide, by decide⟩ dL_refuses_1 ?_
  refine x_lstore_n C [(2, .long (seV (oN O))), (0, .ref (aaX a)), (1, .int (nI n))] dL_refuses_4 rfl (by decide) rfl ?_
  refine x_aload_n C 1 dL_refuses_5 rfl rfl ?_
  refine x_bipush (v := 10) C dL_refuses_6 (by decide) ?_
  refine x_oRO C ([.int 10]) ([]) (a := a) (O := O) (na := 1) gL_refuses_X6_count rfl (by decide +kernel) rfl (oX6_count (xl cx) (xG cx) a O 10 (S := oN O) rfl hok) rfl rfl rfl ⟨by decide, by decide⟩ (Nat.le_of_ble_eq_true rfl) ⟨by decide, by decide⟩ dL_refuses_8 ?_
  refine x_istore C [(4, .int (cntT (oN O) (oS O) (oL O) 10)), (2, .long (seV (oN O))), (0, .ref (aaX a)), (1, .int (nI n))] dL_refuses_11 (by decide) rfl ?_
  refine x_aload_n C 2 dL_refuses_13 rfl rfl ?_
  refine x_iload_n C 3 dL_refuses_14 rfl rfl ?_
  refine x_sMU C ([.ref (aaX a), .int (nI n)]) ([]) (a := a) (O := O) (O' := rfuO O) (na := 2) gL_refuses_L_refusesAny rfl (by decide +kernel) rfl M (kL_refusesAny (xl cx) (xG cx) a O n hn0 hI hk4 hs4 hl) rfl rfl rfl ⟨by decide, by decide⟩ (Nat.le_of_ble_eq_true rfl) ⟨by decide, by decide⟩ dL_refuses_15 ?_
  refine x_if_eq C 45 dL_refuses_18 (by decide) (fun h => absurd h (by decide)) (fun _ => ?_)
  refine x_aload_n C 2 dL_refuses_21 rfl rfl ?_
  refine x_sRO C ([.ref (aaX a)]) ([]) (a := a) (O := rfuO O) (na := 1) gL_refuses_L_seen rfl (by decide +kernel) rfl (kL_seen (xl cx) (xG cx) a (rfuO O) hok) rfl rfl rfl ⟨by decide, by decide⟩ (Nat.le_of_ble_eq_true rfl) ⟨by decide, by decide⟩ dL_refuses_22 ?_
  refine x_lload_n C 1 dL_refuses_25 rfl rfl ?_
  refine x_lcmp C (rfl) dL_refuses_26 ?_
  refine x_if_ne C 45 dL_refuses_27 (by decide) (fun h => absurd h (by decide)) (fun _ => ?_)
  refine x_aload_n C 2 dL_refuses_30 rfl rfl ?_
  refine x_bipush (v := 10) C dL_refuses_31 (by decide) ?_
  refine x_oRO C ([.int 10]) ([]) (a := a) (O := rfuO O) (na := 1) gL_refuses_X6_count rfl (by decide +kernel) rfl (oX6_count (xl cx) (xG cx) a (rfuO O) 10 (S := oN (rfuO O)) rfl hok) rfl rfl rfl ⟨by decide, by decide⟩ (Nat.le_of_ble_eq_true rfl) ⟨by decide, by decide⟩ dL_refuses_33 ?_
  refine x_iload C 0 dL_refuses_36 rfl ?_
  refine x_icmp_ne C 45 dL_refuses_38 (by decide) (fun c => absurd (rfl) c) (fun _ => ?_)
  refine x_iconst (v := 1) C dL_refuses_41 (by decide) ?_
  refine x_goto (tgt := 46) C dL_refuses_42 (by decide) ?_
  exact x_zret1 C E dL_refuses_46 (rfl)
