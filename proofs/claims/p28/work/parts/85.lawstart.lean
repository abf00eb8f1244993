/-! the law's start -/
def O00 : OS := (S00, S00, S00, S00, fun _ => S00, 0, 0, 0, 0, 0, 0, 0, fun _ => 0, (0, -1, 0, 0, 0, 1, 0))
theorem iv_S00 : Iv 0 S00 := by
  have e230 : (230 : Int32).toInt = 230 := by decide
  have e1000 : (1000 : Int32).toInt = 1000 := by decide
  refine ⟨⟨⟨Nat.zero_le _, ?_, ?_⟩, fun b hb => ?_, fun r hr => ?_, fun k hk => absurd hk (Nat.not_lt_zero k), fun j hj => Or.inl ?_⟩, ?_, ?_⟩
  · show 100 ≤ (230 : Int32).toInt ∧ (230 : Int32).toInt ≤ 300
    rw [e230]; omega
  · show 1 ≤ (10 : Int32).toInt ∧ (10 : Int32).toInt ≤ 100
    rw [e10_ti]; omega
  · show (10 ≤ (flF (fun _ => 0) 1000 6 b).toInt ∧ (flF (fun _ => 0) 1000 6 b).toInt ≤ 9999) ∧ (0 ≤ (spF 6 b).toInt ∧ (spF 6 b).toInt ≤ 90)
    have a1 : flF (fun _ => 0) 1000 6 b = 1000 := if_pos hb
    have a2 : spF 6 b = nI (10 * b) := if_pos hb
    rw [a1, a2, e1000, nI_toInt (by omega)]
    omega
  · show okR (flF (fun _ => 0) 230 3 r) 0 0 0
    have a1 : flF (fun _ => 0) 230 3 r = 230 := if_pos hr
    rw [a1]
    unfold okR
    rw [e230, e0_ti]
    omega
  · show flF (fun _ => 0) (-1) 24 j = -1
    exact if_pos hj
  · show 0 ≤ (0 : Int32).toInt
    rw [e0_ti]; omega
  · show (0 : Int32).toInt ≤ 0
    rw [e0_ti]; omega
theorem oi_00 : OI 0 O00 := ⟨iv_S00, by decide, by decide, rfl, fun i hi => absurd hi (Nat.not_lt_zero i), fun h => absurd rfl h⟩
theorem und_00 : undO O00 = O00 := rfl
theorem rst_00 : rstO O00 = O00 := rfl
set_option maxRecDepth 100000 in
set_option maxHeartbeats 4000000 in
theorem law_go {cx : CX} {b L : Nat} {xs : Nat → Int32} (C : XC cx cL_law wsL_law RL room_1 16) (M : XM cx) (S : XS cx b L xs) (Z : XZ cx) (hL : L ≤ 260) (a : AT)  : X cx (141, 3509) (obW (xG cx) a O00) [(1, .ref (aaX a)), (0, .ref b)] 8 [] := by
  have hI : Iv 0 S00 := iv_S00
  have hok : okS S00 := hI.okS
  refine x_aload_n C 0 dL_law_8 rfl rfl ?_
  refine x_oMU C ([]) ([]) (a := a) (O := O00) (O' := O00) (na := 0) gL_law_X6_undo rfl (by decide +kernel) rfl M (by have h0 := oX6_undo (xl cx) (xG cx) a O00 (by decide) (by decide); rw [und_00] at h0; exact h0) rfl rfl rfl ⟨by decide, by decide⟩ (Nat.le_of_ble_eq_true rfl) ⟨by decide, by decide⟩ dL_law_9 ?_
  refine x_sipush (v := (-1005)) C dL_law_12 (by decide) ?_
  refine x_icmp_ne C 135 dL_law_15 (by decide) (fun h => absurd h (by decide)) (fun _ => ?_)
  refine x_aload_n C 0 dL_law_18 rfl rfl ?_
  refine x_oMU C ([]) ([]) (a := a) (O := O00) (O' := O00) (na := 0) gL_law_X6_restore rfl (by decide +kernel) rfl M (by have h0 := oX6_restore (xl cx) (xG cx) a O00 (by decide) (by decide); rw [rst_00] at h0; exact h0) rfl rfl rfl ⟨by decide, by decide⟩ (Nat.le_of_ble_eq_true rfl) ⟨by decide, by decide⟩ dL_law_19 ?_
  refine x_sipush (v := (-1005)) C dL_law_22 (by decide) ?_
  refine x_icmp_ne C 135 dL_law_25 (by decide) (fun h => absurd h (by decide)) (fun _ => ?_)
  refine x_aload_n C 0 dL_law_28 rfl rfl ?_
  refine x_bipush (v := 8) C dL_law_29 (by decide) ?_
  refine x_oRO C ([.int 8]) ([]) (a := a) (O := O00) (na := 1) gL_law_X6_count rfl (by decide +kernel) rfl (oX6_count (xl cx) (xG cx) a O00 8 (S := S00) rfl hok) rfl rfl rfl ⟨by decide, by decide⟩ (Nat.le_of_ble_eq_true rfl) ⟨by decide, by decide⟩ dL_law_31 ?_
  refine x_top (y := 230) (by decide +kernel) ?_
  refine x_sipush (v := 230) C dL_law_34 (by decide) ?_
  refine x_icmp_ne C 135 dL_law_37 (by decide) (fun h => absurd h (by decide)) (fun _ => ?_)
  refine x_aload_n C 0 dL_law_40 rfl rfl ?_
  refine x_bipush (v := 9) C dL_law_41 (by decide) ?_
  refine x_oRO C ([.int 9]) ([]) (a := a) (O := O00) (na := 1) gL_law_X6_count rfl (by decide +kernel) rfl (oX6_count (xl cx) (xG cx) a O00 9 (S := S00) rfl hok) rfl rfl rfl ⟨by decide, by decide⟩ (Nat.le_of_ble_eq_true rfl) ⟨by decide, by decide⟩ dL_law_43 ?_
  refine x_top (y := 10) (by decide +kernel) ?_
  refine x_bipush (v := 10) C dL_law_46 (by decide) ?_
  refine x_icmp_ne C 135 dL_law_48 (by decide) (fun h => absurd h (by decide)) (fun _ => ?_)
  refine x_aload_n C 0 dL_law_51 rfl rfl ?_
  refine x_iconst (v := 2) C dL_law_52 (by decide) ?_
  refine x_iconst (v := 0) C dL_law_53 (by decide) ?_
  refine x_oRO C ([.int 2, .int 0]) ([]) (a := a) (O := O00) (na := 2) gL_law_X6_rack rfl (by decide +kernel) rfl (oX6_rack (xl cx) (xG cx) a O00 2 0 (S := S00) rfl hok) rfl rfl rfl ⟨by decide, by decide⟩ (Nat.le_of_ble_eq_true rfl) ⟨by decide, by decide⟩ dL_law_54 ?_
  refine x_top (y := 230) (by decide +kernel) ?_
  refine x_sipush (v := 230) C dL_law_57 (by decide) ?_
  refine x_icmp_ne C 135 dL_law_60 (by decide) (fun h => absurd h (by decide)) (fun _ => ?_)
  refine x_aload_n C 0 dL_law_63 rfl rfl ?_
  refine x_iconst (v := 2) C dL_law_64 (by decide) ?_
  refine x_iconst (v := 3) C dL_law_65 (by decide) ?_
  refine x_oRO C ([.int 2, .int 3]) ([]) (a := a) (O := O00) (na := 2) gL_law_X6_rack rfl (by decide +kernel) rfl (oX6_rack (xl cx) (xG cx) a O00 2 3 (S := S00) rfl hok) rfl rfl rfl ⟨by decide, by decide⟩ (Nat.le_of_ble_eq_true rfl) ⟨by decide, by decide⟩ dL_law_66 ?_
  refine x_top (y := 10) (by decide +kernel) ?_
  refine x_bipush (v := 10) C dL_law_69 (by decide) ?_
  refine x_icmp_ne C 135 dL_law_71 (by decide) (fun h => absurd h (by decide)) (fun _ => ?_)
  refine x_aload_n C 0 dL_law_74 rfl rfl ?_
  refine x_iconst (v := 2) C dL_law_75 (by decide) ?_
  refine x_iconst (v := 4) C dL_law_76 (by decide) ?_
  refine x_oRO C ([.int 2, .int 4]) ([]) (a := a) (O := O00) (na := 2) gL_law_X6_rack rfl (by decide +kernel) rfl (oX6_rack (xl cx) (xG cx) a O00 2 4 (S := S00) rfl hok) rfl rfl rfl ⟨by decide, by decide⟩ (Nat.le_of_ble_eq_true rfl) ⟨by decide, by decide⟩ dL_law_77 ?_
  refine x_top (y := 11) (by decide +kernel) ?_
  refine x_bipush (v := 11) C dL_law_80 (by decide) ?_
  refine x_icmp_ne C 135 dL_law_82 (by decide) (fun h => absurd h (by decide)) (fun _ => ?_)
  refine x_aload_n C 0 dL_law_85 rfl rfl ?_
  refine x_iconst (v := 5) C dL_law_86 (by decide) ?_
  refine x_iconst (v := 0) C dL_law_87 (by decide) ?_
  refine x_oRO C ([.int 5, .int 0]) ([]) (a := a) (O := O00) (na := 2) gL_law_X6_batch rfl (by decide +kernel) rfl (oX6_batch (xl cx) (xG cx) a O00 5 0 (S := S00) rfl hok) rfl rfl rfl ⟨by decide, by decide⟩ (Nat.le_of_ble_eq_true rfl) ⟨by decide, by decide⟩ dL_law_88 ?_
  refine x_top (y := 1000) (by decide +kernel) ?_
  refine x_sipush (v := 1000) C dL_law_91 (by decide) ?_
  refine x_icmp_ne C 135 dL_law_94 (by decide) (fun h => absurd h (by decide)) (fun _ => ?_)
  refine x_aload_n C 0 dL_law_97 rfl rfl ?_
  refine x_iconst (v := 5) C dL_law_98 (by decide) ?_
  refine x_iconst (v := 1) C dL_law_99 (by decide) ?_
  refine x_oRO C ([.int 5, .int 1]) ([]) (a := a) (O := O00) (na := 2) gL_law_X6_batch rfl (by decide +kernel) rfl (oX6_batch (xl cx) (xG cx) a O00 5 1 (S := S00) rfl hok) rfl rfl rfl ⟨by decide, by decide⟩ (Nat.le_of_ble_eq_true rfl) ⟨by decide, by decide⟩ dL_law_100 ?_
  refine x_top (y := 50) (by decide +kernel) ?_
  refine x_bipush (v := 50) C dL_law_103 (by decide) ?_
  refine x_icmp_ne C 135 dL_law_105 (by decide) (fun h => absurd h (by decide)) (fun _ => ?_)
  refine x_aload_n C 0 dL_law_108 rfl rfl ?_
  refine x_iconst (v := 0) C dL_law_109 (by decide) ?_
  refine x_top (y := nI 0) (rfl) ?_
  refine x_sMU C ([.ref (aaX a), .int (nI 0)]) ([]) (a := a) (O := O00) (O' := rfuO O00) (na := 2) gL_law_L_refuses rfl (by decide +kernel) rfl M (kL_refuses (xl cx) (xG cx) a O00 0 (by omega) hI (by decide) (by decide) rfl) rfl rfl rfl ⟨by decide, by decide⟩ (Nat.le_of_ble_eq_true rfl) ⟨by decide, by decide⟩ dL_law_110 ?_
  refine x_if_eq C 135 dL_law_113 (by decide) (fun h => absurd h (by decide)) (fun _ => ?_)
  refine x_aload_n C 0 dL_law_116 rfl rfl ?_
  refine x_iconst (v := 1) C dL_law_117 (by decide) ?_
  refine x_top (y := nI 1) (rfl) ?_
  refine x_sMU C ([.ref (aaX a), .int (nI 1)]) ([]) (a := a) (O := rfuO O00) (O' := rfuO (rfuO O00)) (na := 2) gL_law_L_refuses rfl (by decide +kernel) rfl M (kL_refuses (xl cx) (xG cx) a (rfuO O00) 1 (by omega) hI (by decide) (by decide) rfl) rfl rfl rfl ⟨by decide, by decide⟩ (Nat.le_of_ble_eq_true rfl) ⟨by decide, by decide⟩ dL_law_118 ?_
  refine x_if_eq C 135 dL_law_121 (by decide) (fun h => absurd h (by decide)) (fun _ => ?_)
  refine x_aload_n C 0 dL_law_124 rfl rfl ?_
  refine x_oMU C ([]) ([]) (a := a) (O := rfuO (rfuO O00)) (O' := kepO (rfuO (rfuO O00))) (na := 0) gL_law_X6_keep rfl (by decide +kernel) rfl M (oX6_keep (xl cx) (xG cx) a (rfuO (rfuO O00))) rfl rfl rfl ⟨by decide, by decide⟩ (Nat.le_of_ble_eq_true rfl) ⟨by decide, by decide⟩ dL_law_125 ?_
  refine x_top (y := 0) (rfl) ?_
  refine x_if_ne C 135 dL_law_128 (by decide) (fun h => absurd h (by decide)) (fun _ => ?_)
  refine x_iconst (v := 1) C dL_law_131 (by decide) ?_
  refine x_goto (tgt := 136) C dL_law_132 (by decide) ?_
  refine x_istore_n C [(2, .int 1), (1, .ref (aaX a)), (0, .ref b)] dL_law_136 rfl (by decide) rfl ?_
  refine x_aload_n C 1 dL_law_137 rfl rfl ?_
  refine x_sRO C ([.ref (aaX a)]) ([]) (a := a) (O := kepO (rfuO (rfuO O00))) (na := 1) gL_law_L_seen rfl (by decide +kernel) rfl (kL_seen (xl cx) (xG cx) a (kepO (rfuO (rfuO O00))) hok) rfl rfl rfl ⟨by decide, by decide⟩ (Nat.le_of_ble_eq_true rfl) ⟨by decide, by decide⟩ dL_law_138 ?_
  refine x_lstore_n C [(3, .long (seV S00)), (2, .int 1), (1, .ref (aaX a)), (0, .ref b)] dL_law_141 rfl (by decide) rfl ?_
  refine x_iconst (v := 0) C dL_law_142 (by decide) ?_
  refine x_istore C [(5, .int 0), (3, .long (seV S00)), (2, .int 1), (1, .ref (aaX a)), (0, .ref b)] dL_law_143 (by decide) rfl ?_
  refine x_iconst (v := 0) C dL_law_145 (by decide) ?_
  refine x_istore C [(6, .int 0), (5, .int 0), (3, .long (seV S00)), (2, .int 1), (1, .ref (aaX a)), (0, .ref b)] dL_law_146 (by decide) rfl ?_
  refine x_lv [(0, .ref b), (1, .ref (aaX a)), (2, .int 1), (3, .long (seV S00)), (5, .int 0), (6, .int 0)] [5, 4, 3, 2, 1, 0] rfl ?_
  exact law_loop C M S Z hL a 70 0 (kepO (rfuO (rfuO O00))) _ 0 (by omega) (OI.kep (OI.rfu (OI.rfu oi_00))) (show ¬ (1 : Int32) = 0 by decide) rfl rfl
theorem i_lstart_X6 : ∀ w ∈ u_ws RX6 TX6 9, w ∈ wsL_law := inlX6
theorem m_lstart_1 : (Cond.classLink RL 14 RX6 : Cond) ∈ wsL_law := by decide +kernel
theorem m_lstart_2 : (Cond.instantiable RX6 9 : Cond) ∈ wsL_law := by decide +kernel
theorem m_lstart_3 : (Cond.initialized RX6 : Cond) ∈ wsL_law := by decide +kernel
theorem m_lstart_4 : (Cond.methodLink RL 108 yX6_init : Cond) ∈ wsL_law := by decide +kernel
theorem m_lstart_5 : (Cond.instanceMethod yX6_init : Cond) ∈ wsL_law := by decide +kernel
set_option maxRecDepth 100000 in
set_option maxHeartbeats 4000000 in
theorem law_start {cx : CX} {b L : Nat} {xs : Nat → Int32} (C : XC cx cL_law wsL_law RL room_1 16) (N : XN cx) (O : XQ cx) (S : XS cx b L xs) (Z : XZ cx) (hL : L ≤ 260) : X cx (0, 0) [] [(0, .ref b)] 0 [] := by
  refine x_newo C N (ci := 6) i_lstart_X6 tyX6 tyX6_ok m_lstart_1 m_lstart_2 m_lstart_3 rfl [.null, .null, .null, .null, .int 0, .null, .null, .int 0, .int 0] (fun j hj => by rcases (show j = 0 ∨ j = 1 ∨ j = 2 ∨ j = 3 ∨ j = 4 ∨ j = 5 ∨ j = 6 ∨ j = 7 ∨ j = 8 by omega) with rfl | rfl | rfl | rfl | rfl | rfl | rfl | rfl | rfl <;> rfl) (Nat.le_of_ble_eq_true rfl) (Nat.le_of_ble_eq_true rfl) dL_law_0 (fun qx => ?_)
  refine x_ws [(qx, .inr (6, [.null, .null, .null, .null, .int 0, .null, .null, .int 0, .int 0]))] rfl ?_
  refine x_dup C dL_law_3 rfl ?_
  refine x_callIq C N O (q0 := 0) (rest := [.ref qx]) [] [] gL_law_X6_init m_lstart_4 m_lstart_5 m_lstart_3 rfl rfl (by decide +kernel) (fun sz => kX6_init (xl cx) (xG cx) qx sz) rfl rfl rfl (by decide) rfl rfl rfl ⟨by decide, Nat.le_of_ble_eq_true rfl⟩ (Nat.le_of_ble_eq_true rfl) ⟨Nat.le_of_ble_eq_true rfl, Nat.le_of_ble_eq_true rfl⟩ dL_law_4 (fun ax => ?_)
  refine x_ws (obW (xG cx) (qx, ax 0, ax 1, ax 2, ax 3, bk (a4 ax) 0, bk (a4 ax) 1, bk (a4 ax) 2, bk (a4 ax) 3, fun i => bk (a4 ax) (4 + i)) O00) rfl ?_
  refine x_astore_n C [(1, .ref qx), (0, .ref b)] dL_law_7 rfl (by decide) rfl ?_
  exact law_go C N.M S Z hL (qx, ax 0, ax 1, ax 2, ax 3, bk (a4 ax) 0, bk (a4 ax) 1, bk (a4 ax) 2, bk (a4 ax) 3, fun i => bk (a4 ax) (4 + i))
/-- YOUR PART: from the entry, for every script of at most 260 ints, the law comes to its end with true -/
theorem whole_start {p : Program} {e : Env} {s : State} {m : MethodId} {below : List Frame} {meth : Method} {c : Code} (l : Launch) (hflags : l.flags = flags0) {b L : Nat} {xs : Nat → Int32} (hL : L ≤ 260) (C0 : lw_At p s m meth c b L xs) : W p l e room_1 s m #[Value.ref b] below meth c s.heap [] 0 0 (lw_Z below #[Value.ref b] s) (entryFrame m ([Value.ref b] : List Value).toArray 16) := by
  obtain ⟨G, hK⟩ := lw_KK C0
  have h := law_start (cx := lwX p l e s m below meth c G b) (lw_XC C0 hK) lw_XN (lw_XQ C0) (lw_XS C0) (lw_XZ C0) hL
  rw [lg_entry_eq]
  exact h s.heap [] ⟨fun k q h => by simp at h, ⟨fun i j p q h => by simp at h, fun k q h => by simp at h⟩, va_S.rf⟩ _ (lv_entry [.ref b] (Nat.le_of_ble_eq_true rfl))
