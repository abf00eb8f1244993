set_option maxRecDepth 100000 in
set_option maxHeartbeats 4000000 in
theorem lcase_21 {cx : CX} {b L i : Nat} {xs : Nat → Int32} (C : XC cx cL_law wsL_law RL room_1 4) (M : XM cx) (S : XS cx b L xs) (hL : L ≤ 2560) (hi5 : i + 5 ≤ L) (x0 h0 hs t0 tq m w1 w2 w3 w4 w5 w6 : Nat) (nw bf ah sn : Nat → Nat) (ad : Nat → Nat → Nat) (N B A Ms : SC) (P : Nat → SC) (s k ln ns lr tm sp : Nat) (hk s1 s2 ik e1 e2 th : Int32) (fx z g f kp tx td : Nat → Int32) (T : TX) (hI : LI N Ms P s k ln ns lr hk s1 s2 ik e1 e2 fx z f kp tx) (K : ∀ (N B A Ms : SC) (P : Nat → SC) (s k ln ns lr tm sp : Nat) (hk s1 s2 ik e1 e2 th : Int32) (fx z g f kp tx td : Nat → Int32) (T : TX), LI N Ms P s k ln ns lr hk s1 s2 ik e1 e2 fx z f kp tx → X cx (148, 7222) (([(x0, .inr (6, [.ref (nw 0), .ref (bf 0), .ref (ah 0), .ref (sn 0), .int hk, .ref h0, .ref t0, .int s1, .int s2]))] ++ (stW (xG cx) nw N ++ (stW (xG cx) bf B ++ (stW (xG cx) ah A ++ (stW (xG cx) sn Ms ++ ([(h0, .inr (1, [.int (nI s), .ref hs])), (hs, .inl ((xG cx).2.2.2, 4, .inr (.inr (.inr (.inr (rot ad k))))))] ++ (stW (xG cx) (ad 0) (P 0) ++ (stW (xG cx) (ad 1) (P 1) ++ (stW (xG cx) (ad 2) (P 2) ++ (stW (xG cx) (ad 3) (P 3) ++ [(t0, .inr (5, [.int (nI ln), .ref tq, .int (nI (tP T)), .int th, .int (tK T), .int (tR T), .int (tL T), .int (tH T), .int (tD T), .int (tN T)])), (tq, .inl ((xG cx).2.2.1, 60, .inl fx)), (m, .inr (7, [.ref w1, .ref w2, .ref w3, .int (nI ns), .ref w4, .int ik, .ref w5, .int (nI lr), .int e1, .int e2, .ref w6, .int (nI tm), .int (nI sp)])), (w1, .inl ((xG cx).2.1, 508, .inl z)), (w2, .inl ((xG cx).2.1, 508, .inl g)), (w3, .inl ((xG cx).2.1, 2032, .inl f)), (w4, .inl ((xG cx).2.1, 508, .inl kp)), (w5, .inl ((xG cx).2.1, 60, .inl tx)), (w6, .inl ((xG cx).2.1, 84, .inl td))]))))))))))) [(0, .ref b), (1, .ref x0), (2, .ref m), (3, .int (nI i))] 855 []) : X cx (148, 7222) (([(x0, .inr (6, [.ref (nw 0), .ref (bf 0), .ref (ah 0), .ref (sn 0), .int hk, .ref h0, .ref t0, .int s1, .int s2]))] ++ (stW (xG cx) nw N ++ (stW (xG cx) bf B ++ (stW (xG cx) ah A ++ (stW (xG cx) sn Ms ++ ([(h0, .inr (1, [.int (nI s), .ref hs])), (hs, .inl ((xG cx).2.2.2, 4, .inr (.inr (.inr (.inr (rot ad k))))))] ++ (stW (xG cx) (ad 0) (P 0) ++ (stW (xG cx) (ad 1) (P 1) ++ (stW (xG cx) (ad 2) (P 2) ++ (stW (xG cx) (ad 3) (P 3) ++ [(t0, .inr (5, [.int (nI ln), .ref tq, .int (nI (tP T)), .int th, .int (tK T), .int (tR T), .int (tL T), .int (tH T), .int (tD T), .int (tN T)])), (tq, .inl ((xG cx).2.2.1, 60, .inl fx)), (m, .inr (7, [.ref w1, .ref w2, .ref w3, .int (nI ns), .ref w4, .int ik, .ref w5, .int (nI lr), .int e1, .int e2, .ref w6, .int (nI tm), .int (nI sp)])), (w1, .inl ((xG cx).2.1, 508, .inl z)), (w2, .inl ((xG cx).2.1, 508, .inl g)), (w3, .inl ((xG cx).2.1, 2032, .inl f)), (w4, .inl ((xG cx).2.1, 508, .inl kp)), (w5, .inl ((xG cx).2.1, 60, .inl tx)), (w6, .inl ((xG cx).2.1, 84, .inl td))]))))))))))) [(0, .ref b), (1, .ref x0), (2, .ref m), (3, .int (nI i))] 753 [] := by
  have hk4 : k < 4 := hI.2.2.1.2.2
  have hs4 : s ≤ 4 := hI.2.2.1.2.1
  have hns : ns ≤ 4 := by have := hI.2.2.1.1; omega
  have hok : okS N := hI.1.oS
  have hokZ : okZ z (sN N) := hI.1.oZ
  have hn : sN N ≤ 60 := hI.1.n60
  have hz3 : z 3 = nI (sN N) := hI.1.z3
  have hd : ¬ z 1 = 0 := hI.1.d0
  have hrk := hI.1.rk
  have hln : ln ≤ 60 := hI.2.2.2.2.1.2.2
  have hlr : lr ≤ 60 := by have := hI.2.2.2.2.1.2.1; omega
  have hwa := hI.1.wne
  have hX : okX tx lr td := okX_all hlr td
  refine x_aload_n C 1 dL_law_753 rfl rfl ?_
  refine x_aload_n C 0 dL_law_754 rfl rfl ?_
  refine x_iload_n C 3 dL_law_755 rfl rfl ?_
  refine x_iconst (v := 1) C dL_law_756 (by decide) ?_
  refine x_iadd C (nI_add i 1) dL_law_757 ?_
  refine x_sld C S (vp_in_nI (by omega) (by omega)) (congrArg xs (nI_clamp (by omega))) dL_law_758 ?_
  refine x_aload_n C 0 dL_law_759 rfl rfl ?_
  refine x_iload_n C 3 dL_law_760 rfl rfl ?_
  refine x_iconst (v := 2) C dL_law_761 (by decide) ?_
  refine x_iadd C (nI_add i 2) dL_law_762 ?_
  refine x_sld C S (vp_in_nI (by omega) (by omega)) (congrArg xs (nI_clamp (by omega))) dL_law_763 ?_
  refine x_callVRO C ([.int (xs (i + 1)), .int (xs (i + 2))]) ([]) [0, 1, 2, 3, 4, 5, 6, 7, 8, 9, 10, 11, 12, 13, 14, 15, 16, 17] (k0 := 0) (na := 2) gL_law_X6_lasts rfl (by decide +kernel) rfl rfl rfl (kX6_lasts (xl cx) (xG cx) x0 h0 t0 nw bf ah sn hk s1 s2 N (xs (i + 1)) (xs (i + 2)) (by first | assumption | rfl | omega | decide)) rfl (by decide) rfl rfl rfl ⟨by decide, by decide⟩ (Nat.le_of_ble_eq_true rfl) ⟨by decide, by decide⟩ dL_law_764 ?_
  refine x_aload_n C 2 dL_law_767 rfl rfl ?_
  refine x_aload_n C 0 dL_law_768 rfl rfl ?_
  refine x_iload_n C 3 dL_law_769 rfl rfl ?_
  refine x_iconst (v := 1) C dL_law_770 (by decide) ?_
  refine x_iadd C (nI_add i 1) dL_law_771 ?_
  refine x_sld C S (vp_in_nI (by omega) (by omega)) (congrArg xs (nI_clamp (by omega))) dL_law_772 ?_
  refine x_aload_n C 0 dL_law_773 rfl rfl ?_
  refine x_iload_n C 3 dL_law_774 rfl rfl ?_
  refine x_iconst (v := 2) C dL_law_775 (by decide) ?_
  refine x_iadd C (nI_add i 2) dL_law_776 ?_
  refine x_sld C S (vp_in_nI (by omega) (by omega)) (congrArg xs (nI_clamp (by omega))) dL_law_777 ?_
  refine x_callVRO C ([.int (xs (i + 1)), .int (xs (i + 2))]) ([.int (lstS N (xs (i + 1)) (xs (i + 2)))]) [141, 142] (k0 := 0) (na := 2) gL_law_X7_lasts rfl (by decide +kernel) rfl rfl rfl (kX7_lasts (xl cx) (xG cx) m w1 w2 w3 w4 w5 w6 ns lr tm sp ik e1 e2 z (sN N) (xs (i + 1)) (xs (i + 2)) (by first | assumption | rfl | omega | decide) (by first | assumption | rfl | omega | decide) (by first | assumption | rfl | omega | decide) (by first | assumption | rfl | omega | decide)) rfl (by decide) rfl rfl rfl ⟨by decide, by decide⟩ (Nat.le_of_ble_eq_true rfl) ⟨by decide, by decide⟩ dL_law_778 ?_
  refine x_icmp_eq C 855 dL_law_781 (by decide) (fun c_781 => ?_) (fun c_781 => ?_)
  ·
    exact K N B A Ms P s k ln ns lr tm sp hk s1 s2 ik e1 e2 th fx z g f kp tx td T (hI)
  ·
    exact absurd (lasts_eq hI.1 (xs (i + 1)) (xs (i + 2))) c_781

set_option maxRecDepth 100000 in
set_option maxHeartbeats 4000000 in
theorem lcase_22 {cx : CX} {b L i : Nat} {xs : Nat → Int32} (C : XC cx cL_law wsL_law RL room_1 4) (M : XM cx) (S : XS cx b L xs) (hL : L ≤ 2560) (hi5 : i + 5 ≤ L) (x0 h0 hs t0 tq m w1 w2 w3 w4 w5 w6 : Nat) (nw bf ah sn : Nat → Nat) (ad : Nat → Nat → Nat) (N B A Ms : SC) (P : Nat → SC) (s k ln ns lr tm sp : Nat) (hk s1 s2 ik e1 e2 th : Int32) (fx z g f kp tx td : Nat → Int32) (T : TX) (hI : LI N Ms P s k ln ns lr hk s1 s2 ik e1 e2 fx z f kp tx) (K : ∀ (N B A Ms : SC) (P : Nat → SC) (s k ln ns lr tm sp : Nat) (hk s1 s2 ik e1 e2 th : Int32) (fx z g f kp tx td : Nat → Int32) (T : TX), LI N Ms P s k ln ns lr hk s1 s2 ik e1 e2 fx z f kp tx → X cx (148, 7222) (([(x0, .inr (6, [.ref (nw 0), .ref (bf 0), .ref (ah 0), .ref (sn 0), .int hk, .ref h0, .ref t0, .int s1, .int s2]))] ++ (stW (xG cx) nw N ++ (stW (xG cx) bf B ++ (stW (xG cx) ah A ++ (stW (xG cx) sn Ms ++ ([(h0, .inr (1, [.int (nI s), .ref hs])), (hs, .inl ((xG cx).2.2.2, 4, .inr (.inr (.inr (.inr (rot ad k))))))] ++ (stW (xG cx) (ad 0) (P 0) ++ (stW (xG cx) (ad 1) (P 1) ++ (stW (xG cx) (ad 2) (P 2) ++ (stW (xG cx) (ad 3) (P 3) ++ [(t0, .inr (5, [.int (nI ln), .ref tq, .int (nI (tP T)), .int th, .int (tK T), .int (tR T), .int (tL T), .int (tH T), .int (tD T), .int (tN T)])), (tq, .inl ((xG cx).2.2.1, 60, .inl fx)), (m, .inr (7, [.ref w1, .ref w2, .ref w3, .int (nI ns), .ref w4, .int ik, .ref w5, .int (nI lr), .int e1, .int e2, .ref w6, .int (nI tm), .int (nI sp)])), (w1, .inl ((xG cx).2.1, 508, .inl z)), (w2, .inl ((xG cx).2.1, 508, .inl g)), (w3, .inl ((xG cx).2.1, 2032, .inl f)), (w4, .inl ((xG cx).2.1, 508, .inl kp)), (w5, .inl ((xG cx).2.1, 60, .inl tx)), (w6, .inl ((xG cx).2.1, 84, .inl td))]))))))))))) [(0, .ref b), (1, .ref x0), (2, .ref m), (3, .int (nI i))] 855 []) : X cx (148, 7222) (([(x0, .inr (6, [.ref (nw 0), .ref (bf 0), .ref (ah 0), .ref (sn 0), .int hk, .ref h0, .ref t0, .int s1, .int s2]))] ++ (stW (xG cx) nw N ++ (stW (xG cx) bf B ++ (stW (xG cx) ah A ++ (stW (xG cx) sn Ms ++ ([(h0, .inr (1, [.int (nI s), .ref hs])), (hs, .inl ((xG cx).2.2.2, 4, .inr (.inr (.inr (.inr (rot ad k))))))] ++ (stW (xG cx) (ad 0) (P 0) ++ (stW (xG cx) (ad 1) (P 1) ++ (stW (xG cx) (ad 2) (P 2) ++ (stW (xG cx) (ad 3) (P 3) ++ [(t0, .inr (5, [.int (nI ln), .ref tq, .int (nI (tP T)), .int th, .int (tK T), .int (tR T), .int (tL T), .int (tH T), .int (tD T), .int (tN T)])), (tq, .inl ((xG cx).2.2.1, 60, .inl fx)), (m, .inr (7, [.ref w1, .ref w2, .ref w3, .int (nI ns), .ref w4, .int ik, .ref w5, .int (nI lr), .int e1, .int e2, .ref w6, .int (nI tm), .int (nI sp)])), (w1, .inl ((xG cx).2.1, 508, .inl z)), (w2, .inl ((xG cx).2.1, 508, .inl g)), (w3, .inl ((xG cx).2.1, 2032, .inl f)), (w4, .inl ((xG cx).2.1, 508, .inl kp)), (w5, .inl ((xG cx).2.1, 60, .inl tx)), (w6, .inl ((xG cx).2.1, 84, .inl td))]))))))))))) [(0, .ref b), (1, .ref x0), (2, .ref m), (3, .int (nI i))] 786 [] := by
  have hk4 : k < 4 := hI.2.2.1.2.2
  have hs4 : s ≤ 4 := hI.2.2.1.2.1
  have hns : ns ≤ 4 := by have := hI.2.2.1.1; omega
  have hok : okS N := hI.1.oS
  have hokZ : okZ z (sN N) := hI.1.oZ
  have hn : sN N ≤ 60 := hI.1.n60
  have hz3 : z 3 = nI (sN N) := hI.1.z3
  have hd : ¬ z 1 = 0 := hI.1.d0
  have hrk := hI.1.rk
  have hln : ln ≤ 60 := hI.2.2.2.2.1.2.2
  have hlr : lr ≤ 60 := by have := hI.2.2.2.2.1.2.1; omega
  have hwa := hI.1.wne
  have hX : okX tx lr td := okX_all hlr td
  refine x_aload_n C 1 dL_law_786 rfl rfl ?_
  refine x_aload_n C 0 dL_law_787 rfl rfl ?_
  refine x_iload_n C 3 dL_law_788 rfl rfl ?_
  refine x_iconst (v := 1) C dL_law_789 (by decide) ?_
  refine x_iadd C (nI_add i 1) dL_law_790 ?_
  refine x_sld C S (vp_in_nI (by omega) (by omega)) (congrArg xs (nI_clamp (by omega))) dL_law_791 ?_
  refine x_callVRO C ([.int (xs (i + 1))]) ([]) [0, 1, 2, 3, 4, 5, 6, 7, 8, 9, 10, 11, 12, 13, 14, 15, 16, 17] (k0 := 0) (na := 1) gL_law_X6_reason rfl (by decide +kernel) rfl rfl rfl (kX6_reason (xl cx) (xG cx) x0 h0 t0 nw bf ah sn hk s1 s2 N (xs (i + 1)) (by first | assumption | rfl | omega | decide)) rfl (by decide) rfl rfl rfl ⟨by decide, by decide⟩ (Nat.le_of_ble_eq_true rfl) ⟨by decide, by decide⟩ dL_law_792 ?_
  refine x_aload_n C 2 dL_law_795 rfl rfl ?_
  refine x_aload_n C 0 dL_law_796 rfl rfl ?_
  refine x_iload_n C 3 dL_law_797 rfl rfl ?_
  refine x_iconst (v := 1) C dL_law_798 (by decide) ?_
  refine x_iadd C (nI_add i 1) dL_law_799 ?_
  refine x_sld C S (vp_in_nI (by omega) (by omega)) (congrArg xs (nI_clamp (by omega))) dL_law_800 ?_
  refine x_callVRO C ([.int (xs (i + 1))]) ([.int (rsnS N (xs (i + 1)))]) [141, 142] (k0 := 0) (na := 1) gL_law_X7_reason rfl (by decide +kernel) rfl rfl rfl (kX7_reason (xl cx) (xG cx) m w1 w2 w3 w4 w5 w6 ns lr tm sp ik e1 e2 z (sN N) (xs (i + 1)) (by first | assumption | rfl | omega | decide) (by first | assumption | rfl | omega | decide) (by first | assumption | rfl | omega | decide)) rfl (by decide) rfl rfl rfl ⟨by decide, by decide⟩ (Nat.le_of_ble_eq_true rfl) ⟨by decide, by decide⟩ dL_law_801 ?_
  refine x_icmp_eq C 855 dL_law_804 (by decide) (fun c_804 => ?_) (fun c_804 => ?_)
  ·
    exact K N B A Ms P s k ln ns lr tm sp hk s1 s2 ik e1 e2 th fx z g f kp tx td T (hI)
  ·
    exact absurd (reason_eq hI.1 (xs (i + 1))) c_804

set_option maxRecDepth 100000 in
set_option maxHeartbeats 4000000 in
theorem lcase_23 {cx : CX} {b L i : Nat} {xs : Nat → Int32} (C : XC cx cL_law wsL_law RL room_1 4) (M : XM cx) (S : XS cx b L xs) (hL : L ≤ 2560) (hi5 : i + 5 ≤ L) (x0 h0 hs t0 tq m w1 w2 w3 w4 w5 w6 : Nat) (nw bf ah sn : Nat → Nat) (ad : Nat → Nat → Nat) (N B A Ms : SC) (P : Nat → SC) (s k ln ns lr tm sp : Nat) (hk s1 s2 ik e1 e2 th : Int32) (fx z g f kp tx td : Nat → Int32) (T : TX) (hI : LI N Ms P s k ln ns lr hk s1 s2 ik e1 e2 fx z f kp tx) (K : ∀ (N B A Ms : SC) (P : Nat → SC) (s k ln ns lr tm sp : Nat) (hk s1 s2 ik e1 e2 th : Int32) (fx z g f kp tx td : Nat → Int32) (T : TX), LI N Ms P s k ln ns lr hk s1 s2 ik e1 e2 fx z f kp tx → X cx (148, 7222) (([(x0, .inr (6, [.ref (nw 0), .ref (bf 0), .ref (ah 0), .ref (sn 0), .int hk, .ref h0, .ref t0, .int s1, .int s2]))] ++ (stW (xG cx) nw N ++ (stW (xG cx) bf B ++ (stW (xG cx) ah A ++ (stW (xG cx) sn Ms ++ ([(h0, .inr (1, [.int (nI s), .ref hs])), (hs, .inl ((xG cx).2.2.2, 4, .inr (.inr (.inr (.inr (rot ad k))))))] ++ (stW (xG cx) (ad 0) (P 0) ++ (stW (xG cx) (ad 1) (P 1) ++ (stW (xG cx) (ad 2) (P 2) ++ (stW (xG cx) (ad 3) (P 3) ++ [(t0, .inr (5, [.int (nI ln), .ref tq, .int (nI (tP T)), .int th, .int (tK T), .int (tR T), .int (tL T), .int (tH T), .int (tD T), .int (tN T)])), (tq, .inl ((xG cx).2.2.1, 60, .inl fx)), (m, .inr (7, [.ref w1, .ref w2, .ref w3, .int (nI ns), .ref w4, .int ik, .ref w5, .int (nI lr), .int e1, .int e2, .ref w6, .int (nI tm), .int (nI sp)])), (w1, .inl ((xG cx).2.1, 508, .inl z)), (w2, .inl ((xG cx).2.1, 508, .inl g)), (w3, .inl ((xG cx).2.1, 2032, .inl f)), (w4, .inl ((xG cx).2.1, 508, .inl kp)), (w5, .inl ((xG cx).2.1, 60, .inl tx)), (w6, .inl ((xG cx).2.1, 84, .inl td))]))))))))))) [(0, .ref b), (1, .ref x0), (2, .ref m), (3, .int (nI i))] 855 []) : X cx (148, 7222) (([(x0, .inr (6, [.ref (nw 0), .ref (bf 0), .ref (ah 0), .ref (sn 0), .int hk, .ref h0, .ref t0, .int s1, .int s2]))] ++ (stW (xG cx) nw N ++ (stW (xG cx) bf B ++ (stW (xG cx) ah A ++ (stW (xG cx) sn Ms ++ ([(h0, .inr (1, [.int (nI s), .ref hs])), (hs, .inl ((xG cx).2.2.2, 4, .inr (.inr (.inr (.inr (rot ad k))))))] ++ (stW (xG cx) (ad 0) (P 0) ++ (stW (xG cx) (ad 1) (P 1) ++ (stW (xG cx) (ad 2) (P 2) ++ (stW (xG cx) (ad 3) (P 3) ++ [(t0, .inr (5, [.int (nI ln), .ref tq, .int (nI (tP T)), .int th, .int (tK T), .int (tR T), .int (tL T), .int (tH T), .int (tD T), .int (tN T)])), (tq, .inl ((xG cx).2.2.1, 60, .inl fx)), (m, .inr (7, [.ref w1, .ref w2, .ref w3, .int (nI ns), .ref w4, .int ik, .ref w5, .int (nI lr), .int e1, .int e2, .ref w6, .int (nI tm), .int (nI sp)])), (w1, .inl ((xG cx).2.1, 508, .inl z)), (w2, .inl ((xG cx).2.1, 508, .inl g)), (w3, .inl ((xG cx).2.1, 2032, .inl f)), (w4, .inl ((xG cx).2.1, 508, .inl kp)), (w5, .inl ((xG cx).2.1, 60, .inl tx)), (w6, .inl ((xG cx).2.1, 84, .inl td))]))))))))))) [(0, .ref b), (1, .ref x0), (2, .ref m), (3, .int (nI i))] 809 [] := by
  have hk4 : k < 4 := hI.2.2.1.2.2
  have hs4 : s ≤ 4 := hI.2.2.1.2.1
  have hns : ns ≤ 4 := by have := hI.2.2.1.1; omega
  have hok : okS N := hI.1.oS
  have hokZ : okZ z (sN N) := hI.1.oZ
  have hn : sN N ≤ 60 := hI.1.n60
  have hz3 : z 3 = nI (sN N) := hI.1.z3
  have hd : ¬ z 1 = 0 := hI.1.d0
  have hrk := hI.1.rk
  have hln : ln ≤ 60 := hI.2.2.2.2.1.2.2
  have hlr : lr ≤ 60 := by have := hI.2.2.2.2.1.2.1; omega
  have hwa := hI.1.wne
  have hX : okX tx lr td := okX_all hlr td
  refine x_aload_n C 1 dL_law_809 rfl rfl ?_
  refine x_aload_n C 0 dL_law_810 rfl rfl ?_
  refine x_iload_n C 3 dL_law_811 rfl rfl ?_
  refine x_iconst (v := 1) C dL_law_812 (by decide) ?_
  refine x_iadd C (nI_add i 1) dL_law_813 ?_
  refine x_sld C S (vp_in_nI (by omega) (by omega)) (congrArg xs (nI_clamp (by omega))) dL_law_814 ?_
  refine x_callVMU C ([.int (xs (i + 1))]) ([]) [0, 1, 2, 3, 4, 5, 6, 7, 8, 9, 10, 11, 12, 13, 14, 15, 16, 17, 35, 36, 37, 38, 39, 40, 41, 42, 43, 44, 45, 46, 47, 48, 49, 50, 51] ([(x0, .inr (6, [.ref (nw 0), .ref (bf 0), .ref (ah 0), .ref (sn 0), .int hk, .ref h0, .ref t0, .int s1, .int s2]))] ++ (stW (xG cx) nw N ++ (stW (xG cx) bf B ++ (stW (xG cx) ah (if 0 ≤ (xs (i + 1)) ∧ (xs (i + 1)) ≤ 1 then (pHs N 3000).1 else A) ++ (stW (xG cx) sn Ms ++ ([(h0, .inr (1, [.int (nI s), .ref hs])), (hs, .inl ((xG cx).2.2.2, 4, .inr (.inr (.inr (.inr (rot ad k))))))] ++ (stW (xG cx) (ad 0) (P 0) ++ (stW (xG cx) (ad 1) (P 1) ++ (stW (xG cx) (ad 2) (P 2) ++ (stW (xG cx) (ad 3) (P 3) ++ [(t0, .inr (5, [.int (nI ln), .ref tq, .int (nI (tP T)), .int th, .int (tK T), .int (tR T), .int (tL T), .int (tH T), .int (tD T), .int (tN T)])), (tq, .inl ((xG cx).2.2.1, 60, .inl fx)), (m, .inr (7, [.ref w1, .ref w2, .ref w3, .int (nI ns), .ref w4, .int ik, .ref w5, .int (nI lr), .int e1, .int e2, .ref w6, .int (nI tm), .int (nI sp)])), (w1, .inl ((xG cx).2.1, 508, .inl z)), (w2, .inl ((xG cx).2.1, 508, .inl g)), (w3, .inl ((xG cx).2.1, 2032, .inl f)), (w4, .inl ((xG cx).2.1, 508, .inl kp)), (w5, .inl ((xG cx).2.1, 60, .inl tx)), (w6, .inl ((xG cx).2.1, 84, .inl td))])))))))))) ([18, 19, 20, 21, 22, 23, 24, 25, 26, 27, 28, 29, 30, 31, 32, 33, 34] ++ ([52, 53, 54, 55, 56, 57, 58, 59, 60, 61, 62, 63, 64, 65, 66, 67, 68] ++ ([69, 70, 71, 72, 73, 74, 75, 76, 77, 78, 79, 80, 81, 82, 83, 84, 85] ++ ([86, 87, 88, 89, 90, 91, 92, 93, 94, 95, 96, 97, 98, 99, 100, 101, 102] ++ ([103, 104, 105, 106, 107, 108, 109, 110, 111, 112, 113, 114, 115, 116, 117, 118, 119] ++ ([120, 121, 122, 123, 124, 125, 126, 127, 128, 129, 130, 131, 132, 133, 134, 135, 136] ++ [137, 138, 139, 140, 141, 142, 143, 144, 145, 146, 147])))))) ([x0, nw 0, nw 1, nw 2, nw 3, nw 4, nw 5, nw 6, nw 7, nw 8, nw 9, nw 10, nw 11, nw 12, nw 13, nw 14, nw 15] ++ ([nw 16, bf 0, bf 1, bf 2, bf 3, bf 4, bf 5, bf 6, bf 7, bf 8, bf 9, bf 10, bf 11, bf 12, bf 13, bf 14, bf 15] ++ ([bf 16, ah 0, ah 1, ah 2, ah 3, ah 4, ah 5, ah 6, ah 7, ah 8, ah 9, ah 10, ah 11, ah 12, ah 13, ah 14, ah 15] ++ ([ah 16, sn 0, sn 1, sn 2, sn 3, sn 4, sn 5, sn 6, sn 7, sn 8, sn 9, sn 10, sn 11, sn 12, sn 13, sn 14, sn 15] ++ ([sn 16, h0, hs, ad 0 0, ad 0 1, ad 0 2, ad 0 3, ad 0 4, ad 0 5, ad 0 6, ad 0 7, ad 0 8, ad 0 9, ad 0 10, ad 0 11, ad 0 12, ad 0 13] ++ ([ad 0 14, ad 0 15, ad 0 16, ad 1 0, ad 1 1, ad 1 2, ad 1 3, ad 1 4, ad 1 5, ad 1 6, ad 1 7, ad 1 8, ad 1 9, ad 1 10, ad 1 11, ad 1 12, ad 1 13] ++ ([ad 1 14, ad 1 15, ad 1 16, ad 2 0, ad 2 1, ad 2 2, ad 2 3, ad 2 4, ad 2 5, ad 2 6, ad 2 7, ad 2 8, ad 2 9, ad 2 10, ad 2 11, ad 2 12, ad 2 13] ++ ([ad 2 14, ad 2 15, ad 2 16, ad 3 0, ad 3 1, ad 3 2, ad 3 3, ad 3 4, ad 3 5, ad 3 6, ad 3 7, ad 3 8, ad 3 9, ad 3 10, ad 3 11, ad 3 12, ad 3 13] ++ [ad 3 14, ad 3 15, ad 3 16, t0, tq, m, w1, w2, w3, w4, w5, w6])))))))) rfl rfl (stW (xG cx) bf B ++ (stW (xG cx) sn Ms ++ ([(h0, .inr (1, [.int (nI s), .ref hs])), (hs, .inl ((xG cx).2.2.2, 4, .inr (.inr (.inr (.inr (rot ad k))))))] ++ (stW (xG cx) (ad 0) (P 0) ++ (stW (xG cx) (ad 1) (P 1) ++ (stW (xG cx) (ad 2) (P 2) ++ (stW (xG cx) (ad 3) (P 3) ++ [(t0, .inr (5, [.int (nI ln), .ref tq, .int (nI (tP T)), .int th, .int (tK T), .int (tR T), .int (tL T), .int (tH T), .int (tD T), .int (tN T)])), (tq, .inl ((xG cx).2.2.1, 60, .inl fx)), (m, .inr (7, [.ref w1, .ref w2, .ref w3, .int (nI ns), .ref w4, .int ik, .ref w5, .int (nI lr), .int e1, .int e2, .ref w6, .int (nI tm), .int (nI sp)])), (w1, .inl ((xG cx).2.1, 508, .inl z)), (w2, .inl ((xG cx).2.1, 508, .inl g)), (w3, .inl ((xG cx).2.1, 2032, .inl f)), (w4, .inl ((xG cx).2.1, 508, .inl kp)), (w5, .inl ((xG cx).2.1, 60, .inl tx)), (w6, .inl ((xG cx).2.1, 84, .inl td))]))))))) rfl rfl 148 rfl (by decide +kernel) rfl (k0 := 0) (na := 1) gL_law_X6_next rfl (by decide +kernel) rfl rfl rfl M (kX6_next (xl cx) (xG cx) x0 h0 t0 nw bf ah sn hk s1 s2 N A (xs (i + 1)) (by first | assumption | rfl | omega | decide)) rfl (by decide) rfl rfl rfl ⟨by decide, by decide⟩ (Nat.le_of_ble_eq_true rfl) ⟨by decide, by decide⟩ dL_law_815 ?_
  refine x_aload_n C 2 dL_law_818 rfl rfl ?_
  refine x_aload_n C 0 dL_law_819 rfl rfl ?_
  refine x_iload_n C 3 dL_law_820 rfl rfl ?_
  refine x_iconst (v := 1) C dL_law_821 (by decide) ?_
  refine x_iadd C (nI_add i 1) dL_law_822 ?_
  refine x_sld C S (vp_in_nI (by omega) (by omega)) (congrArg xs (nI_clamp (by omega))) dL_law_823 ?_
  refine x_callVMU C ([.int (xs (i + 1))]) ([.int (nxtS N (xs (i + 1)))]) [141, 142, 143] ([(x0, .inr (6, [.ref (nw 0), .ref (bf 0), .ref (ah 0), .ref (sn 0), .int hk, .ref h0, .ref t0, .int s1, .int s2]))] ++ (stW (xG cx) nw N ++ (stW (xG cx) bf B ++ (stW (xG cx) ah (if 0 ≤ (xs (i + 1)) ∧ (xs (i + 1)) ≤ 1 then (pHs N 3000).1 else A) ++ (stW (xG cx) sn Ms ++ ([(h0, .inr (1, [.int (nI s), .ref hs])), (hs, .inl ((xG cx).2.2.2, 4, .inr (.inr (.inr (.inr (rot ad k))))))] ++ (stW (xG cx) (ad 0) (P 0) ++ (stW (xG cx) (ad 1) (P 1) ++ (stW (xG cx) (ad 2) (P 2) ++ (stW (xG cx) (ad 3) (P 3) ++ [(t0, .inr (5, [.int (nI ln), .ref tq, .int (nI (tP T)), .int th, .int (tK T), .int (tR T), .int (tL T), .int (tH T), .int (tD T), .int (tN T)])), (tq, .inl ((xG cx).2.2.1, 60, .inl fx)), (m, .inr (7, [.ref w1, .ref w2, .ref w3, .int (nI ns), .ref w4, .int ik, .ref w5, .int (nI lr), .int e1, .int e2, .ref w6, .int (nI tm), .int (nI sp)])), (w1, .inl ((xG cx).2.1, 508, .inl (if 0 ≤ (xs (i + 1)) ∧ (xs (i + 1)) ≤ 1 then cpS (cpS z 0 g 0 508) 0 (ysR z (sN N) (nxQ z (sN N))) 0 508 else z))), (w2, .inl ((xG cx).2.1, 508, .inl (if 0 ≤ (xs (i + 1)) ∧ (xs (i + 1)) ≤ 1 then cpS z 0 g 0 508 else g))), (w3, .inl ((xG cx).2.1, 2032, .inl f)), (w4, .inl ((xG cx).2.1, 508, .inl kp)), (w5, .inl ((xG cx).2.1, 60, .inl tx)), (w6, .inl ((xG cx).2.1, 84, .inl td))])))))))))) ([0, 1, 2, 3, 4, 5, 6, 7, 8, 9, 10, 11, 12, 13, 14, 15, 16] ++ ([17, 18, 19, 20, 21, 22, 23, 24, 25, 26, 27, 28, 29, 30, 31, 32, 33] ++ ([34, 35, 36, 37, 38, 39, 40, 41, 42, 43, 44, 45, 46, 47, 48, 49, 50] ++ ([51, 52, 53, 54, 55, 56, 57, 58, 59, 60, 61, 62, 63, 64, 65, 66, 67] ++ ([68, 69, 70, 71, 72, 73, 74, 75, 76, 77, 78, 79, 80, 81, 82, 83, 84] ++ ([85, 86, 87, 88, 89, 90, 91, 92, 93, 94, 95, 96, 97, 98, 99, 100, 101] ++ ([102, 103, 104, 105, 106, 107, 108, 109, 110, 111, 112, 113, 114, 115, 116, 117, 118] ++ ([119, 120, 121, 122, 123, 124, 125, 126, 127, 128, 129, 130, 131, 132, 133, 134, 135] ++ [136, 137, 138, 139, 140, 144, 145, 146, 147])))))))) ([x0, nw 0, nw 1, nw 2, nw 3, nw 4, nw 5, nw 6, nw 7, nw 8, nw 9, nw 10, nw 11, nw 12, nw 13, nw 14, nw 15] ++ ([nw 16, bf 0, bf 1, bf 2, bf 3, bf 4, bf 5, bf 6, bf 7, bf 8, bf 9, bf 10, bf 11, bf 12, bf 13, bf 14, bf 15] ++ ([bf 16, ah 0, ah 1, ah 2, ah 3, ah 4, ah 5, ah 6, ah 7, ah 8, ah 9, ah 10, ah 11, ah 12, ah 13, ah 14, ah 15] ++ ([ah 16, sn 0, sn 1, sn 2, sn 3, sn 4, sn 5, sn 6, sn 7, sn 8, sn 9, sn 10, sn 11, sn 12, sn 13, sn 14, sn 15] ++ ([sn 16, h0, hs, ad 0 0, ad 0 1, ad 0 2, ad 0 3, ad 0 4, ad 0 5, ad 0 6, ad 0 7, ad 0 8, ad 0 9, ad 0 10, ad 0 11, ad 0 12, ad 0 13] ++ ([ad 0 14, ad 0 15, ad 0 16, ad 1 0, ad 1 1, ad 1 2, ad 1 3, ad 1 4, ad 1 5, ad 1 6, ad 1 7, ad 1 8, ad 1 9, ad 1 10, ad 1 11, ad 1 12, ad 1 13] ++ ([ad 1 14, ad 1 15, ad 1 16, ad 2 0, ad 2 1, ad 2 2, ad 2 3, ad 2 4, ad 2 5, ad 2 6, ad 2 7, ad 2 8, ad 2 9, ad 2 10, ad 2 11, ad 2 12, ad 2 13] ++ ([ad 2 14, ad 2 15, ad 2 16, ad 3 0, ad 3 1, ad 3 2, ad 3 3, ad 3 4, ad 3 5, ad 3 6, ad 3 7, ad 3 8, ad 3 9, ad 3 10, ad 3 11, ad 3 12, ad 3 13] ++ [ad 3 14, ad 3 15, ad 3 16, t0, tq, m, w1, w2, w3, w4, w5, w6])))))))) rfl rfl ([(x0, .inr (6, [.ref (nw 0), .ref (bf 0), .ref (ah 0), .ref (sn 0), .int hk, .ref h0, .ref t0, .int s1, .int s2]))] ++ (stW (xG cx) nw N ++ (stW (xG cx) bf B ++ (stW (xG cx) ah (if 0 ≤ (xs (i + 1)) ∧ (xs (i + 1)) ≤ 1 then (pHs N 3000).1 else A) ++ (stW (xG cx) sn Ms ++ ([(h0, .inr (1, [.int (nI s), .ref hs])), (hs, .inl ((xG cx).2.2.2, 4, .inr (.inr (.inr (.inr (rot ad k))))))] ++ (stW (xG cx) (ad 0) (P 0) ++ (stW (xG cx) (ad 1) (P 1) ++ (stW (xG cx) (ad 2) (P 2) ++ (stW (xG cx) (ad 3) (P 3) ++ [(t0, .inr (5, [.int (nI ln), .ref tq, .int (nI (tP T)), .int th, .int (tK T), .int (tR T), .int (tL T), .int (tH T), .int (tD T), .int (tN T)])), (tq, .inl ((xG cx).2.2.1, 60, .inl fx)), (w3, .inl ((xG cx).2.1, 2032, .inl f)), (w4, .inl ((xG cx).2.1, 508, .inl kp)), (w5, .inl ((xG cx).2.1, 60, .inl tx)), (w6, .inl ((xG cx).2.1, 84, .inl td))])))))))))) rfl rfl 148 rfl (by decide +kernel) rfl (k0 := 0) (na := 1) gL_law_X7_next rfl (by decide +kernel) rfl rfl rfl M (kX7_next (xl cx) (xG cx) m w1 w2 w3 w4 w5 w6 ns lr tm sp ik e1 e2 z (sN N) g (xs (i + 1)) (by first | assumption | rfl | omega | decide)) rfl (by decide) rfl rfl rfl ⟨by decide, by decide⟩ (Nat.le_of_ble_eq_true rfl) ⟨by decide, by decide⟩ dL_law_824 ?_
  refine x_icmp_eq C 855 dL_law_827 (by decide) (fun c_827 => ?_) (fun c_827 => ?_)
  ·
    exact K N B (if 0 ≤ (xs (i + 1)) ∧ (xs (i + 1)) ≤ 1 then (pHs N 3000).1 else A) Ms P s k ln ns lr tm sp hk s1 s2 ik e1 e2 th fx (if 0 ≤ (xs (i + 1)) ∧ (xs (i + 1)) ≤ 1 then cpS (cpS z 0 g 0 508) 0 (ysR z (sN N) (nxQ z (sN N))) 0 508 else z) (if 0 ≤ (xs (i + 1)) ∧ (xs (i + 1)) ≤ 1 then cpS z 0 g 0 508 else g) f kp tx td T (hI.next (xs (i + 1)) g)
  ·
    exact absurd (next_eq hI.1 (xs (i + 1))) c_827

set_option maxRecDepth 100000 in
set_option maxHeartbeats 4000000 in
theorem lcase_24 {cx : CX} {b L i : Nat} {xs : Nat → Int32} (C : XC cx cL_law wsL_law RL room_1 4) (M : XM cx) (S : XS cx b L xs) (hL : L ≤ 2560) (hi5 : i + 5 ≤ L) (x0 h0 hs t0 tq m w1 w2 w3 w4 w5 w6 : Nat) (nw bf ah sn : Nat → Nat) (ad : Nat → Nat → Nat) (N B A Ms : SC) (P : Nat → SC) (s k ln ns lr tm sp : Nat) (hk s1 s2 ik e1 e2 th : Int32) (fx z g f kp tx td : Nat → Int32) (T : TX) (hI : LI N Ms P s k ln ns lr hk s1 s2 ik e1 e2 fx z f kp tx) (K : ∀ (N B A Ms : SC) (P : Nat → SC) (s k ln ns lr tm sp : Nat) (hk s1 s2 ik e1 e2 th : Int32) (fx z g f kp tx td : Nat → Int32) (T : TX), LI N Ms P s k ln ns lr hk s1 s2 ik e1 e2 fx z f kp tx → X cx (148, 7222) (([(x0, .inr (6, [.ref (nw 0), .ref (bf 0), .ref (ah 0), .ref (sn 0), .int hk, .ref h0, .ref t0, .int s1, .int s2]))] ++ (stW (xG cx) nw N ++ (stW (xG cx) bf B ++ (stW (xG cx) ah A ++ (stW (xG cx) sn Ms ++ ([(h0, .inr (1, [.int (nI s), .ref hs])), (hs, .inl ((xG cx).2.2.2, 4, .inr (.inr (.inr (.inr (rot ad k))))))] ++ (stW (xG cx) (ad 0) (P 0) ++ (stW (xG cx) (ad 1) (P 1) ++ (stW (xG cx) (ad 2) (P 2) ++ (stW (xG cx) (ad 3) (P 3) ++ [(t0, .inr (5, [.int (nI ln), .ref tq, .int (nI (tP T)), .int th, .int (tK T), .int (tR T), .int (tL T), .int (tH T), .int (tD T), .int (tN T)])), (tq, .inl ((xG cx).2.2.1, 60, .inl fx)), (m, .inr (7, [.ref w1, .ref w2, .ref w3, .int (nI ns), .ref w4, .int ik, .ref w5, .int (nI lr), .int e1, .int e2, .ref w6, .int (nI tm), .int (nI sp)])), (w1, .inl ((xG cx).2.1, 508, .inl z)), (w2, .inl ((xG cx).2.1, 508, .inl g)), (w3, .inl ((xG cx).2.1, 2032, .inl f)), (w4, .inl ((xG cx).2.1, 508, .inl kp)), (w5, .inl ((xG cx).2.1, 60, .inl tx)), (w6, .inl ((xG cx).2.1, 84, .inl td))]))))))))))) [(0, .ref b), (1, .ref x0), (2, .ref m), (3, .int (nI i))] 855 []) : X cx (148, 7222) (([(x0, .inr (6, [.ref (nw 0), .ref (bf 0), .ref (ah 0), .ref (sn 0), .int hk, .ref h0, .ref t0, .int s1, .int s2]))] ++ (stW (xG cx) nw N ++ (stW (xG cx) bf B ++ (stW (xG cx) ah A ++ (stW (xG cx) sn Ms ++ ([(h0, .inr (1, [.int (nI s), .ref hs])), (hs, .inl ((xG cx).2.2.2, 4, .inr (.inr (.inr (.inr (rot ad k))))))] ++ (stW (xG cx) (ad 0) (P 0) ++ (stW (xG cx) (ad 1) (P 1) ++ (stW (xG cx) (ad 2) (P 2) ++ (stW (xG cx) (ad 3) (P 3) ++ [(t0, .inr (5, [.int (nI ln), .ref tq, .int (nI (tP T)), .int th, .int (tK T), .int (tR T), .int (tL T), .int (tH T), .int (tD T), .int (tN T)])), (tq, .inl ((xG cx).2.2.1, 60, .inl fx)), (m, .inr (7, [.ref w1, .ref w2, .ref w3, .int (nI ns), .ref w4, .int ik, .ref w5, .int (nI lr), .int e1, .int e2, .ref w6, .int (nI tm), .int (nI sp)])), (w1, .inl ((xG cx).2.1, 508, .inl z)), (w2, .inl ((xG cx).2.1, 508, .inl g)), (w3, .inl ((xG cx).2.1, 2032, .inl f)), (w4, .inl ((xG cx).2.1, 508, .inl kp)), (w5, .inl ((xG cx).2.1, 60, .inl tx)), (w6, .inl ((xG cx).2.1, 84, .inl td))]))))))))))) [(0, .ref b), (1, .ref x0), (2, .ref m), (3, .int (nI i))] 832 [] := by
  have hk4 : k < 4 := hI.2.2.1.2.2
  have hs4 : s ≤ 4 := hI.2.2.1.2.1
  have hns : ns ≤ 4 := by have := hI.2.2.1.1; omega
  have hok : okS N := hI.1.oS
  have hokZ : okZ z (sN N) := hI.1.oZ
  have hn : sN N ≤ 60 := hI.1.n60
  have hz3 : z 3 = nI (sN N) := hI.1.z3
  have hd : ¬ z 1 = 0 := hI.1.d0
  have hrk := hI.1.rk
  have hln : ln ≤ 60 := hI.2.2.2.2.1.2.2
  have hlr : lr ≤ 60 := by have := hI.2.2.2.2.1.2.1; omega
  have hwa := hI.1.wne
  have hX : okX tx lr td := okX_all hlr td
  refine x_aload_n C 1 dL_law_832 rfl rfl ?_
  refine x_aload_n C 0 dL_law_833 rfl rfl ?_
  refine x_iload_n C 3 dL_law_834 rfl rfl ?_
  refine x_iconst (v := 1) C dL_law_835 (by decide) ?_
  refine x_iadd C (nI_add i 1) dL_law_836 ?_
  refine x_sld C S (vp_in_nI (by omega) (by omega)) (congrArg xs (nI_clamp (by omega))) dL_law_837 ?_
  refine x_callVRO C ([.int (xs (i + 1))]) ([]) [0, 69, 139, 140, 1, 2, 3, 4, 5, 6, 7, 8, 9, 10, 11, 12, 13, 14, 15, 16, 17] (k0 := 0) (na := 1) gL_law_X6_count rfl (by decide +kernel) rfl rfl rfl (kX6_count (xl cx) (xG cx) x0 h0 hs s t0 tq ln nw bf ah sn hk s1 s2 fx th T N (xs (i + 1)) (by first | assumption | rfl | omega | decide)) rfl (by decide) rfl rfl rfl ⟨by decide, by decide⟩ (Nat.le_of_ble_eq_true rfl) ⟨by decide, by decide⟩ dL_law_838 ?_
  refine x_aload_n C 2 dL_law_841 rfl rfl ?_
  refine x_aload_n C 0 dL_law_842 rfl rfl ?_
  refine x_iload_n C 3 dL_law_843 rfl rfl ?_
  refine x_iconst (v := 1) C dL_law_844 (by decide) ?_
  refine x_iadd C (nI_add i 1) dL_law_845 ?_
  refine x_sld C S (vp_in_nI (by omega) (by omega)) (congrArg xs (nI_clamp (by omega))) dL_law_846 ?_
  refine x_callVRO C ([.int (xs (i + 1))]) ([.int (cntT N s ln (xs (i + 1)))]) [141, 142] (k0 := 0) (na := 1) gL_law_X7_count rfl (by decide +kernel) rfl rfl rfl (kX7_count (xl cx) (xG cx) m w1 w2 w3 w4 w5 w6 ns lr tm sp ik e1 e2 z (sN N) (xs (i + 1)) (by first | assumption | rfl | omega | decide) (by first | assumption | rfl | omega | decide) (by first | assumption | rfl | omega | decide)) rfl (by decide) rfl rfl rfl ⟨by decide, by decide⟩ (Nat.le_of_ble_eq_true rfl) ⟨by decide, by decide⟩ dL_law_847 ?_
  refine x_icmp_eq C 855 dL_law_850 (by decide) (fun c_850 => ?_) (fun c_850 => ?_)
  ·
    exact K N B A Ms P s k ln ns lr tm sp hk s1 s2 ik e1 e2 th fx z g f kp tx td T (hI)
  ·
    exact absurd (hI.count (xs (i + 1))) c_850
