set_option maxRecDepth 100000 in
set_option maxHeartbeats 4000000 in
theorem lcase_16 {cx : CX} {b L i : Nat} {xs : Nat → Int32} (C : XC cx cL_law wsL_law RL room_1 4) (M : XM cx) (S : XS cx b L xs) (hL : L ≤ 2560) (hi5 : i + 5 ≤ L) (x0 h0 hs t0 tq m w1 w2 w3 w4 w5 w6 : Nat) (nw bf ah sn : Nat → Nat) (ad : Nat → Nat → Nat) (N B A Ms : SC) (P : Nat → SC) (s k ln ns lr tm sp : Nat) (hk s1 s2 ik e1 e2 th : Int32) (fx z g f kp tx td : Nat → Int32) (T : TX) (hI : LI N Ms P s k ln ns lr hk s1 s2 ik e1 e2 fx z f kp tx) (K : ∀ (N B A Ms : SC) (P : Nat → SC) (s k ln ns lr tm sp : Nat) (hk s1 s2 ik e1 e2 th : Int32) (fx z g f kp tx td : Nat → Int32) (T : TX), LI N Ms P s k ln ns lr hk s1 s2 ik e1 e2 fx z f kp tx → X cx (148, 7222) (([(x0, .inr (6, [.ref (nw 0), .ref (bf 0), .ref (ah 0), .ref (sn 0), .int hk, .ref h0, .ref t0, .int s1, .int s2]))] ++ (stW (xG cx) nw N ++ (stW (xG cx) bf B ++ (stW (xG cx) ah A ++ (stW (xG cx) sn Ms ++ ([(h0, .inr (1, [.int (nI s), .ref hs])), (hs, .inl ((xG cx).2.2.2, 4, .inr (.inr (.inr (.inr (rot ad k))))))] ++ (stW (xG cx) (ad 0) (P 0) ++ (stW (xG cx) (ad 1) (P 1) ++ (stW (xG cx) (ad 2) (P 2) ++ (stW (xG cx) (ad 3) (P 3) ++ [(t0, .inr (5, [.int (nI ln), .ref tq, .int (nI (tP T)), .int th, .int (tK T), .int (tR T), .int (tL T), .int (tH T), .int (tD T), .int (tN T)])), (tq, .inl ((xG cx).2.2.1, 60, .inl fx)), (m, .inr (7, [.ref w1, .ref w2, .ref w3, .int (nI ns), .ref w4, .int ik, .ref w5, .int (nI lr), .int e1, .int e2, .ref w6, .int (nI tm), .int (nI sp)])), (w1, .inl ((xG cx).2.1, 508, .inl z)), (w2, .inl ((xG cx).2.1, 508, .inl g)), (w3, .inl ((xG cx).2.1, 2032, .inl f)), (w4, .inl ((xG cx).2.1, 508, .inl kp)), (w5, .inl ((xG cx).2.1, 60, .inl tx)), (w6, .inl ((xG cx).2.1, 84, .inl td))]))))))))))) [(0, .ref b), (1, .ref x0), (2, .ref m), (3, .int (nI i))] 855 []) : X cx (148, 7222) (([(x0, .inr (6, [.ref (nw 0), .ref (bf 0), .ref (ah 0), .ref (sn 0), .int hk, .ref h0, .ref t0, .int s1, .int s2]))] ++ (stW (xG cx) nw N ++ (stW (xG cx) bf B ++ (stW (xG cx) ah A ++ (stW (xG cx) sn Ms ++ ([(h0, .inr (1, [.int (nI s), .ref hs])), (hs, .inl ((xG cx).2.2.2, 4, .inr (.inr (.inr (.inr (rot ad k))))))] ++ (stW (xG cx) (ad 0) (P 0) ++ (stW (xG cx) (ad 1) (P 1) ++ (stW (xG cx) (ad 2) (P 2) ++ (stW (xG cx) (ad 3) (P 3) ++ [(t0, .inr (5, [.int (nI ln), .ref tq, .int (nI (tP T)), .int th, .int (tK T), .int (tR T), .int (tL T), .int (tH T), .int (tD T), .int (tN T)])), (tq, .inl ((xG cx).2.2.1, 60, .inl fx)), (m, .inr (7, [.ref w1, .ref w2, .ref w3, .int (nI ns), .ref w4, .int ik, .ref w5, .int (nI lr), .int e1, .int e2, .ref w6, .int (nI tm), .int (nI sp)])), (w1, .inl ((xG cx).2.1, 508, .inl z)), (w2, .inl ((xG cx).2.1, 508, .inl g)), (w3, .inl ((xG cx).2.1, 2032, .inl f)), (w4, .inl ((xG cx).2.1, 508, .inl kp)), (w5, .inl ((xG cx).2.1, 60, .inl tx)), (w6, .inl ((xG cx).2.1, 84, .inl td))]))))))))))) [(0, .ref b), (1, .ref x0), (2, .ref m), (3, .int (nI i))] 598 [] := by
  have hk4 : k < 4 := hI.2.2.1.2.2
  have hs4 : s ≤ 4 := hI.2.2.1.2.1
  have hns : ns ≤ 4 := by have := hI.2.2.1.1; omega
  have hok : okS N := hI.1.oS
  have hokZ : okZ z (sN N) := hI.1.oZ
  have hn : sN N ≤ 60 := hI.1.n60
  have hz3 : z 3 = nI (sN N) := hI.1.z3
  have hd : ¬ z 1 = 0 := hI.1.d0
  have hrk := hI.1.rk
  have hln : ln ≤ 60 := hI.2.2.2.2.1.2.2
  have hlr : lr ≤ 60 := by have := hI.2.2.2.2.1.2.1; omega
  have hwa := hI.1.wne
  have hX : okX tx lr td := okX_all hlr td
  refine x_aload_n C 1 dL_law_598 rfl rfl ?_
  refine x_aload_n C 0 dL_law_599 rfl rfl ?_
  refine x_iload_n C 3 dL_law_600 rfl rfl ?_
  refine x_iconst (v := 1) C dL_law_601 (by decide) ?_
  refine x_iadd C (nI_add i 1) dL_law_602 ?_
  refine x_sld C S (vp_in_nI (by omega) (by omega)) (congrArg xs (nI_clamp (by omega))) dL_law_603 ?_
  refine x_aload_n C 0 dL_law_604 rfl rfl ?_
  refine x_iload_n C 3 dL_law_605 rfl rfl ?_
  refine x_iconst (v := 2) C dL_law_606 (by decide) ?_
  refine x_iadd C (nI_add i 2) dL_law_607 ?_
  refine x_sld C S (vp_in_nI (by omega) (by omega)) (congrArg xs (nI_clamp (by omega))) dL_law_608 ?_
  refine x_callVRO C ([.int (xs (i + 1)), .int (xs (i + 2))]) ([]) [0, 1, 2, 3, 4, 5, 6, 7, 8, 9, 10, 11, 12, 13, 14, 15, 16, 17] (k0 := 0) (na := 2) gL_law_X6_rack rfl (by decide +kernel) rfl rfl rfl (kX6_rack (xl cx) (xG cx) x0 h0 t0 nw bf ah sn hk s1 s2 N (xs (i + 1)) (xs (i + 2)) (by first | assumption | rfl | omega | decide)) rfl (by decide) rfl rfl rfl ⟨by decide, by decide⟩ (Nat.le_of_ble_eq_true rfl) ⟨by decide, by decide⟩ dL_law_609 ?_
  refine x_aload_n C 2 dL_law_612 rfl rfl ?_
  refine x_aload_n C 0 dL_law_613 rfl rfl ?_
  refine x_iload_n C 3 dL_law_614 rfl rfl ?_
  refine x_iconst (v := 1) C dL_law_615 (by decide) ?_
  refine x_iadd C (nI_add i 1) dL_law_616 ?_
  refine x_sld C S (vp_in_nI (by omega) (by omega)) (congrArg xs (nI_clamp (by omega))) dL_law_617 ?_
  refine x_aload_n C 0 dL_law_618 rfl rfl ?_
  refine x_iload_n C 3 dL_law_619 rfl rfl ?_
  refine x_iconst (v := 2) C dL_law_620 (by decide) ?_
  refine x_iadd C (nI_add i 2) dL_law_621 ?_
  refine x_sld C S (vp_in_nI (by omega) (by omega)) (congrArg xs (nI_clamp (by omega))) dL_law_622 ?_
  refine x_callVRO C ([.int (xs (i + 1)), .int (xs (i + 2))]) ([.int (trS N (xs (i + 1)) (xs (i + 2)))]) [141, 142] (k0 := 0) (na := 2) gL_law_X7_rack rfl (by decide +kernel) rfl rfl rfl (kX7_rack (xl cx) (xG cx) m w1 w2 w3 w4 w5 w6 ns lr tm sp ik e1 e2 z (sN N) (xs (i + 1)) (xs (i + 2)) (by first | assumption | rfl | omega | decide) (by first | assumption | rfl | omega | decide) (by first | assumption | rfl | omega | decide)) rfl (by decide) rfl rfl rfl ⟨by decide, by decide⟩ (Nat.le_of_ble_eq_true rfl) ⟨by decide, by decide⟩ dL_law_623 ?_
  refine x_icmp_eq C 855 dL_law_626 (by decide) (fun c_626 => ?_) (fun c_626 => ?_)
  ·
    exact K N B A Ms P s k ln ns lr tm sp hk s1 s2 ik e1 e2 th fx z g f kp tx td T (hI)
  ·
    exact absurd (rack_eq hI.1 (xs (i + 1)) (xs (i + 2))) c_626

set_option maxRecDepth 100000 in
set_option maxHeartbeats 4000000 in
theorem lcase_17 {cx : CX} {b L i : Nat} {xs : Nat → Int32} (C : XC cx cL_law wsL_law RL room_1 4) (M : XM cx) (S : XS cx b L xs) (hL : L ≤ 2560) (hi5 : i + 5 ≤ L) (x0 h0 hs t0 tq m w1 w2 w3 w4 w5 w6 : Nat) (nw bf ah sn : Nat → Nat) (ad : Nat → Nat → Nat) (N B A Ms : SC) (P : Nat → SC) (s k ln ns lr tm sp : Nat) (hk s1 s2 ik e1 e2 th : Int32) (fx z g f kp tx td : Nat → Int32) (T : TX) (hI : LI N Ms P s k ln ns lr hk s1 s2 ik e1 e2 fx z f kp tx) (K : ∀ (N B A Ms : SC) (P : Nat → SC) (s k ln ns lr tm sp : Nat) (hk s1 s2 ik e1 e2 th : Int32) (fx z g f kp tx td : Nat → Int32) (T : TX), LI N Ms P s k ln ns lr hk s1 s2 ik e1 e2 fx z f kp tx → X cx (148, 7222) (([(x0, .inr (6, [.ref (nw 0), .ref (bf 0), .ref (ah 0), .ref (sn 0), .int hk, .ref h0, .ref t0, .int s1, .int s2]))] ++ (stW (xG cx) nw N ++ (stW (xG cx) bf B ++ (stW (xG cx) ah A ++ (stW (xG cx) sn Ms ++ ([(h0, .inr (1, [.int (nI s), .ref hs])), (hs, .inl ((xG cx).2.2.2, 4, .inr (.inr (.inr (.inr (rot ad k))))))] ++ (stW (xG cx) (ad 0) (P 0) ++ (stW (xG cx) (ad 1) (P 1) ++ (stW (xG cx) (ad 2) (P 2) ++ (stW (xG cx) (ad 3) (P 3) ++ [(t0, .inr (5, [.int (nI ln), .ref tq, .int (nI (tP T)), .int th, .int (tK T), .int (tR T), .int (tL T), .int (tH T), .int (tD T), .int (tN T)])), (tq, .inl ((xG cx).2.2.1, 60, .inl fx)), (m, .inr (7, [.ref w1, .ref w2, .ref w3, .int (nI ns), .ref w4, .int ik, .ref w5, .int (nI lr), .int e1, .int e2, .ref w6, .int (nI tm), .int (nI sp)])), (w1, .inl ((xG cx).2.1, 508, .inl z)), (w2, .inl ((xG cx).2.1, 508, .inl g)), (w3, .inl ((xG cx).2.1, 2032, .inl f)), (w4, .inl ((xG cx).2.1, 508, .inl kp)), (w5, .inl ((xG cx).2.1, 60, .inl tx)), (w6, .inl ((xG cx).2.1, 84, .inl td))]))))))))))) [(0, .ref b), (1, .ref x0), (2, .ref m), (3, .int (nI i))] 855 []) : X cx (148, 7222) (([(x0, .inr (6, [.ref (nw 0), .ref (bf 0), .ref (ah 0), .ref (sn 0), .int hk, .ref h0, .ref t0, .int s1, .int s2]))] ++ (stW (xG cx) nw N ++ (stW (xG cx) bf B ++ (stW (xG cx) ah A ++ (stW (xG cx) sn Ms ++ ([(h0, .inr (1, [.int (nI s), .ref hs])), (hs, .inl ((xG cx).2.2.2, 4, .inr (.inr (.inr (.inr (rot ad k))))))] ++ (stW (xG cx) (ad 0) (P 0) ++ (stW (xG cx) (ad 1) (P 1) ++ (stW (xG cx) (ad 2) (P 2) ++ (stW (xG cx) (ad 3) (P 3) ++ [(t0, .inr (5, [.int (nI ln), .ref tq, .int (nI (tP T)), .int th, .int (tK T), .int (tR T), .int (tL T), .int (tH T), .int (tD T), .int (tN T)])), (tq, .inl ((xG cx).2.2.1, 60, .inl fx)), (m, .inr (7, [.ref w1, .ref w2, .ref w3, .int (nI ns), .ref w4, .int ik, .ref w5, .int (nI lr), .int e1, .int e2, .ref w6, .int (nI tm), .int (nI sp)])), (w1, .inl ((xG cx).2.1, 508, .inl z)), (w2, .inl ((xG cx).2.1, 508, .inl g)), (w3, .inl ((xG cx).2.1, 2032, .inl f)), (w4, .inl ((xG cx).2.1, 508, .inl kp)), (w5, .inl ((xG cx).2.1, 60, .inl tx)), (w6, .inl ((xG cx).2.1, 84, .inl td))]))))))))))) [(0, .ref b), (1, .ref x0), (2, .ref m), (3, .int (nI i))] 631 [] := by
  have hk4 : k < 4 := hI.2.2.1.2.2
  have hs4 : s ≤ 4 := hI.2.2.1.2.1
  have hns : ns ≤ 4 := by have := hI.2.2.1.1; omega
  have hok : okS N := hI.1.oS
  have hokZ : okZ z (sN N) := hI.1.oZ
  have hn : sN N ≤ 60 := hI.1.n60
  have hz3 : z 3 = nI (sN N) := hI.1.z3
  have hd : ¬ z 1 = 0 := hI.1.d0
  have hrk := hI.1.rk
  have hln : ln ≤ 60 := hI.2.2.2.2.1.2.2
  have hlr : lr ≤ 60 := by have := hI.2.2.2.2.1.2.1; omega
  have hwa := hI.1.wne
  have hX : okX tx lr td := okX_all hlr td
  refine x_aload_n C 1 dL_law_631 rfl rfl ?_
  refine x_aload_n C 0 dL_law_632 rfl rfl ?_
  refine x_iload_n C 3 dL_law_633 rfl rfl ?_
  refine x_iconst (v := 1) C dL_law_634 (by decide) ?_
  refine x_iadd C (nI_add i 1) dL_law_635 ?_
  refine x_sld C S (vp_in_nI (by omega) (by omega)) (congrArg xs (nI_clamp (by omega))) dL_law_636 ?_
  refine x_aload_n C 0 dL_law_637 rfl rfl ?_
  refine x_iload_n C 3 dL_law_638 rfl rfl ?_
  refine x_iconst (v := 2) C dL_law_639 (by decide) ?_
  refine x_iadd C (nI_add i 2) dL_law_640 ?_
  refine x_sld C S (vp_in_nI (by omega) (by omega)) (congrArg xs (nI_clamp (by omega))) dL_law_641 ?_
  refine x_callVRO C ([.int (xs (i + 1)), .int (xs (i + 2))]) ([]) [0, 1, 2, 3, 4, 5, 6, 7, 8, 9, 10, 11, 12, 13, 14, 15, 16, 17] (k0 := 0) (na := 2) gL_law_X6_at rfl (by decide +kernel) rfl rfl rfl (kX6_at (xl cx) (xG cx) x0 h0 t0 nw bf ah sn hk s1 s2 N (xs (i + 1)) (xs (i + 2)) (by first | assumption | rfl | omega | decide)) rfl (by decide) rfl rfl rfl ⟨by decide, by decide⟩ (Nat.le_of_ble_eq_true rfl) ⟨by decide, by decide⟩ dL_law_642 ?_
  refine x_aload_n C 2 dL_law_645 rfl rfl ?_
  refine x_aload_n C 0 dL_law_646 rfl rfl ?_
  refine x_iload_n C 3 dL_law_647 rfl rfl ?_
  refine x_iconst (v := 1) C dL_law_648 (by decide) ?_
  refine x_iadd C (nI_add i 1) dL_law_649 ?_
  refine x_sld C S (vp_in_nI (by omega) (by omega)) (congrArg xs (nI_clamp (by omega))) dL_law_650 ?_
  refine x_aload_n C 0 dL_law_651 rfl rfl ?_
  refine x_iload_n C 3 dL_law_652 rfl rfl ?_
  refine x_iconst (v := 2) C dL_law_653 (by decide) ?_
  refine x_iadd C (nI_add i 2) dL_law_654 ?_
  refine x_sld C S (vp_in_nI (by omega) (by omega)) (congrArg xs (nI_clamp (by omega))) dL_law_655 ?_
  refine x_callVRO C ([.int (xs (i + 1)), .int (xs (i + 2))]) ([.int (atS N (xs (i + 1)) (xs (i + 2)))]) [141, 142] (k0 := 0) (na := 2) gL_law_X7_at rfl (by decide +kernel) rfl rfl rfl (kX7_at (xl cx) (xG cx) m w1 w2 w3 w4 w5 w6 ns lr tm sp ik e1 e2 z (sN N) (xs (i + 1)) (xs (i + 2)) (by first | assumption | rfl | omega | decide) (by first | assumption | rfl | omega | decide)) rfl (by decide) rfl rfl rfl ⟨by decide, by decide⟩ (Nat.le_of_ble_eq_true rfl) ⟨by decide, by decide⟩ dL_law_656 ?_
  refine x_icmp_eq C 855 dL_law_659 (by decide) (fun c_659 => ?_) (fun c_659 => ?_)
  ·
    exact K N B A Ms P s k ln ns lr tm sp hk s1 s2 ik e1 e2 th fx z g f kp tx td T (hI)
  ·
    exact absurd (at_eq hI.1 (xs (i + 1)) (xs (i + 2))) c_659

set_option maxRecDepth 100000 in
set_option maxHeartbeats 4000000 in
theorem lcase_18 {cx : CX} {b L i : Nat} {xs : Nat → Int32} (C : XC cx cL_law wsL_law RL room_1 4) (M : XM cx) (S : XS cx b L xs) (hL : L ≤ 2560) (hi5 : i + 5 ≤ L) (x0 h0 hs t0 tq m w1 w2 w3 w4 w5 w6 : Nat) (nw bf ah sn : Nat → Nat) (ad : Nat → Nat → Nat) (N B A Ms : SC) (P : Nat → SC) (s k ln ns lr tm sp : Nat) (hk s1 s2 ik e1 e2 th : Int32) (fx z g f kp tx td : Nat → Int32) (T : TX) (hI : LI N Ms P s k ln ns lr hk s1 s2 ik e1 e2 fx z f kp tx) (K : ∀ (N B A Ms : SC) (P : Nat → SC) (s k ln ns lr tm sp : Nat) (hk s1 s2 ik e1 e2 th : Int32) (fx z g f kp tx td : Nat → Int32) (T : TX), LI N Ms P s k ln ns lr hk s1 s2 ik e1 e2 fx z f kp tx → X cx (148, 7222) (([(x0, .inr (6, [.ref (nw 0), .ref (bf 0), .ref (ah 0), .ref (sn 0), .int hk, .ref h0, .ref t0, .int s1, .int s2]))] ++ (stW (xG cx) nw N ++ (stW (xG cx) bf B ++ (stW (xG cx) ah A ++ (stW (xG cx) sn Ms ++ ([(h0, .inr (1, [.int (nI s), .ref hs])), (hs, .inl ((xG cx).2.2.2, 4, .inr (.inr (.inr (.inr (rot ad k))))))] ++ (stW (xG cx) (ad 0) (P 0) ++ (stW (xG cx) (ad 1) (P 1) ++ (stW (xG cx) (ad 2) (P 2) ++ (stW (xG cx) (ad 3) (P 3) ++ [(t0, .inr (5, [.int (nI ln), .ref tq, .int (nI (tP T)), .int th, .int (tK T), .int (tR T), .int (tL T), .int (tH T), .int (tD T), .int (tN T)])), (tq, .inl ((xG cx).2.2.1, 60, .inl fx)), (m, .inr (7, [.ref w1, .ref w2, .ref w3, .int (nI ns), .ref w4, .int ik, .ref w5, .int (nI lr), .int e1, .int e2, .ref w6, .int (nI tm), .int (nI sp)])), (w1, .inl ((xG cx).2.1, 508, .inl z)), (w2, .inl ((xG cx).2.1, 508, .inl g)), (w3, .inl ((xG cx).2.1, 2032, .inl f)), (w4, .inl ((xG cx).2.1, 508, .inl kp)), (w5, .inl ((xG cx).2.1, 60, .inl tx)), (w6, .inl ((xG cx).2.1, 84, .inl td))]))))))))))) [(0, .ref b), (1, .ref x0), (2, .ref m), (3, .int (nI i))] 855 []) : X cx (148, 7222) (([(x0, .inr (6, [.ref (nw 0), .ref (bf 0), .ref (ah 0), .ref (sn 0), .int hk, .ref h0, .ref t0, .int s1, .int s2]))] ++ (stW (xG cx) nw N ++ (stW (xG cx) bf B ++ (stW (xG cx) ah A ++ (stW (xG cx) sn Ms ++ ([(h0, .inr (1, [.int (nI s), .ref hs])), (hs, .inl ((xG cx).2.2.2, 4, .inr (.inr (.inr (.inr (rot ad k))))))] ++ (stW (xG cx) (ad 0) (P 0) ++ (stW (xG cx) (ad 1) (P 1) ++ (stW (xG cx) (ad 2) (P 2) ++ (stW (xG cx) (ad 3) (P 3) ++ [(t0, .inr (5, [.int (nI ln), .ref tq, .int (nI (tP T)), .int th, .int (tK T), .int (tR T), .int (tL T), .int (tH T), .int (tD T), .int (tN T)])), (tq, .inl ((xG cx).2.2.1, 60, .inl fx)), (m, .inr (7, [.ref w1, .ref w2, .ref w3, .int (nI ns), .ref w4, .int ik, .ref w5, .int (nI lr), .int e1, .int e2, .ref w6, .int (nI tm), .int (nI sp)])), (w1, .inl ((xG cx).2.1, 508, .inl z)), (w2, .inl ((xG cx).2.1, 508, .inl g)), (w3, .inl ((xG cx).2.1, 2032, .inl f)), (w4, .inl ((xG cx).2.1, 508, .inl kp)), (w5, .inl ((xG cx).2.1, 60, .inl tx)), (w6, .inl ((xG cx).2.1, 84, .inl td))]))))))))))) [(0, .ref b), (1, .ref x0), (2, .ref m), (3, .int (nI i))] 664 [] := by
  have hk4 : k < 4 := hI.2.2.1.2.2
  have hs4 : s ≤ 4 := hI.2.2.1.2.1
  have hns : ns ≤ 4 := by have := hI.2.2.1.1; omega
  have hok : okS N := hI.1.oS
  have hokZ : okZ z (sN N) := hI.1.oZ
  have hn : sN N ≤ 60 := hI.1.n60
  have hz3 : z 3 = nI (sN N) := hI.1.z3
  have hd : ¬ z 1 = 0 := hI.1.d0
  have hrk := hI.1.rk
  have hln : ln ≤ 60 := hI.2.2.2.2.1.2.2
  have hlr : lr ≤ 60 := by have := hI.2.2.2.2.1.2.1; omega
  have hwa := hI.1.wne
  have hX : okX tx lr td := okX_all hlr td
  refine x_aload_n C 1 dL_law_664 rfl rfl ?_
  refine x_aload_n C 0 dL_law_665 rfl rfl ?_
  refine x_iload_n C 3 dL_law_666 rfl rfl ?_
  refine x_iconst (v := 1) C dL_law_667 (by decide) ?_
  refine x_iadd C (nI_add i 1) dL_law_668 ?_
  refine x_sld C S (vp_in_nI (by omega) (by omega)) (congrArg xs (nI_clamp (by omega))) dL_law_669 ?_
  refine x_aload_n C 0 dL_law_670 rfl rfl ?_
  refine x_iload_n C 3 dL_law_671 rfl rfl ?_
  refine x_iconst (v := 2) C dL_law_672 (by decide) ?_
  refine x_iadd C (nI_add i 2) dL_law_673 ?_
  refine x_sld C S (vp_in_nI (by omega) (by omega)) (congrArg xs (nI_clamp (by omega))) dL_law_674 ?_
  refine x_callVRO C ([.int (xs (i + 1)), .int (xs (i + 2))]) ([]) [0, 1, 2, 3, 4, 5, 6, 7, 8, 9, 10, 11, 12, 13, 14, 15, 16, 17] (k0 := 0) (na := 2) gL_law_X6_batch rfl (by decide +kernel) rfl rfl rfl (kX6_batch (xl cx) (xG cx) x0 h0 t0 nw bf ah sn hk s1 s2 N (xs (i + 1)) (xs (i + 2)) (by first | assumption | rfl | omega | decide)) rfl (by decide) rfl rfl rfl ⟨by decide, by decide⟩ (Nat.le_of_ble_eq_true rfl) ⟨by decide, by decide⟩ dL_law_675 ?_
  refine x_aload_n C 2 dL_law_678 rfl rfl ?_
  refine x_aload_n C 0 dL_law_679 rfl rfl ?_
  refine x_iload_n C 3 dL_law_680 rfl rfl ?_
  refine x_iconst (v := 1) C dL_law_681 (by decide) ?_
  refine x_iadd C (nI_add i 1) dL_law_682 ?_
  refine x_sld C S (vp_in_nI (by omega) (by omega)) (congrArg xs (nI_clamp (by omega))) dL_law_683 ?_
  refine x_aload_n C 0 dL_law_684 rfl rfl ?_
  refine x_iload_n C 3 dL_law_685 rfl rfl ?_
  refine x_iconst (v := 2) C dL_law_686 (by decide) ?_
  refine x_iadd C (nI_add i 2) dL_law_687 ?_
  refine x_sld C S (vp_in_nI (by omega) (by omega)) (congrArg xs (nI_clamp (by omega))) dL_law_688 ?_
  refine x_callVRO C ([.int (xs (i + 1)), .int (xs (i + 2))]) ([.int (tbS N (xs (i + 1)) (xs (i + 2)))]) [141, 142] (k0 := 0) (na := 2) gL_law_X7_batch rfl (by decide +kernel) rfl rfl rfl (kX7_batch (xl cx) (xG cx) m w1 w2 w3 w4 w5 w6 ns lr tm sp ik e1 e2 z (sN N) (xs (i + 1)) (xs (i + 2)) (by first | assumption | rfl | omega | decide) (by first | assumption | rfl | omega | decide)) rfl (by decide) rfl rfl rfl ⟨by decide, by decide⟩ (Nat.le_of_ble_eq_true rfl) ⟨by decide, by decide⟩ dL_law_689 ?_
  refine x_icmp_eq C 855 dL_law_692 (by decide) (fun c_692 => ?_) (fun c_692 => ?_)
  ·
    exact K N B A Ms P s k ln ns lr tm sp hk s1 s2 ik e1 e2 th fx z g f kp tx td T (hI)
  ·
    exact absurd (batch_eq hI.1 (xs (i + 1)) (xs (i + 2))) c_692

set_option maxRecDepth 100000 in
set_option maxHeartbeats 4000000 in
theorem lcase_19 {cx : CX} {b L i : Nat} {xs : Nat → Int32} (C : XC cx cL_law wsL_law RL room_1 4) (M : XM cx) (S : XS cx b L xs) (hL : L ≤ 2560) (hi5 : i + 5 ≤ L) (x0 h0 hs t0 tq m w1 w2 w3 w4 w5 w6 : Nat) (nw bf ah sn : Nat → Nat) (ad : Nat → Nat → Nat) (N B A Ms : SC) (P : Nat → SC) (s k ln ns lr tm sp : Nat) (hk s1 s2 ik e1 e2 th : Int32) (fx z g f kp tx td : Nat → Int32) (T : TX) (hI : LI N Ms P s k ln ns lr hk s1 s2 ik e1 e2 fx z f kp tx) (K : ∀ (N B A Ms : SC) (P : Nat → SC) (s k ln ns lr tm sp : Nat) (hk s1 s2 ik e1 e2 th : Int32) (fx z g f kp tx td : Nat → Int32) (T : TX), LI N Ms P s k ln ns lr hk s1 s2 ik e1 e2 fx z f kp tx → X cx (148, 7222) (([(x0, .inr (6, [.ref (nw 0), .ref (bf 0), .ref (ah 0), .ref (sn 0), .int hk, .ref h0, .ref t0, .int s1, .int s2]))] ++ (stW (xG cx) nw N ++ (stW (xG cx) bf B ++ (stW (xG cx) ah A ++ (stW (xG cx) sn Ms ++ ([(h0, .inr (1, [.int (nI s), .ref hs])), (hs, .inl ((xG cx).2.2.2, 4, .inr (.inr (.inr (.inr (rot ad k))))))] ++ (stW (xG cx) (ad 0) (P 0) ++ (stW (xG cx) (ad 1) (P 1) ++ (stW (xG cx) (ad 2) (P 2) ++ (stW (xG cx) (ad 3) (P 3) ++ [(t0, .inr (5, [.int (nI ln), .ref tq, .int (nI (tP T)), .int th, .int (tK T), .int (tR T), .int (tL T), .int (tH T), .int (tD T), .int (tN T)])), (tq, .inl ((xG cx).2.2.1, 60, .inl fx)), (m, .inr (7, [.ref w1, .ref w2, .ref w3, .int (nI ns), .ref w4, .int ik, .ref w5, .int (nI lr), .int e1, .int e2, .ref w6, .int (nI tm), .int (nI sp)])), (w1, .inl ((xG cx).2.1, 508, .inl z)), (w2, .inl ((xG cx).2.1, 508, .inl g)), (w3, .inl ((xG cx).2.1, 2032, .inl f)), (w4, .inl ((xG cx).2.1, 508, .inl kp)), (w5, .inl ((xG cx).2.1, 60, .inl tx)), (w6, .inl ((xG cx).2.1, 84, .inl td))]))))))))))) [(0, .ref b), (1, .ref x0), (2, .ref m), (3, .int (nI i))] 855 []) : X cx (148, 7222) (([(x0, .inr (6, [.ref (nw 0), .ref (bf 0), .ref (ah 0), .ref (sn 0), .int hk, .ref h0, .ref t0, .int s1, .int s2]))] ++ (stW (xG cx) nw N ++ (stW (xG cx) bf B ++ (stW (xG cx) ah A ++ (stW (xG cx) sn Ms ++ ([(h0, .inr (1, [.int (nI s), .ref hs])), (hs, .inl ((xG cx).2.2.2, 4, .inr (.inr (.inr (.inr (rot ad k))))))] ++ (stW (xG cx) (ad 0) (P 0) ++ (stW (xG cx) (ad 1) (P 1) ++ (stW (xG cx) (ad 2) (P 2) ++ (stW (xG cx) (ad 3) (P 3) ++ [(t0, .inr (5, [.int (nI ln), .ref tq, .int (nI (tP T)), .int th, .int (tK T), .int (tR T), .int (tL T), .int (tH T), .int (tD T), .int (tN T)])), (tq, .inl ((xG cx).2.2.1, 60, .inl fx)), (m, .inr (7, [.ref w1, .ref w2, .ref w3, .int (nI ns), .ref w4, .int ik, .ref w5, .int (nI lr), .int e1, .int e2, .ref w6, .int (nI tm), .int (nI sp)])), (w1, .inl ((xG cx).2.1, 508, .inl z)), (w2, .inl ((xG cx).2.1, 508, .inl g)), (w3, .inl ((xG cx).2.1, 2032, .inl f)), (w4, .inl ((xG cx).2.1, 508, .inl kp)), (w5, .inl ((xG cx).2.1, 60, .inl tx)), (w6, .inl ((xG cx).2.1, 84, .inl td))]))))))))))) [(0, .ref b), (1, .ref x0), (2, .ref m), (3, .int (nI i))] 697 [] := by
  have hk4 : k < 4 := hI.2.2.1.2.2
  have hs4 : s ≤ 4 := hI.2.2.1.2.1
  have hns : ns ≤ 4 := by have := hI.2.2.1.1; omega
  have hok : okS N := hI.1.oS
  have hokZ : okZ z (sN N) := hI.1.oZ
  have hn : sN N ≤ 60 := hI.1.n60
  have hz3 : z 3 = nI (sN N) := hI.1.z3
  have hd : ¬ z 1 = 0 := hI.1.d0
  have hrk := hI.1.rk
  have hln : ln ≤ 60 := hI.2.2.2.2.1.2.2
  have hlr : lr ≤ 60 := by have := hI.2.2.2.2.1.2.1; omega
  have hwa := hI.1.wne
  have hX : okX tx lr td := okX_all hlr td
  refine x_aload_n C 1 dL_law_697 rfl rfl ?_
  refine x_aload_n C 0 dL_law_698 rfl rfl ?_
  refine x_iload_n C 3 dL_law_699 rfl rfl ?_
  refine x_iconst (v := 1) C dL_law_700 (by decide) ?_
  refine x_iadd C (nI_add i 1) dL_law_701 ?_
  refine x_sld C S (vp_in_nI (by omega) (by omega)) (congrArg xs (nI_clamp (by omega))) dL_law_702 ?_
  refine x_aload_n C 0 dL_law_703 rfl rfl ?_
  refine x_iload_n C 3 dL_law_704 rfl rfl ?_
  refine x_iconst (v := 2) C dL_law_705 (by decide) ?_
  refine x_iadd C (nI_add i 2) dL_law_706 ?_
  refine x_sld C S (vp_in_nI (by omega) (by omega)) (congrArg xs (nI_clamp (by omega))) dL_law_707 ?_
  refine x_callVRO C ([.int (xs (i + 1)), .int (xs (i + 2))]) ([]) [0, 1, 2, 3, 4, 5, 6, 7, 8, 9, 10, 11, 12, 13, 14, 15, 16, 17] (k0 := 0) (na := 2) gL_law_X6_lasted rfl (by decide +kernel) rfl rfl rfl (kX6_lasted (xl cx) (xG cx) x0 h0 t0 nw bf ah sn hk s1 s2 N (xs (i + 1)) (xs (i + 2)) (by first | assumption | rfl | omega | decide)) rfl (by decide) rfl rfl rfl ⟨by decide, by decide⟩ (Nat.le_of_ble_eq_true rfl) ⟨by decide, by decide⟩ dL_law_708 ?_
  refine x_aload_n C 2 dL_law_711 rfl rfl ?_
  refine x_aload_n C 0 dL_law_712 rfl rfl ?_
  refine x_iload_n C 3 dL_law_713 rfl rfl ?_
  refine x_iconst (v := 1) C dL_law_714 (by decide) ?_
  refine x_iadd C (nI_add i 1) dL_law_715 ?_
  refine x_sld C S (vp_in_nI (by omega) (by omega)) (congrArg xs (nI_clamp (by omega))) dL_law_716 ?_
  refine x_aload_n C 0 dL_law_717 rfl rfl ?_
  refine x_iload_n C 3 dL_law_718 rfl rfl ?_
  refine x_iconst (v := 2) C dL_law_719 (by decide) ?_
  refine x_iadd C (nI_add i 2) dL_law_720 ?_
  refine x_sld C S (vp_in_nI (by omega) (by omega)) (congrArg xs (nI_clamp (by omega))) dL_law_721 ?_
  refine x_callVRO C ([.int (xs (i + 1)), .int (xs (i + 2))]) ([.int (lastS N (xs (i + 1)) (xs (i + 2)))]) [141, 142] (k0 := 0) (na := 2) gL_law_X7_lasted rfl (by decide +kernel) rfl rfl rfl (kX7_lasted (xl cx) (xG cx) m w1 w2 w3 w4 w5 w6 ns lr tm sp ik e1 e2 z (sN N) (xs (i + 1)) (xs (i + 2)) (by first | assumption | rfl | omega | decide) (by first | assumption | rfl | omega | decide)) rfl (by decide) rfl rfl rfl ⟨by decide, by decide⟩ (Nat.le_of_ble_eq_true rfl) ⟨by decide, by decide⟩ dL_law_722 ?_
  refine x_icmp_eq C 855 dL_law_725 (by decide) (fun c_725 => ?_) (fun c_725 => ?_)
  ·
    exact K N B A Ms P s k ln ns lr tm sp hk s1 s2 ik e1 e2 th fx z g f kp tx td T (hI)
  ·
    exact absurd (lasted_eq hI.1 (xs (i + 1)) (xs (i + 2))) c_725

set_option maxRecDepth 100000 in
set_option maxHeartbeats 4000000 in
theorem lcase_20 {cx : CX} {b L i : Nat} {xs : Nat → Int32} (C : XC cx cL_law wsL_law RL room_1 4) (M : XM cx) (S : XS cx b L xs) (hL : L ≤ 2560) (hi5 : i + 5 ≤ L) (x0 h0 hs t0 tq m w1 w2 w3 w4 w5 w6 : Nat) (nw bf ah sn : Nat → Nat) (ad : Nat → Nat → Nat) (N B A Ms : SC) (P : Nat → SC) (s k ln ns lr tm sp : Nat) (hk s1 s2 ik e1 e2 th : Int32) (fx z g f kp tx td : Nat → Int32) (T : TX) (hI : LI N Ms P s k ln ns lr hk s1 s2 ik e1 e2 fx z f kp tx) (K : ∀ (N B A Ms : SC) (P : Nat → SC) (s k ln ns lr tm sp : Nat) (hk s1 s2 ik e1 e2 th : Int32) (fx z g f kp tx td : Nat → Int32) (T : TX), LI N Ms P s k ln ns lr hk s1 s2 ik e1 e2 fx z f kp tx → X cx (148, 7222) (([(x0, .inr (6, [.ref (nw 0), .ref (bf 0), .ref (ah 0), .ref (sn 0), .int hk, .ref h0, .ref t0, .int s1, .int s2]))] ++ (stW (xG cx) nw N ++ (stW (xG cx) bf B ++ (stW (xG cx) ah A ++ (stW (xG cx) sn Ms ++ ([(h0, .inr (1, [.int (nI s), .ref hs])), (hs, .inl ((xG cx).2.2.2, 4, .inr (.inr (.inr (.inr (rot ad k))))))] ++ (stW (xG cx) (ad 0) (P 0) ++ (stW (xG cx) (ad 1) (P 1) ++ (stW (xG cx) (ad 2) (P 2) ++ (stW (xG cx) (ad 3) (P 3) ++ [(t0, .inr (5, [.int (nI ln), .ref tq, .int (nI (tP T)), .int th, .int (tK T), .int (tR T), .int (tL T), .int (tH T), .int (tD T), .int (tN T)])), (tq, .inl ((xG cx).2.2.1, 60, .inl fx)), (m, .inr (7, [.ref w1, .ref w2, .ref w3, .int (nI ns), .ref w4, .int ik, .ref w5, .int (nI lr), .int e1, .int e2, .ref w6, .int (nI tm), .int (nI sp)])), (w1, .inl ((xG cx).2.1, 508, .inl z)), (w2, .inl ((xG cx).2.1, 508, .inl g)), (w3, .inl ((xG cx).2.1, 2032, .inl f)), (w4, .inl ((xG cx).2.1, 508, .inl kp)), (w5, .inl ((xG cx).2.1, 60, .inl tx)), (w6, .inl ((xG cx).2.1, 84, .inl td))]))))))))))) [(0, .ref b), (1, .ref x0), (2, .ref m), (3, .int (nI i))] 855 []) : X cx (148, 7222) (([(x0, .inr (6, [.ref (nw 0), .ref (bf 0), .ref (ah 0), .ref (sn 0), .int hk, .ref h0, .ref t0, .int s1, .int s2]))] ++ (stW (xG cx) nw N ++ (stW (xG cx) bf B ++ (stW (xG cx) ah A ++ (stW (xG cx) sn Ms ++ ([(h0, .inr (1, [.int (nI s), .ref hs])), (hs, .inl ((xG cx).2.2.2, 4, .inr (.inr (.inr (.inr (rot ad k))))))] ++ (stW (xG cx) (ad 0) (P 0) ++ (stW (xG cx) (ad 1) (P 1) ++ (stW (xG cx) (ad 2) (P 2) ++ (stW (xG cx) (ad 3) (P 3) ++ [(t0, .inr (5, [.int (nI ln), .ref tq, .int (nI (tP T)), .int th, .int (tK T), .int (tR T), .int (tL T), .int (tH T), .int (tD T), .int (tN T)])), (tq, .inl ((xG cx).2.2.1, 60, .inl fx)), (m, .inr (7, [.ref w1, .ref w2, .ref w3, .int (nI ns), .ref w4, .int ik, .ref w5, .int (nI lr), .int e1, .int e2, .ref w6, .int (nI tm), .int (nI sp)])), (w1, .inl ((xG cx).2.1, 508, .inl z)), (w2, .inl ((xG cx).2.1, 508, .inl g)), (w3, .inl ((xG cx).2.1, 2032, .inl f)), (w4, .inl ((xG cx).2.1, 508, .inl kp)), (w5, .inl ((xG cx).2.1, 60, .inl tx)), (w6, .inl ((xG cx).2.1, 84, .inl td))]))))))))))) [(0, .ref b), (1, .ref x0), (2, .ref m), (3, .int (nI i))] 730 [] := by
  have hk4 : k < 4 := hI.2.2.1.2.2
  have hs4 : s ≤ 4 := hI.2.2.1.2.1
  have hns : ns ≤ 4 := by have := hI.2.2.1.1; omega
  have hok : okS N := hI.1.oS
  have hokZ : okZ z (sN N) := hI.1.oZ
  have hn : sN N ≤ 60 := hI.1.n60
  have hz3 : z 3 = nI (sN N) := hI.1.z3
  have hd : ¬ z 1 = 0 := hI.1.d0
  have hrk := hI.1.rk
  have hln : ln ≤ 60 := hI.2.2.2.2.1.2.2
  have hlr : lr ≤ 60 := by have := hI.2.2.2.2.1.2.1; omega
  have hwa := hI.1.wne
  have hX : okX tx lr td := okX_all hlr td
  refine x_aload_n C 1 dL_law_730 rfl rfl ?_
  refine x_aload_n C 0 dL_law_731 rfl rfl ?_
  refine x_iload_n C 3 dL_law_732 rfl rfl ?_
  refine x_iconst (v := 1) C dL_law_733 (by decide) ?_
  refine x_iadd C (nI_add i 1) dL_law_734 ?_
  refine x_sld C S (vp_in_nI (by omega) (by omega)) (congrArg xs (nI_clamp (by omega))) dL_law_735 ?_
  refine x_callVRO C ([.int (xs (i + 1))]) ([]) [0, 1, 2, 3, 4, 5, 6, 7, 8, 9, 10, 11, 12, 13, 14, 15, 16, 17] (k0 := 0) (na := 1) gL_law_X6_ended rfl (by decide +kernel) rfl rfl rfl (kX6_ended (xl cx) (xG cx) x0 h0 t0 nw bf ah sn hk s1 s2 N (xs (i + 1)) (by first | assumption | rfl | omega | decide)) rfl (by decide) rfl rfl rfl ⟨by decide, by decide⟩ (Nat.le_of_ble_eq_true rfl) ⟨by decide, by decide⟩ dL_law_736 ?_
  refine x_aload_n C 2 dL_law_739 rfl rfl ?_
  refine x_aload_n C 0 dL_law_740 rfl rfl ?_
  refine x_iload_n C 3 dL_law_741 rfl rfl ?_
  refine x_iconst (v := 1) C dL_law_742 (by decide) ?_
  refine x_iadd C (nI_add i 1) dL_law_743 ?_
  refine x_sld C S (vp_in_nI (by omega) (by omega)) (congrArg xs (nI_clamp (by omega))) dL_law_744 ?_
  refine x_callVRO C ([.int (xs (i + 1))]) ([.int (endS N (xs (i + 1)))]) [141, 142] (k0 := 0) (na := 1) gL_law_X7_ended rfl (by decide +kernel) rfl rfl rfl (kX7_ended (xl cx) (xG cx) m w1 w2 w3 w4 w5 w6 ns lr tm sp ik e1 e2 z (sN N) (xs (i + 1)) (by first | assumption | rfl | omega | decide) (by first | assumption | rfl | omega | decide)) rfl (by decide) rfl rfl rfl ⟨by decide, by decide⟩ (Nat.le_of_ble_eq_true rfl) ⟨by decide, by decide⟩ dL_law_745 ?_
  refine x_icmp_eq C 855 dL_law_748 (by decide) (fun c_748 => ?_) (fun c_748 => ?_)
  ·
    exact K N B A Ms P s k ln ns lr tm sp hk s1 s2 ik e1 e2 th fx z g f kp tx td T (hI)
  ·
    exact absurd (ended_eq hI.1 (xs (i + 1))) c_748
