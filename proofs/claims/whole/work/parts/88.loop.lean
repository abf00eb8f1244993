theorem lw_lt {L i : Nat} (hL : L ≤ 2560) (hi : i ≤ L) (c : ¬ nI L - 5 < nI i) : i + 5 ≤ L := by
  have c2 : ¬ (nI L - 5).toInt < (nI i).toInt := fun q => c (lt_ti.mpr q)
  have e5 : (5 : Int32).toInt = 5 := by decide
  rw [sb_ti (by rw [nI_toInt (by omega), e5]; omega), nI_toInt (by omega), nI_toInt (by omega), e5] at c2
  omega
set_option maxRecDepth 100000 in
set_option maxHeartbeats 4000000 in
theorem law_loop {cx : CX} {b L : Nat} {xs : Nat → Int32} (C : XC cx cL_law wsL_law RL room_1 4) (M : XM cx) (S : XS cx b L xs) (Z : XZ cx) (hL : L ≤ 2560) (x0 h0 hs t0 tq m w1 w2 w3 w4 w5 w6 : Nat) (nw bf ah sn : Nat → Nat) (ad : Nat → Nat → Nat) : ∀ (zz i : Nat) (N B A Ms : SC) (P : Nat → SC) (s k ln ns lr tm sp : Nat) (hk s1 s2 ik e1 e2 th : Int32) (fx z g f kp tx td : Nat → Int32) (T : TX), LI N Ms P s k ln ns lr hk s1 s2 ik e1 e2 fx z f kp tx → i ≤ L → L + 1 ≤ i + zz → X cx (148, 7222) (([(x0, .inr (6, [.ref (nw 0), .ref (bf 0), .ref (ah 0), .ref (sn 0), .int hk, .ref h0, .ref t0, .int s1, .int s2]))] ++ (stW (xG cx) nw N ++ (stW (xG cx) bf B ++ (stW (xG cx) ah A ++ (stW (xG cx) sn Ms ++ ([(h0, .inr (1, [.int (nI s), .ref hs])), (hs, .inl ((xG cx).2.2.2, 4, .inr (.inr (.inr (.inr (rot ad k))))))] ++ (stW (xG cx) (ad 0) (P 0) ++ (stW (xG cx) (ad 1) (P 1) ++ (stW (xG cx) (ad 2) (P 2) ++ (stW (xG cx) (ad 3) (P 3) ++ [(t0, .inr (5, [.int (nI ln), .ref tq, .int (nI (tP T)), .int th, .int (tK T), .int (tR T), .int (tL T), .int (tH T), .int (tD T), .int (tN T)])), (tq, .inl ((xG cx).2.2.1, 60, .inl fx)), (m, .inr (7, [.ref w1, .ref w2, .ref w3, .int (nI ns), .ref w4, .int ik, .ref w5, .int (nI lr), .int e1, .int e2, .ref w6, .int (nI tm), .int (nI sp)])), (w1, .inl ((xG cx).2.1, 508, .inl z)), (w2, .inl ((xG cx).2.1, 508, .inl g)), (w3, .inl ((xG cx).2.1, 2032, .inl f)), (w4, .inl ((xG cx).2.1, 508, .inl kp)), (w5, .inl ((xG cx).2.1, 60, .inl tx)), (w6, .inl ((xG cx).2.1, 84, .inl td))]))))))))))) [(0, .ref b), (1, .ref x0), (2, .ref m), (3, .int (nI i))] 18 [] := by
  intro zz
  induction zz with
  | zero =>
    intro i N B A Ms P s k ln ns lr tm sp hk s1 s2 ik e1 e2 th fx z g f kp tx td T hI hi hz
    exact absurd hz (by omega)
  | succ zz ih =>
    intro i N B A Ms P s k ln ns lr tm sp hk s1 s2 ik e1 e2 th fx z g f kp tx td T hI hi hz
    have K : i + 5 ≤ L → ∀ (N B A Ms : SC) (P : Nat → SC) (s k ln ns lr tm sp : Nat) (hk s1 s2 ik e1 e2 th : Int32) (fx z g f kp tx td : Nat → Int32) (T : TX), LI N Ms P s k ln ns lr hk s1 s2 ik e1 e2 fx z f kp tx → X cx (148, 7222) (([(x0, .inr (6, [.ref (nw 0), .ref (bf 0), .ref (ah 0), .ref (sn 0), .int hk, .ref h0, .ref t0, .int s1, .int s2]))] ++ (stW (xG cx) nw N ++ (stW (xG cx) bf B ++ (stW (xG cx) ah A ++ (stW (xG cx) sn Ms ++ ([(h0, .inr (1, [.int (nI s), .ref hs])), (hs, .inl ((xG cx).2.2.2, 4, .inr (.inr (.inr (.inr (rot ad k))))))] ++ (stW (xG cx) (ad 0) (P 0) ++ (stW (xG cx) (ad 1) (P 1) ++ (stW (xG cx) (ad 2) (P 2) ++ (stW (xG cx) (ad 3) (P 3) ++ [(t0, .inr (5, [.int (nI ln), .ref tq, .int (nI (tP T)), .int th, .int (tK T), .int (tR T), .int (tL T), .int (tH T), .int (tD T), .int (tN T)])), (tq, .inl ((xG cx).2.2.1, 60, .inl fx)), (m, .inr (7, [.ref w1, .ref w2, .ref w3, .int (nI ns), .ref w4, .int ik, .ref w5, .int (nI lr), .int e1, .int e2, .ref w6, .int (nI tm), .int (nI sp)])), (w1, .inl ((xG cx).2.1, 508, .inl z)), (w2, .inl ((xG cx).2.1, 508, .inl g)), (w3, .inl ((xG cx).2.1, 2032, .inl f)), (w4, .inl ((xG cx).2.1, 508, .inl kp)), (w5, .inl ((xG cx).2.1, 60, .inl tx)), (w6, .inl ((xG cx).2.1, 84, .inl td))]))))))))))) [(0, .ref b), (1, .ref x0), (2, .ref m), (3, .int (nI i))] 855 [] := by
      intro hi5 N B A Ms P s k ln ns lr tm sp hk s1 s2 ik e1 e2 th fx z g f kp tx td T hI
      refine x_iinc C 3 [(3, .int (nI (i + 5))), (0, .ref b), (1, .ref x0), (2, .ref m)] dL_law_855 rfl (nI_add i 5) (by decide) rfl ?_
      refine x_goto (tgt := 18) C dL_law_858 (by decide) ?_
      refine x_lv [(0, .ref b), (1, .ref x0), (2, .ref m), (3, .int (nI (i + 5)))] [1, 2, 3, 0] rfl ?_
      exact ih (i + 5) N B A Ms P s k ln ns lr tm sp hk s1 s2 ik e1 e2 th fx z g f kp tx td T hI (by omega) (by omega)
    refine x_iload_n C 3 dL_law_18 rfl rfl ?_
    refine x_aload_n C 0 dL_law_19 rfl rfl ?_
    refine x_slen C S dL_law_20 ?_
    refine x_iconst (v := 5) C dL_law_21 (by decide) ?_
    refine x_isub C rfl dL_law_22 ?_
    refine x_icmp_gt C 861 dL_law_23 (by decide) (fun c_23 => ?_) (fun c_23 => ?_)
    ·
      refine x_iconst (v := 1) C dL_law_861 (by decide) ?_
      exact Z _ _ _ _ (by decide) (by decide) dL_law_862
    ·
      have hi5 : i + 5 ≤ L := lw_lt hL hi c_23
      refine x_aload_n C 0 dL_law_26 rfl rfl ?_
      refine x_iload_n C 3 dL_law_27 rfl rfl ?_
      refine x_sld C S (vp_in_nI (by omega) (by omega)) (congrArg xs (nI_clamp (by omega))) dL_law_28 ?_
      refine x_bipush (v := 31) C dL_law_29 (by decide) ?_
      refine x_iand C dL_law_31 ?_
      refine x_tsw C dL_law_32 [148, 191, 234, 267, 320, 353, 396, 429, 452, 477, 490, 503, 526, 539, 552, 565, 598, 631, 664, 697, 730, 753, 786, 809, 832] 855 (by decide) (by decide) (by decide) ⟨fun c_32 => ?_, fun c_32 => ?_, fun c_32 => ?_, fun c_32 => ?_, fun c_32 => ?_, fun c_32 => ?_, fun c_32 => ?_, fun c_32 => ?_, fun c_32 => ?_, fun c_32 => ?_, fun c_32 => ?_, fun c_32 => ?_, fun c_32 => ?_, fun c_32 => ?_, fun c_32 => ?_, fun c_32 => ?_, fun c_32 => ?_, fun c_32 => ?_, fun c_32 => ?_, fun c_32 => ?_, fun c_32 => ?_, fun c_32 => ?_, fun c_32 => ?_, fun c_32 => ?_, fun c_32 => ?_, trivial⟩ (fun c_32 => ?_)
      ·
        exact lcase_0 C M S hL hi5 x0 h0 hs t0 tq m w1 w2 w3 w4 w5 w6 nw bf ah sn ad N B A Ms P s k ln ns lr tm sp hk s1 s2 ik e1 e2 th fx z g f kp tx td T hI (K hi5)
      ·
        exact lcase_1 C M S hL hi5 x0 h0 hs t0 tq m w1 w2 w3 w4 w5 w6 nw bf ah sn ad N B A Ms P s k ln ns lr tm sp hk s1 s2 ik e1 e2 th fx z g f kp tx td T hI (K hi5)
      ·
        exact lcase_2 C M S hL hi5 x0 h0 hs t0 tq m w1 w2 w3 w4 w5 w6 nw bf ah sn ad N B A Ms P s k ln ns lr tm sp hk s1 s2 ik e1 e2 th fx z g f kp tx td T hI (K hi5)
      ·
        exact lcase_3 C M S hL hi5 x0 h0 hs t0 tq m w1 w2 w3 w4 w5 w6 nw bf ah sn ad N B A Ms P s k ln ns lr tm sp hk s1 s2 ik e1 e2 th fx z g f kp tx td T hI (K hi5)
      ·
        exact lcase_4 C M S hL hi5 x0 h0 hs t0 tq m w1 w2 w3 w4 w5 w6 nw bf ah sn ad N B A Ms P s k ln ns lr tm sp hk s1 s2 ik e1 e2 th fx z g f kp tx td T hI (K hi5)
      ·
        exact lcase_5 C M S hL hi5 x0 h0 hs t0 tq m w1 w2 w3 w4 w5 w6 nw bf ah sn ad N B A Ms P s k ln ns lr tm sp hk s1 s2 ik e1 e2 th fx z g f kp tx td T hI (K hi5)
      ·
        exact lcase_6 C M S hL hi5 x0 h0 hs t0 tq m w1 w2 w3 w4 w5 w6 nw bf ah sn ad N B A Ms P s k ln ns lr tm sp hk s1 s2 ik e1 e2 th fx z g f kp tx td T hI (K hi5)
      ·
        exact lcase_7 C M S hL hi5 x0 h0 hs t0 tq m w1 w2 w3 w4 w5 w6 nw bf ah sn ad N B A Ms P s k ln ns lr tm sp hk s1 s2 ik e1 e2 th fx z g f kp tx td T hI (K hi5)
      ·
        exact lcase_8 C M S hL hi5 x0 h0 hs t0 tq m w1 w2 w3 w4 w5 w6 nw bf ah sn ad N B A Ms P s k ln ns lr tm sp hk s1 s2 ik e1 e2 th fx z g f kp tx td T hI (K hi5)
      ·
        exact lcase_9 C M S hL hi5 x0 h0 hs t0 tq m w1 w2 w3 w4 w5 w6 nw bf ah sn ad N B A Ms P s k ln ns lr tm sp hk s1 s2 ik e1 e2 th fx z g f kp tx td T hI (K hi5)
      ·
        exact lcase_10 C M S hL hi5 x0 h0 hs t0 tq m w1 w2 w3 w4 w5 w6 nw bf ah sn ad N B A Ms P s k ln ns lr tm sp hk s1 s2 ik e1 e2 th fx z g f kp tx td T hI (K hi5)
      ·
        exact lcase_11 C M S hL hi5 x0 h0 hs t0 tq m w1 w2 w3 w4 w5 w6 nw bf ah sn ad N B A Ms P s k ln ns lr tm sp hk s1 s2 ik e1 e2 th fx z g f kp tx td T hI (K hi5)
      ·
        exact lcase_12 C M S hL hi5 x0 h0 hs t0 tq m w1 w2 w3 w4 w5 w6 nw bf ah sn ad N B A Ms P s k ln ns lr tm sp hk s1 s2 ik e1 e2 th fx z g f kp tx td T hI (K hi5)
      ·
        exact lcase_13 C M S hL hi5 x0 h0 hs t0 tq m w1 w2 w3 w4 w5 w6 nw bf ah sn ad N B A Ms P s k ln ns lr tm sp hk s1 s2 ik e1 e2 th fx z g f kp tx td T hI (K hi5)
      ·
        exact lcase_14 C M S hL hi5 x0 h0 hs t0 tq m w1 w2 w3 w4 w5 w6 nw bf ah sn ad N B A Ms P s k ln ns lr tm sp hk s1 s2 ik e1 e2 th fx z g f kp tx td T hI (K hi5)
      ·
        exact lcase_15 C M S hL hi5 x0 h0 hs t0 tq m w1 w2 w3 w4 w5 w6 nw bf ah sn ad N B A Ms P s k ln ns lr tm sp hk s1 s2 ik e1 e2 th fx z g f kp tx td T hI (K hi5)
      ·
        exact lcase_16 C M S hL hi5 x0 h0 hs t0 tq m w1 w2 w3 w4 w5 w6 nw bf ah sn ad N B A Ms P s k ln ns lr tm sp hk s1 s2 ik e1 e2 th fx z g f kp tx td T hI (K hi5)
      ·
        exact lcase_17 C M S hL hi5 x0 h0 hs t0 tq m w1 w2 w3 w4 w5 w6 nw bf ah sn ad N B A Ms P s k ln ns lr tm sp hk s1 s2 ik e1 e2 th fx z g f kp tx td T hI (K hi5)
      ·
        exact lcase_18 C M S hL hi5 x0 h0 hs t0 tq m w1 w2 w3 w4 w5 w6 nw bf ah sn ad N B A Ms P s k ln ns lr tm sp hk s1 s2 ik e1 e2 th fx z g f kp tx td T hI (K hi5)
      ·
        exact lcase_19 C M S hL hi5 x0 h0 hs t0 tq m w1 w2 w3 w4 w5 w6 nw bf ah sn ad N B A Ms P s k ln ns lr tm sp hk s1 s2 ik e1 e2 th fx z g f kp tx td T hI (K hi5)
      ·
        exact lcase_20 C M S hL hi5 x0 h0 hs t0 tq m w1 w2 w3 w4 w5 w6 nw bf ah sn ad N B A Ms P s k ln ns lr tm sp hk s1 s2 ik e1 e2 th fx z g f kp tx td T hI (K hi5)
      ·
        exact lcase_21 C M S hL hi5 x0 h0 hs t0 tq m w1 w2 w3 w4 w5 w6 nw bf ah sn ad N B A Ms P s k ln ns lr tm sp hk s1 s2 ik e1 e2 th fx z g f kp tx td T hI (K hi5)
      ·
        exact lcase_22 C M S hL hi5 x0 h0 hs t0 tq m w1 w2 w3 w4 w5 w6 nw bf ah sn ad N B A Ms P s k ln ns lr tm sp hk s1 s2 ik e1 e2 th fx z g f kp tx td T hI (K hi5)
      ·
        exact lcase_23 C M S hL hi5 x0 h0 hs t0 tq m w1 w2 w3 w4 w5 w6 nw bf ah sn ad N B A Ms P s k ln ns lr tm sp hk s1 s2 ik e1 e2 th fx z g f kp tx td T hI (K hi5)
      ·
        exact lcase_24 C M S hL hi5 x0 h0 hs t0 tq m w1 w2 w3 w4 w5 w6 nw bf ah sn ad N B A Ms P s k ln ns lr tm sp hk s1 s2 ik e1 e2 th fx z g f kp tx td T hI (K hi5)
      ·
        exact K hi5 N B A Ms P s k ln ns lr tm sp hk s1 s2 ik e1 e2 th fx z g f kp tx td T hI
