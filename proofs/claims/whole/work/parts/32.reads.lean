def erR (z : Nat → Int32) (n b : Nat) : Int32 := l2R z n (nI b) (z (4 + 2 * b) / 2)
def mdL (z : Nat → Int32) (n : Nat) (x : Int32) : Int32 := if l0R z n x 0 = 0 then -1005 else if 2 * l1R z n x 0 < l0R z n x 0 then -1005 else mdR z x (l0R z n x 0) n n
def lpR (z : Nat → Int32) (x w : Int32) : Int32 :=
  if 0 ≤ x ∧ x ≤ z 3 - 1 then
    if w = 0 then zl z (ixz x) 0 else if w = 1 then zl z (ixz x) 1 else if w = 2 then zl z (ixz x) 2 else if w = 3 then zl z (ixz x) 3 else if w = 4 then zl z (ixz x) 4 else if w = 5 then zl z (ixz x) 5
    else if w = 6 then zl z (ixz x) 4 / 10 else if w = 7 then (if zl z (ixz x) 6 ≠ -1005 then 1 else 0) else if w = 8 then zl z (ixz x) 6 else if w = 9 then zl z (ixz x) 7 else -1002
  else -1001
def rkR (z : Nat → Int32) (n : Nat) (r w : Int32) : Int32 :=
  if 0 ≤ r ∧ r ≤ 2 then
    if w = 0 then zr z (ixz r) 0 else if w = 1 then lnR z n r 1 else if w = 2 then lnR z n r 0
    else if w = 3 then (if zr z (ixz r) 0 = 0 then 0 else wA z (zr z (ixz r) 0) 0) else if w = 4 then (if zr z (ixz r) 0 = 0 then 0 else wA z (zr z (ixz r) 0) 1)
    else if w = 5 then zr z (ixz r) 1 else if w = 6 then zr z (ixz r) 2 else if w = 7 then (if zr z (ixz r) 1 = 0 then -1005 else zr z (ixz r) 1 - zr z (ixz r) 3) else -1002
  else -1001
def atR (z : Nat → Int32) (n : Nat) (r p : Int32) : Int32 := if 0 ≤ r ∧ r ≤ 2 then (if 0 ≤ p ∧ p ≤ 7 then lat z r p n else -1001) else -1001
def btR (z : Nat → Int32) (n : Nat) (b w : Int32) : Int32 :=
  if 0 ≤ b ∧ b ≤ 5 then
    if w = 0 then z (4 + 2 * ixz b) else if w = 1 then z (4 + 2 * ixz b + 1) else if w = 2 then l0R z n b 0 else if w = 3 then l1R z n b 0 else if w = 4 then erR z n (ixz b)
    else if w = 5 then mdL z n b else if w = 6 then (if l1R z n b 0 < 2 * erR z n (ixz b) then 1 else 0) else -1002
  else -1001
def ldR (z : Nat → Int32) (n : Nat) (b h : Int32) : Int32 := if 0 ≤ b ∧ b ≤ 5 then (if 0 ≤ h ∧ h ≤ 99999 then l3R z n b h else -1002) else -1001
def lsR (z : Nat → Int32) (x v : Int32) : Int32 :=
  if 0 ≤ x ∧ x ≤ z 3 - 1 then
    if 1 ≤ v ∧ v ≤ 300 then
      if zl z (ixz x) 6 ≠ -1005 then -1004
      else (10 * zl z (ixz x) 3 - zl z (ixz x) 4 + wA z v (b2i (3 ≤ zl z (ixz x) 2 ∧ zl z (ixz x) 2 ≤ 4)) - 1) / wA z v (b2i (3 ≤ zl z (ixz x) 2 ∧ zl z (ixz x) 2 ≤ 4))
    else -1002
  else -1001
def reR (z : Nat → Int32) (x : Int32) : Int32 :=
  if 0 ≤ x ∧ x ≤ z 3 - 1 then (if zl z (ixz x) 6 ≠ -1005 then 1 else if zl z (ixz x) 1 = -1005 then 2 else if brnB z (ixz x) = true then 0 else 3) else -1001
def coR (z : Nat → Int32) (n ns ln : Nat) (w : Int32) : Int32 :=
  if w = 0 then z 2 else if w = 1 then z 3 else if w = 2 then lnR z n 0 1 + lnR z n 1 1 + lnR z n 2 1 else if w = 3 then bnR z n else if w = 4 then ddR z n else if w = 5 then smR z n 7
  else if w = 6 then smR z n 5 else if w = 7 then smR z n 4 else if w = 8 then z 0 else if w = 9 then z 1 else if w = 10 then nI ns else if w = 11 then nI ln else -1002

theorem i_kX7_early_X7 : ∀ w ∈ u_ws RX7 TX7 13, w ∈ wsX7_early := by decide +kernel
theorem m_kX7_early_1 : (Cond.fieldLink RX7 7 "LampRacksModel" "z" "[I" : Cond) ∈ wsX7_early := by decide +kernel
set_option maxRecDepth 100000 in
set_option maxHeartbeats 4000000 in
theorem kX7_early (l : Launch) (G : GG) (m : Nat) (w1 : Nat) (w2 : Nat) (w3 : Nat) (w4 : Nat) (w5 : Nat) (w6 : Nat) (ns : Nat) (ln : Nat) (tm : Nat) (sp : Nat) (ik : Int32) (e1 : Int32) (e2 : Int32) (z : Nat → Int32) (n : Nat) (b : Nat) (hn : n ≤ 60) (hz3 : z 3 = nI n) (hb : b < 6) : RO l G yX7_early wsX7_early ({ frames := 3, cells := 0, slots := 0, locals := 69 } : Room) [.ref m, .int (nI b)] [(m, .inr (7, [.ref w1, .ref w2, .ref w3, .int (nI ns), .ref w4, .int ik, .ref w5, .int (nI ln), .int e1, .int e2, .ref w6, .int (nI tm), .int (nI sp)])), (w1, .inl (G.2.1, 508, .inl z))] (.int (erR z n b)) := by
  refine RO.of (cc := cX7_early) (maxL := 2) (ret := (some .int)) (by decide) rfl (Nat.le_of_ble_eq_true rfl) ?_
  intro cx hxl hxG C E
  subst hxl
  subst hxG
  show X cx (0, 0) [(m, .inr (7, [.ref w1, .ref w2, .ref w3, .int (nI ns), .ref w4, .int ik, .ref w5, .int (nI ln), .int e1, .int e2, .ref w6, .int (nI tm), .int (nI sp)])), (w1, .inl ((xG cx).2.1, 508, .inl z))] [(0, .ref m), (1, .int (nI b))] 0 []
  refine x_aload_n C 0 dX7_early_0 rfl rfl ?_
  refine x_iload_n C 1 dX7_early_1 rfl rfl ?_
  refine x_iconst (v := 2) C dX7_early_2 (by decide) ?_
  refine x_aload_n C 0 dX7_early_3 rfl rfl ?_
  refine x_getf C 0 rfl rfl i_kX7_early_X7 0 (by decide) m_kX7_early_1 rfl rfl dX7_early_4 ?_
  refine x_iconst (v := 4) C dX7_early_7 (by decide) ?_
  refine x_iconst (v := 2) C dX7_early_8 (by decide) ?_
  refine x_iload_n C 1 dX7_early_9 rfl rfl ?_
  refine x_imul C (pk_mul 2 b) dX7_early_10 ?_
  refine x_iadd C (nI_add 4 (2 * b)) dX7_early_11 ?_
  refine x_iald C 1 rfl rfl (vp_in_nI (by omega) (by decide)) (congrArg z (nI_clamp (by omega))) dX7_early_12 ?_
  refine x_iconst (v := 2) C dX7_early_13 (by decide) ?_
  refine x_idiv C (rfl) dX7_early_14 (by decide) ?_
  refine x_callVRO C ([.int (nI b), .int 2, .int ((z (4 + (2 * b))) / 2)]) ([]) [0, 1] (k0 := 0) (na := 3) gX7_early_X7_lampsOf rfl (by decide +kernel) rfl rfl rfl (kX7_lampsOf_2 (xl cx) (xG cx) m w1 w2 w3 w4 w5 w6 ns ln tm sp ik e1 e2 z n (nI b) ((z (4 + (2 * b))) / 2) (by first | assumption | rfl | omega | decide) (by first | assumption | rfl | omega | decide)) rfl (by decide) rfl rfl rfl ⟨by decide, by decide⟩ (Nat.le_of_ble_eq_true rfl) ⟨by decide, by decide⟩ dX7_early_15 ?_
  exact x_iret C E dX7_early_18 (rfl) (rfl)

theorem i_kX7_middleLife_X7 : ∀ w ∈ u_ws RX7 TX7 13, w ∈ wsX7_middleLife := by decide +kernel
theorem m_kX7_middleLife_1 : (Cond.fieldLink RX7 7 "LampRacksModel" "z" "[I" : Cond) ∈ wsX7_middleLife := by decide +kernel
set_option maxRecDepth 100000 in
set_option maxHeartbeats 4000000 in
theorem kX7_middleLife (l : Launch) (G : GG) (m : Nat) (w1 : Nat) (w2 : Nat) (w3 : Nat) (w4 : Nat) (w5 : Nat) (w6 : Nat) (ns : Nat) (ln : Nat) (tm : Nat) (sp : Nat) (ik : Int32) (e1 : Int32) (e2 : Int32) (z : Nat → Int32) (n : Nat) (x : Int32) (hn : n ≤ 60) (hz3 : z 3 = nI n) : RO l G yX7_middleLife wsX7_middleLife ({ frames := 3, cells := 0, slots := 0, locals := 69 } : Room) [.ref m, .int x] [(m, .inr (7, [.ref w1, .ref w2, .ref w3, .int (nI ns), .ref w4, .int ik, .ref w5, .int (nI ln), .int e1, .int e2, .ref w6, .int (nI tm), .int (nI sp)])), (w1, .inl (G.2.1, 508, .inl z))] (.int (mdL z n x)) := by
  refine RO.of (cc := cX7_middleLife) (maxL := 6) (ret := (some .int)) (by decide) rfl (Nat.le_of_ble_eq_true rfl) ?_
  intro cx hxl hxG C E
  subst hxl
  subst hxG
  show X cx (0, 0) [(m, .inr (7, [.ref w1, .ref w2, .ref w3, .int (nI ns), .ref w4, .int ik, .ref w5, .int (nI ln), .int e1, .int e2, .ref w6, .int (nI tm), .int (nI sp)])), (w1, .inl ((xG cx).2.1, 508, .inl z))] [(0, .ref m), (1, .int x)] 0 []
  refine x_aload_n C 0 dX7_middleLife_0 rfl rfl ?_
  refine x_iload_n C 1 dX7_middleLife_1 rfl rfl ?_
  refine x_iconst (v := 0) C dX7_middleLife_2 (by decide) ?_
  refine x_iconst (v := 0) C dX7_middleLife_3 (by decide) ?_
  refine x_callVRO C ([.int x, .int 0, .int 0]) ([]) [0, 1] (k0 := 0) (na := 3) gX7_middleLife_X7_lampsOf rfl (by decide +kernel) rfl rfl rfl (kX7_lampsOf_0 (xl cx) (xG cx) m w1 w2 w3 w4 w5 w6 ns ln tm sp ik e1 e2 z n x 0 (by first | assumption | rfl | omega | decide) (by first | assumption | rfl | omega | decide)) rfl (by decide) rfl rfl rfl ⟨by decide, by decide⟩ (Nat.le_of_ble_eq_true rfl) ⟨by decide, by decide⟩ dX7_middleLife_4 ?_
  refine x_istore_n C [(2, .int (l0R z n x 0)), (0, .ref m), (1, .int x)] dX7_middleLife_7 rfl (by decide) rfl ?_
  refine x_iload_n C 0 dX7_middleLife_8 rfl rfl ?_
  refine x_if_eq C 25 dX7_middleLife_9 (by decide) (fun c_9 => ?_) (fun c_9 => ?_)
  ·
    refine x_sipush (v := (-1005)) C dX7_middleLife_25 (by decide) ?_
    exact x_iret C E dX7_middleLife_28 (by first | (unfold mdL; rw [if_pos c_9]) | (unfold mdL; rw [if_neg c_9, if_pos (Int32.not_le.mp c_22)])) (rfl)
  ·
    refine x_iconst (v := 2) C dX7_middleLife_12 (by decide) ?_
    refine x_aload_n C 1 dX7_middleLife_13 rfl rfl ?_
    refine x_iload_n C 2 dX7_middleLife_14 rfl rfl ?_
    refine x_iconst (v := 1) C dX7_middleLife_15 (by decide) ?_
    refine x_iconst (v := 0) C dX7_middleLife_16 (by decide) ?_
    refine x_callVRO C ([.int x, .int 1, .int 0]) ([.int 2]) [0, 1] (k0 := 0) (na := 3) gX7_middleLife_X7_lampsOf rfl (by decide +kernel) rfl rfl rfl (kX7_lampsOf_1 (xl cx) (xG cx) m w1 w2 w3 w4 w5 w6 ns ln tm sp ik e1 e2 z n x 0 (by first | assumption | rfl | omega | decide) (by first | assumption | rfl | omega | decide)) rfl (by decide) rfl rfl rfl ⟨by decide, by decide⟩ (Nat.le_of_ble_eq_true rfl) ⟨by decide, by decide⟩ dX7_middleLife_17 ?_
    refine x_imul C (rfl) dX7_middleLife_20 ?_
    refine x_iload_n C 0 dX7_middleLife_21 rfl rfl ?_
    refine x_icmp_ge C 29 dX7_middleLife_22 (by decide) (fun c_22 => ?_) (fun c_22 => ?_)
    ·
      refine x_sipush (v := (-1005)) C dX7_middleLife_29 (by decide) ?_
      refine x_istore_n C [(3, .int (-1005)), (2, .int (l0R z n x 0)), (0, .ref m), (1, .int x)] dX7_middleLife_32 rfl (by decide) rfl ?_
      refine x_iconst (v := 0) C dX7_middleLife_33 (by decide) ?_
      refine x_istore C [(4, .int 0), (3, .int (-1005)), (2, .int (l0R z n x 0)), (0, .ref m), (1, .int x)] dX7_middleLife_34 (by decide) rfl ?_
      have loop_36 : ∀ (zz : Nat) (i : Nat) (acc : Int32) (hi : i ≤ n) (hz : n + 1 ≤ i + zz) (ea : acc = mdR z x (l0R z n x 0) n i), X cx (0, 0) [(m, .inr (7, [.ref w1, .ref w2, .ref w3, .int (nI ns), .ref w4, .int ik, .ref w5, .int (nI ln), .int e1, .int e2, .ref w6, .int (nI tm), .int (nI sp)])), (w1, .inl ((xG cx).2.1, 508, .inl z))] [(0, .ref m), (1, .int x), (2, .int (l0R z n x 0)), (3, .int acc), (4, .int (nI i))] 36 [] := by
        intro zz
        induction zz with
        | zero =>
          intro i acc hi hz ea
          exfalso; omega
        | succ zz ih =>
          intro i acc hi hz ea
          refine x_iload C 4 dX7_middleLife_36 rfl ?_
          refine x_aload_n C 0 dX7_middleLife_38 rfl rfl ?_
          refine x_getf C 0 rfl rfl i_kX7_middleLife_X7 0 (by decide) m_kX7_middleLife_1 rfl rfl dX7_middleLife_39 ?_
          refine x_iconst (v := 3) C dX7_middleLife_42 (by decide) ?_
          refine x_iald C 1 rfl rfl (vp_in_nI (n := 3) (by decide) (by decide)) ((congrArg z (nI_clamp (n := 3) (by decide))).trans hz3) dX7_middleLife_43 ?_
          refine x_icmp_ge C 133 dX7_middleLife_44 (by decide) (fun c_44 => ?_) (fun c_44 => ?_)
          ·
            have n_44 : n ≤ i := (nI_leI (a := n) (b := i) (by omega) (by omega)).mp c_44
            refine x_iload_n C 3 dX7_middleLife_133 rfl rfl ?_
            exact x_iret C E dX7_middleLife_134 (by unfold mdL; rw [if_neg c_9, if_neg (Int32.not_lt.mpr c_22), ea, show i = n from by omega]) (rfl)
          ·
            have n_44 : ¬ (n ≤ i) := fun q => c_44 ((nI_leI (a := n) (b := i) (by omega) (by omega)).mpr q)
            refine x_aload_n C 0 dX7_middleLife_47 rfl rfl ?_
            refine x_iload C 4 dX7_middleLife_48 rfl ?_
            refine x_iconst (v := 0) C dX7_middleLife_50 (by decide) ?_
            refine x_callVRO C ([.int (nI i), .int 0]) ([]) [0, 1] (k0 := 0) (na := 2) gX7_middleLife_X7_of rfl (by decide +kernel) rfl rfl rfl (kX7_of (xl cx) (xG cx) m w1 w2 w3 w4 w5 w6 ns ln tm sp ik e1 e2 z i 0 (by first | assumption | rfl | omega | decide) (by first | assumption | rfl | omega | decide)) rfl (by decide) rfl rfl rfl ⟨by decide, by decide⟩ (Nat.le_of_ble_eq_true rfl) ⟨by decide, by decide⟩ dX7_middleLife_51 ?_
            refine x_iload_n C 1 dX7_middleLife_54 rfl rfl ?_
            have join_92 : ∀ (v0 : Int32) (hv0 : v0 = b2i ((zl z i 0 = x ∧ zl z i 6 ≠ -1005) ∧ l0R z n x 0 ≤ 2 * l2R z n x (zl z i 4 / 10 + 1))), X cx (0, 0) [(m, .inr (7, [.ref w1, .ref w2, .ref w3, .int (nI ns), .ref w4, .int ik, .ref w5, .int (nI ln), .int e1, .int e2, .ref w6, .int (nI tm), .int (nI sp)])), (w1, .inl ((xG cx).2.1, 508, .inl z))] [(0, .ref m), (1, .int x), (2, .int (l0R z n x 0)), (3, .int acc), (4, .int (nI i))] 92 [.int v0] := by
              intro v0 hv0
              subst hv0
              refine x_istore C [(5, .int (b2i ((zl z i 0 = x ∧ zl z i 6 ≠ -1005) ∧ l0R z n x 0 ≤ 2 * l2R z n x (zl z i 4 / 10 + 1)))), (0, .ref m), (1, .int x), (2, .int (l0R z n x 0)), (3, .int acc), (4, .int (nI i))] dX7_middleLife_92 (by decide) rfl ?_
              refine x_iload C 0 dX7_middleLife_94 rfl ?_
              refine x_ifb_eq (P := (zl z i 0 = x ∧ zl z i 6 ≠ -1005) ∧ l0R z n x 0 ≤ 2 * l2R z n x (zl z i 4 / 10 + 1)) C 125 dX7_middleLife_96 (by decide) (fun c_96 => ?_) (fun c_96 => ?_)
              ·
                refine x_iload_n C 4 dX7_middleLife_125 rfl rfl ?_
                refine x_istore_n C [(3, .int acc), (5, .int (b2i ((zl z i 0 = x ∧ zl z i 6 ≠ -1005) ∧ l0R z n x 0 ≤ 2 * l2R z n x (zl z i 4 / 10 + 1)))), (0, .ref m), (1, .int x), (2, .int (l0R z n x 0)), (4, .int (nI i))] dX7_middleLife_126 rfl (by decide) rfl ?_
                refine x_iinc C 5 [(4, .int (nI (i + 1))), (3, .int acc), (5, .int (b2i ((zl z i 0 = x ∧ zl z i 6 ≠ -1005) ∧ l0R z n x 0 ≤ 2 * l2R z n x (zl z i 4 / 10 + 1)))), (0, .ref m), (1, .int x), (2, .int (l0R z n x 0))] dX7_middleLife_127 rfl (inc1 i) (by decide) rfl ?_
                refine x_goto (tgt := 36) C dX7_middleLife_130 (by decide) ?_
                refine x_lv [(0, .ref m), (1, .int x), (2, .int (l0R z n x 0)), (3, .int acc), (4, .int (nI (i + 1)))] [3, 4, 5, 1, 0] rfl ?_
                exact ih (i + 1) acc (by omega) (by omega) (by rw [mdR_s, ← ea]; exact (if_neg (fun q => c_96 q.1)).symm)
              ·
                refine x_iload_n C 4 dX7_middleLife_99 rfl rfl ?_
                refine x_sipush (v := (-1005)) C dX7_middleLife_100 (by decide) ?_
                refine x_icmp_eq C 116 dX7_middleLife_103 (by decide) (fun c_103 => ?_) (fun c_103 => ?_)
                ·
                  refine x_aload_n C 1 dX7_middleLife_116 rfl rfl ?_
                  refine x_iload C 5 dX7_middleLife_117 rfl ?_
                  refine x_callVRO C ([.int (nI i)]) ([]) [0, 1] (k0 := 0) (na := 1) gX7_middleLife_X7_counts rfl (by decide +kernel) rfl rfl rfl (kX7_counts (xl cx) (xG cx) m w1 w2 w3 w4 w5 w6 ns ln tm sp ik e1 e2 z i (by first | assumption | rfl | omega | decide)) rfl (by decide) rfl rfl rfl ⟨by decide, by decide⟩ (Nat.le_of_ble_eq_true rfl) ⟨by decide, by decide⟩ dX7_middleLife_119 ?_
                  refine x_goto (tgt := 126) C dX7_middleLife_122 (by decide) ?_
                  refine x_istore_n C [(3, .int (zl z i 4 / 10)), (5, .int (b2i ((zl z i 0 = x ∧ zl z i 6 ≠ -1005) ∧ l0R z n x 0 ≤ 2 * l2R z n x (zl z i 4 / 10 + 1)))), (0, .ref m), (1, .int x), (2, .int (l0R z n x 0)), (4, .int (nI i))] dX7_middleLife_126 rfl (by decide) rfl ?_
                  refine x_iinc C 5 [(4, .int (nI (i + 1))), (3, .int (zl z i 4 / 10)), (5, .int (b2i ((zl z i 0 = x ∧ zl z i 6 ≠ -1005) ∧ l0R z n x 0 ≤ 2 * l2R z n x (zl z i 4 / 10 + 1)))), (0, .ref m), (1, .int x), (2, .int (l0R z n x 0))] dX7_middleLife_127 rfl (inc1 i) (by decide) rfl ?_
                  refine x_goto (tgt := 36) C dX7_middleLife_130 (by decide) ?_
                  refine x_lv [(0, .ref m), (1, .int x), (2, .int (l0R z n x 0)), (3, .int (zl z i 4 / 10)), (4, .int (nI (i + 1)))] [3, 4, 5, 1, 0] rfl ?_
                  exact ih (i + 1) (zl z i 4 / 10) (by omega) (by omega) (by rw [mdR_s, ← ea]; exact (if_pos ⟨c_96, Or.inl c_103⟩).symm)
                ·
                  refine x_aload_n C 1 dX7_middleLife_106 rfl rfl ?_
                  refine x_iload C 5 dX7_middleLife_107 rfl ?_
                  refine x_callVRO C ([.int (nI i)]) ([]) [0, 1] (k0 := 0) (na := 1) gX7_middleLife_X7_counts rfl (by decide +kernel) rfl rfl rfl (kX7_counts (xl cx) (xG cx) m w1 w2 w3 w4 w5 w6 ns ln tm sp ik e1 e2 z i (by first | assumption | rfl | omega | decide)) rfl (by decide) rfl rfl rfl ⟨by decide, by decide⟩ (Nat.le_of_ble_eq_true rfl) ⟨by decide, by decide⟩ dX7_middleLife_109 ?_
                  refine x_iload_n C 4 dX7_middleLife_112 rfl rfl ?_
                  refine x_icmp_ge C 125 dX7_middleLife_113 (by decide) (fun c_113 => ?_) (fun c_113 => ?_)
                  ·
                    refine x_iload_n C 4 dX7_middleLife_125 rfl rfl ?_
                    refine x_istore_n C [(3, .int acc), (5, .int (b2i ((zl z i 0 = x ∧ zl z i 6 ≠ -1005) ∧ l0R z n x 0 ≤ 2 * l2R z n x (zl z i 4 / 10 + 1)))), (0, .ref m), (1, .int x), (2, .int (l0R z n x 0)), (4, .int (nI i))] dX7_middleLife_126 rfl (by decide) rfl ?_
                    refine x_iinc C 5 [(4, .int (nI (i + 1))), (3, .int acc), (5, .int (b2i ((zl z i 0 = x ∧ zl z i 6 ≠ -1005) ∧ l0R z n x 0 ≤ 2 * l2R z n x (zl z i 4 / 10 + 1)))), (0, .ref m), (1, .int x), (2, .int (l0R z n x 0))] dX7_middleLife_127 rfl (inc1 i) (by decide) rfl ?_
                    refine x_goto (tgt := 36) C dX7_middleLife_130 (by decide) ?_
                    refine x_lv [(0, .ref m), (1, .int x), (2, .int (l0R z n x 0)), (3, .int acc), (4, .int (nI (i + 1)))] [3, 4, 5, 1, 0] rfl ?_
                    exact ih (i + 1) acc (by omega) (by omega) (by rw [mdR_s, ← ea]; exact (if_neg (fun q => q.2.elim c_103 (fun w => absurd w (Int32.not_lt.mpr c_113)))).symm)
                  ·
                    refine x_aload_n C 1 dX7_middleLife_116 rfl rfl ?_
                    refine x_iload C 5 dX7_middleLife_117 rfl ?_
                    refine x_callVRO C ([.int (nI i)]) ([]) [0, 1] (k0 := 0) (na := 1) gX7_middleLife_X7_counts rfl (by decide +kernel) rfl rfl rfl (kX7_counts (xl cx) (xG cx) m w1 w2 w3 w4 w5 w6 ns ln tm sp ik e1 e2 z i (by first | assumption | rfl | omega | decide)) rfl (by decide) rfl rfl rfl ⟨by decide, by decide⟩ (Nat.le_of_ble_eq_true rfl) ⟨by decide, by decide⟩ dX7_middleLife_119 ?_
                    refine x_goto (tgt := 126) C dX7_middleLife_122 (by decide) ?_
                    refine x_istore_n C [(3, .int (zl z i 4 / 10)), (5, .int (b2i ((zl z i 0 = x ∧ zl z i 6 ≠ -1005) ∧ l0R z n x 0 ≤ 2 * l2R z n x (zl z i 4 / 10 + 1)))), (0, .ref m), (1, .int x), (2, .int (l0R z n x 0)), (4, .int (nI i))] dX7_middleLife_126 rfl (by decide) rfl ?_
                    refine x_iinc C 5 [(4, .int (nI (i + 1))), (3, .int (zl z i 4 / 10)), (5, .int (b2i ((zl z i 0 = x ∧ zl z i 6 ≠ -1005) ∧ l0R z n x 0 ≤ 2 * l2R z n x (zl z i 4 / 10 + 1)))), (0, .ref m), (1, .int x), (2, .int (l0R z n x 0))] dX7_middleLife_127 rfl (inc1 i) (by decide) rfl ?_
                    refine x_goto (tgt := 36) C dX7_middleLife_130 (by decide) ?_
                    refine x_lv [(0, .ref m), (1, .int x), (2, .int (l0R z n x 0)), (3, .int (zl z i 4 / 10)), (4, .int (nI (i + 1)))] [3, 4, 5, 1, 0] rfl ?_
                    exact ih (i + 1) (zl z i 4 / 10) (by omega) (by omega) (by rw [mdR_s, ← ea]; exact (if_pos ⟨c_96, Or.inr (Int32.not_le.mp c_113)⟩).symm)
            refine x_icmp_ne C 91 dX7_middleLife_55 (by decide) (fun c_55 => ?_) (fun c_55 => ?_)
            ·
              refine x_iconst (v := 0) C dX7_middleLife_91 (by decide) ?_
              exact join_92 _ (by first | rfl | (symm; first | (apply b2i_t; exact ⟨⟨c_55, c_64⟩, Int32.not_lt.mp c_84⟩) | (apply b2i_f; exact fun q => absurd c_84 (Int32.not_lt.mpr q.2)) | (apply b2i_f; exact fun q => c_64 q.1.2) | (apply b2i_f; exact fun q => c_55 q.1.1)))
            ·
              refine x_aload_n C 0 dX7_middleLife_58 rfl rfl ?_
              refine x_iload C 4 dX7_middleLife_59 rfl ?_
              refine x_callVRO C ([.int (nI i)]) ([]) [0, 1] (k0 := 0) (na := 1) gX7_middleLife_X7_isDead rfl (by decide +kernel) rfl rfl rfl (kX7_isDead (xl cx) (xG cx) m w1 w2 w3 w4 w5 w6 ns ln tm sp ik e1 e2 z i (by first | assumption | rfl | omega | decide)) rfl (by decide) rfl rfl rfl ⟨by decide, by decide⟩ (Nat.le_of_ble_eq_true rfl) ⟨by decide, by decide⟩ dX7_middleLife_61 ?_
              refine x_ifb_eq (P := zl z i 6 ≠ -1005) C 91 dX7_middleLife_64 (by decide) (fun c_64 => ?_) (fun c_64 => ?_)
              ·
                refine x_iconst (v := 0) C dX7_middleLife_91 (by decide) ?_
                exact join_92 _ (by first | rfl | (symm; first | (apply b2i_t; exact ⟨⟨c_55, c_64⟩, Int32.not_lt.mp c_84⟩) | (apply b2i_f; exact fun q => absurd c_84 (Int32.not_lt.mpr q.2)) | (apply b2i_f; exact fun q => c_64 q.1.2) | (apply b2i_f; exact fun q => c_55 q.1.1)))
              ·
                refine x_iconst (v := 2) C dX7_middleLife_67 (by decide) ?_
                refine x_aload_n C 0 dX7_middleLife_68 rfl rfl ?_
                refine x_iload_n C 1 dX7_middleLife_69 rfl rfl ?_
                refine x_iconst (v := 2) C dX7_middleLife_70 (by decide) ?_
                refine x_aload_n C 0 dX7_middleLife_71 rfl rfl ?_
                refine x_iload C 4 dX7_middleLife_72 rfl ?_
                refine x_callVRO C ([.int (nI i)]) ([.int 2, .int x, .ref m, .int 2]) [0, 1] (k0 := 0) (na := 1) gX7_middleLife_X7_counts rfl (by decide +kernel) rfl rfl rfl (kX7_counts (xl cx) (xG cx) m w1 w2 w3 w4 w5 w6 ns ln tm sp ik e1 e2 z i (by first | assumption | rfl | omega | decide)) rfl (by decide) rfl rfl rfl ⟨by decide, by decide⟩ (Nat.le_of_ble_eq_true rfl) ⟨by decide, by decide⟩ dX7_middleLife_74 ?_
                refine x_iconst (v := 1) C dX7_middleLife_77 (by decide) ?_
                refine x_iadd C (rfl) dX7_middleLife_78 ?_
                refine x_callVRO C ([.int x, .int 2, .int ((zl z i 4 / 10) + 1)]) ([.int 2]) [0, 1] (k0 := 0) (na := 3) gX7_middleLife_X7_lampsOf rfl (by decide +kernel) rfl rfl rfl (kX7_lampsOf_2 (xl cx) (xG cx) m w1 w2 w3 w4 w5 w6 ns ln tm sp ik e1 e2 z n x ((zl z i 4 / 10) + 1) (by first | assumption | rfl | omega | decide) (by first | assumption | rfl | omega | decide)) rfl (by decide) rfl rfl rfl ⟨by decide, by decide⟩ (Nat.le_of_ble_eq_true rfl) ⟨by decide, by decide⟩ dX7_middleLife_79 ?_
                refine x_imul C (rfl) dX7_middleLife_82 ?_
                refine x_iload_n C 2 dX7_middleLife_83 rfl rfl ?_
                refine x_icmp_lt C 91 dX7_middleLife_84 (by decide) (fun c_84 => ?_) (fun c_84 => ?_)
                ·
                  refine x_iconst (v := 0) C dX7_middleLife_91 (by decide) ?_
                  exact join_92 _ (by first | rfl | (symm; first | (apply b2i_t; exact ⟨⟨c_55, c_64⟩, Int32.not_lt.mp c_84⟩) | (apply b2i_f; exact fun q => absurd c_84 (Int32.not_lt.mpr q.2)) | (apply b2i_f; exact fun q => c_64 q.1.2) | (apply b2i_f; exact fun q => c_55 q.1.1)))
                ·
                  refine x_iconst (v := 1) C dX7_middleLife_87 (by decide) ?_
                  refine x_goto (tgt := 92) C dX7_middleLife_88 (by decide) ?_
                  exact join_92 _ (by first | rfl | (symm; first | (apply b2i_t; exact ⟨⟨c_55, c_64⟩, Int32.not_lt.mp c_84⟩) | (apply b2i_f; exact fun q => absurd c_84 (Int32.not_lt.mpr q.2)) | (apply b2i_f; exact fun q => c_64 q.1.2) | (apply b2i_f; exact fun q => c_55 q.1.1)))
      refine x_lv [(0, .ref m), (1, .int x), (2, .int (l0R z n x 0)), (3, .int (-1005)), (4, .int (nI 0))] [3, 4, 2, 1, 0] rfl ?_
      exact loop_36 (n + 1) 0 (-1005) (by omega) (by omega) (rfl)
    ·
      refine x_sipush (v := (-1005)) C dX7_middleLife_25 (by decide) ?_
      exact x_iret C E dX7_middleLife_28 (by first | (unfold mdL; rw [if_pos c_9]) | (unfold mdL; rw [if_neg c_9, if_pos (Int32.not_le.mp c_22)])) (rfl)

set_option maxRecDepth 100000 in
set_option maxHeartbeats 4000000 in
theorem kX7_lamp (l : Launch) (G : GG) (m : Nat) (w1 : Nat) (w2 : Nat) (w3 : Nat) (w4 : Nat) (w5 : Nat) (w6 : Nat) (ns : Nat) (ln : Nat) (tm : Nat) (sp : Nat) (ik : Int32) (e1 : Int32) (e2 : Int32) (z : Nat → Int32) (n : Nat) (x : Int32) (w : Int32) (hn : n ≤ 60) (hz3 : z 3 = nI n) : RO l G yX7_lamp wsX7_lamp ({ frames := 2, cells := 0, slots := 0, locals := 43 } : Room) [.ref m, .int x, .int w] [(m, .inr (7, [.ref w1, .ref w2, .ref w3, .int (nI ns), .ref w4, .int ik, .ref w5, .int (nI ln), .int e1, .int e2, .ref w6, .int (nI tm), .int (nI sp)])), (w1, .inl (G.2.1, 508, .inl z))] (.int (lpR z x w)) := by
  refine RO.of (cc := cX7_lamp) (maxL := 3) (ret := (some .int)) (by decide) rfl (Nat.le_of_ble_eq_true rfl) ?_
  intro cx hxl hxG C E
  subst hxl
  subst hxG
  show X cx (0, 0) [(m, .inr (7, [.ref w1, .ref w2, .ref w3, .int (nI ns), .ref w4, .int ik, .ref w5, .int (nI ln), .int e1, .int e2, .ref w6, .int (nI tm), .int (nI sp)])), (w1, .inl ((xG cx).2.1, 508, .inl z))] [(0, .ref m), (1, .int x), (2, .int w)] 0 []
  refine x_aload_n C 0 dX7_lamp_0 rfl rfl ?_
  refine x_iload_n C 1 dX7_lamp_1 rfl rfl ?_
  refine x_callVRO C ([.int x]) ([]) [0, 1] (k0 := 0) (na := 1) gX7_lamp_X7_isLamp rfl (by decide +kernel) rfl rfl rfl (kX7_isLamp (xl cx) (xG cx) m w1 w2 w3 w4 w5 w6 ns ln tm sp ik e1 e2 z x) rfl (by decide) rfl rfl rfl ⟨by decide, by decide⟩ (Nat.le_of_ble_eq_true rfl) ⟨by decide, by decide⟩ dX7_lamp_2 ?_
  refine x_ifb_ne (P := 0 ≤ x ∧ x ≤ z 3 - 1) C 12 dX7_lamp_5 (by decide) (fun c_5 => ?_) (fun c_5 => ?_)
  ·
    obtain ⟨kx, h_kx, rfl⟩ := in_lamps hn (by rw [← hz3]; exact c_5)
    refine x_iload_n C 2 dX7_lamp_12 rfl rfl ?_
    refine x_tsw C dX7_lamp_13 [68, 68, 68, 68, 68, 68, 75, 81, 95, 103] 111 (by decide) (by decide) (by decide) ⟨fun c_13 => ?_, fun c_13 => ?_, fun c_13 => ?_, fun c_13 => ?_, fun c_13 => ?_, fun c_13 => ?_, fun c_13 => ?_, fun c_13 => ?_, fun c_13 => ?_, fun c_13 => ?_, trivial⟩ (fun c_13 => ?_)
    ·
      have e_13 : w = 0 := Int32.toInt_inj.mp (by rw [c_13]; rfl)
      subst e_13
      refine x_aload_n C 0 dX7_lamp_68 rfl rfl ?_
      refine x_iload_n C 1 dX7_lamp_69 rfl rfl ?_
      refine x_iload_n C 2 dX7_lamp_70 rfl rfl ?_
      refine x_callVRO C ([.int (nI kx), .int 0]) ([]) [0, 1] (k0 := 0) (na := 2) gX7_lamp_X7_of rfl (by decide +kernel) rfl rfl rfl (kX7_of (xl cx) (xG cx) m w1 w2 w3 w4 w5 w6 ns ln tm sp ik e1 e2 z kx 0 (by first | assumption | rfl | omega | decide) (by first | assumption | rfl | omega | decide)) rfl (by decide) rfl rfl rfl ⟨by decide, by decide⟩ (Nat.le_of_ble_eq_true rfl) ⟨by decide, by decide⟩ dX7_lamp_71 ?_
      exact x_iret C E dX7_lamp_74 (by simp [lpR, c_5, ix kx (by omega)]) (rfl)
    ·
      have e_13 : w = 1 := Int32.toInt_inj.mp (by rw [c_13]; rfl)
      subst e_13
      refine x_aload_n C 0 dX7_lamp_68 rfl rfl ?_
      refine x_iload_n C 1 dX7_lamp_69 rfl rfl ?_
      refine x_iload_n C 2 dX7_lamp_70 rfl rfl ?_
      refine x_callVRO C ([.int (nI kx), .int 1]) ([]) [0, 1] (k0 := 0) (na := 2) gX7_lamp_X7_of rfl (by decide +kernel) rfl rfl rfl (kX7_of (xl cx) (xG cx) m w1 w2 w3 w4 w5 w6 ns ln tm sp ik e1 e2 z kx 1 (by first | assumption | rfl | omega | decide) (by first | assumption | rfl | omega | decide)) rfl (by decide) rfl rfl rfl ⟨by decide, by decide⟩ (Nat.le_of_ble_eq_true rfl) ⟨by decide, by decide⟩ dX7_lamp_71 ?_
      exact x_iret C E dX7_lamp_74 (by simp [lpR, c_5, ix kx (by omega)]) (rfl)
    ·
      have e_13 : w = 2 := Int32.toInt_inj.mp (by rw [c_13]; rfl)
      subst e_13
      refine x_aload_n C 0 dX7_lamp_68 rfl rfl ?_
      refine x_iload_n C 1 dX7_lamp_69 rfl rfl ?_
      refine x_iload_n C 2 dX7_lamp_70 rfl rfl ?_
      refine x_callVRO C ([.int (nI kx), .int 2]) ([]) [0, 1] (k0 := 0) (na := 2) gX7_lamp_X7_of rfl (by decide +kernel) rfl rfl rfl (kX7_of (xl cx) (xG cx) m w1 w2 w3 w4 w5 w6 ns ln tm sp ik e1 e2 z kx 2 (by first | assumption | rfl | omega | decide) (by first | assumption | rfl | omega | decide)) rfl (by decide) rfl rfl rfl ⟨by decide, by decide⟩ (Nat.le_of_ble_eq_true rfl) ⟨by decide, by decide⟩ dX7_lamp_71 ?_
      exact x_iret C E dX7_lamp_74 (by simp [lpR, c_5, ix kx (by omega)]) (rfl)
    ·
      have e_13 : w = 3 := Int32.toInt_inj.mp (by rw [c_13]; rfl)
      subst e_13
      refine x_aload_n C 0 dX7_lamp_68 rfl rfl ?_
      refine x_iload_n C 1 dX7_lamp_69 rfl rfl ?_
      refine x_iload_n C 2 dX7_lamp_70 rfl rfl ?_
      refine x_callVRO C ([.int (nI kx), .int 3]) ([]) [0, 1] (k0 := 0) (na := 2) gX7_lamp_X7_of rfl (by decide +kernel) rfl rfl rfl (kX7_of (xl cx) (xG cx) m w1 w2 w3 w4 w5 w6 ns ln tm sp ik e1 e2 z kx 3 (by first | assumption | rfl | omega | decide) (by first | assumption | rfl | omega | decide)) rfl (by decide) rfl rfl rfl ⟨by decide, by decide⟩ (Nat.le_of_ble_eq_true rfl) ⟨by decide, by decide⟩ dX7_lamp_71 ?_
      exact x_iret C E dX7_lamp_74 (by simp [lpR, c_5, ix kx (by omega)]) (rfl)
    ·
      have e_13 : w = 4 := Int32.toInt_inj.mp (by rw [c_13]; rfl)
      subst e_13
      refine x_aload_n C 0 dX7_lamp_68 rfl rfl ?_
      refine x_iload_n C 1 dX7_lamp_69 rfl rfl ?_
      refine x_iload_n C 2 dX7_lamp_70 rfl rfl ?_
      refine x_callVRO C ([.int (nI kx), .int 4]) ([]) [0, 1] (k0 := 0) (na := 2) gX7_lamp_X7_of rfl (by decide +kernel) rfl rfl rfl (kX7_of (xl cx) (xG cx) m w1 w2 w3 w4 w5 w6 ns ln tm sp ik e1 e2 z kx 4 (by first | assumption | rfl | omega | decide) (by first | assumption | rfl | omega | decide)) rfl (by decide) rfl rfl rfl ⟨by decide, by decide⟩ (Nat.le_of_ble_eq_true rfl) ⟨by decide, by decide⟩ dX7_lamp_71 ?_
      exact x_iret C E dX7_lamp_74 (by simp [lpR, c_5, ix kx (by omega)]) (rfl)
    ·
      have e_13 : w = 5 := Int32.toInt_inj.mp (by rw [c_13]; rfl)
      subst e_13
      refine x_aload_n C 0 dX7_lamp_68 rfl rfl ?_
      refine x_iload_n C 1 dX7_lamp_69 rfl rfl ?_
      refine x_iload_n C 2 dX7_lamp_70 rfl rfl ?_
      refine x_callVRO C ([.int (nI kx), .int 5]) ([]) [0, 1] (k0 := 0) (na := 2) gX7_lamp_X7_of rfl (by decide +kernel) rfl rfl rfl (kX7_of (xl cx) (xG cx) m w1 w2 w3 w4 w5 w6 ns ln tm sp ik e1 e2 z kx 5 (by first | assumption | rfl | omega | decide) (by first | assumption | rfl | omega | decide)) rfl (by decide) rfl rfl rfl ⟨by decide, by decide⟩ (Nat.le_of_ble_eq_true rfl) ⟨by decide, by decide⟩ dX7_lamp_71 ?_
      exact x_iret C E dX7_lamp_74 (by simp [lpR, c_5, ix kx (by omega)]) (rfl)
    ·
      have e_13 : w = 6 := Int32.toInt_inj.mp (by rw [c_13]; rfl)
      refine x_aload_n C 0 dX7_lamp_75 rfl rfl ?_
      refine x_iload_n C 1 dX7_lamp_76 rfl rfl ?_
      refine x_callVRO C ([.int (nI kx)]) ([]) [0, 1] (k0 := 0) (na := 1) gX7_lamp_X7_counts rfl (by decide +kernel) rfl rfl rfl (kX7_counts (xl cx) (xG cx) m w1 w2 w3 w4 w5 w6 ns ln tm sp ik e1 e2 z kx (by first | assumption | rfl | omega | decide)) rfl (by decide) rfl rfl rfl ⟨by decide, by decide⟩ (Nat.le_of_ble_eq_true rfl) ⟨by decide, by decide⟩ dX7_lamp_77 ?_
      exact x_iret C E dX7_lamp_80 (by simp [lpR, c_5, ix kx (by omega), e_13]) (rfl)
    ·
      have e_13 : w = 7 := Int32.toInt_inj.mp (by rw [c_13]; rfl)
      refine x_aload_n C 0 dX7_lamp_81 rfl rfl ?_
      refine x_iload_n C 1 dX7_lamp_82 rfl rfl ?_
      refine x_callVRO C ([.int (nI kx)]) ([]) [0, 1] (k0 := 0) (na := 1) gX7_lamp_X7_isDead rfl (by decide +kernel) rfl rfl rfl (kX7_isDead (xl cx) (xG cx) m w1 w2 w3 w4 w5 w6 ns ln tm sp ik e1 e2 z kx (by first | assumption | rfl | omega | decide)) rfl (by decide) rfl rfl rfl ⟨by decide, by decide⟩ (Nat.le_of_ble_eq_true rfl) ⟨by decide, by decide⟩ dX7_lamp_83 ?_
      refine x_ifb_eq (P := zl z kx 6 ≠ -1005) C 93 dX7_lamp_86 (by decide) (fun c_86 => ?_) (fun c_86 => ?_)
      ·
        refine x_iconst (v := 0) C dX7_lamp_93 (by decide) ?_
        exact x_iret C E dX7_lamp_94 (by simp [lpR, c_5, ix kx (by omega), e_13, c_86]) (rfl)
      ·
        refine x_iconst (v := 1) C dX7_lamp_89 (by decide) ?_
        refine x_goto (tgt := 94) C dX7_lamp_90 (by decide) ?_
        exact x_iret C E dX7_lamp_94 (by simp [lpR, c_5, ix kx (by omega), e_13, c_86]) (rfl)
    ·
      have e_13 : w = 8 := Int32.toInt_inj.mp (by rw [c_13]; rfl)
      refine x_aload_n C 0 dX7_lamp_95 rfl rfl ?_
      refine x_iload_n C 1 dX7_lamp_96 rfl rfl ?_
      refine x_bipush (v := 6) C dX7_lamp_97 (by decide) ?_
      refine x_callVRO C ([.int (nI kx), .int 6]) ([]) [0, 1] (k0 := 0) (na := 2) gX7_lamp_X7_of rfl (by decide +kernel) rfl rfl rfl (kX7_of (xl cx) (xG cx) m w1 w2 w3 w4 w5 w6 ns ln tm sp ik e1 e2 z kx 6 (by first | assumption | rfl | omega | decide) (by first | assumption | rfl | omega | decide)) rfl (by decide) rfl rfl rfl ⟨by decide, by decide⟩ (Nat.le_of_ble_eq_true rfl) ⟨by decide, by decide⟩ dX7_lamp_99 ?_
      exact x_iret C E dX7_lamp_102 (by simp [lpR, c_5, ix kx (by omega), e_13]) (rfl)
    ·
      have e_13 : w = 9 := Int32.toInt_inj.mp (by rw [c_13]; rfl)
      refine x_aload_n C 0 dX7_lamp_103 rfl rfl ?_
      refine x_iload_n C 1 dX7_lamp_104 rfl rfl ?_
      refine x_bipush (v := 7) C dX7_lamp_105 (by decide) ?_
      refine x_callVRO C ([.int (nI kx), .int 7]) ([]) [0, 1] (k0 := 0) (na := 2) gX7_lamp_X7_of rfl (by decide +kernel) rfl rfl rfl (kX7_of (xl cx) (xG cx) m w1 w2 w3 w4 w5 w6 ns ln tm sp ik e1 e2 z kx 7 (by first | assumption | rfl | omega | decide) (by first | assumption | rfl | omega | decide)) rfl (by decide) rfl rfl rfl ⟨by decide, by decide⟩ (Nat.le_of_ble_eq_true rfl) ⟨by decide, by decide⟩ dX7_lamp_107 ?_
      exact x_iret C E dX7_lamp_110 (by simp [lpR, c_5, ix kx (by omega), e_13]) (rfl)
    ·
      have d_13_0 : ¬ w = 0 := fun q => c_13 0 (by decide) (by rw [q]; rfl)
      have d_13_1 : ¬ w = 1 := fun q => c_13 1 (by decide) (by rw [q]; rfl)
      have d_13_2 : ¬ w = 2 := fun q => c_13 2 (by decide) (by rw [q]; rfl)
      have d_13_3 : ¬ w = 3 := fun q => c_13 3 (by decide) (by rw [q]; rfl)
      have d_13_4 : ¬ w = 4 := fun q => c_13 4 (by decide) (by rw [q]; rfl)
      have d_13_5 : ¬ w = 5 := fun q => c_13 5 (by decide) (by rw [q]; rfl)
      have d_13_6 : ¬ w = 6 := fun q => c_13 6 (by decide) (by rw [q]; rfl)
      have d_13_7 : ¬ w = 7 := fun q => c_13 7 (by decide) (by rw [q]; rfl)
      have d_13_8 : ¬ w = 8 := fun q => c_13 8 (by decide) (by rw [q]; rfl)
      have d_13_9 : ¬ w = 9 := fun q => c_13 9 (by decide) (by rw [q]; rfl)
      refine x_sipush (v := (-1002)) C dX7_lamp_111 (by decide) ?_
      exact x_iret C E dX7_lamp_114 (by simp [lpR, c_5, ix kx (by omega), d_13_0, d_13_1, d_13_2, d_13_3, d_13_4, d_13_5, d_13_6, d_13_7, d_13_8, d_13_9]) (rfl)
  ·
    refine x_sipush (v := (-1001)) C dX7_lamp_8 (by decide) ?_
    exact x_iret C E dX7_lamp_11 (by simp [lpR, c_5]) (rfl)

set_option maxRecDepth 100000 in
set_option maxHeartbeats 4000000 in
theorem kX7_rack (l : Launch) (G : GG) (m : Nat) (w1 : Nat) (w2 : Nat) (w3 : Nat) (w4 : Nat) (w5 : Nat) (w6 : Nat) (ns : Nat) (ln : Nat) (tm : Nat) (sp : Nat) (ik : Int32) (e1 : Int32) (e2 : Int32) (z : Nat → Int32) (n : Nat) (r : Int32) (w : Int32) (hn : n ≤ 60) (hz3 : z 3 = nI n) (hd : ¬ z 1 = 0) : RO l G yX7_rack wsX7_rack ({ frames := 3, cells := 0, slots := 0, locals := 67 } : Room) [.ref m, .int r, .int w] [(m, .inr (7, [.ref w1, .ref w2, .ref w3, .int (nI ns), .ref w4, .int ik, .ref w5, .int (nI ln), .int e1, .int e2, .ref w6, .int (nI tm), .int (nI sp)])), (w1, .inl (G.2.1, 508, .inl z))] (.int (rkR z n r w)) := by
  refine RO.of (cc := cX7_rack) (maxL := 4) (ret := (some .int)) (by decide) rfl (Nat.le_of_ble_eq_true rfl) ?_
  intro cx hxl hxG C E
  subst hxl
  subst hxG
  show X cx (0, 0) [(m, .inr (7, [.ref w1, .ref w2, .ref w3, .int (nI ns), .ref w4, .int ik, .ref w5, .int (nI ln), .int e1, .int e2, .ref w6, .int (nI tm), .int (nI sp)])), (w1, .inl ((xG cx).2.1, 508, .inl z))] [(0, .ref m), (1, .int r), (2, .int w)] 0 []
  refine x_iload_n C 1 dX7_rack_0 rfl rfl ?_
  refine x_callSRO C ([.int r]) ([]) [] (na := 1) gX7_rack_X7_isRack rfl (by decide +kernel) rfl (kX7_isRack (xl cx) (xG cx) r) rfl (by decide) rfl rfl rfl ⟨by decide, by decide⟩ (Nat.le_of_ble_eq_true rfl) ⟨by decide, by decide⟩ dX7_rack_1 ?_
  refine x_ifb_ne (P := 0 ≤ r ∧ r ≤ 2) C 11 dX7_rack_4 (by decide) (fun c_4 => ?_) (fun c_4 => ?_)
  ·
    obtain ⟨kr, h_kr, rfl⟩ := in_nat (M := 2) (m := 2) c_4 (by decide)
    refine x_aload_n C 0 dX7_rack_11 rfl rfl ?_
    refine x_iload_n C 1 dX7_rack_12 rfl rfl ?_
    refine x_iconst (v := 0) C dX7_rack_13 (by decide) ?_
    refine x_callVRO C ([.int (nI kr), .int 0]) ([]) [0, 1] (k0 := 0) (na := 2) gX7_rack_X7_ofRack rfl (by decide +kernel) rfl rfl rfl (kX7_ofRack (xl cx) (xG cx) m w1 w2 w3 w4 w5 w6 ns ln tm sp ik e1 e2 z kr 0 (by first | assumption | rfl | omega | decide) (by first | assumption | rfl | omega | decide)) rfl (by decide) rfl rfl rfl ⟨by decide, by decide⟩ (Nat.le_of_ble_eq_true rfl) ⟨by decide, by decide⟩ dX7_rack_14 ?_
    refine x_istore_n C [(3, .int (zr z kr 0)), (0, .ref m), (1, .int (nI kr)), (2, .int w)] dX7_rack_17 rfl (by decide) rfl ?_
    refine x_iload_n C 3 dX7_rack_18 rfl rfl ?_
    refine x_tsw C dX7_rack_19 [64, 66, 73, 80, 95, 110, 117, 124] 153 (by decide) (by decide) (by decide) ⟨fun c_19 => ?_, fun c_19 => ?_, fun c_19 => ?_, fun c_19 => ?_, fun c_19 => ?_, fun c_19 => ?_, fun c_19 => ?_, fun c_19 => ?_, trivial⟩ (fun c_19 => ?_)
    ·
      have e_19 : w = 0 := Int32.toInt_inj.mp (by rw [c_19]; rfl)
      refine x_iload_n C 0 dX7_rack_64 rfl rfl ?_
      exact x_iret C E dX7_rack_65 (by simp [rkR, c_4, ix kr (by omega), e_19]) (rfl)
    ·
      have e_19 : w = 1 := Int32.toInt_inj.mp (by rw [c_19]; rfl)
      refine x_aload_n C 1 dX7_rack_66 rfl rfl ?_
      refine x_iload_n C 2 dX7_rack_67 rfl rfl ?_
      refine x_iconst (v := 1) C dX7_rack_68 (by decide) ?_
      refine x_callVRO C ([.int (nI kr), .int 1]) ([]) [0, 1] (k0 := 0) (na := 2) gX7_rack_X7_lampsIn rfl (by decide +kernel) rfl rfl rfl (kX7_lampsIn (xl cx) (xG cx) m w1 w2 w3 w4 w5 w6 ns ln tm sp ik e1 e2 z n (nI kr) 1 (by first | assumption | rfl | omega | decide) (by first | assumption | rfl | omega | decide)) rfl (by decide) rfl rfl rfl ⟨by decide, by decide⟩ (Nat.le_of_ble_eq_true rfl) ⟨by decide, by decide⟩ dX7_rack_69 ?_
      exact x_iret C E dX7_rack_72 (by simp [rkR, c_4, ix kr (by omega), e_19]) (rfl)
    ·
      have e_19 : w = 2 := Int32.toInt_inj.mp (by rw [c_19]; rfl)
      refine x_aload_n C 1 dX7_rack_73 rfl rfl ?_
      refine x_iload_n C 2 dX7_rack_74 rfl rfl ?_
      refine x_iconst (v := 0) C dX7_rack_75 (by decide) ?_
      refine x_callVRO C ([.int (nI kr), .int 0]) ([]) [0, 1] (k0 := 0) (na := 2) gX7_rack_X7_lampsIn rfl (by decide +kernel) rfl rfl rfl (kX7_lampsIn (xl cx) (xG cx) m w1 w2 w3 w4 w5 w6 ns ln tm sp ik e1 e2 z n (nI kr) 0 (by first | assumption | rfl | omega | decide) (by first | assumption | rfl | omega | decide)) rfl (by decide) rfl rfl rfl ⟨by decide, by decide⟩ (Nat.le_of_ble_eq_true rfl) ⟨by decide, by decide⟩ dX7_rack_76 ?_
      exact x_iret C E dX7_rack_79 (by simp [rkR, c_4, ix kr (by omega), e_19]) (rfl)
    ·
      have e_19 : w = 3 := Int32.toInt_inj.mp (by rw [c_19]; rfl)
      refine x_iload_n C 0 dX7_rack_80 rfl rfl ?_
      refine x_if_ne C 88 dX7_rack_81 (by decide) (fun c_81 => ?_) (fun c_81 => ?_)
      ·
        refine x_aload_n C 1 dX7_rack_88 rfl rfl ?_
        refine x_iload_n C 0 dX7_rack_89 rfl rfl ?_
        refine x_iconst (v := 0) C dX7_rack_90 (by decide) ?_
        refine x_callVRO C ([.int (zr z kr 0), .int 0]) ([]) [0, 1] (k0 := 0) (na := 2) gX7_rack_X7_wearAt rfl (by decide +kernel) rfl rfl rfl (kX7_wearAt (xl cx) (xG cx) m w1 w2 w3 w4 w5 w6 ns ln tm sp ik e1 e2 z (zr z kr 0) 0 (by first | assumption | rfl | omega | decide)) rfl (by decide) rfl rfl rfl ⟨by decide, by decide⟩ (Nat.le_of_ble_eq_true rfl) ⟨by decide, by decide⟩ dX7_rack_91 ?_
        exact x_iret C E dX7_rack_94 (by simp [rkR, c_4, ix kr (by omega), e_19, c_81]) (rfl)
      ·
        refine x_iconst (v := 0) C dX7_rack_84 (by decide) ?_
        refine x_goto (tgt := 94) C dX7_rack_85 (by decide) ?_
        exact x_iret C E dX7_rack_94 (by simp [rkR, c_4, ix kr (by omega), e_19, c_81]) (rfl)
    ·
      have e_19 : w = 4 := Int32.toInt_inj.mp (by rw [c_19]; rfl)
      refine x_iload_n C 0 dX7_rack_95 rfl rfl ?_
      refine x_if_ne C 103 dX7_rack_96 (by decide) (fun c_96 => ?_) (fun c_96 => ?_)
      ·
        refine x_aload_n C 1 dX7_rack_103 rfl rfl ?_
        refine x_iload_n C 0 dX7_rack_104 rfl rfl ?_
        refine x_iconst (v := 1) C dX7_rack_105 (by decide) ?_
        refine x_callVRO C ([.int (zr z kr 0), .int 1]) ([]) [0, 1] (k0 := 0) (na := 2) gX7_rack_X7_wearAt rfl (by decide +kernel) rfl rfl rfl (kX7_wearAt (xl cx) (xG cx) m w1 w2 w3 w4 w5 w6 ns ln tm sp ik e1 e2 z (zr z kr 0) 1 (by first | assumption | rfl | omega | decide)) rfl (by decide) rfl rfl rfl ⟨by decide, by decide⟩ (Nat.le_of_ble_eq_true rfl) ⟨by decide, by decide⟩ dX7_rack_106 ?_
        exact x_iret C E dX7_rack_109 (by simp [rkR, c_4, ix kr (by omega), e_19, c_96]) (rfl)
      ·
        refine x_iconst (v := 0) C dX7_rack_99 (by decide) ?_
        refine x_goto (tgt := 109) C dX7_rack_100 (by decide) ?_
        exact x_iret C E dX7_rack_109 (by simp [rkR, c_4, ix kr (by omega), e_19, c_96]) (rfl)
    ·
      have e_19 : w = 5 := Int32.toInt_inj.mp (by rw [c_19]; rfl)
      refine x_aload_n C 1 dX7_rack_110 rfl rfl ?_
      refine x_iload_n C 2 dX7_rack_111 rfl rfl ?_
      refine x_iconst (v := 1) C dX7_rack_112 (by decide) ?_
      refine x_callVRO C ([.int (nI kr), .int 1]) ([]) [0, 1] (k0 := 0) (na := 2) gX7_rack_X7_ofRack rfl (by decide +kernel) rfl rfl rfl (kX7_ofRack (xl cx) (xG cx) m w1 w2 w3 w4 w5 w6 ns ln tm sp ik e1 e2 z kr 1 (by first | assumption | rfl | omega | decide) (by first | assumption | rfl | omega | decide)) rfl (by decide) rfl rfl rfl ⟨by decide, by decide⟩ (Nat.le_of_ble_eq_true rfl) ⟨by decide, by decide⟩ dX7_rack_113 ?_
      exact x_iret C E dX7_rack_116 (by simp [rkR, c_4, ix kr (by omega), e_19]) (rfl)
    ·
      have e_19 : w = 6 := Int32.toInt_inj.mp (by rw [c_19]; rfl)
      refine x_aload_n C 1 dX7_rack_117 rfl rfl ?_
      refine x_iload_n C 2 dX7_rack_118 rfl rfl ?_
      refine x_iconst (v := 2) C dX7_rack_119 (by decide) ?_
      refine x_callVRO C ([.int (nI kr), .int 2]) ([]) [0, 1] (k0 := 0) (na := 2) gX7_rack_X7_ofRack rfl (by decide +kernel) rfl rfl rfl (kX7_ofRack (xl cx) (xG cx) m w1 w2 w3 w4 w5 w6 ns ln tm sp ik e1 e2 z kr 2 (by first | assumption | rfl | omega | decide) (by first | assumption | rfl | omega | decide)) rfl (by decide) rfl rfl rfl ⟨by decide, by decide⟩ (Nat.le_of_ble_eq_true rfl) ⟨by decide, by decide⟩ dX7_rack_120 ?_
      exact x_iret C E dX7_rack_123 (by simp [rkR, c_4, ix kr (by omega), e_19]) (rfl)
    ·
      have e_19 : w = 7 := Int32.toInt_inj.mp (by rw [c_19]; rfl)
      refine x_aload_n C 1 dX7_rack_124 rfl rfl ?_
      refine x_iload_n C 2 dX7_rack_125 rfl rfl ?_
      refine x_iconst (v := 1) C dX7_rack_126 (by decide) ?_
      refine x_callVRO C ([.int (nI kr), .int 1]) ([]) [0, 1] (k0 := 0) (na := 2) gX7_rack_X7_ofRack rfl (by decide +kernel) rfl rfl rfl (kX7_ofRack (xl cx) (xG cx) m w1 w2 w3 w4 w5 w6 ns ln tm sp ik e1 e2 z kr 1 (by first | assumption | rfl | omega | decide) (by first | assumption | rfl | omega | decide)) rfl (by decide) rfl rfl rfl ⟨by decide, by decide⟩ (Nat.le_of_ble_eq_true rfl) ⟨by decide, by decide⟩ dX7_rack_127 ?_
      refine x_if_ne C 139 dX7_rack_130 (by decide) (fun c_130 => ?_) (fun c_130 => ?_)
      ·
        refine x_aload_n C 1 dX7_rack_139 rfl rfl ?_
        refine x_iload_n C 2 dX7_rack_140 rfl rfl ?_
        refine x_iconst (v := 1) C dX7_rack_141 (by decide) ?_
        refine x_callVRO C ([.int (nI kr), .int 1]) ([]) [0, 1] (k0 := 0) (na := 2) gX7_rack_X7_ofRack rfl (by decide +kernel) rfl rfl rfl (kX7_ofRack (xl cx) (xG cx) m w1 w2 w3 w4 w5 w6 ns ln tm sp ik e1 e2 z kr 1 (by first | assumption | rfl | omega | decide) (by first | assumption | rfl | omega | decide)) rfl (by decide) rfl rfl rfl ⟨by decide, by decide⟩ (Nat.le_of_ble_eq_true rfl) ⟨by decide, by decide⟩ dX7_rack_142 ?_
        refine x_aload_n C 1 dX7_rack_145 rfl rfl ?_
        refine x_iload_n C 2 dX7_rack_146 rfl rfl ?_
        refine x_iconst (v := 3) C dX7_rack_147 (by decide) ?_
        refine x_callVRO C ([.int (nI kr), .int 3]) ([.int (zr z kr 1)]) [0, 1] (k0 := 0) (na := 2) gX7_rack_X7_ofRack rfl (by decide +kernel) rfl rfl rfl (kX7_ofRack (xl cx) (xG cx) m w1 w2 w3 w4 w5 w6 ns ln tm sp ik e1 e2 z kr 3 (by first | assumption | rfl | omega | decide) (by first | assumption | rfl | omega | decide)) rfl (by decide) rfl rfl rfl ⟨by decide, by decide⟩ (Nat.le_of_ble_eq_true rfl) ⟨by decide, by decide⟩ dX7_rack_148 ?_
        refine x_isub C (rfl) dX7_rack_151 ?_
        exact x_iret C E dX7_rack_152 (by simp [rkR, c_4, ix kr (by omega), e_19, c_130]) (rfl)
      ·
        refine x_sipush (v := (-1005)) C dX7_rack_133 (by decide) ?_
        refine x_goto (tgt := 152) C dX7_rack_136 (by decide) ?_
        exact x_iret C E dX7_rack_152 (by simp [rkR, c_4, ix kr (by omega), e_19, c_130]) (rfl)
    ·
      have d_19_0 : ¬ w = 0 := fun q => c_19 0 (by decide) (by rw [q]; rfl)
      have d_19_1 : ¬ w = 1 := fun q => c_19 1 (by decide) (by rw [q]; rfl)
      have d_19_2 : ¬ w = 2 := fun q => c_19 2 (by decide) (by rw [q]; rfl)
      have d_19_3 : ¬ w = 3 := fun q => c_19 3 (by decide) (by rw [q]; rfl)
      have d_19_4 : ¬ w = 4 := fun q => c_19 4 (by decide) (by rw [q]; rfl)
      have d_19_5 : ¬ w = 5 := fun q => c_19 5 (by decide) (by rw [q]; rfl)
      have d_19_6 : ¬ w = 6 := fun q => c_19 6 (by decide) (by rw [q]; rfl)
      have d_19_7 : ¬ w = 7 := fun q => c_19 7 (by decide) (by rw [q]; rfl)
      refine x_sipush (v := (-1002)) C dX7_rack_153 (by decide) ?_
      exact x_iret C E dX7_rack_156 (by simp [rkR, c_4, ix kr (by omega), d_19_0, d_19_1, d_19_2, d_19_3, d_19_4, d_19_5, d_19_6, d_19_7]) (rfl)
  ·
    refine x_sipush (v := (-1001)) C dX7_rack_7 (by decide) ?_
    exact x_iret C E dX7_rack_10 (by simp [rkR, c_4]) (rfl)

set_option maxRecDepth 100000 in
set_option maxHeartbeats 4000000 in
theorem kX7_at (l : Launch) (G : GG) (m : Nat) (w1 : Nat) (w2 : Nat) (w3 : Nat) (w4 : Nat) (w5 : Nat) (w6 : Nat) (ns : Nat) (ln : Nat) (tm : Nat) (sp : Nat) (ik : Int32) (e1 : Int32) (e2 : Int32) (z : Nat → Int32) (n : Nat) (r : Int32) (p : Int32) (hn : n ≤ 60) (hz3 : z 3 = nI n) : RO l G yX7_at wsX7_at ({ frames := 2, cells := 0, slots := 0, locals := 46 } : Room) [.ref m, .int r, .int p] [(m, .inr (7, [.ref w1, .ref w2, .ref w3, .int (nI ns), .ref w4, .int ik, .ref w5, .int (nI ln), .int e1, .int e2, .ref w6, .int (nI tm), .int (nI sp)])), (w1, .inl (G.2.1, 508, .inl z))] (.int (atR z n r p)) := by
  refine RO.of (cc := cX7_at) (maxL := 3) (ret := (some .int)) (by decide) rfl (Nat.le_of_ble_eq_true rfl) ?_
  intro cx hxl hxG C E
  subst hxl
  subst hxG
  show X cx (0, 0) [(m, .inr (7, [.ref w1, .ref w2, .ref w3, .int (nI ns), .ref w4, .int ik, .ref w5, .int (nI ln), .int e1, .int e2, .ref w6, .int (nI tm), .int (nI sp)])), (w1, .inl ((xG cx).2.1, 508, .inl z))] [(0, .ref m), (1, .int r), (2, .int p)] 0 []
  refine x_iload_n C 1 dX7_at_0 rfl rfl ?_
  refine x_callSRO C ([.int r]) ([]) [] (na := 1) gX7_at_X7_isRack rfl (by decide +kernel) rfl (kX7_isRack (xl cx) (xG cx) r) rfl (by decide) rfl rfl rfl ⟨by decide, by decide⟩ (Nat.le_of_ble_eq_true rfl) ⟨by decide, by decide⟩ dX7_at_1 ?_
  refine x_ifb_eq (P := 0 ≤ r ∧ r ≤ 2) C 23 dX7_at_4 (by decide) (fun c_4 => ?_) (fun c_4 => ?_)
  ·
    refine x_sipush (v := (-1001)) C dX7_at_23 (by decide) ?_
    exact x_iret C E dX7_at_26 (by simp [atR, c_4]) (rfl)
  ·
    refine x_iload_n C 2 dX7_at_7 rfl rfl ?_
    refine x_callSRO C ([.int p]) ([]) [] (na := 1) gX7_at_X7_isPlace rfl (by decide +kernel) rfl (kX7_isPlace (xl cx) (xG cx) p) rfl (by decide) rfl rfl rfl ⟨by decide, by decide⟩ (Nat.le_of_ble_eq_true rfl) ⟨by decide, by decide⟩ dX7_at_8 ?_
    refine x_ifb_eq (P := 0 ≤ p ∧ p ≤ 7) C 23 dX7_at_11 (by decide) (fun c_11 => ?_) (fun c_11 => ?_)
    ·
      refine x_sipush (v := (-1001)) C dX7_at_23 (by decide) ?_
      exact x_iret C E dX7_at_26 (by simp [atR, c_4, c_11]) (rfl)
    ·
      refine x_aload_n C 0 dX7_at_14 rfl rfl ?_
      refine x_iload_n C 1 dX7_at_15 rfl rfl ?_
      refine x_iload_n C 2 dX7_at_16 rfl rfl ?_
      refine x_callVRO C ([.int r, .int p]) ([]) [0, 1] (k0 := 0) (na := 2) gX7_at_X7_lampAt rfl (by decide +kernel) rfl rfl rfl (kX7_lampAt (xl cx) (xG cx) m w1 w2 w3 w4 w5 w6 ns ln tm sp ik e1 e2 z n r p (by first | assumption | rfl | omega | decide) (by first | assumption | rfl | omega | decide)) rfl (by decide) rfl rfl rfl ⟨by decide, by decide⟩ (Nat.le_of_ble_eq_true rfl) ⟨by decide, by decide⟩ dX7_at_17 ?_
      refine x_goto (tgt := 26) C dX7_at_20 (by decide) ?_
      exact x_iret C E dX7_at_26 (by simp [atR, c_4, c_11]) (rfl)

theorem i_kX7_batch_X7 : ∀ w ∈ u_ws RX7 TX7 13, w ∈ wsX7_batch := by decide +kernel
theorem m_kX7_batch_1 : (Cond.fieldLink RX7 7 "LampRacksModel" "z" "[I" : Cond) ∈ wsX7_batch := by decide +kernel
set_option maxRecDepth 100000 in
set_option maxHeartbeats 4000000 in
theorem kX7_batch (l : Launch) (G : GG) (m : Nat) (w1 : Nat) (w2 : Nat) (w3 : Nat) (w4 : Nat) (w5 : Nat) (w6 : Nat) (ns : Nat) (ln : Nat) (tm : Nat) (sp : Nat) (ik : Int32) (e1 : Int32) (e2 : Int32) (z : Nat → Int32) (n : Nat) (b : Int32) (w : Int32) (hn : n ≤ 60) (hz3 : z 3 = nI n) : RO l G yX7_batch wsX7_batch ({ frames := 4, cells := 0, slots := 0, locals := 94 } : Room) [.ref m, .int b, .int w] [(m, .inr (7, [.ref w1, .ref w2, .ref w3, .int (nI ns), .ref w4, .int ik, .ref w5, .int (nI ln), .int e1, .int e2, .ref w6, .int (nI tm), .int (nI sp)])), (w1, .inl (G.2.1, 508, .inl z))] (.int (btR z n b w)) := by
  refine RO.of (cc := cX7_batch) (maxL := 3) (ret := (some .int)) (by decide) rfl (Nat.le_of_ble_eq_true rfl) ?_
  intro cx hxl hxG C E
  subst hxl
  subst hxG
  show X cx (0, 0) [(m, .inr (7, [.ref w1, .ref w2, .ref w3, .int (nI ns), .ref w4, .int ik, .ref w5, .int (nI ln), .int e1, .int e2, .ref w6, .int (nI tm), .int (nI sp)])), (w1, .inl ((xG cx).2.1, 508, .inl z))] [(0, .ref m), (1, .int b), (2, .int w)] 0 []
  refine x_iload_n C 1 dX7_batch_0 rfl rfl ?_
  refine x_callSRO C ([.int b]) ([]) [] (na := 1) gX7_batch_X7_isBatch rfl (by decide +kernel) rfl (kX7_isBatch (xl cx) (xG cx) b) rfl (by decide) rfl rfl rfl ⟨by decide, by decide⟩ (Nat.le_of_ble_eq_true rfl) ⟨by decide, by decide⟩ dX7_batch_1 ?_
  refine x_ifb_ne (P := 0 ≤ b ∧ b ≤ 5) C 11 dX7_batch_4 (by decide) (fun c_4 => ?_) (fun c_4 => ?_)
  ·
    obtain ⟨kb, h_kb, rfl⟩ := in_nat (M := 5) (m := 5) c_4 (by decide)
    refine x_iload_n C 2 dX7_batch_11 rfl rfl ?_
    refine x_tsw C dX7_batch_12 [56, 56, 69, 77, 85, 91, 97] 120 (by decide) (by decide) (by decide) ⟨fun c_12 => ?_, fun c_12 => ?_, fun c_12 => ?_, fun c_12 => ?_, fun c_12 => ?_, fun c_12 => ?_, fun c_12 => ?_, trivial⟩ (fun c_12 => ?_)
    ·
      have e_12 : w = 0 := Int32.toInt_inj.mp (by rw [c_12]; rfl)
      subst e_12
      refine x_aload_n C 0 dX7_batch_56 rfl rfl ?_
      refine x_getf C 0 rfl rfl i_kX7_batch_X7 0 (by decide) m_kX7_batch_1 rfl rfl dX7_batch_57 ?_
      refine x_iconst (v := 4) C dX7_batch_60 (by decide) ?_
      refine x_iconst (v := 2) C dX7_batch_61 (by decide) ?_
      refine x_iload_n C 1 dX7_batch_62 rfl rfl ?_
      refine x_imul C (pk_mul 2 kb) dX7_batch_63 ?_
      refine x_iadd C (nI_add 4 (2 * kb)) dX7_batch_64 ?_
      refine x_iload_n C 2 dX7_batch_65 rfl rfl ?_
      refine x_iadd C (nI_add (4 + (2 * kb)) 0) dX7_batch_66 ?_
      refine x_iald C 1 rfl rfl (vp_in_nI (by omega) (by decide)) (congrArg z (nI_clamp (by omega))) dX7_batch_67 ?_
      exact x_iret C E dX7_batch_68 (by simp [btR, c_4, ix kb (by omega)]) (rfl)
    ·
      have e_12 : w = 1 := Int32.toInt_inj.mp (by rw [c_12]; rfl)
      subst e_12
      refine x_aload_n C 0 dX7_batch_56 rfl rfl ?_
      refine x_getf C 0 rfl rfl i_kX7_batch_X7 0 (by decide) m_kX7_batch_1 rfl rfl dX7_batch_57 ?_
      refine x_iconst (v := 4) C dX7_batch_60 (by decide) ?_
      refine x_iconst (v := 2) C dX7_batch_61 (by decide) ?_
      refine x_iload_n C 1 dX7_batch_62 rfl rfl ?_
      refine x_imul C (pk_mul 2 kb) dX7_batch_63 ?_
      refine x_iadd C (nI_add 4 (2 * kb)) dX7_batch_64 ?_
      refine x_iload_n C 2 dX7_batch_65 rfl rfl ?_
      refine x_iadd C (nI_add (4 + (2 * kb)) 1) dX7_batch_66 ?_
      refine x_iald C 1 rfl rfl (vp_in_nI (by omega) (by decide)) (congrArg z (nI_clamp (by omega))) dX7_batch_67 ?_
      exact x_iret C E dX7_batch_68 (by simp [btR, c_4, ix kb (by omega)]) (rfl)
    ·
      have e_12 : w = 2 := Int32.toInt_inj.mp (by rw [c_12]; rfl)
      refine x_aload_n C 0 dX7_batch_69 rfl rfl ?_
      refine x_iload_n C 1 dX7_batch_70 rfl rfl ?_
      refine x_iconst (v := 0) C dX7_batch_71 (by decide) ?_
      refine x_iconst (v := 0) C dX7_batch_72 (by decide) ?_
      refine x_callVRO C ([.int (nI kb), .int 0, .int 0]) ([]) [0, 1] (k0 := 0) (na := 3) gX7_batch_X7_lampsOf rfl (by decide +kernel) rfl rfl rfl (kX7_lampsOf_0 (xl cx) (xG cx) m w1 w2 w3 w4 w5 w6 ns ln tm sp ik e1 e2 z n (nI kb) 0 (by first | assumption | rfl | omega | decide) (by first | assumption | rfl | omega | decide)) rfl (by decide) rfl rfl rfl ⟨by decide, by decide⟩ (Nat.le_of_ble_eq_true rfl) ⟨by decide, by decide⟩ dX7_batch_73 ?_
      exact x_iret C E dX7_batch_76 (by simp [btR, c_4, ix kb (by omega), e_12]) (rfl)
    ·
      have e_12 : w = 3 := Int32.toInt_inj.mp (by rw [c_12]; rfl)
      refine x_aload_n C 0 dX7_batch_77 rfl rfl ?_
      refine x_iload_n C 1 dX7_batch_78 rfl rfl ?_
      refine x_iconst (v := 1) C dX7_batch_79 (by decide) ?_
      refine x_iconst (v := 0) C dX7_batch_80 (by decide) ?_
      refine x_callVRO C ([.int (nI kb), .int 1, .int 0]) ([]) [0, 1] (k0 := 0) (na := 3) gX7_batch_X7_lampsOf rfl (by decide +kernel) rfl rfl rfl (kX7_lampsOf_1 (xl cx) (xG cx) m w1 w2 w3 w4 w5 w6 ns ln tm sp ik e1 e2 z n (nI kb) 0 (by first | assumption | rfl | omega | decide) (by first | assumption | rfl | omega | decide)) rfl (by decide) rfl rfl rfl ⟨by decide, by decide⟩ (Nat.le_of_ble_eq_true rfl) ⟨by decide, by decide⟩ dX7_batch_81 ?_
      exact x_iret C E dX7_batch_84 (by simp [btR, c_4, ix kb (by omega), e_12]) (rfl)
    ·
      have e_12 : w = 4 := Int32.toInt_inj.mp (by rw [c_12]; rfl)
      refine x_aload_n C 0 dX7_batch_85 rfl rfl ?_
      refine x_iload_n C 1 dX7_batch_86 rfl rfl ?_
      refine x_callVRO C ([.int (nI kb)]) ([]) [0, 1] (k0 := 0) (na := 1) gX7_batch_X7_early rfl (by decide +kernel) rfl rfl rfl (kX7_early (xl cx) (xG cx) m w1 w2 w3 w4 w5 w6 ns ln tm sp ik e1 e2 z n kb (by first | assumption | rfl | omega | decide) (by first | assumption | rfl | omega | decide) (by first | assumption | rfl | omega | decide)) rfl (by decide) rfl rfl rfl ⟨by decide, by decide⟩ (Nat.le_of_ble_eq_true rfl) ⟨by decide, by decide⟩ dX7_batch_87 ?_
      exact x_iret C E dX7_batch_90 (by simp [btR, c_4, ix kb (by omega), e_12]) (rfl)
    ·
      have e_12 : w = 5 := Int32.toInt_inj.mp (by rw [c_12]; rfl)
      refine x_aload_n C 0 dX7_batch_91 rfl rfl ?_
      refine x_iload_n C 1 dX7_batch_92 rfl rfl ?_
      refine x_callVRO C ([.int (nI kb)]) ([]) [0, 1] (k0 := 0) (na := 1) gX7_batch_X7_middleLife rfl (by decide +kernel) rfl rfl rfl (kX7_middleLife (xl cx) (xG cx) m w1 w2 w3 w4 w5 w6 ns ln tm sp ik e1 e2 z n (nI kb) (by first | assumption | rfl | omega | decide) (by first | assumption | rfl | omega | decide)) rfl (by decide) rfl rfl rfl ⟨by decide, by decide⟩ (Nat.le_of_ble_eq_true rfl) ⟨by decide, by decide⟩ dX7_batch_93 ?_
      exact x_iret C E dX7_batch_96 (by simp [btR, c_4, ix kb (by omega), e_12]) (rfl)
    ·
      have e_12 : w = 6 := Int32.toInt_inj.mp (by rw [c_12]; rfl)
      refine x_iconst (v := 2) C dX7_batch_97 (by decide) ?_
      refine x_aload_n C 0 dX7_batch_98 rfl rfl ?_
      refine x_iload_n C 1 dX7_batch_99 rfl rfl ?_
      refine x_callVRO C ([.int (nI kb)]) ([.int 2]) [0, 1] (k0 := 0) (na := 1) gX7_batch_X7_early rfl (by decide +kernel) rfl rfl rfl (kX7_early (xl cx) (xG cx) m w1 w2 w3 w4 w5 w6 ns ln tm sp ik e1 e2 z n kb (by first | assumption | rfl | omega | decide) (by first | assumption | rfl | omega | decide) (by first | assumption | rfl | omega | decide)) rfl (by decide) rfl rfl rfl ⟨by decide, by decide⟩ (Nat.le_of_ble_eq_true rfl) ⟨by decide, by decide⟩ dX7_batch_100 ?_
      refine x_imul C (rfl) dX7_batch_103 ?_
      refine x_aload_n C 0 dX7_batch_104 rfl rfl ?_
      refine x_iload_n C 1 dX7_batch_105 rfl rfl ?_
      refine x_iconst (v := 1) C dX7_batch_106 (by decide) ?_
      refine x_iconst (v := 0) C dX7_batch_107 (by decide) ?_
      refine x_callVRO C ([.int (nI kb), .int 1, .int 0]) ([.int (2 * (erR z n kb))]) [0, 1] (k0 := 0) (na := 3) gX7_batch_X7_lampsOf rfl (by decide +kernel) rfl rfl rfl (kX7_lampsOf_1 (xl cx) (xG cx) m w1 w2 w3 w4 w5 w6 ns ln tm sp ik e1 e2 z n (nI kb) 0 (by first | assumption | rfl | omega | decide) (by first | assumption | rfl | omega | decide)) rfl (by decide) rfl rfl rfl ⟨by decide, by decide⟩ (Nat.le_of_ble_eq_true rfl) ⟨by decide, by decide⟩ dX7_batch_108 ?_
      refine x_icmp_le C 118 dX7_batch_111 (by decide) (fun c_111 => ?_) (fun c_111 => ?_)
      ·
        refine x_iconst (v := 0) C dX7_batch_118 (by decide) ?_
        exact x_iret C E dX7_batch_119 (by simp [btR, c_4, ix kb (by omega), e_12, c_111]) (rfl)
      ·
        refine x_iconst (v := 1) C dX7_batch_114 (by decide) ?_
        refine x_goto (tgt := 119) C dX7_batch_115 (by decide) ?_
        exact x_iret C E dX7_batch_119 (by simp [btR, c_4, ix kb (by omega), e_12, c_111]) (rfl)
    ·
      have d_12_0 : ¬ w = 0 := fun q => c_12 0 (by decide) (by rw [q]; rfl)
      have d_12_1 : ¬ w = 1 := fun q => c_12 1 (by decide) (by rw [q]; rfl)
      have d_12_2 : ¬ w = 2 := fun q => c_12 2 (by decide) (by rw [q]; rfl)
      have d_12_3 : ¬ w = 3 := fun q => c_12 3 (by decide) (by rw [q]; rfl)
      have d_12_4 : ¬ w = 4 := fun q => c_12 4 (by decide) (by rw [q]; rfl)
      have d_12_5 : ¬ w = 5 := fun q => c_12 5 (by decide) (by rw [q]; rfl)
      have d_12_6 : ¬ w = 6 := fun q => c_12 6 (by decide) (by rw [q]; rfl)
      refine x_sipush (v := (-1002)) C dX7_batch_120 (by decide) ?_
      exact x_iret C E dX7_batch_123 (by simp [btR, c_4, ix kb (by omega), d_12_0, d_12_1, d_12_2, d_12_3, d_12_4, d_12_5, d_12_6]) (rfl)
  ·
    refine x_sipush (v := (-1001)) C dX7_batch_7 (by decide) ?_
    exact x_iret C E dX7_batch_10 (by simp [btR, c_4]) (rfl)

theorem m_kX7_lasted_0 : (Cond.constant RX7 104 99999 : Cond) ∈ wsX7_lasted := by decide +kernel
set_option maxRecDepth 100000 in
set_option maxHeartbeats 4000000 in
theorem kX7_lasted (l : Launch) (G : GG) (m : Nat) (w1 : Nat) (w2 : Nat) (w3 : Nat) (w4 : Nat) (w5 : Nat) (w6 : Nat) (ns : Nat) (ln : Nat) (tm : Nat) (sp : Nat) (ik : Int32) (e1 : Int32) (e2 : Int32) (z : Nat → Int32) (n : Nat) (b : Int32) (h : Int32) (hn : n ≤ 60) (hz3 : z 3 = nI n) : RO l G yX7_lasted wsX7_lasted ({ frames := 3, cells := 0, slots := 0, locals := 69 } : Room) [.ref m, .int b, .int h] [(m, .inr (7, [.ref w1, .ref w2, .ref w3, .int (nI ns), .ref w4, .int ik, .ref w5, .int (nI ln), .int e1, .int e2, .ref w6, .int (nI tm), .int (nI sp)])), (w1, .inl (G.2.1, 508, .inl z))] (.int (ldR z n b h)) := by
  refine RO.of (cc := cX7_lasted) (maxL := 3) (ret := (some .int)) (by decide) rfl (Nat.le_of_ble_eq_true rfl) ?_
  intro cx hxl hxG C E
  subst hxl
  subst hxG
  show X cx (0, 0) [(m, .inr (7, [.ref w1, .ref w2, .ref w3, .int (nI ns), .ref w4, .int ik, .ref w5, .int (nI ln), .int e1, .int e2, .ref w6, .int (nI tm), .int (nI sp)])), (w1, .inl ((xG cx).2.1, 508, .inl z))] [(0, .ref m), (1, .int b), (2, .int h)] 0 []
  refine x_iload_n C 1 dX7_lasted_0 rfl rfl ?_
  refine x_callSRO C ([.int b]) ([]) [] (na := 1) gX7_lasted_X7_isBatch rfl (by decide +kernel) rfl (kX7_isBatch (xl cx) (xG cx) b) rfl (by decide) rfl rfl rfl ⟨by decide, by decide⟩ (Nat.le_of_ble_eq_true rfl) ⟨by decide, by decide⟩ dX7_lasted_1 ?_
  refine x_ifb_ne (P := 0 ≤ b ∧ b ≤ 5) C 11 dX7_lasted_4 (by decide) (fun c_4 => ?_) (fun c_4 => ?_)
  ·
    refine x_iload_n C 2 dX7_lasted_11 rfl rfl ?_
    refine x_iconst (v := 0) C dX7_lasted_12 (by decide) ?_
    refine x_ldc (v := 99999) C m_kX7_lasted_0 dX7_lasted_13 ?_
    refine x_callSRO C ([.int h, .int 0, .int 99999]) ([]) [] (na := 3) gX7_lasted_X7_in rfl (by decide +kernel) rfl (kX7_in (xl cx) (xG cx) h 0 99999) rfl (by decide) rfl rfl rfl ⟨by decide, by decide⟩ (Nat.le_of_ble_eq_true rfl) ⟨by decide, by decide⟩ dX7_lasted_15 ?_
    refine x_ifb_eq (P := 0 ≤ h ∧ h ≤ 99999) C 31 dX7_lasted_18 (by decide) (fun c_18 => ?_) (fun c_18 => ?_)
    ·
      refine x_sipush (v := (-1002)) C dX7_lasted_31 (by decide) ?_
      exact x_iret C E dX7_lasted_34 (by simp [ldR, c_4, c_18]) (rfl)
    ·
      refine x_aload_n C 0 dX7_lasted_21 rfl rfl ?_
      refine x_iload_n C 1 dX7_lasted_22 rfl rfl ?_
      refine x_iconst (v := 3) C dX7_lasted_23 (by decide) ?_
      refine x_iload_n C 2 dX7_lasted_24 rfl rfl ?_
      refine x_callVRO C ([.int b, .int 3, .int h]) ([]) [0, 1] (k0 := 0) (na := 3) gX7_lasted_X7_lampsOf rfl (by decide +kernel) rfl rfl rfl (kX7_lampsOf_3 (xl cx) (xG cx) m w1 w2 w3 w4 w5 w6 ns ln tm sp ik e1 e2 z n b h (by first | assumption | rfl | omega | decide) (by first | assumption | rfl | omega | decide)) rfl (by decide) rfl rfl rfl ⟨by decide, by decide⟩ (Nat.le_of_ble_eq_true rfl) ⟨by decide, by decide⟩ dX7_lasted_25 ?_
      refine x_goto (tgt := 34) C dX7_lasted_28 (by decide) ?_
      exact x_iret C E dX7_lasted_34 (by simp [ldR, c_4, c_18]) (rfl)
  ·
    refine x_sipush (v := (-1001)) C dX7_lasted_7 (by decide) ?_
    exact x_iret C E dX7_lasted_10 (by simp [ldR, c_4]) (rfl)

set_option maxRecDepth 100000 in
set_option maxHeartbeats 4000000 in
theorem kX7_lasts (l : Launch) (G : GG) (m : Nat) (w1 : Nat) (w2 : Nat) (w3 : Nat) (w4 : Nat) (w5 : Nat) (w6 : Nat) (ns : Nat) (ln : Nat) (tm : Nat) (sp : Nat) (ik : Int32) (e1 : Int32) (e2 : Int32) (z : Nat → Int32) (n : Nat) (x : Int32) (v : Int32) (hn : n ≤ 60) (hz3 : z 3 = nI n) (hd : ¬ z 1 = 0) (hwa : ∀ v h, 1 ≤ v ∧ v ≤ 300 → ¬ wA z v h = 0) : RO l G yX7_lasts wsX7_lasts ({ frames := 2, cells := 0, slots := 0, locals := 43 } : Room) [.ref m, .int x, .int v] [(m, .inr (7, [.ref w1, .ref w2, .ref w3, .int (nI ns), .ref w4, .int ik, .ref w5, .int (nI ln), .int e1, .int e2, .ref w6, .int (nI tm), .int (nI sp)])), (w1, .inl (G.2.1, 508, .inl z))] (.int (lsR z x v)) := by
  refine RO.of (cc := cX7_lasts) (maxL := 4) (ret := (some .int)) (by decide) rfl (Nat.le_of_ble_eq_true rfl) ?_
  intro cx hxl hxG C E
  subst hxl
  subst hxG
  show X cx (0, 0) [(m, .inr (7, [.ref w1, .ref w2, .ref w3, .int (nI ns), .ref w4, .int ik, .ref w5, .int (nI ln), .int e1, .int e2, .ref w6, .int (nI tm), .int (nI sp)])), (w1, .inl ((xG cx).2.1, 508, .inl z))] [(0, .ref m), (1, .int x), (2, .int v)] 0 []
  refine x_aload_n C 0 dX7_lasts_0 rfl rfl ?_
  refine x_iload_n C 1 dX7_lasts_1 rfl rfl ?_
  refine x_callVRO C ([.int x]) ([]) [0, 1] (k0 := 0) (na := 1) gX7_lasts_X7_isLamp rfl (by decide +kernel) rfl rfl rfl (kX7_isLamp (xl cx) (xG cx) m w1 w2 w3 w4 w5 w6 ns ln tm sp ik e1 e2 z x) rfl (by decide) rfl rfl rfl ⟨by decide, by decide⟩ (Nat.le_of_ble_eq_true rfl) ⟨by decide, by decide⟩ dX7_lasts_2 ?_
  refine x_ifb_ne (P := 0 ≤ x ∧ x ≤ z 3 - 1) C 12 dX7_lasts_5 (by decide) (fun c_5 => ?_) (fun c_5 => ?_)
  ·
    obtain ⟨kx, h_kx, rfl⟩ := in_lamps hn (by rw [← hz3]; exact c_5)
    refine x_iload_n C 2 dX7_lasts_12 rfl rfl ?_
    refine x_iconst (v := 1) C dX7_lasts_13 (by decide) ?_
    refine x_sipush (v := 300) C dX7_lasts_14 (by decide) ?_
    refine x_callSRO C ([.int v, .int 1, .int 300]) ([]) [] (na := 3) gX7_lasts_X7_in rfl (by decide +kernel) rfl (kX7_in (xl cx) (xG cx) v 1 300) rfl (by decide) rfl rfl rfl ⟨by decide, by decide⟩ (Nat.le_of_ble_eq_true rfl) ⟨by decide, by decide⟩ dX7_lasts_17 ?_
    refine x_ifb_ne (P := 1 ≤ v ∧ v ≤ 300) C 27 dX7_lasts_20 (by decide) (fun c_20 => ?_) (fun c_20 => ?_)
    ·
      refine x_aload_n C 0 dX7_lasts_27 rfl rfl ?_
      refine x_iload_n C 1 dX7_lasts_28 rfl rfl ?_
      refine x_callVRO C ([.int (nI kx)]) ([]) [0, 1] (k0 := 0) (na := 1) gX7_lasts_X7_isDead rfl (by decide +kernel) rfl rfl rfl (kX7_isDead (xl cx) (xG cx) m w1 w2 w3 w4 w5 w6 ns ln tm sp ik e1 e2 z kx (by first | assumption | rfl | omega | decide)) rfl (by decide) rfl rfl rfl ⟨by decide, by decide⟩ (Nat.le_of_ble_eq_true rfl) ⟨by decide, by decide⟩ dX7_lasts_29 ?_
      refine x_ifb_eq (P := zl z kx 6 ≠ -1005) C 39 dX7_lasts_32 (by decide) (fun c_32 => ?_) (fun c_32 => ?_)
      ·
        refine x_aload_n C 0 dX7_lasts_39 rfl rfl ?_
        refine x_iload_n C 2 dX7_lasts_40 rfl rfl ?_
        refine x_aload_n C 0 dX7_lasts_41 rfl rfl ?_
        refine x_iload_n C 1 dX7_lasts_42 rfl rfl ?_
        refine x_callVRO C ([.int (nI kx)]) ([.int v, .ref m]) [0, 1] (k0 := 0) (na := 1) gX7_lasts_X7_isHot rfl (by decide +kernel) rfl rfl rfl (kX7_isHot (xl cx) (xG cx) m w1 w2 w3 w4 w5 w6 ns ln tm sp ik e1 e2 z kx (by first | assumption | rfl | omega | decide)) rfl (by decide) rfl rfl rfl ⟨by decide, by decide⟩ (Nat.le_of_ble_eq_true rfl) ⟨by decide, by decide⟩ dX7_lasts_43 ?_
        refine x_callVRO C ([.int v, .int (b2i (3 ≤ zl z kx 2 ∧ zl z kx 2 ≤ 4))]) ([]) [0, 1] (k0 := 0) (na := 2) gX7_lasts_X7_wearAt rfl (by decide +kernel) rfl rfl rfl (kX7_wearAt (xl cx) (xG cx) m w1 w2 w3 w4 w5 w6 ns ln tm sp ik e1 e2 z v (b2i (3 ≤ zl z kx 2 ∧ zl z kx 2 ≤ 4)) (by first | assumption | rfl | omega | decide)) rfl (by decide) rfl rfl rfl ⟨by decide, by decide⟩ (Nat.le_of_ble_eq_true rfl) ⟨by decide, by decide⟩ dX7_lasts_46 ?_
        refine x_istore_n C [(3, .int (wA z v (b2i (3 ≤ zl z kx 2 ∧ zl z kx 2 ≤ 4)))), (0, .ref m), (1, .int (nI kx)), (2, .int v)] dX7_lasts_49 rfl (by decide) rfl ?_
        refine x_bipush (v := 10) C dX7_lasts_50 (by decide) ?_
        refine x_aload_n C 1 dX7_lasts_52 rfl rfl ?_
        refine x_iload_n C 2 dX7_lasts_53 rfl rfl ?_
        refine x_iconst (v := 3) C dX7_lasts_54 (by decide) ?_
        refine x_callVRO C ([.int (nI kx), .int 3]) ([.int 10]) [0, 1] (k0 := 0) (na := 2) gX7_lasts_X7_of rfl (by decide +kernel) rfl rfl rfl (kX7_of (xl cx) (xG cx) m w1 w2 w3 w4 w5 w6 ns ln tm sp ik e1 e2 z kx 3 (by first | assumption | rfl | omega | decide) (by first | assumption | rfl | omega | decide)) rfl (by decide) rfl rfl rfl ⟨by decide, by decide⟩ (Nat.le_of_ble_eq_true rfl) ⟨by decide, by decide⟩ dX7_lasts_55 ?_
        refine x_imul C (rfl) dX7_lasts_58 ?_
        refine x_aload_n C 1 dX7_lasts_59 rfl rfl ?_
        refine x_iload_n C 2 dX7_lasts_60 rfl rfl ?_
        refine x_iconst (v := 4) C dX7_lasts_61 (by decide) ?_
        refine x_callVRO C ([.int (nI kx), .int 4]) ([.int (10 * (zl z kx 3))]) [0, 1] (k0 := 0) (na := 2) gX7_lasts_X7_of rfl (by decide +kernel) rfl rfl rfl (kX7_of (xl cx) (xG cx) m w1 w2 w3 w4 w5 w6 ns ln tm sp ik e1 e2 z kx 4 (by first | assumption | rfl | omega | decide) (by first | assumption | rfl | omega | decide)) rfl (by decide) rfl rfl rfl ⟨by decide, by decide⟩ (Nat.le_of_ble_eq_true rfl) ⟨by decide, by decide⟩ dX7_lasts_62 ?_
        refine x_isub C (rfl) dX7_lasts_65 ?_
        refine x_iload_n C 0 dX7_lasts_66 rfl rfl ?_
        refine x_iadd C (rfl) dX7_lasts_67 ?_
        refine x_iconst (v := 1) C dX7_lasts_68 (by decide) ?_
        refine x_isub C (rfl) dX7_lasts_69 ?_
        refine x_iload_n C 0 dX7_lasts_70 rfl rfl ?_
        refine x_idiv C (rfl) dX7_lasts_71 (hwa v _ c_20) ?_
        exact x_iret C E dX7_lasts_72 (by simp [lsR, c_5, ix kx (by omega), c_20, c_32]) (rfl)
      ·
        refine x_sipush (v := (-1004)) C dX7_lasts_35 (by decide) ?_
        exact x_iret C E dX7_lasts_38 (by simp [lsR, c_5, ix kx (by omega), c_20, c_32]) (rfl)
    ·
      refine x_sipush (v := (-1002)) C dX7_lasts_23 (by decide) ?_
      exact x_iret C E dX7_lasts_26 (by simp [lsR, c_5, ix kx (by omega), c_20]) (rfl)
  ·
    refine x_sipush (v := (-1001)) C dX7_lasts_8 (by decide) ?_
    exact x_iret C E dX7_lasts_11 (by simp [lsR, c_5]) (rfl)

set_option maxRecDepth 100000 in
set_option maxHeartbeats 4000000 in
theorem kX7_reason (l : Launch) (G : GG) (m : Nat) (w1 : Nat) (w2 : Nat) (w3 : Nat) (w4 : Nat) (w5 : Nat) (w6 : Nat) (ns : Nat) (ln : Nat) (tm : Nat) (sp : Nat) (ik : Int32) (e1 : Int32) (e2 : Int32) (z : Nat → Int32) (n : Nat) (x : Int32) (hn : n ≤ 60) (hz3 : z 3 = nI n) (hrk : ∀ k, k < 60 → zl z k 1 = -1005 ∨ ∃ r, r < 3 ∧ zl z k 1 = nI r) : RO l G yX7_reason wsX7_reason ({ frames := 3, cells := 0, slots := 0, locals := 64 } : Room) [.ref m, .int x] [(m, .inr (7, [.ref w1, .ref w2, .ref w3, .int (nI ns), .ref w4, .int ik, .ref w5, .int (nI ln), .int e1, .int e2, .ref w6, .int (nI tm), .int (nI sp)])), (w1, .inl (G.2.1, 508, .inl z))] (.int (reR z x)) := by
  refine RO.of (cc := cX7_reason) (maxL := 2) (ret := (some .int)) (by decide) rfl (Nat.le_of_ble_eq_true rfl) ?_
  intro cx hxl hxG C E
  subst hxl
  subst hxG
  show X cx (0, 0) [(m, .inr (7, [.ref w1, .ref w2, .ref w3, .int (nI ns), .ref w4, .int ik, .ref w5, .int (nI ln), .int e1, .int e2, .ref w6, .int (nI tm), .int (nI sp)])), (w1, .inl ((xG cx).2.1, 508, .inl z))] [(0, .ref m), (1, .int x)] 0 []
  refine x_aload_n C 0 dX7_reason_0 rfl rfl ?_
  refine x_iload_n C 1 dX7_reason_1 rfl rfl ?_
  refine x_callVRO C ([.int x]) ([]) [0, 1] (k0 := 0) (na := 1) gX7_reason_X7_isLamp rfl (by decide +kernel) rfl rfl rfl (kX7_isLamp (xl cx) (xG cx) m w1 w2 w3 w4 w5 w6 ns ln tm sp ik e1 e2 z x) rfl (by decide) rfl rfl rfl ⟨by decide, by decide⟩ (Nat.le_of_ble_eq_true rfl) ⟨by decide, by decide⟩ dX7_reason_2 ?_
  refine x_ifb_ne (P := 0 ≤ x ∧ x ≤ z 3 - 1) C 12 dX7_reason_5 (by decide) (fun c_5 => ?_) (fun c_5 => ?_)
  ·
    obtain ⟨kx, h_kx, rfl⟩ := in_lamps hn (by rw [← hz3]; exact c_5)
    refine x_aload_n C 0 dX7_reason_12 rfl rfl ?_
    refine x_iload_n C 1 dX7_reason_13 rfl rfl ?_
    refine x_callVRO C ([.int (nI kx)]) ([]) [0, 1] (k0 := 0) (na := 1) gX7_reason_X7_isDead rfl (by decide +kernel) rfl rfl rfl (kX7_isDead (xl cx) (xG cx) m w1 w2 w3 w4 w5 w6 ns ln tm sp ik e1 e2 z kx (by first | assumption | rfl | omega | decide)) rfl (by decide) rfl rfl rfl ⟨by decide, by decide⟩ (Nat.le_of_ble_eq_true rfl) ⟨by decide, by decide⟩ dX7_reason_14 ?_
    refine x_ifb_eq (P := zl z kx 6 ≠ -1005) C 24 dX7_reason_17 (by decide) (fun c_17 => ?_) (fun c_17 => ?_)
    ·
      refine x_aload_n C 0 dX7_reason_24 rfl rfl ?_
      refine x_iload_n C 1 dX7_reason_25 rfl rfl ?_
      refine x_iconst (v := 1) C dX7_reason_26 (by decide) ?_
      refine x_callVRO C ([.int (nI kx), .int 1]) ([]) [0, 1] (k0 := 0) (na := 2) gX7_reason_X7_of rfl (by decide +kernel) rfl rfl rfl (kX7_of (xl cx) (xG cx) m w1 w2 w3 w4 w5 w6 ns ln tm sp ik e1 e2 z kx 1 (by first | assumption | rfl | omega | decide) (by first | assumption | rfl | omega | decide)) rfl (by decide) rfl rfl rfl ⟨by decide, by decide⟩ (Nat.le_of_ble_eq_true rfl) ⟨by decide, by decide⟩ dX7_reason_27 ?_
      refine x_sipush (v := (-1005)) C dX7_reason_30 (by decide) ?_
      refine x_icmp_ne C 40 dX7_reason_33 (by decide) (fun c_33 => ?_) (fun c_33 => ?_)
      ·
        refine x_aload_n C 0 dX7_reason_40 rfl rfl ?_
        refine x_iload_n C 1 dX7_reason_41 rfl rfl ?_
        refine x_callVRO C ([.int (nI kx)]) ([]) [0, 1] (k0 := 0) (na := 1) gX7_reason_X7_burns rfl (by decide +kernel) rfl rfl rfl (kX7_burns (xl cx) (xG cx) m w1 w2 w3 w4 w5 w6 ns ln tm sp ik e1 e2 z kx (by first | assumption | rfl | omega | decide) (by first | assumption | rfl | omega | decide)) rfl (by decide) rfl rfl rfl ⟨by decide, by decide⟩ (Nat.le_of_ble_eq_true rfl) ⟨by decide, by decide⟩ dX7_reason_42 ?_
        refine x_ifb_eq (P := brnB z kx = true) C 52 dX7_reason_45 (by decide) (fun c_45 => ?_) (fun c_45 => ?_)
        ·
          refine x_iconst (v := 3) C dX7_reason_52 (by decide) ?_
          exact x_iret C E dX7_reason_53 (by simp [reR, c_5, ix kx (by omega), c_17, c_33, c_45]) (rfl)
        ·
          refine x_iconst (v := 0) C dX7_reason_48 (by decide) ?_
          refine x_goto (tgt := 53) C dX7_reason_49 (by decide) ?_
          exact x_iret C E dX7_reason_53 (by simp [reR, c_5, ix kx (by omega), c_17, c_33, c_45]) (rfl)
      ·
        refine x_iconst (v := 2) C dX7_reason_36 (by decide) ?_
        refine x_goto (tgt := 53) C dX7_reason_37 (by decide) ?_
        exact x_iret C E dX7_reason_53 (by simp [reR, c_5, ix kx (by omega), c_17, c_33]) (rfl)
    ·
      refine x_iconst (v := 1) C dX7_reason_20 (by decide) ?_
      refine x_goto (tgt := 53) C dX7_reason_21 (by decide) ?_
      exact x_iret C E dX7_reason_53 (by simp [reR, c_5, ix kx (by omega), c_17]) (rfl)
  ·
    refine x_sipush (v := (-1001)) C dX7_reason_8 (by decide) ?_
    exact x_iret C E dX7_reason_11 (by simp [reR, c_5]) (rfl)

theorem i_kX7_count_X7 : ∀ w ∈ u_ws RX7 TX7 13, w ∈ wsX7_count := by decide +kernel
theorem m_kX7_count_1 : (Cond.fieldLink RX7 7 "LampRacksModel" "z" "[I" : Cond) ∈ wsX7_count := by decide +kernel
theorem m_kX7_count_2 : (Cond.fieldLink RX7 36 "LampRacksModel" "states" "I" : Cond) ∈ wsX7_count := by decide +kernel
theorem m_kX7_count_3 : (Cond.fieldLink RX7 116 "LampRacksModel" "length" "I" : Cond) ∈ wsX7_count := by decide +kernel
set_option maxRecDepth 100000 in
set_option maxHeartbeats 4000000 in
theorem kX7_count (l : Launch) (G : GG) (m : Nat) (w1 : Nat) (w2 : Nat) (w3 : Nat) (w4 : Nat) (w5 : Nat) (w6 : Nat) (ns : Nat) (ln : Nat) (tm : Nat) (sp : Nat) (ik : Int32) (e1 : Int32) (e2 : Int32) (z : Nat → Int32) (n : Nat) (w : Int32) (hn : n ≤ 60) (hz3 : z 3 = nI n) (hrk : ∀ k, k < 60 → zl z k 1 = -1005 ∨ ∃ r, r < 3 ∧ zl z k 1 = nI r) : RO l G yX7_count wsX7_count ({ frames := 4, cells := 0, slots := 0, locals := 86 } : Room) [.ref m, .int w] [(m, .inr (7, [.ref w1, .ref w2, .ref w3, .int (nI ns), .ref w4, .int ik, .ref w5, .int (nI ln), .int e1, .int e2, .ref w6, .int (nI tm), .int (nI sp)])), (w1, .inl (G.2.1, 508, .inl z))] (.int (coR z n ns ln w)) := by
  refine RO.of (cc := cX7_count) (maxL := 2) (ret := (some .int)) (by decide) rfl (Nat.le_of_ble_eq_true rfl) ?_
  intro cx hxl hxG C E
  subst hxl
  subst hxG
  show X cx (0, 0) [(m, .inr (7, [.ref w1, .ref w2, .ref w3, .int (nI ns), .ref w4, .int ik, .ref w5, .int (nI ln), .int e1, .int e2, .ref w6, .int (nI tm), .int (nI sp)])), (w1, .inl ((xG cx).2.1, 508, .inl z))] [(0, .ref m), (1, .int w)] 0 []
  refine x_iload_n C 1 dX7_count_0 rfl rfl ?_
  refine x_tsw C dX7_count_1 [64, 71, 78, 99, 104, 109, 116, 122, 128, 128, 138, 143] 148 (by decide) (by decide) (by decide) ⟨fun c_1 => ?_, fun c_1 => ?_, fun c_1 => ?_, fun c_1 => ?_, fun c_1 => ?_, fun c_1 => ?_, fun c_1 => ?_, fun c_1 => ?_, fun c_1 => ?_, fun c_1 => ?_, fun c_1 => ?_, fun c_1 => ?_, trivial⟩ (fun c_1 => ?_)
  ·
    have e_1 : w = 0 := Int32.toInt_inj.mp (by rw [c_1]; rfl)
    refine x_aload_n C 0 dX7_count_64 rfl rfl ?_
    refine x_getf C 0 rfl rfl i_kX7_count_X7 0 (by decide) m_kX7_count_1 rfl rfl dX7_count_65 ?_
    refine x_iconst (v := 2) C dX7_count_68 (by decide) ?_
    refine x_iald C 1 rfl rfl (vp_in_nI (n := 2) (by decide) (by decide)) (congrArg z (nI_clamp (n := 2) (by decide))) dX7_count_69 ?_
    exact x_iret C E dX7_count_70 (by simp [coR, e_1]) (rfl)
  ·
    have e_1 : w = 1 := Int32.toInt_inj.mp (by rw [c_1]; rfl)
    refine x_aload_n C 0 dX7_count_71 rfl rfl ?_
    refine x_getf C 0 rfl rfl i_kX7_count_X7 0 (by decide) m_kX7_count_1 rfl rfl dX7_count_72 ?_
    refine x_iconst (v := 3) C dX7_count_75 (by decide) ?_
    refine x_iald C 1 rfl rfl (vp_in_nI (n := 3) (by decide) (by decide)) (congrArg z (nI_clamp (n := 3) (by decide))) dX7_count_76 ?_
    exact x_iret C E dX7_count_77 (by simp [coR, e_1]) (rfl)
  ·
    have e_1 : w = 2 := Int32.toInt_inj.mp (by rw [c_1]; rfl)
    refine x_aload_n C 0 dX7_count_78 rfl rfl ?_
    refine x_iconst (v := 0) C dX7_count_79 (by decide) ?_
    refine x_iconst (v := 1) C dX7_count_80 (by decide) ?_
    refine x_callVRO C ([.int 0, .int 1]) ([]) [0, 1] (k0 := 0) (na := 2) gX7_count_X7_lampsIn rfl (by decide +kernel) rfl rfl rfl (kX7_lampsIn (xl cx) (xG cx) m w1 w2 w3 w4 w5 w6 ns ln tm sp ik e1 e2 z n 0 1 (by first | assumption | rfl | omega | decide) (by first | assumption | rfl | omega | decide)) rfl (by decide) rfl rfl rfl ⟨by decide, by decide⟩ (Nat.le_of_ble_eq_true rfl) ⟨by decide, by decide⟩ dX7_count_81 ?_
    refine x_aload_n C 0 dX7_count_84 rfl rfl ?_
    refine x_iconst (v := 1) C dX7_count_85 (by decide) ?_
    refine x_iconst (v := 1) C dX7_count_86 (by decide) ?_
    refine x_callVRO C ([.int 1, .int 1]) ([.int (lnR z n 0 1)]) [0, 1] (k0 := 0) (na := 2) gX7_count_X7_lampsIn rfl (by decide +kernel) rfl rfl rfl (kX7_lampsIn (xl cx) (xG cx) m w1 w2 w3 w4 w5 w6 ns ln tm sp ik e1 e2 z n 1 1 (by first | assumption | rfl | omega | decide) (by first | assumption | rfl | omega | decide)) rfl (by decide) rfl rfl rfl ⟨by decide, by decide⟩ (Nat.le_of_ble_eq_true rfl) ⟨by decide, by decide⟩ dX7_count_87 ?_
    refine x_iadd C (rfl) dX7_count_90 ?_
    refine x_aload_n C 0 dX7_count_91 rfl rfl ?_
    refine x_iconst (v := 2) C dX7_count_92 (by decide) ?_
    refine x_iconst (v := 1) C dX7_count_93 (by decide) ?_
    refine x_callVRO C ([.int 2, .int 1]) ([.int ((lnR z n 0 1) + (lnR z n 1 1))]) [0, 1] (k0 := 0) (na := 2) gX7_count_X7_lampsIn rfl (by decide +kernel) rfl rfl rfl (kX7_lampsIn (xl cx) (xG cx) m w1 w2 w3 w4 w5 w6 ns ln tm sp ik e1 e2 z n 2 1 (by first | assumption | rfl | omega | decide) (by first | assumption | rfl | omega | decide)) rfl (by decide) rfl rfl rfl ⟨by decide, by decide⟩ (Nat.le_of_ble_eq_true rfl) ⟨by decide, by decide⟩ dX7_count_94 ?_
    refine x_iadd C (rfl) dX7_count_97 ?_
    exact x_iret C E dX7_count_98 (by simp [coR, e_1]) (rfl)
  ·
    have e_1 : w = 3 := Int32.toInt_inj.mp (by rw [c_1]; rfl)
    refine x_aload_n C 0 dX7_count_99 rfl rfl ?_
    refine x_callVRO C ([]) ([]) [0, 1] (k0 := 0) (na := 0) gX7_count_X7_burning rfl (by decide +kernel) rfl rfl rfl (kX7_burning (xl cx) (xG cx) m w1 w2 w3 w4 w5 w6 ns ln tm sp ik e1 e2 z n (by first | assumption | rfl | omega | decide) (by first | assumption | rfl | omega | decide) (by first | assumption | rfl | omega | decide)) rfl (by decide) rfl rfl rfl ⟨by decide, by decide⟩ (Nat.le_of_ble_eq_true rfl) ⟨by decide, by decide⟩ dX7_count_100 ?_
    exact x_iret C E dX7_count_103 (by simp [coR, e_1]) (rfl)
  ·
    have e_1 : w = 4 := Int32.toInt_inj.mp (by rw [c_1]; rfl)
    refine x_aload_n C 0 dX7_count_104 rfl rfl ?_
    refine x_callVRO C ([]) ([]) [0, 1] (k0 := 0) (na := 0) gX7_count_X7_dead rfl (by decide +kernel) rfl rfl rfl (kX7_dead (xl cx) (xG cx) m w1 w2 w3 w4 w5 w6 ns ln tm sp ik e1 e2 z n (by first | assumption | rfl | omega | decide) (by first | assumption | rfl | omega | decide)) rfl (by decide) rfl rfl rfl ⟨by decide, by decide⟩ (Nat.le_of_ble_eq_true rfl) ⟨by decide, by decide⟩ dX7_count_105 ?_
    exact x_iret C E dX7_count_108 (by simp [coR, e_1]) (rfl)
  ·
    have e_1 : w = 5 := Int32.toInt_inj.mp (by rw [c_1]; rfl)
    refine x_aload_n C 0 dX7_count_109 rfl rfl ?_
    refine x_bipush (v := 7) C dX7_count_110 (by decide) ?_
    refine x_callVRO C ([.int 7]) ([]) [0, 1] (k0 := 0) (na := 1) gX7_count_X7_sum rfl (by decide +kernel) rfl rfl rfl (kX7_sum (xl cx) (xG cx) m w1 w2 w3 w4 w5 w6 ns ln tm sp ik e1 e2 z n 7 (by first | assumption | rfl | omega | decide) (by first | assumption | rfl | omega | decide) (by first | assumption | rfl | omega | decide)) rfl (by decide) rfl rfl rfl ⟨by decide, by decide⟩ (Nat.le_of_ble_eq_true rfl) ⟨by decide, by decide⟩ dX7_count_112 ?_
    exact x_iret C E dX7_count_115 (by simp [coR, e_1]) (rfl)
  ·
    have e_1 : w = 6 := Int32.toInt_inj.mp (by rw [c_1]; rfl)
    refine x_aload_n C 0 dX7_count_116 rfl rfl ?_
    refine x_iconst (v := 5) C dX7_count_117 (by decide) ?_
    refine x_callVRO C ([.int 5]) ([]) [0, 1] (k0 := 0) (na := 1) gX7_count_X7_sum rfl (by decide +kernel) rfl rfl rfl (kX7_sum (xl cx) (xG cx) m w1 w2 w3 w4 w5 w6 ns ln tm sp ik e1 e2 z n 5 (by first | assumption | rfl | omega | decide) (by first | assumption | rfl | omega | decide) (by first | assumption | rfl | omega | decide)) rfl (by decide) rfl rfl rfl ⟨by decide, by decide⟩ (Nat.le_of_ble_eq_true rfl) ⟨by decide, by decide⟩ dX7_count_118 ?_
    exact x_iret C E dX7_count_121 (by simp [coR, e_1]) (rfl)
  ·
    have e_1 : w = 7 := Int32.toInt_inj.mp (by rw [c_1]; rfl)
    refine x_aload_n C 0 dX7_count_122 rfl rfl ?_
    refine x_iconst (v := 4) C dX7_count_123 (by decide) ?_
    refine x_callVRO C ([.int 4]) ([]) [0, 1] (k0 := 0) (na := 1) gX7_count_X7_sum rfl (by decide +kernel) rfl rfl rfl (kX7_sum (xl cx) (xG cx) m w1 w2 w3 w4 w5 w6 ns ln tm sp ik e1 e2 z n 4 (by first | assumption | rfl | omega | decide) (by first | assumption | rfl | omega | decide) (by first | assumption | rfl | omega | decide)) rfl (by decide) rfl rfl rfl ⟨by decide, by decide⟩ (Nat.le_of_ble_eq_true rfl) ⟨by decide, by decide⟩ dX7_count_124 ?_
    exact x_iret C E dX7_count_127 (by simp [coR, e_1]) (rfl)
  ·
    have e_1 : w = 8 := Int32.toInt_inj.mp (by rw [c_1]; rfl)
    subst e_1
    refine x_aload_n C 0 dX7_count_128 rfl rfl ?_
    refine x_getf C 0 rfl rfl i_kX7_count_X7 0 (by decide) m_kX7_count_1 rfl rfl dX7_count_129 ?_
    refine x_iload_n C 1 dX7_count_132 rfl rfl ?_
    refine x_bipush (v := 8) C dX7_count_133 (by decide) ?_
    refine x_isub (v := 0) C (by decide) dX7_count_135 ?_
    refine x_iald C 1 rfl rfl (vp_in_nI (n := 0) (by decide) (by decide)) (congrArg z (nI_clamp (n := 0) (by decide))) dX7_count_136 ?_
    exact x_iret C E dX7_count_137 (by simp [coR, ]) (rfl)
  ·
    have e_1 : w = 9 := Int32.toInt_inj.mp (by rw [c_1]; rfl)
    subst e_1
    refine x_aload_n C 0 dX7_count_128 rfl rfl ?_
    refine x_getf C 0 rfl rfl i_kX7_count_X7 0 (by decide) m_kX7_count_1 rfl rfl dX7_count_129 ?_
    refine x_iload_n C 1 dX7_count_132 rfl rfl ?_
    refine x_bipush (v := 8) C dX7_count_133 (by decide) ?_
    refine x_isub (v := 1) C (by decide) dX7_count_135 ?_
    refine x_iald C 1 rfl rfl (vp_in_nI (n := 1) (by decide) (by decide)) (congrArg z (nI_clamp (n := 1) (by decide))) dX7_count_136 ?_
    exact x_iret C E dX7_count_137 (by simp [coR, ]) (rfl)
  ·
    have e_1 : w = 10 := Int32.toInt_inj.mp (by rw [c_1]; rfl)
    refine x_aload_n C 0 dX7_count_138 rfl rfl ?_
    refine x_getf C 0 rfl rfl i_kX7_count_X7 3 (by decide) m_kX7_count_2 rfl rfl dX7_count_139 ?_
    exact x_iret C E dX7_count_142 (by simp [coR, e_1]) (rfl)
  ·
    have e_1 : w = 11 := Int32.toInt_inj.mp (by rw [c_1]; rfl)
    refine x_aload_n C 0 dX7_count_143 rfl rfl ?_
    refine x_getf C 0 rfl rfl i_kX7_count_X7 7 (by decide) m_kX7_count_3 rfl rfl dX7_count_144 ?_
    exact x_iret C E dX7_count_147 (by simp [coR, e_1]) (rfl)
  ·
    have d_1_0 : ¬ w = 0 := fun q => c_1 0 (by decide) (by rw [q]; rfl)
    have d_1_1 : ¬ w = 1 := fun q => c_1 1 (by decide) (by rw [q]; rfl)
    have d_1_2 : ¬ w = 2 := fun q => c_1 2 (by decide) (by rw [q]; rfl)
    have d_1_3 : ¬ w = 3 := fun q => c_1 3 (by decide) (by rw [q]; rfl)
    have d_1_4 : ¬ w = 4 := fun q => c_1 4 (by decide) (by rw [q]; rfl)
    have d_1_5 : ¬ w = 5 := fun q => c_1 5 (by decide) (by rw [q]; rfl)
    have d_1_6 : ¬ w = 6 := fun q => c_1 6 (by decide) (by rw [q]; rfl)
    have d_1_7 : ¬ w = 7 := fun q => c_1 7 (by decide) (by rw [q]; rfl)
    have d_1_8 : ¬ w = 8 := fun q => c_1 8 (by decide) (by rw [q]; rfl)
    have d_1_9 : ¬ w = 9 := fun q => c_1 9 (by decide) (by rw [q]; rfl)
    have d_1_10 : ¬ w = 10 := fun q => c_1 10 (by decide) (by rw [q]; rfl)
    have d_1_11 : ¬ w = 11 := fun q => c_1 11 (by decide) (by rw [q]; rfl)
    refine x_sipush (v := (-1002)) C dX7_count_148 (by decide) ?_
    exact x_iret C E dX7_count_151 (by simp [coR, d_1_0, d_1_1, d_1_2, d_1_3, d_1_4, d_1_5, d_1_6, d_1_7, d_1_8, d_1_9, d_1_10, d_1_11]) (rfl)
