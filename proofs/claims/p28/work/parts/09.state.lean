/-- of an index that may be wrong -/
abbrev ixz (x : Int32) : Nat := x.toNatClampNeg
def chBatch (S : SC) (b li sp : Int32) : Int32 × SC :=
  if 0 ≤ b ∧ b ≤ 5 then
    if (10 ≤ li ∧ li ≤ 9999) ∧ (0 ≤ sp ∧ sp ≤ 90) then
      if sA S 0 (ixz b) = li ∧ sA S 1 (ixz b) = sp then (-1005, S)
      else (sA S 0 (ixz b), uA (uA S 0 (upd (sA S 0) (ixz b) li)) 1 (upd (sA S 1) (ixz b) sp))
    else (-1002, S)
  else (-1001, S)
def chVolts (S : SC) (r v : Int32) : Int32 × SC :=
  if 0 ≤ r ∧ r ≤ 2 then
    if 0 ≤ v ∧ v ≤ 300 then
      if sA S 9 (ixz r) = v then (-1005, S) else (sA S 9 (ixz r), uA S 9 (upd (sA S 9) (ixz r) v))
    else (-1002, S)
  else (-1001, S)
def chSteps (S : SC) (r h v : Int32) : Int32 × SC :=
  if 0 ≤ r ∧ r ≤ 2 then
    if (0 ≤ h ∧ h ≤ 99) ∧ (-50 ≤ v ∧ v ≤ 50) then
      (sA S 10 (ixz r), uA (uA (uA S 10 (upd (sA S 10) (ixz r) h)) 11 (upd (sA S 11) (ixz r) v)) 12 (upd (sA S 12) (ixz r) 0))
    else (-1002, S)
  else (-1001, S)
def chWv (S : SC) (v : Int32) : Int32 × SC := if 100 ≤ v ∧ v ≤ 300 then (if sWv S = v then -1005 else sWv S, uWv S v) else (-1002, S)
def chDv (S : SC) (v : Int32) : Int32 × SC := if 1 ≤ v ∧ v ≤ 100 then (if sDv S = v then -1005 else sDv S, uDv S v) else (-1002, S)
def chSet (S : SC) (w v : Int32) : Int32 × SC := if w = 0 then chWv S v else if w = 1 then chDv S v else (-1001, S)

theorem m_kX4_changeBatch_0 : (Cond.static yX6_isBatch : Cond) ∈ wsX4_changeBatch := by decide +kernel
theorem m_kX4_changeBatch_1 : (Cond.initialized RX6 : Cond) ∈ wsX4_changeBatch := by decide +kernel
theorem m_kX4_changeBatch_2 : (Cond.static yX6_isWithin : Cond) ∈ wsX4_changeBatch := by decide +kernel
theorem i_kX4_changeBatch_X4 : ∀ w ∈ u_ws RX4 TX4 6, w ∈ wsX4_changeBatch := by decide +kernel
theorem m_kX4_changeBatch_4 : (Cond.fieldLink RX4 24 "LampRacks$State" "batches" "LLampRacks$Batches;" : Cond) ∈ wsX4_changeBatch := by decide +kernel
theorem i_kX4_changeBatch_X0 : ∀ w ∈ u_ws RX0 TX0 2, w ∈ wsX4_changeBatch := by decide +kernel
theorem m_kX4_changeBatch_6 : (Cond.fieldLink RX4 60 "LampRacks$Batches" "life" "[I" : Cond) ∈ wsX4_changeBatch := by decide +kernel
theorem m_kX4_changeBatch_7 : (Cond.fieldLink RX4 64 "LampRacks$Batches" "spread" "[I" : Cond) ∈ wsX4_changeBatch := by decide +kernel
set_option maxRecDepth 100000 in
set_option maxHeartbeats 4000000 in
theorem kX4_changeBatch (l : Launch) (G : GG) (a : Nat → Nat) (S : SC) (b : Int32) (li : Int32) (sp : Int32)  : MU l G yX4_changeBatch wsX4_changeBatch ({ frames := 2, cells := 0, slots := 0, locals := 42 } : Room) [.ref (a 0), .int b, .int li, .int sp] (stW G a S) (some (.int ((chBatch S b li sp).1))) (stW G a ((chBatch S b li sp).2)) := by
  refine MU.of (cc := cX4_changeBatch) (maxL := 5) (ret := (some .int)) (by decide) rfl (Nat.le_of_ble_eq_true rfl) ?_
  intro cx hxl hxG C M E
  subst hxl
  subst hxG
  show X cx (0, 0) [(a 0, .inr (4, [.int (sHr S), .int (sWv S), .int (sDv S), .ref (a 1), .ref (a 2), .ref (a 3)])), (a 1, .inr (0, [.ref (a 4), .ref (a 5)])), (a 2, .inr (2, [.int (nI (sN S)), .ref (a 6), .ref (a 7), .ref (a 8), .ref (a 9), .ref (a 10), .ref (a 11)])), (a 3, .inr (3, [.ref (a 12), .ref (a 13), .ref (a 14), .ref (a 15), .ref (a 16)])), (a 4, .inl ((xG cx).2.1, 6, .inl (sA S 0))), (a 5, .inl ((xG cx).2.1, 6, .inl (sA S 1))), (a 6, .inl ((xG cx).2.1, 60, .inl (sA S 2))), (a 7, .inl ((xG cx).2.1, 60, .inl (sA S 3))), (a 8, .inl ((xG cx).2.1, 60, .inl (sA S 4))), (a 9, .inl ((xG cx).2.1, 60, .inl (sA S 5))), (a 10, .inl ((xG cx).2.1, 60, .inl (sA S 6))), (a 11, .inl ((xG cx).2.1, 60, .inl (sA S 7))), (a 12, .inl ((xG cx).2.1, 24, .inl (sA S 8))), (a 13, .inl ((xG cx).2.1, 3, .inl (sA S 9))), (a 14, .inl ((xG cx).2.1, 3, .inl (sA S 10))), (a 15, .inl ((xG cx).2.1, 3, .inl (sA S 11))), (a 16, .inl ((xG cx).2.1, 3, .inl (sA S 12)))] [(0, .ref (a 0)), (1, .int b), (2, .int li), (3, .int sp)] 0 []
  refine x_iload_n C 1 dX4_changeBatch_0 rfl rfl ?_
  refine x_callNRO C ([.int b]) ([]) [] (na := 1) (host := "LampRacks") gX4_changeBatch_X6_isBatch_n52 (by decide +kernel) m_kX4_changeBatch_0 m_kX4_changeBatch_1 rfl (by decide +kernel) rfl (kX6_isBatch (xl cx) (xG cx) b) rfl (by decide) rfl rfl rfl ⟨by decide, by decide⟩ (Nat.le_of_ble_eq_true rfl) ⟨by decide, by decide⟩ dX4_changeBatch_1 ?_
  refine x_ifb_ne (P := 0 ≤ b ∧ b ≤ 5) C 11 dX4_changeBatch_4 (by decide) (fun c_4 => ?_) (fun c_4 => ?_)
  ·
    refine x_iload_n C 2 dX4_changeBatch_11 rfl rfl ?_
    refine x_bipush (v := 10) C dX4_changeBatch_12 (by decide) ?_
    refine x_sipush (v := 9999) C dX4_changeBatch_14 (by decide) ?_
    refine x_callNRO C ([.int li, .int 10, .int 9999]) ([]) [] (na := 3) (host := "LampRacks") gX4_changeBatch_X6_isWithin_n56 (by decide +kernel) m_kX4_changeBatch_2 m_kX4_changeBatch_1 rfl (by decide +kernel) rfl (kX6_isWithin (xl cx) (xG cx) li 10 9999) rfl (by decide) rfl rfl rfl ⟨by decide, by decide⟩ (Nat.le_of_ble_eq_true rfl) ⟨by decide, by decide⟩ dX4_changeBatch_17 ?_
    refine x_ifb_eq (P := 10 ≤ li ∧ li ≤ 9999) C 33 dX4_changeBatch_20 (by decide) (fun c_20 => ?_) (fun c_20 => ?_)
    ·
      refine x_sipush (v := (-1002)) C dX4_changeBatch_33 (by decide) ?_
      have e_ret : chBatch S b li sp = ((-1002), S) := by simp [chBatch, c_4, c_20]
      exact x_iret C E dX4_changeBatch_36 (by rw [e_ret]) ((rfl : _ = stW (xG cx) a S).trans (by rw [e_ret]))
    ·
      refine x_iload_n C 3 dX4_changeBatch_23 rfl rfl ?_
      refine x_iconst (v := 0) C dX4_changeBatch_24 (by decide) ?_
      refine x_bipush (v := 90) C dX4_changeBatch_25 (by decide) ?_
      refine x_callNRO C ([.int sp, .int 0, .int 90]) ([]) [] (na := 3) (host := "LampRacks") gX4_changeBatch_X6_isWithin_n56 (by decide +kernel) m_kX4_changeBatch_2 m_kX4_changeBatch_1 rfl (by decide +kernel) rfl (kX6_isWithin (xl cx) (xG cx) sp 0 90) rfl (by decide) rfl rfl rfl ⟨by decide, by decide⟩ (Nat.le_of_ble_eq_true rfl) ⟨by decide, by decide⟩ dX4_changeBatch_27 ?_
      refine x_ifb_ne (P := 0 ≤ sp ∧ sp ≤ 90) C 37 dX4_changeBatch_30 (by decide) (fun c_30 => ?_) (fun c_30 => ?_)
      ·
        obtain ⟨kb, h_kb, rfl⟩ := in_nat (M := 5) (m := 5) c_4 (by decide)
        refine x_aload_n C 0 dX4_changeBatch_37 rfl rfl ?_
        refine x_getf C 0 rfl rfl i_kX4_changeBatch_X4 3 (by decide) m_kX4_changeBatch_4 rfl rfl dX4_changeBatch_38 ?_
        refine x_getf C 1 rfl rfl i_kX4_changeBatch_X0 0 (by decide) m_kX4_changeBatch_6 rfl rfl dX4_changeBatch_41 ?_
        refine x_iload_n C 1 dX4_changeBatch_44 rfl rfl ?_
        refine x_iald C 4 rfl rfl (vp_in_nI (by omega) (by decide)) (congrArg (sA S 0) (nI_clamp (by omega))) dX4_changeBatch_45 ?_
        refine x_istore C [(4, .int ((sA S 0) kb)), (0, .ref (a 0)), (1, .int (nI kb)), (2, .int li), (3, .int sp)] dX4_changeBatch_46 (by decide) rfl ?_
        refine x_iload C 0 dX4_changeBatch_48 rfl ?_
        refine x_iload_n C 3 dX4_changeBatch_50 rfl rfl ?_
        refine x_icmp_ne C 71 dX4_changeBatch_51 (by decide) (fun c_51 => ?_) (fun c_51 => ?_)
        ·
          refine x_aload_n C 1 dX4_changeBatch_71 rfl rfl ?_
          refine x_getf C 0 rfl rfl i_kX4_changeBatch_X4 3 (by decide) m_kX4_changeBatch_4 rfl rfl dX4_changeBatch_72 ?_
          refine x_getf C 1 rfl rfl i_kX4_changeBatch_X0 0 (by decide) m_kX4_changeBatch_6 rfl rfl dX4_changeBatch_75 ?_
          refine x_iload_n C 2 dX4_changeBatch_78 rfl rfl ?_
          refine x_iload_n C 3 dX4_changeBatch_79 rfl rfl ?_
          refine x_iast C M 4 rfl rfl (vp_in_nI (by omega) (by decide)) (nI_clamp (by omega)) [(a 0, .inr (4, [.int (sHr S), .int (sWv S), .int (sDv S), .ref (a 1), .ref (a 2), .ref (a 3)])), (a 1, .inr (0, [.ref (a 4), .ref (a 5)])), (a 2, .inr (2, [.int (nI (sN S)), .ref (a 6), .ref (a 7), .ref (a 8), .ref (a 9), .ref (a 10), .ref (a 11)])), (a 3, .inr (3, [.ref (a 12), .ref (a 13), .ref (a 14), .ref (a 15), .ref (a 16)])), (a 4, .inl ((xG cx).2.1, 6, .inl (upd (sA S 0) kb li))), (a 5, .inl ((xG cx).2.1, 6, .inl (sA S 1))), (a 6, .inl ((xG cx).2.1, 60, .inl (sA S 2))), (a 7, .inl ((xG cx).2.1, 60, .inl (sA S 3))), (a 8, .inl ((xG cx).2.1, 60, .inl (sA S 4))), (a 9, .inl ((xG cx).2.1, 60, .inl (sA S 5))), (a 10, .inl ((xG cx).2.1, 60, .inl (sA S 6))), (a 11, .inl ((xG cx).2.1, 60, .inl (sA S 7))), (a 12, .inl ((xG cx).2.1, 24, .inl (sA S 8))), (a 13, .inl ((xG cx).2.1, 3, .inl (sA S 9))), (a 14, .inl ((xG cx).2.1, 3, .inl (sA S 10))), (a 15, .inl ((xG cx).2.1, 3, .inl (sA S 11))), (a 16, .inl ((xG cx).2.1, 3, .inl (sA S 12)))] rfl dX4_changeBatch_80 ?_
          refine x_aload_n C 1 dX4_changeBatch_81 rfl rfl ?_
          refine x_getf C 0 rfl rfl i_kX4_changeBatch_X4 3 (by decide) m_kX4_changeBatch_4 rfl rfl dX4_changeBatch_82 ?_
          refine x_getf C 1 rfl rfl i_kX4_changeBatch_X0 1 (by decide) m_kX4_changeBatch_7 rfl rfl dX4_changeBatch_85 ?_
          refine x_iload_n C 2 dX4_changeBatch_88 rfl rfl ?_
          refine x_iload_n C 4 dX4_changeBatch_89 rfl rfl ?_
          refine x_iast C M 5 rfl rfl (vp_in_nI (by omega) (by decide)) (nI_clamp (by omega)) [(a 0, .inr (4, [.int (sHr S), .int (sWv S), .int (sDv S), .ref (a 1), .ref (a 2), .ref (a 3)])), (a 1, .inr (0, [.ref (a 4), .ref (a 5)])), (a 2, .inr (2, [.int (nI (sN S)), .ref (a 6), .ref (a 7), .ref (a 8), .ref (a 9), .ref (a 10), .ref (a 11)])), (a 3, .inr (3, [.ref (a 12), .ref (a 13), .ref (a 14), .ref (a 15), .ref (a 16)])), (a 4, .inl ((xG cx).2.1, 6, .inl (upd (sA S 0) kb li))), (a 5, .inl ((xG cx).2.1, 6, .inl (upd (sA S 1) kb sp))), (a 6, .inl ((xG cx).2.1, 60, .inl (sA S 2))), (a 7, .inl ((xG cx).2.1, 60, .inl (sA S 3))), (a 8, .inl ((xG cx).2.1, 60, .inl (sA S 4))), (a 9, .inl ((xG cx).2.1, 60, .inl (sA S 5))), (a 10, .inl ((xG cx).2.1, 60, .inl (sA S 6))), (a 11, .inl ((xG cx).2.1, 60, .inl (sA S 7))), (a 12, .inl ((xG cx).2.1, 24, .inl (sA S 8))), (a 13, .inl ((xG cx).2.1, 3, .inl (sA S 9))), (a 14, .inl ((xG cx).2.1, 3, .inl (sA S 10))), (a 15, .inl ((xG cx).2.1, 3, .inl (sA S 11))), (a 16, .inl ((xG cx).2.1, 3, .inl (sA S 12)))] rfl dX4_changeBatch_90 ?_
          refine x_iload C 0 dX4_changeBatch_91 rfl ?_
          have e_ret : chBatch S (nI kb) li sp = ((sA S 0) kb, uA (uA S 0 (upd (sA S 0) kb li)) 1 (upd (sA S 1) kb sp)) := by simp [chBatch, c_4, c_20, c_30, ix kb (by omega), c_51]
          exact x_iret C E dX4_changeBatch_93 (by rw [e_ret]) ((rfl : _ = stW (xG cx) a (uA (uA S 0 (upd (sA S 0) kb li)) 1 (upd (sA S 1) kb sp))).trans (by rw [e_ret]))
        ·
          refine x_aload_n C 1 dX4_changeBatch_54 rfl rfl ?_
          refine x_getf C 0 rfl rfl i_kX4_changeBatch_X4 3 (by decide) m_kX4_changeBatch_4 rfl rfl dX4_changeBatch_55 ?_
          refine x_getf C 1 rfl rfl i_kX4_changeBatch_X0 1 (by decide) m_kX4_changeBatch_7 rfl rfl dX4_changeBatch_58 ?_
          refine x_iload_n C 2 dX4_changeBatch_61 rfl rfl ?_
          refine x_iald C 5 rfl rfl (vp_in_nI (by omega) (by decide)) (congrArg (sA S 1) (nI_clamp (by omega))) dX4_changeBatch_62 ?_
          refine x_iload_n C 4 dX4_changeBatch_63 rfl rfl ?_
          refine x_icmp_ne C 71 dX4_changeBatch_64 (by decide) (fun c_64 => ?_) (fun c_64 => ?_)
          ·
            refine x_aload_n C 1 dX4_changeBatch_71 rfl rfl ?_
            refine x_getf C 0 rfl rfl i_kX4_changeBatch_X4 3 (by decide) m_kX4_changeBatch_4 rfl rfl dX4_changeBatch_72 ?_
            refine x_getf C 1 rfl rfl i_kX4_changeBatch_X0 0 (by decide) m_kX4_changeBatch_6 rfl rfl dX4_changeBatch_75 ?_
            refine x_iload_n C 2 dX4_changeBatch_78 rfl rfl ?_
            refine x_iload_n C 3 dX4_changeBatch_79 rfl rfl ?_
            refine x_iast C M 4 rfl rfl (vp_in_nI (by omega) (by decide)) (nI_clamp (by omega)) [(a 0, .inr (4, [.int (sHr S), .int (sWv S), .int (sDv S), .ref (a 1), .ref (a 2), .ref (a 3)])), (a 1, .inr (0, [.ref (a 4), .ref (a 5)])), (a 2, .inr (2, [.int (nI (sN S)), .ref (a 6), .ref (a 7), .ref (a 8), .ref (a 9), .ref (a 10), .ref (a 11)])), (a 3, .inr (3, [.ref (a 12), .ref (a 13), .ref (a 14), .ref (a 15), .ref (a 16)])), (a 4, .inl ((xG cx).2.1, 6, .inl (upd (sA S 0) kb li))), (a 5, .inl ((xG cx).2.1, 6, .inl (sA S 1))), (a 6, .inl ((xG cx).2.1, 60, .inl (sA S 2))), (a 7, .inl ((xG cx).2.1, 60, .inl (sA S 3))), (a 8, .inl ((xG cx).2.1, 60, .inl (sA S 4))), (a 9, .inl ((xG cx).2.1, 60, .inl (sA S 5))), (a 10, .inl ((xG cx).2.1, 60, .inl (sA S 6))), (a 11, .inl ((xG cx).2.1, 60, .inl (sA S 7))), (a 12, .inl ((xG cx).2.1, 24, .inl (sA S 8))), (a 13, .inl ((xG cx).2.1, 3, .inl (sA S 9))), (a 14, .inl ((xG cx).2.1, 3, .inl (sA S 10))), (a 15, .inl ((xG cx).2.1, 3, .inl (sA S 11))), (a 16, .inl ((xG cx).2.1, 3, .inl (sA S 12)))] rfl dX4_changeBatch_80 ?_
            refine x_aload_n C 1 dX4_changeBatch_81 rfl rfl ?_
            refine x_getf C 0 rfl rfl i_kX4_changeBatch_X4 3 (by decide) m_kX4_changeBatch_4 rfl rfl dX4_changeBatch_82 ?_
            refine x_getf C 1 rfl rfl i_kX4_changeBatch_X0 1 (by decide) m_kX4_changeBatch_7 rfl rfl dX4_changeBatch_85 ?_
            refine x_iload_n C 2 dX4_changeBatch_88 rfl rfl ?_
            refine x_iload_n C 4 dX4_changeBatch_89 rfl rfl ?_
            refine x_iast C M 5 rfl rfl (vp_in_nI (by omega) (by decide)) (nI_clamp (by omega)) [(a 0, .inr (4, [.int (sHr S), .int (sWv S), .int (sDv S), .ref (a 1), .ref (a 2), .ref (a 3)])), (a 1, .inr (0, [.ref (a 4), .ref (a 5)])), (a 2, .inr (2, [.int (nI (sN S)), .ref (a 6), .ref (a 7), .ref (a 8), .ref (a 9), .ref (a 10), .ref (a 11)])), (a 3, .inr (3, [.ref (a 12), .ref (a 13), .ref (a 14), .ref (a 15), .ref (a 16)])), (a 4, .inl ((xG cx).2.1, 6, .inl (upd (sA S 0) kb li))), (a 5, .inl ((xG cx).2.1, 6, .inl (upd (sA S 1) kb sp))), (a 6, .inl ((xG cx).2.1, 60, .inl (sA S 2))), (a 7, .inl ((xG cx).2.1, 60, .inl (sA S 3))), (a 8, .inl ((xG cx).2.1, 60, .inl (sA S 4))), (a 9, .inl ((xG cx).2.1, 60, .inl (sA S 5))), (a 10, .inl ((xG cx).2.1, 60, .inl (sA S 6))), (a 11, .inl ((xG cx).2.1, 60, .inl (sA S 7))), (a 12, .inl ((xG cx).2.1, 24, .inl (sA S 8))), (a 13, .inl ((xG cx).2.1, 3, .inl (sA S 9))), (a 14, .inl ((xG cx).2.1, 3, .inl (sA S 10))), (a 15, .inl ((xG cx).2.1, 3, .inl (sA S 11))), (a 16, .inl ((xG cx).2.1, 3, .inl (sA S 12)))] rfl dX4_changeBatch_90 ?_
            refine x_iload C 0 dX4_changeBatch_91 rfl ?_
            have e_ret : chBatch S (nI kb) li sp = ((sA S 0) kb, uA (uA S 0 (upd (sA S 0) kb li)) 1 (upd (sA S 1) kb sp)) := by simp [chBatch, c_4, c_20, c_30, ix kb (by omega), c_51, c_64]
            exact x_iret C E dX4_changeBatch_93 (by rw [e_ret]) ((rfl : _ = stW (xG cx) a (uA (uA S 0 (upd (sA S 0) kb li)) 1 (upd (sA S 1) kb sp))).trans (by rw [e_ret]))
          ·
            refine x_sipush (v := (-1005)) C dX4_changeBatch_67 (by decide) ?_
            have e_ret : chBatch S (nI kb) li sp = ((-1005), S) := by simp [chBatch, c_4, c_20, c_30, ix kb (by omega), c_51, c_64]
            exact x_iret C E dX4_changeBatch_70 (by rw [e_ret]) ((rfl : _ = stW (xG cx) a S).trans (by rw [e_ret]))
      ·
        refine x_sipush (v := (-1002)) C dX4_changeBatch_33 (by decide) ?_
        have e_ret : chBatch S b li sp = ((-1002), S) := by simp [chBatch, c_4, c_20, c_30]
        exact x_iret C E dX4_changeBatch_36 (by rw [e_ret]) ((rfl : _ = stW (xG cx) a S).trans (by rw [e_ret]))
  ·
    refine x_sipush (v := (-1001)) C dX4_changeBatch_7 (by decide) ?_
    have e_ret : chBatch S b li sp = ((-1001), S) := by simp [chBatch, c_4]
    exact x_iret C E dX4_changeBatch_10 (by rw [e_ret]) ((rfl : _ = stW (xG cx) a S).trans (by rw [e_ret]))

theorem m_kX4_changeVolts_0 : (Cond.static yX6_isRack : Cond) ∈ wsX4_changeVolts := by decide +kernel
theorem m_kX4_changeVolts_1 : (Cond.initialized RX6 : Cond) ∈ wsX4_changeVolts := by decide +kernel
theorem m_kX4_changeVolts_2 : (Cond.static yX6_isWithin : Cond) ∈ wsX4_changeVolts := by decide +kernel
theorem i_kX4_changeVolts_X4 : ∀ w ∈ u_ws RX4 TX4 6, w ∈ wsX4_changeVolts := by decide +kernel
theorem m_kX4_changeVolts_4 : (Cond.fieldLink RX4 38 "LampRacks$State" "racks" "LLampRacks$Racks;" : Cond) ∈ wsX4_changeVolts := by decide +kernel
theorem i_kX4_changeVolts_X3 : ∀ w ∈ u_ws RX3 TX3 5, w ∈ wsX4_changeVolts := by decide +kernel
theorem m_kX4_changeVolts_6 : (Cond.fieldLink RX4 101 "LampRacks$Racks" "volts" "[I" : Cond) ∈ wsX4_changeVolts := by decide +kernel
set_option maxRecDepth 100000 in
set_option maxHeartbeats 4000000 in
theorem kX4_changeVolts (l : Launch) (G : GG) (a : Nat → Nat) (S : SC) (r : Int32) (v : Int32)  : MU l G yX4_changeVolts wsX4_changeVolts ({ frames := 2, cells := 0, slots := 0, locals := 42 } : Room) [.ref (a 0), .int r, .int v] (stW G a S) (some (.int ((chVolts S r v).1))) (stW G a ((chVolts S r v).2)) := by
  refine MU.of (cc := cX4_changeVolts) (maxL := 4) (ret := (some .int)) (by decide) rfl (Nat.le_of_ble_eq_true rfl) ?_
  intro cx hxl hxG C M E
  subst hxl
  subst hxG
  show X cx (0, 0) [(a 0, .inr (4, [.int (sHr S), .int (sWv S), .int (sDv S), .ref (a 1), .ref (a 2), .ref (a 3)])), (a 1, .inr (0, [.ref (a 4), .ref (a 5)])), (a 2, .inr (2, [.int (nI (sN S)), .ref (a 6), .ref (a 7), .ref (a 8), .ref (a 9), .ref (a 10), .ref (a 11)])), (a 3, .inr (3, [.ref (a 12), .ref (a 13), .ref (a 14), .ref (a 15), .ref (a 16)])), (a 4, .inl ((xG cx).2.1, 6, .inl (sA S 0))), (a 5, .inl ((xG cx).2.1, 6, .inl (sA S 1))), (a 6, .inl ((xG cx).2.1, 60, .inl (sA S 2))), (a 7, .inl ((xG cx).2.1, 60, .inl (sA S 3))), (a 8, .inl ((xG cx).2.1, 60, .inl (sA S 4))), (a 9, .inl ((xG cx).2.1, 60, .inl (sA S 5))), (a 10, .inl ((xG cx).2.1, 60, .inl (sA S 6))), (a 11, .inl ((xG cx).2.1, 60, .inl (sA S 7))), (a 12, .inl ((xG cx).2.1, 24, .inl (sA S 8))), (a 13, .inl ((xG cx).2.1, 3, .inl (sA S 9))), (a 14, .inl ((xG cx).2.1, 3, .inl (sA S 10))), (a 15, .inl ((xG cx).2.1, 3, .inl (sA S 11))), (a 16, .inl ((xG cx).2.1, 3, .inl (sA S 12)))] [(0, .ref (a 0)), (1, .int r), (2, .int v)] 0 []
  refine x_iload_n C 1 dX4_changeVolts_0 rfl rfl ?_
  refine x_callNRO C ([.int r]) ([]) [] (na := 1) (host := "LampRacks") gX4_changeVolts_X6_isRack_n98 (by decide +kernel) m_kX4_changeVolts_0 m_kX4_changeVolts_1 rfl (by decide +kernel) rfl (kX6_isRack (xl cx) (xG cx) r) rfl (by decide) rfl rfl rfl ⟨by decide, by decide⟩ (Nat.le_of_ble_eq_true rfl) ⟨by decide, by decide⟩ dX4_changeVolts_1 ?_
  refine x_ifb_ne (P := 0 ≤ r ∧ r ≤ 2) C 11 dX4_changeVolts_4 (by decide) (fun c_4 => ?_) (fun c_4 => ?_)
  ·
    refine x_iload_n C 2 dX4_changeVolts_11 rfl rfl ?_
    refine x_iconst (v := 0) C dX4_changeVolts_12 (by decide) ?_
    refine x_sipush (v := 300) C dX4_changeVolts_13 (by decide) ?_
    refine x_callNRO C ([.int v, .int 0, .int 300]) ([]) [] (na := 3) (host := "LampRacks") gX4_changeVolts_X6_isWithin_n56 (by decide +kernel) m_kX4_changeVolts_2 m_kX4_changeVolts_1 rfl (by decide +kernel) rfl (kX6_isWithin (xl cx) (xG cx) v 0 300) rfl (by decide) rfl rfl rfl ⟨by decide, by decide⟩ (Nat.le_of_ble_eq_true rfl) ⟨by decide, by decide⟩ dX4_changeVolts_16 ?_
    refine x_ifb_ne (P := 0 ≤ v ∧ v ≤ 300) C 26 dX4_changeVolts_19 (by decide) (fun c_19 => ?_) (fun c_19 => ?_)
    ·
      obtain ⟨kr, h_kr, rfl⟩ := in_nat (M := 2) (m := 2) c_4 (by decide)
      refine x_aload_n C 0 dX4_changeVolts_26 rfl rfl ?_
      refine x_getf C 0 rfl rfl i_kX4_changeVolts_X4 5 (by decide) m_kX4_changeVolts_4 rfl rfl dX4_changeVolts_27 ?_
      refine x_getf C 3 rfl rfl i_kX4_changeVolts_X3 1 (by decide) m_kX4_changeVolts_6 rfl rfl dX4_changeVolts_30 ?_
      refine x_iload_n C 1 dX4_changeVolts_33 rfl rfl ?_
      refine x_iald C 13 rfl rfl (vp_in_nI (by omega) (by decide)) (congrArg (sA S 9) (nI_clamp (by omega))) dX4_changeVolts_34 ?_
      refine x_istore_n C [(3, .int ((sA S 9) kr)), (0, .ref (a 0)), (1, .int (nI kr)), (2, .int v)] dX4_changeVolts_35 rfl (by decide) rfl ?_
      refine x_iload_n C 0 dX4_changeVolts_36 rfl rfl ?_
      refine x_iload_n C 3 dX4_changeVolts_37 rfl rfl ?_
      refine x_icmp_ne C 45 dX4_changeVolts_38 (by decide) (fun c_38 => ?_) (fun c_38 => ?_)
      ·
        refine x_aload_n C 1 dX4_changeVolts_45 rfl rfl ?_
        refine x_getf C 0 rfl rfl i_kX4_changeVolts_X4 5 (by decide) m_kX4_changeVolts_4 rfl rfl dX4_changeVolts_46 ?_
        refine x_getf C 3 rfl rfl i_kX4_changeVolts_X3 1 (by decide) m_kX4_changeVolts_6 rfl rfl dX4_changeVolts_49 ?_
        refine x_iload_n C 2 dX4_changeVolts_52 rfl rfl ?_
        refine x_iload_n C 3 dX4_changeVolts_53 rfl rfl ?_
        refine x_iast C M 13 rfl rfl (vp_in_nI (by omega) (by decide)) (nI_clamp (by omega)) [(a 0, .inr (4, [.int (sHr S), .int (sWv S), .int (sDv S), .ref (a 1), .ref (a 2), .ref (a 3)])), (a 1, .inr (0, [.ref (a 4), .ref (a 5)])), (a 2, .inr (2, [.int (nI (sN S)), .ref (a 6), .ref (a 7), .ref (a 8), .ref (a 9), .ref (a 10), .ref (a 11)])), (a 3, .inr (3, [.ref (a 12), .ref (a 13), .ref (a 14), .ref (a 15), .ref (a 16)])), (a 4, .inl ((xG cx).2.1, 6, .inl (sA S 0))), (a 5, .inl ((xG cx).2.1, 6, .inl (sA S 1))), (a 6, .inl ((xG cx).2.1, 60, .inl (sA S 2))), (a 7, .inl ((xG cx).2.1, 60, .inl (sA S 3))), (a 8, .inl ((xG cx).2.1, 60, .inl (sA S 4))), (a 9, .inl ((xG cx).2.1, 60, .inl (sA S 5))), (a 10, .inl ((xG cx).2.1, 60, .inl (sA S 6))), (a 11, .inl ((xG cx).2.1, 60, .inl (sA S 7))), (a 12, .inl ((xG cx).2.1, 24, .inl (sA S 8))), (a 13, .inl ((xG cx).2.1, 3, .inl (upd (sA S 9) kr v))), (a 14, .inl ((xG cx).2.1, 3, .inl (sA S 10))), (a 15, .inl ((xG cx).2.1, 3, .inl (sA S 11))), (a 16, .inl ((xG cx).2.1, 3, .inl (sA S 12)))] rfl dX4_changeVolts_54 ?_
        refine x_iload_n C 0 dX4_changeVolts_55 rfl rfl ?_
        have e_ret : chVolts S (nI kr) v = ((sA S 9) kr, uA S 9 (upd (sA S 9) kr v)) := by simp [chVolts, c_4, c_19, ix kr (by omega), c_38]
        exact x_iret C E dX4_changeVolts_56 (by rw [e_ret]) ((rfl : _ = stW (xG cx) a (uA S 9 (upd (sA S 9) kr v))).trans (by rw [e_ret]))
      ·
        refine x_sipush (v := (-1005)) C dX4_changeVolts_41 (by decide) ?_
        have e_ret : chVolts S (nI kr) v = ((-1005), S) := by simp [chVolts, c_4, c_19, ix kr (by omega), c_38]
        exact x_iret C E dX4_changeVolts_44 (by rw [e_ret]) ((rfl : _ = stW (xG cx) a S).trans (by rw [e_ret]))
    ·
      refine x_sipush (v := (-1002)) C dX4_changeVolts_22 (by decide) ?_
      have e_ret : chVolts S r v = ((-1002), S) := by simp [chVolts, c_4, c_19]
      exact x_iret C E dX4_changeVolts_25 (by rw [e_ret]) ((rfl : _ = stW (xG cx) a S).trans (by rw [e_ret]))
  ·
    refine x_sipush (v := (-1001)) C dX4_changeVolts_7 (by decide) ?_
    have e_ret : chVolts S r v = ((-1001), S) := by simp [chVolts, c_4]
    exact x_iret C E dX4_changeVolts_10 (by rw [e_ret]) ((rfl : _ = stW (xG cx) a S).trans (by rw [e_ret]))

theorem m_kX4_changeSteps_0 : (Cond.static yX6_isRack : Cond) ∈ wsX4_changeSteps := by decide +kernel
theorem m_kX4_changeSteps_1 : (Cond.initialized RX6 : Cond) ∈ wsX4_changeSteps := by decide +kernel
theorem m_kX4_changeSteps_2 : (Cond.static yX6_isWithin : Cond) ∈ wsX4_changeSteps := by decide +kernel
theorem i_kX4_changeSteps_X4 : ∀ w ∈ u_ws RX4 TX4 6, w ∈ wsX4_changeSteps := by decide +kernel
theorem m_kX4_changeSteps_4 : (Cond.fieldLink RX4 38 "LampRacks$State" "racks" "LLampRacks$Racks;" : Cond) ∈ wsX4_changeSteps := by decide +kernel
theorem i_kX4_changeSteps_X3 : ∀ w ∈ u_ws RX3 TX3 5, w ∈ wsX4_changeSteps := by decide +kernel
theorem m_kX4_changeSteps_6 : (Cond.fieldLink RX4 104 "LampRacks$Racks" "stepHours" "[I" : Cond) ∈ wsX4_changeSteps := by decide +kernel
theorem m_kX4_changeSteps_7 : (Cond.fieldLink RX4 107 "LampRacks$Racks" "stepVolts" "[I" : Cond) ∈ wsX4_changeSteps := by decide +kernel
theorem m_kX4_changeSteps_8 : (Cond.fieldLink RX4 110 "LampRacks$Racks" "hoursOfStep" "[I" : Cond) ∈ wsX4_changeSteps := by decide +kernel
set_option maxRecDepth 100000 in
set_option maxHeartbeats 4000000 in
theorem kX4_changeSteps (l : Launch) (G : GG) (a : Nat → Nat) (S : SC) (r : Int32) (h : Int32) (v : Int32)  : MU l G yX4_changeSteps wsX4_changeSteps ({ frames := 2, cells := 0, slots := 0, locals := 42 } : Room) [.ref (a 0), .int r, .int h, .int v] (stW G a S) (some (.int ((chSteps S r h v).1))) (stW G a ((chSteps S r h v).2)) := by
  refine MU.of (cc := cX4_changeSteps) (maxL := 5) (ret := (some .int)) (by decide) rfl (Nat.le_of_ble_eq_true rfl) ?_
  intro cx hxl hxG C M E
  subst hxl
  subst hxG
  show X cx (0, 0) [(a 0, .inr (4, [.int (sHr S), .int (sWv S), .int (sDv S), .ref (a 1), .ref (a 2), .ref (a 3)])), (a 1, .inr (0, [.ref (a 4), .ref (a 5)])), (a 2, .inr (2, [.int (nI (sN S)), .ref (a 6), .ref (a 7), .ref (a 8), .ref (a 9), .ref (a 10), .ref (a 11)])), (a 3, .inr (3, [.ref (a 12), .ref (a 13), .ref (a 14), .ref (a 15), .ref (a 16)])), (a 4, .inl ((xG cx).2.1, 6, .inl (sA S 0))), (a 5, .inl ((xG cx).2.1, 6, .inl (sA S 1))), (a 6, .inl ((xG cx).2.1, 60, .inl (sA S 2))), (a 7, .inl ((xG cx).2.1, 60, .inl (sA S 3))), (a 8, .inl ((xG cx).2.1, 60, .inl (sA S 4))), (a 9, .inl ((xG cx).2.1, 60, .inl (sA S 5))), (a 10, .inl ((xG cx).2.1, 60, .inl (sA S 6))), (a 11, .inl ((xG cx).2.1, 60, .inl (sA S 7))), (a 12, .inl ((xG cx).2.1, 24, .inl (sA S 8))), (a 13, .inl ((xG cx).2.1, 3, .inl (sA S 9))), (a 14, .inl ((xG cx).2.1, 3, .inl (sA S 10))), (a 15, .inl ((xG cx).2.1, 3, .inl (sA S 11))), (a 16, .inl ((xG cx).2.1, 3, .inl (sA S 12)))] [(0, .ref (a 0)), (1, .int r), (2, .int h), (3, .int v)] 0 []
  refine x_iload_n C 1 dX4_changeSteps_0 rfl rfl ?_
  refine x_callNRO C ([.int r]) ([]) [] (na := 1) (host := "LampRacks") gX4_changeSteps_X6_isRack_n98 (by decide +kernel) m_kX4_changeSteps_0 m_kX4_changeSteps_1 rfl (by decide +kernel) rfl (kX6_isRack (xl cx) (xG cx) r) rfl (by decide) rfl rfl rfl ⟨by decide, by decide⟩ (Nat.le_of_ble_eq_true rfl) ⟨by decide, by decide⟩ dX4_changeSteps_1 ?_
  refine x_ifb_ne (P := 0 ≤ r ∧ r ≤ 2) C 11 dX4_changeSteps_4 (by decide) (fun c_4 => ?_) (fun c_4 => ?_)
  ·
    refine x_iload_n C 2 dX4_changeSteps_11 rfl rfl ?_
    refine x_iconst (v := 0) C dX4_changeSteps_12 (by decide) ?_
    refine x_bipush (v := 99) C dX4_changeSteps_13 (by decide) ?_
    refine x_callNRO C ([.int h, .int 0, .int 99]) ([]) [] (na := 3) (host := "LampRacks") gX4_changeSteps_X6_isWithin_n56 (by decide +kernel) m_kX4_changeSteps_2 m_kX4_changeSteps_1 rfl (by decide +kernel) rfl (kX6_isWithin (xl cx) (xG cx) h 0 99) rfl (by decide) rfl rfl rfl ⟨by decide, by decide⟩ (Nat.le_of_ble_eq_true rfl) ⟨by decide, by decide⟩ dX4_changeSteps_15 ?_
    refine x_ifb_eq (P := 0 ≤ h ∧ h ≤ 99) C 32 dX4_changeSteps_18 (by decide) (fun c_18 => ?_) (fun c_18 => ?_)
    ·
      refine x_sipush (v := (-1002)) C dX4_changeSteps_32 (by decide) ?_
      have e_ret : chSteps S r h v = ((-1002), S) := by simp [chSteps, c_4, c_18]
      exact x_iret C E dX4_changeSteps_35 (by rw [e_ret]) ((rfl : _ = stW (xG cx) a S).trans (by rw [e_ret]))
    ·
      refine x_iload_n C 3 dX4_changeSteps_21 rfl rfl ?_
      refine x_bipush (v := (-50)) C dX4_changeSteps_22 (by decide) ?_
      refine x_bipush (v := 50) C dX4_changeSteps_24 (by decide) ?_
      refine x_callNRO C ([.int v, .int (-50), .int 50]) ([]) [] (na := 3) (host := "LampRacks") gX4_changeSteps_X6_isWithin_n56 (by decide +kernel) m_kX4_changeSteps_2 m_kX4_changeSteps_1 rfl (by decide +kernel) rfl (kX6_isWithin (xl cx) (xG cx) v (-50) 50) rfl (by decide) rfl rfl rfl ⟨by decide, by decide⟩ (Nat.le_of_ble_eq_true rfl) ⟨by decide, by decide⟩ dX4_changeSteps_26 ?_
      refine x_ifb_ne (P := (-50) ≤ v ∧ v ≤ 50) C 36 dX4_changeSteps_29 (by decide) (fun c_29 => ?_) (fun c_29 => ?_)
      ·
        obtain ⟨kr, h_kr, rfl⟩ := in_nat (M := 2) (m := 2) c_4 (by decide)
        refine x_aload_n C 0 dX4_changeSteps_36 rfl rfl ?_
        refine x_getf C 0 rfl rfl i_kX4_changeSteps_X4 5 (by decide) m_kX4_changeSteps_4 rfl rfl dX4_changeSteps_37 ?_
        refine x_getf C 3 rfl rfl i_kX4_changeSteps_X3 2 (by decide) m_kX4_changeSteps_6 rfl rfl dX4_changeSteps_40 ?_
        refine x_iload_n C 1 dX4_changeSteps_43 rfl rfl ?_
        refine x_iald C 14 rfl rfl (vp_in_nI (by omega) (by decide)) (congrArg (sA S 10) (nI_clamp (by omega))) dX4_changeSteps_44 ?_
        refine x_istore C [(4, .int ((sA S 10) kr)), (0, .ref (a 0)), (1, .int (nI kr)), (2, .int h), (3, .int v)] dX4_changeSteps_45 (by decide) rfl ?_
        refine x_aload_n C 1 dX4_changeSteps_47 rfl rfl ?_
        refine x_getf C 0 rfl rfl i_kX4_changeSteps_X4 5 (by decide) m_kX4_changeSteps_4 rfl rfl dX4_changeSteps_48 ?_
        refine x_getf C 3 rfl rfl i_kX4_changeSteps_X3 2 (by decide) m_kX4_changeSteps_6 rfl rfl dX4_changeSteps_51 ?_
        refine x_iload_n C 2 dX4_changeSteps_54 rfl rfl ?_
        refine x_iload_n C 3 dX4_changeSteps_55 rfl rfl ?_
        refine x_iast C M 14 rfl rfl (vp_in_nI (by omega) (by decide)) (nI_clamp (by omega)) [(a 0, .inr (4, [.int (sHr S), .int (sWv S), .int (sDv S), .ref (a 1), .ref (a 2), .ref (a 3)])), (a 1, .inr (0, [.ref (a 4), .ref (a 5)])), (a 2, .inr (2, [.int (nI (sN S)), .ref (a 6), .ref (a 7), .ref (a 8), .ref (a 9), .ref (a 10), .ref (a 11)])), (a 3, .inr (3, [.ref (a 12), .ref (a 13), .ref (a 14), .ref (a 15), .ref (a 16)])), (a 4, .inl ((xG cx).2.1, 6, .inl (sA S 0))), (a 5, .inl ((xG cx).2.1, 6, .inl (sA S 1))), (a 6, .inl ((xG cx).2.1, 60, .inl (sA S 2))), (a 7, .inl ((xG cx).2.1, 60, .inl (sA S 3))), (a 8, .inl ((xG cx).2.1, 60, .inl (sA S 4))), (a 9, .inl ((xG cx).2.1, 60, .inl (sA S 5))), (a 10, .inl ((xG cx).2.1, 60, .inl (sA S 6))), (a 11, .inl ((xG cx).2.1, 60, .inl (sA S 7))), (a 12, .inl ((xG cx).2.1, 24, .inl (sA S 8))), (a 13, .inl ((xG cx).2.1, 3, .inl (sA S 9))), (a 14, .inl ((xG cx).2.1, 3, .inl (upd (sA S 10) kr h))), (a 15, .inl ((xG cx).2.1, 3, .inl (sA S 11))), (a 16, .inl ((xG cx).2.1, 3, .inl (sA S 12)))] rfl dX4_changeSteps_56 ?_
        refine x_aload_n C 1 dX4_changeSteps_57 rfl rfl ?_
        refine x_getf C 0 rfl rfl i_kX4_changeSteps_X4 5 (by decide) m_kX4_changeSteps_4 rfl rfl dX4_changeSteps_58 ?_
        refine x_getf C 3 rfl rfl i_kX4_changeSteps_X3 3 (by decide) m_kX4_changeSteps_7 rfl rfl dX4_changeSteps_61 ?_
        refine x_iload_n C 2 dX4_changeSteps_64 rfl rfl ?_
        refine x_iload_n C 4 dX4_changeSteps_65 rfl rfl ?_
        refine x_iast C M 15 rfl rfl (vp_in_nI (by omega) (by decide)) (nI_clamp (by omega)) [(a 0, .inr (4, [.int (sHr S), .int (sWv S), .int (sDv S), .ref (a 1), .ref (a 2), .ref (a 3)])), (a 1, .inr (0, [.ref (a 4), .ref (a 5)])), (a 2, .inr (2, [.int (nI (sN S)), .ref (a 6), .ref (a 7), .ref (a 8), .ref (a 9), .ref (a 10), .ref (a 11)])), (a 3, .inr (3, [.ref (a 12), .ref (a 13), .ref (a 14), .ref (a 15), .ref (a 16)])), (a 4, .inl ((xG cx).2.1, 6, .inl (sA S 0))), (a 5, .inl ((xG cx).2.1, 6, .inl (sA S 1))), (a 6, .inl ((xG cx).2.1, 60, .inl (sA S 2))), (a 7, .inl ((xG cx).2.1, 60, .inl (sA S 3))), (a 8, .inl ((xG cx).2.1, 60, .inl (sA S 4))), (a 9, .inl ((xG cx).2.1, 60, .inl (sA S 5))), (a 10, .inl ((xG cx).2.1, 60, .inl (sA S 6))), (a 11, .inl ((xG cx).2.1, 60, .inl (sA S 7))), (a 12, .inl ((xG cx).2.1, 24, .inl (sA S 8))), (a 13, .inl ((xG cx).2.1, 3, .inl (sA S 9))), (a 14, .inl ((xG cx).2.1, 3, .inl (upd (sA S 10) kr h))), (a 15, .inl ((xG cx).2.1, 3, .inl (upd (sA S 11) kr v))), (a 16, .inl ((xG cx).2.1, 3, .inl (sA S 12)))] rfl dX4_changeSteps_66 ?_
        refine x_aload_n C 1 dX4_changeSteps_67 rfl rfl ?_
        refine x_getf C 0 rfl rfl i_kX4_changeSteps_X4 5 (by decide) m_kX4_changeSteps_4 rfl rfl dX4_changeSteps_68 ?_
        refine x_getf C 3 rfl rfl i_kX4_changeSteps_X3 4 (by decide) m_kX4_changeSteps_8 rfl rfl dX4_changeSteps_71 ?_
        refine x_iload_n C 2 dX4_changeSteps_74 rfl rfl ?_
        refine x_iconst (v := 0) C dX4_changeSteps_75 (by decide) ?_
        refine x_iast C M 16 rfl rfl (vp_in_nI (by omega) (by decide)) (nI_clamp (by omega)) [(a 0, .inr (4, [.int (sHr S), .int (sWv S), .int (sDv S), .ref (a 1), .ref (a 2), .ref (a 3)])), (a 1, .inr (0, [.ref (a 4), .ref (a 5)])), (a 2, .inr (2, [.int (nI (sN S)), .ref (a 6), .ref (a 7), .ref (a 8), .ref (a 9), .ref (a 10), .ref (a 11)])), (a 3, .inr (3, [.ref (a 12), .ref (a 13), .ref (a 14), .ref (a 15), .ref (a 16)])), (a 4, .inl ((xG cx).2.1, 6, .inl (sA S 0))), (a 5, .inl ((xG cx).2.1, 6, .inl (sA S 1))), (a 6, .inl ((xG cx).2.1, 60, .inl (sA S 2))), (a 7, .inl ((xG cx).2.1, 60, .inl (sA S 3))), (a 8, .inl ((xG cx).2.1, 60, .inl (sA S 4))), (a 9, .inl ((xG cx).2.1, 60, .inl (sA S 5))), (a 10, .inl ((xG cx).2.1, 60, .inl (sA S 6))), (a 11, .inl ((xG cx).2.1, 60, .inl (sA S 7))), (a 12, .inl ((xG cx).2.1, 24, .inl (sA S 8))), (a 13, .inl ((xG cx).2.1, 3, .inl (sA S 9))), (a 14, .inl ((xG cx).2.1, 3, .inl (upd (sA S 10) kr h))), (a 15, .inl ((xG cx).2.1, 3, .inl (upd (sA S 11) kr v))), (a 16, .inl ((xG cx).2.1, 3, .inl (upd (sA S 12) kr 0)))] rfl dX4_changeSteps_76 ?_
        refine x_iload C 0 dX4_changeSteps_77 rfl ?_
        have e_ret : chSteps S (nI kr) h v = ((sA S 10) kr, uA (uA (uA S 10 (upd (sA S 10) kr h)) 11 (upd (sA S 11) kr v)) 12 (upd (sA S 12) kr 0)) := by simp [chSteps, c_4, c_18, c_29, ix kr (by omega)]
        exact x_iret C E dX4_changeSteps_79 (by rw [e_ret]) ((rfl : _ = stW (xG cx) a (uA (uA (uA S 10 (upd (sA S 10) kr h)) 11 (upd (sA S 11) kr v)) 12 (upd (sA S 12) kr 0))).trans (by rw [e_ret]))
      ·
        refine x_sipush (v := (-1002)) C dX4_changeSteps_32 (by decide) ?_
        have e_ret : chSteps S r h v = ((-1002), S) := by simp [chSteps, c_4, c_18, c_29]
        exact x_iret C E dX4_changeSteps_35 (by rw [e_ret]) ((rfl : _ = stW (xG cx) a S).trans (by rw [e_ret]))
  ·
    refine x_sipush (v := (-1001)) C dX4_changeSteps_7 (by decide) ?_
    have e_ret : chSteps S r h v = ((-1001), S) := by simp [chSteps, c_4]
    exact x_iret C E dX4_changeSteps_10 (by rw [e_ret]) ((rfl : _ = stW (xG cx) a S).trans (by rw [e_ret]))

theorem m_kX4_changeWantedVolts_0 : (Cond.static yX6_isWithin : Cond) ∈ wsX4_changeWantedVolts := by decide +kernel
theorem m_kX4_changeWantedVolts_1 : (Cond.initialized RX6 : Cond) ∈ wsX4_changeWantedVolts := by decide +kernel
theorem i_kX4_changeWantedVolts_X4 : ∀ w ∈ u_ws RX4 TX4 6, w ∈ wsX4_changeWantedVolts := by decide +kernel
theorem m_kX4_changeWantedVolts_3 : (Cond.fieldLink RX4 15 "LampRacks$State" "wantedVolts" "I" : Cond) ∈ wsX4_changeWantedVolts := by decide +kernel
set_option maxRecDepth 100000 in
set_option maxHeartbeats 4000000 in
theorem kX4_changeWantedVolts (l : Launch) (G : GG) (a : Nat → Nat) (S : SC) (v : Int32)  : MU l G yX4_changeWantedVolts wsX4_changeWantedVolts ({ frames := 1, cells := 0, slots := 0, locals := 22 } : Room) [.ref (a 0), .int v] (stW G a S) (some (.int ((chWv S v).1))) (stW G a ((chWv S v).2)) := by
  refine MU.of (cc := cX4_changeWantedVolts) (maxL := 3) (ret := (some .int)) (by decide) rfl (Nat.le_of_ble_eq_true rfl) ?_
  intro cx hxl hxG C M E
  subst hxl
  subst hxG
  show X cx (0, 0) [(a 0, .inr (4, [.int (sHr S), .int (sWv S), .int (sDv S), .ref (a 1), .ref (a 2), .ref (a 3)])), (a 1, .inr (0, [.ref (a 4), .ref (a 5)])), (a 2, .inr (2, [.int (nI (sN S)), .ref (a 6), .ref (a 7), .ref (a 8), .ref (a 9), .ref (a 10), .ref (a 11)])), (a 3, .inr (3, [.ref (a 12), .ref (a 13), .ref (a 14), .ref (a 15), .ref (a 16)])), (a 4, .inl ((xG cx).2.1, 6, .inl (sA S 0))), (a 5, .inl ((xG cx).2.1, 6, .inl (sA S 1))), (a 6, .inl ((xG cx).2.1, 60, .inl (sA S 2))), (a 7, .inl ((xG cx).2.1, 60, .inl (sA S 3))), (a 8, .inl ((xG cx).2.1, 60, .inl (sA S 4))), (a 9, .inl ((xG cx).2.1, 60, .inl (sA S 5))), (a 10, .inl ((xG cx).2.1, 60, .inl (sA S 6))), (a 11, .inl ((xG cx).2.1, 60, .inl (sA S 7))), (a 12, .inl ((xG cx).2.1, 24, .inl (sA S 8))), (a 13, .inl ((xG cx).2.1, 3, .inl (sA S 9))), (a 14, .inl ((xG cx).2.1, 3, .inl (sA S 10))), (a 15, .inl ((xG cx).2.1, 3, .inl (sA S 11))), (a 16, .inl ((xG cx).2.1, 3, .inl (sA S 12)))] [(0, .ref (a 0)), (1, .int v)] 0 []
  refine x_iload_n C 1 dX4_changeWantedVolts_0 rfl rfl ?_
  refine x_bipush (v := 100) C dX4_changeWantedVolts_1 (by decide) ?_
  refine x_sipush (v := 300) C dX4_changeWantedVolts_3 (by decide) ?_
  refine x_callNRO C ([.int v, .int 100, .int 300]) ([]) [] (na := 3) (host := "LampRacks") gX4_changeWantedVolts_X6_isWithin_n56 (by decide +kernel) m_kX4_changeWantedVolts_0 m_kX4_changeWantedVolts_1 rfl (by decide +kernel) rfl (kX6_isWithin (xl cx) (xG cx) v 100 300) rfl (by decide) rfl rfl rfl ⟨by decide, by decide⟩ (Nat.le_of_ble_eq_true rfl) ⟨by decide, by decide⟩ dX4_changeWantedVolts_6 ?_
  refine x_ifb_ne (P := 100 ≤ v ∧ v ≤ 300) C 16 dX4_changeWantedVolts_9 (by decide) (fun c_9 => ?_) (fun c_9 => ?_)
  ·
    refine x_aload_n C 0 dX4_changeWantedVolts_16 rfl rfl ?_
    refine x_getf C 0 rfl rfl i_kX4_changeWantedVolts_X4 1 (by decide) m_kX4_changeWantedVolts_3 rfl rfl dX4_changeWantedVolts_17 ?_
    refine x_istore_n C [(2, .int (sWv S)), (0, .ref (a 0)), (1, .int v)] dX4_changeWantedVolts_20 rfl (by decide) rfl ?_
    refine x_aload_n C 1 dX4_changeWantedVolts_21 rfl rfl ?_
    refine x_iload_n C 2 dX4_changeWantedVolts_22 rfl rfl ?_
    refine x_putf (ty := .int) C M 0 rfl rfl i_kX4_changeWantedVolts_X4 1 (by decide) m_kX4_changeWantedVolts_3 rfl rfl tyX4 tyX4_ok nmX4 (by decide +kernel) rfl rfl (Nat.le_of_ble_eq_true rfl) [(a 0, .inr (4, [.int (sHr S), .int v, .int (sDv S), .ref (a 1), .ref (a 2), .ref (a 3)])), (a 1, .inr (0, [.ref (a 4), .ref (a 5)])), (a 2, .inr (2, [.int (nI (sN S)), .ref (a 6), .ref (a 7), .ref (a 8), .ref (a 9), .ref (a 10), .ref (a 11)])), (a 3, .inr (3, [.ref (a 12), .ref (a 13), .ref (a 14), .ref (a 15), .ref (a 16)])), (a 4, .inl ((xG cx).2.1, 6, .inl (sA S 0))), (a 5, .inl ((xG cx).2.1, 6, .inl (sA S 1))), (a 6, .inl ((xG cx).2.1, 60, .inl (sA S 2))), (a 7, .inl ((xG cx).2.1, 60, .inl (sA S 3))), (a 8, .inl ((xG cx).2.1, 60, .inl (sA S 4))), (a 9, .inl ((xG cx).2.1, 60, .inl (sA S 5))), (a 10, .inl ((xG cx).2.1, 60, .inl (sA S 6))), (a 11, .inl ((xG cx).2.1, 60, .inl (sA S 7))), (a 12, .inl ((xG cx).2.1, 24, .inl (sA S 8))), (a 13, .inl ((xG cx).2.1, 3, .inl (sA S 9))), (a 14, .inl ((xG cx).2.1, 3, .inl (sA S 10))), (a 15, .inl ((xG cx).2.1, 3, .inl (sA S 11))), (a 16, .inl ((xG cx).2.1, 3, .inl (sA S 12)))] rfl dX4_changeWantedVolts_23 ?_
    refine x_iload_n C 0 dX4_changeWantedVolts_26 rfl rfl ?_
    refine x_iload_n C 2 dX4_changeWantedVolts_27 rfl rfl ?_
    refine x_icmp_ne C 37 dX4_changeWantedVolts_28 (by decide) (fun c_28 => ?_) (fun c_28 => ?_)
    ·
      refine x_iload_n C 0 dX4_changeWantedVolts_37 rfl rfl ?_
      have e_ret : chWv S v = (sWv S, uWv S v) := by simp [chWv, c_9, c_28]
      exact x_iret C E dX4_changeWantedVolts_38 (by rw [e_ret]) ((rfl : _ = stW (xG cx) a (uWv S v)).trans (by rw [e_ret]))
    ·
      refine x_sipush (v := (-1005)) C dX4_changeWantedVolts_31 (by decide) ?_
      refine x_goto (tgt := 38) C dX4_changeWantedVolts_34 (by decide) ?_
      have e_ret : chWv S v = ((-1005), uWv S v) := by simp [chWv, c_9, c_28]
      exact x_iret C E dX4_changeWantedVolts_38 (by rw [e_ret]) ((rfl : _ = stW (xG cx) a (uWv S v)).trans (by rw [e_ret]))
  ·
    refine x_sipush (v := (-1002)) C dX4_changeWantedVolts_12 (by decide) ?_
    have e_ret : chWv S v = ((-1002), S) := by simp [chWv, c_9]
    exact x_iret C E dX4_changeWantedVolts_15 (by rw [e_ret]) ((rfl : _ = stW (xG cx) a S).trans (by rw [e_ret]))

theorem m_kX4_changeDoublingVolts_0 : (Cond.static yX6_isWithin : Cond) ∈ wsX4_changeDoublingVolts := by decide +kernel
theorem m_kX4_changeDoublingVolts_1 : (Cond.initialized RX6 : Cond) ∈ wsX4_changeDoublingVolts := by decide +kernel
theorem i_kX4_changeDoublingVolts_X4 : ∀ w ∈ u_ws RX4 TX4 6, w ∈ wsX4_changeDoublingVolts := by decide +kernel
theorem m_kX4_changeDoublingVolts_3 : (Cond.fieldLink RX4 18 "LampRacks$State" "doublingVolts" "I" : Cond) ∈ wsX4_changeDoublingVolts := by decide +kernel
set_option maxRecDepth 100000 in
set_option maxHeartbeats 4000000 in
theorem kX4_changeDoublingVolts (l : Launch) (G : GG) (a : Nat → Nat) (S : SC) (v : Int32)  : MU l G yX4_changeDoublingVolts wsX4_changeDoublingVolts ({ frames := 1, cells := 0, slots := 0, locals := 22 } : Room) [.ref (a 0), .int v] (stW G a S) (some (.int ((chDv S v).1))) (stW G a ((chDv S v).2)) := by
  refine MU.of (cc := cX4_changeDoublingVolts) (maxL := 3) (ret := (some .int)) (by decide) rfl (Nat.le_of_ble_eq_true rfl) ?_
  intro cx hxl hxG C M E
  subst hxl
  subst hxG
  show X cx (0, 0) [(a 0, .inr (4, [.int (sHr S), .int (sWv S), .int (sDv S), .ref (a 1), .ref (a 2), .ref (a 3)])), (a 1, .inr (0, [.ref (a 4), .ref (a 5)])), (a 2, .inr (2, [.int (nI (sN S)), .ref (a 6), .ref (a 7), .ref (a 8), .ref (a 9), .ref (a 10), .ref (a 11)])), (a 3, .inr (3, [.ref (a 12), .ref (a 13), .ref (a 14), .ref (a 15), .ref (a 16)])), (a 4, .inl ((xG cx).2.1, 6, .inl (sA S 0))), (a 5, .inl ((xG cx).2.1, 6, .inl (sA S 1))), (a 6, .inl ((xG cx).2.1, 60, .inl (sA S 2))), (a 7, .inl ((xG cx).2.1, 60, .inl (sA S 3))), (a 8, .inl ((xG cx).2.1, 60, .inl (sA S 4))), (a 9, .inl ((xG cx).2.1, 60, .inl (sA S 5))), (a 10, .inl ((xG cx).2.1, 60, .inl (sA S 6))), (a 11, .inl ((xG cx).2.1, 60, .inl (sA S 7))), (a 12, .inl ((xG cx).2.1, 24, .inl (sA S 8))), (a 13, .inl ((xG cx).2.1, 3, .inl (sA S 9))), (a 14, .inl ((xG cx).2.1, 3, .inl (sA S 10))), (a 15, .inl ((xG cx).2.1, 3, .inl (sA S 11))), (a 16, .inl ((xG cx).2.1, 3, .inl (sA S 12)))] [(0, .ref (a 0)), (1, .int v)] 0 []
  refine x_iload_n C 1 dX4_changeDoublingVolts_0 rfl rfl ?_
  refine x_iconst (v := 1) C dX4_changeDoublingVolts_1 (by decide) ?_
  refine x_bipush (v := 100) C dX4_changeDoublingVolts_2 (by decide) ?_
  refine x_callNRO C ([.int v, .int 1, .int 100]) ([]) [] (na := 3) (host := "LampRacks") gX4_changeDoublingVolts_X6_isWithin_n56 (by decide +kernel) m_kX4_changeDoublingVolts_0 m_kX4_changeDoublingVolts_1 rfl (by decide +kernel) rfl (kX6_isWithin (xl cx) (xG cx) v 1 100) rfl (by decide) rfl rfl rfl ⟨by decide, by decide⟩ (Nat.le_of_ble_eq_true rfl) ⟨by decide, by decide⟩ dX4_changeDoublingVolts_4 ?_
  refine x_ifb_ne (P := 1 ≤ v ∧ v ≤ 100) C 14 dX4_changeDoublingVolts_7 (by decide) (fun c_7 => ?_) (fun c_7 => ?_)
  ·
    refine x_aload_n C 0 dX4_changeDoublingVolts_14 rfl rfl ?_
    refine x_getf C 0 rfl rfl i_kX4_changeDoublingVolts_X4 2 (by decide) m_kX4_changeDoublingVolts_3 rfl rfl dX4_changeDoublingVolts_15 ?_
    refine x_istore_n C [(2, .int (sDv S)), (0, .ref (a 0)), (1, .int v)] dX4_changeDoublingVolts_18 rfl (by decide) rfl ?_
    refine x_aload_n C 1 dX4_changeDoublingVolts_19 rfl rfl ?_
    refine x_iload_n C 2 dX4_changeDoublingVolts_20 rfl rfl ?_
    refine x_putf (ty := .int) C M 0 rfl rfl i_kX4_changeDoublingVolts_X4 2 (by decide) m_kX4_changeDoublingVolts_3 rfl rfl tyX4 tyX4_ok nmX4 (by decide +kernel) rfl rfl (Nat.le_of_ble_eq_true rfl) [(a 0, .inr (4, [.int (sHr S), .int (sWv S), .int v, .ref (a 1), .ref (a 2), .ref (a 3)])), (a 1, .inr (0, [.ref (a 4), .ref (a 5)])), (a 2, .inr (2, [.int (nI (sN S)), .ref (a 6), .ref (a 7), .ref (a 8), .ref (a 9), .ref (a 10), .ref (a 11)])), (a 3, .inr (3, [.ref (a 12), .ref (a 13), .ref (a 14), .ref (a 15), .ref (a 16)])), (a 4, .inl ((xG cx).2.1, 6, .inl (sA S 0))), (a 5, .inl ((xG cx).2.1, 6, .inl (sA S 1))), (a 6, .inl ((xG cx).2.1, 60, .inl (sA S 2))), (a 7, .inl ((xG cx).2.1, 60, .inl (sA S 3))), (a 8, .inl ((xG cx).2.1, 60, .inl (sA S 4))), (a 9, .inl ((xG cx).2.1, 60, .inl (sA S 5))), (a 10, .inl ((xG cx).2.1, 60, .inl (sA S 6))), (a 11, .inl ((xG cx).2.1, 60, .inl (sA S 7))), (a 12, .inl ((xG cx).2.1, 24, .inl (sA S 8))), (a 13, .inl ((xG cx).2.1, 3, .inl (sA S 9))), (a 14, .inl ((xG cx).2.1, 3, .inl (sA S 10))), (a 15, .inl ((xG cx).2.1, 3, .inl (sA S 11))), (a 16, .inl ((xG cx).2.1, 3, .inl (sA S 12)))] rfl dX4_changeDoublingVolts_21 ?_
    refine x_iload_n C 0 dX4_changeDoublingVolts_24 rfl rfl ?_
    refine x_iload_n C 2 dX4_changeDoublingVolts_25 rfl rfl ?_
    refine x_icmp_ne C 35 dX4_changeDoublingVolts_26 (by decide) (fun c_26 => ?_) (fun c_26 => ?_)
    ·
      refine x_iload_n C 0 dX4_changeDoublingVolts_35 rfl rfl ?_
      have e_ret : chDv S v = (sDv S, uDv S v) := by simp [chDv, c_7, c_26]
      exact x_iret C E dX4_changeDoublingVolts_36 (by rw [e_ret]) ((rfl : _ = stW (xG cx) a (uDv S v)).trans (by rw [e_ret]))
    ·
      refine x_sipush (v := (-1005)) C dX4_changeDoublingVolts_29 (by decide) ?_
      refine x_goto (tgt := 36) C dX4_changeDoublingVolts_32 (by decide) ?_
      have e_ret : chDv S v = ((-1005), uDv S v) := by simp [chDv, c_7, c_26]
      exact x_iret C E dX4_changeDoublingVolts_36 (by rw [e_ret]) ((rfl : _ = stW (xG cx) a (uDv S v)).trans (by rw [e_ret]))
  ·
    refine x_sipush (v := (-1002)) C dX4_changeDoublingVolts_10 (by decide) ?_
    have e_ret : chDv S v = ((-1002), S) := by simp [chDv, c_7]
    exact x_iret C E dX4_changeDoublingVolts_13 (by rw [e_ret]) ((rfl : _ = stW (xG cx) a S).trans (by rw [e_ret]))

set_option maxRecDepth 100000 in
set_option maxHeartbeats 4000000 in
theorem kX4_changeSetting (l : Launch) (G : GG) (a : Nat → Nat) (S : SC) (w : Int32) (v : Int32)  : MU l G yX4_changeSetting wsX4_changeSetting ({ frames := 2, cells := 0, slots := 0, locals := 44 } : Room) [.ref (a 0), .int w, .int v] (stW G a S) (some (.int ((chSet S w v).1))) (stW G a ((chSet S w v).2)) := by
  refine MU.of (cc := cX4_changeSetting) (maxL := 3) (ret := (some .int)) (by decide) rfl (Nat.le_of_ble_eq_true rfl) ?_
  intro cx hxl hxG C M E
  subst hxl
  subst hxG
  show X cx (0, 0) [(a 0, .inr (4, [.int (sHr S), .int (sWv S), .int (sDv S), .ref (a 1), .ref (a 2), .ref (a 3)])), (a 1, .inr (0, [.ref (a 4), .ref (a 5)])), (a 2, .inr (2, [.int (nI (sN S)), .ref (a 6), .ref (a 7), .ref (a 8), .ref (a 9), .ref (a 10), .ref (a 11)])), (a 3, .inr (3, [.ref (a 12), .ref (a 13), .ref (a 14), .ref (a 15), .ref (a 16)])), (a 4, .inl ((xG cx).2.1, 6, .inl (sA S 0))), (a 5, .inl ((xG cx).2.1, 6, .inl (sA S 1))), (a 6, .inl ((xG cx).2.1, 60, .inl (sA S 2))), (a 7, .inl ((xG cx).2.1, 60, .inl (sA S 3))), (a 8, .inl ((xG cx).2.1, 60, .inl (sA S 4))), (a 9, .inl ((xG cx).2.1, 60, .inl (sA S 5))), (a 10, .inl ((xG cx).2.1, 60, .inl (sA S 6))), (a 11, .inl ((xG cx).2.1, 60, .inl (sA S 7))), (a 12, .inl ((xG cx).2.1, 24, .inl (sA S 8))), (a 13, .inl ((xG cx).2.1, 3, .inl (sA S 9))), (a 14, .inl ((xG cx).2.1, 3, .inl (sA S 10))), (a 15, .inl ((xG cx).2.1, 3, .inl (sA S 11))), (a 16, .inl ((xG cx).2.1, 3, .inl (sA S 12)))] [(0, .ref (a 0)), (1, .int w), (2, .int v)] 0 []
  refine x_iload_n C 1 dX4_changeSetting_0 rfl rfl ?_
  refine x_lsw C dX4_changeSetting_1 (by decide) [(0, 28), (1, 34)] 40 (by decide) (by decide) ⟨fun c_1 => ?_, fun c_1 => ?_, trivial⟩ (fun c_1 => ?_)
  ·
    have e_1 : w = 0 := Int32.toInt_inj.mp (by rw [c_1]; rfl)
    refine x_aload_n C 0 dX4_changeSetting_28 rfl rfl ?_
    refine x_iload_n C 2 dX4_changeSetting_29 rfl rfl ?_
    refine x_callVMU C ([.int v]) ([]) [0, 1, 2, 3, 4, 5, 6, 7, 8, 9, 10, 11, 12, 13, 14, 15, 16] [(a 0, .inr (4, [.int (sHr ((chWv S v).2)), .int (sWv ((chWv S v).2)), .int (sDv ((chWv S v).2)), .ref (a 1), .ref (a 2), .ref (a 3)])), (a 1, .inr (0, [.ref (a 4), .ref (a 5)])), (a 2, .inr (2, [.int (nI (sN ((chWv S v).2))), .ref (a 6), .ref (a 7), .ref (a 8), .ref (a 9), .ref (a 10), .ref (a 11)])), (a 3, .inr (3, [.ref (a 12), .ref (a 13), .ref (a 14), .ref (a 15), .ref (a 16)])), (a 4, .inl ((xG cx).2.1, 6, .inl (sA ((chWv S v).2) 0))), (a 5, .inl ((xG cx).2.1, 6, .inl (sA ((chWv S v).2) 1))), (a 6, .inl ((xG cx).2.1, 60, .inl (sA ((chWv S v).2) 2))), (a 7, .inl ((xG cx).2.1, 60, .inl (sA ((chWv S v).2) 3))), (a 8, .inl ((xG cx).2.1, 60, .inl (sA ((chWv S v).2) 4))), (a 9, .inl ((xG cx).2.1, 60, .inl (sA ((chWv S v).2) 5))), (a 10, .inl ((xG cx).2.1, 60, .inl (sA ((chWv S v).2) 6))), (a 11, .inl ((xG cx).2.1, 60, .inl (sA ((chWv S v).2) 7))), (a 12, .inl ((xG cx).2.1, 24, .inl (sA ((chWv S v).2) 8))), (a 13, .inl ((xG cx).2.1, 3, .inl (sA ((chWv S v).2) 9))), (a 14, .inl ((xG cx).2.1, 3, .inl (sA ((chWv S v).2) 10))), (a 15, .inl ((xG cx).2.1, 3, .inl (sA ((chWv S v).2) 11))), (a 16, .inl ((xG cx).2.1, 3, .inl (sA ((chWv S v).2) 12)))] [] [a 0, a 1, a 2, a 3, a 4, a 5, a 6, a 7, a 8, a 9, a 10, a 11, a 12, a 13, a 14, a 15, a 16] rfl rfl [] rfl rfl 17 rfl (by decide +kernel) rfl (k0 := 0) (na := 1) gX4_changeSetting_X4_changeWantedVolts rfl (by decide +kernel) rfl rfl rfl M (kX4_changeWantedVolts (xl cx) (xG cx) a S v) rfl (by decide) rfl rfl rfl ⟨by decide, by decide⟩ (Nat.le_of_ble_eq_true rfl) ⟨by decide, by decide⟩ dX4_changeSetting_30 ?_
    have e_ret : chSet S w v = ((chWv S v).1, (chWv S v).2) := by simp [chSet, e_1]
    exact x_iret C E dX4_changeSetting_33 (by rw [e_ret]) ((rfl : _ = stW (xG cx) a ((chWv S v).2)).trans (by rw [e_ret]))
  ·
    have e_1 : w = 1 := Int32.toInt_inj.mp (by rw [c_1]; rfl)
    refine x_aload_n C 0 dX4_changeSetting_34 rfl rfl ?_
    refine x_iload_n C 2 dX4_changeSetting_35 rfl rfl ?_
    refine x_callVMU C ([.int v]) ([]) [0, 1, 2, 3, 4, 5, 6, 7, 8, 9, 10, 11, 12, 13, 14, 15, 16] [(a 0, .inr (4, [.int (sHr ((chDv S v).2)), .int (sWv ((chDv S v).2)), .int (sDv ((chDv S v).2)), .ref (a 1), .ref (a 2), .ref (a 3)])), (a 1, .inr (0, [.ref (a 4), .ref (a 5)])), (a 2, .inr (2, [.int (nI (sN ((chDv S v).2))), .ref (a 6), .ref (a 7), .ref (a 8), .ref (a 9), .ref (a 10), .ref (a 11)])), (a 3, .inr (3, [.ref (a 12), .ref (a 13), .ref (a 14), .ref (a 15), .ref (a 16)])), (a 4, .inl ((xG cx).2.1, 6, .inl (sA ((chDv S v).2) 0))), (a 5, .inl ((xG cx).2.1, 6, .inl (sA ((chDv S v).2) 1))), (a 6, .inl ((xG cx).2.1, 60, .inl (sA ((chDv S v).2) 2))), (a 7, .inl ((xG cx).2.1, 60, .inl (sA ((chDv S v).2) 3))), (a 8, .inl ((xG cx).2.1, 60, .inl (sA ((chDv S v).2) 4))), (a 9, .inl ((xG cx).2.1, 60, .inl (sA ((chDv S v).2) 5))), (a 10, .inl ((xG cx).2.1, 60, .inl (sA ((chDv S v).2) 6))), (a 11, .inl ((xG cx).2.1, 60, .inl (sA ((chDv S v).2) 7))), (a 12, .inl ((xG cx).2.1, 24, .inl (sA ((chDv S v).2) 8))), (a 13, .inl ((xG cx).2.1, 3, .inl (sA ((chDv S v).2) 9))), (a 14, .inl ((xG cx).2.1, 3, .inl (sA ((chDv S v).2) 10))), (a 15, .inl ((xG cx).2.1, 3, .inl (sA ((chDv S v).2) 11))), (a 16, .inl ((xG cx).2.1, 3, .inl (sA ((chDv S v).2) 12)))] [] [a 0, a 1, a 2, a 3, a 4, a 5, a 6, a 7, a 8, a 9, a 10, a 11, a 12, a 13, a 14, a 15, a 16] rfl rfl [] rfl rfl 17 rfl (by decide +kernel) rfl (k0 := 0) (na := 1) gX4_changeSetting_X4_changeDoublingVolts rfl (by decide +kernel) rfl rfl rfl M (kX4_changeDoublingVolts (xl cx) (xG cx) a S v) rfl (by decide) rfl rfl rfl ⟨by decide, by decide⟩ (Nat.le_of_ble_eq_true rfl) ⟨by decide, by decide⟩ dX4_changeSetting_36 ?_
    have e_ret : chSet S w v = ((chDv S v).1, (chDv S v).2) := by simp [chSet, e_1]
    exact x_iret C E dX4_changeSetting_39 (by rw [e_ret]) ((rfl : _ = stW (xG cx) a ((chDv S v).2)).trans (by rw [e_ret]))
  ·
    have d_1_0 : ¬ w = 0 := fun q => c_1 (0, 28) (by simp) (by rw [q]; rfl)
    have d_1_1 : ¬ w = 1 := fun q => c_1 (1, 34) (by simp) (by rw [q]; rfl)
    refine x_sipush (v := (-1001)) C dX4_changeSetting_40 (by decide) ?_
    have e_ret : chSet S w v = ((-1001), S) := by simp [chSet, d_1_0, d_1_1]
    exact x_iret C E dX4_changeSetting_43 (by rw [e_ret]) ((rfl : _ = stW (xG cx) a S).trans (by rw [e_ret]))

theorem i_kX4_wearOfHour_X4 : ∀ w ∈ u_ws RX4 TX4 6, w ∈ wsX4_wearOfHour := by decide +kernel
theorem m_kX4_wearOfHour_1 : (Cond.fieldLink RX4 15 "LampRacks$State" "wantedVolts" "I" : Cond) ∈ wsX4_wearOfHour := by decide +kernel
theorem m_kX4_wearOfHour_2 : (Cond.fieldLink RX4 18 "LampRacks$State" "doublingVolts" "I" : Cond) ∈ wsX4_wearOfHour := by decide +kernel
theorem m_kX4_wearOfHour_3 : (Cond.methodLink RX4 130 Lib.Math.max.name : Cond) ∈ wsX4_wearOfHour := by decide +kernel
theorem m_kX4_wearOfHour_4 : (Cond.static Lib.Math.max.name : Cond) ∈ wsX4_wearOfHour := by decide +kernel
theorem m_kX4_wearOfHour_5 : (Cond.initialized "java/lang/Math" : Cond) ∈ wsX4_wearOfHour := by decide +kernel
theorem m_kX4_wearOfHour_6 : (Cond.code Lib.Math.max.name Lib.Math.max.code 2 (some .int) : Cond) ∈ wsX4_wearOfHour := by decide +kernel
set_option maxRecDepth 100000 in
set_option maxHeartbeats 4000000 in
theorem kX4_wearOfHour (l : Launch) (G : GG) (a : Nat → Nat) (S : SC) (x : Int32) (h : Int32)  : RO l G yX4_wearOfHour wsX4_wearOfHour ({ frames := 1, cells := 0, slots := 0, locals := 14 } : Room) [.ref (a 0), .int x, .int h] (stW G a S) (.int (wrH (sWv S) (sDv S) x h)) := by
  refine RO.of (cc := cX4_wearOfHour) (maxL := 5) (ret := (some .int)) (by decide) rfl (Nat.le_of_ble_eq_true rfl) ?_
  intro cx hxl hxG C E
  subst hxl
  subst hxG
  show X cx (0, 0) [(a 0, .inr (4, [.int (sHr S), .int (sWv S), .int (sDv S), .ref (a 1), .ref (a 2), .ref (a 3)])), (a 1, .inr (0, [.ref (a 4), .ref (a 5)])), (a 2, .inr (2, [.int (nI (sN S)), .ref (a 6), .ref (a 7), .ref (a 8), .ref (a 9), .ref (a 10), .ref (a 11)])), (a 3, .inr (3, [.ref (a 12), .ref (a 13), .ref (a 14), .ref (a 15), .ref (a 16)])), (a 4, .inl ((xG cx).2.1, 6, .inl (sA S 0))), (a 5, .inl ((xG cx).2.1, 6, .inl (sA S 1))), (a 6, .inl ((xG cx).2.1, 60, .inl (sA S 2))), (a 7, .inl ((xG cx).2.1, 60, .inl (sA S 3))), (a 8, .inl ((xG cx).2.1, 60, .inl (sA S 4))), (a 9, .inl ((xG cx).2.1, 60, .inl (sA S 5))), (a 10, .inl ((xG cx).2.1, 60, .inl (sA S 6))), (a 11, .inl ((xG cx).2.1, 60, .inl (sA S 7))), (a 12, .inl ((xG cx).2.1, 24, .inl (sA S 8))), (a 13, .inl ((xG cx).2.1, 3, .inl (sA S 9))), (a 14, .inl ((xG cx).2.1, 3, .inl (sA S 10))), (a 15, .inl ((xG cx).2.1, 3, .inl (sA S 11))), (a 16, .inl ((xG cx).2.1, 3, .inl (sA S 12)))] [(0, .ref (a 0)), (1, .int x), (2, .int h)] 0 []
  refine x_bipush (v := 10) C dX4_wearOfHour_0 (by decide) ?_
  refine x_iload_n C 1 dX4_wearOfHour_2 rfl rfl ?_
  refine x_aload_n C 0 dX4_wearOfHour_3 rfl rfl ?_
  refine x_getf C 0 rfl rfl i_kX4_wearOfHour_X4 1 (by decide) m_kX4_wearOfHour_1 rfl rfl dX4_wearOfHour_4 ?_
  refine x_isub C (rfl) dX4_wearOfHour_7 ?_
  refine x_imul C (rfl) dX4_wearOfHour_8 ?_
  refine x_iconst (v := 1) C dX4_wearOfHour_9 (by decide) ?_
  refine x_aload_n C 0 dX4_wearOfHour_10 rfl rfl ?_
  refine x_getf C 0 rfl rfl i_kX4_wearOfHour_X4 2 (by decide) m_kX4_wearOfHour_2 rfl rfl dX4_wearOfHour_11 ?_
  refine x_mmax C m_kX4_wearOfHour_3 m_kX4_wearOfHour_4 m_kX4_wearOfHour_5 m_kX4_wearOfHour_6 ⟨by decide, Nat.le_of_ble_eq_true rfl, by decide, by decide⟩ dX4_wearOfHour_14 ?_
  refine x_top (y := mx1 (sDv S)) (rfl) ?_
  refine x_idiv C (rfl) dX4_wearOfHour_17 (mx1_ne _) ?_
  refine x_istore_n C [(3, .int ((10 * (x - (sWv S))) / (mx1 (sDv S)))), (0, .ref (a 0)), (1, .int x), (2, .int h)] dX4_wearOfHour_18 rfl (by decide) rfl ?_
  refine x_iconst (v := 1) C dX4_wearOfHour_19 (by decide) ?_
  refine x_bipush (v := 10) C dX4_wearOfHour_20 (by decide) ?_
  refine x_iload_n C 0 dX4_wearOfHour_22 rfl rfl ?_
  refine x_iadd C (rfl) dX4_wearOfHour_23 ?_
  refine x_mmax C m_kX4_wearOfHour_3 m_kX4_wearOfHour_4 m_kX4_wearOfHour_5 m_kX4_wearOfHour_6 ⟨by decide, Nat.le_of_ble_eq_true rfl, by decide, by decide⟩ dX4_wearOfHour_24 ?_
  refine x_top (y := wr1 (sWv S) (sDv S) x) (rfl) ?_
  refine x_istore C [(4, .int (wr1 (sWv S) (sDv S) x)), (3, .int ((10 * (x - (sWv S))) / (mx1 (sDv S)))), (0, .ref (a 0)), (1, .int x), (2, .int h)] dX4_wearOfHour_27 (by decide) rfl ?_
  refine x_iload_n C 4 dX4_wearOfHour_29 rfl rfl ?_
  refine x_if_eq C 44 dX4_wearOfHour_30 (by decide) (fun c_30 => ?_) (fun c_30 => ?_)
  ·
    refine x_iload C 0 dX4_wearOfHour_44 rfl ?_
    exact x_iret C E dX4_wearOfHour_46 (by simp [wrH, c_30]) (rfl)
  ·
    refine x_iload C 0 dX4_wearOfHour_33 rfl ?_
    refine x_iload C 0 dX4_wearOfHour_35 rfl ?_
    refine x_bipush (v := 10) C dX4_wearOfHour_37 (by decide) ?_
    refine x_idiv C (rfl) dX4_wearOfHour_39 (by decide) ?_
    refine x_iadd C (rfl) dX4_wearOfHour_40 ?_
    refine x_goto (tgt := 46) C dX4_wearOfHour_41 (by decide) ?_
    exact x_iret C E dX4_wearOfHour_46 (by simp [wrH, c_30]) (rfl)
