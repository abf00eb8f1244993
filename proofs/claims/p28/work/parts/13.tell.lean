theorem in_lamps {x : Int32} {n : Nat} (hn : n ≤ 60) (h : 0 ≤ x ∧ x ≤ nI n - 1) : ∃ k, k < n ∧ x = nI k := by
  have h0 := Int32.le_iff_toInt_le.mp h.1
  have e0 : (0 : Int32).toInt = 0 := by decide
  rcases Nat.eq_zero_or_pos n with h1 | h1
  · subst h1
    have h2 := Int32.le_iff_toInt_le.mp h.2
    have e1 : (nI 0 - 1).toInt = -1 := by decide
    omega
  · have e : nI n - 1 = nI (n - 1) := pk_sub (a := n) (b := 1) h1
    have h2 := h.2
    rw [e] at h2
    obtain ⟨k, hk, e2⟩ := nI_of2 (n := n - 1) (nI_toInt (by omega)) (fun q => by have := Int32.lt_iff_toInt_lt.mp q; omega) h2
    exact ⟨k, by omega, e2⟩
def deadN (S : SC) (x : Int32) : Int32 := cnt (fun j => sA S 2 j = x ∧ sA S 7 j ≠ -1) (sN S)
def erlN (S : SC) (x h : Int32) : Int32 := cnt (fun j => (sA S 2 j = x ∧ sA S 7 j ≠ -1) ∧ sA S 5 j / 10 < h) (sN S)
def allN (S : SC) (x : Int32) : Int32 := cnt (fun j => sA S 2 j = x) (sN S)
def midN (S : SC) (x : Int32) : Int32 := (fun (fb fw fe : Nat → Int32) (n : Nat) => fsv (fun j => (fb j = x ∧ fe j ≠ -1) ∧ cnt (fun o => (fb o = x ∧ fe o ≠ -1) ∧ (fw o / 10 < fw j / 10 ∨ (fw o / 10 = fw j / 10 ∧ o < j))) n = (cnt (fun o => fb o = x) n + 1) / 2 - 1) (fun j => fw j / 10) (-1005) n 0) (sA S 2) (sA S 5) (sA S 7) (sN S)
def inRk (S : SC) (r : Nat) (fl : Int32) : Int32 := cnt (fun p => sA S 8 (r * 8 + p) ≠ -1 ∧ (fl ≠ 0 ∨ ¬ sA S 7 (ixz (sA S 8 (r * 8 + p))) ≠ -1)) 8
def tlS (S : SC) (x w : Int32) : Int32 :=
  if 0 ≤ x ∧ x ≤ nI (sN S) - 1 then
    if w = 0 then sA S 2 (ixz x) else if w = 1 then (if sA S 3 (ixz x) = -1 then -1005 else sA S 3 (ixz x) / 8)
    else if w = 2 then (if sA S 3 (ixz x) = -1 then -1005 else sA S 3 (ixz x) - sA S 3 (ixz x) / 8 * 8)
    else if w = 3 then sA S 4 (ixz x) else if w = 4 then sA S 5 (ixz x) else if w = 5 then sA S 6 (ixz x) else if w = 6 then sA S 5 (ixz x) / 10
    else if w = 7 then b2i (sA S 7 (ixz x) ≠ -1) else if w = 8 then (if sA S 7 (ixz x) ≠ -1 then sA S 7 (ixz x) else -1005)
    else if w = 9 then b2i (shr x = 9) else -1002
  else -1001
def trS (S : SC) (r w : Int32) : Int32 :=
  if 0 ≤ r ∧ r ≤ 2 then
    if w = 0 then sA S 9 (ixz r) else if w = 1 then inRk S (ixz r) 1 else if w = 2 then inRk S (ixz r) 0
    else if w = 3 then (if sA S 9 (ixz r) = 0 then 0 else wrH (sWv S) (sDv S) (sA S 9 (ixz r)) 0)
    else if w = 4 then (if sA S 9 (ixz r) = 0 then 0 else wrH (sWv S) (sDv S) (sA S 9 (ixz r)) 1)
    else if w = 5 then sA S 10 (ixz r) else if w = 6 then sA S 11 (ixz r) else if w = 7 then hTS (sA S 10 (ixz r)) (sA S 12 (ixz r)) else -1002
  else -1001
def tbS (S : SC) (b w : Int32) : Int32 :=
  if 0 ≤ b ∧ b ≤ 5 then
    if w = 0 then sA S 0 (ixz b) else if w = 1 then sA S 1 (ixz b) else if w = 2 then allN S b else if w = 3 then deadN S b
    else if w = 4 then erlN S b (sA S 0 (ixz b) / 2) else if w = 5 then midN S b
    else if w = 6 then b2i (deadN S b < 2 * erlN S b (sA S 0 (ixz b) / 2)) else -1002
  else -1001
def taS (S : SC) (w : Int32) : Int32 :=
  if w = 0 then sHr S else if w = 1 then nI (sN S) else if w = 2 then cnt (fun j => sA S 3 j ≠ -1) (sN S) else if w = 3 then cnt (fun k => wdS S k = 0) (sN S)
  else if w = 4 then cnt (fun j => sA S 7 j ≠ -1) (sN S) else if w = 5 then cnt (fun j => shr (nI j) = 9) (sN S)
  else if w = 6 then sm (sA S 6) (sN S) else if w = 7 then sm (sA S 5) (sN S) else if w = 8 then sWv S else if w = 9 then sDv S else -1002

theorem i_kX4_tellOfLamp_X4 : ∀ w ∈ u_ws RX4 TX4 6, w ∈ wsX4_tellOfLamp := by decide +kernel
theorem m_kX4_tellOfLamp_1 : (Cond.fieldLink RX4 31 "LampRacks$State" "lamps" "LLampRacks$Lamps;" : Cond) ∈ wsX4_tellOfLamp := by decide +kernel
theorem i_kX4_tellOfLamp_X2 : ∀ w ∈ u_ws RX2 TX2 7, w ∈ wsX4_tellOfLamp := by decide +kernel
theorem m_kX4_tellOfLamp_3 : (Cond.fieldLink RX4 92 "LampRacks$Lamps" "spot" "[I" : Cond) ∈ wsX4_tellOfLamp := by decide +kernel
theorem m_kX4_tellOfLamp_4 : (Cond.fieldLink RX4 171 "LampRacks$Lamps" "batch" "[I" : Cond) ∈ wsX4_tellOfLamp := by decide +kernel
theorem m_kX4_tellOfLamp_5 : (Cond.fieldLink RX4 174 "LampRacks$Lamps" "canLast" "[I" : Cond) ∈ wsX4_tellOfLamp := by decide +kernel
theorem m_kX4_tellOfLamp_6 : (Cond.fieldLink RX4 177 "LampRacks$Lamps" "wear" "[I" : Cond) ∈ wsX4_tellOfLamp := by decide +kernel
theorem m_kX4_tellOfLamp_7 : (Cond.fieldLink RX4 180 "LampRacks$Lamps" "burned" "[I" : Cond) ∈ wsX4_tellOfLamp := by decide +kernel
theorem m_kX4_tellOfLamp_8 : (Cond.static yX6_oneIf : Cond) ∈ wsX4_tellOfLamp := by decide +kernel
theorem m_kX4_tellOfLamp_9 : (Cond.initialized RX6 : Cond) ∈ wsX4_tellOfLamp := by decide +kernel
theorem m_kX4_tellOfLamp_10 : (Cond.fieldLink RX4 165 "LampRacks$Lamps" "end" "[I" : Cond) ∈ wsX4_tellOfLamp := by decide +kernel
theorem m_kX4_tellOfLamp_11 : (Cond.static yX6_isWeak : Cond) ∈ wsX4_tellOfLamp := by decide +kernel
set_option maxRecDepth 100000 in
set_option maxHeartbeats 4000000 in
theorem kX4_tellOfLamp (l : Launch) (G : GG) (a : Nat → Nat) (S : SC) (x : Int32) (w : Int32) (hok : okS S) : RO l G yX4_tellOfLamp wsX4_tellOfLamp ({ frames := 2, cells := 0, slots := 0, locals := 43 } : Room) [.ref (a 0), .int x, .int w] (stW G a S) (.int (tlS S x w)) := by
  refine RO.of (cc := cX4_tellOfLamp) (maxL := 4) (ret := (some .int)) (by decide) rfl (Nat.le_of_ble_eq_true rfl) ?_
  intro cx hxl hxG C E
  subst hxl
  subst hxG
  show X cx (0, 0) [(a 0, .inr (4, [.int (sHr S), .int (sWv S), .int (sDv S), .ref (a 1), .ref (a 2), .ref (a 3)])), (a 1, .inr (0, [.ref (a 4), .ref (a 5)])), (a 2, .inr (2, [.int (nI (sN S)), .ref (a 6), .ref (a 7), .ref (a 8), .ref (a 9), .ref (a 10), .ref (a 11)])), (a 3, .inr (3, [.ref (a 12), .ref (a 13), .ref (a 14), .ref (a 15), .ref (a 16)])), (a 4, .inl ((xG cx).2.1, 6, .inl (sA S 0))), (a 5, .inl ((xG cx).2.1, 6, .inl (sA S 1))), (a 6, .inl ((xG cx).2.1, 60, .inl (sA S 2))), (a 7, .inl ((xG cx).2.1, 60, .inl (sA S 3))), (a 8, .inl ((xG cx).2.1, 60, .inl (sA S 4))), (a 9, .inl ((xG cx).2.1, 60, .inl (sA S 5))), (a 10, .inl ((xG cx).2.1, 60, .inl (sA S 6))), (a 11, .inl ((xG cx).2.1, 60, .inl (sA S 7))), (a 12, .inl ((xG cx).2.1, 24, .inl (sA S 8))), (a 13, .inl ((xG cx).2.1, 3, .inl (sA S 9))), (a 14, .inl ((xG cx).2.1, 3, .inl (sA S 10))), (a 15, .inl ((xG cx).2.1, 3, .inl (sA S 11))), (a 16, .inl ((xG cx).2.1, 3, .inl (sA S 12)))] [(0, .ref (a 0)), (1, .int x), (2, .int w)] 0 []
  have hn := hok.1
  refine x_aload_n C 0 dX4_tellOfLamp_0 rfl rfl ?_
  refine x_getf C 0 rfl rfl i_kX4_tellOfLamp_X4 4 (by decide) m_kX4_tellOfLamp_1 rfl rfl dX4_tellOfLamp_1 ?_
  refine x_iload_n C 1 dX4_tellOfLamp_4 rfl rfl ?_
  refine x_callVRO C ([.int x]) ([]) [2, 6, 7, 8, 9, 10, 11] (k0 := 0) (na := 1) gX4_tellOfLamp_X2_has rfl (by decide +kernel) rfl rfl rfl (kX2_has (xl cx) (xG cx) (a 2) (a 6) (a 7) (a 8) (a 9) (a 10) (a 11) (sN S) (sA S 2) (sA S 3) (sA S 4) (sA S 5) (sA S 6) (sA S 7) x) rfl (by decide) rfl rfl rfl ⟨by decide, by decide⟩ (Nat.le_of_ble_eq_true rfl) ⟨by decide, by decide⟩ dX4_tellOfLamp_5 ?_
  refine x_ifb_ne (P := 0 ≤ x ∧ x ≤ nI (sN S) - 1) C 15 dX4_tellOfLamp_8 (by decide) (fun c_8 => ?_) (fun c_8 => ?_)
  ·
    obtain ⟨kx, h_kx, rfl⟩ := in_lamps hok.1 c_8
    refine x_aload_n C 0 dX4_tellOfLamp_15 rfl rfl ?_
    refine x_getf C 0 rfl rfl i_kX4_tellOfLamp_X4 4 (by decide) m_kX4_tellOfLamp_1 rfl rfl dX4_tellOfLamp_16 ?_
    refine x_getf C 2 rfl rfl i_kX4_tellOfLamp_X2 2 (by decide) m_kX4_tellOfLamp_3 rfl rfl dX4_tellOfLamp_19 ?_
    refine x_iload_n C 1 dX4_tellOfLamp_22 rfl rfl ?_
    refine x_iald C 7 rfl rfl (vp_in_nI (by omega) (by decide)) (congrArg (sA S 3) (nI_clamp (by omega))) dX4_tellOfLamp_23 ?_
    refine x_istore_n C [(3, .int ((sA S 3) kx)), (0, .ref (a 0)), (1, .int (nI kx)), (2, .int w)] dX4_tellOfLamp_24 rfl (by decide) rfl ?_
    refine x_iload_n C 3 dX4_tellOfLamp_25 rfl rfl ?_
    refine x_tsw C dX4_tellOfLamp_26 [80, 90, 106, 122, 132, 142, 152, 161, 173, 200] 208 (by decide) (by decide) (by decide) ⟨fun c_26 => ?_, fun c_26 => ?_, fun c_26 => ?_, fun c_26 => ?_, fun c_26 => ?_, fun c_26 => ?_, fun c_26 => ?_, fun c_26 => ?_, fun c_26 => ?_, fun c_26 => ?_, trivial⟩ (fun c_26 => ?_)
    ·
      have e_26 : w = 0 := Int32.toInt_inj.mp (by rw [c_26]; rfl)
      refine x_aload_n C 1 dX4_tellOfLamp_80 rfl rfl ?_
      refine x_getf C 0 rfl rfl i_kX4_tellOfLamp_X4 4 (by decide) m_kX4_tellOfLamp_1 rfl rfl dX4_tellOfLamp_81 ?_
      refine x_getf C 2 rfl rfl i_kX4_tellOfLamp_X2 1 (by decide) m_kX4_tellOfLamp_4 rfl rfl dX4_tellOfLamp_84 ?_
      refine x_iload_n C 2 dX4_tellOfLamp_87 rfl rfl ?_
      refine x_iald C 6 rfl rfl (vp_in_nI (by omega) (by decide)) (congrArg (sA S 2) (nI_clamp (by omega))) dX4_tellOfLamp_88 ?_
      exact x_iret C E dX4_tellOfLamp_89 (by simp [tlS, c_8, ix kx (by omega), e_26]) (rfl)
    ·
      have e_26 : w = 1 := Int32.toInt_inj.mp (by rw [c_26]; rfl)
      refine x_iload_n C 0 dX4_tellOfLamp_90 rfl rfl ?_
      refine x_iconst (v := (-1)) C dX4_tellOfLamp_91 (by decide) ?_
      refine x_icmp_ne C 101 dX4_tellOfLamp_92 (by decide) (fun c_92 => ?_) (fun c_92 => ?_)
      ·
        refine x_iload_n C 0 dX4_tellOfLamp_101 rfl rfl ?_
        refine x_bipush (v := 8) C dX4_tellOfLamp_102 (by decide) ?_
        refine x_idiv C (rfl) dX4_tellOfLamp_104 (by decide) ?_
        exact x_iret C E dX4_tellOfLamp_105 (by simp [tlS, c_8, ix kx (by omega), e_26, c_92]) (rfl)
      ·
        refine x_sipush (v := (-1005)) C dX4_tellOfLamp_95 (by decide) ?_
        refine x_goto (tgt := 105) C dX4_tellOfLamp_98 (by decide) ?_
        exact x_iret C E dX4_tellOfLamp_105 (by simp [tlS, c_8, ix kx (by omega), e_26, c_92]) (rfl)
    ·
      have e_26 : w = 2 := Int32.toInt_inj.mp (by rw [c_26]; rfl)
      refine x_iload_n C 0 dX4_tellOfLamp_106 rfl rfl ?_
      refine x_iconst (v := (-1)) C dX4_tellOfLamp_107 (by decide) ?_
      refine x_icmp_ne C 117 dX4_tellOfLamp_108 (by decide) (fun c_108 => ?_) (fun c_108 => ?_)
      ·
        refine x_iload_n C 0 dX4_tellOfLamp_117 rfl rfl ?_
        refine x_bipush (v := 8) C dX4_tellOfLamp_118 (by decide) ?_
        refine x_irem C (rfl) dX4_tellOfLamp_120 (by decide) ?_
        exact x_iret C E dX4_tellOfLamp_121 (by simp [tlS, c_8, ix kx (by omega), e_26, c_108]) (rfl)
      ·
        refine x_sipush (v := (-1005)) C dX4_tellOfLamp_111 (by decide) ?_
        refine x_goto (tgt := 121) C dX4_tellOfLamp_114 (by decide) ?_
        exact x_iret C E dX4_tellOfLamp_121 (by simp [tlS, c_8, ix kx (by omega), e_26, c_108]) (rfl)
    ·
      have e_26 : w = 3 := Int32.toInt_inj.mp (by rw [c_26]; rfl)
      refine x_aload_n C 1 dX4_tellOfLamp_122 rfl rfl ?_
      refine x_getf C 0 rfl rfl i_kX4_tellOfLamp_X4 4 (by decide) m_kX4_tellOfLamp_1 rfl rfl dX4_tellOfLamp_123 ?_
      refine x_getf C 2 rfl rfl i_kX4_tellOfLamp_X2 3 (by decide) m_kX4_tellOfLamp_5 rfl rfl dX4_tellOfLamp_126 ?_
      refine x_iload_n C 2 dX4_tellOfLamp_129 rfl rfl ?_
      refine x_iald C 8 rfl rfl (vp_in_nI (by omega) (by decide)) (congrArg (sA S 4) (nI_clamp (by omega))) dX4_tellOfLamp_130 ?_
      exact x_iret C E dX4_tellOfLamp_131 (by simp [tlS, c_8, ix kx (by omega), e_26]) (rfl)
    ·
      have e_26 : w = 4 := Int32.toInt_inj.mp (by rw [c_26]; rfl)
      refine x_aload_n C 1 dX4_tellOfLamp_132 rfl rfl ?_
      refine x_getf C 0 rfl rfl i_kX4_tellOfLamp_X4 4 (by decide) m_kX4_tellOfLamp_1 rfl rfl dX4_tellOfLamp_133 ?_
      refine x_getf C 2 rfl rfl i_kX4_tellOfLamp_X2 4 (by decide) m_kX4_tellOfLamp_6 rfl rfl dX4_tellOfLamp_136 ?_
      refine x_iload_n C 2 dX4_tellOfLamp_139 rfl rfl ?_
      refine x_iald C 9 rfl rfl (vp_in_nI (by omega) (by decide)) (congrArg (sA S 5) (nI_clamp (by omega))) dX4_tellOfLamp_140 ?_
      exact x_iret C E dX4_tellOfLamp_141 (by simp [tlS, c_8, ix kx (by omega), e_26]) (rfl)
    ·
      have e_26 : w = 5 := Int32.toInt_inj.mp (by rw [c_26]; rfl)
      refine x_aload_n C 1 dX4_tellOfLamp_142 rfl rfl ?_
      refine x_getf C 0 rfl rfl i_kX4_tellOfLamp_X4 4 (by decide) m_kX4_tellOfLamp_1 rfl rfl dX4_tellOfLamp_143 ?_
      refine x_getf C 2 rfl rfl i_kX4_tellOfLamp_X2 5 (by decide) m_kX4_tellOfLamp_7 rfl rfl dX4_tellOfLamp_146 ?_
      refine x_iload_n C 2 dX4_tellOfLamp_149 rfl rfl ?_
      refine x_iald C 10 rfl rfl (vp_in_nI (by omega) (by decide)) (congrArg (sA S 6) (nI_clamp (by omega))) dX4_tellOfLamp_150 ?_
      exact x_iret C E dX4_tellOfLamp_151 (by simp [tlS, c_8, ix kx (by omega), e_26]) (rfl)
    ·
      have e_26 : w = 6 := Int32.toInt_inj.mp (by rw [c_26]; rfl)
      refine x_aload_n C 1 dX4_tellOfLamp_152 rfl rfl ?_
      refine x_getf C 0 rfl rfl i_kX4_tellOfLamp_X4 4 (by decide) m_kX4_tellOfLamp_1 rfl rfl dX4_tellOfLamp_153 ?_
      refine x_iload_n C 2 dX4_tellOfLamp_156 rfl rfl ?_
      refine x_callVRO C ([.int (nI kx)]) ([]) [2, 6, 7, 8, 9, 10, 11] (k0 := 0) (na := 1) gX4_tellOfLamp_X2_hoursCounted rfl (by decide +kernel) rfl rfl rfl (kX2_hoursCounted (xl cx) (xG cx) (a 2) (a 6) (a 7) (a 8) (a 9) (a 10) (a 11) (sN S) (sA S 2) (sA S 3) (sA S 4) (sA S 5) (sA S 6) (sA S 7) kx (by first | assumption | rfl | omega | decide)) rfl (by decide) rfl rfl rfl ⟨by decide, by decide⟩ (Nat.le_of_ble_eq_true rfl) ⟨by decide, by decide⟩ dX4_tellOfLamp_157 ?_
      exact x_iret C E dX4_tellOfLamp_160 (by simp [tlS, c_8, ix kx (by omega), e_26]) (rfl)
    ·
      have e_26 : w = 7 := Int32.toInt_inj.mp (by rw [c_26]; rfl)
      refine x_aload_n C 1 dX4_tellOfLamp_161 rfl rfl ?_
      refine x_getf C 0 rfl rfl i_kX4_tellOfLamp_X4 4 (by decide) m_kX4_tellOfLamp_1 rfl rfl dX4_tellOfLamp_162 ?_
      refine x_iload_n C 2 dX4_tellOfLamp_165 rfl rfl ?_
      refine x_callVRO C ([.int (nI kx)]) ([]) [2, 6, 7, 8, 9, 10, 11] (k0 := 0) (na := 1) gX4_tellOfLamp_X2_isDead rfl (by decide +kernel) rfl rfl rfl (kX2_isDead (xl cx) (xG cx) (a 2) (a 6) (a 7) (a 8) (a 9) (a 10) (a 11) (sN S) (sA S 2) (sA S 3) (sA S 4) (sA S 5) (sA S 6) (sA S 7) kx (by first | assumption | rfl | omega | decide)) rfl (by decide) rfl rfl rfl ⟨by decide, by decide⟩ (Nat.le_of_ble_eq_true rfl) ⟨by decide, by decide⟩ dX4_tellOfLamp_166 ?_
      refine x_callNRO C ([.int (b2i ((sA S 7) kx ≠ -1))]) ([]) [] (na := 1) (host := "LampRacks") gX4_tellOfLamp_X6_oneIf_n186 (by decide +kernel) m_kX4_tellOfLamp_8 m_kX4_tellOfLamp_9 rfl (by decide +kernel) rfl (kX6_oneIf (xl cx) (xG cx) (b2i ((sA S 7) kx ≠ -1)) (b2i_01 _)) rfl (by decide) rfl rfl rfl ⟨by decide, by decide⟩ (Nat.le_of_ble_eq_true rfl) ⟨by decide, by decide⟩ dX4_tellOfLamp_169 ?_
      exact x_iret C E dX4_tellOfLamp_172 (by simp [tlS, c_8, ix kx (by omega), e_26]) (rfl)
    ·
      have e_26 : w = 8 := Int32.toInt_inj.mp (by rw [c_26]; rfl)
      refine x_aload_n C 1 dX4_tellOfLamp_173 rfl rfl ?_
      refine x_getf C 0 rfl rfl i_kX4_tellOfLamp_X4 4 (by decide) m_kX4_tellOfLamp_1 rfl rfl dX4_tellOfLamp_174 ?_
      refine x_iload_n C 2 dX4_tellOfLamp_177 rfl rfl ?_
      refine x_callVRO C ([.int (nI kx)]) ([]) [2, 6, 7, 8, 9, 10, 11] (k0 := 0) (na := 1) gX4_tellOfLamp_X2_isDead rfl (by decide +kernel) rfl rfl rfl (kX2_isDead (xl cx) (xG cx) (a 2) (a 6) (a 7) (a 8) (a 9) (a 10) (a 11) (sN S) (sA S 2) (sA S 3) (sA S 4) (sA S 5) (sA S 6) (sA S 7) kx (by first | assumption | rfl | omega | decide)) rfl (by decide) rfl rfl rfl ⟨by decide, by decide⟩ (Nat.le_of_ble_eq_true rfl) ⟨by decide, by decide⟩ dX4_tellOfLamp_178 ?_
      refine x_ifb_eq (P := (sA S 7) kx ≠ -1) C 196 dX4_tellOfLamp_181 (by decide) (fun c_181 => ?_) (fun c_181 => ?_)
      ·
        refine x_sipush (v := (-1005)) C dX4_tellOfLamp_196 (by decide) ?_
        exact x_iret C E dX4_tellOfLamp_199 (by simp [tlS, c_8, ix kx (by omega), e_26, c_181]) (rfl)
      ·
        refine x_aload_n C 1 dX4_tellOfLamp_184 rfl rfl ?_
        refine x_getf C 0 rfl rfl i_kX4_tellOfLamp_X4 4 (by decide) m_kX4_tellOfLamp_1 rfl rfl dX4_tellOfLamp_185 ?_
        refine x_getf C 2 rfl rfl i_kX4_tellOfLamp_X2 6 (by decide) m_kX4_tellOfLamp_10 rfl rfl dX4_tellOfLamp_188 ?_
        refine x_iload_n C 2 dX4_tellOfLamp_191 rfl rfl ?_
        refine x_iald C 11 rfl rfl (vp_in_nI (by omega) (by decide)) (congrArg (sA S 7) (nI_clamp (by omega))) dX4_tellOfLamp_192 ?_
        refine x_goto (tgt := 199) C dX4_tellOfLamp_193 (by decide) ?_
        exact x_iret C E dX4_tellOfLamp_199 (by simp [tlS, c_8, ix kx (by omega), e_26, c_181]) (rfl)
    ·
      have e_26 : w = 9 := Int32.toInt_inj.mp (by rw [c_26]; rfl)
      refine x_iload_n C 2 dX4_tellOfLamp_200 rfl rfl ?_
      refine x_callNRO C ([.int (nI kx)]) ([]) [] (na := 1) (host := "LampRacks") gX4_tellOfLamp_X6_isWeak_n190 (by decide +kernel) m_kX4_tellOfLamp_11 m_kX4_tellOfLamp_9 rfl (by decide +kernel) rfl (kX6_isWeak (xl cx) (xG cx) (nI kx)) rfl (by decide) rfl rfl rfl ⟨by decide, by decide⟩ (Nat.le_of_ble_eq_true rfl) ⟨by decide, by decide⟩ dX4_tellOfLamp_201 ?_
      refine x_callNRO C ([.int (b2i (shr (nI kx) = 9))]) ([]) [] (na := 1) (host := "LampRacks") gX4_tellOfLamp_X6_oneIf_n186 (by decide +kernel) m_kX4_tellOfLamp_8 m_kX4_tellOfLamp_9 rfl (by decide +kernel) rfl (kX6_oneIf (xl cx) (xG cx) (b2i (shr (nI kx) = 9)) (b2i_01 _)) rfl (by decide) rfl rfl rfl ⟨by decide, by decide⟩ (Nat.le_of_ble_eq_true rfl) ⟨by decide, by decide⟩ dX4_tellOfLamp_204 ?_
      exact x_iret C E dX4_tellOfLamp_207 (by simp [tlS, c_8, ix kx (by omega), e_26]) (rfl)
    ·
      have d_26_0 : ¬ w = 0 := fun q => c_26 0 (by decide) (by rw [q]; rfl)
      have d_26_1 : ¬ w = 1 := fun q => c_26 1 (by decide) (by rw [q]; rfl)
      have d_26_2 : ¬ w = 2 := fun q => c_26 2 (by decide) (by rw [q]; rfl)
      have d_26_3 : ¬ w = 3 := fun q => c_26 3 (by decide) (by rw [q]; rfl)
      have d_26_4 : ¬ w = 4 := fun q => c_26 4 (by decide) (by rw [q]; rfl)
      have d_26_5 : ¬ w = 5 := fun q => c_26 5 (by decide) (by rw [q]; rfl)
      have d_26_6 : ¬ w = 6 := fun q => c_26 6 (by decide) (by rw [q]; rfl)
      have d_26_7 : ¬ w = 7 := fun q => c_26 7 (by decide) (by rw [q]; rfl)
      have d_26_8 : ¬ w = 8 := fun q => c_26 8 (by decide) (by rw [q]; rfl)
      have d_26_9 : ¬ w = 9 := fun q => c_26 9 (by decide) (by rw [q]; rfl)
      refine x_sipush (v := (-1002)) C dX4_tellOfLamp_208 (by decide) ?_
      exact x_iret C E dX4_tellOfLamp_211 (by simp [tlS, c_8, ix kx (by omega), d_26_0, d_26_1, d_26_2, d_26_3, d_26_4, d_26_5, d_26_6, d_26_7, d_26_8, d_26_9]) (rfl)
  ·
    refine x_sipush (v := (-1001)) C dX4_tellOfLamp_11 (by decide) ?_
    exact x_iret C E dX4_tellOfLamp_14 (by simp [tlS, c_8]) (rfl)

theorem m_kX4_tellOfRack_0 : (Cond.static yX6_isRack : Cond) ∈ wsX4_tellOfRack := by decide +kernel
theorem m_kX4_tellOfRack_1 : (Cond.initialized RX6 : Cond) ∈ wsX4_tellOfRack := by decide +kernel
theorem i_kX4_tellOfRack_X4 : ∀ w ∈ u_ws RX4 TX4 6, w ∈ wsX4_tellOfRack := by decide +kernel
theorem m_kX4_tellOfRack_3 : (Cond.fieldLink RX4 38 "LampRacks$State" "racks" "LLampRacks$Racks;" : Cond) ∈ wsX4_tellOfRack := by decide +kernel
theorem i_kX4_tellOfRack_X3 : ∀ w ∈ u_ws RX3 TX3 5, w ∈ wsX4_tellOfRack := by decide +kernel
theorem m_kX4_tellOfRack_5 : (Cond.fieldLink RX4 101 "LampRacks$Racks" "volts" "[I" : Cond) ∈ wsX4_tellOfRack := by decide +kernel
theorem m_kX4_tellOfRack_6 : (Cond.fieldLink RX4 104 "LampRacks$Racks" "stepHours" "[I" : Cond) ∈ wsX4_tellOfRack := by decide +kernel
theorem m_kX4_tellOfRack_7 : (Cond.fieldLink RX4 107 "LampRacks$Racks" "stepVolts" "[I" : Cond) ∈ wsX4_tellOfRack := by decide +kernel
set_option maxRecDepth 100000 in
set_option maxHeartbeats 4000000 in
theorem kX4_tellOfRack (l : Launch) (G : GG) (a : Nat → Nat) (S : SC) (r : Int32) (w : Int32) (hok : okS S) : RO l G yX4_tellOfRack wsX4_tellOfRack ({ frames := 2, cells := 0, slots := 0, locals := 46 } : Room) [.ref (a 0), .int r, .int w] (stW G a S) (.int (trS S r w)) := by
  refine RO.of (cc := cX4_tellOfRack) (maxL := 4) (ret := (some .int)) (by decide) rfl (Nat.le_of_ble_eq_true rfl) ?_
  intro cx hxl hxG C E
  subst hxl
  subst hxG
  show X cx (0, 0) [(a 0, .inr (4, [.int (sHr S), .int (sWv S), .int (sDv S), .ref (a 1), .ref (a 2), .ref (a 3)])), (a 1, .inr (0, [.ref (a 4), .ref (a 5)])), (a 2, .inr (2, [.int (nI (sN S)), .ref (a 6), .ref (a 7), .ref (a 8), .ref (a 9), .ref (a 10), .ref (a 11)])), (a 3, .inr (3, [.ref (a 12), .ref (a 13), .ref (a 14), .ref (a 15), .ref (a 16)])), (a 4, .inl ((xG cx).2.1, 6, .inl (sA S 0))), (a 5, .inl ((xG cx).2.1, 6, .inl (sA S 1))), (a 6, .inl ((xG cx).2.1, 60, .inl (sA S 2))), (a 7, .inl ((xG cx).2.1, 60, .inl (sA S 3))), (a 8, .inl ((xG cx).2.1, 60, .inl (sA S 4))), (a 9, .inl ((xG cx).2.1, 60, .inl (sA S 5))), (a 10, .inl ((xG cx).2.1, 60, .inl (sA S 6))), (a 11, .inl ((xG cx).2.1, 60, .inl (sA S 7))), (a 12, .inl ((xG cx).2.1, 24, .inl (sA S 8))), (a 13, .inl ((xG cx).2.1, 3, .inl (sA S 9))), (a 14, .inl ((xG cx).2.1, 3, .inl (sA S 10))), (a 15, .inl ((xG cx).2.1, 3, .inl (sA S 11))), (a 16, .inl ((xG cx).2.1, 3, .inl (sA S 12)))] [(0, .ref (a 0)), (1, .int r), (2, .int w)] 0 []
  have hn := hok.1
  refine x_iload_n C 1 dX4_tellOfRack_0 rfl rfl ?_
  refine x_callNRO C ([.int r]) ([]) [] (na := 1) (host := "LampRacks") gX4_tellOfRack_X6_isRack_n98 (by decide +kernel) m_kX4_tellOfRack_0 m_kX4_tellOfRack_1 rfl (by decide +kernel) rfl (kX6_isRack (xl cx) (xG cx) r) rfl (by decide) rfl rfl rfl ⟨by decide, by decide⟩ (Nat.le_of_ble_eq_true rfl) ⟨by decide, by decide⟩ dX4_tellOfRack_1 ?_
  refine x_ifb_ne (P := 0 ≤ r ∧ r ≤ 2) C 11 dX4_tellOfRack_4 (by decide) (fun c_4 => ?_) (fun c_4 => ?_)
  ·
    obtain ⟨kr, h_kr, rfl⟩ := in_nat (M := 2) (m := 2) c_4 (by decide)
    refine x_aload_n C 0 dX4_tellOfRack_11 rfl rfl ?_
    refine x_getf C 0 rfl rfl i_kX4_tellOfRack_X4 5 (by decide) m_kX4_tellOfRack_3 rfl rfl dX4_tellOfRack_12 ?_
    refine x_getf C 3 rfl rfl i_kX4_tellOfRack_X3 1 (by decide) m_kX4_tellOfRack_5 rfl rfl dX4_tellOfRack_15 ?_
    refine x_iload_n C 1 dX4_tellOfRack_18 rfl rfl ?_
    refine x_iald C 13 rfl rfl (vp_in_nI (by omega) (by decide)) (congrArg (sA S 9) (nI_clamp (by omega))) dX4_tellOfRack_19 ?_
    refine x_istore_n C [(3, .int ((sA S 9) kr)), (0, .ref (a 0)), (1, .int (nI kr)), (2, .int w)] dX4_tellOfRack_20 rfl (by decide) rfl ?_
    refine x_iload_n C 3 dX4_tellOfRack_21 rfl rfl ?_
    refine x_tsw C dX4_tellOfRack_22 [68, 70, 77, 84, 106, 128, 138, 148] 157 (by decide) (by decide) (by decide) ⟨fun c_22 => ?_, fun c_22 => ?_, fun c_22 => ?_, fun c_22 => ?_, fun c_22 => ?_, fun c_22 => ?_, fun c_22 => ?_, fun c_22 => ?_, trivial⟩ (fun c_22 => ?_)
    ·
      have e_22 : w = 0 := Int32.toInt_inj.mp (by rw [c_22]; rfl)
      refine x_iload_n C 0 dX4_tellOfRack_68 rfl rfl ?_
      exact x_iret C E dX4_tellOfRack_69 (by simp [trS, c_4, ix kr (by omega), e_22]) (rfl)
    ·
      have e_22 : w = 1 := Int32.toInt_inj.mp (by rw [c_22]; rfl)
      refine x_aload_n C 1 dX4_tellOfRack_70 rfl rfl ?_
      refine x_iload_n C 2 dX4_tellOfRack_71 rfl rfl ?_
      refine x_iconst (v := 1) C dX4_tellOfRack_72 (by decide) ?_
      refine x_callVRO C ([.int (nI kr), .int 1]) ([]) [0, 1, 2, 3, 4, 5, 6, 7, 8, 9, 10, 11, 12, 13, 14, 15, 16] (k0 := 0) (na := 2) gX4_tellOfRack_X4_countInRack rfl (by decide +kernel) rfl rfl rfl (kX4_countInRack (xl cx) (xG cx) a S kr 1 (by first | assumption | rfl | omega | decide) (by first | assumption | rfl | omega | decide)) rfl (by decide) rfl rfl rfl ⟨by decide, by decide⟩ (Nat.le_of_ble_eq_true rfl) ⟨by decide, by decide⟩ dX4_tellOfRack_73 ?_
      refine x_top (y := inRk S kr 1) (rfl) ?_
      exact x_iret C E dX4_tellOfRack_76 (by simp [trS, c_4, ix kr (by omega), e_22]) (rfl)
    ·
      have e_22 : w = 2 := Int32.toInt_inj.mp (by rw [c_22]; rfl)
      refine x_aload_n C 1 dX4_tellOfRack_77 rfl rfl ?_
      refine x_iload_n C 2 dX4_tellOfRack_78 rfl rfl ?_
      refine x_iconst (v := 0) C dX4_tellOfRack_79 (by decide) ?_
      refine x_callVRO C ([.int (nI kr), .int 0]) ([]) [0, 1, 2, 3, 4, 5, 6, 7, 8, 9, 10, 11, 12, 13, 14, 15, 16] (k0 := 0) (na := 2) gX4_tellOfRack_X4_countInRack rfl (by decide +kernel) rfl rfl rfl (kX4_countInRack (xl cx) (xG cx) a S kr 0 (by first | assumption | rfl | omega | decide) (by first | assumption | rfl | omega | decide)) rfl (by decide) rfl rfl rfl ⟨by decide, by decide⟩ (Nat.le_of_ble_eq_true rfl) ⟨by decide, by decide⟩ dX4_tellOfRack_80 ?_
      refine x_top (y := inRk S kr 0) (rfl) ?_
      exact x_iret C E dX4_tellOfRack_83 (by simp [trS, c_4, ix kr (by omega), e_22]) (rfl)
    ·
      have e_22 : w = 3 := Int32.toInt_inj.mp (by rw [c_22]; rfl)
      refine x_aload_n C 1 dX4_tellOfRack_84 rfl rfl ?_
      refine x_getf C 0 rfl rfl i_kX4_tellOfRack_X4 5 (by decide) m_kX4_tellOfRack_3 rfl rfl dX4_tellOfRack_85 ?_
      refine x_iload_n C 2 dX4_tellOfRack_88 rfl rfl ?_
      refine x_callVRO C ([.int (nI kr)]) ([]) [3, 12, 13, 14, 15, 16] (k0 := 0) (na := 1) gX4_tellOfRack_X3_isDark rfl (by decide +kernel) rfl rfl rfl (kX3_isDark (xl cx) (xG cx) (a 3) (a 12) (a 13) (a 14) (a 15) (a 16) (sA S 8) (sA S 9) (sA S 10) (sA S 11) (sA S 12) kr (by first | assumption | rfl | omega | decide)) rfl (by decide) rfl rfl rfl ⟨by decide, by decide⟩ (Nat.le_of_ble_eq_true rfl) ⟨by decide, by decide⟩ dX4_tellOfRack_89 ?_
      refine x_ifb_eq (P := (sA S 9) kr = 0) C 99 dX4_tellOfRack_92 (by decide) (fun c_92 => ?_) (fun c_92 => ?_)
      ·
        refine x_aload_n C 1 dX4_tellOfRack_99 rfl rfl ?_
        refine x_iload_n C 0 dX4_tellOfRack_100 rfl rfl ?_
        refine x_iconst (v := 0) C dX4_tellOfRack_101 (by decide) ?_
        refine x_callVRO C ([.int ((sA S 9) kr), .int 0]) ([]) [0, 1, 2, 3, 4, 5, 6, 7, 8, 9, 10, 11, 12, 13, 14, 15, 16] (k0 := 0) (na := 2) gX4_tellOfRack_X4_wearOfHour rfl (by decide +kernel) rfl rfl rfl (kX4_wearOfHour (xl cx) (xG cx) a S ((sA S 9) kr) 0) rfl (by decide) rfl rfl rfl ⟨by decide, by decide⟩ (Nat.le_of_ble_eq_true rfl) ⟨by decide, by decide⟩ dX4_tellOfRack_102 ?_
        exact x_iret C E dX4_tellOfRack_105 (by simp [trS, c_4, ix kr (by omega), e_22, c_92]) (rfl)
      ·
        refine x_iconst (v := 0) C dX4_tellOfRack_95 (by decide) ?_
        refine x_goto (tgt := 105) C dX4_tellOfRack_96 (by decide) ?_
        exact x_iret C E dX4_tellOfRack_105 (by simp [trS, c_4, ix kr (by omega), e_22, c_92]) (rfl)
    ·
      have e_22 : w = 4 := Int32.toInt_inj.mp (by rw [c_22]; rfl)
      refine x_aload_n C 1 dX4_tellOfRack_106 rfl rfl ?_
      refine x_getf C 0 rfl rfl i_kX4_tellOfRack_X4 5 (by decide) m_kX4_tellOfRack_3 rfl rfl dX4_tellOfRack_107 ?_
      refine x_iload_n C 2 dX4_tellOfRack_110 rfl rfl ?_
      refine x_callVRO C ([.int (nI kr)]) ([]) [3, 12, 13, 14, 15, 16] (k0 := 0) (na := 1) gX4_tellOfRack_X3_isDark rfl (by decide +kernel) rfl rfl rfl (kX3_isDark (xl cx) (xG cx) (a 3) (a 12) (a 13) (a 14) (a 15) (a 16) (sA S 8) (sA S 9) (sA S 10) (sA S 11) (sA S 12) kr (by first | assumption | rfl | omega | decide)) rfl (by decide) rfl rfl rfl ⟨by decide, by decide⟩ (Nat.le_of_ble_eq_true rfl) ⟨by decide, by decide⟩ dX4_tellOfRack_111 ?_
      refine x_ifb_eq (P := (sA S 9) kr = 0) C 121 dX4_tellOfRack_114 (by decide) (fun c_114 => ?_) (fun c_114 => ?_)
      ·
        refine x_aload_n C 1 dX4_tellOfRack_121 rfl rfl ?_
        refine x_iload_n C 0 dX4_tellOfRack_122 rfl rfl ?_
        refine x_iconst (v := 1) C dX4_tellOfRack_123 (by decide) ?_
        refine x_callVRO C ([.int ((sA S 9) kr), .int 1]) ([]) [0, 1, 2, 3, 4, 5, 6, 7, 8, 9, 10, 11, 12, 13, 14, 15, 16] (k0 := 0) (na := 2) gX4_tellOfRack_X4_wearOfHour rfl (by decide +kernel) rfl rfl rfl (kX4_wearOfHour (xl cx) (xG cx) a S ((sA S 9) kr) 1) rfl (by decide) rfl rfl rfl ⟨by decide, by decide⟩ (Nat.le_of_ble_eq_true rfl) ⟨by decide, by decide⟩ dX4_tellOfRack_124 ?_
        exact x_iret C E dX4_tellOfRack_127 (by simp [trS, c_4, ix kr (by omega), e_22, c_114]) (rfl)
      ·
        refine x_iconst (v := 0) C dX4_tellOfRack_117 (by decide) ?_
        refine x_goto (tgt := 127) C dX4_tellOfRack_118 (by decide) ?_
        exact x_iret C E dX4_tellOfRack_127 (by simp [trS, c_4, ix kr (by omega), e_22, c_114]) (rfl)
    ·
      have e_22 : w = 5 := Int32.toInt_inj.mp (by rw [c_22]; rfl)
      refine x_aload_n C 1 dX4_tellOfRack_128 rfl rfl ?_
      refine x_getf C 0 rfl rfl i_kX4_tellOfRack_X4 5 (by decide) m_kX4_tellOfRack_3 rfl rfl dX4_tellOfRack_129 ?_
      refine x_getf C 3 rfl rfl i_kX4_tellOfRack_X3 2 (by decide) m_kX4_tellOfRack_6 rfl rfl dX4_tellOfRack_132 ?_
      refine x_iload_n C 2 dX4_tellOfRack_135 rfl rfl ?_
      refine x_iald C 14 rfl rfl (vp_in_nI (by omega) (by decide)) (congrArg (sA S 10) (nI_clamp (by omega))) dX4_tellOfRack_136 ?_
      exact x_iret C E dX4_tellOfRack_137 (by simp [trS, c_4, ix kr (by omega), e_22]) (rfl)
    ·
      have e_22 : w = 6 := Int32.toInt_inj.mp (by rw [c_22]; rfl)
      refine x_aload_n C 1 dX4_tellOfRack_138 rfl rfl ?_
      refine x_getf C 0 rfl rfl i_kX4_tellOfRack_X4 5 (by decide) m_kX4_tellOfRack_3 rfl rfl dX4_tellOfRack_139 ?_
      refine x_getf C 3 rfl rfl i_kX4_tellOfRack_X3 3 (by decide) m_kX4_tellOfRack_7 rfl rfl dX4_tellOfRack_142 ?_
      refine x_iload_n C 2 dX4_tellOfRack_145 rfl rfl ?_
      refine x_iald C 15 rfl rfl (vp_in_nI (by omega) (by decide)) (congrArg (sA S 11) (nI_clamp (by omega))) dX4_tellOfRack_146 ?_
      exact x_iret C E dX4_tellOfRack_147 (by simp [trS, c_4, ix kr (by omega), e_22]) (rfl)
    ·
      have e_22 : w = 7 := Int32.toInt_inj.mp (by rw [c_22]; rfl)
      refine x_aload_n C 1 dX4_tellOfRack_148 rfl rfl ?_
      refine x_getf C 0 rfl rfl i_kX4_tellOfRack_X4 5 (by decide) m_kX4_tellOfRack_3 rfl rfl dX4_tellOfRack_149 ?_
      refine x_iload_n C 2 dX4_tellOfRack_152 rfl rfl ?_
      refine x_callVRO C ([.int (nI kr)]) ([]) [3, 12, 13, 14, 15, 16] (k0 := 0) (na := 1) gX4_tellOfRack_X3_hoursToStep rfl (by decide +kernel) rfl rfl rfl (kX3_hoursToStep (xl cx) (xG cx) (a 3) (a 12) (a 13) (a 14) (a 15) (a 16) (sA S 8) (sA S 9) (sA S 10) (sA S 11) (sA S 12) kr (by first | assumption | rfl | omega | decide)) rfl (by decide) rfl rfl rfl ⟨by decide, by decide⟩ (Nat.le_of_ble_eq_true rfl) ⟨by decide, by decide⟩ dX4_tellOfRack_153 ?_
      exact x_iret C E dX4_tellOfRack_156 (by simp [trS, c_4, ix kr (by omega), e_22]) (rfl)
    ·
      have d_22_0 : ¬ w = 0 := fun q => c_22 0 (by decide) (by rw [q]; rfl)
      have d_22_1 : ¬ w = 1 := fun q => c_22 1 (by decide) (by rw [q]; rfl)
      have d_22_2 : ¬ w = 2 := fun q => c_22 2 (by decide) (by rw [q]; rfl)
      have d_22_3 : ¬ w = 3 := fun q => c_22 3 (by decide) (by rw [q]; rfl)
      have d_22_4 : ¬ w = 4 := fun q => c_22 4 (by decide) (by rw [q]; rfl)
      have d_22_5 : ¬ w = 5 := fun q => c_22 5 (by decide) (by rw [q]; rfl)
      have d_22_6 : ¬ w = 6 := fun q => c_22 6 (by decide) (by rw [q]; rfl)
      have d_22_7 : ¬ w = 7 := fun q => c_22 7 (by decide) (by rw [q]; rfl)
      refine x_sipush (v := (-1002)) C dX4_tellOfRack_157 (by decide) ?_
      exact x_iret C E dX4_tellOfRack_160 (by simp [trS, c_4, ix kr (by omega), d_22_0, d_22_1, d_22_2, d_22_3, d_22_4, d_22_5, d_22_6, d_22_7]) (rfl)
  ·
    refine x_sipush (v := (-1001)) C dX4_tellOfRack_7 (by decide) ?_
    exact x_iret C E dX4_tellOfRack_10 (by simp [trS, c_4]) (rfl)

theorem m_kX4_tellOfBatch_0 : (Cond.static yX6_isBatch : Cond) ∈ wsX4_tellOfBatch := by decide +kernel
theorem m_kX4_tellOfBatch_1 : (Cond.initialized RX6 : Cond) ∈ wsX4_tellOfBatch := by decide +kernel
theorem i_kX4_tellOfBatch_X4 : ∀ w ∈ u_ws RX4 TX4 6, w ∈ wsX4_tellOfBatch := by decide +kernel
theorem m_kX4_tellOfBatch_3 : (Cond.fieldLink RX4 31 "LampRacks$State" "lamps" "LLampRacks$Lamps;" : Cond) ∈ wsX4_tellOfBatch := by decide +kernel
theorem m_kX4_tellOfBatch_4 : (Cond.fieldLink RX4 24 "LampRacks$State" "batches" "LLampRacks$Batches;" : Cond) ∈ wsX4_tellOfBatch := by decide +kernel
theorem i_kX4_tellOfBatch_X0 : ∀ w ∈ u_ws RX0 TX0 2, w ∈ wsX4_tellOfBatch := by decide +kernel
theorem m_kX4_tellOfBatch_6 : (Cond.fieldLink RX4 60 "LampRacks$Batches" "life" "[I" : Cond) ∈ wsX4_tellOfBatch := by decide +kernel
theorem m_kX4_tellOfBatch_7 : (Cond.fieldLink RX4 64 "LampRacks$Batches" "spread" "[I" : Cond) ∈ wsX4_tellOfBatch := by decide +kernel
theorem m_kX4_tellOfBatch_8 : (Cond.static yX6_oneIf : Cond) ∈ wsX4_tellOfBatch := by decide +kernel
set_option maxRecDepth 100000 in
set_option maxHeartbeats 4000000 in
theorem kX4_tellOfBatch (l : Launch) (G : GG) (a : Nat → Nat) (S : SC) (b : Int32) (w : Int32) (hok : okS S) : RO l G yX4_tellOfBatch wsX4_tellOfBatch ({ frames := 4, cells := 0, slots := 0, locals := 93 } : Room) [.ref (a 0), .int b, .int w] (stW G a S) (.int (tbS S b w)) := by
  refine RO.of (cc := cX4_tellOfBatch) (maxL := 5) (ret := (some .int)) (by decide) rfl (Nat.le_of_ble_eq_true rfl) ?_
  intro cx hxl hxG C E
  subst hxl
  subst hxG
  show X cx (0, 0) [(a 0, .inr (4, [.int (sHr S), .int (sWv S), .int (sDv S), .ref (a 1), .ref (a 2), .ref (a 3)])), (a 1, .inr (0, [.ref (a 4), .ref (a 5)])), (a 2, .inr (2, [.int (nI (sN S)), .ref (a 6), .ref (a 7), .ref (a 8), .ref (a 9), .ref (a 10), .ref (a 11)])), (a 3, .inr (3, [.ref (a 12), .ref (a 13), .ref (a 14), .ref (a 15), .ref (a 16)])), (a 4, .inl ((xG cx).2.1, 6, .inl (sA S 0))), (a 5, .inl ((xG cx).2.1, 6, .inl (sA S 1))), (a 6, .inl ((xG cx).2.1, 60, .inl (sA S 2))), (a 7, .inl ((xG cx).2.1, 60, .inl (sA S 3))), (a 8, .inl ((xG cx).2.1, 60, .inl (sA S 4))), (a 9, .inl ((xG cx).2.1, 60, .inl (sA S 5))), (a 10, .inl ((xG cx).2.1, 60, .inl (sA S 6))), (a 11, .inl ((xG cx).2.1, 60, .inl (sA S 7))), (a 12, .inl ((xG cx).2.1, 24, .inl (sA S 8))), (a 13, .inl ((xG cx).2.1, 3, .inl (sA S 9))), (a 14, .inl ((xG cx).2.1, 3, .inl (sA S 10))), (a 15, .inl ((xG cx).2.1, 3, .inl (sA S 11))), (a 16, .inl ((xG cx).2.1, 3, .inl (sA S 12)))] [(0, .ref (a 0)), (1, .int b), (2, .int w)] 0 []
  have hn := hok.1
  refine x_iload_n C 1 dX4_tellOfBatch_0 rfl rfl ?_
  refine x_callNRO C ([.int b]) ([]) [] (na := 1) (host := "LampRacks") gX4_tellOfBatch_X6_isBatch_n52 (by decide +kernel) m_kX4_tellOfBatch_0 m_kX4_tellOfBatch_1 rfl (by decide +kernel) rfl (kX6_isBatch (xl cx) (xG cx) b) rfl (by decide) rfl rfl rfl ⟨by decide, by decide⟩ (Nat.le_of_ble_eq_true rfl) ⟨by decide, by decide⟩ dX4_tellOfBatch_1 ?_
  refine x_ifb_ne (P := 0 ≤ b ∧ b ≤ 5) C 11 dX4_tellOfBatch_4 (by decide) (fun c_4 => ?_) (fun c_4 => ?_)
  ·
    obtain ⟨kb, h_kb, rfl⟩ := in_nat (M := 5) (m := 5) c_4 (by decide)
    refine x_aload_n C 0 dX4_tellOfBatch_11 rfl rfl ?_
    refine x_getf C 0 rfl rfl i_kX4_tellOfBatch_X4 4 (by decide) m_kX4_tellOfBatch_3 rfl rfl dX4_tellOfBatch_12 ?_
    refine x_iload_n C 1 dX4_tellOfBatch_15 rfl rfl ?_
    refine x_callVRO C ([.int (nI kb)]) ([]) [2, 6, 7, 8, 9, 10, 11] (k0 := 0) (na := 1) gX4_tellOfBatch_X2_countDeadOf rfl (by decide +kernel) rfl rfl rfl (kX2_countDeadOf (xl cx) (xG cx) (a 2) (a 6) (a 7) (a 8) (a 9) (a 10) (a 11) (sN S) (sA S 2) (sA S 3) (sA S 4) (sA S 5) (sA S 6) (sA S 7) (nI kb) (by first | assumption | rfl | omega | decide)) rfl (by decide) rfl rfl rfl ⟨by decide, by decide⟩ (Nat.le_of_ble_eq_true rfl) ⟨by decide, by decide⟩ dX4_tellOfBatch_16 ?_
    refine x_top (y := deadN S (nI kb)) (rfl) ?_
    refine x_istore_n C [(3, .int (deadN S (nI kb))), (0, .ref (a 0)), (1, .int (nI kb)), (2, .int w)] dX4_tellOfBatch_19 rfl (by decide) rfl ?_
    refine x_aload_n C 1 dX4_tellOfBatch_20 rfl rfl ?_
    refine x_getf C 0 rfl rfl i_kX4_tellOfBatch_X4 4 (by decide) m_kX4_tellOfBatch_3 rfl rfl dX4_tellOfBatch_21 ?_
    refine x_iload_n C 2 dX4_tellOfBatch_24 rfl rfl ?_
    refine x_aload_n C 1 dX4_tellOfBatch_25 rfl rfl ?_
    refine x_getf C 0 rfl rfl i_kX4_tellOfBatch_X4 3 (by decide) m_kX4_tellOfBatch_4 rfl rfl dX4_tellOfBatch_26 ?_
    refine x_getf C 1 rfl rfl i_kX4_tellOfBatch_X0 0 (by decide) m_kX4_tellOfBatch_6 rfl rfl dX4_tellOfBatch_29 ?_
    refine x_iload_n C 2 dX4_tellOfBatch_32 rfl rfl ?_
    refine x_iald C 4 rfl rfl (vp_in_nI (by omega) (by decide)) (congrArg (sA S 0) (nI_clamp (by omega))) dX4_tellOfBatch_33 ?_
    refine x_iconst (v := 2) C dX4_tellOfBatch_34 (by decide) ?_
    refine x_idiv C (rfl) dX4_tellOfBatch_35 (by decide) ?_
    refine x_callVRO C ([.int (nI kb), .int (((sA S 0) kb) / 2)]) ([]) [2, 6, 7, 8, 9, 10, 11] (k0 := 0) (na := 2) gX4_tellOfBatch_X2_countDeadBelow rfl (by decide +kernel) rfl rfl rfl (kX2_countDeadBelow (xl cx) (xG cx) (a 2) (a 6) (a 7) (a 8) (a 9) (a 10) (a 11) (sN S) (sA S 2) (sA S 3) (sA S 4) (sA S 5) (sA S 6) (sA S 7) (nI kb) (((sA S 0) kb) / 2) (by first | assumption | rfl | omega | decide)) rfl (by decide) rfl rfl rfl ⟨by decide, by decide⟩ (Nat.le_of_ble_eq_true rfl) ⟨by decide, by decide⟩ dX4_tellOfBatch_36 ?_
    refine x_top (y := erlN S (nI kb) (sA S 0 kb / 2)) (rfl) ?_
    refine x_istore C [(4, .int (erlN S (nI kb) (sA S 0 kb / 2))), (3, .int (deadN S (nI kb))), (0, .ref (a 0)), (1, .int (nI kb)), (2, .int w)] dX4_tellOfBatch_39 (by decide) rfl ?_
    refine x_iload_n C 4 dX4_tellOfBatch_41 rfl rfl ?_
    refine x_tsw C dX4_tellOfBatch_42 [84, 94, 104, 113, 115, 118, 127] 144 (by decide) (by decide) (by decide) ⟨fun c_42 => ?_, fun c_42 => ?_, fun c_42 => ?_, fun c_42 => ?_, fun c_42 => ?_, fun c_42 => ?_, fun c_42 => ?_, trivial⟩ (fun c_42 => ?_)
    ·
      have e_42 : w = 0 := Int32.toInt_inj.mp (by rw [c_42]; rfl)
      refine x_aload_n C 2 dX4_tellOfBatch_84 rfl rfl ?_
      refine x_getf C 0 rfl rfl i_kX4_tellOfBatch_X4 3 (by decide) m_kX4_tellOfBatch_4 rfl rfl dX4_tellOfBatch_85 ?_
      refine x_getf C 1 rfl rfl i_kX4_tellOfBatch_X0 0 (by decide) m_kX4_tellOfBatch_6 rfl rfl dX4_tellOfBatch_88 ?_
      refine x_iload_n C 3 dX4_tellOfBatch_91 rfl rfl ?_
      refine x_iald C 4 rfl rfl (vp_in_nI (by omega) (by decide)) (congrArg (sA S 0) (nI_clamp (by omega))) dX4_tellOfBatch_92 ?_
      exact x_iret C E dX4_tellOfBatch_93 (by simp [tbS, c_4, ix kb (by omega), e_42]) (rfl)
    ·
      have e_42 : w = 1 := Int32.toInt_inj.mp (by rw [c_42]; rfl)
      refine x_aload_n C 2 dX4_tellOfBatch_94 rfl rfl ?_
      refine x_getf C 0 rfl rfl i_kX4_tellOfBatch_X4 3 (by decide) m_kX4_tellOfBatch_4 rfl rfl dX4_tellOfBatch_95 ?_
      refine x_getf C 1 rfl rfl i_kX4_tellOfBatch_X0 1 (by decide) m_kX4_tellOfBatch_7 rfl rfl dX4_tellOfBatch_98 ?_
      refine x_iload_n C 3 dX4_tellOfBatch_101 rfl rfl ?_
      refine x_iald C 5 rfl rfl (vp_in_nI (by omega) (by decide)) (congrArg (sA S 1) (nI_clamp (by omega))) dX4_tellOfBatch_102 ?_
      exact x_iret C E dX4_tellOfBatch_103 (by simp [tbS, c_4, ix kb (by omega), e_42]) (rfl)
    ·
      have e_42 : w = 2 := Int32.toInt_inj.mp (by rw [c_42]; rfl)
      refine x_aload_n C 2 dX4_tellOfBatch_104 rfl rfl ?_
      refine x_getf C 0 rfl rfl i_kX4_tellOfBatch_X4 4 (by decide) m_kX4_tellOfBatch_3 rfl rfl dX4_tellOfBatch_105 ?_
      refine x_iload_n C 3 dX4_tellOfBatch_108 rfl rfl ?_
      refine x_callVRO C ([.int (nI kb)]) ([]) [2, 6, 7, 8, 9, 10, 11] (k0 := 0) (na := 1) gX4_tellOfBatch_X2_countOf rfl (by decide +kernel) rfl rfl rfl (kX2_countOf (xl cx) (xG cx) (a 2) (a 6) (a 7) (a 8) (a 9) (a 10) (a 11) (sN S) (sA S 2) (sA S 3) (sA S 4) (sA S 5) (sA S 6) (sA S 7) (nI kb) (by first | assumption | rfl | omega | decide)) rfl (by decide) rfl rfl rfl ⟨by decide, by decide⟩ (Nat.le_of_ble_eq_true rfl) ⟨by decide, by decide⟩ dX4_tellOfBatch_109 ?_
      refine x_top (y := allN S (nI kb)) (rfl) ?_
      exact x_iret C E dX4_tellOfBatch_112 (by simp [tbS, c_4, ix kb (by omega), e_42]) (rfl)
    ·
      have e_42 : w = 3 := Int32.toInt_inj.mp (by rw [c_42]; rfl)
      refine x_iload_n C 1 dX4_tellOfBatch_113 rfl rfl ?_
      exact x_iret C E dX4_tellOfBatch_114 (by simp [tbS, c_4, ix kb (by omega), e_42]) (rfl)
    ·
      have e_42 : w = 4 := Int32.toInt_inj.mp (by rw [c_42]; rfl)
      refine x_iload C 0 dX4_tellOfBatch_115 rfl ?_
      exact x_iret C E dX4_tellOfBatch_117 (by simp [tbS, c_4, ix kb (by omega), e_42]) (rfl)
    ·
      have e_42 : w = 5 := Int32.toInt_inj.mp (by rw [c_42]; rfl)
      refine x_aload_n C 2 dX4_tellOfBatch_118 rfl rfl ?_
      refine x_getf C 0 rfl rfl i_kX4_tellOfBatch_X4 4 (by decide) m_kX4_tellOfBatch_3 rfl rfl dX4_tellOfBatch_119 ?_
      refine x_iload_n C 3 dX4_tellOfBatch_122 rfl rfl ?_
      refine x_callVRO C ([.int (nI kb)]) ([]) [2, 6, 7, 8, 9, 10, 11] (k0 := 0) (na := 1) gX4_tellOfBatch_X2_middleLife rfl (by decide +kernel) rfl rfl rfl (kX2_middleLife (xl cx) (xG cx) (a 2) (a 6) (a 7) (a 8) (a 9) (a 10) (a 11) (sN S) (sA S 2) (sA S 3) (sA S 4) (sA S 5) (sA S 6) (sA S 7) (nI kb) (by first | assumption | rfl | omega | decide)) rfl (by decide) rfl rfl rfl ⟨by decide, by decide⟩ (Nat.le_of_ble_eq_true rfl) ⟨by decide, by decide⟩ dX4_tellOfBatch_123 ?_
      refine x_top (y := midN S (nI kb)) (rfl) ?_
      exact x_iret C E dX4_tellOfBatch_126 (by simp [tbS, c_4, ix kb (by omega), e_42]) (rfl)
    ·
      have e_42 : w = 6 := Int32.toInt_inj.mp (by rw [c_42]; rfl)
      refine x_iconst (v := 2) C dX4_tellOfBatch_127 (by decide) ?_
      refine x_iload C 0 dX4_tellOfBatch_128 rfl ?_
      refine x_imul C (rfl) dX4_tellOfBatch_130 ?_
      refine x_iload_n C 1 dX4_tellOfBatch_131 rfl rfl ?_
      have join_140 : ∀ (v0 : Int32) (hv0 : v0 = b2i (deadN S (nI kb) < 2 * erlN S (nI kb) (sA S 0 kb / 2))), X cx (0, 0) [(a 0, .inr (4, [.int (sHr S), .int (sWv S), .int (sDv S), .ref (a 1), .ref (a 2), .ref (a 3)])), (a 1, .inr (0, [.ref (a 4), .ref (a 5)])), (a 2, .inr (2, [.int (nI (sN S)), .ref (a 6), .ref (a 7), .ref (a 8), .ref (a 9), .ref (a 10), .ref (a 11)])), (a 3, .inr (3, [.ref (a 12), .ref (a 13), .ref (a 14), .ref (a 15), .ref (a 16)])), (a 4, .inl ((xG cx).2.1, 6, .inl (sA S 0))), (a 5, .inl ((xG cx).2.1, 6, .inl (sA S 1))), (a 6, .inl ((xG cx).2.1, 60, .inl (sA S 2))), (a 7, .inl ((xG cx).2.1, 60, .inl (sA S 3))), (a 8, .inl ((xG cx).2.1, 60, .inl (sA S 4))), (a 9, .inl ((xG cx).2.1, 60, .inl (sA S 5))), (a 10, .inl ((xG cx).2.1, 60, .inl (sA S 6))), (a 11, .inl ((xG cx).2.1, 60, .inl (sA S 7))), (a 12, .inl ((xG cx).2.1, 24, .inl (sA S 8))), (a 13, .inl ((xG cx).2.1, 3, .inl (sA S 9))), (a 14, .inl ((xG cx).2.1, 3, .inl (sA S 10))), (a 15, .inl ((xG cx).2.1, 3, .inl (sA S 11))), (a 16, .inl ((xG cx).2.1, 3, .inl (sA S 12)))] [(4, .int (erlN S (nI kb) (sA S 0 kb / 2))), (3, .int (deadN S (nI kb))), (0, .ref (a 0)), (1, .int (nI kb)), (2, .int w)] 140 [.int v0] := by
        intro v0 hv0
        subst hv0
        refine x_callNRO C ([.int (b2i (deadN S (nI kb) < 2 * erlN S (nI kb) (sA S 0 kb / 2)))]) ([]) [] (na := 1) (host := "LampRacks") gX4_tellOfBatch_X6_oneIf_n186 (by decide +kernel) m_kX4_tellOfBatch_8 m_kX4_tellOfBatch_1 rfl (by decide +kernel) rfl (kX6_oneIf (xl cx) (xG cx) (b2i (deadN S (nI kb) < 2 * erlN S (nI kb) (sA S 0 kb / 2))) (b2i_01 _)) rfl (by decide) rfl rfl rfl ⟨by decide, by decide⟩ (Nat.le_of_ble_eq_true rfl) ⟨by decide, by decide⟩ dX4_tellOfBatch_140 ?_
        exact x_iret C E dX4_tellOfBatch_143 (by simp [tbS, c_4, ix kb (by omega), e_42]) (rfl)
      refine x_icmp_le C 139 dX4_tellOfBatch_132 (by decide) (fun c_132 => ?_) (fun c_132 => ?_)
      ·
        refine x_iconst (v := 0) C dX4_tellOfBatch_139 (by decide) ?_
        exact join_140 _ ((b2i_f (Int32.not_lt.mpr c_132)).symm)
      ·
        refine x_iconst (v := 1) C dX4_tellOfBatch_135 (by decide) ?_
        refine x_goto (tgt := 140) C dX4_tellOfBatch_136 (by decide) ?_
        exact join_140 _ ((b2i_t (Int32.not_le.mp c_132)).symm)
    ·
      have d_42_0 : ¬ w = 0 := fun q => c_42 0 (by decide) (by rw [q]; rfl)
      have d_42_1 : ¬ w = 1 := fun q => c_42 1 (by decide) (by rw [q]; rfl)
      have d_42_2 : ¬ w = 2 := fun q => c_42 2 (by decide) (by rw [q]; rfl)
      have d_42_3 : ¬ w = 3 := fun q => c_42 3 (by decide) (by rw [q]; rfl)
      have d_42_4 : ¬ w = 4 := fun q => c_42 4 (by decide) (by rw [q]; rfl)
      have d_42_5 : ¬ w = 5 := fun q => c_42 5 (by decide) (by rw [q]; rfl)
      have d_42_6 : ¬ w = 6 := fun q => c_42 6 (by decide) (by rw [q]; rfl)
      refine x_sipush (v := (-1002)) C dX4_tellOfBatch_144 (by decide) ?_
      exact x_iret C E dX4_tellOfBatch_147 (by simp [tbS, c_4, ix kb (by omega), d_42_0, d_42_1, d_42_2, d_42_3, d_42_4, d_42_5, d_42_6]) (rfl)
  ·
    refine x_sipush (v := (-1001)) C dX4_tellOfBatch_7 (by decide) ?_
    exact x_iret C E dX4_tellOfBatch_10 (by simp [tbS, c_4]) (rfl)

theorem i_kX4_tellOfAll_X4 : ∀ w ∈ u_ws RX4 TX4 6, w ∈ wsX4_tellOfAll := by decide +kernel
theorem m_kX4_tellOfAll_1 : (Cond.fieldLink RX4 9 "LampRacks$State" "hour" "I" : Cond) ∈ wsX4_tellOfAll := by decide +kernel
theorem m_kX4_tellOfAll_2 : (Cond.fieldLink RX4 31 "LampRacks$State" "lamps" "LLampRacks$Lamps;" : Cond) ∈ wsX4_tellOfAll := by decide +kernel
theorem i_kX4_tellOfAll_X2 : ∀ w ∈ u_ws RX2 TX2 7, w ∈ wsX4_tellOfAll := by decide +kernel
theorem m_kX4_tellOfAll_4 : (Cond.fieldLink RX4 82 "LampRacks$Lamps" "size" "I" : Cond) ∈ wsX4_tellOfAll := by decide +kernel
theorem m_kX4_tellOfAll_5 : (Cond.fieldLink RX4 180 "LampRacks$Lamps" "burned" "[I" : Cond) ∈ wsX4_tellOfAll := by decide +kernel
theorem m_kX4_tellOfAll_6 : (Cond.fieldLink RX4 177 "LampRacks$Lamps" "wear" "[I" : Cond) ∈ wsX4_tellOfAll := by decide +kernel
theorem m_kX4_tellOfAll_7 : (Cond.fieldLink RX4 15 "LampRacks$State" "wantedVolts" "I" : Cond) ∈ wsX4_tellOfAll := by decide +kernel
theorem m_kX4_tellOfAll_8 : (Cond.fieldLink RX4 18 "LampRacks$State" "doublingVolts" "I" : Cond) ∈ wsX4_tellOfAll := by decide +kernel
set_option maxRecDepth 100000 in
set_option maxHeartbeats 4000000 in
theorem kX4_tellOfAll (l : Launch) (G : GG) (a : Nat → Nat) (S : SC) (w : Int32) (hok : okS S) : RO l G yX4_tellOfAll wsX4_tellOfAll ({ frames := 3, cells := 0, slots := 0, locals := 65 } : Room) [.ref (a 0), .int w] (stW G a S) (.int (taS S w)) := by
  refine RO.of (cc := cX4_tellOfAll) (maxL := 2) (ret := (some .int)) (by decide) rfl (Nat.le_of_ble_eq_true rfl) ?_
  intro cx hxl hxG C E
  subst hxl
  subst hxG
  show X cx (0, 0) [(a 0, .inr (4, [.int (sHr S), .int (sWv S), .int (sDv S), .ref (a 1), .ref (a 2), .ref (a 3)])), (a 1, .inr (0, [.ref (a 4), .ref (a 5)])), (a 2, .inr (2, [.int (nI (sN S)), .ref (a 6), .ref (a 7), .ref (a 8), .ref (a 9), .ref (a 10), .ref (a 11)])), (a 3, .inr (3, [.ref (a 12), .ref (a 13), .ref (a 14), .ref (a 15), .ref (a 16)])), (a 4, .inl ((xG cx).2.1, 6, .inl (sA S 0))), (a 5, .inl ((xG cx).2.1, 6, .inl (sA S 1))), (a 6, .inl ((xG cx).2.1, 60, .inl (sA S 2))), (a 7, .inl ((xG cx).2.1, 60, .inl (sA S 3))), (a 8, .inl ((xG cx).2.1, 60, .inl (sA S 4))), (a 9, .inl ((xG cx).2.1, 60, .inl (sA S 5))), (a 10, .inl ((xG cx).2.1, 60, .inl (sA S 6))), (a 11, .inl ((xG cx).2.1, 60, .inl (sA S 7))), (a 12, .inl ((xG cx).2.1, 24, .inl (sA S 8))), (a 13, .inl ((xG cx).2.1, 3, .inl (sA S 9))), (a 14, .inl ((xG cx).2.1, 3, .inl (sA S 10))), (a 15, .inl ((xG cx).2.1, 3, .inl (sA S 11))), (a 16, .inl ((xG cx).2.1, 3, .inl (sA S 12)))] [(0, .ref (a 0)), (1, .int w)] 0 []
  have hn := hok.1
  refine x_iload_n C 1 dX4_tellOfAll_0 rfl rfl ?_
  refine x_tsw C dX4_tellOfAll_1 [56, 61, 69, 77, 82, 90, 98, 113, 128, 133] 138 (by decide) (by decide) (by decide) ⟨fun c_1 => ?_, fun c_1 => ?_, fun c_1 => ?_, fun c_1 => ?_, fun c_1 => ?_, fun c_1 => ?_, fun c_1 => ?_, fun c_1 => ?_, fun c_1 => ?_, fun c_1 => ?_, trivial⟩ (fun c_1 => ?_)
  ·
    have e_1 : w = 0 := Int32.toInt_inj.mp (by rw [c_1]; rfl)
    refine x_aload_n C 0 dX4_tellOfAll_56 rfl rfl ?_
    refine x_getf C 0 rfl rfl i_kX4_tellOfAll_X4 0 (by decide) m_kX4_tellOfAll_1 rfl rfl dX4_tellOfAll_57 ?_
    exact x_iret C E dX4_tellOfAll_60 (by simp [taS, e_1]) (rfl)
  ·
    have e_1 : w = 1 := Int32.toInt_inj.mp (by rw [c_1]; rfl)
    refine x_aload_n C 0 dX4_tellOfAll_61 rfl rfl ?_
    refine x_getf C 0 rfl rfl i_kX4_tellOfAll_X4 4 (by decide) m_kX4_tellOfAll_2 rfl rfl dX4_tellOfAll_62 ?_
    refine x_getf C 2 rfl rfl i_kX4_tellOfAll_X2 0 (by decide) m_kX4_tellOfAll_4 rfl rfl dX4_tellOfAll_65 ?_
    exact x_iret C E dX4_tellOfAll_68 (by simp [taS, e_1]) (rfl)
  ·
    have e_1 : w = 2 := Int32.toInt_inj.mp (by rw [c_1]; rfl)
    refine x_aload_n C 0 dX4_tellOfAll_69 rfl rfl ?_
    refine x_getf C 0 rfl rfl i_kX4_tellOfAll_X4 4 (by decide) m_kX4_tellOfAll_2 rfl rfl dX4_tellOfAll_70 ?_
    refine x_callVRO C ([]) ([]) [2, 6, 7, 8, 9, 10, 11] (k0 := 0) (na := 0) gX4_tellOfAll_X2_countInRacks rfl (by decide +kernel) rfl rfl rfl (kX2_countInRacks (xl cx) (xG cx) (a 2) (a 6) (a 7) (a 8) (a 9) (a 10) (a 11) (sN S) (sA S 2) (sA S 3) (sA S 4) (sA S 5) (sA S 6) (sA S 7) (by first | assumption | rfl | omega | decide)) rfl (by decide) rfl rfl rfl ⟨by decide, by decide⟩ (Nat.le_of_ble_eq_true rfl) ⟨by decide, by decide⟩ dX4_tellOfAll_73 ?_
    exact x_iret C E dX4_tellOfAll_76 (by simp [taS, e_1]) (rfl)
  ·
    have e_1 : w = 3 := Int32.toInt_inj.mp (by rw [c_1]; rfl)
    refine x_aload_n C 0 dX4_tellOfAll_77 rfl rfl ?_
    refine x_callVRO C ([]) ([]) [0, 1, 2, 3, 4, 5, 6, 7, 8, 9, 10, 11, 12, 13, 14, 15, 16] (k0 := 0) (na := 0) gX4_tellOfAll_X4_countBurning rfl (by decide +kernel) rfl rfl rfl (kX4_countBurning (xl cx) (xG cx) a S (by first | assumption | rfl | omega | decide)) rfl (by decide) rfl rfl rfl ⟨by decide, by decide⟩ (Nat.le_of_ble_eq_true rfl) ⟨by decide, by decide⟩ dX4_tellOfAll_78 ?_
    exact x_iret C E dX4_tellOfAll_81 (by simp [taS, e_1]) (rfl)
  ·
    have e_1 : w = 4 := Int32.toInt_inj.mp (by rw [c_1]; rfl)
    refine x_aload_n C 0 dX4_tellOfAll_82 rfl rfl ?_
    refine x_getf C 0 rfl rfl i_kX4_tellOfAll_X4 4 (by decide) m_kX4_tellOfAll_2 rfl rfl dX4_tellOfAll_83 ?_
    refine x_callVRO C ([]) ([]) [2, 6, 7, 8, 9, 10, 11] (k0 := 0) (na := 0) gX4_tellOfAll_X2_countDead rfl (by decide +kernel) rfl rfl rfl (kX2_countDead (xl cx) (xG cx) (a 2) (a 6) (a 7) (a 8) (a 9) (a 10) (a 11) (sN S) (sA S 2) (sA S 3) (sA S 4) (sA S 5) (sA S 6) (sA S 7) (by first | assumption | rfl | omega | decide)) rfl (by decide) rfl rfl rfl ⟨by decide, by decide⟩ (Nat.le_of_ble_eq_true rfl) ⟨by decide, by decide⟩ dX4_tellOfAll_86 ?_
    exact x_iret C E dX4_tellOfAll_89 (by simp [taS, e_1]) (rfl)
  ·
    have e_1 : w = 5 := Int32.toInt_inj.mp (by rw [c_1]; rfl)
    refine x_aload_n C 0 dX4_tellOfAll_90 rfl rfl ?_
    refine x_getf C 0 rfl rfl i_kX4_tellOfAll_X4 4 (by decide) m_kX4_tellOfAll_2 rfl rfl dX4_tellOfAll_91 ?_
    refine x_callVRO C ([]) ([]) [2, 6, 7, 8, 9, 10, 11] (k0 := 0) (na := 0) gX4_tellOfAll_X2_countWeak rfl (by decide +kernel) rfl rfl rfl (kX2_countWeak (xl cx) (xG cx) (a 2) (a 6) (a 7) (a 8) (a 9) (a 10) (a 11) (sN S) (sA S 2) (sA S 3) (sA S 4) (sA S 5) (sA S 6) (sA S 7) (by first | assumption | rfl | omega | decide)) rfl (by decide) rfl rfl rfl ⟨by decide, by decide⟩ (Nat.le_of_ble_eq_true rfl) ⟨by decide, by decide⟩ dX4_tellOfAll_94 ?_
    exact x_iret C E dX4_tellOfAll_97 (by simp [taS, e_1]) (rfl)
  ·
    have e_1 : w = 6 := Int32.toInt_inj.mp (by rw [c_1]; rfl)
    refine x_aload_n C 0 dX4_tellOfAll_98 rfl rfl ?_
    refine x_getf C 0 rfl rfl i_kX4_tellOfAll_X4 4 (by decide) m_kX4_tellOfAll_2 rfl rfl dX4_tellOfAll_99 ?_
    refine x_aload_n C 0 dX4_tellOfAll_102 rfl rfl ?_
    refine x_getf C 0 rfl rfl i_kX4_tellOfAll_X4 4 (by decide) m_kX4_tellOfAll_2 rfl rfl dX4_tellOfAll_103 ?_
    refine x_getf C 2 rfl rfl i_kX4_tellOfAll_X2 5 (by decide) m_kX4_tellOfAll_5 rfl rfl dX4_tellOfAll_106 ?_
    refine x_callVRO C ([.ref (a 10)]) ([]) [2, 6, 7, 8, 9, 10, 11] (k0 := 0) (na := 1) gX4_tellOfAll_X2_sumOf rfl (by decide +kernel) rfl rfl rfl (kX2_sumOf_u (xl cx) (xG cx) (a 2) (a 6) (a 7) (a 8) (a 9) (a 10) (a 11) (sN S) (sA S 2) (sA S 3) (sA S 4) (sA S 5) (sA S 6) (sA S 7) (by first | assumption | rfl | omega | decide)) rfl (by decide) rfl rfl rfl ⟨by decide, by decide⟩ (Nat.le_of_ble_eq_true rfl) ⟨by decide, by decide⟩ dX4_tellOfAll_109 ?_
    exact x_iret C E dX4_tellOfAll_112 (by simp [taS, e_1]) (rfl)
  ·
    have e_1 : w = 7 := Int32.toInt_inj.mp (by rw [c_1]; rfl)
    refine x_aload_n C 0 dX4_tellOfAll_113 rfl rfl ?_
    refine x_getf C 0 rfl rfl i_kX4_tellOfAll_X4 4 (by decide) m_kX4_tellOfAll_2 rfl rfl dX4_tellOfAll_114 ?_
    refine x_aload_n C 0 dX4_tellOfAll_117 rfl rfl ?_
    refine x_getf C 0 rfl rfl i_kX4_tellOfAll_X4 4 (by decide) m_kX4_tellOfAll_2 rfl rfl dX4_tellOfAll_118 ?_
    refine x_getf C 2 rfl rfl i_kX4_tellOfAll_X2 4 (by decide) m_kX4_tellOfAll_6 rfl rfl dX4_tellOfAll_121 ?_
    refine x_callVRO C ([.ref (a 9)]) ([]) [2, 6, 7, 8, 9, 10, 11] (k0 := 0) (na := 1) gX4_tellOfAll_X2_sumOf rfl (by decide +kernel) rfl rfl rfl (kX2_sumOf_w (xl cx) (xG cx) (a 2) (a 6) (a 7) (a 8) (a 9) (a 10) (a 11) (sN S) (sA S 2) (sA S 3) (sA S 4) (sA S 5) (sA S 6) (sA S 7) (by first | assumption | rfl | omega | decide)) rfl (by decide) rfl rfl rfl ⟨by decide, by decide⟩ (Nat.le_of_ble_eq_true rfl) ⟨by decide, by decide⟩ dX4_tellOfAll_124 ?_
    exact x_iret C E dX4_tellOfAll_127 (by simp [taS, e_1]) (rfl)
  ·
    have e_1 : w = 8 := Int32.toInt_inj.mp (by rw [c_1]; rfl)
    refine x_aload_n C 0 dX4_tellOfAll_128 rfl rfl ?_
    refine x_getf C 0 rfl rfl i_kX4_tellOfAll_X4 1 (by decide) m_kX4_tellOfAll_7 rfl rfl dX4_tellOfAll_129 ?_
    exact x_iret C E dX4_tellOfAll_132 (by simp [taS, e_1]) (rfl)
  ·
    have e_1 : w = 9 := Int32.toInt_inj.mp (by rw [c_1]; rfl)
    refine x_aload_n C 0 dX4_tellOfAll_133 rfl rfl ?_
    refine x_getf C 0 rfl rfl i_kX4_tellOfAll_X4 2 (by decide) m_kX4_tellOfAll_8 rfl rfl dX4_tellOfAll_134 ?_
    exact x_iret C E dX4_tellOfAll_137 (by simp [taS, e_1]) (rfl)
  ·
    have d_1_0 : ¬ w = 0 := fun q => c_1 0 (by decide) (by rw [q]; rfl)
    have d_1_1 : ¬ w = 1 := fun q => c_1 1 (by decide) (by rw [q]; rfl)
    have d_1_2 : ¬ w = 2 := fun q => c_1 2 (by decide) (by rw [q]; rfl)
    have d_1_3 : ¬ w = 3 := fun q => c_1 3 (by decide) (by rw [q]; rfl)
    have d_1_4 : ¬ w = 4 := fun q => c_1 4 (by decide) (by rw [q]; rfl)
    have d_1_5 : ¬ w = 5 := fun q => c_1 5 (by decide) (by rw [q]; rfl)
    have d_1_6 : ¬ w = 6 := fun q => c_1 6 (by decide) (by rw [q]; rfl)
    have d_1_7 : ¬ w = 7 := fun q => c_1 7 (by decide) (by rw [q]; rfl)
    have d_1_8 : ¬ w = 8 := fun q => c_1 8 (by decide) (by rw [q]; rfl)
    have d_1_9 : ¬ w = 9 := fun q => c_1 9 (by decide) (by rw [q]; rfl)
    refine x_sipush (v := (-1002)) C dX4_tellOfAll_138 (by decide) ?_
    exact x_iret C E dX4_tellOfAll_141 (by simp [taS, d_1_0, d_1_1, d_1_2, d_1_3, d_1_4, d_1_5, d_1_6, d_1_7, d_1_8, d_1_9]) (rfl)
