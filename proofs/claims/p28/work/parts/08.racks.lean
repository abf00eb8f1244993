/-! a state of the component: hour, wanted volts, doubling volts, how many lamps, and its arrays: 0 life, 1 spread, 2 batch, 3 spot, 4 canLast, 5 wear, 6 burned, 7 end, 8 lampAt, 9 volts, 10 stepHours, 11 stepVolts, 12 hoursOfStep -/
abbrev SC : Type := Int32 × Int32 × Int32 × Nat × (Nat → Nat → Int32)
abbrev sHr (S : SC) : Int32 := S.1
abbrev sWv (S : SC) : Int32 := S.2.1
abbrev sDv (S : SC) : Int32 := S.2.2.1
abbrev sN (S : SC) : Nat := S.2.2.2.1
abbrev sA (S : SC) (j : Nat) : Nat → Int32 := S.2.2.2.2 j
abbrev uA (S : SC) (j : Nat) (f : Nat → Int32) : SC := (S.1, S.2.1, S.2.2.1, S.2.2.2.1, va_up S.2.2.2.2 j f)
abbrev uHr (S : SC) (x : Int32) : SC := (x, S.2.1, S.2.2.1, S.2.2.2.1, S.2.2.2.2)
abbrev uWv (S : SC) (x : Int32) : SC := (S.1, x, S.2.2.1, S.2.2.2.1, S.2.2.2.2)
abbrev uDv (S : SC) (x : Int32) : SC := (S.1, S.2.1, x, S.2.2.2.1, S.2.2.2.2)
abbrev uN (S : SC) (x : Nat) : SC := (S.1, S.2.1, S.2.2.1, x, S.2.2.2.2)
/-- its seventeen cells -/
abbrev stW (G : GG) (a : Nat → Nat) (S : SC) : va_W := [(a 0, .inr (4, [.int (sHr S), .int (sWv S), .int (sDv S), .ref (a 1), .ref (a 2), .ref (a 3)])), (a 1, .inr (0, [.ref (a 4), .ref (a 5)])), (a 2, .inr (2, [.int (nI (sN S)), .ref (a 6), .ref (a 7), .ref (a 8), .ref (a 9), .ref (a 10), .ref (a 11)])), (a 3, .inr (3, [.ref (a 12), .ref (a 13), .ref (a 14), .ref (a 15), .ref (a 16)])), (a 4, .inl (G.2.1, 6, .inl (sA S 0))), (a 5, .inl (G.2.1, 6, .inl (sA S 1))), (a 6, .inl (G.2.1, 60, .inl (sA S 2))), (a 7, .inl (G.2.1, 60, .inl (sA S 3))), (a 8, .inl (G.2.1, 60, .inl (sA S 4))), (a 9, .inl (G.2.1, 60, .inl (sA S 5))), (a 10, .inl (G.2.1, 60, .inl (sA S 6))), (a 11, .inl (G.2.1, 60, .inl (sA S 7))), (a 12, .inl (G.2.1, 24, .inl (sA S 8))), (a 13, .inl (G.2.1, 3, .inl (sA S 9))), (a 14, .inl (G.2.1, 3, .inl (sA S 10))), (a 15, .inl (G.2.1, 3, .inl (sA S 11))), (a 16, .inl (G.2.1, 3, .inl (sA S 12)))]
theorem in_nat {x M : Int32} {m : Nat} (h : 0 ≤ x ∧ x ≤ M) (hM : M.toInt = m) : ∃ k, k ≤ m ∧ x = nI k := nI_of2 hM (fun q => by
  have h1 := Int32.lt_iff_toInt_lt.mp q
  have h2 := Int32.le_iff_toInt_le.mp h.1
  omega) h.2
theorem ix (k : Nat) (h : k < 2147483648) : (nI k).toNatClampNeg = k := nI_clamp h
def mn (x y : Int32) : Int32 := if y < x then y else x
/-- volts within 0 to 300 -/
def cl3 (v : Int32) : Int32 := if 0 < (if v < 300 then v else 300) then (if v < 300 then v else 300) else 0
def hTS (a b : Int32) : Int32 := if a = 0 then -1005 else a - b
def smH (a v t o h : Int32) : Int32 := if a = 0 ∨ cl3 (v + t) = v then h else mn h (hTS a o)
/-- volts, and hours of the step, behind t hours -/
def chV (a o t : Int32) (k : Nat) (fv ft : Nat → Int32) : Nat → Int32 := if a = 0 then fv else if o + t < a then fv else upd fv k (cl3 (fv k + ft k))
def chO (a t : Int32) (k : Nat) (fo : Nat → Int32) : Nat → Int32 := if a = 0 then fo else upd fo k (fo k + t - (fo k + t) / a * a)
def hoL (l p u : Int32) : Int32 := mx1 (if shr u = 9 then (l - l * p * shr u / 1000) / 10 else l - l * p * shr u / 1000)
def wr1 (wv dv x : Int32) : Int32 := mx1 (10 + 10 * (x - wv) / mx1 dv)
def wrH (wv dv x h : Int32) : Int32 := if h = 0 then wr1 wv dv x else wr1 wv dv x + wr1 wv dv x / 10
def hLf (c w x : Int32) : Int32 := (10 * c - w + mx1 x - 1) / mx1 x

theorem i_kX3_isDark_X3 : ∀ w ∈ u_ws RX3 TX3 5, w ∈ wsX3_isDark := by decide +kernel
theorem m_kX3_isDark_1 : (Cond.fieldLink RX3 15 "LampRacks$Racks" "volts" "[I" : Cond) ∈ wsX3_isDark := by decide +kernel
set_option maxRecDepth 100000 in
set_option maxHeartbeats 4000000 in
theorem kX3_isDark (l : Launch) (G : GG) (b : Nat) (r1 : Nat) (r2 : Nat) (r3 : Nat) (r4 : Nat) (r5 : Nat) (fL : Nat → Int32) (fv : Nat → Int32) (fh : Nat → Int32) (ft : Nat → Int32) (fo : Nat → Int32) (k : Nat) (hk : k < 3) : RO l G yX3_isDark wsX3_isDark ({ frames := 0, cells := 0, slots := 0, locals := 0 } : Room) [.ref b, .int (nI k)] [(b, .inr (3, [.ref r1, .ref r2, .ref r3, .ref r4, .ref r5])), (r1, .inl (G.2.1, 24, .inl fL)), (r2, .inl (G.2.1, 3, .inl fv)), (r3, .inl (G.2.1, 3, .inl fh)), (r4, .inl (G.2.1, 3, .inl ft)), (r5, .inl (G.2.1, 3, .inl fo))] (.int (b2i (fv k = 0))) := by
  refine RO.of (cc := cX3_isDark) (maxL := 2) (ret := (some .boolean)) (by decide) rfl (Nat.le_of_ble_eq_true rfl) ?_
  intro cx hxl hxG C E
  subst hxl
  subst hxG
  show X cx (0, 0) [(b, .inr (3, [.ref r1, .ref r2, .ref r3, .ref r4, .ref r5])), (r1, .inl ((xG cx).2.1, 24, .inl fL)), (r2, .inl ((xG cx).2.1, 3, .inl fv)), (r3, .inl ((xG cx).2.1, 3, .inl fh)), (r4, .inl ((xG cx).2.1, 3, .inl ft)), (r5, .inl ((xG cx).2.1, 3, .inl fo))] [(0, .ref b), (1, .int (nI k))] 0 []
  refine x_aload_n C 0 dX3_isDark_0 rfl rfl ?_
  refine x_getf C 0 rfl rfl i_kX3_isDark_X3 1 (by decide) m_kX3_isDark_1 rfl rfl dX3_isDark_1 ?_
  refine x_iload_n C 1 dX3_isDark_4 rfl rfl ?_
  refine x_iald C 2 rfl rfl (vp_in_nI (by omega) (by decide)) (congrArg fv (nI_clamp (by omega))) dX3_isDark_5 ?_
  refine x_if_ne C 13 dX3_isDark_6 (by decide) (fun c_6 => ?_) (fun c_6 => ?_)
  ·
    refine x_iconst (v := 0) C dX3_isDark_13 (by decide) ?_
    exact x_zret C E dX3_isDark_14 (by first | (symm; first | (apply b2i_t; grind) | (apply b2i_f; grind))) (rfl)
  ·
    refine x_iconst (v := 1) C dX3_isDark_9 (by decide) ?_
    refine x_goto (tgt := 14) C dX3_isDark_10 (by decide) ?_
    exact x_zret C E dX3_isDark_14 (by first | (symm; first | (apply b2i_t; grind) | (apply b2i_f; grind))) (rfl)

theorem i_kX3_voltsAfterStep_X3 : ∀ w ∈ u_ws RX3 TX3 5, w ∈ wsX3_voltsAfterStep := by decide +kernel
theorem m_kX3_voltsAfterStep_1 : (Cond.fieldLink RX3 15 "LampRacks$Racks" "volts" "[I" : Cond) ∈ wsX3_voltsAfterStep := by decide +kernel
theorem m_kX3_voltsAfterStep_2 : (Cond.fieldLink RX3 21 "LampRacks$Racks" "stepVolts" "[I" : Cond) ∈ wsX3_voltsAfterStep := by decide +kernel
theorem m_kX3_voltsAfterStep_3 : (Cond.methodLink RX3 37 Lib.Math.min.name : Cond) ∈ wsX3_voltsAfterStep := by decide +kernel
theorem m_kX3_voltsAfterStep_4 : (Cond.static Lib.Math.min.name : Cond) ∈ wsX3_voltsAfterStep := by decide +kernel
theorem m_kX3_voltsAfterStep_5 : (Cond.initialized "java/lang/Math" : Cond) ∈ wsX3_voltsAfterStep := by decide +kernel
theorem m_kX3_voltsAfterStep_6 : (Cond.code Lib.Math.min.name Lib.Math.min.code 2 (some .int) : Cond) ∈ wsX3_voltsAfterStep := by decide +kernel
theorem m_kX3_voltsAfterStep_7 : (Cond.methodLink RX3 43 Lib.Math.max.name : Cond) ∈ wsX3_voltsAfterStep := by decide +kernel
theorem m_kX3_voltsAfterStep_8 : (Cond.static Lib.Math.max.name : Cond) ∈ wsX3_voltsAfterStep := by decide +kernel
theorem m_kX3_voltsAfterStep_9 : (Cond.code Lib.Math.max.name Lib.Math.max.code 2 (some .int) : Cond) ∈ wsX3_voltsAfterStep := by decide +kernel
set_option maxRecDepth 100000 in
set_option maxHeartbeats 4000000 in
theorem kX3_voltsAfterStep (l : Launch) (G : GG) (b : Nat) (r1 : Nat) (r2 : Nat) (r3 : Nat) (r4 : Nat) (r5 : Nat) (fL : Nat → Int32) (fv : Nat → Int32) (fh : Nat → Int32) (ft : Nat → Int32) (fo : Nat → Int32) (k : Nat) (hk : k < 3) : RO l G yX3_voltsAfterStep wsX3_voltsAfterStep ({ frames := 1, cells := 0, slots := 0, locals := 14 } : Room) [.ref b, .int (nI k)] [(b, .inr (3, [.ref r1, .ref r2, .ref r3, .ref r4, .ref r5])), (r1, .inl (G.2.1, 24, .inl fL)), (r2, .inl (G.2.1, 3, .inl fv)), (r3, .inl (G.2.1, 3, .inl fh)), (r4, .inl (G.2.1, 3, .inl ft)), (r5, .inl (G.2.1, 3, .inl fo))] (.int (cl3 (fv k + ft k))) := by
  refine RO.of (cc := cX3_voltsAfterStep) (maxL := 2) (ret := (some .int)) (by decide) rfl (Nat.le_of_ble_eq_true rfl) ?_
  intro cx hxl hxG C E
  subst hxl
  subst hxG
  show X cx (0, 0) [(b, .inr (3, [.ref r1, .ref r2, .ref r3, .ref r4, .ref r5])), (r1, .inl ((xG cx).2.1, 24, .inl fL)), (r2, .inl ((xG cx).2.1, 3, .inl fv)), (r3, .inl ((xG cx).2.1, 3, .inl fh)), (r4, .inl ((xG cx).2.1, 3, .inl ft)), (r5, .inl ((xG cx).2.1, 3, .inl fo))] [(0, .ref b), (1, .int (nI k))] 0 []
  refine x_iconst (v := 0) C dX3_voltsAfterStep_0 (by decide) ?_
  refine x_sipush (v := 300) C dX3_voltsAfterStep_1 (by decide) ?_
  refine x_aload_n C 0 dX3_voltsAfterStep_4 rfl rfl ?_
  refine x_getf C 0 rfl rfl i_kX3_voltsAfterStep_X3 1 (by decide) m_kX3_voltsAfterStep_1 rfl rfl dX3_voltsAfterStep_5 ?_
  refine x_iload_n C 1 dX3_voltsAfterStep_8 rfl rfl ?_
  refine x_iald C 2 rfl rfl (vp_in_nI (by omega) (by decide)) (congrArg fv (nI_clamp (by omega))) dX3_voltsAfterStep_9 ?_
  refine x_aload_n C 0 dX3_voltsAfterStep_10 rfl rfl ?_
  refine x_getf C 0 rfl rfl i_kX3_voltsAfterStep_X3 3 (by decide) m_kX3_voltsAfterStep_2 rfl rfl dX3_voltsAfterStep_11 ?_
  refine x_iload_n C 1 dX3_voltsAfterStep_14 rfl rfl ?_
  refine x_iald C 4 rfl rfl (vp_in_nI (by omega) (by decide)) (congrArg ft (nI_clamp (by omega))) dX3_voltsAfterStep_15 ?_
  refine x_iadd C (rfl) dX3_voltsAfterStep_16 ?_
  refine x_mmin C m_kX3_voltsAfterStep_3 m_kX3_voltsAfterStep_4 m_kX3_voltsAfterStep_5 m_kX3_voltsAfterStep_6 ⟨by decide, Nat.le_of_ble_eq_true rfl, by decide, by decide⟩ dX3_voltsAfterStep_17 ?_
  refine x_mmax C m_kX3_voltsAfterStep_7 m_kX3_voltsAfterStep_8 m_kX3_voltsAfterStep_5 m_kX3_voltsAfterStep_9 ⟨by decide, Nat.le_of_ble_eq_true rfl, by decide, by decide⟩ dX3_voltsAfterStep_20 ?_
  exact x_iret C E dX3_voltsAfterStep_23 (rfl) (rfl)

theorem i_kX3_hoursToStep_X3 : ∀ w ∈ u_ws RX3 TX3 5, w ∈ wsX3_hoursToStep := by decide +kernel
theorem m_kX3_hoursToStep_1 : (Cond.fieldLink RX3 18 "LampRacks$Racks" "stepHours" "[I" : Cond) ∈ wsX3_hoursToStep := by decide +kernel
theorem m_kX3_hoursToStep_2 : (Cond.fieldLink RX3 24 "LampRacks$Racks" "hoursOfStep" "[I" : Cond) ∈ wsX3_hoursToStep := by decide +kernel
set_option maxRecDepth 100000 in
set_option maxHeartbeats 4000000 in
theorem kX3_hoursToStep (l : Launch) (G : GG) (b : Nat) (r1 : Nat) (r2 : Nat) (r3 : Nat) (r4 : Nat) (r5 : Nat) (fL : Nat → Int32) (fv : Nat → Int32) (fh : Nat → Int32) (ft : Nat → Int32) (fo : Nat → Int32) (k : Nat) (hk : k < 3) : RO l G yX3_hoursToStep wsX3_hoursToStep ({ frames := 0, cells := 0, slots := 0, locals := 0 } : Room) [.ref b, .int (nI k)] [(b, .inr (3, [.ref r1, .ref r2, .ref r3, .ref r4, .ref r5])), (r1, .inl (G.2.1, 24, .inl fL)), (r2, .inl (G.2.1, 3, .inl fv)), (r3, .inl (G.2.1, 3, .inl fh)), (r4, .inl (G.2.1, 3, .inl ft)), (r5, .inl (G.2.1, 3, .inl fo))] (.int (hTS (fh k) (fo k))) := by
  refine RO.of (cc := cX3_hoursToStep) (maxL := 2) (ret := (some .int)) (by decide) rfl (Nat.le_of_ble_eq_true rfl) ?_
  intro cx hxl hxG C E
  subst hxl
  subst hxG
  show X cx (0, 0) [(b, .inr (3, [.ref r1, .ref r2, .ref r3, .ref r4, .ref r5])), (r1, .inl ((xG cx).2.1, 24, .inl fL)), (r2, .inl ((xG cx).2.1, 3, .inl fv)), (r3, .inl ((xG cx).2.1, 3, .inl fh)), (r4, .inl ((xG cx).2.1, 3, .inl ft)), (r5, .inl ((xG cx).2.1, 3, .inl fo))] [(0, .ref b), (1, .int (nI k))] 0 []
  refine x_aload_n C 0 dX3_hoursToStep_0 rfl rfl ?_
  refine x_getf C 0 rfl rfl i_kX3_hoursToStep_X3 2 (by decide) m_kX3_hoursToStep_1 rfl rfl dX3_hoursToStep_1 ?_
  refine x_iload_n C 1 dX3_hoursToStep_4 rfl rfl ?_
  refine x_iald C 3 rfl rfl (vp_in_nI (by omega) (by decide)) (congrArg fh (nI_clamp (by omega))) dX3_hoursToStep_5 ?_
  refine x_if_ne C 15 dX3_hoursToStep_6 (by decide) (fun c_6 => ?_) (fun c_6 => ?_)
  ·
    refine x_aload_n C 0 dX3_hoursToStep_15 rfl rfl ?_
    refine x_getf C 0 rfl rfl i_kX3_hoursToStep_X3 2 (by decide) m_kX3_hoursToStep_1 rfl rfl dX3_hoursToStep_16 ?_
    refine x_iload_n C 1 dX3_hoursToStep_19 rfl rfl ?_
    refine x_iald C 3 rfl rfl (vp_in_nI (by omega) (by decide)) (congrArg fh (nI_clamp (by omega))) dX3_hoursToStep_20 ?_
    refine x_aload_n C 0 dX3_hoursToStep_21 rfl rfl ?_
    refine x_getf C 0 rfl rfl i_kX3_hoursToStep_X3 4 (by decide) m_kX3_hoursToStep_2 rfl rfl dX3_hoursToStep_22 ?_
    refine x_iload_n C 1 dX3_hoursToStep_25 rfl rfl ?_
    refine x_iald C 5 rfl rfl (vp_in_nI (by omega) (by decide)) (congrArg fo (nI_clamp (by omega))) dX3_hoursToStep_26 ?_
    refine x_isub C (rfl) dX3_hoursToStep_27 ?_
    exact x_iret C E dX3_hoursToStep_28 (by simp [hTS, c_6]) (rfl)
  ·
    refine x_sipush (v := (-1005)) C dX3_hoursToStep_9 (by decide) ?_
    refine x_goto (tgt := 28) C dX3_hoursToStep_12 (by decide) ?_
    exact x_iret C E dX3_hoursToStep_28 (by simp [hTS, c_6]) (rfl)

theorem i_kX3_hoursAtSameVolts_X3 : ∀ w ∈ u_ws RX3 TX3 5, w ∈ wsX3_hoursAtSameVolts := by decide +kernel
theorem m_kX3_hoursAtSameVolts_1 : (Cond.fieldLink RX3 18 "LampRacks$Racks" "stepHours" "[I" : Cond) ∈ wsX3_hoursAtSameVolts := by decide +kernel
theorem m_kX3_hoursAtSameVolts_2 : (Cond.fieldLink RX3 15 "LampRacks$Racks" "volts" "[I" : Cond) ∈ wsX3_hoursAtSameVolts := by decide +kernel
theorem m_kX3_hoursAtSameVolts_3 : (Cond.methodLink RX3 37 Lib.Math.min.name : Cond) ∈ wsX3_hoursAtSameVolts := by decide +kernel
theorem m_kX3_hoursAtSameVolts_4 : (Cond.static Lib.Math.min.name : Cond) ∈ wsX3_hoursAtSameVolts := by decide +kernel
theorem m_kX3_hoursAtSameVolts_5 : (Cond.initialized "java/lang/Math" : Cond) ∈ wsX3_hoursAtSameVolts := by decide +kernel
theorem m_kX3_hoursAtSameVolts_6 : (Cond.code Lib.Math.min.name Lib.Math.min.code 2 (some .int) : Cond) ∈ wsX3_hoursAtSameVolts := by decide +kernel
set_option maxRecDepth 100000 in
set_option maxHeartbeats 4000000 in
theorem kX3_hoursAtSameVolts (l : Launch) (G : GG) (b : Nat) (r1 : Nat) (r2 : Nat) (r3 : Nat) (r4 : Nat) (r5 : Nat) (fL : Nat → Int32) (fv : Nat → Int32) (fh : Nat → Int32) (ft : Nat → Int32) (fo : Nat → Int32) (k : Nat) (h : Int32) (hk : k < 3) : RO l G yX3_hoursAtSameVolts wsX3_hoursAtSameVolts ({ frames := 2, cells := 0, slots := 0, locals := 35 } : Room) [.ref b, .int (nI k), .int h] [(b, .inr (3, [.ref r1, .ref r2, .ref r3, .ref r4, .ref r5])), (r1, .inl (G.2.1, 24, .inl fL)), (r2, .inl (G.2.1, 3, .inl fv)), (r3, .inl (G.2.1, 3, .inl fh)), (r4, .inl (G.2.1, 3, .inl ft)), (r5, .inl (G.2.1, 3, .inl fo))] (.int (smH (fh k) (fv k) (ft k) (fo k) h)) := by
  refine RO.of (cc := cX3_hoursAtSameVolts) (maxL := 3) (ret := (some .int)) (by decide) rfl (Nat.le_of_ble_eq_true rfl) ?_
  intro cx hxl hxG C E
  subst hxl
  subst hxG
  show X cx (0, 0) [(b, .inr (3, [.ref r1, .ref r2, .ref r3, .ref r4, .ref r5])), (r1, .inl ((xG cx).2.1, 24, .inl fL)), (r2, .inl ((xG cx).2.1, 3, .inl fv)), (r3, .inl ((xG cx).2.1, 3, .inl fh)), (r4, .inl ((xG cx).2.1, 3, .inl ft)), (r5, .inl ((xG cx).2.1, 3, .inl fo))] [(0, .ref b), (1, .int (nI k)), (2, .int h)] 0 []
  refine x_aload_n C 0 dX3_hoursAtSameVolts_0 rfl rfl ?_
  refine x_getf C 0 rfl rfl i_kX3_hoursAtSameVolts_X3 2 (by decide) m_kX3_hoursAtSameVolts_1 rfl rfl dX3_hoursAtSameVolts_1 ?_
  refine x_iload_n C 1 dX3_hoursAtSameVolts_4 rfl rfl ?_
  refine x_iald C 3 rfl rfl (vp_in_nI (by omega) (by decide)) (congrArg fh (nI_clamp (by omega))) dX3_hoursAtSameVolts_5 ?_
  refine x_if_eq C 23 dX3_hoursAtSameVolts_6 (by decide) (fun c_6 => ?_) (fun c_6 => ?_)
  ·
    refine x_iload_n C 2 dX3_hoursAtSameVolts_23 rfl rfl ?_
    exact x_iret C E dX3_hoursAtSameVolts_24 (by simp [smH, mn, c_6]) (rfl)
  ·
    refine x_aload_n C 0 dX3_hoursAtSameVolts_9 rfl rfl ?_
    refine x_iload_n C 1 dX3_hoursAtSameVolts_10 rfl rfl ?_
    refine x_callVRO C ([.int (nI k)]) ([]) [0, 1, 2, 3, 4, 5] (k0 := 0) (na := 1) gX3_hoursAtSameVolts_X3_voltsAfterStep rfl (by decide +kernel) rfl rfl rfl (kX3_voltsAfterStep (xl cx) (xG cx) b r1 r2 r3 r4 r5 fL fv fh ft fo k (by first | assumption | rfl | omega | decide)) rfl (by decide) rfl rfl rfl ⟨by decide, by decide⟩ (Nat.le_of_ble_eq_true rfl) ⟨by decide, by decide⟩ dX3_hoursAtSameVolts_11 ?_
    refine x_aload_n C 0 dX3_hoursAtSameVolts_14 rfl rfl ?_
    refine x_getf C 0 rfl rfl i_kX3_hoursAtSameVolts_X3 1 (by decide) m_kX3_hoursAtSameVolts_2 rfl rfl dX3_hoursAtSameVolts_15 ?_
    refine x_iload_n C 1 dX3_hoursAtSameVolts_18 rfl rfl ?_
    refine x_iald C 2 rfl rfl (vp_in_nI (by omega) (by decide)) (congrArg fv (nI_clamp (by omega))) dX3_hoursAtSameVolts_19 ?_
    refine x_icmp_ne C 25 dX3_hoursAtSameVolts_20 (by decide) (fun c_20 => ?_) (fun c_20 => ?_)
    ·
      refine x_iload_n C 2 dX3_hoursAtSameVolts_25 rfl rfl ?_
      refine x_aload_n C 0 dX3_hoursAtSameVolts_26 rfl rfl ?_
      refine x_iload_n C 1 dX3_hoursAtSameVolts_27 rfl rfl ?_
      refine x_callVRO C ([.int (nI k)]) ([.int h]) [0, 1, 2, 3, 4, 5] (k0 := 0) (na := 1) gX3_hoursAtSameVolts_X3_hoursToStep rfl (by decide +kernel) rfl rfl rfl (kX3_hoursToStep (xl cx) (xG cx) b r1 r2 r3 r4 r5 fL fv fh ft fo k (by first | assumption | rfl | omega | decide)) rfl (by decide) rfl rfl rfl ⟨by decide, by decide⟩ (Nat.le_of_ble_eq_true rfl) ⟨by decide, by decide⟩ dX3_hoursAtSameVolts_28 ?_
      refine x_mmin C m_kX3_hoursAtSameVolts_3 m_kX3_hoursAtSameVolts_4 m_kX3_hoursAtSameVolts_5 m_kX3_hoursAtSameVolts_6 ⟨by decide, Nat.le_of_ble_eq_true rfl, by decide, by decide⟩ dX3_hoursAtSameVolts_31 ?_
      exact x_iret C E dX3_hoursAtSameVolts_34 (by simp [smH, mn, c_6, c_20]) (rfl)
    ·
      refine x_iload_n C 2 dX3_hoursAtSameVolts_23 rfl rfl ?_
      exact x_iret C E dX3_hoursAtSameVolts_24 (by simp [smH, mn, c_6, c_20]) (rfl)

theorem i_kX3_countHours_X3 : ∀ w ∈ u_ws RX3 TX3 5, w ∈ wsX3_countHours := by decide +kernel
theorem m_kX3_countHours_1 : (Cond.fieldLink RX3 18 "LampRacks$Racks" "stepHours" "[I" : Cond) ∈ wsX3_countHours := by decide +kernel
theorem m_kX3_countHours_2 : (Cond.fieldLink RX3 24 "LampRacks$Racks" "hoursOfStep" "[I" : Cond) ∈ wsX3_countHours := by decide +kernel
theorem m_kX3_countHours_3 : (Cond.fieldLink RX3 15 "LampRacks$Racks" "volts" "[I" : Cond) ∈ wsX3_countHours := by decide +kernel
set_option maxRecDepth 100000 in
set_option maxHeartbeats 4000000 in
theorem kX3_countHours (l : Launch) (G : GG) (b : Nat) (r1 : Nat) (r2 : Nat) (r3 : Nat) (r4 : Nat) (r5 : Nat) (fL : Nat → Int32) (fv : Nat → Int32) (fh : Nat → Int32) (ft : Nat → Int32) (fo : Nat → Int32) (k : Nat) (h : Int32) (hk : k < 3) : MU l G yX3_countHours wsX3_countHours ({ frames := 2, cells := 0, slots := 0, locals := 35 } : Room) [.ref b, .int (nI k), .int h] [(b, .inr (3, [.ref r1, .ref r2, .ref r3, .ref r4, .ref r5])), (r1, .inl (G.2.1, 24, .inl fL)), (r2, .inl (G.2.1, 3, .inl fv)), (r3, .inl (G.2.1, 3, .inl fh)), (r4, .inl (G.2.1, 3, .inl ft)), (r5, .inl (G.2.1, 3, .inl fo))] none [(b, .inr (3, [.ref r1, .ref r2, .ref r3, .ref r4, .ref r5])), (r1, .inl (G.2.1, 24, .inl fL)), (r2, .inl (G.2.1, 3, .inl (chV (fh k) (fo k) h k fv ft))), (r3, .inl (G.2.1, 3, .inl fh)), (r4, .inl (G.2.1, 3, .inl ft)), (r5, .inl (G.2.1, 3, .inl (chO (fh k) h k fo)))] := by
  refine MU.of (cc := cX3_countHours) (maxL := 5) (ret := none) (by decide) rfl (Nat.le_of_ble_eq_true rfl) ?_
  intro cx hxl hxG C M E
  subst hxl
  subst hxG
  show X cx (0, 0) [(b, .inr (3, [.ref r1, .ref r2, .ref r3, .ref r4, .ref r5])), (r1, .inl ((xG cx).2.1, 24, .inl fL)), (r2, .inl ((xG cx).2.1, 3, .inl fv)), (r3, .inl ((xG cx).2.1, 3, .inl fh)), (r4, .inl ((xG cx).2.1, 3, .inl ft)), (r5, .inl ((xG cx).2.1, 3, .inl fo))] [(0, .ref b), (1, .int (nI k)), (2, .int h)] 0 []
  refine x_aload_n C 0 dX3_countHours_0 rfl rfl ?_
  refine x_getf C 0 rfl rfl i_kX3_countHours_X3 2 (by decide) m_kX3_countHours_1 rfl rfl dX3_countHours_1 ?_
  refine x_iload_n C 1 dX3_countHours_4 rfl rfl ?_
  refine x_iald C 3 rfl rfl (vp_in_nI (by omega) (by decide)) (congrArg fh (nI_clamp (by omega))) dX3_countHours_5 ?_
  refine x_istore_n C [(3, .int (fh k)), (0, .ref b), (1, .int (nI k)), (2, .int h)] dX3_countHours_6 rfl (by decide) rfl ?_
  refine x_iload_n C 0 dX3_countHours_7 rfl rfl ?_
  refine x_if_ne C 12 dX3_countHours_8 (by decide) (fun c_8 => ?_) (fun c_8 => ?_)
  ·
    refine x_aload_n C 1 dX3_countHours_12 rfl rfl ?_
    refine x_getf C 0 rfl rfl i_kX3_countHours_X3 4 (by decide) m_kX3_countHours_2 rfl rfl dX3_countHours_13 ?_
    refine x_iload_n C 2 dX3_countHours_16 rfl rfl ?_
    refine x_iald C 5 rfl rfl (vp_in_nI (by omega) (by decide)) (congrArg fo (nI_clamp (by omega))) dX3_countHours_17 ?_
    refine x_iload_n C 3 dX3_countHours_18 rfl rfl ?_
    refine x_iadd C (rfl) dX3_countHours_19 ?_
    refine x_istore C [(4, .int ((fo k) + h)), (3, .int (fh k)), (0, .ref b), (1, .int (nI k)), (2, .int h)] dX3_countHours_20 (by decide) rfl ?_
    refine x_iload C 0 dX3_countHours_22 rfl ?_
    refine x_iload_n C 1 dX3_countHours_24 rfl rfl ?_
    refine x_icmp_lt C 39 dX3_countHours_25 (by decide) (fun c_25 => ?_) (fun c_25 => ?_)
    ·
      refine x_aload_n C 2 dX3_countHours_39 rfl rfl ?_
      refine x_getf C 0 rfl rfl i_kX3_countHours_X3 4 (by decide) m_kX3_countHours_2 rfl rfl dX3_countHours_40 ?_
      refine x_iload_n C 3 dX3_countHours_43 rfl rfl ?_
      refine x_iload C 0 dX3_countHours_44 rfl ?_
      refine x_iload_n C 1 dX3_countHours_46 rfl rfl ?_
      refine x_irem C (rfl) dX3_countHours_47 (c_8) ?_
      refine x_iast C M 5 rfl rfl (vp_in_nI (by omega) (by decide)) (nI_clamp (by omega)) [(b, .inr (3, [.ref r1, .ref r2, .ref r3, .ref r4, .ref r5])), (r1, .inl ((xG cx).2.1, 24, .inl fL)), (r2, .inl ((xG cx).2.1, 3, .inl fv)), (r3, .inl ((xG cx).2.1, 3, .inl fh)), (r4, .inl ((xG cx).2.1, 3, .inl ft)), (r5, .inl ((xG cx).2.1, 3, .inl (upd fo k (((fo k) + h) - ((fo k) + h) / (fh k) * (fh k)))))] rfl dX3_countHours_48 ?_
      exact x_vret C E dX3_countHours_49 (by simp [chV, chO, c_8, c_25])
    ·
      refine x_aload_n C 2 dX3_countHours_28 rfl rfl ?_
      refine x_getf C 0 rfl rfl i_kX3_countHours_X3 1 (by decide) m_kX3_countHours_3 rfl rfl dX3_countHours_29 ?_
      refine x_iload_n C 3 dX3_countHours_32 rfl rfl ?_
      refine x_aload_n C 2 dX3_countHours_33 rfl rfl ?_
      refine x_iload_n C 3 dX3_countHours_34 rfl rfl ?_
      refine x_callVRO C ([.int (nI k)]) ([.int (nI k), .ref r2]) [0, 1, 2, 3, 4, 5] (k0 := 0) (na := 1) gX3_countHours_X3_voltsAfterStep rfl (by decide +kernel) rfl rfl rfl (kX3_voltsAfterStep (xl cx) (xG cx) b r1 r2 r3 r4 r5 fL fv fh ft fo k (by first | assumption | rfl | omega | decide)) rfl (by decide) rfl rfl rfl ⟨by decide, by decide⟩ (Nat.le_of_ble_eq_true rfl) ⟨by decide, by decide⟩ dX3_countHours_35 ?_
      refine x_iast C M 2 rfl rfl (vp_in_nI (by omega) (by decide)) (nI_clamp (by omega)) [(b, .inr (3, [.ref r1, .ref r2, .ref r3, .ref r4, .ref r5])), (r1, .inl ((xG cx).2.1, 24, .inl fL)), (r2, .inl ((xG cx).2.1, 3, .inl (upd fv k (cl3 (fv k + ft k))))), (r3, .inl ((xG cx).2.1, 3, .inl fh)), (r4, .inl ((xG cx).2.1, 3, .inl ft)), (r5, .inl ((xG cx).2.1, 3, .inl fo))] rfl dX3_countHours_38 ?_
      refine x_aload_n C 2 dX3_countHours_39 rfl rfl ?_
      refine x_getf C 0 rfl rfl i_kX3_countHours_X3 4 (by decide) m_kX3_countHours_2 rfl rfl dX3_countHours_40 ?_
      refine x_iload_n C 3 dX3_countHours_43 rfl rfl ?_
      refine x_iload C 0 dX3_countHours_44 rfl ?_
      refine x_iload_n C 1 dX3_countHours_46 rfl rfl ?_
      refine x_irem C (rfl) dX3_countHours_47 (c_8) ?_
      refine x_iast C M 5 rfl rfl (vp_in_nI (by omega) (by decide)) (nI_clamp (by omega)) [(b, .inr (3, [.ref r1, .ref r2, .ref r3, .ref r4, .ref r5])), (r1, .inl ((xG cx).2.1, 24, .inl fL)), (r2, .inl ((xG cx).2.1, 3, .inl (upd fv k (cl3 (fv k + ft k))))), (r3, .inl ((xG cx).2.1, 3, .inl fh)), (r4, .inl ((xG cx).2.1, 3, .inl ft)), (r5, .inl ((xG cx).2.1, 3, .inl (upd fo k (((fo k) + h) - ((fo k) + h) / (fh k) * (fh k)))))] rfl dX3_countHours_48 ?_
      exact x_vret C E dX3_countHours_49 (by simp [chV, chO, c_8, c_25])
  ·
    exact x_vret C E dX3_countHours_11 (by simp [chV, chO, c_8])

theorem i_kX0_hoursOfLamp_X0 : ∀ w ∈ u_ws RX0 TX0 2, w ∈ wsX0_hoursOfLamp := by decide +kernel
theorem m_kX0_hoursOfLamp_1 : (Cond.fieldLink RX0 9 "LampRacks$Batches" "life" "[I" : Cond) ∈ wsX0_hoursOfLamp := by decide +kernel
theorem m_kX0_hoursOfLamp_2 : (Cond.fieldLink RX0 15 "LampRacks$Batches" "spread" "[I" : Cond) ∈ wsX0_hoursOfLamp := by decide +kernel
theorem m_kX0_hoursOfLamp_3 : (Cond.static yX6_shareOf : Cond) ∈ wsX0_hoursOfLamp := by decide +kernel
theorem m_kX0_hoursOfLamp_4 : (Cond.initialized RX6 : Cond) ∈ wsX0_hoursOfLamp := by decide +kernel
theorem m_kX0_hoursOfLamp_5 : (Cond.static yX6_isWeak : Cond) ∈ wsX0_hoursOfLamp := by decide +kernel
theorem m_kX0_hoursOfLamp_6 : (Cond.methodLink RX0 30 Lib.Math.max.name : Cond) ∈ wsX0_hoursOfLamp := by decide +kernel
theorem m_kX0_hoursOfLamp_7 : (Cond.static Lib.Math.max.name : Cond) ∈ wsX0_hoursOfLamp := by decide +kernel
theorem m_kX0_hoursOfLamp_8 : (Cond.initialized "java/lang/Math" : Cond) ∈ wsX0_hoursOfLamp := by decide +kernel
theorem m_kX0_hoursOfLamp_9 : (Cond.code Lib.Math.max.name Lib.Math.max.code 2 (some .int) : Cond) ∈ wsX0_hoursOfLamp := by decide +kernel
set_option maxRecDepth 100000 in
set_option maxHeartbeats 4000000 in
theorem kX0_hoursOfLamp (l : Launch) (G : GG) (b : Nat) (q1 : Nat) (q2 : Nat) (gl : Nat → Int32) (gp : Nat → Int32) (k : Nat) (u : Int32) (hk : k < 6) : RO l G yX0_hoursOfLamp wsX0_hoursOfLamp ({ frames := 2, cells := 0, slots := 0, locals := 40 } : Room) [.ref b, .int (nI k), .int u] [(b, .inr (0, [.ref q1, .ref q2])), (q1, .inl (G.2.1, 6, .inl gl)), (q2, .inl (G.2.1, 6, .inl gp))] (.int (hoL (gl k) (gp k) u)) := by
  refine RO.of (cc := cX0_hoursOfLamp) (maxL := 5) (ret := (some .int)) (by decide) rfl (Nat.le_of_ble_eq_true rfl) ?_
  intro cx hxl hxG C E
  subst hxl
  subst hxG
  show X cx (0, 0) [(b, .inr (0, [.ref q1, .ref q2])), (q1, .inl ((xG cx).2.1, 6, .inl gl)), (q2, .inl ((xG cx).2.1, 6, .inl gp))] [(0, .ref b), (1, .int (nI k)), (2, .int u)] 0 []
  refine x_aload_n C 0 dX0_hoursOfLamp_0 rfl rfl ?_
  refine x_getf C 0 rfl rfl i_kX0_hoursOfLamp_X0 0 (by decide) m_kX0_hoursOfLamp_1 rfl rfl dX0_hoursOfLamp_1 ?_
  refine x_iload_n C 1 dX0_hoursOfLamp_4 rfl rfl ?_
  refine x_iald C 1 rfl rfl (vp_in_nI (by omega) (by decide)) (congrArg gl (nI_clamp (by omega))) dX0_hoursOfLamp_5 ?_
  refine x_aload_n C 0 dX0_hoursOfLamp_6 rfl rfl ?_
  refine x_getf C 0 rfl rfl i_kX0_hoursOfLamp_X0 1 (by decide) m_kX0_hoursOfLamp_2 rfl rfl dX0_hoursOfLamp_7 ?_
  refine x_iload_n C 1 dX0_hoursOfLamp_10 rfl rfl ?_
  refine x_iald C 2 rfl rfl (vp_in_nI (by omega) (by decide)) (congrArg gp (nI_clamp (by omega))) dX0_hoursOfLamp_11 ?_
  refine x_imul C (rfl) dX0_hoursOfLamp_12 ?_
  refine x_iload_n C 2 dX0_hoursOfLamp_13 rfl rfl ?_
  refine x_callNRO C ([.int u]) ([.int ((gl k) * (gp k))]) [] (na := 1) (host := "LampRacks") gX0_hoursOfLamp_X6_shareOf_n22 (by decide +kernel) m_kX0_hoursOfLamp_3 m_kX0_hoursOfLamp_4 rfl (by decide +kernel) rfl (kX6_shareOf (xl cx) (xG cx) u) rfl (by decide) rfl rfl rfl ⟨by decide, by decide⟩ (Nat.le_of_ble_eq_true rfl) ⟨by decide, by decide⟩ dX0_hoursOfLamp_14 ?_
  refine x_imul C (rfl) dX0_hoursOfLamp_17 ?_
  refine x_sipush (v := 1000) C dX0_hoursOfLamp_18 (by decide) ?_
  refine x_idiv C (rfl) dX0_hoursOfLamp_21 (by decide) ?_
  refine x_istore_n C [(3, .int ((((gl k) * (gp k)) * (shr u)) / 1000)), (0, .ref b), (1, .int (nI k)), (2, .int u)] dX0_hoursOfLamp_22 rfl (by decide) rfl ?_
  refine x_aload_n C 1 dX0_hoursOfLamp_23 rfl rfl ?_
  refine x_getf C 0 rfl rfl i_kX0_hoursOfLamp_X0 0 (by decide) m_kX0_hoursOfLamp_1 rfl rfl dX0_hoursOfLamp_24 ?_
  refine x_iload_n C 2 dX0_hoursOfLamp_27 rfl rfl ?_
  refine x_iald C 1 rfl rfl (vp_in_nI (by omega) (by decide)) (congrArg gl (nI_clamp (by omega))) dX0_hoursOfLamp_28 ?_
  refine x_iload_n C 0 dX0_hoursOfLamp_29 rfl rfl ?_
  refine x_isub C (rfl) dX0_hoursOfLamp_30 ?_
  refine x_istore C [(4, .int ((gl k) - ((((gl k) * (gp k)) * (shr u)) / 1000))), (3, .int ((((gl k) * (gp k)) * (shr u)) / 1000)), (0, .ref b), (1, .int (nI k)), (2, .int u)] dX0_hoursOfLamp_31 (by decide) rfl ?_
  refine x_iconst (v := 1) C dX0_hoursOfLamp_33 (by decide) ?_
  refine x_iload_n C 4 dX0_hoursOfLamp_34 rfl rfl ?_
  refine x_callNRO C ([.int u]) ([.int 1]) [] (na := 1) (host := "LampRacks") gX0_hoursOfLamp_X6_isWeak_n26 (by decide +kernel) m_kX0_hoursOfLamp_5 m_kX0_hoursOfLamp_4 rfl (by decide +kernel) rfl (kX6_isWeak (xl cx) (xG cx) u) rfl (by decide) rfl rfl rfl ⟨by decide, by decide⟩ (Nat.le_of_ble_eq_true rfl) ⟨by decide, by decide⟩ dX0_hoursOfLamp_35 ?_
  refine x_ifb_eq (P := shr u = 9) C 49 dX0_hoursOfLamp_38 (by decide) (fun c_38 => ?_) (fun c_38 => ?_)
  ·
    refine x_iload C 0 dX0_hoursOfLamp_49 rfl ?_
    refine x_mmax C m_kX0_hoursOfLamp_6 m_kX0_hoursOfLamp_7 m_kX0_hoursOfLamp_8 m_kX0_hoursOfLamp_9 ⟨by decide, Nat.le_of_ble_eq_true rfl, by decide, by decide⟩ dX0_hoursOfLamp_51 ?_
    exact x_iret C E dX0_hoursOfLamp_54 (by simp [hoL, mx1, c_38]) (rfl)
  ·
    refine x_iload C 0 dX0_hoursOfLamp_41 rfl ?_
    refine x_bipush (v := 10) C dX0_hoursOfLamp_43 (by decide) ?_
    refine x_idiv C (rfl) dX0_hoursOfLamp_45 (by decide) ?_
    refine x_goto (tgt := 51) C dX0_hoursOfLamp_46 (by decide) ?_
    refine x_mmax C m_kX0_hoursOfLamp_6 m_kX0_hoursOfLamp_7 m_kX0_hoursOfLamp_8 m_kX0_hoursOfLamp_9 ⟨by decide, Nat.le_of_ble_eq_true rfl, by decide, by decide⟩ dX0_hoursOfLamp_51 ?_
    exact x_iret C E dX0_hoursOfLamp_54 (by simp [hoL, mx1, c_38]) (rfl)
