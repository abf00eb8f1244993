def spF (i : Nat) : Nat → Int32 := fun j => if j < i then nI (10 * j) else 0
theorem spF_0 : (fun _ => 0 : Nat → Int32) = spF 0 := by
  funext j
  exact (if_neg (Nat.not_lt_zero j)).symm
theorem spF_s (i : Nat) : upd (spF i) i (nI (10 * i)) = spF (i + 1) := by
  funext j
  unfold upd spF
  by_cases h : j = i
  · subst h
    rw [if_pos rfl, if_pos (by omega)]
  · rw [if_neg h]
    by_cases h2 : j < i
    · rw [if_pos h2, if_pos (by omega)]
    · rw [if_neg h2, if_neg (by omega)]
def bI (z : Nat → Int32) : Nat → (Nat → Int32)
  | 0 => z
  | b + 1 => upd (upd (bI z b) (4 + 2 * b) 1000) (4 + 2 * b + 1) (nI (10 * b))
theorem bI_s (z : Nat → Int32) (b : Nat) : bI z (b + 1) = upd (upd (bI z b) (4 + 2 * b) 1000) (4 + 2 * b + 1) (nI (10 * b)) := rfl
def vI (z : Nat → Int32) : Nat → (Nat → Int32)
  | 0 => z
  | r + 1 => upd (vI z r) (16 + 4 * r) 230
theorem vI_s (z : Nat → Int32) (r : Nat) : vI z (r + 1) = upd (vI z r) (16 + 4 * r) 230 := rfl
def z00 : Nat → Int32 := upd (upd (fun _ => 0) 0 230) 1 10
/-- the reference's first numbers -/
def zI : Nat → Int32 := vI (bI z00 6) 3

theorem m_kX2_init_0 : (Cond.methodLink RX2 3 objectInit : Cond) ∈ wsX2_init := by decide +kernel
theorem m_kX2_init_1 : (Cond.instanceMethod objectInit : Cond) ∈ wsX2_init := by decide +kernel
theorem m_kX2_init_2 : (Cond.code objectInit ⟨#[0xb1]⟩ 1 none : Cond) ∈ wsX2_init := by decide +kernel
theorem i_kX2_init_X2 : ∀ w ∈ u_ws RX2 TX2 7, w ∈ wsX2_init := by decide +kernel
theorem m_kX2_init_4 : (Cond.fieldLink RX2 9 "LampRacks$Lamps" "size" "I" : Cond) ∈ wsX2_init := by decide +kernel
theorem m_kX2_init_5 : (Cond.arrayClass .int : Cond) ∈ wsX2_init := by decide +kernel
theorem m_kX2_init_6 : (Cond.fieldLink RX2 15 "LampRacks$Lamps" "batch" "[I" : Cond) ∈ wsX2_init := by decide +kernel
theorem m_kX2_init_7 : (Cond.fieldLink RX2 19 "LampRacks$Lamps" "spot" "[I" : Cond) ∈ wsX2_init := by decide +kernel
theorem m_kX2_init_8 : (Cond.fieldLink RX2 22 "LampRacks$Lamps" "canLast" "[I" : Cond) ∈ wsX2_init := by decide +kernel
theorem m_kX2_init_9 : (Cond.fieldLink RX2 25 "LampRacks$Lamps" "wear" "[I" : Cond) ∈ wsX2_init := by decide +kernel
theorem m_kX2_init_10 : (Cond.fieldLink RX2 28 "LampRacks$Lamps" "burned" "[I" : Cond) ∈ wsX2_init := by decide +kernel
theorem m_kX2_init_11 : (Cond.fieldLink RX2 31 "LampRacks$Lamps" "end" "[I" : Cond) ∈ wsX2_init := by decide +kernel
set_option maxRecDepth 100000 in
set_option maxHeartbeats 4000000 in
theorem kX2_init (l : Launch) (G : GG) (m : Nat) (sz : Nat)  : NI l G yX2_init wsX2_init ({ frames := 1, cells := 6, slots := 360, locals := 28 } : Room) [.ref m] [(m, .inr (2, [.int 0, .null, .null, .null, .null, .null, .null]))] sz 6 360 (fun a => [(m, .inr (2, [.int 0, .ref (a 0), .ref (a 1), .ref (a 2), .ref (a 3), .ref (a 4), .ref (a 5)])), (a 0, .inl (G.2.1, 60, .inl (fun _ => 0))), (a 1, .inl (G.2.1, 60, .inl (fun _ => 0))), (a 2, .inl (G.2.1, 60, .inl (fun _ => 0))), (a 3, .inl (G.2.1, 60, .inl (fun _ => 0))), (a 4, .inl (G.2.1, 60, .inl (fun _ => 0))), (a 5, .inl (G.2.1, 60, .inl (fun _ => 0)))]) := by
  refine NI.of (cc := cX2_init) (maxL := 1) (by decide) rfl rfl (Nat.le_of_ble_eq_true rfl) ?_
  intro cx hxl hxG C N I E
  have M := N.M
  subst hxl
  subst hxG
  show X cx (0, 0) [(m, .inr (2, [.int 0, .null, .null, .null, .null, .null, .null]))] [(0, .ref m)] 0 []
  refine x_aload_n C 0 dX2_init_0 rfl rfl ?_
  refine x_oini C m_kX2_init_0 m_kX2_init_1 m_kX2_init_2 (by decide) (Nat.le_of_ble_eq_true rfl) dX2_init_1 ?_
  refine x_aload_n C 0 dX2_init_4 rfl rfl ?_
  refine x_iconst (v := 0) C dX2_init_5 (by decide) ?_
  refine x_putf (ty := .int) C M 0 rfl rfl i_kX2_init_X2 0 (by decide) m_kX2_init_4 rfl rfl tyX2 tyX2_ok nmX2 (by decide +kernel) rfl rfl (Nat.le_of_ble_eq_true rfl) [(m, .inr (2, [.int 0, .null, .null, .null, .null, .null, .null]))] rfl dX2_init_6 ?_
  refine x_aload_n C 0 dX2_init_9 rfl rfl ?_
  refine x_bipush (v := 60) C dX2_init_10 (by decide) ?_
  refine x_top (y := nI 60) rfl ?_
  refine x_newi C N (n := 60) m_kX2_init_5 (by decide) (Nat.le_of_ble_eq_true rfl) (Nat.le_of_ble_eq_true rfl) dX2_init_12 (fun q12 => ?_)
  refine x_ws [(m, .inr (2, [.int 0, .null, .null, .null, .null, .null, .null])), (q12, .inl ((xG cx).2.1, 60, .inl (fun _ => 0)))] rfl ?_
  refine x_putF (ty := .array .int) C M I 0 rfl rfl i_kX2_init_X2 1 (by decide) m_kX2_init_6 rfl rfl rfl tyX2 tyX2_ok nmX2 (by decide +kernel) rfl rfl (Nat.le_of_ble_eq_true rfl) [(m, .inr (2, [.int 0, .ref q12, .null, .null, .null, .null, .null])), (q12, .inl ((xG cx).2.1, 60, .inl (fun _ => 0)))] rfl dX2_init_14 ?_
  refine x_aload_n C 0 dX2_init_17 rfl rfl ?_
  refine x_bipush (v := 60) C dX2_init_18 (by decide) ?_
  refine x_top (y := nI 60) rfl ?_
  refine x_newi C N (n := 60) m_kX2_init_5 (by decide) (Nat.le_of_ble_eq_true rfl) (Nat.le_of_ble_eq_true rfl) dX2_init_20 (fun q20 => ?_)
  refine x_ws [(m, .inr (2, [.int 0, .ref q12, .null, .null, .null, .null, .null])), (q12, .inl ((xG cx).2.1, 60, .inl (fun _ => 0))), (q20, .inl ((xG cx).2.1, 60, .inl (fun _ => 0)))] rfl ?_
  refine x_putF (ty := .array .int) C M I 0 rfl rfl i_kX2_init_X2 2 (by decide) m_kX2_init_7 rfl rfl rfl tyX2 tyX2_ok nmX2 (by decide +kernel) rfl rfl (Nat.le_of_ble_eq_true rfl) [(m, .inr (2, [.int 0, .ref q12, .ref q20, .null, .null, .null, .null])), (q12, .inl ((xG cx).2.1, 60, .inl (fun _ => 0))), (q20, .inl ((xG cx).2.1, 60, .inl (fun _ => 0)))] rfl dX2_init_22 ?_
  refine x_aload_n C 0 dX2_init_25 rfl rfl ?_
  refine x_bipush (v := 60) C dX2_init_26 (by decide) ?_
  refine x_top (y := nI 60) rfl ?_
  refine x_newi C N (n := 60) m_kX2_init_5 (by decide) (Nat.le_of_ble_eq_true rfl) (Nat.le_of_ble_eq_true rfl) dX2_init_28 (fun q28 => ?_)
  refine x_ws [(m, .inr (2, [.int 0, .ref q12, .ref q20, .null, .null, .null, .null])), (q12, .inl ((xG cx).2.1, 60, .inl (fun _ => 0))), (q20, .inl ((xG cx).2.1, 60, .inl (fun _ => 0))), (q28, .inl ((xG cx).2.1, 60, .inl (fun _ => 0)))] rfl ?_
  refine x_putF (ty := .array .int) C M I 0 rfl rfl i_kX2_init_X2 3 (by decide) m_kX2_init_8 rfl rfl rfl tyX2 tyX2_ok nmX2 (by decide +kernel) rfl rfl (Nat.le_of_ble_eq_true rfl) [(m, .inr (2, [.int 0, .ref q12, .ref q20, .ref q28, .null, .null, .null])), (q12, .inl ((xG cx).2.1, 60, .inl (fun _ => 0))), (q20, .inl ((xG cx).2.1, 60, .inl (fun _ => 0))), (q28, .inl ((xG cx).2.1, 60, .inl (fun _ => 0)))] rfl dX2_init_30 ?_
  refine x_aload_n C 0 dX2_init_33 rfl rfl ?_
  refine x_bipush (v := 60) C dX2_init_34 (by decide) ?_
  refine x_top (y := nI 60) rfl ?_
  refine x_newi C N (n := 60) m_kX2_init_5 (by decide) (Nat.le_of_ble_eq_true rfl) (Nat.le_of_ble_eq_true rfl) dX2_init_36 (fun q36 => ?_)
  refine x_ws [(m, .inr (2, [.int 0, .ref q12, .ref q20, .ref q28, .null, .null, .null])), (q12, .inl ((xG cx).2.1, 60, .inl (fun _ => 0))), (q20, .inl ((xG cx).2.1, 60, .inl (fun _ => 0))), (q28, .inl ((xG cx).2.1, 60, .inl (fun _ => 0))), (q36, .inl ((xG cx).2.1, 60, .inl (fun _ => 0)))] rfl ?_
  refine x_putF (ty := .array .int) C M I 0 rfl rfl i_kX2_init_X2 4 (by decide) m_kX2_init_9 rfl rfl rfl tyX2 tyX2_ok nmX2 (by decide +kernel) rfl rfl (Nat.le_of_ble_eq_true rfl) [(m, .inr (2, [.int 0, .ref q12, .ref q20, .ref q28, .ref q36, .null, .null])), (q12, .inl ((xG cx).2.1, 60, .inl (fun _ => 0))), (q20, .inl ((xG cx).2.1, 60, .inl (fun _ => 0))), (q28, .inl ((xG cx).2.1, 60, .inl (fun _ => 0))), (q36, .inl ((xG cx).2.1, 60, .inl (fun _ => 0)))] rfl dX2_init_38 ?_
  refine x_aload_n C 0 dX2_init_41 rfl rfl ?_
  refine x_bipush (v := 60) C dX2_init_42 (by decide) ?_
  refine x_top (y := nI 60) rfl ?_
  refine x_newi C N (n := 60) m_kX2_init_5 (by decide) (Nat.le_of_ble_eq_true rfl) (Nat.le_of_ble_eq_true rfl) dX2_init_44 (fun q44 => ?_)
  refine x_ws [(m, .inr (2, [.int 0, .ref q12, .ref q20, .ref q28, .ref q36, .null, .null])), (q12, .inl ((xG cx).2.1, 60, .inl (fun _ => 0))), (q20, .inl ((xG cx).2.1, 60, .inl (fun _ => 0))), (q28, .inl ((xG cx).2.1, 60, .inl (fun _ => 0))), (q36, .inl ((xG cx).2.1, 60, .inl (fun _ => 0))), (q44, .inl ((xG cx).2.1, 60, .inl (fun _ => 0)))] rfl ?_
  refine x_putF (ty := .array .int) C M I 0 rfl rfl i_kX2_init_X2 5 (by decide) m_kX2_init_10 rfl rfl rfl tyX2 tyX2_ok nmX2 (by decide +kernel) rfl rfl (Nat.le_of_ble_eq_true rfl) [(m, .inr (2, [.int 0, .ref q12, .ref q20, .ref q28, .ref q36, .ref q44, .null])), (q12, .inl ((xG cx).2.1, 60, .inl (fun _ => 0))), (q20, .inl ((xG cx).2.1, 60, .inl (fun _ => 0))), (q28, .inl ((xG cx).2.1, 60, .inl (fun _ => 0))), (q36, .inl ((xG cx).2.1, 60, .inl (fun _ => 0))), (q44, .inl ((xG cx).2.1, 60, .inl (fun _ => 0)))] rfl dX2_init_46 ?_
  refine x_aload_n C 0 dX2_init_49 rfl rfl ?_
  refine x_bipush (v := 60) C dX2_init_50 (by decide) ?_
  refine x_top (y := nI 60) rfl ?_
  refine x_newi C N (n := 60) m_kX2_init_5 (by decide) (Nat.le_of_ble_eq_true rfl) (Nat.le_of_ble_eq_true rfl) dX2_init_52 (fun q52 => ?_)
  refine x_ws [(m, .inr (2, [.int 0, .ref q12, .ref q20, .ref q28, .ref q36, .ref q44, .null])), (q12, .inl ((xG cx).2.1, 60, .inl (fun _ => 0))), (q20, .inl ((xG cx).2.1, 60, .inl (fun _ => 0))), (q28, .inl ((xG cx).2.1, 60, .inl (fun _ => 0))), (q36, .inl ((xG cx).2.1, 60, .inl (fun _ => 0))), (q44, .inl ((xG cx).2.1, 60, .inl (fun _ => 0))), (q52, .inl ((xG cx).2.1, 60, .inl (fun _ => 0)))] rfl ?_
  refine x_putF (ty := .array .int) C M I 0 rfl rfl i_kX2_init_X2 6 (by decide) m_kX2_init_11 rfl rfl rfl tyX2 tyX2_ok nmX2 (by decide +kernel) rfl rfl (Nat.le_of_ble_eq_true rfl) [(m, .inr (2, [.int 0, .ref q12, .ref q20, .ref q28, .ref q36, .ref q44, .ref q52])), (q12, .inl ((xG cx).2.1, 60, .inl (fun _ => 0))), (q20, .inl ((xG cx).2.1, 60, .inl (fun _ => 0))), (q28, .inl ((xG cx).2.1, 60, .inl (fun _ => 0))), (q36, .inl ((xG cx).2.1, 60, .inl (fun _ => 0))), (q44, .inl ((xG cx).2.1, 60, .inl (fun _ => 0))), (q52, .inl ((xG cx).2.1, 60, .inl (fun _ => 0)))] rfl dX2_init_54 ?_
  exact x_nret C E dX2_init_57 (fun k => match k with | 0 => q12 | 1 => q20 | 2 => q28 | 3 => q36 | 4 => q44 | 5 => q52 | _ => 0) (rfl)

theorem m_kX0_init_0 : (Cond.methodLink RX0 3 objectInit : Cond) ∈ wsX0_init := by decide +kernel
theorem m_kX0_init_1 : (Cond.instanceMethod objectInit : Cond) ∈ wsX0_init := by decide +kernel
theorem m_kX0_init_2 : (Cond.code objectInit ⟨#[0xb1]⟩ 1 none : Cond) ∈ wsX0_init := by decide +kernel
theorem m_kX0_init_3 : (Cond.arrayClass .int : Cond) ∈ wsX0_init := by decide +kernel
theorem i_kX0_init_X0 : ∀ w ∈ u_ws RX0 TX0 2, w ∈ wsX0_init := by decide +kernel
theorem m_kX0_init_5 : (Cond.fieldLink RX0 9 "LampRacks$Batches" "life" "[I" : Cond) ∈ wsX0_init := by decide +kernel
theorem m_kX0_init_6 : (Cond.fieldLink RX0 15 "LampRacks$Batches" "spread" "[I" : Cond) ∈ wsX0_init := by decide +kernel
set_option maxRecDepth 100000 in
set_option maxHeartbeats 4000000 in
theorem kX0_init (l : Launch) (G : GG) (m : Nat) (sz : Nat)  : NI l G yX0_init wsX0_init ({ frames := 1, cells := 2, slots := 12, locals := 28 } : Room) [.ref m] [(m, .inr (0, [.null, .null]))] sz 2 12 (fun a => [(m, .inr (0, [.ref (a 0), .ref (a 1)])), (a 0, .inl (G.2.1, 6, .inl (flF (fun _ => 0) 1000 6))), (a 1, .inl (G.2.1, 6, .inl (spF 6)))]) := by
  refine NI.of (cc := cX0_init) (maxL := 2) (by decide) rfl rfl (Nat.le_of_ble_eq_true rfl) ?_
  intro cx hxl hxG C N I E
  have M := N.M
  subst hxl
  subst hxG
  show X cx (0, 0) [(m, .inr (0, [.null, .null]))] [(0, .ref m)] 0 []
  refine x_aload_n C 0 dX0_init_0 rfl rfl ?_
  refine x_oini C m_kX0_init_0 m_kX0_init_1 m_kX0_init_2 (by decide) (Nat.le_of_ble_eq_true rfl) dX0_init_1 ?_
  refine x_aload_n C 0 dX0_init_4 rfl rfl ?_
  refine x_bipush (v := 6) C dX0_init_5 (by decide) ?_
  refine x_top (y := nI 6) rfl ?_
  refine x_newi C N (n := 6) m_kX0_init_3 (by decide) (Nat.le_of_ble_eq_true rfl) (Nat.le_of_ble_eq_true rfl) dX0_init_7 (fun q7 => ?_)
  refine x_ws [(m, .inr (0, [.null, .null])), (q7, .inl ((xG cx).2.1, 6, .inl (fun _ => 0)))] rfl ?_
  refine x_putF (ty := .array .int) C M I 0 rfl rfl i_kX0_init_X0 0 (by decide) m_kX0_init_5 rfl rfl rfl tyX0 tyX0_ok nmX0 (by decide +kernel) rfl rfl (Nat.le_of_ble_eq_true rfl) [(m, .inr (0, [.ref q7, .null])), (q7, .inl ((xG cx).2.1, 6, .inl (fun _ => 0)))] rfl dX0_init_9 ?_
  refine x_aload_n C 0 dX0_init_12 rfl rfl ?_
  refine x_bipush (v := 6) C dX0_init_13 (by decide) ?_
  refine x_top (y := nI 6) rfl ?_
  refine x_newi C N (n := 6) m_kX0_init_3 (by decide) (Nat.le_of_ble_eq_true rfl) (Nat.le_of_ble_eq_true rfl) dX0_init_15 (fun q15 => ?_)
  refine x_ws [(m, .inr (0, [.ref q7, .null])), (q7, .inl ((xG cx).2.1, 6, .inl (fun _ => 0))), (q15, .inl ((xG cx).2.1, 6, .inl (fun _ => 0)))] rfl ?_
  refine x_putF (ty := .array .int) C M I 0 rfl rfl i_kX0_init_X0 1 (by decide) m_kX0_init_6 rfl rfl rfl tyX0 tyX0_ok nmX0 (by decide +kernel) rfl rfl (Nat.le_of_ble_eq_true rfl) [(m, .inr (0, [.ref q7, .ref q15])), (q7, .inl ((xG cx).2.1, 6, .inl (fun _ => 0))), (q15, .inl ((xG cx).2.1, 6, .inl (fun _ => 0)))] rfl dX0_init_17 ?_
  refine x_iconst (v := 0) C dX0_init_20 (by decide) ?_
  refine x_istore_n C [(1, .int 0), (0, .ref m)] dX0_init_21 rfl (by decide) rfl ?_
  have loop_22 : ∀ (zz : Nat) (i : Nat) (f : Nat → Int32) (g : Nat → Int32) (hi : i ≤ 6) (hz : 7 ≤ i + zz) (ef : f = flF (fun _ => 0) 1000 i) (eg : g = spF i), X cx (2, 12) [(m, .inr (0, [.ref q7, .ref q15])), (q7, .inl ((xG cx).2.1, 6, .inl f)), (q15, .inl ((xG cx).2.1, 6, .inl g))] [(0, .ref m), (1, .int (nI i))] 22 [] := by
    intro zz
    induction zz with
    | zero =>
      intro i f g hi hz ef eg
      exfalso; omega
    | succ zz ih =>
      intro i f g hi hz ef eg
      refine x_iload_n C 1 dX0_init_22 rfl rfl ?_
      refine x_bipush (v := 6) C dX0_init_23 (by decide) ?_
      refine x_icmp_ge C 53 dX0_init_25 (by decide) (fun c_25 => ?_) (fun c_25 => ?_)
      ·
        have n_25 : 6 ≤ i := (nI_leI (a := 6) (b := i) (by omega) (by omega)).mp c_25
        exact x_nret C E dX0_init_53 (fun k => match k with | 0 => q7 | 1 => q15 | _ => 0) (by rw [ef, eg, show i = 6 from by omega]; rfl)
      ·
        have n_25 : ¬ (6 ≤ i) := fun q => c_25 ((nI_leI (a := 6) (b := i) (by omega) (by omega)).mpr q)
        refine x_aload_n C 0 dX0_init_28 rfl rfl ?_
        refine x_getf C 0 rfl rfl i_kX0_init_X0 0 (by decide) m_kX0_init_5 rfl rfl dX0_init_29 ?_
        refine x_iload_n C 1 dX0_init_32 rfl rfl ?_
        refine x_sipush (v := 1000) C dX0_init_33 (by decide) ?_
        refine x_iast C M 1 rfl rfl (vp_in_nI (by omega) (by decide)) (nI_clamp (by omega)) [(m, .inr (0, [.ref q7, .ref q15])), (q7, .inl ((xG cx).2.1, 6, .inl (upd f i 1000))), (q15, .inl ((xG cx).2.1, 6, .inl g))] rfl dX0_init_36 ?_
        refine x_aload_n C 0 dX0_init_37 rfl rfl ?_
        refine x_getf C 0 rfl rfl i_kX0_init_X0 1 (by decide) m_kX0_init_6 rfl rfl dX0_init_38 ?_
        refine x_iload_n C 1 dX0_init_41 rfl rfl ?_
        refine x_bipush (v := 10) C dX0_init_42 (by decide) ?_
        refine x_iload_n C 1 dX0_init_44 rfl rfl ?_
        refine x_imul C (pk_mul 10 i) dX0_init_45 ?_
        refine x_iast C M 2 rfl rfl (vp_in_nI (by omega) (by decide)) (nI_clamp (by omega)) [(m, .inr (0, [.ref q7, .ref q15])), (q7, .inl ((xG cx).2.1, 6, .inl (upd f i 1000))), (q15, .inl ((xG cx).2.1, 6, .inl (upd g i (nI (10 * i)))))] rfl dX0_init_46 ?_
        refine x_iinc C 1 [(1, .int (nI (i + 1))), (0, .ref m)] dX0_init_47 rfl (inc1 i) (by decide) rfl ?_
        refine x_goto (tgt := 22) C dX0_init_50 (by decide) ?_
        refine x_lv [(0, .ref m), (1, .int (nI (i + 1)))] [1, 0] rfl ?_
        exact ih (i + 1) (upd f i 1000) (upd g i (nI (10 * i))) (by omega) (by omega) (by rw [ef]; exact flF_s _ _ i) (by rw [eg]; exact spF_s i)
  refine x_lv [(0, .ref m), (1, .int (nI 0))] [1, 0] rfl ?_
  exact loop_22 (7) 0 (fun _ => 0) (fun _ => 0) (by omega) (by omega) (flF_0 _ _) (spF_0)

theorem m_kX3_init_0 : (Cond.methodLink RX3 3 objectInit : Cond) ∈ wsX3_init := by decide +kernel
theorem m_kX3_init_1 : (Cond.instanceMethod objectInit : Cond) ∈ wsX3_init := by decide +kernel
theorem m_kX3_init_2 : (Cond.code objectInit ⟨#[0xb1]⟩ 1 none : Cond) ∈ wsX3_init := by decide +kernel
theorem m_kX3_init_3 : (Cond.arrayClass .int : Cond) ∈ wsX3_init := by decide +kernel
theorem i_kX3_init_X3 : ∀ w ∈ u_ws RX3 TX3 5, w ∈ wsX3_init := by decide +kernel
theorem m_kX3_init_5 : (Cond.fieldLink RX3 9 "LampRacks$Racks" "lampAt" "[I" : Cond) ∈ wsX3_init := by decide +kernel
theorem m_kX3_init_6 : (Cond.fieldLink RX3 15 "LampRacks$Racks" "volts" "[I" : Cond) ∈ wsX3_init := by decide +kernel
theorem m_kX3_init_7 : (Cond.fieldLink RX3 18 "LampRacks$Racks" "stepHours" "[I" : Cond) ∈ wsX3_init := by decide +kernel
theorem m_kX3_init_8 : (Cond.fieldLink RX3 21 "LampRacks$Racks" "stepVolts" "[I" : Cond) ∈ wsX3_init := by decide +kernel
theorem m_kX3_init_9 : (Cond.fieldLink RX3 24 "LampRacks$Racks" "hoursOfStep" "[I" : Cond) ∈ wsX3_init := by decide +kernel
set_option maxRecDepth 100000 in
set_option maxHeartbeats 4000000 in
theorem kX3_init (l : Launch) (G : GG) (m : Nat) (sz : Nat)  : NI l G yX3_init wsX3_init ({ frames := 1, cells := 5, slots := 36, locals := 28 } : Room) [.ref m] [(m, .inr (3, [.null, .null, .null, .null, .null]))] sz 5 36 (fun a => [(m, .inr (3, [.ref (a 0), .ref (a 1), .ref (a 2), .ref (a 3), .ref (a 4)])), (a 0, .inl (G.2.1, 24, .inl (flF (fun _ => 0) (-1) 24))), (a 1, .inl (G.2.1, 3, .inl (flF (fun _ => 0) 230 3))), (a 2, .inl (G.2.1, 3, .inl (fun _ => 0))), (a 3, .inl (G.2.1, 3, .inl (fun _ => 0))), (a 4, .inl (G.2.1, 3, .inl (fun _ => 0)))]) := by
  refine NI.of (cc := cX3_init) (maxL := 1) (by decide) rfl rfl (Nat.le_of_ble_eq_true rfl) ?_
  intro cx hxl hxG C N I E
  have M := N.M
  subst hxl
  subst hxG
  show X cx (0, 0) [(m, .inr (3, [.null, .null, .null, .null, .null]))] [(0, .ref m)] 0 []
  refine x_aload_n C 0 dX3_init_0 rfl rfl ?_
  refine x_oini C m_kX3_init_0 m_kX3_init_1 m_kX3_init_2 (by decide) (Nat.le_of_ble_eq_true rfl) dX3_init_1 ?_
  refine x_aload_n C 0 dX3_init_4 rfl rfl ?_
  refine x_bipush (v := 24) C dX3_init_5 (by decide) ?_
  refine x_top (y := nI 24) rfl ?_
  refine x_newi C N (n := 24) m_kX3_init_3 (by decide) (Nat.le_of_ble_eq_true rfl) (Nat.le_of_ble_eq_true rfl) dX3_init_7 (fun q7 => ?_)
  refine x_ws [(m, .inr (3, [.null, .null, .null, .null, .null])), (q7, .inl ((xG cx).2.1, 24, .inl (fun _ => 0)))] rfl ?_
  refine x_putF (ty := .array .int) C M I 0 rfl rfl i_kX3_init_X3 0 (by decide) m_kX3_init_5 rfl rfl rfl tyX3 tyX3_ok nmX3 (by decide +kernel) rfl rfl (Nat.le_of_ble_eq_true rfl) [(m, .inr (3, [.ref q7, .null, .null, .null, .null])), (q7, .inl ((xG cx).2.1, 24, .inl (fun _ => 0)))] rfl dX3_init_9 ?_
  refine x_aload_n C 0 dX3_init_12 rfl rfl ?_
  refine x_iconst (v := 3) C dX3_init_13 (by decide) ?_
  refine x_top (y := nI 3) rfl ?_
  refine x_newi C N (n := 3) m_kX3_init_3 (by decide) (Nat.le_of_ble_eq_true rfl) (Nat.le_of_ble_eq_true rfl) dX3_init_14 (fun q14 => ?_)
  refine x_ws [(m, .inr (3, [.ref q7, .null, .null, .null, .null])), (q7, .inl ((xG cx).2.1, 24, .inl (fun _ => 0))), (q14, .inl ((xG cx).2.1, 3, .inl (fun _ => 0)))] rfl ?_
  refine x_putF (ty := .array .int) C M I 0 rfl rfl i_kX3_init_X3 1 (by decide) m_kX3_init_6 rfl rfl rfl tyX3 tyX3_ok nmX3 (by decide +kernel) rfl rfl (Nat.le_of_ble_eq_true rfl) [(m, .inr (3, [.ref q7, .ref q14, .null, .null, .null])), (q7, .inl ((xG cx).2.1, 24, .inl (fun _ => 0))), (q14, .inl ((xG cx).2.1, 3, .inl (fun _ => 0)))] rfl dX3_init_16 ?_
  refine x_aload_n C 0 dX3_init_19 rfl rfl ?_
  refine x_iconst (v := 3) C dX3_init_20 (by decide) ?_
  refine x_top (y := nI 3) rfl ?_
  refine x_newi C N (n := 3) m_kX3_init_3 (by decide) (Nat.le_of_ble_eq_true rfl) (Nat.le_of_ble_eq_true rfl) dX3_init_21 (fun q21 => ?_)
  refine x_ws [(m, .inr (3, [.ref q7, .ref q14, .null, .null, .null])), (q7, .inl ((xG cx).2.1, 24, .inl (fun _ => 0))), (q14, .inl ((xG cx).2.1, 3, .inl (fun _ => 0))), (q21, .inl ((xG cx).2.1, 3, .inl (fun _ => 0)))] rfl ?_
  refine x_putF (ty := .array .int) C M I 0 rfl rfl i_kX3_init_X3 2 (by decide) m_kX3_init_7 rfl rfl rfl tyX3 tyX3_ok nmX3 (by decide +kernel) rfl rfl (Nat.le_of_ble_eq_true rfl) [(m, .inr (3, [.ref q7, .ref q14, .ref q21, .null, .null])), (q7, .inl ((xG cx).2.1, 24, .inl (fun _ => 0))), (q14, .inl ((xG cx).2.1, 3, .inl (fun _ => 0))), (q21, .inl ((xG cx).2.1, 3, .inl (fun _ => 0)))] rfl dX3_init_23 ?_
  refine x_aload_n C 0 dX3_init_26 rfl rfl ?_
  refine x_iconst (v := 3) C dX3_init_27 (by decide) ?_
  refine x_top (y := nI 3) rfl ?_
  refine x_newi C N (n := 3) m_kX3_init_3 (by decide) (Nat.le_of_ble_eq_true rfl) (Nat.le_of_ble_eq_true rfl) dX3_init_28 (fun q28 => ?_)
  refine x_ws [(m, .inr (3, [.ref q7, .ref q14, .ref q21, .null, .null])), (q7, .inl ((xG cx).2.1, 24, .inl (fun _ => 0))), (q14, .inl ((xG cx).2.1, 3, .inl (fun _ => 0))), (q21, .inl ((xG cx).2.1, 3, .inl (fun _ => 0))), (q28, .inl ((xG cx).2.1, 3, .inl (fun _ => 0)))] rfl ?_
  refine x_putF (ty := .array .int) C M I 0 rfl rfl i_kX3_init_X3 3 (by decide) m_kX3_init_8 rfl rfl rfl tyX3 tyX3_ok nmX3 (by decide +kernel) rfl rfl (Nat.le_of_ble_eq_true rfl) [(m, .inr (3, [.ref q7, .ref q14, .ref q21, .ref q28, .null])), (q7, .inl ((xG cx).2.1, 24, .inl (fun _ => 0))), (q14, .inl ((xG cx).2.1, 3, .inl (fun _ => 0))), (q21, .inl ((xG cx).2.1, 3, .inl (fun _ => 0))), (q28, .inl ((xG cx).2.1, 3, .inl (fun _ => 0)))] rfl dX3_init_30 ?_
  refine x_aload_n C 0 dX3_init_33 rfl rfl ?_
  refine x_iconst (v := 3) C dX3_init_34 (by decide) ?_
  refine x_top (y := nI 3) rfl ?_
  refine x_newi C N (n := 3) m_kX3_init_3 (by decide) (Nat.le_of_ble_eq_true rfl) (Nat.le_of_ble_eq_true rfl) dX3_init_35 (fun q35 => ?_)
  refine x_ws [(m, .inr (3, [.ref q7, .ref q14, .ref q21, .ref q28, .null])), (q7, .inl ((xG cx).2.1, 24, .inl (fun _ => 0))), (q14, .inl ((xG cx).2.1, 3, .inl (fun _ => 0))), (q21, .inl ((xG cx).2.1, 3, .inl (fun _ => 0))), (q28, .inl ((xG cx).2.1, 3, .inl (fun _ => 0))), (q35, .inl ((xG cx).2.1, 3, .inl (fun _ => 0)))] rfl ?_
  refine x_putF (ty := .array .int) C M I 0 rfl rfl i_kX3_init_X3 4 (by decide) m_kX3_init_9 rfl rfl rfl tyX3 tyX3_ok nmX3 (by decide +kernel) rfl rfl (Nat.le_of_ble_eq_true rfl) [(m, .inr (3, [.ref q7, .ref q14, .ref q21, .ref q28, .ref q35])), (q7, .inl ((xG cx).2.1, 24, .inl (fun _ => 0))), (q14, .inl ((xG cx).2.1, 3, .inl (fun _ => 0))), (q21, .inl ((xG cx).2.1, 3, .inl (fun _ => 0))), (q28, .inl ((xG cx).2.1, 3, .inl (fun _ => 0))), (q35, .inl ((xG cx).2.1, 3, .inl (fun _ => 0)))] rfl dX3_init_37 ?_
  refine x_aload_n C 0 dX3_init_40 rfl rfl ?_
  refine x_getf C 0 rfl rfl i_kX3_init_X3 0 (by decide) m_kX3_init_5 rfl rfl dX3_init_41 ?_
  refine x_iconst (v := (-1)) C dX3_init_44 (by decide) ?_
  refine x_callSMU C ([.ref q7, .int (-1)]) ([]) [1] [(m, .inr (3, [.ref q7, .ref q14, .ref q21, .ref q28, .ref q35])), (q7, .inl ((xG cx).2.1, 24, .inl (flF (fun _ => 0) (-1) 24))), (q14, .inl ((xG cx).2.1, 3, .inl (fun _ => 0))), (q21, .inl ((xG cx).2.1, 3, .inl (fun _ => 0))), (q28, .inl ((xG cx).2.1, 3, .inl (fun _ => 0))), (q35, .inl ((xG cx).2.1, 3, .inl (fun _ => 0)))] [0, 2, 3, 4, 5] [m, q7, q14, q21, q28, q35] rfl rfl [(m, .inr (3, [.ref q7, .ref q14, .ref q21, .ref q28, .ref q35])), (q14, .inl ((xG cx).2.1, 3, .inl (fun _ => 0))), (q21, .inl ((xG cx).2.1, 3, .inl (fun _ => 0))), (q28, .inl ((xG cx).2.1, 3, .inl (fun _ => 0))), (q35, .inl ((xG cx).2.1, 3, .inl (fun _ => 0)))] rfl rfl 6 rfl (by decide +kernel) rfl (na := 2) gX3_init_J7_fill_53178 rfl (by decide +kernel) rfl M (kJ7_fill_a (xl cx) (xG cx) q7 (fun _ => 0) (-1)) rfl (by decide) rfl rfl rfl ⟨by decide, by decide⟩ (Nat.le_of_ble_eq_true rfl) ⟨by decide, by decide⟩ dX3_init_45 ?_
  refine x_aload_n C 0 dX3_init_48 rfl rfl ?_
  refine x_getf C 0 rfl rfl i_kX3_init_X3 1 (by decide) m_kX3_init_6 rfl rfl dX3_init_49 ?_
  refine x_sipush (v := 230) C dX3_init_52 (by decide) ?_
  refine x_callSMU C ([.ref q14, .int 230]) ([]) [2] [(m, .inr (3, [.ref q7, .ref q14, .ref q21, .ref q28, .ref q35])), (q7, .inl ((xG cx).2.1, 24, .inl (flF (fun _ => 0) (-1) 24))), (q14, .inl ((xG cx).2.1, 3, .inl (flF (fun _ => 0) 230 3))), (q21, .inl ((xG cx).2.1, 3, .inl (fun _ => 0))), (q28, .inl ((xG cx).2.1, 3, .inl (fun _ => 0))), (q35, .inl ((xG cx).2.1, 3, .inl (fun _ => 0)))] [0, 1, 3, 4, 5] [m, q7, q14, q21, q28, q35] rfl rfl [(m, .inr (3, [.ref q7, .ref q14, .ref q21, .ref q28, .ref q35])), (q7, .inl ((xG cx).2.1, 24, .inl (flF (fun _ => 0) (-1) 24))), (q21, .inl ((xG cx).2.1, 3, .inl (fun _ => 0))), (q28, .inl ((xG cx).2.1, 3, .inl (fun _ => 0))), (q35, .inl ((xG cx).2.1, 3, .inl (fun _ => 0)))] rfl rfl 6 rfl (by decide +kernel) rfl (na := 2) gX3_init_J7_fill_53178 rfl (by decide +kernel) rfl M (kJ7_fill_b (xl cx) (xG cx) q14 (fun _ => 0) 230) rfl (by decide) rfl rfl rfl ⟨by decide, by decide⟩ (Nat.le_of_ble_eq_true rfl) ⟨by decide, by decide⟩ dX3_init_55 ?_
  exact x_nret C E dX3_init_58 (fun k => match k with | 0 => q7 | 1 => q14 | 2 => q21 | 3 => q28 | 4 => q35 | _ => 0) (rfl)
