theorem m_kX2_init_0 : (Cond.methodLink RX2 3 objectInit : Cond) ∈ wsX2_init := by decide +kernel
theorem m_kX2_init_1 : (Cond.instanceMethod objectInit : Cond) ∈ wsX2_init := by decide +kernel
theorem m_kX2_init_2 : (Cond.code objectInit ⟨#[0xb1]⟩ 1 none : Cond) ∈ wsX2_init := by decide +kernel
theorem i_kX2_init_X2 : ∀ w ∈ u_ws RX2 TX2 7, w ∈ wsX2_init := by decide +kernel
theorem m_kX2_init_4 : (Cond.fieldLink RX2 9 "LampRacks$Lamps" "size" "I" : Cond) ∈ wsX2_init := by decide +kernel
theorem m_kX2_init_5 : (Cond.arrayClass .int : Cond) ∈ wsX2_init := by decide +kernel
theorem m_kX2_init_6 : (Cond.fieldLink RX2 15 "LampRacks$Lamps" "batch" "[I" : Cond) ∈ wsX2_init := by decide +kernel
theorem m_kX2_init_7 : (Cond.fieldLink RX2 19 "LampRacks$Lamps" "spot" "[I" : Cond) ∈ wsX2_init := by decide +kernel
theorem m_kX2_init_8 : (Cond.fieldLink RX2 22 "LampRacks$Lamps" "canLast" "[I" : Cond) ∈ wsX2_init := by decide +kernel
theorem m_kX2_init_9 : (Cond.fieldLink RX2 25 "LampRacks$Lamps" "wear" "[I" : Cond) ∈ wsX2_init := by decide +kernel
theorem m_kX2_init_10 : (Cond.fieldLink RX2 28 "LampRacks$Lamps" "burned" "[I" : Cond) ∈ wsX2_init := by decide +kernel
theorem m_kX2_init_11 : (Cond.fieldLink RX2 31 "LampRacks$Lamps" "end" "[I" : Cond) ∈ wsX2_init := by decide +kernel
set_option maxRecDepth 100000 in
set_option maxHeartbeats 4000000 in
theorem kX2_init (l : Launch) (G : GG) (m : Nat) (sz : Nat)  : NI l G yX2_init wsX2_init ({ frames := 1, cells := 6, slots := 360, locals := 28 } : Room) [.ref m] [(m, .inr (2, [.int 0, .null, .null, .null, .null, .null, .null]))] sz 6 360 (fun a => [(m, .inr (2, [.int 0, .ref (a 0), .ref (a 1), .ref (a 2), .ref (a 3), .ref (a 4), .ref (a 5)])), (a 0, .inl (G.2.1, 60, .inl (fun _ => 0))), (a 1, .inl (G.2.1, 60, .inl (fun _ => 0))), (a 2, .inl (G.2.1, 60, .inl (fun _ => 0))), (a 3, .inl (G.2.1, 60, .inl (fun _ => 0))), (a 4, .inl (G.2.1, 60, .inl (fun _ => 0))), (a 5, .inl (G.2.1, 60, .inl (fun _ => 0)))]) := by
  refine NI.of (cc := cX2_init) (maxL := 1) (by decide) rfl rfl (Nat.le_of_ble_eq_true rfl) ?_
  intro cx hxl hxG C N I E
  have M := N.M
  subst hxl
  subst hxG
  show X cx (0, 0) [(m, .inr (2, [.int 0, .null, .null, .null, .null, .null, .null]))] [(0, .ref m)] 0 []
  refine x_aload_n C 0 dX2_init_0 rfl rfl ?_
  refine x_oini C m_kX2_init_0 m_kX2_init_1 m_kX2_init_2 (by decide) (Nat.le_of_ble_eq_true rfl) dX2_init_1 ?_
  refine x_aload_n C 0 dX2_init_4 rfl rfl ?_
  refine x_iconst (v := 0) C dX2_init_5 (by decide) ?_
  refine x_putf (ty := .int) C M 0 rfl rfl i_kX2_init_X2 0 (by decide) m_kX2_init_4 rfl rfl tyX2 tyX2_ok nmX2 (by decide +kernel) rfl rfl (Nat.le_of_ble_eq_true rfl) [(m, .inr (2, [.int 0, .null, .null, .null, .null, .null, .null]))] rfl dX2_init_6 ?_
  refine x_aload_n C 0 dX2_init_9 rfl rfl ?_
  refine x_bipush (v := 60) C dX2_init_10 (by decide) ?_
  refine x_top (y := nI 60) rfl ?_
  refine x_newi C N (n := 60) m_kX2_init_5 (by decide) (Nat.le_of_ble_eq_true rfl) (Nat.le_of_ble_eq_true rfl) dX2_init_12 (fun q12 => ?_)
  refine x_ws [(m, .inr (2, [.int 0, .null, .null, .null, .null, .null, .null])), (q12, .inl ((xG cx).2.1, 60, .inl (fun _ => 0)))] rfl ?_
  refine x_putF (ty := .array .int) C M I 0 rfl rfl i_kX2_init_X2 1 (by decide) m_kX2_init_6 rfl rfl rfl tyX2 tyX2_ok nmX2 (by decide +kernel) rfl rfl (Nat.le_of_ble_eq_true rfl) [(m, .inr (2, [.int 0, .ref q12, .null, .null, .null, .null, .null])), (q12, .inl ((xG cx).2.1, 60, .inl (fun _ => 0)))] rfl dX2_init_14 ?_
  refine x_aload_n C 0 dX2_init_17 rfl rfl ?_
  refine x_bipush (v := 60) C dX2_init_18 (by decide) ?_
  refine x_top (y := nI 60) rfl ?_
  refine x_newi C N (n := 60) m_kX2_init_5 (by decide) (Nat.le_of_ble_eq_true rfl) (Nat.le_of_ble_eq_true rfl) dX2_init_20 (fun q20 => ?_)
  refine x_ws [(m, .inr (2, [.int 0, .ref q12, .null, .null, .null, .null, .null])), (q12, .inl ((xG cx).2.1, 60, .inl (fun _ => 0))), (q20, .inl ((xG cx).2.1, 60, .inl (fun _ => 0)))] rfl ?_
  refine x_putF (ty := .array .int) C M I 0 rfl rfl i_kX2_init_X2 2 (by decide) m_kX2_init_7 rfl rfl rfl tyX2 tyX2_ok nmX2 (by decide +kernel) rfl rfl (Nat.le_of_ble_eq_true rfl) [(m, .inr (2, [.int 0, .ref q12, .ref q20, .null, .null, .null, .null])), (q12, .inl ((xG cx).2.1, 60, .inl (fun _ => 0))), (q20, .inl ((xG cx).2.1, 60, .inl (fun _ => 0)))] rfl dX2_init_22 ?_
  refine x_aload_n C 0 dX2_init_25 rfl rfl ?_
  refine x_bipush (v := 60) C dX2_init_26 (by decide) ?_
  refine x_top (y := nI 60) rfl ?_
  refine x_newi C N (n := 60) m_kX2_init_5 (by decide) (Nat.le_of_ble_eq_true rfl) (Nat.le_of_ble_eq_true rfl) dX2_init_28 (fun q28 => ?_)
  refine x_ws [(m, .inr (2, [.int 0, .ref q12, .ref q20, .null, .null, .null, .null])), (q12, .inl ((xG cx).2.1, 60, .inl (fun _ => 0))), (q20, .inl ((xG cx).2.1, 60, .inl (fun _ => 0))), (q28, .inl ((xG cx).2.1, 60, .inl (fun _ => 0)))] rfl ?_
  refine x_putF (ty := .array .int) C M I 0 rfl rfl i_kX2_init_X2 3 (by decide) m_kX2_init_8 rfl rfl rfl tyX2 tyX2_ok nmX2 (by decide +kernel) rfl rfl (Nat.le_of_ble_eq_true rfl) [(m, .inr (2, [.int 0, .ref q12, .ref q20, .ref q28, .null, .null, .null])), (q12, .inl ((xG cx).2.1, 60, .inl (fun _ => 0))), (q20, .inl ((xG cx).2.1, 60, .inl (fun _ => 0))), (q28, .inl ((xG cx).2.1, 60, .inl (fun _ => 0)))] rfl dX2_init_30 ?_
  refine x_aload_n C 0 dX2_init_33 rfl rfl ?_
  refine x_bipush (v := 60) C dX2_init_34 (by decide) ?_
  refine x_top (y := nI 60) rfl ?_
  refine x_newi C N (n := 60) m_kX2_init_5 (by decide) (Nat.le_of_ble_eq_true rfl) (Nat.le_of_ble_eq_true rfl) dX2_init_36 (fun q36 => ?_)
  refine x_ws [(m, .inr (2, [.int 0, .ref q12, .ref q20, .ref q28, .null, .null, .null])), (q12, .inl ((xG cx).2.1, 60, .inl (fun _ => 0))), (q20, .inl ((xG cx).2.1, 60, .inl (fun _ => 0))), (q28, .inl ((xG cx).2.1, 60, .inl (fun _ => 0))), (q36, .inl ((xG cx).2.1, 60, .inl (fun _ => 0)))] rfl ?_
  refine x_putF (ty := .array .int) C M I 0 rfl rfl i_kX2_init_X2 4 (by decide) m_kX2_init_9 rfl rfl rfl tyX2 tyX2_ok nmX2 (by decide +kernel) rfl rfl (Nat.le_of_ble_eq_true rfl) [(m, .inr (2, [.int 0, .ref q12, .ref q20, .ref q28, .ref q36, .null, .null])), (q12, .inl ((xG cx).2.1, 60, .inl (fun _ => 0))), (q20, .inl ((xG cx).2.1, 60, .inl (fun _ => 0))), (q28, .inl ((xG cx).2.1, 60, .inl (fun _ => 0))), (q36, .inl ((xG cx).2.1, 60, .inl (fun _ => 0)))] rfl dX2_init_38 ?_
  refine x_aload_n C 0 dX2_init_41 rfl rfl ?_
  refine x_bipush (v := 60) C dX2_init_42 (by decide) ?_
  refine x_top (y := nI 60) rfl ?_
  refine x_newi C N (n := 60) m_kX2_init_5 (by decide) (Nat.le_of_ble_eq_true rfl) (Nat.le_of_ble_eq_true rfl) dX2_init_44 (fun q44 => ?_)
  refine x_ws [(m, .inr (2, [.int 0, .ref q12, .ref q20, .ref q28, .ref q36, .null, .null])), (q12, .inl ((xG cx).2.1, 60, .inl (fun _ => 0))), (q20, .inl ((xG cx).2.1, 60, .inl (fun _ => 0))), (q28, .inl ((xG cx).2.1, 60, .inl (fun _ => 0))), (q36, .inl ((xG cx).2.1, 60, .inl (fun _ => 0))), (q44, .inl ((xG cx).2.1, 60, .inl (fun _ => 0)))] rfl ?_
  refine x_putF (ty := .array .int) C M I 0 rfl rfl i_kX2_init_X2 5 (by decide) m_kX2_init_10 rfl rfl rfl tyX2 tyX2_ok nmX2 (by decide +kernel) rfl rfl (Nat.le_of_ble_eq_true rfl) [(m, .inr (2, [.int 0, .ref q12, .ref q20, .ref q28, .ref q36, .ref q44, .null])), (q12, .inl ((xG cx).2.1, 60, .inl (fun _ => 0))), (q20, .inl ((xG cx).2.1, 60, .inl (fun _ => 0))), (q28, .inl ((xG cx).2.1, 60, .inl (fun _ => 0))), (q36, .inl ((xG cx).2.1, 60, .inl (fun _ => 0))), (q44, .inl ((xG cx).2.1, 60, .inl (fun _ => 0)))] rfl dX2_init_46 ?_
  refine x_aload_n C 0 dX2_init_49 rfl rfl ?_
  refine x_bipush (v := 60) C dX2_init_50 (by decide) ?_
  refine x_top (y := nI 60) rfl ?_
  refine x_newi C N (n := 60) m_kX2_init_5 (by decide) (Nat.le_of_ble_eq_true rfl) (Nat.le_of_ble_eq_true rfl) dX2_init_52 (fun q52 => ?_)
  refine x_ws [(m, .inr (2, [.int 0, .ref q12, .ref q20, .ref q28, .ref q36, .ref q44, .null])), (q12, .inl ((xG cx).2.1, 60, .inl (fun _ => 0))), (q20, .inl ((xG cx).2.1, 60, .inl (fun _ => 0))), (q28, .inl ((xG cx).2.1, 60, .inl (fun _ => 0))), (q36, .inl ((xG cx).2.1, 60, .inl (fun _ => 0))), (q44, .inl ((xG cx).2.1, 60, .inl (fun _ => 0))), (q52, .inl ((xG cx).2.1, 60, .inl (fun _ => 0)))] rfl ?_
  refine x_putF (ty := .array .int) C M I 0 rfl rfl i_kX2_init_X2 6 (by decide) m_kX2_init_11 rfl rfl rfl tyX2 tyX2_ok nmX2 (by decide +kernel) rfl rfl (Nat.le_of_ble_eq_true rfl) [(m, .inr (2, [.int 0, .ref q12, .ref q20, .ref q28, .ref q36, .ref q44, .ref q52])), (q12, .inl ((xG cx).2.1, 60, .inl (fun _ => 0))), (q20, .inl ((xG cx).2.1, 60, .inl (fun _ => 0))), (q28, .inl ((xG cx).2.1, 60, .inl (fun _ => 0))), (q36, .inl ((xG cx).2.1, 60, .inl (fun _ => 0))), (q44, .inl ((xG cx).2.1, 60, .inl (fun _ => 0))), (q52, .inl ((xG cx).2.1, 60, .inl (fun _ => 0)))] rfl dX2_init_54 ?_
  exact x_nret C E dX2_init_57 (fun k => match k with | 0 => q12 | 1 => q20 | 2 => q28 | 3 => q36 | 4 => q44 | 5 => q52 | _ => 0) (rfl)
