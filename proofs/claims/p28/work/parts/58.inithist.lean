/-! the constructor of the history -/
/-- the i-th of some blocks of addresses -/
def bk (a : Nat → Nat) (i : Nat) : Nat → Nat := fun j => a (17 * i + j)
def a1 (a : Nat → Nat) : Nat → Nat := fun j => a (j + 1)

theorem m_kX1_init_0 : (Cond.methodLink RX1 3 objectInit : Cond) ∈ wsX1_init := by decide +kernel
theorem m_kX1_init_1 : (Cond.instanceMethod objectInit : Cond) ∈ wsX1_init := by decide +kernel
theorem m_kX1_init_2 : (Cond.code objectInit ⟨#[0xb1]⟩ 1 none : Cond) ∈ wsX1_init := by decide +kernel
theorem i_kX1_init_X1 : ∀ w ∈ u_ws RX1 TX1 2, w ∈ wsX1_init := by decide +kernel
theorem m_kX1_init_4 : (Cond.fieldLink RX1 9 "LampRacks$History" "size" "I" : Cond) ∈ wsX1_init := by decide +kernel
theorem m_kX1_init_5 : (Cond.classLink RX1 15 RX4 : Cond) ∈ wsX1_init := by decide +kernel
theorem m_kX1_init_6 : (Cond.fieldLink RX1 17 "LampRacks$History" "states" "[LLampRacks$State;" : Cond) ∈ wsX1_init := by decide +kernel
theorem i_kX1_init_X4 : ∀ w ∈ u_ws RX4 TX4 6, w ∈ wsX1_init := by decide +kernel
theorem m_kX1_init_8 : (Cond.instantiable RX4 6 : Cond) ∈ wsX1_init := by decide +kernel
theorem m_kX1_init_9 : (Cond.initialized RX4 : Cond) ∈ wsX1_init := by decide +kernel
theorem m_kX1_init_10 : (Cond.instanceMethod yX4_init : Cond) ∈ wsX1_init := by decide +kernel
set_option maxRecDepth 100000 in
set_option maxHeartbeats 4000000 in
theorem kX1_init (l : Launch) (G : GG) (m : Nat) (sz : Nat)  : NIq l G yX1_init wsX1_init ({ frames := 3, cells := 69, slots := 1716, locals := 69 } : Room) [.ref m] [(m, .inr (1, [.int 0, .null]))] sz 69 1716 (fun a => ([(m, .inr (1, [.int 0, .ref (a 0)])), (a 0, .inl (G.2.2.2, 4, .inr (.inr (.inr (.inr (rot (bk (a1 a)) 0))))))] ++ (stW G (bk (a1 a) 0) S00 ++ (stW G (bk (a1 a) 1) S00 ++ (stW G (bk (a1 a) 2) S00 ++ stW G (bk (a1 a) 3) S00))))) := by
  refine NIq.of (cc := cX1_init) (maxL := 2) (by decide) rfl rfl (Nat.le_of_ble_eq_true rfl) ?_
  intro cx hxl hxG C N I O E
  have M := N.M
  subst hxl
  subst hxG
  show X cx (0, 0) [(m, .inr (1, [.int 0, .null]))] [(0, .ref m)] 0 []
  refine x_aload_n C 0 dX1_init_0 rfl rfl ?_
  refine x_oini C m_kX1_init_0 m_kX1_init_1 m_kX1_init_2 (by decide) (Nat.le_of_ble_eq_true rfl) dX1_init_1 ?_
  refine x_aload_n C 0 dX1_init_4 rfl rfl ?_
  refine x_iconst (v := 0) C dX1_init_5 (by decide) ?_
  refine x_putf (ty := .int) C M 0 rfl rfl i_kX1_init_X1 0 (by decide) m_kX1_init_4 rfl rfl tyX1 tyX1_ok nmX1 (by decide +kernel) rfl rfl (Nat.le_of_ble_eq_true rfl) [(m, .inr (1, [.int 0, .null]))] rfl dX1_init_6 ?_
  refine x_aload_n C 0 dX1_init_9 rfl rfl ?_
  refine x_iconst (v := 4) C dX1_init_10 (by decide) ?_
  refine x_top (y := nI 4) rfl ?_
  refine x_newqA C N O (n := 4) m_kX1_init_5 (by decide) (Nat.le_of_ble_eq_true rfl) (Nat.le_of_ble_eq_true rfl) dX1_init_11 (fun q11 => ?_)
  refine x_ws [(m, .inr (1, [.int 0, .null])), (q11, .inl ((xG cx).2.2.2, 4, .inr (.inr (.inr (.inr (fun _ => none))))))] rfl ?_
  refine x_putF (ty := .array (.object "LampRacks$State")) C M I 0 rfl rfl i_kX1_init_X1 1 (by decide) m_kX1_init_6 rfl rfl rfl tyX1 tyX1_ok nmX1 (by decide +kernel) rfl rfl (Nat.le_of_ble_eq_true rfl) [(m, .inr (1, [.int 0, .ref q11])), (q11, .inl ((xG cx).2.2.2, 4, .inr (.inr (.inr (.inr (fun _ => none))))))] rfl dX1_init_14 ?_
  refine x_iconst (v := 0) C dX1_init_17 (by decide) ?_
  refine x_istore_n C [(1, .int 0), (0, .ref m)] dX1_init_18 rfl (by decide) rfl ?_
  refine x_iload_n C 0 dX1_init_19 rfl rfl ?_
  refine x_iconst (v := 4) C dX1_init_20 (by decide) ?_
  refine x_icmp_ge C 43 dX1_init_21 (by decide) (fun h => absurd h (by decide)) (fun _ => ?_)
  refine x_aload_n C 1 dX1_init_24 rfl rfl ?_
  refine x_getf C 0 rfl rfl i_kX1_init_X1 1 (by decide) m_kX1_init_6 rfl rfl dX1_init_25 ?_
  refine x_iload_n C 0 dX1_init_28 rfl rfl ?_
  refine x_newo C N (ci := 4) i_kX1_init_X4 tyX4 tyX4_ok m_kX1_init_5 m_kX1_init_8 m_kX1_init_9 rfl [.int 0, .int 0, .int 0, .null, .null, .null] (fun j hj => by rcases (show j = 0 ∨ j = 1 ∨ j = 2 ∨ j = 3 ∨ j = 4 ∨ j = 5 by omega) with rfl | rfl | rfl | rfl | rfl | rfl <;> rfl) (Nat.le_of_ble_eq_true rfl) (Nat.le_of_ble_eq_true rfl) dX1_init_29 (fun q29 => ?_)
  refine x_ws [(m, .inr (1, [.int 0, .ref q11])), (q11, .inl ((xG cx).2.2.2, 4, .inr (.inr (.inr (.inr (fun _ => none)))))), (q29, .inr (4, [.int 0, .int 0, .int 0, .null, .null, .null]))] rfl ?_
  refine x_dup C dX1_init_32 rfl ?_
  refine x_callIN C N (q0 := 2) (rest := [.ref q29, .int 0, .ref q11]) [0, 1] [(m, .inr (1, [.int 0, .ref q11])), (q11, .inl ((xG cx).2.2.2, 4, .inr (.inr (.inr (.inr (fun _ => none))))))] gX1_init_X4_init_n21 (host := "LampRacks") (by decide +kernel) m_kX1_init_10 m_kX1_init_9 rfl rfl (by decide +kernel) (fun sz => kX4_initS (xl cx) (xG cx) q29 sz) rfl rfl rfl (by decide) rfl rfl rfl ⟨by decide, Nat.le_of_ble_eq_true rfl⟩ (Nat.le_of_ble_eq_true rfl) ⟨Nat.le_of_ble_eq_true rfl, Nat.le_of_ble_eq_true rfl⟩ dX1_init_33 (fun a33 => ?_)
  refine x_ws ([(m, .inr (1, [.int 0, .ref q11])), (q11, .inl ((xG cx).2.2.2, 4, .inr (.inr (.inr (.inr (fun _ => none))))))] ++ stW (xG cx) (hd q29 a33) S00) rfl ?_
  refine x_aast C M 1 2 rfl rfl rfl (vp_in_nI (n := 0) (by decide) (by decide)) (by rfl) ([(m, .inr (1, [.int 0, .ref q11])), (q11, .inl ((xG cx).2.2.2, 4, .inr (.inr (.inr (.inr (va_up (fun _ => none) 0 (some q29)))))))] ++ stW (xG cx) (hd q29 a33) S00) rfl dX1_init_36 ?_
  refine x_iinc C 0 [(1, .int 1), (0, .ref m)] dX1_init_37 rfl (by decide) (by decide) rfl ?_
  refine x_goto (tgt := 19) C dX1_init_40 (by decide) ?_
  refine x_iload_n C 0 dX1_init_19 rfl rfl ?_
  refine x_iconst (v := 4) C dX1_init_20 (by decide) ?_
  refine x_icmp_ge C 43 dX1_init_21 (by decide) (fun h => absurd h (by decide)) (fun _ => ?_)
  refine x_aload_n C 1 dX1_init_24 rfl rfl ?_
  refine x_getf C 0 rfl rfl i_kX1_init_X1 1 (by decide) m_kX1_init_6 rfl rfl dX1_init_25 ?_
  refine x_iload_n C 0 dX1_init_28 rfl rfl ?_
  refine x_newo C N (ci := 4) i_kX1_init_X4 tyX4 tyX4_ok m_kX1_init_5 m_kX1_init_8 m_kX1_init_9 rfl [.int 0, .int 0, .int 0, .null, .null, .null] (fun j hj => by rcases (show j = 0 ∨ j = 1 ∨ j = 2 ∨ j = 3 ∨ j = 4 ∨ j = 5 by omega) with rfl | rfl | rfl | rfl | rfl | rfl <;> rfl) (Nat.le_of_ble_eq_true rfl) (Nat.le_of_ble_eq_true rfl) dX1_init_29 (fun q29_1 => ?_)
  refine x_ws ([(m, .inr (1, [.int 0, .ref q11])), (q11, .inl ((xG cx).2.2.2, 4, .inr (.inr (.inr (.inr (va_up (fun _ => none) 0 (some q29)))))))] ++ (stW (xG cx) (hd q29 a33) S00 ++ [(q29_1, .inr (4, [.int 0, .int 0, .int 0, .null, .null, .null]))])) rfl ?_
  refine x_dup C dX1_init_32 rfl ?_
  refine x_callIN C N (q0 := 19) (rest := [.ref q29_1, .int 1, .ref q11]) [0, 1, 2, 3, 4, 5, 6, 7, 8, 9, 10, 11, 12, 13, 14, 15, 16, 17, 18] ([(m, .inr (1, [.int 0, .ref q11])), (q11, .inl ((xG cx).2.2.2, 4, .inr (.inr (.inr (.inr (va_up (fun _ => none) 0 (some q29)))))))] ++ stW (xG cx) (hd q29 a33) S00) gX1_init_X4_init_n21 (host := "LampRacks") (by decide +kernel) m_kX1_init_10 m_kX1_init_9 rfl rfl (by decide +kernel) (fun sz => kX4_initS (xl cx) (xG cx) q29_1 sz) rfl rfl rfl (by decide) rfl rfl rfl ⟨by decide, Nat.le_of_ble_eq_true rfl⟩ (Nat.le_of_ble_eq_true rfl) ⟨Nat.le_of_ble_eq_true rfl, Nat.le_of_ble_eq_true rfl⟩ dX1_init_33 (fun a33_1 => ?_)
  refine x_ws ([(m, .inr (1, [.int 0, .ref q11])), (q11, .inl ((xG cx).2.2.2, 4, .inr (.inr (.inr (.inr (va_up (fun _ => none) 0 (some q29)))))))] ++ (stW (xG cx) (hd q29 a33) S00 ++ stW (xG cx) (hd q29_1 a33_1) S00)) rfl ?_
  refine x_aast C M 1 19 rfl rfl rfl (vp_in_nI (n := 1) (by decide) (by decide)) (by rfl) ([(m, .inr (1, [.int 0, .ref q11])), (q11, .inl ((xG cx).2.2.2, 4, .inr (.inr (.inr (.inr (va_up (va_up (fun _ => none) 0 (some q29)) 1 (some q29_1)))))))] ++ (stW (xG cx) (hd q29 a33) S00 ++ stW (xG cx) (hd q29_1 a33_1) S00)) rfl dX1_init_36 ?_
  refine x_iinc C 0 [(1, .int 2), (0, .ref m)] dX1_init_37 rfl (by decide) (by decide) rfl ?_
  refine x_goto (tgt := 19) C dX1_init_40 (by decide) ?_
  refine x_iload_n C 0 dX1_init_19 rfl rfl ?_
  refine x_iconst (v := 4) C dX1_init_20 (by decide) ?_
  refine x_icmp_ge C 43 dX1_init_21 (by decide) (fun h => absurd h (by decide)) (fun _ => ?_)
  refine x_aload_n C 1 dX1_init_24 rfl rfl ?_
  refine x_getf C 0 rfl rfl i_kX1_init_X1 1 (by decide) m_kX1_init_6 rfl rfl dX1_init_25 ?_
  refine x_iload_n C 0 dX1_init_28 rfl rfl ?_
  refine x_newo C N (ci := 4) i_kX1_init_X4 tyX4 tyX4_ok m_kX1_init_5 m_kX1_init_8 m_kX1_init_9 rfl [.int 0, .int 0, .int 0, .null, .null, .null] (fun j hj => by rcases (show j = 0 ∨ j = 1 ∨ j = 2 ∨ j = 3 ∨ j = 4 ∨ j = 5 by omega) with rfl | rfl | rfl | rfl | rfl | rfl <;> rfl) (Nat.le_of_ble_eq_true rfl) (Nat.le_of_ble_eq_true rfl) dX1_init_29 (fun q29_2 => ?_)
  refine x_ws ([(m, .inr (1, [.int 0, .ref q11])), (q11, .inl ((xG cx).2.2.2, 4, .inr (.inr (.inr (.inr (va_up (va_up (fun _ => none) 0 (some q29)) 1 (some q29_1)))))))] ++ (stW (xG cx) (hd q29 a33) S00 ++ (stW (xG cx) (hd q29_1 a33_1) S00 ++ [(q29_2, .inr (4, [.int 0, .int 0, .int 0, .null, .null, .null]))]))) rfl ?_
  refine x_dup C dX1_init_32 rfl ?_
  refine x_callIN C N (q0 := 36) (rest := [.ref q29_2, .int 2, .ref q11]) [0, 1, 2, 3, 4, 5, 6, 7, 8, 9, 10, 11, 12, 13, 14, 15, 16, 17, 18, 19, 20, 21, 22, 23, 24, 25, 26, 27, 28, 29, 30, 31, 32, 33, 34, 35] ([(m, .inr (1, [.int 0, .ref q11])), (q11, .inl ((xG cx).2.2.2, 4, .inr (.inr (.inr (.inr (va_up (va_up (fun _ => none) 0 (some q29)) 1 (some q29_1)))))))] ++ (stW (xG cx) (hd q29 a33) S00 ++ stW (xG cx) (hd q29_1 a33_1) S00)) gX1_init_X4_init_n21 (host := "LampRacks") (by decide +kernel) m_kX1_init_10 m_kX1_init_9 rfl rfl (by decide +kernel) (fun sz => kX4_initS (xl cx) (xG cx) q29_2 sz) rfl rfl rfl (by decide) rfl rfl rfl ⟨by decide, Nat.le_of_ble_eq_true rfl⟩ (Nat.le_of_ble_eq_true rfl) ⟨Nat.le_of_ble_eq_true rfl, Nat.le_of_ble_eq_true rfl⟩ dX1_init_33 (fun a33_2 => ?_)
  refine x_ws ([(m, .inr (1, [.int 0, .ref q11])), (q11, .inl ((xG cx).2.2.2, 4, .inr (.inr (.inr (.inr (va_up (va_up (fun _ => none) 0 (some q29)) 1 (some q29_1)))))))] ++ (stW (xG cx) (hd q29 a33) S00 ++ (stW (xG cx) (hd q29_1 a33_1) S00 ++ stW (xG cx) (hd q29_2 a33_2) S00))) rfl ?_
  refine x_aast C M 1 36 rfl rfl rfl (vp_in_nI (n := 2) (by decide) (by decide)) (by rfl) ([(m, .inr (1, [.int 0, .ref q11])), (q11, .inl ((xG cx).2.2.2, 4, .inr (.inr (.inr (.inr (va_up (va_up (va_up (fun _ => none) 0 (some q29)) 1 (some q29_1)) 2 (some q29_2)))))))] ++ (stW (xG cx) (hd q29 a33) S00 ++ (stW (xG cx) (hd q29_1 a33_1) S00 ++ stW (xG cx) (hd q29_2 a33_2) S00))) rfl dX1_init_36 ?_
  refine x_iinc C 0 [(1, .int 3), (0, .ref m)] dX1_init_37 rfl (by decide) (by decide) rfl ?_
  refine x_goto (tgt := 19) C dX1_init_40 (by decide) ?_
  refine x_iload_n C 0 dX1_init_19 rfl rfl ?_
  refine x_iconst (v := 4) C dX1_init_20 (by decide) ?_
  refine x_icmp_ge C 43 dX1_init_21 (by decide) (fun h => absurd h (by decide)) (fun _ => ?_)
  refine x_aload_n C 1 dX1_init_24 rfl rfl ?_
  refine x_getf C 0 rfl rfl i_kX1_init_X1 1 (by decide) m_kX1_init_6 rfl rfl dX1_init_25 ?_
  refine x_iload_n C 0 dX1_init_28 rfl rfl ?_
  refine x_newo C N (ci := 4) i_kX1_init_X4 tyX4 tyX4_ok m_kX1_init_5 m_kX1_init_8 m_kX1_init_9 rfl [.int 0, .int 0, .int 0, .null, .null, .null] (fun j hj => by rcases (show j = 0 ∨ j = 1 ∨ j = 2 ∨ j = 3 ∨ j = 4 ∨ j = 5 by omega) with rfl | rfl | rfl | rfl | rfl | rfl <;> rfl) (Nat.le_of_ble_eq_true rfl) (Nat.le_of_ble_eq_true rfl) dX1_init_29 (fun q29_3 => ?_)
  refine x_ws ([(m, .inr (1, [.int 0, .ref q11])), (q11, .inl ((xG cx).2.2.2, 4, .inr (.inr (.inr (.inr (va_up (va_up (va_up (fun _ => none) 0 (some q29)) 1 (some q29_1)) 2 (some q29_2)))))))] ++ (stW (xG cx) (hd q29 a33) S00 ++ (stW (xG cx) (hd q29_1 a33_1) S00 ++ (stW (xG cx) (hd q29_2 a33_2) S00 ++ [(q29_3, .inr (4, [.int 0, .int 0, .int 0, .null, .null, .null]))])))) rfl ?_
  refine x_dup C dX1_init_32 rfl ?_
  refine x_callIN C N (q0 := 53) (rest := [.ref q29_3, .int 3, .ref q11]) [0, 1, 2, 3, 4, 5, 6, 7, 8, 9, 10, 11, 12, 13, 14, 15, 16, 17, 18, 19, 20, 21, 22, 23, 24, 25, 26, 27, 28, 29, 30, 31, 32, 33, 34, 35, 36, 37, 38, 39, 40, 41, 42, 43, 44, 45, 46, 47, 48, 49, 50, 51, 52] ([(m, .inr (1, [.int 0, .ref q11])), (q11, .inl ((xG cx).2.2.2, 4, .inr (.inr (.inr (.inr (va_up (va_up (va_up (fun _ => none) 0 (some q29)) 1 (some q29_1)) 2 (some q29_2)))))))] ++ (stW (xG cx) (hd q29 a33) S00 ++ (stW (xG cx) (hd q29_1 a33_1) S00 ++ stW (xG cx) (hd q29_2 a33_2) S00))) gX1_init_X4_init_n21 (host := "LampRacks") (by decide +kernel) m_kX1_init_10 m_kX1_init_9 rfl rfl (by decide +kernel) (fun sz => kX4_initS (xl cx) (xG cx) q29_3 sz) rfl rfl rfl (by decide) rfl rfl rfl ⟨by decide, Nat.le_of_ble_eq_true rfl⟩ (Nat.le_of_ble_eq_true rfl) ⟨Nat.le_of_ble_eq_true rfl, Nat.le_of_ble_eq_true rfl⟩ dX1_init_33 (fun a33_3 => ?_)
  refine x_ws ([(m, .inr (1, [.int 0, .ref q11])), (q11, .inl ((xG cx).2.2.2, 4, .inr (.inr (.inr (.inr (va_up (va_up (va_up (fun _ => none) 0 (some q29)) 1 (some q29_1)) 2 (some q29_2)))))))] ++ (stW (xG cx) (hd q29 a33) S00 ++ (stW (xG cx) (hd q29_1 a33_1) S00 ++ (stW (xG cx) (hd q29_2 a33_2) S00 ++ stW (xG cx) (hd q29_3 a33_3) S00)))) rfl ?_
  refine x_aast C M 1 53 rfl rfl rfl (vp_in_nI (n := 3) (by decide) (by decide)) (by rfl) ([(m, .inr (1, [.int 0, .ref q11])), (q11, .inl ((xG cx).2.2.2, 4, .inr (.inr (.inr (.inr (va_up (va_up (va_up (va_up (fun _ => none) 0 (some q29)) 1 (some q29_1)) 2 (some q29_2)) 3 (some q29_3)))))))] ++ (stW (xG cx) (hd q29 a33) S00 ++ (stW (xG cx) (hd q29_1 a33_1) S00 ++ (stW (xG cx) (hd q29_2 a33_2) S00 ++ stW (xG cx) (hd q29_3 a33_3) S00)))) rfl dX1_init_36 ?_
  refine x_iinc C 0 [(1, .int 4), (0, .ref m)] dX1_init_37 rfl (by decide) (by decide) rfl ?_
  refine x_goto (tgt := 19) C dX1_init_40 (by decide) ?_
  refine x_iload_n C 0 dX1_init_19 rfl rfl ?_
  refine x_iconst (v := 4) C dX1_init_20 (by decide) ?_
  refine x_icmp_ge C 43 dX1_init_21 (by decide) (fun _ => ?_) (fun h => absurd h (by decide))
  have had : ∃ ad : Nat → Nat → Nat, (ad 0 = hd q29 a33 ∧ ad 1 = hd q29_1 a33_1 ∧ ad 2 = hd q29_2 a33_2 ∧ ad 3 = hd q29_3 a33_3) := ⟨(fun i => match i with | 0 => hd q29 a33 | 1 => hd q29_1 a33_1 | 2 => hd q29_2 a33_2 | _ => hd q29_3 a33_3), rfl, rfl, rfl, rfl⟩
  obtain ⟨ad, h0, h1, h2, h3⟩ := had
  refine x_rowq M 1 rfl (g := rot (bk (a1 (fun k => match k with | 0 => q11 | k + 1 => ad (k / 17) (k % 17)))) 0) (fun j hj => ?_) ([(m, .inr (1, [.int 0, .ref q11])), (q11, .inl ((xG cx).2.2.2, 4, .inr (.inr (.inr (.inr (rot (bk (a1 (fun k => match k with | 0 => q11 | k + 1 => ad (k / 17) (k % 17)))) 0))))))] ++ (stW (xG cx) (hd q29 a33) S00 ++ (stW (xG cx) (hd q29_1 a33_1) S00 ++ (stW (xG cx) (hd q29_2 a33_2) S00 ++ stW (xG cx) (hd q29_3 a33_3) S00)))) rfl ?_
  · rcases (show j = 0 ∨ j = 1 ∨ j = 2 ∨ j = 3 by omega) with rfl | rfl | rfl | rfl
    · exact congrArg some (congrFun h0 0).symm
    · exact congrArg some (congrFun h1 0).symm
    · exact congrArg some (congrFun h2 0).symm
    · exact congrArg some (congrFun h3 0).symm
  rw [← h0, ← h1, ← h2, ← h3]
  exact x_nret C E dX1_init_43 (fun k => match k with | 0 => q11 | k + 1 => ad (k / 17) (k % 17)) rfl
