/-! constructors: a row of characters -/
section NROWS3
variable {cx : CX} {z : Nat × Nat} {cc : ByteArray} {Ts : List Cond} {own : String} {rm : Room} {nL : Nat} {ws : va_W} {lv : List (Nat × Value)} {pc : Nat} {st : List Value}
theorem x_newc (C : XC cx cc Ts own rm nL) (N : XN cx) {n : Nat} (hm : Cond.arrayClass .char ∈ Ts) (hn : n < 100000) (hc : z.1 + 1 ≤ rm.cells) (hs : z.2 + n ≤ rm.slots) (hd : decode cc pc = .ok (.newarray .char, 2))
    (kk : ∀ q : Nat, X cx (z.1 + 1, z.2 + n) (ws ++ [(q, .inl ((xG cx).2.2.1, n, .inl (fun _ => 0)))]) lv (pc + 2) (.ref q :: st)) : X cx z ws lv pc (.int (nI n) :: st) := by
  obtain ⟨p, l, e, R, s, m, args, below, meth, c, Inv, G, Q, nn⟩ := cx
  obtain ⟨hx, hb, hml, hnn, hown, hts, hK, hI0, hR, hlocks⟩ := C
  obtain ⟨A, hA, hA2⟩ := N
  intro H locs hI ls hl
  subst hR
  obtain ⟨hP, hD, hS⟩ := (hA _ _ _).mp hI
  refine va_newa (atype := .char) (ty := .char) (N' := n) hx hb (hts _ hm) rfl hK.1 hP hD hS hA2 (a0 := (n, .inl (fun _ => 0))) (fun cA => ?_) (nI_pos (by omega)) (nI_clamp (by omega)) (by show n * 2 ≤ _; omega) hc hs hd (fun q cA H1 hK1 hP1 hD1 hS1 => ?_)
  · rw [vp_cell_i]
    rfl
  · have h1 : s.vm.findClass ("[" ++ (FieldType.char).toString) = some cA := (hK1.2 (gT G).length (cA, .char) (by rw [List.getElem?_append_right (Nat.le_refl _), Nat.sub_self]; rfl)).2
    have h2 : s.vm.findClass ("[" ++ (FieldType.char).toString) = some G.2.2.1 := (hK.1.2 1 (G.2.2.1, .char) rfl).2
    have h3 : cA = G.2.2.1 := Option.some.inj (h1.symm.trans h2)
    subst h3
    exact kk q H1 locs ((hA _ _ _).mpr ⟨hP1, hD1, hS1⟩) ls hl
end NROWS3

theorem m_kX5_init_0 : (Cond.methodLink RX5 3 objectInit : Cond) ∈ wsX5_init := by decide +kernel
theorem m_kX5_init_1 : (Cond.instanceMethod objectInit : Cond) ∈ wsX5_init := by decide +kernel
theorem m_kX5_init_2 : (Cond.code objectInit ⟨#[0xb1]⟩ 1 none : Cond) ∈ wsX5_init := by decide +kernel
theorem i_kX5_init_X5 : ∀ w ∈ u_ws RX5 TX5 10, w ∈ wsX5_init := by decide +kernel
theorem m_kX5_init_4 : (Cond.fieldLink RX5 9 "LampRacks$Text" "length" "I" : Cond) ∈ wsX5_init := by decide +kernel
theorem m_kX5_init_5 : (Cond.arrayClass .char : Cond) ∈ wsX5_init := by decide +kernel
theorem m_kX5_init_6 : (Cond.fieldLink RX5 15 "LampRacks$Text" "characters" "[C" : Cond) ∈ wsX5_init := by decide +kernel
theorem m_kX5_init_7 : (Cond.fieldLink RX5 19 "LampRacks$Text" "position" "I" : Cond) ∈ wsX5_init := by decide +kernel
theorem m_kX5_init_8 : (Cond.fieldLink RX5 22 "LampRacks$Text" "things" "I" : Cond) ∈ wsX5_init := by decide +kernel
theorem m_kX5_init_9 : (Cond.fieldLink RX5 25 "LampRacks$Text" "kind" "I" : Cond) ∈ wsX5_init := by decide +kernel
theorem m_kX5_init_10 : (Cond.fieldLink RX5 28 "LampRacks$Text" "rack" "I" : Cond) ∈ wsX5_init := by decide +kernel
theorem m_kX5_init_11 : (Cond.fieldLink RX5 31 "LampRacks$Text" "place" "I" : Cond) ∈ wsX5_init := by decide +kernel
theorem m_kX5_init_12 : (Cond.fieldLink RX5 34 "LampRacks$Text" "hours" "I" : Cond) ∈ wsX5_init := by decide +kernel
theorem m_kX5_init_13 : (Cond.fieldLink RX5 37 "LampRacks$Text" "direction" "I" : Cond) ∈ wsX5_init := by decide +kernel
theorem m_kX5_init_14 : (Cond.fieldLink RX5 40 "LampRacks$Text" "number" "I" : Cond) ∈ wsX5_init := by decide +kernel
set_option maxRecDepth 100000 in
set_option maxHeartbeats 4000000 in
theorem kX5_init (l : Launch) (G : GG) (m : Nat) (sz : Nat)  : NI l G yX5_init wsX5_init ({ frames := 1, cells := 1, slots := 60, locals := 28 } : Room) [.ref m] [(m, .inr (5, [.int 0, .null, .int 0, .int 0, .int 0, .int 0, .int 0, .int 0, .int 0, .int 0]))] sz 1 60 (fun a => [(m, .inr (5, [.int 0, .ref (a 0), .int 0, .int 0, .int (-1), .int 0, .int 0, .int 0, .int 1, .int 0])), (a 0, .inl (G.2.2.1, 60, .inl (fun _ => 0)))]) := by
  refine NI.of (cc := cX5_init) (maxL := 1) (by decide) rfl rfl (Nat.le_of_ble_eq_true rfl) ?_
  intro cx hxl hxG C N I E
  have M := N.M
  subst hxl
  subst hxG
  show X cx (0, 0) [(m, .inr (5, [.int 0, .null, .int 0, .int 0, .int 0, .int 0, .int 0, .int 0, .int 0, .int 0]))] [(0, .ref m)] 0 []
  refine x_aload_n C 0 dX5_init_0 rfl rfl ?_
  refine x_oini C m_kX5_init_0 m_kX5_init_1 m_kX5_init_2 (by decide) (Nat.le_of_ble_eq_true rfl) dX5_init_1 ?_
  refine x_aload_n C 0 dX5_init_4 rfl rfl ?_
  refine x_iconst (v := 0) C dX5_init_5 (by decide) ?_
  refine x_putf (ty := .int) C M 0 rfl rfl i_kX5_init_X5 0 (by decide) m_kX5_init_4 rfl rfl tyX5 tyX5_ok nmX5 (by decide +kernel) rfl rfl (Nat.le_of_ble_eq_true rfl) [(m, .inr (5, [.int 0, .null, .int 0, .int 0, .int 0, .int 0, .int 0, .int 0, .int 0, .int 0]))] rfl dX5_init_6 ?_
  refine x_aload_n C 0 dX5_init_9 rfl rfl ?_
  refine x_bipush (v := 60) C dX5_init_10 (by decide) ?_
  refine x_top (y := nI 60) rfl ?_
  refine x_newc C N (n := 60) m_kX5_init_5 (by decide) (Nat.le_of_ble_eq_true rfl) (Nat.le_of_ble_eq_true rfl) dX5_init_12 (fun q12 => ?_)
  refine x_ws [(m, .inr (5, [.int 0, .null, .int 0, .int 0, .int 0, .int 0, .int 0, .int 0, .int 0, .int 0])), (q12, .inl ((xG cx).2.2.1, 60, .inl (fun _ => 0)))] rfl ?_
  refine x_putF (ty := .array .char) C M I 0 rfl rfl i_kX5_init_X5 1 (by decide) m_kX5_init_6 rfl rfl rfl tyX5 tyX5_ok nmX5 (by decide +kernel) rfl rfl (Nat.le_of_ble_eq_true rfl) [(m, .inr (5, [.int 0, .ref q12, .int 0, .int 0, .int 0, .int 0, .int 0, .int 0, .int 0, .int 0])), (q12, .inl ((xG cx).2.2.1, 60, .inl (fun _ => 0)))] rfl dX5_init_14 ?_
  refine x_aload_n C 0 dX5_init_17 rfl rfl ?_
  refine x_iconst (v := 0) C dX5_init_18 (by decide) ?_
  refine x_putf (ty := .int) C M 0 rfl rfl i_kX5_init_X5 2 (by decide) m_kX5_init_7 rfl rfl tyX5 tyX5_ok nmX5 (by decide +kernel) rfl rfl (Nat.le_of_ble_eq_true rfl) [(m, .inr (5, [.int 0, .ref q12, .int 0, .int 0, .int 0, .int 0, .int 0, .int 0, .int 0, .int 0])), (q12, .inl ((xG cx).2.2.1, 60, .inl (fun _ => 0)))] rfl dX5_init_19 ?_
  refine x_aload_n C 0 dX5_init_22 rfl rfl ?_
  refine x_iconst (v := 0) C dX5_init_23 (by decide) ?_
  refine x_putf (ty := .int) C M 0 rfl rfl i_kX5_init_X5 3 (by decide) m_kX5_init_8 rfl rfl tyX5 tyX5_ok nmX5 (by decide +kernel) rfl rfl (Nat.le_of_ble_eq_true rfl) [(m, .inr (5, [.int 0, .ref q12, .int 0, .int 0, .int 0, .int 0, .int 0, .int 0, .int 0, .int 0])), (q12, .inl ((xG cx).2.2.1, 60, .inl (fun _ => 0)))] rfl dX5_init_24 ?_
  refine x_aload_n C 0 dX5_init_27 rfl rfl ?_
  refine x_iconst (v := (-1)) C dX5_init_28 (by decide) ?_
  refine x_putf (ty := .int) C M 0 rfl rfl i_kX5_init_X5 4 (by decide) m_kX5_init_9 rfl rfl tyX5 tyX5_ok nmX5 (by decide +kernel) rfl rfl (Nat.le_of_ble_eq_true rfl) [(m, .inr (5, [.int 0, .ref q12, .int 0, .int 0, .int (-1), .int 0, .int 0, .int 0, .int 0, .int 0])), (q12, .inl ((xG cx).2.2.1, 60, .inl (fun _ => 0)))] rfl dX5_init_29 ?_
  refine x_aload_n C 0 dX5_init_32 rfl rfl ?_
  refine x_iconst (v := 0) C dX5_init_33 (by decide) ?_
  refine x_putf (ty := .int) C M 0 rfl rfl i_kX5_init_X5 5 (by decide) m_kX5_init_10 rfl rfl tyX5 tyX5_ok nmX5 (by decide +kernel) rfl rfl (Nat.le_of_ble_eq_true rfl) [(m, .inr (5, [.int 0, .ref q12, .int 0, .int 0, .int (-1), .int 0, .int 0, .int 0, .int 0, .int 0])), (q12, .inl ((xG cx).2.2.1, 60, .inl (fun _ => 0)))] rfl dX5_init_34 ?_
  refine x_aload_n C 0 dX5_init_37 rfl rfl ?_
  refine x_iconst (v := 0) C dX5_init_38 (by decide) ?_
  refine x_putf (ty := .int) C M 0 rfl rfl i_kX5_init_X5 6 (by decide) m_kX5_init_11 rfl rfl tyX5 tyX5_ok nmX5 (by decide +kernel) rfl rfl (Nat.le_of_ble_eq_true rfl) [(m, .inr (5, [.int 0, .ref q12, .int 0, .int 0, .int (-1), .int 0, .int 0, .int 0, .int 0, .int 0])), (q12, .inl ((xG cx).2.2.1, 60, .inl (fun _ => 0)))] rfl dX5_init_39 ?_
  refine x_aload_n C 0 dX5_init_42 rfl rfl ?_
  refine x_iconst (v := 0) C dX5_init_43 (by decide) ?_
  refine x_putf (ty := .int) C M 0 rfl rfl i_kX5_init_X5 7 (by decide) m_kX5_init_12 rfl rfl tyX5 tyX5_ok nmX5 (by decide +kernel) rfl rfl (Nat.le_of_ble_eq_true rfl) [(m, .inr (5, [.int 0, .ref q12, .int 0, .int 0, .int (-1), .int 0, .int 0, .int 0, .int 0, .int 0])), (q12, .inl ((xG cx).2.2.1, 60, .inl (fun _ => 0)))] rfl dX5_init_44 ?_
  refine x_aload_n C 0 dX5_init_47 rfl rfl ?_
  refine x_iconst (v := 1) C dX5_init_48 (by decide) ?_
  refine x_putf (ty := .int) C M 0 rfl rfl i_kX5_init_X5 8 (by decide) m_kX5_init_13 rfl rfl tyX5 tyX5_ok nmX5 (by decide +kernel) rfl rfl (Nat.le_of_ble_eq_true rfl) [(m, .inr (5, [.int 0, .ref q12, .int 0, .int 0, .int (-1), .int 0, .int 0, .int 0, .int 1, .int 0])), (q12, .inl ((xG cx).2.2.1, 60, .inl (fun _ => 0)))] rfl dX5_init_49 ?_
  refine x_aload_n C 0 dX5_init_52 rfl rfl ?_
  refine x_iconst (v := 0) C dX5_init_53 (by decide) ?_
  refine x_putf (ty := .int) C M 0 rfl rfl i_kX5_init_X5 9 (by decide) m_kX5_init_14 rfl rfl tyX5 tyX5_ok nmX5 (by decide +kernel) rfl rfl (Nat.le_of_ble_eq_true rfl) [(m, .inr (5, [.int 0, .ref q12, .int 0, .int 0, .int (-1), .int 0, .int 0, .int 0, .int 1, .int 0])), (q12, .inl ((xG cx).2.2.1, 60, .inl (fun _ => 0)))] rfl dX5_init_54 ?_
  exact x_nret C E dX5_init_57 (fun k => match k with | 0 => q12 | _ => 0) (rfl)
