/-- of the first of n with P from i on, what g says; else d -/
def fsv (P : Nat → Prop) [DecidablePred P] (g : Nat → Int32) (d : Int32) : Nat → Nat → Int32
  | 0, _ => d
  | n + 1, i => if P i then g i else fsv P g d n (i + 1)
theorem fsv_y {P : Nat → Prop} [DecidablePred P] {g : Nat → Int32} {d : Int32} {n i : Nat} (h : P i) : fsv P g d (n + 1) i = g i := if_pos h
theorem fsv_n {P : Nat → Prop} [DecidablePred P] {g : Nat → Int32} {d : Int32} {n i : Nat} (h : ¬ P i) : fsv P g d (n + 1) i = fsv P g d n (i + 1) := if_neg h
/-- the first that ended after an hour, of several the one with the least hour, then number -/
def ffa (fe : Nat → Int32) (h : Int32) : Nat → Int32
  | 0 => -1
  | i + 1 => if h < fe i ∧ (ffa fe h i = -1 ∨ fe i < fe (ixz (ffa fe h i))) then nI i else ffa fe h i
theorem ffa_s (fe : Nat → Int32) (h : Int32) (i : Nat) : ffa fe h (i + 1) = if h < fe i ∧ (ffa fe h i = -1 ∨ fe i < fe (ixz (ffa fe h i))) then nI i else ffa fe h i := rfl

theorem i_kX2_countShorterOf_X2 : ∀ w ∈ u_ws RX2 TX2 7, w ∈ wsX2_countShorterOf := by decide +kernel
theorem m_kX2_countShorterOf_1 : (Cond.fieldLink RX2 9 "LampRacks$Lamps" "size" "I" : Cond) ∈ wsX2_countShorterOf := by decide +kernel
theorem m_kX2_countShorterOf_2 : (Cond.static yX6_oneIf : Cond) ∈ wsX2_countShorterOf := by decide +kernel
theorem m_kX2_countShorterOf_3 : (Cond.initialized RX6 : Cond) ∈ wsX2_countShorterOf := by decide +kernel
set_option maxRecDepth 100000 in
set_option maxHeartbeats 4000000 in
theorem kX2_countShorterOf (l : Launch) (G : GG) (b : Nat) (q1 : Nat) (q2 : Nat) (q3 : Nat) (q4 : Nat) (q5 : Nat) (q6 : Nat) (n : Nat) (fb : Nat → Int32) (fs : Nat → Int32) (fc : Nat → Int32) (fw : Nat → Int32) (fu : Nat → Int32) (fe : Nat → Int32) (x : Int32) (k : Nat) (hn : n ≤ 60) (hk : k < 60) : RO l G yX2_countShorterOf wsX2_countShorterOf ({ frames := 2, cells := 0, slots := 0, locals := 43 } : Room) [.ref b, .int x, .int (nI k)] [(b, .inr (2, [.int (nI n), .ref q1, .ref q2, .ref q3, .ref q4, .ref q5, .ref q6])), (q1, .inl (G.2.1, 60, .inl fb)), (q2, .inl (G.2.1, 60, .inl fs)), (q3, .inl (G.2.1, 60, .inl fc)), (q4, .inl (G.2.1, 60, .inl fw)), (q5, .inl (G.2.1, 60, .inl fu)), (q6, .inl (G.2.1, 60, .inl fe))] (.int (cnt (fun j => (fb j = x ∧ fe j ≠ -1) ∧ (fw j / 10 < fw k / 10 ∨ (fw j / 10 = fw k / 10 ∧ j < k))) n)) := by
  refine RO.of (cc := cX2_countShorterOf) (maxL := 8) (ret := (some .int)) (by decide) rfl (Nat.le_of_ble_eq_true rfl) ?_
  intro cx hxl hxG C E
  subst hxl
  subst hxG
  show X cx (0, 0) [(b, .inr (2, [.int (nI n), .ref q1, .ref q2, .ref q3, .ref q4, .ref q5, .ref q6])), (q1, .inl ((xG cx).2.1, 60, .inl fb)), (q2, .inl ((xG cx).2.1, 60, .inl fs)), (q3, .inl ((xG cx).2.1, 60, .inl fc)), (q4, .inl ((xG cx).2.1, 60, .inl fw)), (q5, .inl ((xG cx).2.1, 60, .inl fu)), (q6, .inl ((xG cx).2.1, 60, .inl fe))] [(0, .ref b), (1, .int x), (2, .int (nI k))] 0 []
  refine x_aload_n C 0 dX2_countShorterOf_0 rfl rfl ?_
  refine x_iload_n C 2 dX2_countShorterOf_1 rfl rfl ?_
  refine x_callVRO C ([.int (nI k)]) ([]) [0, 1, 2, 3, 4, 5, 6] (k0 := 0) (na := 1) gX2_countShorterOf_X2_hoursCounted rfl (by decide +kernel) rfl rfl rfl (kX2_hoursCounted (xl cx) (xG cx) b q1 q2 q3 q4 q5 q6 n fb fs fc fw fu fe k (by first | assumption | rfl | omega | decide)) rfl (by decide) rfl rfl rfl ⟨by decide, by decide⟩ (Nat.le_of_ble_eq_true rfl) ⟨by decide, by decide⟩ dX2_countShorterOf_2 ?_
  refine x_istore_n C [(3, .int (fw k / 10)), (0, .ref b), (1, .int x), (2, .int (nI k))] dX2_countShorterOf_5 rfl (by decide) rfl ?_
  refine x_iconst (v := 0) C dX2_countShorterOf_6 (by decide) ?_
  refine x_istore C [(4, .int 0), (3, .int (fw k / 10)), (0, .ref b), (1, .int x), (2, .int (nI k))] dX2_countShorterOf_7 (by decide) rfl ?_
  refine x_iconst (v := 0) C dX2_countShorterOf_9 (by decide) ?_
  refine x_istore C [(5, .int 0), (4, .int 0), (3, .int (fw k / 10)), (0, .ref b), (1, .int x), (2, .int (nI k))] dX2_countShorterOf_10 (by decide) rfl ?_
  have loop_12 : ∀ (zz : Nat) (i : Nat) (acc : Int32) (hi : i ≤ n) (hz : n + 1 ≤ i + zz) (ea : acc = (cnt (fun j => (fb j = x ∧ fe j ≠ -1) ∧ (fw j / 10 < fw k / 10 ∨ (fw j / 10 = fw k / 10 ∧ j < k)))) i), X cx (0, 0) [(b, .inr (2, [.int (nI n), .ref q1, .ref q2, .ref q3, .ref q4, .ref q5, .ref q6])), (q1, .inl ((xG cx).2.1, 60, .inl fb)), (q2, .inl ((xG cx).2.1, 60, .inl fs)), (q3, .inl ((xG cx).2.1, 60, .inl fc)), (q4, .inl ((xG cx).2.1, 60, .inl fw)), (q5, .inl ((xG cx).2.1, 60, .inl fu)), (q6, .inl ((xG cx).2.1, 60, .inl fe))] [(0, .ref b), (1, .int x), (2, .int (nI k)), (3, .int (fw k / 10)), (4, .int acc), (5, .int (nI i))] 12 [] := by
    intro zz
    induction zz with
    | zero =>
      intro i acc hi hz ea
      exfalso; omega
    | succ zz ih =>
      intro i acc hi hz ea
      refine x_iload C 5 dX2_countShorterOf_12 rfl ?_
      refine x_aload_n C 0 dX2_countShorterOf_14 rfl rfl ?_
      refine x_getf C 0 rfl rfl i_kX2_countShorterOf_X2 0 (by decide) m_kX2_countShorterOf_1 rfl rfl dX2_countShorterOf_15 ?_
      refine x_icmp_ge C 88 dX2_countShorterOf_18 (by decide) (fun c_18 => ?_) (fun c_18 => ?_)
      ·
        have n_18 : n ≤ i := (nI_leI (a := n) (b := i) (by omega) (by omega)).mp c_18
        refine x_iload C 4 dX2_countShorterOf_88 rfl ?_
        exact x_iret C E dX2_countShorterOf_90 (by rw [ea, show i = n from by omega]) (rfl)
      ·
        have n_18 : ¬ (n ≤ i) := fun q => c_18 ((nI_leI (a := n) (b := i) (by omega) (by omega)).mpr q)
        refine x_aload_n C 0 dX2_countShorterOf_21 rfl rfl ?_
        refine x_iload C 5 dX2_countShorterOf_22 rfl ?_
        refine x_callVRO C ([.int (nI i)]) ([]) [0, 1, 2, 3, 4, 5, 6] (k0 := 0) (na := 1) gX2_countShorterOf_X2_hoursCounted rfl (by decide +kernel) rfl rfl rfl (kX2_hoursCounted (xl cx) (xG cx) b q1 q2 q3 q4 q5 q6 n fb fs fc fw fu fe i (by first | assumption | rfl | omega | decide)) rfl (by decide) rfl rfl rfl ⟨by decide, by decide⟩ (Nat.le_of_ble_eq_true rfl) ⟨by decide, by decide⟩ dX2_countShorterOf_24 ?_
        refine x_istore C [(6, .int (fw i / 10)), (0, .ref b), (1, .int x), (2, .int (nI k)), (3, .int (fw k / 10)), (4, .int acc), (5, .int (nI i))] dX2_countShorterOf_27 (by decide) rfl ?_
        refine x_iload C 0 dX2_countShorterOf_29 rfl ?_
        refine x_iload_n C 4 dX2_countShorterOf_31 rfl rfl ?_
        have join_52 : ∀ (v0 : Int32) (hv0 : v0 = b2i (fw i / 10 < fw k / 10 ∨ (fw i / 10 = fw k / 10 ∧ i < k))), X cx (0, 0) [(b, .inr (2, [.int (nI n), .ref q1, .ref q2, .ref q3, .ref q4, .ref q5, .ref q6])), (q1, .inl ((xG cx).2.1, 60, .inl fb)), (q2, .inl ((xG cx).2.1, 60, .inl fs)), (q3, .inl ((xG cx).2.1, 60, .inl fc)), (q4, .inl ((xG cx).2.1, 60, .inl fw)), (q5, .inl ((xG cx).2.1, 60, .inl fu)), (q6, .inl ((xG cx).2.1, 60, .inl fe))] [(6, .int (fw i / 10)), (0, .ref b), (1, .int x), (2, .int (nI k)), (3, .int (fw k / 10)), (4, .int acc), (5, .int (nI i))] 52 [.int v0] := by
          intro v0 hv0
          subst hv0
          refine x_istore C [(7, .int (b2i (fw i / 10 < fw k / 10 ∨ (fw i / 10 = fw k / 10 ∧ i < k)))), (6, .int (fw i / 10)), (0, .ref b), (1, .int x), (2, .int (nI k)), (3, .int (fw k / 10)), (4, .int acc), (5, .int (nI i))] dX2_countShorterOf_52 (by decide) rfl ?_
          refine x_iload C 6 dX2_countShorterOf_54 rfl ?_
          refine x_aload_n C 2 dX2_countShorterOf_56 rfl rfl ?_
          refine x_iload C 7 dX2_countShorterOf_57 rfl ?_
          refine x_iload_n C 3 dX2_countShorterOf_59 rfl rfl ?_
          refine x_callVRO C ([.int (nI i), .int x]) ([.int acc]) [0, 1, 2, 3, 4, 5, 6] (k0 := 0) (na := 2) gX2_countShorterOf_X2_isDeadOf rfl (by decide +kernel) rfl rfl rfl (kX2_isDeadOf (xl cx) (xG cx) b q1 q2 q3 q4 q5 q6 n fb fs fc fw fu fe i x (by first | assumption | rfl | omega | decide)) rfl (by decide) rfl rfl rfl ⟨by decide, by decide⟩ (Nat.le_of_ble_eq_true rfl) ⟨by decide, by decide⟩ dX2_countShorterOf_60 ?_
          have join_76 : ∀ (v0 : Int32) (hv0 : v0 = b2i ((fb i = x ∧ fe i ≠ -1) ∧ (fw i / 10 < fw k / 10 ∨ (fw i / 10 = fw k / 10 ∧ i < k)))), X cx (0, 0) [(b, .inr (2, [.int (nI n), .ref q1, .ref q2, .ref q3, .ref q4, .ref q5, .ref q6])), (q1, .inl ((xG cx).2.1, 60, .inl fb)), (q2, .inl ((xG cx).2.1, 60, .inl fs)), (q3, .inl ((xG cx).2.1, 60, .inl fc)), (q4, .inl ((xG cx).2.1, 60, .inl fw)), (q5, .inl ((xG cx).2.1, 60, .inl fu)), (q6, .inl ((xG cx).2.1, 60, .inl fe))] [(7, .int (b2i (fw i / 10 < fw k / 10 ∨ (fw i / 10 = fw k / 10 ∧ i < k)))), (6, .int (fw i / 10)), (0, .ref b), (1, .int x), (2, .int (nI k)), (3, .int (fw k / 10)), (4, .int acc), (5, .int (nI i))] 76 [.int v0, .int acc] := by
            intro v0 hv0
            subst hv0
            refine x_callNRO C ([.int (b2i ((fb i = x ∧ fe i ≠ -1) ∧ (fw i / 10 < fw k / 10 ∨ (fw i / 10 = fw k / 10 ∧ i < k))))]) ([.int acc]) [] (na := 1) (host := "LampRacks") gX2_countShorterOf_X6_oneIf_n52 (by decide +kernel) m_kX2_countShorterOf_2 m_kX2_countShorterOf_3 rfl (by decide +kernel) rfl (kX6_oneIf (xl cx) (xG cx) (b2i ((fb i = x ∧ fe i ≠ -1) ∧ (fw i / 10 < fw k / 10 ∨ (fw i / 10 = fw k / 10 ∧ i < k)))) (b2i_01 _)) rfl (by decide) rfl rfl rfl ⟨by decide, by decide⟩ (Nat.le_of_ble_eq_true rfl) ⟨by decide, by decide⟩ dX2_countShorterOf_76 ?_
            refine x_iadd C (rfl) dX2_countShorterOf_79 ?_
            refine x_istore C [(4, .int (acc + (b2i ((fb i = x ∧ fe i ≠ -1) ∧ (fw i / 10 < fw k / 10 ∨ (fw i / 10 = fw k / 10 ∧ i < k)))))), (7, .int (b2i (fw i / 10 < fw k / 10 ∨ (fw i / 10 = fw k / 10 ∧ i < k)))), (6, .int (fw i / 10)), (0, .ref b), (1, .int x), (2, .int (nI k)), (3, .int (fw k / 10)), (5, .int (nI i))] dX2_countShorterOf_80 (by decide) rfl ?_
            refine x_iinc C 7 [(5, .int (nI (i + 1))), (4, .int (acc + (b2i ((fb i = x ∧ fe i ≠ -1) ∧ (fw i / 10 < fw k / 10 ∨ (fw i / 10 = fw k / 10 ∧ i < k)))))), (7, .int (b2i (fw i / 10 < fw k / 10 ∨ (fw i / 10 = fw k / 10 ∧ i < k)))), (6, .int (fw i / 10)), (0, .ref b), (1, .int x), (2, .int (nI k)), (3, .int (fw k / 10))] dX2_countShorterOf_82 rfl (inc1 i) (by decide) rfl ?_
            refine x_goto (tgt := 12) C dX2_countShorterOf_85 (by decide) ?_
            refine x_lv [(0, .ref b), (1, .int x), (2, .int (nI k)), (3, .int (fw k / 10)), (4, .int (acc + (b2i ((fb i = x ∧ fe i ≠ -1) ∧ (fw i / 10 < fw k / 10 ∨ (fw i / 10 = fw k / 10 ∧ i < k)))))), (5, .int (nI (i + 1)))] [4, 5, 6, 7, 1, 0] rfl ?_
            exact ih (i + 1) (acc + (b2i ((fb i = x ∧ fe i ≠ -1) ∧ (fw i / 10 < fw k / 10 ∨ (fw i / 10 = fw k / 10 ∧ i < k))))) (by omega) (by omega) (by rw [ea]; rfl)
          refine x_ifb_eq (P := fb i = x ∧ fe i ≠ -1) C 75 dX2_countShorterOf_63 (by decide) (fun c_63 => ?_) (fun c_63 => ?_)
          ·
            refine x_iconst (v := 0) C dX2_countShorterOf_75 (by decide) ?_
            exact join_76 _ (by first | rfl | (symm; first | (apply b2i_t; grind) | (apply b2i_f; grind)) | grind)
          ·
            refine x_iload C 0 dX2_countShorterOf_66 rfl ?_
            refine x_ifb_eq (P := fw i / 10 < fw k / 10 ∨ (fw i / 10 = fw k / 10 ∧ i < k)) C 75 dX2_countShorterOf_68 (by decide) (fun c_68 => ?_) (fun c_68 => ?_)
            ·
              refine x_iconst (v := 0) C dX2_countShorterOf_75 (by decide) ?_
              exact join_76 _ (by first | rfl | (symm; first | (apply b2i_t; grind) | (apply b2i_f; grind)) | grind)
            ·
              refine x_iconst (v := 1) C dX2_countShorterOf_71 (by decide) ?_
              refine x_goto (tgt := 76) C dX2_countShorterOf_72 (by decide) ?_
              exact join_76 _ (by first | rfl | (symm; first | (apply b2i_t; grind) | (apply b2i_f; grind)) | grind)
        refine x_icmp_lt C 47 dX2_countShorterOf_32 (by decide) (fun c_32 => ?_) (fun c_32 => ?_)
        ·
          refine x_iconst (v := 1) C dX2_countShorterOf_47 (by decide) ?_
          refine x_goto (tgt := 52) C dX2_countShorterOf_48 (by decide) ?_
          exact join_52 _ (by first | rfl | (symm; first | (apply b2i_t; grind) | (apply b2i_f; grind)) | grind)
        ·
          refine x_iload C 0 dX2_countShorterOf_35 rfl ?_
          refine x_iload_n C 4 dX2_countShorterOf_37 rfl rfl ?_
          refine x_icmp_ne C 51 dX2_countShorterOf_38 (by decide) (fun c_38 => ?_) (fun c_38 => ?_)
          ·
            refine x_iconst (v := 0) C dX2_countShorterOf_51 (by decide) ?_
            exact join_52 _ (by first | rfl | (symm; first | (apply b2i_t; grind) | (apply b2i_f; grind)) | grind)
          ·
            refine x_iload C 6 dX2_countShorterOf_41 rfl ?_
            refine x_iload_n C 3 dX2_countShorterOf_43 rfl rfl ?_
            refine x_icmp_ge C 51 dX2_countShorterOf_44 (by decide) (fun c_44 => ?_) (fun c_44 => ?_)
            ·
              have n_44 : k ≤ i := (nI_leI (a := k) (b := i) (by omega) (by omega)).mp c_44
              refine x_iconst (v := 0) C dX2_countShorterOf_51 (by decide) ?_
              exact join_52 _ (by first | rfl | (symm; first | (apply b2i_t; grind) | (apply b2i_f; grind)) | grind)
            ·
              have n_44 : ¬ (k ≤ i) := fun q => c_44 ((nI_leI (a := k) (b := i) (by omega) (by omega)).mpr q)
              refine x_iconst (v := 1) C dX2_countShorterOf_47 (by decide) ?_
              refine x_goto (tgt := 52) C dX2_countShorterOf_48 (by decide) ?_
              exact join_52 _ (by first | rfl | (symm; first | (apply b2i_t; grind) | (apply b2i_f; grind)) | grind)
  refine x_lv [(0, .ref b), (1, .int x), (2, .int (nI k)), (3, .int (fw k / 10)), (4, .int 0), (5, .int (nI 0))] [3, 4, 5, 2, 1, 0] rfl ?_
  exact loop_12 (n + 1) 0 0 (by omega) (by omega) (rfl)

theorem i_kX2_middleLife_X2 : ∀ w ∈ u_ws RX2 TX2 7, w ∈ wsX2_middleLife := by decide +kernel
theorem m_kX2_middleLife_1 : (Cond.fieldLink RX2 9 "LampRacks$Lamps" "size" "I" : Cond) ∈ wsX2_middleLife := by decide +kernel
set_option maxRecDepth 100000 in
set_option maxHeartbeats 4000000 in
theorem kX2_middleLife (l : Launch) (G : GG) (b : Nat) (q1 : Nat) (q2 : Nat) (q3 : Nat) (q4 : Nat) (q5 : Nat) (q6 : Nat) (n : Nat) (fb : Nat → Int32) (fs : Nat → Int32) (fc : Nat → Int32) (fw : Nat → Int32) (fu : Nat → Int32) (fe : Nat → Int32) (x : Int32) (hn : n ≤ 60) : RO l G yX2_middleLife wsX2_middleLife ({ frames := 3, cells := 0, slots := 0, locals := 70 } : Room) [.ref b, .int x] [(b, .inr (2, [.int (nI n), .ref q1, .ref q2, .ref q3, .ref q4, .ref q5, .ref q6])), (q1, .inl (G.2.1, 60, .inl fb)), (q2, .inl (G.2.1, 60, .inl fs)), (q3, .inl (G.2.1, 60, .inl fc)), (q4, .inl (G.2.1, 60, .inl fw)), (q5, .inl (G.2.1, 60, .inl fu)), (q6, .inl (G.2.1, 60, .inl fe))] (.int (fsv (fun j => (fb j = x ∧ fe j ≠ -1) ∧ cnt (fun o => (fb o = x ∧ fe o ≠ -1) ∧ (fw o / 10 < fw j / 10 ∨ (fw o / 10 = fw j / 10 ∧ o < j))) n = (cnt (fun o => fb o = x) n + 1) / 2 - 1) (fun j => fw j / 10) (-1005) n 0)) := by
  refine RO.of (cc := cX2_middleLife) (maxL := 4) (ret := (some .int)) (by decide) rfl (Nat.le_of_ble_eq_true rfl) ?_
  intro cx hxl hxG C E
  subst hxl
  subst hxG
  show X cx (0, 0) [(b, .inr (2, [.int (nI n), .ref q1, .ref q2, .ref q3, .ref q4, .ref q5, .ref q6])), (q1, .inl ((xG cx).2.1, 60, .inl fb)), (q2, .inl ((xG cx).2.1, 60, .inl fs)), (q3, .inl ((xG cx).2.1, 60, .inl fc)), (q4, .inl ((xG cx).2.1, 60, .inl fw)), (q5, .inl ((xG cx).2.1, 60, .inl fu)), (q6, .inl ((xG cx).2.1, 60, .inl fe))] [(0, .ref b), (1, .int x)] 0 []
  refine x_aload_n C 0 dX2_middleLife_0 rfl rfl ?_
  refine x_iload_n C 1 dX2_middleLife_1 rfl rfl ?_
  refine x_callVRO C ([.int x]) ([]) [0, 1, 2, 3, 4, 5, 6] (k0 := 0) (na := 1) gX2_middleLife_X2_countOf rfl (by decide +kernel) rfl rfl rfl (kX2_countOf (xl cx) (xG cx) b q1 q2 q3 q4 q5 q6 n fb fs fc fw fu fe x (by first | assumption | rfl | omega | decide)) rfl (by decide) rfl rfl rfl ⟨by decide, by decide⟩ (Nat.le_of_ble_eq_true rfl) ⟨by decide, by decide⟩ dX2_middleLife_2 ?_
  refine x_iconst (v := 1) C dX2_middleLife_5 (by decide) ?_
  refine x_iadd C (rfl) dX2_middleLife_6 ?_
  refine x_iconst (v := 2) C dX2_middleLife_7 (by decide) ?_
  refine x_idiv C (rfl) dX2_middleLife_8 (by decide) ?_
  refine x_iconst (v := 1) C dX2_middleLife_9 (by decide) ?_
  refine x_isub C (rfl) dX2_middleLife_10 ?_
  refine x_istore_n C [(2, .int ((((cnt (fun j => fb j = x) n) + 1) / 2) - 1)), (0, .ref b), (1, .int x)] dX2_middleLife_11 rfl (by decide) rfl ?_
  refine x_iconst (v := 0) C dX2_middleLife_12 (by decide) ?_
  refine x_istore_n C [(3, .int 0), (2, .int ((((cnt (fun j => fb j = x) n) + 1) / 2) - 1)), (0, .ref b), (1, .int x)] dX2_middleLife_13 rfl (by decide) rfl ?_
  have loop_14 : ∀ (zz : Nat) (i : Nat) (hi : i ≤ n) (hz : n + 1 ≤ i + zz) (ea : fsv (fun j => (fb j = x ∧ fe j ≠ -1) ∧ cnt (fun o => (fb o = x ∧ fe o ≠ -1) ∧ (fw o / 10 < fw j / 10 ∨ (fw o / 10 = fw j / 10 ∧ o < j))) n = (cnt (fun o => fb o = x) n + 1) / 2 - 1) (fun j => fw j / 10) (-1005) (n - i) i = fsv (fun j => (fb j = x ∧ fe j ≠ -1) ∧ cnt (fun o => (fb o = x ∧ fe o ≠ -1) ∧ (fw o / 10 < fw j / 10 ∨ (fw o / 10 = fw j / 10 ∧ o < j))) n = (cnt (fun o => fb o = x) n + 1) / 2 - 1) (fun j => fw j / 10) (-1005) n 0), X cx (0, 0) [(b, .inr (2, [.int (nI n), .ref q1, .ref q2, .ref q3, .ref q4, .ref q5, .ref q6])), (q1, .inl ((xG cx).2.1, 60, .inl fb)), (q2, .inl ((xG cx).2.1, 60, .inl fs)), (q3, .inl ((xG cx).2.1, 60, .inl fc)), (q4, .inl ((xG cx).2.1, 60, .inl fw)), (q5, .inl ((xG cx).2.1, 60, .inl fu)), (q6, .inl ((xG cx).2.1, 60, .inl fe))] [(0, .ref b), (1, .int x), (2, .int ((cnt (fun j => fb j = x) n + 1) / 2 - 1)), (3, .int (nI i))] 14 [] := by
    intro zz
    induction zz with
    | zero =>
      intro i hi hz ea
      exfalso; omega
    | succ zz ih =>
      intro i hi hz ea
      refine x_iload_n C 3 dX2_middleLife_14 rfl rfl ?_
      refine x_aload_n C 0 dX2_middleLife_15 rfl rfl ?_
      refine x_getf C 0 rfl rfl i_kX2_middleLife_X2 0 (by decide) m_kX2_middleLife_1 rfl rfl dX2_middleLife_16 ?_
      refine x_icmp_ge C 53 dX2_middleLife_19 (by decide) (fun c_19 => ?_) (fun c_19 => ?_)
      ·
        have n_19 : n ≤ i := (nI_leI (a := n) (b := i) (by omega) (by omega)).mp c_19
        refine x_sipush (v := (-1005)) C dX2_middleLife_53 (by decide) ?_
        exact x_iret C E dX2_middleLife_56 (by rw [← ea, show n - i = 0 from by omega]; rfl) (rfl)
      ·
        have n_19 : ¬ (n ≤ i) := fun q => c_19 ((nI_leI (a := n) (b := i) (by omega) (by omega)).mpr q)
        refine x_aload_n C 0 dX2_middleLife_22 rfl rfl ?_
        refine x_iload_n C 3 dX2_middleLife_23 rfl rfl ?_
        refine x_iload_n C 1 dX2_middleLife_24 rfl rfl ?_
        refine x_callVRO C ([.int (nI i), .int x]) ([]) [0, 1, 2, 3, 4, 5, 6] (k0 := 0) (na := 2) gX2_middleLife_X2_isDeadOf rfl (by decide +kernel) rfl rfl rfl (kX2_isDeadOf (xl cx) (xG cx) b q1 q2 q3 q4 q5 q6 n fb fs fc fw fu fe i x (by first | assumption | rfl | omega | decide)) rfl (by decide) rfl rfl rfl ⟨by decide, by decide⟩ (Nat.le_of_ble_eq_true rfl) ⟨by decide, by decide⟩ dX2_middleLife_25 ?_
        refine x_ifb_eq (P := fb i = x ∧ fe i ≠ -1) C 47 dX2_middleLife_28 (by decide) (fun c_28 => ?_) (fun c_28 => ?_)
        ·
          refine x_iinc C 3 [(3, .int (nI (i + 1))), (0, .ref b), (1, .int x), (2, .int ((cnt (fun j => fb j = x) n + 1) / 2 - 1))] dX2_middleLife_47 rfl (inc1 i) (by decide) rfl ?_
          refine x_goto (tgt := 14) C dX2_middleLife_50 (by decide) ?_
          refine x_lv [(0, .ref b), (1, .int x), (2, .int ((cnt (fun j => fb j = x) n + 1) / 2 - 1)), (3, .int (nI (i + 1)))] [1, 2, 3, 0] rfl ?_
          exact ih (i + 1) (by omega) (by omega) (by rw [← ea, show n - i = (n - (i + 1)) + 1 from by omega]; exact (fsv_n (fun q => c_28 q.1)).symm)
        ·
          refine x_aload_n C 0 dX2_middleLife_31 rfl rfl ?_
          refine x_iload_n C 1 dX2_middleLife_32 rfl rfl ?_
          refine x_iload_n C 3 dX2_middleLife_33 rfl rfl ?_
          refine x_callVRO C ([.int x, .int (nI i)]) ([]) [0, 1, 2, 3, 4, 5, 6] (k0 := 0) (na := 2) gX2_middleLife_X2_countShorterOf rfl (by decide +kernel) rfl rfl rfl (kX2_countShorterOf (xl cx) (xG cx) b q1 q2 q3 q4 q5 q6 n fb fs fc fw fu fe x i (by first | assumption | rfl | omega | decide) (by first | assumption | rfl | omega | decide)) rfl (by decide) rfl rfl rfl ⟨by decide, by decide⟩ (Nat.le_of_ble_eq_true rfl) ⟨by decide, by decide⟩ dX2_middleLife_34 ?_
          refine x_iload_n C 2 dX2_middleLife_37 rfl rfl ?_
          refine x_icmp_ne C 47 dX2_middleLife_38 (by decide) (fun c_38 => ?_) (fun c_38 => ?_)
          ·
            refine x_iinc C 3 [(3, .int (nI (i + 1))), (0, .ref b), (1, .int x), (2, .int ((cnt (fun j => fb j = x) n + 1) / 2 - 1))] dX2_middleLife_47 rfl (inc1 i) (by decide) rfl ?_
            refine x_goto (tgt := 14) C dX2_middleLife_50 (by decide) ?_
            refine x_lv [(0, .ref b), (1, .int x), (2, .int ((cnt (fun j => fb j = x) n + 1) / 2 - 1)), (3, .int (nI (i + 1)))] [1, 2, 3, 0] rfl ?_
            exact ih (i + 1) (by omega) (by omega) (by rw [← ea, show n - i = (n - (i + 1)) + 1 from by omega]; exact (fsv_n (fun q => c_38 q.2)).symm)
          ·
            refine x_aload_n C 0 dX2_middleLife_41 rfl rfl ?_
            refine x_iload_n C 3 dX2_middleLife_42 rfl rfl ?_
            refine x_callVRO C ([.int (nI i)]) ([]) [0, 1, 2, 3, 4, 5, 6] (k0 := 0) (na := 1) gX2_middleLife_X2_hoursCounted rfl (by decide +kernel) rfl rfl rfl (kX2_hoursCounted (xl cx) (xG cx) b q1 q2 q3 q4 q5 q6 n fb fs fc fw fu fe i (by first | assumption | rfl | omega | decide)) rfl (by decide) rfl rfl rfl ⟨by decide, by decide⟩ (Nat.le_of_ble_eq_true rfl) ⟨by decide, by decide⟩ dX2_middleLife_43 ?_
            exact x_iret C E dX2_middleLife_46 (by rw [← ea, show n - i = (n - (i + 1)) + 1 from by omega]; exact (fsv_y (P := fun j => (fb j = x ∧ fe j ≠ -1) ∧ cnt (fun o => (fb o = x ∧ fe o ≠ -1) ∧ (fw o / 10 < fw j / 10 ∨ (fw o / 10 = fw j / 10 ∧ o < j))) n = (cnt (fun o => fb o = x) n + 1) / 2 - 1) (g := fun j => fw j / 10) ⟨c_28, c_38⟩).symm) (rfl)
  refine x_lv [(0, .ref b), (1, .int x), (2, .int ((cnt (fun j => fb j = x) n + 1) / 2 - 1)), (3, .int (nI 0))] [2, 3, 1, 0] rfl ?_
  exact loop_14 (n + 1) 0 (by omega) (by omega) (rfl)

theorem i_kX2_findFirstEndedAfter_X2 : ∀ w ∈ u_ws RX2 TX2 7, w ∈ wsX2_findFirstEndedAfter := by decide +kernel
theorem m_kX2_findFirstEndedAfter_1 : (Cond.fieldLink RX2 9 "LampRacks$Lamps" "size" "I" : Cond) ∈ wsX2_findFirstEndedAfter := by decide +kernel
theorem m_kX2_findFirstEndedAfter_2 : (Cond.fieldLink RX2 31 "LampRacks$Lamps" "end" "[I" : Cond) ∈ wsX2_findFirstEndedAfter := by decide +kernel
set_option maxRecDepth 100000 in
set_option maxHeartbeats 4000000 in
theorem kX2_findFirstEndedAfter (l : Launch) (G : GG) (b : Nat) (q1 : Nat) (q2 : Nat) (q3 : Nat) (q4 : Nat) (q5 : Nat) (q6 : Nat) (n : Nat) (fb : Nat → Int32) (fs : Nat → Int32) (fc : Nat → Int32) (fw : Nat → Int32) (fu : Nat → Int32) (fe : Nat → Int32) (h : Int32) (hn : n ≤ 60) : RO l G yX2_findFirstEndedAfter wsX2_findFirstEndedAfter ({ frames := 0, cells := 0, slots := 0, locals := 0 } : Room) [.ref b, .int h] [(b, .inr (2, [.int (nI n), .ref q1, .ref q2, .ref q3, .ref q4, .ref q5, .ref q6])), (q1, .inl (G.2.1, 60, .inl fb)), (q2, .inl (G.2.1, 60, .inl fs)), (q3, .inl (G.2.1, 60, .inl fc)), (q4, .inl (G.2.1, 60, .inl fw)), (q5, .inl (G.2.1, 60, .inl fu)), (q6, .inl (G.2.1, 60, .inl fe))] (.int (ffa fe h n)) := by
  refine RO.of (cc := cX2_findFirstEndedAfter) (maxL := 4) (ret := (some .int)) (by decide) rfl (Nat.le_of_ble_eq_true rfl) ?_
  intro cx hxl hxG C E
  subst hxl
  subst hxG
  show X cx (0, 0) [(b, .inr (2, [.int (nI n), .ref q1, .ref q2, .ref q3, .ref q4, .ref q5, .ref q6])), (q1, .inl ((xG cx).2.1, 60, .inl fb)), (q2, .inl ((xG cx).2.1, 60, .inl fs)), (q3, .inl ((xG cx).2.1, 60, .inl fc)), (q4, .inl ((xG cx).2.1, 60, .inl fw)), (q5, .inl ((xG cx).2.1, 60, .inl fu)), (q6, .inl ((xG cx).2.1, 60, .inl fe))] [(0, .ref b), (1, .int h)] 0 []
  refine x_iconst (v := (-1)) C dX2_findFirstEndedAfter_0 (by decide) ?_
  refine x_istore_n C [(2, .int (-1)), (0, .ref b), (1, .int h)] dX2_findFirstEndedAfter_1 rfl (by decide) rfl ?_
  refine x_iconst (v := 0) C dX2_findFirstEndedAfter_2 (by decide) ?_
  refine x_istore_n C [(3, .int 0), (2, .int (-1)), (0, .ref b), (1, .int h)] dX2_findFirstEndedAfter_3 rfl (by decide) rfl ?_
  have loop_4 : ∀ (zz : Nat) (i : Nat) (acc : Int32) (hi : i ≤ n) (hz : n + 1 ≤ i + zz) (ea : acc = ffa fe h i) (hF : acc = -1 ∨ ∃ j, j < i ∧ acc = nI j), X cx (0, 0) [(b, .inr (2, [.int (nI n), .ref q1, .ref q2, .ref q3, .ref q4, .ref q5, .ref q6])), (q1, .inl ((xG cx).2.1, 60, .inl fb)), (q2, .inl ((xG cx).2.1, 60, .inl fs)), (q3, .inl ((xG cx).2.1, 60, .inl fc)), (q4, .inl ((xG cx).2.1, 60, .inl fw)), (q5, .inl ((xG cx).2.1, 60, .inl fu)), (q6, .inl ((xG cx).2.1, 60, .inl fe))] [(0, .ref b), (1, .int h), (2, .int acc), (3, .int (nI i))] 4 [] := by
    intro zz
    induction zz with
    | zero =>
      intro i acc hi hz ea hF
      exfalso; omega
    | succ zz ih =>
      intro i acc hi hz ea hF
      refine x_iload_n C 3 dX2_findFirstEndedAfter_4 rfl rfl ?_
      refine x_aload_n C 0 dX2_findFirstEndedAfter_5 rfl rfl ?_
      refine x_getf C 0 rfl rfl i_kX2_findFirstEndedAfter_X2 0 (by decide) m_kX2_findFirstEndedAfter_1 rfl rfl dX2_findFirstEndedAfter_6 ?_
      refine x_icmp_ge C 50 dX2_findFirstEndedAfter_9 (by decide) (fun c_9 => ?_) (fun c_9 => ?_)
      ·
        have n_9 : n ≤ i := (nI_leI (a := n) (b := i) (by omega) (by omega)).mp c_9
        refine x_iload_n C 2 dX2_findFirstEndedAfter_50 rfl rfl ?_
        exact x_iret C E dX2_findFirstEndedAfter_51 (by rw [ea, show i = n from by omega]) (rfl)
      ·
        have n_9 : ¬ (n ≤ i) := fun q => c_9 ((nI_leI (a := n) (b := i) (by omega) (by omega)).mpr q)
        refine x_aload_n C 0 dX2_findFirstEndedAfter_12 rfl rfl ?_
        refine x_getf C 0 rfl rfl i_kX2_findFirstEndedAfter_X2 6 (by decide) m_kX2_findFirstEndedAfter_2 rfl rfl dX2_findFirstEndedAfter_13 ?_
        refine x_iload_n C 3 dX2_findFirstEndedAfter_16 rfl rfl ?_
        refine x_iald C 6 rfl rfl (vp_in_nI (by omega) (by decide)) (congrArg fe (nI_clamp (by omega))) dX2_findFirstEndedAfter_17 ?_
        refine x_iload_n C 1 dX2_findFirstEndedAfter_18 rfl rfl ?_
        refine x_icmp_le C 44 dX2_findFirstEndedAfter_19 (by decide) (fun c_19 => ?_) (fun c_19 => ?_)
        ·
          refine x_iinc C 3 [(3, .int (nI (i + 1))), (0, .ref b), (1, .int h), (2, .int acc)] dX2_findFirstEndedAfter_44 rfl (inc1 i) (by decide) rfl ?_
          refine x_goto (tgt := 4) C dX2_findFirstEndedAfter_47 (by decide) ?_
          refine x_lv [(0, .ref b), (1, .int h), (2, .int acc), (3, .int (nI (i + 1)))] [1, 2, 3, 0] rfl ?_
          exact ih (i + 1) acc (by omega) (by omega) (by rw [ffa_s, ← ea]; exact (if_neg (fun q => absurd q.1 (Int32.not_lt.mpr c_19))).symm) (hF.imp id (fun ⟨j, h1, h2⟩ => ⟨j, by omega, h2⟩))
        ·
          refine x_iload_n C 2 dX2_findFirstEndedAfter_22 rfl rfl ?_
          refine x_iconst (v := (-1)) C dX2_findFirstEndedAfter_23 (by decide) ?_
          refine x_icmp_eq C 42 dX2_findFirstEndedAfter_24 (by decide) (fun c_24 => ?_) (fun c_24 => ?_)
          ·
            refine x_iload_n C 3 dX2_findFirstEndedAfter_42 rfl rfl ?_
            refine x_istore_n C [(2, .int (nI i)), (0, .ref b), (1, .int h), (3, .int (nI i))] dX2_findFirstEndedAfter_43 rfl (by decide) rfl ?_
            refine x_iinc C 3 [(3, .int (nI (i + 1))), (2, .int (nI i)), (0, .ref b), (1, .int h)] dX2_findFirstEndedAfter_44 rfl (inc1 i) (by decide) rfl ?_
            refine x_goto (tgt := 4) C dX2_findFirstEndedAfter_47 (by decide) ?_
            refine x_lv [(0, .ref b), (1, .int h), (2, .int (nI i)), (3, .int (nI (i + 1)))] [2, 3, 1, 0] rfl ?_
            exact ih (i + 1) (nI i) (by omega) (by omega) (by rw [ffa_s, ← ea]; exact (if_pos ⟨Int32.not_le.mp c_19, Or.inl c_24⟩).symm) (Or.inr ⟨i, by omega, rfl⟩)
          ·
            obtain ⟨kj, h_kj, rfl⟩ := hF.resolve_left c_24
            refine x_aload_n C 0 dX2_findFirstEndedAfter_27 rfl rfl ?_
            refine x_getf C 0 rfl rfl i_kX2_findFirstEndedAfter_X2 6 (by decide) m_kX2_findFirstEndedAfter_2 rfl rfl dX2_findFirstEndedAfter_28 ?_
            refine x_iload_n C 3 dX2_findFirstEndedAfter_31 rfl rfl ?_
            refine x_iald C 6 rfl rfl (vp_in_nI (by omega) (by decide)) (congrArg fe (nI_clamp (by omega))) dX2_findFirstEndedAfter_32 ?_
            refine x_aload_n C 0 dX2_findFirstEndedAfter_33 rfl rfl ?_
            refine x_getf C 0 rfl rfl i_kX2_findFirstEndedAfter_X2 6 (by decide) m_kX2_findFirstEndedAfter_2 rfl rfl dX2_findFirstEndedAfter_34 ?_
            refine x_iload_n C 2 dX2_findFirstEndedAfter_37 rfl rfl ?_
            refine x_iald C 6 rfl rfl (vp_in_nI (by omega) (by decide)) (congrArg fe (nI_clamp (by omega))) dX2_findFirstEndedAfter_38 ?_
            refine x_icmp_ge C 44 dX2_findFirstEndedAfter_39 (by decide) (fun c_39 => ?_) (fun c_39 => ?_)
            ·
              refine x_iinc C 3 [(3, .int (nI (i + 1))), (0, .ref b), (1, .int h), (2, .int (nI kj))] dX2_findFirstEndedAfter_44 rfl (inc1 i) (by decide) rfl ?_
              refine x_goto (tgt := 4) C dX2_findFirstEndedAfter_47 (by decide) ?_
              refine x_lv [(0, .ref b), (1, .int h), (2, .int (nI kj)), (3, .int (nI (i + 1)))] [1, 2, 3, 0] rfl ?_
              exact ih (i + 1) (nI kj) (by omega) (by omega) (by rw [ffa_s, ← ea]; exact (if_neg (fun q => q.2.elim c_24 (fun w => absurd (show fe i < fe kj from by rw [show ixz (nI kj) = kj from ix kj (by omega)] at w; exact w) (Int32.not_lt.mpr c_39)))).symm) (Or.inr ⟨kj, by omega, rfl⟩)
            ·
              refine x_iload_n C 3 dX2_findFirstEndedAfter_42 rfl rfl ?_
              refine x_istore_n C [(2, .int (nI i)), (0, .ref b), (1, .int h), (3, .int (nI i))] dX2_findFirstEndedAfter_43 rfl (by decide) rfl ?_
              refine x_iinc C 3 [(3, .int (nI (i + 1))), (2, .int (nI i)), (0, .ref b), (1, .int h)] dX2_findFirstEndedAfter_44 rfl (inc1 i) (by decide) rfl ?_
              refine x_goto (tgt := 4) C dX2_findFirstEndedAfter_47 (by decide) ?_
              refine x_lv [(0, .ref b), (1, .int h), (2, .int (nI i)), (3, .int (nI (i + 1)))] [2, 3, 1, 0] rfl ?_
              exact ih (i + 1) (nI i) (by omega) (by omega) (by rw [ffa_s, ← ea]; exact (if_pos ⟨Int32.not_le.mp c_19, Or.inr (by rw [show ixz (nI kj) = kj from ix kj (by omega)]; exact Int32.not_le.mp c_39)⟩).symm) (Or.inr ⟨i, by omega, rfl⟩)
  refine x_lv [(0, .ref b), (1, .int h), (2, .int (-1)), (3, .int (nI 0))] [2, 3, 1, 0] rfl ?_
  exact loop_4 (n + 1) 0 (-1) (by omega) (by omega) (rfl) (Or.inl rfl)

/-- an hour's wear of the lamp at a place -/
def wrP (S : SC) (r j : Nat) : Int32 := wrH (sWv S) (sDv S) (sA S 9 r) (b2i (nI j ≠ -1 ∧ (3 ≤ nI j - nI j / 8 * 8 ∧ nI j - nI j / 8 * 8 ≤ 4)))
/-- a lamp burns so many hours -/
def bnS (S : SC) (k : Nat) (w h : Int32) : SC := uA (uA S 5 (upd (sA S 5) k (sA S 5 k + h * w))) 6 (upd (sA S 6) k (sA S 6 k + h))
/-- what h hours do at the place p of a rack; how many ended -/
def bPl (q : SC × Int32) (r : Nat) (h hb : Int32) (p : Nat) : SC × Int32 :=
  if sA q.1 8 (r * 8 + p) = -1 ∨ sA q.1 7 (ixz (sA q.1 8 (r * 8 + p))) ≠ -1 then q
  else if hLf (sA q.1 4 (ixz (sA q.1 8 (r * 8 + p)))) (sA q.1 5 (ixz (sA q.1 8 (r * 8 + p)))) (wrP q.1 r (r * 8 + p)) ≤ h then
    (uA (bnS q.1 (ixz (sA q.1 8 (r * 8 + p))) (wrP q.1 r (r * 8 + p)) (mn (hLf (sA q.1 4 (ixz (sA q.1 8 (r * 8 + p)))) (sA q.1 5 (ixz (sA q.1 8 (r * 8 + p)))) (wrP q.1 r (r * 8 + p))) h)) 7
      (upd (sA q.1 7) (ixz (sA q.1 8 (r * 8 + p))) (hb + hLf (sA q.1 4 (ixz (sA q.1 8 (r * 8 + p)))) (sA q.1 5 (ixz (sA q.1 8 (r * 8 + p)))) (wrP q.1 r (r * 8 + p)))), q.2 + 1)
  else (bnS q.1 (ixz (sA q.1 8 (r * 8 + p))) (wrP q.1 r (r * 8 + p)) (mn (hLf (sA q.1 4 (ixz (sA q.1 8 (r * 8 + p)))) (sA q.1 5 (ixz (sA q.1 8 (r * 8 + p)))) (wrP q.1 r (r * 8 + p))) h), q.2)
theorem bPl_same {q : SC × Int32} {r : Nat} {h hb : Int32} {p : Nat} (c : sA q.1 8 (r * 8 + p) = -1 ∨ sA q.1 7 (ixz (sA q.1 8 (r * 8 + p))) ≠ -1) : bPl q r h hb p = q := if_pos c
def bRn (S : SC) (r : Nat) (h hb : Int32) : Nat → SC × Int32
  | 0 => (S, 0)
  | p + 1 => bPl (bRn S r h hb p) r h hb p
theorem bRn_s (S : SC) (r : Nat) (h hb : Int32) (p : Nat) : bRn S r h hb (p + 1) = bPl (bRn S r h hb p) r h hb p := rfl
def burnS (S : SC) (r : Nat) (h hb : Int32) : SC × Int32 := if sA S 9 r = 0 then (S, 0) else bRn S r h hb 8
/-- what burning leaves as it was: all but wear, burned, end -/
def sameB (S T : SC) : Prop := sHr T = sHr S ∧ sWv T = sWv S ∧ sDv T = sDv S ∧ sN T = sN S ∧ ∀ j, j ≠ 5 → j ≠ 6 → j ≠ 7 → sA T j = sA S j
theorem sameB_okS {S T : SC} (h : sameB S T) (hok : okS S) : okS T := by
  obtain ⟨h1, h2, h3, h4, h5⟩ := h
  have e8 := h5 8 (by decide) (by decide) (by decide)
  have e3 := h5 3 (by decide) (by decide) (by decide)
  unfold okS
  rw [h4, e8, e3]
  exact hok
theorem sameB.rf (S : SC) : sameB S S := ⟨rfl, rfl, rfl, rfl, fun _ _ _ _ => rfl⟩
theorem sameB.tr {S T U : SC} (h : sameB S T) (g : sameB T U) : sameB S U := ⟨g.1.trans h.1, g.2.1.trans h.2.1, g.2.2.1.trans h.2.2.1, g.2.2.2.1.trans h.2.2.2.1, fun j a b c => (g.2.2.2.2 j a b c).trans (h.2.2.2.2 j a b c)⟩
theorem sameB_bn (S : SC) (k : Nat) (w h : Int32) : sameB S (bnS S k w h) := ⟨rfl, rfl, rfl, rfl, fun j a b c => by simp [sA, bnS, uA, va_up, a, b]⟩
theorem sameB_u7 (S : SC) (f : Nat → Int32) : sameB S (uA S 7 f) := ⟨rfl, rfl, rfl, rfl, fun j a b c => by simp [sA, uA, va_up, c]⟩
theorem bPl_sameB (q : SC × Int32) (r : Nat) (h hb : Int32) (p : Nat) : sameB q.1 (bPl q r h hb p).1 := by
  unfold bPl
  split
  · exact sameB.rf _
  · split
    · exact (sameB_bn _ _ _ _).tr (sameB_u7 _ _)
    · exact sameB_bn _ _ _ _
theorem bRn_sameB (S : SC) (r : Nat) (h hb : Int32) (p : Nat) : sameB S (bRn S r h hb p).1 := by
  induction p with
  | zero => exact sameB.rf _
  | succ p ih => exact ih.tr (bPl_sameB _ _ _ _ _)
theorem burnS_sameB (S : SC) (r : Nat) (h hb : Int32) : sameB S (burnS S r h hb).1 := by
  unfold burnS
  split
  · exact sameB.rf _
  · exact bRn_sameB _ _ _ _ _

theorem bPl_go {S1 : SC} {acc : Int32} {r p k : Nat} {h hb : Int32} (e : sA S1 8 (r * 8 + p) = nI k) (hk : k < 60) (hd : ¬ sA S1 7 k ≠ -1) (hn : ¬ nI k = -1) (hle : hLf (sA S1 4 k) (sA S1 5 k) (wrP S1 r (r * 8 + p)) ≤ h) :
    bPl (S1, acc) r h hb p = (uA (bnS S1 k (wrP S1 r (r * 8 + p)) (mn (hLf (sA S1 4 k) (sA S1 5 k) (wrP S1 r (r * 8 + p))) h)) 7 (upd (sA S1 7) k (hb + hLf (sA S1 4 k) (sA S1 5 k) (wrP S1 r (r * 8 + p)))), acc + 1) := by
  have hi : ixz (sA S1 8 (r * 8 + p)) = k := by rw [e]; exact ix k (by omega)
  unfold bPl
  simp only [hi]
  rw [if_neg (fun q => q.elim (fun q => hn (e ▸ q)) hd), if_pos hle]
theorem bPl_no {S1 : SC} {acc : Int32} {r p k : Nat} {h hb : Int32} (e : sA S1 8 (r * 8 + p) = nI k) (hk : k < 60) (hd : ¬ sA S1 7 k ≠ -1) (hn : ¬ nI k = -1) (hle : ¬ hLf (sA S1 4 k) (sA S1 5 k) (wrP S1 r (r * 8 + p)) ≤ h) :
    bPl (S1, acc) r h hb p = (bnS S1 k (wrP S1 r (r * 8 + p)) (mn (hLf (sA S1 4 k) (sA S1 5 k) (wrP S1 r (r * 8 + p))) h), acc) := by
  have hi : ixz (sA S1 8 (r * 8 + p)) = k := by rw [e]; exact ix k (by omega)
  unfold bPl
  simp only [hi]
  rw [if_neg (fun q => q.elim (fun q => hn (e ▸ q)) hd), if_neg hle]

theorem i_kX4_burnRack_X4 : ∀ w ∈ u_ws RX4 TX4 6, w ∈ wsX4_burnRack := by decide +kernel
theorem m_kX4_burnRack_1 : (Cond.fieldLink RX4 38 "LampRacks$State" "racks" "LLampRacks$Racks;" : Cond) ∈ wsX4_burnRack := by decide +kernel
theorem m_kX4_burnRack_2 : (Cond.static yX6_spotOf : Cond) ∈ wsX4_burnRack := by decide +kernel
theorem m_kX4_burnRack_3 : (Cond.initialized RX6 : Cond) ∈ wsX4_burnRack := by decide +kernel
theorem i_kX4_burnRack_X3 : ∀ w ∈ u_ws RX3 TX3 5, w ∈ wsX4_burnRack := by decide +kernel
theorem m_kX4_burnRack_5 : (Cond.fieldLink RX4 75 "LampRacks$Racks" "lampAt" "[I" : Cond) ∈ wsX4_burnRack := by decide +kernel
theorem m_kX4_burnRack_6 : (Cond.fieldLink RX4 31 "LampRacks$State" "lamps" "LLampRacks$Lamps;" : Cond) ∈ wsX4_burnRack := by decide +kernel
theorem m_kX4_burnRack_7 : (Cond.fieldLink RX4 101 "LampRacks$Racks" "volts" "[I" : Cond) ∈ wsX4_burnRack := by decide +kernel
theorem m_kX4_burnRack_8 : (Cond.static yX6_isHot : Cond) ∈ wsX4_burnRack := by decide +kernel
theorem m_kX4_burnRack_9 : (Cond.methodLink RX4 158 Lib.Math.min.name : Cond) ∈ wsX4_burnRack := by decide +kernel
theorem m_kX4_burnRack_10 : (Cond.static Lib.Math.min.name : Cond) ∈ wsX4_burnRack := by decide +kernel
theorem m_kX4_burnRack_11 : (Cond.initialized "java/lang/Math" : Cond) ∈ wsX4_burnRack := by decide +kernel
theorem m_kX4_burnRack_12 : (Cond.code Lib.Math.min.name Lib.Math.min.code 2 (some .int) : Cond) ∈ wsX4_burnRack := by decide +kernel
theorem i_kX4_burnRack_X2 : ∀ w ∈ u_ws RX2 TX2 7, w ∈ wsX4_burnRack := by decide +kernel
theorem m_kX4_burnRack_14 : (Cond.fieldLink RX4 165 "LampRacks$Lamps" "end" "[I" : Cond) ∈ wsX4_burnRack := by decide +kernel
set_option maxRecDepth 100000 in
set_option maxHeartbeats 4000000 in
theorem kX4_burnRack (l : Launch) (G : GG) (a : Nat → Nat) (S : SC) (r : Nat) (h : Int32) (hb : Int32) (hok : okS S) (hr : r < 3) : MU l G yX4_burnRack wsX4_burnRack ({ frames := 2, cells := 0, slots := 0, locals := 42 } : Room) [.ref (a 0), .int (nI r), .int h, .int hb] (stW G a S) (some (.int ((burnS S r h hb).2))) (stW G a ((burnS S r h hb).1)) := by
  refine MU.of (cc := cX4_burnRack) (maxL := 10) (ret := (some .int)) (by decide) rfl (Nat.le_of_ble_eq_true rfl) ?_
  intro cx hxl hxG C M E
  subst hxl
  subst hxG
  show X cx (0, 0) [(a 0, .inr (4, [.int (sHr S), .int (sWv S), .int (sDv S), .ref (a 1), .ref (a 2), .ref (a 3)])), (a 1, .inr (0, [.ref (a 4), .ref (a 5)])), (a 2, .inr (2, [.int (nI (sN S)), .ref (a 6), .ref (a 7), .ref (a 8), .ref (a 9), .ref (a 10), .ref (a 11)])), (a 3, .inr (3, [.ref (a 12), .ref (a 13), .ref (a 14), .ref (a 15), .ref (a 16)])), (a 4, .inl ((xG cx).2.1, 6, .inl (sA S 0))), (a 5, .inl ((xG cx).2.1, 6, .inl (sA S 1))), (a 6, .inl ((xG cx).2.1, 60, .inl (sA S 2))), (a 7, .inl ((xG cx).2.1, 60, .inl (sA S 3))), (a 8, .inl ((xG cx).2.1, 60, .inl (sA S 4))), (a 9, .inl ((xG cx).2.1, 60, .inl (sA S 5))), (a 10, .inl ((xG cx).2.1, 60, .inl (sA S 6))), (a 11, .inl ((xG cx).2.1, 60, .inl (sA S 7))), (a 12, .inl ((xG cx).2.1, 24, .inl (sA S 8))), (a 13, .inl ((xG cx).2.1, 3, .inl (sA S 9))), (a 14, .inl ((xG cx).2.1, 3, .inl (sA S 10))), (a 15, .inl ((xG cx).2.1, 3, .inl (sA S 11))), (a 16, .inl ((xG cx).2.1, 3, .inl (sA S 12)))] [(0, .ref (a 0)), (1, .int (nI r)), (2, .int h), (3, .int hb)] 0 []
  refine x_aload_n C 0 dX4_burnRack_0 rfl rfl ?_
  refine x_getf C 0 rfl rfl i_kX4_burnRack_X4 5 (by decide) m_kX4_burnRack_1 rfl rfl dX4_burnRack_1 ?_
  refine x_iload_n C 1 dX4_burnRack_4 rfl rfl ?_
  refine x_callVRO C ([.int (nI r)]) ([]) [3, 12, 13, 14, 15, 16] (k0 := 0) (na := 1) gX4_burnRack_X3_isDark rfl (by decide +kernel) rfl rfl rfl (kX3_isDark (xl cx) (xG cx) (a 3) (a 12) (a 13) (a 14) (a 15) (a 16) (sA S 8) (sA S 9) (sA S 10) (sA S 11) (sA S 12) r (by first | assumption | rfl | omega | decide)) rfl (by decide) rfl rfl rfl ⟨by decide, by decide⟩ (Nat.le_of_ble_eq_true rfl) ⟨by decide, by decide⟩ dX4_burnRack_5 ?_
  refine x_ifb_eq (P := (sA S 9) r = 0) C 13 dX4_burnRack_8 (by decide) (fun c_8 => ?_) (fun c_8 => ?_)
  ·
    refine x_iconst (v := 0) C dX4_burnRack_13 (by decide) ?_
    refine x_istore C [(4, .int 0), (0, .ref (a 0)), (1, .int (nI r)), (2, .int h), (3, .int hb)] dX4_burnRack_14 (by decide) rfl ?_
    refine x_iconst (v := 0) C dX4_burnRack_16 (by decide) ?_
    refine x_istore C [(5, .int 0), (4, .int 0), (0, .ref (a 0)), (1, .int (nI r)), (2, .int h), (3, .int hb)] dX4_burnRack_17 (by decide) rfl ?_
    have loop_19 : ∀ (zz : Nat) (p : Nat) (S1 : SC) (acc : Int32) (hp : p ≤ 8) (hz : 9 ≤ p + zz) (e : bRn S r h hb p = (S1, acc)), X cx (0, 0) [(a 0, .inr (4, [.int (sHr S1), .int (sWv S1), .int (sDv S1), .ref (a 1), .ref (a 2), .ref (a 3)])), (a 1, .inr (0, [.ref (a 4), .ref (a 5)])), (a 2, .inr (2, [.int (nI (sN S1)), .ref (a 6), .ref (a 7), .ref (a 8), .ref (a 9), .ref (a 10), .ref (a 11)])), (a 3, .inr (3, [.ref (a 12), .ref (a 13), .ref (a 14), .ref (a 15), .ref (a 16)])), (a 4, .inl ((xG cx).2.1, 6, .inl (sA S1 0))), (a 5, .inl ((xG cx).2.1, 6, .inl (sA S1 1))), (a 6, .inl ((xG cx).2.1, 60, .inl (sA S1 2))), (a 7, .inl ((xG cx).2.1, 60, .inl (sA S1 3))), (a 8, .inl ((xG cx).2.1, 60, .inl (sA S1 4))), (a 9, .inl ((xG cx).2.1, 60, .inl (sA S1 5))), (a 10, .inl ((xG cx).2.1, 60, .inl (sA S1 6))), (a 11, .inl ((xG cx).2.1, 60, .inl (sA S1 7))), (a 12, .inl ((xG cx).2.1, 24, .inl (sA S1 8))), (a 13, .inl ((xG cx).2.1, 3, .inl (sA S1 9))), (a 14, .inl ((xG cx).2.1, 3, .inl (sA S1 10))), (a 15, .inl ((xG cx).2.1, 3, .inl (sA S1 11))), (a 16, .inl ((xG cx).2.1, 3, .inl (sA S1 12)))] [(0, .ref (a 0)), (1, .int (nI r)), (2, .int h), (3, .int hb), (4, .int acc), (5, .int (nI p))] 19 [] := by
      intro zz
      induction zz with
      | zero =>
        intro p S1 acc hp hz e
        exfalso; omega
      | succ zz ih =>
        intro p S1 acc hp hz e
        refine x_iload C 5 dX4_burnRack_19 rfl ?_
        refine x_bipush (v := 8) C dX4_burnRack_21 (by decide) ?_
        refine x_icmp_ge C 143 dX4_burnRack_23 (by decide) (fun c_23 => ?_) (fun c_23 => ?_)
        ·
          have n_23 : 8 ≤ p := (nI_leI (a := 8) (b := p) (by omega) (by omega)).mp c_23
          refine x_iload C 4 dX4_burnRack_143 rfl ?_
          exact x_iret C E dX4_burnRack_145 (by rw [show burnS S r h hb = (S1, acc) from by rw [burnS, if_neg c_8, ← e, show p = 8 from by omega]]) ((rfl : _ = stW (xG cx) a S1).trans (by rw [show burnS S r h hb = (S1, acc) from by rw [burnS, if_neg c_8, ← e, show p = 8 from by omega]]))
        ·
          have n_23 : ¬ (8 ≤ p) := fun q => c_23 ((nI_leI (a := 8) (b := p) (by omega) (by omega)).mpr q)
          have hok1 : okS S1 := sameB_okS (by have q := bRn_sameB S r h hb p; rw [e] at q; exact q) hok
          have hn := hok1.1
          refine x_iload_n C 1 dX4_burnRack_26 rfl rfl ?_
          refine x_iload C 5 dX4_burnRack_27 rfl ?_
          refine x_callNRO C ([.int (nI r), .int (nI p)]) ([]) [] (na := 2) (host := "LampRacks") gX4_burnRack_X6_spotOf_n71 (by decide +kernel) m_kX4_burnRack_2 m_kX4_burnRack_3 rfl (by decide +kernel) rfl (kX6_spotOf (xl cx) (xG cx) r p) rfl (by decide) rfl rfl rfl ⟨by decide, by decide⟩ (Nat.le_of_ble_eq_true rfl) ⟨by decide, by decide⟩ dX4_burnRack_29 ?_
          refine x_istore C [(6, .int (nI (r * 8 + p))), (0, .ref (a 0)), (1, .int (nI r)), (2, .int h), (3, .int hb), (4, .int acc), (5, .int (nI p))] dX4_burnRack_32 (by decide) rfl ?_
          refine x_aload_n C 1 dX4_burnRack_34 rfl rfl ?_
          refine x_getf C 0 rfl rfl i_kX4_burnRack_X4 5 (by decide) m_kX4_burnRack_1 rfl rfl dX4_burnRack_35 ?_
          refine x_getf C 3 rfl rfl i_kX4_burnRack_X3 0 (by decide) m_kX4_burnRack_5 rfl rfl dX4_burnRack_38 ?_
          refine x_iload C 0 dX4_burnRack_41 rfl ?_
          refine x_iald C 12 rfl rfl (vp_in_nI (by omega) (by decide)) (congrArg (sA S1 8) (nI_clamp (by omega))) dX4_burnRack_43 ?_
          refine x_istore C [(7, .int ((sA S1 8) (r * 8 + p))), (6, .int (nI (r * 8 + p))), (0, .ref (a 0)), (1, .int (nI r)), (2, .int h), (3, .int hb), (4, .int acc), (5, .int (nI p))] dX4_burnRack_44 (by decide) rfl ?_
          refine x_iload C 0 dX4_burnRack_46 rfl ?_
          refine x_iconst (v := (-1)) C dX4_burnRack_48 (by decide) ?_
          refine x_icmp_eq C 137 dX4_burnRack_49 (by decide) (fun c_49 => ?_) (fun c_49 => ?_)
          ·
            refine x_iinc C 7 [(5, .int (nI (p + 1))), (7, .int ((sA S1 8) (r * 8 + p))), (6, .int (nI (r * 8 + p))), (0, .ref (a 0)), (1, .int (nI r)), (2, .int h), (3, .int hb), (4, .int acc)] dX4_burnRack_137 rfl (inc1 p) (by decide) rfl ?_
            refine x_goto (tgt := 19) C dX4_burnRack_140 (by decide) ?_
            refine x_lv [(0, .ref (a 0)), (1, .int (nI r)), (2, .int h), (3, .int hb), (4, .int acc), (5, .int (nI (p + 1)))] [3, 4, 5, 6, 7, 0] rfl ?_
            exact ih (p + 1) S1 acc (by omega) (by omega) (by rw [bRn_s, e]; exact bPl_same (Or.inl c_49))
          ·
            obtain ⟨kl, h_kl, e_kl⟩ := (hok1.la (by omega)).resolve_left c_49
            rw [e_kl]
            rw [e_kl] at c_49
            refine x_aload_n C 2 dX4_burnRack_52 rfl rfl ?_
            refine x_getf C 0 rfl rfl i_kX4_burnRack_X4 4 (by decide) m_kX4_burnRack_6 rfl rfl dX4_burnRack_53 ?_
            refine x_iload C 0 dX4_burnRack_56 rfl ?_
            refine x_callVRO C ([.int (nI kl)]) ([]) [2, 6, 7, 8, 9, 10, 11] (k0 := 0) (na := 1) gX4_burnRack_X2_isDead rfl (by decide +kernel) rfl rfl rfl (kX2_isDead (xl cx) (xG cx) (a 2) (a 6) (a 7) (a 8) (a 9) (a 10) (a 11) (sN S1) (sA S1 2) (sA S1 3) (sA S1 4) (sA S1 5) (sA S1 6) (sA S1 7) kl (by first | assumption | rfl | omega | decide)) rfl (by decide) rfl rfl rfl ⟨by decide, by decide⟩ (Nat.le_of_ble_eq_true rfl) ⟨by decide, by decide⟩ dX4_burnRack_58 ?_
            refine x_ifb_ne (P := (sA S1 7) kl ≠ -1) C 137 dX4_burnRack_61 (by decide) (fun c_61 => ?_) (fun c_61 => ?_)
            ·
              refine x_iinc C 7 [(5, .int (nI (p + 1))), (7, .int (nI kl)), (6, .int (nI (r * 8 + p))), (0, .ref (a 0)), (1, .int (nI r)), (2, .int h), (3, .int hb), (4, .int acc)] dX4_burnRack_137 rfl (inc1 p) (by decide) rfl ?_
              refine x_goto (tgt := 19) C dX4_burnRack_140 (by decide) ?_
              refine x_lv [(0, .ref (a 0)), (1, .int (nI r)), (2, .int h), (3, .int hb), (4, .int acc), (5, .int (nI (p + 1)))] [3, 4, 5, 6, 7, 0] rfl ?_
              exact ih (p + 1) S1 acc (by omega) (by omega) (by rw [bRn_s, e]; exact bPl_same (Or.inr (by show sA S1 7 (ixz (sA S1 8 (r * 8 + p))) ≠ -1; rw [e_kl, show ixz (nI kl) = kl from ix kl (by omega)]; exact c_61)))
            ·
              refine x_aload_n C 2 dX4_burnRack_64 rfl rfl ?_
              refine x_aload_n C 2 dX4_burnRack_65 rfl rfl ?_
              refine x_getf C 0 rfl rfl i_kX4_burnRack_X4 5 (by decide) m_kX4_burnRack_1 rfl rfl dX4_burnRack_66 ?_
              refine x_getf C 3 rfl rfl i_kX4_burnRack_X3 1 (by decide) m_kX4_burnRack_7 rfl rfl dX4_burnRack_69 ?_
              refine x_iload_n C 3 dX4_burnRack_72 rfl rfl ?_
              refine x_iald C 13 rfl rfl (vp_in_nI (by omega) (by decide)) (congrArg (sA S1 9) (nI_clamp (by omega))) dX4_burnRack_73 ?_
              refine x_iload C 1 dX4_burnRack_74 rfl ?_
              refine x_callNRO C ([.int (nI (r * 8 + p))]) ([.int ((sA S1 9) r), .ref (a 0)]) [] (na := 1) (host := "LampRacks") gX4_burnRack_X6_isHot_n148 (by decide +kernel) m_kX4_burnRack_8 m_kX4_burnRack_3 rfl (by decide +kernel) rfl (kX6_isHot (xl cx) (xG cx) (nI (r * 8 + p))) rfl (by decide) rfl rfl rfl ⟨by decide, by decide⟩ (Nat.le_of_ble_eq_true rfl) ⟨by decide, by decide⟩ dX4_burnRack_76 ?_
              refine x_callVRO C ([.int ((sA S1 9) r), .int (b2i ((nI (r * 8 + p)) ≠ -1 ∧ (3 ≤ (nI (r * 8 + p)) - (nI (r * 8 + p)) / 8 * 8 ∧ (nI (r * 8 + p)) - (nI (r * 8 + p)) / 8 * 8 ≤ 4)))]) ([]) [0, 1, 2, 3, 4, 5, 6, 7, 8, 9, 10, 11, 12, 13, 14, 15, 16] (k0 := 0) (na := 2) gX4_burnRack_X4_wearOfHour rfl (by decide +kernel) rfl rfl rfl (kX4_wearOfHour (xl cx) (xG cx) a S1 ((sA S1 9) r) (b2i ((nI (r * 8 + p)) ≠ -1 ∧ (3 ≤ (nI (r * 8 + p)) - (nI (r * 8 + p)) / 8 * 8 ∧ (nI (r * 8 + p)) - (nI (r * 8 + p)) / 8 * 8 ≤ 4)))) rfl (by decide) rfl rfl rfl ⟨by decide, by decide⟩ (Nat.le_of_ble_eq_true rfl) ⟨by decide, by decide⟩ dX4_burnRack_79 ?_
              refine x_top (y := wrP S1 r (r * 8 + p)) (rfl) ?_
              refine x_istore C [(8, .int (wrP S1 r (r * 8 + p))), (7, .int (nI kl)), (6, .int (nI (r * 8 + p))), (0, .ref (a 0)), (1, .int (nI r)), (2, .int h), (3, .int hb), (4, .int acc), (5, .int (nI p))] dX4_burnRack_82 (by decide) rfl ?_
              refine x_aload_n C 3 dX4_burnRack_84 rfl rfl ?_
              refine x_getf C 0 rfl rfl i_kX4_burnRack_X4 4 (by decide) m_kX4_burnRack_6 rfl rfl dX4_burnRack_85 ?_
              refine x_iload C 1 dX4_burnRack_88 rfl ?_
              refine x_iload C 0 dX4_burnRack_90 rfl ?_
              refine x_callVRO C ([.int (nI kl), .int (wrP S1 r (r * 8 + p))]) ([]) [2, 6, 7, 8, 9, 10, 11] (k0 := 0) (na := 2) gX4_burnRack_X2_hoursLeft rfl (by decide +kernel) rfl rfl rfl (kX2_hoursLeft (xl cx) (xG cx) (a 2) (a 6) (a 7) (a 8) (a 9) (a 10) (a 11) (sN S1) (sA S1 2) (sA S1 3) (sA S1 4) (sA S1 5) (sA S1 6) (sA S1 7) kl (wrP S1 r (r * 8 + p)) (by first | assumption | rfl | omega | decide)) rfl (by decide) rfl rfl rfl ⟨by decide, by decide⟩ (Nat.le_of_ble_eq_true rfl) ⟨by decide, by decide⟩ dX4_burnRack_92 ?_
              refine x_top (y := hLf (sA S1 4 kl) (sA S1 5 kl) (wrP S1 r (r * 8 + p))) (rfl) ?_
              refine x_istore C [(9, .int (hLf (sA S1 4 kl) (sA S1 5 kl) (wrP S1 r (r * 8 + p)))), (8, .int (wrP S1 r (r * 8 + p))), (7, .int (nI kl)), (6, .int (nI (r * 8 + p))), (0, .ref (a 0)), (1, .int (nI r)), (2, .int h), (3, .int hb), (4, .int acc), (5, .int (nI p))] dX4_burnRack_95 (by decide) rfl ?_
              refine x_aload_n C 4 dX4_burnRack_97 rfl rfl ?_
              refine x_getf C 0 rfl rfl i_kX4_burnRack_X4 4 (by decide) m_kX4_burnRack_6 rfl rfl dX4_burnRack_98 ?_
              refine x_iload C 2 dX4_burnRack_101 rfl ?_
              refine x_iload C 1 dX4_burnRack_103 rfl ?_
              refine x_iload C 0 dX4_burnRack_105 rfl ?_
              refine x_iload_n C 6 dX4_burnRack_107 rfl rfl ?_
              refine x_mmin C m_kX4_burnRack_9 m_kX4_burnRack_10 m_kX4_burnRack_11 m_kX4_burnRack_12 ⟨by decide, Nat.le_of_ble_eq_true rfl, by decide, by decide⟩ dX4_burnRack_108 ?_
              refine x_top (y := mn (hLf (sA S1 4 kl) (sA S1 5 kl) (wrP S1 r (r * 8 + p))) h) (rfl) ?_
              refine x_callVMU C ([.int (nI kl), .int (wrP S1 r (r * 8 + p)), .int (mn (hLf (sA S1 4 kl) (sA S1 5 kl) (wrP S1 r (r * 8 + p))) h)]) ([]) [2, 6, 7, 8, 9, 10, 11] [(a 0, .inr (4, [.int (sHr S1), .int (sWv S1), .int (sDv S1), .ref (a 1), .ref (a 2), .ref (a 3)])), (a 1, .inr (0, [.ref (a 4), .ref (a 5)])), ((a 2), .inr (2, [.int (nI (sN S1)), .ref (a 6), .ref (a 7), .ref (a 8), .ref (a 9), .ref (a 10), .ref (a 11)])), (a 3, .inr (3, [.ref (a 12), .ref (a 13), .ref (a 14), .ref (a 15), .ref (a 16)])), (a 4, .inl ((xG cx).2.1, 6, .inl (sA S1 0))), (a 5, .inl ((xG cx).2.1, 6, .inl (sA S1 1))), ((a 6), .inl ((xG cx).2.1, 60, .inl (sA S1 2))), ((a 7), .inl ((xG cx).2.1, 60, .inl (sA S1 3))), ((a 8), .inl ((xG cx).2.1, 60, .inl (sA S1 4))), ((a 9), .inl ((xG cx).2.1, 60, .inl (upd (sA S1 5) kl ((sA S1 5) kl + (mn (hLf (sA S1 4 kl) (sA S1 5 kl) (wrP S1 r (r * 8 + p))) h) * (wrP S1 r (r * 8 + p)))))), ((a 10), .inl ((xG cx).2.1, 60, .inl (upd (sA S1 6) kl ((sA S1 6) kl + (mn (hLf (sA S1 4 kl) (sA S1 5 kl) (wrP S1 r (r * 8 + p))) h))))), ((a 11), .inl ((xG cx).2.1, 60, .inl (sA S1 7))), (a 12, .inl ((xG cx).2.1, 24, .inl (sA S1 8))), (a 13, .inl ((xG cx).2.1, 3, .inl (sA S1 9))), (a 14, .inl ((xG cx).2.1, 3, .inl (sA S1 10))), (a 15, .inl ((xG cx).2.1, 3, .inl (sA S1 11))), (a 16, .inl ((xG cx).2.1, 3, .inl (sA S1 12)))] [0, 1, 3, 4, 5, 12, 13, 14, 15, 16] [a 0, a 1, (a 2), a 3, a 4, a 5, (a 6), (a 7), (a 8), (a 9), (a 10), (a 11), a 12, a 13, a 14, a 15, a 16] rfl rfl [(a 0, .inr (4, [.int (sHr S1), .int (sWv S1), .int (sDv S1), .ref (a 1), .ref (a 2), .ref (a 3)])), (a 1, .inr (0, [.ref (a 4), .ref (a 5)])), (a 3, .inr (3, [.ref (a 12), .ref (a 13), .ref (a 14), .ref (a 15), .ref (a 16)])), (a 4, .inl ((xG cx).2.1, 6, .inl (sA S1 0))), (a 5, .inl ((xG cx).2.1, 6, .inl (sA S1 1))), (a 12, .inl ((xG cx).2.1, 24, .inl (sA S1 8))), (a 13, .inl ((xG cx).2.1, 3, .inl (sA S1 9))), (a 14, .inl ((xG cx).2.1, 3, .inl (sA S1 10))), (a 15, .inl ((xG cx).2.1, 3, .inl (sA S1 11))), (a 16, .inl ((xG cx).2.1, 3, .inl (sA S1 12)))] rfl rfl 17 rfl (by decide +kernel) rfl (k0 := 0) (na := 3) gX4_burnRack_X2_burn rfl (by decide +kernel) rfl rfl rfl M (kX2_burn (xl cx) (xG cx) (a 2) (a 6) (a 7) (a 8) (a 9) (a 10) (a 11) (sN S1) (sA S1 2) (sA S1 3) (sA S1 4) (sA S1 5) (sA S1 6) (sA S1 7) kl (wrP S1 r (r * 8 + p)) (mn (hLf (sA S1 4 kl) (sA S1 5 kl) (wrP S1 r (r * 8 + p))) h) (by first | assumption | rfl | omega | decide)) rfl (by decide) rfl rfl rfl ⟨by decide, by decide⟩ (Nat.le_of_ble_eq_true rfl) ⟨by decide, by decide⟩ dX4_burnRack_111 ?_
              refine x_iload C 0 dX4_burnRack_114 rfl ?_
              refine x_iload_n C 6 dX4_burnRack_116 rfl rfl ?_
              refine x_icmp_gt C 137 dX4_burnRack_117 (by decide) (fun c_117 => ?_) (fun c_117 => ?_)
              ·
                refine x_iinc C 9 [(5, .int (nI (p + 1))), (9, .int (hLf (sA S1 4 kl) (sA S1 5 kl) (wrP S1 r (r * 8 + p)))), (8, .int (wrP S1 r (r * 8 + p))), (7, .int (nI kl)), (6, .int (nI (r * 8 + p))), (0, .ref (a 0)), (1, .int (nI r)), (2, .int h), (3, .int hb), (4, .int acc)] dX4_burnRack_137 rfl (inc1 p) (by decide) rfl ?_
                refine x_goto (tgt := 19) C dX4_burnRack_140 (by decide) ?_
                refine x_ws [(a 0, .inr (4, [.int (sHr (bnS S1 kl (wrP S1 r (r * 8 + p)) (mn (hLf (sA S1 4 kl) (sA S1 5 kl) (wrP S1 r (r * 8 + p))) h))), .int (sWv (bnS S1 kl (wrP S1 r (r * 8 + p)) (mn (hLf (sA S1 4 kl) (sA S1 5 kl) (wrP S1 r (r * 8 + p))) h))), .int (sDv (bnS S1 kl (wrP S1 r (r * 8 + p)) (mn (hLf (sA S1 4 kl) (sA S1 5 kl) (wrP S1 r (r * 8 + p))) h))), .ref (a 1), .ref (a 2), .ref (a 3)])), (a 1, .inr (0, [.ref (a 4), .ref (a 5)])), ((a 2), .inr (2, [.int (nI (sN (bnS S1 kl (wrP S1 r (r * 8 + p)) (mn (hLf (sA S1 4 kl) (sA S1 5 kl) (wrP S1 r (r * 8 + p))) h)))), .ref (a 6), .ref (a 7), .ref (a 8), .ref (a 9), .ref (a 10), .ref (a 11)])), (a 3, .inr (3, [.ref (a 12), .ref (a 13), .ref (a 14), .ref (a 15), .ref (a 16)])), (a 4, .inl ((xG cx).2.1, 6, .inl (sA (bnS S1 kl (wrP S1 r (r * 8 + p)) (mn (hLf (sA S1 4 kl) (sA S1 5 kl) (wrP S1 r (r * 8 + p))) h)) 0))), (a 5, .inl ((xG cx).2.1, 6, .inl (sA (bnS S1 kl (wrP S1 r (r * 8 + p)) (mn (hLf (sA S1 4 kl) (sA S1 5 kl) (wrP S1 r (r * 8 + p))) h)) 1))), ((a 6), .inl ((xG cx).2.1, 60, .inl (sA (bnS S1 kl (wrP S1 r (r * 8 + p)) (mn (hLf (sA S1 4 kl) (sA S1 5 kl) (wrP S1 r (r * 8 + p))) h)) 2))), ((a 7), .inl ((xG cx).2.1, 60, .inl (sA (bnS S1 kl (wrP S1 r (r * 8 + p)) (mn (hLf (sA S1 4 kl) (sA S1 5 kl) (wrP S1 r (r * 8 + p))) h)) 3))), ((a 8), .inl ((xG cx).2.1, 60, .inl (sA (bnS S1 kl (wrP S1 r (r * 8 + p)) (mn (hLf (sA S1 4 kl) (sA S1 5 kl) (wrP S1 r (r * 8 + p))) h)) 4))), ((a 9), .inl ((xG cx).2.1, 60, .inl (sA (bnS S1 kl (wrP S1 r (r * 8 + p)) (mn (hLf (sA S1 4 kl) (sA S1 5 kl) (wrP S1 r (r * 8 + p))) h)) 5))), ((a 10), .inl ((xG cx).2.1, 60, .inl (sA (bnS S1 kl (wrP S1 r (r * 8 + p)) (mn (hLf (sA S1 4 kl) (sA S1 5 kl) (wrP S1 r (r * 8 + p))) h)) 6))), ((a 11), .inl ((xG cx).2.1, 60, .inl (sA (bnS S1 kl (wrP S1 r (r * 8 + p)) (mn (hLf (sA S1 4 kl) (sA S1 5 kl) (wrP S1 r (r * 8 + p))) h)) 7))), (a 12, .inl ((xG cx).2.1, 24, .inl (sA (bnS S1 kl (wrP S1 r (r * 8 + p)) (mn (hLf (sA S1 4 kl) (sA S1 5 kl) (wrP S1 r (r * 8 + p))) h)) 8))), (a 13, .inl ((xG cx).2.1, 3, .inl (sA (bnS S1 kl (wrP S1 r (r * 8 + p)) (mn (hLf (sA S1 4 kl) (sA S1 5 kl) (wrP S1 r (r * 8 + p))) h)) 9))), (a 14, .inl ((xG cx).2.1, 3, .inl (sA (bnS S1 kl (wrP S1 r (r * 8 + p)) (mn (hLf (sA S1 4 kl) (sA S1 5 kl) (wrP S1 r (r * 8 + p))) h)) 10))), (a 15, .inl ((xG cx).2.1, 3, .inl (sA (bnS S1 kl (wrP S1 r (r * 8 + p)) (mn (hLf (sA S1 4 kl) (sA S1 5 kl) (wrP S1 r (r * 8 + p))) h)) 11))), (a 16, .inl ((xG cx).2.1, 3, .inl (sA (bnS S1 kl (wrP S1 r (r * 8 + p)) (mn (hLf (sA S1 4 kl) (sA S1 5 kl) (wrP S1 r (r * 8 + p))) h)) 12)))] (rfl) ?_
                refine x_lv [(0, .ref (a 0)), (1, .int (nI r)), (2, .int h), (3, .int hb), (4, .int acc), (5, .int (nI (p + 1)))] [5, 6, 7, 8, 9, 0] rfl ?_
                exact ih (p + 1) (bnS S1 kl (wrP S1 r (r * 8 + p)) (mn (hLf (sA S1 4 kl) (sA S1 5 kl) (wrP S1 r (r * 8 + p))) h)) acc (by omega) (by omega) (by rw [bRn_s, e]; exact bPl_no e_kl (by omega) c_61 c_49 (Int32.not_le.mpr c_117))
              ·
                refine x_aload_n C 4 dX4_burnRack_120 rfl rfl ?_
                refine x_getf C 0 rfl rfl i_kX4_burnRack_X4 4 (by decide) m_kX4_burnRack_6 rfl rfl dX4_burnRack_121 ?_
                refine x_getf C 2 rfl rfl i_kX4_burnRack_X2 6 (by decide) m_kX4_burnRack_14 rfl rfl dX4_burnRack_124 ?_
                refine x_iload C 2 dX4_burnRack_127 rfl ?_
                refine x_iload_n C 7 dX4_burnRack_129 rfl rfl ?_
                refine x_iload C 0 dX4_burnRack_130 rfl ?_
                refine x_iadd C (rfl) dX4_burnRack_132 ?_
                refine x_iast C M 11 rfl rfl (vp_in_nI (by omega) (by decide)) (nI_clamp (by omega)) [(a 0, .inr (4, [.int (sHr S1), .int (sWv S1), .int (sDv S1), .ref (a 1), .ref (a 2), .ref (a 3)])), (a 1, .inr (0, [.ref (a 4), .ref (a 5)])), ((a 2), .inr (2, [.int (nI (sN S1)), .ref (a 6), .ref (a 7), .ref (a 8), .ref (a 9), .ref (a 10), .ref (a 11)])), (a 3, .inr (3, [.ref (a 12), .ref (a 13), .ref (a 14), .ref (a 15), .ref (a 16)])), (a 4, .inl ((xG cx).2.1, 6, .inl (sA S1 0))), (a 5, .inl ((xG cx).2.1, 6, .inl (sA S1 1))), ((a 6), .inl ((xG cx).2.1, 60, .inl (sA S1 2))), ((a 7), .inl ((xG cx).2.1, 60, .inl (sA S1 3))), ((a 8), .inl ((xG cx).2.1, 60, .inl (sA S1 4))), ((a 9), .inl ((xG cx).2.1, 60, .inl (upd (sA S1 5) kl ((sA S1 5) kl + (mn (hLf (sA S1 4 kl) (sA S1 5 kl) (wrP S1 r (r * 8 + p))) h) * (wrP S1 r (r * 8 + p)))))), ((a 10), .inl ((xG cx).2.1, 60, .inl (upd (sA S1 6) kl ((sA S1 6) kl + (mn (hLf (sA S1 4 kl) (sA S1 5 kl) (wrP S1 r (r * 8 + p))) h))))), ((a 11), .inl ((xG cx).2.1, 60, .inl (upd (sA S1 7) kl (hb + (hLf (sA S1 4 kl) (sA S1 5 kl) (wrP S1 r (r * 8 + p))))))), (a 12, .inl ((xG cx).2.1, 24, .inl (sA S1 8))), (a 13, .inl ((xG cx).2.1, 3, .inl (sA S1 9))), (a 14, .inl ((xG cx).2.1, 3, .inl (sA S1 10))), (a 15, .inl ((xG cx).2.1, 3, .inl (sA S1 11))), (a 16, .inl ((xG cx).2.1, 3, .inl (sA S1 12)))] rfl dX4_burnRack_133 ?_
                refine x_iinc C 8 [(4, .int (acc + 1)), (9, .int (hLf (sA S1 4 kl) (sA S1 5 kl) (wrP S1 r (r * 8 + p)))), (8, .int (wrP S1 r (r * 8 + p))), (7, .int (nI kl)), (6, .int (nI (r * 8 + p))), (0, .ref (a 0)), (1, .int (nI r)), (2, .int h), (3, .int hb), (5, .int (nI p))] dX4_burnRack_134 rfl (rfl) (by decide) rfl ?_
                refine x_iinc C 9 [(5, .int (nI (p + 1))), (4, .int (acc + 1)), (9, .int (hLf (sA S1 4 kl) (sA S1 5 kl) (wrP S1 r (r * 8 + p)))), (8, .int (wrP S1 r (r * 8 + p))), (7, .int (nI kl)), (6, .int (nI (r * 8 + p))), (0, .ref (a 0)), (1, .int (nI r)), (2, .int h), (3, .int hb)] dX4_burnRack_137 rfl (inc1 p) (by decide) rfl ?_
                refine x_goto (tgt := 19) C dX4_burnRack_140 (by decide) ?_
                refine x_ws [(a 0, .inr (4, [.int (sHr (uA (bnS S1 kl (wrP S1 r (r * 8 + p)) (mn (hLf (sA S1 4 kl) (sA S1 5 kl) (wrP S1 r (r * 8 + p))) h)) 7 (upd (sA S1 7) kl (hb + hLf (sA S1 4 kl) (sA S1 5 kl) (wrP S1 r (r * 8 + p)))))), .int (sWv (uA (bnS S1 kl (wrP S1 r (r * 8 + p)) (mn (hLf (sA S1 4 kl) (sA S1 5 kl) (wrP S1 r (r * 8 + p))) h)) 7 (upd (sA S1 7) kl (hb + hLf (sA S1 4 kl) (sA S1 5 kl) (wrP S1 r (r * 8 + p)))))), .int (sDv (uA (bnS S1 kl (wrP S1 r (r * 8 + p)) (mn (hLf (sA S1 4 kl) (sA S1 5 kl) (wrP S1 r (r * 8 + p))) h)) 7 (upd (sA S1 7) kl (hb + hLf (sA S1 4 kl) (sA S1 5 kl) (wrP S1 r (r * 8 + p)))))), .ref (a 1), .ref (a 2), .ref (a 3)])), (a 1, .inr (0, [.ref (a 4), .ref (a 5)])), ((a 2), .inr (2, [.int (nI (sN (uA (bnS S1 kl (wrP S1 r (r * 8 + p)) (mn (hLf (sA S1 4 kl) (sA S1 5 kl) (wrP S1 r (r * 8 + p))) h)) 7 (upd (sA S1 7) kl (hb + hLf (sA S1 4 kl) (sA S1 5 kl) (wrP S1 r (r * 8 + p))))))), .ref (a 6), .ref (a 7), .ref (a 8), .ref (a 9), .ref (a 10), .ref (a 11)])), (a 3, .inr (3, [.ref (a 12), .ref (a 13), .ref (a 14), .ref (a 15), .ref (a 16)])), (a 4, .inl ((xG cx).2.1, 6, .inl (sA (uA (bnS S1 kl (wrP S1 r (r * 8 + p)) (mn (hLf (sA S1 4 kl) (sA S1 5 kl) (wrP S1 r (r * 8 + p))) h)) 7 (upd (sA S1 7) kl (hb + hLf (sA S1 4 kl) (sA S1 5 kl) (wrP S1 r (r * 8 + p))))) 0))), (a 5, .inl ((xG cx).2.1, 6, .inl (sA (uA (bnS S1 kl (wrP S1 r (r * 8 + p)) (mn (hLf (sA S1 4 kl) (sA S1 5 kl) (wrP S1 r (r * 8 + p))) h)) 7 (upd (sA S1 7) kl (hb + hLf (sA S1 4 kl) (sA S1 5 kl) (wrP S1 r (r * 8 + p))))) 1))), ((a 6), .inl ((xG cx).2.1, 60, .inl (sA (uA (bnS S1 kl (wrP S1 r (r * 8 + p)) (mn (hLf (sA S1 4 kl) (sA S1 5 kl) (wrP S1 r (r * 8 + p))) h)) 7 (upd (sA S1 7) kl (hb + hLf (sA S1 4 kl) (sA S1 5 kl) (wrP S1 r (r * 8 + p))))) 2))), ((a 7), .inl ((xG cx).2.1, 60, .inl (sA (uA (bnS S1 kl (wrP S1 r (r * 8 + p)) (mn (hLf (sA S1 4 kl) (sA S1 5 kl) (wrP S1 r (r * 8 + p))) h)) 7 (upd (sA S1 7) kl (hb + hLf (sA S1 4 kl) (sA S1 5 kl) (wrP S1 r (r * 8 + p))))) 3))), ((a 8), .inl ((xG cx).2.1, 60, .inl (sA (uA (bnS S1 kl (wrP S1 r (r * 8 + p)) (mn (hLf (sA S1 4 kl) (sA S1 5 kl) (wrP S1 r (r * 8 + p))) h)) 7 (upd (sA S1 7) kl (hb + hLf (sA S1 4 kl) (sA S1 5 kl) (wrP S1 r (r * 8 + p))))) 4))), ((a 9), .inl ((xG cx).2.1, 60, .inl (sA (uA (bnS S1 kl (wrP S1 r (r * 8 + p)) (mn (hLf (sA S1 4 kl) (sA S1 5 kl) (wrP S1 r (r * 8 + p))) h)) 7 (upd (sA S1 7) kl (hb + hLf (sA S1 4 kl) (sA S1 5 kl) (wrP S1 r (r * 8 + p))))) 5))), ((a 10), .inl ((xG cx).2.1, 60, .inl (sA (uA (bnS S1 kl (wrP S1 r (r * 8 + p)) (mn (hLf (sA S1 4 kl) (sA S1 5 kl) (wrP S1 r (r * 8 + p))) h)) 7 (upd (sA S1 7) kl (hb + hLf (sA S1 4 kl) (sA S1 5 kl) (wrP S1 r (r * 8 + p))))) 6))), ((a 11), .inl ((xG cx).2.1, 60, .inl (sA (uA (bnS S1 kl (wrP S1 r (r * 8 + p)) (mn (hLf (sA S1 4 kl) (sA S1 5 kl) (wrP S1 r (r * 8 + p))) h)) 7 (upd (sA S1 7) kl (hb + hLf (sA S1 4 kl) (sA S1 5 kl) (wrP S1 r (r * 8 + p))))) 7))), (a 12, .inl ((xG cx).2.1, 24, .inl (sA (uA (bnS S1 kl (wrP S1 r (r * 8 + p)) (mn (hLf (sA S1 4 kl) (sA S1 5 kl) (wrP S1 r (r * 8 + p))) h)) 7 (upd (sA S1 7) kl (hb + hLf (sA S1 4 kl) (sA S1 5 kl) (wrP S1 r (r * 8 + p))))) 8))), (a 13, .inl ((xG cx).2.1, 3, .inl (sA (uA (bnS S1 kl (wrP S1 r (r * 8 + p)) (mn (hLf (sA S1 4 kl) (sA S1 5 kl) (wrP S1 r (r * 8 + p))) h)) 7 (upd (sA S1 7) kl (hb + hLf (sA S1 4 kl) (sA S1 5 kl) (wrP S1 r (r * 8 + p))))) 9))), (a 14, .inl ((xG cx).2.1, 3, .inl (sA (uA (bnS S1 kl (wrP S1 r (r * 8 + p)) (mn (hLf (sA S1 4 kl) (sA S1 5 kl) (wrP S1 r (r * 8 + p))) h)) 7 (upd (sA S1 7) kl (hb + hLf (sA S1 4 kl) (sA S1 5 kl) (wrP S1 r (r * 8 + p))))) 10))), (a 15, .inl ((xG cx).2.1, 3, .inl (sA (uA (bnS S1 kl (wrP S1 r (r * 8 + p)) (mn (hLf (sA S1 4 kl) (sA S1 5 kl) (wrP S1 r (r * 8 + p))) h)) 7 (upd (sA S1 7) kl (hb + hLf (sA S1 4 kl) (sA S1 5 kl) (wrP S1 r (r * 8 + p))))) 11))), (a 16, .inl ((xG cx).2.1, 3, .inl (sA (uA (bnS S1 kl (wrP S1 r (r * 8 + p)) (mn (hLf (sA S1 4 kl) (sA S1 5 kl) (wrP S1 r (r * 8 + p))) h)) 7 (upd (sA S1 7) kl (hb + hLf (sA S1 4 kl) (sA S1 5 kl) (wrP S1 r (r * 8 + p))))) 12)))] (rfl) ?_
                refine x_lv [(0, .ref (a 0)), (1, .int (nI r)), (2, .int h), (3, .int hb), (4, .int (acc + 1)), (5, .int (nI (p + 1)))] [6, 7, 8, 9, 1, 0] rfl ?_
                exact ih (p + 1) (uA (bnS S1 kl (wrP S1 r (r * 8 + p)) (mn (hLf (sA S1 4 kl) (sA S1 5 kl) (wrP S1 r (r * 8 + p))) h)) 7 (upd (sA S1 7) kl (hb + hLf (sA S1 4 kl) (sA S1 5 kl) (wrP S1 r (r * 8 + p))))) (acc + 1) (by omega) (by omega) (by rw [bRn_s, e]; exact bPl_go e_kl (by omega) c_61 c_49 (Int32.not_lt.mp c_117))
    refine x_lv [(0, .ref (a 0)), (1, .int (nI r)), (2, .int h), (3, .int hb), (4, .int 0), (5, .int (nI 0))] [2, 3, 4, 5, 1, 0] rfl ?_
    exact loop_19 (9) 0 S 0 (by omega) (by omega) (rfl)
  ·
    refine x_iconst (v := 0) C dX4_burnRack_11 (by decide) ?_
    exact x_iret C E dX4_burnRack_12 (by simp [burnS, c_8]) ((rfl : _ = stW (xG cx) a S).trans (by rw [show burnS S r h hb = (S, 0) from by simp [burnS, c_8]]))
