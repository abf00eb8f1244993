def lnR (z : Nat → Int32) (n : Nat) (r fl : Int32) : Int32 := cnt (fun j => zl z j 1 = r ∧ (fl ≠ 0 ∨ ¬ zl z j 6 ≠ -1005)) n
def l0R (z : Nat → Int32) (n : Nat) (x h : Int32) : Int32 := cnt (fun j => zl z j 0 = x) n
def l1R (z : Nat → Int32) (n : Nat) (x h : Int32) : Int32 := cnt (fun j => zl z j 0 = x ∧ zl z j 6 ≠ -1005) n
def l2R (z : Nat → Int32) (n : Nat) (x h : Int32) : Int32 := cnt (fun j => zl z j 0 = x ∧ (zl z j 6 ≠ -1005 ∧ zl z j 4 / 10 < h)) n
def l3R (z : Nat → Int32) (n : Nat) (x h : Int32) : Int32 := cnt (fun j => zl z j 0 = x ∧ h ≤ zl z j 4 / 10) n
def ddR (z : Nat → Int32) (n : Nat) : Int32 := cnt (fun j => zl z j 6 ≠ -1005) n
def bnR (z : Nat → Int32) (n : Nat) : Int32 := cnt (fun j => brnB z j = true) n
def smR (z : Nat → Int32) (n w : Nat) : Int32 := sm (fun k => zl z k w) n
/-- a loop's number that is kept or changed -/
def mdR (z : Nat → Int32) (x all : Int32) (n : Nat) : Nat → Int32
  | 0 => -1005
  | i + 1 => if ((zl z i 0 = x ∧ zl z i 6 ≠ -1005) ∧ all ≤ 2 * l2R z n x (zl z i 4 / 10 + 1)) ∧ (mdR z x all n i = -1005 ∨ zl z i 4 / 10 < mdR z x all n i) then zl z i 4 / 10 else mdR z x all n i
theorem mdR_s (z : Nat → Int32) (x all : Int32) (n i : Nat) : mdR z x all n (i + 1) = if ((zl z i 0 = x ∧ zl z i 6 ≠ -1005) ∧ all ≤ 2 * l2R z n x (zl z i 4 / 10 + 1)) ∧ (mdR z x all n i = -1005 ∨ zl z i 4 / 10 < mdR z x all n i) then zl z i 4 / 10 else mdR z x all n i := rfl
def edR (z : Nat → Int32) (x : Int32) (n : Nat) : Nat → Int32
  | 0 => -1005
  | i + 1 => if zl z i 6 ≠ -1005 ∧ cnt (fun o => zl z o 6 ≠ -1005 ∧ (zl z o 6 < zl z i 6 ∨ (zl z o 6 = zl z i 6 ∧ o < i))) n = x then nI i else edR z x n i
theorem edR_s (z : Nat → Int32) (x : Int32) (n i : Nat) : edR z x n (i + 1) = if zl z i 6 ≠ -1005 ∧ cnt (fun o => zl z o 6 ≠ -1005 ∧ (zl z o 6 < zl z i 6 ∨ (zl z o 6 = zl z i 6 ∧ o < i))) n = x then nI i else edR z x n i := rfl
/-- the first of all with that end: from the last down -/
def feR (z : Nat → Int32) (h : Int32) (n : Nat) : Nat → Int32
  | 0 => -1005
  | d + 1 => if zl z (n - (d + 1)) 6 = h then nI (n - (d + 1)) else feR z h n d
theorem feR_s (z : Nat → Int32) (h : Int32) (n d : Nat) : feR z h n (d + 1) = if zl z (n - (d + 1)) 6 = h then nI (n - (d + 1)) else feR z h n d := rfl

set_option maxRecDepth 100000 in
set_option maxHeartbeats 4000000 in
theorem kX7_counts (l : Launch) (G : GG) (m : Nat) (w1 : Nat) (w2 : Nat) (w3 : Nat) (w4 : Nat) (w5 : Nat) (w6 : Nat) (ns : Nat) (ln : Nat) (tm : Nat) (sp : Nat) (ik : Int32) (e1 : Int32) (e2 : Int32) (z : Nat → Int32) (k : Nat) (hk : k < 60) : RO l G yX7_counts wsX7_counts ({ frames := 1, cells := 0, slots := 0, locals := 22 } : Room) [.ref m, .int (nI k)] [(m, .inr (7, [.ref w1, .ref w2, .ref w3, .int (nI ns), .ref w4, .int ik, .ref w5, .int (nI ln), .int e1, .int e2, .ref w6, .int (nI tm), .int (nI sp)])), (w1, .inl (G.2.1, 508, .inl z))] (.int (zl z k 4 / 10)) := by
  refine RO.of (cc := cX7_counts) (maxL := 2) (ret := (some .int)) (by decide) rfl (Nat.le_of_ble_eq_true rfl) ?_
  intro cx hxl hxG C E
  subst hxl
  subst hxG
  show X cx (0, 0) [(m, .inr (7, [.ref w1, .ref w2, .ref w3, .int (nI ns), .ref w4, .int ik, .ref w5, .int (nI ln), .int e1, .int e2, .ref w6, .int (nI tm), .int (nI sp)])), (w1, .inl ((xG cx).2.1, 508, .inl z))] [(0, .ref m), (1, .int (nI k))] 0 []
  refine x_aload_n C 0 dX7_counts_0 rfl rfl ?_
  refine x_iload_n C 1 dX7_counts_1 rfl rfl ?_
  refine x_iconst (v := 4) C dX7_counts_2 (by decide) ?_
  refine x_callVRO C ([.int (nI k), .int 4]) ([]) [0, 1] (k0 := 0) (na := 2) gX7_counts_X7_of rfl (by decide +kernel) rfl rfl rfl (kX7_of (xl cx) (xG cx) m w1 w2 w3 w4 w5 w6 ns ln tm sp ik e1 e2 z k 4 (by first | assumption | rfl | omega | decide) (by first | assumption | rfl | omega | decide)) rfl (by decide) rfl rfl rfl ⟨by decide, by decide⟩ (Nat.le_of_ble_eq_true rfl) ⟨by decide, by decide⟩ dX7_counts_3 ?_
  refine x_bipush (v := 10) C dX7_counts_6 (by decide) ?_
  refine x_idiv C (rfl) dX7_counts_8 (by decide) ?_
  exact x_iret C E dX7_counts_9 (rfl) (rfl)

theorem i_kX7_lampsIn_X7 : ∀ w ∈ u_ws RX7 TX7 13, w ∈ wsX7_lampsIn := by decide +kernel
theorem m_kX7_lampsIn_1 : (Cond.fieldLink RX7 7 "LampRacksModel" "z" "[I" : Cond) ∈ wsX7_lampsIn := by decide +kernel
set_option maxRecDepth 100000 in
set_option maxHeartbeats 4000000 in
theorem kX7_lampsIn (l : Launch) (G : GG) (m : Nat) (w1 : Nat) (w2 : Nat) (w3 : Nat) (w4 : Nat) (w5 : Nat) (w6 : Nat) (ns : Nat) (ln : Nat) (tm : Nat) (sp : Nat) (ik : Int32) (e1 : Int32) (e2 : Int32) (z : Nat → Int32) (n : Nat) (r : Int32) (fl : Int32) (hn : n ≤ 60) (hz3 : z 3 = nI n) : RO l G yX7_lampsIn wsX7_lampsIn ({ frames := 2, cells := 0, slots := 0, locals := 43 } : Room) [.ref m, .int r, .int fl] [(m, .inr (7, [.ref w1, .ref w2, .ref w3, .int (nI ns), .ref w4, .int ik, .ref w5, .int (nI ln), .int e1, .int e2, .ref w6, .int (nI tm), .int (nI sp)])), (w1, .inl (G.2.1, 508, .inl z))] (.int (lnR z n r fl)) := by
  refine RO.of (cc := cX7_lampsIn) (maxL := 5) (ret := (some .int)) (by decide) rfl (Nat.le_of_ble_eq_true rfl) ?_
  intro cx hxl hxG C E
  subst hxl
  subst hxG
  show X cx (0, 0) [(m, .inr (7, [.ref w1, .ref w2, .ref w3, .int (nI ns), .ref w4, .int ik, .ref w5, .int (nI ln), .int e1, .int e2, .ref w6, .int (nI tm), .int (nI sp)])), (w1, .inl ((xG cx).2.1, 508, .inl z))] [(0, .ref m), (1, .int r), (2, .int fl)] 0 []
  refine x_iconst (v := 0) C dX7_lampsIn_0 (by decide) ?_
  refine x_istore_n C [(3, .int 0), (0, .ref m), (1, .int r), (2, .int fl)] dX7_lampsIn_1 rfl (by decide) rfl ?_
  refine x_iconst (v := 0) C dX7_lampsIn_2 (by decide) ?_
  refine x_istore C [(4, .int 0), (3, .int 0), (0, .ref m), (1, .int r), (2, .int fl)] dX7_lampsIn_3 (by decide) rfl ?_
  have loop_5 : ∀ (zz : Nat) (i : Nat) (acc : Int32) (hi : i ≤ n) (hz : n + 1 ≤ i + zz) (ea : acc = (cnt (fun j => zl z j 1 = r ∧ (fl ≠ 0 ∨ ¬ zl z j 6 ≠ -1005))) i), X cx (0, 0) [(m, .inr (7, [.ref w1, .ref w2, .ref w3, .int (nI ns), .ref w4, .int ik, .ref w5, .int (nI ln), .int e1, .int e2, .ref w6, .int (nI tm), .int (nI sp)])), (w1, .inl ((xG cx).2.1, 508, .inl z))] [(0, .ref m), (1, .int r), (2, .int fl), (3, .int acc), (4, .int (nI i))] 5 [] := by
    intro zz
    induction zz with
    | zero =>
      intro i acc hi hz ea
      exfalso; omega
    | succ zz ih =>
      intro i acc hi hz ea
      refine x_iload C 4 dX7_lampsIn_5 rfl ?_
      refine x_aload_n C 0 dX7_lampsIn_7 rfl rfl ?_
      refine x_getf C 0 rfl rfl i_kX7_lampsIn_X7 0 (by decide) m_kX7_lampsIn_1 rfl rfl dX7_lampsIn_8 ?_
      refine x_iconst (v := 3) C dX7_lampsIn_11 (by decide) ?_
      refine x_iald C 1 rfl rfl (vp_in_nI (n := 3) (by decide) (by decide)) ((congrArg z (nI_clamp (n := 3) (by decide))).trans hz3) dX7_lampsIn_12 ?_
      refine x_icmp_ge C 54 dX7_lampsIn_13 (by decide) (fun c_13 => ?_) (fun c_13 => ?_)
      ·
        have n_13 : n ≤ i := (nI_leI (a := n) (b := i) (by omega) (by omega)).mp c_13
        refine x_iload_n C 3 dX7_lampsIn_54 rfl rfl ?_
        exact x_iret C E dX7_lampsIn_55 (by rw [ea, show i = n from by omega]; rfl) (rfl)
      ·
        have n_13 : ¬ (n ≤ i) := fun q => c_13 ((nI_leI (a := n) (b := i) (by omega) (by omega)).mpr q)
        refine x_iload_n C 3 dX7_lampsIn_16 rfl rfl ?_
        refine x_aload_n C 0 dX7_lampsIn_17 rfl rfl ?_
        refine x_iload C 4 dX7_lampsIn_18 rfl ?_
        refine x_iconst (v := 1) C dX7_lampsIn_20 (by decide) ?_
        refine x_callVRO C ([.int (nI i), .int 1]) ([.int acc]) [0, 1] (k0 := 0) (na := 2) gX7_lampsIn_X7_of rfl (by decide +kernel) rfl rfl rfl (kX7_of (xl cx) (xG cx) m w1 w2 w3 w4 w5 w6 ns ln tm sp ik e1 e2 z i 1 (by first | assumption | rfl | omega | decide) (by first | assumption | rfl | omega | decide)) rfl (by decide) rfl rfl rfl ⟨by decide, by decide⟩ (Nat.le_of_ble_eq_true rfl) ⟨by decide, by decide⟩ dX7_lampsIn_21 ?_
        refine x_iload_n C 1 dX7_lampsIn_24 rfl rfl ?_
        have join_46 : ∀ (v0 : Int32) (hv0 : v0 = b2i (zl z i 1 = r ∧ (fl ≠ 0 ∨ ¬ zl z i 6 ≠ -1005))), X cx (0, 0) [(m, .inr (7, [.ref w1, .ref w2, .ref w3, .int (nI ns), .ref w4, .int ik, .ref w5, .int (nI ln), .int e1, .int e2, .ref w6, .int (nI tm), .int (nI sp)])), (w1, .inl ((xG cx).2.1, 508, .inl z))] [(0, .ref m), (1, .int r), (2, .int fl), (3, .int acc), (4, .int (nI i))] 46 [.int v0, .int acc] := by
          intro v0 hv0
          subst hv0
          refine x_iadd C (rfl) dX7_lampsIn_46 ?_
          refine x_istore_n C [(3, .int (acc + (b2i (zl z i 1 = r ∧ (fl ≠ 0 ∨ ¬ zl z i 6 ≠ -1005))))), (0, .ref m), (1, .int r), (2, .int fl), (4, .int (nI i))] dX7_lampsIn_47 rfl (by decide) rfl ?_
          refine x_iinc C 4 [(4, .int (nI (i + 1))), (3, .int (acc + (b2i (zl z i 1 = r ∧ (fl ≠ 0 ∨ ¬ zl z i 6 ≠ -1005))))), (0, .ref m), (1, .int r), (2, .int fl)] dX7_lampsIn_48 rfl (inc1 i) (by decide) rfl ?_
          refine x_goto (tgt := 5) C dX7_lampsIn_51 (by decide) ?_
          refine x_lv [(0, .ref m), (1, .int r), (2, .int fl), (3, .int (acc + (b2i (zl z i 1 = r ∧ (fl ≠ 0 ∨ ¬ zl z i 6 ≠ -1005))))), (4, .int (nI (i + 1)))] [2, 3, 4, 1, 0] rfl ?_
          exact ih (i + 1) (acc + (b2i (zl z i 1 = r ∧ (fl ≠ 0 ∨ ¬ zl z i 6 ≠ -1005)))) (by omega) (by omega) (by rw [ea]; rfl)
        refine x_icmp_ne C 45 dX7_lampsIn_25 (by decide) (fun c_25 => ?_) (fun c_25 => ?_)
        ·
          refine x_iconst (v := 0) C dX7_lampsIn_45 (by decide) ?_
          exact join_46 _ (by first | rfl | (symm; first | (apply b2i_t; grind) | (apply b2i_f; grind)) | grind)
        ·
          refine x_iload_n C 2 dX7_lampsIn_28 rfl rfl ?_
          refine x_if_ne C 41 dX7_lampsIn_29 (by decide) (fun c_29 => ?_) (fun c_29 => ?_)
          ·
            refine x_iconst (v := 1) C dX7_lampsIn_41 (by decide) ?_
            refine x_goto (tgt := 46) C dX7_lampsIn_42 (by decide) ?_
            exact join_46 _ (by first | rfl | (symm; first | (apply b2i_t; grind) | (apply b2i_f; grind)) | grind)
          ·
            refine x_aload_n C 0 dX7_lampsIn_32 rfl rfl ?_
            refine x_iload C 4 dX7_lampsIn_33 rfl ?_
            refine x_callVRO C ([.int (nI i)]) ([.int acc]) [0, 1] (k0 := 0) (na := 1) gX7_lampsIn_X7_isDead rfl (by decide +kernel) rfl rfl rfl (kX7_isDead (xl cx) (xG cx) m w1 w2 w3 w4 w5 w6 ns ln tm sp ik e1 e2 z i (by first | assumption | rfl | omega | decide)) rfl (by decide) rfl rfl rfl ⟨by decide, by decide⟩ (Nat.le_of_ble_eq_true rfl) ⟨by decide, by decide⟩ dX7_lampsIn_35 ?_
            refine x_ifb_ne (P := zl z i 6 ≠ -1005) C 45 dX7_lampsIn_38 (by decide) (fun c_38 => ?_) (fun c_38 => ?_)
            ·
              refine x_iconst (v := 0) C dX7_lampsIn_45 (by decide) ?_
              exact join_46 _ (by first | rfl | (symm; first | (apply b2i_t; grind) | (apply b2i_f; grind)) | grind)
            ·
              refine x_iconst (v := 1) C dX7_lampsIn_41 (by decide) ?_
              refine x_goto (tgt := 46) C dX7_lampsIn_42 (by decide) ?_
              exact join_46 _ (by first | rfl | (symm; first | (apply b2i_t; grind) | (apply b2i_f; grind)) | grind)
  refine x_lv [(0, .ref m), (1, .int r), (2, .int fl), (3, .int 0), (4, .int (nI 0))] [2, 3, 4, 1, 0] rfl ?_
  exact loop_5 (n + 1) 0 0 (by omega) (by omega) (rfl)

theorem i_kX7_lampsOf_0_X7 : ∀ w ∈ u_ws RX7 TX7 13, w ∈ wsX7_lampsOf := by decide +kernel
theorem m_kX7_lampsOf_0_1 : (Cond.fieldLink RX7 7 "LampRacksModel" "z" "[I" : Cond) ∈ wsX7_lampsOf := by decide +kernel
set_option maxRecDepth 100000 in
set_option maxHeartbeats 4000000 in
theorem kX7_lampsOf_0 (l : Launch) (G : GG) (m : Nat) (w1 : Nat) (w2 : Nat) (w3 : Nat) (w4 : Nat) (w5 : Nat) (w6 : Nat) (ns : Nat) (ln : Nat) (tm : Nat) (sp : Nat) (ik : Int32) (e1 : Int32) (e2 : Int32) (z : Nat → Int32) (n : Nat) (x : Int32) (h : Int32) (hn : n ≤ 60) (hz3 : z 3 = nI n) : RO l G yX7_lampsOf wsX7_lampsOf ({ frames := 1, cells := 0, slots := 0, locals := 22 } : Room) [.ref m, .int x, .int 0, .int h] [(m, .inr (7, [.ref w1, .ref w2, .ref w3, .int (nI ns), .ref w4, .int ik, .ref w5, .int (nI ln), .int e1, .int e2, .ref w6, .int (nI tm), .int (nI sp)])), (w1, .inl (G.2.1, 508, .inl z))] (.int (l0R z n x h)) := by
  refine RO.of (cc := cX7_lampsOf) (maxL := 7) (ret := (some .int)) (by decide) rfl (Nat.le_of_ble_eq_true rfl) ?_
  intro cx hxl hxG C E
  subst hxl
  subst hxG
  show X cx (0, 0) [(m, .inr (7, [.ref w1, .ref w2, .ref w3, .int (nI ns), .ref w4, .int ik, .ref w5, .int (nI ln), .int e1, .int e2, .ref w6, .int (nI tm), .int (nI sp)])), (w1, .inl ((xG cx).2.1, 508, .inl z))] [(0, .ref m), (1, .int x), (2, .int 0), (3, .int h)] 0 []
  refine x_iconst (v := 0) C dX7_lampsOf_0 (by decide) ?_
  refine x_istore C [(4, .int 0), (0, .ref m), (1, .int x), (2, .int 0), (3, .int h)] dX7_lampsOf_1 (by decide) rfl ?_
  refine x_iconst (v := 0) C dX7_lampsOf_3 (by decide) ?_
  refine x_istore C [(5, .int 0), (4, .int 0), (0, .ref m), (1, .int x), (2, .int 0), (3, .int h)] dX7_lampsOf_4 (by decide) rfl ?_
  have loop_6 : ∀ (zz : Nat) (i : Nat) (acc : Int32) (hi : i ≤ n) (hz : n + 1 ≤ i + zz) (ea : acc = (cnt (fun j => zl z j 0 = x)) i), X cx (0, 0) [(m, .inr (7, [.ref w1, .ref w2, .ref w3, .int (nI ns), .ref w4, .int ik, .ref w5, .int (nI ln), .int e1, .int e2, .ref w6, .int (nI tm), .int (nI sp)])), (w1, .inl ((xG cx).2.1, 508, .inl z))] [(0, .ref m), (1, .int x), (2, .int 0), (3, .int h), (4, .int acc), (5, .int (nI i))] 6 [] := by
    intro zz
    induction zz with
    | zero =>
      intro i acc hi hz ea
      exfalso; omega
    | succ zz ih =>
      intro i acc hi hz ea
      refine x_iload C 5 dX7_lampsOf_6 rfl ?_
      refine x_aload_n C 0 dX7_lampsOf_8 rfl rfl ?_
      refine x_getf C 0 rfl rfl i_kX7_lampsOf_0_X7 0 (by decide) m_kX7_lampsOf_0_1 rfl rfl dX7_lampsOf_9 ?_
      refine x_iconst (v := 3) C dX7_lampsOf_12 (by decide) ?_
      refine x_iald C 1 rfl rfl (vp_in_nI (n := 3) (by decide) (by decide)) ((congrArg z (nI_clamp (n := 3) (by decide))).trans hz3) dX7_lampsOf_13 ?_
      refine x_icmp_ge C 113 dX7_lampsOf_14 (by decide) (fun c_14 => ?_) (fun c_14 => ?_)
      ·
        have n_14 : n ≤ i := (nI_leI (a := n) (b := i) (by omega) (by omega)).mp c_14
        refine x_iload C 4 dX7_lampsOf_113 rfl ?_
        exact x_iret C E dX7_lampsOf_115 (by rw [ea, show i = n from by omega]; rfl) (rfl)
      ·
        have n_14 : ¬ (n ≤ i) := fun q => c_14 ((nI_leI (a := n) (b := i) (by omega) (by omega)).mpr q)
        refine x_iload_n C 2 dX7_lampsOf_17 rfl rfl ?_
        refine x_if_eq C 74 dX7_lampsOf_18 (by decide) (fun _ => ?_) (fun h => absurd h (by decide))
        refine x_iconst (v := 1) C dX7_lampsOf_74 (by decide) ?_
        refine x_goto (tgt := 79) C dX7_lampsOf_75 (by decide) ?_
        refine x_istore C [(6, .int 1), (0, .ref m), (1, .int x), (2, .int 0), (3, .int h), (4, .int acc), (5, .int (nI i))] dX7_lampsOf_79 (by decide) rfl ?_
        refine x_iload C 5 dX7_lampsOf_81 rfl ?_
        refine x_aload_n C 1 dX7_lampsOf_83 rfl rfl ?_
        refine x_iload C 6 dX7_lampsOf_84 rfl ?_
        refine x_iconst (v := 0) C dX7_lampsOf_86 (by decide) ?_
        refine x_callVRO C ([.int (nI i), .int 0]) ([.int acc]) [0, 1] (k0 := 0) (na := 2) gX7_lampsOf_X7_of rfl (by decide +kernel) rfl rfl rfl (kX7_of (xl cx) (xG cx) m w1 w2 w3 w4 w5 w6 ns ln tm sp ik e1 e2 z i 0 (by first | assumption | rfl | omega | decide) (by first | assumption | rfl | omega | decide)) rfl (by decide) rfl rfl rfl ⟨by decide, by decide⟩ (Nat.le_of_ble_eq_true rfl) ⟨by decide, by decide⟩ dX7_lampsOf_87 ?_
        refine x_iload_n C 2 dX7_lampsOf_90 rfl rfl ?_
        have join_104 : ∀ (v0 : Int32) (hv0 : v0 = b2i (zl z i 0 = x)), X cx (0, 0) [(m, .inr (7, [.ref w1, .ref w2, .ref w3, .int (nI ns), .ref w4, .int ik, .ref w5, .int (nI ln), .int e1, .int e2, .ref w6, .int (nI tm), .int (nI sp)])), (w1, .inl ((xG cx).2.1, 508, .inl z))] [(6, .int 1), (0, .ref m), (1, .int x), (2, .int 0), (3, .int h), (4, .int acc), (5, .int (nI i))] 104 [.int v0, .int acc] := by
          intro v0 hv0
          subst hv0
          refine x_iadd C (rfl) dX7_lampsOf_104 ?_
          refine x_istore C [(4, .int (acc + (b2i (zl z i 0 = x)))), (6, .int 1), (0, .ref m), (1, .int x), (2, .int 0), (3, .int h), (5, .int (nI i))] dX7_lampsOf_105 (by decide) rfl ?_
          refine x_iinc C 6 [(5, .int (nI (i + 1))), (4, .int (acc + (b2i (zl z i 0 = x)))), (6, .int 1), (0, .ref m), (1, .int x), (2, .int 0), (3, .int h)] dX7_lampsOf_107 rfl (inc1 i) (by decide) rfl ?_
          refine x_goto (tgt := 6) C dX7_lampsOf_110 (by decide) ?_
          refine x_lv [(0, .ref m), (1, .int x), (2, .int 0), (3, .int h), (4, .int (acc + (b2i (zl z i 0 = x)))), (5, .int (nI (i + 1)))] [3, 4, 5, 6, 1, 0] rfl ?_
          exact ih (i + 1) (acc + (b2i (zl z i 0 = x))) (by omega) (by omega) (by rw [ea]; rfl)
        refine x_icmp_ne C 103 dX7_lampsOf_91 (by decide) (fun c_91 => ?_) (fun c_91 => ?_)
        ·
          refine x_iconst (v := 0) C dX7_lampsOf_103 (by decide) ?_
          exact join_104 _ (by first | rfl | (symm; first | (apply b2i_t; grind) | (apply b2i_f; grind)) | grind)
        ·
          refine x_iload C 0 dX7_lampsOf_94 rfl ?_
          refine x_if_eq C 103 dX7_lampsOf_96 (by decide) (fun h => absurd h (by decide)) (fun _ => ?_)
          refine x_iconst (v := 1) C dX7_lampsOf_99 (by decide) ?_
          refine x_goto (tgt := 104) C dX7_lampsOf_100 (by decide) ?_
          exact join_104 _ (by first | rfl | (symm; first | (apply b2i_t; grind) | (apply b2i_f; grind)) | grind)
  refine x_lv [(0, .ref m), (1, .int x), (2, .int 0), (3, .int h), (4, .int 0), (5, .int (nI 0))] [2, 3, 4, 5, 1, 0] rfl ?_
  exact loop_6 (n + 1) 0 0 (by omega) (by omega) (rfl)

theorem i_kX7_lampsOf_1_X7 : ∀ w ∈ u_ws RX7 TX7 13, w ∈ wsX7_lampsOf := by decide +kernel
theorem m_kX7_lampsOf_1_1 : (Cond.fieldLink RX7 7 "LampRacksModel" "z" "[I" : Cond) ∈ wsX7_lampsOf := by decide +kernel
set_option maxRecDepth 100000 in
set_option maxHeartbeats 4000000 in
theorem kX7_lampsOf_1 (l : Launch) (G : GG) (m : Nat) (w1 : Nat) (w2 : Nat) (w3 : Nat) (w4 : Nat) (w5 : Nat) (w6 : Nat) (ns : Nat) (ln : Nat) (tm : Nat) (sp : Nat) (ik : Int32) (e1 : Int32) (e2 : Int32) (z : Nat → Int32) (n : Nat) (x : Int32) (h : Int32) (hn : n ≤ 60) (hz3 : z 3 = nI n) : RO l G yX7_lampsOf wsX7_lampsOf ({ frames := 2, cells := 0, slots := 0, locals := 43 } : Room) [.ref m, .int x, .int 1, .int h] [(m, .inr (7, [.ref w1, .ref w2, .ref w3, .int (nI ns), .ref w4, .int ik, .ref w5, .int (nI ln), .int e1, .int e2, .ref w6, .int (nI tm), .int (nI sp)])), (w1, .inl (G.2.1, 508, .inl z))] (.int (l1R z n x h)) := by
  refine RO.of (cc := cX7_lampsOf) (maxL := 7) (ret := (some .int)) (by decide) rfl (Nat.le_of_ble_eq_true rfl) ?_
  intro cx hxl hxG C E
  subst hxl
  subst hxG
  show X cx (0, 0) [(m, .inr (7, [.ref w1, .ref w2, .ref w3, .int (nI ns), .ref w4, .int ik, .ref w5, .int (nI ln), .int e1, .int e2, .ref w6, .int (nI tm), .int (nI sp)])), (w1, .inl ((xG cx).2.1, 508, .inl z))] [(0, .ref m), (1, .int x), (2, .int 1), (3, .int h)] 0 []
  refine x_iconst (v := 0) C dX7_lampsOf_0 (by decide) ?_
  refine x_istore C [(4, .int 0), (0, .ref m), (1, .int x), (2, .int 1), (3, .int h)] dX7_lampsOf_1 (by decide) rfl ?_
  refine x_iconst (v := 0) C dX7_lampsOf_3 (by decide) ?_
  refine x_istore C [(5, .int 0), (4, .int 0), (0, .ref m), (1, .int x), (2, .int 1), (3, .int h)] dX7_lampsOf_4 (by decide) rfl ?_
  have loop_6 : ∀ (zz : Nat) (i : Nat) (acc : Int32) (hi : i ≤ n) (hz : n + 1 ≤ i + zz) (ea : acc = (cnt (fun j => zl z j 0 = x ∧ zl z j 6 ≠ -1005)) i), X cx (0, 0) [(m, .inr (7, [.ref w1, .ref w2, .ref w3, .int (nI ns), .ref w4, .int ik, .ref w5, .int (nI ln), .int e1, .int e2, .ref w6, .int (nI tm), .int (nI sp)])), (w1, .inl ((xG cx).2.1, 508, .inl z))] [(0, .ref m), (1, .int x), (2, .int 1), (3, .int h), (4, .int acc), (5, .int (nI i))] 6 [] := by
    intro zz
    induction zz with
    | zero =>
      intro i acc hi hz ea
      exfalso; omega
    | succ zz ih =>
      intro i acc hi hz ea
      refine x_iload C 5 dX7_lampsOf_6 rfl ?_
      refine x_aload_n C 0 dX7_lampsOf_8 rfl rfl ?_
      refine x_getf C 0 rfl rfl i_kX7_lampsOf_1_X7 0 (by decide) m_kX7_lampsOf_1_1 rfl rfl dX7_lampsOf_9 ?_
      refine x_iconst (v := 3) C dX7_lampsOf_12 (by decide) ?_
      refine x_iald C 1 rfl rfl (vp_in_nI (n := 3) (by decide) (by decide)) ((congrArg z (nI_clamp (n := 3) (by decide))).trans hz3) dX7_lampsOf_13 ?_
      refine x_icmp_ge C 113 dX7_lampsOf_14 (by decide) (fun c_14 => ?_) (fun c_14 => ?_)
      ·
        have n_14 : n ≤ i := (nI_leI (a := n) (b := i) (by omega) (by omega)).mp c_14
        refine x_iload C 4 dX7_lampsOf_113 rfl ?_
        exact x_iret C E dX7_lampsOf_115 (by rw [ea, show i = n from by omega]; rfl) (rfl)
      ·
        have n_14 : ¬ (n ≤ i) := fun q => c_14 ((nI_leI (a := n) (b := i) (by omega) (by omega)).mpr q)
        refine x_iload_n C 2 dX7_lampsOf_17 rfl rfl ?_
        refine x_if_eq C 74 dX7_lampsOf_18 (by decide) (fun h => absurd h (by decide)) (fun _ => ?_)
        refine x_iload_n C 2 dX7_lampsOf_21 rfl rfl ?_
        refine x_iconst (v := 1) C dX7_lampsOf_22 (by decide) ?_
        refine x_icmp_ne C 35 dX7_lampsOf_23 (by decide) (fun h => absurd h (by decide)) (fun _ => ?_)
        refine x_aload_n C 0 dX7_lampsOf_26 rfl rfl ?_
        refine x_iload C 5 dX7_lampsOf_27 rfl ?_
        refine x_callVRO C ([.int (nI i)]) ([]) [0, 1] (k0 := 0) (na := 1) gX7_lampsOf_X7_isDead rfl (by decide +kernel) rfl rfl rfl (kX7_isDead (xl cx) (xG cx) m w1 w2 w3 w4 w5 w6 ns ln tm sp ik e1 e2 z i (by first | assumption | rfl | omega | decide)) rfl (by decide) rfl rfl rfl ⟨by decide, by decide⟩ (Nat.le_of_ble_eq_true rfl) ⟨by decide, by decide⟩ dX7_lampsOf_29 ?_
        have join_79 : ∀ (v0 : Int32) (hv0 : v0 = b2i (zl z i 6 ≠ -1005)), X cx (0, 0) [(m, .inr (7, [.ref w1, .ref w2, .ref w3, .int (nI ns), .ref w4, .int ik, .ref w5, .int (nI ln), .int e1, .int e2, .ref w6, .int (nI tm), .int (nI sp)])), (w1, .inl ((xG cx).2.1, 508, .inl z))] [(0, .ref m), (1, .int x), (2, .int 1), (3, .int h), (4, .int acc), (5, .int (nI i))] 79 [.int v0] := by
          intro v0 hv0
          subst hv0
          refine x_istore C [(6, .int (b2i (zl z i 6 ≠ -1005))), (0, .ref m), (1, .int x), (2, .int 1), (3, .int h), (4, .int acc), (5, .int (nI i))] dX7_lampsOf_79 (by decide) rfl ?_
          refine x_iload C 5 dX7_lampsOf_81 rfl ?_
          refine x_aload_n C 1 dX7_lampsOf_83 rfl rfl ?_
          refine x_iload C 6 dX7_lampsOf_84 rfl ?_
          refine x_iconst (v := 0) C dX7_lampsOf_86 (by decide) ?_
          refine x_callVRO C ([.int (nI i), .int 0]) ([.int acc]) [0, 1] (k0 := 0) (na := 2) gX7_lampsOf_X7_of rfl (by decide +kernel) rfl rfl rfl (kX7_of (xl cx) (xG cx) m w1 w2 w3 w4 w5 w6 ns ln tm sp ik e1 e2 z i 0 (by first | assumption | rfl | omega | decide) (by first | assumption | rfl | omega | decide)) rfl (by decide) rfl rfl rfl ⟨by decide, by decide⟩ (Nat.le_of_ble_eq_true rfl) ⟨by decide, by decide⟩ dX7_lampsOf_87 ?_
          refine x_iload_n C 2 dX7_lampsOf_90 rfl rfl ?_
          have join_104 : ∀ (v0 : Int32) (hv0 : v0 = b2i (zl z i 0 = x ∧ zl z i 6 ≠ -1005)), X cx (0, 0) [(m, .inr (7, [.ref w1, .ref w2, .ref w3, .int (nI ns), .ref w4, .int ik, .ref w5, .int (nI ln), .int e1, .int e2, .ref w6, .int (nI tm), .int (nI sp)])), (w1, .inl ((xG cx).2.1, 508, .inl z))] [(6, .int (b2i (zl z i 6 ≠ -1005))), (0, .ref m), (1, .int x), (2, .int 1), (3, .int h), (4, .int acc), (5, .int (nI i))] 104 [.int v0, .int acc] := by
            intro v0 hv0
            subst hv0
            refine x_iadd C (rfl) dX7_lampsOf_104 ?_
            refine x_istore C [(4, .int (acc + (b2i (zl z i 0 = x ∧ zl z i 6 ≠ -1005)))), (6, .int (b2i (zl z i 6 ≠ -1005))), (0, .ref m), (1, .int x), (2, .int 1), (3, .int h), (5, .int (nI i))] dX7_lampsOf_105 (by decide) rfl ?_
            refine x_iinc C 6 [(5, .int (nI (i + 1))), (4, .int (acc + (b2i (zl z i 0 = x ∧ zl z i 6 ≠ -1005)))), (6, .int (b2i (zl z i 6 ≠ -1005))), (0, .ref m), (1, .int x), (2, .int 1), (3, .int h)] dX7_lampsOf_107 rfl (inc1 i) (by decide) rfl ?_
            refine x_goto (tgt := 6) C dX7_lampsOf_110 (by decide) ?_
            refine x_lv [(0, .ref m), (1, .int x), (2, .int 1), (3, .int h), (4, .int (acc + (b2i (zl z i 0 = x ∧ zl z i 6 ≠ -1005)))), (5, .int (nI (i + 1)))] [3, 4, 5, 6, 1, 0] rfl ?_
            exact ih (i + 1) (acc + (b2i (zl z i 0 = x ∧ zl z i 6 ≠ -1005))) (by omega) (by omega) (by rw [ea]; rfl)
          refine x_icmp_ne C 103 dX7_lampsOf_91 (by decide) (fun c_91 => ?_) (fun c_91 => ?_)
          ·
            refine x_iconst (v := 0) C dX7_lampsOf_103 (by decide) ?_
            exact join_104 _ (by first | rfl | (symm; first | (apply b2i_t; grind) | (apply b2i_f; grind)) | grind)
          ·
            refine x_iload C 0 dX7_lampsOf_94 rfl ?_
            refine x_ifb_eq (P := zl z i 6 ≠ -1005) C 103 dX7_lampsOf_96 (by decide) (fun c_96 => ?_) (fun c_96 => ?_)
            ·
              refine x_iconst (v := 0) C dX7_lampsOf_103 (by decide) ?_
              exact join_104 _ (by first | rfl | (symm; first | (apply b2i_t; grind) | (apply b2i_f; grind)) | grind)
            ·
              refine x_iconst (v := 1) C dX7_lampsOf_99 (by decide) ?_
              refine x_goto (tgt := 104) C dX7_lampsOf_100 (by decide) ?_
              exact join_104 _ (by first | rfl | (symm; first | (apply b2i_t; grind) | (apply b2i_f; grind)) | grind)
        refine x_ifb_ne (P := zl z i 6 ≠ -1005) C 74 dX7_lampsOf_32 (by decide) (fun c_32 => ?_) (fun c_32 => ?_)
        ·
          refine x_iconst (v := 1) C dX7_lampsOf_74 (by decide) ?_
          refine x_goto (tgt := 79) C dX7_lampsOf_75 (by decide) ?_
          exact join_79 _ (by first | rfl | (symm; first | (apply b2i_t; grind) | (apply b2i_f; grind)) | grind)
        ·
          refine x_iload_n C 2 dX7_lampsOf_35 rfl rfl ?_
          refine x_iconst (v := 2) C dX7_lampsOf_36 (by decide) ?_
          refine x_icmp_ne C 59 dX7_lampsOf_37 (by decide) (fun _ => ?_) (fun h => absurd h (by decide))
          refine x_iload_n C 2 dX7_lampsOf_59 rfl rfl ?_
          refine x_iconst (v := 3) C dX7_lampsOf_60 (by decide) ?_
          refine x_icmp_ne C 78 dX7_lampsOf_61 (by decide) (fun _ => ?_) (fun h => absurd h (by decide))
          refine x_iconst (v := 0) C dX7_lampsOf_78 (by decide) ?_
          exact join_79 _ (by first | rfl | (symm; first | (apply b2i_t; grind) | (apply b2i_f; grind)) | grind)
  refine x_lv [(0, .ref m), (1, .int x), (2, .int 1), (3, .int h), (4, .int 0), (5, .int (nI 0))] [2, 3, 4, 5, 1, 0] rfl ?_
  exact loop_6 (n + 1) 0 0 (by omega) (by omega) (rfl)

theorem i_kX7_lampsOf_2_X7 : ∀ w ∈ u_ws RX7 TX7 13, w ∈ wsX7_lampsOf := by decide +kernel
theorem m_kX7_lampsOf_2_1 : (Cond.fieldLink RX7 7 "LampRacksModel" "z" "[I" : Cond) ∈ wsX7_lampsOf := by decide +kernel
set_option maxRecDepth 100000 in
set_option maxHeartbeats 4000000 in
theorem kX7_lampsOf_2 (l : Launch) (G : GG) (m : Nat) (w1 : Nat) (w2 : Nat) (w3 : Nat) (w4 : Nat) (w5 : Nat) (w6 : Nat) (ns : Nat) (ln : Nat) (tm : Nat) (sp : Nat) (ik : Int32) (e1 : Int32) (e2 : Int32) (z : Nat → Int32) (n : Nat) (x : Int32) (h : Int32) (hn : n ≤ 60) (hz3 : z 3 = nI n) : RO l G yX7_lampsOf wsX7_lampsOf ({ frames := 2, cells := 0, slots := 0, locals := 43 } : Room) [.ref m, .int x, .int 2, .int h] [(m, .inr (7, [.ref w1, .ref w2, .ref w3, .int (nI ns), .ref w4, .int ik, .ref w5, .int (nI ln), .int e1, .int e2, .ref w6, .int (nI tm), .int (nI sp)])), (w1, .inl (G.2.1, 508, .inl z))] (.int (l2R z n x h)) := by
  refine RO.of (cc := cX7_lampsOf) (maxL := 7) (ret := (some .int)) (by decide) rfl (Nat.le_of_ble_eq_true rfl) ?_
  intro cx hxl hxG C E
  subst hxl
  subst hxG
  show X cx (0, 0) [(m, .inr (7, [.ref w1, .ref w2, .ref w3, .int (nI ns), .ref w4, .int ik, .ref w5, .int (nI ln), .int e1, .int e2, .ref w6, .int (nI tm), .int (nI sp)])), (w1, .inl ((xG cx).2.1, 508, .inl z))] [(0, .ref m), (1, .int x), (2, .int 2), (3, .int h)] 0 []
  refine x_iconst (v := 0) C dX7_lampsOf_0 (by decide) ?_
  refine x_istore C [(4, .int 0), (0, .ref m), (1, .int x), (2, .int 2), (3, .int h)] dX7_lampsOf_1 (by decide) rfl ?_
  refine x_iconst (v := 0) C dX7_lampsOf_3 (by decide) ?_
  refine x_istore C [(5, .int 0), (4, .int 0), (0, .ref m), (1, .int x), (2, .int 2), (3, .int h)] dX7_lampsOf_4 (by decide) rfl ?_
  have loop_6 : ∀ (zz : Nat) (i : Nat) (acc : Int32) (hi : i ≤ n) (hz : n + 1 ≤ i + zz) (ea : acc = (cnt (fun j => zl z j 0 = x ∧ (zl z j 6 ≠ -1005 ∧ zl z j 4 / 10 < h))) i), X cx (0, 0) [(m, .inr (7, [.ref w1, .ref w2, .ref w3, .int (nI ns), .ref w4, .int ik, .ref w5, .int (nI ln), .int e1, .int e2, .ref w6, .int (nI tm), .int (nI sp)])), (w1, .inl ((xG cx).2.1, 508, .inl z))] [(0, .ref m), (1, .int x), (2, .int 2), (3, .int h), (4, .int acc), (5, .int (nI i))] 6 [] := by
    intro zz
    induction zz with
    | zero =>
      intro i acc hi hz ea
      exfalso; omega
    | succ zz ih =>
      intro i acc hi hz ea
      refine x_iload C 5 dX7_lampsOf_6 rfl ?_
      refine x_aload_n C 0 dX7_lampsOf_8 rfl rfl ?_
      refine x_getf C 0 rfl rfl i_kX7_lampsOf_2_X7 0 (by decide) m_kX7_lampsOf_2_1 rfl rfl dX7_lampsOf_9 ?_
      refine x_iconst (v := 3) C dX7_lampsOf_12 (by decide) ?_
      refine x_iald C 1 rfl rfl (vp_in_nI (n := 3) (by decide) (by decide)) ((congrArg z (nI_clamp (n := 3) (by decide))).trans hz3) dX7_lampsOf_13 ?_
      refine x_icmp_ge C 113 dX7_lampsOf_14 (by decide) (fun c_14 => ?_) (fun c_14 => ?_)
      ·
        have n_14 : n ≤ i := (nI_leI (a := n) (b := i) (by omega) (by omega)).mp c_14
        refine x_iload C 4 dX7_lampsOf_113 rfl ?_
        exact x_iret C E dX7_lampsOf_115 (by rw [ea, show i = n from by omega]; rfl) (rfl)
      ·
        have n_14 : ¬ (n ≤ i) := fun q => c_14 ((nI_leI (a := n) (b := i) (by omega) (by omega)).mpr q)
        refine x_iload_n C 2 dX7_lampsOf_17 rfl rfl ?_
        refine x_if_eq C 74 dX7_lampsOf_18 (by decide) (fun h => absurd h (by decide)) (fun _ => ?_)
        refine x_iload_n C 2 dX7_lampsOf_21 rfl rfl ?_
        refine x_iconst (v := 1) C dX7_lampsOf_22 (by decide) ?_
        refine x_icmp_ne C 35 dX7_lampsOf_23 (by decide) (fun _ => ?_) (fun h => absurd h (by decide))
        refine x_iload_n C 2 dX7_lampsOf_35 rfl rfl ?_
        refine x_iconst (v := 2) C dX7_lampsOf_36 (by decide) ?_
        refine x_icmp_ne C 59 dX7_lampsOf_37 (by decide) (fun h => absurd h (by decide)) (fun _ => ?_)
        refine x_aload_n C 0 dX7_lampsOf_40 rfl rfl ?_
        refine x_iload C 5 dX7_lampsOf_41 rfl ?_
        refine x_callVRO C ([.int (nI i)]) ([]) [0, 1] (k0 := 0) (na := 1) gX7_lampsOf_X7_isDead rfl (by decide +kernel) rfl rfl rfl (kX7_isDead (xl cx) (xG cx) m w1 w2 w3 w4 w5 w6 ns ln tm sp ik e1 e2 z i (by first | assumption | rfl | omega | decide)) rfl (by decide) rfl rfl rfl ⟨by decide, by decide⟩ (Nat.le_of_ble_eq_true rfl) ⟨by decide, by decide⟩ dX7_lampsOf_43 ?_
        have join_79 : ∀ (v0 : Int32) (hv0 : v0 = b2i (zl z i 6 ≠ -1005 ∧ zl z i 4 / 10 < h)), X cx (0, 0) [(m, .inr (7, [.ref w1, .ref w2, .ref w3, .int (nI ns), .ref w4, .int ik, .ref w5, .int (nI ln), .int e1, .int e2, .ref w6, .int (nI tm), .int (nI sp)])), (w1, .inl ((xG cx).2.1, 508, .inl z))] [(0, .ref m), (1, .int x), (2, .int 2), (3, .int h), (4, .int acc), (5, .int (nI i))] 79 [.int v0] := by
          intro v0 hv0
          subst hv0
          refine x_istore C [(6, .int (b2i (zl z i 6 ≠ -1005 ∧ zl z i 4 / 10 < h))), (0, .ref m), (1, .int x), (2, .int 2), (3, .int h), (4, .int acc), (5, .int (nI i))] dX7_lampsOf_79 (by decide) rfl ?_
          refine x_iload C 5 dX7_lampsOf_81 rfl ?_
          refine x_aload_n C 1 dX7_lampsOf_83 rfl rfl ?_
          refine x_iload C 6 dX7_lampsOf_84 rfl ?_
          refine x_iconst (v := 0) C dX7_lampsOf_86 (by decide) ?_
          refine x_callVRO C ([.int (nI i), .int 0]) ([.int acc]) [0, 1] (k0 := 0) (na := 2) gX7_lampsOf_X7_of rfl (by decide +kernel) rfl rfl rfl (kX7_of (xl cx) (xG cx) m w1 w2 w3 w4 w5 w6 ns ln tm sp ik e1 e2 z i 0 (by first | assumption | rfl | omega | decide) (by first | assumption | rfl | omega | decide)) rfl (by decide) rfl rfl rfl ⟨by decide, by decide⟩ (Nat.le_of_ble_eq_true rfl) ⟨by decide, by decide⟩ dX7_lampsOf_87 ?_
          refine x_iload_n C 2 dX7_lampsOf_90 rfl rfl ?_
          have join_104 : ∀ (v0 : Int32) (hv0 : v0 = b2i (zl z i 0 = x ∧ (zl z i 6 ≠ -1005 ∧ zl z i 4 / 10 < h))), X cx (0, 0) [(m, .inr (7, [.ref w1, .ref w2, .ref w3, .int (nI ns), .ref w4, .int ik, .ref w5, .int (nI ln), .int e1, .int e2, .ref w6, .int (nI tm), .int (nI sp)])), (w1, .inl ((xG cx).2.1, 508, .inl z))] [(6, .int (b2i (zl z i 6 ≠ -1005 ∧ zl z i 4 / 10 < h))), (0, .ref m), (1, .int x), (2, .int 2), (3, .int h), (4, .int acc), (5, .int (nI i))] 104 [.int v0, .int acc] := by
            intro v0 hv0
            subst hv0
            refine x_iadd C (rfl) dX7_lampsOf_104 ?_
            refine x_istore C [(4, .int (acc + (b2i (zl z i 0 = x ∧ (zl z i 6 ≠ -1005 ∧ zl z i 4 / 10 < h))))), (6, .int (b2i (zl z i 6 ≠ -1005 ∧ zl z i 4 / 10 < h))), (0, .ref m), (1, .int x), (2, .int 2), (3, .int h), (5, .int (nI i))] dX7_lampsOf_105 (by decide) rfl ?_
            refine x_iinc C 6 [(5, .int (nI (i + 1))), (4, .int (acc + (b2i (zl z i 0 = x ∧ (zl z i 6 ≠ -1005 ∧ zl z i 4 / 10 < h))))), (6, .int (b2i (zl z i 6 ≠ -1005 ∧ zl z i 4 / 10 < h))), (0, .ref m), (1, .int x), (2, .int 2), (3, .int h)] dX7_lampsOf_107 rfl (inc1 i) (by decide) rfl ?_
            refine x_goto (tgt := 6) C dX7_lampsOf_110 (by decide) ?_
            refine x_lv [(0, .ref m), (1, .int x), (2, .int 2), (3, .int h), (4, .int (acc + (b2i (zl z i 0 = x ∧ (zl z i 6 ≠ -1005 ∧ zl z i 4 / 10 < h))))), (5, .int (nI (i + 1)))] [3, 4, 5, 6, 1, 0] rfl ?_
            exact ih (i + 1) (acc + (b2i (zl z i 0 = x ∧ (zl z i 6 ≠ -1005 ∧ zl z i 4 / 10 < h)))) (by omega) (by omega) (by rw [ea]; rfl)
          refine x_icmp_ne C 103 dX7_lampsOf_91 (by decide) (fun c_91 => ?_) (fun c_91 => ?_)
          ·
            refine x_iconst (v := 0) C dX7_lampsOf_103 (by decide) ?_
            exact join_104 _ (by first | rfl | (symm; first | (apply b2i_t; grind) | (apply b2i_f; grind)) | grind)
          ·
            refine x_iload C 0 dX7_lampsOf_94 rfl ?_
            refine x_ifb_eq (P := zl z i 6 ≠ -1005 ∧ zl z i 4 / 10 < h) C 103 dX7_lampsOf_96 (by decide) (fun c_96 => ?_) (fun c_96 => ?_)
            ·
              refine x_iconst (v := 0) C dX7_lampsOf_103 (by decide) ?_
              exact join_104 _ (by first | rfl | (symm; first | (apply b2i_t; grind) | (apply b2i_f; grind)) | grind)
            ·
              refine x_iconst (v := 1) C dX7_lampsOf_99 (by decide) ?_
              refine x_goto (tgt := 104) C dX7_lampsOf_100 (by decide) ?_
              exact join_104 _ (by first | rfl | (symm; first | (apply b2i_t; grind) | (apply b2i_f; grind)) | grind)
        refine x_ifb_eq (P := zl z i 6 ≠ -1005) C 59 dX7_lampsOf_46 (by decide) (fun c_46 => ?_) (fun c_46 => ?_)
        ·
          refine x_iload_n C 2 dX7_lampsOf_59 rfl rfl ?_
          refine x_iconst (v := 3) C dX7_lampsOf_60 (by decide) ?_
          refine x_icmp_ne C 78 dX7_lampsOf_61 (by decide) (fun _ => ?_) (fun h => absurd h (by decide))
          refine x_iconst (v := 0) C dX7_lampsOf_78 (by decide) ?_
          exact join_79 _ (by first | rfl | (symm; first | (apply b2i_t; grind) | (apply b2i_f; grind)) | grind)
        ·
          refine x_aload_n C 0 dX7_lampsOf_49 rfl rfl ?_
          refine x_iload C 5 dX7_lampsOf_50 rfl ?_
          refine x_callVRO C ([.int (nI i)]) ([]) [0, 1] (k0 := 0) (na := 1) gX7_lampsOf_X7_counts rfl (by decide +kernel) rfl rfl rfl (kX7_counts (xl cx) (xG cx) m w1 w2 w3 w4 w5 w6 ns ln tm sp ik e1 e2 z i (by first | assumption | rfl | omega | decide)) rfl (by decide) rfl rfl rfl ⟨by decide, by decide⟩ (Nat.le_of_ble_eq_true rfl) ⟨by decide, by decide⟩ dX7_lampsOf_52 ?_
          refine x_iload_n C 3 dX7_lampsOf_55 rfl rfl ?_
          refine x_icmp_lt C 74 dX7_lampsOf_56 (by decide) (fun c_56 => ?_) (fun c_56 => ?_)
          ·
            refine x_iconst (v := 1) C dX7_lampsOf_74 (by decide) ?_
            refine x_goto (tgt := 79) C dX7_lampsOf_75 (by decide) ?_
            exact join_79 _ (by first | rfl | (symm; first | (apply b2i_t; grind) | (apply b2i_f; grind)) | grind)
          ·
            refine x_iload_n C 2 dX7_lampsOf_59 rfl rfl ?_
            refine x_iconst (v := 3) C dX7_lampsOf_60 (by decide) ?_
            refine x_icmp_ne C 78 dX7_lampsOf_61 (by decide) (fun _ => ?_) (fun h => absurd h (by decide))
            refine x_iconst (v := 0) C dX7_lampsOf_78 (by decide) ?_
            exact join_79 _ (by first | rfl | (symm; first | (apply b2i_t; grind) | (apply b2i_f; grind)) | grind)
  refine x_lv [(0, .ref m), (1, .int x), (2, .int 2), (3, .int h), (4, .int 0), (5, .int (nI 0))] [2, 3, 4, 5, 1, 0] rfl ?_
  exact loop_6 (n + 1) 0 0 (by omega) (by omega) (rfl)

theorem i_kX7_lampsOf_3_X7 : ∀ w ∈ u_ws RX7 TX7 13, w ∈ wsX7_lampsOf := by decide +kernel
theorem m_kX7_lampsOf_3_1 : (Cond.fieldLink RX7 7 "LampRacksModel" "z" "[I" : Cond) ∈ wsX7_lampsOf := by decide +kernel
set_option maxRecDepth 100000 in
set_option maxHeartbeats 4000000 in
theorem kX7_lampsOf_3 (l : Launch) (G : GG) (m : Nat) (w1 : Nat) (w2 : Nat) (w3 : Nat) (w4 : Nat) (w5 : Nat) (w6 : Nat) (ns : Nat) (ln : Nat) (tm : Nat) (sp : Nat) (ik : Int32) (e1 : Int32) (e2 : Int32) (z : Nat → Int32) (n : Nat) (x : Int32) (h : Int32) (hn : n ≤ 60) (hz3 : z 3 = nI n) : RO l G yX7_lampsOf wsX7_lampsOf ({ frames := 2, cells := 0, slots := 0, locals := 43 } : Room) [.ref m, .int x, .int 3, .int h] [(m, .inr (7, [.ref w1, .ref w2, .ref w3, .int (nI ns), .ref w4, .int ik, .ref w5, .int (nI ln), .int e1, .int e2, .ref w6, .int (nI tm), .int (nI sp)])), (w1, .inl (G.2.1, 508, .inl z))] (.int (l3R z n x h)) := by
  refine RO.of (cc := cX7_lampsOf) (maxL := 7) (ret := (some .int)) (by decide) rfl (Nat.le_of_ble_eq_true rfl) ?_
  intro cx hxl hxG C E
  subst hxl
  subst hxG
  show X cx (0, 0) [(m, .inr (7, [.ref w1, .ref w2, .ref w3, .int (nI ns), .ref w4, .int ik, .ref w5, .int (nI ln), .int e1, .int e2, .ref w6, .int (nI tm), .int (nI sp)])), (w1, .inl ((xG cx).2.1, 508, .inl z))] [(0, .ref m), (1, .int x), (2, .int 3), (3, .int h)] 0 []
  refine x_iconst (v := 0) C dX7_lampsOf_0 (by decide) ?_
  refine x_istore C [(4, .int 0), (0, .ref m), (1, .int x), (2, .int 3), (3, .int h)] dX7_lampsOf_1 (by decide) rfl ?_
  refine x_iconst (v := 0) C dX7_lampsOf_3 (by decide) ?_
  refine x_istore C [(5, .int 0), (4, .int 0), (0, .ref m), (1, .int x), (2, .int 3), (3, .int h)] dX7_lampsOf_4 (by decide) rfl ?_
  have loop_6 : ∀ (zz : Nat) (i : Nat) (acc : Int32) (hi : i ≤ n) (hz : n + 1 ≤ i + zz) (ea : acc = (cnt (fun j => zl z j 0 = x ∧ h ≤ zl z j 4 / 10)) i), X cx (0, 0) [(m, .inr (7, [.ref w1, .ref w2, .ref w3, .int (nI ns), .ref w4, .int ik, .ref w5, .int (nI ln), .int e1, .int e2, .ref w6, .int (nI tm), .int (nI sp)])), (w1, .inl ((xG cx).2.1, 508, .inl z))] [(0, .ref m), (1, .int x), (2, .int 3), (3, .int h), (4, .int acc), (5, .int (nI i))] 6 [] := by
    intro zz
    induction zz with
    | zero =>
      intro i acc hi hz ea
      exfalso; omega
    | succ zz ih =>
      intro i acc hi hz ea
      refine x_iload C 5 dX7_lampsOf_6 rfl ?_
      refine x_aload_n C 0 dX7_lampsOf_8 rfl rfl ?_
      refine x_getf C 0 rfl rfl i_kX7_lampsOf_3_X7 0 (by decide) m_kX7_lampsOf_3_1 rfl rfl dX7_lampsOf_9 ?_
      refine x_iconst (v := 3) C dX7_lampsOf_12 (by decide) ?_
      refine x_iald C 1 rfl rfl (vp_in_nI (n := 3) (by decide) (by decide)) ((congrArg z (nI_clamp (n := 3) (by decide))).trans hz3) dX7_lampsOf_13 ?_
      refine x_icmp_ge C 113 dX7_lampsOf_14 (by decide) (fun c_14 => ?_) (fun c_14 => ?_)
      ·
        have n_14 : n ≤ i := (nI_leI (a := n) (b := i) (by omega) (by omega)).mp c_14
        refine x_iload C 4 dX7_lampsOf_113 rfl ?_
        exact x_iret C E dX7_lampsOf_115 (by rw [ea, show i = n from by omega]; rfl) (rfl)
      ·
        have n_14 : ¬ (n ≤ i) := fun q => c_14 ((nI_leI (a := n) (b := i) (by omega) (by omega)).mpr q)
        refine x_iload_n C 2 dX7_lampsOf_17 rfl rfl ?_
        refine x_if_eq C 74 dX7_lampsOf_18 (by decide) (fun h => absurd h (by decide)) (fun _ => ?_)
        refine x_iload_n C 2 dX7_lampsOf_21 rfl rfl ?_
        refine x_iconst (v := 1) C dX7_lampsOf_22 (by decide) ?_
        refine x_icmp_ne C 35 dX7_lampsOf_23 (by decide) (fun _ => ?_) (fun h => absurd h (by decide))
        refine x_iload_n C 2 dX7_lampsOf_35 rfl rfl ?_
        refine x_iconst (v := 2) C dX7_lampsOf_36 (by decide) ?_
        refine x_icmp_ne C 59 dX7_lampsOf_37 (by decide) (fun _ => ?_) (fun h => absurd h (by decide))
        refine x_iload_n C 2 dX7_lampsOf_59 rfl rfl ?_
        refine x_iconst (v := 3) C dX7_lampsOf_60 (by decide) ?_
        refine x_icmp_ne C 78 dX7_lampsOf_61 (by decide) (fun h => absurd h (by decide)) (fun _ => ?_)
        refine x_aload_n C 0 dX7_lampsOf_64 rfl rfl ?_
        refine x_iload C 5 dX7_lampsOf_65 rfl ?_
        refine x_callVRO C ([.int (nI i)]) ([]) [0, 1] (k0 := 0) (na := 1) gX7_lampsOf_X7_counts rfl (by decide +kernel) rfl rfl rfl (kX7_counts (xl cx) (xG cx) m w1 w2 w3 w4 w5 w6 ns ln tm sp ik e1 e2 z i (by first | assumption | rfl | omega | decide)) rfl (by decide) rfl rfl rfl ⟨by decide, by decide⟩ (Nat.le_of_ble_eq_true rfl) ⟨by decide, by decide⟩ dX7_lampsOf_67 ?_
        refine x_iload_n C 3 dX7_lampsOf_70 rfl rfl ?_
        have join_79 : ∀ (v0 : Int32) (hv0 : v0 = b2i (h ≤ zl z i 4 / 10)), X cx (0, 0) [(m, .inr (7, [.ref w1, .ref w2, .ref w3, .int (nI ns), .ref w4, .int ik, .ref w5, .int (nI ln), .int e1, .int e2, .ref w6, .int (nI tm), .int (nI sp)])), (w1, .inl ((xG cx).2.1, 508, .inl z))] [(0, .ref m), (1, .int x), (2, .int 3), (3, .int h), (4, .int acc), (5, .int (nI i))] 79 [.int v0] := by
          intro v0 hv0
          subst hv0
          refine x_istore C [(6, .int (b2i (h ≤ zl z i 4 / 10))), (0, .ref m), (1, .int x), (2, .int 3), (3, .int h), (4, .int acc), (5, .int (nI i))] dX7_lampsOf_79 (by decide) rfl ?_
          refine x_iload C 5 dX7_lampsOf_81 rfl ?_
          refine x_aload_n C 1 dX7_lampsOf_83 rfl rfl ?_
          refine x_iload C 6 dX7_lampsOf_84 rfl ?_
          refine x_iconst (v := 0) C dX7_lampsOf_86 (by decide) ?_
          refine x_callVRO C ([.int (nI i), .int 0]) ([.int acc]) [0, 1] (k0 := 0) (na := 2) gX7_lampsOf_X7_of rfl (by decide +kernel) rfl rfl rfl (kX7_of (xl cx) (xG cx) m w1 w2 w3 w4 w5 w6 ns ln tm sp ik e1 e2 z i 0 (by first | assumption | rfl | omega | decide) (by first | assumption | rfl | omega | decide)) rfl (by decide) rfl rfl rfl ⟨by decide, by decide⟩ (Nat.le_of_ble_eq_true rfl) ⟨by decide, by decide⟩ dX7_lampsOf_87 ?_
          refine x_iload_n C 2 dX7_lampsOf_90 rfl rfl ?_
          have join_104 : ∀ (v0 : Int32) (hv0 : v0 = b2i (zl z i 0 = x ∧ h ≤ zl z i 4 / 10)), X cx (0, 0) [(m, .inr (7, [.ref w1, .ref w2, .ref w3, .int (nI ns), .ref w4, .int ik, .ref w5, .int (nI ln), .int e1, .int e2, .ref w6, .int (nI tm), .int (nI sp)])), (w1, .inl ((xG cx).2.1, 508, .inl z))] [(6, .int (b2i (h ≤ zl z i 4 / 10))), (0, .ref m), (1, .int x), (2, .int 3), (3, .int h), (4, .int acc), (5, .int (nI i))] 104 [.int v0, .int acc] := by
            intro v0 hv0
            subst hv0
            refine x_iadd C (rfl) dX7_lampsOf_104 ?_
            refine x_istore C [(4, .int (acc + (b2i (zl z i 0 = x ∧ h ≤ zl z i 4 / 10)))), (6, .int (b2i (h ≤ zl z i 4 / 10))), (0, .ref m), (1, .int x), (2, .int 3), (3, .int h), (5, .int (nI i))] dX7_lampsOf_105 (by decide) rfl ?_
            refine x_iinc C 6 [(5, .int (nI (i + 1))), (4, .int (acc + (b2i (zl z i 0 = x ∧ h ≤ zl z i 4 / 10)))), (6, .int (b2i (h ≤ zl z i 4 / 10))), (0, .ref m), (1, .int x), (2, .int 3), (3, .int h)] dX7_lampsOf_107 rfl (inc1 i) (by decide) rfl ?_
            refine x_goto (tgt := 6) C dX7_lampsOf_110 (by decide) ?_
            refine x_lv [(0, .ref m), (1, .int x), (2, .int 3), (3, .int h), (4, .int (acc + (b2i (zl z i 0 = x ∧ h ≤ zl z i 4 / 10)))), (5, .int (nI (i + 1)))] [3, 4, 5, 6, 1, 0] rfl ?_
            exact ih (i + 1) (acc + (b2i (zl z i 0 = x ∧ h ≤ zl z i 4 / 10))) (by omega) (by omega) (by rw [ea]; rfl)
          refine x_icmp_ne C 103 dX7_lampsOf_91 (by decide) (fun c_91 => ?_) (fun c_91 => ?_)
          ·
            refine x_iconst (v := 0) C dX7_lampsOf_103 (by decide) ?_
            exact join_104 _ (by first | rfl | (symm; first | (apply b2i_t; grind) | (apply b2i_f; grind)) | grind)
          ·
            refine x_iload C 0 dX7_lampsOf_94 rfl ?_
            refine x_ifb_eq (P := h ≤ zl z i 4 / 10) C 103 dX7_lampsOf_96 (by decide) (fun c_96 => ?_) (fun c_96 => ?_)
            ·
              refine x_iconst (v := 0) C dX7_lampsOf_103 (by decide) ?_
              exact join_104 _ (by first | rfl | (symm; first | (apply b2i_t; grind) | (apply b2i_f; grind)) | grind)
            ·
              refine x_iconst (v := 1) C dX7_lampsOf_99 (by decide) ?_
              refine x_goto (tgt := 104) C dX7_lampsOf_100 (by decide) ?_
              exact join_104 _ (by first | rfl | (symm; first | (apply b2i_t; grind) | (apply b2i_f; grind)) | grind)
        refine x_icmp_lt C 78 dX7_lampsOf_71 (by decide) (fun c_71 => ?_) (fun c_71 => ?_)
        ·
          refine x_iconst (v := 0) C dX7_lampsOf_78 (by decide) ?_
          exact join_79 _ (by first | rfl | (symm; first | (apply b2i_t; grind) | (apply b2i_f; grind)) | grind)
        ·
          refine x_iconst (v := 1) C dX7_lampsOf_74 (by decide) ?_
          refine x_goto (tgt := 79) C dX7_lampsOf_75 (by decide) ?_
          exact join_79 _ (by first | rfl | (symm; first | (apply b2i_t; grind) | (apply b2i_f; grind)) | grind)
  refine x_lv [(0, .ref m), (1, .int x), (2, .int 3), (3, .int h), (4, .int 0), (5, .int (nI 0))] [2, 3, 4, 5, 1, 0] rfl ?_
  exact loop_6 (n + 1) 0 0 (by omega) (by omega) (rfl)

theorem i_kX7_dead_X7 : ∀ w ∈ u_ws RX7 TX7 13, w ∈ wsX7_dead := by decide +kernel
theorem m_kX7_dead_1 : (Cond.fieldLink RX7 7 "LampRacksModel" "z" "[I" : Cond) ∈ wsX7_dead := by decide +kernel
set_option maxRecDepth 100000 in
set_option maxHeartbeats 4000000 in
theorem kX7_dead (l : Launch) (G : GG) (m : Nat) (w1 : Nat) (w2 : Nat) (w3 : Nat) (w4 : Nat) (w5 : Nat) (w6 : Nat) (ns : Nat) (ln : Nat) (tm : Nat) (sp : Nat) (ik : Int32) (e1 : Int32) (e2 : Int32) (z : Nat → Int32) (n : Nat) (hn : n ≤ 60) (hz3 : z 3 = nI n) : RO l G yX7_dead wsX7_dead ({ frames := 2, cells := 0, slots := 0, locals := 43 } : Room) [.ref m] [(m, .inr (7, [.ref w1, .ref w2, .ref w3, .int (nI ns), .ref w4, .int ik, .ref w5, .int (nI ln), .int e1, .int e2, .ref w6, .int (nI tm), .int (nI sp)])), (w1, .inl (G.2.1, 508, .inl z))] (.int (ddR z n)) := by
  refine RO.of (cc := cX7_dead) (maxL := 3) (ret := (some .int)) (by decide) rfl (Nat.le_of_ble_eq_true rfl) ?_
  intro cx hxl hxG C E
  subst hxl
  subst hxG
  show X cx (0, 0) [(m, .inr (7, [.ref w1, .ref w2, .ref w3, .int (nI ns), .ref w4, .int ik, .ref w5, .int (nI ln), .int e1, .int e2, .ref w6, .int (nI tm), .int (nI sp)])), (w1, .inl ((xG cx).2.1, 508, .inl z))] [(0, .ref m)] 0 []
  refine x_iconst (v := 0) C dX7_dead_0 (by decide) ?_
  refine x_istore_n C [(1, .int 0), (0, .ref m)] dX7_dead_1 rfl (by decide) rfl ?_
  refine x_iconst (v := 0) C dX7_dead_2 (by decide) ?_
  refine x_istore_n C [(2, .int 0), (1, .int 0), (0, .ref m)] dX7_dead_3 rfl (by decide) rfl ?_
  have loop_4 : ∀ (zz : Nat) (i : Nat) (acc : Int32) (hi : i ≤ n) (hz : n + 1 ≤ i + zz) (ea : acc = (cnt (fun j => zl z j 6 ≠ -1005)) i), X cx (0, 0) [(m, .inr (7, [.ref w1, .ref w2, .ref w3, .int (nI ns), .ref w4, .int ik, .ref w5, .int (nI ln), .int e1, .int e2, .ref w6, .int (nI tm), .int (nI sp)])), (w1, .inl ((xG cx).2.1, 508, .inl z))] [(0, .ref m), (1, .int acc), (2, .int (nI i))] 4 [] := by
    intro zz
    induction zz with
    | zero =>
      intro i acc hi hz ea
      exfalso; omega
    | succ zz ih =>
      intro i acc hi hz ea
      refine x_iload_n C 2 dX7_dead_4 rfl rfl ?_
      refine x_aload_n C 0 dX7_dead_5 rfl rfl ?_
      refine x_getf C 0 rfl rfl i_kX7_dead_X7 0 (by decide) m_kX7_dead_1 rfl rfl dX7_dead_6 ?_
      refine x_iconst (v := 3) C dX7_dead_9 (by decide) ?_
      refine x_iald C 1 rfl rfl (vp_in_nI (n := 3) (by decide) (by decide)) ((congrArg z (nI_clamp (n := 3) (by decide))).trans hz3) dX7_dead_10 ?_
      refine x_icmp_ge C 36 dX7_dead_11 (by decide) (fun c_11 => ?_) (fun c_11 => ?_)
      ·
        have n_11 : n ≤ i := (nI_leI (a := n) (b := i) (by omega) (by omega)).mp c_11
        refine x_iload_n C 1 dX7_dead_36 rfl rfl ?_
        exact x_iret C E dX7_dead_37 (by rw [ea, show i = n from by omega]; rfl) (rfl)
      ·
        have n_11 : ¬ (n ≤ i) := fun q => c_11 ((nI_leI (a := n) (b := i) (by omega) (by omega)).mpr q)
        refine x_iload_n C 1 dX7_dead_14 rfl rfl ?_
        refine x_aload_n C 0 dX7_dead_15 rfl rfl ?_
        refine x_iload_n C 2 dX7_dead_16 rfl rfl ?_
        refine x_callVRO C ([.int (nI i)]) ([.int acc]) [0, 1] (k0 := 0) (na := 1) gX7_dead_X7_isDead rfl (by decide +kernel) rfl rfl rfl (kX7_isDead (xl cx) (xG cx) m w1 w2 w3 w4 w5 w6 ns ln tm sp ik e1 e2 z i (by first | assumption | rfl | omega | decide)) rfl (by decide) rfl rfl rfl ⟨by decide, by decide⟩ (Nat.le_of_ble_eq_true rfl) ⟨by decide, by decide⟩ dX7_dead_17 ?_
        have join_28 : ∀ (v0 : Int32) (hv0 : v0 = b2i (zl z i 6 ≠ -1005)), X cx (0, 0) [(m, .inr (7, [.ref w1, .ref w2, .ref w3, .int (nI ns), .ref w4, .int ik, .ref w5, .int (nI ln), .int e1, .int e2, .ref w6, .int (nI tm), .int (nI sp)])), (w1, .inl ((xG cx).2.1, 508, .inl z))] [(0, .ref m), (1, .int acc), (2, .int (nI i))] 28 [.int v0, .int acc] := by
          intro v0 hv0
          subst hv0
          refine x_iadd C (rfl) dX7_dead_28 ?_
          refine x_istore_n C [(1, .int (acc + (b2i (zl z i 6 ≠ -1005)))), (0, .ref m), (2, .int (nI i))] dX7_dead_29 rfl (by decide) rfl ?_
          refine x_iinc C 2 [(2, .int (nI (i + 1))), (1, .int (acc + (b2i (zl z i 6 ≠ -1005)))), (0, .ref m)] dX7_dead_30 rfl (inc1 i) (by decide) rfl ?_
          refine x_goto (tgt := 4) C dX7_dead_33 (by decide) ?_
          refine x_lv [(0, .ref m), (1, .int (acc + (b2i (zl z i 6 ≠ -1005)))), (2, .int (nI (i + 1)))] [2, 1, 0] rfl ?_
          exact ih (i + 1) (acc + (b2i (zl z i 6 ≠ -1005))) (by omega) (by omega) (by rw [ea]; rfl)
        refine x_ifb_eq (P := zl z i 6 ≠ -1005) C 27 dX7_dead_20 (by decide) (fun c_20 => ?_) (fun c_20 => ?_)
        ·
          refine x_iconst (v := 0) C dX7_dead_27 (by decide) ?_
          exact join_28 _ (by first | rfl | (symm; first | (apply b2i_t; grind) | (apply b2i_f; grind)) | grind)
        ·
          refine x_iconst (v := 1) C dX7_dead_23 (by decide) ?_
          refine x_goto (tgt := 28) C dX7_dead_24 (by decide) ?_
          exact join_28 _ (by first | rfl | (symm; first | (apply b2i_t; grind) | (apply b2i_f; grind)) | grind)
  refine x_lv [(0, .ref m), (1, .int 0), (2, .int (nI 0))] [2, 1, 0] rfl ?_
  exact loop_4 (n + 1) 0 0 (by omega) (by omega) (rfl)

theorem i_kX7_burning_X7 : ∀ w ∈ u_ws RX7 TX7 13, w ∈ wsX7_burning := by decide +kernel
theorem m_kX7_burning_1 : (Cond.fieldLink RX7 7 "LampRacksModel" "z" "[I" : Cond) ∈ wsX7_burning := by decide +kernel
set_option maxRecDepth 100000 in
set_option maxHeartbeats 4000000 in
theorem kX7_burning (l : Launch) (G : GG) (m : Nat) (w1 : Nat) (w2 : Nat) (w3 : Nat) (w4 : Nat) (w5 : Nat) (w6 : Nat) (ns : Nat) (ln : Nat) (tm : Nat) (sp : Nat) (ik : Int32) (e1 : Int32) (e2 : Int32) (z : Nat → Int32) (n : Nat) (hn : n ≤ 60) (hz3 : z 3 = nI n) (hrk : ∀ k, k < 60 → zl z k 1 = -1005 ∨ ∃ r, r < 3 ∧ zl z k 1 = nI r) : RO l G yX7_burning wsX7_burning ({ frames := 3, cells := 0, slots := 0, locals := 64 } : Room) [.ref m] [(m, .inr (7, [.ref w1, .ref w2, .ref w3, .int (nI ns), .ref w4, .int ik, .ref w5, .int (nI ln), .int e1, .int e2, .ref w6, .int (nI tm), .int (nI sp)])), (w1, .inl (G.2.1, 508, .inl z))] (.int (bnR z n)) := by
  refine RO.of (cc := cX7_burning) (maxL := 3) (ret := (some .int)) (by decide) rfl (Nat.le_of_ble_eq_true rfl) ?_
  intro cx hxl hxG C E
  subst hxl
  subst hxG
  show X cx (0, 0) [(m, .inr (7, [.ref w1, .ref w2, .ref w3, .int (nI ns), .ref w4, .int ik, .ref w5, .int (nI ln), .int e1, .int e2, .ref w6, .int (nI tm), .int (nI sp)])), (w1, .inl ((xG cx).2.1, 508, .inl z))] [(0, .ref m)] 0 []
  refine x_iconst (v := 0) C dX7_burning_0 (by decide) ?_
  refine x_istore_n C [(1, .int 0), (0, .ref m)] dX7_burning_1 rfl (by decide) rfl ?_
  refine x_iconst (v := 0) C dX7_burning_2 (by decide) ?_
  refine x_istore_n C [(2, .int 0), (1, .int 0), (0, .ref m)] dX7_burning_3 rfl (by decide) rfl ?_
  have loop_4 : ∀ (zz : Nat) (i : Nat) (acc : Int32) (hi : i ≤ n) (hz : n + 1 ≤ i + zz) (ea : acc = (cnt (fun j => brnB z j = true)) i), X cx (0, 0) [(m, .inr (7, [.ref w1, .ref w2, .ref w3, .int (nI ns), .ref w4, .int ik, .ref w5, .int (nI ln), .int e1, .int e2, .ref w6, .int (nI tm), .int (nI sp)])), (w1, .inl ((xG cx).2.1, 508, .inl z))] [(0, .ref m), (1, .int acc), (2, .int (nI i))] 4 [] := by
    intro zz
    induction zz with
    | zero =>
      intro i acc hi hz ea
      exfalso; omega
    | succ zz ih =>
      intro i acc hi hz ea
      refine x_iload_n C 2 dX7_burning_4 rfl rfl ?_
      refine x_aload_n C 0 dX7_burning_5 rfl rfl ?_
      refine x_getf C 0 rfl rfl i_kX7_burning_X7 0 (by decide) m_kX7_burning_1 rfl rfl dX7_burning_6 ?_
      refine x_iconst (v := 3) C dX7_burning_9 (by decide) ?_
      refine x_iald C 1 rfl rfl (vp_in_nI (n := 3) (by decide) (by decide)) ((congrArg z (nI_clamp (n := 3) (by decide))).trans hz3) dX7_burning_10 ?_
      refine x_icmp_ge C 36 dX7_burning_11 (by decide) (fun c_11 => ?_) (fun c_11 => ?_)
      ·
        have n_11 : n ≤ i := (nI_leI (a := n) (b := i) (by omega) (by omega)).mp c_11
        refine x_iload_n C 1 dX7_burning_36 rfl rfl ?_
        exact x_iret C E dX7_burning_37 (by rw [ea, show i = n from by omega]; rfl) (rfl)
      ·
        have n_11 : ¬ (n ≤ i) := fun q => c_11 ((nI_leI (a := n) (b := i) (by omega) (by omega)).mpr q)
        refine x_iload_n C 1 dX7_burning_14 rfl rfl ?_
        refine x_aload_n C 0 dX7_burning_15 rfl rfl ?_
        refine x_iload_n C 2 dX7_burning_16 rfl rfl ?_
        refine x_callVRO C ([.int (nI i)]) ([.int acc]) [0, 1] (k0 := 0) (na := 1) gX7_burning_X7_burns rfl (by decide +kernel) rfl rfl rfl (kX7_burns (xl cx) (xG cx) m w1 w2 w3 w4 w5 w6 ns ln tm sp ik e1 e2 z i (by first | assumption | rfl | omega | decide) (by first | assumption | rfl | omega | decide)) rfl (by decide) rfl rfl rfl ⟨by decide, by decide⟩ (Nat.le_of_ble_eq_true rfl) ⟨by decide, by decide⟩ dX7_burning_17 ?_
        have join_28 : ∀ (v0 : Int32) (hv0 : v0 = b2i (brnB z i = true)), X cx (0, 0) [(m, .inr (7, [.ref w1, .ref w2, .ref w3, .int (nI ns), .ref w4, .int ik, .ref w5, .int (nI ln), .int e1, .int e2, .ref w6, .int (nI tm), .int (nI sp)])), (w1, .inl ((xG cx).2.1, 508, .inl z))] [(0, .ref m), (1, .int acc), (2, .int (nI i))] 28 [.int v0, .int acc] := by
          intro v0 hv0
          subst hv0
          refine x_iadd C (rfl) dX7_burning_28 ?_
          refine x_istore_n C [(1, .int (acc + (b2i (brnB z i = true)))), (0, .ref m), (2, .int (nI i))] dX7_burning_29 rfl (by decide) rfl ?_
          refine x_iinc C 2 [(2, .int (nI (i + 1))), (1, .int (acc + (b2i (brnB z i = true)))), (0, .ref m)] dX7_burning_30 rfl (inc1 i) (by decide) rfl ?_
          refine x_goto (tgt := 4) C dX7_burning_33 (by decide) ?_
          refine x_lv [(0, .ref m), (1, .int (acc + (b2i (brnB z i = true)))), (2, .int (nI (i + 1)))] [2, 1, 0] rfl ?_
          exact ih (i + 1) (acc + (b2i (brnB z i = true))) (by omega) (by omega) (by rw [ea]; rfl)
        refine x_ifb_eq (P := brnB z i = true) C 27 dX7_burning_20 (by decide) (fun c_20 => ?_) (fun c_20 => ?_)
        ·
          refine x_iconst (v := 0) C dX7_burning_27 (by decide) ?_
          exact join_28 _ (by first | rfl | (symm; first | (apply b2i_t; grind) | (apply b2i_f; grind)) | grind)
        ·
          refine x_iconst (v := 1) C dX7_burning_23 (by decide) ?_
          refine x_goto (tgt := 28) C dX7_burning_24 (by decide) ?_
          exact join_28 _ (by first | rfl | (symm; first | (apply b2i_t; grind) | (apply b2i_f; grind)) | grind)
  refine x_lv [(0, .ref m), (1, .int 0), (2, .int (nI 0))] [2, 1, 0] rfl ?_
  exact loop_4 (n + 1) 0 0 (by omega) (by omega) (rfl)

theorem i_kX7_sum_X7 : ∀ w ∈ u_ws RX7 TX7 13, w ∈ wsX7_sum := by decide +kernel
theorem m_kX7_sum_1 : (Cond.fieldLink RX7 7 "LampRacksModel" "z" "[I" : Cond) ∈ wsX7_sum := by decide +kernel
set_option maxRecDepth 100000 in
set_option maxHeartbeats 4000000 in
theorem kX7_sum (l : Launch) (G : GG) (m : Nat) (w1 : Nat) (w2 : Nat) (w3 : Nat) (w4 : Nat) (w5 : Nat) (w6 : Nat) (ns : Nat) (ln : Nat) (tm : Nat) (sp : Nat) (ik : Int32) (e1 : Int32) (e2 : Int32) (z : Nat → Int32) (n : Nat) (w : Nat) (hn : n ≤ 60) (hz3 : z 3 = nI n) (hw : w < 8) : RO l G yX7_sum wsX7_sum ({ frames := 1, cells := 0, slots := 0, locals := 22 } : Room) [.ref m, .int (nI w)] [(m, .inr (7, [.ref w1, .ref w2, .ref w3, .int (nI ns), .ref w4, .int ik, .ref w5, .int (nI ln), .int e1, .int e2, .ref w6, .int (nI tm), .int (nI sp)])), (w1, .inl (G.2.1, 508, .inl z))] (.int (smR z n w)) := by
  refine RO.of (cc := cX7_sum) (maxL := 4) (ret := (some .int)) (by decide) rfl (Nat.le_of_ble_eq_true rfl) ?_
  intro cx hxl hxG C E
  subst hxl
  subst hxG
  show X cx (0, 0) [(m, .inr (7, [.ref w1, .ref w2, .ref w3, .int (nI ns), .ref w4, .int ik, .ref w5, .int (nI ln), .int e1, .int e2, .ref w6, .int (nI tm), .int (nI sp)])), (w1, .inl ((xG cx).2.1, 508, .inl z))] [(0, .ref m), (1, .int (nI w))] 0 []
  refine x_iconst (v := 0) C dX7_sum_0 (by decide) ?_
  refine x_istore_n C [(2, .int 0), (0, .ref m), (1, .int (nI w))] dX7_sum_1 rfl (by decide) rfl ?_
  refine x_iconst (v := 0) C dX7_sum_2 (by decide) ?_
  refine x_istore_n C [(3, .int 0), (2, .int 0), (0, .ref m), (1, .int (nI w))] dX7_sum_3 rfl (by decide) rfl ?_
  have loop_4 : ∀ (zz : Nat) (i : Nat) (acc : Int32) (hi : i ≤ n) (hz : n + 1 ≤ i + zz) (ea : acc = (sm (fun k => zl z k w)) i), X cx (0, 0) [(m, .inr (7, [.ref w1, .ref w2, .ref w3, .int (nI ns), .ref w4, .int ik, .ref w5, .int (nI ln), .int e1, .int e2, .ref w6, .int (nI tm), .int (nI sp)])), (w1, .inl ((xG cx).2.1, 508, .inl z))] [(0, .ref m), (1, .int (nI w)), (2, .int acc), (3, .int (nI i))] 4 [] := by
    intro zz
    induction zz with
    | zero =>
      intro i acc hi hz ea
      exfalso; omega
    | succ zz ih =>
      intro i acc hi hz ea
      refine x_iload_n C 3 dX7_sum_4 rfl rfl ?_
      refine x_aload_n C 0 dX7_sum_5 rfl rfl ?_
      refine x_getf C 0 rfl rfl i_kX7_sum_X7 0 (by decide) m_kX7_sum_1 rfl rfl dX7_sum_6 ?_
      refine x_iconst (v := 3) C dX7_sum_9 (by decide) ?_
      refine x_iald C 1 rfl rfl (vp_in_nI (n := 3) (by decide) (by decide)) ((congrArg z (nI_clamp (n := 3) (by decide))).trans hz3) dX7_sum_10 ?_
      refine x_icmp_ge C 29 dX7_sum_11 (by decide) (fun c_11 => ?_) (fun c_11 => ?_)
      ·
        have n_11 : n ≤ i := (nI_leI (a := n) (b := i) (by omega) (by omega)).mp c_11
        refine x_iload_n C 2 dX7_sum_29 rfl rfl ?_
        exact x_iret C E dX7_sum_30 (by rw [ea, show i = n from by omega]; rfl) (rfl)
      ·
        have n_11 : ¬ (n ≤ i) := fun q => c_11 ((nI_leI (a := n) (b := i) (by omega) (by omega)).mpr q)
        refine x_iload_n C 2 dX7_sum_14 rfl rfl ?_
        refine x_aload_n C 0 dX7_sum_15 rfl rfl ?_
        refine x_iload_n C 3 dX7_sum_16 rfl rfl ?_
        refine x_iload_n C 1 dX7_sum_17 rfl rfl ?_
        refine x_callVRO C ([.int (nI i), .int (nI w)]) ([.int acc]) [0, 1] (k0 := 0) (na := 2) gX7_sum_X7_of rfl (by decide +kernel) rfl rfl rfl (kX7_of (xl cx) (xG cx) m w1 w2 w3 w4 w5 w6 ns ln tm sp ik e1 e2 z i w (by first | assumption | rfl | omega | decide) (by first | assumption | rfl | omega | decide)) rfl (by decide) rfl rfl rfl ⟨by decide, by decide⟩ (Nat.le_of_ble_eq_true rfl) ⟨by decide, by decide⟩ dX7_sum_18 ?_
        refine x_iadd C (rfl) dX7_sum_21 ?_
        refine x_istore_n C [(2, .int (acc + (zl z i w))), (0, .ref m), (1, .int (nI w)), (3, .int (nI i))] dX7_sum_22 rfl (by decide) rfl ?_
        refine x_iinc C 3 [(3, .int (nI (i + 1))), (2, .int (acc + (zl z i w))), (0, .ref m), (1, .int (nI w))] dX7_sum_23 rfl (inc1 i) (by decide) rfl ?_
        refine x_goto (tgt := 4) C dX7_sum_26 (by decide) ?_
        refine x_lv [(0, .ref m), (1, .int (nI w)), (2, .int (acc + (zl z i w))), (3, .int (nI (i + 1)))] [2, 3, 1, 0] rfl ?_
        exact ih (i + 1) (acc + (zl z i w)) (by omega) (by omega) (by rw [ea]; rfl)
  refine x_lv [(0, .ref m), (1, .int (nI w)), (2, .int 0), (3, .int (nI 0))] [2, 3, 1, 0] rfl ?_
  exact loop_4 (n + 1) 0 0 (by omega) (by omega) (rfl)

theorem i_kX7_endsAhead_X7 : ∀ w ∈ u_ws RX7 TX7 13, w ∈ wsX7_endsAhead := by decide +kernel
theorem m_kX7_endsAhead_1 : (Cond.fieldLink RX7 7 "LampRacksModel" "z" "[I" : Cond) ∈ wsX7_endsAhead := by decide +kernel
set_option maxRecDepth 100000 in
set_option maxHeartbeats 4000000 in
theorem kX7_endsAhead (l : Launch) (G : GG) (m : Nat) (w1 : Nat) (w2 : Nat) (w3 : Nat) (w4 : Nat) (w5 : Nat) (w6 : Nat) (ns : Nat) (ln : Nat) (tm : Nat) (sp : Nat) (ik : Int32) (e1 : Int32) (e2 : Int32) (z : Nat → Int32) (n : Nat) (k : Nat) (hn : n ≤ 60) (hz3 : z 3 = nI n) (hk : k < 60) : RO l G yX7_endsAhead wsX7_endsAhead ({ frames := 2, cells := 0, slots := 0, locals := 43 } : Room) [.ref m, .int (nI k)] [(m, .inr (7, [.ref w1, .ref w2, .ref w3, .int (nI ns), .ref w4, .int ik, .ref w5, .int (nI ln), .int e1, .int e2, .ref w6, .int (nI tm), .int (nI sp)])), (w1, .inl (G.2.1, 508, .inl z))] (.int (cnt (fun o => zl z o 6 ≠ -1005 ∧ (zl z o 6 < zl z k 6 ∨ (zl z o 6 = zl z k 6 ∧ o < k))) n)) := by
  refine RO.of (cc := cX7_endsAhead) (maxL := 4) (ret := (some .int)) (by decide) rfl (Nat.le_of_ble_eq_true rfl) ?_
  intro cx hxl hxG C E
  subst hxl
  subst hxG
  show X cx (0, 0) [(m, .inr (7, [.ref w1, .ref w2, .ref w3, .int (nI ns), .ref w4, .int ik, .ref w5, .int (nI ln), .int e1, .int e2, .ref w6, .int (nI tm), .int (nI sp)])), (w1, .inl ((xG cx).2.1, 508, .inl z))] [(0, .ref m), (1, .int (nI k))] 0 []
  refine x_iconst (v := 0) C dX7_endsAhead_0 (by decide) ?_
  refine x_istore_n C [(2, .int 0), (0, .ref m), (1, .int (nI k))] dX7_endsAhead_1 rfl (by decide) rfl ?_
  refine x_iconst (v := 0) C dX7_endsAhead_2 (by decide) ?_
  refine x_istore_n C [(3, .int 0), (2, .int 0), (0, .ref m), (1, .int (nI k))] dX7_endsAhead_3 rfl (by decide) rfl ?_
  have loop_4 : ∀ (zz : Nat) (i : Nat) (acc : Int32) (hi : i ≤ n) (hz : n + 1 ≤ i + zz) (ea : acc = (cnt (fun o => zl z o 6 ≠ -1005 ∧ (zl z o 6 < zl z k 6 ∨ (zl z o 6 = zl z k 6 ∧ o < k)))) i), X cx (0, 0) [(m, .inr (7, [.ref w1, .ref w2, .ref w3, .int (nI ns), .ref w4, .int ik, .ref w5, .int (nI ln), .int e1, .int e2, .ref w6, .int (nI tm), .int (nI sp)])), (w1, .inl ((xG cx).2.1, 508, .inl z))] [(0, .ref m), (1, .int (nI k)), (2, .int acc), (3, .int (nI i))] 4 [] := by
    intro zz
    induction zz with
    | zero =>
      intro i acc hi hz ea
      exfalso; omega
    | succ zz ih =>
      intro i acc hi hz ea
      refine x_iload_n C 3 dX7_endsAhead_4 rfl rfl ?_
      refine x_aload_n C 0 dX7_endsAhead_5 rfl rfl ?_
      refine x_getf C 0 rfl rfl i_kX7_endsAhead_X7 0 (by decide) m_kX7_endsAhead_1 rfl rfl dX7_endsAhead_6 ?_
      refine x_iconst (v := 3) C dX7_endsAhead_9 (by decide) ?_
      refine x_iald C 1 rfl rfl (vp_in_nI (n := 3) (by decide) (by decide)) ((congrArg z (nI_clamp (n := 3) (by decide))).trans hz3) dX7_endsAhead_10 ?_
      refine x_icmp_ge C 75 dX7_endsAhead_11 (by decide) (fun c_11 => ?_) (fun c_11 => ?_)
      ·
        have n_11 : n ≤ i := (nI_leI (a := n) (b := i) (by omega) (by omega)).mp c_11
        refine x_iload_n C 2 dX7_endsAhead_75 rfl rfl ?_
        exact x_iret C E dX7_endsAhead_76 (by rw [ea, show i = n from by omega]) (rfl)
      ·
        have n_11 : ¬ (n ≤ i) := fun q => c_11 ((nI_leI (a := n) (b := i) (by omega) (by omega)).mpr q)
        refine x_iload_n C 2 dX7_endsAhead_14 rfl rfl ?_
        refine x_aload_n C 0 dX7_endsAhead_15 rfl rfl ?_
        refine x_iload_n C 3 dX7_endsAhead_16 rfl rfl ?_
        refine x_callVRO C ([.int (nI i)]) ([.int acc]) [0, 1] (k0 := 0) (na := 1) gX7_endsAhead_X7_isDead rfl (by decide +kernel) rfl rfl rfl (kX7_isDead (xl cx) (xG cx) m w1 w2 w3 w4 w5 w6 ns ln tm sp ik e1 e2 z i (by first | assumption | rfl | omega | decide)) rfl (by decide) rfl rfl rfl ⟨by decide, by decide⟩ (Nat.le_of_ble_eq_true rfl) ⟨by decide, by decide⟩ dX7_endsAhead_17 ?_
        have join_67 : ∀ (v0 : Int32) (hv0 : v0 = b2i (zl z i 6 ≠ -1005 ∧ (zl z i 6 < zl z k 6 ∨ (zl z i 6 = zl z k 6 ∧ i < k)))), X cx (0, 0) [(m, .inr (7, [.ref w1, .ref w2, .ref w3, .int (nI ns), .ref w4, .int ik, .ref w5, .int (nI ln), .int e1, .int e2, .ref w6, .int (nI tm), .int (nI sp)])), (w1, .inl ((xG cx).2.1, 508, .inl z))] [(0, .ref m), (1, .int (nI k)), (2, .int acc), (3, .int (nI i))] 67 [.int v0, .int acc] := by
          intro v0 hv0
          subst hv0
          refine x_iadd C (rfl) dX7_endsAhead_67 ?_
          refine x_istore_n C [(2, .int (acc + (b2i (zl z i 6 ≠ -1005 ∧ (zl z i 6 < zl z k 6 ∨ (zl z i 6 = zl z k 6 ∧ i < k)))))), (0, .ref m), (1, .int (nI k)), (3, .int (nI i))] dX7_endsAhead_68 rfl (by decide) rfl ?_
          refine x_iinc C 3 [(3, .int (nI (i + 1))), (2, .int (acc + (b2i (zl z i 6 ≠ -1005 ∧ (zl z i 6 < zl z k 6 ∨ (zl z i 6 = zl z k 6 ∧ i < k)))))), (0, .ref m), (1, .int (nI k))] dX7_endsAhead_69 rfl (inc1 i) (by decide) rfl ?_
          refine x_goto (tgt := 4) C dX7_endsAhead_72 (by decide) ?_
          refine x_lv [(0, .ref m), (1, .int (nI k)), (2, .int (acc + (b2i (zl z i 6 ≠ -1005 ∧ (zl z i 6 < zl z k 6 ∨ (zl z i 6 = zl z k 6 ∧ i < k)))))), (3, .int (nI (i + 1)))] [2, 3, 1, 0] rfl ?_
          exact ih (i + 1) (acc + (b2i (zl z i 6 ≠ -1005 ∧ (zl z i 6 < zl z k 6 ∨ (zl z i 6 = zl z k 6 ∧ i < k))))) (by omega) (by omega) (by rw [ea]; rfl)
        refine x_ifb_eq (P := zl z i 6 ≠ -1005) C 66 dX7_endsAhead_20 (by decide) (fun c_20 => ?_) (fun c_20 => ?_)
        ·
          refine x_iconst (v := 0) C dX7_endsAhead_66 (by decide) ?_
          exact join_67 _ (by first | rfl | (symm; first | (apply b2i_t; grind) | (apply b2i_f; grind)) | grind)
        ·
          refine x_aload_n C 0 dX7_endsAhead_23 rfl rfl ?_
          refine x_iload_n C 3 dX7_endsAhead_24 rfl rfl ?_
          refine x_bipush (v := 6) C dX7_endsAhead_25 (by decide) ?_
          refine x_callVRO C ([.int (nI i), .int 6]) ([.int acc]) [0, 1] (k0 := 0) (na := 2) gX7_endsAhead_X7_of rfl (by decide +kernel) rfl rfl rfl (kX7_of (xl cx) (xG cx) m w1 w2 w3 w4 w5 w6 ns ln tm sp ik e1 e2 z i 6 (by first | assumption | rfl | omega | decide) (by first | assumption | rfl | omega | decide)) rfl (by decide) rfl rfl rfl ⟨by decide, by decide⟩ (Nat.le_of_ble_eq_true rfl) ⟨by decide, by decide⟩ dX7_endsAhead_27 ?_
          refine x_aload_n C 0 dX7_endsAhead_30 rfl rfl ?_
          refine x_iload_n C 1 dX7_endsAhead_31 rfl rfl ?_
          refine x_bipush (v := 6) C dX7_endsAhead_32 (by decide) ?_
          refine x_callVRO C ([.int (nI k), .int 6]) ([.int (zl z i 6), .int acc]) [0, 1] (k0 := 0) (na := 2) gX7_endsAhead_X7_of rfl (by decide +kernel) rfl rfl rfl (kX7_of (xl cx) (xG cx) m w1 w2 w3 w4 w5 w6 ns ln tm sp ik e1 e2 z k 6 (by first | assumption | rfl | omega | decide) (by first | assumption | rfl | omega | decide)) rfl (by decide) rfl rfl rfl ⟨by decide, by decide⟩ (Nat.le_of_ble_eq_true rfl) ⟨by decide, by decide⟩ dX7_endsAhead_34 ?_
          refine x_icmp_lt C 62 dX7_endsAhead_37 (by decide) (fun c_37 => ?_) (fun c_37 => ?_)
          ·
            refine x_iconst (v := 1) C dX7_endsAhead_62 (by decide) ?_
            refine x_goto (tgt := 67) C dX7_endsAhead_63 (by decide) ?_
            exact join_67 _ (by first | rfl | (symm; first | (apply b2i_t; grind) | (apply b2i_f; grind)) | grind)
          ·
            refine x_aload_n C 0 dX7_endsAhead_40 rfl rfl ?_
            refine x_iload_n C 3 dX7_endsAhead_41 rfl rfl ?_
            refine x_bipush (v := 6) C dX7_endsAhead_42 (by decide) ?_
            refine x_callVRO C ([.int (nI i), .int 6]) ([.int acc]) [0, 1] (k0 := 0) (na := 2) gX7_endsAhead_X7_of rfl (by decide +kernel) rfl rfl rfl (kX7_of (xl cx) (xG cx) m w1 w2 w3 w4 w5 w6 ns ln tm sp ik e1 e2 z i 6 (by first | assumption | rfl | omega | decide) (by first | assumption | rfl | omega | decide)) rfl (by decide) rfl rfl rfl ⟨by decide, by decide⟩ (Nat.le_of_ble_eq_true rfl) ⟨by decide, by decide⟩ dX7_endsAhead_44 ?_
            refine x_aload_n C 0 dX7_endsAhead_47 rfl rfl ?_
            refine x_iload_n C 1 dX7_endsAhead_48 rfl rfl ?_
            refine x_bipush (v := 6) C dX7_endsAhead_49 (by decide) ?_
            refine x_callVRO C ([.int (nI k), .int 6]) ([.int (zl z i 6), .int acc]) [0, 1] (k0 := 0) (na := 2) gX7_endsAhead_X7_of rfl (by decide +kernel) rfl rfl rfl (kX7_of (xl cx) (xG cx) m w1 w2 w3 w4 w5 w6 ns ln tm sp ik e1 e2 z k 6 (by first | assumption | rfl | omega | decide) (by first | assumption | rfl | omega | decide)) rfl (by decide) rfl rfl rfl ⟨by decide, by decide⟩ (Nat.le_of_ble_eq_true rfl) ⟨by decide, by decide⟩ dX7_endsAhead_51 ?_
            refine x_icmp_ne C 66 dX7_endsAhead_54 (by decide) (fun c_54 => ?_) (fun c_54 => ?_)
            ·
              refine x_iconst (v := 0) C dX7_endsAhead_66 (by decide) ?_
              exact join_67 _ (by first | rfl | (symm; first | (apply b2i_t; grind) | (apply b2i_f; grind)) | grind)
            ·
              refine x_iload_n C 3 dX7_endsAhead_57 rfl rfl ?_
              refine x_iload_n C 1 dX7_endsAhead_58 rfl rfl ?_
              refine x_icmp_ge C 66 dX7_endsAhead_59 (by decide) (fun c_59 => ?_) (fun c_59 => ?_)
              ·
                have n_59 : k ≤ i := (nI_leI (a := k) (b := i) (by omega) (by omega)).mp c_59
                refine x_iconst (v := 0) C dX7_endsAhead_66 (by decide) ?_
                exact join_67 _ (by first | rfl | (symm; first | (apply b2i_t; grind) | (apply b2i_f; grind)) | grind)
              ·
                have n_59 : ¬ (k ≤ i) := fun q => c_59 ((nI_leI (a := k) (b := i) (by omega) (by omega)).mpr q)
                refine x_iconst (v := 1) C dX7_endsAhead_62 (by decide) ?_
                refine x_goto (tgt := 67) C dX7_endsAhead_63 (by decide) ?_
                exact join_67 _ (by first | rfl | (symm; first | (apply b2i_t; grind) | (apply b2i_f; grind)) | grind)
  refine x_lv [(0, .ref m), (1, .int (nI k)), (2, .int 0), (3, .int (nI 0))] [2, 3, 1, 0] rfl ?_
  exact loop_4 (n + 1) 0 0 (by omega) (by omega) (rfl)

theorem i_kX7_ended_X7 : ∀ w ∈ u_ws RX7 TX7 13, w ∈ wsX7_ended := by decide +kernel
theorem m_kX7_ended_1 : (Cond.fieldLink RX7 7 "LampRacksModel" "z" "[I" : Cond) ∈ wsX7_ended := by decide +kernel
set_option maxRecDepth 100000 in
set_option maxHeartbeats 4000000 in
theorem kX7_ended (l : Launch) (G : GG) (m : Nat) (w1 : Nat) (w2 : Nat) (w3 : Nat) (w4 : Nat) (w5 : Nat) (w6 : Nat) (ns : Nat) (ln : Nat) (tm : Nat) (sp : Nat) (ik : Int32) (e1 : Int32) (e2 : Int32) (z : Nat → Int32) (n : Nat) (x : Int32) (hn : n ≤ 60) (hz3 : z 3 = nI n) : RO l G yX7_ended wsX7_ended ({ frames := 3, cells := 0, slots := 0, locals := 66 } : Room) [.ref m, .int x] [(m, .inr (7, [.ref w1, .ref w2, .ref w3, .int (nI ns), .ref w4, .int ik, .ref w5, .int (nI ln), .int e1, .int e2, .ref w6, .int (nI tm), .int (nI sp)])), (w1, .inl (G.2.1, 508, .inl z))] (.int (if 0 ≤ x then edR z x n n else -1002)) := by
  refine RO.of (cc := cX7_ended) (maxL := 4) (ret := (some .int)) (by decide) rfl (Nat.le_of_ble_eq_true rfl) ?_
  intro cx hxl hxG C E
  subst hxl
  subst hxG
  show X cx (0, 0) [(m, .inr (7, [.ref w1, .ref w2, .ref w3, .int (nI ns), .ref w4, .int ik, .ref w5, .int (nI ln), .int e1, .int e2, .ref w6, .int (nI tm), .int (nI sp)])), (w1, .inl ((xG cx).2.1, 508, .inl z))] [(0, .ref m), (1, .int x)] 0 []
  refine x_iload_n C 1 dX7_ended_0 rfl rfl ?_
  refine x_if_ge C 8 dX7_ended_1 (by decide) (fun c_1 => ?_) (fun c_1 => ?_)
  ·
    refine x_sipush (v := (-1005)) C dX7_ended_8 (by decide) ?_
    refine x_istore_n C [(2, .int (-1005)), (0, .ref m), (1, .int x)] dX7_ended_11 rfl (by decide) rfl ?_
    refine x_iconst (v := 0) C dX7_ended_12 (by decide) ?_
    refine x_istore_n C [(3, .int 0), (2, .int (-1005)), (0, .ref m), (1, .int x)] dX7_ended_13 rfl (by decide) rfl ?_
    have loop_14 : ∀ (zz : Nat) (i : Nat) (acc : Int32) (hi : i ≤ n) (hz : n + 1 ≤ i + zz) (ea : acc = edR z x n i), X cx (0, 0) [(m, .inr (7, [.ref w1, .ref w2, .ref w3, .int (nI ns), .ref w4, .int ik, .ref w5, .int (nI ln), .int e1, .int e2, .ref w6, .int (nI tm), .int (nI sp)])), (w1, .inl ((xG cx).2.1, 508, .inl z))] [(0, .ref m), (1, .int x), (2, .int acc), (3, .int (nI i))] 14 [] := by
      intro zz
      induction zz with
      | zero =>
        intro i acc hi hz ea
        exfalso; omega
      | succ zz ih =>
        intro i acc hi hz ea
        refine x_iload_n C 3 dX7_ended_14 rfl rfl ?_
        refine x_aload_n C 0 dX7_ended_15 rfl rfl ?_
        refine x_getf C 0 rfl rfl i_kX7_ended_X7 0 (by decide) m_kX7_ended_1 rfl rfl dX7_ended_16 ?_
        refine x_iconst (v := 3) C dX7_ended_19 (by decide) ?_
        refine x_iald C 1 rfl rfl (vp_in_nI (n := 3) (by decide) (by decide)) ((congrArg z (nI_clamp (n := 3) (by decide))).trans hz3) dX7_ended_20 ?_
        refine x_icmp_ge C 53 dX7_ended_21 (by decide) (fun c_21 => ?_) (fun c_21 => ?_)
        ·
          have n_21 : n ≤ i := (nI_leI (a := n) (b := i) (by omega) (by omega)).mp c_21
          refine x_iload_n C 2 dX7_ended_53 rfl rfl ?_
          exact x_iret C E dX7_ended_54 (by rw [if_pos c_1, ea, show i = n from by omega]) (rfl)
        ·
          have n_21 : ¬ (n ≤ i) := fun q => c_21 ((nI_leI (a := n) (b := i) (by omega) (by omega)).mpr q)
          refine x_aload_n C 0 dX7_ended_24 rfl rfl ?_
          refine x_iload_n C 3 dX7_ended_25 rfl rfl ?_
          refine x_callVRO C ([.int (nI i)]) ([]) [0, 1] (k0 := 0) (na := 1) gX7_ended_X7_isDead rfl (by decide +kernel) rfl rfl rfl (kX7_isDead (xl cx) (xG cx) m w1 w2 w3 w4 w5 w6 ns ln tm sp ik e1 e2 z i (by first | assumption | rfl | omega | decide)) rfl (by decide) rfl rfl rfl ⟨by decide, by decide⟩ (Nat.le_of_ble_eq_true rfl) ⟨by decide, by decide⟩ dX7_ended_26 ?_
          refine x_ifb_eq (P := zl z i 6 ≠ -1005) C 45 dX7_ended_29 (by decide) (fun c_29 => ?_) (fun c_29 => ?_)
          ·
            refine x_iload_n C 2 dX7_ended_45 rfl rfl ?_
            refine x_istore_n C [(2, .int acc), (0, .ref m), (1, .int x), (3, .int (nI i))] dX7_ended_46 rfl (by decide) rfl ?_
            refine x_iinc C 3 [(3, .int (nI (i + 1))), (2, .int acc), (0, .ref m), (1, .int x)] dX7_ended_47 rfl (inc1 i) (by decide) rfl ?_
            refine x_goto (tgt := 14) C dX7_ended_50 (by decide) ?_
            refine x_lv [(0, .ref m), (1, .int x), (2, .int acc), (3, .int (nI (i + 1)))] [2, 3, 1, 0] rfl ?_
            exact ih (i + 1) acc (by omega) (by omega) (by rw [edR_s, ← ea]; exact (if_neg (fun q => c_29 q.1)).symm)
          ·
            refine x_aload_n C 0 dX7_ended_32 rfl rfl ?_
            refine x_iload_n C 3 dX7_ended_33 rfl rfl ?_
            refine x_callVRO C ([.int (nI i)]) ([]) [0, 1] (k0 := 0) (na := 1) gX7_ended_X7_endsAhead rfl (by decide +kernel) rfl rfl rfl (kX7_endsAhead (xl cx) (xG cx) m w1 w2 w3 w4 w5 w6 ns ln tm sp ik e1 e2 z n i (by first | assumption | rfl | omega | decide) (by first | assumption | rfl | omega | decide) (by first | assumption | rfl | omega | decide)) rfl (by decide) rfl rfl rfl ⟨by decide, by decide⟩ (Nat.le_of_ble_eq_true rfl) ⟨by decide, by decide⟩ dX7_ended_34 ?_
            refine x_iload_n C 1 dX7_ended_37 rfl rfl ?_
            refine x_icmp_ne C 45 dX7_ended_38 (by decide) (fun c_38 => ?_) (fun c_38 => ?_)
            ·
              refine x_iload_n C 2 dX7_ended_45 rfl rfl ?_
              refine x_istore_n C [(2, .int acc), (0, .ref m), (1, .int x), (3, .int (nI i))] dX7_ended_46 rfl (by decide) rfl ?_
              refine x_iinc C 3 [(3, .int (nI (i + 1))), (2, .int acc), (0, .ref m), (1, .int x)] dX7_ended_47 rfl (inc1 i) (by decide) rfl ?_
              refine x_goto (tgt := 14) C dX7_ended_50 (by decide) ?_
              refine x_lv [(0, .ref m), (1, .int x), (2, .int acc), (3, .int (nI (i + 1)))] [2, 3, 1, 0] rfl ?_
              exact ih (i + 1) acc (by omega) (by omega) (by rw [edR_s, ← ea]; exact (if_neg (fun q => c_38 q.2)).symm)
            ·
              refine x_iload_n C 3 dX7_ended_41 rfl rfl ?_
              refine x_goto (tgt := 46) C dX7_ended_42 (by decide) ?_
              refine x_istore_n C [(2, .int (nI i)), (0, .ref m), (1, .int x), (3, .int (nI i))] dX7_ended_46 rfl (by decide) rfl ?_
              refine x_iinc C 3 [(3, .int (nI (i + 1))), (2, .int (nI i)), (0, .ref m), (1, .int x)] dX7_ended_47 rfl (inc1 i) (by decide) rfl ?_
              refine x_goto (tgt := 14) C dX7_ended_50 (by decide) ?_
              refine x_lv [(0, .ref m), (1, .int x), (2, .int (nI i)), (3, .int (nI (i + 1)))] [2, 3, 1, 0] rfl ?_
              exact ih (i + 1) (nI i) (by omega) (by omega) (by rw [edR_s, ← ea]; exact (if_pos ⟨c_29, c_38⟩).symm)
    refine x_lv [(0, .ref m), (1, .int x), (2, .int (-1005)), (3, .int (nI 0))] [2, 3, 1, 0] rfl ?_
    exact loop_14 (n + 1) 0 (-1005) (by omega) (by omega) (rfl)
  ·
    refine x_sipush (v := (-1002)) C dX7_ended_4 (by decide) ?_
    exact x_iret C E dX7_ended_7 ((if_neg c_1).symm) (rfl)

theorem i_kX7_firstEndedAt_X7 : ∀ w ∈ u_ws RX7 TX7 13, w ∈ wsX7_firstEndedAt := by decide +kernel
theorem m_kX7_firstEndedAt_1 : (Cond.fieldLink RX7 7 "LampRacksModel" "z" "[I" : Cond) ∈ wsX7_firstEndedAt := by decide +kernel
set_option maxRecDepth 100000 in
set_option maxHeartbeats 4000000 in
theorem kX7_firstEndedAt (l : Launch) (G : GG) (m : Nat) (w1 : Nat) (w2 : Nat) (w3 : Nat) (w4 : Nat) (w5 : Nat) (w6 : Nat) (ns : Nat) (ln : Nat) (tm : Nat) (sp : Nat) (ik : Int32) (e1 : Int32) (e2 : Int32) (z : Nat → Int32) (n : Nat) (h : Int32) (hn : n ≤ 60) (hz3 : z 3 = nI n) : RO l G yX7_firstEndedAt wsX7_firstEndedAt ({ frames := 1, cells := 0, slots := 0, locals := 22 } : Room) [.ref m, .int h] [(m, .inr (7, [.ref w1, .ref w2, .ref w3, .int (nI ns), .ref w4, .int ik, .ref w5, .int (nI ln), .int e1, .int e2, .ref w6, .int (nI tm), .int (nI sp)])), (w1, .inl (G.2.1, 508, .inl z))] (.int (feR z h n n)) := by
  refine RO.of (cc := cX7_firstEndedAt) (maxL := 4) (ret := (some .int)) (by decide) rfl (Nat.le_of_ble_eq_true rfl) ?_
  intro cx hxl hxG C E
  subst hxl
  subst hxG
  show X cx (0, 0) [(m, .inr (7, [.ref w1, .ref w2, .ref w3, .int (nI ns), .ref w4, .int ik, .ref w5, .int (nI ln), .int e1, .int e2, .ref w6, .int (nI tm), .int (nI sp)])), (w1, .inl ((xG cx).2.1, 508, .inl z))] [(0, .ref m), (1, .int h)] 0 []
  refine x_sipush (v := (-1005)) C dX7_firstEndedAt_0 (by decide) ?_
  refine x_istore_n C [(2, .int (-1005)), (0, .ref m), (1, .int h)] dX7_firstEndedAt_3 rfl (by decide) rfl ?_
  refine x_aload_n C 1 dX7_firstEndedAt_4 rfl rfl ?_
  refine x_getf C 0 rfl rfl i_kX7_firstEndedAt_X7 0 (by decide) m_kX7_firstEndedAt_1 rfl rfl dX7_firstEndedAt_5 ?_
  refine x_iconst (v := 3) C dX7_firstEndedAt_8 (by decide) ?_
  refine x_iald C 1 rfl rfl (vp_in_nI (n := 3) (by decide) (by decide)) ((congrArg z (nI_clamp (n := 3) (by decide))).trans hz3) dX7_firstEndedAt_9 ?_
  refine x_iconst (v := 1) C dX7_firstEndedAt_10 (by decide) ?_
  refine x_isub C (rfl) dX7_firstEndedAt_11 ?_
  refine x_istore_n C [(3, .int ((nI n) - 1)), (2, .int (-1005)), (0, .ref m), (1, .int h)] dX7_firstEndedAt_12 rfl (by decide) rfl ?_
  have loop_13 : ∀ (zz : Nat) (j : Nat) (acc : Int32) (hj : j ≤ n) (hz : j + 1 ≤ zz) (ea : acc = feR z h n (n - j)), X cx (0, 0) [(m, .inr (7, [.ref w1, .ref w2, .ref w3, .int (nI ns), .ref w4, .int ik, .ref w5, .int (nI ln), .int e1, .int e2, .ref w6, .int (nI tm), .int (nI sp)])), (w1, .inl ((xG cx).2.1, 508, .inl z))] [(0, .ref m), (1, .int h), (2, .int acc), (3, .int (nI j - 1))] 13 [] := by
    intro zz
    induction zz with
    | zero =>
      intro j acc hj hz ea
      exfalso; omega
    | succ zz ih =>
      intro j acc hj hz ea
      refine x_iload_n C 3 dX7_firstEndedAt_13 rfl rfl ?_
      refine x_if_lt C 40 dX7_firstEndedAt_14 (by decide) (fun c_14 => ?_) (fun c_14 => ?_)
      ·
        refine x_iload_n C 2 dX7_firstEndedAt_40 rfl rfl ?_
        exact x_iret C E dX7_firstEndedAt_41 (by rw [ea, show j = 0 from (Nat.eq_zero_or_pos j).elim id (fun q => absurd c_14 (by rw [show nI j - 1 = nI (j - 1) from pk_sub (a := j) (b := 1) q]; exact nI_pos (by omega)))]; rfl) (rfl)
      ·
        obtain ⟨j1, rfl⟩ : ∃ j1, j = j1 + 1 := ⟨j - 1, (Nat.eq_zero_or_pos j).elim (fun q => absurd (show nI j - 1 < 0 from by rw [q]; decide) c_14) (fun q => by omega)⟩
        rw [nI_pred j1]
        refine x_aload_n C 0 dX7_firstEndedAt_17 rfl rfl ?_
        refine x_iload_n C 3 dX7_firstEndedAt_18 rfl rfl ?_
        refine x_bipush (v := 6) C dX7_firstEndedAt_19 (by decide) ?_
        refine x_callVRO C ([.int (nI j1), .int 6]) ([]) [0, 1] (k0 := 0) (na := 2) gX7_firstEndedAt_X7_of rfl (by decide +kernel) rfl rfl rfl (kX7_of (xl cx) (xG cx) m w1 w2 w3 w4 w5 w6 ns ln tm sp ik e1 e2 z j1 6 (by first | assumption | rfl | omega | decide) (by first | assumption | rfl | omega | decide)) rfl (by decide) rfl rfl rfl ⟨by decide, by decide⟩ (Nat.le_of_ble_eq_true rfl) ⟨by decide, by decide⟩ dX7_firstEndedAt_21 ?_
        refine x_iload_n C 1 dX7_firstEndedAt_24 rfl rfl ?_
        refine x_icmp_ne C 32 dX7_firstEndedAt_25 (by decide) (fun c_25 => ?_) (fun c_25 => ?_)
        ·
          refine x_iload_n C 2 dX7_firstEndedAt_32 rfl rfl ?_
          refine x_istore_n C [(2, .int acc), (0, .ref m), (1, .int h), (3, .int (nI j1))] dX7_firstEndedAt_33 rfl (by decide) rfl ?_
          refine x_iinc C 3 [(3, .int (nI j1 - 1)), (2, .int acc), (0, .ref m), (1, .int h)] dX7_firstEndedAt_34 rfl (by rw [Int32.sub_eq_add_neg]; rfl) (by decide) rfl ?_
          refine x_goto (tgt := 13) C dX7_firstEndedAt_37 (by decide) ?_
          refine x_lv [(0, .ref m), (1, .int h), (2, .int acc), (3, .int (nI j1 - 1))] [2, 3, 1, 0] rfl ?_
          exact ih j1 acc (by omega) (by omega) (by rw [show n - j1 = (n - (j1 + 1)) + 1 from by omega, feR_s, show n - (n - (j1 + 1) + 1) = j1 from by omega, ← ea]; exact (if_neg c_25).symm)
        ·
          refine x_iload_n C 3 dX7_firstEndedAt_28 rfl rfl ?_
          refine x_goto (tgt := 33) C dX7_firstEndedAt_29 (by decide) ?_
          refine x_istore_n C [(2, .int (nI j1)), (0, .ref m), (1, .int h), (3, .int (nI j1))] dX7_firstEndedAt_33 rfl (by decide) rfl ?_
          refine x_iinc C 3 [(3, .int (nI j1 - 1)), (2, .int (nI j1)), (0, .ref m), (1, .int h)] dX7_firstEndedAt_34 rfl (by rw [Int32.sub_eq_add_neg]; rfl) (by decide) rfl ?_
          refine x_goto (tgt := 13) C dX7_firstEndedAt_37 (by decide) ?_
          refine x_lv [(0, .ref m), (1, .int h), (2, .int (nI j1)), (3, .int (nI j1 - 1))] [2, 3, 1, 0] rfl ?_
          exact ih j1 (nI j1) (by omega) (by omega) (by rw [show n - j1 = (n - (j1 + 1)) + 1 from by omega, feR_s, show n - (n - (j1 + 1) + 1) = j1 from by omega, ← ea]; exact (if_pos c_25).symm)
  refine x_lv [(0, .ref m), (1, .int h), (2, .int (-1005)), (3, .int (nI n - 1))] [2, 3, 1, 0] rfl ?_
  exact loop_13 (n + 1) n (-1005) (by omega) (by omega) (by rw [Nat.sub_self]; rfl)

theorem i_kX7_stopped_X7 : ∀ w ∈ u_ws RX7 TX7 13, w ∈ wsX7_stopped := by decide +kernel
theorem m_kX7_stopped_1 : (Cond.fieldLink RX7 151 "LampRacksModel" "stopError" "I" : Cond) ∈ wsX7_stopped := by decide +kernel
theorem m_kX7_stopped_2 : (Cond.fieldLink RX7 148 "LampRacksModel" "stopNumber" "I" : Cond) ∈ wsX7_stopped := by decide +kernel
set_option maxRecDepth 100000 in
set_option maxHeartbeats 4000000 in
theorem kX7_stopped (l : Launch) (G : GG) (m : Nat) (w1 : Nat) (w2 : Nat) (w3 : Nat) (w4 : Nat) (w5 : Nat) (w6 : Nat) (ns : Nat) (ln : Nat) (tm : Nat) (sp : Nat) (ik : Int32) (e1 : Int32) (e2 : Int32) (w : Int32)  : RO l G yX7_stopped wsX7_stopped ({ frames := 1, cells := 0, slots := 0, locals := 22 } : Room) [.ref m, .int w] [(m, .inr (7, [.ref w1, .ref w2, .ref w3, .int (nI ns), .ref w4, .int ik, .ref w5, .int (nI ln), .int e1, .int e2, .ref w6, .int (nI tm), .int (nI sp)]))] (.int (stpS e1 e2 w)) := by
  refine RO.of (cc := cX7_stopped) (maxL := 2) (ret := (some .int)) (by decide) rfl (Nat.le_of_ble_eq_true rfl) ?_
  intro cx hxl hxG C E
  subst hxl
  subst hxG
  show X cx (0, 0) [(m, .inr (7, [.ref w1, .ref w2, .ref w3, .int (nI ns), .ref w4, .int ik, .ref w5, .int (nI ln), .int e1, .int e2, .ref w6, .int (nI tm), .int (nI sp)]))] [(0, .ref m), (1, .int w)] 0 []
  refine x_iload_n C 1 dX7_stopped_0 rfl rfl ?_
  refine x_iconst (v := 0) C dX7_stopped_1 (by decide) ?_
  refine x_iconst (v := 1) C dX7_stopped_2 (by decide) ?_
  refine x_callSRO C ([.int w, .int 0, .int 1]) ([]) [] (na := 3) gX7_stopped_X7_in rfl (by decide +kernel) rfl (kX7_in (xl cx) (xG cx) w 0 1) rfl (by decide) rfl rfl rfl ⟨by decide, by decide⟩ (Nat.le_of_ble_eq_true rfl) ⟨by decide, by decide⟩ dX7_stopped_3 ?_
  refine x_ifb_ne (P := 0 ≤ w ∧ w ≤ 1) C 13 dX7_stopped_6 (by decide) (fun c_6 => ?_) (fun c_6 => ?_)
  ·
    refine x_aload_n C 0 dX7_stopped_13 rfl rfl ?_
    refine x_getf C 0 rfl rfl i_kX7_stopped_X7 9 (by decide) m_kX7_stopped_1 rfl rfl dX7_stopped_14 ?_
    refine x_if_ne C 26 dX7_stopped_17 (by decide) (fun c_17 => ?_) (fun c_17 => ?_)
    ·
      refine x_iload_n C 1 dX7_stopped_26 rfl rfl ?_
      refine x_if_ne C 37 dX7_stopped_27 (by decide) (fun c_27 => ?_) (fun c_27 => ?_)
      ·
        refine x_aload_n C 0 dX7_stopped_37 rfl rfl ?_
        refine x_getf C 0 rfl rfl i_kX7_stopped_X7 9 (by decide) m_kX7_stopped_1 rfl rfl dX7_stopped_38 ?_
        exact x_iret C E dX7_stopped_41 (by simp [stpS, c_6, c_17, c_27]) (rfl)
      ·
        refine x_aload_n C 0 dX7_stopped_30 rfl rfl ?_
        refine x_getf C 0 rfl rfl i_kX7_stopped_X7 8 (by decide) m_kX7_stopped_2 rfl rfl dX7_stopped_31 ?_
        refine x_goto (tgt := 41) C dX7_stopped_34 (by decide) ?_
        exact x_iret C E dX7_stopped_41 (by simp [stpS, c_6, c_17, c_27]) (rfl)
    ·
      refine x_sipush (v := (-1005)) C dX7_stopped_20 (by decide) ?_
      refine x_goto (tgt := 41) C dX7_stopped_23 (by decide) ?_
      exact x_iret C E dX7_stopped_41 (by simp [stpS, c_6, c_17]) (rfl)
  ·
    refine x_sipush (v := (-1002)) C dX7_stopped_9 (by decide) ?_
    exact x_iret C E dX7_stopped_12 (by simp [stpS, c_6]) (rfl)
