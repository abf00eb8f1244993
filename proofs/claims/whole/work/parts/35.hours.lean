def okZ (z : Nat → Int32) (n : Nat) : Prop := n ≤ 60 ∧ z 3 = nI n ∧ ¬ z 1 = 0 ∧ ∀ k, k < 60 → zl z k 1 = -1005 ∨ ∃ r, r < 3 ∧ zl z k 1 = nI r
theorem okZ_upd {z : Nat → Int32} {n j : Nat} {v : Int32} (h : okZ z n) (h3 : j ≠ 3) (h1 : j ≠ 1) (hk : ∀ k, k < 60 → j ≠ 28 + 8 * k + 1) : okZ (upd z j v) n := by
  refine ⟨h.1, ?_, ?_, fun k q => ?_⟩
  · rw [upd_ne (Ne.symm h3)]
    exact h.2.1
  · rw [upd_ne (Ne.symm h1)]
    exact h.2.2.1
  · show upd z j v (28 + 8 * k + 1) = -1005 ∨ ∃ r, r < 3 ∧ upd z j v (28 + 8 * k + 1) = nI r
    rw [upd_ne (Ne.symm (hk k q))]
    exact h.2.2.2 k q
def u1 (z : Nat → Int32) (i : Nat) : Nat → Int32 := upd z (28 + 8 * i + 5) (zl z i 5 + 1)
def u2 (z : Nat → Int32) (i : Nat) : Nat → Int32 := upd (u1 z i) (28 + 8 * i + 4) (zl (u1 z i) i 4 + wA (u1 z i) (zr (u1 z i) (ixz (zl (u1 z i) i 1)) 0) (b2i (3 ≤ zl (u1 z i) i 2 ∧ zl (u1 z i) i 2 ≤ 4)))
def u3 (z : Nat → Int32) (i : Nat) : Nat → Int32 := upd (u2 z i) (28 + 8 * i + 6) (u2 z i 2)
theorem u1_ok {z : Nat → Int32} {n i : Nat} (h : okZ z n) : okZ (u1 z i) n := okZ_upd h (by omega) (by omega) (fun k _ => by omega)
theorem u2_ok {z : Nat → Int32} {n i : Nat} (h : okZ z n) : okZ (u2 z i) n := okZ_upd (u1_ok h) (by omega) (by omega) (fun k _ => by omega)
theorem u3_ok {z : Nat → Int32} {n i : Nat} (h : okZ z n) : okZ (u3 z i) n := okZ_upd (u2_ok h) (by omega) (by omega) (fun k _ => by omega)
def lmS (z : Nat → Int32) : Nat → (Nat → Int32) × Int32
  | 0 => (z, 0)
  | i + 1 => if brnB (lmS z i).1 i = true then (if zl (u2 (lmS z i).1 i) i 4 < 10 * zl (u2 (lmS z i).1 i) i 3 then (u2 (lmS z i).1 i, (lmS z i).2) else (u3 (lmS z i).1 i, (lmS z i).2 + 1)) else ((lmS z i).1, (lmS z i).2)
theorem lmS_a {z y : Nat → Int32} {i : Nat} {a : Int32} (e : lmS z i = (y, a)) (h1 : brnB y i = true) (h2 : ¬ zl (u2 y i) i 4 < 10 * zl (u2 y i) i 3) : lmS z (i + 1) = (u3 y i, a + 1) := by
  simp only [lmS, e]
  rw [if_pos h1, if_neg h2]
theorem lmS_b {z y : Nat → Int32} {i : Nat} {a : Int32} (e : lmS z i = (y, a)) (h1 : brnB y i = true) (h2 : zl (u2 y i) i 4 < 10 * zl (u2 y i) i 3) : lmS z (i + 1) = (u2 y i, a) := by
  simp only [lmS, e]
  rw [if_pos h1, if_pos h2]
theorem lmS_c {z y : Nat → Int32} {i : Nat} {a : Int32} (e : lmS z i = (y, a)) (h1 : ¬ brnB y i = true) : lmS z (i + 1) = (y, a) := by
  simp only [lmS, e]
  rw [if_neg h1]
def clR (x : Int32) : Int32 := if 0 ≤ x then (if x ≤ 300 then x else 300) else 0
def v1 (z : Nat → Int32) (r : Nat) : Nat → Int32 := upd z (16 + 4 * r + 3) (z (16 + 4 * r + 3) + (if 0 < z (16 + 4 * r + 1) then 1 else 0))
def v2 (z : Nat → Int32) (r : Nat) : Nat → Int32 := upd (upd (v1 z r) (16 + 4 * r) (clR (v1 z r (16 + 4 * r) + v1 z r (16 + 4 * r + 2)))) (16 + 4 * r + 3) 0
def stR1 (z : Nat → Int32) (r : Nat) : Nat → Int32 := if 0 < v1 z r (16 + 4 * r + 1) then (if v1 z r (16 + 4 * r + 3) = v1 z r (16 + 4 * r + 1) then v2 z r else v1 z r) else v1 z r
theorem v1_ok {z : Nat → Int32} {n r : Nat} (h : okZ z n) (hr : r < 3) : okZ (v1 z r) n := okZ_upd h (by omega) (by omega) (fun k _ => by omega)
theorem v2_ok {z : Nat → Int32} {n r : Nat} (h : okZ z n) (hr : r < 3) : okZ (v2 z r) n := okZ_upd (okZ_upd (v1_ok h hr) (by omega) (by omega) (fun k _ => by omega)) (by omega) (by omega) (fun k _ => by omega)
def rkS (z : Nat → Int32) : Nat → (Nat → Int32)
  | 0 => z
  | r + 1 => stR1 (rkS z r) r
theorem rkS_s (z : Nat → Int32) (r : Nat) : rkS z (r + 1) = stR1 (rkS z r) r := rfl
def hrS (z : Nat → Int32) (n : Nat) : (Nat → Int32) × Int32 := (rkS (lmS (upd z 2 (z 2 + 1)) n).1 3, (lmS (upd z 2 (z 2 + 1)) n).2)
theorem hr0_ok {z : Nat → Int32} {n : Nat} (h : okZ z n) : okZ (upd z 2 (z 2 + 1)) n := okZ_upd h (by omega) (by omega) (fun k _ => by omega)
theorem lmS_ok {z : Nat → Int32} {n : Nat} (h : okZ z n) : ∀ i, okZ (lmS z i).1 n
  | 0 => h
  | i + 1 => by
    by_cases h1 : brnB (lmS z i).1 i = true
    · by_cases h2 : zl (u2 (lmS z i).1 i) i 4 < 10 * zl (u2 (lmS z i).1 i) i 3
      · rw [lmS_b rfl h1 h2]
        exact u2_ok (lmS_ok h i)
      · rw [lmS_a rfl h1 h2]
        exact u3_ok (lmS_ok h i)
    · rw [lmS_c rfl h1]
      exact lmS_ok h i
theorem rkS_ok {z : Nat → Int32} {n : Nat} (h : okZ z n) : ∀ r, r ≤ 3 → okZ (rkS z r) n
  | 0, _ => h
  | r + 1, hr => by
    rw [rkS_s]
    unfold stR1
    split
    · split
      · exact v2_ok (rkS_ok h r (by omega)) (by omega)
      · exact v1_ok (rkS_ok h r (by omega)) (by omega)
    · exact v1_ok (rkS_ok h r (by omega)) (by omega)
theorem hrS_ok {z : Nat → Int32} {n : Nat} (h : okZ z n) : okZ (hrS z n).1 n := rkS_ok (lmS_ok (hr0_ok h) n) 3 (by omega)
/-- hours, one after another: how many ended -/
def phR (z : Nat → Int32) (n : Nat) : Nat → (Nat → Int32) × Int32
  | 0 => (z, 0)
  | k + 1 => ((hrS (phR z n k).1 n).1, (phR z n k).2 + (hrS (phR z n k).1 n).2)
theorem phR_s (z : Nat → Int32) (n k : Nat) : phR z n (k + 1) = ((hrS (phR z n k).1 n).1, (phR z n k).2 + (hrS (phR z n k).1 n).2) := rfl
theorem phR_ok {z : Nat → Int32} {n : Nat} (h : okZ z n) : ∀ k, okZ (phR z n k).1 n
  | 0 => h
  | k + 1 => hrS_ok (phR_ok h k)
theorem wsR_ok {z : Nat → Int32} {h : Int32} (w : 0 ≤ wsR z h) : 1 ≤ h ∧ h ≤ 999 := by
  unfold wsR at w
  by_cases h1 : 1 ≤ h ∧ h ≤ 999
  · exact h1
  · rw [if_neg h1] at w
    exact absurd w (by decide)
def psR (z f : Nat → Int32) (ns n : Nat) (h : Int32) : Int32 × RZ := if 0 ≤ wsR z h then ((phR z n (ixz h)).2, (phR z n (ixz h)).1, rcF f ns z, rcN ns) else (wsR z h, z, f, ns)

theorem i_kX7_anHour_X7 : ∀ w ∈ u_ws RX7 TX7 13, w ∈ wsX7_anHour := by decide +kernel
theorem m_kX7_anHour_1 : (Cond.fieldLink RX7 7 "LampRacksModel" "z" "[I" : Cond) ∈ wsX7_anHour := by decide +kernel
set_option maxRecDepth 100000 in
set_option maxHeartbeats 4000000 in
theorem kX7_anHour (l : Launch) (G : GG) (m : Nat) (w1 : Nat) (w2 : Nat) (w3 : Nat) (w4 : Nat) (w5 : Nat) (w6 : Nat) (ns : Nat) (ln : Nat) (tm : Nat) (sp : Nat) (ik : Int32) (e1 : Int32) (e2 : Int32) (z : Nat → Int32) (n : Nat) (hok : okZ z n) : MU l G yX7_anHour wsX7_anHour ({ frames := 3, cells := 0, slots := 0, locals := 64 } : Room) [.ref m] [(m, .inr (7, [.ref w1, .ref w2, .ref w3, .int (nI ns), .ref w4, .int ik, .ref w5, .int (nI ln), .int e1, .int e2, .ref w6, .int (nI tm), .int (nI sp)])), (w1, .inl (G.2.1, 508, .inl z))] (some (.int ((hrS z n).2))) [(m, .inr (7, [.ref w1, .ref w2, .ref w3, .int (nI ns), .ref w4, .int ik, .ref w5, .int (nI ln), .int e1, .int e2, .ref w6, .int (nI tm), .int (nI sp)])), (w1, .inl (G.2.1, 508, .inl ((hrS z n).1)))] := by
  refine MU.of (cc := cX7_anHour) (maxL := 5) (ret := (some .int)) (by decide) rfl (Nat.le_of_ble_eq_true rfl) ?_
  intro cx hxl hxG C M E
  subst hxl
  subst hxG
  show X cx (0, 0) [(m, .inr (7, [.ref w1, .ref w2, .ref w3, .int (nI ns), .ref w4, .int ik, .ref w5, .int (nI ln), .int e1, .int e2, .ref w6, .int (nI tm), .int (nI sp)])), (w1, .inl ((xG cx).2.1, 508, .inl z))] [(0, .ref m)] 0 []
  refine x_iconst (v := 0) C dX7_anHour_0 (by decide) ?_
  refine x_istore_n C [(1, .int 0), (0, .ref m)] dX7_anHour_1 rfl (by decide) rfl ?_
  refine x_aload_n C 1 dX7_anHour_2 rfl rfl ?_
  refine x_getf C 0 rfl rfl i_kX7_anHour_X7 0 (by decide) m_kX7_anHour_1 rfl rfl dX7_anHour_3 ?_
  refine x_iconst (v := 2) C dX7_anHour_6 (by decide) ?_
  refine x_dup2 C dX7_anHour_7 rfl rfl ?_
  refine x_iald C 1 rfl rfl (vp_in_nI (n := 2) (by decide) (by decide)) (congrArg z (nI_clamp (n := 2) (by decide))) dX7_anHour_8 ?_
  refine x_iconst (v := 1) C dX7_anHour_9 (by decide) ?_
  refine x_iadd C (rfl) dX7_anHour_10 ?_
  refine x_iast C M 1 rfl rfl (vp_in_nI (n := 2) (by decide) (by decide)) (nI_clamp (n := 2) (by decide)) [(m, .inr (7, [.ref w1, .ref w2, .ref w3, .int (nI ns), .ref w4, .int ik, .ref w5, .int (nI ln), .int e1, .int e2, .ref w6, .int (nI tm), .int (nI sp)])), (w1, .inl ((xG cx).2.1, 508, .inl (upd z 2 ((z 2) + 1))))] rfl dX7_anHour_11 ?_
  refine x_iconst (v := 0) C dX7_anHour_12 (by decide) ?_
  refine x_istore_n C [(2, .int 0), (1, .int 0), (0, .ref m)] dX7_anHour_13 rfl (by decide) rfl ?_
  have loop_14 : ∀ (zz : Nat) (i : Nat) (acc : Int32) (y : Nat → Int32) (hi : i ≤ n) (hz : n + 1 ≤ i + zz) (ey : lmS (upd z 2 (z 2 + 1)) i = (y, acc)) (hoy : okZ y n), X cx (0, 0) [(m, .inr (7, [.ref w1, .ref w2, .ref w3, .int (nI ns), .ref w4, .int ik, .ref w5, .int (nI ln), .int e1, .int e2, .ref w6, .int (nI tm), .int (nI sp)])), (w1, .inl ((xG cx).2.1, 508, .inl y))] [(0, .ref m), (1, .int acc), (2, .int (nI i))] 14 [] := by
    intro zz
    induction zz with
    | zero =>
      intro i acc y hi hz ey hoy
      exfalso; omega
    | succ zz ih =>
      intro i acc y hi hz ey hoy
      refine x_iload_n C 2 dX7_anHour_14 rfl rfl ?_
      have hn60 := hoy.1
      refine x_aload_n C 0 dX7_anHour_15 rfl rfl ?_
      refine x_getf C 0 rfl rfl i_kX7_anHour_X7 0 (by decide) m_kX7_anHour_1 rfl rfl dX7_anHour_16 ?_
      refine x_iconst (v := 3) C dX7_anHour_19 (by decide) ?_
      refine x_iald C 1 rfl rfl (vp_in_nI (n := 3) (by decide) (by decide)) ((congrArg y (nI_clamp (n := 3) (by decide))).trans hoy.2.1) dX7_anHour_20 ?_
      refine x_icmp_ge C 119 dX7_anHour_21 (by decide) (fun c_21 => ?_) (fun c_21 => ?_)
      ·
        have n_21 : n ≤ i := (nI_leI (a := n) (b := i) (by omega) (by omega)).mp c_21
        refine x_iconst (v := 0) C dX7_anHour_119 (by decide) ?_
        refine x_istore_n C [(2, .int 0), (0, .ref m), (1, .int acc)] dX7_anHour_120 rfl (by decide) rfl ?_
        have loop_121 : ∀ (zz : Nat) (r : Nat) (y : Nat → Int32) (hr : r ≤ 3) (hz2 : 4 ≤ r + zz) (ey2 : y = rkS (lmS (upd z 2 (z 2 + 1)) n).1 r) (hoy : okZ y n), X cx (0, 0) [(m, .inr (7, [.ref w1, .ref w2, .ref w3, .int (nI ns), .ref w4, .int ik, .ref w5, .int (nI ln), .int e1, .int e2, .ref w6, .int (nI tm), .int (nI sp)])), (w1, .inl ((xG cx).2.1, 508, .inl y))] [(0, .ref m), (1, .int acc), (2, .int (nI r))] 121 [] := by
          intro zz
          induction zz with
          | zero =>
            intro r y hr hz2 ey2 hoy
            exfalso; omega
          | succ zz ih =>
            intro r y hr hz2 ey2 hoy
            refine x_iload_n C 2 dX7_anHour_121 rfl rfl ?_
            refine x_iconst (v := 3) C dX7_anHour_122 (by decide) ?_
            refine x_icmp_ge C 253 dX7_anHour_123 (by decide) (fun c_123 => ?_) (fun c_123 => ?_)
            ·
              have n_123 : 3 ≤ r := (nI_leI (a := 3) (b := r) (by omega) (by omega)).mp c_123
              refine x_iload_n C 1 dX7_anHour_253 rfl rfl ?_
              exact x_iret C E dX7_anHour_254 ((congrArg Prod.snd ((congrArg (lmS _) (show n = i from by omega)).trans ey)).symm) (by rw [ey2, show r = 3 from by omega]; rfl)
            ·
              have n_123 : ¬ (3 ≤ r) := fun q => c_123 ((nI_leI (a := 3) (b := r) (by omega) (by omega)).mpr q)
              refine x_bipush (v := 16) C dX7_anHour_126 (by decide) ?_
              refine x_iconst (v := 4) C dX7_anHour_128 (by decide) ?_
              refine x_iload_n C 2 dX7_anHour_129 rfl rfl ?_
              refine x_imul C (pk_mul 4 r) dX7_anHour_130 ?_
              refine x_iadd C (nI_add 16 (4 * r)) dX7_anHour_131 ?_
              refine x_istore_n C [(3, .int (nI (16 + (4 * r)))), (0, .ref m), (1, .int acc), (2, .int (nI r))] dX7_anHour_132 rfl (by decide) rfl ?_
              refine x_aload_n C 1 dX7_anHour_133 rfl rfl ?_
              refine x_getf C 0 rfl rfl i_kX7_anHour_X7 0 (by decide) m_kX7_anHour_1 rfl rfl dX7_anHour_134 ?_
              refine x_iload_n C 0 dX7_anHour_137 rfl rfl ?_
              refine x_iconst (v := 3) C dX7_anHour_138 (by decide) ?_
              refine x_iadd C (nI_add (16 + (4 * r)) 3) dX7_anHour_139 ?_
              refine x_dup2 C dX7_anHour_140 rfl rfl ?_
              refine x_iald C 1 rfl rfl (vp_in_nI (by omega) (by decide)) (congrArg y (nI_clamp (by omega))) dX7_anHour_141 ?_
              refine x_aload_n C 1 dX7_anHour_142 rfl rfl ?_
              refine x_getf C 0 rfl rfl i_kX7_anHour_X7 0 (by decide) m_kX7_anHour_1 rfl rfl dX7_anHour_143 ?_
              refine x_iload_n C 0 dX7_anHour_146 rfl rfl ?_
              refine x_iconst (v := 1) C dX7_anHour_147 (by decide) ?_
              refine x_iadd C (nI_add (16 + (4 * r)) 1) dX7_anHour_148 ?_
              refine x_iald C 1 rfl rfl (vp_in_nI (by omega) (by decide)) (congrArg y (nI_clamp (by omega))) dX7_anHour_149 ?_
              have join_158 : ∀ (v0 : Int32) (hv0 : v0 = if 0 < y (16 + 4 * r + 1) then 1 else 0), X cx (0, 0) [(m, .inr (7, [.ref w1, .ref w2, .ref w3, .int (nI ns), .ref w4, .int ik, .ref w5, .int (nI ln), .int e1, .int e2, .ref w6, .int (nI tm), .int (nI sp)])), (w1, .inl ((xG cx).2.1, 508, .inl y))] [(3, .int (nI (16 + (4 * r)))), (0, .ref m), (1, .int acc), (2, .int (nI r))] 158 [.int v0, .int (y ((16 + (4 * r)) + 3)), .int (nI ((16 + (4 * r)) + 3)), .ref w1] := by
                intro v0 hv0
                subst hv0
                refine x_iadd C (rfl) dX7_anHour_158 ?_
                refine x_iast C M 1 rfl rfl (vp_in_nI (by omega) (by decide)) (nI_clamp (by omega)) [(m, .inr (7, [.ref w1, .ref w2, .ref w3, .int (nI ns), .ref w4, .int ik, .ref w5, .int (nI ln), .int e1, .int e2, .ref w6, .int (nI tm), .int (nI sp)])), (w1, .inl ((xG cx).2.1, 508, .inl (upd y ((16 + (4 * r)) + 3) ((y ((16 + (4 * r)) + 3)) + (if 0 < y (16 + 4 * r + 1) then 1 else 0)))))] rfl dX7_anHour_159 ?_
                refine x_ws [(m, .inr (7, [.ref w1, .ref w2, .ref w3, .int (nI ns), .ref w4, .int ik, .ref w5, .int (nI ln), .int e1, .int e2, .ref w6, .int (nI tm), .int (nI sp)])), (w1, .inl ((xG cx).2.1, 508, .inl (v1 y r)))] (rfl) ?_
                refine x_aload_n C 1 dX7_anHour_160 rfl rfl ?_
                refine x_getf C 0 rfl rfl i_kX7_anHour_X7 0 (by decide) m_kX7_anHour_1 rfl rfl dX7_anHour_161 ?_
                refine x_iload_n C 0 dX7_anHour_164 rfl rfl ?_
                refine x_iconst (v := 1) C dX7_anHour_165 (by decide) ?_
                refine x_iadd C (nI_add (16 + (4 * r)) 1) dX7_anHour_166 ?_
                refine x_iald C 1 rfl rfl (vp_in_nI (by omega) (by decide)) (congrArg (v1 y r) (nI_clamp (by omega))) dX7_anHour_167 ?_
                refine x_if_le C 247 dX7_anHour_168 (by decide) (fun c_168 => ?_) (fun c_168 => ?_)
                ·
                  refine x_iinc C 3 [(2, .int (nI (r + 1))), (3, .int (nI (16 + (4 * r)))), (0, .ref m), (1, .int acc)] dX7_anHour_247 rfl (inc1 r) (by decide) rfl ?_
                  refine x_goto (tgt := 121) C dX7_anHour_250 (by decide) ?_
                  refine x_lv [(0, .ref m), (1, .int acc), (2, .int (nI (r + 1)))] [2, 3, 0] rfl ?_
                  exact ih (r + 1) (v1 y r) (by omega) (by omega) (by rw [rkS_s, ← ey2]; exact (if_neg (Int32.not_lt.mpr c_168)).symm) (v1_ok hoy (by omega))
                ·
                  refine x_aload_n C 1 dX7_anHour_171 rfl rfl ?_
                  refine x_getf C 0 rfl rfl i_kX7_anHour_X7 0 (by decide) m_kX7_anHour_1 rfl rfl dX7_anHour_172 ?_
                  refine x_iload_n C 0 dX7_anHour_175 rfl rfl ?_
                  refine x_iconst (v := 3) C dX7_anHour_176 (by decide) ?_
                  refine x_iadd C (nI_add (16 + (4 * r)) 3) dX7_anHour_177 ?_
                  refine x_iald C 1 rfl rfl (vp_in_nI (by omega) (by decide)) (congrArg (v1 y r) (nI_clamp (by omega))) dX7_anHour_178 ?_
                  refine x_aload_n C 1 dX7_anHour_179 rfl rfl ?_
                  refine x_getf C 0 rfl rfl i_kX7_anHour_X7 0 (by decide) m_kX7_anHour_1 rfl rfl dX7_anHour_180 ?_
                  refine x_iload_n C 0 dX7_anHour_183 rfl rfl ?_
                  refine x_iconst (v := 1) C dX7_anHour_184 (by decide) ?_
                  refine x_iadd C (nI_add (16 + (4 * r)) 1) dX7_anHour_185 ?_
                  refine x_iald C 1 rfl rfl (vp_in_nI (by omega) (by decide)) (congrArg (v1 y r) (nI_clamp (by omega))) dX7_anHour_186 ?_
                  refine x_icmp_ne C 247 dX7_anHour_187 (by decide) (fun c_187 => ?_) (fun c_187 => ?_)
                  ·
                    refine x_iinc C 3 [(2, .int (nI (r + 1))), (3, .int (nI (16 + (4 * r)))), (0, .ref m), (1, .int acc)] dX7_anHour_247 rfl (inc1 r) (by decide) rfl ?_
                    refine x_goto (tgt := 121) C dX7_anHour_250 (by decide) ?_
                    refine x_lv [(0, .ref m), (1, .int acc), (2, .int (nI (r + 1)))] [2, 3, 0] rfl ?_
                    exact ih (r + 1) (v1 y r) (by omega) (by omega) (by rw [rkS_s, ← ey2]; exact ((if_pos (Int32.not_le.mp c_168)).trans (if_neg c_187)).symm) (v1_ok hoy (by omega))
                  ·
                    refine x_aload_n C 1 dX7_anHour_190 rfl rfl ?_
                    refine x_getf C 0 rfl rfl i_kX7_anHour_X7 0 (by decide) m_kX7_anHour_1 rfl rfl dX7_anHour_191 ?_
                    refine x_iload_n C 0 dX7_anHour_194 rfl rfl ?_
                    refine x_iald C 1 rfl rfl (vp_in_nI (by omega) (by decide)) (congrArg (v1 y r) (nI_clamp (by omega))) dX7_anHour_195 ?_
                    refine x_aload_n C 1 dX7_anHour_196 rfl rfl ?_
                    refine x_getf C 0 rfl rfl i_kX7_anHour_X7 0 (by decide) m_kX7_anHour_1 rfl rfl dX7_anHour_197 ?_
                    refine x_iload_n C 0 dX7_anHour_200 rfl rfl ?_
                    refine x_iconst (v := 2) C dX7_anHour_201 (by decide) ?_
                    refine x_iadd C (nI_add (16 + (4 * r)) 2) dX7_anHour_202 ?_
                    refine x_iald C 1 rfl rfl (vp_in_nI (by omega) (by decide)) (congrArg (v1 y r) (nI_clamp (by omega))) dX7_anHour_203 ?_
                    refine x_iadd C (rfl) dX7_anHour_204 ?_
                    refine x_istore C [(4, .int (((v1 y r) (16 + (4 * r))) + ((v1 y r) ((16 + (4 * r)) + 2)))), (3, .int (nI (16 + (4 * r)))), (0, .ref m), (1, .int acc), (2, .int (nI r))] dX7_anHour_205 (by decide) rfl ?_
                    refine x_aload_n C 2 dX7_anHour_207 rfl rfl ?_
                    refine x_getf C 0 rfl rfl i_kX7_anHour_X7 0 (by decide) m_kX7_anHour_1 rfl rfl dX7_anHour_208 ?_
                    refine x_iload_n C 1 dX7_anHour_211 rfl rfl ?_
                    refine x_iload C 0 dX7_anHour_212 rfl ?_
                    have join_237 : ∀ (v0 : Int32) (hv0 : v0 = clR (v1 y r (16 + 4 * r) + v1 y r (16 + 4 * r + 2))), X cx (0, 0) [(m, .inr (7, [.ref w1, .ref w2, .ref w3, .int (nI ns), .ref w4, .int ik, .ref w5, .int (nI ln), .int e1, .int e2, .ref w6, .int (nI tm), .int (nI sp)])), (w1, .inl ((xG cx).2.1, 508, .inl (v1 y r)))] [(4, .int (((v1 y r) (16 + (4 * r))) + ((v1 y r) ((16 + (4 * r)) + 2)))), (3, .int (nI (16 + (4 * r)))), (0, .ref m), (1, .int acc), (2, .int (nI r))] 237 [.int v0, .int (nI (16 + (4 * r))), .ref w1] := by
                      intro v0 hv0
                      subst hv0
                      refine x_iast C M 1 rfl rfl (vp_in_nI (by omega) (by decide)) (nI_clamp (by omega)) [(m, .inr (7, [.ref w1, .ref w2, .ref w3, .int (nI ns), .ref w4, .int ik, .ref w5, .int (nI ln), .int e1, .int e2, .ref w6, .int (nI tm), .int (nI sp)])), (w1, .inl ((xG cx).2.1, 508, .inl (upd (v1 y r) (16 + (4 * r)) (clR (v1 y r (16 + 4 * r) + v1 y r (16 + 4 * r + 2))))))] rfl dX7_anHour_237 ?_
                      refine x_aload_n C 2 dX7_anHour_238 rfl rfl ?_
                      refine x_getf C 0 rfl rfl i_kX7_anHour_X7 0 (by decide) m_kX7_anHour_1 rfl rfl dX7_anHour_239 ?_
                      refine x_iload_n C 1 dX7_anHour_242 rfl rfl ?_
                      refine x_iconst (v := 3) C dX7_anHour_243 (by decide) ?_
                      refine x_iadd C (nI_add (16 + (4 * r)) 3) dX7_anHour_244 ?_
                      refine x_iconst (v := 0) C dX7_anHour_245 (by decide) ?_
                      refine x_iast C M 1 rfl rfl (vp_in_nI (by omega) (by decide)) (nI_clamp (by omega)) [(m, .inr (7, [.ref w1, .ref w2, .ref w3, .int (nI ns), .ref w4, .int ik, .ref w5, .int (nI ln), .int e1, .int e2, .ref w6, .int (nI tm), .int (nI sp)])), (w1, .inl ((xG cx).2.1, 508, .inl (upd (upd (v1 y r) (16 + (4 * r)) (clR (v1 y r (16 + 4 * r) + v1 y r (16 + 4 * r + 2)))) ((16 + (4 * r)) + 3) 0)))] rfl dX7_anHour_246 ?_
                      refine x_iinc C 4 [(2, .int (nI (r + 1))), (4, .int (((v1 y r) (16 + (4 * r))) + ((v1 y r) ((16 + (4 * r)) + 2)))), (3, .int (nI (16 + (4 * r)))), (0, .ref m), (1, .int acc)] dX7_anHour_247 rfl (inc1 r) (by decide) rfl ?_
                      refine x_goto (tgt := 121) C dX7_anHour_250 (by decide) ?_
                      refine x_lv [(0, .ref m), (1, .int acc), (2, .int (nI (r + 1)))] [3, 4, 0] rfl ?_
                      exact ih (r + 1) (upd (upd (v1 y r) (16 + (4 * r)) (clR (v1 y r (16 + 4 * r) + v1 y r (16 + 4 * r + 2)))) ((16 + (4 * r)) + 3) 0) (by omega) (by omega) (by rw [rkS_s, ← ey2]; exact ((if_pos (Int32.not_le.mp c_168)).trans (if_pos c_187)).symm) (v2_ok hoy (by omega))
                    refine x_if_ge C 221 dX7_anHour_214 (by decide) (fun c_214 => ?_) (fun c_214 => ?_)
                    ·
                      refine x_iload C 0 dX7_anHour_221 rfl ?_
                      refine x_sipush (v := 300) C dX7_anHour_223 (by decide) ?_
                      refine x_icmp_le C 235 dX7_anHour_226 (by decide) (fun c_226 => ?_) (fun c_226 => ?_)
                      ·
                        refine x_iload C 0 dX7_anHour_235 rfl ?_
                        exact join_237 _ (((if_pos c_214).trans (if_pos c_226)).symm)
                      ·
                        refine x_sipush (v := 300) C dX7_anHour_229 (by decide) ?_
                        refine x_goto (tgt := 237) C dX7_anHour_232 (by decide) ?_
                        exact join_237 _ (((if_pos c_214).trans (if_neg c_226)).symm)
                    ·
                      refine x_iconst (v := 0) C dX7_anHour_217 (by decide) ?_
                      refine x_goto (tgt := 237) C dX7_anHour_218 (by decide) ?_
                      exact join_237 _ ((if_neg c_214).symm)
              refine x_if_le C 157 dX7_anHour_150 (by decide) (fun c_150 => ?_) (fun c_150 => ?_)
              ·
                refine x_iconst (v := 0) C dX7_anHour_157 (by decide) ?_
                exact join_158 _ ((if_neg (Int32.not_lt.mpr c_150)).symm)
              ·
                refine x_iconst (v := 1) C dX7_anHour_153 (by decide) ?_
                refine x_goto (tgt := 158) C dX7_anHour_154 (by decide) ?_
                exact join_158 _ ((if_pos (Int32.not_le.mp c_150)).symm)
        refine x_lv [(0, .ref m), (1, .int acc), (2, .int (nI 0))] [1, 2, 0] rfl ?_
        exact loop_121 (4) 0 y (by omega) (by omega) ((congrArg Prod.fst ((congrArg (lmS _) (show n = i from by omega)).trans ey)).symm) (hoy)
      ·
        have n_21 : ¬ (n ≤ i) := fun q => c_21 ((nI_leI (a := n) (b := i) (by omega) (by omega)).mpr q)
        refine x_aload_n C 0 dX7_anHour_24 rfl rfl ?_
        refine x_iload_n C 2 dX7_anHour_25 rfl rfl ?_
        refine x_callVRO C ([.int (nI i)]) ([]) [0, 1] (k0 := 0) (na := 1) gX7_anHour_X7_burns rfl (by decide +kernel) rfl rfl rfl (kX7_burns (xl cx) (xG cx) m w1 w2 w3 w4 w5 w6 ns ln tm sp ik e1 e2 y i (by first | assumption | rfl | omega | decide) (hoy.2.2.2)) rfl (by decide) rfl rfl rfl ⟨by decide, by decide⟩ (Nat.le_of_ble_eq_true rfl) ⟨by decide, by decide⟩ dX7_anHour_26 ?_
        refine x_ifb_eq (P := brnB y i = true) C 113 dX7_anHour_29 (by decide) (fun c_29 => ?_) (fun c_29 => ?_)
        ·
          refine x_iinc C 2 [(2, .int (nI (i + 1))), (0, .ref m), (1, .int acc)] dX7_anHour_113 rfl (inc1 i) (by decide) rfl ?_
          refine x_goto (tgt := 14) C dX7_anHour_116 (by decide) ?_
          refine x_lv [(0, .ref m), (1, .int acc), (2, .int (nI (i + 1)))] [1, 2, 0] rfl ?_
          exact ih (i + 1) acc y (by omega) (by omega) (lmS_c ey (c_29)) (hoy)
        ·
          refine x_aload_n C 0 dX7_anHour_32 rfl rfl ?_
          refine x_iload_n C 2 dX7_anHour_33 rfl rfl ?_
          refine x_iconst (v := 5) C dX7_anHour_34 (by decide) ?_
          refine x_aload_n C 0 dX7_anHour_35 rfl rfl ?_
          refine x_iload_n C 2 dX7_anHour_36 rfl rfl ?_
          refine x_iconst (v := 5) C dX7_anHour_37 (by decide) ?_
          refine x_callVRO C ([.int (nI i), .int 5]) ([.int 5, .int (nI i), .ref m]) [0, 1] (k0 := 0) (na := 2) gX7_anHour_X7_of rfl (by decide +kernel) rfl rfl rfl (kX7_of (xl cx) (xG cx) m w1 w2 w3 w4 w5 w6 ns ln tm sp ik e1 e2 y i 5 (by first | assumption | rfl | omega | decide) (by first | assumption | rfl | omega | decide)) rfl (by decide) rfl rfl rfl ⟨by decide, by decide⟩ (Nat.le_of_ble_eq_true rfl) ⟨by decide, by decide⟩ dX7_anHour_38 ?_
          refine x_iconst (v := 1) C dX7_anHour_41 (by decide) ?_
          refine x_iadd C (rfl) dX7_anHour_42 ?_
          refine x_callVMU C ([.int (nI i), .int 5, .int ((zl y i 5) + 1)]) ([]) [0, 1] [(m, .inr (7, [.ref w1, .ref w2, .ref w3, .int (nI ns), .ref w4, .int ik, .ref w5, .int (nI ln), .int e1, .int e2, .ref w6, .int (nI tm), .int (nI sp)])), (w1, .inl ((xG cx).2.1, 508, .inl (upd y (28 + 8 * i + 5) ((zl y i 5) + 1))))] [] [m, w1] rfl rfl [] rfl rfl 2 rfl (by decide +kernel) rfl (k0 := 0) (na := 3) gX7_anHour_X7_lay rfl (by decide +kernel) rfl rfl rfl M (kX7_lay (xl cx) (xG cx) m w1 w2 w3 w4 w5 w6 ns ln tm sp ik e1 e2 y i 5 ((zl y i 5) + 1) (by first | assumption | rfl | omega | decide) (by first | assumption | rfl | omega | decide)) rfl (by decide) rfl rfl rfl ⟨by decide, by decide⟩ (Nat.le_of_ble_eq_true rfl) ⟨by decide, by decide⟩ dX7_anHour_43 ?_
          refine x_ws [(m, .inr (7, [.ref w1, .ref w2, .ref w3, .int (nI ns), .ref w4, .int ik, .ref w5, .int (nI ln), .int e1, .int e2, .ref w6, .int (nI tm), .int (nI sp)])), (w1, .inl ((xG cx).2.1, 508, .inl (u1 y i)))] (rfl) ?_
          refine x_aload_n C 0 dX7_anHour_46 rfl rfl ?_
          refine x_iload_n C 2 dX7_anHour_47 rfl rfl ?_
          refine x_iconst (v := 4) C dX7_anHour_48 (by decide) ?_
          refine x_aload_n C 0 dX7_anHour_49 rfl rfl ?_
          refine x_iload_n C 2 dX7_anHour_50 rfl rfl ?_
          refine x_iconst (v := 4) C dX7_anHour_51 (by decide) ?_
          refine x_callVRO C ([.int (nI i), .int 4]) ([.int 4, .int (nI i), .ref m]) [0, 1] (k0 := 0) (na := 2) gX7_anHour_X7_of rfl (by decide +kernel) rfl rfl rfl (kX7_of (xl cx) (xG cx) m w1 w2 w3 w4 w5 w6 ns ln tm sp ik e1 e2 (u1 y i) i 4 (by first | assumption | rfl | omega | decide) (by first | assumption | rfl | omega | decide)) rfl (by decide) rfl rfl rfl ⟨by decide, by decide⟩ (Nat.le_of_ble_eq_true rfl) ⟨by decide, by decide⟩ dX7_anHour_52 ?_
          refine x_aload_n C 0 dX7_anHour_55 rfl rfl ?_
          refine x_aload_n C 0 dX7_anHour_56 rfl rfl ?_
          refine x_aload_n C 0 dX7_anHour_57 rfl rfl ?_
          refine x_iload_n C 2 dX7_anHour_58 rfl rfl ?_
          refine x_iconst (v := 1) C dX7_anHour_59 (by decide) ?_
          refine x_callVRO C ([.int (nI i), .int 1]) ([.ref m, .ref m, .int (zl (u1 y i) i 4), .int 4, .int (nI i), .ref m]) [0, 1] (k0 := 0) (na := 2) gX7_anHour_X7_of rfl (by decide +kernel) rfl rfl rfl (kX7_of (xl cx) (xG cx) m w1 w2 w3 w4 w5 w6 ns ln tm sp ik e1 e2 (u1 y i) i 1 (by first | assumption | rfl | omega | decide) (by first | assumption | rfl | omega | decide)) rfl (by decide) rfl rfl rfl ⟨by decide, by decide⟩ (Nat.le_of_ble_eq_true rfl) ⟨by decide, by decide⟩ dX7_anHour_60 ?_
          have hr1 : zl y i 1 ≠ -1005 := ((brn_iff y i).mp c_29).2.1
          have hu1 : zl (u1 y i) i 1 = zl y i 1 := upd_ne (by omega)
          obtain ⟨kr, h_kr, e_kr⟩ := ((u1_ok hoy).2.2.2 i (by omega)).resolve_left (by rw [hu1]; exact hr1)
          rw [e_kr]
          refine x_iconst (v := 0) C dX7_anHour_63 (by decide) ?_
          refine x_callVRO C ([.int (nI kr), .int 0]) ([.ref m, .int (zl (u1 y i) i 4), .int 4, .int (nI i), .ref m]) [0, 1] (k0 := 0) (na := 2) gX7_anHour_X7_ofRack rfl (by decide +kernel) rfl rfl rfl (kX7_ofRack (xl cx) (xG cx) m w1 w2 w3 w4 w5 w6 ns ln tm sp ik e1 e2 (u1 y i) kr 0 (by first | assumption | rfl | omega | decide) (by first | assumption | rfl | omega | decide)) rfl (by decide) rfl rfl rfl ⟨by decide, by decide⟩ (Nat.le_of_ble_eq_true rfl) ⟨by decide, by decide⟩ dX7_anHour_64 ?_
          refine x_aload_n C 0 dX7_anHour_67 rfl rfl ?_
          refine x_iload_n C 2 dX7_anHour_68 rfl rfl ?_
          refine x_callVRO C ([.int (nI i)]) ([.int (zr (u1 y i) kr 0), .ref m, .int (zl (u1 y i) i 4), .int 4, .int (nI i), .ref m]) [0, 1] (k0 := 0) (na := 1) gX7_anHour_X7_isHot rfl (by decide +kernel) rfl rfl rfl (kX7_isHot (xl cx) (xG cx) m w1 w2 w3 w4 w5 w6 ns ln tm sp ik e1 e2 (u1 y i) i (by first | assumption | rfl | omega | decide)) rfl (by decide) rfl rfl rfl ⟨by decide, by decide⟩ (Nat.le_of_ble_eq_true rfl) ⟨by decide, by decide⟩ dX7_anHour_69 ?_
          refine x_callVRO C ([.int (zr (u1 y i) kr 0), .int (b2i (3 ≤ zl (u1 y i) i 2 ∧ zl (u1 y i) i 2 ≤ 4))]) ([.int (zl (u1 y i) i 4), .int 4, .int (nI i), .ref m]) [0, 1] (k0 := 0) (na := 2) gX7_anHour_X7_wearAt rfl (by decide +kernel) rfl rfl rfl (kX7_wearAt (xl cx) (xG cx) m w1 w2 w3 w4 w5 w6 ns ln tm sp ik e1 e2 (u1 y i) (zr (u1 y i) kr 0) (b2i (3 ≤ zl (u1 y i) i 2 ∧ zl (u1 y i) i 2 ≤ 4)) ((u1_ok (i := i) hoy).2.2.1)) rfl (by decide) rfl rfl rfl ⟨by decide, by decide⟩ (Nat.le_of_ble_eq_true rfl) ⟨by decide, by decide⟩ dX7_anHour_72 ?_
          refine x_iadd C (rfl) dX7_anHour_75 ?_
          refine x_callVMU C ([.int (nI i), .int 4, .int ((zl (u1 y i) i 4) + (wA (u1 y i) (zr (u1 y i) kr 0) (b2i (3 ≤ zl (u1 y i) i 2 ∧ zl (u1 y i) i 2 ≤ 4))))]) ([]) [0, 1] [(m, .inr (7, [.ref w1, .ref w2, .ref w3, .int (nI ns), .ref w4, .int ik, .ref w5, .int (nI ln), .int e1, .int e2, .ref w6, .int (nI tm), .int (nI sp)])), (w1, .inl ((xG cx).2.1, 508, .inl (upd (u1 y i) (28 + 8 * i + 4) ((zl (u1 y i) i 4) + (wA (u1 y i) (zr (u1 y i) kr 0) (b2i (3 ≤ zl (u1 y i) i 2 ∧ zl (u1 y i) i 2 ≤ 4)))))))] [] [m, w1] rfl rfl [] rfl rfl 2 rfl (by decide +kernel) rfl (k0 := 0) (na := 3) gX7_anHour_X7_lay rfl (by decide +kernel) rfl rfl rfl M (kX7_lay (xl cx) (xG cx) m w1 w2 w3 w4 w5 w6 ns ln tm sp ik e1 e2 (u1 y i) i 4 ((zl (u1 y i) i 4) + (wA (u1 y i) (zr (u1 y i) kr 0) (b2i (3 ≤ zl (u1 y i) i 2 ∧ zl (u1 y i) i 2 ≤ 4)))) (by first | assumption | rfl | omega | decide) (by first | assumption | rfl | omega | decide)) rfl (by decide) rfl rfl rfl ⟨by decide, by decide⟩ (Nat.le_of_ble_eq_true rfl) ⟨by decide, by decide⟩ dX7_anHour_76 ?_
          refine x_ws [(m, .inr (7, [.ref w1, .ref w2, .ref w3, .int (nI ns), .ref w4, .int ik, .ref w5, .int (nI ln), .int e1, .int e2, .ref w6, .int (nI tm), .int (nI sp)])), (w1, .inl ((xG cx).2.1, 508, .inl (u2 y i)))] (by unfold u2; rw [e_kr, show ixz (nI kr) = kr from ix kr (by omega)]) ?_
          refine x_aload_n C 0 dX7_anHour_79 rfl rfl ?_
          refine x_iload_n C 2 dX7_anHour_80 rfl rfl ?_
          refine x_iconst (v := 4) C dX7_anHour_81 (by decide) ?_
          refine x_callVRO C ([.int (nI i), .int 4]) ([]) [0, 1] (k0 := 0) (na := 2) gX7_anHour_X7_of rfl (by decide +kernel) rfl rfl rfl (kX7_of (xl cx) (xG cx) m w1 w2 w3 w4 w5 w6 ns ln tm sp ik e1 e2 (u2 y i) i 4 (by first | assumption | rfl | omega | decide) (by first | assumption | rfl | omega | decide)) rfl (by decide) rfl rfl rfl ⟨by decide, by decide⟩ (Nat.le_of_ble_eq_true rfl) ⟨by decide, by decide⟩ dX7_anHour_82 ?_
          refine x_bipush (v := 10) C dX7_anHour_85 (by decide) ?_
          refine x_aload_n C 0 dX7_anHour_87 rfl rfl ?_
          refine x_iload_n C 2 dX7_anHour_88 rfl rfl ?_
          refine x_iconst (v := 3) C dX7_anHour_89 (by decide) ?_
          refine x_callVRO C ([.int (nI i), .int 3]) ([.int 10, .int (zl (u2 y i) i 4)]) [0, 1] (k0 := 0) (na := 2) gX7_anHour_X7_of rfl (by decide +kernel) rfl rfl rfl (kX7_of (xl cx) (xG cx) m w1 w2 w3 w4 w5 w6 ns ln tm sp ik e1 e2 (u2 y i) i 3 (by first | assumption | rfl | omega | decide) (by first | assumption | rfl | omega | decide)) rfl (by decide) rfl rfl rfl ⟨by decide, by decide⟩ (Nat.le_of_ble_eq_true rfl) ⟨by decide, by decide⟩ dX7_anHour_90 ?_
          refine x_imul C (rfl) dX7_anHour_93 ?_
          refine x_icmp_lt C 113 dX7_anHour_94 (by decide) (fun c_94 => ?_) (fun c_94 => ?_)
          ·
            refine x_iinc C 2 [(2, .int (nI (i + 1))), (0, .ref m), (1, .int acc)] dX7_anHour_113 rfl (inc1 i) (by decide) rfl ?_
            refine x_goto (tgt := 14) C dX7_anHour_116 (by decide) ?_
            refine x_lv [(0, .ref m), (1, .int acc), (2, .int (nI (i + 1)))] [1, 2, 0] rfl ?_
            exact ih (i + 1) acc (u2 y i) (by omega) (by omega) (lmS_b ey (c_29) (c_94)) (u2_ok hoy)
          ·
            refine x_aload_n C 0 dX7_anHour_97 rfl rfl ?_
            refine x_iload_n C 2 dX7_anHour_98 rfl rfl ?_
            refine x_bipush (v := 6) C dX7_anHour_99 (by decide) ?_
            refine x_aload_n C 0 dX7_anHour_101 rfl rfl ?_
            refine x_getf C 0 rfl rfl i_kX7_anHour_X7 0 (by decide) m_kX7_anHour_1 rfl rfl dX7_anHour_102 ?_
            refine x_iconst (v := 2) C dX7_anHour_105 (by decide) ?_
            refine x_iald C 1 rfl rfl (vp_in_nI (n := 2) (by decide) (by decide)) (congrArg (u2 y i) (nI_clamp (n := 2) (by decide))) dX7_anHour_106 ?_
            refine x_callVMU C ([.int (nI i), .int 6, .int ((u2 y i) 2)]) ([]) [0, 1] [(m, .inr (7, [.ref w1, .ref w2, .ref w3, .int (nI ns), .ref w4, .int ik, .ref w5, .int (nI ln), .int e1, .int e2, .ref w6, .int (nI tm), .int (nI sp)])), (w1, .inl ((xG cx).2.1, 508, .inl (upd (u2 y i) (28 + 8 * i + 6) ((u2 y i) 2))))] [] [m, w1] rfl rfl [] rfl rfl 2 rfl (by decide +kernel) rfl (k0 := 0) (na := 3) gX7_anHour_X7_lay rfl (by decide +kernel) rfl rfl rfl M (kX7_lay (xl cx) (xG cx) m w1 w2 w3 w4 w5 w6 ns ln tm sp ik e1 e2 (u2 y i) i 6 ((u2 y i) 2) (by first | assumption | rfl | omega | decide) (by first | assumption | rfl | omega | decide)) rfl (by decide) rfl rfl rfl ⟨by decide, by decide⟩ (Nat.le_of_ble_eq_true rfl) ⟨by decide, by decide⟩ dX7_anHour_107 ?_
            refine x_ws [(m, .inr (7, [.ref w1, .ref w2, .ref w3, .int (nI ns), .ref w4, .int ik, .ref w5, .int (nI ln), .int e1, .int e2, .ref w6, .int (nI tm), .int (nI sp)])), (w1, .inl ((xG cx).2.1, 508, .inl (u3 y i)))] (rfl) ?_
            refine x_iinc C 1 [(1, .int (acc + 1)), (0, .ref m), (2, .int (nI i))] dX7_anHour_110 rfl (rfl) (by decide) rfl ?_
            refine x_iinc C 2 [(2, .int (nI (i + 1))), (1, .int (acc + 1)), (0, .ref m)] dX7_anHour_113 rfl (inc1 i) (by decide) rfl ?_
            refine x_goto (tgt := 14) C dX7_anHour_116 (by decide) ?_
            refine x_lv [(0, .ref m), (1, .int (acc + 1)), (2, .int (nI (i + 1)))] [2, 1, 0] rfl ?_
            exact ih (i + 1) (acc + 1) (u3 y i) (by omega) (by omega) (lmS_a ey (c_29) (c_94)) (u3_ok hoy)
  refine x_lv [(0, .ref m), (1, .int 0), (2, .int (nI 0))] [2, 1, 0] rfl ?_
  exact loop_14 (n + 1) 0 0 (upd z 2 ((z 2) + 1)) (by omega) (by omega) (rfl) (hr0_ok hok)
