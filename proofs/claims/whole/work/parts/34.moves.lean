def wpR (z : Nat → Int32) (n : Nat) (r p b : Int32) : Int32 :=
  if 0 ≤ r ∧ r ≤ 2 then if 0 ≤ p ∧ p ≤ 7 then if 0 ≤ b ∧ b ≤ 5 then
    if lat z r p n = -1005 then (if n = 60 then -1003 else 0) else -1004
  else -1001 else -1001 else -1001
theorem wpR_ok {z : Nat → Int32} {n : Nat} {r p b : Int32} (h : 0 ≤ wpR z n r p b) : ((0 ≤ r ∧ r ≤ 2) ∧ (0 ≤ p ∧ p ≤ 7)) ∧ ((0 ≤ b ∧ b ≤ 5) ∧ (lat z r p n = -1005 ∧ ¬ n = 60)) := by
  unfold wpR at h
  by_cases h1 : 0 ≤ r ∧ r ≤ 2
  · rw [if_pos h1] at h
    by_cases h2 : 0 ≤ p ∧ p ≤ 7
    · rw [if_pos h2] at h
      by_cases h3 : 0 ≤ b ∧ b ≤ 5
      · rw [if_pos h3] at h
        by_cases h4 : lat z r p n = -1005
        · rw [if_pos h4] at h
          by_cases h5 : n = 60
          · rw [if_pos h5] at h
            exact absurd h (by decide)
          · exact ⟨⟨h1, h2⟩, h3, h4, h5⟩
        · rw [if_neg h4] at h
          exact absurd h (by decide)
      · rw [if_neg h3] at h
        exact absurd h (by decide)
    · rw [if_neg h2] at h
      exact absurd h (by decide)
  · rw [if_neg h1] at h
    exact absurd h (by decide)
def kR (n : Nat) : Int32 := nI (7 * n) - nI (7 * n) / 10 * 10
def lf0 (z : Nat → Int32) (n b : Nat) : Int32 := z (4 + 2 * b) - z (4 + 2 * b) * z (4 + 2 * b + 1) * kR n / 1000
def lf1 (z : Nat → Int32) (n b : Nat) : Int32 := if kR n = 9 then lf0 z n b / 10 else lf0 z n b
def lf2 (z : Nat → Int32) (n b : Nat) : Int32 := if 1 ≤ lf1 z n b then lf1 z n b else 1
def wkR (n : Nat) : Int32 := if kR n = 9 then 1 else 0
def ptZ (z : Nat → Int32) (n : Nat) (r p : Int32) (b : Nat) : Nat → Int32 :=
  upd (upd (upd (upd (upd (upd (upd (upd (upd z (28 + 8 * n + 0) (nI b)) (28 + 8 * n + 1) r) (28 + 8 * n + 2) p) (28 + 8 * n + 3) (lf2 z n b)) (28 + 8 * n + 4) 0) (28 + 8 * n + 5) 0) (28 + 8 * n + 6) (-1005)) (28 + 8 * n + 7) (wkR n)) 3 (nI (n + 1))
theorem put3 {z : Nat → Int32} {n : Nat} {a b c d e f g h : Int32} (hz : z 3 = nI n) : (upd (upd (upd (upd (upd (upd (upd (upd z (28 + 8 * n + 0) a) (28 + 8 * n + 1) b) (28 + 8 * n + 2) c) (28 + 8 * n + 3) d) (28 + 8 * n + 4) e) (28 + 8 * n + 5) f) (28 + 8 * n + 6) g) (28 + 8 * n + 7) h) (Int32.toNatClampNeg 3) = nI n := by
  rw [show Int32.toNatClampNeg 3 = 3 from rfl]
  rw [upd_ne (by omega), upd_ne (by omega), upd_ne (by omega), upd_ne (by omega), upd_ne (by omega), upd_ne (by omega), upd_ne (by omega), upd_ne (by omega)]
  exact hz
def mvZ (z : Nat → Int32) (k r p : Int32) : Nat → Int32 := if k = -1005 then z else upd (upd z (28 + 8 * ixz k + 1) r) (28 + 8 * ixz k + 2) p
def spZ (z : Nat → Int32) (r : Nat) (a b : Int32) : Nat → Int32 := upd (upd (upd z (16 + 4 * r + 1) a) (16 + 4 * r + 2) b) (16 + 4 * r + 3) 0
def wvR (r v : Int32) : Int32 := if 0 ≤ r ∧ r ≤ 2 then (if 0 ≤ v ∧ v ≤ 300 then 0 else -1002) else -1001
theorem wvR_ok {r v : Int32} (h : 0 ≤ wvR r v) : 0 ≤ r ∧ r ≤ 2 := by
  unfold wvR at h
  by_cases h1 : 0 ≤ r ∧ r ≤ 2
  · exact h1
  · rw [if_neg h1] at h
    exact absurd h (by decide)
def wsR (z : Nat → Int32) (h : Int32) : Int32 := if 1 ≤ h ∧ h ≤ 999 then (if z 2 + h ≤ 99999 then 0 else -1003) else -1002
def sbR (z f : Nat → Int32) (ns : Nat) (b h v : Int32) : Int32 × RZ :=
  if 0 ≤ b ∧ b ≤ 5 then if 10 ≤ h ∧ h ≤ 9999 then if 0 ≤ v ∧ v ≤ 90 then
    if z (4 + 2 * ixz b) = h then if z (4 + 2 * ixz b + 1) = v then (-1005, z, f, ns)
      else (z (4 + 2 * ixz b), upd (upd z (4 + 2 * ixz b) h) (4 + 2 * ixz b + 1) v, rcF f ns z, rcN ns)
    else (z (4 + 2 * ixz b), upd (upd z (4 + 2 * ixz b) h) (4 + 2 * ixz b + 1) v, rcF f ns z, rcN ns)
  else (-1002, z, f, ns) else (-1002, z, f, ns) else (-1001, z, f, ns)
def puR (z f : Nat → Int32) (ns n : Nat) (r p b : Int32) : Int32 × RZ := if 0 ≤ wpR z n r p b then (nI n, ptZ z n r p (ixz b), rcF f ns z, rcN ns) else (wpR z n r p b, z, f, ns)
def toR (z f : Nat → Int32) (ns n : Nat) (r p : Int32) : Int32 × RZ :=
  if 0 ≤ r ∧ r ≤ 2 then if 0 ≤ p ∧ p ≤ 7 then if lat z r p n = -1005 then (-1005, z, f, ns)
    else (lat z r p n, mvZ z (lat z r p n) (-1005) (-1005), rcF f ns z, rcN ns)
  else (-1001, z, f, ns) else (-1001, z, f, ns)
def one (x : Int32) : Int32 := if x = -1005 then 0 else 1
def swR (z f : Nat → Int32) (ns n : Nat) (r p s q : Int32) : Int32 × RZ :=
  if 0 ≤ r ∧ r ≤ 2 then if 0 ≤ p ∧ p ≤ 7 then if 0 ≤ s ∧ s ≤ 2 then if 0 ≤ q ∧ q ≤ 7 then
    if one (lat z r p n) + one (lat z s q n) = 0 then (-1005, z, f, ns)
    else if r = s then if p = q then (-1005, z, f, ns)
      else (one (lat z r p n) + one (lat z s q n), mvZ (mvZ z (lat z r p n) s q) (lat z s q n) r p, rcF f ns z, rcN ns)
    else (one (lat z r p n) + one (lat z s q n), mvZ (mvZ z (lat z r p n) s q) (lat z s q n) r p, rcF f ns z, rcN ns)
  else (-1001, z, f, ns) else (-1001, z, f, ns) else (-1001, z, f, ns) else (-1001, z, f, ns)
def svR (z f : Nat → Int32) (ns : Nat) (r v : Int32) : Int32 × RZ :=
  if 0 ≤ wvR r v then if zr z (ixz r) 0 = v then (-1005, z, f, ns) else (zr z (ixz r) 0, upd z (16 + 4 * ixz r) v, rcF f ns z, rcN ns) else (wvR r v, z, f, ns)
def ssR (z f : Nat → Int32) (ns : Nat) (r h v : Int32) : Int32 × RZ :=
  if 0 ≤ r ∧ r ≤ 2 then if 0 ≤ h ∧ h ≤ 99 then if -50 ≤ v ∧ v ≤ 50 then (zr z (ixz r) 1, spZ z (ixz r) h v, rcF f ns z, rcN ns) else (-1002, z, f, ns) else (-1002, z, f, ns) else (-1001, z, f, ns)
def stR (z f : Nat → Int32) (ns : Nat) (w x : Int32) : Int32 × RZ :=
  if 0 ≤ w ∧ w ≤ 1 then if (if w = 0 then 100 else 1) ≤ x ∧ x ≤ (if w = 0 then 300 else 100) then
    if z (ixz w) = x then (-1005, z, f, ns) else (z (ixz w), upd z (ixz w) x, rcF f ns z, rcN ns)
  else (-1002, z, f, ns) else (-1001, z, f, ns)

theorem i_kX7_whyNotPut_X7 : ∀ w ∈ u_ws RX7 TX7 13, w ∈ wsX7_whyNotPut := by decide +kernel
theorem m_kX7_whyNotPut_1 : (Cond.fieldLink RX7 7 "LampRacksModel" "z" "[I" : Cond) ∈ wsX7_whyNotPut := by decide +kernel
set_option maxRecDepth 100000 in
set_option maxHeartbeats 4000000 in
theorem kX7_whyNotPut (l : Launch) (G : GG) (m : Nat) (w1 : Nat) (w2 : Nat) (w3 : Nat) (w4 : Nat) (w5 : Nat) (w6 : Nat) (ns : Nat) (ln : Nat) (tm : Nat) (sp : Nat) (ik : Int32) (e1 : Int32) (e2 : Int32) (z : Nat → Int32) (n : Nat) (r : Int32) (p : Int32) (b : Int32) (hn : n ≤ 60) (hz3 : z 3 = nI n) : RO l G yX7_whyNotPut wsX7_whyNotPut ({ frames := 2, cells := 0, slots := 0, locals := 46 } : Room) [.ref m, .int r, .int p, .int b] [(m, .inr (7, [.ref w1, .ref w2, .ref w3, .int (nI ns), .ref w4, .int ik, .ref w5, .int (nI ln), .int e1, .int e2, .ref w6, .int (nI tm), .int (nI sp)])), (w1, .inl (G.2.1, 508, .inl z))] (.int (wpR z n r p b)) := by
  refine RO.of (cc := cX7_whyNotPut) (maxL := 4) (ret := (some .int)) (by decide) rfl (Nat.le_of_ble_eq_true rfl) ?_
  intro cx hxl hxG C E
  subst hxl
  subst hxG
  show X cx (0, 0) [(m, .inr (7, [.ref w1, .ref w2, .ref w3, .int (nI ns), .ref w4, .int ik, .ref w5, .int (nI ln), .int e1, .int e2, .ref w6, .int (nI tm), .int (nI sp)])), (w1, .inl ((xG cx).2.1, 508, .inl z))] [(0, .ref m), (1, .int r), (2, .int p), (3, .int b)] 0 []
  refine x_iload_n C 1 dX7_whyNotPut_0 rfl rfl ?_
  refine x_callSRO C ([.int r]) ([]) [] (na := 1) gX7_whyNotPut_X7_isRack rfl (by decide +kernel) rfl (kX7_isRack (xl cx) (xG cx) r) rfl (by decide) rfl rfl rfl ⟨by decide, by decide⟩ (Nat.le_of_ble_eq_true rfl) ⟨by decide, by decide⟩ dX7_whyNotPut_1 ?_
  refine x_ifb_eq (P := 0 ≤ r ∧ r ≤ 2) C 21 dX7_whyNotPut_4 (by decide) (fun c_4 => ?_) (fun c_4 => ?_)
  ·
    refine x_sipush (v := (-1001)) C dX7_whyNotPut_21 (by decide) ?_
    refine x_goto (tgt := 63) C dX7_whyNotPut_24 (by decide) ?_
    exact x_iret C E dX7_whyNotPut_63 (by first | (simp [wpR, c_4]; done) | (unfold wpR; rw [if_pos c_4, if_pos c_11, if_pos c_18, if_pos c_36, if_pos n_53])) (rfl)
  ·
    refine x_iload_n C 2 dX7_whyNotPut_7 rfl rfl ?_
    refine x_callSRO C ([.int p]) ([]) [] (na := 1) gX7_whyNotPut_X7_isPlace rfl (by decide +kernel) rfl (kX7_isPlace (xl cx) (xG cx) p) rfl (by decide) rfl rfl rfl ⟨by decide, by decide⟩ (Nat.le_of_ble_eq_true rfl) ⟨by decide, by decide⟩ dX7_whyNotPut_8 ?_
    refine x_ifb_eq (P := 0 ≤ p ∧ p ≤ 7) C 21 dX7_whyNotPut_11 (by decide) (fun c_11 => ?_) (fun c_11 => ?_)
    ·
      refine x_sipush (v := (-1001)) C dX7_whyNotPut_21 (by decide) ?_
      refine x_goto (tgt := 63) C dX7_whyNotPut_24 (by decide) ?_
      exact x_iret C E dX7_whyNotPut_63 (by first | (simp [wpR, c_4, c_11]; done) | (unfold wpR; rw [if_pos c_4, if_pos c_11, if_pos c_18, if_pos c_36, if_pos n_53])) (rfl)
    ·
      refine x_iload_n C 3 dX7_whyNotPut_14 rfl rfl ?_
      refine x_callSRO C ([.int b]) ([]) [] (na := 1) gX7_whyNotPut_X7_isBatch rfl (by decide +kernel) rfl (kX7_isBatch (xl cx) (xG cx) b) rfl (by decide) rfl rfl rfl ⟨by decide, by decide⟩ (Nat.le_of_ble_eq_true rfl) ⟨by decide, by decide⟩ dX7_whyNotPut_15 ?_
      refine x_ifb_ne (P := 0 ≤ b ∧ b ≤ 5) C 27 dX7_whyNotPut_18 (by decide) (fun c_18 => ?_) (fun c_18 => ?_)
      ·
        refine x_aload_n C 0 dX7_whyNotPut_27 rfl rfl ?_
        refine x_iload_n C 1 dX7_whyNotPut_28 rfl rfl ?_
        refine x_iload_n C 2 dX7_whyNotPut_29 rfl rfl ?_
        refine x_callVRO C ([.int r, .int p]) ([]) [0, 1] (k0 := 0) (na := 2) gX7_whyNotPut_X7_lampAt rfl (by decide +kernel) rfl rfl rfl (kX7_lampAt (xl cx) (xG cx) m w1 w2 w3 w4 w5 w6 ns ln tm sp ik e1 e2 z n r p (by first | assumption | rfl | omega | decide) (by first | assumption | rfl | omega | decide)) rfl (by decide) rfl rfl rfl ⟨by decide, by decide⟩ (Nat.le_of_ble_eq_true rfl) ⟨by decide, by decide⟩ dX7_whyNotPut_30 ?_
        refine x_sipush (v := (-1005)) C dX7_whyNotPut_33 (by decide) ?_
        refine x_icmp_eq C 45 dX7_whyNotPut_36 (by decide) (fun c_36 => ?_) (fun c_36 => ?_)
        ·
          refine x_aload_n C 0 dX7_whyNotPut_45 rfl rfl ?_
          refine x_getf C 0 rfl rfl i_kX7_whyNotPut_X7 0 (by decide) m_kX7_whyNotPut_1 rfl rfl dX7_whyNotPut_46 ?_
          refine x_iconst (v := 3) C dX7_whyNotPut_49 (by decide) ?_
          refine x_iald C 1 rfl rfl (vp_in_nI (n := 3) (by decide) (by decide)) ((congrArg z (nI_clamp (n := 3) (by decide))).trans hz3) dX7_whyNotPut_50 ?_
          refine x_bipush (v := 60) C dX7_whyNotPut_51 (by decide) ?_
          refine x_icmp_ne C 62 dX7_whyNotPut_53 (by decide) (fun c_53 => ?_) (fun c_53 => ?_)
          ·
            have n_53 : ¬ (n = 60) := fun q => c_53 ((nI_eq (a := n) (b := 60) (by omega) (by omega)).mpr q)
            refine x_iconst (v := 0) C dX7_whyNotPut_62 (by decide) ?_
            exact x_iret C E dX7_whyNotPut_63 (by first | (simp [wpR, c_4, c_11, c_18, c_36, c_53, n_53]; done) | (unfold wpR; rw [if_pos c_4, if_pos c_11, if_pos c_18, if_pos c_36, if_pos n_53])) (rfl)
          ·
            have n_53 : n = 60 := (nI_eq (a := n) (b := 60) (by omega) (by omega)).mp c_53
            refine x_sipush (v := (-1003)) C dX7_whyNotPut_56 (by decide) ?_
            refine x_goto (tgt := 63) C dX7_whyNotPut_59 (by decide) ?_
            exact x_iret C E dX7_whyNotPut_63 (by first | (simp [wpR, c_4, c_11, c_18, c_36, c_53, n_53]; done) | (unfold wpR; rw [if_pos c_4, if_pos c_11, if_pos c_18, if_pos c_36, if_pos n_53])) (rfl)
        ·
          refine x_sipush (v := (-1004)) C dX7_whyNotPut_39 (by decide) ?_
          refine x_goto (tgt := 63) C dX7_whyNotPut_42 (by decide) ?_
          exact x_iret C E dX7_whyNotPut_63 (by first | (simp [wpR, c_4, c_11, c_18, c_36]; done) | (unfold wpR; rw [if_pos c_4, if_pos c_11, if_pos c_18, if_pos c_36, if_pos n_53])) (rfl)
      ·
        refine x_sipush (v := (-1001)) C dX7_whyNotPut_21 (by decide) ?_
        refine x_goto (tgt := 63) C dX7_whyNotPut_24 (by decide) ?_
        exact x_iret C E dX7_whyNotPut_63 (by first | (simp [wpR, c_4, c_11, c_18]; done) | (unfold wpR; rw [if_pos c_4, if_pos c_11, if_pos c_18, if_pos c_36, if_pos n_53])) (rfl)

theorem i_kX7_putNow_X7 : ∀ w ∈ u_ws RX7 TX7 13, w ∈ wsX7_putNow := by decide +kernel
theorem m_kX7_putNow_1 : (Cond.fieldLink RX7 7 "LampRacksModel" "z" "[I" : Cond) ∈ wsX7_putNow := by decide +kernel
set_option maxRecDepth 100000 in
set_option maxHeartbeats 4000000 in
theorem kX7_putNow (l : Launch) (G : GG) (m : Nat) (w1 : Nat) (w2 : Nat) (w3 : Nat) (w4 : Nat) (w5 : Nat) (w6 : Nat) (ns : Nat) (ln : Nat) (tm : Nat) (sp : Nat) (ik : Int32) (e1 : Int32) (e2 : Int32) (z : Nat → Int32) (n : Nat) (r : Int32) (p : Int32) (b : Nat) (hn : n < 60) (hz3 : z 3 = nI n) (hb : b < 6) : MU l G yX7_putNow wsX7_putNow ({ frames := 1, cells := 0, slots := 0, locals := 23 } : Room) [.ref m, .int r, .int p, .int (nI b)] [(m, .inr (7, [.ref w1, .ref w2, .ref w3, .int (nI ns), .ref w4, .int ik, .ref w5, .int (nI ln), .int e1, .int e2, .ref w6, .int (nI tm), .int (nI sp)])), (w1, .inl (G.2.1, 508, .inl z))] (some (.int (nI n))) [(m, .inr (7, [.ref w1, .ref w2, .ref w3, .int (nI ns), .ref w4, .int ik, .ref w5, .int (nI ln), .int e1, .int e2, .ref w6, .int (nI tm), .int (nI sp)])), (w1, .inl (G.2.1, 508, .inl (ptZ z n r p b)))] := by
  refine MU.of (cc := cX7_putNow) (maxL := 8) (ret := (some .int)) (by decide) rfl (Nat.le_of_ble_eq_true rfl) ?_
  intro cx hxl hxG C M E
  subst hxl
  subst hxG
  show X cx (0, 0) [(m, .inr (7, [.ref w1, .ref w2, .ref w3, .int (nI ns), .ref w4, .int ik, .ref w5, .int (nI ln), .int e1, .int e2, .ref w6, .int (nI tm), .int (nI sp)])), (w1, .inl ((xG cx).2.1, 508, .inl z))] [(0, .ref m), (1, .int r), (2, .int p), (3, .int (nI b))] 0 []
  refine x_aload_n C 0 dX7_putNow_0 rfl rfl ?_
  refine x_getf C 0 rfl rfl i_kX7_putNow_X7 0 (by decide) m_kX7_putNow_1 rfl rfl dX7_putNow_1 ?_
  refine x_iconst (v := 3) C dX7_putNow_4 (by decide) ?_
  refine x_iald C 1 rfl rfl (vp_in_nI (n := 3) (by decide) (by decide)) ((congrArg z (nI_clamp (n := 3) (by decide))).trans hz3) dX7_putNow_5 ?_
  refine x_istore C [(4, .int (nI n)), (0, .ref m), (1, .int r), (2, .int p), (3, .int (nI b))] dX7_putNow_6 (by decide) rfl ?_
  refine x_aload_n C 1 dX7_putNow_8 rfl rfl ?_
  refine x_getf C 0 rfl rfl i_kX7_putNow_X7 0 (by decide) m_kX7_putNow_1 rfl rfl dX7_putNow_9 ?_
  refine x_iconst (v := 4) C dX7_putNow_12 (by decide) ?_
  refine x_iconst (v := 2) C dX7_putNow_13 (by decide) ?_
  refine x_iload_n C 4 dX7_putNow_14 rfl rfl ?_
  refine x_imul C (pk_mul 2 b) dX7_putNow_15 ?_
  refine x_iadd C (nI_add 4 (2 * b)) dX7_putNow_16 ?_
  refine x_iald C 1 rfl rfl (vp_in_nI (by omega) (by decide)) (congrArg z (nI_clamp (by omega))) dX7_putNow_17 ?_
  refine x_istore C [(5, .int (z (4 + (2 * b)))), (4, .int (nI n)), (0, .ref m), (1, .int r), (2, .int p), (3, .int (nI b))] dX7_putNow_18 (by decide) rfl ?_
  refine x_bipush (v := 7) C dX7_putNow_20 (by decide) ?_
  refine x_iload C 1 dX7_putNow_22 rfl ?_
  refine x_imul C (pk_mul 7 n) dX7_putNow_24 ?_
  refine x_bipush (v := 10) C dX7_putNow_25 (by decide) ?_
  refine x_irem C (rfl) dX7_putNow_27 (by decide) ?_
  refine x_top (y := kR n) (rfl) ?_
  refine x_istore C [(6, .int (kR n)), (5, .int (z (4 + (2 * b)))), (4, .int (nI n)), (0, .ref m), (1, .int r), (2, .int p), (3, .int (nI b))] dX7_putNow_28 (by decide) rfl ?_
  refine x_iload C 1 dX7_putNow_30 rfl ?_
  refine x_iload C 1 dX7_putNow_32 rfl ?_
  refine x_aload_n C 3 dX7_putNow_34 rfl rfl ?_
  refine x_getf C 0 rfl rfl i_kX7_putNow_X7 0 (by decide) m_kX7_putNow_1 rfl rfl dX7_putNow_35 ?_
  refine x_iconst (v := 4) C dX7_putNow_38 (by decide) ?_
  refine x_iconst (v := 2) C dX7_putNow_39 (by decide) ?_
  refine x_iload_n C 6 dX7_putNow_40 rfl rfl ?_
  refine x_imul C (pk_mul 2 b) dX7_putNow_41 ?_
  refine x_iadd C (nI_add 4 (2 * b)) dX7_putNow_42 ?_
  refine x_iconst (v := 1) C dX7_putNow_43 (by decide) ?_
  refine x_iadd C (nI_add (4 + (2 * b)) 1) dX7_putNow_44 ?_
  refine x_iald C 1 rfl rfl (vp_in_nI (by omega) (by decide)) (congrArg z (nI_clamp (by omega))) dX7_putNow_45 ?_
  refine x_imul C (rfl) dX7_putNow_46 ?_
  refine x_iload C 0 dX7_putNow_47 rfl ?_
  refine x_imul C (rfl) dX7_putNow_49 ?_
  refine x_sipush (v := 1000) C dX7_putNow_50 (by decide) ?_
  refine x_idiv C (rfl) dX7_putNow_53 (by decide) ?_
  refine x_isub C (rfl) dX7_putNow_54 ?_
  refine x_top (y := lf0 z n b) (rfl) ?_
  refine x_istore C [(7, .int (lf0 z n b)), (6, .int (kR n)), (5, .int (z (4 + (2 * b)))), (4, .int (nI n)), (0, .ref m), (1, .int r), (2, .int p), (3, .int (nI b))] dX7_putNow_55 (by decide) rfl ?_
  refine x_iload C 1 dX7_putNow_57 rfl ?_
  refine x_bipush (v := 9) C dX7_putNow_59 (by decide) ?_
  have join_74 : ∀ (v0 : Int32) (hv0 : v0 = lf1 z n b), X cx (0, 0) [(m, .inr (7, [.ref w1, .ref w2, .ref w3, .int (nI ns), .ref w4, .int ik, .ref w5, .int (nI ln), .int e1, .int e2, .ref w6, .int (nI tm), .int (nI sp)])), (w1, .inl ((xG cx).2.1, 508, .inl z))] [(7, .int (lf0 z n b)), (6, .int (kR n)), (5, .int (z (4 + (2 * b)))), (4, .int (nI n)), (0, .ref m), (1, .int r), (2, .int p), (3, .int (nI b))] 74 [.int v0] := by
    intro v0 hv0
    subst hv0
    refine x_istore C [(7, .int (lf1 z n b)), (6, .int (kR n)), (5, .int (z (4 + (2 * b)))), (4, .int (nI n)), (0, .ref m), (1, .int r), (2, .int p), (3, .int (nI b))] dX7_putNow_74 (by decide) rfl ?_
    refine x_aload_n C 4 dX7_putNow_76 rfl rfl ?_
    refine x_iload C 3 dX7_putNow_77 rfl ?_
    refine x_iconst (v := 0) C dX7_putNow_79 (by decide) ?_
    refine x_iload_n C 7 dX7_putNow_80 rfl rfl ?_
    refine x_callVMU C ([.int (nI n), .int 0, .int (nI b)]) ([]) [0, 1] [(m, .inr (7, [.ref w1, .ref w2, .ref w3, .int (nI ns), .ref w4, .int ik, .ref w5, .int (nI ln), .int e1, .int e2, .ref w6, .int (nI tm), .int (nI sp)])), (w1, .inl ((xG cx).2.1, 508, .inl (upd z (28 + 8 * n + 0) (nI b))))] [] [m, w1] rfl rfl [] rfl rfl 2 rfl (by decide +kernel) rfl (k0 := 0) (na := 3) gX7_putNow_X7_lay rfl (by decide +kernel) rfl rfl rfl M (kX7_lay (xl cx) (xG cx) m w1 w2 w3 w4 w5 w6 ns ln tm sp ik e1 e2 z n 0 (nI b) (by first | assumption | rfl | omega | decide) (by first | assumption | rfl | omega | decide)) rfl (by decide) rfl rfl rfl ⟨by decide, by decide⟩ (Nat.le_of_ble_eq_true rfl) ⟨by decide, by decide⟩ dX7_putNow_81 ?_
    refine x_aload_n C 4 dX7_putNow_84 rfl rfl ?_
    refine x_iload C 3 dX7_putNow_85 rfl ?_
    refine x_iconst (v := 1) C dX7_putNow_87 (by decide) ?_
    refine x_iload_n C 5 dX7_putNow_88 rfl rfl ?_
    refine x_callVMU C ([.int (nI n), .int 1, .int r]) ([]) [0, 1] [(m, .inr (7, [.ref w1, .ref w2, .ref w3, .int (nI ns), .ref w4, .int ik, .ref w5, .int (nI ln), .int e1, .int e2, .ref w6, .int (nI tm), .int (nI sp)])), (w1, .inl ((xG cx).2.1, 508, .inl (upd (upd z (28 + 8 * n + 0) (nI b)) (28 + 8 * n + 1) r)))] [] [m, w1] rfl rfl [] rfl rfl 2 rfl (by decide +kernel) rfl (k0 := 0) (na := 3) gX7_putNow_X7_lay rfl (by decide +kernel) rfl rfl rfl M (kX7_lay (xl cx) (xG cx) m w1 w2 w3 w4 w5 w6 ns ln tm sp ik e1 e2 (upd z (28 + 8 * n + 0) (nI b)) n 1 r (by first | assumption | rfl | omega | decide) (by first | assumption | rfl | omega | decide)) rfl (by decide) rfl rfl rfl ⟨by decide, by decide⟩ (Nat.le_of_ble_eq_true rfl) ⟨by decide, by decide⟩ dX7_putNow_89 ?_
    refine x_aload_n C 4 dX7_putNow_92 rfl rfl ?_
    refine x_iload C 3 dX7_putNow_93 rfl ?_
    refine x_iconst (v := 2) C dX7_putNow_95 (by decide) ?_
    refine x_iload_n C 6 dX7_putNow_96 rfl rfl ?_
    refine x_callVMU C ([.int (nI n), .int 2, .int p]) ([]) [0, 1] [(m, .inr (7, [.ref w1, .ref w2, .ref w3, .int (nI ns), .ref w4, .int ik, .ref w5, .int (nI ln), .int e1, .int e2, .ref w6, .int (nI tm), .int (nI sp)])), (w1, .inl ((xG cx).2.1, 508, .inl (upd (upd (upd z (28 + 8 * n + 0) (nI b)) (28 + 8 * n + 1) r) (28 + 8 * n + 2) p)))] [] [m, w1] rfl rfl [] rfl rfl 2 rfl (by decide +kernel) rfl (k0 := 0) (na := 3) gX7_putNow_X7_lay rfl (by decide +kernel) rfl rfl rfl M (kX7_lay (xl cx) (xG cx) m w1 w2 w3 w4 w5 w6 ns ln tm sp ik e1 e2 (upd (upd z (28 + 8 * n + 0) (nI b)) (28 + 8 * n + 1) r) n 2 p (by first | assumption | rfl | omega | decide) (by first | assumption | rfl | omega | decide)) rfl (by decide) rfl rfl rfl ⟨by decide, by decide⟩ (Nat.le_of_ble_eq_true rfl) ⟨by decide, by decide⟩ dX7_putNow_97 ?_
    refine x_aload_n C 4 dX7_putNow_100 rfl rfl ?_
    refine x_iload C 3 dX7_putNow_101 rfl ?_
    refine x_iconst (v := 3) C dX7_putNow_103 (by decide) ?_
    refine x_iload C 0 dX7_putNow_104 rfl ?_
    refine x_iconst (v := 1) C dX7_putNow_106 (by decide) ?_
    have join_116 : ∀ (v0 : Int32) (hv0 : v0 = lf2 z n b), X cx (0, 0) [(m, .inr (7, [.ref w1, .ref w2, .ref w3, .int (nI ns), .ref w4, .int ik, .ref w5, .int (nI ln), .int e1, .int e2, .ref w6, .int (nI tm), .int (nI sp)])), (w1, .inl ((xG cx).2.1, 508, .inl (upd (upd (upd z (28 + 8 * n + 0) (nI b)) (28 + 8 * n + 1) r) (28 + 8 * n + 2) p)))] [(7, .int (lf1 z n b)), (6, .int (kR n)), (5, .int (z (4 + (2 * b)))), (4, .int (nI n)), (0, .ref m), (1, .int r), (2, .int p), (3, .int (nI b))] 116 [.int v0, .int 3, .int (nI n), .ref m] := by
      intro v0 hv0
      subst hv0
      refine x_callVMU C ([.int (nI n), .int 3, .int (lf2 z n b)]) ([]) [0, 1] [(m, .inr (7, [.ref w1, .ref w2, .ref w3, .int (nI ns), .ref w4, .int ik, .ref w5, .int (nI ln), .int e1, .int e2, .ref w6, .int (nI tm), .int (nI sp)])), (w1, .inl ((xG cx).2.1, 508, .inl (upd (upd (upd (upd z (28 + 8 * n + 0) (nI b)) (28 + 8 * n + 1) r) (28 + 8 * n + 2) p) (28 + 8 * n + 3) (lf2 z n b))))] [] [m, w1] rfl rfl [] rfl rfl 2 rfl (by decide +kernel) rfl (k0 := 0) (na := 3) gX7_putNow_X7_lay rfl (by decide +kernel) rfl rfl rfl M (kX7_lay (xl cx) (xG cx) m w1 w2 w3 w4 w5 w6 ns ln tm sp ik e1 e2 (upd (upd (upd z (28 + 8 * n + 0) (nI b)) (28 + 8 * n + 1) r) (28 + 8 * n + 2) p) n 3 (lf2 z n b) (by first | assumption | rfl | omega | decide) (by first | assumption | rfl | omega | decide)) rfl (by decide) rfl rfl rfl ⟨by decide, by decide⟩ (Nat.le_of_ble_eq_true rfl) ⟨by decide, by decide⟩ dX7_putNow_116 ?_
      refine x_aload_n C 4 dX7_putNow_119 rfl rfl ?_
      refine x_iload C 3 dX7_putNow_120 rfl ?_
      refine x_iconst (v := 4) C dX7_putNow_122 (by decide) ?_
      refine x_iconst (v := 0) C dX7_putNow_123 (by decide) ?_
      refine x_callVMU C ([.int (nI n), .int 4, .int 0]) ([]) [0, 1] [(m, .inr (7, [.ref w1, .ref w2, .ref w3, .int (nI ns), .ref w4, .int ik, .ref w5, .int (nI ln), .int e1, .int e2, .ref w6, .int (nI tm), .int (nI sp)])), (w1, .inl ((xG cx).2.1, 508, .inl (upd (upd (upd (upd (upd z (28 + 8 * n + 0) (nI b)) (28 + 8 * n + 1) r) (28 + 8 * n + 2) p) (28 + 8 * n + 3) (lf2 z n b)) (28 + 8 * n + 4) 0)))] [] [m, w1] rfl rfl [] rfl rfl 2 rfl (by decide +kernel) rfl (k0 := 0) (na := 3) gX7_putNow_X7_lay rfl (by decide +kernel) rfl rfl rfl M (kX7_lay (xl cx) (xG cx) m w1 w2 w3 w4 w5 w6 ns ln tm sp ik e1 e2 (upd (upd (upd (upd z (28 + 8 * n + 0) (nI b)) (28 + 8 * n + 1) r) (28 + 8 * n + 2) p) (28 + 8 * n + 3) (lf2 z n b)) n 4 0 (by first | assumption | rfl | omega | decide) (by first | assumption | rfl | omega | decide)) rfl (by decide) rfl rfl rfl ⟨by decide, by decide⟩ (Nat.le_of_ble_eq_true rfl) ⟨by decide, by decide⟩ dX7_putNow_124 ?_
      refine x_aload_n C 4 dX7_putNow_127 rfl rfl ?_
      refine x_iload C 3 dX7_putNow_128 rfl ?_
      refine x_iconst (v := 5) C dX7_putNow_130 (by decide) ?_
      refine x_iconst (v := 0) C dX7_putNow_131 (by decide) ?_
      refine x_callVMU C ([.int (nI n), .int 5, .int 0]) ([]) [0, 1] [(m, .inr (7, [.ref w1, .ref w2, .ref w3, .int (nI ns), .ref w4, .int ik, .ref w5, .int (nI ln), .int e1, .int e2, .ref w6, .int (nI tm), .int (nI sp)])), (w1, .inl ((xG cx).2.1, 508, .inl (upd (upd (upd (upd (upd (upd z (28 + 8 * n + 0) (nI b)) (28 + 8 * n + 1) r) (28 + 8 * n + 2) p) (28 + 8 * n + 3) (lf2 z n b)) (28 + 8 * n + 4) 0) (28 + 8 * n + 5) 0)))] [] [m, w1] rfl rfl [] rfl rfl 2 rfl (by decide +kernel) rfl (k0 := 0) (na := 3) gX7_putNow_X7_lay rfl (by decide +kernel) rfl rfl rfl M (kX7_lay (xl cx) (xG cx) m w1 w2 w3 w4 w5 w6 ns ln tm sp ik e1 e2 (upd (upd (upd (upd (upd z (28 + 8 * n + 0) (nI b)) (28 + 8 * n + 1) r) (28 + 8 * n + 2) p) (28 + 8 * n + 3) (lf2 z n b)) (28 + 8 * n + 4) 0) n 5 0 (by first | assumption | rfl | omega | decide) (by first | assumption | rfl | omega | decide)) rfl (by decide) rfl rfl rfl ⟨by decide, by decide⟩ (Nat.le_of_ble_eq_true rfl) ⟨by decide, by decide⟩ dX7_putNow_132 ?_
      refine x_aload_n C 4 dX7_putNow_135 rfl rfl ?_
      refine x_iload C 3 dX7_putNow_136 rfl ?_
      refine x_bipush (v := 6) C dX7_putNow_138 (by decide) ?_
      refine x_sipush (v := (-1005)) C dX7_putNow_140 (by decide) ?_
      refine x_callVMU C ([.int (nI n), .int 6, .int (-1005)]) ([]) [0, 1] [(m, .inr (7, [.ref w1, .ref w2, .ref w3, .int (nI ns), .ref w4, .int ik, .ref w5, .int (nI ln), .int e1, .int e2, .ref w6, .int (nI tm), .int (nI sp)])), (w1, .inl ((xG cx).2.1, 508, .inl (upd (upd (upd (upd (upd (upd (upd z (28 + 8 * n + 0) (nI b)) (28 + 8 * n + 1) r) (28 + 8 * n + 2) p) (28 + 8 * n + 3) (lf2 z n b)) (28 + 8 * n + 4) 0) (28 + 8 * n + 5) 0) (28 + 8 * n + 6) (-1005))))] [] [m, w1] rfl rfl [] rfl rfl 2 rfl (by decide +kernel) rfl (k0 := 0) (na := 3) gX7_putNow_X7_lay rfl (by decide +kernel) rfl rfl rfl M (kX7_lay (xl cx) (xG cx) m w1 w2 w3 w4 w5 w6 ns ln tm sp ik e1 e2 (upd (upd (upd (upd (upd (upd z (28 + 8 * n + 0) (nI b)) (28 + 8 * n + 1) r) (28 + 8 * n + 2) p) (28 + 8 * n + 3) (lf2 z n b)) (28 + 8 * n + 4) 0) (28 + 8 * n + 5) 0) n 6 (-1005) (by first | assumption | rfl | omega | decide) (by first | assumption | rfl | omega | decide)) rfl (by decide) rfl rfl rfl ⟨by decide, by decide⟩ (Nat.le_of_ble_eq_true rfl) ⟨by decide, by decide⟩ dX7_putNow_143 ?_
      refine x_aload_n C 4 dX7_putNow_146 rfl rfl ?_
      refine x_iload C 3 dX7_putNow_147 rfl ?_
      refine x_bipush (v := 7) C dX7_putNow_149 (by decide) ?_
      refine x_iload C 1 dX7_putNow_151 rfl ?_
      refine x_bipush (v := 9) C dX7_putNow_153 (by decide) ?_
      have join_163 : ∀ (v0 : Int32) (hv0 : v0 = wkR n), X cx (0, 0) [(m, .inr (7, [.ref w1, .ref w2, .ref w3, .int (nI ns), .ref w4, .int ik, .ref w5, .int (nI ln), .int e1, .int e2, .ref w6, .int (nI tm), .int (nI sp)])), (w1, .inl ((xG cx).2.1, 508, .inl (upd (upd (upd (upd (upd (upd (upd z (28 + 8 * n + 0) (nI b)) (28 + 8 * n + 1) r) (28 + 8 * n + 2) p) (28 + 8 * n + 3) (lf2 z n b)) (28 + 8 * n + 4) 0) (28 + 8 * n + 5) 0) (28 + 8 * n + 6) (-1005))))] [(7, .int (lf1 z n b)), (6, .int (kR n)), (5, .int (z (4 + (2 * b)))), (4, .int (nI n)), (0, .ref m), (1, .int r), (2, .int p), (3, .int (nI b))] 163 [.int v0, .int 7, .int (nI n), .ref m] := by
        intro v0 hv0
        subst hv0
        refine x_callVMU C ([.int (nI n), .int 7, .int (wkR n)]) ([]) [0, 1] [(m, .inr (7, [.ref w1, .ref w2, .ref w3, .int (nI ns), .ref w4, .int ik, .ref w5, .int (nI ln), .int e1, .int e2, .ref w6, .int (nI tm), .int (nI sp)])), (w1, .inl ((xG cx).2.1, 508, .inl (upd (upd (upd (upd (upd (upd (upd (upd z (28 + 8 * n + 0) (nI b)) (28 + 8 * n + 1) r) (28 + 8 * n + 2) p) (28 + 8 * n + 3) (lf2 z n b)) (28 + 8 * n + 4) 0) (28 + 8 * n + 5) 0) (28 + 8 * n + 6) (-1005)) (28 + 8 * n + 7) (wkR n))))] [] [m, w1] rfl rfl [] rfl rfl 2 rfl (by decide +kernel) rfl (k0 := 0) (na := 3) gX7_putNow_X7_lay rfl (by decide +kernel) rfl rfl rfl M (kX7_lay (xl cx) (xG cx) m w1 w2 w3 w4 w5 w6 ns ln tm sp ik e1 e2 (upd (upd (upd (upd (upd (upd (upd z (28 + 8 * n + 0) (nI b)) (28 + 8 * n + 1) r) (28 + 8 * n + 2) p) (28 + 8 * n + 3) (lf2 z n b)) (28 + 8 * n + 4) 0) (28 + 8 * n + 5) 0) (28 + 8 * n + 6) (-1005)) n 7 (wkR n) (by first | assumption | rfl | omega | decide) (by first | assumption | rfl | omega | decide)) rfl (by decide) rfl rfl rfl ⟨by decide, by decide⟩ (Nat.le_of_ble_eq_true rfl) ⟨by decide, by decide⟩ dX7_putNow_163 ?_
        refine x_aload_n C 4 dX7_putNow_166 rfl rfl ?_
        refine x_getf C 0 rfl rfl i_kX7_putNow_X7 0 (by decide) m_kX7_putNow_1 rfl rfl dX7_putNow_167 ?_
        refine x_iconst (v := 3) C dX7_putNow_170 (by decide) ?_
        refine x_dup2 C dX7_putNow_171 rfl rfl ?_
        refine x_iald C 1 rfl rfl (vp_in_nI (n := 3) (by decide) (by decide)) (put3 hz3) dX7_putNow_172 ?_
        refine x_iconst (v := 1) C dX7_putNow_173 (by decide) ?_
        refine x_iadd C (nI_add n 1) dX7_putNow_174 ?_
        refine x_iast C M 1 rfl rfl (vp_in_nI (n := 3) (by decide) (by decide)) (nI_clamp (n := 3) (by decide)) [(m, .inr (7, [.ref w1, .ref w2, .ref w3, .int (nI ns), .ref w4, .int ik, .ref w5, .int (nI ln), .int e1, .int e2, .ref w6, .int (nI tm), .int (nI sp)])), (w1, .inl ((xG cx).2.1, 508, .inl (upd (upd (upd (upd (upd (upd (upd (upd (upd z (28 + 8 * n + 0) (nI b)) (28 + 8 * n + 1) r) (28 + 8 * n + 2) p) (28 + 8 * n + 3) (lf2 z n b)) (28 + 8 * n + 4) 0) (28 + 8 * n + 5) 0) (28 + 8 * n + 6) (-1005)) (28 + 8 * n + 7) (wkR n)) 3 (nI (n + 1)))))] rfl dX7_putNow_175 ?_
        refine x_iload C 3 dX7_putNow_176 rfl ?_
        exact x_iret C E dX7_putNow_178 (rfl) (rfl)
      refine x_icmp_ne C 162 dX7_putNow_155 (by decide) (fun c_155 => ?_) (fun c_155 => ?_)
      ·
        refine x_iconst (v := 0) C dX7_putNow_162 (by decide) ?_
        exact join_163 _ (by first | exact (if_pos c_155).symm | exact (if_neg c_155).symm | exact (if_pos (Classical.not_not.mp c_155)).symm)
      ·
        refine x_iconst (v := 1) C dX7_putNow_158 (by decide) ?_
        refine x_goto (tgt := 163) C dX7_putNow_159 (by decide) ?_
        exact join_163 _ (by first | exact (if_pos c_155).symm | exact (if_neg c_155).symm | exact (if_pos (Classical.not_not.mp c_155)).symm)
    refine x_icmp_ge C 114 dX7_putNow_107 (by decide) (fun c_107 => ?_) (fun c_107 => ?_)
    ·
      refine x_iload C 0 dX7_putNow_114 rfl ?_
      exact join_116 _ (by first | exact (if_pos c_107).symm | exact (if_neg c_107).symm | exact (if_pos (Classical.not_not.mp c_107)).symm)
    ·
      refine x_iconst (v := 1) C dX7_putNow_110 (by decide) ?_
      refine x_goto (tgt := 116) C dX7_putNow_111 (by decide) ?_
      exact join_116 _ (by first | exact (if_pos c_107).symm | exact (if_neg c_107).symm | exact (if_pos (Classical.not_not.mp c_107)).symm)
  refine x_icmp_ne C 72 dX7_putNow_61 (by decide) (fun c_61 => ?_) (fun c_61 => ?_)
  ·
    refine x_iload C 0 dX7_putNow_72 rfl ?_
    exact join_74 _ (by first | exact (if_pos c_61).symm | exact (if_neg c_61).symm | exact (if_pos (Classical.not_not.mp c_61)).symm)
  ·
    refine x_iload C 0 dX7_putNow_64 rfl ?_
    refine x_bipush (v := 10) C dX7_putNow_66 (by decide) ?_
    refine x_idiv C (rfl) dX7_putNow_68 (by decide) ?_
    refine x_goto (tgt := 74) C dX7_putNow_69 (by decide) ?_
    exact join_74 _ (by first | exact (if_pos c_61).symm | exact (if_neg c_61).symm | exact (if_pos (Classical.not_not.mp c_61)).symm)

set_option maxRecDepth 100000 in
set_option maxHeartbeats 4000000 in
theorem kX7_moveTo (l : Launch) (G : GG) (m : Nat) (w1 : Nat) (w2 : Nat) (w3 : Nat) (w4 : Nat) (w5 : Nat) (w6 : Nat) (ns : Nat) (ln : Nat) (tm : Nat) (sp : Nat) (ik : Int32) (e1 : Int32) (e2 : Int32) (z : Nat → Int32) (k : Int32) (r : Int32) (p : Int32) (hk : k = -1005 ∨ ∃ j, j < 60 ∧ k = nI j) : MU l G yX7_moveTo wsX7_moveTo ({ frames := 1, cells := 0, slots := 0, locals := 23 } : Room) [.ref m, .int k, .int r, .int p] [(m, .inr (7, [.ref w1, .ref w2, .ref w3, .int (nI ns), .ref w4, .int ik, .ref w5, .int (nI ln), .int e1, .int e2, .ref w6, .int (nI tm), .int (nI sp)])), (w1, .inl (G.2.1, 508, .inl z))] none [(m, .inr (7, [.ref w1, .ref w2, .ref w3, .int (nI ns), .ref w4, .int ik, .ref w5, .int (nI ln), .int e1, .int e2, .ref w6, .int (nI tm), .int (nI sp)])), (w1, .inl (G.2.1, 508, .inl (mvZ z k r p)))] := by
  refine MU.of (cc := cX7_moveTo) (maxL := 4) (ret := none) (by decide) rfl (Nat.le_of_ble_eq_true rfl) ?_
  intro cx hxl hxG C M E
  subst hxl
  subst hxG
  show X cx (0, 0) [(m, .inr (7, [.ref w1, .ref w2, .ref w3, .int (nI ns), .ref w4, .int ik, .ref w5, .int (nI ln), .int e1, .int e2, .ref w6, .int (nI tm), .int (nI sp)])), (w1, .inl ((xG cx).2.1, 508, .inl z))] [(0, .ref m), (1, .int k), (2, .int r), (3, .int p)] 0 []
  refine x_iload_n C 1 dX7_moveTo_0 rfl rfl ?_
  refine x_sipush (v := (-1005)) C dX7_moveTo_1 (by decide) ?_
  refine x_icmp_eq C 21 dX7_moveTo_4 (by decide) (fun c_4 => ?_) (fun c_4 => ?_)
  ·
    have e_ret : mvZ z k r p = z := by simp [mvZ, c_4]
    exact x_vret C E dX7_moveTo_21 ((rfl : _ = ([(m, .inr (7, [.ref w1, .ref w2, .ref w3, .int (nI ns), .ref w4, .int ik, .ref w5, .int (nI ln), .int e1, .int e2, .ref w6, .int (nI tm), .int (nI sp)])), (w1, .inl ((xG cx).2.1, 508, .inl z))] : va_W)).trans (by rw [e_ret]))
  ·
    obtain ⟨kk, h_kk, rfl⟩ := hk.resolve_left c_4
    refine x_aload_n C 0 dX7_moveTo_7 rfl rfl ?_
    refine x_iload_n C 1 dX7_moveTo_8 rfl rfl ?_
    refine x_iconst (v := 1) C dX7_moveTo_9 (by decide) ?_
    refine x_iload_n C 2 dX7_moveTo_10 rfl rfl ?_
    refine x_callVMU C ([.int (nI kk), .int 1, .int r]) ([]) [0, 1] [(m, .inr (7, [.ref w1, .ref w2, .ref w3, .int (nI ns), .ref w4, .int ik, .ref w5, .int (nI ln), .int e1, .int e2, .ref w6, .int (nI tm), .int (nI sp)])), (w1, .inl ((xG cx).2.1, 508, .inl (upd z (28 + 8 * kk + 1) r)))] [] [m, w1] rfl rfl [] rfl rfl 2 rfl (by decide +kernel) rfl (k0 := 0) (na := 3) gX7_moveTo_X7_lay rfl (by decide +kernel) rfl rfl rfl M (kX7_lay (xl cx) (xG cx) m w1 w2 w3 w4 w5 w6 ns ln tm sp ik e1 e2 z kk 1 r (by first | assumption | rfl | omega | decide) (by first | assumption | rfl | omega | decide)) rfl (by decide) rfl rfl rfl ⟨by decide, by decide⟩ (Nat.le_of_ble_eq_true rfl) ⟨by decide, by decide⟩ dX7_moveTo_11 ?_
    refine x_aload_n C 0 dX7_moveTo_14 rfl rfl ?_
    refine x_iload_n C 1 dX7_moveTo_15 rfl rfl ?_
    refine x_iconst (v := 2) C dX7_moveTo_16 (by decide) ?_
    refine x_iload_n C 3 dX7_moveTo_17 rfl rfl ?_
    refine x_callVMU C ([.int (nI kk), .int 2, .int p]) ([]) [0, 1] [(m, .inr (7, [.ref w1, .ref w2, .ref w3, .int (nI ns), .ref w4, .int ik, .ref w5, .int (nI ln), .int e1, .int e2, .ref w6, .int (nI tm), .int (nI sp)])), (w1, .inl ((xG cx).2.1, 508, .inl (upd (upd z (28 + 8 * kk + 1) r) (28 + 8 * kk + 2) p)))] [] [m, w1] rfl rfl [] rfl rfl 2 rfl (by decide +kernel) rfl (k0 := 0) (na := 3) gX7_moveTo_X7_lay rfl (by decide +kernel) rfl rfl rfl M (kX7_lay (xl cx) (xG cx) m w1 w2 w3 w4 w5 w6 ns ln tm sp ik e1 e2 (upd z (28 + 8 * kk + 1) r) kk 2 p (by first | assumption | rfl | omega | decide) (by first | assumption | rfl | omega | decide)) rfl (by decide) rfl rfl rfl ⟨by decide, by decide⟩ (Nat.le_of_ble_eq_true rfl) ⟨by decide, by decide⟩ dX7_moveTo_18 ?_
    have e_ret : mvZ z (nI kk) r p = upd (upd z (28 + 8 * kk + 1) r) (28 + 8 * kk + 2) p := by simp [mvZ, c_4, ix kk (by omega)]
    exact x_vret C E dX7_moveTo_21 ((rfl : _ = ([(m, .inr (7, [.ref w1, .ref w2, .ref w3, .int (nI ns), .ref w4, .int ik, .ref w5, .int (nI ln), .int e1, .int e2, .ref w6, .int (nI tm), .int (nI sp)])), (w1, .inl ((xG cx).2.1, 508, .inl (upd (upd z (28 + 8 * kk + 1) r) (28 + 8 * kk + 2) p)))] : va_W)).trans (by rw [e_ret]))

theorem i_kX7_stepsNow_X7 : ∀ w ∈ u_ws RX7 TX7 13, w ∈ wsX7_stepsNow := by decide +kernel
theorem m_kX7_stepsNow_1 : (Cond.fieldLink RX7 7 "LampRacksModel" "z" "[I" : Cond) ∈ wsX7_stepsNow := by decide +kernel
set_option maxRecDepth 100000 in
set_option maxHeartbeats 4000000 in
theorem kX7_stepsNow (l : Launch) (G : GG) (m : Nat) (w1 : Nat) (w2 : Nat) (w3 : Nat) (w4 : Nat) (w5 : Nat) (w6 : Nat) (ns : Nat) (ln : Nat) (tm : Nat) (sp : Nat) (ik : Int32) (e1 : Int32) (e2 : Int32) (z : Nat → Int32) (r : Nat) (a : Int32) (b : Int32) (hr : r < 3) : MU l G yX7_stepsNow wsX7_stepsNow ({ frames := 0, cells := 0, slots := 0, locals := 0 } : Room) [.ref m, .int (nI r), .int a, .int b] [(m, .inr (7, [.ref w1, .ref w2, .ref w3, .int (nI ns), .ref w4, .int ik, .ref w5, .int (nI ln), .int e1, .int e2, .ref w6, .int (nI tm), .int (nI sp)])), (w1, .inl (G.2.1, 508, .inl z))] none [(m, .inr (7, [.ref w1, .ref w2, .ref w3, .int (nI ns), .ref w4, .int ik, .ref w5, .int (nI ln), .int e1, .int e2, .ref w6, .int (nI tm), .int (nI sp)])), (w1, .inl (G.2.1, 508, .inl (spZ z r a b)))] := by
  refine MU.of (cc := cX7_stepsNow) (maxL := 5) (ret := none) (by decide) rfl (Nat.le_of_ble_eq_true rfl) ?_
  intro cx hxl hxG C M E
  subst hxl
  subst hxG
  show X cx (0, 0) [(m, .inr (7, [.ref w1, .ref w2, .ref w3, .int (nI ns), .ref w4, .int ik, .ref w5, .int (nI ln), .int e1, .int e2, .ref w6, .int (nI tm), .int (nI sp)])), (w1, .inl ((xG cx).2.1, 508, .inl z))] [(0, .ref m), (1, .int (nI r)), (2, .int a), (3, .int b)] 0 []
  refine x_bipush (v := 16) C dX7_stepsNow_0 (by decide) ?_
  refine x_iconst (v := 4) C dX7_stepsNow_2 (by decide) ?_
  refine x_iload_n C 1 dX7_stepsNow_3 rfl rfl ?_
  refine x_imul C (pk_mul 4 r) dX7_stepsNow_4 ?_
  refine x_iadd C (nI_add 16 (4 * r)) dX7_stepsNow_5 ?_
  refine x_istore C [(4, .int (nI (16 + (4 * r)))), (0, .ref m), (1, .int (nI r)), (2, .int a), (3, .int b)] dX7_stepsNow_6 (by decide) rfl ?_
  refine x_aload_n C 1 dX7_stepsNow_8 rfl rfl ?_
  refine x_getf C 0 rfl rfl i_kX7_stepsNow_X7 0 (by decide) m_kX7_stepsNow_1 rfl rfl dX7_stepsNow_9 ?_
  refine x_iload C 0 dX7_stepsNow_12 rfl ?_
  refine x_iconst (v := 1) C dX7_stepsNow_14 (by decide) ?_
  refine x_iadd C (nI_add (16 + (4 * r)) 1) dX7_stepsNow_15 ?_
  refine x_iload_n C 3 dX7_stepsNow_16 rfl rfl ?_
  refine x_iast C M 1 rfl rfl (vp_in_nI (by omega) (by decide)) (nI_clamp (by omega)) [(m, .inr (7, [.ref w1, .ref w2, .ref w3, .int (nI ns), .ref w4, .int ik, .ref w5, .int (nI ln), .int e1, .int e2, .ref w6, .int (nI tm), .int (nI sp)])), (w1, .inl ((xG cx).2.1, 508, .inl (upd z ((16 + (4 * r)) + 1) a)))] rfl dX7_stepsNow_17 ?_
  refine x_aload_n C 1 dX7_stepsNow_18 rfl rfl ?_
  refine x_getf C 0 rfl rfl i_kX7_stepsNow_X7 0 (by decide) m_kX7_stepsNow_1 rfl rfl dX7_stepsNow_19 ?_
  refine x_iload C 0 dX7_stepsNow_22 rfl ?_
  refine x_iconst (v := 2) C dX7_stepsNow_24 (by decide) ?_
  refine x_iadd C (nI_add (16 + (4 * r)) 2) dX7_stepsNow_25 ?_
  refine x_iload_n C 4 dX7_stepsNow_26 rfl rfl ?_
  refine x_iast C M 1 rfl rfl (vp_in_nI (by omega) (by decide)) (nI_clamp (by omega)) [(m, .inr (7, [.ref w1, .ref w2, .ref w3, .int (nI ns), .ref w4, .int ik, .ref w5, .int (nI ln), .int e1, .int e2, .ref w6, .int (nI tm), .int (nI sp)])), (w1, .inl ((xG cx).2.1, 508, .inl (upd (upd z ((16 + (4 * r)) + 1) a) ((16 + (4 * r)) + 2) b)))] rfl dX7_stepsNow_27 ?_
  refine x_aload_n C 1 dX7_stepsNow_28 rfl rfl ?_
  refine x_getf C 0 rfl rfl i_kX7_stepsNow_X7 0 (by decide) m_kX7_stepsNow_1 rfl rfl dX7_stepsNow_29 ?_
  refine x_iload C 0 dX7_stepsNow_32 rfl ?_
  refine x_iconst (v := 3) C dX7_stepsNow_34 (by decide) ?_
  refine x_iadd C (nI_add (16 + (4 * r)) 3) dX7_stepsNow_35 ?_
  refine x_iconst (v := 0) C dX7_stepsNow_36 (by decide) ?_
  refine x_iast C M 1 rfl rfl (vp_in_nI (by omega) (by decide)) (nI_clamp (by omega)) [(m, .inr (7, [.ref w1, .ref w2, .ref w3, .int (nI ns), .ref w4, .int ik, .ref w5, .int (nI ln), .int e1, .int e2, .ref w6, .int (nI tm), .int (nI sp)])), (w1, .inl ((xG cx).2.1, 508, .inl (upd (upd (upd z ((16 + (4 * r)) + 1) a) ((16 + (4 * r)) + 2) b) ((16 + (4 * r)) + 3) 0)))] rfl dX7_stepsNow_37 ?_
  have e_ret : spZ z r a b = upd (upd (upd z ((16 + (4 * r)) + 1) a) ((16 + (4 * r)) + 2) b) ((16 + (4 * r)) + 3) 0 := by simp [spZ]
  exact x_vret C E dX7_stepsNow_38 ((rfl : _ = ([(m, .inr (7, [.ref w1, .ref w2, .ref w3, .int (nI ns), .ref w4, .int ik, .ref w5, .int (nI ln), .int e1, .int e2, .ref w6, .int (nI tm), .int (nI sp)])), (w1, .inl ((xG cx).2.1, 508, .inl (upd (upd (upd z ((16 + (4 * r)) + 1) a) ((16 + (4 * r)) + 2) b) ((16 + (4 * r)) + 3) 0)))] : va_W)).trans (by rw [e_ret]))

set_option maxRecDepth 100000 in
set_option maxHeartbeats 4000000 in
theorem kX7_whyNotVolts (l : Launch) (G : GG) (m : Nat) (w1 : Nat) (w2 : Nat) (w3 : Nat) (w4 : Nat) (w5 : Nat) (w6 : Nat) (ns : Nat) (ln : Nat) (tm : Nat) (sp : Nat) (ik : Int32) (e1 : Int32) (e2 : Int32) (r : Int32) (v : Int32)  : RO l G yX7_whyNotVolts wsX7_whyNotVolts ({ frames := 2, cells := 0, slots := 0, locals := 42 } : Room) [.ref m, .int r, .int v] [(m, .inr (7, [.ref w1, .ref w2, .ref w3, .int (nI ns), .ref w4, .int ik, .ref w5, .int (nI ln), .int e1, .int e2, .ref w6, .int (nI tm), .int (nI sp)]))] (.int (wvR r v)) := by
  refine RO.of (cc := cX7_whyNotVolts) (maxL := 3) (ret := (some .int)) (by decide) rfl (Nat.le_of_ble_eq_true rfl) ?_
  intro cx hxl hxG C E
  subst hxl
  subst hxG
  show X cx (0, 0) [(m, .inr (7, [.ref w1, .ref w2, .ref w3, .int (nI ns), .ref w4, .int ik, .ref w5, .int (nI ln), .int e1, .int e2, .ref w6, .int (nI tm), .int (nI sp)]))] [(0, .ref m), (1, .int r), (2, .int v)] 0 []
  refine x_iload_n C 1 dX7_whyNotVolts_0 rfl rfl ?_
  refine x_callSRO C ([.int r]) ([]) [] (na := 1) gX7_whyNotVolts_X7_isRack rfl (by decide +kernel) rfl (kX7_isRack (xl cx) (xG cx) r) rfl (by decide) rfl rfl rfl ⟨by decide, by decide⟩ (Nat.le_of_ble_eq_true rfl) ⟨by decide, by decide⟩ dX7_whyNotVolts_1 ?_
  refine x_ifb_ne (P := 0 ≤ r ∧ r ≤ 2) C 13 dX7_whyNotVolts_4 (by decide) (fun c_4 => ?_) (fun c_4 => ?_)
  ·
    refine x_iload_n C 2 dX7_whyNotVolts_13 rfl rfl ?_
    refine x_iconst (v := 0) C dX7_whyNotVolts_14 (by decide) ?_
    refine x_sipush (v := 300) C dX7_whyNotVolts_15 (by decide) ?_
    refine x_callSRO C ([.int v, .int 0, .int 300]) ([]) [] (na := 3) gX7_whyNotVolts_X7_in rfl (by decide +kernel) rfl (kX7_in (xl cx) (xG cx) v 0 300) rfl (by decide) rfl rfl rfl ⟨by decide, by decide⟩ (Nat.le_of_ble_eq_true rfl) ⟨by decide, by decide⟩ dX7_whyNotVolts_18 ?_
    refine x_ifb_eq (P := 0 ≤ v ∧ v ≤ 300) C 28 dX7_whyNotVolts_21 (by decide) (fun c_21 => ?_) (fun c_21 => ?_)
    ·
      refine x_sipush (v := (-1002)) C dX7_whyNotVolts_28 (by decide) ?_
      exact x_iret C E dX7_whyNotVolts_31 (by simp [wvR, c_4, c_21]) (rfl)
    ·
      refine x_iconst (v := 0) C dX7_whyNotVolts_24 (by decide) ?_
      refine x_goto (tgt := 31) C dX7_whyNotVolts_25 (by decide) ?_
      exact x_iret C E dX7_whyNotVolts_31 (by simp [wvR, c_4, c_21]) (rfl)
  ·
    refine x_sipush (v := (-1001)) C dX7_whyNotVolts_7 (by decide) ?_
    refine x_goto (tgt := 31) C dX7_whyNotVolts_10 (by decide) ?_
    exact x_iret C E dX7_whyNotVolts_31 (by simp [wvR, c_4]) (rfl)

theorem i_kX7_whyNotPass_X7 : ∀ w ∈ u_ws RX7 TX7 13, w ∈ wsX7_whyNotPass := by decide +kernel
theorem m_kX7_whyNotPass_1 : (Cond.fieldLink RX7 7 "LampRacksModel" "z" "[I" : Cond) ∈ wsX7_whyNotPass := by decide +kernel
theorem m_kX7_whyNotPass_2 : (Cond.constant RX7 104 99999 : Cond) ∈ wsX7_whyNotPass := by decide +kernel
set_option maxRecDepth 100000 in
set_option maxHeartbeats 4000000 in
theorem kX7_whyNotPass (l : Launch) (G : GG) (m : Nat) (w1 : Nat) (w2 : Nat) (w3 : Nat) (w4 : Nat) (w5 : Nat) (w6 : Nat) (ns : Nat) (ln : Nat) (tm : Nat) (sp : Nat) (ik : Int32) (e1 : Int32) (e2 : Int32) (z : Nat → Int32) (h : Int32)  : RO l G yX7_whyNotPass wsX7_whyNotPass ({ frames := 1, cells := 0, slots := 0, locals := 22 } : Room) [.ref m, .int h] [(m, .inr (7, [.ref w1, .ref w2, .ref w3, .int (nI ns), .ref w4, .int ik, .ref w5, .int (nI ln), .int e1, .int e2, .ref w6, .int (nI tm), .int (nI sp)])), (w1, .inl (G.2.1, 508, .inl z))] (.int (wsR z h)) := by
  refine RO.of (cc := cX7_whyNotPass) (maxL := 2) (ret := (some .int)) (by decide) rfl (Nat.le_of_ble_eq_true rfl) ?_
  intro cx hxl hxG C E
  subst hxl
  subst hxG
  show X cx (0, 0) [(m, .inr (7, [.ref w1, .ref w2, .ref w3, .int (nI ns), .ref w4, .int ik, .ref w5, .int (nI ln), .int e1, .int e2, .ref w6, .int (nI tm), .int (nI sp)])), (w1, .inl ((xG cx).2.1, 508, .inl z))] [(0, .ref m), (1, .int h)] 0 []
  refine x_iload_n C 1 dX7_whyNotPass_0 rfl rfl ?_
  refine x_iconst (v := 1) C dX7_whyNotPass_1 (by decide) ?_
  refine x_sipush (v := 999) C dX7_whyNotPass_2 (by decide) ?_
  refine x_callSRO C ([.int h, .int 1, .int 999]) ([]) [] (na := 3) gX7_whyNotPass_X7_in rfl (by decide +kernel) rfl (kX7_in (xl cx) (xG cx) h 1 999) rfl (by decide) rfl rfl rfl ⟨by decide, by decide⟩ (Nat.le_of_ble_eq_true rfl) ⟨by decide, by decide⟩ dX7_whyNotPass_5 ?_
  refine x_ifb_ne (P := 1 ≤ h ∧ h ≤ 999) C 17 dX7_whyNotPass_8 (by decide) (fun c_8 => ?_) (fun c_8 => ?_)
  ·
    refine x_aload_n C 0 dX7_whyNotPass_17 rfl rfl ?_
    refine x_getf C 0 rfl rfl i_kX7_whyNotPass_X7 0 (by decide) m_kX7_whyNotPass_1 rfl rfl dX7_whyNotPass_18 ?_
    refine x_iconst (v := 2) C dX7_whyNotPass_21 (by decide) ?_
    refine x_iald C 1 rfl rfl (vp_in_nI (n := 2) (by decide) (by decide)) (congrArg z (nI_clamp (n := 2) (by decide))) dX7_whyNotPass_22 ?_
    refine x_iload_n C 1 dX7_whyNotPass_23 rfl rfl ?_
    refine x_iadd C (rfl) dX7_whyNotPass_24 ?_
    refine x_ldc (v := 99999) C m_kX7_whyNotPass_2 dX7_whyNotPass_25 ?_
    refine x_icmp_le C 36 dX7_whyNotPass_27 (by decide) (fun c_27 => ?_) (fun c_27 => ?_)
    ·
      refine x_iconst (v := 0) C dX7_whyNotPass_36 (by decide) ?_
      exact x_iret C E dX7_whyNotPass_37 (by simp [wsR, c_8, c_27]) (rfl)
    ·
      refine x_sipush (v := (-1003)) C dX7_whyNotPass_30 (by decide) ?_
      refine x_goto (tgt := 37) C dX7_whyNotPass_33 (by decide) ?_
      exact x_iret C E dX7_whyNotPass_37 (by simp [wsR, c_8, c_27]) (rfl)
  ·
    refine x_sipush (v := (-1002)) C dX7_whyNotPass_11 (by decide) ?_
    refine x_goto (tgt := 37) C dX7_whyNotPass_14 (by decide) ?_
    exact x_iret C E dX7_whyNotPass_37 (by simp [wsR, c_8]) (rfl)

theorem i_kX7_setBatch_X7 : ∀ w ∈ u_ws RX7 TX7 13, w ∈ wsX7_setBatch := by decide +kernel
theorem m_kX7_setBatch_1 : (Cond.fieldLink RX7 7 "LampRacksModel" "z" "[I" : Cond) ∈ wsX7_setBatch := by decide +kernel
set_option maxRecDepth 100000 in
set_option maxHeartbeats 4000000 in
theorem kX7_setBatch (l : Launch) (G : GG) (m : Nat) (w1 : Nat) (w2 : Nat) (w3 : Nat) (w4 : Nat) (w5 : Nat) (w6 : Nat) (ns : Nat) (ln : Nat) (tm : Nat) (sp : Nat) (ik : Int32) (e1 : Int32) (e2 : Int32) (z : Nat → Int32) (f : Nat → Int32) (b : Int32) (h : Int32) (v : Int32) (hs : ns ≤ 4) : MU l G yX7_setBatch wsX7_setBatch ({ frames := 3, cells := 0, slots := 0, locals := 66 } : Room) [.ref m, .int b, .int h, .int v] [(m, .inr (7, [.ref w1, .ref w2, .ref w3, .int (nI ns), .ref w4, .int ik, .ref w5, .int (nI ln), .int e1, .int e2, .ref w6, .int (nI tm), .int (nI sp)])), (w1, .inl (G.2.1, 508, .inl z)), (w3, .inl (G.2.1, 2032, .inl f))] (some (.int ((sbR z f ns b h v).1))) [(m, .inr (7, [.ref w1, .ref w2, .ref w3, .int (nI ((sbR z f ns b h v).2.2.2)), .ref w4, .int ik, .ref w5, .int (nI ln), .int e1, .int e2, .ref w6, .int (nI tm), .int (nI sp)])), (w1, .inl (G.2.1, 508, .inl ((sbR z f ns b h v).2.1))), (w3, .inl (G.2.1, 2032, .inl ((sbR z f ns b h v).2.2.1)))] := by
  refine MU.of (cc := cX7_setBatch) (maxL := 6) (ret := (some .int)) (by decide) rfl (Nat.le_of_ble_eq_true rfl) ?_
  intro cx hxl hxG C M E
  subst hxl
  subst hxG
  show X cx (0, 0) [(m, .inr (7, [.ref w1, .ref w2, .ref w3, .int (nI ns), .ref w4, .int ik, .ref w5, .int (nI ln), .int e1, .int e2, .ref w6, .int (nI tm), .int (nI sp)])), (w1, .inl ((xG cx).2.1, 508, .inl z)), (w3, .inl ((xG cx).2.1, 2032, .inl f))] [(0, .ref m), (1, .int b), (2, .int h), (3, .int v)] 0 []
  refine x_iload_n C 1 dX7_setBatch_0 rfl rfl ?_
  refine x_callSRO C ([.int b]) ([]) [] (na := 1) gX7_setBatch_X7_isBatch rfl (by decide +kernel) rfl (kX7_isBatch (xl cx) (xG cx) b) rfl (by decide) rfl rfl rfl ⟨by decide, by decide⟩ (Nat.le_of_ble_eq_true rfl) ⟨by decide, by decide⟩ dX7_setBatch_1 ?_
  refine x_ifb_ne (P := 0 ≤ b ∧ b ≤ 5) C 11 dX7_setBatch_4 (by decide) (fun c_4 => ?_) (fun c_4 => ?_)
  ·
    refine x_iload_n C 2 dX7_setBatch_11 rfl rfl ?_
    refine x_bipush (v := 10) C dX7_setBatch_12 (by decide) ?_
    refine x_sipush (v := 9999) C dX7_setBatch_14 (by decide) ?_
    refine x_callSRO C ([.int h, .int 10, .int 9999]) ([]) [] (na := 3) gX7_setBatch_X7_in rfl (by decide +kernel) rfl (kX7_in (xl cx) (xG cx) h 10 9999) rfl (by decide) rfl rfl rfl ⟨by decide, by decide⟩ (Nat.le_of_ble_eq_true rfl) ⟨by decide, by decide⟩ dX7_setBatch_17 ?_
    refine x_ifb_eq (P := 10 ≤ h ∧ h ≤ 9999) C 33 dX7_setBatch_20 (by decide) (fun c_20 => ?_) (fun c_20 => ?_)
    ·
      refine x_sipush (v := (-1002)) C dX7_setBatch_33 (by decide) ?_
      have e_ret : sbR z f ns b h v = ((-1002), (z, f, ns)) := by simp [sbR, c_4, c_20]
      exact x_iret C E dX7_setBatch_36 (by rw [e_ret]) ((rfl : _ = ([(m, .inr (7, [.ref w1, .ref w2, .ref w3, .int (nI ((z, f, ns).2.2)), .ref w4, .int ik, .ref w5, .int (nI ln), .int e1, .int e2, .ref w6, .int (nI tm), .int (nI sp)])), (w1, .inl ((xG cx).2.1, 508, .inl ((z, f, ns).1))), (w3, .inl ((xG cx).2.1, 2032, .inl ((z, f, ns).2.1)))] : va_W)).trans (by rw [e_ret]))
    ·
      refine x_iload_n C 3 dX7_setBatch_23 rfl rfl ?_
      refine x_iconst (v := 0) C dX7_setBatch_24 (by decide) ?_
      refine x_bipush (v := 90) C dX7_setBatch_25 (by decide) ?_
      refine x_callSRO C ([.int v, .int 0, .int 90]) ([]) [] (na := 3) gX7_setBatch_X7_in rfl (by decide +kernel) rfl (kX7_in (xl cx) (xG cx) v 0 90) rfl (by decide) rfl rfl rfl ⟨by decide, by decide⟩ (Nat.le_of_ble_eq_true rfl) ⟨by decide, by decide⟩ dX7_setBatch_27 ?_
      refine x_ifb_ne (P := 0 ≤ v ∧ v ≤ 90) C 37 dX7_setBatch_30 (by decide) (fun c_30 => ?_) (fun c_30 => ?_)
      ·
        obtain ⟨kb, h_kb, rfl⟩ := in_nat (M := 5) (m := 5) c_4 (by decide)
        refine x_iconst (v := 4) C dX7_setBatch_37 (by decide) ?_
        refine x_iconst (v := 2) C dX7_setBatch_38 (by decide) ?_
        refine x_iload_n C 1 dX7_setBatch_39 rfl rfl ?_
        refine x_imul C (pk_mul 2 kb) dX7_setBatch_40 ?_
        refine x_iadd C (nI_add 4 (2 * kb)) dX7_setBatch_41 ?_
        refine x_istore C [(4, .int (nI (4 + (2 * kb)))), (0, .ref m), (1, .int (nI kb)), (2, .int h), (3, .int v)] dX7_setBatch_42 (by decide) rfl ?_
        refine x_aload_n C 1 dX7_setBatch_44 rfl rfl ?_
        refine x_getf C 0 rfl rfl i_kX7_setBatch_X7 0 (by decide) m_kX7_setBatch_1 rfl rfl dX7_setBatch_45 ?_
        refine x_iload C 0 dX7_setBatch_48 rfl ?_
        refine x_iald C 1 rfl rfl (vp_in_nI (by omega) (by decide)) (congrArg z (nI_clamp (by omega))) dX7_setBatch_50 ?_
        refine x_istore C [(5, .int (z (4 + (2 * kb)))), (4, .int (nI (4 + (2 * kb)))), (0, .ref m), (1, .int (nI kb)), (2, .int h), (3, .int v)] dX7_setBatch_51 (by decide) rfl ?_
        refine x_iload C 0 dX7_setBatch_53 rfl ?_
        refine x_iload_n C 4 dX7_setBatch_55 rfl rfl ?_
        refine x_icmp_ne C 76 dX7_setBatch_56 (by decide) (fun c_56 => ?_) (fun c_56 => ?_)
        ·
          refine x_aload_n C 2 dX7_setBatch_76 rfl rfl ?_
          refine x_callVMU C ([]) ([]) [0, 1, 2] [(m, .inr (7, [.ref w1, .ref w2, .ref w3, .int (nI (rcN ns)), .ref w4, .int ik, .ref w5, .int (nI ln), .int e1, .int e2, .ref w6, .int (nI tm), .int (nI sp)])), (w1, .inl ((xG cx).2.1, 508, .inl z)), (w3, .inl ((xG cx).2.1, 2032, .inl (rcF f ns z)))] [] [m, w1, w3] rfl rfl [] rfl rfl 3 rfl (by decide +kernel) rfl (k0 := 0) (na := 0) gX7_setBatch_X7_record rfl (by decide +kernel) rfl rfl rfl M (kX7_record (xl cx) (xG cx) m w1 w2 w3 w4 w5 w6 ns ln tm sp ik e1 e2 z f (by first | assumption | rfl | omega | decide)) rfl (by decide) rfl rfl rfl ⟨by decide, by decide⟩ (Nat.le_of_ble_eq_true rfl) ⟨by decide, by decide⟩ dX7_setBatch_77 ?_
          refine x_aload_n C 2 dX7_setBatch_80 rfl rfl ?_
          refine x_getf C 0 rfl rfl i_kX7_setBatch_X7 0 (by decide) m_kX7_setBatch_1 rfl rfl dX7_setBatch_81 ?_
          refine x_iload C 1 dX7_setBatch_84 rfl ?_
          refine x_iload_n C 4 dX7_setBatch_86 rfl rfl ?_
          refine x_iast C M 1 rfl rfl (vp_in_nI (by omega) (by decide)) (nI_clamp (by omega)) [(m, .inr (7, [.ref w1, .ref w2, .ref w3, .int (nI (rcN ns)), .ref w4, .int ik, .ref w5, .int (nI ln), .int e1, .int e2, .ref w6, .int (nI tm), .int (nI sp)])), (w1, .inl ((xG cx).2.1, 508, .inl (upd z (4 + (2 * kb)) h))), (w3, .inl ((xG cx).2.1, 2032, .inl (rcF f ns z)))] rfl dX7_setBatch_87 ?_
          refine x_aload_n C 2 dX7_setBatch_88 rfl rfl ?_
          refine x_getf C 0 rfl rfl i_kX7_setBatch_X7 0 (by decide) m_kX7_setBatch_1 rfl rfl dX7_setBatch_89 ?_
          refine x_iload C 1 dX7_setBatch_92 rfl ?_
          refine x_iconst (v := 1) C dX7_setBatch_94 (by decide) ?_
          refine x_iadd C (nI_add (4 + (2 * kb)) 1) dX7_setBatch_95 ?_
          refine x_iload_n C 5 dX7_setBatch_96 rfl rfl ?_
          refine x_iast C M 1 rfl rfl (vp_in_nI (by omega) (by decide)) (nI_clamp (by omega)) [(m, .inr (7, [.ref w1, .ref w2, .ref w3, .int (nI (rcN ns)), .ref w4, .int ik, .ref w5, .int (nI ln), .int e1, .int e2, .ref w6, .int (nI tm), .int (nI sp)])), (w1, .inl ((xG cx).2.1, 508, .inl (upd (upd z (4 + (2 * kb)) h) ((4 + (2 * kb)) + 1) v))), (w3, .inl ((xG cx).2.1, 2032, .inl (rcF f ns z)))] rfl dX7_setBatch_97 ?_
          refine x_iload C 0 dX7_setBatch_98 rfl ?_
          have e_ret : sbR z f ns (nI kb) h v = (z (4 + (2 * kb)), (upd (upd z (4 + (2 * kb)) h) ((4 + (2 * kb)) + 1) v, rcF f ns z, rcN ns)) := by simp [sbR, c_4, c_20, c_30, ix kb (by omega), c_56]
          exact x_iret C E dX7_setBatch_100 (by rw [e_ret]) ((rfl : _ = ([(m, .inr (7, [.ref w1, .ref w2, .ref w3, .int (nI ((upd (upd z (4 + (2 * kb)) h) ((4 + (2 * kb)) + 1) v, rcF f ns z, rcN ns).2.2)), .ref w4, .int ik, .ref w5, .int (nI ln), .int e1, .int e2, .ref w6, .int (nI tm), .int (nI sp)])), (w1, .inl ((xG cx).2.1, 508, .inl ((upd (upd z (4 + (2 * kb)) h) ((4 + (2 * kb)) + 1) v, rcF f ns z, rcN ns).1))), (w3, .inl ((xG cx).2.1, 2032, .inl ((upd (upd z (4 + (2 * kb)) h) ((4 + (2 * kb)) + 1) v, rcF f ns z, rcN ns).2.1)))] : va_W)).trans (by rw [e_ret]))
        ·
          refine x_aload_n C 2 dX7_setBatch_59 rfl rfl ?_
          refine x_getf C 0 rfl rfl i_kX7_setBatch_X7 0 (by decide) m_kX7_setBatch_1 rfl rfl dX7_setBatch_60 ?_
          refine x_iload C 1 dX7_setBatch_63 rfl ?_
          refine x_iconst (v := 1) C dX7_setBatch_65 (by decide) ?_
          refine x_iadd C (nI_add (4 + (2 * kb)) 1) dX7_setBatch_66 ?_
          refine x_iald C 1 rfl rfl (vp_in_nI (by omega) (by decide)) (congrArg z (nI_clamp (by omega))) dX7_setBatch_67 ?_
          refine x_iload_n C 5 dX7_setBatch_68 rfl rfl ?_
          refine x_icmp_ne C 76 dX7_setBatch_69 (by decide) (fun c_69 => ?_) (fun c_69 => ?_)
          ·
            refine x_aload_n C 2 dX7_setBatch_76 rfl rfl ?_
            refine x_callVMU C ([]) ([]) [0, 1, 2] [(m, .inr (7, [.ref w1, .ref w2, .ref w3, .int (nI (rcN ns)), .ref w4, .int ik, .ref w5, .int (nI ln), .int e1, .int e2, .ref w6, .int (nI tm), .int (nI sp)])), (w1, .inl ((xG cx).2.1, 508, .inl z)), (w3, .inl ((xG cx).2.1, 2032, .inl (rcF f ns z)))] [] [m, w1, w3] rfl rfl [] rfl rfl 3 rfl (by decide +kernel) rfl (k0 := 0) (na := 0) gX7_setBatch_X7_record rfl (by decide +kernel) rfl rfl rfl M (kX7_record (xl cx) (xG cx) m w1 w2 w3 w4 w5 w6 ns ln tm sp ik e1 e2 z f (by first | assumption | rfl | omega | decide)) rfl (by decide) rfl rfl rfl ⟨by decide, by decide⟩ (Nat.le_of_ble_eq_true rfl) ⟨by decide, by decide⟩ dX7_setBatch_77 ?_
            refine x_aload_n C 2 dX7_setBatch_80 rfl rfl ?_
            refine x_getf C 0 rfl rfl i_kX7_setBatch_X7 0 (by decide) m_kX7_setBatch_1 rfl rfl dX7_setBatch_81 ?_
            refine x_iload C 1 dX7_setBatch_84 rfl ?_
            refine x_iload_n C 4 dX7_setBatch_86 rfl rfl ?_
            refine x_iast C M 1 rfl rfl (vp_in_nI (by omega) (by decide)) (nI_clamp (by omega)) [(m, .inr (7, [.ref w1, .ref w2, .ref w3, .int (nI (rcN ns)), .ref w4, .int ik, .ref w5, .int (nI ln), .int e1, .int e2, .ref w6, .int (nI tm), .int (nI sp)])), (w1, .inl ((xG cx).2.1, 508, .inl (upd z (4 + (2 * kb)) h))), (w3, .inl ((xG cx).2.1, 2032, .inl (rcF f ns z)))] rfl dX7_setBatch_87 ?_
            refine x_aload_n C 2 dX7_setBatch_88 rfl rfl ?_
            refine x_getf C 0 rfl rfl i_kX7_setBatch_X7 0 (by decide) m_kX7_setBatch_1 rfl rfl dX7_setBatch_89 ?_
            refine x_iload C 1 dX7_setBatch_92 rfl ?_
            refine x_iconst (v := 1) C dX7_setBatch_94 (by decide) ?_
            refine x_iadd C (nI_add (4 + (2 * kb)) 1) dX7_setBatch_95 ?_
            refine x_iload_n C 5 dX7_setBatch_96 rfl rfl ?_
            refine x_iast C M 1 rfl rfl (vp_in_nI (by omega) (by decide)) (nI_clamp (by omega)) [(m, .inr (7, [.ref w1, .ref w2, .ref w3, .int (nI (rcN ns)), .ref w4, .int ik, .ref w5, .int (nI ln), .int e1, .int e2, .ref w6, .int (nI tm), .int (nI sp)])), (w1, .inl ((xG cx).2.1, 508, .inl (upd (upd z (4 + (2 * kb)) h) ((4 + (2 * kb)) + 1) v))), (w3, .inl ((xG cx).2.1, 2032, .inl (rcF f ns z)))] rfl dX7_setBatch_97 ?_
            refine x_iload C 0 dX7_setBatch_98 rfl ?_
            have e_ret : sbR z f ns (nI kb) h v = (z (4 + (2 * kb)), (upd (upd z (4 + (2 * kb)) h) ((4 + (2 * kb)) + 1) v, rcF f ns z, rcN ns)) := by simp [sbR, c_4, c_20, c_30, ix kb (by omega), c_56, c_69]
            exact x_iret C E dX7_setBatch_100 (by rw [e_ret]) ((rfl : _ = ([(m, .inr (7, [.ref w1, .ref w2, .ref w3, .int (nI ((upd (upd z (4 + (2 * kb)) h) ((4 + (2 * kb)) + 1) v, rcF f ns z, rcN ns).2.2)), .ref w4, .int ik, .ref w5, .int (nI ln), .int e1, .int e2, .ref w6, .int (nI tm), .int (nI sp)])), (w1, .inl ((xG cx).2.1, 508, .inl ((upd (upd z (4 + (2 * kb)) h) ((4 + (2 * kb)) + 1) v, rcF f ns z, rcN ns).1))), (w3, .inl ((xG cx).2.1, 2032, .inl ((upd (upd z (4 + (2 * kb)) h) ((4 + (2 * kb)) + 1) v, rcF f ns z, rcN ns).2.1)))] : va_W)).trans (by rw [e_ret]))
          ·
            refine x_sipush (v := (-1005)) C dX7_setBatch_72 (by decide) ?_
            have e_ret : sbR z f ns (nI kb) h v = ((-1005), (z, f, ns)) := by simp [sbR, c_4, c_20, c_30, ix kb (by omega), c_56, c_69]
            exact x_iret C E dX7_setBatch_75 (by rw [e_ret]) ((rfl : _ = ([(m, .inr (7, [.ref w1, .ref w2, .ref w3, .int (nI ((z, f, ns).2.2)), .ref w4, .int ik, .ref w5, .int (nI ln), .int e1, .int e2, .ref w6, .int (nI tm), .int (nI sp)])), (w1, .inl ((xG cx).2.1, 508, .inl ((z, f, ns).1))), (w3, .inl ((xG cx).2.1, 2032, .inl ((z, f, ns).2.1)))] : va_W)).trans (by rw [e_ret]))
      ·
        refine x_sipush (v := (-1002)) C dX7_setBatch_33 (by decide) ?_
        have e_ret : sbR z f ns b h v = ((-1002), (z, f, ns)) := by simp [sbR, c_4, c_20, c_30]
        exact x_iret C E dX7_setBatch_36 (by rw [e_ret]) ((rfl : _ = ([(m, .inr (7, [.ref w1, .ref w2, .ref w3, .int (nI ((z, f, ns).2.2)), .ref w4, .int ik, .ref w5, .int (nI ln), .int e1, .int e2, .ref w6, .int (nI tm), .int (nI sp)])), (w1, .inl ((xG cx).2.1, 508, .inl ((z, f, ns).1))), (w3, .inl ((xG cx).2.1, 2032, .inl ((z, f, ns).2.1)))] : va_W)).trans (by rw [e_ret]))
  ·
    refine x_sipush (v := (-1001)) C dX7_setBatch_7 (by decide) ?_
    have e_ret : sbR z f ns b h v = ((-1001), (z, f, ns)) := by simp [sbR, c_4]
    exact x_iret C E dX7_setBatch_10 (by rw [e_ret]) ((rfl : _ = ([(m, .inr (7, [.ref w1, .ref w2, .ref w3, .int (nI ((z, f, ns).2.2)), .ref w4, .int ik, .ref w5, .int (nI ln), .int e1, .int e2, .ref w6, .int (nI tm), .int (nI sp)])), (w1, .inl ((xG cx).2.1, 508, .inl ((z, f, ns).1))), (w3, .inl ((xG cx).2.1, 2032, .inl ((z, f, ns).2.1)))] : va_W)).trans (by rw [e_ret]))

set_option maxRecDepth 100000 in
set_option maxHeartbeats 4000000 in
theorem kX7_put (l : Launch) (G : GG) (m : Nat) (w1 : Nat) (w2 : Nat) (w3 : Nat) (w4 : Nat) (w5 : Nat) (w6 : Nat) (ns : Nat) (ln : Nat) (tm : Nat) (sp : Nat) (ik : Int32) (e1 : Int32) (e2 : Int32) (z : Nat → Int32) (f : Nat → Int32) (n : Nat) (r : Int32) (p : Int32) (b : Int32) (hs : ns ≤ 4) (hn : n ≤ 60) (hz3 : z 3 = nI n) : MU l G yX7_put wsX7_put ({ frames := 3, cells := 0, slots := 0, locals := 69 } : Room) [.ref m, .int r, .int p, .int b] [(m, .inr (7, [.ref w1, .ref w2, .ref w3, .int (nI ns), .ref w4, .int ik, .ref w5, .int (nI ln), .int e1, .int e2, .ref w6, .int (nI tm), .int (nI sp)])), (w1, .inl (G.2.1, 508, .inl z)), (w3, .inl (G.2.1, 2032, .inl f))] (some (.int ((puR z f ns n r p b).1))) [(m, .inr (7, [.ref w1, .ref w2, .ref w3, .int (nI ((puR z f ns n r p b).2.2.2)), .ref w4, .int ik, .ref w5, .int (nI ln), .int e1, .int e2, .ref w6, .int (nI tm), .int (nI sp)])), (w1, .inl (G.2.1, 508, .inl ((puR z f ns n r p b).2.1))), (w3, .inl (G.2.1, 2032, .inl ((puR z f ns n r p b).2.2.1)))] := by
  refine MU.of (cc := cX7_put) (maxL := 5) (ret := (some .int)) (by decide) rfl (Nat.le_of_ble_eq_true rfl) ?_
  intro cx hxl hxG C M E
  subst hxl
  subst hxG
  show X cx (0, 0) [(m, .inr (7, [.ref w1, .ref w2, .ref w3, .int (nI ns), .ref w4, .int ik, .ref w5, .int (nI ln), .int e1, .int e2, .ref w6, .int (nI tm), .int (nI sp)])), (w1, .inl ((xG cx).2.1, 508, .inl z)), (w3, .inl ((xG cx).2.1, 2032, .inl f))] [(0, .ref m), (1, .int r), (2, .int p), (3, .int b)] 0 []
  refine x_aload_n C 0 dX7_put_0 rfl rfl ?_
  refine x_iload_n C 1 dX7_put_1 rfl rfl ?_
  refine x_iload_n C 2 dX7_put_2 rfl rfl ?_
  refine x_iload_n C 3 dX7_put_3 rfl rfl ?_
  refine x_callVRO C ([.int r, .int p, .int b]) ([]) [0, 1] (k0 := 0) (na := 3) gX7_put_X7_whyNotPut rfl (by decide +kernel) rfl rfl rfl (kX7_whyNotPut (xl cx) (xG cx) m w1 w2 w3 w4 w5 w6 ns ln tm sp ik e1 e2 z n r p b (by first | assumption | rfl | omega | decide) (by first | assumption | rfl | omega | decide)) rfl (by decide) rfl rfl rfl ⟨by decide, by decide⟩ (Nat.le_of_ble_eq_true rfl) ⟨by decide, by decide⟩ dX7_put_4 ?_
  refine x_istore C [(4, .int (wpR z n r p b)), (0, .ref m), (1, .int r), (2, .int p), (3, .int b)] dX7_put_7 (by decide) rfl ?_
  refine x_iload C 0 dX7_put_9 rfl ?_
  refine x_if_ge C 17 dX7_put_11 (by decide) (fun c_11 => ?_) (fun c_11 => ?_)
  ·
    have ho := wpR_ok c_11
    have ho3 := ho.2.2.2
    obtain ⟨kb, h_kb, rfl⟩ := in_nat (M := 5) (m := 5) ho.2.1 (by decide)
    refine x_aload_n C 1 dX7_put_17 rfl rfl ?_
    refine x_callVMU C ([]) ([]) [0, 1, 2] [(m, .inr (7, [.ref w1, .ref w2, .ref w3, .int (nI (rcN ns)), .ref w4, .int ik, .ref w5, .int (nI ln), .int e1, .int e2, .ref w6, .int (nI tm), .int (nI sp)])), (w1, .inl ((xG cx).2.1, 508, .inl z)), (w3, .inl ((xG cx).2.1, 2032, .inl (rcF f ns z)))] [] [m, w1, w3] rfl rfl [] rfl rfl 3 rfl (by decide +kernel) rfl (k0 := 0) (na := 0) gX7_put_X7_record rfl (by decide +kernel) rfl rfl rfl M (kX7_record (xl cx) (xG cx) m w1 w2 w3 w4 w5 w6 ns ln tm sp ik e1 e2 z f (by first | assumption | rfl | omega | decide)) rfl (by decide) rfl rfl rfl ⟨by decide, by decide⟩ (Nat.le_of_ble_eq_true rfl) ⟨by decide, by decide⟩ dX7_put_18 ?_
    refine x_aload_n C 1 dX7_put_21 rfl rfl ?_
    refine x_iload_n C 2 dX7_put_22 rfl rfl ?_
    refine x_iload_n C 3 dX7_put_23 rfl rfl ?_
    refine x_iload_n C 4 dX7_put_24 rfl rfl ?_
    refine x_callVMU C ([.int r, .int p, .int (nI kb)]) ([]) [0, 1] [(m, .inr (7, [.ref w1, .ref w2, .ref w3, .int (nI (rcN ns)), .ref w4, .int ik, .ref w5, .int (nI ln), .int e1, .int e2, .ref w6, .int (nI tm), .int (nI sp)])), (w1, .inl ((xG cx).2.1, 508, .inl (ptZ z n r p kb))), (w3, .inl ((xG cx).2.1, 2032, .inl (rcF f ns z)))] [2] [m, w1, w3] rfl rfl [(w3, .inl ((xG cx).2.1, 2032, .inl (rcF f ns z)))] rfl rfl 3 rfl (by decide +kernel) rfl (k0 := 0) (na := 3) gX7_put_X7_putNow rfl (by decide +kernel) rfl rfl rfl M (kX7_putNow (xl cx) (xG cx) m w1 w2 w3 w4 w5 w6 (rcN ns) ln tm sp ik e1 e2 z n r p kb (by first | assumption | rfl | omega | decide) (by first | assumption | rfl | omega | decide) (by first | assumption | rfl | omega | decide)) rfl (by decide) rfl rfl rfl ⟨by decide, by decide⟩ (Nat.le_of_ble_eq_true rfl) ⟨by decide, by decide⟩ dX7_put_25 ?_
    have e_ret : puR z f ns n r p (nI kb) = (nI n, (ptZ z n r p kb, rcF f ns z, (rcN ns))) := by simp [puR, c_11, ix kb (by omega)]
    exact x_iret C E dX7_put_28 (by rw [e_ret]) ((rfl : _ = ([(m, .inr (7, [.ref w1, .ref w2, .ref w3, .int (nI ((ptZ z n r p kb, rcF f ns z, (rcN ns)).2.2)), .ref w4, .int ik, .ref w5, .int (nI ln), .int e1, .int e2, .ref w6, .int (nI tm), .int (nI sp)])), (w1, .inl ((xG cx).2.1, 508, .inl ((ptZ z n r p kb, rcF f ns z, (rcN ns)).1))), (w3, .inl ((xG cx).2.1, 2032, .inl ((ptZ z n r p kb, rcF f ns z, (rcN ns)).2.1)))] : va_W)).trans (by rw [e_ret]))
  ·
    refine x_iload C 0 dX7_put_14 rfl ?_
    have e_ret : puR z f ns n r p b = (wpR z n r p b, (z, f, ns)) := by simp [puR, c_11]
    exact x_iret C E dX7_put_16 (by rw [e_ret]) ((rfl : _ = ([(m, .inr (7, [.ref w1, .ref w2, .ref w3, .int (nI ((z, f, ns).2.2)), .ref w4, .int ik, .ref w5, .int (nI ln), .int e1, .int e2, .ref w6, .int (nI tm), .int (nI sp)])), (w1, .inl ((xG cx).2.1, 508, .inl ((z, f, ns).1))), (w3, .inl ((xG cx).2.1, 2032, .inl ((z, f, ns).2.1)))] : va_W)).trans (by rw [e_ret]))

set_option maxRecDepth 100000 in
set_option maxHeartbeats 4000000 in
theorem kX7_takeOut (l : Launch) (G : GG) (m : Nat) (w1 : Nat) (w2 : Nat) (w3 : Nat) (w4 : Nat) (w5 : Nat) (w6 : Nat) (ns : Nat) (ln : Nat) (tm : Nat) (sp : Nat) (ik : Int32) (e1 : Int32) (e2 : Int32) (z : Nat → Int32) (f : Nat → Int32) (n : Nat) (r : Int32) (p : Int32) (hs : ns ≤ 4) (hn : n ≤ 60) (hz3 : z 3 = nI n) : MU l G yX7_takeOut wsX7_takeOut ({ frames := 3, cells := 0, slots := 0, locals := 66 } : Room) [.ref m, .int r, .int p] [(m, .inr (7, [.ref w1, .ref w2, .ref w3, .int (nI ns), .ref w4, .int ik, .ref w5, .int (nI ln), .int e1, .int e2, .ref w6, .int (nI tm), .int (nI sp)])), (w1, .inl (G.2.1, 508, .inl z)), (w3, .inl (G.2.1, 2032, .inl f))] (some (.int ((toR z f ns n r p).1))) [(m, .inr (7, [.ref w1, .ref w2, .ref w3, .int (nI ((toR z f ns n r p).2.2.2)), .ref w4, .int ik, .ref w5, .int (nI ln), .int e1, .int e2, .ref w6, .int (nI tm), .int (nI sp)])), (w1, .inl (G.2.1, 508, .inl ((toR z f ns n r p).2.1))), (w3, .inl (G.2.1, 2032, .inl ((toR z f ns n r p).2.2.1)))] := by
  refine MU.of (cc := cX7_takeOut) (maxL := 4) (ret := (some .int)) (by decide) rfl (Nat.le_of_ble_eq_true rfl) ?_
  intro cx hxl hxG C M E
  subst hxl
  subst hxG
  show X cx (0, 0) [(m, .inr (7, [.ref w1, .ref w2, .ref w3, .int (nI ns), .ref w4, .int ik, .ref w5, .int (nI ln), .int e1, .int e2, .ref w6, .int (nI tm), .int (nI sp)])), (w1, .inl ((xG cx).2.1, 508, .inl z)), (w3, .inl ((xG cx).2.1, 2032, .inl f))] [(0, .ref m), (1, .int r), (2, .int p)] 0 []
  refine x_iload_n C 1 dX7_takeOut_0 rfl rfl ?_
  refine x_callSRO C ([.int r]) ([]) [] (na := 1) gX7_takeOut_X7_isRack rfl (by decide +kernel) rfl (kX7_isRack (xl cx) (xG cx) r) rfl (by decide) rfl rfl rfl ⟨by decide, by decide⟩ (Nat.le_of_ble_eq_true rfl) ⟨by decide, by decide⟩ dX7_takeOut_1 ?_
  refine x_ifb_eq (P := 0 ≤ r ∧ r ≤ 2) C 14 dX7_takeOut_4 (by decide) (fun c_4 => ?_) (fun c_4 => ?_)
  ·
    refine x_sipush (v := (-1001)) C dX7_takeOut_14 (by decide) ?_
    have e_ret : toR z f ns n r p = ((-1001), (z, f, ns)) := by simp [toR, c_4]
    exact x_iret C E dX7_takeOut_17 (by rw [e_ret]) ((rfl : _ = ([(m, .inr (7, [.ref w1, .ref w2, .ref w3, .int (nI ((z, f, ns).2.2)), .ref w4, .int ik, .ref w5, .int (nI ln), .int e1, .int e2, .ref w6, .int (nI tm), .int (nI sp)])), (w1, .inl ((xG cx).2.1, 508, .inl ((z, f, ns).1))), (w3, .inl ((xG cx).2.1, 2032, .inl ((z, f, ns).2.1)))] : va_W)).trans (by rw [e_ret]))
  ·
    refine x_iload_n C 2 dX7_takeOut_7 rfl rfl ?_
    refine x_callSRO C ([.int p]) ([]) [] (na := 1) gX7_takeOut_X7_isPlace rfl (by decide +kernel) rfl (kX7_isPlace (xl cx) (xG cx) p) rfl (by decide) rfl rfl rfl ⟨by decide, by decide⟩ (Nat.le_of_ble_eq_true rfl) ⟨by decide, by decide⟩ dX7_takeOut_8 ?_
    refine x_ifb_ne (P := 0 ≤ p ∧ p ≤ 7) C 18 dX7_takeOut_11 (by decide) (fun c_11 => ?_) (fun c_11 => ?_)
    ·
      refine x_aload_n C 0 dX7_takeOut_18 rfl rfl ?_
      refine x_iload_n C 1 dX7_takeOut_19 rfl rfl ?_
      refine x_iload_n C 2 dX7_takeOut_20 rfl rfl ?_
      refine x_callVRO C ([.int r, .int p]) ([]) [0, 1] (k0 := 0) (na := 2) gX7_takeOut_X7_lampAt rfl (by decide +kernel) rfl rfl rfl (kX7_lampAt (xl cx) (xG cx) m w1 w2 w3 w4 w5 w6 ns ln tm sp ik e1 e2 z n r p (by first | assumption | rfl | omega | decide) (by first | assumption | rfl | omega | decide)) rfl (by decide) rfl rfl rfl ⟨by decide, by decide⟩ (Nat.le_of_ble_eq_true rfl) ⟨by decide, by decide⟩ dX7_takeOut_21 ?_
      refine x_istore_n C [(3, .int (lat z r p n)), (0, .ref m), (1, .int r), (2, .int p)] dX7_takeOut_24 rfl (by decide) rfl ?_
      refine x_iload_n C 0 dX7_takeOut_25 rfl rfl ?_
      refine x_sipush (v := (-1005)) C dX7_takeOut_26 (by decide) ?_
      refine x_icmp_ne C 36 dX7_takeOut_29 (by decide) (fun c_29 => ?_) (fun c_29 => ?_)
      ·
        refine x_aload_n C 1 dX7_takeOut_36 rfl rfl ?_
        refine x_callVMU C ([]) ([]) [0, 1, 2] [(m, .inr (7, [.ref w1, .ref w2, .ref w3, .int (nI (rcN ns)), .ref w4, .int ik, .ref w5, .int (nI ln), .int e1, .int e2, .ref w6, .int (nI tm), .int (nI sp)])), (w1, .inl ((xG cx).2.1, 508, .inl z)), (w3, .inl ((xG cx).2.1, 2032, .inl (rcF f ns z)))] [] [m, w1, w3] rfl rfl [] rfl rfl 3 rfl (by decide +kernel) rfl (k0 := 0) (na := 0) gX7_takeOut_X7_record rfl (by decide +kernel) rfl rfl rfl M (kX7_record (xl cx) (xG cx) m w1 w2 w3 w4 w5 w6 ns ln tm sp ik e1 e2 z f (by first | assumption | rfl | omega | decide)) rfl (by decide) rfl rfl rfl ⟨by decide, by decide⟩ (Nat.le_of_ble_eq_true rfl) ⟨by decide, by decide⟩ dX7_takeOut_37 ?_
        refine x_aload_n C 1 dX7_takeOut_40 rfl rfl ?_
        refine x_iload_n C 0 dX7_takeOut_41 rfl rfl ?_
        refine x_sipush (v := (-1005)) C dX7_takeOut_42 (by decide) ?_
        refine x_sipush (v := (-1005)) C dX7_takeOut_45 (by decide) ?_
        refine x_callVMU C ([.int (lat z r p n), .int (-1005), .int (-1005)]) ([]) [0, 1] [(m, .inr (7, [.ref w1, .ref w2, .ref w3, .int (nI (rcN ns)), .ref w4, .int ik, .ref w5, .int (nI ln), .int e1, .int e2, .ref w6, .int (nI tm), .int (nI sp)])), (w1, .inl ((xG cx).2.1, 508, .inl (mvZ z (lat z r p n) (-1005) (-1005)))), (w3, .inl ((xG cx).2.1, 2032, .inl (rcF f ns z)))] [2] [m, w1, w3] rfl rfl [(w3, .inl ((xG cx).2.1, 2032, .inl (rcF f ns z)))] rfl rfl 3 rfl (by decide +kernel) rfl (k0 := 0) (na := 3) gX7_takeOut_X7_moveTo rfl (by decide +kernel) rfl rfl rfl M (kX7_moveTo (xl cx) (xG cx) m w1 w2 w3 w4 w5 w6 (rcN ns) ln tm sp ik e1 e2 z (lat z r p n) (-1005) (-1005) (lat_60 hn z r p)) rfl (by decide) rfl rfl rfl ⟨by decide, by decide⟩ (Nat.le_of_ble_eq_true rfl) ⟨by decide, by decide⟩ dX7_takeOut_48 ?_
        refine x_iload_n C 0 dX7_takeOut_51 rfl rfl ?_
        have e_ret : toR z f ns n r p = (lat z r p n, (mvZ z (lat z r p n) (-1005) (-1005), rcF f ns z, (rcN ns))) := by simp [toR, c_4, c_11, c_29]
        exact x_iret C E dX7_takeOut_52 (by rw [e_ret]) ((rfl : _ = ([(m, .inr (7, [.ref w1, .ref w2, .ref w3, .int (nI ((mvZ z (lat z r p n) (-1005) (-1005), rcF f ns z, (rcN ns)).2.2)), .ref w4, .int ik, .ref w5, .int (nI ln), .int e1, .int e2, .ref w6, .int (nI tm), .int (nI sp)])), (w1, .inl ((xG cx).2.1, 508, .inl ((mvZ z (lat z r p n) (-1005) (-1005), rcF f ns z, (rcN ns)).1))), (w3, .inl ((xG cx).2.1, 2032, .inl ((mvZ z (lat z r p n) (-1005) (-1005), rcF f ns z, (rcN ns)).2.1)))] : va_W)).trans (by rw [e_ret]))
      ·
        refine x_sipush (v := (-1005)) C dX7_takeOut_32 (by decide) ?_
        have e_ret : toR z f ns n r p = ((-1005), (z, f, ns)) := by simp [toR, c_4, c_11, c_29]
        exact x_iret C E dX7_takeOut_35 (by rw [e_ret]) ((rfl : _ = ([(m, .inr (7, [.ref w1, .ref w2, .ref w3, .int (nI ((z, f, ns).2.2)), .ref w4, .int ik, .ref w5, .int (nI ln), .int e1, .int e2, .ref w6, .int (nI tm), .int (nI sp)])), (w1, .inl ((xG cx).2.1, 508, .inl ((z, f, ns).1))), (w3, .inl ((xG cx).2.1, 2032, .inl ((z, f, ns).2.1)))] : va_W)).trans (by rw [e_ret]))
    ·
      refine x_sipush (v := (-1001)) C dX7_takeOut_14 (by decide) ?_
      have e_ret : toR z f ns n r p = ((-1001), (z, f, ns)) := by simp [toR, c_4, c_11]
      exact x_iret C E dX7_takeOut_17 (by rw [e_ret]) ((rfl : _ = ([(m, .inr (7, [.ref w1, .ref w2, .ref w3, .int (nI ((z, f, ns).2.2)), .ref w4, .int ik, .ref w5, .int (nI ln), .int e1, .int e2, .ref w6, .int (nI tm), .int (nI sp)])), (w1, .inl ((xG cx).2.1, 508, .inl ((z, f, ns).1))), (w3, .inl ((xG cx).2.1, 2032, .inl ((z, f, ns).2.1)))] : va_W)).trans (by rw [e_ret]))

set_option maxRecDepth 100000 in
set_option maxHeartbeats 4000000 in
theorem kX7_swap (l : Launch) (G : GG) (m : Nat) (w1 : Nat) (w2 : Nat) (w3 : Nat) (w4 : Nat) (w5 : Nat) (w6 : Nat) (ns : Nat) (ln : Nat) (tm : Nat) (sp : Nat) (ik : Int32) (e1 : Int32) (e2 : Int32) (z : Nat → Int32) (f : Nat → Int32) (n : Nat) (r : Int32) (p : Int32) (s : Int32) (q : Int32) (hs : ns ≤ 4) (hn : n ≤ 60) (hz3 : z 3 = nI n) : MU l G yX7_swap wsX7_swap ({ frames := 3, cells := 0, slots := 0, locals := 66 } : Room) [.ref m, .int r, .int p, .int s, .int q] [(m, .inr (7, [.ref w1, .ref w2, .ref w3, .int (nI ns), .ref w4, .int ik, .ref w5, .int (nI ln), .int e1, .int e2, .ref w6, .int (nI tm), .int (nI sp)])), (w1, .inl (G.2.1, 508, .inl z)), (w3, .inl (G.2.1, 2032, .inl f))] (some (.int ((swR z f ns n r p s q).1))) [(m, .inr (7, [.ref w1, .ref w2, .ref w3, .int (nI ((swR z f ns n r p s q).2.2.2)), .ref w4, .int ik, .ref w5, .int (nI ln), .int e1, .int e2, .ref w6, .int (nI tm), .int (nI sp)])), (w1, .inl (G.2.1, 508, .inl ((swR z f ns n r p s q).2.1))), (w3, .inl (G.2.1, 2032, .inl ((swR z f ns n r p s q).2.2.1)))] := by
  refine MU.of (cc := cX7_swap) (maxL := 8) (ret := (some .int)) (by decide) rfl (Nat.le_of_ble_eq_true rfl) ?_
  intro cx hxl hxG C M E
  subst hxl
  subst hxG
  show X cx (0, 0) [(m, .inr (7, [.ref w1, .ref w2, .ref w3, .int (nI ns), .ref w4, .int ik, .ref w5, .int (nI ln), .int e1, .int e2, .ref w6, .int (nI tm), .int (nI sp)])), (w1, .inl ((xG cx).2.1, 508, .inl z)), (w3, .inl ((xG cx).2.1, 2032, .inl f))] [(0, .ref m), (1, .int r), (2, .int p), (3, .int s), (4, .int q)] 0 []
  refine x_iload_n C 1 dX7_swap_0 rfl rfl ?_
  refine x_callSRO C ([.int r]) ([]) [] (na := 1) gX7_swap_X7_isRack rfl (by decide +kernel) rfl (kX7_isRack (xl cx) (xG cx) r) rfl (by decide) rfl rfl rfl ⟨by decide, by decide⟩ (Nat.le_of_ble_eq_true rfl) ⟨by decide, by decide⟩ dX7_swap_1 ?_
  refine x_ifb_eq (P := 0 ≤ r ∧ r ≤ 2) C 29 dX7_swap_4 (by decide) (fun c_4 => ?_) (fun c_4 => ?_)
  ·
    refine x_sipush (v := (-1001)) C dX7_swap_29 (by decide) ?_
    have e_ret : swR z f ns n r p s q = ((-1001), (z, f, ns)) := by simp [swR, c_4]
    exact x_iret C E dX7_swap_32 (by rw [e_ret]) ((rfl : _ = ([(m, .inr (7, [.ref w1, .ref w2, .ref w3, .int (nI ((z, f, ns).2.2)), .ref w4, .int ik, .ref w5, .int (nI ln), .int e1, .int e2, .ref w6, .int (nI tm), .int (nI sp)])), (w1, .inl ((xG cx).2.1, 508, .inl ((z, f, ns).1))), (w3, .inl ((xG cx).2.1, 2032, .inl ((z, f, ns).2.1)))] : va_W)).trans (by rw [e_ret]))
  ·
    refine x_iload_n C 2 dX7_swap_7 rfl rfl ?_
    refine x_callSRO C ([.int p]) ([]) [] (na := 1) gX7_swap_X7_isPlace rfl (by decide +kernel) rfl (kX7_isPlace (xl cx) (xG cx) p) rfl (by decide) rfl rfl rfl ⟨by decide, by decide⟩ (Nat.le_of_ble_eq_true rfl) ⟨by decide, by decide⟩ dX7_swap_8 ?_
    refine x_ifb_eq (P := 0 ≤ p ∧ p ≤ 7) C 29 dX7_swap_11 (by decide) (fun c_11 => ?_) (fun c_11 => ?_)
    ·
      refine x_sipush (v := (-1001)) C dX7_swap_29 (by decide) ?_
      have e_ret : swR z f ns n r p s q = ((-1001), (z, f, ns)) := by simp [swR, c_4, c_11]
      exact x_iret C E dX7_swap_32 (by rw [e_ret]) ((rfl : _ = ([(m, .inr (7, [.ref w1, .ref w2, .ref w3, .int (nI ((z, f, ns).2.2)), .ref w4, .int ik, .ref w5, .int (nI ln), .int e1, .int e2, .ref w6, .int (nI tm), .int (nI sp)])), (w1, .inl ((xG cx).2.1, 508, .inl ((z, f, ns).1))), (w3, .inl ((xG cx).2.1, 2032, .inl ((z, f, ns).2.1)))] : va_W)).trans (by rw [e_ret]))
    ·
      refine x_iload_n C 3 dX7_swap_14 rfl rfl ?_
      refine x_callSRO C ([.int s]) ([]) [] (na := 1) gX7_swap_X7_isRack rfl (by decide +kernel) rfl (kX7_isRack (xl cx) (xG cx) s) rfl (by decide) rfl rfl rfl ⟨by decide, by decide⟩ (Nat.le_of_ble_eq_true rfl) ⟨by decide, by decide⟩ dX7_swap_15 ?_
      refine x_ifb_eq (P := 0 ≤ s ∧ s ≤ 2) C 29 dX7_swap_18 (by decide) (fun c_18 => ?_) (fun c_18 => ?_)
      ·
        refine x_sipush (v := (-1001)) C dX7_swap_29 (by decide) ?_
        have e_ret : swR z f ns n r p s q = ((-1001), (z, f, ns)) := by simp [swR, c_4, c_11, c_18]
        exact x_iret C E dX7_swap_32 (by rw [e_ret]) ((rfl : _ = ([(m, .inr (7, [.ref w1, .ref w2, .ref w3, .int (nI ((z, f, ns).2.2)), .ref w4, .int ik, .ref w5, .int (nI ln), .int e1, .int e2, .ref w6, .int (nI tm), .int (nI sp)])), (w1, .inl ((xG cx).2.1, 508, .inl ((z, f, ns).1))), (w3, .inl ((xG cx).2.1, 2032, .inl ((z, f, ns).2.1)))] : va_W)).trans (by rw [e_ret]))
      ·
        refine x_iload C 4 dX7_swap_21 rfl ?_
        refine x_callSRO C ([.int q]) ([]) [] (na := 1) gX7_swap_X7_isPlace rfl (by decide +kernel) rfl (kX7_isPlace (xl cx) (xG cx) q) rfl (by decide) rfl rfl rfl ⟨by decide, by decide⟩ (Nat.le_of_ble_eq_true rfl) ⟨by decide, by decide⟩ dX7_swap_23 ?_
        refine x_ifb_ne (P := 0 ≤ q ∧ q ≤ 7) C 33 dX7_swap_26 (by decide) (fun c_26 => ?_) (fun c_26 => ?_)
        ·
          refine x_aload_n C 0 dX7_swap_33 rfl rfl ?_
          refine x_iload_n C 1 dX7_swap_34 rfl rfl ?_
          refine x_iload_n C 2 dX7_swap_35 rfl rfl ?_
          refine x_callVRO C ([.int r, .int p]) ([]) [0, 1] (k0 := 0) (na := 2) gX7_swap_X7_lampAt rfl (by decide +kernel) rfl rfl rfl (kX7_lampAt (xl cx) (xG cx) m w1 w2 w3 w4 w5 w6 ns ln tm sp ik e1 e2 z n r p (by first | assumption | rfl | omega | decide) (by first | assumption | rfl | omega | decide)) rfl (by decide) rfl rfl rfl ⟨by decide, by decide⟩ (Nat.le_of_ble_eq_true rfl) ⟨by decide, by decide⟩ dX7_swap_36 ?_
          refine x_istore C [(5, .int (lat z r p n)), (0, .ref m), (1, .int r), (2, .int p), (3, .int s), (4, .int q)] dX7_swap_39 (by decide) rfl ?_
          refine x_aload_n C 1 dX7_swap_41 rfl rfl ?_
          refine x_iload_n C 4 dX7_swap_42 rfl rfl ?_
          refine x_iload C 5 dX7_swap_43 rfl ?_
          refine x_callVRO C ([.int s, .int q]) ([]) [0, 1] (k0 := 0) (na := 2) gX7_swap_X7_lampAt rfl (by decide +kernel) rfl rfl rfl (kX7_lampAt (xl cx) (xG cx) m w1 w2 w3 w4 w5 w6 ns ln tm sp ik e1 e2 z n s q (by first | assumption | rfl | omega | decide) (by first | assumption | rfl | omega | decide)) rfl (by decide) rfl rfl rfl ⟨by decide, by decide⟩ (Nat.le_of_ble_eq_true rfl) ⟨by decide, by decide⟩ dX7_swap_45 ?_
          refine x_istore C [(6, .int (lat z s q n)), (5, .int (lat z r p n)), (0, .ref m), (1, .int r), (2, .int p), (3, .int s), (4, .int q)] dX7_swap_48 (by decide) rfl ?_
          refine x_iload C 1 dX7_swap_50 rfl ?_
          refine x_sipush (v := (-1005)) C dX7_swap_52 (by decide) ?_
          have join_63 : ∀ (v0 : Int32) (hv0 : v0 = one (lat z r p n)), X cx (0, 0) [(m, .inr (7, [.ref w1, .ref w2, .ref w3, .int (nI ns), .ref w4, .int ik, .ref w5, .int (nI ln), .int e1, .int e2, .ref w6, .int (nI tm), .int (nI sp)])), (w1, .inl ((xG cx).2.1, 508, .inl z)), (w3, .inl ((xG cx).2.1, 2032, .inl f))] [(6, .int (lat z s q n)), (5, .int (lat z r p n)), (0, .ref m), (1, .int r), (2, .int p), (3, .int s), (4, .int q)] 63 [.int v0] := by
            intro v0 hv0
            subst hv0
            refine x_iload C 0 dX7_swap_63 rfl ?_
            refine x_sipush (v := (-1005)) C dX7_swap_65 (by decide) ?_
            have join_76 : ∀ (v0 : Int32) (hv0 : v0 = one (lat z s q n)), X cx (0, 0) [(m, .inr (7, [.ref w1, .ref w2, .ref w3, .int (nI ns), .ref w4, .int ik, .ref w5, .int (nI ln), .int e1, .int e2, .ref w6, .int (nI tm), .int (nI sp)])), (w1, .inl ((xG cx).2.1, 508, .inl z)), (w3, .inl ((xG cx).2.1, 2032, .inl f))] [(6, .int (lat z s q n)), (5, .int (lat z r p n)), (0, .ref m), (1, .int r), (2, .int p), (3, .int s), (4, .int q)] 76 [.int v0, .int (one (lat z r p n))] := by
              intro v0 hv0
              subst hv0
              refine x_iadd C (rfl) dX7_swap_76 ?_
              refine x_istore C [(7, .int ((one (lat z r p n)) + (one (lat z s q n)))), (6, .int (lat z s q n)), (5, .int (lat z r p n)), (0, .ref m), (1, .int r), (2, .int p), (3, .int s), (4, .int q)] dX7_swap_77 (by decide) rfl ?_
              refine x_iload C 0 dX7_swap_79 rfl ?_
              refine x_if_eq C 95 dX7_swap_81 (by decide) (fun c_81 => ?_) (fun c_81 => ?_)
              ·
                refine x_sipush (v := (-1005)) C dX7_swap_95 (by decide) ?_
                have e_ret : swR z f ns n r p s q = ((-1005), (z, f, ns)) := by simp [swR, c_4, c_11, c_18, c_26, c_81]
                exact x_iret C E dX7_swap_98 (by rw [e_ret]) ((rfl : _ = ([(m, .inr (7, [.ref w1, .ref w2, .ref w3, .int (nI ((z, f, ns).2.2)), .ref w4, .int ik, .ref w5, .int (nI ln), .int e1, .int e2, .ref w6, .int (nI tm), .int (nI sp)])), (w1, .inl ((xG cx).2.1, 508, .inl ((z, f, ns).1))), (w3, .inl ((xG cx).2.1, 2032, .inl ((z, f, ns).2.1)))] : va_W)).trans (by rw [e_ret]))
              ·
                refine x_iload_n C 4 dX7_swap_84 rfl rfl ?_
                refine x_iload_n C 6 dX7_swap_85 rfl rfl ?_
                refine x_icmp_ne C 99 dX7_swap_86 (by decide) (fun c_86 => ?_) (fun c_86 => ?_)
                ·
                  refine x_aload_n C 3 dX7_swap_99 rfl rfl ?_
                  refine x_callVMU C ([]) ([]) [0, 1, 2] [(m, .inr (7, [.ref w1, .ref w2, .ref w3, .int (nI (rcN ns)), .ref w4, .int ik, .ref w5, .int (nI ln), .int e1, .int e2, .ref w6, .int (nI tm), .int (nI sp)])), (w1, .inl ((xG cx).2.1, 508, .inl z)), (w3, .inl ((xG cx).2.1, 2032, .inl (rcF f ns z)))] [] [m, w1, w3] rfl rfl [] rfl rfl 3 rfl (by decide +kernel) rfl (k0 := 0) (na := 0) gX7_swap_X7_record rfl (by decide +kernel) rfl rfl rfl M (kX7_record (xl cx) (xG cx) m w1 w2 w3 w4 w5 w6 ns ln tm sp ik e1 e2 z f (by first | assumption | rfl | omega | decide)) rfl (by decide) rfl rfl rfl ⟨by decide, by decide⟩ (Nat.le_of_ble_eq_true rfl) ⟨by decide, by decide⟩ dX7_swap_100 ?_
                  refine x_aload_n C 3 dX7_swap_103 rfl rfl ?_
                  refine x_iload C 2 dX7_swap_104 rfl ?_
                  refine x_iload_n C 6 dX7_swap_106 rfl rfl ?_
                  refine x_iload C 7 dX7_swap_107 rfl ?_
                  refine x_callVMU C ([.int (lat z r p n), .int s, .int q]) ([]) [0, 1] [(m, .inr (7, [.ref w1, .ref w2, .ref w3, .int (nI (rcN ns)), .ref w4, .int ik, .ref w5, .int (nI ln), .int e1, .int e2, .ref w6, .int (nI tm), .int (nI sp)])), (w1, .inl ((xG cx).2.1, 508, .inl (mvZ z (lat z r p n) s q))), (w3, .inl ((xG cx).2.1, 2032, .inl (rcF f ns z)))] [2] [m, w1, w3] rfl rfl [(w3, .inl ((xG cx).2.1, 2032, .inl (rcF f ns z)))] rfl rfl 3 rfl (by decide +kernel) rfl (k0 := 0) (na := 3) gX7_swap_X7_moveTo rfl (by decide +kernel) rfl rfl rfl M (kX7_moveTo (xl cx) (xG cx) m w1 w2 w3 w4 w5 w6 (rcN ns) ln tm sp ik e1 e2 z (lat z r p n) s q (lat_60 hn z r p)) rfl (by decide) rfl rfl rfl ⟨by decide, by decide⟩ (Nat.le_of_ble_eq_true rfl) ⟨by decide, by decide⟩ dX7_swap_109 ?_
                  refine x_aload_n C 3 dX7_swap_112 rfl rfl ?_
                  refine x_iload C 1 dX7_swap_113 rfl ?_
                  refine x_iload_n C 4 dX7_swap_115 rfl rfl ?_
                  refine x_iload_n C 5 dX7_swap_116 rfl rfl ?_
                  refine x_callVMU C ([.int (lat z s q n), .int r, .int p]) ([]) [0, 1] [(m, .inr (7, [.ref w1, .ref w2, .ref w3, .int (nI (rcN ns)), .ref w4, .int ik, .ref w5, .int (nI ln), .int e1, .int e2, .ref w6, .int (nI tm), .int (nI sp)])), (w1, .inl ((xG cx).2.1, 508, .inl (mvZ (mvZ z (lat z r p n) s q) (lat z s q n) r p))), (w3, .inl ((xG cx).2.1, 2032, .inl (rcF f ns z)))] [2] [m, w1, w3] rfl rfl [(w3, .inl ((xG cx).2.1, 2032, .inl (rcF f ns z)))] rfl rfl 3 rfl (by decide +kernel) rfl (k0 := 0) (na := 3) gX7_swap_X7_moveTo rfl (by decide +kernel) rfl rfl rfl M (kX7_moveTo (xl cx) (xG cx) m w1 w2 w3 w4 w5 w6 (rcN ns) ln tm sp ik e1 e2 (mvZ z (lat z r p n) s q) (lat z s q n) r p (lat_60 hn z s q)) rfl (by decide) rfl rfl rfl ⟨by decide, by decide⟩ (Nat.le_of_ble_eq_true rfl) ⟨by decide, by decide⟩ dX7_swap_117 ?_
                  refine x_iload C 0 dX7_swap_120 rfl ?_
                  have e_ret : swR z f ns n r p s q = ((one (lat z r p n)) + (one (lat z s q n)), (mvZ (mvZ z (lat z r p n) s q) (lat z s q n) r p, rcF f ns z, (rcN ns))) := by simp [swR, c_4, c_11, c_18, c_26, c_81, c_86]
                  exact x_iret C E dX7_swap_122 (by rw [e_ret]) ((rfl : _ = ([(m, .inr (7, [.ref w1, .ref w2, .ref w3, .int (nI ((mvZ (mvZ z (lat z r p n) s q) (lat z s q n) r p, rcF f ns z, (rcN ns)).2.2)), .ref w4, .int ik, .ref w5, .int (nI ln), .int e1, .int e2, .ref w6, .int (nI tm), .int (nI sp)])), (w1, .inl ((xG cx).2.1, 508, .inl ((mvZ (mvZ z (lat z r p n) s q) (lat z s q n) r p, rcF f ns z, (rcN ns)).1))), (w3, .inl ((xG cx).2.1, 2032, .inl ((mvZ (mvZ z (lat z r p n) s q) (lat z s q n) r p, rcF f ns z, (rcN ns)).2.1)))] : va_W)).trans (by rw [e_ret]))
                ·
                  refine x_iload_n C 5 dX7_swap_89 rfl rfl ?_
                  refine x_iload C 7 dX7_swap_90 rfl ?_
                  refine x_icmp_ne C 99 dX7_swap_92 (by decide) (fun c_92 => ?_) (fun c_92 => ?_)
                  ·
                    refine x_aload_n C 3 dX7_swap_99 rfl rfl ?_
                    refine x_callVMU C ([]) ([]) [0, 1, 2] [(m, .inr (7, [.ref w1, .ref w2, .ref w3, .int (nI (rcN ns)), .ref w4, .int ik, .ref w5, .int (nI ln), .int e1, .int e2, .ref w6, .int (nI tm), .int (nI sp)])), (w1, .inl ((xG cx).2.1, 508, .inl z)), (w3, .inl ((xG cx).2.1, 2032, .inl (rcF f ns z)))] [] [m, w1, w3] rfl rfl [] rfl rfl 3 rfl (by decide +kernel) rfl (k0 := 0) (na := 0) gX7_swap_X7_record rfl (by decide +kernel) rfl rfl rfl M (kX7_record (xl cx) (xG cx) m w1 w2 w3 w4 w5 w6 ns ln tm sp ik e1 e2 z f (by first | assumption | rfl | omega | decide)) rfl (by decide) rfl rfl rfl ⟨by decide, by decide⟩ (Nat.le_of_ble_eq_true rfl) ⟨by decide, by decide⟩ dX7_swap_100 ?_
                    refine x_aload_n C 3 dX7_swap_103 rfl rfl ?_
                    refine x_iload C 2 dX7_swap_104 rfl ?_
                    refine x_iload_n C 6 dX7_swap_106 rfl rfl ?_
                    refine x_iload C 7 dX7_swap_107 rfl ?_
                    refine x_callVMU C ([.int (lat z r p n), .int s, .int q]) ([]) [0, 1] [(m, .inr (7, [.ref w1, .ref w2, .ref w3, .int (nI (rcN ns)), .ref w4, .int ik, .ref w5, .int (nI ln), .int e1, .int e2, .ref w6, .int (nI tm), .int (nI sp)])), (w1, .inl ((xG cx).2.1, 508, .inl (mvZ z (lat z r p n) s q))), (w3, .inl ((xG cx).2.1, 2032, .inl (rcF f ns z)))] [2] [m, w1, w3] rfl rfl [(w3, .inl ((xG cx).2.1, 2032, .inl (rcF f ns z)))] rfl rfl 3 rfl (by decide +kernel) rfl (k0 := 0) (na := 3) gX7_swap_X7_moveTo rfl (by decide +kernel) rfl rfl rfl M (kX7_moveTo (xl cx) (xG cx) m w1 w2 w3 w4 w5 w6 (rcN ns) ln tm sp ik e1 e2 z (lat z r p n) s q (lat_60 hn z r p)) rfl (by decide) rfl rfl rfl ⟨by decide, by decide⟩ (Nat.le_of_ble_eq_true rfl) ⟨by decide, by decide⟩ dX7_swap_109 ?_
                    refine x_aload_n C 3 dX7_swap_112 rfl rfl ?_
                    refine x_iload C 1 dX7_swap_113 rfl ?_
                    refine x_iload_n C 4 dX7_swap_115 rfl rfl ?_
                    refine x_iload_n C 5 dX7_swap_116 rfl rfl ?_
                    refine x_callVMU C ([.int (lat z s q n), .int r, .int p]) ([]) [0, 1] [(m, .inr (7, [.ref w1, .ref w2, .ref w3, .int (nI (rcN ns)), .ref w4, .int ik, .ref w5, .int (nI ln), .int e1, .int e2, .ref w6, .int (nI tm), .int (nI sp)])), (w1, .inl ((xG cx).2.1, 508, .inl (mvZ (mvZ z (lat z r p n) s q) (lat z s q n) r p))), (w3, .inl ((xG cx).2.1, 2032, .inl (rcF f ns z)))] [2] [m, w1, w3] rfl rfl [(w3, .inl ((xG cx).2.1, 2032, .inl (rcF f ns z)))] rfl rfl 3 rfl (by decide +kernel) rfl (k0 := 0) (na := 3) gX7_swap_X7_moveTo rfl (by decide +kernel) rfl rfl rfl M (kX7_moveTo (xl cx) (xG cx) m w1 w2 w3 w4 w5 w6 (rcN ns) ln tm sp ik e1 e2 (mvZ z (lat z r p n) s q) (lat z s q n) r p (lat_60 hn z s q)) rfl (by decide) rfl rfl rfl ⟨by decide, by decide⟩ (Nat.le_of_ble_eq_true rfl) ⟨by decide, by decide⟩ dX7_swap_117 ?_
                    refine x_iload C 0 dX7_swap_120 rfl ?_
                    have e_ret : swR z f ns n r p s q = ((one (lat z r p n)) + (one (lat z s q n)), (mvZ (mvZ z (lat z r p n) s q) (lat z s q n) r p, rcF f ns z, (rcN ns))) := by unfold swR; rw [if_pos c_4, if_pos c_11, if_pos c_18, if_pos c_26, if_neg c_81, if_pos c_86, if_neg c_92]
                    exact x_iret C E dX7_swap_122 (by rw [e_ret]) ((rfl : _ = ([(m, .inr (7, [.ref w1, .ref w2, .ref w3, .int (nI ((mvZ (mvZ z (lat z r p n) s q) (lat z s q n) r p, rcF f ns z, (rcN ns)).2.2)), .ref w4, .int ik, .ref w5, .int (nI ln), .int e1, .int e2, .ref w6, .int (nI tm), .int (nI sp)])), (w1, .inl ((xG cx).2.1, 508, .inl ((mvZ (mvZ z (lat z r p n) s q) (lat z s q n) r p, rcF f ns z, (rcN ns)).1))), (w3, .inl ((xG cx).2.1, 2032, .inl ((mvZ (mvZ z (lat z r p n) s q) (lat z s q n) r p, rcF f ns z, (rcN ns)).2.1)))] : va_W)).trans (by rw [e_ret]))
                  ·
                    refine x_sipush (v := (-1005)) C dX7_swap_95 (by decide) ?_
                    have e_ret : swR z f ns n r p s q = ((-1005), (z, f, ns)) := by simp [swR, c_4, c_11, c_18, c_26, c_81, c_86, c_92]
                    exact x_iret C E dX7_swap_98 (by rw [e_ret]) ((rfl : _ = ([(m, .inr (7, [.ref w1, .ref w2, .ref w3, .int (nI ((z, f, ns).2.2)), .ref w4, .int ik, .ref w5, .int (nI ln), .int e1, .int e2, .ref w6, .int (nI tm), .int (nI sp)])), (w1, .inl ((xG cx).2.1, 508, .inl ((z, f, ns).1))), (w3, .inl ((xG cx).2.1, 2032, .inl ((z, f, ns).2.1)))] : va_W)).trans (by rw [e_ret]))
            refine x_icmp_ne C 75 dX7_swap_68 (by decide) (fun c_68 => ?_) (fun c_68 => ?_)
            ·
              refine x_iconst (v := 1) C dX7_swap_75 (by decide) ?_
              exact join_76 _ (by first | exact (if_pos c_68).symm | exact (if_neg c_68).symm | exact (if_pos (Classical.not_not.mp c_68)).symm)
            ·
              refine x_iconst (v := 0) C dX7_swap_71 (by decide) ?_
              refine x_goto (tgt := 76) C dX7_swap_72 (by decide) ?_
              exact join_76 _ (by first | exact (if_pos c_68).symm | exact (if_neg c_68).symm | exact (if_pos (Classical.not_not.mp c_68)).symm)
          refine x_icmp_ne C 62 dX7_swap_55 (by decide) (fun c_55 => ?_) (fun c_55 => ?_)
          ·
            refine x_iconst (v := 1) C dX7_swap_62 (by decide) ?_
            exact join_63 _ (by first | exact (if_pos c_55).symm | exact (if_neg c_55).symm | exact (if_pos (Classical.not_not.mp c_55)).symm)
          ·
            refine x_iconst (v := 0) C dX7_swap_58 (by decide) ?_
            refine x_goto (tgt := 63) C dX7_swap_59 (by decide) ?_
            exact join_63 _ (by first | exact (if_pos c_55).symm | exact (if_neg c_55).symm | exact (if_pos (Classical.not_not.mp c_55)).symm)
        ·
          refine x_sipush (v := (-1001)) C dX7_swap_29 (by decide) ?_
          have e_ret : swR z f ns n r p s q = ((-1001), (z, f, ns)) := by simp [swR, c_4, c_11, c_18, c_26]
          exact x_iret C E dX7_swap_32 (by rw [e_ret]) ((rfl : _ = ([(m, .inr (7, [.ref w1, .ref w2, .ref w3, .int (nI ((z, f, ns).2.2)), .ref w4, .int ik, .ref w5, .int (nI ln), .int e1, .int e2, .ref w6, .int (nI tm), .int (nI sp)])), (w1, .inl ((xG cx).2.1, 508, .inl ((z, f, ns).1))), (w3, .inl ((xG cx).2.1, 2032, .inl ((z, f, ns).2.1)))] : va_W)).trans (by rw [e_ret]))

theorem i_kX7_setVolts_X7 : ∀ w ∈ u_ws RX7 TX7 13, w ∈ wsX7_setVolts := by decide +kernel
theorem m_kX7_setVolts_1 : (Cond.fieldLink RX7 7 "LampRacksModel" "z" "[I" : Cond) ∈ wsX7_setVolts := by decide +kernel
set_option maxRecDepth 100000 in
set_option maxHeartbeats 4000000 in
theorem kX7_setVolts (l : Launch) (G : GG) (m : Nat) (w1 : Nat) (w2 : Nat) (w3 : Nat) (w4 : Nat) (w5 : Nat) (w6 : Nat) (ns : Nat) (ln : Nat) (tm : Nat) (sp : Nat) (ik : Int32) (e1 : Int32) (e2 : Int32) (z : Nat → Int32) (f : Nat → Int32) (r : Int32) (v : Int32) (hs : ns ≤ 4) : MU l G yX7_setVolts wsX7_setVolts ({ frames := 3, cells := 0, slots := 0, locals := 66 } : Room) [.ref m, .int r, .int v] [(m, .inr (7, [.ref w1, .ref w2, .ref w3, .int (nI ns), .ref w4, .int ik, .ref w5, .int (nI ln), .int e1, .int e2, .ref w6, .int (nI tm), .int (nI sp)])), (w1, .inl (G.2.1, 508, .inl z)), (w3, .inl (G.2.1, 2032, .inl f))] (some (.int ((svR z f ns r v).1))) [(m, .inr (7, [.ref w1, .ref w2, .ref w3, .int (nI ((svR z f ns r v).2.2.2)), .ref w4, .int ik, .ref w5, .int (nI ln), .int e1, .int e2, .ref w6, .int (nI tm), .int (nI sp)])), (w1, .inl (G.2.1, 508, .inl ((svR z f ns r v).2.1))), (w3, .inl (G.2.1, 2032, .inl ((svR z f ns r v).2.2.1)))] := by
  refine MU.of (cc := cX7_setVolts) (maxL := 5) (ret := (some .int)) (by decide) rfl (Nat.le_of_ble_eq_true rfl) ?_
  intro cx hxl hxG C M E
  subst hxl
  subst hxG
  show X cx (0, 0) [(m, .inr (7, [.ref w1, .ref w2, .ref w3, .int (nI ns), .ref w4, .int ik, .ref w5, .int (nI ln), .int e1, .int e2, .ref w6, .int (nI tm), .int (nI sp)])), (w1, .inl ((xG cx).2.1, 508, .inl z)), (w3, .inl ((xG cx).2.1, 2032, .inl f))] [(0, .ref m), (1, .int r), (2, .int v)] 0 []
  refine x_aload_n C 0 dX7_setVolts_0 rfl rfl ?_
  refine x_iload_n C 1 dX7_setVolts_1 rfl rfl ?_
  refine x_iload_n C 2 dX7_setVolts_2 rfl rfl ?_
  refine x_callVRO C ([.int r, .int v]) ([]) [0] (k0 := 0) (na := 2) gX7_setVolts_X7_whyNotVolts rfl (by decide +kernel) rfl rfl rfl (kX7_whyNotVolts (xl cx) (xG cx) m w1 w2 w3 w4 w5 w6 ns ln tm sp ik e1 e2 r v) rfl (by decide) rfl rfl rfl ⟨by decide, by decide⟩ (Nat.le_of_ble_eq_true rfl) ⟨by decide, by decide⟩ dX7_setVolts_3 ?_
  refine x_istore_n C [(3, .int (wvR r v)), (0, .ref m), (1, .int r), (2, .int v)] dX7_setVolts_6 rfl (by decide) rfl ?_
  refine x_iload_n C 0 dX7_setVolts_7 rfl rfl ?_
  refine x_if_ge C 13 dX7_setVolts_8 (by decide) (fun c_8 => ?_) (fun c_8 => ?_)
  ·
    obtain ⟨kr, h_kr, rfl⟩ := in_nat (M := 2) (m := 2) (wvR_ok c_8) (by decide)
    refine x_aload_n C 1 dX7_setVolts_13 rfl rfl ?_
    refine x_iload_n C 2 dX7_setVolts_14 rfl rfl ?_
    refine x_iconst (v := 0) C dX7_setVolts_15 (by decide) ?_
    refine x_callVRO C ([.int (nI kr), .int 0]) ([]) [0, 1] (k0 := 0) (na := 2) gX7_setVolts_X7_ofRack rfl (by decide +kernel) rfl rfl rfl (kX7_ofRack (xl cx) (xG cx) m w1 w2 w3 w4 w5 w6 ns ln tm sp ik e1 e2 z kr 0 (by first | assumption | rfl | omega | decide) (by first | assumption | rfl | omega | decide)) rfl (by decide) rfl rfl rfl ⟨by decide, by decide⟩ (Nat.le_of_ble_eq_true rfl) ⟨by decide, by decide⟩ dX7_setVolts_16 ?_
    refine x_istore C [(4, .int (zr z kr 0)), (3, .int (wvR (nI kr) v)), (0, .ref m), (1, .int (nI kr)), (2, .int v)] dX7_setVolts_19 (by decide) rfl ?_
    refine x_iload C 0 dX7_setVolts_21 rfl ?_
    refine x_iload_n C 4 dX7_setVolts_23 rfl rfl ?_
    refine x_icmp_ne C 31 dX7_setVolts_24 (by decide) (fun c_24 => ?_) (fun c_24 => ?_)
    ·
      refine x_aload_n C 2 dX7_setVolts_31 rfl rfl ?_
      refine x_callVMU C ([]) ([]) [0, 1, 2] [(m, .inr (7, [.ref w1, .ref w2, .ref w3, .int (nI (rcN ns)), .ref w4, .int ik, .ref w5, .int (nI ln), .int e1, .int e2, .ref w6, .int (nI tm), .int (nI sp)])), (w1, .inl ((xG cx).2.1, 508, .inl z)), (w3, .inl ((xG cx).2.1, 2032, .inl (rcF f ns z)))] [] [m, w1, w3] rfl rfl [] rfl rfl 3 rfl (by decide +kernel) rfl (k0 := 0) (na := 0) gX7_setVolts_X7_record rfl (by decide +kernel) rfl rfl rfl M (kX7_record (xl cx) (xG cx) m w1 w2 w3 w4 w5 w6 ns ln tm sp ik e1 e2 z f (by first | assumption | rfl | omega | decide)) rfl (by decide) rfl rfl rfl ⟨by decide, by decide⟩ (Nat.le_of_ble_eq_true rfl) ⟨by decide, by decide⟩ dX7_setVolts_32 ?_
      refine x_aload_n C 2 dX7_setVolts_35 rfl rfl ?_
      refine x_getf C 0 rfl rfl i_kX7_setVolts_X7 0 (by decide) m_kX7_setVolts_1 rfl rfl dX7_setVolts_36 ?_
      refine x_bipush (v := 16) C dX7_setVolts_39 (by decide) ?_
      refine x_iconst (v := 4) C dX7_setVolts_41 (by decide) ?_
      refine x_iload_n C 3 dX7_setVolts_42 rfl rfl ?_
      refine x_imul C (pk_mul 4 kr) dX7_setVolts_43 ?_
      refine x_iadd C (nI_add 16 (4 * kr)) dX7_setVolts_44 ?_
      refine x_iload_n C 4 dX7_setVolts_45 rfl rfl ?_
      refine x_iast C M 1 rfl rfl (vp_in_nI (by omega) (by decide)) (nI_clamp (by omega)) [(m, .inr (7, [.ref w1, .ref w2, .ref w3, .int (nI (rcN ns)), .ref w4, .int ik, .ref w5, .int (nI ln), .int e1, .int e2, .ref w6, .int (nI tm), .int (nI sp)])), (w1, .inl ((xG cx).2.1, 508, .inl (upd z (16 + (4 * kr)) v))), (w3, .inl ((xG cx).2.1, 2032, .inl (rcF f ns z)))] rfl dX7_setVolts_46 ?_
      refine x_iload C 0 dX7_setVolts_47 rfl ?_
      have e_ret : svR z f ns (nI kr) v = (zr z kr 0, (upd z (16 + (4 * kr)) v, rcF f ns z, rcN ns)) := by simp [svR, c_8, ix kr (by omega), c_24]
      exact x_iret C E dX7_setVolts_49 (by rw [e_ret]) ((rfl : _ = ([(m, .inr (7, [.ref w1, .ref w2, .ref w3, .int (nI ((upd z (16 + (4 * kr)) v, rcF f ns z, rcN ns).2.2)), .ref w4, .int ik, .ref w5, .int (nI ln), .int e1, .int e2, .ref w6, .int (nI tm), .int (nI sp)])), (w1, .inl ((xG cx).2.1, 508, .inl ((upd z (16 + (4 * kr)) v, rcF f ns z, rcN ns).1))), (w3, .inl ((xG cx).2.1, 2032, .inl ((upd z (16 + (4 * kr)) v, rcF f ns z, rcN ns).2.1)))] : va_W)).trans (by rw [e_ret]))
    ·
      refine x_sipush (v := (-1005)) C dX7_setVolts_27 (by decide) ?_
      have e_ret : svR z f ns (nI kr) v = ((-1005), (z, f, ns)) := by simp [svR, c_8, ix kr (by omega), c_24]
      exact x_iret C E dX7_setVolts_30 (by rw [e_ret]) ((rfl : _ = ([(m, .inr (7, [.ref w1, .ref w2, .ref w3, .int (nI ((z, f, ns).2.2)), .ref w4, .int ik, .ref w5, .int (nI ln), .int e1, .int e2, .ref w6, .int (nI tm), .int (nI sp)])), (w1, .inl ((xG cx).2.1, 508, .inl ((z, f, ns).1))), (w3, .inl ((xG cx).2.1, 2032, .inl ((z, f, ns).2.1)))] : va_W)).trans (by rw [e_ret]))
  ·
    refine x_iload_n C 0 dX7_setVolts_11 rfl rfl ?_
    have e_ret : svR z f ns r v = (wvR r v, (z, f, ns)) := by simp [svR, c_8]
    exact x_iret C E dX7_setVolts_12 (by rw [e_ret]) ((rfl : _ = ([(m, .inr (7, [.ref w1, .ref w2, .ref w3, .int (nI ((z, f, ns).2.2)), .ref w4, .int ik, .ref w5, .int (nI ln), .int e1, .int e2, .ref w6, .int (nI tm), .int (nI sp)])), (w1, .inl ((xG cx).2.1, 508, .inl ((z, f, ns).1))), (w3, .inl ((xG cx).2.1, 2032, .inl ((z, f, ns).2.1)))] : va_W)).trans (by rw [e_ret]))

set_option maxRecDepth 100000 in
set_option maxHeartbeats 4000000 in
theorem kX7_setSteps (l : Launch) (G : GG) (m : Nat) (w1 : Nat) (w2 : Nat) (w3 : Nat) (w4 : Nat) (w5 : Nat) (w6 : Nat) (ns : Nat) (ln : Nat) (tm : Nat) (sp : Nat) (ik : Int32) (e1 : Int32) (e2 : Int32) (z : Nat → Int32) (f : Nat → Int32) (r : Int32) (h : Int32) (v : Int32) (hs : ns ≤ 4) : MU l G yX7_setSteps wsX7_setSteps ({ frames := 3, cells := 0, slots := 0, locals := 66 } : Room) [.ref m, .int r, .int h, .int v] [(m, .inr (7, [.ref w1, .ref w2, .ref w3, .int (nI ns), .ref w4, .int ik, .ref w5, .int (nI ln), .int e1, .int e2, .ref w6, .int (nI tm), .int (nI sp)])), (w1, .inl (G.2.1, 508, .inl z)), (w3, .inl (G.2.1, 2032, .inl f))] (some (.int ((ssR z f ns r h v).1))) [(m, .inr (7, [.ref w1, .ref w2, .ref w3, .int (nI ((ssR z f ns r h v).2.2.2)), .ref w4, .int ik, .ref w5, .int (nI ln), .int e1, .int e2, .ref w6, .int (nI tm), .int (nI sp)])), (w1, .inl (G.2.1, 508, .inl ((ssR z f ns r h v).2.1))), (w3, .inl (G.2.1, 2032, .inl ((ssR z f ns r h v).2.2.1)))] := by
  refine MU.of (cc := cX7_setSteps) (maxL := 5) (ret := (some .int)) (by decide) rfl (Nat.le_of_ble_eq_true rfl) ?_
  intro cx hxl hxG C M E
  subst hxl
  subst hxG
  show X cx (0, 0) [(m, .inr (7, [.ref w1, .ref w2, .ref w3, .int (nI ns), .ref w4, .int ik, .ref w5, .int (nI ln), .int e1, .int e2, .ref w6, .int (nI tm), .int (nI sp)])), (w1, .inl ((xG cx).2.1, 508, .inl z)), (w3, .inl ((xG cx).2.1, 2032, .inl f))] [(0, .ref m), (1, .int r), (2, .int h), (3, .int v)] 0 []
  refine x_iload_n C 1 dX7_setSteps_0 rfl rfl ?_
  refine x_callSRO C ([.int r]) ([]) [] (na := 1) gX7_setSteps_X7_isRack rfl (by decide +kernel) rfl (kX7_isRack (xl cx) (xG cx) r) rfl (by decide) rfl rfl rfl ⟨by decide, by decide⟩ (Nat.le_of_ble_eq_true rfl) ⟨by decide, by decide⟩ dX7_setSteps_1 ?_
  refine x_ifb_ne (P := 0 ≤ r ∧ r ≤ 2) C 11 dX7_setSteps_4 (by decide) (fun c_4 => ?_) (fun c_4 => ?_)
  ·
    refine x_iload_n C 2 dX7_setSteps_11 rfl rfl ?_
    refine x_iconst (v := 0) C dX7_setSteps_12 (by decide) ?_
    refine x_bipush (v := 99) C dX7_setSteps_13 (by decide) ?_
    refine x_callSRO C ([.int h, .int 0, .int 99]) ([]) [] (na := 3) gX7_setSteps_X7_in rfl (by decide +kernel) rfl (kX7_in (xl cx) (xG cx) h 0 99) rfl (by decide) rfl rfl rfl ⟨by decide, by decide⟩ (Nat.le_of_ble_eq_true rfl) ⟨by decide, by decide⟩ dX7_setSteps_15 ?_
    refine x_ifb_eq (P := 0 ≤ h ∧ h ≤ 99) C 32 dX7_setSteps_18 (by decide) (fun c_18 => ?_) (fun c_18 => ?_)
    ·
      refine x_sipush (v := (-1002)) C dX7_setSteps_32 (by decide) ?_
      have e_ret : ssR z f ns r h v = ((-1002), (z, f, ns)) := by simp [ssR, c_4, c_18]
      exact x_iret C E dX7_setSteps_35 (by rw [e_ret]) ((rfl : _ = ([(m, .inr (7, [.ref w1, .ref w2, .ref w3, .int (nI ((z, f, ns).2.2)), .ref w4, .int ik, .ref w5, .int (nI ln), .int e1, .int e2, .ref w6, .int (nI tm), .int (nI sp)])), (w1, .inl ((xG cx).2.1, 508, .inl ((z, f, ns).1))), (w3, .inl ((xG cx).2.1, 2032, .inl ((z, f, ns).2.1)))] : va_W)).trans (by rw [e_ret]))
    ·
      refine x_iload_n C 3 dX7_setSteps_21 rfl rfl ?_
      refine x_bipush (v := (-50)) C dX7_setSteps_22 (by decide) ?_
      refine x_bipush (v := 50) C dX7_setSteps_24 (by decide) ?_
      refine x_callSRO C ([.int v, .int (-50), .int 50]) ([]) [] (na := 3) gX7_setSteps_X7_in rfl (by decide +kernel) rfl (kX7_in (xl cx) (xG cx) v (-50) 50) rfl (by decide) rfl rfl rfl ⟨by decide, by decide⟩ (Nat.le_of_ble_eq_true rfl) ⟨by decide, by decide⟩ dX7_setSteps_26 ?_
      refine x_ifb_ne (P := (-50) ≤ v ∧ v ≤ 50) C 36 dX7_setSteps_29 (by decide) (fun c_29 => ?_) (fun c_29 => ?_)
      ·
        obtain ⟨kr, h_kr, rfl⟩ := in_nat (M := 2) (m := 2) c_4 (by decide)
        refine x_aload_n C 0 dX7_setSteps_36 rfl rfl ?_
        refine x_callVMU C ([]) ([]) [0, 1, 2] [(m, .inr (7, [.ref w1, .ref w2, .ref w3, .int (nI (rcN ns)), .ref w4, .int ik, .ref w5, .int (nI ln), .int e1, .int e2, .ref w6, .int (nI tm), .int (nI sp)])), (w1, .inl ((xG cx).2.1, 508, .inl z)), (w3, .inl ((xG cx).2.1, 2032, .inl (rcF f ns z)))] [] [m, w1, w3] rfl rfl [] rfl rfl 3 rfl (by decide +kernel) rfl (k0 := 0) (na := 0) gX7_setSteps_X7_record rfl (by decide +kernel) rfl rfl rfl M (kX7_record (xl cx) (xG cx) m w1 w2 w3 w4 w5 w6 ns ln tm sp ik e1 e2 z f (by first | assumption | rfl | omega | decide)) rfl (by decide) rfl rfl rfl ⟨by decide, by decide⟩ (Nat.le_of_ble_eq_true rfl) ⟨by decide, by decide⟩ dX7_setSteps_37 ?_
        refine x_aload_n C 0 dX7_setSteps_40 rfl rfl ?_
        refine x_iload_n C 1 dX7_setSteps_41 rfl rfl ?_
        refine x_iconst (v := 1) C dX7_setSteps_42 (by decide) ?_
        refine x_callVRO C ([.int (nI kr), .int 1]) ([]) [0, 1] (k0 := 0) (na := 2) gX7_setSteps_X7_ofRack rfl (by decide +kernel) rfl rfl rfl (kX7_ofRack (xl cx) (xG cx) m w1 w2 w3 w4 w5 w6 (rcN ns) ln tm sp ik e1 e2 z kr 1 (by first | assumption | rfl | omega | decide) (by first | assumption | rfl | omega | decide)) rfl (by decide) rfl rfl rfl ⟨by decide, by decide⟩ (Nat.le_of_ble_eq_true rfl) ⟨by decide, by decide⟩ dX7_setSteps_43 ?_
        refine x_istore C [(4, .int (zr z kr 1)), (0, .ref m), (1, .int (nI kr)), (2, .int h), (3, .int v)] dX7_setSteps_46 (by decide) rfl ?_
        refine x_aload_n C 1 dX7_setSteps_48 rfl rfl ?_
        refine x_iload_n C 2 dX7_setSteps_49 rfl rfl ?_
        refine x_iload_n C 3 dX7_setSteps_50 rfl rfl ?_
        refine x_iload_n C 4 dX7_setSteps_51 rfl rfl ?_
        refine x_callVMU C ([.int (nI kr), .int h, .int v]) ([]) [0, 1] [(m, .inr (7, [.ref w1, .ref w2, .ref w3, .int (nI (rcN ns)), .ref w4, .int ik, .ref w5, .int (nI ln), .int e1, .int e2, .ref w6, .int (nI tm), .int (nI sp)])), (w1, .inl ((xG cx).2.1, 508, .inl (spZ z kr h v))), (w3, .inl ((xG cx).2.1, 2032, .inl (rcF f ns z)))] [2] [m, w1, w3] rfl rfl [(w3, .inl ((xG cx).2.1, 2032, .inl (rcF f ns z)))] rfl rfl 3 rfl (by decide +kernel) rfl (k0 := 0) (na := 3) gX7_setSteps_X7_stepsNow rfl (by decide +kernel) rfl rfl rfl M (kX7_stepsNow (xl cx) (xG cx) m w1 w2 w3 w4 w5 w6 (rcN ns) ln tm sp ik e1 e2 z kr h v (by first | assumption | rfl | omega | decide)) rfl (by decide) rfl rfl rfl ⟨by decide, by decide⟩ (Nat.le_of_ble_eq_true rfl) ⟨by decide, by decide⟩ dX7_setSteps_52 ?_
        refine x_iload C 0 dX7_setSteps_55 rfl ?_
        have e_ret : ssR z f ns (nI kr) h v = (zr z kr 1, (spZ z kr h v, rcF f ns z, (rcN ns))) := by simp [ssR, c_4, c_18, c_29, ix kr (by omega)]
        exact x_iret C E dX7_setSteps_57 (by rw [e_ret]) ((rfl : _ = ([(m, .inr (7, [.ref w1, .ref w2, .ref w3, .int (nI ((spZ z kr h v, rcF f ns z, (rcN ns)).2.2)), .ref w4, .int ik, .ref w5, .int (nI ln), .int e1, .int e2, .ref w6, .int (nI tm), .int (nI sp)])), (w1, .inl ((xG cx).2.1, 508, .inl ((spZ z kr h v, rcF f ns z, (rcN ns)).1))), (w3, .inl ((xG cx).2.1, 2032, .inl ((spZ z kr h v, rcF f ns z, (rcN ns)).2.1)))] : va_W)).trans (by rw [e_ret]))
      ·
        refine x_sipush (v := (-1002)) C dX7_setSteps_32 (by decide) ?_
        have e_ret : ssR z f ns r h v = ((-1002), (z, f, ns)) := by simp [ssR, c_4, c_18, c_29]
        exact x_iret C E dX7_setSteps_35 (by rw [e_ret]) ((rfl : _ = ([(m, .inr (7, [.ref w1, .ref w2, .ref w3, .int (nI ((z, f, ns).2.2)), .ref w4, .int ik, .ref w5, .int (nI ln), .int e1, .int e2, .ref w6, .int (nI tm), .int (nI sp)])), (w1, .inl ((xG cx).2.1, 508, .inl ((z, f, ns).1))), (w3, .inl ((xG cx).2.1, 2032, .inl ((z, f, ns).2.1)))] : va_W)).trans (by rw [e_ret]))
  ·
    refine x_sipush (v := (-1001)) C dX7_setSteps_7 (by decide) ?_
    have e_ret : ssR z f ns r h v = ((-1001), (z, f, ns)) := by simp [ssR, c_4]
    exact x_iret C E dX7_setSteps_10 (by rw [e_ret]) ((rfl : _ = ([(m, .inr (7, [.ref w1, .ref w2, .ref w3, .int (nI ((z, f, ns).2.2)), .ref w4, .int ik, .ref w5, .int (nI ln), .int e1, .int e2, .ref w6, .int (nI tm), .int (nI sp)])), (w1, .inl ((xG cx).2.1, 508, .inl ((z, f, ns).1))), (w3, .inl ((xG cx).2.1, 2032, .inl ((z, f, ns).2.1)))] : va_W)).trans (by rw [e_ret]))

theorem i_kX7_set_X7 : ∀ w ∈ u_ws RX7 TX7 13, w ∈ wsX7_set := by decide +kernel
theorem m_kX7_set_1 : (Cond.fieldLink RX7 7 "LampRacksModel" "z" "[I" : Cond) ∈ wsX7_set := by decide +kernel
set_option maxRecDepth 100000 in
set_option maxHeartbeats 4000000 in
theorem kX7_set (l : Launch) (G : GG) (m : Nat) (w1 : Nat) (w2 : Nat) (w3 : Nat) (w4 : Nat) (w5 : Nat) (w6 : Nat) (ns : Nat) (ln : Nat) (tm : Nat) (sp : Nat) (ik : Int32) (e1 : Int32) (e2 : Int32) (z : Nat → Int32) (f : Nat → Int32) (w : Int32) (x : Int32) (hs : ns ≤ 4) : MU l G yX7_set wsX7_set ({ frames := 3, cells := 0, slots := 0, locals := 66 } : Room) [.ref m, .int w, .int x] [(m, .inr (7, [.ref w1, .ref w2, .ref w3, .int (nI ns), .ref w4, .int ik, .ref w5, .int (nI ln), .int e1, .int e2, .ref w6, .int (nI tm), .int (nI sp)])), (w1, .inl (G.2.1, 508, .inl z)), (w3, .inl (G.2.1, 2032, .inl f))] (some (.int ((stR z f ns w x).1))) [(m, .inr (7, [.ref w1, .ref w2, .ref w3, .int (nI ((stR z f ns w x).2.2.2)), .ref w4, .int ik, .ref w5, .int (nI ln), .int e1, .int e2, .ref w6, .int (nI tm), .int (nI sp)])), (w1, .inl (G.2.1, 508, .inl ((stR z f ns w x).2.1))), (w3, .inl (G.2.1, 2032, .inl ((stR z f ns w x).2.2.1)))] := by
  refine MU.of (cc := cX7_set) (maxL := 4) (ret := (some .int)) (by decide) rfl (Nat.le_of_ble_eq_true rfl) ?_
  intro cx hxl hxG C M E
  subst hxl
  subst hxG
  show X cx (0, 0) [(m, .inr (7, [.ref w1, .ref w2, .ref w3, .int (nI ns), .ref w4, .int ik, .ref w5, .int (nI ln), .int e1, .int e2, .ref w6, .int (nI tm), .int (nI sp)])), (w1, .inl ((xG cx).2.1, 508, .inl z)), (w3, .inl ((xG cx).2.1, 2032, .inl f))] [(0, .ref m), (1, .int w), (2, .int x)] 0 []
  refine x_iload_n C 1 dX7_set_0 rfl rfl ?_
  refine x_iconst (v := 0) C dX7_set_1 (by decide) ?_
  refine x_iconst (v := 1) C dX7_set_2 (by decide) ?_
  refine x_callSRO C ([.int w, .int 0, .int 1]) ([]) [] (na := 3) gX7_set_X7_in rfl (by decide +kernel) rfl (kX7_in (xl cx) (xG cx) w 0 1) rfl (by decide) rfl rfl rfl ⟨by decide, by decide⟩ (Nat.le_of_ble_eq_true rfl) ⟨by decide, by decide⟩ dX7_set_3 ?_
  refine x_ifb_ne (P := 0 ≤ w ∧ w ≤ 1) C 13 dX7_set_6 (by decide) (fun c_6 => ?_) (fun c_6 => ?_)
  ·
    refine x_iload_n C 2 dX7_set_13 rfl rfl ?_
    refine x_iload_n C 1 dX7_set_14 rfl rfl ?_
    have join_24 : ∀ (v0 : Int32) (hv0 : v0 = if w = 0 then 100 else 1), X cx (0, 0) [(m, .inr (7, [.ref w1, .ref w2, .ref w3, .int (nI ns), .ref w4, .int ik, .ref w5, .int (nI ln), .int e1, .int e2, .ref w6, .int (nI tm), .int (nI sp)])), (w1, .inl ((xG cx).2.1, 508, .inl z)), (w3, .inl ((xG cx).2.1, 2032, .inl f))] [(0, .ref m), (1, .int w), (2, .int x)] 24 [.int v0, .int x] := by
      intro v0 hv0
      subst hv0
      refine x_iload_n C 1 dX7_set_24 rfl rfl ?_
      have join_36 : ∀ (v0 : Int32) (hv0 : v0 = if w = 0 then 300 else 100), X cx (0, 0) [(m, .inr (7, [.ref w1, .ref w2, .ref w3, .int (nI ns), .ref w4, .int ik, .ref w5, .int (nI ln), .int e1, .int e2, .ref w6, .int (nI tm), .int (nI sp)])), (w1, .inl ((xG cx).2.1, 508, .inl z)), (w3, .inl ((xG cx).2.1, 2032, .inl f))] [(0, .ref m), (1, .int w), (2, .int x)] 36 [.int v0, .int (if w = 0 then 100 else 1), .int x] := by
        intro v0 hv0
        subst hv0
        refine x_callSRO C ([.int x, .int (if w = 0 then 100 else 1), .int (if w = 0 then 300 else 100)]) ([]) [] (na := 3) gX7_set_X7_in rfl (by decide +kernel) rfl (kX7_in (xl cx) (xG cx) x (if w = 0 then 100 else 1) (if w = 0 then 300 else 100)) rfl (by decide) rfl rfl rfl ⟨by decide, by decide⟩ (Nat.le_of_ble_eq_true rfl) ⟨by decide, by decide⟩ dX7_set_36 ?_
        refine x_ifb_ne (P := (if w = 0 then 100 else 1) ≤ x ∧ x ≤ (if w = 0 then 300 else 100)) C 46 dX7_set_39 (by decide) (fun c_39 => ?_) (fun c_39 => ?_)
        ·
          obtain ⟨kw, h_kw, rfl⟩ := in_nat (M := 1) (m := 1) c_6 (by decide)
          refine x_aload_n C 0 dX7_set_46 rfl rfl ?_
          refine x_getf C 0 rfl rfl i_kX7_set_X7 0 (by decide) m_kX7_set_1 rfl rfl dX7_set_47 ?_
          refine x_iload_n C 1 dX7_set_50 rfl rfl ?_
          refine x_iald C 1 rfl rfl (vp_in_nI (by omega) (by decide)) (congrArg z (nI_clamp (by omega))) dX7_set_51 ?_
          refine x_istore_n C [(3, .int (z kw)), (0, .ref m), (1, .int (nI kw)), (2, .int x)] dX7_set_52 rfl (by decide) rfl ?_
          refine x_iload_n C 0 dX7_set_53 rfl rfl ?_
          refine x_iload_n C 3 dX7_set_54 rfl rfl ?_
          refine x_icmp_ne C 62 dX7_set_55 (by decide) (fun c_55 => ?_) (fun c_55 => ?_)
          ·
            refine x_aload_n C 1 dX7_set_62 rfl rfl ?_
            refine x_callVMU C ([]) ([]) [0, 1, 2] [(m, .inr (7, [.ref w1, .ref w2, .ref w3, .int (nI (rcN ns)), .ref w4, .int ik, .ref w5, .int (nI ln), .int e1, .int e2, .ref w6, .int (nI tm), .int (nI sp)])), (w1, .inl ((xG cx).2.1, 508, .inl z)), (w3, .inl ((xG cx).2.1, 2032, .inl (rcF f ns z)))] [] [m, w1, w3] rfl rfl [] rfl rfl 3 rfl (by decide +kernel) rfl (k0 := 0) (na := 0) gX7_set_X7_record rfl (by decide +kernel) rfl rfl rfl M (kX7_record (xl cx) (xG cx) m w1 w2 w3 w4 w5 w6 ns ln tm sp ik e1 e2 z f (by first | assumption | rfl | omega | decide)) rfl (by decide) rfl rfl rfl ⟨by decide, by decide⟩ (Nat.le_of_ble_eq_true rfl) ⟨by decide, by decide⟩ dX7_set_63 ?_
            refine x_aload_n C 1 dX7_set_66 rfl rfl ?_
            refine x_getf C 0 rfl rfl i_kX7_set_X7 0 (by decide) m_kX7_set_1 rfl rfl dX7_set_67 ?_
            refine x_iload_n C 2 dX7_set_70 rfl rfl ?_
            refine x_iload_n C 3 dX7_set_71 rfl rfl ?_
            refine x_iast C M 1 rfl rfl (vp_in_nI (by omega) (by decide)) (nI_clamp (by omega)) [(m, .inr (7, [.ref w1, .ref w2, .ref w3, .int (nI (rcN ns)), .ref w4, .int ik, .ref w5, .int (nI ln), .int e1, .int e2, .ref w6, .int (nI tm), .int (nI sp)])), (w1, .inl ((xG cx).2.1, 508, .inl (upd z kw x))), (w3, .inl ((xG cx).2.1, 2032, .inl (rcF f ns z)))] rfl dX7_set_72 ?_
            refine x_iload_n C 0 dX7_set_73 rfl rfl ?_
            have e_ret : stR z f ns (nI kw) x = (z kw, (upd z kw x, rcF f ns z, rcN ns)) := by simp [stR, c_6, c_39, ix kw (by omega), c_55]
            exact x_iret C E dX7_set_74 (by rw [e_ret]) ((rfl : _ = ([(m, .inr (7, [.ref w1, .ref w2, .ref w3, .int (nI ((upd z kw x, rcF f ns z, rcN ns).2.2)), .ref w4, .int ik, .ref w5, .int (nI ln), .int e1, .int e2, .ref w6, .int (nI tm), .int (nI sp)])), (w1, .inl ((xG cx).2.1, 508, .inl ((upd z kw x, rcF f ns z, rcN ns).1))), (w3, .inl ((xG cx).2.1, 2032, .inl ((upd z kw x, rcF f ns z, rcN ns).2.1)))] : va_W)).trans (by rw [e_ret]))
          ·
            refine x_sipush (v := (-1005)) C dX7_set_58 (by decide) ?_
            have e_ret : stR z f ns (nI kw) x = ((-1005), (z, f, ns)) := by simp [stR, c_6, c_39, ix kw (by omega), c_55]
            exact x_iret C E dX7_set_61 (by rw [e_ret]) ((rfl : _ = ([(m, .inr (7, [.ref w1, .ref w2, .ref w3, .int (nI ((z, f, ns).2.2)), .ref w4, .int ik, .ref w5, .int (nI ln), .int e1, .int e2, .ref w6, .int (nI tm), .int (nI sp)])), (w1, .inl ((xG cx).2.1, 508, .inl ((z, f, ns).1))), (w3, .inl ((xG cx).2.1, 2032, .inl ((z, f, ns).2.1)))] : va_W)).trans (by rw [e_ret]))
        ·
          refine x_sipush (v := (-1002)) C dX7_set_42 (by decide) ?_
          have e_ret : stR z f ns w x = ((-1002), (z, f, ns)) := by simp [stR, c_6, c_39]
          exact x_iret C E dX7_set_45 (by rw [e_ret]) ((rfl : _ = ([(m, .inr (7, [.ref w1, .ref w2, .ref w3, .int (nI ((z, f, ns).2.2)), .ref w4, .int ik, .ref w5, .int (nI ln), .int e1, .int e2, .ref w6, .int (nI tm), .int (nI sp)])), (w1, .inl ((xG cx).2.1, 508, .inl ((z, f, ns).1))), (w3, .inl ((xG cx).2.1, 2032, .inl ((z, f, ns).2.1)))] : va_W)).trans (by rw [e_ret]))
      refine x_if_ne C 34 dX7_set_25 (by decide) (fun c_25 => ?_) (fun c_25 => ?_)
      ·
        refine x_bipush (v := 100) C dX7_set_34 (by decide) ?_
        exact join_36 _ (by first | exact (if_pos c_25).symm | exact (if_neg c_25).symm | exact (if_pos (Classical.not_not.mp c_25)).symm)
      ·
        refine x_sipush (v := 300) C dX7_set_28 (by decide) ?_
        refine x_goto (tgt := 36) C dX7_set_31 (by decide) ?_
        exact join_36 _ (by first | exact (if_pos c_25).symm | exact (if_neg c_25).symm | exact (if_pos (Classical.not_not.mp c_25)).symm)
    refine x_if_ne C 23 dX7_set_15 (by decide) (fun c_15 => ?_) (fun c_15 => ?_)
    ·
      refine x_iconst (v := 1) C dX7_set_23 (by decide) ?_
      exact join_24 _ (by first | exact (if_pos c_15).symm | exact (if_neg c_15).symm | exact (if_pos (Classical.not_not.mp c_15)).symm)
    ·
      refine x_bipush (v := 100) C dX7_set_18 (by decide) ?_
      refine x_goto (tgt := 24) C dX7_set_20 (by decide) ?_
      exact join_24 _ (by first | exact (if_pos c_15).symm | exact (if_neg c_15).symm | exact (if_pos (Classical.not_not.mp c_15)).symm)
  ·
    refine x_sipush (v := (-1001)) C dX7_set_9 (by decide) ?_
    have e_ret : stR z f ns w x = ((-1001), (z, f, ns)) := by simp [stR, c_6]
    exact x_iret C E dX7_set_12 (by rw [e_ret]) ((rfl : _ = ([(m, .inr (7, [.ref w1, .ref w2, .ref w3, .int (nI ((z, f, ns).2.2)), .ref w4, .int ik, .ref w5, .int (nI ln), .int e1, .int e2, .ref w6, .int (nI tm), .int (nI sp)])), (w1, .inl ((xG cx).2.1, 508, .inl ((z, f, ns).1))), (w3, .inl ((xG cx).2.1, 2032, .inl ((z, f, ns).2.1)))] : va_W)).trans (by rw [e_ret]))
