/-! pure: an hour of the reference, lamp by lamp, rack by rack -/
theorem wA_c {z y : Nat → Int32} (e0 : y 0 = z 0) (e1 : y 1 = z 1) (v h : Int32) : wA y v h = wA z v h := by
  unfold wA
  rw [e0, e1]
/-- the wear of a lamp after an hour that it burns -/
def lw (z : Nat → Int32) (k : Nat) : Int32 := zl z k 4 + wA z (zr z (ixz (zl z k 1)) 0) (b2i (3 ≤ zl z k 2 ∧ zl z k 2 ≤ 4))
theorem ixr {z : Nat → Int32} {n k : Nat} (h : okZ z n) (hk : k < 60) : ixz (zl z k 1) < 3 := by
  rcases h.2.2.2 k hk with q | ⟨r, hr, q⟩
  · rw [q]; decide
  · rw [q, show ixz (nI r) = r from nI_clamp (by omega)]; exact hr
theorem lw_c {z y : Nat → Int32} {n k : Nat} (h : okZ z n) (hk : k < 60) (e : ∀ j, (j < 2 ∨ (16 ≤ j ∧ j < 28)) → y j = z j) (e1 : zl y k 1 = zl z k 1) (e2 : zl y k 2 = zl z k 2) (e4 : zl y k 4 = zl z k 4) : lw y k = lw z k := by
  have hi := ixr h hk
  unfold lw
  rw [wA_c (e 0 (by omega)) (e 1 (by omega)), e1, e2, e4, show zr y (ixz (zl z k 1)) 0 = zr z (ixz (zl z k 1)) 0 from e _ (by omega)]
theorem brn_c {z y : Nat → Int32} {n k : Nat} (h : okZ z n) (hk : k < 60) (e : ∀ j, (j < 2 ∨ (16 ≤ j ∧ j < 28)) → y j = z j) (e1 : zl y k 1 = zl z k 1) (e6 : zl y k 6 = zl z k 6) : brnB y k = brnB z k := by
  have hi := ixr h hk
  unfold brnB
  rw [e1, e6, show zr y (ixz (zl z k 1)) 0 = zr z (ixz (zl z k 1)) 0 from e _ (by omega)]
theorem u1_o {z : Nat → Int32} {i j : Nat} (h : j ≠ 28 + 8 * i + 5) : u1 z i j = z j := upd_ne h
theorem u1_5 {z : Nat → Int32} {i : Nat} : zl (u1 z i) i 5 = zl z i 5 + 1 := updA rfl
theorem u2_o {z : Nat → Int32} {i j : Nat} (h : j ≠ 28 + 8 * i + 5) (h4 : j ≠ 28 + 8 * i + 4) : u2 z i j = z j := (upd_ne h4).trans (u1_o h)
theorem u2_5 {z : Nat → Int32} {i : Nat} : zl (u2 z i) i 5 = zl z i 5 + 1 := (upd_ne (by omega)).trans u1_5
theorem u2_4 {z : Nat → Int32} {n i : Nat} (h : okZ z n) (hi : i < 60) : zl (u2 z i) i 4 = lw z i := by
  show upd (u1 z i) (28 + 8 * i + 4) (zl (u1 z i) i 4 + wA (u1 z i) (zr (u1 z i) (ixz (zl (u1 z i) i 1)) 0) (b2i (3 ≤ zl (u1 z i) i 2 ∧ zl (u1 z i) i 2 ≤ 4))) (28 + 8 * i + 4) = _
  rw [updA rfl]
  exact lw_c h hi (fun j hj => u1_o (by omega)) (u1_o (by omega)) (u1_o (by omega)) (u1_o (by omega))
theorem u3_o {z : Nat → Int32} {i j : Nat} (h : j ≠ 28 + 8 * i + 5) (h4 : j ≠ 28 + 8 * i + 4) (h6 : j ≠ 28 + 8 * i + 6) : u3 z i j = z j := (upd_ne h6).trans (u2_o h h4)
theorem u3_5 {z : Nat → Int32} {i : Nat} : zl (u3 z i) i 5 = zl z i 5 + 1 := (upd_ne (by omega)).trans u2_5
theorem u3_4 {z : Nat → Int32} {n i : Nat} (h : okZ z n) (hi : i < 60) : zl (u3 z i) i 4 = lw z i := (upd_ne (by omega)).trans (u2_4 h hi)
theorem u3_6 {z : Nat → Int32} {i : Nat} : zl (u3 z i) i 6 = z 2 := (updA rfl).trans (u2_o (by omega) (by omega))
/-- what an hour does to a lamp: z before, y behind, x the hour's number -/
def lhr (z y : Nat → Int32) (x : Int32) (k : Nat) : Prop :=
  (brnB z k = true → zl y k 4 = lw z k ∧ zl y k 5 = zl z k 5 + 1 ∧ (lw z k < 10 * zl z k 3 → zl y k 6 = zl z k 6) ∧ (¬ lw z k < 10 * zl z k 3 → zl y k 6 = x)) ∧
  (¬ brnB z k = true → zl y k 4 = zl z k 4 ∧ zl y k 5 = zl z k 5 ∧ zl y k 6 = zl z k 6)
theorem lhr.cg {z y y' : Nat → Int32} {x : Int32} {k : Nat} (h : lhr z y x k) (e4 : zl y' k 4 = zl y k 4) (e5 : zl y' k 5 = zl y k 5) (e6 : zl y' k 6 = zl y k 6) : lhr z y' x k := by
  unfold lhr at *
  rw [e4, e5, e6]
  exact h
theorem lm_is {z : Nat → Int32} {n : Nat} (h : okZ z n) : ∀ i, i ≤ n → (∀ j, (∀ k, k < i → j ≠ 28 + 8 * k + 4 ∧ j ≠ 28 + 8 * k + 5 ∧ j ≠ 28 + 8 * k + 6) → (lmS z i).1 j = z j) ∧ (∀ k, k < i → lhr z (lmS z i).1 (z 2) k) ∧ (lmS z i).2 = cnt (fun k => brnB z k = true ∧ ¬ lw z k < 10 * zl z k 3) i
  | 0, _ => ⟨fun j _ => rfl, fun k hk => by omega, rfl⟩
  | i + 1, hi => by
    obtain ⟨iA, iB, iC⟩ := lm_is h i (by omega)
    have hn := h.1
    have hy := lmS_ok h i
    have ex : lmS z i = ((lmS z i).1, (lmS z i).2) := rfl
    generalize (lmS z i).1 = y at *
    generalize (lmS z i).2 = a at *
    have fr : ∀ j, (j < 2 ∨ (16 ≤ j ∧ j < 28)) → y j = z j := fun j hj => iA j (fun k hk => by omega)
    have o : ∀ w, w < 8 → zl y i w = zl z i w := fun w hw => iA _ (fun k hk => by omega)
    have e2 : y 2 = z 2 := iA 2 (fun k hk => by omega)
    have eb : brnB y i = brnB z i := brn_c h (by omega) fr (o 1 (by omega)) (o 6 (by omega))
    have el : lw y i = lw z i := lw_c h (by omega) fr (o 1 (by omega)) (o 2 (by omega)) (o 4 (by omega))
    have x4 := u2_4 hy (show i < 60 by omega)
    have x3 : zl (u2 y i) i 3 = zl z i 3 := (u2_o (by omega) (by omega)).trans (o 3 (by omega))
    have cs : cnt (fun k => brnB z k = true ∧ ¬ lw z k < 10 * zl z k 3) (i + 1) = cnt (fun k => brnB z k = true ∧ ¬ lw z k < 10 * zl z k 3) i + b2i (brnB z i = true ∧ ¬ lw z i < 10 * zl z i 3) := rfl
    by_cases c1 : brnB z i = true
    · by_cases c2 : lw z i < 10 * zl z i 3
      · have e := lmS_b ex (eb.trans c1) (by rw [x4, x3, el]; exact c2)
        rw [e]
        refine ⟨fun j hj => ?_, fun k hk => ?_, ?_⟩
        · have := hj i (by omega)
          exact (u2_o this.2.1 this.1).trans (iA j (fun k hk => hj k (by omega)))
        · by_cases ek : k = i
          · subst ek
            refine ⟨fun _ => ⟨x4.trans el, u2_5.trans (by rw [o 5 (by omega)]), fun _ => (u2_o (by omega) (by omega)).trans (o 6 (by omega)), fun q => absurd c2 q⟩, fun q => absurd c1 q⟩
          · exact (iB k (by omega)).cg (u2_o (by omega) (by omega)) (u2_o (by omega) (by omega)) (u2_o (by omega) (by omega))
        · rw [cs, b2i_f (fun q => q.2 c2), ← iC]
          exact (Int32.add_zero a).symm
      · have e := lmS_a ex (eb.trans c1) (by rw [x4, x3, el]; exact c2)
        rw [e]
        refine ⟨fun j hj => ?_, fun k hk => ?_, ?_⟩
        · have := hj i (by omega)
          exact (u3_o this.2.1 this.1 this.2.2).trans (iA j (fun k hk => hj k (by omega)))
        · by_cases ek : k = i
          · subst ek
            refine ⟨fun _ => ⟨(u3_4 hy (by omega)).trans el, u3_5.trans (by rw [o 5 (by omega)]), fun q => absurd q c2, fun _ => u3_6.trans e2⟩, fun q => absurd c1 q⟩
          · exact (iB k (by omega)).cg (u3_o (by omega) (by omega) (by omega)) (u3_o (by omega) (by omega) (by omega)) (u3_o (by omega) (by omega) (by omega))
        · rw [cs, b2i_t ⟨c1, c2⟩, ← iC]
    · have e := lmS_c ex (by rw [eb]; exact c1)
      rw [e]
      refine ⟨fun j hj => iA j (fun k hk => hj k (by omega)), fun k hk => ?_, ?_⟩
      · by_cases ek : k = i
        · subst ek
          exact ⟨fun q => absurd q c1, fun _ => ⟨o 4 (by omega), o 5 (by omega), o 6 (by omega)⟩⟩
        · exact iB k (by omega)
      · rw [cs, b2i_f (fun q => c1 q.1), ← iC]
        exact (Int32.add_zero a).symm
/-- what an hour does to a rack -/
def rhr (z y : Nat → Int32) (r : Nat) : Prop := zr y r 1 = zr z r 1 ∧ zr y r 2 = zr z r 2 ∧
  (¬ 0 < zr z r 1 → zr y r 0 = zr z r 0 ∧ zr y r 3 = zr z r 3) ∧
  (0 < zr z r 1 → (zr z r 3 + 1 = zr z r 1 → zr y r 0 = clR (zr z r 0 + zr z r 2) ∧ zr y r 3 = 0) ∧ (¬ zr z r 3 + 1 = zr z r 1 → zr y r 0 = zr z r 0 ∧ zr y r 3 = zr z r 3 + 1))
theorem v1_o {z : Nat → Int32} {r j : Nat} (h : j ≠ 16 + 4 * r + 3) : v1 z r j = z j := upd_ne h
theorem v1_3 {z : Nat → Int32} {r : Nat} : v1 z r (16 + 4 * r + 3) = z (16 + 4 * r + 3) + (if 0 < z (16 + 4 * r + 1) then 1 else 0) := updA rfl
theorem st_o {z : Nat → Int32} {r j : Nat} (h : j < 16 + 4 * r ∨ 16 + 4 * r + 4 ≤ j) : stR1 z r j = z j := by
  have e1 : v1 z r j = z j := v1_o (by omega)
  have e2 : v2 z r j = z j := (upd_ne (by omega)).trans ((upd_ne (by omega)).trans e1)
  unfold stR1
  split
  · split
    · exact e2
    · exact e1
  · exact e1
theorem st_is (z : Nat → Int32) (r : Nat) : rhr z (stR1 z r) r := by
  have a1 : v1 z r (16 + 4 * r + 1) = zr z r 1 := v1_o (by omega)
  have a2 : v1 z r (16 + 4 * r + 2) = zr z r 2 := v1_o (by omega)
  have a0 : v1 z r (16 + 4 * r) = zr z r 0 := v1_o (by omega)
  have a3 : v1 z r (16 + 4 * r + 3) = zr z r 3 + (if 0 < zr z r 1 then 1 else 0) := v1_3
  have b1 : v2 z r (16 + 4 * r + 1) = zr z r 1 := (upd_ne (by omega)).trans ((upd_ne (by omega)).trans a1)
  have b2 : v2 z r (16 + 4 * r + 2) = zr z r 2 := (upd_ne (by omega)).trans ((upd_ne (by omega)).trans a2)
  have b0 : v2 z r (16 + 4 * r) = clR (zr z r 0 + zr z r 2) := (upd_ne (by omega)).trans ((updA rfl).trans (by rw [a0, a2]))
  have b3 : v2 z r (16 + 4 * r + 3) = 0 := updA rfl
  unfold rhr
  show stR1 z r (16 + 4 * r + 1) = zr z r 1 ∧ stR1 z r (16 + 4 * r + 2) = zr z r 2 ∧ (¬ 0 < zr z r 1 → stR1 z r (16 + 4 * r) = zr z r 0 ∧ stR1 z r (16 + 4 * r + 3) = zr z r 3) ∧ (0 < zr z r 1 → (zr z r 3 + 1 = zr z r 1 → stR1 z r (16 + 4 * r) = clR (zr z r 0 + zr z r 2) ∧ stR1 z r (16 + 4 * r + 3) = 0) ∧ (¬ zr z r 3 + 1 = zr z r 1 → stR1 z r (16 + 4 * r) = zr z r 0 ∧ stR1 z r (16 + 4 * r + 3) = zr z r 3 + 1))
  unfold stR1
  by_cases c : 0 < zr z r 1
  · rw [if_pos c] at a3
    rw [a1, if_pos c, a3]
    by_cases c2 : zr z r 3 + 1 = zr z r 1
    · rw [if_pos c2]
      exact ⟨b1, b2, fun q => absurd c q, fun _ => ⟨fun _ => ⟨b0, b3⟩, fun q => absurd c2 q⟩⟩
    · rw [if_neg c2]
      exact ⟨a1, a2, fun q => absurd c q, fun _ => ⟨fun q => absurd q c2, fun _ => ⟨a0, a3⟩⟩⟩
  · rw [if_neg c] at a3
    rw [a1, if_neg c]
    exact ⟨a1, a2, fun _ => ⟨a0, a3.trans (Int32.add_zero _)⟩, fun q => absurd q c⟩
theorem rhr.cg {z z' y y' : Nat → Int32} {r : Nat} (h : rhr z y r) (e : ∀ w, w < 4 → zr y' r w = zr y r w) (g : ∀ w, w < 4 → zr z' r w = zr z r w) : rhr z' y' r := by
  unfold rhr at *
  rw [e 0 (by omega), e 1 (by omega), e 2 (by omega), e 3 (by omega), g 0 (by omega), g 1 (by omega), g 2 (by omega), g 3 (by omega)]
  exact h
theorem rk_is (z : Nat → Int32) : ∀ m, m ≤ 3 → (∀ j, (j < 16 ∨ 16 + 4 * m ≤ j) → rkS z m j = z j) ∧ ∀ r, r < m → rhr z (rkS z m) r
  | 0, _ => ⟨fun j _ => rfl, fun r hr => by omega⟩
  | m + 1, hm => by
    obtain ⟨i1, i2⟩ := rk_is z m (by omega)
    rw [rkS_s]
    refine ⟨fun j hj => (st_o (by omega)).trans (i1 j (by omega)), fun r hr => ?_⟩
    by_cases e : r = m
    · subst e
      exact (st_is (rkS z r) r).cg (fun w hw => rfl) (fun w hw => (i1 _ (by omega)).symm)
    · exact (i2 r (by omega)).cg (fun w hw => st_o (by omega)) (fun w hw => rfl)
/-- an hour: what is kept, what lamps and racks do -/
theorem hr_is {z : Nat → Int32} {n : Nat} (h : okZ z n) : (∀ j, j ≠ 2 → (j < 16 ∨ 28 ≤ j) → (∀ k, k < n → j ≠ 28 + 8 * k + 4 ∧ j ≠ 28 + 8 * k + 5 ∧ j ≠ 28 + 8 * k + 6) → (hrS z n).1 j = z j) ∧ (hrS z n).1 2 = z 2 + 1 ∧ (∀ k, k < n → lhr z (hrS z n).1 (z 2 + 1) k) ∧ (∀ r, r < 3 → rhr z (hrS z n).1 r) ∧ (hrS z n).2 = cnt (fun k => brnB z k = true ∧ ¬ lw z k < 10 * zl z k 3) n := by
  have h0 := hr0_ok h
  have hn := h.1
  obtain ⟨a1, a2, a3⟩ := lm_is h0 n (Nat.le_refl _)
  obtain ⟨b1, b2⟩ := rk_is (lmS (upd z 2 (z 2 + 1)) n).1 3 (Nat.le_refl _)
  have z1 : ∀ j, j ≠ 2 → upd z 2 (z 2 + 1) j = z j := fun j hj => upd_ne hj
  have z2 : upd z 2 (z 2 + 1) 2 = z 2 + 1 := updA rfl
  have eb : ∀ k, k < n → brnB (upd z 2 (z 2 + 1)) k = brnB z k := fun k hk => brn_c h (by omega) (fun j hj => z1 j (by omega)) (z1 _ (by omega)) (z1 _ (by omega))
  have el : ∀ k, k < n → lw (upd z 2 (z 2 + 1)) k = lw z k := fun k hk => lw_c h (by omega) (fun j hj => z1 j (by omega)) (z1 _ (by omega)) (z1 _ (by omega)) (z1 _ (by omega))
  have o : ∀ k, k < n → ∀ w, zl (upd z 2 (z 2 + 1)) k w = zl z k w := fun k hk w => z1 _ (by omega)
  refine ⟨fun j j2 hj hk => ?_, ?_, fun k hk => ?_, fun r hr => ?_, ?_⟩
  · exact (b1 j (by omega)).trans ((a1 j hk).trans (z1 j j2))
  · exact (b1 2 (by omega)).trans ((a1 2 (fun k hk => by omega)).trans z2)
  · have q := (a2 k hk).cg (b1 (28 + 8 * k + 4) (by omega)) (b1 (28 + 8 * k + 5) (by omega)) (b1 (28 + 8 * k + 6) (by omega))
    unfold lhr at *
    rw [eb k hk, el k hk, o k hk, o k hk, o k hk, o k hk, z2] at q
    exact q
  · exact (b2 r hr).cg (fun w hw => rfl) (fun w hw => ((a1 _ (fun k hk => by omega)).trans (z1 _ (by omega))).symm)
  · refine a3.trans (cnt_c (fun k hk => ?_))
    rw [eb k hk, el k hk, o k hk]
