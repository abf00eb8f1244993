/-! pure: the object's state S and the reference's numbers z tell the same -/
def okR (v a t o : Int32) : Prop := (0 ≤ v.toInt ∧ v.toInt ≤ 300) ∧ (0 ≤ a.toInt ∧ a.toInt ≤ 99) ∧ (-50 ≤ t.toInt ∧ t.toInt ≤ 50) ∧ 0 ≤ o.toInt ∧ (a.toInt = 0 → o.toInt = 0) ∧ (0 < a.toInt → o.toInt < a.toInt)
def okE (h c w e e' : Int32) : Prop := (1 ≤ c.toInt ∧ c.toInt ≤ 9999) ∧ (0 ≤ w.toInt ∧ w.toInt ≤ 200000) ∧ ((e = -1 ∧ e' = -1005 ∧ w.toInt < 10 * c.toInt) ∨ (e = e' ∧ 1 ≤ e'.toInt ∧ e'.toInt ≤ h.toInt))
def rlH (B : Int) (S : SC) (z : Nat → Int32) : Prop := sHr S = z 2 ∧ sWv S = z 0 ∧ sDv S = z 1 ∧ sN S ≤ 60 ∧ (0 ≤ (z 2).toInt ∧ (z 2).toInt ≤ B) ∧ (100 ≤ (z 0).toInt ∧ (z 0).toInt ≤ 300) ∧ (1 ≤ (z 1).toInt ∧ (z 1).toInt ≤ 100) ∧ okZ z (sN S)
def rlB (S : SC) (z : Nat → Int32) (b : Nat) : Prop := sA S 0 b = z (4 + 2 * b) ∧ sA S 1 b = z (4 + 2 * b + 1) ∧ (10 ≤ (z (4 + 2 * b)).toInt ∧ (z (4 + 2 * b)).toInt ≤ 9999) ∧ (0 ≤ (z (4 + 2 * b + 1)).toInt ∧ (z (4 + 2 * b + 1)).toInt ≤ 90)
def rlR (S : SC) (z : Nat → Int32) (r : Nat) : Prop := sA S 9 r = zr z r 0 ∧ sA S 10 r = zr z r 1 ∧ sA S 11 r = zr z r 2 ∧ sA S 12 r = zr z r 3 ∧ okR (zr z r 0) (zr z r 1) (zr z r 2) (zr z r 3)
def rlD (S : SC) (z : Nat → Int32) (k : Nat) : Prop := sA S 2 k = zl z k 0 ∧ sA S 4 k = zl z k 3 ∧ sA S 5 k = zl z k 4 ∧ sA S 6 k = zl z k 5 ∧ zl z k 7 = b2i (shr (nI k) = 9) ∧ okE (z 2) (zl z k 3) (zl z k 4) (sA S 7 k) (zl z k 6)
def rlP (S : SC) (z : Nat → Int32) (k : Nat) : Prop := (sA S 3 k = -1 ∧ zl z k 1 = -1005 ∧ zl z k 2 = -1005) ∨ ∃ r p, r < 3 ∧ p < 8 ∧ sA S 3 k = nI (r * 8 + p) ∧ zl z k 1 = nI r ∧ zl z k 2 = nI p ∧ sA S 8 (r * 8 + p) = nI k
def rlA (S : SC) : Prop := ∀ j, j < 24 → sA S 8 j = -1 ∨ ∃ k, k < sN S ∧ sA S 8 j = nI k ∧ sA S 3 k = nI j
def Rl (B : Int) (S : SC) (z : Nat → Int32) : Prop := rlH B S z ∧ (∀ b, b < 6 → rlB S z b) ∧ (∀ r, r < 3 → rlR S z r) ∧ (∀ k, k < sN S → rlD S z k ∧ rlP S z k) ∧ rlA S
theorem m1_ti : (-1 : Int32).toInt = -1 := by decide
theorem mN_ti : (-1005 : Int32).toInt = -1005 := by decide
theorem nI_nm1 {k : Nat} (h : k < 2147483648) : ¬ nI k = -1 := fun e => by
  have := congrArg Int32.toInt e
  rw [nI_toInt (by omega), m1_ti] at this
  omega
theorem nI_nmN {k : Nat} (h : k < 2147483648) : ¬ nI k = -1005 := fun e => by
  have := congrArg Int32.toInt e
  rw [nI_toInt (by omega), mN_ti] at this
  omega
theorem nI_i {a b : Nat} (ha : a < 2147483648) (hb : b < 2147483648) (h : nI a = nI b) : a = b := (nI_eq ha hb).mp h
theorem Rl.n60 {B : Int} {S : SC} {z : Nat → Int32} (h : Rl B S z) : sN S ≤ 60 := h.1.2.2.2.1
theorem Rl.z3 {B : Int} {S : SC} {z : Nat → Int32} (h : Rl B S z) : z 3 = nI (sN S) := h.1.2.2.2.2.2.2.2.2.1
theorem Rl.oZ {B : Int} {S : SC} {z : Nat → Int32} (h : Rl B S z) : okZ z (sN S) := h.1.2.2.2.2.2.2.2
theorem Rl.d0 {B : Int} {S : SC} {z : Nat → Int32} (h : Rl B S z) : ¬ z 1 = 0 := h.oZ.2.2.1
theorem Rl.rk {B : Int} {S : SC} {z : Nat → Int32} (h : Rl B S z) : ∀ k, k < 60 → zl z k 1 = -1005 ∨ ∃ r, r < 3 ∧ zl z k 1 = nI r := h.oZ.2.2.2
theorem Rl.rB {B : Int} {S : SC} {z : Nat → Int32} (h : Rl B S z) {b : Nat} (hb : b < 6) : rlB S z b := h.2.1 b hb
theorem Rl.rR {B : Int} {S : SC} {z : Nat → Int32} (h : Rl B S z) {b : Nat} (hb : b < 3) : rlR S z b := h.2.2.1 b hb
theorem Rl.rD {B : Int} {S : SC} {z : Nat → Int32} (h : Rl B S z) {k : Nat} (hk : k < sN S) : rlD S z k := (h.2.2.2.1 k hk).1
theorem Rl.rP {B : Int} {S : SC} {z : Nat → Int32} (h : Rl B S z) {k : Nat} (hk : k < sN S) : rlP S z k := (h.2.2.2.1 k hk).2
theorem Rl.rA {B : Int} {S : SC} {z : Nat → Int32} (h : Rl B S z) : rlA S := h.2.2.2.2
theorem Rl.oS {B : Int} {S : SC} {z : Nat → Int32} (h : Rl B S z) : okS S := by
  refine ⟨h.n60, fun j hj => (h.rA j hj).imp id (fun ⟨k, a, b, _⟩ => ⟨k, a, b⟩), fun k hk => ?_⟩
  rcases h.rP hk with q | ⟨r, p, hr, hp, e, _⟩
  · exact Or.inl q.1
  · exact Or.inr ⟨r * 8 + p, by omega, e⟩
theorem Rl.wide {B C : Int} {S : SC} {z : Nat → Int32} (h : Rl B S z) (hb : B ≤ C) : Rl C S z := by
  obtain ⟨⟨a1, a2, a3, a4, a5, a6⟩, h2⟩ := h
  exact ⟨⟨a1, a2, a3, a4, ⟨a5.1, by omega⟩, a6⟩, h2⟩
/-- only the first 508 numbers are looked at -/
theorem Rl.same {B : Int} {S : SC} {z y : Nat → Int32} (h : Rl B S z) (e : ∀ j, j < 508 → y j = z j) : Rl B S y := by
  have hn := h.n60
  obtain ⟨⟨a1, a2, a3, a4, a5, a6, a7, b1, b2, b3, b4⟩, hB, hR, hL, hA⟩ := h
  refine ⟨⟨?_, ?_, ?_, a4, ?_, ?_, ?_, b1, ?_, ?_, ?_⟩, fun b hb => ?_, fun r hr => ?_, fun k hk => ?_, hA⟩
  · rw [e 2 (by omega)]; exact a1
  · rw [e 0 (by omega)]; exact a2
  · rw [e 1 (by omega)]; exact a3
  · rw [e 2 (by omega)]; exact a5
  · rw [e 0 (by omega)]; exact a6
  · rw [e 1 (by omega)]; exact a7
  · rw [e 3 (by omega)]; exact b2
  · rw [e 1 (by omega)]; exact b3
  · intro k hk
    have := b4 k hk
    rw [show zl y k 1 = zl z k 1 from e _ (by omega)]
    exact this
  · have := hB b hb
    unfold rlB at *
    rw [e (4 + 2 * b) (by omega), e (4 + 2 * b + 1) (by omega)]
    exact this
  · have := hR r hr
    unfold rlR at *
    rw [show zr y r 0 = zr z r 0 from e _ (by omega), show zr y r 1 = zr z r 1 from e _ (by omega), show zr y r 2 = zr z r 2 from e _ (by omega), show zr y r 3 = zr z r 3 from e _ (by omega)]
    exact this
  · have := hL k hk
    unfold rlD rlP at *
    have hk60 : k < 60 := by omega
    rw [show zl y k 0 = zl z k 0 from e _ (by omega), show zl y k 1 = zl z k 1 from e _ (by omega), show zl y k 2 = zl z k 2 from e _ (by omega), show zl y k 3 = zl z k 3 from e _ (by omega), show zl y k 4 = zl z k 4 from e _ (by omega), show zl y k 5 = zl z k 5 from e _ (by omega), show zl y k 6 = zl z k 6 from e _ (by omega), show zl y k 7 = zl z k 7 from e _ (by omega), e 2 (by omega)]
    exact this
theorem lat_none {z : Nat → Int32} {r p : Int32} : ∀ {n : Nat}, (∀ k, k < n → ¬ (zl z k 1 = r ∧ zl z k 2 = p)) → lat z r p n = -1005
  | 0, _ => rfl
  | n + 1, h => by
    show (if zl z n 1 = r ∧ zl z n 2 = p then nI n else lat z r p n) = _
    rw [if_neg (h n (by omega))]
    exact lat_none (fun k hk => h k (by omega))
theorem lat_some {z : Nat → Int32} {r p : Int32} {k : Nat} : ∀ {n : Nat}, k < n → (zl z k 1 = r ∧ zl z k 2 = p) → (∀ j, j < n → (zl z j 1 = r ∧ zl z j 2 = p) → j = k) → lat z r p n = nI k
  | 0, h, _, _ => by omega
  | n + 1, h, hk, hu => by
    show (if zl z n 1 = r ∧ zl z n 2 = p then nI n else lat z r p n) = _
    by_cases c : zl z n 1 = r ∧ zl z n 2 = p
    · rw [if_pos c, hu n (by omega) c]
    · rw [if_neg c]
      refine lat_some ?_ hk (fun j hj => hu j (by omega))
      refine Classical.byContradiction (fun q => c ?_)
      rw [show n = k from by omega]
      exact hk
theorem Rl.lt8 {B : Int} {S : SC} {z : Nat → Int32} (h : Rl B S z) {r p : Nat} (hr : r < 3) (hp : p < 8) : (sA S 8 (r * 8 + p) = -1 ∧ lat z (nI r) (nI p) (sN S) = -1005) ∨ ∃ k, k < sN S ∧ sA S 8 (r * 8 + p) = nI k ∧ sA S 3 k = nI (r * 8 + p) ∧ zl z k 1 = nI r ∧ zl z k 2 = nI p ∧ lat z (nI r) (nI p) (sN S) = nI k := by
  have hn := h.n60
  have key : ∀ k, k < sN S → (zl z k 1 = nI r ∧ zl z k 2 = nI p) → sA S 8 (r * 8 + p) = nI k := fun k hk c => by
    rcases h.rP hk with q | ⟨r', p', hr', hp', e1, e2, e3, e4⟩
    · exact absurd (c.1.symm.trans q.2.1) (nI_nmN (by omega))
    · have er : r' = r := nI_i (by omega) (by omega) (e2.symm.trans c.1)
      have ep : p' = p := nI_i (by omega) (by omega) (e3.symm.trans c.2)
      subst er; subst ep
      exact e4
  rcases h.rA (r * 8 + p) (by omega) with q | ⟨k, hk, e1, e2⟩
  · refine Or.inl ⟨q, lat_none (fun k hk c => ?_)⟩
    exact nI_nm1 (k := k) (by omega) ((key k hk c).symm.trans q)
  · refine Or.inr ⟨k, hk, e1, e2, ?_⟩
    rcases h.rP hk with q | ⟨r', p', hr', hp', f1, f2, f3, f4⟩
    · exact absurd (e2.symm.trans q.1) (nI_nm1 (by omega))
    · have ej : r' * 8 + p' = r * 8 + p := nI_i (by omega) (by omega) (f1.symm.trans e2)
      have er : r' = r := by omega
      have ep : p' = p := by omega
      subst er; subst ep
      exact ⟨f2, f3, lat_some hk ⟨f2, f3⟩ (fun j hj c => nI_i (by omega) (by omega) ((key j hj c).symm.trans e1))⟩
theorem e2_ti : (2 : Int32).toInt = (2 : Nat) := by decide
theorem e5_ti : (5 : Int32).toInt = (5 : Nat) := by decide
theorem e7_ti : (7 : Int32).toInt = (7 : Nat) := by decide
theorem at_eq {B : Int} {S : SC} {z : Nat → Int32} (h : Rl B S z) (r p : Int32) : atS S r p = atR z (sN S) r p := by
  have hn := h.n60
  unfold atS atR
  by_cases hr : 0 ≤ r ∧ r ≤ 2
  · by_cases hp : 0 ≤ p ∧ p ≤ 7
    · rw [if_pos ⟨hr, hp⟩, if_pos hr, if_pos hp]
      obtain ⟨a, rfl, ha, ea⟩ := in_of e2_ti hr
      obtain ⟨b, rfl, hb, eb⟩ := in_of e7_ti hp
      rw [ea, eb]
      rcases h.lt8 (r := a) (p := b) (by omega) (by omega) with q | ⟨k, hk, e1, -, -, -, e2⟩
      · rw [if_pos q.1, q.2]
      · rw [e1, if_neg (nI_nm1 (by omega)), e2]
    · rw [if_neg (fun q => hp q.2), if_pos hr, if_neg hp]
  · rw [if_neg (fun q => hr q.1), if_neg hr]
/-- dead in the one, dead in the other -/
theorem rlD.dead {S : SC} {z : Nat → Int32} {k : Nat} (h : rlD S z k) : sA S 7 k ≠ -1 ↔ zl z k 6 ≠ -1005 := by
  obtain ⟨-, -, -, -, -, -, -, q⟩ := h
  rcases q with ⟨e1, e2, -⟩ | ⟨e1, e2, -⟩
  · rw [e1, e2]; simp
  · rw [e1]
    have e3 : ∀ x : Int32, x.toInt < 0 → ¬ zl z k 6 = x := fun x hx e => by rw [e] at e2; omega
    exact ⟨fun _ => e3 _ (by rw [mN_ti]; omega), fun _ => e3 _ (by rw [m1_ti]; omega)⟩
theorem rlD.en {S : SC} {z : Nat → Int32} {k : Nat} (h : rlD S z k) (hd : sA S 7 k ≠ -1) : sA S 7 k = zl z k 6 := by
  obtain ⟨-, -, -, -, -, -, -, q⟩ := h
  rcases q with ⟨e1, -⟩ | ⟨e1, -⟩
  · exact absurd e1 hd
  · exact e1
theorem in_lamp {x : Int32} {n : Nat} (hn : n ≤ 60) (h : 0 ≤ x ∧ x ≤ nI n - 1) : ∃ k, k < n ∧ x = nI k ∧ ixz x = k := by
  obtain ⟨k, a, b⟩ := in_lamps hn h
  exact ⟨k, a, b, by rw [b]; exact nI_clamp (by omega)⟩
theorem lamp_eq {B : Int} {S : SC} {z : Nat → Int32} (h : Rl B S z) (x w : Int32) : tlS S x w = lpR z x w := by
  have hn := h.n60
  unfold tlS lpR
  rw [h.z3]
  by_cases hx : 0 ≤ x ∧ x ≤ nI (sN S) - 1
  · rw [if_pos hx, if_pos hx]
    obtain ⟨k, hk, e, ek⟩ := in_lamp hn hx
    have hD := h.rD hk
    have hP := h.rP hk
    have hd := hD.dead
    have he := hD.en
    rw [ek]
    unfold rlD at hD
    obtain ⟨d1, d2, d3, d4, d5, -⟩ := hD
    by_cases w0 : w = 0
    · rw [if_pos w0, if_pos w0, d1]
    rw [if_neg w0, if_neg w0]
    by_cases w1 : w = 1
    · rw [if_pos w1, if_pos w1]
      rcases hP with ⟨a, b, c⟩ | ⟨r, p, hr, hp, a, b, c, -⟩
      · rw [if_pos a, b]
      · rw [a, if_neg (nI_nm1 (by omega)), b]
        refine (pk_div (a := r * 8 + p) (d := 8) (by omega) (by omega) (by omega)).trans (nI_eq' (by omega))
    rw [if_neg w1, if_neg w1]
    by_cases w2 : w = 2
    · rw [if_pos w2, if_pos w2]
      rcases hP with ⟨a, b, c⟩ | ⟨r, p, hr, hp, a, b, c, -⟩
      · rw [if_pos a, c]
      · rw [a, if_neg (nI_nm1 (by omega)), c]
        refine (pk_rem (a := r * 8 + p) (d := 8) (by omega) (by omega) (by omega)).trans (nI_eq' (by omega))
    rw [if_neg w2, if_neg w2]
    by_cases w3 : w = 3
    · rw [if_pos w3, if_pos w3, d2]
    rw [if_neg w3, if_neg w3]
    by_cases w4 : w = 4
    · rw [if_pos w4, if_pos w4, d3]
    rw [if_neg w4, if_neg w4]
    by_cases w5 : w = 5
    · rw [if_pos w5, if_pos w5, d4]
    rw [if_neg w5, if_neg w5]
    by_cases w6 : w = 6
    · rw [if_pos w6, if_pos w6, d3]
    rw [if_neg w6, if_neg w6]
    by_cases w7 : w = 7
    · rw [if_pos w7, if_pos w7]
      exact b2i_c hd
    rw [if_neg w7, if_neg w7]
    by_cases w8 : w = 8
    · rw [if_pos w8, if_pos w8]
      by_cases q : sA S 7 k ≠ -1
      · rw [if_pos q, he q]
      · rw [if_neg q]
        exact (Classical.not_not.mp (fun g => q (hd.mpr g))).symm
    rw [if_neg w8, if_neg w8]
    by_cases w9 : w = 9
    · rw [if_pos w9, if_pos w9, d5, e]
    rw [if_neg w9, if_neg w9]
  · rw [if_neg hx, if_neg hx]
