/-! pure: what holds of a state -/
def ivL (S : SC) (B : Int) (k : Nat) : Prop := (∃ b, b < 6 ∧ sA S 2 k = nI b) ∧ (1 ≤ (sA S 4 k).toInt ∧ (sA S 4 k).toInt ≤ 9999) ∧ (0 ≤ (sA S 6 k).toInt ∧ (sA S 6 k).toInt ≤ (sA S 5 k).toInt ∧ (sA S 5 k).toInt ≤ 110000) ∧ ((sA S 7 k = -1 ∧ (sA S 5 k).toInt < 10 * (sA S 4 k).toInt) ∨ ((1 ≤ (sA S 7 k).toInt ∧ (sA S 7 k).toInt ≤ B) ∧ 10 * (sA S 4 k).toInt ≤ (sA S 5 k).toInt))
def ivP (S : SC) (k : Nat) : Prop := sA S 3 k = -1 ∨ ∃ j, j < 24 ∧ sA S 3 k = nI j ∧ sA S 8 j = nI k
def ivB (S : SC) (b : Nat) : Prop := (10 ≤ (sA S 0 b).toInt ∧ (sA S 0 b).toInt ≤ 9999) ∧ (0 ≤ (sA S 1 b).toInt ∧ (sA S 1 b).toInt ≤ 90)
def ivR (S : SC) (r : Nat) : Prop := okR (sA S 9 r) (sA S 10 r) (sA S 11 r) (sA S 12 r)
def ivH (S : SC) : Prop := sN S ≤ 60 ∧ (100 ≤ (sWv S).toInt ∧ (sWv S).toInt ≤ 300) ∧ (1 ≤ (sDv S).toInt ∧ (sDv S).toInt ≤ 100)
def IvB (B : Int) (S : SC) : Prop := ivH S ∧ (∀ b, b < 6 → ivB S b) ∧ (∀ r, r < 3 → ivR S r) ∧ (∀ k, k < sN S → ivL S B k ∧ ivP S k) ∧ rlA S
def Iv (H : Int) (S : SC) : Prop := IvB (sHr S).toInt S ∧ 0 ≤ (sHr S).toInt ∧ (sHr S).toInt ≤ H
section IV
variable {B C : Int} {S S' : SC}
theorem IvB.n60 (h : IvB B S) : sN S ≤ 60 := h.1.1
theorem IvB.lv (h : IvB B S) {k : Nat} (hk : k < sN S) : ivL S B k := (h.2.2.2.1 k hk).1
theorem IvB.pl (h : IvB B S) {k : Nat} (hk : k < sN S) : ivP S k := (h.2.2.2.1 k hk).2
theorem IvB.at_ (h : IvB B S) : rlA S := h.2.2.2.2
theorem IvB.rk (h : IvB B S) {r : Nat} (hr : r < 3) : ivR S r := h.2.2.1 r hr
theorem IvB.bt (h : IvB B S) {b : Nat} (hb : b < 6) : ivB S b := h.2.1 b hb
theorem IvB.okS (h : IvB B S) : okS S := by
  refine ⟨h.n60, fun j hj => (h.at_ j hj).imp id (fun ⟨k, a, b, _⟩ => ⟨k, a, b⟩), fun k hk => ?_⟩
  rcases h.pl hk with q | ⟨j, hj, e, _⟩
  · exact Or.inl q
  · exact Or.inr ⟨j, hj, e⟩
theorem ivL.wide {k : Nat} (h : ivL S B k) (hb : B ≤ C) : ivL S C k := ⟨h.1, h.2.1, h.2.2.1, h.2.2.2.imp id (fun q => ⟨⟨q.1.1, by have := q.1.2; omega⟩, q.2⟩)⟩
theorem IvB.wide (h : IvB B S) (hb : B ≤ C) : IvB C S := ⟨h.1, h.2.1, h.2.2.1, fun k hk => ⟨(h.lv hk).wide hb, h.pl hk⟩, h.at_⟩
theorem Iv.wide {H K : Int} (h : Iv H S) (hb : H ≤ K) : Iv K S := ⟨h.1, h.2.1, by have := h.2.2; omega⟩
theorem Iv.okS {H : Int} (h : Iv H S) : okS S := h.1.okS
theorem Iv.n60 {H : Int} (h : Iv H S) : sN S ≤ 60 := h.1.n60
/-- dead: from when on -/
theorem ivL.dead {k : Nat} (h : ivL S B k) : sA S 7 k ≠ -1 ↔ 10 * (sA S 4 k).toInt ≤ (sA S 5 k).toInt := by
  obtain ⟨-, h2, h3, h4⟩ := h
  rcases h4 with ⟨e, l⟩ | ⟨⟨l1, l2⟩, l3⟩
  · rw [e]
    exact ⟨fun q => absurd rfl q, fun q => by omega⟩
  · refine ⟨fun _ => l3, fun _ e => ?_⟩
    rw [e, m1_ti] at l1
    omega
/-- an empty place, or a lamp there -/
theorem IvB.place (h : IvB B S) {j : Nat} (hj : j < 24) : sA S 8 j = -1 ∨ ∃ k, k < sN S ∧ sA S 8 j = nI k ∧ sA S 3 k = nI j := h.at_ j hj
theorem IvB.one (h : IvB B S) {j k : Nat} (hj : j < 24) (hk : k < sN S) (e : sA S 8 j = nI k) : sA S 3 k = nI j := by
  have hn := h.n60
  rcases h.place hj with q | ⟨d, hd, e1, e2⟩
  · exact absurd (e.symm.trans q) (nI_nm1 (by omega))
  · have : d = k := nI_i (by omega) (by omega) (e1.symm.trans e)
    subst this
    exact e2
theorem IvB.uniq (h : IvB B S) {i j k : Nat} (hi : i < 24) (hj : j < 24) (hk : k < sN S) (e1 : sA S 8 i = nI k) (e2 : sA S 8 j = nI k) : i = j :=
  nI_i (by omega) (by omega) ((h.one hi hk e1).symm.trans (h.one hj hk e2))
/-- a lamp's numbers stay -/
theorem ivL.cg {k : Nat} (h : ivL S B k) (e2 : sA S' 2 k = sA S 2 k) (e4 : sA S' 4 k = sA S 4 k) (e5 : sA S' 5 k = sA S 5 k) (e6 : sA S' 6 k = sA S 6 k) (e7 : sA S' 7 k = sA S 7 k) : ivL S' B k := by
  unfold ivL at *
  rw [e2, e4, e5, e6, e7]
  exact h
theorem ivR.cg {r : Nat} (h : ivR S r) (e9 : sA S' 9 r = sA S 9 r) (e10 : sA S' 10 r = sA S 10 r) (e11 : sA S' 11 r = sA S 11 r) (e12 : sA S' 12 r = sA S 12 r) : ivR S' r := by
  unfold ivR at *
  rw [e9, e10, e11, e12]
  exact h
theorem rlA.cg (h : rlA S) (eN : sN S' = sN S) (e3 : sA S' 3 = sA S 3) (e8 : sA S' 8 = sA S 8) : rlA S' := by
  unfold rlA at *
  rw [eN, e3, e8]
  exact h
theorem ivP.cg {k : Nat} (h : ivP S k) (e3 : sA S' 3 = sA S 3) (e8 : sA S' 8 = sA S 8) : ivP S' k := by
  unfold ivP at *
  rw [e3, e8]
  exact h
/-- lamps and places stay -/
theorem IvB.keepL (h : IvB B S) (hH : ivH S') (hB : ∀ b, b < 6 → ivB S' b) (hR : ∀ r, r < 3 → ivR S' r) (eN : sN S' = sN S) (e : ∀ j, 2 ≤ j → j ≤ 8 → sA S' j = sA S j) : IvB B S' := by
  refine ⟨hH, hB, hR, fun k hk => ?_, h.at_.cg eN (e 3 (by omega) (by omega)) (e 8 (by omega) (by omega))⟩
  rw [eN] at hk
  refine ⟨(h.lv hk).cg ?_ ?_ ?_ ?_ ?_, (h.pl hk).cg (e 3 (by omega) (by omega)) (e 8 (by omega) (by omega))⟩
  all_goals rw [e _ (by omega) (by omega)]
/-- an act: what is told, and the state behind it -/
def actIv (H : Int) (S : SC) (q : Int32 × SC) : Prop := Iv H q.2 ∧ (q.1 < 0 → q.2 = S)
theorem actIv.no {H : Int} (h : Iv H S) (v : Int32) : actIv H S (v, S) := ⟨h, fun _ => rfl⟩
theorem actIv.go {H : Int} (h : Iv H S') {v : Int32} (hv : 0 ≤ v.toInt) : actIv H S (v, S') := ⟨h, fun q => absurd q (nn_ti hv)⟩
theorem sA_u (S : SC) (i : Nat) (f : Nat → Int32) {j : Nat} (h : j ≠ i) : sA (uA S i f) j = sA S j := va_up_ne _ _ h
theorem sA_i (S : SC) (i : Nat) (f : Nat → Int32) : sA (uA S i f) i = f := by
  show va_up S.2.2.2.2 i f i = f
  unfold va_up
  exact if_pos rfl
theorem ixn {k : Nat} (h : k < 2147483648) : ixz (nI k) = k := nI_clamp (by omega)
end IV
section ACTS
variable {H : Int} {S : SC}
theorem in_nI {k m : Nat} {M : Int32} (hM : M.toInt = (m : Int)) (hk : k ≤ m) (hm : m < 2147483648) : 0 ≤ nI k ∧ nI k ≤ M := by
  rw [le_ti, le_ti, e0_ti, hM, nI_toInt (by omega)]
  omega
theorem i5 {b : Nat} (hb : b < 6) : 0 ≤ nI b ∧ nI b ≤ 5 := in_nI e5_ti (by omega) (by omega)
theorem i2 {b : Nat} (hb : b < 3) : 0 ≤ nI b ∧ nI b ≤ 2 := in_nI e2_ti (by omega) (by omega)
theorem i7 {b : Nat} (hb : b < 8) : 0 ≤ nI b ∧ nI b ≤ 7 := in_nI e7_ti (by omega) (by omega)
/-- a batch's life and spread -/
def btT (S : SC) (b : Nat) (li sp : Int32) : SC := uA (uA S 0 (upd (sA S 0) b li)) 1 (upd (sA S 1) b sp)
theorem btT_0 (S : SC) (b : Nat) (li sp : Int32) : sA (btT S b li sp) 0 = upd (sA S 0) b li := (sA_u _ 1 _ (by omega)).trans (sA_i _ _ _)
theorem btT_1 (S : SC) (b : Nat) (li sp : Int32) : sA (btT S b li sp) 1 = upd (sA S 1) b sp := sA_i _ _ _
theorem chBatch_is (h : Iv H S) {b : Nat} (hb : b < 6) {li sp : Int32} (hl : 10 ≤ li.toInt ∧ li.toInt ≤ 9999) (hs : 0 ≤ sp.toInt ∧ sp.toInt ≤ 90) : ((sA S 0 b = li ∧ sA S 1 b = sp) ∧ chBatch S (nI b) li sp = (-1005, S)) ∨ (¬ (sA S 0 b = li ∧ sA S 1 b = sp) ∧ chBatch S (nI b) li sp = (sA S 0 b, btT S b li sp) ∧ Iv H (btT S b li sp) ∧ 0 ≤ (sA S 0 b).toInt) := by
  have e10 : (10 : Int32).toInt = 10 := by decide
  unfold chBatch
  rw [if_pos (i5 hb), if_pos ⟨⟨by rw [le_ti, e10]; omega, by rw [le_ti, e9999_ti]; omega⟩, by rw [le_ti, e0_ti]; omega, by rw [le_ti, e90_ti]; omega⟩, ixn (by omega)]
  by_cases c : sA S 0 b = li ∧ sA S 1 b = sp
  · rw [if_pos c]
    exact Or.inl ⟨c, rfl⟩
  · rw [if_neg c]
    refine Or.inr ⟨c, rfl, ⟨h.1.keepL h.1.1 (fun d hd => ?_) (fun r hr => (h.1.rk hr).cg rfl rfl rfl rfl) rfl (fun j h2 h8 => ?_), h.2⟩, by have := (h.1.bt hb).1; omega⟩
    · have q := h.1.bt hd
      unfold ivB at *
      rw [btT_0, btT_1]
      by_cases e : d = b
      · subst e
        rw [updA rfl, updA rfl]
        exact ⟨hl, hs⟩
      · rw [upd_ne e, upd_ne e]
        exact q
    · unfold btT
      rw [sA_u _ _ _ (by omega), sA_u _ _ _ (by omega)]
/-- a rack's volts -/
def vtT (S : SC) (r : Nat) (v : Int32) : SC := uA S 9 (upd (sA S 9) r v)
theorem vtT_9 (S : SC) (r : Nat) (v : Int32) : sA (vtT S r v) 9 = upd (sA S 9) r v := sA_i _ _ _
theorem chVolts_is (h : Iv H S) {r : Nat} (hr : r < 3) {v : Int32} (hv : 0 ≤ v.toInt ∧ v.toInt ≤ 300) : (sA S 9 r = v ∧ chVolts S (nI r) v = (-1005, S)) ∨ (¬ sA S 9 r = v ∧ chVolts S (nI r) v = (sA S 9 r, vtT S r v) ∧ Iv H (vtT S r v) ∧ 0 ≤ (sA S 9 r).toInt) := by
  unfold chVolts
  rw [if_pos (i2 hr), if_pos ⟨by rw [le_ti, e0_ti]; omega, by rw [le_ti, e300_ti]; omega⟩, ixn (by omega)]
  by_cases c : sA S 9 r = v
  · rw [if_pos c]
    exact Or.inl ⟨c, rfl⟩
  · rw [if_neg c]
    refine Or.inr ⟨c, rfl, ⟨h.1.keepL h.1.1 (fun d hd => h.1.bt hd) (fun d hd => ?_) rfl (fun j h2 h8 => sA_u _ _ _ (by omega)), h.2⟩, (h.1.rk hr).1.1⟩
    have q := h.1.rk hd
    by_cases e : d = r
    · subst e
      unfold ivR at *
      rw [vtT_9, updA rfl]
      exact ⟨hv, q.2⟩
    · exact q.cg (by rw [vtT_9, upd_ne e]) rfl rfl rfl
/-- a rack's steps -/
def stT (S : SC) (r : Nat) (x v : Int32) : SC := uA (uA (uA S 10 (upd (sA S 10) r x)) 11 (upd (sA S 11) r v)) 12 (upd (sA S 12) r 0)
theorem stT_10 (S : SC) (r : Nat) (x v : Int32) : sA (stT S r x v) 10 = upd (sA S 10) r x := (sA_u _ _ _ (by omega)).trans ((sA_u _ _ _ (by omega)).trans (sA_i _ _ _))
theorem stT_11 (S : SC) (r : Nat) (x v : Int32) : sA (stT S r x v) 11 = upd (sA S 11) r v := (sA_u _ _ _ (by omega)).trans (sA_i _ _ _)
theorem stT_12 (S : SC) (r : Nat) (x v : Int32) : sA (stT S r x v) 12 = upd (sA S 12) r 0 := sA_i _ _ _
theorem chSteps_is (h : Iv H S) {r : Nat} (hr : r < 3) {x v : Int32} (hx : 0 ≤ x.toInt ∧ x.toInt ≤ 99) (hv : -50 ≤ v.toInt ∧ v.toInt ≤ 50) : chSteps S (nI r) x v = (sA S 10 r, stT S r x v) ∧ Iv H (stT S r x v) ∧ 0 ≤ (sA S 10 r).toInt := by
  unfold chSteps
  rw [if_pos (i2 hr), if_pos ⟨⟨by rw [le_ti, e0_ti]; omega, by rw [le_ti, e99_ti]; omega⟩, by rw [le_ti, m50_ti]; omega, by rw [le_ti, e50_ti]; omega⟩, ixn (by omega)]
  refine ⟨rfl, ⟨h.1.keepL h.1.1 (fun d hd => h.1.bt hd) (fun d hd => ?_) rfl (fun j h2 h8 => ?_), h.2⟩, (h.1.rk hr).2.1.1⟩
  · have q := h.1.rk hd
    by_cases e : d = r
    · subst e
      unfold ivR at *
      rw [stT_10, stT_11, stT_12, updA rfl, updA rfl, updA rfl]
      refine ⟨q.1, hx, hv, ?_, ?_, ?_⟩
      · rw [e0_ti]; omega
      · intro _; exact e0_ti
      · intro g; rw [e0_ti]; exact g
    · exact q.cg rfl (by rw [stT_10, upd_ne e]) (by rw [stT_11, upd_ne e]) (by rw [stT_12, upd_ne e])
  · unfold stT
    rw [sA_u _ _ _ (by omega), sA_u _ _ _ (by omega), sA_u _ _ _ (by omega)]
theorem chWv_is (h : Iv H S) {v : Int32} (hv : 100 ≤ v.toInt ∧ v.toInt ≤ 300) : (sWv S = v ∧ chSet S (nI 0) v = (-1005, S)) ∨ (¬ sWv S = v ∧ chSet S (nI 0) v = (sWv S, uWv S v) ∧ Iv H (uWv S v) ∧ 0 ≤ (sWv S).toInt) := by
  have e : chSet S (nI 0) v = chWv S v := if_pos rfl
  rw [e]
  unfold chWv
  rw [if_pos ⟨by rw [le_ti, e100_ti]; omega, by rw [le_ti, e300_ti]; omega⟩]
  by_cases c : sWv S = v
  · rw [if_pos c]
    refine Or.inl ⟨c, ?_⟩
    rw [← c]
  · rw [if_neg c]
    exact Or.inr ⟨c, rfl, ⟨h.1.keepL ⟨h.1.1.1, hv, h.1.1.2.2⟩ (fun d hd => h.1.bt hd) (fun d hd => h.1.rk hd) rfl (fun j _ _ => rfl), h.2⟩, by have := h.1.1.2.1; omega⟩
theorem chDv_is (h : Iv H S) {v : Int32} (hv : 1 ≤ v.toInt ∧ v.toInt ≤ 100) : (sDv S = v ∧ chSet S (nI 1) v = (-1005, S)) ∨ (¬ sDv S = v ∧ chSet S (nI 1) v = (sDv S, uDv S v) ∧ Iv H (uDv S v) ∧ 0 ≤ (sDv S).toInt) := by
  have e : chSet S (nI 1) v = chDv S v := rfl
  rw [e]
  unfold chDv
  rw [if_pos ⟨by rw [le_ti, e1_ti]; omega, by rw [le_ti, e100_ti]; omega⟩]
  by_cases c : sDv S = v
  · rw [if_pos c]
    refine Or.inl ⟨c, ?_⟩
    rw [← c]
  · rw [if_neg c]
    exact Or.inr ⟨c, rfl, ⟨h.1.keepL ⟨h.1.1.1, h.1.1.2.1, hv⟩ (fun d hd => h.1.bt hd) (fun d hd => h.1.rk hd) rfl (fun j _ _ => rfl), h.2⟩, by have := h.1.1.2.2; omega⟩
end ACTS
