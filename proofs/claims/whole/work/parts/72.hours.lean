/-! pure: all hours of the object are the reference's -/
theorem burn_is {B : Int} {S0 S : SC} {z : Nat → Int32} {r p t : Nat} (h0 : Rl B S0 z) (hB : B ≤ 110000) (hp : p + t ≤ 10000) (hf : frS S0 S) (hr : r < 3) (hv : 0 ≤ (sA S 9 r).toInt ∧ (sA S 9 r).toInt ≤ 300) (hL : ∀ k, k < sN S0 → zl z k 1 = nI r → lQ S (ysR z (sN S0) p) k) :
    sameB S (burnS S r (nI t) (sHr S + nI p)).1 ∧
    (∀ k, k < sN S0 → ∀ q, q < 8 → sA S0 8 (r * 8 + q) = nI k → (sA S 9 r = 0 → sL S (burnS S r (nI t) (sHr S + nI p)).1 k) ∧ (¬ sA S 9 r = 0 → bD S (burnS S r (nI t) (sHr S + nI p)).1 r (r * 8 + q) k (nI t) (z 2 + nI p))) ∧
    (∀ k, k < sN S0 → ¬ zl z k 1 = nI r → sL S (burnS S r (nI t) (sHr S + nI p)).1 k) ∧
    ∃ c, (burnS S r (nI t) (sHr S + nI p)).2 = nI c ∧ dN (burnS S r (nI t) (sHr S + nI p)).1 = dN S + c := by
  have hn := h0.n60
  have e8 : sA S 8 = sA S0 8 := hf.2.2.2.2 8 (by omega) (by omega) (by omega) (by omega) (by omega)
  have e3 : sA S 3 = sA S0 3 := hf.2.2.2.2 3 (by omega) (by omega) (by omega) (by omega) (by omega)
  have eN := hf.2.2.2.1
  have eH : sHr S = z 2 := hf.1.trans h0.1.1
  refine ⟨burnS_sameB _ _ _ _, ?_⟩
  unfold burnS
  by_cases c : sA S 9 r = 0
  · rw [if_pos c]
    exact ⟨fun k hk q hq e => ⟨fun _ => ⟨rfl, rfl, rfl⟩, fun g => absurd c g⟩, fun k hk _ => ⟨rfl, rfl, rfl⟩, 0, rfl, rfl⟩
  · rw [if_neg c]
    have hA : rlA S := by
      have := h0.rA
      unfold rlA at *
      rw [eN, e8, e3]
      exact this
    have loc : ∀ k, k < sN S0 → ∀ q, q < 8 → sA S0 8 (r * 8 + q) = nI k → zl z k 1 = nI r ∧ zl z k 2 = nI q := fun k hk q hq e => by
      rcases h0.lt8 hr hq with g | ⟨d, hd, g1, -, g2, g3, -⟩
      · exact absurd (e.symm.trans g.1) (nI_nm1 (by omega))
      · have : d = k := nI_i (by omega) (by omega) (g1.symm.trans e)
        subst this
        exact ⟨g2, g3⟩
    have main := bRn_is (S := S) (r := r) (h := nI t) (hb := sHr S + nI p) hr (by rw [eN]; exact hn) hA (fun k q hq e hk al le => by
      rw [eN] at hk
      rw [e8] at e
      obtain ⟨x1, x2⟩ := loc k hk q hq e
      obtain ⟨L, l1, l2, -⟩ := lamp_at h0 hB (show p ≤ 10000 by omega) hf hr hq hk x2 rfl hv (hL k hk x1) al
      rw [l1, eH]
      intro g
      have g2 := congrArg Int32.toInt g
      have z2 := h0.1.2.2.2.2.1
      have s1 := ad_ti (x := z 2) (y := nI p) (by rw [nI_toInt (by omega)]; omega)
      rw [nI_toInt (by omega)] at s1
      rw [ad_ti (by rw [s1, nI_toInt (by omega)]; omega), s1, nI_toInt (by omega), m1_ti] at g2
      omega) 8 (Nat.le_refl _)
    rw [eN, e8] at main
    rw [← eH]
    obtain ⟨m1, m2, m3⟩ := main
    refine ⟨fun k hk q hq e => ⟨fun g => absurd g c, fun _ => (m1 k hk q hq e).1 hq⟩, fun k hk g => m2 k hk (fun q hq e => g (loc k hk q hq e).1), m3⟩
theorem nI_add0 (x : Int32) : x + nI 0 = x := Int32.add_zero x
theorem pRf_is {B : Int} {S0 : SC} {z : Nat → Int32} {r hh : Nat} (h0 : Rl B S0 z) (hB : B ≤ 110000) (hh1 : hh ≤ 10000) (hr : r < 3) : ∀ (f : Nat) (S : SC) (p : Nat) (acc : Int32), hh - p < f → p ≤ hh → frS S0 S → rN S (ysR z (sN S0) p) r → (∀ k, k < sN S0 → zl z k 1 = nI r → lQ S (ysR z (sN S0) p) k) →
    ∃ (T : SC) (c : Nat), pRf f S r hh p acc = (T, acc + nI c) ∧ frS S0 T ∧ rN T (ysR z (sN S0) hh) r ∧ (∀ k, k < sN S0 → zl z k 1 = nI r → lQ T (ysR z (sN S0) hh) k) ∧ (∀ q, q ≠ r → sA T 9 q = sA S 9 q ∧ sA T 12 q = sA S 12 q) ∧ (∀ k, k < sN S0 → ¬ zl z k 1 = nI r → sL S T k) ∧ dN T = dN S + c
  | 0, S, p, acc, h1, _, _, _, _ => by omega
  | f + 1, S, p, acc, h1, h2, hf, hR, hL => by
    by_cases c : hh ≤ p
    · have e : p = hh := by omega
      subst e
      rw [pRf_e c]
      exact ⟨S, 0, by rw [nI_add0], hf, hR, hL, fun q _ => ⟨rfl, rfl⟩, fun k _ _ => ⟨rfl, rfl, rfl⟩, rfl⟩
    · rw [pRf_s c]
      have hz := ys_zR h0.zR p (by omega)
      have cst := (ys_is h0.oZ p).2.2 r hr
      have okr := hz.2.2.2.2.1 r hr
      rw [cst.1, cst.2] at okr
      obtain ⟨t1, t2, -⟩ := strN_ok S r (hh - p) (by omega) (by omega)
      have e10 : sA S 10 r = zr z r 1 := by rw [hf.2.2.2.2 10 (by omega) (by omega) (by omega) (by omega) (by omega)]; exact (h0.rR hr).2.1
      have e11 : sA S 11 r = zr z r 2 := by rw [hf.2.2.2.2 11 (by omega) (by omega) (by omega) (by omega) (by omega)]; exact (h0.rR hr).2.2.1
      have rs := fun (U : SC) (g : sameB S U) => rack_step (S := U) (m := hh - p) h0.oZ hr (p := p) (by
        unfold rN
        rw [g.2.2.2.2 9 (by omega) (by omega) (by omega), g.2.2.2.2 12 (by omega) (by omega) (by omega)]
        exact hR) (by rw [g.2.2.2.2 10 (by omega) (by omega) (by omega)]; exact e10) (by rw [g.2.2.2.2 11 (by omega) (by omega) (by omega)]; exact e11) okr (by omega)
      have es : ∀ U : SC, sameB S U → strN U r (hh - p) = strN S r (hh - p) := fun U g => by
        unfold strN
        rw [g.2.2.2.2 9 (by omega) (by omega) (by omega), g.2.2.2.2 12 (by omega) (by omega) (by omega), g.2.2.2.2 10 (by omega) (by omega) (by omega), g.2.2.2.2 11 (by omega) (by omega) (by omega)]
      have hV := (rs S (sameB.rf S)).1
      generalize ht : strN S r (hh - p) = t at *
      have bi := burn_is (t := t) h0 hB (show p + t ≤ 10000 by omega) hf hr (by rw [hR.1]; exact okr.1) hL
      generalize (burnS S r (nI t) (sHr S + nI p)).1 = T1 at *
      generalize (burnS S r (nI t) (sHr S + nI p)).2 = a1 at *
      obtain ⟨sb, b1, b2, c1, b3, b4⟩ := bi
      have rT := (rs T1 sb).2
      rw [es T1 sb] at rT
      have hf1 : frS S0 T1 := hf.tr ⟨sb.1, sb.2.1, sb.2.2.1, sb.2.2.2.1, fun j g5 g6 g7 _ _ => sb.2.2.2.2 j g5 g6 g7⟩
      have hf2 : frS S0 (cntS T1 r (nI t)) := hf1.tr ⟨rfl, rfl, rfl, rfl, fun j _ _ _ g9 g12 => by
        show va_up (va_up T1.2.2.2.2 9 _) 12 _ j = _
        rw [va_up_ne _ _ g12, va_up_ne _ _ g9]⟩
      have hL2 : ∀ k, k < sN S0 → zl z k 1 = nI r → lQ (cntS T1 r (nI t)) (ysR z (sN S0) (p + t)) k := fun k hk e => by
        obtain ⟨q, hq, e2, e8⟩ := h0.pl hk hr e
        exact lamp_step (T := T1) h0 hB (by omega) hf hr hq hk e e2 rfl (by rw [hR.1]; exact okr.1) (fun i hi => by rw [hV i hi]; exact hR.1.symm) (hL k hk e) (fun g => (b1 k hk q hq e8).1 g) (fun g => (b1 k hk q hq e8).2 g)
      obtain ⟨T, c2, i1, i2, i3, i4, i5, i6, i7⟩ := pRf_is h0 hB hh1 hr f (cntS T1 r (nI t)) (p + t) (acc + a1) (by omega) (by omega) hf2 rT hL2
      refine ⟨T, c1 + c2, ?_, i2, i3, i4, fun q hq => ?_, fun k hk g => (b2 k hk g).tr ((show sL T1 (cntS T1 r (nI t)) k from ⟨rfl, rfl, rfl⟩).tr (i6 k hk g)), ?_⟩
      · rw [i1, b3, Int32.add_assoc, nI_add]
      · obtain ⟨x, y⟩ := i5 q hq
        rw [x, y]
        refine ⟨?_, ?_⟩
        · show chV (sA T1 10 r) (sA T1 12 r) (nI t) r (sA T1 9) (sA T1 11) q = _
          rw [← sb.2.2.2.2 9 (by omega) (by omega) (by omega)]
          unfold chV
          split
          · rfl
          · split
            · rfl
            · exact upd_ne hq
        · show chO (sA T1 10 r) (nI t) r (sA T1 12) q = _
          rw [← sb.2.2.2.2 12 (by omega) (by omega) (by omega)]
          unfold chO
          split
          · rfl
          · exact upd_ne hq
      · rw [i7]
        show dN T1 + c2 = _
        rw [b4]
        omega
theorem pRs_is {B : Int} {S0 : SC} {z : Nat → Int32} {hh : Nat} (h0 : Rl B S0 z) (hB : B ≤ 110000) (hh1 : hh ≤ 10000) : ∀ m, m ≤ 3 →
    ∃ (T : SC) (c : Nat), pRs S0 hh m = (T, nI c) ∧ frS S0 T ∧ (∀ r, r < 3 → (r < m → rN T (ysR z (sN S0) hh) r) ∧ (m ≤ r → rN T z r)) ∧ (∀ k, k < sN S0 → ∀ r, r < 3 → zl z k 1 = nI r → (r < m → lQ T (ysR z (sN S0) hh) k) ∧ (m ≤ r → lQ T z k)) ∧ (∀ k, k < sN S0 → zl z k 1 = -1005 → sL S0 T k) ∧ dN T = dN S0 + c
  | 0, _ => by
    refine ⟨S0, 0, rfl, frS.rf S0, fun r hr => ⟨fun g => by omega, fun _ => ⟨(h0.rR hr).1, (h0.rR hr).2.2.2.1⟩⟩, fun k hk r hr e => ⟨fun g => by omega, fun _ => ?_⟩, fun k hk e => ⟨rfl, rfl, rfl⟩, rfl⟩
    have d := h0.rD hk
    refine ⟨d.2.2.1, d.2.2.2.1, ?_⟩
    rcases d.2.2.2.2.2.2.2 with ⟨g1, g2, -⟩ | ⟨g1, g2, -⟩
    · exact Or.inl ⟨g1, g2⟩
    · exact Or.inr ⟨g1, g2⟩
  | m + 1, hm => by
    obtain ⟨S, c, i1, i2, i3, i4, i5, i6⟩ := pRs_is h0 hB hh1 m (by omega)
    rw [pRs_s, i1]
    obtain ⟨T, c2, j1, j2, j3, j4, j5, j6, j7⟩ := pRf_is (r := m) h0 hB hh1 (by omega) (hh + 1) S 0 0 (by omega) (by omega) i2 ((i3 m (by omega)).2 (Nat.le_refl _)) (fun k hk e => (i4 k hk m (by omega) e).2 (Nat.le_refl _))
    have ej : pRk S m hh = (T, 0 + nI c2) := j1
    refine ⟨T, c + c2, ?_, j2, fun r hr => ⟨fun g => ?_, fun g => ?_⟩, fun k hk r hr e => ⟨fun g => ?_, fun g => ?_⟩, fun k hk e => (i5 k hk e).tr (j6 k hk (fun g => nI_nmN (k := m) (by omega) (g.symm.trans e))), ?_⟩
    · show ((pRk S m hh).1, nI c + (pRk S m hh).2) = _
      rw [ej]
      show (T, nI c + (0 + nI c2)) = _
      rw [Int32.zero_add, nI_add]
    · by_cases em : r = m
      · subst em; exact j3
      · have := (i3 r hr).1 (by omega)
        obtain ⟨x, y⟩ := j5 r em
        unfold rN at *
        rw [x, y]
        exact this
    · have := (i3 r hr).2 (by omega)
      obtain ⟨x, y⟩ := j5 r (by omega)
      unfold rN at *
      rw [x, y]
      exact this
    · by_cases em : r = m
      · subst em; exact j4 k hk e
      · have := (i4 k hk r hr e).1 (by omega)
        have s := j6 k hk (fun g => em (nI_i (by omega) (by omega) (e.symm.trans g)))
        unfold lQ at *
        rw [s.1, s.2.1, s.2.2]
        exact this
    · have := (i4 k hk r hr e).2 (by omega)
      have s := j6 k hk (fun g => by have := nI_i (by omega) (by omega) (e.symm.trans g); omega)
      unfold lQ at *
      rw [s.1, s.2.1, s.2.2]
      exact this
    · rw [j7, i6]
      omega
/-- a lamp in no rack -/
theorem run_no {z : Nat → Int32} {n k : Nat} (h : okZ z n) (hk : k < n) (e : zl z k 1 = -1005) : ∀ m, zl (ysR z n m) k 4 = zl z k 4 ∧ zl (ysR z n m) k 5 = zl z k 5 ∧ zl (ysR z n m) k 6 = zl z k 6
  | 0 => ⟨rfl, rfl, rfl⟩
  | m + 1 => by
    obtain ⟨i1, i2, i3⟩ := run_no h hk e m
    have l := (ys_l (m := m) h hk).2 (fun q => by
      have := ((brn_iff _ _).mp q).2.1
      rw [ys_f (w := 1) h m hk (by omega)] at this
      exact this e)
    exact ⟨l.1.trans i1, l.2.1.trans i2, l.2.2.trans i3⟩
theorem Rl.hours {B : Int} {S : SC} {z : Nat → Int32} {hh : Nat} (h0 : Rl B S z) (hB : B ≤ 110000) (hh1 : hh ≤ 10000) : Rl (B + hh) (pHs S hh).1 (ysR z (sN S) hh) ∧ ∃ c, (pHs S hh).2 = nI c ∧ dN (pHs S hh).1 = dN S + c := by
  obtain ⟨T, c, i1, i2, i3, i4, i5, i6⟩ := pRs_is h0 hB hh1 3 (Nat.le_refl _)
  have hn := h0.n60
  have e : pHs S hh = (uHr T (sHr T + nI hh), nI c) := by
    unfold pHs
    rw [i1]
  rw [e]
  have ys := ys_is h0.oZ hh
  have zz := ys_zR h0.zR hh (by omega)
  have e8 : sA T 8 = sA S 8 := i2.2.2.2.2 8 (by omega) (by omega) (by omega) (by omega) (by omega)
  have e3 : sA T 3 = sA S 3 := i2.2.2.2.2 3 (by omega) (by omega) (by omega) (by omega) (by omega)
  have eN : sN T = sN S := i2.2.2.2.1
  refine ⟨⟨⟨?_, ?_, ?_, ?_, zz.2.1, zz.2.2.1, zz.2.2.2.1, ?_⟩, fun b hb => ?_, fun r hr => ?_, fun k hk => ?_, ?_⟩, c, rfl, i6⟩
  · show sHr T + nI hh = _
    rw [ys.2.1, i2.1, h0.1.1]
  · exact i2.2.1.trans (h0.1.2.1.trans (ys_01 h0.oZ hh).1.symm)
  · exact i2.2.2.1.trans (h0.1.2.2.1.trans (ys_01 h0.oZ hh).2.symm)
  · show sN T ≤ 60
    omega
  · show okZ _ (sN T)
    rw [eN]
    exact ysR_ok h0.oZ hh
  · refine (h0.rB hb).cg ?_ ?_ (ys.1 _ (by omega) (by omega) (fun k hk => by omega)) (ys.1 _ (by omega) (by omega) (fun k hk => by omega))
    · show sA T 0 b = _
      rw [i2.2.2.2.2 0 (by omega) (by omega) (by omega) (by omega) (by omega)]
    · show sA T 1 b = _
      rw [i2.2.2.2.2 1 (by omega) (by omega) (by omega) (by omega) (by omega)]
  · have rr := (i3 r hr).1 hr
    have c0 := ys.2.2 r hr
    refine ⟨rr.1, ?_, ?_, rr.2, zz.2.2.2.2.1 r hr⟩
    · show sA T 10 r = _
      rw [i2.2.2.2.2 10 (by omega) (by omega) (by omega) (by omega) (by omega), c0.1]
      exact (h0.rR hr).2.1
    · show sA T 11 r = _
      rw [i2.2.2.2.2 11 (by omega) (by omega) (by omega) (by omega) (by omega), c0.2]
      exact (h0.rR hr).2.2.1
  · have hk2 : k < sN S := by rw [← eN]; exact hk
    have d := h0.rD hk2
    have lq : lQ T (ysR z (sN S) hh) k := by
      rcases h0.rP hk2 with ⟨-, g, -⟩ | ⟨r, p, hr, -, -, g, -⟩
      · obtain ⟨s1, s2, s3⟩ := i5 k hk2 g
        obtain ⟨t1, t2, t3⟩ := run_no h0.oZ hk2 g hh
        unfold lQ
        rw [s1, s2, s3, t1, t2, t3]
        refine ⟨d.2.2.1, d.2.2.2.1, ?_⟩
        rcases d.2.2.2.2.2.2.2 with ⟨g1, g2, -⟩ | ⟨g1, g2, -⟩
        · exact Or.inl ⟨g1, g2⟩
        · exact Or.inr ⟨g1, g2⟩
      · exact (i4 k hk2 r hr g).1 hr
    have f := fun w (hw : w < 4) => ys_f (w := w) h0.oZ hh hk2 hw
    have f7 : zl (ysR z (sN S) hh) k 7 = zl z k 7 := ys.1 _ (by omega) (by omega) (fun k hk => by omega)
    have zk := zz.2.2.2.2.2 k hk2
    refine ⟨⟨?_, ?_, lq.1, lq.2.1, ?_, zk.1, zk.2.1, ?_⟩, (h0.rP hk2).cg ?_ (fun j g => ?_) (f 1 (by omega)) (f 2 (by omega))⟩
    · show sA T 2 k = _
      rw [i2.2.2.2.2 2 (by omega) (by omega) (by omega) (by omega) (by omega), f 0 (by omega)]
      exact d.1
    · show sA T 4 k = _
      rw [i2.2.2.2.2 4 (by omega) (by omega) (by omega) (by omega) (by omega), f 3 (by omega)]
      exact d.2.1
    · rw [f7]; exact d.2.2.2.2.1
    · rcases lq.2.2 with ⟨g1, g2⟩ | ⟨g1, g2⟩
      · refine Or.inl ⟨g1, g2, ?_⟩
        rcases zk.2.2 with q | q
        · exact q.2
        · rw [g2, mN_ti] at q; omega
      · refine Or.inr ⟨g1, g2, ?_⟩
        rcases zk.2.2 with q | q
        · rw [q.1, mN_ti] at g2; omega
        · exact q.2
    · show sA T 3 k = _
      rw [e3]
    · show sA T 8 j = _
      rw [e8]
      exact g
  · have := h0.rA
    unfold rlA at *
    show ∀ j, j < 24 → sA T 8 j = -1 ∨ ∃ k, k < sN T ∧ sA T 8 j = nI k ∧ sA T 3 k = nI j
    rw [eN, e8, e3]
    exact this
