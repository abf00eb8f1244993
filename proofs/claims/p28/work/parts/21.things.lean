theorem upd_at (f : Nat → Int32) (k : Nat) (x : Int32) (j : Nat) : upd f k x j = if j = k then x else f j := by
  by_cases h : j = k
  · subst h; rw [if_pos rfl]; exact pk_us
  · rw [if_neg h]; exact pk_un h
theorem okS_u8 {S : SC} (h : okS S) (j : Nat) (v : Int32) (hv : v = -1 ∨ ∃ k, k < sN S ∧ v = nI k) : okS (uA S 8 (upd (sA S 8) j v)) := by
  refine ⟨h.1, fun i hi => ?_, h.2.2⟩
  show upd (sA S 8) j v i = -1 ∨ ∃ k, k < sN S ∧ upd (sA S 8) j v i = nI k
  rw [upd_at]
  split
  · exact hv
  · exact h.2.1 i hi
theorem okS_u3 {S : SC} (h : okS S) (k : Nat) (v : Int32) (hv : v = -1 ∨ ∃ j, j < 24 ∧ v = nI j) : okS (uA S 3 (upd (sA S 3) k v)) := by
  refine ⟨h.1, h.2.1, fun i hi => ?_⟩
  show upd (sA S 3) k v i = -1 ∨ ∃ j, j < 24 ∧ upd (sA S 3) k v i = nI j
  rw [upd_at]
  split
  · exact hv
  · exact h.2.2 i hi
theorem okS_uo {S : SC} (h : okS S) (j : Nat) (f : Nat → Int32) (h8 : ¬ 8 = j) (h3 : ¬ 3 = j) : okS (uA S j f) := by
  have e8 : sA (uA S j f) 8 = sA S 8 := if_neg h8
  have e3 : sA (uA S j f) 3 = sA S 3 := if_neg h3
  refine ⟨h.1, ?_, ?_⟩
  · rw [e8]; exact h.2.1
  · rw [e3]; exact h.2.2
theorem spot_lt {r p : Int32} (h : (0 ≤ r ∧ r ≤ 2) ∧ (0 ≤ p ∧ p ≤ 7)) : ixz r * 8 + ixz p < 24 := by
  obtain ⟨a, ha, rfl⟩ := in_nat (M := 2) (m := 2) h.1 (by decide)
  obtain ⟨b, hb, rfl⟩ := in_nat (M := 7) (m := 7) h.2 (by decide)
  rw [show ixz (nI a) = a from ix a (by omega), show ixz (nI b) = b from ix b (by omega)]
  omega
theorem okS_add {S : SC} (h : okS S) (j : Nat) (b t : Int32) (hj : j < 24) (hn : sN S < 60) : okS (addS S j b t) := by
  refine ⟨by show sN S + 1 ≤ 60; omega, fun i hi => ?_, fun k hk => ?_⟩
  · show upd (sA S 8) j (nI (sN S)) i = -1 ∨ ∃ k, k < sN S + 1 ∧ upd (sA S 8) j (nI (sN S)) i = nI k
    rw [upd_at]
    split
    · exact Or.inr ⟨sN S, by omega, rfl⟩
    · exact (h.2.1 i hi).imp id (fun ⟨k, h1, h2⟩ => ⟨k, by omega, h2⟩)
  · show upd (sA S 3) (sN S) (nI j) k = -1 ∨ ∃ i, i < 24 ∧ upd (sA S 3) (sN S) (nI j) k = nI i
    have hk2 : k < sN S + 1 := hk
    rw [upd_at]
    split
    · exact Or.inr ⟨j, hj, rfl⟩
    · exact h.2.2 k (by omega)
theorem okS_ins {S : SC} (h : okS S) (r p b : Int32) : okS (insS S r p b).2 := by
  unfold insS
  split
  · rename_i c
    split
    · split
      · exact h
      · exact okS_add h _ _ _ (spot_lt c.1) (by omega)
    · exact h
  · exact h
theorem okS_rm {S : SC} (h : okS S) (r p : Int32) : okS (rmS S r p).2 := by
  unfold rmS
  split
  · split
    · exact h
    · exact okS_u3 (okS_u8 h _ _ (Or.inl rfl)) _ _ (Or.inl rfl)
  · exact h
theorem okS_mv {S : SC} (h : okS S) (j : Nat) (L : Int32) (hj : j < 24) (hL : L = -1 ∨ ∃ k, k < sN S ∧ L = nI k) : okS (mvS S j L).2 := by
  unfold mvS
  split
  · exact okS_u8 h _ _ hL
  · exact okS_u3 (okS_u8 h _ _ hL) _ _ (Or.inr ⟨j, hj, rfl⟩)
theorem sN_mv (S : SC) (j : Nat) (L : Int32) : sN (mvS S j L).2 = sN S := by
  unfold mvS
  split <;> rfl
theorem okS_ex {S : SC} (h : okS S) (r p r2 p2 : Int32) : okS (exS S r p r2 p2).2 := by
  unfold exS
  split
  · rename_i c
    split
    · exact h
    · refine okS_mv (okS_mv h _ _ (spot_lt c.2) (h.2.1 _ (spot_lt c.1))) _ _ (spot_lt c.1) ?_
      rw [sN_mv]
      exact h.2.1 _ (spot_lt c.2)
  · exact h
theorem okS_chB {S : SC} (h : okS S) (b l p : Int32) : okS (chBatch S b l p).2 := by
  unfold chBatch
  split
  · split
    · split
      · exact h
      · exact okS_uo (okS_uo h 0 _ (by decide) (by decide)) 1 _ (by decide) (by decide)
    · exact h
  · exact h
theorem okS_chV {S : SC} (h : okS S) (r v : Int32) : okS (chVolts S r v).2 := by
  unfold chVolts
  split
  · split
    · split
      · exact h
      · exact okS_uo h 9 _ (by decide) (by decide)
    · exact h
  · exact h
theorem okS_chP {S : SC} (h : okS S) (r t v : Int32) : okS (chSteps S r t v).2 := by
  unfold chSteps
  split
  · split
    · exact okS_uo (okS_uo (okS_uo h 10 _ (by decide) (by decide)) 11 _ (by decide) (by decide)) 12 _ (by decide) (by decide)
    · exact h
  · exact h
theorem okS_chT {S : SC} (h : okS S) (w v : Int32) : okS (chSet S w v).2 := by
  unfold chSet chWv chDv
  split
  · split <;> exact h
  · split
    · split <;> exact h
    · exact h
theorem okS_lp {S : SC} (h : okS S) (t : Int32) : okS (lpS S t).2 := by
  unfold lpS
  split
  · split
    · exact pRs_okS S _ h 3
    · exact h
  · exact h
/-- a thing of a test is done -/
def doTh (N : SC) (T : TX) : Int32 × SC :=
  if tK T = 112 then insS N (tR T) (tL T) (tN T) else if tK T = 115 then chSteps N (tR T) (tH T) (tD T * tN T)
  else if tK T = 116 then rmS N (tR T) (tL T) else if tK T = 118 then chVolts N (tR T) (tN T) else lpS N (tN T)
theorem do_else {N : SC} {T : TX} (h : tK T = 113 ∨ tK T = 114 ∨ tK T = 117) : doTh N T = lpS N (tN T) := by
  unfold doTh
  rcases h with h | h | h <;> simp [h]
theorem okS_do {N : SC} (h : okS N) (T : TX) : okS (doTh N T).2 := by
  unfold doTh
  split
  · exact okS_ins h _ _ _
  · split
    · exact okS_chP h _ _ _
    · split
      · exact okS_rm h _ _
      · split
        · exact okS_chV h _ _
        · exact okS_lp h _
section XTSW
variable {cx : CX} {z : Nat × Nat} {cc : ByteArray} {Ts : List Cond} {own : String} {rm : Room} {nL : Nat} {ws : va_W} {lv : List (Nat × Value)} {pc : Nat} {st : List Value}
theorem x_tswL (lo0 : Nat) (C : XC cx cc Ts own rm nL) {x : Int32} {dflt lo hi : Int} {offs : Array Int} {len : Nat} (hd : decode cc pc = .ok (.tableswitch dflt lo hi offs, len)) (ts : List Nat) (td : Nat) (h1 : lo = (lo0 : Int) ∧ hi + 1 = lo + ts.length) (h2 : offs.toList.map (fun o => (pc : Int) + o) = ts.map (fun t : Nat => (t : Int))) (h3 : (pc : Int) + dflt = (td : Int))
    (kk : allc (fun t => X cx z ws lv t st) x lo0 ts) (kd : (∀ j : Nat, j < ts.length → ¬ x.toInt = ((lo0 + j : Nat) : Int)) → X cx z ws lv td st) : X cx z ws lv pc (.int x :: st) := by
  by_cases hj : ∃ j : Nat, j < ts.length ∧ x.toInt = ((lo0 + j : Nat) : Int)
  · obtain ⟨j, hj, hxj⟩ := hj
    obtain ⟨t, ht⟩ : ∃ t, ts[j]? = some t := ⟨_, List.getElem?_eq_getElem hj⟩
    have hk := allc_at _ x ts lo0 kk j t ht hxj
    obtain ⟨p, l, e, R, s, m, args, below, meth, c, Inv, G, Q, n⟩ := cx
    obtain ⟨hx, hb, hml, hnn, hown, hts, hK, hI0, hR, hlocks⟩ := C
    intro H locs hI ls hl
    have ho : (offs.toList.map (fun o : Int => (pc : Int) + o))[j]? = some (t : Int) := by rw [h2, List.getElem?_map, ht]; rfl
    rw [List.getElem?_map] at ho
    cases hoj : offs.toList[j]? with
    | none => rw [hoj] at ho; cases ho
    | some o =>
      rw [hoj] at ho
      have hoo : (pc : Int) + o = (t : Int) := Option.some.inj ho
      refine lv_tableIn hx hb hd (by omega) (by omega) (off := o) ?_ hoo (hk H locs hI ls hl)
      have e9 : (x.toInt - lo).toNat = j := by omega
      rw [e9, ← Array.getElem?_toList]
      exact hoj
  · have hn : ∀ j : Nat, j < ts.length → ¬ x.toInt = ((lo0 + j : Nat) : Int) := fun j h1 h2 => hj ⟨j, h1, h2⟩
    have hk := kd hn
    obtain ⟨p, l, e, R, s, m, args, below, meth, c, Inv, G, Q, n⟩ := cx
    obtain ⟨hx, hb, hml, hnn, hown, hts, hK, hI0, hR, hlocks⟩ := C
    intro H locs hI ls hl
    refine lv_tableOut hx hb hd ?_ h3 (hk H locs hI ls hl)
    by_cases h : x.toInt < lo
    · exact Or.inl h
    · refine Or.inr ?_
      by_cases g : hi < x.toInt
      · exact g
      · exact absurd (by omega) (hn (x.toInt - lo).toNat (by omega))
end XTSW

theorem i_kX6_doThing_X6 : ∀ w ∈ u_ws RX6 TX6 9, w ∈ wsX6_doThing := by decide +kernel
theorem m_kX6_doThing_1 : (Cond.fieldLink RX6 39 "LampRacks" "text" "LLampRacks$Text;" : Cond) ∈ wsX6_doThing := by decide +kernel
theorem i_kX6_doThing_X5 : ∀ w ∈ u_ws RX5 TX5 10, w ∈ wsX6_doThing := by decide +kernel
theorem m_kX6_doThing_3 : (Cond.fieldLink RX6 212 "LampRacks$Text" "kind" "I" : Cond) ∈ wsX6_doThing := by decide +kernel
theorem m_kX6_doThing_4 : (Cond.fieldLink RX6 10 "LampRacks" "now" "LLampRacks$State;" : Cond) ∈ wsX6_doThing := by decide +kernel
theorem m_kX6_doThing_5 : (Cond.fieldLink RX6 215 "LampRacks$Text" "rack" "I" : Cond) ∈ wsX6_doThing := by decide +kernel
theorem m_kX6_doThing_6 : (Cond.fieldLink RX6 218 "LampRacks$Text" "place" "I" : Cond) ∈ wsX6_doThing := by decide +kernel
theorem m_kX6_doThing_7 : (Cond.fieldLink RX6 221 "LampRacks$Text" "number" "I" : Cond) ∈ wsX6_doThing := by decide +kernel
theorem m_kX6_doThing_8 : (Cond.fieldLink RX6 224 "LampRacks$Text" "hours" "I" : Cond) ∈ wsX6_doThing := by decide +kernel
theorem m_kX6_doThing_9 : (Cond.fieldLink RX6 227 "LampRacks$Text" "direction" "I" : Cond) ∈ wsX6_doThing := by decide +kernel
set_option maxRecDepth 100000 in
set_option maxHeartbeats 4000000 in
theorem kX6_doThing (l : Launch) (G : GG) (x0 : Nat) (h0 : Nat) (t0 : Nat) (tq : Nat) (ln : Nat) (nw : Nat → Nat) (bf : Nat → Nat) (ah : Nat → Nat) (sn : Nat → Nat) (hk : Int32) (s1 : Int32) (s2 : Int32) (f : Nat → Int32) (th : Int32) (T : TX) (N : SC) (hok : okS N) : MU l G yX6_doThing wsX6_doThing ({ frames := 6, cells := 0, slots := 0, locals := 140 } : Room) [.ref x0] [(x0, .inr (6, [.ref (nw 0), .ref (bf 0), .ref (ah 0), .ref (sn 0), .int hk, .ref h0, .ref t0, .int s1, .int s2])), (t0, .inr (5, [.int (nI ln), .ref tq, .int (nI (tP T)), .int th, .int (tK T), .int (tR T), .int (tL T), .int (tH T), .int (tD T), .int (tN T)])), (tq, .inl (G.2.2.1, 60, .inl f)), (nw 0, .inr (4, [.int (sHr N), .int (sWv N), .int (sDv N), .ref (nw 1), .ref (nw 2), .ref (nw 3)])), (nw 1, .inr (0, [.ref (nw 4), .ref (nw 5)])), (nw 2, .inr (2, [.int (nI (sN N)), .ref (nw 6), .ref (nw 7), .ref (nw 8), .ref (nw 9), .ref (nw 10), .ref (nw 11)])), (nw 3, .inr (3, [.ref (nw 12), .ref (nw 13), .ref (nw 14), .ref (nw 15), .ref (nw 16)])), (nw 4, .inl (G.2.1, 6, .inl (sA N 0))), (nw 5, .inl (G.2.1, 6, .inl (sA N 1))), (nw 6, .inl (G.2.1, 60, .inl (sA N 2))), (nw 7, .inl (G.2.1, 60, .inl (sA N 3))), (nw 8, .inl (G.2.1, 60, .inl (sA N 4))), (nw 9, .inl (G.2.1, 60, .inl (sA N 5))), (nw 10, .inl (G.2.1, 60, .inl (sA N 6))), (nw 11, .inl (G.2.1, 60, .inl (sA N 7))), (nw 12, .inl (G.2.1, 24, .inl (sA N 8))), (nw 13, .inl (G.2.1, 3, .inl (sA N 9))), (nw 14, .inl (G.2.1, 3, .inl (sA N 10))), (nw 15, .inl (G.2.1, 3, .inl (sA N 11))), (nw 16, .inl (G.2.1, 3, .inl (sA N 12)))] (some (.int ((doTh N T).1))) [(x0, .inr (6, [.ref (nw 0), .ref (bf 0), .ref (ah 0), .ref (sn 0), .int hk, .ref h0, .ref t0, .int s1, .int s2])), (t0, .inr (5, [.int (nI ln), .ref tq, .int (nI (tP T)), .int th, .int (tK T), .int (tR T), .int (tL T), .int (tH T), .int (tD T), .int (tN T)])), (tq, .inl (G.2.2.1, 60, .inl f)), (nw 0, .inr (4, [.int (sHr ((doTh N T).2)), .int (sWv ((doTh N T).2)), .int (sDv ((doTh N T).2)), .ref (nw 1), .ref (nw 2), .ref (nw 3)])), (nw 1, .inr (0, [.ref (nw 4), .ref (nw 5)])), (nw 2, .inr (2, [.int (nI (sN ((doTh N T).2))), .ref (nw 6), .ref (nw 7), .ref (nw 8), .ref (nw 9), .ref (nw 10), .ref (nw 11)])), (nw 3, .inr (3, [.ref (nw 12), .ref (nw 13), .ref (nw 14), .ref (nw 15), .ref (nw 16)])), (nw 4, .inl (G.2.1, 6, .inl (sA ((doTh N T).2) 0))), (nw 5, .inl (G.2.1, 6, .inl (sA ((doTh N T).2) 1))), (nw 6, .inl (G.2.1, 60, .inl (sA ((doTh N T).2) 2))), (nw 7, .inl (G.2.1, 60, .inl (sA ((doTh N T).2) 3))), (nw 8, .inl (G.2.1, 60, .inl (sA ((doTh N T).2) 4))), (nw 9, .inl (G.2.1, 60, .inl (sA ((doTh N T).2) 5))), (nw 10, .inl (G.2.1, 60, .inl (sA ((doTh N T).2) 6))), (nw 11, .inl (G.2.1, 60, .inl (sA ((doTh N T).2) 7))), (nw 12, .inl (G.2.1, 24, .inl (sA ((doTh N T).2) 8))), (nw 13, .inl (G.2.1, 3, .inl (sA ((doTh N T).2) 9))), (nw 14, .inl (G.2.1, 3, .inl (sA ((doTh N T).2) 10))), (nw 15, .inl (G.2.1, 3, .inl (sA ((doTh N T).2) 11))), (nw 16, .inl (G.2.1, 3, .inl (sA ((doTh N T).2) 12)))] := by
  refine MU.of (cc := cX6_doThing) (maxL := 1) (ret := (some .int)) (by decide) rfl (Nat.le_of_ble_eq_true rfl) ?_
  intro cx hxl hxG C M E
  subst hxl
  subst hxG
  show X cx (0, 0) [(x0, .inr (6, [.ref (nw 0), .ref (bf 0), .ref (ah 0), .ref (sn 0), .int hk, .ref h0, .ref t0, .int s1, .int s2])), (t0, .inr (5, [.int (nI ln), .ref tq, .int (nI (tP T)), .int th, .int (tK T), .int (tR T), .int (tL T), .int (tH T), .int (tD T), .int (tN T)])), (tq, .inl ((xG cx).2.2.1, 60, .inl f)), (nw 0, .inr (4, [.int (sHr N), .int (sWv N), .int (sDv N), .ref (nw 1), .ref (nw 2), .ref (nw 3)])), (nw 1, .inr (0, [.ref (nw 4), .ref (nw 5)])), (nw 2, .inr (2, [.int (nI (sN N)), .ref (nw 6), .ref (nw 7), .ref (nw 8), .ref (nw 9), .ref (nw 10), .ref (nw 11)])), (nw 3, .inr (3, [.ref (nw 12), .ref (nw 13), .ref (nw 14), .ref (nw 15), .ref (nw 16)])), (nw 4, .inl ((xG cx).2.1, 6, .inl (sA N 0))), (nw 5, .inl ((xG cx).2.1, 6, .inl (sA N 1))), (nw 6, .inl ((xG cx).2.1, 60, .inl (sA N 2))), (nw 7, .inl ((xG cx).2.1, 60, .inl (sA N 3))), (nw 8, .inl ((xG cx).2.1, 60, .inl (sA N 4))), (nw 9, .inl ((xG cx).2.1, 60, .inl (sA N 5))), (nw 10, .inl ((xG cx).2.1, 60, .inl (sA N 6))), (nw 11, .inl ((xG cx).2.1, 60, .inl (sA N 7))), (nw 12, .inl ((xG cx).2.1, 24, .inl (sA N 8))), (nw 13, .inl ((xG cx).2.1, 3, .inl (sA N 9))), (nw 14, .inl ((xG cx).2.1, 3, .inl (sA N 10))), (nw 15, .inl ((xG cx).2.1, 3, .inl (sA N 11))), (nw 16, .inl ((xG cx).2.1, 3, .inl (sA N 12)))] [(0, .ref x0)] 0 []
  refine x_aload_n C 0 dX6_doThing_0 rfl rfl ?_
  refine x_getf C 0 rfl rfl i_kX6_doThing_X6 6 (by decide) m_kX6_doThing_1 rfl rfl dX6_doThing_1 ?_
  refine x_getf C 1 rfl rfl i_kX6_doThing_X5 4 (by decide) m_kX6_doThing_3 rfl rfl dX6_doThing_4 ?_
  refine x_tswL 112 C dX6_doThing_7 [48, 158, 158, 121, 77, 158, 99] 158 (by decide) (by decide) (by decide) ⟨fun c_7 => ?_, fun c_7 => ?_, fun c_7 => ?_, fun c_7 => ?_, fun c_7 => ?_, fun c_7 => ?_, fun c_7 => ?_, trivial⟩ (fun c_7 => ?_)
  ·
    have k_112 : tK T = 112 := Int32.toInt_inj.mp (by rw [c_7]; rfl)
    refine x_aload_n C 0 dX6_doThing_48 rfl rfl ?_
    refine x_getf C 0 rfl rfl i_kX6_doThing_X6 0 (by decide) m_kX6_doThing_4 rfl rfl dX6_doThing_49 ?_
    refine x_aload_n C 0 dX6_doThing_52 rfl rfl ?_
    refine x_getf C 0 rfl rfl i_kX6_doThing_X6 6 (by decide) m_kX6_doThing_1 rfl rfl dX6_doThing_53 ?_
    refine x_getf C 1 rfl rfl i_kX6_doThing_X5 5 (by decide) m_kX6_doThing_5 rfl rfl dX6_doThing_56 ?_
    refine x_aload_n C 0 dX6_doThing_59 rfl rfl ?_
    refine x_getf C 0 rfl rfl i_kX6_doThing_X6 6 (by decide) m_kX6_doThing_1 rfl rfl dX6_doThing_60 ?_
    refine x_getf C 1 rfl rfl i_kX6_doThing_X5 6 (by decide) m_kX6_doThing_6 rfl rfl dX6_doThing_63 ?_
    refine x_aload_n C 0 dX6_doThing_66 rfl rfl ?_
    refine x_getf C 0 rfl rfl i_kX6_doThing_X6 6 (by decide) m_kX6_doThing_1 rfl rfl dX6_doThing_67 ?_
    refine x_getf C 1 rfl rfl i_kX6_doThing_X5 9 (by decide) m_kX6_doThing_7 rfl rfl dX6_doThing_70 ?_
    refine x_callVMU C ([.int (tR T), .int (tL T), .int (tN T)]) ([]) [3, 4, 5, 6, 7, 8, 9, 10, 11, 12, 13, 14, 15, 16, 17, 18, 19] [(x0, .inr (6, [.ref (nw 0), .ref (bf 0), .ref (ah 0), .ref (sn 0), .int hk, .ref h0, .ref t0, .int s1, .int s2])), (t0, .inr (5, [.int (nI ln), .ref tq, .int (nI (tP T)), .int th, .int (tK T), .int (tR T), .int (tL T), .int (tH T), .int (tD T), .int (tN T)])), (tq, .inl ((xG cx).2.2.1, 60, .inl f)), (nw 0, .inr (4, [.int (sHr ((insS N (tR T) (tL T) (tN T)).2)), .int (sWv ((insS N (tR T) (tL T) (tN T)).2)), .int (sDv ((insS N (tR T) (tL T) (tN T)).2)), .ref (nw 1), .ref (nw 2), .ref (nw 3)])), (nw 1, .inr (0, [.ref (nw 4), .ref (nw 5)])), (nw 2, .inr (2, [.int (nI (sN ((insS N (tR T) (tL T) (tN T)).2))), .ref (nw 6), .ref (nw 7), .ref (nw 8), .ref (nw 9), .ref (nw 10), .ref (nw 11)])), (nw 3, .inr (3, [.ref (nw 12), .ref (nw 13), .ref (nw 14), .ref (nw 15), .ref (nw 16)])), (nw 4, .inl ((xG cx).2.1, 6, .inl (sA ((insS N (tR T) (tL T) (tN T)).2) 0))), (nw 5, .inl ((xG cx).2.1, 6, .inl (sA ((insS N (tR T) (tL T) (tN T)).2) 1))), (nw 6, .inl ((xG cx).2.1, 60, .inl (sA ((insS N (tR T) (tL T) (tN T)).2) 2))), (nw 7, .inl ((xG cx).2.1, 60, .inl (sA ((insS N (tR T) (tL T) (tN T)).2) 3))), (nw 8, .inl ((xG cx).2.1, 60, .inl (sA ((insS N (tR T) (tL T) (tN T)).2) 4))), (nw 9, .inl ((xG cx).2.1, 60, .inl (sA ((insS N (tR T) (tL T) (tN T)).2) 5))), (nw 10, .inl ((xG cx).2.1, 60, .inl (sA ((insS N (tR T) (tL T) (tN T)).2) 6))), (nw 11, .inl ((xG cx).2.1, 60, .inl (sA ((insS N (tR T) (tL T) (tN T)).2) 7))), (nw 12, .inl ((xG cx).2.1, 24, .inl (sA ((insS N (tR T) (tL T) (tN T)).2) 8))), (nw 13, .inl ((xG cx).2.1, 3, .inl (sA ((insS N (tR T) (tL T) (tN T)).2) 9))), (nw 14, .inl ((xG cx).2.1, 3, .inl (sA ((insS N (tR T) (tL T) (tN T)).2) 10))), (nw 15, .inl ((xG cx).2.1, 3, .inl (sA ((insS N (tR T) (tL T) (tN T)).2) 11))), (nw 16, .inl ((xG cx).2.1, 3, .inl (sA ((insS N (tR T) (tL T) (tN T)).2) 12)))] [0, 1, 2] [x0, t0, tq, nw 0, nw 1, nw 2, nw 3, nw 4, nw 5, nw 6, nw 7, nw 8, nw 9, nw 10, nw 11, nw 12, nw 13, nw 14, nw 15, nw 16] rfl rfl [(x0, .inr (6, [.ref (nw 0), .ref (bf 0), .ref (ah 0), .ref (sn 0), .int hk, .ref h0, .ref t0, .int s1, .int s2])), (t0, .inr (5, [.int (nI ln), .ref tq, .int (nI (tP T)), .int th, .int (tK T), .int (tR T), .int (tL T), .int (tH T), .int (tD T), .int (tN T)])), (tq, .inl ((xG cx).2.2.1, 60, .inl f))] rfl rfl 20 rfl (by decide +kernel) rfl (k0 := 0) (na := 3) gX6_doThing_X4_insertLamp rfl (by decide +kernel) rfl rfl rfl M (kX4_insertLamp (xl cx) (xG cx) nw N (tR T) (tL T) (tN T) (by first | assumption | rfl | omega | decide)) rfl (by decide) rfl rfl rfl ⟨by decide, by decide⟩ (Nat.le_of_ble_eq_true rfl) ⟨by decide, by decide⟩ dX6_doThing_73 ?_
    generalize e_Q : insS N (tR T) (tL T) (tN T) = Q
    exact x_iret C E dX6_doThing_76 (by rw [show doTh N T = Q from (by rw [← e_Q]; unfold doTh; simp [k_112])]) (by rw [show doTh N T = Q from (by rw [← e_Q]; unfold doTh; simp [k_112])])
  ·
    have kd : doTh N T = lpS N (tN T) := do_else (by first | exact Or.inl (Int32.toInt_inj.mp (by rw [c_7]; rfl)) | exact Or.inr (Or.inl (Int32.toInt_inj.mp (by rw [c_7]; rfl))) | exact Or.inr (Or.inr (Int32.toInt_inj.mp (by rw [c_7]; rfl))))
    refine x_aload_n C 0 dX6_doThing_158 rfl rfl ?_
    refine x_getf C 0 rfl rfl i_kX6_doThing_X6 0 (by decide) m_kX6_doThing_4 rfl rfl dX6_doThing_159 ?_
    refine x_aload_n C 0 dX6_doThing_162 rfl rfl ?_
    refine x_getf C 0 rfl rfl i_kX6_doThing_X6 6 (by decide) m_kX6_doThing_1 rfl rfl dX6_doThing_163 ?_
    refine x_getf C 1 rfl rfl i_kX6_doThing_X5 9 (by decide) m_kX6_doThing_7 rfl rfl dX6_doThing_166 ?_
    refine x_callVMU C ([.int (tN T)]) ([]) [3, 4, 5, 6, 7, 8, 9, 10, 11, 12, 13, 14, 15, 16, 17, 18, 19] [(x0, .inr (6, [.ref (nw 0), .ref (bf 0), .ref (ah 0), .ref (sn 0), .int hk, .ref h0, .ref t0, .int s1, .int s2])), (t0, .inr (5, [.int (nI ln), .ref tq, .int (nI (tP T)), .int th, .int (tK T), .int (tR T), .int (tL T), .int (tH T), .int (tD T), .int (tN T)])), (tq, .inl ((xG cx).2.2.1, 60, .inl f)), (nw 0, .inr (4, [.int (sHr ((lpS N (tN T)).2)), .int (sWv ((lpS N (tN T)).2)), .int (sDv ((lpS N (tN T)).2)), .ref (nw 1), .ref (nw 2), .ref (nw 3)])), (nw 1, .inr (0, [.ref (nw 4), .ref (nw 5)])), (nw 2, .inr (2, [.int (nI (sN ((lpS N (tN T)).2))), .ref (nw 6), .ref (nw 7), .ref (nw 8), .ref (nw 9), .ref (nw 10), .ref (nw 11)])), (nw 3, .inr (3, [.ref (nw 12), .ref (nw 13), .ref (nw 14), .ref (nw 15), .ref (nw 16)])), (nw 4, .inl ((xG cx).2.1, 6, .inl (sA ((lpS N (tN T)).2) 0))), (nw 5, .inl ((xG cx).2.1, 6, .inl (sA ((lpS N (tN T)).2) 1))), (nw 6, .inl ((xG cx).2.1, 60, .inl (sA ((lpS N (tN T)).2) 2))), (nw 7, .inl ((xG cx).2.1, 60, .inl (sA ((lpS N (tN T)).2) 3))), (nw 8, .inl ((xG cx).2.1, 60, .inl (sA ((lpS N (tN T)).2) 4))), (nw 9, .inl ((xG cx).2.1, 60, .inl (sA ((lpS N (tN T)).2) 5))), (nw 10, .inl ((xG cx).2.1, 60, .inl (sA ((lpS N (tN T)).2) 6))), (nw 11, .inl ((xG cx).2.1, 60, .inl (sA ((lpS N (tN T)).2) 7))), (nw 12, .inl ((xG cx).2.1, 24, .inl (sA ((lpS N (tN T)).2) 8))), (nw 13, .inl ((xG cx).2.1, 3, .inl (sA ((lpS N (tN T)).2) 9))), (nw 14, .inl ((xG cx).2.1, 3, .inl (sA ((lpS N (tN T)).2) 10))), (nw 15, .inl ((xG cx).2.1, 3, .inl (sA ((lpS N (tN T)).2) 11))), (nw 16, .inl ((xG cx).2.1, 3, .inl (sA ((lpS N (tN T)).2) 12)))] [0, 1, 2] [x0, t0, tq, nw 0, nw 1, nw 2, nw 3, nw 4, nw 5, nw 6, nw 7, nw 8, nw 9, nw 10, nw 11, nw 12, nw 13, nw 14, nw 15, nw 16] rfl rfl [(x0, .inr (6, [.ref (nw 0), .ref (bf 0), .ref (ah 0), .ref (sn 0), .int hk, .ref h0, .ref t0, .int s1, .int s2])), (t0, .inr (5, [.int (nI ln), .ref tq, .int (nI (tP T)), .int th, .int (tK T), .int (tR T), .int (tL T), .int (tH T), .int (tD T), .int (tN T)])), (tq, .inl ((xG cx).2.2.1, 60, .inl f))] rfl rfl 20 rfl (by decide +kernel) rfl (k0 := 0) (na := 1) gX6_doThing_X4_letPass rfl (by decide +kernel) rfl rfl rfl M (kX4_letPass (xl cx) (xG cx) nw N (tN T) (by first | assumption | rfl | omega | decide)) rfl (by decide) rfl rfl rfl ⟨by decide, by decide⟩ (Nat.le_of_ble_eq_true rfl) ⟨by decide, by decide⟩ dX6_doThing_169 ?_
    generalize e_Q : lpS N (tN T) = Q
    exact x_iret C E dX6_doThing_172 (by rw [show doTh N T = Q from kd.trans e_Q]) (by rw [show doTh N T = Q from kd.trans e_Q])
  ·
    have kd : doTh N T = lpS N (tN T) := do_else (by first | exact Or.inl (Int32.toInt_inj.mp (by rw [c_7]; rfl)) | exact Or.inr (Or.inl (Int32.toInt_inj.mp (by rw [c_7]; rfl))) | exact Or.inr (Or.inr (Int32.toInt_inj.mp (by rw [c_7]; rfl))))
    refine x_aload_n C 0 dX6_doThing_158 rfl rfl ?_
    refine x_getf C 0 rfl rfl i_kX6_doThing_X6 0 (by decide) m_kX6_doThing_4 rfl rfl dX6_doThing_159 ?_
    refine x_aload_n C 0 dX6_doThing_162 rfl rfl ?_
    refine x_getf C 0 rfl rfl i_kX6_doThing_X6 6 (by decide) m_kX6_doThing_1 rfl rfl dX6_doThing_163 ?_
    refine x_getf C 1 rfl rfl i_kX6_doThing_X5 9 (by decide) m_kX6_doThing_7 rfl rfl dX6_doThing_166 ?_
    refine x_callVMU C ([.int (tN T)]) ([]) [3, 4, 5, 6, 7, 8, 9, 10, 11, 12, 13, 14, 15, 16, 17, 18, 19] [(x0, .inr (6, [.ref (nw 0), .ref (bf 0), .ref (ah 0), .ref (sn 0), .int hk, .ref h0, .ref t0, .int s1, .int s2])), (t0, .inr (5, [.int (nI ln), .ref tq, .int (nI (tP T)), .int th, .int (tK T), .int (tR T), .int (tL T), .int (tH T), .int (tD T), .int (tN T)])), (tq, .inl ((xG cx).2.2.1, 60, .inl f)), (nw 0, .inr (4, [.int (sHr ((lpS N (tN T)).2)), .int (sWv ((lpS N (tN T)).2)), .int (sDv ((lpS N (tN T)).2)), .ref (nw 1), .ref (nw 2), .ref (nw 3)])), (nw 1, .inr (0, [.ref (nw 4), .ref (nw 5)])), (nw 2, .inr (2, [.int (nI (sN ((lpS N (tN T)).2))), .ref (nw 6), .ref (nw 7), .ref (nw 8), .ref (nw 9), .ref (nw 10), .ref (nw 11)])), (nw 3, .inr (3, [.ref (nw 12), .ref (nw 13), .ref (nw 14), .ref (nw 15), .ref (nw 16)])), (nw 4, .inl ((xG cx).2.1, 6, .inl (sA ((lpS N (tN T)).2) 0))), (nw 5, .inl ((xG cx).2.1, 6, .inl (sA ((lpS N (tN T)).2) 1))), (nw 6, .inl ((xG cx).2.1, 60, .inl (sA ((lpS N (tN T)).2) 2))), (nw 7, .inl ((xG cx).2.1, 60, .inl (sA ((lpS N (tN T)).2) 3))), (nw 8, .inl ((xG cx).2.1, 60, .inl (sA ((lpS N (tN T)).2) 4))), (nw 9, .inl ((xG cx).2.1, 60, .inl (sA ((lpS N (tN T)).2) 5))), (nw 10, .inl ((xG cx).2.1, 60, .inl (sA ((lpS N (tN T)).2) 6))), (nw 11, .inl ((xG cx).2.1, 60, .inl (sA ((lpS N (tN T)).2) 7))), (nw 12, .inl ((xG cx).2.1, 24, .inl (sA ((lpS N (tN T)).2) 8))), (nw 13, .inl ((xG cx).2.1, 3, .inl (sA ((lpS N (tN T)).2) 9))), (nw 14, .inl ((xG cx).2.1, 3, .inl (sA ((lpS N (tN T)).2) 10))), (nw 15, .inl ((xG cx).2.1, 3, .inl (sA ((lpS N (tN T)).2) 11))), (nw 16, .inl ((xG cx).2.1, 3, .inl (sA ((lpS N (tN T)).2) 12)))] [0, 1, 2] [x0, t0, tq, nw 0, nw 1, nw 2, nw 3, nw 4, nw 5, nw 6, nw 7, nw 8, nw 9, nw 10, nw 11, nw 12, nw 13, nw 14, nw 15, nw 16] rfl rfl [(x0, .inr (6, [.ref (nw 0), .ref (bf 0), .ref (ah 0), .ref (sn 0), .int hk, .ref h0, .ref t0, .int s1, .int s2])), (t0, .inr (5, [.int (nI ln), .ref tq, .int (nI (tP T)), .int th, .int (tK T), .int (tR T), .int (tL T), .int (tH T), .int (tD T), .int (tN T)])), (tq, .inl ((xG cx).2.2.1, 60, .inl f))] rfl rfl 20 rfl (by decide +kernel) rfl (k0 := 0) (na := 1) gX6_doThing_X4_letPass rfl (by decide +kernel) rfl rfl rfl M (kX4_letPass (xl cx) (xG cx) nw N (tN T) (by first | assumption | rfl | omega | decide)) rfl (by decide) rfl rfl rfl ⟨by decide, by decide⟩ (Nat.le_of_ble_eq_true rfl) ⟨by decide, by decide⟩ dX6_doThing_169 ?_
    generalize e_Q : lpS N (tN T) = Q
    exact x_iret C E dX6_doThing_172 (by rw [show doTh N T = Q from kd.trans e_Q]) (by rw [show doTh N T = Q from kd.trans e_Q])
  ·
    have k_115 : tK T = 115 := Int32.toInt_inj.mp (by rw [c_7]; rfl)
    refine x_aload_n C 0 dX6_doThing_121 rfl rfl ?_
    refine x_getf C 0 rfl rfl i_kX6_doThing_X6 0 (by decide) m_kX6_doThing_4 rfl rfl dX6_doThing_122 ?_
    refine x_aload_n C 0 dX6_doThing_125 rfl rfl ?_
    refine x_getf C 0 rfl rfl i_kX6_doThing_X6 6 (by decide) m_kX6_doThing_1 rfl rfl dX6_doThing_126 ?_
    refine x_getf C 1 rfl rfl i_kX6_doThing_X5 5 (by decide) m_kX6_doThing_5 rfl rfl dX6_doThing_129 ?_
    refine x_aload_n C 0 dX6_doThing_132 rfl rfl ?_
    refine x_getf C 0 rfl rfl i_kX6_doThing_X6 6 (by decide) m_kX6_doThing_1 rfl rfl dX6_doThing_133 ?_
    refine x_getf C 1 rfl rfl i_kX6_doThing_X5 7 (by decide) m_kX6_doThing_8 rfl rfl dX6_doThing_136 ?_
    refine x_aload_n C 0 dX6_doThing_139 rfl rfl ?_
    refine x_getf C 0 rfl rfl i_kX6_doThing_X6 6 (by decide) m_kX6_doThing_1 rfl rfl dX6_doThing_140 ?_
    refine x_getf C 1 rfl rfl i_kX6_doThing_X5 8 (by decide) m_kX6_doThing_9 rfl rfl dX6_doThing_143 ?_
    refine x_aload_n C 0 dX6_doThing_146 rfl rfl ?_
    refine x_getf C 0 rfl rfl i_kX6_doThing_X6 6 (by decide) m_kX6_doThing_1 rfl rfl dX6_doThing_147 ?_
    refine x_getf C 1 rfl rfl i_kX6_doThing_X5 9 (by decide) m_kX6_doThing_7 rfl rfl dX6_doThing_150 ?_
    refine x_imul C (rfl) dX6_doThing_153 ?_
    refine x_callVMU C ([.int (tR T), .int (tH T), .int ((tD T) * (tN T))]) ([]) [3, 4, 5, 6, 7, 8, 9, 10, 11, 12, 13, 14, 15, 16, 17, 18, 19] [(x0, .inr (6, [.ref (nw 0), .ref (bf 0), .ref (ah 0), .ref (sn 0), .int hk, .ref h0, .ref t0, .int s1, .int s2])), (t0, .inr (5, [.int (nI ln), .ref tq, .int (nI (tP T)), .int th, .int (tK T), .int (tR T), .int (tL T), .int (tH T), .int (tD T), .int (tN T)])), (tq, .inl ((xG cx).2.2.1, 60, .inl f)), (nw 0, .inr (4, [.int (sHr ((chSteps N (tR T) (tH T) ((tD T) * (tN T))).2)), .int (sWv ((chSteps N (tR T) (tH T) ((tD T) * (tN T))).2)), .int (sDv ((chSteps N (tR T) (tH T) ((tD T) * (tN T))).2)), .ref (nw 1), .ref (nw 2), .ref (nw 3)])), (nw 1, .inr (0, [.ref (nw 4), .ref (nw 5)])), (nw 2, .inr (2, [.int (nI (sN ((chSteps N (tR T) (tH T) ((tD T) * (tN T))).2))), .ref (nw 6), .ref (nw 7), .ref (nw 8), .ref (nw 9), .ref (nw 10), .ref (nw 11)])), (nw 3, .inr (3, [.ref (nw 12), .ref (nw 13), .ref (nw 14), .ref (nw 15), .ref (nw 16)])), (nw 4, .inl ((xG cx).2.1, 6, .inl (sA ((chSteps N (tR T) (tH T) ((tD T) * (tN T))).2) 0))), (nw 5, .inl ((xG cx).2.1, 6, .inl (sA ((chSteps N (tR T) (tH T) ((tD T) * (tN T))).2) 1))), (nw 6, .inl ((xG cx).2.1, 60, .inl (sA ((chSteps N (tR T) (tH T) ((tD T) * (tN T))).2) 2))), (nw 7, .inl ((xG cx).2.1, 60, .inl (sA ((chSteps N (tR T) (tH T) ((tD T) * (tN T))).2) 3))), (nw 8, .inl ((xG cx).2.1, 60, .inl (sA ((chSteps N (tR T) (tH T) ((tD T) * (tN T))).2) 4))), (nw 9, .inl ((xG cx).2.1, 60, .inl (sA ((chSteps N (tR T) (tH T) ((tD T) * (tN T))).2) 5))), (nw 10, .inl ((xG cx).2.1, 60, .inl (sA ((chSteps N (tR T) (tH T) ((tD T) * (tN T))).2) 6))), (nw 11, .inl ((xG cx).2.1, 60, .inl (sA ((chSteps N (tR T) (tH T) ((tD T) * (tN T))).2) 7))), (nw 12, .inl ((xG cx).2.1, 24, .inl (sA ((chSteps N (tR T) (tH T) ((tD T) * (tN T))).2) 8))), (nw 13, .inl ((xG cx).2.1, 3, .inl (sA ((chSteps N (tR T) (tH T) ((tD T) * (tN T))).2) 9))), (nw 14, .inl ((xG cx).2.1, 3, .inl (sA ((chSteps N (tR T) (tH T) ((tD T) * (tN T))).2) 10))), (nw 15, .inl ((xG cx).2.1, 3, .inl (sA ((chSteps N (tR T) (tH T) ((tD T) * (tN T))).2) 11))), (nw 16, .inl ((xG cx).2.1, 3, .inl (sA ((chSteps N (tR T) (tH T) ((tD T) * (tN T))).2) 12)))] [0, 1, 2] [x0, t0, tq, nw 0, nw 1, nw 2, nw 3, nw 4, nw 5, nw 6, nw 7, nw 8, nw 9, nw 10, nw 11, nw 12, nw 13, nw 14, nw 15, nw 16] rfl rfl [(x0, .inr (6, [.ref (nw 0), .ref (bf 0), .ref (ah 0), .ref (sn 0), .int hk, .ref h0, .ref t0, .int s1, .int s2])), (t0, .inr (5, [.int (nI ln), .ref tq, .int (nI (tP T)), .int th, .int (tK T), .int (tR T), .int (tL T), .int (tH T), .int (tD T), .int (tN T)])), (tq, .inl ((xG cx).2.2.1, 60, .inl f))] rfl rfl 20 rfl (by decide +kernel) rfl (k0 := 0) (na := 3) gX6_doThing_X4_changeSteps rfl (by decide +kernel) rfl rfl rfl M (kX4_changeSteps (xl cx) (xG cx) nw N (tR T) (tH T) ((tD T) * (tN T))) rfl (by decide) rfl rfl rfl ⟨by decide, by decide⟩ (Nat.le_of_ble_eq_true rfl) ⟨by decide, by decide⟩ dX6_doThing_154 ?_
    generalize e_Q : chSteps N (tR T) (tH T) ((tD T) * (tN T)) = Q
    exact x_iret C E dX6_doThing_157 (by rw [show doTh N T = Q from (by rw [← e_Q]; unfold doTh; simp [k_115])]) (by rw [show doTh N T = Q from (by rw [← e_Q]; unfold doTh; simp [k_115])])
  ·
    have k_116 : tK T = 116 := Int32.toInt_inj.mp (by rw [c_7]; rfl)
    refine x_aload_n C 0 dX6_doThing_77 rfl rfl ?_
    refine x_getf C 0 rfl rfl i_kX6_doThing_X6 0 (by decide) m_kX6_doThing_4 rfl rfl dX6_doThing_78 ?_
    refine x_aload_n C 0 dX6_doThing_81 rfl rfl ?_
    refine x_getf C 0 rfl rfl i_kX6_doThing_X6 6 (by decide) m_kX6_doThing_1 rfl rfl dX6_doThing_82 ?_
    refine x_getf C 1 rfl rfl i_kX6_doThing_X5 5 (by decide) m_kX6_doThing_5 rfl rfl dX6_doThing_85 ?_
    refine x_aload_n C 0 dX6_doThing_88 rfl rfl ?_
    refine x_getf C 0 rfl rfl i_kX6_doThing_X6 6 (by decide) m_kX6_doThing_1 rfl rfl dX6_doThing_89 ?_
    refine x_getf C 1 rfl rfl i_kX6_doThing_X5 6 (by decide) m_kX6_doThing_6 rfl rfl dX6_doThing_92 ?_
    refine x_callVMU C ([.int (tR T), .int (tL T)]) ([]) [3, 4, 5, 6, 7, 8, 9, 10, 11, 12, 13, 14, 15, 16, 17, 18, 19] [(x0, .inr (6, [.ref (nw 0), .ref (bf 0), .ref (ah 0), .ref (sn 0), .int hk, .ref h0, .ref t0, .int s1, .int s2])), (t0, .inr (5, [.int (nI ln), .ref tq, .int (nI (tP T)), .int th, .int (tK T), .int (tR T), .int (tL T), .int (tH T), .int (tD T), .int (tN T)])), (tq, .inl ((xG cx).2.2.1, 60, .inl f)), (nw 0, .inr (4, [.int (sHr ((rmS N (tR T) (tL T)).2)), .int (sWv ((rmS N (tR T) (tL T)).2)), .int (sDv ((rmS N (tR T) (tL T)).2)), .ref (nw 1), .ref (nw 2), .ref (nw 3)])), (nw 1, .inr (0, [.ref (nw 4), .ref (nw 5)])), (nw 2, .inr (2, [.int (nI (sN ((rmS N (tR T) (tL T)).2))), .ref (nw 6), .ref (nw 7), .ref (nw 8), .ref (nw 9), .ref (nw 10), .ref (nw 11)])), (nw 3, .inr (3, [.ref (nw 12), .ref (nw 13), .ref (nw 14), .ref (nw 15), .ref (nw 16)])), (nw 4, .inl ((xG cx).2.1, 6, .inl (sA ((rmS N (tR T) (tL T)).2) 0))), (nw 5, .inl ((xG cx).2.1, 6, .inl (sA ((rmS N (tR T) (tL T)).2) 1))), (nw 6, .inl ((xG cx).2.1, 60, .inl (sA ((rmS N (tR T) (tL T)).2) 2))), (nw 7, .inl ((xG cx).2.1, 60, .inl (sA ((rmS N (tR T) (tL T)).2) 3))), (nw 8, .inl ((xG cx).2.1, 60, .inl (sA ((rmS N (tR T) (tL T)).2) 4))), (nw 9, .inl ((xG cx).2.1, 60, .inl (sA ((rmS N (tR T) (tL T)).2) 5))), (nw 10, .inl ((xG cx).2.1, 60, .inl (sA ((rmS N (tR T) (tL T)).2) 6))), (nw 11, .inl ((xG cx).2.1, 60, .inl (sA ((rmS N (tR T) (tL T)).2) 7))), (nw 12, .inl ((xG cx).2.1, 24, .inl (sA ((rmS N (tR T) (tL T)).2) 8))), (nw 13, .inl ((xG cx).2.1, 3, .inl (sA ((rmS N (tR T) (tL T)).2) 9))), (nw 14, .inl ((xG cx).2.1, 3, .inl (sA ((rmS N (tR T) (tL T)).2) 10))), (nw 15, .inl ((xG cx).2.1, 3, .inl (sA ((rmS N (tR T) (tL T)).2) 11))), (nw 16, .inl ((xG cx).2.1, 3, .inl (sA ((rmS N (tR T) (tL T)).2) 12)))] [0, 1, 2] [x0, t0, tq, nw 0, nw 1, nw 2, nw 3, nw 4, nw 5, nw 6, nw 7, nw 8, nw 9, nw 10, nw 11, nw 12, nw 13, nw 14, nw 15, nw 16] rfl rfl [(x0, .inr (6, [.ref (nw 0), .ref (bf 0), .ref (ah 0), .ref (sn 0), .int hk, .ref h0, .ref t0, .int s1, .int s2])), (t0, .inr (5, [.int (nI ln), .ref tq, .int (nI (tP T)), .int th, .int (tK T), .int (tR T), .int (tL T), .int (tH T), .int (tD T), .int (tN T)])), (tq, .inl ((xG cx).2.2.1, 60, .inl f))] rfl rfl 20 rfl (by decide +kernel) rfl (k0 := 0) (na := 2) gX6_doThing_X4_removeLamp rfl (by decide +kernel) rfl rfl rfl M (kX4_removeLamp (xl cx) (xG cx) nw N (tR T) (tL T) (by first | assumption | rfl | omega | decide)) rfl (by decide) rfl rfl rfl ⟨by decide, by decide⟩ (Nat.le_of_ble_eq_true rfl) ⟨by decide, by decide⟩ dX6_doThing_95 ?_
    generalize e_Q : rmS N (tR T) (tL T) = Q
    exact x_iret C E dX6_doThing_98 (by rw [show doTh N T = Q from (by rw [← e_Q]; unfold doTh; simp [k_116])]) (by rw [show doTh N T = Q from (by rw [← e_Q]; unfold doTh; simp [k_116])])
  ·
    have kd : doTh N T = lpS N (tN T) := do_else (by first | exact Or.inl (Int32.toInt_inj.mp (by rw [c_7]; rfl)) | exact Or.inr (Or.inl (Int32.toInt_inj.mp (by rw [c_7]; rfl))) | exact Or.inr (Or.inr (Int32.toInt_inj.mp (by rw [c_7]; rfl))))
    refine x_aload_n C 0 dX6_doThing_158 rfl rfl ?_
    refine x_getf C 0 rfl rfl i_kX6_doThing_X6 0 (by decide) m_kX6_doThing_4 rfl rfl dX6_doThing_159 ?_
    refine x_aload_n C 0 dX6_doThing_162 rfl rfl ?_
    refine x_getf C 0 rfl rfl i_kX6_doThing_X6 6 (by decide) m_kX6_doThing_1 rfl rfl dX6_doThing_163 ?_
    refine x_getf C 1 rfl rfl i_kX6_doThing_X5 9 (by decide) m_kX6_doThing_7 rfl rfl dX6_doThing_166 ?_
    refine x_callVMU C ([.int (tN T)]) ([]) [3, 4, 5, 6, 7, 8, 9, 10, 11, 12, 13, 14, 15, 16, 17, 18, 19] [(x0, .inr (6, [.ref (nw 0), .ref (bf 0), .ref (ah 0), .ref (sn 0), .int hk, .ref h0, .ref t0, .int s1, .int s2])), (t0, .inr (5, [.int (nI ln), .ref tq, .int (nI (tP T)), .int th, .int (tK T), .int (tR T), .int (tL T), .int (tH T), .int (tD T), .int (tN T)])), (tq, .inl ((xG cx).2.2.1, 60, .inl f)), (nw 0, .inr (4, [.int (sHr ((lpS N (tN T)).2)), .int (sWv ((lpS N (tN T)).2)), .int (sDv ((lpS N (tN T)).2)), .ref (nw 1), .ref (nw 2), .ref (nw 3)])), (nw 1, .inr (0, [.ref (nw 4), .ref (nw 5)])), (nw 2, .inr (2, [.int (nI (sN ((lpS N (tN T)).2))), .ref (nw 6), .ref (nw 7), .ref (nw 8), .ref (nw 9), .ref (nw 10), .ref (nw 11)])), (nw 3, .inr (3, [.ref (nw 12), .ref (nw 13), .ref (nw 14), .ref (nw 15), .ref (nw 16)])), (nw 4, .inl ((xG cx).2.1, 6, .inl (sA ((lpS N (tN T)).2) 0))), (nw 5, .inl ((xG cx).2.1, 6, .inl (sA ((lpS N (tN T)).2) 1))), (nw 6, .inl ((xG cx).2.1, 60, .inl (sA ((lpS N (tN T)).2) 2))), (nw 7, .inl ((xG cx).2.1, 60, .inl (sA ((lpS N (tN T)).2) 3))), (nw 8, .inl ((xG cx).2.1, 60, .inl (sA ((lpS N (tN T)).2) 4))), (nw 9, .inl ((xG cx).2.1, 60, .inl (sA ((lpS N (tN T)).2) 5))), (nw 10, .inl ((xG cx).2.1, 60, .inl (sA ((lpS N (tN T)).2) 6))), (nw 11, .inl ((xG cx).2.1, 60, .inl (sA ((lpS N (tN T)).2) 7))), (nw 12, .inl ((xG cx).2.1, 24, .inl (sA ((lpS N (tN T)).2) 8))), (nw 13, .inl ((xG cx).2.1, 3, .inl (sA ((lpS N (tN T)).2) 9))), (nw 14, .inl ((xG cx).2.1, 3, .inl (sA ((lpS N (tN T)).2) 10))), (nw 15, .inl ((xG cx).2.1, 3, .inl (sA ((lpS N (tN T)).2) 11))), (nw 16, .inl ((xG cx).2.1, 3, .inl (sA ((lpS N (tN T)).2) 12)))] [0, 1, 2] [x0, t0, tq, nw 0, nw 1, nw 2, nw 3, nw 4, nw 5, nw 6, nw 7, nw 8, nw 9, nw 10, nw 11, nw 12, nw 13, nw 14, nw 15, nw 16] rfl rfl [(x0, .inr (6, [.ref (nw 0), .ref (bf 0), .ref (ah 0), .ref (sn 0), .int hk, .ref h0, .ref t0, .int s1, .int s2])), (t0, .inr (5, [.int (nI ln), .ref tq, .int (nI (tP T)), .int th, .int (tK T), .int (tR T), .int (tL T), .int (tH T), .int (tD T), .int (tN T)])), (tq, .inl ((xG cx).2.2.1, 60, .inl f))] rfl rfl 20 rfl (by decide +kernel) rfl (k0 := 0) (na := 1) gX6_doThing_X4_letPass rfl (by decide +kernel) rfl rfl rfl M (kX4_letPass (xl cx) (xG cx) nw N (tN T) (by first | assumption | rfl | omega | decide)) rfl (by decide) rfl rfl rfl ⟨by decide, by decide⟩ (Nat.le_of_ble_eq_true rfl) ⟨by decide, by decide⟩ dX6_doThing_169 ?_
    generalize e_Q : lpS N (tN T) = Q
    exact x_iret C E dX6_doThing_172 (by rw [show doTh N T = Q from kd.trans e_Q]) (by rw [show doTh N T = Q from kd.trans e_Q])
  ·
    have k_118 : tK T = 118 := Int32.toInt_inj.mp (by rw [c_7]; rfl)
    refine x_aload_n C 0 dX6_doThing_99 rfl rfl ?_
    refine x_getf C 0 rfl rfl i_kX6_doThing_X6 0 (by decide) m_kX6_doThing_4 rfl rfl dX6_doThing_100 ?_
    refine x_aload_n C 0 dX6_doThing_103 rfl rfl ?_
    refine x_getf C 0 rfl rfl i_kX6_doThing_X6 6 (by decide) m_kX6_doThing_1 rfl rfl dX6_doThing_104 ?_
    refine x_getf C 1 rfl rfl i_kX6_doThing_X5 5 (by decide) m_kX6_doThing_5 rfl rfl dX6_doThing_107 ?_
    refine x_aload_n C 0 dX6_doThing_110 rfl rfl ?_
    refine x_getf C 0 rfl rfl i_kX6_doThing_X6 6 (by decide) m_kX6_doThing_1 rfl rfl dX6_doThing_111 ?_
    refine x_getf C 1 rfl rfl i_kX6_doThing_X5 9 (by decide) m_kX6_doThing_7 rfl rfl dX6_doThing_114 ?_
    refine x_callVMU C ([.int (tR T), .int (tN T)]) ([]) [3, 4, 5, 6, 7, 8, 9, 10, 11, 12, 13, 14, 15, 16, 17, 18, 19] [(x0, .inr (6, [.ref (nw 0), .ref (bf 0), .ref (ah 0), .ref (sn 0), .int hk, .ref h0, .ref t0, .int s1, .int s2])), (t0, .inr (5, [.int (nI ln), .ref tq, .int (nI (tP T)), .int th, .int (tK T), .int (tR T), .int (tL T), .int (tH T), .int (tD T), .int (tN T)])), (tq, .inl ((xG cx).2.2.1, 60, .inl f)), (nw 0, .inr (4, [.int (sHr ((chVolts N (tR T) (tN T)).2)), .int (sWv ((chVolts N (tR T) (tN T)).2)), .int (sDv ((chVolts N (tR T) (tN T)).2)), .ref (nw 1), .ref (nw 2), .ref (nw 3)])), (nw 1, .inr (0, [.ref (nw 4), .ref (nw 5)])), (nw 2, .inr (2, [.int (nI (sN ((chVolts N (tR T) (tN T)).2))), .ref (nw 6), .ref (nw 7), .ref (nw 8), .ref (nw 9), .ref (nw 10), .ref (nw 11)])), (nw 3, .inr (3, [.ref (nw 12), .ref (nw 13), .ref (nw 14), .ref (nw 15), .ref (nw 16)])), (nw 4, .inl ((xG cx).2.1, 6, .inl (sA ((chVolts N (tR T) (tN T)).2) 0))), (nw 5, .inl ((xG cx).2.1, 6, .inl (sA ((chVolts N (tR T) (tN T)).2) 1))), (nw 6, .inl ((xG cx).2.1, 60, .inl (sA ((chVolts N (tR T) (tN T)).2) 2))), (nw 7, .inl ((xG cx).2.1, 60, .inl (sA ((chVolts N (tR T) (tN T)).2) 3))), (nw 8, .inl ((xG cx).2.1, 60, .inl (sA ((chVolts N (tR T) (tN T)).2) 4))), (nw 9, .inl ((xG cx).2.1, 60, .inl (sA ((chVolts N (tR T) (tN T)).2) 5))), (nw 10, .inl ((xG cx).2.1, 60, .inl (sA ((chVolts N (tR T) (tN T)).2) 6))), (nw 11, .inl ((xG cx).2.1, 60, .inl (sA ((chVolts N (tR T) (tN T)).2) 7))), (nw 12, .inl ((xG cx).2.1, 24, .inl (sA ((chVolts N (tR T) (tN T)).2) 8))), (nw 13, .inl ((xG cx).2.1, 3, .inl (sA ((chVolts N (tR T) (tN T)).2) 9))), (nw 14, .inl ((xG cx).2.1, 3, .inl (sA ((chVolts N (tR T) (tN T)).2) 10))), (nw 15, .inl ((xG cx).2.1, 3, .inl (sA ((chVolts N (tR T) (tN T)).2) 11))), (nw 16, .inl ((xG cx).2.1, 3, .inl (sA ((chVolts N (tR T) (tN T)).2) 12)))] [0, 1, 2] [x0, t0, tq, nw 0, nw 1, nw 2, nw 3, nw 4, nw 5, nw 6, nw 7, nw 8, nw 9, nw 10, nw 11, nw 12, nw 13, nw 14, nw 15, nw 16] rfl rfl [(x0, .inr (6, [.ref (nw 0), .ref (bf 0), .ref (ah 0), .ref (sn 0), .int hk, .ref h0, .ref t0, .int s1, .int s2])), (t0, .inr (5, [.int (nI ln), .ref tq, .int (nI (tP T)), .int th, .int (tK T), .int (tR T), .int (tL T), .int (tH T), .int (tD T), .int (tN T)])), (tq, .inl ((xG cx).2.2.1, 60, .inl f))] rfl rfl 20 rfl (by decide +kernel) rfl (k0 := 0) (na := 2) gX6_doThing_X4_changeVolts rfl (by decide +kernel) rfl rfl rfl M (kX4_changeVolts (xl cx) (xG cx) nw N (tR T) (tN T)) rfl (by decide) rfl rfl rfl ⟨by decide, by decide⟩ (Nat.le_of_ble_eq_true rfl) ⟨by decide, by decide⟩ dX6_doThing_117 ?_
    generalize e_Q : chVolts N (tR T) (tN T) = Q
    exact x_iret C E dX6_doThing_120 (by rw [show doTh N T = Q from (by rw [← e_Q]; unfold doTh; simp [k_118])]) (by rw [show doTh N T = Q from (by rw [← e_Q]; unfold doTh; simp [k_118])])
  ·
    have d_7_0 : ¬ tK T = 112 := fun q => c_7 0 (by decide) (by rw [q]; rfl)
    have d_7_1 : ¬ tK T = 113 := fun q => c_7 1 (by decide) (by rw [q]; rfl)
    have d_7_2 : ¬ tK T = 114 := fun q => c_7 2 (by decide) (by rw [q]; rfl)
    have d_7_3 : ¬ tK T = 115 := fun q => c_7 3 (by decide) (by rw [q]; rfl)
    have d_7_4 : ¬ tK T = 116 := fun q => c_7 4 (by decide) (by rw [q]; rfl)
    have d_7_5 : ¬ tK T = 117 := fun q => c_7 5 (by decide) (by rw [q]; rfl)
    have d_7_6 : ¬ tK T = 118 := fun q => c_7 6 (by decide) (by rw [q]; rfl)
    have kd : doTh N T = lpS N (tN T) := by unfold doTh; simp [d_7_0, d_7_1, d_7_2, d_7_3, d_7_4, d_7_5, d_7_6]
    refine x_aload_n C 0 dX6_doThing_158 rfl rfl ?_
    refine x_getf C 0 rfl rfl i_kX6_doThing_X6 0 (by decide) m_kX6_doThing_4 rfl rfl dX6_doThing_159 ?_
    refine x_aload_n C 0 dX6_doThing_162 rfl rfl ?_
    refine x_getf C 0 rfl rfl i_kX6_doThing_X6 6 (by decide) m_kX6_doThing_1 rfl rfl dX6_doThing_163 ?_
    refine x_getf C 1 rfl rfl i_kX6_doThing_X5 9 (by decide) m_kX6_doThing_7 rfl rfl dX6_doThing_166 ?_
    refine x_callVMU C ([.int (tN T)]) ([]) [3, 4, 5, 6, 7, 8, 9, 10, 11, 12, 13, 14, 15, 16, 17, 18, 19] [(x0, .inr (6, [.ref (nw 0), .ref (bf 0), .ref (ah 0), .ref (sn 0), .int hk, .ref h0, .ref t0, .int s1, .int s2])), (t0, .inr (5, [.int (nI ln), .ref tq, .int (nI (tP T)), .int th, .int (tK T), .int (tR T), .int (tL T), .int (tH T), .int (tD T), .int (tN T)])), (tq, .inl ((xG cx).2.2.1, 60, .inl f)), (nw 0, .inr (4, [.int (sHr ((lpS N (tN T)).2)), .int (sWv ((lpS N (tN T)).2)), .int (sDv ((lpS N (tN T)).2)), .ref (nw 1), .ref (nw 2), .ref (nw 3)])), (nw 1, .inr (0, [.ref (nw 4), .ref (nw 5)])), (nw 2, .inr (2, [.int (nI (sN ((lpS N (tN T)).2))), .ref (nw 6), .ref (nw 7), .ref (nw 8), .ref (nw 9), .ref (nw 10), .ref (nw 11)])), (nw 3, .inr (3, [.ref (nw 12), .ref (nw 13), .ref (nw 14), .ref (nw 15), .ref (nw 16)])), (nw 4, .inl ((xG cx).2.1, 6, .inl (sA ((lpS N (tN T)).2) 0))), (nw 5, .inl ((xG cx).2.1, 6, .inl (sA ((lpS N (tN T)).2) 1))), (nw 6, .inl ((xG cx).2.1, 60, .inl (sA ((lpS N (tN T)).2) 2))), (nw 7, .inl ((xG cx).2.1, 60, .inl (sA ((lpS N (tN T)).2) 3))), (nw 8, .inl ((xG cx).2.1, 60, .inl (sA ((lpS N (tN T)).2) 4))), (nw 9, .inl ((xG cx).2.1, 60, .inl (sA ((lpS N (tN T)).2) 5))), (nw 10, .inl ((xG cx).2.1, 60, .inl (sA ((lpS N (tN T)).2) 6))), (nw 11, .inl ((xG cx).2.1, 60, .inl (sA ((lpS N (tN T)).2) 7))), (nw 12, .inl ((xG cx).2.1, 24, .inl (sA ((lpS N (tN T)).2) 8))), (nw 13, .inl ((xG cx).2.1, 3, .inl (sA ((lpS N (tN T)).2) 9))), (nw 14, .inl ((xG cx).2.1, 3, .inl (sA ((lpS N (tN T)).2) 10))), (nw 15, .inl ((xG cx).2.1, 3, .inl (sA ((lpS N (tN T)).2) 11))), (nw 16, .inl ((xG cx).2.1, 3, .inl (sA ((lpS N (tN T)).2) 12)))] [0, 1, 2] [x0, t0, tq, nw 0, nw 1, nw 2, nw 3, nw 4, nw 5, nw 6, nw 7, nw 8, nw 9, nw 10, nw 11, nw 12, nw 13, nw 14, nw 15, nw 16] rfl rfl [(x0, .inr (6, [.ref (nw 0), .ref (bf 0), .ref (ah 0), .ref (sn 0), .int hk, .ref h0, .ref t0, .int s1, .int s2])), (t0, .inr (5, [.int (nI ln), .ref tq, .int (nI (tP T)), .int th, .int (tK T), .int (tR T), .int (tL T), .int (tH T), .int (tD T), .int (tN T)])), (tq, .inl ((xG cx).2.2.1, 60, .inl f))] rfl rfl 20 rfl (by decide +kernel) rfl (k0 := 0) (na := 1) gX6_doThing_X4_letPass rfl (by decide +kernel) rfl rfl rfl M (kX4_letPass (xl cx) (xG cx) nw N (tN T) (by first | assumption | rfl | omega | decide)) rfl (by decide) rfl rfl rfl ⟨by decide, by decide⟩ (Nat.le_of_ble_eq_true rfl) ⟨by decide, by decide⟩ dX6_doThing_169 ?_
    generalize e_Q : lpS N (tN T) = Q
    exact x_iret C E dX6_doThing_172 (by rw [show doTh N T = Q from kd.trans e_Q]) (by rw [show doTh N T = Q from kd.trans e_Q])
