/-! the whole object's words: what is refused, recorded, undone, kept -/
/-- behind all refusals -/
def rfuO (O : OS) : OS := prfO (setB O)
/-- what holds of the object between two rounds of the law -/
def OI (H : Int) (O : OS) : Prop := Iv H (oN O) ∧ oK O < 4 ∧ oS O ≤ 4 ∧ oL O = 0 ∧ (∀ i, i < oS O → Iv H (oP O ((i + oK O) % 4))) ∧ (¬ oh O = 0 → Iv H (oM O))
section OIS
variable {H K : Int} {O : OS}
theorem OI.wide (h : OI H O) (hb : H ≤ K) : OI K O := ⟨h.1.wide hb, h.2.1, h.2.2.1, h.2.2.2.1, fun i hi => (h.2.2.2.2.1 i hi).wide hb, fun q => (h.2.2.2.2.2 q).wide hb⟩
theorem OI.rfu (h : OI H O) : OI H (rfuO O) := ⟨h.1, h.2.1, h.2.2.1, rfl, h.2.2.2.2.1, h.2.2.2.2.2⟩
theorem OI.rec (h : OI H O) {q : Int32 × SC} (hq : Iv H q.2) (hn : q.1 < 0 → q.2 = oN O) : OI H (recO O q) := by
  obtain ⟨h1, h2, h3, h4, h5, h6⟩ := h
  by_cases c : q.1 < 0
  · have a1 : rcS q.1 (oS O) = oS O := if_pos c
    have a2 : rcK q.1 (oS O) (oK O) = oK O := if_pos c
    have a3 : rcP q.1 (oS O) (oK O) (oP O) (oN O) = oP O := if_pos c
    refine ⟨hq, ?_, ?_, h4, ?_, h6⟩
    · show rcK q.1 (oS O) (oK O) < 4
      rw [a2]; exact h2
    · show rcS q.1 (oS O) ≤ 4
      rw [a1]; exact h3
    · show ∀ i, i < rcS q.1 (oS O) → Iv H (rcP q.1 (oS O) (oK O) (oP O) (oN O) ((i + rcK q.1 (oS O) (oK O)) % 4))
      rw [a1, a2, a3]; exact h5
  · have a1 : rcS q.1 (oS O) = nxS (oS O) := if_neg c
    have a2 : rcK q.1 (oS O) (oK O) = nxK (oS O) (oK O) := if_neg c
    have a3 : rcP q.1 (oS O) (oK O) (oP O) (oN O) = va_up (oP O) ((oS O + oK O) % 4) (oN O) := if_neg c
    refine ⟨hq, ?_, ?_, h4, ?_, h6⟩
    · show rcK q.1 (oS O) (oK O) < 4
      rw [a2]; unfold nxK; split <;> omega
    · show rcS q.1 (oS O) ≤ 4
      rw [a1]; unfold nxS; split <;> omega
    · show ∀ i, i < rcS q.1 (oS O) → Iv H (rcP q.1 (oS O) (oK O) (oP O) (oN O) ((i + rcK q.1 (oS O) (oK O)) % 4))
      rw [a1, a2, a3]
      intro i hi
      unfold nxS at hi
      unfold nxK
      by_cases s4 : oS O < 4
      · rw [if_pos s4] at hi
        rw [if_pos s4]
        by_cases e : (i + oK O) % 4 = (oS O + oK O) % 4
        · unfold va_up
          rw [if_pos e]
          exact h1
        · rw [va_up_ne _ _ e]
          exact h5 i (by omega)
      · rw [if_neg s4] at hi
        rw [if_neg s4]
        by_cases e : (i + (oK O + 1) % 4) % 4 = (oS O + oK O) % 4
        · unfold va_up
          rw [if_pos e]
          exact h1
        · rw [va_up_ne _ _ e, show (i + (oK O + 1) % 4) % 4 = (i + 1 + oK O) % 4 by omega]
          exact h5 (i + 1) (by omega)
/-- what was before an act comes back -/
theorem und_rec (h : OI H O) {q : Int32 × SC} (c : ¬ q.1 < 0) : oN (undO (recO O q)) = oN O ∧ unR (oS (recO O q)) = nI (if oS O < 4 then oS O else 3) ∧ oS (recO O q) = (if oS O < 4 then oS O + 1 else 4) := by
  obtain ⟨h1, h2, h3, -⟩ := h
  have a1 : rcS q.1 (oS O) = nxS (oS O) := if_neg c
  have a2 : rcK q.1 (oS O) (oK O) = nxK (oS O) (oK O) := if_neg c
  have a3 : rcP q.1 (oS O) (oK O) (oP O) (oN O) = va_up (oP O) ((oS O + oK O) % 4) (oN O) := if_neg c
  have e1 : oN (undO (recO O q)) = unN (rcS q.1 (oS O)) (rcK q.1 (oS O) (oK O)) (rcP q.1 (oS O) (oK O) (oP O) (oN O)) q.2 := rfl
  have e2 : oS (recO O q) = rcS q.1 (oS O) := rfl
  rw [e1, e2, a1, a2, a3]
  unfold unN unR nxS nxK
  by_cases s4 : oS O < 4
  · rw [if_pos s4, if_pos s4, if_pos s4, if_neg (show ¬ oS O + 1 = 0 by omega), if_neg (show ¬ oS O + 1 = 0 by omega), show oS O + 1 - 1 = oS O by omega]
    refine ⟨?_, rfl, rfl⟩
    unfold va_up
    exact if_pos rfl
  · rw [if_neg s4, if_neg s4, if_neg s4, if_neg (show ¬ 4 = 0 by omega), if_neg (show ¬ 4 = 0 by omega)]
    refine ⟨?_, rfl, rfl⟩
    unfold va_up
    exact if_pos (by omega)
theorem OI.und (h : OI H O) : OI H (undO O) := by
  obtain ⟨h1, h2, h3, h4, h5, h6⟩ := h
  refine ⟨?_, h2, ?_, h4, ?_, h6⟩
  · show Iv H (unN (oS O) (oK O) (oP O) (oN O))
    unfold unN
    by_cases c : oS O = 0
    · rw [if_pos c]; exact h1
    · rw [if_neg c]; exact h5 (oS O - 1) (by omega)
  · show oS O - 1 ≤ 4
    omega
  · intro i hi
    have hi' : i < oS O - 1 := hi
    exact h5 i (by omega)
theorem OI.kep (h : OI H O) : OI H (kepO O) := ⟨h.1, h.2.1, h.2.2.1, h.2.2.2.1, h.2.2.2.2.1, fun _ => h.1⟩
theorem rst_rec (c : ¬ oh O = 0) : rstO O = recO O (nI (sN (oM O)), oM O) := by
  have a1 : rsR (oh O) (oM O) = nI (sN (oM O)) := if_neg c
  have a2 : rsN (oh O) (oN O) (oM O) = oM O := if_neg c
  unfold rstO
  rw [a1, a2, if_neg c]
  rfl
theorem rsR_is (c : ¬ oh O = 0) : rsR (oh O) (oM O) = nI (sN (oM O)) := if_neg c
theorem OI.rst (h : OI H O) (c : ¬ oh O = 0) : OI H (rstO O) := by
  rw [rst_rec c]
  have m := h.2.2.2.2.2 c
  exact h.rec (q := (nI (sN (oM O)), oM O)) m (fun g => absurd g (nI_nn (by have := m.n60; omega)))
theorem recS_neg {q : Int32 × SC} (c : q.1 < 0) : oS (recO O q) = oS O := if_pos c
end OIS
