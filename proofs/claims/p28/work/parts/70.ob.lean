/-! the whole object: its addresses, its numbers, its world -/
abbrev AT : Type := Nat × Nat × Nat × Nat × Nat × (Nat → Nat) × (Nat → Nat) × (Nat → Nat) × (Nat → Nat) × (Nat → Nat → Nat)
abbrev aaX (a : AT) : Nat := a.1
abbrev aaH (a : AT) : Nat := a.2.1
abbrev aaS (a : AT) : Nat := a.2.2.1
abbrev aaT (a : AT) : Nat := a.2.2.2.1
abbrev aaQ (a : AT) : Nat := a.2.2.2.2.1
abbrev aaN (a : AT) : Nat → Nat := a.2.2.2.2.2.1
abbrev aaB (a : AT) : Nat → Nat := a.2.2.2.2.2.2.1
abbrev aaA (a : AT) : Nat → Nat := a.2.2.2.2.2.2.2.1
abbrev aaM (a : AT) : Nat → Nat := a.2.2.2.2.2.2.2.2.1
abbrev aaD (a : AT) : Nat → Nat → Nat := a.2.2.2.2.2.2.2.2.2
abbrev OS : Type := SC × SC × SC × SC × (Nat → SC) × Nat × Nat × Nat × Int32 × Int32 × Int32 × Int32 × (Nat → Int32) × TX
abbrev oN (O : OS) : SC := O.1
abbrev oB (O : OS) : SC := O.2.1
abbrev oA (O : OS) : SC := O.2.2.1
abbrev oM (O : OS) : SC := O.2.2.2.1
abbrev oP (O : OS) : Nat → SC := O.2.2.2.2.1
abbrev oS (O : OS) : Nat := O.2.2.2.2.2.1
abbrev oK (O : OS) : Nat := O.2.2.2.2.2.2.1
abbrev oL (O : OS) : Nat := O.2.2.2.2.2.2.2.1
abbrev oh (O : OS) : Int32 := O.2.2.2.2.2.2.2.2.1
abbrev o1 (O : OS) : Int32 := O.2.2.2.2.2.2.2.2.2.1
abbrev o2 (O : OS) : Int32 := O.2.2.2.2.2.2.2.2.2.2.1
abbrev ot (O : OS) : Int32 := O.2.2.2.2.2.2.2.2.2.2.2.1
abbrev of (O : OS) : Nat → Int32 := O.2.2.2.2.2.2.2.2.2.2.2.2.1
abbrev oT (O : OS) : TX := O.2.2.2.2.2.2.2.2.2.2.2.2.2
def obW (G : GG) (a : AT) (O : OS) : va_W := [(aaX a, .inr (6, [.ref (aaN a 0), .ref (aaB a 0), .ref (aaA a 0), .ref (aaM a 0), .int (oh O), .ref (aaH a), .ref (aaT a), .int (o1 O), .int (o2 O)]))] ++ (stW G (aaN a) (oN O) ++ (stW G (aaB a) (oB O) ++ (stW G (aaA a) (oA O) ++ (stW G (aaM a) (oM O) ++ ([(aaH a, .inr (1, [.int (nI (oS O)), .ref (aaS a)])), (aaS a, .inl (G.2.2.2, 4, .inr (.inr (.inr (.inr (rot (aaD a) (oK O)))))))] ++ (stW G (aaD a 0) (oP O 0) ++ (stW G (aaD a 1) (oP O 1) ++ (stW G (aaD a 2) (oP O 2) ++ (stW G (aaD a 3) (oP O 3) ++ [(aaT a, .inr (5, [.int (nI (oL O)), .ref (aaQ a), .int (nI (tP (oT O))), .int (ot O), .int (tK (oT O)), .int (tR (oT O)), .int (tL (oT O)), .int (tH (oT O)), .int (tD (oT O)), .int (tN (oT O))])), (aaQ a, .inl (G.2.2.1, 60, .inl (of O)))])))))))))
def stA (a : Nat → Nat) : List Nat := [a 0, a 1, a 2, a 3, a 4, a 5, a 6, a 7, a 8, a 9, a 10, a 11, a 12, a 13, a 14, a 15, a 16]
def obA (a : AT) : List Nat := [aaX a] ++ (stA (aaN a) ++ (stA (aaB a) ++ (stA (aaA a) ++ (stA (aaM a) ++ ([aaH a, aaS a] ++ (stA (aaD a 0) ++ (stA (aaD a 1) ++ (stA (aaD a 2) ++ (stA (aaD a 3) ++ [aaT a, aaQ a])))))))))
set_option maxRecDepth 100000 in
theorem obW_ads (G : GG) (a : AT) (O : OS) : (obW G a O).map (fun q => q.1) = obA a := rfl
set_option maxRecDepth 100000 in
theorem obW_len (G : GG) (a : AT) (O : OS) : (obW G a O).length = 141 := rfl
set_option maxRecDepth 100000 in
theorem obW_0 (G : GG) (a : AT) (O : OS) : (obW G a O)[0]? = some (aaX a, .inr (6, [.ref (aaN a 0), .ref (aaB a 0), .ref (aaA a 0), .ref (aaM a 0), .int (oh O), .ref (aaH a), .ref (aaT a), .int (o1 O), .int (o2 O)])) := rfl
/-- the state before is kept -/
def setB (O : OS) : OS := (oN O, oN O, oA O, oM O, oP O, oS O, oK O, oL O, oh O, o1 O, o2 O, ot O, of O, oT O)
/-- an act -/
def recO (O : OS) (q : Int32 × SC) : OS := (q.2, oN O, oA O, oM O, rcP q.1 (oS O) (oK O) (oP O) (oN O), rcS q.1 (oS O), rcK q.1 (oS O) (oK O), oL O, oh O, o1 O, o2 O, ot O, of O, oT O)
def undO (O : OS) : OS := (unN (oS O) (oK O) (oP O) (oN O), oB O, oA O, oM O, oP O, oS O - 1, oK O, oL O, oh O, o1 O, o2 O, ot O, of O, oT O)
def kepO (O : OS) : OS := (oN O, oB O, oA O, oN O, oP O, oS O, oK O, oL O, 1, o1 O, o2 O, ot O, of O, oT O)
def rstO (O : OS) : OS := (rsN (oh O) (oN O) (oM O), (if oh O = 0 then oB O else oN O), oA O, oM O, rcP (rsR (oh O) (oM O)) (oS O) (oK O) (oP O) (oN O), rcS (rsR (oh O) (oM O)) (oS O), rcK (rsR (oh O) (oM O)) (oS O) (oK O), oL O, oh O, o1 O, o2 O, ot O, of O, oT O)
def nxtO (O : OS) (w : Int32) : OS := (oN O, oB O, (if 0 ≤ w ∧ w ≤ 1 then (pHs (oN O) 3000).1 else oA O), oM O, oP O, oS O, oK O, oL O, oh O, o1 O, o2 O, ot O, of O, oT O)
def clrO (O : OS) : OS := (oN O, oB O, oA O, oM O, oP O, oS O, oK O, 0, oh O, o1 O, o2 O, ot O, of O, oT O)
def pfmO (O : OS) : OS := ((pfR (oN O) (of O) (oL O) (oT O)).2.2.1, bfE (ffL (of O) (oL O) 60 1 (uP (oT O) 0) 0).1 (oN O) (oB O), oA O, oM O, rcP (pfR (oN O) (of O) (oL O) (oT O)).1 (oS O) (oK O) (oP O) (oN O), rcS (pfR (oN O) (of O) (oL O) (oT O)).1 (oS O), rcK (pfR (oN O) (of O) (oL O) (oT O)).1 (oS O) (oK O), oL O, oh O, s1E (o1 O) (pfR (oN O) (of O) (oL O) (oT O)).2.1, s2E (o2 O) (pfR (oN O) (of O) (oL O) (oT O)).2.1, (pfR (oN O) (of O) (oL O) (oT O)).2.2.2.2, of O, (pfR (oN O) (of O) (oL O) (oT O)).2.2.2.1)
theorem recO_no {O : OS} {v : Int32} (hv : v < 0) : recO O (v, oN O) = setB O := by
  have a1 : rcS v (oS O) = oS O := if_pos hv
  have a2 : rcK v (oS O) (oK O) = oK O := if_pos hv
  have a3 : rcP v (oS O) (oK O) (oP O) (oN O) = oP O := if_pos hv
  show ((oN O, oN O, oA O, oM O, rcP v (oS O) (oK O) (oP O) (oN O), rcS v (oS O), rcK v (oS O) (oK O), oL O, oh O, o1 O, o2 O, ot O, of O, oT O) : OS) = _
  rw [a1, a2, a3]
  rfl
/-! a contract over a part of a world is one over the whole -/
theorem aw_sub {big w : va_W} (isC : List Nat) (hcut : isC.map (fun i => big[i]?) = w.map some) {q : Nat} (h : aw w q) : aw big q := by
  obtain ⟨k, e, hk⟩ := h
  have h1 : (isC.map (fun i => big[i]?))[k]? = some (some (q, e)) := by rw [hcut, List.getElem?_map, hk]; rfl
  rw [List.getElem?_map] at h1
  cases hi : isC[k]? with
  | none => rw [hi] at h1; cases h1
  | some i => rw [hi] at h1; exact ⟨i, e, Option.some.inj h1⟩
theorem RO.wide {l : Launch} {G : GG} {y : MethodName} {ws : List Cond} {rm : Room} {av : List Value} {w : va_W} {v : Value} (h : RO l G y ws rm av w v) (isC : List Nat) {big : va_W} (hcut : isC.map (fun i => big[i]?) = w.map some) (hnd : va_nd isC = true) : RO l G y ws rm av big v := by
  intro p e h1 h2 h3 s m args below hf hS hP hk
  obtain ⟨ha, hP1, hD1, hK1⟩ := hP
  obtain ⟨n, o, a, b, c, d, L, e1, e2⟩ := h p e h1 h2 h3 s m args below hf hS ⟨ha, cut_P hP1 isC hcut, hD1.sub isC hnd hcut, hK1⟩ hk
  exact ⟨n, o, a, b, c, d, L, e1, e2⟩
theorem MU.wide {l : Launch} {G : GG} {y : MethodName} {ws : List Cond} {rm : Room} {av : List Value} {w w' : va_W} {r : Option Value} (h : MU l G y ws rm av w r w') (isC oth : List Nat) {big big' : va_W} (ads : List Nat) (ho0 : big.map (fun q => q.1) = ads) (ho1 : big'.map (fun q => q.1) = ads) (hcut : isC.map (fun i => big[i]?) = w.map some) (hnd : va_nd isC = true) (ho2 : oth.map (fun i => big'[i]?) = oth.map (fun i => big[i]?)) (nw : Nat) (hnw : big.length = nw) (ho3 : (List.range nw).all (fun i => isC.contains i || oth.contains i) = true) (ho4 : isC.map (fun i => big'[i]?) = w'.map some) : MU l G y ws rm av big r big' := by
  intro p e h1 h2 h3 s m args below hf hS hP hk
  obtain ⟨ha, hP1, hD1, hK1⟩ := hP
  obtain ⟨n, o, a, b, c, ⟨d1, d2, d3⟩, L, e1, e2⟩ := h p e h1 h2 h3 s m args below hf hS ⟨ha, cut_P hP1 isC hcut, hD1.sub isC hnd hcut, hK1⟩ hk
  exact ⟨n, o, a, b, c, ⟨d1, back_P hP1 hD1 isC oth hcut (ho1.trans ho0.symm) ho2 nw hnw ho3 ho4 d3 d2, ⟨d3.1, fun q hq hn => d3.2 q hq (fun g => hn (aw_sub isC hcut g))⟩⟩, L, e1, fun q hq => aw_sub isC hcut (e2 q hq)⟩

set_option maxRecDepth 100000 in
set_option maxHeartbeats 4000000 in
theorem oX6_setBatch (l : Launch) (G : GG) (a : AT) (O : OS) (b li sp : Int32) (hk4 : oK O < 4) (hs4 : oS O ≤ 4) {q : Int32 × SC} (e : chBatch (oN O) b li sp = q) : MU l G yX6_setBatch wsX6_setBatch ({ frames := 6, cells := 0, slots := 0, locals := 123 } : Room) [.ref (aaX a), .int b, .int li, .int sp] (obW G a O) (some (.int (q.1))) (obW G a (recO O q)) := by
  subst e
  exact MU.wide (kX6_setBatch l G (aaX a) (aaH a) (aaS a) (aaT a) (aaN a) (aaB a) (aaA a) (aaM a) (aaD a) (oP O) (oh O) (o1 O) (o2 O) (oS O) (oK O) (oN O) (oB O) b li sp hk4 hs4) [0, 69, 70, 71, 72, 73, 74, 75, 76, 77, 78, 79, 80, 81, 82, 83, 84, 85, 86, 87, 88, 89, 90, 91, 92, 93, 94, 95, 96, 97, 98, 99, 100, 101, 102, 103, 104, 105, 106, 107, 108, 109, 110, 111, 112, 113, 114, 115, 116, 117, 118, 119, 120, 121, 122, 123, 124, 125, 126, 127, 128, 129, 130, 131, 132, 133, 134, 135, 136, 137, 138, 1, 2, 3, 4, 5, 6, 7, 8, 9, 10, 11, 12, 13, 14, 15, 16, 17, 18, 19, 20, 21, 22, 23, 24, 25, 26, 27, 28, 29, 30, 31, 32, 33, 34] [35, 36, 37, 38, 39, 40, 41, 42, 43, 44, 45, 46, 47, 48, 49, 50, 51, 52, 53, 54, 55, 56, 57, 58, 59, 60, 61, 62, 63, 64, 65, 66, 67, 68, 139, 140] (obA a) (obW_ads _ _ _) (obW_ads _ _ _) rfl (by decide +kernel) rfl 141 rfl (by decide +kernel) rfl
theorem oX6_setBatch_no (l : Launch) (G : GG) (a : AT) (O : OS) (b li sp : Int32) (hk4 : oK O < 4) (hs4 : oS O ≤ 4) {v0 : Int32} (e : chBatch (oN O) b li sp = (v0, oN O)) (hv : v0 < 0) : MU l G yX6_setBatch wsX6_setBatch ({ frames := 6, cells := 0, slots := 0, locals := 123 } : Room) [.ref (aaX a), .int b, .int li, .int sp] (obW G a O) (some (.int v0)) (obW G a (setB O)) := by
  have h0 := oX6_setBatch l G a O b li sp hk4 hs4 e
  rw [recO_no hv] at h0
  exact h0
set_option maxRecDepth 100000 in
set_option maxHeartbeats 4000000 in
theorem oX6_put (l : Launch) (G : GG) (a : AT) (O : OS) (r p b : Int32) (hk4 : oK O < 4) (hs4 : oS O ≤ 4) (hok : okS (oN O)) {q : Int32 × SC} (e : insS (oN O) r p b = q) : MU l G yX6_put wsX6_put ({ frames := 6, cells := 0, slots := 0, locals := 123 } : Room) [.ref (aaX a), .int r, .int p, .int b] (obW G a O) (some (.int (q.1))) (obW G a (recO O q)) := by
  subst e
  exact MU.wide (kX6_put l G (aaX a) (aaH a) (aaS a) (aaT a) (aaN a) (aaB a) (aaA a) (aaM a) (aaD a) (oP O) (oh O) (o1 O) (o2 O) (oS O) (oK O) (oN O) (oB O) r p b hk4 hs4 hok) [0, 69, 70, 71, 72, 73, 74, 75, 76, 77, 78, 79, 80, 81, 82, 83, 84, 85, 86, 87, 88, 89, 90, 91, 92, 93, 94, 95, 96, 97, 98, 99, 100, 101, 102, 103, 104, 105, 106, 107, 108, 109, 110, 111, 112, 113, 114, 115, 116, 117, 118, 119, 120, 121, 122, 123, 124, 125, 126, 127, 128, 129, 130, 131, 132, 133, 134, 135, 136, 137, 138, 1, 2, 3, 4, 5, 6, 7, 8, 9, 10, 11, 12, 13, 14, 15, 16, 17, 18, 19, 20, 21, 22, 23, 24, 25, 26, 27, 28, 29, 30, 31, 32, 33, 34] [35, 36, 37, 38, 39, 40, 41, 42, 43, 44, 45, 46, 47, 48, 49, 50, 51, 52, 53, 54, 55, 56, 57, 58, 59, 60, 61, 62, 63, 64, 65, 66, 67, 68, 139, 140] (obA a) (obW_ads _ _ _) (obW_ads _ _ _) rfl (by decide +kernel) rfl 141 rfl (by decide +kernel) rfl
theorem oX6_put_no (l : Launch) (G : GG) (a : AT) (O : OS) (r p b : Int32) (hk4 : oK O < 4) (hs4 : oS O ≤ 4) (hok : okS (oN O)) {v0 : Int32} (e : insS (oN O) r p b = (v0, oN O)) (hv : v0 < 0) : MU l G yX6_put wsX6_put ({ frames := 6, cells := 0, slots := 0, locals := 123 } : Room) [.ref (aaX a), .int r, .int p, .int b] (obW G a O) (some (.int v0)) (obW G a (setB O)) := by
  have h0 := oX6_put l G a O r p b hk4 hs4 hok e
  rw [recO_no hv] at h0
  exact h0
set_option maxRecDepth 100000 in
set_option maxHeartbeats 4000000 in
theorem oX6_takeOut (l : Launch) (G : GG) (a : AT) (O : OS) (r p : Int32) (hk4 : oK O < 4) (hs4 : oS O ≤ 4) (hok : okS (oN O)) {q : Int32 × SC} (e : rmS (oN O) r p = q) : MU l G yX6_takeOut wsX6_takeOut ({ frames := 6, cells := 0, slots := 0, locals := 123 } : Room) [.ref (aaX a), .int r, .int p] (obW G a O) (some (.int (q.1))) (obW G a (recO O q)) := by
  subst e
  exact MU.wide (kX6_takeOut l G (aaX a) (aaH a) (aaS a) (aaT a) (aaN a) (aaB a) (aaA a) (aaM a) (aaD a) (oP O) (oh O) (o1 O) (o2 O) (oS O) (oK O) (oN O) (oB O) r p hk4 hs4 hok) [0, 69, 70, 71, 72, 73, 74, 75, 76, 77, 78, 79, 80, 81, 82, 83, 84, 85, 86, 87, 88, 89, 90, 91, 92, 93, 94, 95, 96, 97, 98, 99, 100, 101, 102, 103, 104, 105, 106, 107, 108, 109, 110, 111, 112, 113, 114, 115, 116, 117, 118, 119, 120, 121, 122, 123, 124, 125, 126, 127, 128, 129, 130, 131, 132, 133, 134, 135, 136, 137, 138, 1, 2, 3, 4, 5, 6, 7, 8, 9, 10, 11, 12, 13, 14, 15, 16, 17, 18, 19, 20, 21, 22, 23, 24, 25, 26, 27, 28, 29, 30, 31, 32, 33, 34] [35, 36, 37, 38, 39, 40, 41, 42, 43, 44, 45, 46, 47, 48, 49, 50, 51, 52, 53, 54, 55, 56, 57, 58, 59, 60, 61, 62, 63, 64, 65, 66, 67, 68, 139, 140] (obA a) (obW_ads _ _ _) (obW_ads _ _ _) rfl (by decide +kernel) rfl 141 rfl (by decide +kernel) rfl
theorem oX6_takeOut_no (l : Launch) (G : GG) (a : AT) (O : OS) (r p : Int32) (hk4 : oK O < 4) (hs4 : oS O ≤ 4) (hok : okS (oN O)) {v0 : Int32} (e : rmS (oN O) r p = (v0, oN O)) (hv : v0 < 0) : MU l G yX6_takeOut wsX6_takeOut ({ frames := 6, cells := 0, slots := 0, locals := 123 } : Room) [.ref (aaX a), .int r, .int p] (obW G a O) (some (.int v0)) (obW G a (setB O)) := by
  have h0 := oX6_takeOut l G a O r p hk4 hs4 hok e
  rw [recO_no hv] at h0
  exact h0
set_option maxRecDepth 100000 in
set_option maxHeartbeats 4000000 in
theorem oX6_swap (l : Launch) (G : GG) (a : AT) (O : OS) (r p r2 p2 : Int32) (hk4 : oK O < 4) (hs4 : oS O ≤ 4) (hok : okS (oN O)) {q : Int32 × SC} (e : exS (oN O) r p r2 p2 = q) : MU l G yX6_swap wsX6_swap ({ frames := 6, cells := 0, slots := 0, locals := 123 } : Room) [.ref (aaX a), .int r, .int p, .int r2, .int p2] (obW G a O) (some (.int (q.1))) (obW G a (recO O q)) := by
  subst e
  exact MU.wide (kX6_swap l G (aaX a) (aaH a) (aaS a) (aaT a) (aaN a) (aaB a) (aaA a) (aaM a) (aaD a) (oP O) (oh O) (o1 O) (o2 O) (oS O) (oK O) (oN O) (oB O) r p r2 p2 hk4 hs4 hok) [0, 69, 70, 71, 72, 73, 74, 75, 76, 77, 78, 79, 80, 81, 82, 83, 84, 85, 86, 87, 88, 89, 90, 91, 92, 93, 94, 95, 96, 97, 98, 99, 100, 101, 102, 103, 104, 105, 106, 107, 108, 109, 110, 111, 112, 113, 114, 115, 116, 117, 118, 119, 120, 121, 122, 123, 124, 125, 126, 127, 128, 129, 130, 131, 132, 133, 134, 135, 136, 137, 138, 1, 2, 3, 4, 5, 6, 7, 8, 9, 10, 11, 12, 13, 14, 15, 16, 17, 18, 19, 20, 21, 22, 23, 24, 25, 26, 27, 28, 29, 30, 31, 32, 33, 34] [35, 36, 37, 38, 39, 40, 41, 42, 43, 44, 45, 46, 47, 48, 49, 50, 51, 52, 53, 54, 55, 56, 57, 58, 59, 60, 61, 62, 63, 64, 65, 66, 67, 68, 139, 140] (obA a) (obW_ads _ _ _) (obW_ads _ _ _) rfl (by decide +kernel) rfl 141 rfl (by decide +kernel) rfl
theorem oX6_swap_no (l : Launch) (G : GG) (a : AT) (O : OS) (r p r2 p2 : Int32) (hk4 : oK O < 4) (hs4 : oS O ≤ 4) (hok : okS (oN O)) {v0 : Int32} (e : exS (oN O) r p r2 p2 = (v0, oN O)) (hv : v0 < 0) : MU l G yX6_swap wsX6_swap ({ frames := 6, cells := 0, slots := 0, locals := 123 } : Room) [.ref (aaX a), .int r, .int p, .int r2, .int p2] (obW G a O) (some (.int v0)) (obW G a (setB O)) := by
  have h0 := oX6_swap l G a O r p r2 p2 hk4 hs4 hok e
  rw [recO_no hv] at h0
  exact h0
set_option maxRecDepth 100000 in
set_option maxHeartbeats 4000000 in
theorem oX6_setVolts (l : Launch) (G : GG) (a : AT) (O : OS) (r v : Int32) (hk4 : oK O < 4) (hs4 : oS O ≤ 4) {q : Int32 × SC} (e : chVolts (oN O) r v = q) : MU l G yX6_setVolts wsX6_setVolts ({ frames := 6, cells := 0, slots := 0, locals := 123 } : Room) [.ref (aaX a), .int r, .int v] (obW G a O) (some (.int (q.1))) (obW G a (recO O q)) := by
  subst e
  exact MU.wide (kX6_setVolts l G (aaX a) (aaH a) (aaS a) (aaT a) (aaN a) (aaB a) (aaA a) (aaM a) (aaD a) (oP O) (oh O) (o1 O) (o2 O) (oS O) (oK O) (oN O) (oB O) r v hk4 hs4) [0, 69, 70, 71, 72, 73, 74, 75, 76, 77, 78, 79, 80, 81, 82, 83, 84, 85, 86, 87, 88, 89, 90, 91, 92, 93, 94, 95, 96, 97, 98, 99, 100, 101, 102, 103, 104, 105, 106, 107, 108, 109, 110, 111, 112, 113, 114, 115, 116, 117, 118, 119, 120, 121, 122, 123, 124, 125, 126, 127, 128, 129, 130, 131, 132, 133, 134, 135, 136, 137, 138, 1, 2, 3, 4, 5, 6, 7, 8, 9, 10, 11, 12, 13, 14, 15, 16, 17, 18, 19, 20, 21, 22, 23, 24, 25, 26, 27, 28, 29, 30, 31, 32, 33, 34] [35, 36, 37, 38, 39, 40, 41, 42, 43, 44, 45, 46, 47, 48, 49, 50, 51, 52, 53, 54, 55, 56, 57, 58, 59, 60, 61, 62, 63, 64, 65, 66, 67, 68, 139, 140] (obA a) (obW_ads _ _ _) (obW_ads _ _ _) rfl (by decide +kernel) rfl 141 rfl (by decide +kernel) rfl
theorem oX6_setVolts_no (l : Launch) (G : GG) (a : AT) (O : OS) (r v : Int32) (hk4 : oK O < 4) (hs4 : oS O ≤ 4) {v0 : Int32} (e : chVolts (oN O) r v = (v0, oN O)) (hv : v0 < 0) : MU l G yX6_setVolts wsX6_setVolts ({ frames := 6, cells := 0, slots := 0, locals := 123 } : Room) [.ref (aaX a), .int r, .int v] (obW G a O) (some (.int v0)) (obW G a (setB O)) := by
  have h0 := oX6_setVolts l G a O r v hk4 hs4 e
  rw [recO_no hv] at h0
  exact h0
set_option maxRecDepth 100000 in
set_option maxHeartbeats 4000000 in
theorem oX6_setSteps (l : Launch) (G : GG) (a : AT) (O : OS) (r h v : Int32) (hk4 : oK O < 4) (hs4 : oS O ≤ 4) {q : Int32 × SC} (e : chSteps (oN O) r h v = q) : MU l G yX6_setSteps wsX6_setSteps ({ frames := 6, cells := 0, slots := 0, locals := 123 } : Room) [.ref (aaX a), .int r, .int h, .int v] (obW G a O) (some (.int (q.1))) (obW G a (recO O q)) := by
  subst e
  exact MU.wide (kX6_setSteps l G (aaX a) (aaH a) (aaS a) (aaT a) (aaN a) (aaB a) (aaA a) (aaM a) (aaD a) (oP O) (oh O) (o1 O) (o2 O) (oS O) (oK O) (oN O) (oB O) r h v hk4 hs4) [0, 69, 70, 71, 72, 73, 74, 75, 76, 77, 78, 79, 80, 81, 82, 83, 84, 85, 86, 87, 88, 89, 90, 91, 92, 93, 94, 95, 96, 97, 98, 99, 100, 101, 102, 103, 104, 105, 106, 107, 108, 109, 110, 111, 112, 113, 114, 115, 116, 117, 118, 119, 120, 121, 122, 123, 124, 125, 126, 127, 128, 129, 130, 131, 132, 133, 134, 135, 136, 137, 138, 1, 2, 3, 4, 5, 6, 7, 8, 9, 10, 11, 12, 13, 14, 15, 16, 17, 18, 19, 20, 21, 22, 23, 24, 25, 26, 27, 28, 29, 30, 31, 32, 33, 34] [35, 36, 37, 38, 39, 40, 41, 42, 43, 44, 45, 46, 47, 48, 49, 50, 51, 52, 53, 54, 55, 56, 57, 58, 59, 60, 61, 62, 63, 64, 65, 66, 67, 68, 139, 140] (obA a) (obW_ads _ _ _) (obW_ads _ _ _) rfl (by decide +kernel) rfl 141 rfl (by decide +kernel) rfl
theorem oX6_setSteps_no (l : Launch) (G : GG) (a : AT) (O : OS) (r h v : Int32) (hk4 : oK O < 4) (hs4 : oS O ≤ 4) {v0 : Int32} (e : chSteps (oN O) r h v = (v0, oN O)) (hv : v0 < 0) : MU l G yX6_setSteps wsX6_setSteps ({ frames := 6, cells := 0, slots := 0, locals := 123 } : Room) [.ref (aaX a), .int r, .int h, .int v] (obW G a O) (some (.int v0)) (obW G a (setB O)) := by
  have h0 := oX6_setSteps l G a O r h v hk4 hs4 e
  rw [recO_no hv] at h0
  exact h0
set_option maxRecDepth 100000 in
set_option maxHeartbeats 4000000 in
theorem oX6_set (l : Launch) (G : GG) (a : AT) (O : OS) (w v : Int32) (hk4 : oK O < 4) (hs4 : oS O ≤ 4) {q : Int32 × SC} (e : chSet (oN O) w v = q) : MU l G yX6_set wsX6_set ({ frames := 6, cells := 0, slots := 0, locals := 123 } : Room) [.ref (aaX a), .int w, .int v] (obW G a O) (some (.int (q.1))) (obW G a (recO O q)) := by
  subst e
  exact MU.wide (kX6_set l G (aaX a) (aaH a) (aaS a) (aaT a) (aaN a) (aaB a) (aaA a) (aaM a) (aaD a) (oP O) (oh O) (o1 O) (o2 O) (oS O) (oK O) (oN O) (oB O) w v hk4 hs4) [0, 69, 70, 71, 72, 73, 74, 75, 76, 77, 78, 79, 80, 81, 82, 83, 84, 85, 86, 87, 88, 89, 90, 91, 92, 93, 94, 95, 96, 97, 98, 99, 100, 101, 102, 103, 104, 105, 106, 107, 108, 109, 110, 111, 112, 113, 114, 115, 116, 117, 118, 119, 120, 121, 122, 123, 124, 125, 126, 127, 128, 129, 130, 131, 132, 133, 134, 135, 136, 137, 138, 1, 2, 3, 4, 5, 6, 7, 8, 9, 10, 11, 12, 13, 14, 15, 16, 17, 18, 19, 20, 21, 22, 23, 24, 25, 26, 27, 28, 29, 30, 31, 32, 33, 34] [35, 36, 37, 38, 39, 40, 41, 42, 43, 44, 45, 46, 47, 48, 49, 50, 51, 52, 53, 54, 55, 56, 57, 58, 59, 60, 61, 62, 63, 64, 65, 66, 67, 68, 139, 140] (obA a) (obW_ads _ _ _) (obW_ads _ _ _) rfl (by decide +kernel) rfl 141 rfl (by decide +kernel) rfl
theorem oX6_set_no (l : Launch) (G : GG) (a : AT) (O : OS) (w v : Int32) (hk4 : oK O < 4) (hs4 : oS O ≤ 4) {v0 : Int32} (e : chSet (oN O) w v = (v0, oN O)) (hv : v0 < 0) : MU l G yX6_set wsX6_set ({ frames := 6, cells := 0, slots := 0, locals := 123 } : Room) [.ref (aaX a), .int w, .int v] (obW G a O) (some (.int v0)) (obW G a (setB O)) := by
  have h0 := oX6_set l G a O w v hk4 hs4 e
  rw [recO_no hv] at h0
  exact h0
set_option maxRecDepth 100000 in
set_option maxHeartbeats 4000000 in
theorem oX6_pass (l : Launch) (G : GG) (a : AT) (O : OS) (h : Int32) (hk4 : oK O < 4) (hs4 : oS O ≤ 4) (hok : okS (oN O)) {q : Int32 × SC} (e : lpS (oN O) h = q) : MU l G yX6_pass wsX6_pass ({ frames := 6, cells := 0, slots := 0, locals := 140 } : Room) [.ref (aaX a), .int h] (obW G a O) (some (.int (q.1))) (obW G a (recO O q)) := by
  subst e
  exact MU.wide (kX6_pass l G (aaX a) (aaH a) (aaS a) (aaT a) (aaN a) (aaB a) (aaA a) (aaM a) (aaD a) (oP O) (oh O) (o1 O) (o2 O) (oS O) (oK O) (oN O) (oB O) h hk4 hs4 hok) [0, 69, 70, 71, 72, 73, 74, 75, 76, 77, 78, 79, 80, 81, 82, 83, 84, 85, 86, 87, 88, 89, 90, 91, 92, 93, 94, 95, 96, 97, 98, 99, 100, 101, 102, 103, 104, 105, 106, 107, 108, 109, 110, 111, 112, 113, 114, 115, 116, 117, 118, 119, 120, 121, 122, 123, 124, 125, 126, 127, 128, 129, 130, 131, 132, 133, 134, 135, 136, 137, 138, 1, 2, 3, 4, 5, 6, 7, 8, 9, 10, 11, 12, 13, 14, 15, 16, 17, 18, 19, 20, 21, 22, 23, 24, 25, 26, 27, 28, 29, 30, 31, 32, 33, 34] [35, 36, 37, 38, 39, 40, 41, 42, 43, 44, 45, 46, 47, 48, 49, 50, 51, 52, 53, 54, 55, 56, 57, 58, 59, 60, 61, 62, 63, 64, 65, 66, 67, 68, 139, 140] (obA a) (obW_ads _ _ _) (obW_ads _ _ _) rfl (by decide +kernel) rfl 141 rfl (by decide +kernel) rfl
theorem oX6_pass_no (l : Launch) (G : GG) (a : AT) (O : OS) (h : Int32) (hk4 : oK O < 4) (hs4 : oS O ≤ 4) (hok : okS (oN O)) {v0 : Int32} (e : lpS (oN O) h = (v0, oN O)) (hv : v0 < 0) : MU l G yX6_pass wsX6_pass ({ frames := 6, cells := 0, slots := 0, locals := 140 } : Room) [.ref (aaX a), .int h] (obW G a O) (some (.int v0)) (obW G a (setB O)) := by
  have h0 := oX6_pass l G a O h hk4 hs4 hok e
  rw [recO_no hv] at h0
  exact h0
set_option maxRecDepth 100000 in
set_option maxHeartbeats 4000000 in
theorem oX6_lamp (l : Launch) (G : GG) (a : AT) (O : OS) (x w : Int32) {S : SC} (eS : oN O = S) (hok : okS S) : RO l G yX6_lamp wsX6_lamp ({ frames := 3, cells := 0, slots := 0, locals := 66 } : Room) [.ref (aaX a), .int x, .int w] (obW G a O) (.int (tlS S x w)) := by
  subst eS
  exact RO.wide (kX6_lamp l G (aaX a) (aaH a) (aaT a) (aaN a) (aaB a) (aaA a) (aaM a) (oh O) (o1 O) (o2 O) (oN O) x w hok) [0, 1, 2, 3, 4, 5, 6, 7, 8, 9, 10, 11, 12, 13, 14, 15, 16, 17] rfl (by decide +kernel)
set_option maxRecDepth 100000 in
set_option maxHeartbeats 4000000 in
theorem oX6_rack (l : Launch) (G : GG) (a : AT) (O : OS) (r w : Int32) {S : SC} (eS : oN O = S) (hok : okS S) : RO l G yX6_rack wsX6_rack ({ frames := 3, cells := 0, slots := 0, locals := 69 } : Room) [.ref (aaX a), .int r, .int w] (obW G a O) (.int (trS S r w)) := by
  subst eS
  exact RO.wide (kX6_rack l G (aaX a) (aaH a) (aaT a) (aaN a) (aaB a) (aaA a) (aaM a) (oh O) (o1 O) (o2 O) (oN O) r w hok) [0, 1, 2, 3, 4, 5, 6, 7, 8, 9, 10, 11, 12, 13, 14, 15, 16, 17] rfl (by decide +kernel)
set_option maxRecDepth 100000 in
set_option maxHeartbeats 4000000 in
theorem oX6_at (l : Launch) (G : GG) (a : AT) (O : OS) (r p : Int32) {S : SC} (eS : oN O = S) (hok : okS S) : RO l G yX6_at wsX6_at ({ frames := 3, cells := 0, slots := 0, locals := 63 } : Room) [.ref (aaX a), .int r, .int p] (obW G a O) (.int (atS S r p)) := by
  subst eS
  exact RO.wide (kX6_at l G (aaX a) (aaH a) (aaT a) (aaN a) (aaB a) (aaA a) (aaM a) (oh O) (o1 O) (o2 O) (oN O) r p hok) [0, 1, 2, 3, 4, 5, 6, 7, 8, 9, 10, 11, 12, 13, 14, 15, 16, 17] rfl (by decide +kernel)
set_option maxRecDepth 100000 in
set_option maxHeartbeats 4000000 in
theorem oX6_batch (l : Launch) (G : GG) (a : AT) (O : OS) (b w : Int32) {S : SC} (eS : oN O = S) (hok : okS S) : RO l G yX6_batch wsX6_batch ({ frames := 5, cells := 0, slots := 0, locals := 117 } : Room) [.ref (aaX a), .int b, .int w] (obW G a O) (.int (tbS S b w)) := by
  subst eS
  exact RO.wide (kX6_batch l G (aaX a) (aaH a) (aaT a) (aaN a) (aaB a) (aaA a) (aaM a) (oh O) (o1 O) (o2 O) (oN O) b w hok) [0, 1, 2, 3, 4, 5, 6, 7, 8, 9, 10, 11, 12, 13, 14, 15, 16, 17] rfl (by decide +kernel)
set_option maxRecDepth 100000 in
set_option maxHeartbeats 4000000 in
theorem oX6_lasted (l : Launch) (G : GG) (a : AT) (O : OS) (b h : Int32) {S : SC} (eS : oN O = S) (hok : okS S) : RO l G yX6_lasted wsX6_lasted ({ frames := 2, cells := 0, slots := 0, locals := 45 } : Room) [.ref (aaX a), .int b, .int h] (obW G a O) (.int (lastS S b h)) := by
  subst eS
  exact RO.wide (kX6_lasted l G (aaX a) (aaH a) (aaT a) (aaN a) (aaB a) (aaA a) (aaM a) (oh O) (o1 O) (o2 O) (oN O) b h hok) [0, 1, 2, 3, 4, 5, 6, 7, 8, 9, 10, 11, 12, 13, 14, 15, 16, 17] rfl (by decide +kernel)
set_option maxRecDepth 100000 in
set_option maxHeartbeats 4000000 in
theorem oX6_ended (l : Launch) (G : GG) (a : AT) (O : OS) (x : Int32) {S : SC} (eS : oN O = S) (hok : okS S) : RO l G yX6_ended wsX6_ended ({ frames := 3, cells := 0, slots := 0, locals := 67 } : Room) [.ref (aaX a), .int x] (obW G a O) (.int (endS S x)) := by
  subst eS
  exact RO.wide (kX6_ended l G (aaX a) (aaH a) (aaT a) (aaN a) (aaB a) (aaA a) (aaM a) (oh O) (o1 O) (o2 O) (oN O) x hok) [0, 1, 2, 3, 4, 5, 6, 7, 8, 9, 10, 11, 12, 13, 14, 15, 16, 17] rfl (by decide +kernel)
set_option maxRecDepth 100000 in
set_option maxHeartbeats 4000000 in
theorem oX6_lasts (l : Launch) (G : GG) (a : AT) (O : OS) (x v : Int32) {S : SC} (eS : oN O = S) (hok : okS S) : RO l G yX6_lasts wsX6_lasts ({ frames := 2, cells := 0, slots := 0, locals := 43 } : Room) [.ref (aaX a), .int x, .int v] (obW G a O) (.int (lstS S x v)) := by
  subst eS
  exact RO.wide (kX6_lasts l G (aaX a) (aaH a) (aaT a) (aaN a) (aaB a) (aaA a) (aaM a) (oh O) (o1 O) (o2 O) (oN O) x v hok) [0, 1, 2, 3, 4, 5, 6, 7, 8, 9, 10, 11, 12, 13, 14, 15, 16, 17] rfl (by decide +kernel)
set_option maxRecDepth 100000 in
set_option maxHeartbeats 4000000 in
theorem oX6_reason (l : Launch) (G : GG) (a : AT) (O : OS) (x : Int32) {S : SC} (eS : oN O = S) (hok : okS S) : RO l G yX6_reason wsX6_reason ({ frames := 2, cells := 0, slots := 0, locals := 43 } : Room) [.ref (aaX a), .int x] (obW G a O) (.int (rsnS S x)) := by
  subst eS
  exact RO.wide (kX6_reason l G (aaX a) (aaH a) (aaT a) (aaN a) (aaB a) (aaA a) (aaM a) (oh O) (o1 O) (o2 O) (oN O) x hok) [0, 1, 2, 3, 4, 5, 6, 7, 8, 9, 10, 11, 12, 13, 14, 15, 16, 17] rfl (by decide +kernel)
set_option maxRecDepth 100000 in
set_option maxHeartbeats 4000000 in
theorem oX6_count (l : Launch) (G : GG) (a : AT) (O : OS) (w : Int32) {S : SC} (eS : oN O = S) (hok : okS S) : RO l G yX6_count wsX6_count ({ frames := 4, cells := 0, slots := 0, locals := 86 } : Room) [.ref (aaX a), .int w] (obW G a O) (.int (cntT S (oS O) (oL O) w)) := by
  subst eS
  exact RO.wide (kX6_count l G (aaX a) (aaH a) (aaS a) (oS O) (aaT a) (aaQ a) (oL O) (aaN a) (aaB a) (aaA a) (aaM a) (oh O) (o1 O) (o2 O) (of O) (ot O) (oT O) (oN O) w hok) [0, 69, 139, 140, 1, 2, 3, 4, 5, 6, 7, 8, 9, 10, 11, 12, 13, 14, 15, 16, 17] rfl (by decide +kernel)
set_option maxRecDepth 100000 in
set_option maxHeartbeats 4000000 in
theorem oX6_stopped (l : Launch) (G : GG) (a : AT) (O : OS) (w : Int32) {S : SC} (eS : oN O = S) : RO l G yX6_stopped wsX6_stopped ({ frames := 1, cells := 0, slots := 0, locals := 22 } : Room) [.ref (aaX a), .int w] (obW G a O) (.int (stpS (o1 O) (o2 O) w)) := by
  subst eS
  exact RO.wide (kX6_stopped l G (aaX a) (aaH a) (aaT a) (aaN a) (aaB a) (aaA a) (aaM a) (oh O) (o1 O) (o2 O) w) [0] rfl (by decide +kernel)
set_option maxRecDepth 100000 in
set_option maxHeartbeats 4000000 in
theorem oX6_next (l : Launch) (G : GG) (a : AT) (O : OS) (w : Int32) (hok : okS (oN O)) : MU l G yX6_next wsX6_next ({ frames := 5, cells := 0, slots := 0, locals := 119 } : Room) [.ref (aaX a), .int w] (obW G a O) (some (.int (nxtS (oN O) w))) (obW G a (nxtO O w)) := by
  exact MU.wide (kX6_next l G (aaX a) (aaH a) (aaT a) (aaN a) (aaB a) (aaA a) (aaM a) (oh O) (o1 O) (o2 O) (oN O) (oA O) w hok) [0, 1, 2, 3, 4, 5, 6, 7, 8, 9, 10, 11, 12, 13, 14, 15, 16, 17, 35, 36, 37, 38, 39, 40, 41, 42, 43, 44, 45, 46, 47, 48, 49, 50, 51] [18, 19, 20, 21, 22, 23, 24, 25, 26, 27, 28, 29, 30, 31, 32, 33, 34, 52, 53, 54, 55, 56, 57, 58, 59, 60, 61, 62, 63, 64, 65, 66, 67, 68, 69, 70, 71, 72, 73, 74, 75, 76, 77, 78, 79, 80, 81, 82, 83, 84, 85, 86, 87, 88, 89, 90, 91, 92, 93, 94, 95, 96, 97, 98, 99, 100, 101, 102, 103, 104, 105, 106, 107, 108, 109, 110, 111, 112, 113, 114, 115, 116, 117, 118, 119, 120, 121, 122, 123, 124, 125, 126, 127, 128, 129, 130, 131, 132, 133, 134, 135, 136, 137, 138, 139, 140] (obA a) (obW_ads _ _ _) (obW_ads _ _ _) rfl (by decide +kernel) rfl 141 rfl (by decide +kernel) rfl
set_option maxRecDepth 100000 in
set_option maxHeartbeats 4000000 in
theorem oX6_keep (l : Launch) (G : GG) (a : AT) (O : OS)  : MU l G yX6_keep wsX6_keep ({ frames := 4, cells := 0, slots := 0, locals := 81 } : Room) [.ref (aaX a)] (obW G a O) (some (.int (nI (sN (oN O))))) (obW G a (kepO O)) := by
  exact MU.wide (kX6_keep l G (aaX a) (aaH a) (aaT a) (aaN a) (aaB a) (aaA a) (aaM a) (oh O) (o1 O) (o2 O) (oN O) (oM O)) [0, 1, 2, 3, 4, 5, 6, 7, 8, 9, 10, 11, 12, 13, 14, 15, 16, 17, 52, 53, 54, 55, 56, 57, 58, 59, 60, 61, 62, 63, 64, 65, 66, 67, 68] [18, 19, 20, 21, 22, 23, 24, 25, 26, 27, 28, 29, 30, 31, 32, 33, 34, 35, 36, 37, 38, 39, 40, 41, 42, 43, 44, 45, 46, 47, 48, 49, 50, 51, 69, 70, 71, 72, 73, 74, 75, 76, 77, 78, 79, 80, 81, 82, 83, 84, 85, 86, 87, 88, 89, 90, 91, 92, 93, 94, 95, 96, 97, 98, 99, 100, 101, 102, 103, 104, 105, 106, 107, 108, 109, 110, 111, 112, 113, 114, 115, 116, 117, 118, 119, 120, 121, 122, 123, 124, 125, 126, 127, 128, 129, 130, 131, 132, 133, 134, 135, 136, 137, 138, 139, 140] (obA a) (obW_ads _ _ _) (obW_ads _ _ _) rfl (by decide +kernel) rfl 141 rfl (by decide +kernel) rfl
set_option maxRecDepth 100000 in
set_option maxHeartbeats 4000000 in
theorem oX6_restore (l : Launch) (G : GG) (a : AT) (O : OS) (hk4 : oK O < 4) (hs4 : oS O ≤ 4) : MU l G yX6_restore wsX6_restore ({ frames := 6, cells := 0, slots := 0, locals := 123 } : Room) [.ref (aaX a)] (obW G a O) (some (.int (rsR (oh O) (oM O)))) (obW G a (rstO O)) := by
  exact MU.wide (kX6_restore l G (aaX a) (aaH a) (aaS a) (aaT a) (aaN a) (aaB a) (aaA a) (aaM a) (aaD a) (oP O) (oh O) (o1 O) (o2 O) (oS O) (oK O) (oN O) (oB O) (oM O) hk4 hs4) [0, 69, 70, 71, 72, 73, 74, 75, 76, 77, 78, 79, 80, 81, 82, 83, 84, 85, 86, 87, 88, 89, 90, 91, 92, 93, 94, 95, 96, 97, 98, 99, 100, 101, 102, 103, 104, 105, 106, 107, 108, 109, 110, 111, 112, 113, 114, 115, 116, 117, 118, 119, 120, 121, 122, 123, 124, 125, 126, 127, 128, 129, 130, 131, 132, 133, 134, 135, 136, 137, 138, 1, 2, 3, 4, 5, 6, 7, 8, 9, 10, 11, 12, 13, 14, 15, 16, 17, 18, 19, 20, 21, 22, 23, 24, 25, 26, 27, 28, 29, 30, 31, 32, 33, 34, 52, 53, 54, 55, 56, 57, 58, 59, 60, 61, 62, 63, 64, 65, 66, 67, 68] [35, 36, 37, 38, 39, 40, 41, 42, 43, 44, 45, 46, 47, 48, 49, 50, 51, 139, 140] (obA a) (obW_ads _ _ _) (obW_ads _ _ _) rfl (by decide +kernel) rfl 141 rfl (by decide +kernel) rfl
set_option maxRecDepth 100000 in
set_option maxHeartbeats 4000000 in
theorem oX6_undo (l : Launch) (G : GG) (a : AT) (O : OS) (hk4 : oK O < 4) (hs4 : oS O ≤ 4) : MU l G yX6_undo wsX6_undo ({ frames := 5, cells := 0, slots := 0, locals := 102 } : Room) [.ref (aaX a)] (obW G a O) (some (.int (unR (oS O)))) (obW G a (undO O)) := by
  exact MU.wide (kX6_undo l G (aaX a) (aaH a) (aaS a) (aaT a) (aaN a) (aaB a) (aaA a) (aaM a) (aaD a) (oP O) (oh O) (o1 O) (o2 O) (oS O) (oK O) (oN O) hk4 hs4) [0, 69, 70, 71, 72, 73, 74, 75, 76, 77, 78, 79, 80, 81, 82, 83, 84, 85, 86, 87, 88, 89, 90, 91, 92, 93, 94, 95, 96, 97, 98, 99, 100, 101, 102, 103, 104, 105, 106, 107, 108, 109, 110, 111, 112, 113, 114, 115, 116, 117, 118, 119, 120, 121, 122, 123, 124, 125, 126, 127, 128, 129, 130, 131, 132, 133, 134, 135, 136, 137, 138, 1, 2, 3, 4, 5, 6, 7, 8, 9, 10, 11, 12, 13, 14, 15, 16, 17] [18, 19, 20, 21, 22, 23, 24, 25, 26, 27, 28, 29, 30, 31, 32, 33, 34, 35, 36, 37, 38, 39, 40, 41, 42, 43, 44, 45, 46, 47, 48, 49, 50, 51, 52, 53, 54, 55, 56, 57, 58, 59, 60, 61, 62, 63, 64, 65, 66, 67, 68, 139, 140] (obA a) (obW_ads _ _ _) (obW_ads _ _ _) rfl (by decide +kernel) rfl 141 rfl (by decide +kernel) rfl
set_option maxRecDepth 100000 in
set_option maxHeartbeats 4000000 in
theorem oX6_clearText (l : Launch) (G : GG) (a : AT) (O : OS)  : MU l G yX6_clearText wsX6_clearText ({ frames := 1, cells := 0, slots := 0, locals := 21 } : Room) [.ref (aaX a)] (obW G a O) (some (.int (nI (oL O)))) (obW G a (clrO O)) := by
  exact MU.wide (kX6_clearText l G (aaX a) (aaH a) (aaT a) (aaQ a) (oL O) (aaN a) (aaB a) (aaA a) (aaM a) (oh O) (o1 O) (o2 O) (of O) (ot O) (oT O)) [0, 139, 140] [1, 2, 3, 4, 5, 6, 7, 8, 9, 10, 11, 12, 13, 14, 15, 16, 17, 18, 19, 20, 21, 22, 23, 24, 25, 26, 27, 28, 29, 30, 31, 32, 33, 34, 35, 36, 37, 38, 39, 40, 41, 42, 43, 44, 45, 46, 47, 48, 49, 50, 51, 52, 53, 54, 55, 56, 57, 58, 59, 60, 61, 62, 63, 64, 65, 66, 67, 68, 69, 70, 71, 72, 73, 74, 75, 76, 77, 78, 79, 80, 81, 82, 83, 84, 85, 86, 87, 88, 89, 90, 91, 92, 93, 94, 95, 96, 97, 98, 99, 100, 101, 102, 103, 104, 105, 106, 107, 108, 109, 110, 111, 112, 113, 114, 115, 116, 117, 118, 119, 120, 121, 122, 123, 124, 125, 126, 127, 128, 129, 130, 131, 132, 133, 134, 135, 136, 137, 138] (obA a) (obW_ads _ _ _) (obW_ads _ _ _) rfl (by decide +kernel) rfl 141 rfl (by decide +kernel) rfl
set_option maxRecDepth 100000 in
set_option maxHeartbeats 4000000 in
theorem oX6_perform (l : Launch) (G : GG) (a : AT) (O : OS) (hk4 : oK O < 4) (hs4 : oS O ≤ 4) (hok : okS (oN O)) (hln : oL O ≤ 60) : MU l G yX6_perform wsX6_perform ({ frames := 7, cells := 0, slots := 0, locals := 160 } : Room) [.ref (aaX a)] (obW G a O) (some (.int ((pfR (oN O) (of O) (oL O) (oT O)).1))) (obW G a (pfmO O)) := by
  exact MU.wide (kX6_perform l G (aaX a) (aaH a) (aaS a) (aaT a) (aaQ a) (oL O) (aaN a) (aaB a) (aaA a) (aaM a) (aaD a) (oP O) (oh O) (o1 O) (o2 O) (oS O) (oK O) (of O) (ot O) (oT O) (oN O) (oB O) hk4 hs4 hok hln) [0, 69, 70, 71, 72, 73, 74, 75, 76, 77, 78, 79, 80, 81, 82, 83, 84, 85, 86, 87, 88, 89, 90, 91, 92, 93, 94, 95, 96, 97, 98, 99, 100, 101, 102, 103, 104, 105, 106, 107, 108, 109, 110, 111, 112, 113, 114, 115, 116, 117, 118, 119, 120, 121, 122, 123, 124, 125, 126, 127, 128, 129, 130, 131, 132, 133, 134, 135, 136, 137, 138, 139, 140, 1, 2, 3, 4, 5, 6, 7, 8, 9, 10, 11, 12, 13, 14, 15, 16, 17, 18, 19, 20, 21, 22, 23, 24, 25, 26, 27, 28, 29, 30, 31, 32, 33, 34] [35, 36, 37, 38, 39, 40, 41, 42, 43, 44, 45, 46, 47, 48, 49, 50, 51, 52, 53, 54, 55, 56, 57, 58, 59, 60, 61, 62, 63, 64, 65, 66, 67, 68] (obA a) (obW_ads _ _ _) (obW_ads _ _ _) rfl (by decide +kernel) rfl 141 rfl (by decide +kernel) rfl
