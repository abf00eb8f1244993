/-! the whole object: its addresses, its numbers, its world -/
abbrev AT : Type := Nat × Nat × Nat × Nat × Nat × (Nat → Nat) × (Nat → Nat) × (Nat → Nat) × (Nat → Nat) × (Nat → Nat → Nat)
abbrev aaX (a : AT) : Nat := a.1
abbrev aaH (a : AT) : Nat := a.2.1
abbrev aaS (a : AT) : Nat := a.2.2.1
abbrev aaT (a : AT) : Nat := a.2.2.2.1
abbrev aaQ (a : AT) : Nat := a.2.2.2.2.1
abbrev aaN (a : AT) : Nat → Nat := a.2.2.2.2.2.1
abbrev aaB (a : AT) : Nat → Nat := a.2.2.2.2.2.2.1
abbrev aaA (a : AT) : Nat → Nat := a.2.2.2.2.2.2.2.1
abbrev aaM (a : AT) : Nat → Nat := a.2.2.2.2.2.2.2.2.1
abbrev aaD (a : AT) : Nat → Nat → Nat := a.2.2.2.2.2.2.2.2.2
abbrev OS : Type := SC × SC × SC × SC × (Nat → SC) × Nat × Nat × Nat × Int32 × Int32 × Int32 × Int32 × (Nat → Int32) × TX
abbrev oN (O : OS) : SC := O.1
abbrev oB (O : OS) : SC := O.2.1
abbrev oA (O : OS) : SC := O.2.2.1
abbrev oM (O : OS) : SC := O.2.2.2.1
abbrev oP (O : OS) : Nat → SC := O.2.2.2.2.1
abbrev oS (O : OS) : Nat := O.2.2.2.2.2.1
abbrev oK (O : OS) : Nat := O.2.2.2.2.2.2.1
abbrev oL (O : OS) : Nat := O.2.2.2.2.2.2.2.1
abbrev oh (O : OS) : Int32 := O.2.2.2.2.2.2.2.2.1
abbrev o1 (O : OS) : Int32 := O.2.2.2.2.2.2.2.2.2.1
abbrev o2 (O : OS) : Int32 := O.2.2.2.2.2.2.2.2.2.2.1
abbrev ot (O : OS) : Int32 := O.2.2.2.2.2.2.2.2.2.2.2.1
abbrev of (O : OS) : Nat → Int32 := O.2.2.2.2.2.2.2.2.2.2.2.2.1
abbrev oT (O : OS) : TX := O.2.2.2.2.2.2.2.2.2.2.2.2.2
def obW (G : GG) (a : AT) (O : OS) : va_W := [(aaX a, .inr (6, [.ref (aaN a 0), .ref (aaB a 0), .ref (aaA a 0), .ref (aaM a 0), .int (oh O), .ref (aaH a), .ref (aaT a), .int (o1 O), .int (o2 O)]))] ++ (stW G (aaN a) (oN O) ++ (stW G (aaB a) (oB O) ++ (stW G (aaA a) (oA O) ++ (stW G (aaM a) (oM O) ++ ([(aaH a, .inr (1, [.int (nI (oS O)), .ref (aaS a)])), (aaS a, .inl (G.2.2.2, 4, .inr (.inr (.inr (.inr (rot (aaD a) (oK O)))))))] ++ (stW G (aaD a 0) (oP O 0) ++ (stW G (aaD a 1) (oP O 1) ++ (stW G (aaD a 2) (oP O 2) ++ (stW G (aaD a 3) (oP O 3) ++ [(aaT a, .inr (5, [.int (nI (oL O)), .ref (aaQ a), .int (nI (tP (oT O))), .int (ot O), .int (tK (oT O)), .int (tR (oT O)), .int (tL (oT O)), .int (tH (oT O)), .int (tD (oT O)), .int (tN (oT O))])), (aaQ a, .inl (G.2.2.1, 60, .inl (of O)))])))))))))
def stA (a : Nat → Nat) : List Nat := [a 0, a 1, a 2, a 3, a 4, a 5, a 6, a 7, a 8, a 9, a 10, a 11, a 12, a 13, a 14, a 15, a 16]
def obA (a : AT) : List Nat := [aaX a] ++ (stA (aaN a) ++ (stA (aaB a) ++ (stA (aaA a) ++ (stA (aaM a) ++ ([aaH a, aaS a] ++ (stA (aaD a 0) ++ (stA (aaD a 1) ++ (stA (aaD a 2) ++ (stA (aaD a 3) ++ [aaT a, aaQ a])))))))))
set_option maxRecDepth 100000 in
theorem obW_ads (G : GG) (a : AT) (O : OS) : (obW G a O).map (fun q => q.1) = obA a := rfl
set_option maxRecDepth 100000 in
theorem obW_len (G : GG) (a : AT) (O : OS) : (obW G a O).length = 141 := rfl
set_option maxRecDepth 100000 in
theorem obW_0 (G : GG) (a : AT) (O : OS) : (obW G a O)[0]? = some (aaX a, .inr (6, [.ref (aaN a 0), .ref (aaB a 0), .ref (aaA a 0), .ref (aaM a 0), .int (oh O), .ref (aaH a), .ref (aaT a), .int (o1 O), .int (o2 O)])) := rfl
/-- the state before is kept -/
def setB (O : OS) : OS := (oN O, oN O, oA O, oM O, oP O, oS O, oK O, oL O, oh O, o1 O, o2 O, ot O, of O, oT O)
/-- an act -/
def recO (O : OS) (q : Int32 × SC) : OS := (q.2, oN O, oA O, oM O, rcP q.1 (oS O) (oK O) (oP O) (oN O), rcS q.1 (oS O), rcK q.1 (oS O) (oK O), oL O, oh O, o1 O, o2 O, ot O, of O, oT O)
def undO (O : OS) : OS := (unN (oS O) (oK O) (oP O) (oN O), oB O, oA O, oM O, oP O, oS O - 1, oK O, oL O, oh O, o1 O, o2 O, ot O, of O, oT O)
def kepO (O : OS) : OS := (oN O, oB O, oA O, oN O, oP O, oS O, oK O, oL O, 1, o1 O, o2 O, ot O, of O, oT O)
def rstO (O : OS) : OS := (rsN (oh O) (oN O) (oM O), (if oh O = 0 then oB O else oN O), oA O, oM O, rcP (rsR (oh O) (oM O)) (oS O) (oK O) (oP O) (oN O), rcS (rsR (oh O) (oM O)) (oS O), rcK (rsR (oh O) (oM O)) (oS O) (oK O), oL O, oh O, o1 O, o2 O, ot O, of O, oT O)
def clrO (O : OS) : OS := (oN O, oB O, oA O, oM O, oP O, oS O, oK O, 0, oh O, o1 O, o2 O, ot O, of O, oT O)
def pfmO (O : OS) : OS := ((pfR (oN O) (of O) (oL O) (oT O)).2.2.1, bfE (ffL (of O) (oL O) 60 1 (uP (oT O) 0) 0).1 (oN O) (oB O), oA O, oM O, rcP (pfR (oN O) (of O) (oL O) (oT O)).1 (oS O) (oK O) (oP O) (oN O), rcS (pfR (oN O) (of O) (oL O) (oT O)).1 (oS O), rcK (pfR (oN O) (of O) (oL O) (oT O)).1 (oS O) (oK O), oL O, oh O, s1E (o1 O) (pfR (oN O) (of O) (oL O) (oT O)).2.1, s2E (o2 O) (pfR (oN O) (of O) (oL O) (oT O)).2.1, (pfR (oN O) (of O) (oL O) (oT O)).2.2.2.2, of O, (pfR (oN O) (of O) (oL O) (oT O)).2.2.2.1)
theorem recO_no {O : OS} {v : Int32} (hv : v < 0) : recO O (v, oN O) = setB O := by
  have a1 : rcS v (oS O) = oS O := if_pos hv
  have a2 : rcK v (oS O) (oK O) = oK O := if_pos hv
  have a3 : rcP v (oS O) (oK O) (oP O) (oN O) = oP O := if_pos hv
  show ((oN O, oN O, oA O, oM O, rcP v (oS O) (oK O) (oP O) (oN O), rcS v (oS O), rcK v (oS O) (oK O), oL O, oh O, o1 O, o2 O, ot O, of O, oT O) : OS) = _
  rw [a1, a2, a3]
  rfl
/-! a contract over a part of a world is one over the whole -/
theorem aw_sub {big w : va_W} (isC : List Nat) (hcut : isC.map (fun i => big[i]?) = w.map some) {q : Nat} (h : aw w q) : aw big q := by
  obtain ⟨k, e, hk⟩ := h
  have h1 : (isC.map (fun i => big[i]?))[k]? = some (some (q, e)) := by rw [hcut, List.getElem?_map, hk]; rfl
  rw [List.getElem?_map] at h1
  cases hi : isC[k]? with
  | none => rw [hi] at h1; cases h1
  | some i => rw [hi] at h1; exact ⟨i, e, Option.some.inj h1⟩
theorem RO.wide {l : Launch} {G : GG} {y : MethodName} {ws : List Cond} {rm : Room} {av : List Value} {w : va_W} {v : Value} (h : RO l G y ws rm av w v) (isC : List Nat) {big : va_W} (hcut : isC.map (fun i => big[i]?) = w.map some) (hnd : va_nd isC = true) : RO l G y ws rm av big v := by
  intro p e h1 h2 h3 s m args below hf hS hP hk
  obtain ⟨ha, hP1, hD1, hK1⟩ := hP
  obtain ⟨n, o, a, b, c, d, L, e1, e2⟩ := h p e h1 h2 h3 s m args below hf hS ⟨ha, cut_P hP1 isC hcut, hD1.sub isC hnd hcut, hK1⟩ hk
  exact ⟨n, o, a, b, c, d, L, e1, e2⟩
theorem MU.wide {l : Launch} {G : GG} {y : MethodName} {ws : List Cond} {rm : Room} {av : List Value} {w w' : va_W} {r : Option Value} (h : MU l G y ws rm av w r w') (isC oth : List Nat) {big big' : va_W} (ads : List Nat) (ho0 : big.map (fun q => q.1) = ads) (ho1 : big'.map (fun q => q.1) = ads) (hcut : isC.map (fun i => big[i]?) = w.map some) (hnd : va_nd isC = true) (ho2 : oth.map (fun i => big'[i]?) = oth.map (fun i => big[i]?)) (nw : Nat) (hnw : big.length = nw) (ho3 : (List.range nw).all (fun i => isC.contains i || oth.contains i) = true) (ho4 : isC.map (fun i => big'[i]?) = w'.map some) : MU l G y ws rm av big r big' := by
  intro p e h1 h2 h3 s m args below hf hS hP hk
  obtain ⟨ha, hP1, hD1, hK1⟩ := hP
  obtain ⟨n, o, a, b, c, ⟨d1, d2, d3⟩, L, e1, e2⟩ := h p e h1 h2 h3 s m args below hf hS ⟨ha, cut_P hP1 isC hcut, hD1.sub isC hnd hcut, hK1⟩ hk
  exact ⟨n, o, a, b, c, ⟨d1, back_P hP1 hD1 isC oth hcut (ho1.trans ho0.symm) ho2 nw hnw ho3 ho4 d3 d2, ⟨d3.1, fun q hq hn => d3.2 q hq (fun g => hn (aw_sub isC hcut g))⟩⟩, L, e1, fun q hq => aw_sub isC hcut (e2 q hq)⟩

