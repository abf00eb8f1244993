/-! rows for longs, and calls over the whole object's world -/
section LWROWS
variable {cx : CX} {z : Nat × Nat} {cc : ByteArray} {Ts : List Cond} {own : String} {rm : Room} {nL : Nat} {ws : va_W} {lv : List (Nat × Value)} {pc : Nat} {st : List Value}
theorem x_ldc2 (C : XC cx cc Ts own rm nL) {index : Nat} {v : Int64} (hm : Cond.constantLong own index v ∈ Ts) (hd : decode cc pc = .ok (.ldc2_w index, 3))
    (kk : X cx z ws lv (pc + 3) (.long v :: st)) : X cx z ws lv pc st := by
  obtain ⟨p, l, e, R, s, m, args, below, meth, c, Inv, G, Q, n⟩ := cx
  obtain ⟨hx, hb, hml, hnn, hown, hts, hK, hI0, hR, hlocks⟩ := C
  intro H locs hI ls hl
  exact lv_ldc2 hx hb hown (hts _ hm) hd (kk H locs hI ls hl)
theorem x_lload_n (C : XC cx cc Ts own rm nL) {k : Fin 4} {i : Nat} (j : Nat) {x : Int64} (hd : decode cc pc = .ok (.lload_n k, 1)) (hi : (k : Nat) = i) (hv : lv[j]? = some (i, .long x))
    (kk : X cx z ws lv (pc + 1) (.long x :: st)) : X cx z ws lv pc st := by
  obtain ⟨p, l, e, R, s, m, args, below, meth, c, Inv, G, Q, n⟩ := cx
  obtain ⟨hx, hb, hml, hnn, hown, hts, hK, hI0, hR, hlocks⟩ := C
  intro H locs hI ls hl
  exact lv_lload_n hx hb hd hi (lv_at hl j hv) (kk H locs hI ls hl)
theorem x_lload (C : XC cx cc Ts own rm nL) {i : Nat} (j : Nat) {x : Int64} (hd : decode cc pc = .ok (.lload i, 2)) (hv : lv[j]? = some (i, .long x))
    (kk : X cx z ws lv (pc + 2) (.long x :: st)) : X cx z ws lv pc st := by
  obtain ⟨p, l, e, R, s, m, args, below, meth, c, Inv, G, Q, n⟩ := cx
  obtain ⟨hx, hb, hml, hnn, hown, hts, hK, hI0, hR, hlocks⟩ := C
  intro H locs hI ls hl
  exact lv_lload hx hb hd (lv_at hl j hv) (kk H locs hI ls hl)
theorem x_lstore_n (C : XC cx cc Ts own rm nL) {k : Fin 4} {i : Nat} {x : Int64} (lv' : List (Nat × Value)) (hd : decode cc pc = .ok (.lstore_n k, 1)) (hi : (k : Nat) = i) (hn : i + 1 < nL) (hv : (i, Value.long x) :: lv.filter (fun q => !(q.1 == i) && (!(q.1 == i + 1) && !(q.1 + 1 == i && q.2.category == 2))) = lv')
    (kk : X cx z ws lv' (pc + 1) st) : X cx z ws lv pc (.long x :: st) := by
  obtain ⟨p, l, e, R, s, m, args, below, meth, c, Inv, G, Q, n⟩ := cx
  obtain ⟨hx, hb, hml, hnn, hown, hts, hK, hI0, hR, hlocks⟩ := C
  intro H locs hI ls hl
  exact lv_lstore_n hx hb hd hi hl (by rw [hnn]; exact hn) hv (fun ls' hl' => kk H locs hI ls' hl')
theorem x_lstore (C : XC cx cc Ts own rm nL) {i : Nat} {x : Int64} (lv' : List (Nat × Value)) (hd : decode cc pc = .ok (.lstore i, 2)) (hn : i + 1 < nL) (hv : (i, Value.long x) :: lv.filter (fun q => !(q.1 == i) && (!(q.1 == i + 1) && !(q.1 + 1 == i && q.2.category == 2))) = lv')
    (kk : X cx z ws lv' (pc + 2) st) : X cx z ws lv pc (.long x :: st) := by
  obtain ⟨p, l, e, R, s, m, args, below, meth, c, Inv, G, Q, n⟩ := cx
  obtain ⟨hx, hb, hml, hnn, hown, hts, hK, hI0, hR, hlocks⟩ := C
  intro H locs hI ls hl
  exact lv_lstore hx hb hd hl (by rw [hnn]; exact hn) hv (fun ls' hl' => kk H locs hI ls' hl')
theorem x_ladd (C : XC cx cc Ts own rm nL) {x y : Int64} (hd : decode cc pc = .ok (.ladd, 1))
    (kk : X cx z ws lv (pc + 1) (.long (x + y) :: st)) : X cx z ws lv pc (.long y :: .long x :: st) := by
  obtain ⟨p, l, e, R, s, m, args, below, meth, c, Inv, G, Q, n⟩ := cx
  obtain ⟨hx, hb, hml, hnn, hown, hts, hK, hI0, hR, hlocks⟩ := C
  intro H locs hI ls hl
  exact lv_ladd hx hb hd (kk H locs hI ls hl)
theorem x_lmul (C : XC cx cc Ts own rm nL) {x y : Int64} (hd : decode cc pc = .ok (.lmul, 1))
    (kk : X cx z ws lv (pc + 1) (.long (x * y) :: st)) : X cx z ws lv pc (.long y :: .long x :: st) := by
  obtain ⟨p, l, e, R, s, m, args, below, meth, c, Inv, G, Q, n⟩ := cx
  obtain ⟨hx, hb, hml, hnn, hown, hts, hK, hI0, hR, hlocks⟩ := C
  intro H locs hI ls hl
  exact lv_lmul hx hb hd (kk H locs hI ls hl)
theorem x_i2l (C : XC cx cc Ts own rm nL) {x : Int32} (hd : decode cc pc = .ok (.i2l, 1))
    (kk : X cx z ws lv (pc + 1) (.long x.toInt64 :: st)) : X cx z ws lv pc (.int x :: st) := by
  obtain ⟨p, l, e, R, s, m, args, below, meth, c, Inv, G, Q, n⟩ := cx
  obtain ⟨hx, hb, hml, hnn, hown, hts, hK, hI0, hR, hlocks⟩ := C
  intro H locs hI ls hl
  exact lv_i2l hx hb hd rfl (kk H locs hI ls hl)
theorem x_lcmp (C : XC cx cc Ts own rm nL) {x y : Int64} (hxy : x = y) (hd : decode cc pc = .ok (.lcmp, 1))
    (kk : X cx z ws lv (pc + 1) (.int 0 :: st)) : X cx z ws lv pc (.long y :: .long x :: st) := by
  obtain ⟨p, l, e, R, s, m, args, below, meth, c, Inv, G, Q, n⟩ := cx
  obtain ⟨hx, hb, hml, hnn, hown, hts, hK, hI0, hR, hlocks⟩ := C
  intro H locs hI ls hl
  have h0 : lg_cmp x y = 0 := (lg_cmp_eq x y).mpr hxy
  have k2 := kk H locs hI ls hl
  rw [← h0] at k2
  exact W.lcmp hx hb hd k2
theorem x_lret (C : XC cx cc Ts own rm nL) {v v' : Int64} {w : va_W} (E : XE cx z (some .long) (some (.long v')) w) (hd : decode cc pc = .ok (.lreturn, 1)) (hv : v = v') (hw : ws = w) : X cx z ws lv pc [.long v] := by
  obtain ⟨p, l, e, R, s, m, args, below, meth, c, Inv, G, Q, n⟩ := cx
  obtain ⟨hx, hb, hml, hnn, hown, hts, hK, hI0, hR, hlocks⟩ := C
  obtain ⟨hr, Qc, free, hQ, hE⟩ := E
  subst hv
  subst hw
  subst hQ
  intro H locs hI ls hl
  exact W.lret hx hb hr (hE H locs hI).1 (hE H locs hI).2 hd
theorem x_zret1 (C : XC cx cc Ts own rm nL) {w : va_W} (E : XE cx z (some .boolean) (some (.int 1)) w) (hd : decode cc pc = .ok (.ireturn, 1)) (hw : ws = w) : X cx z ws lv pc [.int 1] := by
  have e : (1 : Int32) = b2i True := rfl
  rw [e] at E ⊢
  exact x_zret C E hd rfl hw
theorem x_oRO (C : XC cx cc Ts own rm nL) {y : MethodName} {rmy : Room} (As rest : List Value) {a : AT} {O : OS} {v : Value} {index na : Nat} {maxL : Nat} {ret : Option FieldType} {bytes : ByteArray} {wsy ws2 : List Cond} (hg : GoodIn Ts (wsV own index RX6 y wsy)) (hw : wsy = Cond.code y bytes maxL ret :: ws2) (hy : y.cls = RX6 ∧ y.cls ≠ "java/lang/invoke/MethodHandle" ∧ y.cls ≠ "java/lang/invoke/VarHandle" ∧ (parseMethodDescriptor y.desc).map (fun d => d.parameters.length) = some na) (hna : As.length = na) (hM : RO (xl cx) (xG cx) y wsy rmy (.ref (aaX a) :: As) (obW (xG cx) a O) v) (hst : st = As.reverse ++ .ref (aaX a) :: rest) (hrc : rmy.cells = 0) (hrs : rmy.slots = 0) (hroom : rmy.frames + 1 ≤ rm.frames ∧ 8 + (maxL + 11) + rmy.locals ≤ rm.locals) (hcat : (rest.map fun v => v.category).sum ≤ 8) (hz : z.1 ≤ rm.cells ∧ z.2 ≤ rm.slots) (hd : decode cc pc = .ok (.invokevirtual index, 3))
    (kk : X cx z (obW (xG cx) a O) lv (pc + 3) (v :: rest)) : X cx z (obW (xG cx) a O) lv pc st := by
  obtain ⟨p, l, e, R, s, m, args, below, meth, c, Inv, G, Q, n⟩ := cx
  obtain ⟨hx, hb, hml, hnn, hown, hts, hK, hI0, hR, hlocks⟩ := C
  intro H locs hI ls hl
  subst hst
  subst hR
  have hP0 := hI0 _ _ _ hI
  intro T hT X0
  have hr := va_runV (As := As) (rest := rest) ⟨hx, hb, hml, hown, hts⟩ hM (cwV na hts hg hw hrc hrs hy hroom) ⟨CPc_blind _ _ _, va_recv (q := (RX6, TX6, 9)) (ci := 6) (q0 := 0) hK.1 hP0.1 rfl (obW_0 _ _ _), fun U hU hW => ⟨rfl, by rw [hU]; exact hP0.1, hP0.2, hK.warm hW⟩⟩ (H := H) (locs := locs) (cells := z.1) (slots := z.2) (g := F0 m pc ls (As.reverse ++ .ref (aaX a) :: rest)) (e := e) (below := below) (meth := meth) rfl hna hl.1 rfl (lv_room hcat) hd ⟨hz.1, hz.2⟩
  obtain ⟨v0, st₀, t, T', L, h0, X', hL, e1, e2, hq, stp⟩ := hr T hT X0
  obtain ⟨hv, hh⟩ := hq
  cases hv
  obtain ⟨t2, a1, b1⟩ := kk H locs hI ls hl T' (by rw [e1, hh, h0]) (Stand.forget X' (fun q h => (hL q h).elim))
  exact ⟨t2, stp t2 a1, b1⟩
theorem x_oMU (C : XC cx cc Ts own rm nL) {y : MethodName} {rmy : Room} (As rest : List Value) {a : AT} {O O' : OS} {r : Option Value} {index na : Nat} {maxL : Nat} {ret : Option FieldType} {bytes : ByteArray} {wsy ws2 : List Cond} (hg : GoodIn Ts (wsV own index RX6 y wsy)) (hw : wsy = Cond.code y bytes maxL ret :: ws2) (hy : y.cls = RX6 ∧ y.cls ≠ "java/lang/invoke/MethodHandle" ∧ y.cls ≠ "java/lang/invoke/VarHandle" ∧ (parseMethodDescriptor y.desc).map (fun d => d.parameters.length) = some na) (hna : As.length = na) (M : XM cx) (hM : MU (xl cx) (xG cx) y wsy rmy (.ref (aaX a) :: As) (obW (xG cx) a O) r (obW (xG cx) a O')) (hst : st = As.reverse ++ .ref (aaX a) :: rest) (hrc : rmy.cells = 0) (hrs : rmy.slots = 0) (hroom : rmy.frames + 1 ≤ rm.frames ∧ 8 + (maxL + 11) + rmy.locals ≤ rm.locals) (hcat : (rest.map fun v => v.category).sum ≤ 8) (hz : z.1 ≤ rm.cells ∧ z.2 ≤ rm.slots) (hd : decode cc pc = .ok (.invokevirtual index, 3))
    (kk : X cx z (obW (xG cx) a O') lv (pc + 3) (r.toList ++ rest)) : X cx z (obW (xG cx) a O) lv pc st := by
  obtain ⟨p, l, e, R, s, m, args, below, meth, c, Inv, G, Q, n⟩ := cx
  obtain ⟨hx, hb, hml, hnn, hown, hts, hK, hI0, hR, hlocks⟩ := C
  intro H locs hI ls hl
  subst hst
  subst hR
  have hP0 := hI0 _ _ _ hI
  intro T hT X0
  have hr := va_runV (As := As) (rest := rest) ⟨hx, hb, hml, hown, hts⟩ hM (cwV na hts hg hw hrc hrs hy hroom) ⟨CPc_blind _ _ _, va_recv (q := (RX6, TX6, 9)) (ci := 6) (q0 := 0) hK.1 hP0.1 rfl (obW_0 _ _ _), fun U hU hW => ⟨rfl, by rw [hU]; exact hP0.1, hP0.2, hK.warm hW⟩⟩ (H := H) (locs := locs) (cells := z.1) (slots := z.2) (g := F0 m pc ls (As.reverse ++ .ref (aaX a) :: rest)) (e := e) (below := below) (meth := meth) rfl hna hl.1 rfl (lv_room hcat) hd ⟨hz.1, hz.2⟩
  obtain ⟨v0, st₀, t, T', L, h0, X', hL, e1, e2, hq, stp⟩ := hr T hT X0
  obtain ⟨hv, hP1, hF1⟩ := hq
  cases hv
  obtain ⟨A, hA⟩ := M
  obtain ⟨hP, hD, hS⟩ := (hA _ _ _).mp hI
  have hfA : ∀ q, aw (obW G a O) q → A q := fun q ⟨k, e, hk⟩ => hD.2 k (q, e) hk
  have hF2 : H.size ≤ t.heap.size ∧ ∀ q : Nat, q < H.size → ¬ aw (obW G a O) q → t.heap[q]? = H[q]? := by rw [← h0]; exact hF1
  have hS' : va_S A s.heap t.heap (locs ++ L) := ⟨Nat.le_trans hS.1 hF2.1, fun q h1 h2 => by rw [hF2.2 q (Nat.lt_of_lt_of_le h1 hS.1) (fun z => h2 (hfA q z))]; exact hS.2.1 q h1 h2, fun q hq => by
    rcases List.mem_append.mp hq with h | h
    · exact hS.2.2 q h
    · exact hfA _ (hL q h)⟩
  obtain ⟨t2, a1, b1⟩ := kk t.heap (locs ++ L) ((hA _ _ _).mpr ⟨hP1, back_D hD ((obW_ads G a O').trans (obW_ads G a O).symm), hS'⟩) ls hl T' e1 X'
  exact ⟨t2, stp t2 a1, b1⟩
theorem x_sRO (C : XC cx cc Ts own rm nL) {y : MethodName} {rmy : Room} (As rest : List Value) {a : AT} {O : OS} {v : Value} {index na : Nat} {maxL : Nat} {ret : Option FieldType} {bytes : ByteArray} {wsy ws2 : List Cond} (hg : GoodIn Ts (va_wsS own index y wsy)) (hw : wsy = Cond.code y bytes maxL ret :: ws2) (hy : y.cls ≠ "java/lang/invoke/MethodHandle" ∧ y.cls ≠ "java/lang/invoke/VarHandle" ∧ (parseMethodDescriptor y.desc).map (fun d => d.parameters.length) = some na) (hna : As.length = na) (hM : RO (xl cx) (xG cx) y wsy rmy As (obW (xG cx) a O) v) (hst : st = As.reverse ++ rest) (hrc : rmy.cells = 0) (hrs : rmy.slots = 0) (hroom : rmy.frames + 1 ≤ rm.frames ∧ 8 + (maxL + 11) + rmy.locals ≤ rm.locals) (hcat : (rest.map fun v => v.category).sum ≤ 8) (hz : z.1 ≤ rm.cells ∧ z.2 ≤ rm.slots) (hd : decode cc pc = .ok (.invokestatic index, 3))
    (kk : X cx z (obW (xG cx) a O) lv (pc + 3) (v :: rest)) : X cx z (obW (xG cx) a O) lv pc st := by
  obtain ⟨p, l, e, R, s, m, args, below, meth, c, Inv, G, Q, n⟩ := cx
  obtain ⟨hx, hb, hml, hnn, hown, hts, hK, hI0, hR, hlocks⟩ := C
  intro H locs hI ls hl
  subst hst
  subst hR
  have hP0 := hI0 _ _ _ hI
  intro T hT X0
  have hr := va_runS (As := As) (rest := rest) ⟨hx, hb, hml, hown, hts⟩ hM (va_cwS na hts hg hw hrc hrs hy hroom) ⟨CPc_blind _ _ _, fun U hU hW => ⟨rfl, by rw [hU]; exact hP0.1, hP0.2, hK.warm hW⟩⟩ (H := H) (locs := locs) (cells := z.1) (slots := z.2) (g := F0 m pc ls (As.reverse ++ rest)) (e := e) (below := below) (meth := meth) rfl hna hl.1 rfl (lv_room hcat) hd ⟨hz.1, hz.2⟩
  obtain ⟨v0, st₀, t, T', L, h0, X', hL, e1, e2, hq, stp⟩ := hr T hT X0
  obtain ⟨hv, hh⟩ := hq
  cases hv
  obtain ⟨t2, a1, b1⟩ := kk H locs hI ls hl T' (by rw [e1, hh, h0]) (Stand.forget X' (fun q h => (hL q h).elim))
  exact ⟨t2, stp t2 a1, b1⟩
theorem x_sMU (C : XC cx cc Ts own rm nL) {y : MethodName} {rmy : Room} (As rest : List Value) {a : AT} {O O' : OS} {r : Option Value} {index na : Nat} {maxL : Nat} {ret : Option FieldType} {bytes : ByteArray} {wsy ws2 : List Cond} (hg : GoodIn Ts (va_wsS own index y wsy)) (hw : wsy = Cond.code y bytes maxL ret :: ws2) (hy : y.cls ≠ "java/lang/invoke/MethodHandle" ∧ y.cls ≠ "java/lang/invoke/VarHandle" ∧ (parseMethodDescriptor y.desc).map (fun d => d.parameters.length) = some na) (hna : As.length = na) (M : XM cx) (hM : MU (xl cx) (xG cx) y wsy rmy As (obW (xG cx) a O) r (obW (xG cx) a O')) (hst : st = As.reverse ++ rest) (hrc : rmy.cells = 0) (hrs : rmy.slots = 0) (hroom : rmy.frames + 1 ≤ rm.frames ∧ 8 + (maxL + 11) + rmy.locals ≤ rm.locals) (hcat : (rest.map fun v => v.category).sum ≤ 8) (hz : z.1 ≤ rm.cells ∧ z.2 ≤ rm.slots) (hd : decode cc pc = .ok (.invokestatic index, 3))
    (kk : X cx z (obW (xG cx) a O') lv (pc + 3) (r.toList ++ rest)) : X cx z (obW (xG cx) a O) lv pc st := by
  obtain ⟨p, l, e, R, s, m, args, below, meth, c, Inv, G, Q, n⟩ := cx
  obtain ⟨hx, hb, hml, hnn, hown, hts, hK, hI0, hR, hlocks⟩ := C
  intro H locs hI ls hl
  subst hst
  subst hR
  have hP0 := hI0 _ _ _ hI
  intro T hT X0
  have hr := va_runS (As := As) (rest := rest) ⟨hx, hb, hml, hown, hts⟩ hM (va_cwS na hts hg hw hrc hrs hy hroom) ⟨CPc_blind _ _ _, fun U hU hW => ⟨rfl, by rw [hU]; exact hP0.1, hP0.2, hK.warm hW⟩⟩ (H := H) (locs := locs) (cells := z.1) (slots := z.2) (g := F0 m pc ls (As.reverse ++ rest)) (e := e) (below := below) (meth := meth) rfl hna hl.1 rfl (lv_room hcat) hd ⟨hz.1, hz.2⟩
  obtain ⟨v0, st₀, t, T', L, h0, X', hL, e1, e2, hq, stp⟩ := hr T hT X0
  obtain ⟨hv, hP1, hF1⟩ := hq
  cases hv
  obtain ⟨A, hA⟩ := M
  obtain ⟨hP, hD, hS⟩ := (hA _ _ _).mp hI
  have hfA : ∀ q, aw (obW G a O) q → A q := fun q ⟨k, e, hk⟩ => hD.2 k (q, e) hk
  have hF2 : H.size ≤ t.heap.size ∧ ∀ q : Nat, q < H.size → ¬ aw (obW G a O) q → t.heap[q]? = H[q]? := by rw [← h0]; exact hF1
  have hS' : va_S A s.heap t.heap (locs ++ L) := ⟨Nat.le_trans hS.1 hF2.1, fun q h1 h2 => by rw [hF2.2 q (Nat.lt_of_lt_of_le h1 hS.1) (fun z => h2 (hfA q z))]; exact hS.2.1 q h1 h2, fun q hq => by
    rcases List.mem_append.mp hq with h | h
    · exact hS.2.2 q h
    · exact hfA _ (hL q h)⟩
  obtain ⟨t2, a1, b1⟩ := kk t.heap (locs ++ L) ((hA _ _ _).mpr ⟨hP1, back_D hD ((obW_ads G a O').trans (obW_ads G a O).symm), hS'⟩) ls hl T' e1 X'
  exact ⟨t2, stp t2 a1, b1⟩
end LWROWS
