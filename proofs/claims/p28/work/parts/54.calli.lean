/-! constructors: a constructor calls another -/
section NROWS4
variable {cx : CX} {z : Nat × Nat} {cc : ByteArray} {Ts : List Cond} {own : String} {rm : Room} {nL : Nat} {ws : va_W} {lv : List (Nat × Value)} {pc : Nat} {st : List Value}
theorem x_callI (C : XC cx cc Ts own rm nL) (N : XN cx) {y : MethodName} {rmy : Room} (rest : List Value) {b : Nat} {e0 : va_E} {mc ms : Nat} {W0 : (Nat → Nat) → va_W} (q0 : Nat) (isR : List Nat) (wr : va_W) {index maxL : Nat} {bytes : ByteArray} {wsy ws2 : List Cond} (hg : GoodIn Ts wsy) (hlk : Cond.methodLink own index y ∈ Ts) (hinst : Cond.instanceMethod y ∈ Ts) (hini : Cond.initialized y.cls ∈ Ts) (hy1 : y.name = "<init>") (hw : wsy = Cond.code y bytes maxL none :: ws2) (hy : y.cls ≠ "java/lang/invoke/MethodHandle" ∧ y.cls ≠ "java/lang/invoke/VarHandle" ∧ (parseMethodDescriptor y.desc).map (fun d => d.parameters.length) = some 0)
    (hM : ∀ sz, NI (xl cx) (xG cx) y wsy rmy [.ref b] [(b, e0)] sz mc ms W0) (hcut : [q0].map (fun i => ws[i]?) = [(b, e0)].map some) (hR2 : isR.map (fun i => ws[i]?) = wr.map some) (hnd : va_nd isR = true) (hdis : ∀ i ∈ isR, i ∉ [q0]) (hst : st = .ref b :: rest) (hrc : rmy.cells = mc) (hrs : rmy.slots = ms) (hroom : rmy.frames + 1 ≤ rm.frames ∧ 8 + (maxL + 11) + rmy.locals ≤ rm.locals) (hcat : (rest.map fun v => v.category).sum ≤ 8) (hz : z.1 + mc ≤ rm.cells ∧ z.2 + ms ≤ rm.slots) (hd : decode cc pc = .ok (.invokespecial index, 3))
    (kk : ∀ a : Nat → Nat, X cx (z.1 + mc, z.2 + ms) (wr ++ W0 a) lv (pc + 3) rest) : X cx z ws lv pc st := by
  obtain ⟨p, l, e, R, s, m, args, below, meth, c, Inv, G, Q, n⟩ := cx
  obtain ⟨hx, hb, hml, hnn, hown, hts, hK, hI0, hR, hlocks⟩ := C
  obtain ⟨A, hA, hA2⟩ := N
  intro H locs hI ls hl
  subst hst
  subst hR
  obtain ⟨hP, hD, hS⟩ := (hA _ _ _).mp hI
  have hPc : va_P G.1 vwCl [(b, e0)] H := cut_P hP [q0] hcut
  have hDc : va_D (fun _ => True) [(b, e0)] := ((hI0 _ _ _ hI).2).sub [q0] (by rfl) hcut
  have hFc := va_free (wc := [(b, e0)]) hD hS hA2 [q0] hcut
  intro T hT X0
  have hr := va_runI (As := []) (rest := rest) ⟨hx, hb, hml, hown, hts⟩ (hM H.size) (cwI 0 hts hg hw hrc hrs (hts _ hini) (hts _ hlk) (hts _ hinst) hy1 hy hroom) ⟨CPn_blind _ _ _ _, fun U hU hW => ⟨rfl, by rw [hU], by rw [hU]; exact hPc, hDc, hK.warm hW⟩⟩ (H := H) (locs := locs) (cells := z.1) (slots := z.2) (g := F0 m pc ls (.ref b :: rest)) (e := e) (below := below) (meth := meth) rfl rfl hl.1 rfl (lv_room hcat) hd hz
  obtain ⟨v0, st₀, t, T', L, h0, X', hL, e1, e2, hq, stp⟩ := hr T hT X0
  obtain ⟨hv, ⟨a, hP1, hD1⟩, hF1⟩ := hq
  cases hv
  have hF2 : H.size ≤ t.heap.size ∧ ∀ q : Nat, q < H.size → ¬ va_A [(b, e0)] H.size q → t.heap[q]? = H[q]? := by rw [← h0]; rw [← h0] at hF1; exact hF1
  obtain ⟨hPj, hDj⟩ := va_join hP hD [q0] isR hcut hR2 hnd hdis hF2.2 hFc hP1 hD1
  have hS' : va_S A s.heap t.heap (locs ++ L) := ⟨Nat.le_trans hS.1 hF2.1, fun q h1 h2 => by rw [hF2.2 q (Nat.lt_of_lt_of_le h1 hS.1) (fun zz => h2 (hFc q zz))]; exact hS.2.1 q h1 h2, fun q hq => by
    rcases List.mem_append.mp hq with h | h
    · exact hS.2.2 q h
    · exact hFc _ (hL q h)⟩
  obtain ⟨t2, a1, b1⟩ := kk a t.heap (locs ++ L) ((hA _ _ _).mpr ⟨hPj, hDj, hS'⟩) ls hl T' e1 X'
  exact ⟨t2, stp t2 a1, b1⟩
theorem x_callIN (C : XC cx cc Ts own rm nL) (N : XN cx) {y : MethodName} {rmy : Room} (rest : List Value) {b : Nat} {e0 : va_E} {mc ms : Nat} {W0 : (Nat → Nat) → va_W} (q0 : Nat) (isR : List Nat) (wr : va_W) {index maxL : Nat} {bytes : ByteArray} {wsy ws2 : List Cond} (hg : GoodIn Ts wsy) {host : String} (hnest : Cond.methodLinkNest own index y host ∈ xN) (hinst : Cond.instanceMethod y ∈ Ts) (hini : Cond.initialized y.cls ∈ Ts) (hy1 : y.name = "<init>") (hw : wsy = Cond.code y bytes maxL none :: ws2) (hy : y.cls ≠ "java/lang/invoke/MethodHandle" ∧ y.cls ≠ "java/lang/invoke/VarHandle" ∧ (parseMethodDescriptor y.desc).map (fun d => d.parameters.length) = some 0)
    (hM : ∀ sz, NI (xl cx) (xG cx) y wsy rmy [.ref b] [(b, e0)] sz mc ms W0) (hcut : [q0].map (fun i => ws[i]?) = [(b, e0)].map some) (hR2 : isR.map (fun i => ws[i]?) = wr.map some) (hnd : va_nd isR = true) (hdis : ∀ i ∈ isR, i ∉ [q0]) (hst : st = .ref b :: rest) (hrc : rmy.cells = mc) (hrs : rmy.slots = ms) (hroom : rmy.frames + 1 ≤ rm.frames ∧ 8 + (maxL + 11) + rmy.locals ≤ rm.locals) (hcat : (rest.map fun v => v.category).sum ≤ 8) (hz : z.1 + mc ≤ rm.cells ∧ z.2 + ms ≤ rm.slots) (hd : decode cc pc = .ok (.invokespecial index, 3))
    (kk : ∀ a : Nat → Nat, X cx (z.1 + mc, z.2 + ms) (wr ++ W0 a) lv (pc + 3) rest) : X cx z ws lv pc st := by
  obtain ⟨p, l, e, R, s, m, args, below, meth, c, Inv, G, Q, n⟩ := cx
  obtain ⟨hx, hb, hml, hnn, hown, hts, hK, hI0, hR, hlocks⟩ := C
  obtain ⟨A, hA, hA2⟩ := N
  intro H locs hI ls hl
  subst hst
  subst hR
  obtain ⟨hP, hD, hS⟩ := (hA _ _ _).mp hI
  have hPc : va_P G.1 vwCl [(b, e0)] H := cut_P hP [q0] hcut
  have hDc : va_D (fun _ => True) [(b, e0)] := ((hI0 _ _ _ hI).2).sub [q0] (by rfl) hcut
  have hFc := va_free (wc := [(b, e0)]) hD hS hA2 [q0] hcut
  intro T hT X0
  have hr := va_runIN (As := []) (rest := rest) ⟨hx, hb, hml, hown, hts⟩ (hM H.size) ⟨va_cnB 0 hts hg hw hrc hrs (hK.2 _ hnest) (hts _ hini) hy hroom, hy1, hts _ hinst⟩ ⟨CPn_blind _ _ _ _, fun U hU hW => ⟨rfl, by rw [hU], by rw [hU]; exact hPc, hDc, hK.warm hW⟩⟩ (H := H) (locs := locs) (cells := z.1) (slots := z.2) (g := F0 m pc ls (.ref b :: rest)) (e := e) (below := below) (meth := meth) rfl rfl hl.1 rfl (lv_room hcat) hd hz
  obtain ⟨v0, st₀, t, T', L, h0, X', hL, e1, e2, hq, stp⟩ := hr T hT X0
  obtain ⟨hv, ⟨a, hP1, hD1⟩, hF1⟩ := hq
  cases hv
  have hF2 : H.size ≤ t.heap.size ∧ ∀ q : Nat, q < H.size → ¬ va_A [(b, e0)] H.size q → t.heap[q]? = H[q]? := by rw [← h0]; rw [← h0] at hF1; exact hF1
  obtain ⟨hPj, hDj⟩ := va_join hP hD [q0] isR hcut hR2 hnd hdis hF2.2 hFc hP1 hD1
  have hS' : va_S A s.heap t.heap (locs ++ L) := ⟨Nat.le_trans hS.1 hF2.1, fun q h1 h2 => by rw [hF2.2 q (Nat.lt_of_lt_of_le h1 hS.1) (fun zz => h2 (hFc q zz))]; exact hS.2.1 q h1 h2, fun q hq => by
    rcases List.mem_append.mp hq with h | h
    · exact hS.2.2 q h
    · exact hFc _ (hL q h)⟩
  obtain ⟨t2, a1, b1⟩ := kk a t.heap (locs ++ L) ((hA _ _ _).mpr ⟨hPj, hDj, hS'⟩) ls hl T' e1 X'
  exact ⟨t2, stp t2 a1, b1⟩
end NROWS4
