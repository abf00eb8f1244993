/-! constructors that make a row of states: what the tables say of such rows goes along -/
def XQ (cx : CX) : Prop := match cx with
  | (_, _, _, _, s, _, _, _, _, _, _, _, _, _) => va_AO "LampRacks$State" s
def CPq (G : GG) (av : List Value) (w : va_W) (sz : Nat) : Array Value → State → Prop := va_Pc av (fun U => U.heap.size = sz ∧ va_P G.1 vwCl w U.heap ∧ va_D (fun _ => True) w ∧ KK G U ∧ va_AO "LampRacks$State" U)
theorem CPq_blind (G : GG) (av : List Value) (w : va_W) (sz : Nat) : FrameBlind (CPq G av w sz) := by
  intro a U g mk h
  obtain ⟨h1, h2, h3, h4, h5, h6⟩ := h
  exact ⟨h1, h2, h3, h4, h5.call, va_AO.moved (u := U) (U := U.calling g mk a) (Vm.Alike.refl U.vm) h6⟩
/-- a contract of such a constructor -/
def NIq (l : Launch) (G : GG) (y : MethodName) (ws : List Cond) (rm : Room) (av : List Value) (w : va_W) (sz mc ms : Nat) (W : (Nat → Nat) → va_W) : Prop :=
  Met l y ws rm (CPq G av w sz) (fun _ st o t => o = .returned none ∧ (∃ a : Nat → Nat, va_P G.1 vwCl (W a) t.heap ∧ va_D (aN w sz) (W a)) ∧ va_F (aN w sz) st t) mc ms (aN w sz)
theorem NIq.of {l : Launch} {G : GG} {y : MethodName} {ws ws' : List Cond} {rm : Room} {av : List Value} {w : va_W} {sz mc ms : Nat} {W : (Nat → Nat) → va_W} {cc : ByteArray} {maxL : Nat} (hy : plainName y.cls = true) (hi : y.name = "<init>") (hw : ws = Cond.code y cc maxL none :: ws') (hn : (lg_sl av).length ≤ maxL)
    (body : ∀ cx : CX, xl cx = l → xG cx = G → XC cx cc ws y.cls rm maxL → XN cx → XI cx → XQ cx → XEn cx (mc, ms) W → X cx (0, 0) w (lv_args 0 av) 0 []) : NIq l G y ws rm av w sz mc ms W := by
  refine Met.ofW (cc := cc) (maxL := maxL) (ret := none) hy hw ?_
  intro p e s m args below meth c s₁ B hml hv
  obtain ⟨rfl, hsz, hP, hD, hK, hO⟩ := hv
  have hts := atoms_spec (ws := ws) B.pre
  have hown : s.vm.findClass y.cls = some m.cls := findClass_of_methodNamed B.named
  rw [lg_entry_eq]
  subst hsz
  refine body (p, l, e, rm, s, m, av.toArray, below, meth, c, (fun w2 H locs => va_P G.1 vwCl w2 H ∧ va_D (aN w s.heap.size) w2 ∧ va_S (aN w s.heap.size) s.heap H locs), G, _, maxL) rfl rfl ⟨B.exec, B.bytes, hml, rfl, hown, hts, hK, ?_, rfl, B.notSynchronized⟩ ⟨aN w s.heap.size, fun _ _ _ => Iff.rfl, fun q h => Or.inr h⟩ ((name_of_methodNamed B.named B.method).1.trans hi) hO ⟨B.returns, _, _, rfl, ?_⟩ s.heap [] ⟨hP, hD.self, va_S.rf⟩ _ ?_
  · intro w2 H locs h
    exact ⟨h.1, h.2.1.weaken (fun _ _ _ _ => trivial)⟩
  · intro a H locs h
    exact ⟨fun t ht _ => ⟨rfl, ⟨a, by rw [ht]; exact h.1, h.2.1⟩, h.2.2.F ht⟩, h.2.2.2.2⟩
  · exact lv_entry av hn
section NROWS6
variable {cx : CX} {z : Nat × Nat} {cc : ByteArray} {Ts : List Cond} {own : String} {rm : Room} {nL : Nat} {ws : va_W} {lv : List (Nat × Value)} {pc : Nat} {st : List Value}
theorem x_callIq (C : XC cx cc Ts own rm nL) (N : XN cx) (O : XQ cx) {y : MethodName} {rmy : Room} (rest : List Value) {b : Nat} {e0 : va_E} {mc ms : Nat} {W0 : (Nat → Nat) → va_W} (q0 : Nat) (isR : List Nat) (wr : va_W) {index maxL : Nat} {bytes : ByteArray} {wsy ws2 : List Cond} (hg : GoodIn Ts wsy) (hlk : Cond.methodLink own index y ∈ Ts) (hinst : Cond.instanceMethod y ∈ Ts) (hini : Cond.initialized y.cls ∈ Ts) (hy1 : y.name = "<init>") (hw : wsy = Cond.code y bytes maxL none :: ws2) (hy : y.cls ≠ "java/lang/invoke/MethodHandle" ∧ y.cls ≠ "java/lang/invoke/VarHandle" ∧ (parseMethodDescriptor y.desc).map (fun d => d.parameters.length) = some 0)
    (hM : ∀ sz, NIq (xl cx) (xG cx) y wsy rmy [.ref b] [(b, e0)] sz mc ms W0) (hcut : [q0].map (fun i => ws[i]?) = [(b, e0)].map some) (hR2 : isR.map (fun i => ws[i]?) = wr.map some) (hnd : va_nd isR = true) (hdis : ∀ i ∈ isR, i ∉ [q0]) (hst : st = .ref b :: rest) (hrc : rmy.cells = mc) (hrs : rmy.slots = ms) (hroom : rmy.frames + 1 ≤ rm.frames ∧ 8 + (maxL + 11) + rmy.locals ≤ rm.locals) (hcat : (rest.map fun v => v.category).sum ≤ 8) (hz : z.1 + mc ≤ rm.cells ∧ z.2 + ms ≤ rm.slots) (hd : decode cc pc = .ok (.invokespecial index, 3))
    (kk : ∀ a : Nat → Nat, X cx (z.1 + mc, z.2 + ms) (wr ++ W0 a) lv (pc + 3) rest) : X cx z ws lv pc st := by
  obtain ⟨p, l, e, R, s, m, args, below, meth, c, Inv, G, Q, n⟩ := cx
  obtain ⟨hx, hb, hml, hnn, hown, hts, hK, hI0, hR, hlocks⟩ := C
  obtain ⟨A, hA, hA2⟩ := N
  intro H locs hI ls hl
  subst hst
  subst hR
  obtain ⟨hP, hD, hS⟩ := (hA _ _ _).mp hI
  have hPc : va_P G.1 vwCl [(b, e0)] H := cut_P hP [q0] hcut
  have hDc : va_D (fun _ => True) [(b, e0)] := ((hI0 _ _ _ hI).2).sub [q0] (by rfl) hcut
  have hFc := va_free (wc := [(b, e0)]) hD hS hA2 [q0] hcut
  intro T hT X0
  have hr := va_runI (As := []) (rest := rest) ⟨hx, hb, hml, hown, hts⟩ (hM H.size) (cwI 0 hts hg hw hrc hrs (hts _ hini) (hts _ hlk) (hts _ hinst) hy1 hy hroom) ⟨CPq_blind _ _ _ _, fun U hU hW => ⟨rfl, by rw [hU], by rw [hU]; exact hPc, hDc, hK.warm hW, va_AO.moved hW.alike O⟩⟩ (H := H) (locs := locs) (cells := z.1) (slots := z.2) (g := F0 m pc ls (.ref b :: rest)) (e := e) (below := below) (meth := meth) rfl rfl hl.1 rfl (lv_room hcat) hd hz
  obtain ⟨v0, st₀, t, T', L, h0, X', hL, e1, e2, hq, stp⟩ := hr T hT X0
  obtain ⟨hv, ⟨a, hP1, hD1⟩, hF1⟩ := hq
  cases hv
  have hF2 : H.size ≤ t.heap.size ∧ ∀ q : Nat, q < H.size → ¬ va_A [(b, e0)] H.size q → t.heap[q]? = H[q]? := by rw [← h0]; rw [← h0] at hF1; exact hF1
  obtain ⟨hPj, hDj⟩ := va_join hP hD [q0] isR hcut hR2 hnd hdis hF2.2 hFc hP1 hD1
  have hS' : va_S A s.heap t.heap (locs ++ L) := ⟨Nat.le_trans hS.1 hF2.1, fun q h1 h2 => by rw [hF2.2 q (Nat.lt_of_lt_of_le h1 hS.1) (fun zz => h2 (hFc q zz))]; exact hS.2.1 q h1 h2, fun q hq => by
    rcases List.mem_append.mp hq with h | h
    · exact hS.2.2 q h
    · exact hFc _ (hL q h)⟩
  obtain ⟨t2, a1, b1⟩ := kk a t.heap (locs ++ L) ((hA _ _ _).mpr ⟨hPj, hDj, hS'⟩) ls hl T' e1 X'
  exact ⟨t2, stp t2 a1, b1⟩
theorem x_newqA (C : XC cx cc Ts own rm nL) (N : XN cx) (O : XQ cx) {n index : Nat} (hm : Cond.classLink own index "LampRacks$State" ∈ Ts) (hn : n < 100000) (hc : z.1 + 1 ≤ rm.cells) (hs : z.2 + n ≤ rm.slots) (hd : decode cc pc = .ok (.anewarray index, 3))
    (kk : ∀ q : Nat, X cx (z.1 + 1, z.2 + n) (ws ++ [(q, .inl ((xG cx).2.2.2, n, .inr (.inr (.inr (.inr (fun _ => none))))))]) lv (pc + 3) (.ref q :: st)) : X cx z ws lv pc (.int (nI n) :: st) := by
  obtain ⟨p, l, e, R, s, m, args, below, meth, c, Inv, G, Q, nn⟩ := cx
  obtain ⟨hx, hb, hml, hnn, hown, hts, hK, hI0, hR, hlocks⟩ := C
  obtain ⟨A, hA, hA2⟩ := N
  intro H locs hI ls hl
  subst hR
  obtain ⟨hP, hD, hS⟩ := (hA _ _ _).mp hI
  refine va_newq (C := "LampRacks$State") (N' := n) hx hb hown (hts _ hm) O hK.1 hP hD hS hA2 (nI_pos (by omega)) (nI_clamp (by omega)) (by omega) hc hs hd (fun q cA H1 hK1 hP1 hD1 hS1 => ?_)
  obtain ⟨-, -, -, -, -, h1⟩ := (hK1.2 (gT G).length (cA, .object "LampRacks$State") (by rw [List.getElem?_append_right (Nat.le_refl _), Nat.sub_self]; rfl)).2
  obtain ⟨-, -, -, -, -, h2⟩ := (hK.1.2 2 (G.2.2.2, .object "LampRacks$State") rfl).2
  have h3 : cA = G.2.2.2 := Option.some.inj (h1.symm.trans h2)
  subst h3
  exact kk q H1 locs ((hA _ _ _).mpr ⟨hP1, hD1, hS1⟩) ls hl
end NROWS6
