/-! constructors: cells come -/
abbrev aN (w : va_W) (sz : Nat) : Nat → Prop := va_A w sz
def XN (cx : CX) : Prop := match cx with
  | (_, _, _, _, s, _, _, _, _, _, Inv, G, _, _) => ∃ A : Nat → Prop, (∀ ws H locs, Inv ws H locs ↔ (va_P G.1 vwCl ws H ∧ va_D A ws ∧ va_S A s.heap H locs)) ∧ ∀ q, s.heap.size ≤ q → A q
theorem XN.M {cx : CX} (h : XN cx) : XM cx := by
  obtain ⟨p, l, e, R, s, m, args, below, meth, c, Inv, G, Q, n⟩ := cx
  obtain ⟨A, hA, -⟩ := h
  exact ⟨A, hA⟩
def XEn (cx : CX) (z : Nat × Nat) (W : (Nat → Nat) → va_W) : Prop := match cx with
  | (_, _, _, _, s, _, args, below, meth, _, Inv, _, Q, _) => meth.sig.returnType = none ∧ ∃ (Qc : Array Value → State → Outcome → State → Prop) (free : Addr → Prop), Q = MQ below Qc args s z.1 z.2 free ∧ ∀ a H locs, Inv (W a) H locs → (∀ t : State, t.heap = H → s.WarmedH t.vm → Qc args s (.returned none) t) ∧ ∀ q ∈ locs, free q.base
/-- a walk of a constructor: final fields are written -/
def XI (cx : CX) : Prop := match cx with
  | (_, _, _, _, _, _, _, _, meth, _, _, _, _, _) => meth.name = "<init>"
def CPn (G : GG) (av : List Value) (w : va_W) (sz : Nat) : Array Value → State → Prop := va_Pc av (fun U => U.heap.size = sz ∧ va_P G.1 vwCl w U.heap ∧ va_D (fun _ => True) w ∧ KK G U)
theorem CPn_blind (G : GG) (av : List Value) (w : va_W) (sz : Nat) : FrameBlind (CPn G av w sz) := by
  intro a U g mk h
  obtain ⟨h1, h2, h3, h4, h5⟩ := h
  exact ⟨h1, h2, h3, h4, h5.call⟩
/-- a contract of a constructor: the world w becomes W a, with cells at some new addresses -/
def NI (l : Launch) (G : GG) (y : MethodName) (ws : List Cond) (rm : Room) (av : List Value) (w : va_W) (sz mc ms : Nat) (W : (Nat → Nat) → va_W) : Prop :=
  Met l y ws rm (CPn G av w sz) (fun _ st o t => o = .returned none ∧ (∃ a : Nat → Nat, va_P G.1 vwCl (W a) t.heap ∧ va_D (aN w sz) (W a)) ∧ va_F (aN w sz) st t) mc ms (aN w sz)
theorem NI.of {l : Launch} {G : GG} {y : MethodName} {ws ws' : List Cond} {rm : Room} {av : List Value} {w : va_W} {sz mc ms : Nat} {W : (Nat → Nat) → va_W} {cc : ByteArray} {maxL : Nat} (hy : plainName y.cls = true) (hi : y.name = "<init>") (hw : ws = Cond.code y cc maxL none :: ws') (hn : (lg_sl av).length ≤ maxL)
    (body : ∀ cx : CX, xl cx = l → xG cx = G → XC cx cc ws y.cls rm maxL → XN cx → XI cx → XEn cx (mc, ms) W → X cx (0, 0) w (lv_args 0 av) 0 []) : NI l G y ws rm av w sz mc ms W := by
  refine Met.ofW (cc := cc) (maxL := maxL) (ret := none) hy hw ?_
  intro p e s m args below meth c s₁ B hml hv
  obtain ⟨rfl, hsz, hP, hD, hK⟩ := hv
  have hts := atoms_spec (ws := ws) B.pre
  have hown : s.vm.findClass y.cls = some m.cls := findClass_of_methodNamed B.named
  rw [lg_entry_eq]
  subst hsz
  refine body (p, l, e, rm, s, m, av.toArray, below, meth, c, (fun w2 H locs => va_P G.1 vwCl w2 H ∧ va_D (aN w s.heap.size) w2 ∧ va_S (aN w s.heap.size) s.heap H locs), G, _, maxL) rfl rfl ⟨B.exec, B.bytes, hml, rfl, hown, hts, hK, ?_, rfl, B.notSynchronized⟩ ⟨aN w s.heap.size, fun _ _ _ => Iff.rfl, fun q h => Or.inr h⟩ ((name_of_methodNamed B.named B.method).1.trans hi) ⟨B.returns, _, _, rfl, ?_⟩ s.heap [] ⟨hP, hD.self, va_S.rf⟩ _ ?_
  · intro w2 H locs h
    exact ⟨h.1, h.2.1.weaken (fun _ _ _ _ => trivial)⟩
  · intro a H locs h
    exact ⟨fun t ht _ => ⟨rfl, ⟨a, by rw [ht]; exact h.1, h.2.1⟩, h.2.2.F ht⟩, h.2.2.2.2⟩
  · exact lv_entry av hn
section NROWS
variable {cx : CX} {z : Nat × Nat} {cc : ByteArray} {Ts : List Cond} {own : String} {rm : Room} {nL : Nat} {ws : va_W} {lv : List (Nat × Value)} {pc : Nat} {st : List Value}
theorem x_nret (C : XC cx cc Ts own rm nL) {Wf : (Nat → Nat) → va_W} (E : XEn cx z Wf) (hd : decode cc pc = .ok (.return_, 1)) (a : Nat → Nat) (hw : ws = Wf a) : X cx z ws lv pc [] := by
  obtain ⟨p, l, e, R, s, m, args, below, meth, c, Inv, G, Q, n⟩ := cx
  obtain ⟨hx, hb, hml, hnn, hown, hts, hK, hI0, hR, hlocks⟩ := C
  obtain ⟨hr, Qc, free, hQ, hE⟩ := E
  subst hw
  subst hQ
  intro H locs hI ls hl
  exact W.vret hx hb hr (hE a H locs hI).1 (hE a H locs hI).2 hd
theorem x_newi (C : XC cx cc Ts own rm nL) (N : XN cx) {n : Nat} (hm : Cond.arrayClass .int ∈ Ts) (hn : n < 100000) (hc : z.1 + 1 ≤ rm.cells) (hs : z.2 + n ≤ rm.slots) (hd : decode cc pc = .ok (.newarray .int, 2))
    (kk : ∀ q : Nat, X cx (z.1 + 1, z.2 + n) (ws ++ [(q, .inl ((xG cx).2.1, n, .inl (fun _ => 0)))]) lv (pc + 2) (.ref q :: st)) : X cx z ws lv pc (.int (nI n) :: st) := by
  obtain ⟨p, l, e, R, s, m, args, below, meth, c, Inv, G, Q, nn⟩ := cx
  obtain ⟨hx, hb, hml, hnn, hown, hts, hK, hI0, hR, hlocks⟩ := C
  obtain ⟨A, hA, hA2⟩ := N
  intro H locs hI ls hl
  subst hR
  obtain ⟨hP, hD, hS⟩ := (hA _ _ _).mp hI
  refine va_newa (atype := .int) (ty := .int) (N' := n) hx hb (hts _ hm) rfl hK.1 hP hD hS hA2 (a0 := (n, .inl (fun _ => 0))) (fun cA => ?_) (nI_pos (by omega)) (nI_clamp (by omega)) (by show n * 4 ≤ _; omega) hc hs hd (fun q cA H1 hK1 hP1 hD1 hS1 => ?_)
  · rw [vp_cell_i]
    rfl
  · have h1 : s.vm.findClass ("[" ++ (FieldType.int).toString) = some cA := (hK1.2 (gT G).length (cA, .int) (by rw [List.getElem?_append_right (Nat.le_refl _), Nat.sub_self]; rfl)).2
    have h2 : s.vm.findClass ("[" ++ (FieldType.int).toString) = some G.2.1 := (hK.1.2 0 (G.2.1, .int) rfl).2
    have h3 : cA = G.2.1 := Option.some.inj (h1.symm.trans h2)
    subst h3
    exact kk q H1 locs ((hA _ _ _).mpr ⟨hP1, hD1, hS1⟩) ls hl
end NROWS
