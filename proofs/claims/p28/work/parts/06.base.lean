/-! my own layer over the kit's rows: one goal form X (world, locals, place, stack as data), one row an instruction, RO and MU contracts -/
abbrev GG : Type := va_G × ClassId × ClassId × ClassId
abbrev gT (G : GG) : List (ClassId × FieldType) := [(G.2.1, .int), (G.2.2.1, .char), (G.2.2.2, .object "LampRacks$State")]
def xN : List Cond := [.methodLinkNest RX0 18 yX6_copy "LampRacks", .methodLinkNest RX0 22 yX6_shareOf "LampRacks", .methodLinkNest RX0 26 yX6_isWeak "LampRacks", .methodLinkNest RX1 21 yX4_init "LampRacks", .methodLinkNest RX2 34 yX6_copy "LampRacks", .methodLinkNest RX2 38 yX6_isWithin "LampRacks", .methodLinkNest RX2 52 yX6_oneIf "LampRacks", .methodLinkNest RX2 64 yX6_isWeak "LampRacks", .methodLinkNest RX3 33 yX6_copy "LampRacks", .methodLinkNest RX4 30 yX2_init "LampRacks", .methodLinkNest RX4 52 yX6_isBatch "LampRacks", .methodLinkNest RX4 56 yX6_isWithin "LampRacks", .methodLinkNest RX4 67 yX6_isPlace "LampRacks", .methodLinkNest RX4 71 yX6_spotOf "LampRacks", .methodLinkNest RX4 98 yX6_isRack "LampRacks", .methodLinkNest RX4 148 yX6_isHot "LampRacks", .methodLinkNest RX4 186 yX6_oneIf "LampRacks", .methodLinkNest RX4 190 yX6_isWeak "LampRacks", .methodLinkNest RX5 81 yX6_isWithin "LampRacks", .methodLinkNest RX6 9 yX4_init "LampRacks", .methodLinkNest RX6 38 yX5_init "LampRacks"]
theorem xN_form : ∀ w ∈ xN, ∃ (a : String) (i : Nat) (x : MethodName) (h : String), w = Cond.methodLinkNest a i x h := by
  intro w hw
  simp only [xN, List.mem_cons, List.not_mem_nil, or_false] at hw
  rcases hw with h | h | h | h | h | h | h | h | h | h | h | h | h | h | h | h | h | h | h | h | h
  all_goals exact ⟨_, _, _, _, h⟩
/-- what the tables say of the classes, the arrays and the nest mates' links -/
def KK (G : GG) (U : State) : Prop := va_K G.1 vwCl (gT G) U ∧ ∀ w ∈ xN, va_Nw w U
theorem KK.warm {G : GG} {s U : State} (hW : s.WarmedH U.vm) (h : KK G s) : KK G U := ⟨va_K.moved hW.alike h.1, fun w hw => by
  obtain ⟨a, i, x, h', rfl⟩ := xN_form w hw
  exact va_Nw.warmM hW (h.2 _ hw)⟩
theorem KK.call {G : GG} {U : State} {g : JFrame} {mk : MethodId} {a : Array Value} (h : KK G U) : KK G (U.calling g mk a) := ⟨va_K.moved (u := U) (U := U.calling g mk a) (Vm.Alike.refl U.vm) h.1, fun w hw => by
  obtain ⟨b, i, x, h', rfl⟩ := xN_form w hw
  exact va_Nw.same (u := U) (by first | rfl | decide) rfl (h.2 _ hw)⟩
/-- a truth as the machine's int -/
def b2i (P : Prop) [Decidable P] : Int32 := if P then 1 else 0
theorem b2i_t {P : Prop} [Decidable P] (h : P) : b2i P = 1 := if_pos h
theorem b2i_f {P : Prop} [Decidable P] (h : ¬ P) : b2i P = 0 := if_neg h
theorem b2i_e0 {P : Prop} [Decidable P] : b2i P = 0 ↔ ¬ P := by
  unfold b2i
  by_cases h : P
  · simp [h]
  · simp [h]
theorem b2i_c {P Q : Prop} [Decidable P] [Decidable Q] (h : P ↔ Q) : b2i P = b2i Q := by
  unfold b2i
  by_cases hp : P
  · rw [if_pos hp, if_pos (h.mp hp)]
  · rw [if_neg hp, if_neg (fun q => hp (h.mpr q))]
theorem b2i_nz (P : Prop) [Decidable P] : narrow .boolean (.int (b2i P)) = .int (b2i P) := by
  by_cases h : P
  · rw [b2i_t h]; rfl
  · rw [b2i_f h]; rfl
/-- the cells that a method may write: its world's -/
def aw (ws : va_W) : Nat → Prop := fun q => ∃ (k : Nat) (e : va_E), ws[k]? = some (q, e)
abbrev CX : Type := Program × Launch × Env × Room × State × MethodId × Array Value × List Frame × Method × Code × (va_W → Heap → List Loc → Prop) × GG × (State → Prop) × Nat
def xl (cx : CX) : Launch := cx.2.1
def xG (cx : CX) : GG := cx.2.2.2.2.2.2.2.2.2.2.2.1
/-- the one goal: from place pc with the locals lv, the stack st and the world ws the machine comes to Q -/
def X (cx : CX) (z : Nat × Nat) (ws : va_W) (lv : List (Nat × Value)) (pc : Nat) (st : List Value) : Prop := match cx with
  | (p, l, e, R, s, m, args, below, meth, c, Inv, _, Q, n) => ∀ (H : Heap) (locs : List Loc), Inv ws H locs → ∀ ls : Array Slot, lv_has ls n lv → W p l e R s m args below meth c H locs z.1 z.2 Q (F0 m pc ls st)
/-- what a walk stands on -/
def XC (cx : CX) (cc : ByteArray) (Ts : List Cond) (own : String) (rm : Room) (nL : Nat) : Prop := match cx with
  | (p, _, _, R, s, m, args, _, meth, c, Inv, G, _, n) => p.tables.exec = Jvm.exec ∧ c.code = cc ∧ c.maxLocals = n ∧ n = nL ∧ s.vm.findClass own = some m.cls ∧ (∀ w ∈ Ts, w.before args s = true) ∧ KK G s ∧ (∀ ws H locs, Inv ws H locs → va_P G.1 vwCl ws H ∧ va_D (fun _ => True) ws) ∧ R = rm ∧ meth.locks = false
/-- a walk that may write -/
def XM (cx : CX) : Prop := match cx with
  | (_, _, _, _, s, _, _, _, _, _, Inv, G, _, _) => ∃ A : Nat → Prop, ∀ ws H locs, Inv ws H locs ↔ (va_P G.1 vwCl ws H ∧ va_D A ws ∧ va_S A s.heap H locs)
/-- the end of a walk: with r, in the world w -/
def XE (cx : CX) (z : Nat × Nat) (ret : Option FieldType) (r : Option Value) (w : va_W) : Prop := match cx with
  | (_, _, _, _, s, _, args, below, meth, _, Inv, _, Q, _) => meth.sig.returnType = ret ∧ ∃ (Qc : Array Value → State → Outcome → State → Prop) (free : Addr → Prop), Q = MQ below Qc args s z.1 z.2 free ∧ ∀ H locs, Inv w H locs → (∀ t : State, t.heap = H → s.WarmedH t.vm → Qc args s (.returned r) t) ∧ ∀ q ∈ locs, free q.base
def CPc (G : GG) (av : List Value) (w : va_W) : Array Value → State → Prop := va_Pc av (fun U => va_P G.1 vwCl w U.heap ∧ va_D (fun _ => True) w ∧ KK G U)
theorem CPc_blind (G : GG) (av : List Value) (w : va_W) : FrameBlind (CPc G av w) := by
  intro a U g mk h
  obtain ⟨h1, h2, h3, h4⟩ := h
  exact ⟨h1, h2, h3, h4.call⟩
/-- a contract of a method that changes nothing: its answer is v -/
def RO (l : Launch) (G : GG) (y : MethodName) (ws : List Cond) (rm : Room) (av : List Value) (w : va_W) (v : Value) : Prop :=
  Met l y ws rm (CPc G av w) (fun _ st o t => o = .returned (some v) ∧ t.heap = st.heap) 0 0 (fun _ => False)
/-- a contract of a method that changes its world w to w' (the same cells) and answers r -/
def MU (l : Launch) (G : GG) (y : MethodName) (ws : List Cond) (rm : Room) (av : List Value) (w : va_W) (r : Option Value) (w' : va_W) : Prop :=
  Met l y ws rm (CPc G av w) (fun _ st o t => o = .returned r ∧ va_P G.1 vwCl w' t.heap ∧ va_F (aw w) st t) 0 0 (aw w)
theorem RO.of {l : Launch} {G : GG} {y : MethodName} {ws ws' : List Cond} {rm : Room} {av : List Value} {w : va_W} {v : Value} {cc : ByteArray} {maxL : Nat} {ret : Option FieldType} (hy : plainName y.cls = true) (hw : ws = Cond.code y cc maxL ret :: ws') (hn : (lg_sl av).length ≤ maxL)
    (body : ∀ cx : CX, xl cx = l → xG cx = G → XC cx cc ws y.cls rm maxL → XE cx (0, 0) ret (some v) w → X cx (0, 0) w (lv_args 0 av) 0 []) : RO l G y ws rm av w v := by
  refine Met.ofW (cc := cc) (maxL := maxL) (ret := ret) hy hw ?_
  intro p e s m args below meth c s₁ B hml hv
  obtain ⟨rfl, hP, hD, hK⟩ := hv
  have hts := atoms_spec (ws := ws) B.pre
  have hown : s.vm.findClass y.cls = some m.cls := findClass_of_methodNamed B.named
  rw [lg_entry_eq]
  refine body (p, l, e, rm, s, m, av.toArray, below, meth, c, (fun w2 H locs => w2 = w ∧ H = s.heap ∧ locs = []), G, _, maxL) rfl rfl ⟨B.exec, B.bytes, hml, rfl, hown, hts, hK, ?_, rfl, B.notSynchronized⟩ ⟨B.returns, _, _, rfl, ?_⟩ s.heap [] ⟨rfl, rfl, rfl⟩ _ ?_
  · intro w2 H locs h
    obtain ⟨rfl, rfl, rfl⟩ := h
    exact ⟨hP, hD⟩
  · intro H locs h
    obtain ⟨-, rfl, rfl⟩ := h
    exact ⟨fun t ht _ => ⟨rfl, ht⟩, fun q hq => by cases hq⟩
  · exact lv_entry av hn
theorem MU.of {l : Launch} {G : GG} {y : MethodName} {ws ws' : List Cond} {rm : Room} {av : List Value} {w w' : va_W} {r : Option Value} {cc : ByteArray} {maxL : Nat} {ret : Option FieldType} (hy : plainName y.cls = true) (hw : ws = Cond.code y cc maxL ret :: ws') (hn : (lg_sl av).length ≤ maxL)
    (body : ∀ cx : CX, xl cx = l → xG cx = G → XC cx cc ws y.cls rm maxL → XM cx → XE cx (0, 0) ret r w' → X cx (0, 0) w (lv_args 0 av) 0 []) : MU l G y ws rm av w r w' := by
  refine Met.ofW (cc := cc) (maxL := maxL) (ret := ret) hy hw ?_
  intro p e s m args below meth c s₁ B hml hv
  obtain ⟨rfl, hP, hD, hK⟩ := hv
  have hts := atoms_spec (ws := ws) B.pre
  have hown : s.vm.findClass y.cls = some m.cls := findClass_of_methodNamed B.named
  rw [lg_entry_eq]
  refine body (p, l, e, rm, s, m, av.toArray, below, meth, c, (fun w2 H locs => va_P G.1 vwCl w2 H ∧ va_D (aw w) w2 ∧ va_S (aw w) s.heap H locs), G, _, maxL) rfl rfl ⟨B.exec, B.bytes, hml, rfl, hown, hts, hK, ?_, rfl, B.notSynchronized⟩ ⟨aw w, fun _ _ _ => Iff.rfl⟩ ⟨B.returns, _, _, rfl, ?_⟩ s.heap [] ⟨hP, ⟨hD.1, fun k q hk => ⟨k, q.2, hk⟩⟩, va_S.rf⟩ _ ?_
  · intro w2 H locs h
    exact ⟨h.1, h.2.1.weaken (fun _ _ _ _ => trivial)⟩
  · intro H locs h
    exact ⟨fun t ht _ => ⟨rfl, by rw [ht]; exact h.1, h.2.2.F ht⟩, h.2.2.2.2⟩
  · exact lv_entry av hn

theorem cut_P {D : va_G} {cl : List vw_C} {ws wc : va_W} {H : Heap} (hP : va_P D cl ws H) (isC : List Nat) (hcut : isC.map (fun i => ws[i]?) = wc.map some) : va_P D cl wc H := by
  intro k q hk
  have h1 : (isC.map (fun i => ws[i]?))[k]? = some (some q) := by rw [hcut, List.getElem?_map, hk]; rfl
  rw [List.getElem?_map] at h1
  cases hi : isC[k]? with
  | none => rw [hi] at h1; cases h1
  | some i => rw [hi] at h1; exact hP i q (Option.some.inj h1)
theorem aw_in {A : Nat → Prop} {ws wc : va_W} (hD : va_D A ws) (isC : List Nat) (hcut : isC.map (fun i => ws[i]?) = wc.map some) : ∀ q, aw wc q → A q := by
  intro q h
  obtain ⟨k, e, hk⟩ := h
  have h1 : (isC.map (fun i => ws[i]?))[k]? = some (some (q, e)) := by rw [hcut, List.getElem?_map, hk]; rfl
  rw [List.getElem?_map] at h1
  cases hi : isC[k]? with
  | none => rw [hi] at h1; cases h1
  | some i => rw [hi] at h1; exact hD.2 i (q, e) (Option.some.inj h1)
theorem fst_at {ws ws' : va_W} (h : ws'.map (fun q => q.1) = ws.map (fun q => q.1)) {k : Nat} {q : Nat × va_E} (hk : ws'[k]? = some q) : ∃ q0, ws[k]? = some q0 ∧ q0.1 = q.1 := by
  have h1 : (ws'.map (fun q => q.1))[k]? = some q.1 := by rw [List.getElem?_map, hk]; rfl
  rw [h, List.getElem?_map] at h1
  cases hi : ws[k]? with
  | none => rw [hi] at h1; cases h1
  | some q0 => rw [hi] at h1; exact ⟨q0, rfl, Option.some.inj h1⟩
theorem back_D {A : Nat → Prop} {ws ws' : va_W} (hD : va_D A ws) (h : ws'.map (fun q => q.1) = ws.map (fun q => q.1)) : va_D A ws' := by
  refine ⟨fun i j p q hi hj hpq => ?_, fun k q hk => ?_⟩
  · obtain ⟨p0, h1, h2⟩ := fst_at h hi
    obtain ⟨q0, h3, h4⟩ := fst_at h hj
    exact hD.1 i j p0 q0 h1 h3 (h2.trans (hpq.trans h4.symm))
  · obtain ⟨q0, h1, h2⟩ := fst_at h hk
    rw [← h2]
    exact hD.2 k q0 h1
theorem back_P {D : va_G} {cl : List vw_C} {A : Nat → Prop} {ws ws' wc wc' : va_W} {H H1 : Heap} (hP : va_P D cl ws H) (hD : va_D A ws) (isC oth : List Nat) (hcut : isC.map (fun i => ws[i]?) = wc.map some) (ho1 : ws'.map (fun q => q.1) = ws.map (fun q => q.1)) (ho2 : oth.map (fun i => ws'[i]?) = oth.map (fun i => ws[i]?)) (nw : Nat) (hnw : ws.length = nw) (ho3 : (List.range nw).all (fun i => isC.contains i || oth.contains i) = true) (ho4 : isC.map (fun i => ws'[i]?) = wc'.map some) (hF : H.size ≤ H1.size ∧ ∀ q : Nat, q < H.size → ¬ aw wc q → H1[q]? = H[q]?) (hP1 : va_P D cl wc' H1) : va_P D cl ws' H1 := by
  intro k q hk
  obtain ⟨q0, hk0, hq0⟩ := fst_at ho1 hk
  have hlen : k < ws.length := (List.getElem?_eq_some_iff.mp hk0).1
  by_cases hin : k ∈ isC
  · obtain ⟨j, hj⟩ := List.getElem?_of_mem hin
    have h1 : (isC.map (fun i => ws'[i]?))[j]? = some (some q) := by rw [List.getElem?_map, hj]; show some (ws'[k]?) = _; rw [hk]
    rw [ho4, List.getElem?_map] at h1
    cases hi : wc'[j]? with
    | none => rw [hi] at h1; cases h1
    | some r => rw [hi] at h1; have := Option.some.inj (Option.some.inj h1); subst this; exact hP1 j _ hi
  · have h3 := List.all_eq_true.mp ho3 k (List.mem_range.mpr (by rw [← hnw]; exact hlen))
    have h4 : k ∈ oth := by
      rcases (Bool.or_eq_true _ _).mp h3 with h | h
      · exact absurd (List.contains_iff_mem.mp h) hin
      · exact List.contains_iff_mem.mp h
    obtain ⟨j, hj⟩ := List.getElem?_of_mem h4
    have h5 : ws'[k]? = ws[k]? := by
      have h6 : (oth.map (fun i => ws'[i]?))[j]? = (oth.map (fun i => ws[i]?))[j]? := by rw [ho2]
      rw [List.getElem?_map, List.getElem?_map, hj] at h6
      exact Option.some.inj h6
    rw [hk] at h5
    have hat := hP k q h5.symm
    refine hat.kept (hF.2 q.1 hat.lt (fun h => ?_))
    obtain ⟨k2, e, hk2⟩ := h
    have h7 : (isC.map (fun i => ws[i]?))[k2]? = some (some (q.1, e)) := by rw [hcut, List.getElem?_map, hk2]; rfl
    rw [List.getElem?_map] at h7
    cases hi : isC[k2]? with
    | none => rw [hi] at h7; cases h7
    | some i =>
      rw [hi] at h7
      have h8 := hD.1 k i q (q.1, e) h5.symm (Option.some.inj h7) rfl
      subst h8
      exact hin (List.mem_of_getElem? hi)
def allc (F : Nat → Prop) (x : Int32) : Nat → List Nat → Prop
  | _, [] => True
  | j, t :: ts => (x.toInt = (j : Int) → F t) ∧ allc F x (j + 1) ts
theorem allc_at (F : Nat → Prop) (x : Int32) : ∀ (ts : List Nat) (j0 : Nat), allc F x j0 ts → ∀ (j t : Nat), ts[j]? = some t → x.toInt = ((j0 + j : Nat) : Int) → F t := by
  intro ts
  induction ts with
  | nil => intro j0 _ j t h; simp at h
  | cons a ts ih =>
    intro j0 h j t hj hx
    cases j with
    | zero =>
      simp only [List.getElem?_cons_zero, Option.some.injEq] at hj
      subst hj
      exact h.1 hx
    | succ j =>
      simp only [List.getElem?_cons_succ] at hj
      exact ih (j0 + 1) h.2 j t hj (by rw [hx]; congr 1; omega)
def alll (F : Nat → Prop) (x : Int32) : List (Int × Nat) → Prop
  | [] => True
  | t :: ts => (x.toInt = t.1 → F t.2) ∧ alll F x ts
section XROWS
variable {cx : CX} {z : Nat × Nat} {cc : ByteArray} {Ts : List Cond} {own : String} {rm : Room} {nL : Nat} {ws : va_W} {lv : List (Nat × Value)} {pc : Nat} {st : List Value}
theorem x_lv (lv' : List (Nat × Value)) (is : List Nat) (h : lv_pick lv is = lv') (kk : X cx z ws lv' pc st) : X cx z ws lv pc st := by
  obtain ⟨p, l, e, R, s, m, args, below, meth, c, Inv, G, Q, n⟩ := cx
  intro H locs hI ls hl
  exact kk H locs hI ls (lv_sub hl is h)

theorem x_top {x y : Int32} (h : x = y) (kk : X cx z ws lv pc (.int y :: st)) : X cx z ws lv pc (.int x :: st) := by
  subst h
  exact kk
theorem x_ws (ws' : va_W) (h : ws = ws') (kk : X cx z ws' lv pc st) : X cx z ws lv pc st := by
  subst h
  exact kk
theorem inc1 (k : Nat) : nI k + Int32.ofInt 1 = nI (k + 1) := nI_1 k

theorem x_iconst (C : XC cx cc Ts own rm nL) {k : Int} {v : Int32} (hd : decode cc pc = .ok (.iconst k, 1)) (hv : Int32.ofInt k = v)
    (kk : X cx z ws lv (pc + 1) (.int v :: st)) : X cx z ws lv pc st := by
  obtain ⟨p, l, e, R, s, m, args, below, meth, c, Inv, G, Q, n⟩ := cx
  obtain ⟨hx, hb, hml, hnn, hown, hts, hK, hI0, hR, hlocks⟩ := C
  intro H locs hI ls hl
  exact lv_iconst hx hb hd hv (kk H locs hI ls hl)

theorem x_bipush (C : XC cx cc Ts own rm nL) {k : Int} {v : Int32} (hd : decode cc pc = .ok (.bipush k, 2)) (hv : (Int8.ofInt k).toInt32 = v)
    (kk : X cx z ws lv (pc + 2) (.int v :: st)) : X cx z ws lv pc st := by
  obtain ⟨p, l, e, R, s, m, args, below, meth, c, Inv, G, Q, n⟩ := cx
  obtain ⟨hx, hb, hml, hnn, hown, hts, hK, hI0, hR, hlocks⟩ := C
  intro H locs hI ls hl
  exact lv_bipush hx hb hd hv (kk H locs hI ls hl)

theorem x_sipush (C : XC cx cc Ts own rm nL) {k : Int} {v : Int32} (hd : decode cc pc = .ok (.sipush k, 3)) (hv : (Int16.ofInt k).toInt32 = v)
    (kk : X cx z ws lv (pc + 3) (.int v :: st)) : X cx z ws lv pc st := by
  obtain ⟨p, l, e, R, s, m, args, below, meth, c, Inv, G, Q, n⟩ := cx
  obtain ⟨hx, hb, hml, hnn, hown, hts, hK, hI0, hR, hlocks⟩ := C
  intro H locs hI ls hl
  exact lv_sipush hx hb hd hv (kk H locs hI ls hl)

theorem x_ldc (C : XC cx cc Ts own rm nL) {index : Nat} {v : Int32} (hm : Cond.constant own index v ∈ Ts) (hd : decode cc pc = .ok (.ldc index, 2))
    (kk : X cx z ws lv (pc + 2) (.int v :: st)) : X cx z ws lv pc st := by
  obtain ⟨p, l, e, R, s, m, args, below, meth, c, Inv, G, Q, n⟩ := cx
  obtain ⟨hx, hb, hml, hnn, hown, hts, hK, hI0, hR, hlocks⟩ := C
  intro H locs hI ls hl
  exact lv_ldc hx hb hown (hts _ hm) hd (kk H locs hI ls hl)

theorem x_iload_n (C : XC cx cc Ts own rm nL) {k : Fin 4} {i : Nat} (j : Nat) {x : Int32} (hd : decode cc pc = .ok (.iload_n k, 1)) (hi : (k : Nat) = i) (hv : lv[j]? = some (i, .int x))
    (kk : X cx z ws lv (pc + 1) (.int x :: st)) : X cx z ws lv pc st := by
  obtain ⟨p, l, e, R, s, m, args, below, meth, c, Inv, G, Q, n⟩ := cx
  obtain ⟨hx, hb, hml, hnn, hown, hts, hK, hI0, hR, hlocks⟩ := C
  intro H locs hI ls hl
  exact lv_iload_n hx hb hd hi (lv_at hl j hv) (kk H locs hI ls hl)

theorem x_iload (C : XC cx cc Ts own rm nL) {i : Nat} (j : Nat) {x : Int32} (hd : decode cc pc = .ok (.iload i, 2)) (hv : lv[j]? = some (i, .int x))
    (kk : X cx z ws lv (pc + 2) (.int x :: st)) : X cx z ws lv pc st := by
  obtain ⟨p, l, e, R, s, m, args, below, meth, c, Inv, G, Q, n⟩ := cx
  obtain ⟨hx, hb, hml, hnn, hown, hts, hK, hI0, hR, hlocks⟩ := C
  intro H locs hI ls hl
  exact lv_iload hx hb hd (lv_at hl j hv) (kk H locs hI ls hl)

theorem x_aload_n (C : XC cx cc Ts own rm nL) {k : Fin 4} {i : Nat} (j : Nat) {x : Nat} (hd : decode cc pc = .ok (.aload_n k, 1)) (hi : (k : Nat) = i) (hv : lv[j]? = some (i, .ref x))
    (kk : X cx z ws lv (pc + 1) (.ref x :: st)) : X cx z ws lv pc st := by
  obtain ⟨p, l, e, R, s, m, args, below, meth, c, Inv, G, Q, n⟩ := cx
  obtain ⟨hx, hb, hml, hnn, hown, hts, hK, hI0, hR, hlocks⟩ := C
  intro H locs hI ls hl
  exact lv_aload_n hx hb hd hi (lv_at hl j hv) (kk H locs hI ls hl)

theorem x_istore_n (C : XC cx cc Ts own rm nL) {k : Fin 4} {i : Nat} {x : Int32} (lv' : List (Nat × Value)) (hd : decode cc pc = .ok (.istore_n k, 1)) (hi : (k : Nat) = i) (hn : i < nL) (hv : (i, Value.int x) :: lv.filter (fun q => !(q.1 == i) && !(q.1 + 1 == i && q.2.category == 2)) = lv')
    (kk : X cx z ws lv' (pc + 1) st) : X cx z ws lv pc (.int x :: st) := by
  obtain ⟨p, l, e, R, s, m, args, below, meth, c, Inv, G, Q, n⟩ := cx
  obtain ⟨hx, hb, hml, hnn, hown, hts, hK, hI0, hR, hlocks⟩ := C
  intro H locs hI ls hl
  exact lv_istore_n hx hb hd hi hl (by rw [hnn]; exact hn) hv (fun ls' hl' => kk H locs hI ls' hl')

theorem x_istore (C : XC cx cc Ts own rm nL) {i : Nat} {x : Int32} (lv' : List (Nat × Value)) (hd : decode cc pc = .ok (.istore i, 2)) (hn : i < nL) (hv : (i, Value.int x) :: lv.filter (fun q => !(q.1 == i) && !(q.1 + 1 == i && q.2.category == 2)) = lv')
    (kk : X cx z ws lv' (pc + 2) st) : X cx z ws lv pc (.int x :: st) := by
  obtain ⟨p, l, e, R, s, m, args, below, meth, c, Inv, G, Q, n⟩ := cx
  obtain ⟨hx, hb, hml, hnn, hown, hts, hK, hI0, hR, hlocks⟩ := C
  intro H locs hI ls hl
  exact lv_istore hx hb hd hl (by rw [hnn]; exact hn) hv (fun ls' hl' => kk H locs hI ls' hl')

theorem x_astore_n (C : XC cx cc Ts own rm nL) {k : Fin 4} {i : Nat} {x : Nat} (lv' : List (Nat × Value)) (hd : decode cc pc = .ok (.astore_n k, 1)) (hi : (k : Nat) = i) (hn : i < nL) (hv : (i, Value.ref x) :: lv.filter (fun q => !(q.1 == i) && !(q.1 + 1 == i && q.2.category == 2)) = lv')
    (kk : X cx z ws lv' (pc + 1) st) : X cx z ws lv pc (.ref x :: st) := by
  obtain ⟨p, l, e, R, s, m, args, below, meth, c, Inv, G, Q, n⟩ := cx
  obtain ⟨hx, hb, hml, hnn, hown, hts, hK, hI0, hR, hlocks⟩ := C
  intro H locs hI ls hl
  exact lv_astore_n hx hb hd hi hl (by rw [hnn]; exact hn) hv (fun ls' hl' => kk H locs hI ls' hl')

theorem x_astore (C : XC cx cc Ts own rm nL) {i : Nat} {x : Nat} (lv' : List (Nat × Value)) (hd : decode cc pc = .ok (.astore i, 2)) (hn : i < nL) (hv : (i, Value.ref x) :: lv.filter (fun q => !(q.1 == i) && !(q.1 + 1 == i && q.2.category == 2)) = lv')
    (kk : X cx z ws lv' (pc + 2) st) : X cx z ws lv pc (.ref x :: st) := by
  obtain ⟨p, l, e, R, s, m, args, below, meth, c, Inv, G, Q, n⟩ := cx
  obtain ⟨hx, hb, hml, hnn, hown, hts, hK, hI0, hR, hlocks⟩ := C
  intro H locs hI ls hl
  exact lv_astore hx hb hd hl (by rw [hnn]; exact hn) hv (fun ls' hl' => kk H locs hI ls' hl')

theorem x_iinc (C : XC cx cc Ts own rm nL) {i : Nat} (j : Nat) {k : Int} {x v : Int32} (lv' : List (Nat × Value)) (hd : decode cc pc = .ok (.iinc i k, 3)) (hj : lv[j]? = some (i, .int x)) (hx2 : x + Int32.ofInt k = v) (hn : i < nL) (hv : (i, Value.int v) :: lv.filter (fun q => !(q.1 == i) && !(q.1 + 1 == i && q.2.category == 2)) = lv')
    (kk : X cx z ws lv' (pc + 3) st) : X cx z ws lv pc st := by
  obtain ⟨p, l, e, R, s, m, args, below, meth, c, Inv, G, Q, n⟩ := cx
  obtain ⟨hx, hb, hml, hnn, hown, hts, hK, hI0, hR, hlocks⟩ := C
  intro H locs hI ls hl
  exact lv_iinc hx hb hd hl hj hx2 (by rw [hnn]; exact hn) hv (fun ls' hl' => kk H locs hI ls' hl')

theorem x_iadd (C : XC cx cc Ts own rm nL) {x y v : Int32} (hv : x + y = v) (hd : decode cc pc = .ok (.iadd, 1))
    (kk : X cx z ws lv (pc + 1) (.int v :: st)) : X cx z ws lv pc (.int y :: .int x :: st) := by
  obtain ⟨p, l, e, R, s, m, args, below, meth, c, Inv, G, Q, n⟩ := cx
  obtain ⟨hx, hb, hml, hnn, hown, hts, hK, hI0, hR, hlocks⟩ := C
  intro H locs hI ls hl
  subst hv; exact lv_iadd hx hb hd (kk H locs hI ls hl)

theorem x_isub (C : XC cx cc Ts own rm nL) {x y v : Int32} (hv : x - y = v) (hd : decode cc pc = .ok (.isub, 1))
    (kk : X cx z ws lv (pc + 1) (.int v :: st)) : X cx z ws lv pc (.int y :: .int x :: st) := by
  obtain ⟨p, l, e, R, s, m, args, below, meth, c, Inv, G, Q, n⟩ := cx
  obtain ⟨hx, hb, hml, hnn, hown, hts, hK, hI0, hR, hlocks⟩ := C
  intro H locs hI ls hl
  subst hv; exact lv_isub hx hb hd (kk H locs hI ls hl)

theorem x_imul (C : XC cx cc Ts own rm nL) {x y v : Int32} (hv : x * y = v) (hd : decode cc pc = .ok (.imul, 1))
    (kk : X cx z ws lv (pc + 1) (.int v :: st)) : X cx z ws lv pc (.int y :: .int x :: st) := by
  obtain ⟨p, l, e, R, s, m, args, below, meth, c, Inv, G, Q, n⟩ := cx
  obtain ⟨hx, hb, hml, hnn, hown, hts, hK, hI0, hR, hlocks⟩ := C
  intro H locs hI ls hl
  subst hv; exact lv_imul hx hb hd (kk H locs hI ls hl)

theorem x_iand (C : XC cx cc Ts own rm nL) {x y : Int32} (hd : decode cc pc = .ok (.iand, 1))
    (kk : X cx z ws lv (pc + 1) (.int (x &&& y) :: st)) : X cx z ws lv pc (.int y :: .int x :: st) := by
  obtain ⟨p, l, e, R, s, m, args, below, meth, c, Inv, G, Q, n⟩ := cx
  obtain ⟨hx, hb, hml, hnn, hown, hts, hK, hI0, hR, hlocks⟩ := C
  intro H locs hI ls hl
  exact lv_iand hx hb hd (kk H locs hI ls hl)

theorem x_idiv (C : XC cx cc Ts own rm nL) {x y v : Int32} (hv : x / y = v) (hd : decode cc pc = .ok (.idiv, 1)) (hne : ¬ y = 0)
    (kk : X cx z ws lv (pc + 1) (.int v :: st)) : X cx z ws lv pc (.int y :: .int x :: st) := by
  obtain ⟨p, l, e, R, s, m, args, below, meth, c, Inv, G, Q, n⟩ := cx
  obtain ⟨hx, hb, hml, hnn, hown, hts, hK, hI0, hR, hlocks⟩ := C
  intro H locs hI ls hl
  subst hv; exact lv_idiv hx hb hd hne (kk H locs hI ls hl)

theorem x_irem (C : XC cx cc Ts own rm nL) {x y v : Int32} (hv : x - x / y * y = v) (hd : decode cc pc = .ok (.irem, 1)) (hne : ¬ y = 0)
    (kk : X cx z ws lv (pc + 1) (.int v :: st)) : X cx z ws lv pc (.int y :: .int x :: st) := by
  obtain ⟨p, l, e, R, s, m, args, below, meth, c, Inv, G, Q, n⟩ := cx
  obtain ⟨hx, hb, hml, hnn, hown, hts, hK, hI0, hR, hlocks⟩ := C
  intro H locs hI ls hl
  subst hv; exact lv_irem hx hb hd hne (kk H locs hI ls hl)

theorem x_i2c (C : XC cx cc Ts own rm nL) {x v : Int32} (hd : decode cc pc = .ok (.i2c, 1)) (hv : (x.toUInt32 % 65536).toInt32 = v)
    (kk : X cx z ws lv (pc + 1) (.int v :: st)) : X cx z ws lv pc (.int x :: st) := by
  obtain ⟨p, l, e, R, s, m, args, below, meth, c, Inv, G, Q, n⟩ := cx
  obtain ⟨hx, hb, hml, hnn, hown, hts, hK, hI0, hR, hlocks⟩ := C
  intro H locs hI ls hl
  exact lv_i2c hx hb hd hv (kk H locs hI ls hl)

theorem x_dup (C : XC cx cc Ts own rm nL) {a : Value} (hd : decode cc pc = .ok (.dup, 1)) (hc : a.category = 1)
    (kk : X cx z ws lv (pc + 1) (a :: a :: st)) : X cx z ws lv pc (a :: st) := by
  obtain ⟨p, l, e, R, s, m, args, below, meth, c, Inv, G, Q, n⟩ := cx
  obtain ⟨hx, hb, hml, hnn, hown, hts, hK, hI0, hR, hlocks⟩ := C
  intro H locs hI ls hl
  exact lv_dup hx hb hd hc (kk H locs hI ls hl)

theorem x_dup2 (C : XC cx cc Ts own rm nL) {a b : Value} (hd : decode cc pc = .ok (.dup2, 1)) (hc : a.category = 1) (hc2 : b.category = 1)
    (kk : X cx z ws lv (pc + 1) (a :: b :: a :: b :: st)) : X cx z ws lv pc (a :: b :: st) := by
  obtain ⟨p, l, e, R, s, m, args, below, meth, c, Inv, G, Q, n⟩ := cx
  obtain ⟨hx, hb, hml, hnn, hown, hts, hK, hI0, hR, hlocks⟩ := C
  intro H locs hI ls hl
  exact lv_dup2_11 hx hb hd hc hc2 (kk H locs hI ls hl)

theorem x_pop (C : XC cx cc Ts own rm nL) {a : Value} (hd : decode cc pc = .ok (.pop, 1)) (hc : a.category = 1)
    (kk : X cx z ws lv (pc + 1) st) : X cx z ws lv pc (a :: st) := by
  obtain ⟨p, l, e, R, s, m, args, below, meth, c, Inv, G, Q, n⟩ := cx
  obtain ⟨hx, hb, hml, hnn, hown, hts, hK, hI0, hR, hlocks⟩ := C
  intro H locs hI ls hl
  exact lv_pop hx hb hd hc (kk H locs hI ls hl)

theorem x_goto (C : XC cx cc Ts own rm nL) {off : Int} {tgt : Nat} (hd : decode cc pc = .ok (.goto off, 3)) (ht : (pc : Int) + off = (tgt : Int))
    (kk : X cx z ws lv (tgt) st) : X cx z ws lv pc st := by
  obtain ⟨p, l, e, R, s, m, args, below, meth, c, Inv, G, Q, n⟩ := cx
  obtain ⟨hx, hb, hml, hnn, hown, hts, hK, hI0, hR, hlocks⟩ := C
  intro H locs hI ls hl
  exact lv_goto hx hb hd ht (kk H locs hI ls hl)

theorem x_icmp_eq (C : XC cx cc Ts own rm nL) {x y : Int32} {off : Int} (tgt : Nat) (hd : decode cc pc = .ok (.if_icmp .eq off, 3)) (ht : (pc : Int) + off = (tgt : Int))
    (kt : x = y → X cx z ws lv tgt st) (kf : ¬ x = y → X cx z ws lv (pc + 3) st) : X cx z ws lv pc (.int y :: .int x :: st) := by
  obtain ⟨p, l, e, R, s, m, args, below, meth, c, Inv, G, Q, n⟩ := cx
  obtain ⟨hx, hb, hml, hnn, hown, hts, hK, hI0, hR, hlocks⟩ := C
  intro H locs hI ls hl
  exact lv_icmp_eq hx hb hd ht (fun h => kt h H locs hI ls hl) (fun h => kf h H locs hI ls hl)

theorem x_if_eq (C : XC cx cc Ts own rm nL) {x : Int32} {off : Int} (tgt : Nat) (hd : decode cc pc = .ok (.ifCond .eq off, 3)) (ht : (pc : Int) + off = (tgt : Int))
    (kt : x = 0 → X cx z ws lv tgt st) (kf : ¬ x = 0 → X cx z ws lv (pc + 3) st) : X cx z ws lv pc (.int x :: st) := by
  obtain ⟨p, l, e, R, s, m, args, below, meth, c, Inv, G, Q, n⟩ := cx
  obtain ⟨hx, hb, hml, hnn, hown, hts, hK, hI0, hR, hlocks⟩ := C
  intro H locs hI ls hl
  exact lv_if_eq hx hb hd ht (fun h => kt h H locs hI ls hl) (fun h => kf h H locs hI ls hl)

theorem x_icmp_ne (C : XC cx cc Ts own rm nL) {x y : Int32} {off : Int} (tgt : Nat) (hd : decode cc pc = .ok (.if_icmp .ne off, 3)) (ht : (pc : Int) + off = (tgt : Int))
    (kt : ¬ x = y → X cx z ws lv tgt st) (kf : x = y → X cx z ws lv (pc + 3) st) : X cx z ws lv pc (.int y :: .int x :: st) := by
  obtain ⟨p, l, e, R, s, m, args, below, meth, c, Inv, G, Q, n⟩ := cx
  obtain ⟨hx, hb, hml, hnn, hown, hts, hK, hI0, hR, hlocks⟩ := C
  intro H locs hI ls hl
  exact lv_icmp_ne hx hb hd ht (fun h => kt h H locs hI ls hl) (fun h => kf h H locs hI ls hl)

theorem x_if_ne (C : XC cx cc Ts own rm nL) {x : Int32} {off : Int} (tgt : Nat) (hd : decode cc pc = .ok (.ifCond .ne off, 3)) (ht : (pc : Int) + off = (tgt : Int))
    (kt : ¬ x = 0 → X cx z ws lv tgt st) (kf : x = 0 → X cx z ws lv (pc + 3) st) : X cx z ws lv pc (.int x :: st) := by
  obtain ⟨p, l, e, R, s, m, args, below, meth, c, Inv, G, Q, n⟩ := cx
  obtain ⟨hx, hb, hml, hnn, hown, hts, hK, hI0, hR, hlocks⟩ := C
  intro H locs hI ls hl
  exact lv_if_ne hx hb hd ht (fun h => kt h H locs hI ls hl) (fun h => kf h H locs hI ls hl)

theorem x_icmp_lt (C : XC cx cc Ts own rm nL) {x y : Int32} {off : Int} (tgt : Nat) (hd : decode cc pc = .ok (.if_icmp .lt off, 3)) (ht : (pc : Int) + off = (tgt : Int))
    (kt : x < y → X cx z ws lv tgt st) (kf : ¬ x < y → X cx z ws lv (pc + 3) st) : X cx z ws lv pc (.int y :: .int x :: st) := by
  obtain ⟨p, l, e, R, s, m, args, below, meth, c, Inv, G, Q, n⟩ := cx
  obtain ⟨hx, hb, hml, hnn, hown, hts, hK, hI0, hR, hlocks⟩ := C
  intro H locs hI ls hl
  exact lv_icmp_lt hx hb hd ht (fun h => kt h H locs hI ls hl) (fun h => kf h H locs hI ls hl)

theorem x_if_lt (C : XC cx cc Ts own rm nL) {x : Int32} {off : Int} (tgt : Nat) (hd : decode cc pc = .ok (.ifCond .lt off, 3)) (ht : (pc : Int) + off = (tgt : Int))
    (kt : x < 0 → X cx z ws lv tgt st) (kf : ¬ x < 0 → X cx z ws lv (pc + 3) st) : X cx z ws lv pc (.int x :: st) := by
  obtain ⟨p, l, e, R, s, m, args, below, meth, c, Inv, G, Q, n⟩ := cx
  obtain ⟨hx, hb, hml, hnn, hown, hts, hK, hI0, hR, hlocks⟩ := C
  intro H locs hI ls hl
  exact lv_if_lt hx hb hd ht (fun h => kt h H locs hI ls hl) (fun h => kf h H locs hI ls hl)

theorem x_icmp_ge (C : XC cx cc Ts own rm nL) {x y : Int32} {off : Int} (tgt : Nat) (hd : decode cc pc = .ok (.if_icmp .ge off, 3)) (ht : (pc : Int) + off = (tgt : Int))
    (kt : y ≤ x → X cx z ws lv tgt st) (kf : ¬ y ≤ x → X cx z ws lv (pc + 3) st) : X cx z ws lv pc (.int y :: .int x :: st) := by
  obtain ⟨p, l, e, R, s, m, args, below, meth, c, Inv, G, Q, n⟩ := cx
  obtain ⟨hx, hb, hml, hnn, hown, hts, hK, hI0, hR, hlocks⟩ := C
  intro H locs hI ls hl
  exact lv_icmp_ge hx hb hd ht (fun h => kt h H locs hI ls hl) (fun h => kf h H locs hI ls hl)

theorem x_if_ge (C : XC cx cc Ts own rm nL) {x : Int32} {off : Int} (tgt : Nat) (hd : decode cc pc = .ok (.ifCond .ge off, 3)) (ht : (pc : Int) + off = (tgt : Int))
    (kt : 0 ≤ x → X cx z ws lv tgt st) (kf : ¬ 0 ≤ x → X cx z ws lv (pc + 3) st) : X cx z ws lv pc (.int x :: st) := by
  obtain ⟨p, l, e, R, s, m, args, below, meth, c, Inv, G, Q, n⟩ := cx
  obtain ⟨hx, hb, hml, hnn, hown, hts, hK, hI0, hR, hlocks⟩ := C
  intro H locs hI ls hl
  exact lv_if_ge hx hb hd ht (fun h => kt h H locs hI ls hl) (fun h => kf h H locs hI ls hl)

theorem x_icmp_gt (C : XC cx cc Ts own rm nL) {x y : Int32} {off : Int} (tgt : Nat) (hd : decode cc pc = .ok (.if_icmp .gt off, 3)) (ht : (pc : Int) + off = (tgt : Int))
    (kt : y < x → X cx z ws lv tgt st) (kf : ¬ y < x → X cx z ws lv (pc + 3) st) : X cx z ws lv pc (.int y :: .int x :: st) := by
  obtain ⟨p, l, e, R, s, m, args, below, meth, c, Inv, G, Q, n⟩ := cx
  obtain ⟨hx, hb, hml, hnn, hown, hts, hK, hI0, hR, hlocks⟩ := C
  intro H locs hI ls hl
  exact lv_icmp_gt hx hb hd ht (fun h => kt h H locs hI ls hl) (fun h => kf h H locs hI ls hl)

theorem x_if_gt (C : XC cx cc Ts own rm nL) {x : Int32} {off : Int} (tgt : Nat) (hd : decode cc pc = .ok (.ifCond .gt off, 3)) (ht : (pc : Int) + off = (tgt : Int))
    (kt : 0 < x → X cx z ws lv tgt st) (kf : ¬ 0 < x → X cx z ws lv (pc + 3) st) : X cx z ws lv pc (.int x :: st) := by
  obtain ⟨p, l, e, R, s, m, args, below, meth, c, Inv, G, Q, n⟩ := cx
  obtain ⟨hx, hb, hml, hnn, hown, hts, hK, hI0, hR, hlocks⟩ := C
  intro H locs hI ls hl
  exact lv_if_gt hx hb hd ht (fun h => kt h H locs hI ls hl) (fun h => kf h H locs hI ls hl)

theorem x_icmp_le (C : XC cx cc Ts own rm nL) {x y : Int32} {off : Int} (tgt : Nat) (hd : decode cc pc = .ok (.if_icmp .le off, 3)) (ht : (pc : Int) + off = (tgt : Int))
    (kt : x ≤ y → X cx z ws lv tgt st) (kf : ¬ x ≤ y → X cx z ws lv (pc + 3) st) : X cx z ws lv pc (.int y :: .int x :: st) := by
  obtain ⟨p, l, e, R, s, m, args, below, meth, c, Inv, G, Q, n⟩ := cx
  obtain ⟨hx, hb, hml, hnn, hown, hts, hK, hI0, hR, hlocks⟩ := C
  intro H locs hI ls hl
  exact lv_icmp_le hx hb hd ht (fun h => kt h H locs hI ls hl) (fun h => kf h H locs hI ls hl)

theorem x_if_le (C : XC cx cc Ts own rm nL) {x : Int32} {off : Int} (tgt : Nat) (hd : decode cc pc = .ok (.ifCond .le off, 3)) (ht : (pc : Int) + off = (tgt : Int))
    (kt : x ≤ 0 → X cx z ws lv tgt st) (kf : ¬ x ≤ 0 → X cx z ws lv (pc + 3) st) : X cx z ws lv pc (.int x :: st) := by
  obtain ⟨p, l, e, R, s, m, args, below, meth, c, Inv, G, Q, n⟩ := cx
  obtain ⟨hx, hb, hml, hnn, hown, hts, hK, hI0, hR, hlocks⟩ := C
  intro H locs hI ls hl
  exact lv_if_le hx hb hd ht (fun h => kt h H locs hI ls hl) (fun h => kf h H locs hI ls hl)

theorem x_ifb_eq (C : XC cx cc Ts own rm nL) {P : Prop} [Decidable P] {off : Int} (tgt : Nat) (hd : decode cc pc = .ok (.ifCond .eq off, 3)) (ht : (pc : Int) + off = (tgt : Int))
    (kt : ¬ P → X cx z ws lv tgt st) (kf : P → X cx z ws lv (pc + 3) st) : X cx z ws lv pc (.int (b2i P) :: st) := by
  obtain ⟨p, l, e, R, s, m, args, below, meth, c, Inv, G, Q, n⟩ := cx
  obtain ⟨hx, hb, hml, hnn, hown, hts, hK, hI0, hR, hlocks⟩ := C
  intro H locs hI ls hl
  exact lv_if_eq (x := b2i P) hx hb hd ht (fun h => kt (b2i_e0.mp h) H locs hI ls hl) (fun h => kf (Classical.not_not.mp (fun q => h (b2i_e0.mpr q))) H locs hI ls hl)

theorem x_ifb_ne (C : XC cx cc Ts own rm nL) {P : Prop} [Decidable P] {off : Int} (tgt : Nat) (hd : decode cc pc = .ok (.ifCond .ne off, 3)) (ht : (pc : Int) + off = (tgt : Int))
    (kt : P → X cx z ws lv tgt st) (kf : ¬ P → X cx z ws lv (pc + 3) st) : X cx z ws lv pc (.int (b2i P) :: st) := by
  obtain ⟨p, l, e, R, s, m, args, below, meth, c, Inv, G, Q, n⟩ := cx
  obtain ⟨hx, hb, hml, hnn, hown, hts, hK, hI0, hR, hlocks⟩ := C
  intro H locs hI ls hl
  exact lv_if_ne (x := b2i P) hx hb hd ht (fun h => kt (Classical.not_not.mp (fun q => h (b2i_e0.mpr q))) H locs hI ls hl) (fun h => kf (b2i_e0.mp h) H locs hI ls hl)

theorem x_getf (C : XC cx cc Ts own rm nL) {a ci : Nat} {fs : List Value} (q0 : Nat) (he : ws[q0]? = some (a, .inr (ci, fs))) {Cn : String} {T : u_T} {N : Nat} (hc : vwCl[ci]? = some (Cn, T, N)) (hin : ∀ w ∈ u_ws Cn T N, w ∈ Ts) (k : Nat) (hk : k < N) {ref : String} {index : Nat} (hlk : Cond.fieldLink own index ref (T k).2.1 (T k).2.2.1 ∈ Ts) (hsame : (T k).1 = ref) {v : Value} (hv : fs[k]? = some v) (hd : decode cc pc = .ok (.getfield index, 3))
    (kk : X cx z ws lv (pc + 3) (v :: st)) : X cx z ws lv pc (.ref a :: st) := by
  obtain ⟨p, l, e, R, s, m, args, below, meth, c, Inv, G, Q, n⟩ := cx
  obtain ⟨hx, hb, hml, hnn, hown, hts, hK, hI0, hR, hlocks⟩ := C
  intro H locs hI ls hl
  exact va_get hx hb hts hin hown hK.1 (hI0 _ _ _ hI).1 q0 he hc k hk (hts _ hlk) (fun x h => by rw [← hsame]; exact h) hv hd (kk H locs hI ls hl)

theorem x_putf (C : XC cx cc Ts own rm nL) (M : XM cx) {a ci : Nat} {fs : List Value} (q0 : Nat) (he : ws[q0]? = some (a, .inr (ci, fs))) {Cn : String} {T : u_T} {N : Nat} (hc : vwCl[ci]? = some (Cn, T, N)) (hin : ∀ w ∈ u_ws Cn T N, w ∈ Ts) (k : Nat) (hk : k < N) {ref : String} {index : Nat} (hlk : Cond.fieldLink own index ref (T k).2.1 (T k).2.2.1 ∈ Ts) (hsame : (T k).1 = ref) (hfin : (T k).2.2.2 = false) (ty0 : Nat → FieldType) (hty : ∀ k, k < N → parseFieldDescriptor (T k).2.2.1 = some (ty0 k)) (hnm : ∀ a, a < N → ∀ b, b < N → a ≠ b → (T a).2.1 ≠ (T b).2.1) {ty : FieldType} {v : Value} (hde : parseFieldDescriptor (T k).2.2.1 = some ty) (hn : narrow ty v = v) (hfit : fits ty v = true) (hlen : k < fs.length) (ws' : va_W) (hw : ws.set q0 (a, .inr (ci, fs.set k v)) = ws') (hd : decode cc pc = .ok (.putfield index, 3))
    (kk : X cx z ws' lv (pc + 3) st) : X cx z ws lv pc (v :: .ref a :: st) := by
  obtain ⟨p, l, e, R, s, m, args, below, meth, c, Inv, G, Q, n⟩ := cx
  obtain ⟨hx, hb, hml, hnn, hown, hts, hK, hI0, hR, hlocks⟩ := C
  obtain ⟨A, hA⟩ := M
  intro H locs hI ls hl
  subst hw
  obtain ⟨hP, hD, hS⟩ := (hA _ _ _).mp hI
  exact va_put hx hb hts hin ty0 hty hnm hown hK.1 hP hD hS q0 he hc k hk (hts _ hlk) (fun x h => by rw [← hsame]; exact h) hfin hde hn hfit hlen hd (fun H1 locs1 h1 h2 h3 => kk H1 locs1 ((hA _ _ _).mpr ⟨h1, h2, h3⟩) ls hl)

theorem x_iald (C : XC cx cc Ts own rm nL) {a cA n0 : Nat} {f : Nat → Int32} (q0 : Nat) (ha : ws[q0]? = some (a, .inl (cA, n0, .inl f))) (hc : cA = (xG cx).2.1) {i : Int32} (hin : vp_in i n0) {v : Int32} (hv : f i.toNatClampNeg = v) (hd : decode cc pc = .ok (.iaload, 1))
    (kk : X cx z ws lv (pc + 1) (.int v :: st)) : X cx z ws lv pc (.int i :: .ref a :: st) := by
  obtain ⟨p, l, e, R, s, m, args, below, meth, c, Inv, G, Q, n⟩ := cx
  obtain ⟨hx, hb, hml, hnn, hown, hts, hK, hI0, hR, hlocks⟩ := C
  intro H locs hI ls hl
  subst hc; subst hv; exact va_iald hx hb hK.1 (hI0 _ _ _ hI).1 q0 0 ha rfl hin hd (kk H locs hI ls hl)

theorem x_cald (C : XC cx cc Ts own rm nL) {a cA n0 : Nat} {f : Nat → Int32} (q0 : Nat) (ha : ws[q0]? = some (a, .inl (cA, n0, .inl f))) (hc : cA = (xG cx).2.2.1) {i : Int32} (hin : vp_in i n0) {v : Int32} (hv : f i.toNatClampNeg = v) (hd : decode cc pc = .ok (.caload, 1))
    (kk : X cx z ws lv (pc + 1) (.int v :: st)) : X cx z ws lv pc (.int i :: .ref a :: st) := by
  obtain ⟨p, l, e, R, s, m, args, below, meth, c, Inv, G, Q, n⟩ := cx
  obtain ⟨hx, hb, hml, hnn, hown, hts, hK, hI0, hR, hlocks⟩ := C
  intro H locs hI ls hl
  subst hc; subst hv; exact va_cald hx hb hK.1 (hI0 _ _ _ hI).1 q0 1 ha rfl hin hd (kk H locs hI ls hl)

theorem x_alen (C : XC cx cc Ts own rm nL) {a cA n0 : Nat} {f : Nat → Int32} (q0 : Nat) (ha : ws[q0]? = some (a, .inl (cA, n0, .inl f))) (hc : cA = (xG cx).2.1) {v : Int32} (hv : nI n0 = v) (hd : decode cc pc = .ok (.arraylength, 1))
    (kk : X cx z ws lv (pc + 1) (.int v :: st)) : X cx z ws lv pc (.ref a :: st) := by
  obtain ⟨p, l, e, R, s, m, args, below, meth, c, Inv, G, Q, n⟩ := cx
  obtain ⟨hx, hb, hml, hnn, hown, hts, hK, hI0, hR, hlocks⟩ := C
  intro H locs hI ls hl
  subst hc; subst hv; exact va_alen hx hb hK.1 (hI0 _ _ _ hI).1 q0 0 ha rfl rfl hd (kk H locs hI ls hl)

theorem x_iast (C : XC cx cc Ts own rm nL) (M : XM cx) {a cA n0 : Nat} {f : Nat → Int32} (q0 : Nat) (ha : ws[q0]? = some (a, .inl (cA, n0, .inl f))) (hc : cA = (xG cx).2.1) {i x : Int32} (hin : vp_in i n0) {j : Nat} (hj : i.toNatClampNeg = j) (ws' : va_W) (hw : ws.set q0 (a, .inl (cA, n0, .inl (upd f j x))) = ws') (hd : decode cc pc = .ok (.iastore, 1))
    (kk : X cx z ws' lv (pc + 1) st) : X cx z ws lv pc (.int x :: .int i :: .ref a :: st) := by
  obtain ⟨p, l, e, R, s, m, args, below, meth, c, Inv, G, Q, n⟩ := cx
  obtain ⟨hx, hb, hml, hnn, hown, hts, hK, hI0, hR, hlocks⟩ := C
  obtain ⟨A, hA⟩ := M
  intro H locs hI ls hl
  subst hj
  subst hw
  subst hc
  obtain ⟨hP, hD, hS⟩ := (hA _ _ _).mp hI
  exact va_iast hx hb hK.1 hP hD hS q0 0 ha rfl hin hd (fun H1 locs1 h1 h2 h3 => kk H1 locs1 ((hA _ _ _).mpr ⟨h1, h2, h3⟩) ls hl)

theorem x_cast (C : XC cx cc Ts own rm nL) (M : XM cx) {a cA n0 : Nat} {f : Nat → Int32} (q0 : Nat) (ha : ws[q0]? = some (a, .inl (cA, n0, .inl f))) (hc : cA = (xG cx).2.2.1) {i x : Int32} (hin : vp_in i n0) {j : Nat} (hj : i.toNatClampNeg = j) (ws' : va_W) (hw : ws.set q0 (a, .inl (cA, n0, .inl (upd f j (vp_nar .char x)))) = ws') (hd : decode cc pc = .ok (.castore, 1))
    (kk : X cx z ws' lv (pc + 1) st) : X cx z ws lv pc (.int x :: .int i :: .ref a :: st) := by
  obtain ⟨p, l, e, R, s, m, args, below, meth, c, Inv, G, Q, n⟩ := cx
  obtain ⟨hx, hb, hml, hnn, hown, hts, hK, hI0, hR, hlocks⟩ := C
  obtain ⟨A, hA⟩ := M
  intro H locs hI ls hl
  subst hj
  subst hw
  subst hc
  obtain ⟨hP, hD, hS⟩ := (hA _ _ _).mp hI
  exact va_cast hx hb hK.1 hP hD hS q0 1 ha rfl hin hd (fun H1 locs1 h1 h2 h3 => kk H1 locs1 ((hA _ _ _).mpr ⟨h1, h2, h3⟩) ls hl)

theorem x_mmax (C : XC cx cc Ts own rm nL) {index : Nat} {x y : Int32} (m1 : Cond.methodLink own index Lib.Math.max.name ∈ Ts) (m2 : Cond.static Lib.Math.max.name ∈ Ts) (m3 : Cond.initialized "java/lang/Math" ∈ Ts) (m4 : Cond.code Lib.Math.max.name Lib.Math.max.code 2 (some .int) ∈ Ts) (hf : 1 ≤ rm.frames ∧ (st.map fun v => v.category).sum + 13 ≤ rm.locals ∧ z.1 ≤ rm.cells ∧ z.2 ≤ rm.slots) (hd : decode cc pc = .ok (.invokestatic index, 3))
    (kk : X cx z ws lv (pc + 3) (.int (if x < y then y else x) :: st)) : X cx z ws lv pc (.int y :: .int x :: st) := by
  obtain ⟨p, l, e, R, s, m, args, below, meth, c, Inv, G, Q, n⟩ := cx
  obtain ⟨hx, hb, hml, hnn, hown, hts, hK, hI0, hR, hlocks⟩ := C
  intro H locs hI ls hl
  subst hR; exact va_mmax hx hb (hml.trans hl.1.symm) hown (hts _ m1) (hts _ m2) (hts _ m3) (hts _ m4) hf.1 hf.2.1 hf.2.2.1 hf.2.2.2 hd (kk H locs hI ls hl)

theorem x_mmin (C : XC cx cc Ts own rm nL) {index : Nat} {x y : Int32} (m1 : Cond.methodLink own index Lib.Math.min.name ∈ Ts) (m2 : Cond.static Lib.Math.min.name ∈ Ts) (m3 : Cond.initialized "java/lang/Math" ∈ Ts) (m4 : Cond.code Lib.Math.min.name Lib.Math.min.code 2 (some .int) ∈ Ts) (hf : 1 ≤ rm.frames ∧ (st.map fun v => v.category).sum + 13 ≤ rm.locals ∧ z.1 ≤ rm.cells ∧ z.2 ≤ rm.slots) (hd : decode cc pc = .ok (.invokestatic index, 3))
    (kk : X cx z ws lv (pc + 3) (.int (if y < x then y else x) :: st)) : X cx z ws lv pc (.int y :: .int x :: st) := by
  obtain ⟨p, l, e, R, s, m, args, below, meth, c, Inv, G, Q, n⟩ := cx
  obtain ⟨hx, hb, hml, hnn, hown, hts, hK, hI0, hR, hlocks⟩ := C
  intro H locs hI ls hl
  subst hR; exact va_mmin hx hb (hml.trans hl.1.symm) hown (hts _ m1) (hts _ m2) (hts _ m3) (hts _ m4) hf.1 hf.2.1 hf.2.2.1 hf.2.2.2 hd (kk H locs hI ls hl)

theorem x_callVRO (C : XC cx cc Ts own rm nL) {y : MethodName} {rmy : Room} (As rest : List Value) {wc : va_W} (isC : List Nat) {v : Value} {Cn : String} {T : u_T} {N b ci k0 : Nat} {fs : List Value} {index na : Nat} {maxL : Nat} {ret : Option FieldType} {bytes : ByteArray} {wsy ws2 : List Cond} (hg : GoodIn Ts (wsV own index Cn y wsy)) (hw : wsy = Cond.code y bytes maxL ret :: ws2) (hy : y.cls = Cn ∧ y.cls ≠ "java/lang/invoke/MethodHandle" ∧ y.cls ≠ "java/lang/invoke/VarHandle" ∧ (parseMethodDescriptor y.desc).map (fun d => d.parameters.length) = some na) (hna : As.length = na) (he : wc[k0]? = some (b, .inr (ci, fs))) (hc : vwCl[ci]? = some (Cn, T, N)) (hM : RO (xl cx) (xG cx) y wsy rmy (.ref b :: As) wc v) (hcut : isC.map (fun i => ws[i]?) = wc.map some) (hnd : va_nd isC = true) (hst : st = As.reverse ++ .ref b :: rest) (hrc : rmy.cells = 0) (hrs : rmy.slots = 0) (hroom : rmy.frames + 1 ≤ rm.frames ∧ 8 + (maxL + 11) + rmy.locals ≤ rm.locals) (hcat : (rest.map fun v => v.category).sum ≤ 8) (hz : z.1 ≤ rm.cells ∧ z.2 ≤ rm.slots) (hd : decode cc pc = .ok (.invokevirtual index, 3))
    (kk : X cx z ws lv (pc + 3) (v :: rest)) : X cx z ws lv pc st := by
  obtain ⟨p, l, e, R, s, m, args, below, meth, c, Inv, G, Q, n⟩ := cx
  obtain ⟨hx, hb, hml, hnn, hown, hts, hK, hI0, hR, hlocks⟩ := C
  intro H locs hI ls hl
  subst hst
  subst hR
  have hP0 := hI0 _ _ _ hI
  have hPc : va_P G.1 vwCl wc H := cut_P hP0.1 isC hcut
  have hDc : va_D (fun _ => True) wc := hP0.2.sub isC hnd hcut
  intro T hT X0
  have hr := va_runV (As := As) (rest := rest) ⟨hx, hb, hml, hown, hts⟩ hM (cwV na hts hg hw hrc hrs hy hroom) ⟨CPc_blind _ _ _, va_recv hK.1 hPc hc he, fun U hU hW => ⟨rfl, by rw [hU]; exact hPc, hDc, hK.warm hW⟩⟩ (H := H) (locs := locs) (cells := z.1) (slots := z.2) (g := F0 m pc ls (As.reverse ++ .ref b :: rest)) (e := e) (below := below) (meth := meth) rfl hna hl.1 rfl (lv_room hcat) hd ⟨hz.1, hz.2⟩
  obtain ⟨v0, st₀, t, T', L, h0, X', hL, e1, e2, hq, stp⟩ := hr T hT X0
  obtain ⟨hv, hh⟩ := hq
  cases hv
  obtain ⟨t2, a1, b1⟩ := kk H locs hI ls hl T' (by rw [e1, hh, h0]) (Stand.forget X' (fun q h => (hL q h).elim))
  exact ⟨t2, stp t2 a1, b1⟩

theorem x_callVMU (C : XC cx cc Ts own rm nL) {y : MethodName} {rmy : Room} (As rest : List Value) {wc : va_W} (isC : List Nat) {r : Option Value} {wc' : va_W} (ws' : va_W) (oth : List Nat) (ads : List Nat) (ho0 : ws.map (fun q => q.1) = ads) (ho1' : ws'.map (fun q => q.1) = ads) (wo : va_W) (ho2' : oth.map (fun i => ws[i]?) = wo.map some) (ho2'' : oth.map (fun i => ws'[i]?) = wo.map some) (nw : Nat) (hnw : ws.length = nw) (ho3 : (List.range nw).all (fun i => isC.contains i || oth.contains i) = true) (ho4 : isC.map (fun i => ws'[i]?) = wc'.map some) {Cn : String} {T : u_T} {N b ci k0 : Nat} {fs : List Value} {index na : Nat} {maxL : Nat} {ret : Option FieldType} {bytes : ByteArray} {wsy ws2 : List Cond} (hg : GoodIn Ts (wsV own index Cn y wsy)) (hw : wsy = Cond.code y bytes maxL ret :: ws2) (hy : y.cls = Cn ∧ y.cls ≠ "java/lang/invoke/MethodHandle" ∧ y.cls ≠ "java/lang/invoke/VarHandle" ∧ (parseMethodDescriptor y.desc).map (fun d => d.parameters.length) = some na) (hna : As.length = na) (he : wc[k0]? = some (b, .inr (ci, fs))) (hc : vwCl[ci]? = some (Cn, T, N)) (M : XM cx) (hM : MU (xl cx) (xG cx) y wsy rmy (.ref b :: As) wc r wc') (hcut : isC.map (fun i => ws[i]?) = wc.map some) (hnd : va_nd isC = true) (hst : st = As.reverse ++ .ref b :: rest) (hrc : rmy.cells = 0) (hrs : rmy.slots = 0) (hroom : rmy.frames + 1 ≤ rm.frames ∧ 8 + (maxL + 11) + rmy.locals ≤ rm.locals) (hcat : (rest.map fun v => v.category).sum ≤ 8) (hz : z.1 ≤ rm.cells ∧ z.2 ≤ rm.slots) (hd : decode cc pc = .ok (.invokevirtual index, 3))
    (kk : X cx z ws' lv (pc + 3) (r.toList ++ rest)) : X cx z ws lv pc st := by
  obtain ⟨p, l, e, R, s, m, args, below, meth, c, Inv, G, Q, n⟩ := cx
  obtain ⟨hx, hb, hml, hnn, hown, hts, hK, hI0, hR, hlocks⟩ := C
  intro H locs hI ls hl
  subst hst
  subst hR
  have hP0 := hI0 _ _ _ hI
  have hPc : va_P G.1 vwCl wc H := cut_P hP0.1 isC hcut
  have hDc : va_D (fun _ => True) wc := hP0.2.sub isC hnd hcut
  intro T hT X0
  have hr := va_runV (As := As) (rest := rest) ⟨hx, hb, hml, hown, hts⟩ hM (cwV na hts hg hw hrc hrs hy hroom) ⟨CPc_blind _ _ _, va_recv hK.1 hPc hc he, fun U hU hW => ⟨rfl, by rw [hU]; exact hPc, hDc, hK.warm hW⟩⟩ (H := H) (locs := locs) (cells := z.1) (slots := z.2) (g := F0 m pc ls (As.reverse ++ .ref b :: rest)) (e := e) (below := below) (meth := meth) rfl hna hl.1 rfl (lv_room hcat) hd ⟨hz.1, hz.2⟩
  obtain ⟨v0, st₀, t, T', L, h0, X', hL, e1, e2, hq, stp⟩ := hr T hT X0
  obtain ⟨hv, hP1, hF1⟩ := hq
  cases hv
  obtain ⟨A, hA⟩ := M
  obtain ⟨hP, hD, hS⟩ := (hA _ _ _).mp hI
  have hfA : ∀ q, aw wc q → A q := aw_in hD isC hcut
  have hF2 : H.size ≤ t.heap.size ∧ ∀ q : Nat, q < H.size → ¬ aw wc q → t.heap[q]? = H[q]? := by rw [← h0]; exact hF1
  have hS' : va_S A s.heap t.heap (locs ++ L) := ⟨Nat.le_trans hS.1 hF2.1, fun q h1 h2 => by rw [hF2.2 q (Nat.lt_of_lt_of_le h1 hS.1) (fun z => h2 (hfA q z))]; exact hS.2.1 q h1 h2, fun q hq => by
    rcases List.mem_append.mp hq with h | h
    · exact hS.2.2 q h
    · exact hfA _ (hL q h)⟩
  obtain ⟨t2, a1, b1⟩ := kk t.heap (locs ++ L) ((hA _ _ _).mpr ⟨back_P hP hD isC oth hcut (ho1'.trans ho0.symm) (ho2''.trans ho2'.symm) nw hnw ho3 ho4 hF2 hP1, back_D hD (ho1'.trans ho0.symm), hS'⟩) ls hl T' e1 X'
  exact ⟨t2, stp t2 a1, b1⟩

theorem x_callSRO (C : XC cx cc Ts own rm nL) {y : MethodName} {rmy : Room} (As rest : List Value) {wc : va_W} (isC : List Nat) {v : Value} {index na : Nat} {maxL : Nat} {ret : Option FieldType} {bytes : ByteArray} {wsy ws2 : List Cond} (hg : GoodIn Ts (va_wsS own index y wsy)) (hw : wsy = Cond.code y bytes maxL ret :: ws2) (hy : y.cls ≠ "java/lang/invoke/MethodHandle" ∧ y.cls ≠ "java/lang/invoke/VarHandle" ∧ (parseMethodDescriptor y.desc).map (fun d => d.parameters.length) = some na) (hna : As.length = na) (hM : RO (xl cx) (xG cx) y wsy rmy (As) wc v) (hcut : isC.map (fun i => ws[i]?) = wc.map some) (hnd : va_nd isC = true) (hst : st = As.reverse ++ rest) (hrc : rmy.cells = 0) (hrs : rmy.slots = 0) (hroom : rmy.frames + 1 ≤ rm.frames ∧ 8 + (maxL + 11) + rmy.locals ≤ rm.locals) (hcat : (rest.map fun v => v.category).sum ≤ 8) (hz : z.1 ≤ rm.cells ∧ z.2 ≤ rm.slots) (hd : decode cc pc = .ok (.invokestatic index, 3))
    (kk : X cx z ws lv (pc + 3) (v :: rest)) : X cx z ws lv pc st := by
  obtain ⟨p, l, e, R, s, m, args, below, meth, c, Inv, G, Q, n⟩ := cx
  obtain ⟨hx, hb, hml, hnn, hown, hts, hK, hI0, hR, hlocks⟩ := C
  intro H locs hI ls hl
  subst hst
  subst hR
  have hP0 := hI0 _ _ _ hI
  have hPc : va_P G.1 vwCl wc H := cut_P hP0.1 isC hcut
  have hDc : va_D (fun _ => True) wc := hP0.2.sub isC hnd hcut
  intro T hT X0
  have hr := va_runS (As := As) (rest := rest) ⟨hx, hb, hml, hown, hts⟩ hM (va_cwS na hts hg hw hrc hrs hy hroom) ⟨CPc_blind _ _ _, fun U hU hW => ⟨rfl, by rw [hU]; exact hPc, hDc, hK.warm hW⟩⟩ (H := H) (locs := locs) (cells := z.1) (slots := z.2) (g := F0 m pc ls (As.reverse ++ rest)) (e := e) (below := below) (meth := meth) rfl hna hl.1 rfl (lv_room hcat) hd ⟨hz.1, hz.2⟩
  obtain ⟨v0, st₀, t, T', L, h0, X', hL, e1, e2, hq, stp⟩ := hr T hT X0
  obtain ⟨hv, hh⟩ := hq
  cases hv
  obtain ⟨t2, a1, b1⟩ := kk H locs hI ls hl T' (by rw [e1, hh, h0]) (Stand.forget X' (fun q h => (hL q h).elim))
  exact ⟨t2, stp t2 a1, b1⟩

theorem x_callSMU (C : XC cx cc Ts own rm nL) {y : MethodName} {rmy : Room} (As rest : List Value) {wc : va_W} (isC : List Nat) {r : Option Value} {wc' : va_W} (ws' : va_W) (oth : List Nat) (ads : List Nat) (ho0 : ws.map (fun q => q.1) = ads) (ho1' : ws'.map (fun q => q.1) = ads) (wo : va_W) (ho2' : oth.map (fun i => ws[i]?) = wo.map some) (ho2'' : oth.map (fun i => ws'[i]?) = wo.map some) (nw : Nat) (hnw : ws.length = nw) (ho3 : (List.range nw).all (fun i => isC.contains i || oth.contains i) = true) (ho4 : isC.map (fun i => ws'[i]?) = wc'.map some) {index na : Nat} {maxL : Nat} {ret : Option FieldType} {bytes : ByteArray} {wsy ws2 : List Cond} (hg : GoodIn Ts (va_wsS own index y wsy)) (hw : wsy = Cond.code y bytes maxL ret :: ws2) (hy : y.cls ≠ "java/lang/invoke/MethodHandle" ∧ y.cls ≠ "java/lang/invoke/VarHandle" ∧ (parseMethodDescriptor y.desc).map (fun d => d.parameters.length) = some na) (hna : As.length = na) (M : XM cx) (hM : MU (xl cx) (xG cx) y wsy rmy (As) wc r wc') (hcut : isC.map (fun i => ws[i]?) = wc.map some) (hnd : va_nd isC = true) (hst : st = As.reverse ++ rest) (hrc : rmy.cells = 0) (hrs : rmy.slots = 0) (hroom : rmy.frames + 1 ≤ rm.frames ∧ 8 + (maxL + 11) + rmy.locals ≤ rm.locals) (hcat : (rest.map fun v => v.category).sum ≤ 8) (hz : z.1 ≤ rm.cells ∧ z.2 ≤ rm.slots) (hd : decode cc pc = .ok (.invokestatic index, 3))
    (kk : X cx z ws' lv (pc + 3) (r.toList ++ rest)) : X cx z ws lv pc st := by
  obtain ⟨p, l, e, R, s, m, args, below, meth, c, Inv, G, Q, n⟩ := cx
  obtain ⟨hx, hb, hml, hnn, hown, hts, hK, hI0, hR, hlocks⟩ := C
  intro H locs hI ls hl
  subst hst
  subst hR
  have hP0 := hI0 _ _ _ hI
  have hPc : va_P G.1 vwCl wc H := cut_P hP0.1 isC hcut
  have hDc : va_D (fun _ => True) wc := hP0.2.sub isC hnd hcut
  intro T hT X0
  have hr := va_runS (As := As) (rest := rest) ⟨hx, hb, hml, hown, hts⟩ hM (va_cwS na hts hg hw hrc hrs hy hroom) ⟨CPc_blind _ _ _, fun U hU hW => ⟨rfl, by rw [hU]; exact hPc, hDc, hK.warm hW⟩⟩ (H := H) (locs := locs) (cells := z.1) (slots := z.2) (g := F0 m pc ls (As.reverse ++ rest)) (e := e) (below := below) (meth := meth) rfl hna hl.1 rfl (lv_room hcat) hd ⟨hz.1, hz.2⟩
  obtain ⟨v0, st₀, t, T', L, h0, X', hL, e1, e2, hq, stp⟩ := hr T hT X0
  obtain ⟨hv, hP1, hF1⟩ := hq
  cases hv
  obtain ⟨A, hA⟩ := M
  obtain ⟨hP, hD, hS⟩ := (hA _ _ _).mp hI
  have hfA : ∀ q, aw wc q → A q := aw_in hD isC hcut
  have hF2 : H.size ≤ t.heap.size ∧ ∀ q : Nat, q < H.size → ¬ aw wc q → t.heap[q]? = H[q]? := by rw [← h0]; exact hF1
  have hS' : va_S A s.heap t.heap (locs ++ L) := ⟨Nat.le_trans hS.1 hF2.1, fun q h1 h2 => by rw [hF2.2 q (Nat.lt_of_lt_of_le h1 hS.1) (fun z => h2 (hfA q z))]; exact hS.2.1 q h1 h2, fun q hq => by
    rcases List.mem_append.mp hq with h | h
    · exact hS.2.2 q h
    · exact hfA _ (hL q h)⟩
  obtain ⟨t2, a1, b1⟩ := kk t.heap (locs ++ L) ((hA _ _ _).mpr ⟨back_P hP hD isC oth hcut (ho1'.trans ho0.symm) (ho2''.trans ho2'.symm) nw hnw ho3 ho4 hF2 hP1, back_D hD (ho1'.trans ho0.symm), hS'⟩) ls hl T' e1 X'
  exact ⟨t2, stp t2 a1, b1⟩

theorem x_callNRO (C : XC cx cc Ts own rm nL) {y : MethodName} {rmy : Room} (As rest : List Value) {wc : va_W} (isC : List Nat) {v : Value} {index na : Nat} {maxL : Nat} {ret : Option FieldType} {bytes : ByteArray} {wsy ws2 : List Cond} {host : String} (hg : GoodIn Ts wsy) (hnest : Cond.methodLinkNest own index y host ∈ xN) (hsta : Cond.static y ∈ Ts) (hini : Cond.initialized y.cls ∈ Ts) (hw : wsy = Cond.code y bytes maxL ret :: ws2) (hy : y.cls ≠ "java/lang/invoke/MethodHandle" ∧ y.cls ≠ "java/lang/invoke/VarHandle" ∧ (parseMethodDescriptor y.desc).map (fun d => d.parameters.length) = some na) (hna : As.length = na) (hM : RO (xl cx) (xG cx) y wsy rmy (As) wc v) (hcut : isC.map (fun i => ws[i]?) = wc.map some) (hnd : va_nd isC = true) (hst : st = As.reverse ++ rest) (hrc : rmy.cells = 0) (hrs : rmy.slots = 0) (hroom : rmy.frames + 1 ≤ rm.frames ∧ 8 + (maxL + 11) + rmy.locals ≤ rm.locals) (hcat : (rest.map fun v => v.category).sum ≤ 8) (hz : z.1 ≤ rm.cells ∧ z.2 ≤ rm.slots) (hd : decode cc pc = .ok (.invokestatic index, 3))
    (kk : X cx z ws lv (pc + 3) (v :: rest)) : X cx z ws lv pc st := by
  obtain ⟨p, l, e, R, s, m, args, below, meth, c, Inv, G, Q, n⟩ := cx
  obtain ⟨hx, hb, hml, hnn, hown, hts, hK, hI0, hR, hlocks⟩ := C
  intro H locs hI ls hl
  subst hst
  subst hR
  have hP0 := hI0 _ _ _ hI
  have hPc : va_P G.1 vwCl wc H := cut_P hP0.1 isC hcut
  have hDc : va_D (fun _ => True) wc := hP0.2.sub isC hnd hcut
  intro T hT X0
  have hr := va_runSN (As := As) (rest := rest) ⟨hx, hb, hml, hown, hts⟩ hM ⟨va_cnB na hts hg hw hrc hrs (hK.2 _ hnest) (hts _ hini) hy hroom, hts _ hsta, trivial⟩ ⟨CPc_blind _ _ _, fun U hU hW => ⟨rfl, by rw [hU]; exact hPc, hDc, hK.warm hW⟩⟩ (H := H) (locs := locs) (cells := z.1) (slots := z.2) (g := F0 m pc ls (As.reverse ++ rest)) (e := e) (below := below) (meth := meth) rfl hna hl.1 rfl (lv_room hcat) hd ⟨hz.1, hz.2⟩
  obtain ⟨v0, st₀, t, T', L, h0, X', hL, e1, e2, hq, stp⟩ := hr T hT X0
  obtain ⟨hv, hh⟩ := hq
  cases hv
  obtain ⟨t2, a1, b1⟩ := kk H locs hI ls hl T' (by rw [e1, hh, h0]) (Stand.forget X' (fun q h => (hL q h).elim))
  exact ⟨t2, stp t2 a1, b1⟩

theorem x_callNMU (C : XC cx cc Ts own rm nL) {y : MethodName} {rmy : Room} (As rest : List Value) {wc : va_W} (isC : List Nat) {r : Option Value} {wc' : va_W} (ws' : va_W) (oth : List Nat) (ads : List Nat) (ho0 : ws.map (fun q => q.1) = ads) (ho1' : ws'.map (fun q => q.1) = ads) (wo : va_W) (ho2' : oth.map (fun i => ws[i]?) = wo.map some) (ho2'' : oth.map (fun i => ws'[i]?) = wo.map some) (nw : Nat) (hnw : ws.length = nw) (ho3 : (List.range nw).all (fun i => isC.contains i || oth.contains i) = true) (ho4 : isC.map (fun i => ws'[i]?) = wc'.map some) {index na : Nat} {maxL : Nat} {ret : Option FieldType} {bytes : ByteArray} {wsy ws2 : List Cond} {host : String} (hg : GoodIn Ts wsy) (hnest : Cond.methodLinkNest own index y host ∈ xN) (hsta : Cond.static y ∈ Ts) (hini : Cond.initialized y.cls ∈ Ts) (hw : wsy = Cond.code y bytes maxL ret :: ws2) (hy : y.cls ≠ "java/lang/invoke/MethodHandle" ∧ y.cls ≠ "java/lang/invoke/VarHandle" ∧ (parseMethodDescriptor y.desc).map (fun d => d.parameters.length) = some na) (hna : As.length = na) (M : XM cx) (hM : MU (xl cx) (xG cx) y wsy rmy (As) wc r wc') (hcut : isC.map (fun i => ws[i]?) = wc.map some) (hnd : va_nd isC = true) (hst : st = As.reverse ++ rest) (hrc : rmy.cells = 0) (hrs : rmy.slots = 0) (hroom : rmy.frames + 1 ≤ rm.frames ∧ 8 + (maxL + 11) + rmy.locals ≤ rm.locals) (hcat : (rest.map fun v => v.category).sum ≤ 8) (hz : z.1 ≤ rm.cells ∧ z.2 ≤ rm.slots) (hd : decode cc pc = .ok (.invokestatic index, 3))
    (kk : X cx z ws' lv (pc + 3) (r.toList ++ rest)) : X cx z ws lv pc st := by
  obtain ⟨p, l, e, R, s, m, args, below, meth, c, Inv, G, Q, n⟩ := cx
  obtain ⟨hx, hb, hml, hnn, hown, hts, hK, hI0, hR, hlocks⟩ := C
  intro H locs hI ls hl
  subst hst
  subst hR
  have hP0 := hI0 _ _ _ hI
  have hPc : va_P G.1 vwCl wc H := cut_P hP0.1 isC hcut
  have hDc : va_D (fun _ => True) wc := hP0.2.sub isC hnd hcut
  intro T hT X0
  have hr := va_runSN (As := As) (rest := rest) ⟨hx, hb, hml, hown, hts⟩ hM ⟨va_cnB na hts hg hw hrc hrs (hK.2 _ hnest) (hts _ hini) hy hroom, hts _ hsta, trivial⟩ ⟨CPc_blind _ _ _, fun U hU hW => ⟨rfl, by rw [hU]; exact hPc, hDc, hK.warm hW⟩⟩ (H := H) (locs := locs) (cells := z.1) (slots := z.2) (g := F0 m pc ls (As.reverse ++ rest)) (e := e) (below := below) (meth := meth) rfl hna hl.1 rfl (lv_room hcat) hd ⟨hz.1, hz.2⟩
  obtain ⟨v0, st₀, t, T', L, h0, X', hL, e1, e2, hq, stp⟩ := hr T hT X0
  obtain ⟨hv, hP1, hF1⟩ := hq
  cases hv
  obtain ⟨A, hA⟩ := M
  obtain ⟨hP, hD, hS⟩ := (hA _ _ _).mp hI
  have hfA : ∀ q, aw wc q → A q := aw_in hD isC hcut
  have hF2 : H.size ≤ t.heap.size ∧ ∀ q : Nat, q < H.size → ¬ aw wc q → t.heap[q]? = H[q]? := by rw [← h0]; exact hF1
  have hS' : va_S A s.heap t.heap (locs ++ L) := ⟨Nat.le_trans hS.1 hF2.1, fun q h1 h2 => by rw [hF2.2 q (Nat.lt_of_lt_of_le h1 hS.1) (fun z => h2 (hfA q z))]; exact hS.2.1 q h1 h2, fun q hq => by
    rcases List.mem_append.mp hq with h | h
    · exact hS.2.2 q h
    · exact hfA _ (hL q h)⟩
  obtain ⟨t2, a1, b1⟩ := kk t.heap (locs ++ L) ((hA _ _ _).mpr ⟨back_P hP hD isC oth hcut (ho1'.trans ho0.symm) (ho2''.trans ho2'.symm) nw hnw ho3 ho4 hF2 hP1, back_D hD (ho1'.trans ho0.symm), hS'⟩) ls hl T' e1 X'
  exact ⟨t2, stp t2 a1, b1⟩

theorem x_iret (C : XC cx cc Ts own rm nL) {v v' : Int32} {w : va_W} (E : XE cx z (some .int) (some (.int v')) w) (hd : decode cc pc = .ok (.ireturn, 1)) (hv : v = v') (hw : ws = w) : X cx z ws lv pc [.int v] := by
  obtain ⟨p, l, e, R, s, m, args, below, meth, c, Inv, G, Q, n⟩ := cx
  obtain ⟨hx, hb, hml, hnn, hown, hts, hK, hI0, hR, hlocks⟩ := C
  obtain ⟨hr, Qc, free, hQ, hE⟩ := E
  subst hv
  subst hw
  subst hQ
  intro H locs hI ls hl
  exact W.iret hx hb hr (hE H locs hI).1 (hE H locs hI).2 hd
theorem x_zret (C : XC cx cc Ts own rm nL) {v : Int32} {P : Prop} [Decidable P] {w : va_W} (E : XE cx z (some .boolean) (some (.int (b2i P))) w) (hd : decode cc pc = .ok (.ireturn, 1)) (hv : v = b2i P) (hw : ws = w) : X cx z ws lv pc [.int v] := by
  obtain ⟨p, l, e, R, s, m, args, below, meth, c, Inv, G, Q, n⟩ := cx
  obtain ⟨hx, hb, hml, hnn, hown, hts, hK, hI0, hR, hlocks⟩ := C
  obtain ⟨hr, Qc, free, hQ, hE⟩ := E
  subst hv
  subst hw
  subst hQ
  intro H locs hI ls hl
  exact W.zret hx hb hr (b2i_nz P) (hE H locs hI).1 (hE H locs hI).2 hd
theorem x_vret (C : XC cx cc Ts own rm nL) {w : va_W} (E : XE cx z none none w) (hd : decode cc pc = .ok (.return_, 1)) (hw : ws = w) : X cx z ws lv pc [] := by
  obtain ⟨p, l, e, R, s, m, args, below, meth, c, Inv, G, Q, n⟩ := cx
  obtain ⟨hx, hb, hml, hnn, hown, hts, hK, hI0, hR, hlocks⟩ := C
  obtain ⟨hr, Qc, free, hQ, hE⟩ := E
  subst hw
  subst hQ
  intro H locs hI ls hl
  exact W.vret hx hb hr (hE H locs hI).1 (hE H locs hI).2 hd

theorem x_tsw (C : XC cx cc Ts own rm nL) {x : Int32} {dflt hi : Int} {offs : Array Int} {len : Nat} (hd : decode cc pc = .ok (.tableswitch dflt 0 hi offs, len)) (ts : List Nat) (td : Nat) (h1 : hi + 1 = ts.length) (h2 : offs.toList.map (fun o => (pc : Int) + o) = ts.map (fun t : Nat => (t : Int))) (h3 : (pc : Int) + dflt = (td : Int))
    (kk : allc (fun t => X cx z ws lv t st) x 0 ts) (kd : (∀ j : Nat, j < ts.length → ¬ x.toInt = (j : Int)) → X cx z ws lv td st) : X cx z ws lv pc (.int x :: st) := by
  by_cases hj : ∃ j : Nat, j < ts.length ∧ x.toInt = (j : Int)
  · obtain ⟨j, hj, hxj⟩ := hj
    obtain ⟨t, ht⟩ : ∃ t, ts[j]? = some t := ⟨_, List.getElem?_eq_getElem hj⟩
    have hk := allc_at _ x ts 0 kk j t ht (by rw [hxj]; simp)
    obtain ⟨p, l, e, R, s, m, args, below, meth, c, Inv, G, Q, n⟩ := cx
    obtain ⟨hx, hb, hml, hnn, hown, hts, hK, hI0, hR, hlocks⟩ := C
    intro H locs hI ls hl
    have ho : (offs.toList.map (fun o : Int => (pc : Int) + o))[j]? = some (t : Int) := by rw [h2, List.getElem?_map, ht]; rfl
    rw [List.getElem?_map] at ho
    cases hoj : offs.toList[j]? with
    | none => rw [hoj] at ho; cases ho
    | some o =>
      rw [hoj] at ho
      have hoo : (pc : Int) + o = (t : Int) := Option.some.inj ho
      refine lv_tableIn hx hb hd (by omega) (by omega) (off := o) ?_ hoo (hk H locs hI ls hl)
      rw [← Array.getElem?_toList, hxj]
      simpa using hoj
  · have hn : ∀ j : Nat, j < ts.length → ¬ x.toInt = (j : Int) := fun j h1 h2 => hj ⟨j, h1, h2⟩
    have hk := kd hn
    obtain ⟨p, l, e, R, s, m, args, below, meth, c, Inv, G, Q, n⟩ := cx
    obtain ⟨hx, hb, hml, hnn, hown, hts, hK, hI0, hR, hlocks⟩ := C
    intro H locs hI ls hl
    refine lv_tableOut hx hb hd ?_ h3 (hk H locs hI ls hl)
    by_cases h : x.toInt < 0
    · exact Or.inl h
    · refine Or.inr ?_
      by_cases g : hi < x.toInt
      · exact g
      · exact absurd (by omega) (hn x.toInt.toNat (by omega))
theorem x_lsw (C : XC cx cc Ts own rm nL) {x : Int32} {dflt : Int} {ps : Array (Int × Int)} {len : Nat} (hd : decode cc pc = .ok (.lookupswitch dflt ps, len)) (hp : (ps.toList.zip (ps.toList.drop 1)).all (fun (a, next) => a.1 < next.1) = true) (ts : List (Int × Nat)) (td : Nat) (h2 : ps.toList.map (fun o : Int × Int => (o.1, (pc : Int) + o.2)) = ts.map (fun t : Int × Nat => (t.1, (t.2 : Int)))) (h3 : (pc : Int) + dflt = (td : Int))
    (kk : alll (fun t => X cx z ws lv t st) x ts) (kd : (∀ q ∈ ts, ¬ x.toInt = q.1) → X cx z ws lv td st) : X cx z ws lv pc (.int x :: st) := by
  have key : ∀ (pl : List (Int × Int)) (tl : List (Int × Nat)), pl.map (fun o : Int × Int => (o.1, (pc : Int) + o.2)) = tl.map (fun t : Int × Nat => (t.1, (t.2 : Int))) → alll (fun t => X cx z ws lv t st) x tl → ((∀ q ∈ tl, ¬ x.toInt = q.1) → X cx z ws lv td st) → ∃ (o : Int) (t : Nat), Op.lookupswitch.offset pl dflt x.toInt = o ∧ (pc : Int) + o = (t : Int) ∧ X cx z ws lv t st := by
    intro pl
    induction pl with
    | nil =>
      intro tl h _ hk
      cases tl with
      | nil => exact ⟨dflt, td, rfl, h3, hk (fun q hq => by cases hq)⟩
      | cons a b => simp at h
    | cons q pl ih =>
      intro tl h ha hk
      cases tl with
      | nil => simp at h
      | cons a b =>
        simp only [List.map_cons, List.cons.injEq, Prod.mk.injEq] at h
        obtain ⟨⟨e1, e2⟩, e3⟩ := h
        obtain ⟨a1, a2⟩ := ha
        by_cases hq : x.toInt = a.1
        · refine ⟨q.2, a.2, ?_, e2, a1 hq⟩
          obtain ⟨q1, q2⟩ := q
          simp only at e1
          subst e1
          simp [Op.lookupswitch.offset, hq]
        · obtain ⟨o, t, i1, i2, i3⟩ := ih b e3 a2 (fun hb => hk (fun r hr => by
            rcases List.mem_cons.mp hr with h | h
            · rw [h]; exact hq
            · exact hb r h))
          refine ⟨o, t, ?_, i2, i3⟩
          obtain ⟨q1, q2⟩ := q
          simp only at e1
          subst e1
          rw [← i1]
          simp [Op.lookupswitch.offset, Ne.symm hq, hq]
  obtain ⟨o, t, i1, i2, hk⟩ := key ps.toList ts h2 kk kd
  obtain ⟨p, l, e, R, s, m, args, below, meth, c, Inv, G, Q, n⟩ := cx
  obtain ⟨hx, hb, hml, hnn, hown, hts, hK, hI0, hR, hlocks⟩ := C
  intro H locs hI ls hl
  exact lv_lookup hx hb hd hp i1 i2 (hk H locs hI ls hl)

end XROWS
