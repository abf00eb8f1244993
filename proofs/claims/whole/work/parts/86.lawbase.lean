/-! THE CLAIM OUT OF ONE WALK OF THE LAW'S BODY. Your part is whole_start (and what it stands on); all else here is the same for every law, but numbers. -/
def R_law : String := "LampRacksLaw"
def lw_P (b : Addr) (xs : List Int32) (args : Array Value) (s : State) : Prop := args = #[.ref b] ∧ s.IntsAt b xs ∧ xs.length ≤ 2560 ∧ (Jvm.Cond.and given_1 narrow_1).before args s = true
def lw_Q (_ : Array Value) (s : State) (o : Outcome) (t : State) : Prop := o = .returned (some (.int 1)) ∧ Framed s o t [] 600000 7302250
def lw_Z (below : List Frame) (a : Array Value) (s : State) : State → Prop := fun t => ∃ o, t.status = .running ∧ Ended t below o ∧ lw_Q a s o t
/-- the law's own end, with 1 on the stack, nothing written that was there before, its room as the claim has it -/
theorem lw_ret {p : Program} {l : Launch} {e : Env} {s : State} {m : MethodId} {below : List Frame} {meth : Method} {c : Code} {b : Nat} (hx : p.tables.exec = Jvm.exec) (hb : c.code = code) (hr : meth.sig.returnType = ret) (hlocks : meth.locks = false) {pc : Nat} {H : Heap} {ls : Array Slot} (hdg : decode code pc = .ok (.ireturn, 1)) : W p l e room_1 s m #[Value.ref b] below meth c H [] 600000 7302250 (lw_Z below #[Value.ref b] s) (F0 m pc ls [.int 1]) := by
  intro T hT X
  obtain ⟨fs, hret, hrun, hended, hW, hframe⟩ := X.leave (v := some (.int 1)) (hlocks := hlocks) (fun h => by rw [hr] at h; cases h)
  have hmeth' : T.vm.method? m = some meth := X.method'
  refine ⟨T.setFrames fs, ?_, .returned (some (.int 1)), hrun, hended, rfl, ⟨_, rfl⟩, hW, hframe⟩
  jvm_step X.here [X.here.top, hx, hb, hdg, hmeth', hr, ret, narrow_b1]
  (try refine ⟨rfl, ?_⟩); (try refine ⟨rfl, ?_⟩)
  first | (intro acts; rw [hret _ acts rfl rfl rfl]) | rw [hret _ _ rfl rfl rfl]
  exact Steps.refl _
/-- what holds at the law's entry: the machine, the code, the tables' words (any of lw_tbl by 'hts w (by decide +kernel)'), the script of L ints xs at the cell b, what the Statement gives of the start (any of its parts by flat_of_before) -/
def lw_At (p : Program) (s : State) (m : MethodId) (meth : Method) (c : Code) (b L : Nat) (xs : Nat → Int32) : Prop :=
  p.tables.exec = Jvm.exec ∧ c.code = code ∧ meth.sig.returnType = ret ∧ c.maxLocals = 4 ∧ s.vm.findClass R_law = some m.cls ∧ (∀ w ∈ lw_tbl, w.before #[Value.ref b] s = true) ∧ va_X b L xs s s.heap ∧ b < s.heap.size ∧ meth.locks = false ∧ (Jvm.Cond.and given_1 narrow_1).before #[Value.ref b] s = true
/-! the law: what its walk stands on -/
theorem inlX0 : ∀ w ∈ wsX00, w ∈ wsL_law := fun _ h => List.mem_append_left _ (List.mem_append_left _ (List.mem_append_left _ (List.mem_append_right _ h)))
theorem inlX1 : ∀ w ∈ wsX10, w ∈ wsL_law := fun _ h => List.mem_append_left _ (List.mem_append_left _ (List.mem_append_left _ (List.mem_append_left _ (List.mem_append_left _ (List.mem_append_right _ h)))))
theorem inlX2 : ∀ w ∈ wsX20, w ∈ wsL_law := fun _ h => List.mem_append_left _ (List.mem_append_left _ (List.mem_append_right _ h))
theorem inlX3 : ∀ w ∈ wsX30, w ∈ wsL_law := fun _ h => List.mem_append_left _ (List.mem_append_right _ h)
theorem inlX4 : ∀ w ∈ wsX40, w ∈ wsL_law := fun _ h => List.mem_append_left _ (List.mem_append_left _ (List.mem_append_left _ (List.mem_append_left _ (List.mem_append_left _ (List.mem_append_left _ (List.mem_append_right _ h))))))
theorem inlX5 : ∀ w ∈ wsX50, w ∈ wsL_law := fun _ h => List.mem_append_left _ (List.mem_append_left _ (List.mem_append_left _ (List.mem_append_left _ (List.mem_append_right _ h))))
theorem inlX6 : ∀ w ∈ wsX60, w ∈ wsL_law := fun _ h => List.mem_append_left _ (List.mem_append_left _ (List.mem_append_left _ (List.mem_append_left _ (List.mem_append_left _ (List.mem_append_left _ (List.mem_append_left _ (List.mem_append_left _ (List.mem_append_right _ h))))))))
theorem inlX7 : ∀ w ∈ wsX70, w ∈ wsL_law := fun _ h => List.mem_append_left _ (List.mem_append_left _ (List.mem_append_left _ (List.mem_append_left _ (List.mem_append_left _ (List.mem_append_left _ (List.mem_append_left _ (List.mem_append_right _ h)))))))
abbrev lwA (s : State) : Nat → Prop := fun q => s.heap.size ≤ q
def lwX (p : Program) (l : Launch) (e : Env) (s : State) (m : MethodId) (below : List Frame) (meth : Method) (c : Code) (G : GG) (b : Nat) : CX := (p, l, e, room_1, s, m, #[Value.ref b], below, meth, c, (fun ws H locs => va_P G.1 vwCl ws H ∧ va_D (lwA s) ws ∧ va_S (lwA s) s.heap H locs), G, lw_Z below #[Value.ref b] s, 4)
/-- the script -/
def XS (cx : CX) (b L : Nat) (xs : Nat → Int32) : Prop := match cx with
  | (_, _, _, _, s, _, _, _, _, _, Inv, G, _, _) => (∃ A : Nat → Prop, (∀ ws H locs, Inv ws H locs ↔ (va_P G.1 vwCl ws H ∧ va_D A ws ∧ va_S A s.heap H locs)) ∧ ¬ A b) ∧ va_X b L xs s s.heap ∧ b < s.heap.size
/-- the law's own end -/
def XZ (cx : CX) : Prop := ∀ (z : Nat × Nat) (ws : va_W) (lv : List (Nat × Value)) (pc : Nat), z.1 ≤ 600000 → z.2 ≤ 7302250 → decode cL_law pc = .ok (.ireturn, 1) → X cx z ws lv pc [.int 1]
section LROWS
variable {cx : CX} {z : Nat × Nat} {cc : ByteArray} {Ts : List Cond} {own : String} {rm : Room} {nL : Nat} {ws : va_W} {lv : List (Nat × Value)} {pc : Nat} {st : List Value}
theorem x_sld (C : XC cx cc Ts own rm nL) {b L : Nat} {xs : Nat → Int32} (S : XS cx b L xs) {i : Int32} (hin : vp_in i L) {v : Int32} (hv : xs i.toNatClampNeg = v) (hd : decode cc pc = .ok (.iaload, 1))
    (kk : X cx z ws lv (pc + 1) (.int v :: st)) : X cx z ws lv pc (.int i :: .ref b :: st) := by
  obtain ⟨p, l, e, R, s, m, args, below, meth, c, Inv, G, Q, n⟩ := cx
  obtain ⟨hx, hb, hml, hnn, hown, hts, hK, hI0, hR, hlocks⟩ := C
  obtain ⟨⟨A, hA, hbA⟩, hX, hbl⟩ := S
  intro H locs hI ls hl
  subst hv
  exact va_sld hx hb hX hbl hbA ((hA _ _ _).mp hI).2.2 hin hd (kk H locs hI ls hl)
theorem x_slen (C : XC cx cc Ts own rm nL) {b L : Nat} {xs : Nat → Int32} (S : XS cx b L xs) (hd : decode cc pc = .ok (.arraylength, 1))
    (kk : X cx z ws lv (pc + 1) (.int (nI L) :: st)) : X cx z ws lv pc (.ref b :: st) := by
  obtain ⟨p, l, e, R, s, m, args, below, meth, c, Inv, G, Q, n⟩ := cx
  obtain ⟨hx, hb, hml, hnn, hown, hts, hK, hI0, hR, hlocks⟩ := C
  obtain ⟨⟨A, hA, hbA⟩, hX, hbl⟩ := S
  intro H locs hI ls hl
  exact va_slen hx hb hX hbl hbA ((hA _ _ _).mp hI).2.2 hd (kk H locs hI ls hl)
end LROWS
section LSTART
variable {p : Program} {e : Env} {s : State} {m : MethodId} {below : List Frame} {meth : Method} {c : Code} {l : Launch} {b L : Nat} {xs : Nat → Int32} {G : GG}
theorem lw_XC (C0 : lw_At p s m meth c b L xs) (hK : KK G s) : XC (lwX p l e s m below meth c G b) cL_law wsL_law RL room_1 4 := by
  obtain ⟨hx, hb, hr, hml, hown, hts, hX, hbl, hlocks, hgv⟩ := C0
  exact ⟨hx, hb, hml, rfl, hown, fun w hw => hts w (wsL_law_in w hw), hK, fun ws H locs h => ⟨h.1, h.2.1.weaken (fun _ _ _ _ => trivial)⟩, rfl, hlocks⟩
theorem lw_XN : XN (lwX p l e s m below meth c G b) := ⟨lwA s, fun _ _ _ => Iff.rfl, fun _ h => h⟩
theorem lw_XS (C0 : lw_At p s m meth c b L xs) : XS (lwX p l e s m below meth c G b) b L xs := by
  obtain ⟨hx, hb, hr, hml, hown, hts, hX, hbl, hlocks, hgv⟩ := C0
  exact ⟨⟨lwA s, fun _ _ _ => Iff.rfl, Nat.not_le.mpr hbl⟩, hX, hbl⟩
theorem lw_XQ (C0 : lw_At p s m meth c b L xs) : XQ (lwX p l e s m below meth c G b) := by
  obtain ⟨hx, hb, hr, hml, hown, hts, hX, hbl, hlocks, hgv⟩ := C0
  exact va_AO.of (hts (.arrayOver (.object "LampRacks$State")) (by decide +kernel))
theorem lw_XZ (C0 : lw_At p s m meth c b L xs) : XZ (lwX p l e s m below meth c G b) := by
  obtain ⟨hx, hb, hr, hml, hown, hts, hX, hbl, hlocks, hgv⟩ := C0
  intro z ws lv pc h1 h2 hd H locs hI ls hl
  refine va_forget (fun q hq => hI.2.2.2.2 q hq) ?_
  refine W.widen (k := 600000) (n := 7302250) h1 h2 ?_
  exact lw_ret hx hb hr hlocks hd
theorem xN_in : ∀ w ∈ xN, w ∈ lw_tbl := by decide +kernel
/-- what the tables say, at the law's entry -/
theorem lw_KK (C0 : lw_At p s m meth c b L xs) : ∃ G : GG, KK G s := by
  obtain ⟨hx, hb, hr, hml, hown, hts, hX, hbl, hlocks, hgv⟩ := C0
  have hin : ∀ w ∈ wsL_law, w.before #[Value.ref b] s = true := fun w hw => hts w (wsL_law_in w hw)
  obtain ⟨c0, i0, hKn0⟩ := u_known (C := RX0) (T := TX0) (N := 2) (n := 2) hin inlX0 (hts (.instantiable RX0 2) (by decide +kernel))
  obtain ⟨c1, i1, hKn1⟩ := u_known (C := RX1) (T := TX1) (N := 2) (n := 2) hin inlX1 (hts (.instantiable RX1 2) (by decide +kernel))
  obtain ⟨c2, i2, hKn2⟩ := u_known (C := RX2) (T := TX2) (N := 7) (n := 7) hin inlX2 (hts (.instantiable RX2 7) (by decide +kernel))
  obtain ⟨c3, i3, hKn3⟩ := u_known (C := RX3) (T := TX3) (N := 5) (n := 5) hin inlX3 (hts (.instantiable RX3 5) (by decide +kernel))
  obtain ⟨c4, i4, hKn4⟩ := u_known (C := RX4) (T := TX4) (N := 6) (n := 6) hin inlX4 (hts (.instantiable RX4 6) (by decide +kernel))
  obtain ⟨c5, i5, hKn5⟩ := u_known (C := RX5) (T := TX5) (N := 10) (n := 10) hin inlX5 (hts (.instantiable RX5 10) (by decide +kernel))
  obtain ⟨c6, i6, hKn6⟩ := u_known (C := RX6) (T := TX6) (N := 9) (n := 9) hin inlX6 (hts (.instantiable RX6 9) (by decide +kernel))
  obtain ⟨c7, i7, hKn7⟩ := u_known (C := RX7) (T := TX7) (N := 13) (n := 13) hin inlX7 (hts (.instantiable RX7 13) (by decide +kernel))
  obtain ⟨dC, dI, hKc⟩ : ∃ (dC : Nat → ClassId) (dI : Nat → Nat → Nat), ∀ (k : Nat) (q : vw_C), vwCl[k]? = some q → u_Kn s q.1 q.2.1 q.2.2 (dC k) (dI k) := by
    refine ⟨fun k => match k with | 0 => c0 | 1 => c1 | 2 => c2 | 3 => c3 | 4 => c4 | 5 => c5 | 6 => c6 | _ => c7, fun k => match k with | 0 => i0 | 1 => i1 | 2 => i2 | 3 => i3 | 4 => i4 | 5 => i5 | 6 => i6 | _ => i7, ?_⟩
    intro k q hq
    match k, hq with
    | 0, hq => cases hq; exact hKn0
    | 1, hq => cases hq; exact hKn1
    | 2, hq => cases hq; exact hKn2
    | 3, hq => cases hq; exact hKn3
    | 4, hq => cases hq; exact hKn4
    | 5, hq => cases hq; exact hKn5
    | 6, hq => cases hq; exact hKn6
    | 7, hq => cases hq; exact hKn7
    | k + 8, hq => simp [vwCl] at hq
  obtain ⟨cI, kI, coI, a1, a2, a3⟩ := Cond.arrayClass_spec (hts (.arrayClass .int) (by decide +kernel))
  obtain ⟨cC, kC, coC, b1, b2, b3⟩ := Cond.arrayClass_spec (hts (.arrayClass .char) (by decide +kernel))
  obtain ⟨coS, cS, kS, s1, s2, s3, s4, s5⟩ := Cond.arrayOver_spec (hts (.arrayOver (.object "LampRacks$State")) (by decide +kernel))
  refine ⟨((dC, dI), cI, cC, cS), ⟨hKc, fun k q hq => ?_⟩, fun w hw => va_Nw.of ?_ (hts w (xN_in w hw))⟩
  · match k, hq with
    | 0, hq => cases hq; exact ⟨fun n z => ⟨fun k h => (by cases h), kI, a2, coI, a3⟩, a1⟩
    | 1, hq => cases hq; exact ⟨fun n z => ⟨fun k h => (by cases h), kC, b2, coC, b3⟩, b1⟩
    | 2, hq => cases hq; exact ⟨fun n z => ⟨fun k h => (by cases h), kS, s3, coS, s4⟩, kS, coS, s3, s4, s1, s5⟩
    | k + 3, hq => simp [gT] at hq
  · obtain ⟨a, i, x, h, rfl⟩ := xN_form w hw
    rfl
end LSTART
