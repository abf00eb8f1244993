/-! THE CLAIM OUT OF ONE WALK OF THE LAW'S BODY. Your part is whole_start (and what it stands on); all else here is the same for every law, but numbers. -/
def R_law : String := "LampRacksLaw"
def lw_P (b : Addr) (xs : List Int32) (args : Array Value) (s : State) : Prop := args = #[.ref b] ∧ s.IntsAt b xs ∧ xs.length ≤ 260 ∧ (Jvm.Cond.and given_1 narrow_1).before args s = true
def lw_Q (_ : Array Value) (s : State) (o : Outcome) (t : State) : Prop := o = .returned (some (.int 1)) ∧ Framed s o t [] 600000 7302250
def lw_Z (below : List Frame) (a : Array Value) (s : State) : State → Prop := fun t => ∃ o, t.status = .running ∧ Ended t below o ∧ lw_Q a s o t
/-- the law's own end, with 1 on the stack, nothing written that was there before, its room as the claim has it -/
theorem lw_ret {p : Program} {l : Launch} {e : Env} {s : State} {m : MethodId} {below : List Frame} {meth : Method} {c : Code} {b : Nat} (hx : p.tables.exec = Jvm.exec) (hb : c.code = code) (hr : meth.sig.returnType = ret) (hlocks : meth.locks = false) {pc : Nat} {H : Heap} {ls : Array Slot} (hdg : decode code pc = .ok (.ireturn, 1)) : W p l e room_1 s m #[Value.ref b] below meth c H [] 600000 7302250 (lw_Z below #[Value.ref b] s) (F0 m pc ls [.int 1]) := by
  intro T hT X
  obtain ⟨fs, hret, hrun, hended, hW, hframe⟩ := X.leave (v := some (.int 1)) (hlocks := hlocks) (fun h => by rw [hr] at h; cases h)
  have hmeth' : T.vm.method? m = some meth := X.method'
  refine ⟨T.setFrames fs, ?_, .returned (some (.int 1)), hrun, hended, rfl, ⟨_, rfl⟩, hW, hframe⟩
  jvm_step X.here [X.here.top, hx, hb, hdg, hmeth', hr, ret, narrow_b1]
  (try refine ⟨rfl, ?_⟩); (try refine ⟨rfl, ?_⟩)
  first | (intro acts; rw [hret _ acts rfl rfl rfl]) | rw [hret _ _ rfl rfl rfl]
  exact Steps.refl _
/-- what holds at the law's entry: the machine, the code, the tables' words (any of lw_tbl by 'hts w (by decide +kernel)'), the script of L ints xs at the cell b, what the Statement gives of the start (any of its parts by flat_of_before) -/
def lw_At (p : Program) (s : State) (m : MethodId) (meth : Method) (c : Code) (b L : Nat) (xs : Nat → Int32) : Prop :=
  p.tables.exec = Jvm.exec ∧ c.code = code ∧ meth.sig.returnType = ret ∧ c.maxLocals = 16 ∧ s.vm.findClass R_law = some m.cls ∧ (∀ w ∈ lw_tbl, w.before #[Value.ref b] s = true) ∧ va_X b L xs s s.heap ∧ b < s.heap.size ∧ meth.locks = false ∧ (Jvm.Cond.and given_1 narrow_1).before #[Value.ref b] s = true
/-! the law: what its walk stands on -/
theorem inlX0 : ∀ w ∈ wsX00, w ∈ wsL_law := fun _ h => List.mem_append_left _ (List.mem_append_left _ (List.mem_append_left _ (List.mem_append_right _ h)))
theorem inlX1 : ∀ w ∈ wsX10, w ∈ wsL_law := fun _ h => List.mem_append_left _ (List.mem_append_left _ (List.mem_append_left _ (List.mem_append_left _ (List.mem_append_left _ (List.mem_append_right _ h)))))
theorem inlX2 : ∀ w ∈ wsX20, w ∈ wsL_law := fun _ h => List.mem_append_left _ (List.mem_append_left _ (List.mem_append_right _ h))
theorem inlX3 : ∀ w ∈ wsX30, w ∈ wsL_law := fun _ h => List.mem_append_left _ (List.mem_append_right _ h)
theorem inlX4 : ∀ w ∈ wsX40, w ∈ wsL_law := fun _ h => List.mem_append_left _ (List.mem_append_left _ (List.mem_append_left _ (List.mem_append_left _ (List.mem_append_left _ (List.mem_append_left _ (List.mem_append_right _ h))))))
theorem inlX5 : ∀ w ∈ wsX50, w ∈ wsL_law := fun _ h => List.mem_append_left _ (List.mem_append_left _ (List.mem_append_left _ (List.mem_append_left _ (List.mem_append_right _ h))))
theorem inlX6 : ∀ w ∈ wsX60, w ∈ wsL_law := fun _ h => List.mem_append_left _ (List.mem_append_left _ (List.mem_append_left _ (List.mem_append_left _ (List.mem_append_left _ (List.mem_append_left _ (List.mem_append_left _ (List.mem_append_right _ h)))))))
abbrev lwA (s : State) : Nat → Prop := fun q => s.heap.size ≤ q
def lwX (p : Program) (l : Launch) (e : Env) (s : State) (m : MethodId) (below : List Frame) (meth : Method) (c : Code) (G : GG) (b : Nat) : CX := (p, l, e, room_1, s, m, #[Value.ref b], below, meth, c, (fun ws H locs => va_P G.1 vwCl ws H ∧ va_D (lwA s) ws ∧ va_S (lwA s) s.heap H locs), G, lw_Z below #[Value.ref b] s, 16)
/-- the script -/
def XS (cx : CX) (b L : Nat) (xs : Nat → Int32) : Prop := match cx with
  | (_, _, _, _, s, _, _, _, _, _, Inv, G, _, _) => (∃ A : Nat → Prop, (∀ ws H locs, Inv ws H locs → va_S A s.heap H locs) ∧ ¬ A b) ∧ va_X b L xs s s.heap ∧ b < s.heap.size
/-- the law's own end -/
def XZ (cx : CX) : Prop := ∀ (z : Nat × Nat) (ws : va_W) (lv : List (Nat × Value)) (pc : Nat), z.1 ≤ 600000 → z.2 ≤ 7302250 → decode cL_law pc = .ok (.ireturn, 1) → X cx z ws lv pc [.int 1]
section LROWS
variable {cx : CX} {z : Nat × Nat} {cc : ByteArray} {Ts : List Cond} {own : String} {rm : Room} {nL : Nat} {ws : va_W} {lv : List (Nat × Value)} {pc : Nat} {st : List Value}
theorem x_sld (C : XC cx cc Ts own rm nL) {b L : Nat} {xs : Nat → Int32} (S : XS cx b L xs) {i : Int32} (hin : vp_in i L) {v : Int32} (hv : xs i.toNatClampNeg = v) (hd : decode cc pc = .ok (.iaload, 1))
    (kk : X cx z ws lv (pc + 1) (.int v :: st)) : X cx z ws lv pc (.int i :: .ref b :: st) := by
  obtain ⟨p, l, e, R, s, m, args, below, meth, c, Inv, G, Q, n⟩ := cx
  obtain ⟨hx, hb, hml, hnn, hown, hts, hK, hI0, hR, hlocks⟩ := C
  obtain ⟨⟨A, hA, hbA⟩, hX, hbl⟩ := S
  intro H locs hI ls hl
  subst hv
  exact va_sld hx hb hX hbl hbA (hA _ _ _ hI) hin hd (kk H locs hI ls hl)
theorem x_slen (C : XC cx cc Ts own rm nL) {b L : Nat} {xs : Nat → Int32} (S : XS cx b L xs) (hd : decode cc pc = .ok (.arraylength, 1))
    (kk : X cx z ws lv (pc + 1) (.int (nI L) :: st)) : X cx z ws lv pc (.ref b :: st) := by
  obtain ⟨p, l, e, R, s, m, args, below, meth, c, Inv, G, Q, n⟩ := cx
  obtain ⟨hx, hb, hml, hnn, hown, hts, hK, hI0, hR, hlocks⟩ := C
  obtain ⟨⟨A, hA, hbA⟩, hX, hbl⟩ := S
  intro H locs hI ls hl
  exact va_slen hx hb hX hbl hbA (hA _ _ _ hI) hd (kk H locs hI ls hl)
end LROWS
section LSTART
variable {p : Program} {e : Env} {s : State} {m : MethodId} {below : List Frame} {meth : Method} {c : Code} {l : Launch} {b L : Nat} {xs : Nat → Int32} {G : GG}
theorem lw_XC (C0 : lw_At p s m meth c b L xs) (hK : KK G s) : XC (lwX p l e s m below meth c G b) cL_law wsL_law RL room_1 16 := by
  obtain ⟨hx, hb, hr, hml, hown, hts, hX, hbl, hlocks, hgv⟩ := C0
  exact ⟨hx, hb, hml, rfl, hown, fun w hw => hts w (wsL_law_in w hw), hK, fun ws H locs h => ⟨h.1, h.2.1.weaken (fun _ _ _ _ => trivial)⟩, rfl, hlocks⟩
theorem lw_XN : XN (lwX p l e s m below meth c G b) := ⟨lwA s, fun _ _ _ => Iff.rfl, fun _ h => h⟩
theorem lw_XS (C0 : lw_At p s m meth c b L xs) : XS (lwX p l e s m below meth c G b) b L xs := by
  obtain ⟨hx, hb, hr, hml, hown, hts, hX, hbl, hlocks, hgv⟩ := C0
  exact ⟨⟨lwA s, fun _ _ _ h => h.2.2, Nat.not_le.mpr hbl⟩, hX, hbl⟩
theorem lw_XQ (C0 : lw_At p s m meth c b L xs) : XQ (lwX p l e s m below meth c G b) := by
  obtain ⟨hx, hb, hr, hml, hown, hts, hX, hbl, hlocks, hgv⟩ := C0
  exact va_AO.of (hts (.arrayOver (.object "LampRacks$State")) (by decide +kernel))
theorem lw_XZ (C0 : lw_At p s m meth c b L xs) : XZ (lwX p l e s m below meth c G b) := by
  obtain ⟨hx, hb, hr, hml, hown, hts, hX, hbl, hlocks, hgv⟩ := C0
  intro z ws lv pc h1 h2 hd H locs hI ls hl
  refine va_forget (fun q hq => hI.2.2.2.2 q hq) ?_
  refine W.widen (k := 600000) (n := 7302250) h1 h2 ?_
  exact lw_ret hx hb hr hlocks hd
theorem xN_in : ∀ w ∈ xN, w ∈ lw_tbl := by decide +kernel
/-- what the tables say, at the law's entry -/
theorem lw_KK (C0 : lw_At p s m meth c b L xs) : ∃ G : GG, KK G s := by
  obtain ⟨hx, hb, hr, hml, hown, hts, hX, hbl, hlocks, hgv⟩ := C0
  have hin : ∀ w ∈ wsL_law, w.before #[Value.ref b] s = true := fun w hw => hts w (wsL_law_in w hw)
  obtain ⟨c0, i0, hKn0⟩ := u_known (C := RX0) (T := TX0) (N := 2) (n := 2) hin inlX0 (hts (.instantiable RX0 2) (by decide +kernel))
  obtain ⟨c1, i1, hKn1⟩ := u_known (C := RX1) (T := TX1) (N := 2) (n := 2) hin inlX1 (hts (.instantiable RX1 2) (by decide +kernel))
  obtain ⟨c2, i2, hKn2⟩ := u_known (C := RX2) (T := TX2) (N := 7) (n := 7) hin inlX2 (hts (.instantiable RX2 7) (by decide +kernel))
  obtain ⟨c3, i3, hKn3⟩ := u_known (C := RX3) (T := TX3) (N := 5) (n := 5) hin inlX3 (hts (.instantiable RX3 5) (by decide +kernel))
  obtain ⟨c4, i4, hKn4⟩ := u_known (C := RX4) (T := TX4) (N := 6) (n := 6) hin inlX4 (hts (.instantiable RX4 6) (by decide +kernel))
  obtain ⟨c5, i5, hKn5⟩ := u_known (C := RX5) (T := TX5) (N := 10) (n := 10) hin inlX5 (hts (.instantiable RX5 10) (by decide +kernel))
  obtain ⟨c6, i6, hKn6⟩ := u_known (C := RX6) (T := TX6) (N := 9) (n := 9) hin inlX6 (hts (.instantiable RX6 9) (by decide +kernel))
  obtain ⟨dC, dI, hKc⟩ : ∃ (dC : Nat → ClassId) (dI : Nat → Nat → Nat), ∀ (k : Nat) (q : vw_C), vwCl[k]? = some q → u_Kn s q.1 q.2.1 q.2.2 (dC k) (dI k) := by
    refine ⟨fun k => match k with | 0 => c0 | 1 => c1 | 2 => c2 | 3 => c3 | 4 => c4 | 5 => c5 | _ => c6, fun k => match k with | 0 => i0 | 1 => i1 | 2 => i2 | 3 => i3 | 4 => i4 | 5 => i5 | _ => i6, ?_⟩
    intro k q hq
    match k, hq with
    | 0, hq => cases hq; exact hKn0
    | 1, hq => cases hq; exact hKn1
    | 2, hq => cases hq; exact hKn2
    | 3, hq => cases hq; exact hKn3
    | 4, hq => cases hq; exact hKn4
    | 5, hq => cases hq; exact hKn5
    | 6, hq => cases hq; exact hKn6
    | k + 7, hq => simp [vwCl] at hq
  obtain ⟨cI, kI, coI, a1, a2, a3⟩ := Cond.arrayClass_spec (hts (.arrayClass .int) (by decide +kernel))
  obtain ⟨cC, kC, coC, b1, b2, b3⟩ := Cond.arrayClass_spec (hts (.arrayClass .char) (by decide +kernel))
  obtain ⟨coS, cS, kS, s1, s2, s3, s4, s5⟩ := Cond.arrayOver_spec (hts (.arrayOver (.object "LampRacks$State")) (by decide +kernel))
  refine ⟨((dC, dI), cI, cC, cS), ⟨hKc, fun k q hq => ?_⟩, fun w hw => va_Nw.of ?_ (hts w (xN_in w hw))⟩
  · match k, hq with
    | 0, hq => cases hq; exact ⟨fun n z => ⟨fun k h => (by cases h), kI, a2, coI, a3⟩, a1⟩
    | 1, hq => cases hq; exact ⟨fun n z => ⟨fun k h => (by cases h), kC, b2, coC, b3⟩, b1⟩
    | 2, hq => cases hq; exact ⟨fun n z => ⟨fun k h => (by cases h), kS, s3, coS, s4⟩, kS, coS, s3, s4, s1, s5⟩
    | k + 3, hq => simp [gT] at hq
  · obtain ⟨a, i, x, h, rfl⟩ := xN_form w hw
    rfl
end LSTART
/-! the script's numbers -/
theorem and_nn (v : Int32) : 0 ≤ (v &&& 2147483647).toInt := by
  have h : ∀ b : BitVec 32, 0 ≤ (b &&& 2147483647#32).toInt := by
    intro b
    rw [BitVec.toInt_eq_toNat_of_lt]
    · omega
    · rw [BitVec.toNat_and]
      have : b.toNat &&& (2147483647#32).toNat ≤ 2147483647 := Nat.and_le_right
      omega
  exact h v.toBitVec
def clV (L : Nat) (xs : Nat → Int32) (k : Nat) : Int32 := (if k < L then xs k else 310598401 * nI (k + 127) + 26003) &&& 2147483647
theorem clV_nat (L : Nat) (xs : Nat → Int32) (k : Nat) : ∃ n : Nat, n < 2147483648 ∧ clV L xs k = nI n := by
  unfold clV
  generalize (if k < L then xs k else 310598401 * nI (k + 127) + 26003) = v
  have h0 : 0 ≤ (v &&& 2147483647).toInt := and_nn v
  obtain ⟨n, e, -, h⟩ := nat_of h0
  exact ⟨n, h, e⟩
def SPc (G : GG) (b L : Nat) (xs : Nat → Int32) (av : List Value) : Array Value → State → Prop := va_Pc av (fun U => (va_P G.1 vwCl [] U.heap ∧ va_D (fun _ => True) [] ∧ KK G U) ∧ va_X b L xs U U.heap ∧ b < U.heap.size)
theorem SPc_blind (G : GG) (b L : Nat) (xs : Nat → Int32) (av : List Value) : FrameBlind (SPc G b L xs av) := by
  intro a U g mk h
  obtain ⟨h1, ⟨h2, h3, h4⟩, h5, h6⟩ := h
  exact ⟨h1, ⟨h2, h3, h4.call⟩, va_X.moved (u := U) (U := U.calling g mk a) (Vm.Alike.refl U.vm) h5, h6⟩
theorem nil_P (D : va_G) (cl : List vw_C) (H : Heap) : va_P D cl [] H := fun k q h => by simp at h
theorem nil_D (A : Nat → Prop) : va_D A [] := ⟨fun i j p q h => by simp at h, fun k q h => by simp at h⟩
theorem m_kL_cell_0 : (Cond.constant RL 7 310598401 : Cond) ∈ wsL_cell := by decide +kernel
theorem m_kL_cell_1 : (Cond.constant RL 8 2147483647 : Cond) ∈ wsL_cell := by decide +kernel
theorem kL_cell (l : Launch) (G : GG) (b L : Nat) (xs : Nat → Int32) (k : Nat) (hL : L ≤ 260) (hk : k < 70) : Met l yL_cell wsL_cell ({ frames := 0, cells := 0, slots := 0, locals := 0 } : Room) (SPc G b L xs [.ref b, .int (nI k)]) (fun _ st o t => o = .returned (some (.int (clV L xs k))) ∧ t.heap = st.heap) 0 0 (fun _ => False) := by
  refine Met.ofW (cc := cL_cell) (maxL := 2) (ret := (some .int)) (by decide) rfl ?_
  intro p e s m args below meth c s₁ B hml hv
  obtain ⟨rfl, ⟨hP, hD, hK⟩, hX, hbl⟩ := hv
  have hts := atoms_spec (ws := wsL_cell) B.pre
  have hown : s.vm.findClass yL_cell.cls = some m.cls := findClass_of_methodNamed B.named
  rw [lg_entry_eq]
  have body : ∀ cx : CX, xl cx = l → xG cx = G → XC cx cL_cell wsL_cell RL ({ frames := 0, cells := 0, slots := 0, locals := 0 } : Room) 2 → XS cx b L xs → XE cx (0, 0) (some .int) (some (.int (clV L xs k))) [] → X cx (0, 0) [] [(0, .ref b), (1, .int (nI k))] 0 [] := by
    intro cx hxl hxG C S E
    have fin : ∀ v : Int32, v = (if k < L then xs k else 310598401 * nI (k + 127) + 26003) → X cx (0, 0) [] [(0, .ref b), (1, .int (nI k))] 23 [.int v] := by
      intro v hv
      subst hv
      refine x_ldc (v := 2147483647) C m_kL_cell_1 dL_cell_23 ?_
      refine x_iand C dL_cell_25 ?_
      exact x_iret C E dL_cell_26 rfl rfl
    refine x_iload_n C 1 dL_cell_0 rfl rfl ?_
    refine x_aload_n C 0 dL_cell_1 rfl rfl ?_
    refine x_slen C S dL_cell_2 ?_
    refine x_icmp_ge C 12 dL_cell_3 (by decide) (fun c_3 => ?_) (fun c_3 => ?_)
    · refine x_ldc (v := 310598401) C m_kL_cell_0 dL_cell_12 ?_
      refine x_iload_n C 1 dL_cell_14 rfl rfl ?_
      refine x_bipush (v := 127) C dL_cell_15 (by decide) ?_
      refine x_iadd C (nI_add k 127) dL_cell_17 ?_
      refine x_imul C rfl dL_cell_18 ?_
      refine x_sipush (v := 26003) C dL_cell_19 (by decide) ?_
      refine x_iadd C rfl dL_cell_22 ?_
      exact fin _ (if_neg (fun q => absurd c_3 (nI_ge q (by omega)))).symm
    · have hkL : k < L := Classical.byContradiction (fun q => c_3 (nI_le (by omega) (by omega)))
      refine x_aload_n C 0 dL_cell_6 rfl rfl ?_
      refine x_iload_n C 1 dL_cell_7 rfl rfl ?_
      refine x_sld C S (vp_in_nI (by omega) (by omega)) (congrArg xs (nI_clamp (by omega))) dL_cell_8 ?_
      refine x_goto (tgt := 23) C dL_cell_9 (by decide) ?_
      exact fin _ (if_pos hkL).symm
  refine body (p, l, e, ({ frames := 0, cells := 0, slots := 0, locals := 0 } : Room), s, m, ([.ref b, .int (nI k)] : List Value).toArray, below, meth, c, (fun w2 H locs => w2 = [] ∧ H = s.heap ∧ locs = []), G, _, 2) rfl rfl ⟨B.exec, B.bytes, hml, rfl, hown, hts, hK, ?_, rfl, B.notSynchronized⟩ ⟨⟨fun _ => False, ?_, fun h => h⟩, hX, hbl⟩ ⟨B.returns, _, _, rfl, ?_⟩ s.heap [] ⟨rfl, rfl, rfl⟩ _ ?_
  · intro w2 H locs h
    obtain ⟨rfl, rfl, rfl⟩ := h
    exact ⟨hP, hD⟩
  · intro w2 H locs h
    obtain ⟨rfl, rfl, rfl⟩ := h
    exact va_S.rf
  · intro H locs h
    obtain ⟨-, rfl, rfl⟩ := h
    exact ⟨fun t ht _ => ⟨rfl, ht⟩, fun q hq => by cases hq⟩
  · exact lv_entry [.ref b, .int (nI k)] (Nat.le_of_ble_eq_true rfl)
theorem x_cell {cx : CX} {z : Nat × Nat} {cc : ByteArray} {Ts : List Cond} {own : String} {rm : Room} {nL : Nat} {ws : va_W} {lv : List (Nat × Value)} {pc : Nat} (C : XC cx cc Ts own rm nL) {b L : Nat} {xs : Nat → Int32} (S : XS cx b L xs) (hL : L ≤ 260) {k : Nat} (hk : k < 70) {index : Nat} (hg : GoodIn Ts (va_wsS own index yL_cell wsL_cell)) (hroom : 1 ≤ rm.frames ∧ 21 ≤ rm.locals) (hz : z.1 ≤ rm.cells ∧ z.2 ≤ rm.slots) (hd : decode cc pc = .ok (.invokestatic index, 3))
    (kk : X cx z ws lv (pc + 3) [.int (clV L xs k)]) : X cx z ws lv pc [.int (nI k), .ref b] := by
  obtain ⟨p, l, e, R, s, m, args, below, meth, c, Inv, G, Q, n⟩ := cx
  obtain ⟨hx, hb, hml, hnn, hown, hts, hK, hI0, hR, hlocks⟩ := C
  obtain ⟨⟨A, hA, hbA⟩, hX, hbl⟩ := S
  intro H locs hI ls hl
  subst hR
  have hS := hA _ _ _ hI
  intro T hT X0
  have hr := va_runS (As := [.ref b, .int (nI k)]) (rest := []) ⟨hx, hb, hml, hown, hts⟩ (kL_cell l G b L xs k hL hk) (va_cwS 2 hts hg rfl rfl rfl (by decide +kernel) ⟨hroom.1, hroom.2⟩) ⟨SPc_blind _ _ _ _ _, fun U hU hW => ⟨rfl, ⟨nil_P _ _ _, nil_D _, hK.warm hW⟩, (va_X.moved hW.alike hX).kept (by rw [hU]; exact hS.2.1 b hbl hbA), by rw [hU]; exact Nat.lt_of_lt_of_le hbl hS.1⟩⟩ (H := H) (locs := locs) (cells := z.1) (slots := z.2) (g := F0 m pc ls [.int (nI k), .ref b]) (e := e) (below := below) (meth := meth) rfl rfl hl.1 rfl (lv_room (by decide)) hd ⟨hz.1, hz.2⟩
  obtain ⟨v0, st₀, t, T', L', h0, X', hL', e1, e2, hq, stp⟩ := hr T hT X0
  obtain ⟨hv, hh⟩ := hq
  cases hv
  obtain ⟨t2, a1, b1⟩ := kk H locs hI ls hl T' (by rw [e1, hh, h0]) (Stand.forget X' (fun q h => (hL' q h).elim))
  exact ⟨t2, stp t2 a1, b1⟩
