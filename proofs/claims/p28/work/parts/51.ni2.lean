/-! constructors: rows -/
section NROWS2
variable {cx : CX} {z : Nat × Nat} {cc : ByteArray} {Ts : List Cond} {own : String} {rm : Room} {nL : Nat} {ws : va_W} {lv : List (Nat × Value)} {pc : Nat} {st : List Value}
theorem x_oini (C : XC cx cc Ts own rm nL) {i a : Nat} (h1 : Cond.methodLink own i objectInit ∈ Ts) (h2 : Cond.instanceMethod objectInit ∈ Ts) (h3 : Cond.code objectInit ⟨#[0xb1]⟩ 1 none ∈ Ts) (hf : 1 ≤ rm.frames) (hlo : (st.map fun v => v.category).sum + 20 ≤ rm.locals) (hd : decode cc pc = .ok (.invokespecial i, 3))
    (kk : X cx z ws lv (pc + 3) st) : X cx z ws lv pc (.ref a :: st) := by
  obtain ⟨p, l, e, R, s, m, args, below, meth, c, Inv, G, Q, n⟩ := cx
  obtain ⟨hx, hb, hml, hnn, hown, hts, hK, hI0, hR, hlocks⟩ := C
  intro H locs hI ls hl
  subst hR
  refine W.objInit hx hb hown (hts _ h1) (hts _ h2) (hts _ h3) rfl (by rw [hml]; exact hl.1) rfl hd hf ?_ ?_
  · show 2 * 0 + (st.map fun v => v.category).sum + 12 ≤ _
    omega
  · exact W.eq (g2 := F0 m (pc + 3) ls st) rfl (kk H locs hI ls hl)
theorem x_newo (C : XC cx cc Ts own rm nL) (N : XN cx) {Cn : String} {T : u_T} {k ci index : Nat} (hin : ∀ w ∈ u_ws Cn T k, w ∈ Ts) (ty : Nat → FieldType) (hty : ∀ j, j < k → parseFieldDescriptor (T j).2.2.1 = some (ty j)) (hcl : Cond.classLink own index Cn ∈ Ts) (hinst : Cond.instantiable Cn k ∈ Ts) (hini : Cond.initialized Cn ∈ Ts) (hci : vwCl[ci]? = some (Cn, T, k)) (fs : List Value) (hfs : ∀ j, j < k → defaultValue (ty j) = vp_V fs j) (hc : z.1 + 1 ≤ rm.cells) (hs : z.2 + k ≤ rm.slots) (hd : decode cc pc = .ok (.new index, 3))
    (kk : ∀ q : Nat, X cx (z.1 + 1, z.2 + k) (ws ++ [(q, .inr (ci, fs))]) lv (pc + 3) (.ref q :: st)) : X cx z ws lv pc st := by
  obtain ⟨p, l, e, R, s, m, args, below, meth, c, Inv, G, Q, nn⟩ := cx
  obtain ⟨hx, hb, hml, hnn, hown, hts, hK, hI0, hR, hlocks⟩ := C
  obtain ⟨A, hA, hA2⟩ := N
  intro H locs hI ls hl
  subst hR
  obtain ⟨hP, hD, hS⟩ := (hA _ _ _).mp hI
  exact va_new hx hb hts hin ty hty hown (hts _ hcl) (hts _ hinst) (hts _ hini) hK.1 hP hD hS hA2 hci hfs hc hs hd (fun q H1 hP1 hD1 hS1 => kk q H1 locs ((hA _ _ _).mpr ⟨hP1, hD1, hS1⟩) ls hl)
theorem x_putF (C : XC cx cc Ts own rm nL) (M : XM cx) (I : XI cx) {a ci : Nat} {fs : List Value} (q0 : Nat) (he : ws[q0]? = some (a, .inr (ci, fs))) {Cn : String} {T : u_T} {N : Nat} (hc : vwCl[ci]? = some (Cn, T, N)) (hin : ∀ w ∈ u_ws Cn T N, w ∈ Ts) (k : Nat) (hk : k < N) {ref : String} {index : Nat} (hlk : Cond.fieldLink own index ref (T k).2.1 (T k).2.2.1 ∈ Ts) (hsame : (T k).1 = ref) (hfin : (T k).2.2.2 = true) (hdecl : (T k).1 = own) (ty0 : Nat → FieldType) (hty : ∀ k, k < N → parseFieldDescriptor (T k).2.2.1 = some (ty0 k)) (hnm : ∀ a, a < N → ∀ b, b < N → a ≠ b → (T a).2.1 ≠ (T b).2.1) {ty : FieldType} {v : Value} (hde : parseFieldDescriptor (T k).2.2.1 = some ty) (hn : narrow ty v = v) (hfit : fits ty v = true) (hlen : k < fs.length) (ws' : va_W) (hw : ws.set q0 (a, .inr (ci, fs.set k v)) = ws') (hd : decode cc pc = .ok (.putfield index, 3))
    (kk : X cx z ws' lv (pc + 3) st) : X cx z ws lv pc (v :: .ref a :: st) := by
  obtain ⟨p, l, e, R, s, m, args, below, meth, c, Inv, G, Q, n⟩ := cx
  obtain ⟨hx, hb, hml, hnn, hown, hts, hK, hI0, hR, hlocks⟩ := C
  obtain ⟨A, hA⟩ := M
  intro H locs hI ls hl
  subst hw
  obtain ⟨hP, hD, hS⟩ := (hA _ _ _).mp hI
  exact va_putF hx hb hts hin ty0 hty hnm hown hK.1 hP hD hS q0 he hc k hk (hts _ hlk) (fun x hx => by rw [← hsame]; exact hx) hfin I hdecl hde hn hfit hlen hd (fun H1 locs1 h1 h2 h3 => kk H1 locs1 ((hA _ _ _).mpr ⟨h1, h2, h3⟩) ls hl)
end NROWS2
