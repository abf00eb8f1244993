/-! constructors: a state as one block, a row of states -/
theorem NI.perm {l : Launch} {G : GG} {y : MethodName} {ws : List Cond} {rm : Room} {av : List Value} {w : va_W} {sz mc ms : Nat} {W : (Nat → Nat) → va_W} (h : NI l G y ws rm av w sz mc ms W) (W' : (Nat → Nat) → va_W) (g : (Nat → Nat) → (Nat → Nat)) (is : List Nat) (hnd : va_nd is = true) (hc : ∀ a, is.map (fun i => (W a)[i]?) = (W' (g a)).map some) : NI l G y ws rm av w sz mc ms W' := by
  unfold NI Met at h ⊢
  refine MetFree.mono h (fun _ _ q => q) (fun _ _ _ _ _ q => q) (fun _ _ _ _ _ q => ?_)
  obtain ⟨⟨q1, ⟨a, q2, q3⟩, q4⟩, q5⟩ := q
  exact ⟨⟨q1, ⟨g a, cut_P q2 is (hc a), q3.sub is hnd (hc a)⟩, q4⟩, q5⟩
/-- the addresses of a state: its own, then those of its cells -/
def hd (m : Nat) (a : Nat → Nat) : Nat → Nat := fun k => match k with | 0 => m | k + 1 => a k
/-- a new state -/
def S00 : SC := (0, 230, 10, 0, fun j => match j with | 0 => flF (fun _ => 0) 1000 6 | 1 => spF 6 | 8 => flF (fun _ => 0) (-1) 24 | 9 => flF (fun _ => 0) 230 3 | _ => fun _ => 0)
theorem kX4_initS (l : Launch) (G : GG) (m : Nat) (sz : Nat) : NI l G yX4_init wsX4_init ({ frames := 2, cells := 16, slots := 422, locals := 49 } : Room) [.ref m] [(m, .inr (4, [.int 0, .int 0, .int 0, .null, .null, .null]))] sz 16 422 (fun a => stW G (hd m a) S00) :=
  (kX4_init l G m sz).perm _ (fun a k => match k with | 0 => a 0 | 1 => a 3 | 2 => a 10 | 3 => a 1 | 4 => a 2 | 5 => a 4 | 6 => a 5 | 7 => a 6 | 8 => a 7 | 9 => a 8 | 10 => a 9 | k => a k) [0, 1, 4, 11, 2, 3, 5, 6, 7, 8, 9, 10, 12, 13, 14, 15, 16] (by decide) (fun a => rfl)
section NROWS5
variable {cx : CX} {z : Nat × Nat} {cc : ByteArray} {Ts : List Cond} {own : String} {rm : Room} {nL : Nat} {ws : va_W} {lv : List (Nat × Value)} {pc : Nat} {st : List Value}
theorem x_newq (C : XC cx cc Ts own rm nL) (N : XN cx) {n index : Nat} (hm : Cond.classLink own index "LampRacks$State" ∈ Ts) (ho : Cond.arrayOver (.object "LampRacks$State") ∈ Ts) (hn : n < 100000) (hc : z.1 + 1 ≤ rm.cells) (hs : z.2 + n ≤ rm.slots) (hd : decode cc pc = .ok (.anewarray index, 3))
    (kk : ∀ q : Nat, X cx (z.1 + 1, z.2 + n) (ws ++ [(q, .inl ((xG cx).2.2.2, n, .inr (.inr (.inr (.inr (fun _ => none))))))]) lv (pc + 3) (.ref q :: st)) : X cx z ws lv pc (.int (nI n) :: st) := by
  obtain ⟨p, l, e, R, s, m, args, below, meth, c, Inv, G, Q, nn⟩ := cx
  obtain ⟨hx, hb, hml, hnn, hown, hts, hK, hI0, hR, hlocks⟩ := C
  obtain ⟨A, hA, hA2⟩ := N
  intro H locs hI ls hl
  subst hR
  obtain ⟨hP, hD, hS⟩ := (hA _ _ _).mp hI
  refine va_newq (C := "LampRacks$State") (N' := n) hx hb hown (hts _ hm) (va_AO.of (hts _ ho)) hK.1 hP hD hS hA2 (nI_pos (by omega)) (nI_clamp (by omega)) (by omega) hc hs hd (fun q cA H1 hK1 hP1 hD1 hS1 => ?_)
  obtain ⟨-, -, -, -, -, h1⟩ := (hK1.2 (gT G).length (cA, .object "LampRacks$State") (by rw [List.getElem?_append_right (Nat.le_refl _), Nat.sub_self]; rfl)).2
  obtain ⟨-, -, -, -, -, h2⟩ := (hK.1.2 2 (G.2.2.2, .object "LampRacks$State") rfl).2
  have h3 : cA = G.2.2.2 := Option.some.inj (h1.symm.trans h2)
  subst h3
  exact kk q H1 locs ((hA _ _ _).mpr ⟨hP1, hD1, hS1⟩) ls hl
end NROWS5
