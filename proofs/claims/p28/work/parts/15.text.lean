/-! the text's reader: place, kind, rack, place of a lamp, hours, direction, number -/
abbrev TX : Type := Nat × Int32 × Int32 × Int32 × Int32 × Int32 × Int32
abbrev tP (T : TX) : Nat := T.1
abbrev tK (T : TX) : Int32 := T.2.1
abbrev tR (T : TX) : Int32 := T.2.2.1
abbrev tL (T : TX) : Int32 := T.2.2.2.1
abbrev tH (T : TX) : Int32 := T.2.2.2.2.1
abbrev tD (T : TX) : Int32 := T.2.2.2.2.2.1
abbrev tN (T : TX) : Int32 := T.2.2.2.2.2.2
abbrev uP (T : TX) (x : Nat) : TX := (x, tK T, tR T, tL T, tH T, tD T, tN T)
abbrev uK (T : TX) (x : Int32) : TX := (tP T, x, tR T, tL T, tH T, tD T, tN T)
abbrev uR (T : TX) (x : Int32) : TX := (tP T, tK T, x, tL T, tH T, tD T, tN T)
abbrev uL (T : TX) (x : Int32) : TX := (tP T, tK T, tR T, x, tH T, tD T, tN T)
abbrev uH (T : TX) (x : Int32) : TX := (tP T, tK T, tR T, tL T, x, tD T, tN T)
abbrev uD (T : TX) (x : Int32) : TX := (tP T, tK T, tR T, tL T, tH T, x, tN T)
abbrev uNb (T : TX) (x : Int32) : TX := (tP T, tK T, tR T, tL T, tH T, tD T, x)
abbrev txW (G : GG) (b q ln : Nat) (f : Nat → Int32) (th : Int32) (T : TX) : va_W := [(b, .inr (5, [.int (nI ln), .ref q, .int (nI (tP T)), .int th, .int (tK T), .int (tR T), .int (tL T), .int (tH T), .int (tD T), .int (tN T)])), (q, .inl (G.2.2.1, 60, .inl f))]
/-- the character that the reader sees; -1 at the end -/
def cur (f : Nat → Int32) (ln : Nat) (T : TX) : Int32 := if tP T < ln then f (tP T) else -1
def andT (q : Bool × TX) (g : TX → Bool × TX) : Bool × TX := if q.1 = true then g q.2 else (false, q.2)
def rdS (f : Nat → Int32) (ln : Nat) (T : TX) (s : Int32) : Bool × TX := if cur f ln T = s then (true, uP T (tP T + 1)) else (false, T)
def rdD (f : Nat → Int32) (ln : Nat) (T : TX) (m : Int32) : Bool × TX := if 48 ≤ cur f ln T ∧ cur f ln T ≤ 48 + m then (true, uP (uNb T (cur f ln T - 48)) (tP T + 1)) else (false, T)
def rdRk (f : Nat → Int32) (ln : Nat) (T : TX) : Bool × TX := andT (rdD f ln T 2) (fun U => (true, uR U (tN U)))
def rdSp (f : Nat → Int32) (ln : Nat) (T : TX) : Bool × TX := andT (rdRk f ln T) (fun U => andT (rdD f ln U 7) (fun V => (true, uL V (tN V))))
def rdRC (f : Nat → Int32) (ln : Nat) (T : TX) : Bool × TX := andT (rdRk f ln T) (fun U => rdS f ln U 58)
def nxD (f : Nat → Int32) (ln : Nat) (T : TX) (m : Int32) : Prop := (48 ≤ cur f ln T ∧ cur f ln T ≤ 57) ∧ 10 * tN T + cur f ln T - 48 ≤ m
/-- digits while they are allowed -/
def rdL (f : Nat → Int32) (ln : Nat) (m : Int32) : Nat → TX → TX
  | 0, T => T
  | n + 1, T => if tP T < ln ∧ 0 < tN T ∧ ((48 ≤ cur f ln T ∧ cur f ln T ≤ 57) ∧ 10 * tN T + cur f ln T - 48 ≤ m) then rdL f ln m n (uP (uNb T (10 * tN T + cur f ln T - 48)) (tP T + 1)) else T
theorem rdL_y {f : Nat → Int32} {ln : Nat} {m : Int32} {n : Nat} {T : TX} (c : tP T < ln ∧ 0 < tN T ∧ ((48 ≤ cur f ln T ∧ cur f ln T ≤ 57) ∧ 10 * tN T + cur f ln T - 48 ≤ m)) : rdL f ln m (n + 1) T = rdL f ln m n (uP (uNb T (10 * tN T + cur f ln T - 48)) (tP T + 1)) := if_pos c
theorem rdL_n {f : Nat → Int32} {ln : Nat} {m : Int32} {n : Nat} {T : TX} (c : ¬ (tP T < ln ∧ 0 < tN T ∧ ((48 ≤ cur f ln T ∧ cur f ln T ≤ 57) ∧ 10 * tN T + cur f ln T - 48 ≤ m))) : rdL f ln m (n + 1) T = T := if_neg c
def rdNum (f : Nat → Int32) (ln : Nat) (T : TX) (lo m : Int32) : Bool × TX := if 48 + lo ≤ cur f ln T ∧ cur f ln T ≤ 57 then (true, rdL f ln m (ln + 1) (uP (uNb T (cur f ln T - 48)) (tP T + 1))) else (false, T)
def rdDir (f : Nat → Int32) (ln : Nat) (T : TX) : Bool × TX :=
  if (rdS f ln (uD T (if cur f ln T = 45 then -1 else 1)) 45).1 = true then (true, (rdS f ln (uD T (if cur f ln T = 45 then -1 else 1)) 45).2)
  else rdS f ln (rdS f ln (uD T (if cur f ln T = 45 then -1 else 1)) 45).2 43
def rdSt (f : Nat → Int32) (ln : Nat) (T : TX) : Bool × TX := andT (rdNum f ln T 0 99) (fun U => andT (rdDir f ln (uH U (tN U))) (fun V => rdNum f ln V 0 50))
def rdT (f : Nat → Int32) (ln : Nat) (T : TX) : Bool × TX :=
  if cur f ln T = 46 then andT (rdS f ln (uK T (cur f ln T)) 46) (fun U => rdNum f ln U 1 999)
  else if cur f ln T = 112 then andT (rdS f ln (uK T (cur f ln T)) 112) (fun U => andT (rdSp f ln U) (fun V => andT (rdS f ln V 58) (fun Y => rdD f ln Y 5)))
  else if cur f ln T = 115 then andT (rdS f ln (uK T (cur f ln T)) 115) (fun U => andT (rdRC f ln U) (fun V => rdSt f ln V))
  else if cur f ln T = 116 then andT (rdS f ln (uK T (cur f ln T)) 116) (fun U => rdSp f ln U)
  else if cur f ln T = 118 then andT (rdS f ln (uK T (cur f ln T)) 118) (fun U => andT (rdRC f ln U) (fun V => rdNum f ln V 0 300))
  else (false, uK T (cur f ln T))
theorem rdT_46 {f : Nat → Int32} {ln : Nat} {T : TX} (h : cur f ln T = 46) : rdT f ln T = andT (rdS f ln (uK T (cur f ln T)) 46) (fun U => rdNum f ln U 1 999) := by
  unfold rdT
  rw [if_pos h]
theorem rdT_112 {f : Nat → Int32} {ln : Nat} {T : TX} (h : cur f ln T = 112) : rdT f ln T = andT (rdS f ln (uK T (cur f ln T)) 112) (fun U => andT (rdSp f ln U) (fun V => andT (rdS f ln V 58) (fun Y => rdD f ln Y 5))) := by
  unfold rdT
  rw [if_neg (show ¬ cur f ln T = 46 from by rw [h]; decide), if_pos h]
theorem rdT_115 {f : Nat → Int32} {ln : Nat} {T : TX} (h : cur f ln T = 115) : rdT f ln T = andT (rdS f ln (uK T (cur f ln T)) 115) (fun U => andT (rdRC f ln U) (fun V => rdSt f ln V)) := by
  unfold rdT
  rw [if_neg (show ¬ cur f ln T = 46 from by rw [h]; decide), if_neg (show ¬ cur f ln T = 112 from by rw [h]; decide), if_pos h]
theorem rdT_116 {f : Nat → Int32} {ln : Nat} {T : TX} (h : cur f ln T = 116) : rdT f ln T = andT (rdS f ln (uK T (cur f ln T)) 116) (fun U => rdSp f ln U) := by
  unfold rdT
  rw [if_neg (show ¬ cur f ln T = 46 from by rw [h]; decide), if_neg (show ¬ cur f ln T = 112 from by rw [h]; decide), if_neg (show ¬ cur f ln T = 115 from by rw [h]; decide), if_pos h]
theorem rdT_118 {f : Nat → Int32} {ln : Nat} {T : TX} (h : cur f ln T = 118) : rdT f ln T = andT (rdS f ln (uK T (cur f ln T)) 118) (fun U => andT (rdRC f ln U) (fun V => rdNum f ln V 0 300)) := by
  unfold rdT
  rw [if_neg (show ¬ cur f ln T = 46 from by rw [h]; decide), if_neg (show ¬ cur f ln T = 112 from by rw [h]; decide), if_neg (show ¬ cur f ln T = 115 from by rw [h]; decide), if_neg (show ¬ cur f ln T = 116 from by rw [h]; decide), if_pos h]
theorem cur_lt {f : Nat → Int32} {ln : Nat} {T : TX} (h : ¬ cur f ln T = -1) : tP T < ln := by
  unfold cur at h
  by_cases c : tP T < ln
  · exact c
  · rw [if_neg c] at h
    exact absurd rfl h
theorem pos_S {f : Nat → Int32} {ln : Nat} {T : TX} {s : Int32} (hs : ¬ s = -1) (hp : tP T ≤ ln) : tP (rdS f ln T s).2 ≤ ln := by
  unfold rdS
  split
  · rename_i c
    exact cur_lt (by rw [c]; exact hs)
  · exact hp
theorem ge48 {x y : Int32} (hy : 0 ≤ y) (hy2 : y ≤ 1000) (h : 48 + y ≤ x) : ¬ x = -1 := by
  intro e
  subst e
  have h1 := Int32.le_iff_toInt_le.mp h
  have h2 := Int32.le_iff_toInt_le.mp hy
  have h3 := Int32.le_iff_toInt_le.mp hy2
  have e0 : (0 : Int32).toInt = 0 := by decide
  have e1 : (-1 : Int32).toInt = -1 := by decide
  have e2 : (1000 : Int32).toInt = 1000 := by decide
  have e3 : (48 : Int32).toInt = 48 := by decide
  rw [Int32.toInt_add, e3] at h1
  have e4 : (48 + y.toInt).bmod (2 ^ 32) = 48 + y.toInt := by
    rw [Int.bmod_def]
    omega
  omega
theorem pos_D {f : Nat → Int32} {ln : Nat} {T : TX} {m : Int32} (hp : tP T ≤ ln) : tP (rdD f ln T m).2 ≤ ln := by
  unfold rdD
  split
  · rename_i c
    exact cur_lt (ge48 (y := 0) (by decide) (by decide) c.1)
  · exact hp
theorem pos_and {q : Bool × TX} {g : TX → Bool × TX} {ln : Nat} (h1 : tP q.2 ≤ ln) (h2 : ∀ U, tP U ≤ ln → tP (g U).2 ≤ ln) : tP (andT q g).2 ≤ ln := by
  unfold andT
  split
  · exact h2 _ h1
  · exact h1
theorem pos_Rk {f : Nat → Int32} {ln : Nat} {T : TX} (hp : tP T ≤ ln) : tP (rdRk f ln T).2 ≤ ln := pos_and (pos_D hp) (fun _ h => h)
theorem pos_Sp {f : Nat → Int32} {ln : Nat} {T : TX} (hp : tP T ≤ ln) : tP (rdSp f ln T).2 ≤ ln := pos_and (pos_Rk hp) (fun _ h => pos_and (pos_D h) (fun _ h => h))
theorem pos_RC {f : Nat → Int32} {ln : Nat} {T : TX} (hp : tP T ≤ ln) : tP (rdRC f ln T).2 ≤ ln := pos_and (pos_Rk hp) (fun _ h => pos_S (by decide) h)
theorem pos_L {f : Nat → Int32} {ln : Nat} {m : Int32} : ∀ (n : Nat) {T : TX}, tP T ≤ ln → tP (rdL f ln m n T) ≤ ln
  | 0, _, hp => hp
  | n + 1, T, hp => by
    unfold rdL
    split
    · rename_i c
      exact pos_L n c.1
    · exact hp
theorem pos_Num {f : Nat → Int32} {ln : Nat} {T : TX} {lo m : Int32} (hlo : 0 ≤ lo ∧ lo ≤ 1000) (hp : tP T ≤ ln) : tP (rdNum f ln T lo m).2 ≤ ln := by
  unfold rdNum
  split
  · rename_i c
    exact pos_L _ (cur_lt (ge48 hlo.1 hlo.2 c.1))
  · exact hp
theorem pos_S58 {f : Nat → Int32} {ln : Nat} {T : TX} (hp : tP T ≤ ln) : tP (rdS f ln T 58).2 ≤ ln := pos_S (by decide) hp
theorem pos_S45 {f : Nat → Int32} {ln : Nat} {T : TX} (hp : tP T ≤ ln) : tP (rdS f ln T 45).2 ≤ ln := pos_S (by decide) hp
theorem pos_S43 {f : Nat → Int32} {ln : Nat} {T : TX} (hp : tP T ≤ ln) : tP (rdS f ln T 43).2 ≤ ln := pos_S (by decide) hp
theorem pos_S46 {f : Nat → Int32} {ln : Nat} {T : TX} (hp : tP T ≤ ln) : tP (rdS f ln T 46).2 ≤ ln := pos_S (by decide) hp
theorem pos_S112 {f : Nat → Int32} {ln : Nat} {T : TX} (hp : tP T ≤ ln) : tP (rdS f ln T 112).2 ≤ ln := pos_S (by decide) hp
theorem pos_S115 {f : Nat → Int32} {ln : Nat} {T : TX} (hp : tP T ≤ ln) : tP (rdS f ln T 115).2 ≤ ln := pos_S (by decide) hp
theorem pos_S116 {f : Nat → Int32} {ln : Nat} {T : TX} (hp : tP T ≤ ln) : tP (rdS f ln T 116).2 ≤ ln := pos_S (by decide) hp
theorem pos_S118 {f : Nat → Int32} {ln : Nat} {T : TX} (hp : tP T ≤ ln) : tP (rdS f ln T 118).2 ≤ ln := pos_S (by decide) hp
theorem pos_S59 {f : Nat → Int32} {ln : Nat} {T : TX} (hp : tP T ≤ ln) : tP (rdS f ln T 59).2 ≤ ln := pos_S (by decide) hp
theorem pos_N0_99 {f : Nat → Int32} {ln : Nat} {T : TX} (hp : tP T ≤ ln) : tP (rdNum f ln T 0 99).2 ≤ ln := pos_Num (by decide) hp
theorem pos_N0_50 {f : Nat → Int32} {ln : Nat} {T : TX} (hp : tP T ≤ ln) : tP (rdNum f ln T 0 50).2 ≤ ln := pos_Num (by decide) hp
theorem pos_N0_300 {f : Nat → Int32} {ln : Nat} {T : TX} (hp : tP T ≤ ln) : tP (rdNum f ln T 0 300).2 ≤ ln := pos_Num (by decide) hp
theorem pos_N1_999 {f : Nat → Int32} {ln : Nat} {T : TX} (hp : tP T ≤ ln) : tP (rdNum f ln T 1 999).2 ≤ ln := pos_Num (by decide) hp
theorem pair_t {q : Bool × TX} (h : q.1 = true) : q = (true, q.2) := by rw [← h]
theorem pair_f {q : Bool × TX} (h : ¬ q.1 = true) : q = (false, q.2) := by rw [← Bool.not_eq_true _ |>.mp h]
theorem pos_Dir {f : Nat → Int32} {ln : Nat} {T : TX} (hp : tP T ≤ ln) : tP (rdDir f ln T).2 ≤ ln := by
  unfold rdDir
  generalize (if cur f ln T = 45 then (-1 : Int32) else 1) = w
  split
  · exact pos_S45 (T := uD T _) hp
  · exact pos_S43 (pos_S45 (T := uD T _) hp)
theorem pos_St {f : Nat → Int32} {ln : Nat} {T : TX} (hp : tP T ≤ ln) : tP (rdSt f ln T).2 ≤ ln := pos_and (pos_Num (by decide) hp) (fun _ h => pos_and (pos_Dir (T := uH _ _) h) (fun _ h => pos_Num (by decide) h))
theorem pos_T {f : Nat → Int32} {ln : Nat} {T : TX} (hp : tP T ≤ ln) : tP (rdT f ln T).2 ≤ ln := by
  have hk : tP (uK T (cur f ln T)) ≤ ln := hp
  unfold rdT
  split
  · exact pos_and (pos_S (by decide) hk) (fun _ h => pos_Num (by decide) h)
  · split
    · exact pos_and (pos_S (by decide) hk) (fun _ h => pos_and (pos_Sp h) (fun _ h => pos_and (pos_S (by decide) h) (fun _ h => pos_D h)))
    · split
      · exact pos_and (pos_S (by decide) hk) (fun _ h => pos_and (pos_RC h) (fun _ h => pos_St h))
      · split
        · exact pos_and (pos_S (by decide) hk) (fun _ h => pos_Sp h)
        · split
          · exact pos_and (pos_S (by decide) hk) (fun _ h => pos_and (pos_RC h) (fun _ h => pos_Num (by decide) h))
          · exact hk

theorem i_kX5_current_X5 : ∀ w ∈ u_ws RX5 TX5 10, w ∈ wsX5_current := by decide +kernel
theorem m_kX5_current_1 : (Cond.fieldLink RX5 19 "LampRacks$Text" "position" "I" : Cond) ∈ wsX5_current := by decide +kernel
theorem m_kX5_current_2 : (Cond.fieldLink RX5 9 "LampRacks$Text" "length" "I" : Cond) ∈ wsX5_current := by decide +kernel
theorem m_kX5_current_3 : (Cond.fieldLink RX5 15 "LampRacks$Text" "characters" "[C" : Cond) ∈ wsX5_current := by decide +kernel
set_option maxRecDepth 100000 in
set_option maxHeartbeats 4000000 in
theorem kX5_current (l : Launch) (G : GG) (b : Nat) (q : Nat) (ln : Nat) (f : Nat → Int32) (th : Int32) (T : TX) (hln : ln ≤ 60) (hp : tP T ≤ ln) : RO l G yX5_current wsX5_current ({ frames := 0, cells := 0, slots := 0, locals := 0 } : Room) [.ref b] (txW G b q ln f th T) (.int (cur f ln T)) := by
  refine RO.of (cc := cX5_current) (maxL := 1) (ret := (some .int)) (by decide) rfl (Nat.le_of_ble_eq_true rfl) ?_
  intro cx hxl hxG C E
  subst hxl
  subst hxG
  show X cx (0, 0) [(b, .inr (5, [.int (nI ln), .ref q, .int (nI (tP T)), .int th, .int (tK T), .int (tR T), .int (tL T), .int (tH T), .int (tD T), .int (tN T)])), (q, .inl ((xG cx).2.2.1, 60, .inl f))] [(0, .ref b)] 0 []
  refine x_aload_n C 0 dX5_current_0 rfl rfl ?_
  refine x_getf C 0 rfl rfl i_kX5_current_X5 2 (by decide) m_kX5_current_1 rfl rfl dX5_current_1 ?_
  refine x_aload_n C 0 dX5_current_4 rfl rfl ?_
  refine x_getf C 0 rfl rfl i_kX5_current_X5 0 (by decide) m_kX5_current_2 rfl rfl dX5_current_5 ?_
  refine x_icmp_ge C 23 dX5_current_8 (by decide) (fun c_8 => ?_) (fun c_8 => ?_)
  ·
    have n_8 : ln ≤ (tP T) := (nI_leI (a := ln) (b := tP T) (by omega) (by omega)).mp c_8
    refine x_iconst (v := (-1)) C dX5_current_23 (by decide) ?_
    exact x_iret C E dX5_current_24 (by unfold cur; first | rw [if_neg (by omega)] | rw [if_pos (by omega)]) (rfl)
  ·
    have n_8 : ¬ (ln ≤ (tP T)) := fun q => c_8 ((nI_leI (a := ln) (b := tP T) (by omega) (by omega)).mpr q)
    refine x_aload_n C 0 dX5_current_11 rfl rfl ?_
    refine x_getf C 0 rfl rfl i_kX5_current_X5 1 (by decide) m_kX5_current_3 rfl rfl dX5_current_12 ?_
    refine x_aload_n C 0 dX5_current_15 rfl rfl ?_
    refine x_getf C 0 rfl rfl i_kX5_current_X5 2 (by decide) m_kX5_current_1 rfl rfl dX5_current_16 ?_
    refine x_cald C 1 rfl rfl (vp_in_nI (by omega) (by decide)) (congrArg f (nI_clamp (by omega))) dX5_current_19 ?_
    refine x_goto (tgt := 24) C dX5_current_20 (by decide) ?_
    exact x_iret C E dX5_current_24 (by unfold cur; first | rw [if_neg (by omega)] | rw [if_pos (by omega)]) (rfl)

theorem i_kX5_readSign_X5 : ∀ w ∈ u_ws RX5 TX5 10, w ∈ wsX5_readSign := by decide +kernel
theorem m_kX5_readSign_1 : (Cond.fieldLink RX5 19 "LampRacks$Text" "position" "I" : Cond) ∈ wsX5_readSign := by decide +kernel
set_option maxRecDepth 100000 in
set_option maxHeartbeats 4000000 in
theorem kX5_readSign (l : Launch) (G : GG) (b : Nat) (q : Nat) (ln : Nat) (f : Nat → Int32) (th : Int32) (T : TX) (s : Int32) (hln : ln ≤ 60) (hp : tP T ≤ ln) : MU l G yX5_readSign wsX5_readSign ({ frames := 1, cells := 0, slots := 0, locals := 20 } : Room) [.ref b, .int s] (txW G b q ln f th T) (some (.int (b2i ((rdS f ln T s).1 = true)))) (txW G b q ln f th ((rdS f ln T s).2)) := by
  refine MU.of (cc := cX5_readSign) (maxL := 2) (ret := (some .boolean)) (by decide) rfl (Nat.le_of_ble_eq_true rfl) ?_
  intro cx hxl hxG C M E
  subst hxl
  subst hxG
  show X cx (0, 0) [(b, .inr (5, [.int (nI ln), .ref q, .int (nI (tP T)), .int th, .int (tK T), .int (tR T), .int (tL T), .int (tH T), .int (tD T), .int (tN T)])), (q, .inl ((xG cx).2.2.1, 60, .inl f))] [(0, .ref b), (1, .int s)] 0 []
  refine x_aload_n C 0 dX5_readSign_0 rfl rfl ?_
  refine x_callVRO C ([]) ([]) [0, 1] (k0 := 0) (na := 0) gX5_readSign_X5_current rfl (by decide +kernel) rfl rfl rfl (kX5_current (xl cx) (xG cx) b q ln f th T (hln) (by (repeat (first | with_reducible assumption | with_reducible apply pos_S58 | with_reducible apply pos_S45 | with_reducible apply pos_S43 | with_reducible apply pos_S46 | with_reducible apply pos_S112 | with_reducible apply pos_S115 | with_reducible apply pos_S116 | with_reducible apply pos_S118 | with_reducible apply pos_S59 | with_reducible apply pos_N0_99 | with_reducible apply pos_N0_50 | with_reducible apply pos_N0_300 | with_reducible apply pos_N1_999 | with_reducible apply pos_D | with_reducible apply pos_Rk | with_reducible apply pos_Sp | with_reducible apply pos_RC | with_reducible apply pos_Dir | with_reducible apply pos_St | with_reducible apply pos_T)))) rfl (by decide) rfl rfl rfl ⟨by decide, by decide⟩ (Nat.le_of_ble_eq_true rfl) ⟨by decide, by decide⟩ dX5_readSign_1 ?_
  refine x_iload_n C 1 dX5_readSign_4 rfl rfl ?_
  refine x_icmp_eq C 10 dX5_readSign_5 (by decide) (fun c_5 => ?_) (fun c_5 => ?_)
  ·
    refine x_aload_n C 0 dX5_readSign_10 rfl rfl ?_
    refine x_dup C dX5_readSign_11 rfl ?_
    refine x_getf C 0 rfl rfl i_kX5_readSign_X5 2 (by decide) m_kX5_readSign_1 rfl rfl dX5_readSign_12 ?_
    refine x_iconst (v := 1) C dX5_readSign_15 (by decide) ?_
    refine x_iadd C (nI_add (tP T) 1) dX5_readSign_16 ?_
    refine x_putf (ty := .int) C M 0 rfl rfl i_kX5_readSign_X5 2 (by decide) m_kX5_readSign_1 rfl rfl tyX5 tyX5_ok nmX5 (by decide +kernel) rfl rfl (Nat.le_of_ble_eq_true rfl) [(b, .inr (5, [.int (nI ln), .ref q, .int (nI ((tP T) + 1)), .int th, .int (tK T), .int (tR T), .int (tL T), .int (tH T), .int (tD T), .int (tN T)])), (q, .inl ((xG cx).2.2.1, 60, .inl f))] rfl dX5_readSign_17 ?_
    refine x_iconst (v := 1) C dX5_readSign_20 (by decide) ?_
    have e_ret : rdS f ln T s = (true, uP T (tP T + 1)) := by simp [rdS, c_5] <;> first | exact pair_t (by assumption) | exact pair_f (by assumption)
    exact x_zret C E dX5_readSign_21 (by rw [e_ret]; exact (b2i_t rfl).symm) ((rfl : _ = txW (xG cx) b q ln f th (uP T (tP T + 1))).trans (by rw [e_ret]))
  ·
    refine x_iconst (v := 0) C dX5_readSign_8 (by decide) ?_
    have e_ret : rdS f ln T s = (false, T) := by simp [rdS, c_5] <;> first | exact pair_t (by assumption) | exact pair_f (by assumption)
    exact x_zret C E dX5_readSign_9 (by rw [e_ret]; exact (b2i_f Bool.false_ne_true).symm) ((rfl : _ = txW (xG cx) b q ln f th T).trans (by rw [e_ret]))

theorem m_kX5_readDigit_0 : (Cond.static yX6_isWithin : Cond) ∈ wsX5_readDigit := by decide +kernel
theorem m_kX5_readDigit_1 : (Cond.initialized RX6 : Cond) ∈ wsX5_readDigit := by decide +kernel
theorem i_kX5_readDigit_X5 : ∀ w ∈ u_ws RX5 TX5 10, w ∈ wsX5_readDigit := by decide +kernel
theorem m_kX5_readDigit_3 : (Cond.fieldLink RX5 40 "LampRacks$Text" "number" "I" : Cond) ∈ wsX5_readDigit := by decide +kernel
theorem m_kX5_readDigit_4 : (Cond.fieldLink RX5 19 "LampRacks$Text" "position" "I" : Cond) ∈ wsX5_readDigit := by decide +kernel
set_option maxRecDepth 100000 in
set_option maxHeartbeats 4000000 in
theorem kX5_readDigit (l : Launch) (G : GG) (b : Nat) (q : Nat) (ln : Nat) (f : Nat → Int32) (th : Int32) (T : TX) (m : Int32) (hln : ln ≤ 60) (hp : tP T ≤ ln) : MU l G yX5_readDigit wsX5_readDigit ({ frames := 1, cells := 0, slots := 0, locals := 22 } : Room) [.ref b, .int m] (txW G b q ln f th T) (some (.int (b2i ((rdD f ln T m).1 = true)))) (txW G b q ln f th ((rdD f ln T m).2)) := by
  refine MU.of (cc := cX5_readDigit) (maxL := 2) (ret := (some .boolean)) (by decide) rfl (Nat.le_of_ble_eq_true rfl) ?_
  intro cx hxl hxG C M E
  subst hxl
  subst hxG
  show X cx (0, 0) [(b, .inr (5, [.int (nI ln), .ref q, .int (nI (tP T)), .int th, .int (tK T), .int (tR T), .int (tL T), .int (tH T), .int (tD T), .int (tN T)])), (q, .inl ((xG cx).2.2.1, 60, .inl f))] [(0, .ref b), (1, .int m)] 0 []
  refine x_aload_n C 0 dX5_readDigit_0 rfl rfl ?_
  refine x_callVRO C ([]) ([]) [0, 1] (k0 := 0) (na := 0) gX5_readDigit_X5_current rfl (by decide +kernel) rfl rfl rfl (kX5_current (xl cx) (xG cx) b q ln f th T (hln) (by (repeat (first | with_reducible assumption | with_reducible apply pos_S58 | with_reducible apply pos_S45 | with_reducible apply pos_S43 | with_reducible apply pos_S46 | with_reducible apply pos_S112 | with_reducible apply pos_S115 | with_reducible apply pos_S116 | with_reducible apply pos_S118 | with_reducible apply pos_S59 | with_reducible apply pos_N0_99 | with_reducible apply pos_N0_50 | with_reducible apply pos_N0_300 | with_reducible apply pos_N1_999 | with_reducible apply pos_D | with_reducible apply pos_Rk | with_reducible apply pos_Sp | with_reducible apply pos_RC | with_reducible apply pos_Dir | with_reducible apply pos_St | with_reducible apply pos_T)))) rfl (by decide) rfl rfl rfl ⟨by decide, by decide⟩ (Nat.le_of_ble_eq_true rfl) ⟨by decide, by decide⟩ dX5_readDigit_1 ?_
  refine x_bipush (v := 48) C dX5_readDigit_4 (by decide) ?_
  refine x_bipush (v := 48) C dX5_readDigit_6 (by decide) ?_
  refine x_iload_n C 1 dX5_readDigit_8 rfl rfl ?_
  refine x_iadd C (rfl) dX5_readDigit_9 ?_
  refine x_callNRO C ([.int (cur f ln T), .int 48, .int (48 + m)]) ([]) [] (na := 3) (host := "LampRacks") gX5_readDigit_X6_isWithin_n81 (by decide +kernel) m_kX5_readDigit_0 m_kX5_readDigit_1 rfl (by decide +kernel) rfl (kX6_isWithin (xl cx) (xG cx) (cur f ln T) 48 (48 + m)) rfl (by decide) rfl rfl rfl ⟨by decide, by decide⟩ (Nat.le_of_ble_eq_true rfl) ⟨by decide, by decide⟩ dX5_readDigit_10 ?_
  refine x_ifb_ne (P := 48 ≤ (cur f ln T) ∧ (cur f ln T) ≤ (48 + m)) C 18 dX5_readDigit_13 (by decide) (fun c_13 => ?_) (fun c_13 => ?_)
  ·
    refine x_aload_n C 0 dX5_readDigit_18 rfl rfl ?_
    refine x_aload_n C 0 dX5_readDigit_19 rfl rfl ?_
    refine x_callVRO C ([]) ([.ref b]) [0, 1] (k0 := 0) (na := 0) gX5_readDigit_X5_current rfl (by decide +kernel) rfl rfl rfl (kX5_current (xl cx) (xG cx) b q ln f th T (hln) (by (repeat (first | with_reducible assumption | with_reducible apply pos_S58 | with_reducible apply pos_S45 | with_reducible apply pos_S43 | with_reducible apply pos_S46 | with_reducible apply pos_S112 | with_reducible apply pos_S115 | with_reducible apply pos_S116 | with_reducible apply pos_S118 | with_reducible apply pos_S59 | with_reducible apply pos_N0_99 | with_reducible apply pos_N0_50 | with_reducible apply pos_N0_300 | with_reducible apply pos_N1_999 | with_reducible apply pos_D | with_reducible apply pos_Rk | with_reducible apply pos_Sp | with_reducible apply pos_RC | with_reducible apply pos_Dir | with_reducible apply pos_St | with_reducible apply pos_T)))) rfl (by decide) rfl rfl rfl ⟨by decide, by decide⟩ (Nat.le_of_ble_eq_true rfl) ⟨by decide, by decide⟩ dX5_readDigit_20 ?_
    refine x_bipush (v := 48) C dX5_readDigit_23 (by decide) ?_
    refine x_isub C (rfl) dX5_readDigit_25 ?_
    refine x_putf (ty := .int) C M 0 rfl rfl i_kX5_readDigit_X5 9 (by decide) m_kX5_readDigit_3 rfl rfl tyX5 tyX5_ok nmX5 (by decide +kernel) rfl rfl (Nat.le_of_ble_eq_true rfl) [(b, .inr (5, [.int (nI ln), .ref q, .int (nI (tP T)), .int th, .int (tK T), .int (tR T), .int (tL T), .int (tH T), .int (tD T), .int ((cur f ln T) - 48)])), (q, .inl ((xG cx).2.2.1, 60, .inl f))] rfl dX5_readDigit_26 ?_
    refine x_aload_n C 0 dX5_readDigit_29 rfl rfl ?_
    refine x_dup C dX5_readDigit_30 rfl ?_
    refine x_getf C 0 rfl rfl i_kX5_readDigit_X5 2 (by decide) m_kX5_readDigit_4 rfl rfl dX5_readDigit_31 ?_
    refine x_iconst (v := 1) C dX5_readDigit_34 (by decide) ?_
    refine x_iadd C (nI_add (tP T) 1) dX5_readDigit_35 ?_
    refine x_putf (ty := .int) C M 0 rfl rfl i_kX5_readDigit_X5 2 (by decide) m_kX5_readDigit_4 rfl rfl tyX5 tyX5_ok nmX5 (by decide +kernel) rfl rfl (Nat.le_of_ble_eq_true rfl) [(b, .inr (5, [.int (nI ln), .ref q, .int (nI ((tP T) + 1)), .int th, .int (tK T), .int (tR T), .int (tL T), .int (tH T), .int (tD T), .int ((cur f ln T) - 48)])), (q, .inl ((xG cx).2.2.1, 60, .inl f))] rfl dX5_readDigit_36 ?_
    refine x_iconst (v := 1) C dX5_readDigit_39 (by decide) ?_
    have e_ret : rdD f ln T m = (true, uP (uNb T (cur f ln T - 48)) (tP T + 1)) := by simp [rdD, c_13] <;> first | exact pair_t (by assumption) | exact pair_f (by assumption)
    exact x_zret C E dX5_readDigit_40 (by rw [e_ret]; exact (b2i_t rfl).symm) ((rfl : _ = txW (xG cx) b q ln f th (uP (uNb T (cur f ln T - 48)) (tP T + 1))).trans (by rw [e_ret]))
  ·
    refine x_iconst (v := 0) C dX5_readDigit_16 (by decide) ?_
    have e_ret : rdD f ln T m = (false, T) := by simp [rdD, c_13] <;> first | exact pair_t (by assumption) | exact pair_f (by assumption)
    exact x_zret C E dX5_readDigit_17 (by rw [e_ret]; exact (b2i_f Bool.false_ne_true).symm) ((rfl : _ = txW (xG cx) b q ln f th T).trans (by rw [e_ret]))

theorem i_kX5_readRack_X5 : ∀ w ∈ u_ws RX5 TX5 10, w ∈ wsX5_readRack := by decide +kernel
theorem m_kX5_readRack_1 : (Cond.fieldLink RX5 40 "LampRacks$Text" "number" "I" : Cond) ∈ wsX5_readRack := by decide +kernel
theorem m_kX5_readRack_2 : (Cond.fieldLink RX5 28 "LampRacks$Text" "rack" "I" : Cond) ∈ wsX5_readRack := by decide +kernel
set_option maxRecDepth 100000 in
set_option maxHeartbeats 4000000 in
theorem kX5_readRack (l : Launch) (G : GG) (b : Nat) (q : Nat) (ln : Nat) (f : Nat → Int32) (th : Int32) (T : TX) (hln : ln ≤ 60) (hp : tP T ≤ ln) : MU l G yX5_readRack wsX5_readRack ({ frames := 2, cells := 0, slots := 0, locals := 43 } : Room) [.ref b] (txW G b q ln f th T) (some (.int (b2i ((rdRk f ln T).1 = true)))) (txW G b q ln f th ((rdRk f ln T).2)) := by
  refine MU.of (cc := cX5_readRack) (maxL := 1) (ret := (some .boolean)) (by decide) rfl (Nat.le_of_ble_eq_true rfl) ?_
  intro cx hxl hxG C M E
  subst hxl
  subst hxG
  show X cx (0, 0) [(b, .inr (5, [.int (nI ln), .ref q, .int (nI (tP T)), .int th, .int (tK T), .int (tR T), .int (tL T), .int (tH T), .int (tD T), .int (tN T)])), (q, .inl ((xG cx).2.2.1, 60, .inl f))] [(0, .ref b)] 0 []
  refine x_aload_n C 0 dX5_readRack_0 rfl rfl ?_
  refine x_iconst (v := 2) C dX5_readRack_1 (by decide) ?_
  refine x_callVMU C ([.int 2]) ([]) [0, 1] [(b, .inr (5, [.int (nI ln), .ref q, .int (nI (tP ((rdD f ln T 2).2))), .int th, .int (tK ((rdD f ln T 2).2)), .int (tR ((rdD f ln T 2).2)), .int (tL ((rdD f ln T 2).2)), .int (tH ((rdD f ln T 2).2)), .int (tD ((rdD f ln T 2).2)), .int (tN ((rdD f ln T 2).2))])), (q, .inl ((xG cx).2.2.1, 60, .inl f))] [] [b, q] rfl rfl [] rfl rfl 2 rfl (by decide +kernel) rfl (k0 := 0) (na := 1) gX5_readRack_X5_readDigit rfl (by decide +kernel) rfl rfl rfl M (kX5_readDigit (xl cx) (xG cx) b q ln f th T 2 (hln) (by (repeat (first | with_reducible assumption | with_reducible apply pos_S58 | with_reducible apply pos_S45 | with_reducible apply pos_S43 | with_reducible apply pos_S46 | with_reducible apply pos_S112 | with_reducible apply pos_S115 | with_reducible apply pos_S116 | with_reducible apply pos_S118 | with_reducible apply pos_S59 | with_reducible apply pos_N0_99 | with_reducible apply pos_N0_50 | with_reducible apply pos_N0_300 | with_reducible apply pos_N1_999 | with_reducible apply pos_D | with_reducible apply pos_Rk | with_reducible apply pos_Sp | with_reducible apply pos_RC | with_reducible apply pos_Dir | with_reducible apply pos_St | with_reducible apply pos_T)))) rfl (by decide) rfl rfl rfl ⟨by decide, by decide⟩ (Nat.le_of_ble_eq_true rfl) ⟨by decide, by decide⟩ dX5_readRack_2 ?_
  refine x_ifb_ne (P := (rdD f ln T 2).1 = true) C 10 dX5_readRack_5 (by decide) (fun c_5 => ?_) (fun c_5 => ?_)
  ·
    refine x_aload_n C 0 dX5_readRack_10 rfl rfl ?_
    refine x_aload_n C 0 dX5_readRack_11 rfl rfl ?_
    refine x_getf C 0 rfl rfl i_kX5_readRack_X5 9 (by decide) m_kX5_readRack_1 rfl rfl dX5_readRack_12 ?_
    refine x_putf (ty := .int) C M 0 rfl rfl i_kX5_readRack_X5 5 (by decide) m_kX5_readRack_2 rfl rfl tyX5 tyX5_ok nmX5 (by decide +kernel) rfl rfl (Nat.le_of_ble_eq_true rfl) [(b, .inr (5, [.int (nI ln), .ref q, .int (nI (tP ((rdD f ln T 2).2))), .int th, .int (tK ((rdD f ln T 2).2)), .int (tN ((rdD f ln T 2).2)), .int (tL ((rdD f ln T 2).2)), .int (tH ((rdD f ln T 2).2)), .int (tD ((rdD f ln T 2).2)), .int (tN ((rdD f ln T 2).2))])), (q, .inl ((xG cx).2.2.1, 60, .inl f))] rfl dX5_readRack_15 ?_
    refine x_iconst (v := 1) C dX5_readRack_18 (by decide) ?_
    have e_ret : rdRk f ln T = (true, uR (rdD f ln T 2).2 (tN (rdD f ln T 2).2)) := by simp [rdRk, andT, c_5] <;> first | exact pair_t (by assumption) | exact pair_f (by assumption)
    exact x_zret C E dX5_readRack_19 (by rw [e_ret]; exact (b2i_t rfl).symm) ((rfl : _ = txW (xG cx) b q ln f th (uR (rdD f ln T 2).2 (tN (rdD f ln T 2).2))).trans (by rw [e_ret]))
  ·
    refine x_iconst (v := 0) C dX5_readRack_8 (by decide) ?_
    have e_ret : rdRk f ln T = (false, (rdD f ln T 2).2) := by simp [rdRk, andT, c_5] <;> first | exact pair_t (by assumption) | exact pair_f (by assumption)
    exact x_zret C E dX5_readRack_9 (by rw [e_ret]; exact (b2i_f Bool.false_ne_true).symm) ((rfl : _ = txW (xG cx) b q ln f th ((rdD f ln T 2).2)).trans (by rw [e_ret]))

theorem i_kX5_readSpot_X5 : ∀ w ∈ u_ws RX5 TX5 10, w ∈ wsX5_readSpot := by decide +kernel
theorem m_kX5_readSpot_1 : (Cond.fieldLink RX5 40 "LampRacks$Text" "number" "I" : Cond) ∈ wsX5_readSpot := by decide +kernel
theorem m_kX5_readSpot_2 : (Cond.fieldLink RX5 31 "LampRacks$Text" "place" "I" : Cond) ∈ wsX5_readSpot := by decide +kernel
set_option maxRecDepth 100000 in
set_option maxHeartbeats 4000000 in
theorem kX5_readSpot (l : Launch) (G : GG) (b : Nat) (q : Nat) (ln : Nat) (f : Nat → Int32) (th : Int32) (T : TX) (hln : ln ≤ 60) (hp : tP T ≤ ln) : MU l G yX5_readSpot wsX5_readSpot ({ frames := 3, cells := 0, slots := 0, locals := 63 } : Room) [.ref b] (txW G b q ln f th T) (some (.int (b2i ((rdSp f ln T).1 = true)))) (txW G b q ln f th ((rdSp f ln T).2)) := by
  refine MU.of (cc := cX5_readSpot) (maxL := 1) (ret := (some .boolean)) (by decide) rfl (Nat.le_of_ble_eq_true rfl) ?_
  intro cx hxl hxG C M E
  subst hxl
  subst hxG
  show X cx (0, 0) [(b, .inr (5, [.int (nI ln), .ref q, .int (nI (tP T)), .int th, .int (tK T), .int (tR T), .int (tL T), .int (tH T), .int (tD T), .int (tN T)])), (q, .inl ((xG cx).2.2.1, 60, .inl f))] [(0, .ref b)] 0 []
  refine x_aload_n C 0 dX5_readSpot_0 rfl rfl ?_
  refine x_callVMU C ([]) ([]) [0, 1] [(b, .inr (5, [.int (nI ln), .ref q, .int (nI (tP ((rdRk f ln T).2))), .int th, .int (tK ((rdRk f ln T).2)), .int (tR ((rdRk f ln T).2)), .int (tL ((rdRk f ln T).2)), .int (tH ((rdRk f ln T).2)), .int (tD ((rdRk f ln T).2)), .int (tN ((rdRk f ln T).2))])), (q, .inl ((xG cx).2.2.1, 60, .inl f))] [] [b, q] rfl rfl [] rfl rfl 2 rfl (by decide +kernel) rfl (k0 := 0) (na := 0) gX5_readSpot_X5_readRack rfl (by decide +kernel) rfl rfl rfl M (kX5_readRack (xl cx) (xG cx) b q ln f th T (hln) (by (repeat (first | with_reducible assumption | with_reducible apply pos_S58 | with_reducible apply pos_S45 | with_reducible apply pos_S43 | with_reducible apply pos_S46 | with_reducible apply pos_S112 | with_reducible apply pos_S115 | with_reducible apply pos_S116 | with_reducible apply pos_S118 | with_reducible apply pos_S59 | with_reducible apply pos_N0_99 | with_reducible apply pos_N0_50 | with_reducible apply pos_N0_300 | with_reducible apply pos_N1_999 | with_reducible apply pos_D | with_reducible apply pos_Rk | with_reducible apply pos_Sp | with_reducible apply pos_RC | with_reducible apply pos_Dir | with_reducible apply pos_St | with_reducible apply pos_T)))) rfl (by decide) rfl rfl rfl ⟨by decide, by decide⟩ (Nat.le_of_ble_eq_true rfl) ⟨by decide, by decide⟩ dX5_readSpot_1 ?_
  refine x_ifb_eq (P := (rdRk f ln T).1 = true) C 16 dX5_readSpot_4 (by decide) (fun c_4 => ?_) (fun c_4 => ?_)
  ·
    refine x_iconst (v := 0) C dX5_readSpot_16 (by decide) ?_
    have e_ret : rdSp f ln T = (false, (rdRk f ln T).2) := by simp [rdSp, andT, c_4] <;> first | exact pair_t (by assumption) | exact pair_f (by assumption)
    exact x_zret C E dX5_readSpot_17 (by rw [e_ret]; exact (b2i_f Bool.false_ne_true).symm) ((rfl : _ = txW (xG cx) b q ln f th ((rdRk f ln T).2)).trans (by rw [e_ret]))
  ·
    refine x_aload_n C 0 dX5_readSpot_7 rfl rfl ?_
    refine x_bipush (v := 7) C dX5_readSpot_8 (by decide) ?_
    refine x_callVMU C ([.int 7]) ([]) [0, 1] [(b, .inr (5, [.int (nI ln), .ref q, .int (nI (tP ((rdD f ln ((rdRk f ln T).2) 7).2))), .int th, .int (tK ((rdD f ln ((rdRk f ln T).2) 7).2)), .int (tR ((rdD f ln ((rdRk f ln T).2) 7).2)), .int (tL ((rdD f ln ((rdRk f ln T).2) 7).2)), .int (tH ((rdD f ln ((rdRk f ln T).2) 7).2)), .int (tD ((rdD f ln ((rdRk f ln T).2) 7).2)), .int (tN ((rdD f ln ((rdRk f ln T).2) 7).2))])), (q, .inl ((xG cx).2.2.1, 60, .inl f))] [] [b, q] rfl rfl [] rfl rfl 2 rfl (by decide +kernel) rfl (k0 := 0) (na := 1) gX5_readSpot_X5_readDigit rfl (by decide +kernel) rfl rfl rfl M (kX5_readDigit (xl cx) (xG cx) b q ln f th ((rdRk f ln T).2) 7 (hln) (by (repeat (first | with_reducible assumption | with_reducible apply pos_S58 | with_reducible apply pos_S45 | with_reducible apply pos_S43 | with_reducible apply pos_S46 | with_reducible apply pos_S112 | with_reducible apply pos_S115 | with_reducible apply pos_S116 | with_reducible apply pos_S118 | with_reducible apply pos_S59 | with_reducible apply pos_N0_99 | with_reducible apply pos_N0_50 | with_reducible apply pos_N0_300 | with_reducible apply pos_N1_999 | with_reducible apply pos_D | with_reducible apply pos_Rk | with_reducible apply pos_Sp | with_reducible apply pos_RC | with_reducible apply pos_Dir | with_reducible apply pos_St | with_reducible apply pos_T)))) rfl (by decide) rfl rfl rfl ⟨by decide, by decide⟩ (Nat.le_of_ble_eq_true rfl) ⟨by decide, by decide⟩ dX5_readSpot_10 ?_
    refine x_ifb_ne (P := (rdD f ln ((rdRk f ln T).2) 7).1 = true) C 18 dX5_readSpot_13 (by decide) (fun c_13 => ?_) (fun c_13 => ?_)
    ·
      refine x_aload_n C 0 dX5_readSpot_18 rfl rfl ?_
      refine x_aload_n C 0 dX5_readSpot_19 rfl rfl ?_
      refine x_getf C 0 rfl rfl i_kX5_readSpot_X5 9 (by decide) m_kX5_readSpot_1 rfl rfl dX5_readSpot_20 ?_
      refine x_putf (ty := .int) C M 0 rfl rfl i_kX5_readSpot_X5 6 (by decide) m_kX5_readSpot_2 rfl rfl tyX5 tyX5_ok nmX5 (by decide +kernel) rfl rfl (Nat.le_of_ble_eq_true rfl) [(b, .inr (5, [.int (nI ln), .ref q, .int (nI (tP ((rdD f ln ((rdRk f ln T).2) 7).2))), .int th, .int (tK ((rdD f ln ((rdRk f ln T).2) 7).2)), .int (tR ((rdD f ln ((rdRk f ln T).2) 7).2)), .int (tN ((rdD f ln ((rdRk f ln T).2) 7).2)), .int (tH ((rdD f ln ((rdRk f ln T).2) 7).2)), .int (tD ((rdD f ln ((rdRk f ln T).2) 7).2)), .int (tN ((rdD f ln ((rdRk f ln T).2) 7).2))])), (q, .inl ((xG cx).2.2.1, 60, .inl f))] rfl dX5_readSpot_23 ?_
      refine x_iconst (v := 1) C dX5_readSpot_26 (by decide) ?_
      have e_ret : rdSp f ln T = (true, uL (rdD f ln (rdRk f ln T).2 7).2 (tN (rdD f ln (rdRk f ln T).2 7).2)) := by simp [rdSp, andT, c_4, c_13] <;> first | exact pair_t (by assumption) | exact pair_f (by assumption)
      exact x_zret C E dX5_readSpot_27 (by rw [e_ret]; exact (b2i_t rfl).symm) ((rfl : _ = txW (xG cx) b q ln f th (uL (rdD f ln (rdRk f ln T).2 7).2 (tN (rdD f ln (rdRk f ln T).2 7).2))).trans (by rw [e_ret]))
    ·
      refine x_iconst (v := 0) C dX5_readSpot_16 (by decide) ?_
      have e_ret : rdSp f ln T = (false, (rdD f ln (rdRk f ln T).2 7).2) := by simp [rdSp, andT, c_4, c_13] <;> first | exact pair_t (by assumption) | exact pair_f (by assumption)
      exact x_zret C E dX5_readSpot_17 (by rw [e_ret]; exact (b2i_f Bool.false_ne_true).symm) ((rfl : _ = txW (xG cx) b q ln f th ((rdD f ln (rdRk f ln T).2 7).2)).trans (by rw [e_ret]))

set_option maxRecDepth 100000 in
set_option maxHeartbeats 4000000 in
theorem kX5_readRackAndColon (l : Launch) (G : GG) (b : Nat) (q : Nat) (ln : Nat) (f : Nat → Int32) (th : Int32) (T : TX) (hln : ln ≤ 60) (hp : tP T ≤ ln) : MU l G yX5_readRackAndColon wsX5_readRackAndColon ({ frames := 3, cells := 0, slots := 0, locals := 63 } : Room) [.ref b] (txW G b q ln f th T) (some (.int (b2i ((rdRC f ln T).1 = true)))) (txW G b q ln f th ((rdRC f ln T).2)) := by
  refine MU.of (cc := cX5_readRackAndColon) (maxL := 1) (ret := (some .boolean)) (by decide) rfl (Nat.le_of_ble_eq_true rfl) ?_
  intro cx hxl hxG C M E
  subst hxl
  subst hxG
  show X cx (0, 0) [(b, .inr (5, [.int (nI ln), .ref q, .int (nI (tP T)), .int th, .int (tK T), .int (tR T), .int (tL T), .int (tH T), .int (tD T), .int (tN T)])), (q, .inl ((xG cx).2.2.1, 60, .inl f))] [(0, .ref b)] 0 []
  refine x_aload_n C 0 dX5_readRackAndColon_0 rfl rfl ?_
  refine x_callVMU C ([]) ([]) [0, 1] [(b, .inr (5, [.int (nI ln), .ref q, .int (nI (tP ((rdRk f ln T).2))), .int th, .int (tK ((rdRk f ln T).2)), .int (tR ((rdRk f ln T).2)), .int (tL ((rdRk f ln T).2)), .int (tH ((rdRk f ln T).2)), .int (tD ((rdRk f ln T).2)), .int (tN ((rdRk f ln T).2))])), (q, .inl ((xG cx).2.2.1, 60, .inl f))] [] [b, q] rfl rfl [] rfl rfl 2 rfl (by decide +kernel) rfl (k0 := 0) (na := 0) gX5_readRackAndColon_X5_readRack rfl (by decide +kernel) rfl rfl rfl M (kX5_readRack (xl cx) (xG cx) b q ln f th T (hln) (by (repeat (first | with_reducible assumption | with_reducible apply pos_S58 | with_reducible apply pos_S45 | with_reducible apply pos_S43 | with_reducible apply pos_S46 | with_reducible apply pos_S112 | with_reducible apply pos_S115 | with_reducible apply pos_S116 | with_reducible apply pos_S118 | with_reducible apply pos_S59 | with_reducible apply pos_N0_99 | with_reducible apply pos_N0_50 | with_reducible apply pos_N0_300 | with_reducible apply pos_N1_999 | with_reducible apply pos_D | with_reducible apply pos_Rk | with_reducible apply pos_Sp | with_reducible apply pos_RC | with_reducible apply pos_Dir | with_reducible apply pos_St | with_reducible apply pos_T)))) rfl (by decide) rfl rfl rfl ⟨by decide, by decide⟩ (Nat.le_of_ble_eq_true rfl) ⟨by decide, by decide⟩ dX5_readRackAndColon_1 ?_
  refine x_ifb_eq (P := (rdRk f ln T).1 = true) C 20 dX5_readRackAndColon_4 (by decide) (fun c_4 => ?_) (fun c_4 => ?_)
  ·
    refine x_iconst (v := 0) C dX5_readRackAndColon_20 (by decide) ?_
    have e_ret : rdRC f ln T = (false, (rdRk f ln T).2) := by simp [rdRC, andT, c_4] <;> first | exact pair_t (by assumption) | exact pair_f (by assumption)
    exact x_zret C E dX5_readRackAndColon_21 (by rw [e_ret]; exact (b2i_f Bool.false_ne_true).symm) ((rfl : _ = txW (xG cx) b q ln f th ((rdRk f ln T).2)).trans (by rw [e_ret]))
  ·
    refine x_aload_n C 0 dX5_readRackAndColon_7 rfl rfl ?_
    refine x_bipush (v := 58) C dX5_readRackAndColon_8 (by decide) ?_
    refine x_callVMU C ([.int 58]) ([]) [0, 1] [(b, .inr (5, [.int (nI ln), .ref q, .int (nI (tP ((rdS f ln ((rdRk f ln T).2) 58).2))), .int th, .int (tK ((rdS f ln ((rdRk f ln T).2) 58).2)), .int (tR ((rdS f ln ((rdRk f ln T).2) 58).2)), .int (tL ((rdS f ln ((rdRk f ln T).2) 58).2)), .int (tH ((rdS f ln ((rdRk f ln T).2) 58).2)), .int (tD ((rdS f ln ((rdRk f ln T).2) 58).2)), .int (tN ((rdS f ln ((rdRk f ln T).2) 58).2))])), (q, .inl ((xG cx).2.2.1, 60, .inl f))] [] [b, q] rfl rfl [] rfl rfl 2 rfl (by decide +kernel) rfl (k0 := 0) (na := 1) gX5_readRackAndColon_X5_readSign rfl (by decide +kernel) rfl rfl rfl M (kX5_readSign (xl cx) (xG cx) b q ln f th ((rdRk f ln T).2) 58 (hln) (by (repeat (first | with_reducible assumption | with_reducible apply pos_S58 | with_reducible apply pos_S45 | with_reducible apply pos_S43 | with_reducible apply pos_S46 | with_reducible apply pos_S112 | with_reducible apply pos_S115 | with_reducible apply pos_S116 | with_reducible apply pos_S118 | with_reducible apply pos_S59 | with_reducible apply pos_N0_99 | with_reducible apply pos_N0_50 | with_reducible apply pos_N0_300 | with_reducible apply pos_N1_999 | with_reducible apply pos_D | with_reducible apply pos_Rk | with_reducible apply pos_Sp | with_reducible apply pos_RC | with_reducible apply pos_Dir | with_reducible apply pos_St | with_reducible apply pos_T)))) rfl (by decide) rfl rfl rfl ⟨by decide, by decide⟩ (Nat.le_of_ble_eq_true rfl) ⟨by decide, by decide⟩ dX5_readRackAndColon_10 ?_
    refine x_ifb_eq (P := (rdS f ln ((rdRk f ln T).2) 58).1 = true) C 20 dX5_readRackAndColon_13 (by decide) (fun c_13 => ?_) (fun c_13 => ?_)
    ·
      refine x_iconst (v := 0) C dX5_readRackAndColon_20 (by decide) ?_
      have e_ret : rdRC f ln T = (false, (rdS f ln (rdRk f ln T).2 58).2) := by simp [rdRC, andT, c_4, c_13] <;> first | exact pair_t (by assumption) | exact pair_f (by assumption)
      exact x_zret C E dX5_readRackAndColon_21 (by rw [e_ret]; exact (b2i_f Bool.false_ne_true).symm) ((rfl : _ = txW (xG cx) b q ln f th ((rdS f ln (rdRk f ln T).2 58).2)).trans (by rw [e_ret]))
    ·
      refine x_iconst (v := 1) C dX5_readRackAndColon_16 (by decide) ?_
      refine x_goto (tgt := 21) C dX5_readRackAndColon_17 (by decide) ?_
      have e_ret : rdRC f ln T = (true, (rdS f ln (rdRk f ln T).2 58).2) := by simp [rdRC, andT, c_4, c_13] <;> first | exact pair_t (by assumption) | exact pair_f (by assumption)
      exact x_zret C E dX5_readRackAndColon_21 (by rw [e_ret]; exact (b2i_t rfl).symm) ((rfl : _ = txW (xG cx) b q ln f th ((rdS f ln (rdRk f ln T).2 58).2)).trans (by rw [e_ret]))

theorem m_kX5_isNextDigit_0 : (Cond.static yX6_isWithin : Cond) ∈ wsX5_isNextDigit := by decide +kernel
theorem m_kX5_isNextDigit_1 : (Cond.initialized RX6 : Cond) ∈ wsX5_isNextDigit := by decide +kernel
theorem i_kX5_isNextDigit_X5 : ∀ w ∈ u_ws RX5 TX5 10, w ∈ wsX5_isNextDigit := by decide +kernel
theorem m_kX5_isNextDigit_3 : (Cond.fieldLink RX5 40 "LampRacks$Text" "number" "I" : Cond) ∈ wsX5_isNextDigit := by decide +kernel
set_option maxRecDepth 100000 in
set_option maxHeartbeats 4000000 in
theorem kX5_isNextDigit (l : Launch) (G : GG) (b : Nat) (q : Nat) (ln : Nat) (f : Nat → Int32) (th : Int32) (T : TX) (m : Int32) (hln : ln ≤ 60) (hp : tP T ≤ ln) : RO l G yX5_isNextDigit wsX5_isNextDigit ({ frames := 1, cells := 0, slots := 0, locals := 22 } : Room) [.ref b, .int m] (txW G b q ln f th T) (.int (b2i ((48 ≤ cur f ln T ∧ cur f ln T ≤ 57) ∧ 10 * tN T + cur f ln T - 48 ≤ m))) := by
  refine RO.of (cc := cX5_isNextDigit) (maxL := 2) (ret := (some .boolean)) (by decide) rfl (Nat.le_of_ble_eq_true rfl) ?_
  intro cx hxl hxG C E
  subst hxl
  subst hxG
  show X cx (0, 0) [(b, .inr (5, [.int (nI ln), .ref q, .int (nI (tP T)), .int th, .int (tK T), .int (tR T), .int (tL T), .int (tH T), .int (tD T), .int (tN T)])), (q, .inl ((xG cx).2.2.1, 60, .inl f))] [(0, .ref b), (1, .int m)] 0 []
  refine x_aload_n C 0 dX5_isNextDigit_0 rfl rfl ?_
  refine x_callVRO C ([]) ([]) [0, 1] (k0 := 0) (na := 0) gX5_isNextDigit_X5_current rfl (by decide +kernel) rfl rfl rfl (kX5_current (xl cx) (xG cx) b q ln f th T (hln) (by (repeat (first | with_reducible assumption | with_reducible apply pos_S58 | with_reducible apply pos_S45 | with_reducible apply pos_S43 | with_reducible apply pos_S46 | with_reducible apply pos_S112 | with_reducible apply pos_S115 | with_reducible apply pos_S116 | with_reducible apply pos_S118 | with_reducible apply pos_S59 | with_reducible apply pos_N0_99 | with_reducible apply pos_N0_50 | with_reducible apply pos_N0_300 | with_reducible apply pos_N1_999 | with_reducible apply pos_D | with_reducible apply pos_Rk | with_reducible apply pos_Sp | with_reducible apply pos_RC | with_reducible apply pos_Dir | with_reducible apply pos_St | with_reducible apply pos_T)))) rfl (by decide) rfl rfl rfl ⟨by decide, by decide⟩ (Nat.le_of_ble_eq_true rfl) ⟨by decide, by decide⟩ dX5_isNextDigit_1 ?_
  refine x_bipush (v := 48) C dX5_isNextDigit_4 (by decide) ?_
  refine x_bipush (v := 57) C dX5_isNextDigit_6 (by decide) ?_
  refine x_callNRO C ([.int (cur f ln T), .int 48, .int 57]) ([]) [] (na := 3) (host := "LampRacks") gX5_isNextDigit_X6_isWithin_n81 (by decide +kernel) m_kX5_isNextDigit_0 m_kX5_isNextDigit_1 rfl (by decide +kernel) rfl (kX6_isWithin (xl cx) (xG cx) (cur f ln T) 48 57) rfl (by decide) rfl rfl rfl ⟨by decide, by decide⟩ (Nat.le_of_ble_eq_true rfl) ⟨by decide, by decide⟩ dX5_isNextDigit_8 ?_
  refine x_ifb_eq (P := 48 ≤ (cur f ln T) ∧ (cur f ln T) ≤ 57) C 37 dX5_isNextDigit_11 (by decide) (fun c_11 => ?_) (fun c_11 => ?_)
  ·
    refine x_iconst (v := 0) C dX5_isNextDigit_37 (by decide) ?_
    exact x_zret C E dX5_isNextDigit_38 (by first | (symm; first | (apply b2i_t; grind) | (apply b2i_f; grind))) (rfl)
  ·
    refine x_bipush (v := 10) C dX5_isNextDigit_14 (by decide) ?_
    refine x_aload_n C 0 dX5_isNextDigit_16 rfl rfl ?_
    refine x_getf C 0 rfl rfl i_kX5_isNextDigit_X5 9 (by decide) m_kX5_isNextDigit_3 rfl rfl dX5_isNextDigit_17 ?_
    refine x_imul C (rfl) dX5_isNextDigit_20 ?_
    refine x_aload_n C 0 dX5_isNextDigit_21 rfl rfl ?_
    refine x_callVRO C ([]) ([.int (10 * (tN T))]) [0, 1] (k0 := 0) (na := 0) gX5_isNextDigit_X5_current rfl (by decide +kernel) rfl rfl rfl (kX5_current (xl cx) (xG cx) b q ln f th T (hln) (by (repeat (first | with_reducible assumption | with_reducible apply pos_S58 | with_reducible apply pos_S45 | with_reducible apply pos_S43 | with_reducible apply pos_S46 | with_reducible apply pos_S112 | with_reducible apply pos_S115 | with_reducible apply pos_S116 | with_reducible apply pos_S118 | with_reducible apply pos_S59 | with_reducible apply pos_N0_99 | with_reducible apply pos_N0_50 | with_reducible apply pos_N0_300 | with_reducible apply pos_N1_999 | with_reducible apply pos_D | with_reducible apply pos_Rk | with_reducible apply pos_Sp | with_reducible apply pos_RC | with_reducible apply pos_Dir | with_reducible apply pos_St | with_reducible apply pos_T)))) rfl (by decide) rfl rfl rfl ⟨by decide, by decide⟩ (Nat.le_of_ble_eq_true rfl) ⟨by decide, by decide⟩ dX5_isNextDigit_22 ?_
    refine x_iadd C (rfl) dX5_isNextDigit_25 ?_
    refine x_bipush (v := 48) C dX5_isNextDigit_26 (by decide) ?_
    refine x_isub C (rfl) dX5_isNextDigit_28 ?_
    refine x_iload_n C 1 dX5_isNextDigit_29 rfl rfl ?_
    refine x_icmp_gt C 37 dX5_isNextDigit_30 (by decide) (fun c_30 => ?_) (fun c_30 => ?_)
    ·
      refine x_iconst (v := 0) C dX5_isNextDigit_37 (by decide) ?_
      exact x_zret C E dX5_isNextDigit_38 (by first | (symm; first | (apply b2i_t; grind) | (apply b2i_f; grind))) (rfl)
    ·
      refine x_iconst (v := 1) C dX5_isNextDigit_33 (by decide) ?_
      refine x_goto (tgt := 38) C dX5_isNextDigit_34 (by decide) ?_
      exact x_zret C E dX5_isNextDigit_38 (by first | (symm; first | (apply b2i_t; grind) | (apply b2i_f; grind))) (rfl)

theorem m_kX5_readNumber_0 : (Cond.static yX6_isWithin : Cond) ∈ wsX5_readNumber := by decide +kernel
theorem m_kX5_readNumber_1 : (Cond.initialized RX6 : Cond) ∈ wsX5_readNumber := by decide +kernel
theorem i_kX5_readNumber_X5 : ∀ w ∈ u_ws RX5 TX5 10, w ∈ wsX5_readNumber := by decide +kernel
theorem m_kX5_readNumber_3 : (Cond.fieldLink RX5 40 "LampRacks$Text" "number" "I" : Cond) ∈ wsX5_readNumber := by decide +kernel
theorem m_kX5_readNumber_4 : (Cond.fieldLink RX5 19 "LampRacks$Text" "position" "I" : Cond) ∈ wsX5_readNumber := by decide +kernel
theorem m_kX5_readNumber_5 : (Cond.fieldLink RX5 9 "LampRacks$Text" "length" "I" : Cond) ∈ wsX5_readNumber := by decide +kernel
set_option maxRecDepth 100000 in
set_option maxHeartbeats 4000000 in
theorem kX5_readNumber (l : Launch) (G : GG) (b : Nat) (q : Nat) (ln : Nat) (f : Nat → Int32) (th : Int32) (T : TX) (lo : Int32) (m : Int32) (hln : ln ≤ 60) (hp : tP T ≤ ln) (hlo : 0 ≤ lo ∧ lo ≤ 1000) : MU l G yX5_readNumber wsX5_readNumber ({ frames := 2, cells := 0, slots := 0, locals := 43 } : Room) [.ref b, .int lo, .int m] (txW G b q ln f th T) (some (.int (b2i ((rdNum f ln T lo m).1 = true)))) (txW G b q ln f th ((rdNum f ln T lo m).2)) := by
  refine MU.of (cc := cX5_readNumber) (maxL := 3) (ret := (some .boolean)) (by decide) rfl (Nat.le_of_ble_eq_true rfl) ?_
  intro cx hxl hxG C M E
  subst hxl
  subst hxG
  show X cx (0, 0) [(b, .inr (5, [.int (nI ln), .ref q, .int (nI (tP T)), .int th, .int (tK T), .int (tR T), .int (tL T), .int (tH T), .int (tD T), .int (tN T)])), (q, .inl ((xG cx).2.2.1, 60, .inl f))] [(0, .ref b), (1, .int lo), (2, .int m)] 0 []
  refine x_aload_n C 0 dX5_readNumber_0 rfl rfl ?_
  refine x_callVRO C ([]) ([]) [0, 1] (k0 := 0) (na := 0) gX5_readNumber_X5_current rfl (by decide +kernel) rfl rfl rfl (kX5_current (xl cx) (xG cx) b q ln f th T (hln) (by (repeat (first | with_reducible assumption | with_reducible apply pos_S58 | with_reducible apply pos_S45 | with_reducible apply pos_S43 | with_reducible apply pos_S46 | with_reducible apply pos_S112 | with_reducible apply pos_S115 | with_reducible apply pos_S116 | with_reducible apply pos_S118 | with_reducible apply pos_S59 | with_reducible apply pos_N0_99 | with_reducible apply pos_N0_50 | with_reducible apply pos_N0_300 | with_reducible apply pos_N1_999 | with_reducible apply pos_D | with_reducible apply pos_Rk | with_reducible apply pos_Sp | with_reducible apply pos_RC | with_reducible apply pos_Dir | with_reducible apply pos_St | with_reducible apply pos_T)))) rfl (by decide) rfl rfl rfl ⟨by decide, by decide⟩ (Nat.le_of_ble_eq_true rfl) ⟨by decide, by decide⟩ dX5_readNumber_1 ?_
  refine x_bipush (v := 48) C dX5_readNumber_4 (by decide) ?_
  refine x_iload_n C 1 dX5_readNumber_6 rfl rfl ?_
  refine x_iadd C (rfl) dX5_readNumber_7 ?_
  refine x_bipush (v := 57) C dX5_readNumber_8 (by decide) ?_
  refine x_callNRO C ([.int (cur f ln T), .int (48 + lo), .int 57]) ([]) [] (na := 3) (host := "LampRacks") gX5_readNumber_X6_isWithin_n81 (by decide +kernel) m_kX5_readNumber_0 m_kX5_readNumber_1 rfl (by decide +kernel) rfl (kX6_isWithin (xl cx) (xG cx) (cur f ln T) (48 + lo) 57) rfl (by decide) rfl rfl rfl ⟨by decide, by decide⟩ (Nat.le_of_ble_eq_true rfl) ⟨by decide, by decide⟩ dX5_readNumber_10 ?_
  refine x_ifb_ne (P := (48 + lo) ≤ (cur f ln T) ∧ (cur f ln T) ≤ 57) C 18 dX5_readNumber_13 (by decide) (fun c_13 => ?_) (fun c_13 => ?_)
  ·
    refine x_aload_n C 0 dX5_readNumber_18 rfl rfl ?_
    refine x_aload_n C 0 dX5_readNumber_19 rfl rfl ?_
    refine x_callVRO C ([]) ([.ref b]) [0, 1] (k0 := 0) (na := 0) gX5_readNumber_X5_current rfl (by decide +kernel) rfl rfl rfl (kX5_current (xl cx) (xG cx) b q ln f th T (hln) (by (repeat (first | with_reducible assumption | with_reducible apply pos_S58 | with_reducible apply pos_S45 | with_reducible apply pos_S43 | with_reducible apply pos_S46 | with_reducible apply pos_S112 | with_reducible apply pos_S115 | with_reducible apply pos_S116 | with_reducible apply pos_S118 | with_reducible apply pos_S59 | with_reducible apply pos_N0_99 | with_reducible apply pos_N0_50 | with_reducible apply pos_N0_300 | with_reducible apply pos_N1_999 | with_reducible apply pos_D | with_reducible apply pos_Rk | with_reducible apply pos_Sp | with_reducible apply pos_RC | with_reducible apply pos_Dir | with_reducible apply pos_St | with_reducible apply pos_T)))) rfl (by decide) rfl rfl rfl ⟨by decide, by decide⟩ (Nat.le_of_ble_eq_true rfl) ⟨by decide, by decide⟩ dX5_readNumber_20 ?_
    refine x_bipush (v := 48) C dX5_readNumber_23 (by decide) ?_
    refine x_isub C (rfl) dX5_readNumber_25 ?_
    refine x_putf (ty := .int) C M 0 rfl rfl i_kX5_readNumber_X5 9 (by decide) m_kX5_readNumber_3 rfl rfl tyX5 tyX5_ok nmX5 (by decide +kernel) rfl rfl (Nat.le_of_ble_eq_true rfl) [(b, .inr (5, [.int (nI ln), .ref q, .int (nI (tP T)), .int th, .int (tK T), .int (tR T), .int (tL T), .int (tH T), .int (tD T), .int ((cur f ln T) - 48)])), (q, .inl ((xG cx).2.2.1, 60, .inl f))] rfl dX5_readNumber_26 ?_
    refine x_aload_n C 0 dX5_readNumber_29 rfl rfl ?_
    refine x_dup C dX5_readNumber_30 rfl ?_
    refine x_getf C 0 rfl rfl i_kX5_readNumber_X5 2 (by decide) m_kX5_readNumber_4 rfl rfl dX5_readNumber_31 ?_
    refine x_iconst (v := 1) C dX5_readNumber_34 (by decide) ?_
    refine x_iadd C (nI_add (tP T) 1) dX5_readNumber_35 ?_
    refine x_putf (ty := .int) C M 0 rfl rfl i_kX5_readNumber_X5 2 (by decide) m_kX5_readNumber_4 rfl rfl tyX5 tyX5_ok nmX5 (by decide +kernel) rfl rfl (Nat.le_of_ble_eq_true rfl) [(b, .inr (5, [.int (nI ln), .ref q, .int (nI ((tP T) + 1)), .int th, .int (tK T), .int (tR T), .int (tL T), .int (tH T), .int (tD T), .int ((cur f ln T) - 48)])), (q, .inl ((xG cx).2.2.1, 60, .inl f))] rfl dX5_readNumber_36 ?_
    have loop_39 : ∀ (zz : Nat) (T1 : TX) (hp1 : tP T1 ≤ ln) (hz : ln + 1 ≤ tP T1 + zz) (e : rdL f ln m zz T1 = rdL f ln m (ln + 1) (uP (uNb T (cur f ln T - 48)) (tP T + 1))), X cx (0, 0) [(b, .inr (5, [.int (nI ln), .ref q, .int (nI (tP T1)), .int th, .int (tK T1), .int (tR T1), .int (tL T1), .int (tH T1), .int (tD T1), .int (tN T1)])), (q, .inl ((xG cx).2.2.1, 60, .inl f))] [(0, .ref b), (1, .int lo), (2, .int m)] 39 [] := by
      intro zz
      induction zz with
      | zero =>
        intro T1 hp1 hz e
        exfalso; omega
      | succ zz ih =>
        intro T1 hp1 hz e
        refine x_aload_n C 0 dX5_readNumber_39 rfl rfl ?_
        refine x_getf C 0 rfl rfl i_kX5_readNumber_X5 2 (by decide) m_kX5_readNumber_4 rfl rfl dX5_readNumber_40 ?_
        refine x_aload_n C 0 dX5_readNumber_43 rfl rfl ?_
        refine x_getf C 0 rfl rfl i_kX5_readNumber_X5 0 (by decide) m_kX5_readNumber_5 rfl rfl dX5_readNumber_44 ?_
        refine x_icmp_ge C 97 dX5_readNumber_47 (by decide) (fun c_47 => ?_) (fun c_47 => ?_)
        ·
          have n_47 : ln ≤ (tP T1) := (nI_leI (a := ln) (b := tP T1) (by omega) (by omega)).mp c_47
          refine x_iconst (v := 1) C dX5_readNumber_97 (by decide) ?_
          have e_ret : rdNum f ln T lo m = (true, T1) := by rw [rdL_n (fun q => absurd q.1 (by omega))] at e; unfold rdNum; rw [if_pos c_13, ← e]
          exact x_zret C E dX5_readNumber_98 (by rw [e_ret]; exact (b2i_t rfl).symm) ((rfl : _ = txW (xG cx) b q ln f th T1).trans (by rw [e_ret]))
        ·
          have n_47 : ¬ (ln ≤ (tP T1)) := fun q => c_47 ((nI_leI (a := ln) (b := tP T1) (by omega) (by omega)).mpr q)
          refine x_aload_n C 0 dX5_readNumber_50 rfl rfl ?_
          refine x_getf C 0 rfl rfl i_kX5_readNumber_X5 9 (by decide) m_kX5_readNumber_3 rfl rfl dX5_readNumber_51 ?_
          refine x_if_le C 97 dX5_readNumber_54 (by decide) (fun c_54 => ?_) (fun c_54 => ?_)
          ·
            refine x_iconst (v := 1) C dX5_readNumber_97 (by decide) ?_
            have e_ret : rdNum f ln T lo m = (true, T1) := by rw [rdL_n (fun q => absurd q.2.1 (Int32.not_lt.mpr c_54))] at e; unfold rdNum; rw [if_pos c_13, ← e]
            exact x_zret C E dX5_readNumber_98 (by rw [e_ret]; exact (b2i_t rfl).symm) ((rfl : _ = txW (xG cx) b q ln f th T1).trans (by rw [e_ret]))
          ·
            refine x_aload_n C 0 dX5_readNumber_57 rfl rfl ?_
            refine x_iload_n C 2 dX5_readNumber_58 rfl rfl ?_
            refine x_callVRO C ([.int m]) ([]) [0, 1] (k0 := 0) (na := 1) gX5_readNumber_X5_isNextDigit rfl (by decide +kernel) rfl rfl rfl (kX5_isNextDigit (xl cx) (xG cx) b q ln f th T1 m (hln) (by (repeat (first | with_reducible assumption | with_reducible apply pos_S58 | with_reducible apply pos_S45 | with_reducible apply pos_S43 | with_reducible apply pos_S46 | with_reducible apply pos_S112 | with_reducible apply pos_S115 | with_reducible apply pos_S116 | with_reducible apply pos_S118 | with_reducible apply pos_S59 | with_reducible apply pos_N0_99 | with_reducible apply pos_N0_50 | with_reducible apply pos_N0_300 | with_reducible apply pos_N1_999 | with_reducible apply pos_D | with_reducible apply pos_Rk | with_reducible apply pos_Sp | with_reducible apply pos_RC | with_reducible apply pos_Dir | with_reducible apply pos_St | with_reducible apply pos_T)))) rfl (by decide) rfl rfl rfl ⟨by decide, by decide⟩ (Nat.le_of_ble_eq_true rfl) ⟨by decide, by decide⟩ dX5_readNumber_59 ?_
            refine x_ifb_eq (P := (48 ≤ cur f ln T1 ∧ cur f ln T1 ≤ 57) ∧ 10 * tN T1 + cur f ln T1 - 48 ≤ m) C 97 dX5_readNumber_62 (by decide) (fun c_62 => ?_) (fun c_62 => ?_)
            ·
              refine x_iconst (v := 1) C dX5_readNumber_97 (by decide) ?_
              have e_ret : rdNum f ln T lo m = (true, T1) := by rw [rdL_n (fun q => c_62 q.2.2)] at e; unfold rdNum; rw [if_pos c_13, ← e]
              exact x_zret C E dX5_readNumber_98 (by rw [e_ret]; exact (b2i_t rfl).symm) ((rfl : _ = txW (xG cx) b q ln f th T1).trans (by rw [e_ret]))
            ·
              refine x_aload_n C 0 dX5_readNumber_65 rfl rfl ?_
              refine x_bipush (v := 10) C dX5_readNumber_66 (by decide) ?_
              refine x_aload_n C 0 dX5_readNumber_68 rfl rfl ?_
              refine x_getf C 0 rfl rfl i_kX5_readNumber_X5 9 (by decide) m_kX5_readNumber_3 rfl rfl dX5_readNumber_69 ?_
              refine x_imul C (rfl) dX5_readNumber_72 ?_
              refine x_aload_n C 0 dX5_readNumber_73 rfl rfl ?_
              refine x_callVRO C ([]) ([.int (10 * (tN T1)), .ref b]) [0, 1] (k0 := 0) (na := 0) gX5_readNumber_X5_current rfl (by decide +kernel) rfl rfl rfl (kX5_current (xl cx) (xG cx) b q ln f th T1 (hln) (by (repeat (first | with_reducible assumption | with_reducible apply pos_S58 | with_reducible apply pos_S45 | with_reducible apply pos_S43 | with_reducible apply pos_S46 | with_reducible apply pos_S112 | with_reducible apply pos_S115 | with_reducible apply pos_S116 | with_reducible apply pos_S118 | with_reducible apply pos_S59 | with_reducible apply pos_N0_99 | with_reducible apply pos_N0_50 | with_reducible apply pos_N0_300 | with_reducible apply pos_N1_999 | with_reducible apply pos_D | with_reducible apply pos_Rk | with_reducible apply pos_Sp | with_reducible apply pos_RC | with_reducible apply pos_Dir | with_reducible apply pos_St | with_reducible apply pos_T)))) rfl (by decide) rfl rfl rfl ⟨by decide, by decide⟩ (Nat.le_of_ble_eq_true rfl) ⟨by decide, by decide⟩ dX5_readNumber_74 ?_
              refine x_iadd C (rfl) dX5_readNumber_77 ?_
              refine x_bipush (v := 48) C dX5_readNumber_78 (by decide) ?_
              refine x_isub C (rfl) dX5_readNumber_80 ?_
              refine x_putf (ty := .int) C M 0 rfl rfl i_kX5_readNumber_X5 9 (by decide) m_kX5_readNumber_3 rfl rfl tyX5 tyX5_ok nmX5 (by decide +kernel) rfl rfl (Nat.le_of_ble_eq_true rfl) [(b, .inr (5, [.int (nI ln), .ref q, .int (nI (tP T1)), .int th, .int (tK T1), .int (tR T1), .int (tL T1), .int (tH T1), .int (tD T1), .int (((10 * (tN T1)) + (cur f ln T1)) - 48)])), (q, .inl ((xG cx).2.2.1, 60, .inl f))] rfl dX5_readNumber_81 ?_
              refine x_aload_n C 0 dX5_readNumber_84 rfl rfl ?_
              refine x_dup C dX5_readNumber_85 rfl ?_
              refine x_getf C 0 rfl rfl i_kX5_readNumber_X5 2 (by decide) m_kX5_readNumber_4 rfl rfl dX5_readNumber_86 ?_
              refine x_iconst (v := 1) C dX5_readNumber_89 (by decide) ?_
              refine x_iadd C (nI_add (tP T1) 1) dX5_readNumber_90 ?_
              refine x_putf (ty := .int) C M 0 rfl rfl i_kX5_readNumber_X5 2 (by decide) m_kX5_readNumber_4 rfl rfl tyX5 tyX5_ok nmX5 (by decide +kernel) rfl rfl (Nat.le_of_ble_eq_true rfl) [(b, .inr (5, [.int (nI ln), .ref q, .int (nI ((tP T1) + 1)), .int th, .int (tK T1), .int (tR T1), .int (tL T1), .int (tH T1), .int (tD T1), .int (((10 * (tN T1)) + (cur f ln T1)) - 48)])), (q, .inl ((xG cx).2.2.1, 60, .inl f))] rfl dX5_readNumber_91 ?_
              refine x_goto (tgt := 39) C dX5_readNumber_94 (by decide) ?_
              refine x_ws [(b, .inr (5, [.int (nI ln), .ref q, .int (nI (tP (uP (uNb T1 (10 * tN T1 + cur f ln T1 - 48)) (tP T1 + 1)))), .int th, .int (tK (uP (uNb T1 (10 * tN T1 + cur f ln T1 - 48)) (tP T1 + 1))), .int (tR (uP (uNb T1 (10 * tN T1 + cur f ln T1 - 48)) (tP T1 + 1))), .int (tL (uP (uNb T1 (10 * tN T1 + cur f ln T1 - 48)) (tP T1 + 1))), .int (tH (uP (uNb T1 (10 * tN T1 + cur f ln T1 - 48)) (tP T1 + 1))), .int (tD (uP (uNb T1 (10 * tN T1 + cur f ln T1 - 48)) (tP T1 + 1))), .int (tN (uP (uNb T1 (10 * tN T1 + cur f ln T1 - 48)) (tP T1 + 1)))])), (q, .inl ((xG cx).2.2.1, 60, .inl f))] (rfl) ?_
              refine x_lv [(0, .ref b), (1, .int lo), (2, .int m)] [0, 1, 2] rfl ?_
              exact ih (uP (uNb T1 (10 * tN T1 + cur f ln T1 - 48)) (tP T1 + 1)) (by show tP T1 + 1 ≤ ln; omega) (by show ln + 1 ≤ (tP T1 + 1) + zz; omega) (by rw [← e]; exact (rdL_y ⟨by omega, Int32.not_le.mp c_54, c_62⟩).symm)
    refine x_ws [(b, .inr (5, [.int (nI ln), .ref q, .int (nI (tP (uP (uNb T (cur f ln T - 48)) (tP T + 1)))), .int th, .int (tK (uP (uNb T (cur f ln T - 48)) (tP T + 1))), .int (tR (uP (uNb T (cur f ln T - 48)) (tP T + 1))), .int (tL (uP (uNb T (cur f ln T - 48)) (tP T + 1))), .int (tH (uP (uNb T (cur f ln T - 48)) (tP T + 1))), .int (tD (uP (uNb T (cur f ln T - 48)) (tP T + 1))), .int (tN (uP (uNb T (cur f ln T - 48)) (tP T + 1)))])), (q, .inl ((xG cx).2.2.1, 60, .inl f))] (rfl) ?_
    refine x_lv [(0, .ref b), (1, .int lo), (2, .int m)] [0, 1, 2] rfl ?_
    exact loop_39 (ln + 1) (uP (uNb T (cur f ln T - 48)) (tP T + 1)) (cur_lt (ge48 hlo.1 hlo.2 c_13.1)) (by omega) (rfl)
  ·
    refine x_iconst (v := 0) C dX5_readNumber_16 (by decide) ?_
    have e_ret : rdNum f ln T lo m = (false, T) := by simp [rdNum, c_13] <;> first | exact pair_t (by assumption) | exact pair_f (by assumption)
    exact x_zret C E dX5_readNumber_17 (by rw [e_ret]; exact (b2i_f Bool.false_ne_true).symm) ((rfl : _ = txW (xG cx) b q ln f th T).trans (by rw [e_ret]))

theorem i_kX5_readDirection_X5 : ∀ w ∈ u_ws RX5 TX5 10, w ∈ wsX5_readDirection := by decide +kernel
theorem m_kX5_readDirection_1 : (Cond.fieldLink RX5 37 "LampRacks$Text" "direction" "I" : Cond) ∈ wsX5_readDirection := by decide +kernel
set_option maxRecDepth 100000 in
set_option maxHeartbeats 4000000 in
theorem kX5_readDirection (l : Launch) (G : GG) (b : Nat) (q : Nat) (ln : Nat) (f : Nat → Int32) (th : Int32) (T : TX) (hln : ln ≤ 60) (hp : tP T ≤ ln) : MU l G yX5_readDirection wsX5_readDirection ({ frames := 2, cells := 0, slots := 0, locals := 41 } : Room) [.ref b] (txW G b q ln f th T) (some (.int (b2i ((rdDir f ln T).1 = true)))) (txW G b q ln f th ((rdDir f ln T).2)) := by
  refine MU.of (cc := cX5_readDirection) (maxL := 1) (ret := (some .boolean)) (by decide) rfl (Nat.le_of_ble_eq_true rfl) ?_
  intro cx hxl hxG C M E
  subst hxl
  subst hxG
  show X cx (0, 0) [(b, .inr (5, [.int (nI ln), .ref q, .int (nI (tP T)), .int th, .int (tK T), .int (tR T), .int (tL T), .int (tH T), .int (tD T), .int (tN T)])), (q, .inl ((xG cx).2.2.1, 60, .inl f))] [(0, .ref b)] 0 []
  refine x_aload_n C 0 dX5_readDirection_0 rfl rfl ?_
  refine x_aload_n C 0 dX5_readDirection_1 rfl rfl ?_
  refine x_callVRO C ([]) ([.ref b]) [0, 1] (k0 := 0) (na := 0) gX5_readDirection_X5_current rfl (by decide +kernel) rfl rfl rfl (kX5_current (xl cx) (xG cx) b q ln f th T (hln) (by (repeat (first | with_reducible assumption | with_reducible apply pos_S58 | with_reducible apply pos_S45 | with_reducible apply pos_S43 | with_reducible apply pos_S46 | with_reducible apply pos_S112 | with_reducible apply pos_S115 | with_reducible apply pos_S116 | with_reducible apply pos_S118 | with_reducible apply pos_S59 | with_reducible apply pos_N0_99 | with_reducible apply pos_N0_50 | with_reducible apply pos_N0_300 | with_reducible apply pos_N1_999 | with_reducible apply pos_D | with_reducible apply pos_Rk | with_reducible apply pos_Sp | with_reducible apply pos_RC | with_reducible apply pos_Dir | with_reducible apply pos_St | with_reducible apply pos_T)))) rfl (by decide) rfl rfl rfl ⟨by decide, by decide⟩ (Nat.le_of_ble_eq_true rfl) ⟨by decide, by decide⟩ dX5_readDirection_2 ?_
  refine x_bipush (v := 45) C dX5_readDirection_5 (by decide) ?_
  have join_15 : ∀ (v0 : Int32) (hv0 : v0 = if cur f ln T = 45 then -1 else 1), X cx (0, 0) [(b, .inr (5, [.int (nI ln), .ref q, .int (nI (tP T)), .int th, .int (tK T), .int (tR T), .int (tL T), .int (tH T), .int (tD T), .int (tN T)])), (q, .inl ((xG cx).2.2.1, 60, .inl f))] [(0, .ref b)] 15 [.int v0, .ref b] := by
    intro v0 hv0
    subst hv0
    refine x_putf (ty := .int) C M 0 rfl rfl i_kX5_readDirection_X5 8 (by decide) m_kX5_readDirection_1 rfl rfl tyX5 tyX5_ok nmX5 (by decide +kernel) rfl rfl (Nat.le_of_ble_eq_true rfl) [(b, .inr (5, [.int (nI ln), .ref q, .int (nI (tP T)), .int th, .int (tK T), .int (tR T), .int (tL T), .int (tH T), .int (if cur f ln T = 45 then -1 else 1), .int (tN T)])), (q, .inl ((xG cx).2.2.1, 60, .inl f))] rfl dX5_readDirection_15 ?_
    refine x_ws [(b, .inr (5, [.int (nI ln), .ref q, .int (nI (tP (uD T (if cur f ln T = 45 then -1 else 1)))), .int th, .int (tK (uD T (if cur f ln T = 45 then -1 else 1))), .int (tR (uD T (if cur f ln T = 45 then -1 else 1))), .int (tL (uD T (if cur f ln T = 45 then -1 else 1))), .int (tH (uD T (if cur f ln T = 45 then -1 else 1))), .int (tD (uD T (if cur f ln T = 45 then -1 else 1))), .int (tN (uD T (if cur f ln T = 45 then -1 else 1)))])), (q, .inl ((xG cx).2.2.1, 60, .inl f))] (rfl) ?_
    refine x_aload_n C 0 dX5_readDirection_18 rfl rfl ?_
    refine x_bipush (v := 45) C dX5_readDirection_19 (by decide) ?_
    refine x_callVMU C ([.int 45]) ([]) [0, 1] [(b, .inr (5, [.int (nI ln), .ref q, .int (nI (tP ((rdS f ln (uD T (if cur f ln T = 45 then -1 else 1)) 45).2))), .int th, .int (tK ((rdS f ln (uD T (if cur f ln T = 45 then -1 else 1)) 45).2)), .int (tR ((rdS f ln (uD T (if cur f ln T = 45 then -1 else 1)) 45).2)), .int (tL ((rdS f ln (uD T (if cur f ln T = 45 then -1 else 1)) 45).2)), .int (tH ((rdS f ln (uD T (if cur f ln T = 45 then -1 else 1)) 45).2)), .int (tD ((rdS f ln (uD T (if cur f ln T = 45 then -1 else 1)) 45).2)), .int (tN ((rdS f ln (uD T (if cur f ln T = 45 then -1 else 1)) 45).2))])), (q, .inl ((xG cx).2.2.1, 60, .inl f))] [] [b, q] rfl rfl [] rfl rfl 2 rfl (by decide +kernel) rfl (k0 := 0) (na := 1) gX5_readDirection_X5_readSign rfl (by decide +kernel) rfl rfl rfl M (kX5_readSign (xl cx) (xG cx) b q ln f th (uD T (if cur f ln T = 45 then -1 else 1)) 45 (hln) (by (repeat (first | with_reducible assumption | with_reducible apply pos_S58 | with_reducible apply pos_S45 | with_reducible apply pos_S43 | with_reducible apply pos_S46 | with_reducible apply pos_S112 | with_reducible apply pos_S115 | with_reducible apply pos_S116 | with_reducible apply pos_S118 | with_reducible apply pos_S59 | with_reducible apply pos_N0_99 | with_reducible apply pos_N0_50 | with_reducible apply pos_N0_300 | with_reducible apply pos_N1_999 | with_reducible apply pos_D | with_reducible apply pos_Rk | with_reducible apply pos_Sp | with_reducible apply pos_RC | with_reducible apply pos_Dir | with_reducible apply pos_St | with_reducible apply pos_T)))) rfl (by decide) rfl rfl rfl ⟨by decide, by decide⟩ (Nat.le_of_ble_eq_true rfl) ⟨by decide, by decide⟩ dX5_readDirection_21 ?_
    refine x_ifb_ne (P := (rdS f ln (uD T (if cur f ln T = 45 then -1 else 1)) 45).1 = true) C 36 dX5_readDirection_24 (by decide) (fun c_24 => ?_) (fun c_24 => ?_)
    ·
      refine x_iconst (v := 1) C dX5_readDirection_36 (by decide) ?_
      refine x_goto (tgt := 41) C dX5_readDirection_37 (by decide) ?_
      have e_ret : rdDir f ln T = (true, (rdS f ln (uD T (if cur f ln T = 45 then -1 else 1)) 45).2) := by simp [rdDir, c_24] <;> first | exact pair_t (by assumption) | exact pair_f (by assumption)
      exact x_zret C E dX5_readDirection_41 (by rw [e_ret]; exact (b2i_t rfl).symm) ((rfl : _ = txW (xG cx) b q ln f th ((rdS f ln (uD T (if cur f ln T = 45 then -1 else 1)) 45).2)).trans (by rw [e_ret]))
    ·
      refine x_aload_n C 0 dX5_readDirection_27 rfl rfl ?_
      refine x_bipush (v := 43) C dX5_readDirection_28 (by decide) ?_
      refine x_callVMU C ([.int 43]) ([]) [0, 1] [(b, .inr (5, [.int (nI ln), .ref q, .int (nI (tP ((rdS f ln ((rdS f ln (uD T (if cur f ln T = 45 then -1 else 1)) 45).2) 43).2))), .int th, .int (tK ((rdS f ln ((rdS f ln (uD T (if cur f ln T = 45 then -1 else 1)) 45).2) 43).2)), .int (tR ((rdS f ln ((rdS f ln (uD T (if cur f ln T = 45 then -1 else 1)) 45).2) 43).2)), .int (tL ((rdS f ln ((rdS f ln (uD T (if cur f ln T = 45 then -1 else 1)) 45).2) 43).2)), .int (tH ((rdS f ln ((rdS f ln (uD T (if cur f ln T = 45 then -1 else 1)) 45).2) 43).2)), .int (tD ((rdS f ln ((rdS f ln (uD T (if cur f ln T = 45 then -1 else 1)) 45).2) 43).2)), .int (tN ((rdS f ln ((rdS f ln (uD T (if cur f ln T = 45 then -1 else 1)) 45).2) 43).2))])), (q, .inl ((xG cx).2.2.1, 60, .inl f))] [] [b, q] rfl rfl [] rfl rfl 2 rfl (by decide +kernel) rfl (k0 := 0) (na := 1) gX5_readDirection_X5_readSign rfl (by decide +kernel) rfl rfl rfl M (kX5_readSign (xl cx) (xG cx) b q ln f th ((rdS f ln (uD T (if cur f ln T = 45 then -1 else 1)) 45).2) 43 (hln) (by (repeat (first | with_reducible assumption | with_reducible apply pos_S58 | with_reducible apply pos_S45 | with_reducible apply pos_S43 | with_reducible apply pos_S46 | with_reducible apply pos_S112 | with_reducible apply pos_S115 | with_reducible apply pos_S116 | with_reducible apply pos_S118 | with_reducible apply pos_S59 | with_reducible apply pos_N0_99 | with_reducible apply pos_N0_50 | with_reducible apply pos_N0_300 | with_reducible apply pos_N1_999 | with_reducible apply pos_D | with_reducible apply pos_Rk | with_reducible apply pos_Sp | with_reducible apply pos_RC | with_reducible apply pos_Dir | with_reducible apply pos_St | with_reducible apply pos_T)))) rfl (by decide) rfl rfl rfl ⟨by decide, by decide⟩ (Nat.le_of_ble_eq_true rfl) ⟨by decide, by decide⟩ dX5_readDirection_30 ?_
      refine x_ifb_eq (P := (rdS f ln ((rdS f ln (uD T (if cur f ln T = 45 then -1 else 1)) 45).2) 43).1 = true) C 40 dX5_readDirection_33 (by decide) (fun c_33 => ?_) (fun c_33 => ?_)
      ·
        refine x_iconst (v := 0) C dX5_readDirection_40 (by decide) ?_
        have e_ret : rdDir f ln T = (false, (rdS f ln (rdS f ln (uD T (if cur f ln T = 45 then -1 else 1)) 45).2 43).2) := by simp [rdDir, c_24, c_33] <;> first | exact pair_t (by assumption) | exact pair_f (by assumption)
        exact x_zret C E dX5_readDirection_41 (by rw [e_ret]; exact (b2i_f Bool.false_ne_true).symm) ((rfl : _ = txW (xG cx) b q ln f th ((rdS f ln (rdS f ln (uD T (if cur f ln T = 45 then -1 else 1)) 45).2 43).2)).trans (by rw [e_ret]))
      ·
        refine x_iconst (v := 1) C dX5_readDirection_36 (by decide) ?_
        refine x_goto (tgt := 41) C dX5_readDirection_37 (by decide) ?_
        have e_ret : rdDir f ln T = (true, (rdS f ln (rdS f ln (uD T (if cur f ln T = 45 then -1 else 1)) 45).2 43).2) := by simp [rdDir, c_24, c_33] <;> first | exact pair_t (by assumption) | exact pair_f (by assumption)
        exact x_zret C E dX5_readDirection_41 (by rw [e_ret]; exact (b2i_t rfl).symm) ((rfl : _ = txW (xG cx) b q ln f th ((rdS f ln (rdS f ln (uD T (if cur f ln T = 45 then -1 else 1)) 45).2 43).2)).trans (by rw [e_ret]))
  refine x_icmp_ne C 14 dX5_readDirection_7 (by decide) (fun c_7 => ?_) (fun c_7 => ?_)
  ·
    refine x_iconst (v := 1) C dX5_readDirection_14 (by decide) ?_
    exact join_15 _ ((if_neg c_7).symm)
  ·
    refine x_iconst (v := (-1)) C dX5_readDirection_10 (by decide) ?_
    refine x_goto (tgt := 15) C dX5_readDirection_11 (by decide) ?_
    exact join_15 _ ((if_pos c_7).symm)

theorem i_kX5_readSteps_X5 : ∀ w ∈ u_ws RX5 TX5 10, w ∈ wsX5_readSteps := by decide +kernel
theorem m_kX5_readSteps_1 : (Cond.fieldLink RX5 40 "LampRacks$Text" "number" "I" : Cond) ∈ wsX5_readSteps := by decide +kernel
theorem m_kX5_readSteps_2 : (Cond.fieldLink RX5 34 "LampRacks$Text" "hours" "I" : Cond) ∈ wsX5_readSteps := by decide +kernel
set_option maxRecDepth 100000 in
set_option maxHeartbeats 4000000 in
theorem kX5_readSteps (l : Launch) (G : GG) (b : Nat) (q : Nat) (ln : Nat) (f : Nat → Int32) (th : Int32) (T : TX) (hln : ln ≤ 60) (hp : tP T ≤ ln) : MU l G yX5_readSteps wsX5_readSteps ({ frames := 3, cells := 0, slots := 0, locals := 65 } : Room) [.ref b] (txW G b q ln f th T) (some (.int (b2i ((rdSt f ln T).1 = true)))) (txW G b q ln f th ((rdSt f ln T).2)) := by
  refine MU.of (cc := cX5_readSteps) (maxL := 1) (ret := (some .boolean)) (by decide) rfl (Nat.le_of_ble_eq_true rfl) ?_
  intro cx hxl hxG C M E
  subst hxl
  subst hxG
  show X cx (0, 0) [(b, .inr (5, [.int (nI ln), .ref q, .int (nI (tP T)), .int th, .int (tK T), .int (tR T), .int (tL T), .int (tH T), .int (tD T), .int (tN T)])), (q, .inl ((xG cx).2.2.1, 60, .inl f))] [(0, .ref b)] 0 []
  refine x_aload_n C 0 dX5_readSteps_0 rfl rfl ?_
  refine x_iconst (v := 0) C dX5_readSteps_1 (by decide) ?_
  refine x_bipush (v := 99) C dX5_readSteps_2 (by decide) ?_
  refine x_callVMU C ([.int 0, .int 99]) ([]) [0, 1] [(b, .inr (5, [.int (nI ln), .ref q, .int (nI (tP ((rdNum f ln T 0 99).2))), .int th, .int (tK ((rdNum f ln T 0 99).2)), .int (tR ((rdNum f ln T 0 99).2)), .int (tL ((rdNum f ln T 0 99).2)), .int (tH ((rdNum f ln T 0 99).2)), .int (tD ((rdNum f ln T 0 99).2)), .int (tN ((rdNum f ln T 0 99).2))])), (q, .inl ((xG cx).2.2.1, 60, .inl f))] [] [b, q] rfl rfl [] rfl rfl 2 rfl (by decide +kernel) rfl (k0 := 0) (na := 2) gX5_readSteps_X5_readNumber rfl (by decide +kernel) rfl rfl rfl M (kX5_readNumber (xl cx) (xG cx) b q ln f th T 0 99 (hln) (by (repeat (first | with_reducible assumption | with_reducible apply pos_S58 | with_reducible apply pos_S45 | with_reducible apply pos_S43 | with_reducible apply pos_S46 | with_reducible apply pos_S112 | with_reducible apply pos_S115 | with_reducible apply pos_S116 | with_reducible apply pos_S118 | with_reducible apply pos_S59 | with_reducible apply pos_N0_99 | with_reducible apply pos_N0_50 | with_reducible apply pos_N0_300 | with_reducible apply pos_N1_999 | with_reducible apply pos_D | with_reducible apply pos_Rk | with_reducible apply pos_Sp | with_reducible apply pos_RC | with_reducible apply pos_Dir | with_reducible apply pos_St | with_reducible apply pos_T))) (by decide)) rfl (by decide) rfl rfl rfl ⟨by decide, by decide⟩ (Nat.le_of_ble_eq_true rfl) ⟨by decide, by decide⟩ dX5_readSteps_4 ?_
  refine x_ifb_ne (P := (rdNum f ln T 0 99).1 = true) C 12 dX5_readSteps_7 (by decide) (fun c_7 => ?_) (fun c_7 => ?_)
  ·
    refine x_aload_n C 0 dX5_readSteps_12 rfl rfl ?_
    refine x_aload_n C 0 dX5_readSteps_13 rfl rfl ?_
    refine x_getf C 0 rfl rfl i_kX5_readSteps_X5 9 (by decide) m_kX5_readSteps_1 rfl rfl dX5_readSteps_14 ?_
    refine x_putf (ty := .int) C M 0 rfl rfl i_kX5_readSteps_X5 7 (by decide) m_kX5_readSteps_2 rfl rfl tyX5 tyX5_ok nmX5 (by decide +kernel) rfl rfl (Nat.le_of_ble_eq_true rfl) [(b, .inr (5, [.int (nI ln), .ref q, .int (nI (tP ((rdNum f ln T 0 99).2))), .int th, .int (tK ((rdNum f ln T 0 99).2)), .int (tR ((rdNum f ln T 0 99).2)), .int (tL ((rdNum f ln T 0 99).2)), .int (tN ((rdNum f ln T 0 99).2)), .int (tD ((rdNum f ln T 0 99).2)), .int (tN ((rdNum f ln T 0 99).2))])), (q, .inl ((xG cx).2.2.1, 60, .inl f))] rfl dX5_readSteps_17 ?_
    refine x_ws [(b, .inr (5, [.int (nI ln), .ref q, .int (nI (tP (uH (rdNum f ln T 0 99).2 (tN (rdNum f ln T 0 99).2)))), .int th, .int (tK (uH (rdNum f ln T 0 99).2 (tN (rdNum f ln T 0 99).2))), .int (tR (uH (rdNum f ln T 0 99).2 (tN (rdNum f ln T 0 99).2))), .int (tL (uH (rdNum f ln T 0 99).2 (tN (rdNum f ln T 0 99).2))), .int (tH (uH (rdNum f ln T 0 99).2 (tN (rdNum f ln T 0 99).2))), .int (tD (uH (rdNum f ln T 0 99).2 (tN (rdNum f ln T 0 99).2))), .int (tN (uH (rdNum f ln T 0 99).2 (tN (rdNum f ln T 0 99).2)))])), (q, .inl ((xG cx).2.2.1, 60, .inl f))] (rfl) ?_
    refine x_aload_n C 0 dX5_readSteps_20 rfl rfl ?_
    refine x_callVMU C ([]) ([]) [0, 1] [(b, .inr (5, [.int (nI ln), .ref q, .int (nI (tP ((rdDir f ln (uH (rdNum f ln T 0 99).2 (tN (rdNum f ln T 0 99).2))).2))), .int th, .int (tK ((rdDir f ln (uH (rdNum f ln T 0 99).2 (tN (rdNum f ln T 0 99).2))).2)), .int (tR ((rdDir f ln (uH (rdNum f ln T 0 99).2 (tN (rdNum f ln T 0 99).2))).2)), .int (tL ((rdDir f ln (uH (rdNum f ln T 0 99).2 (tN (rdNum f ln T 0 99).2))).2)), .int (tH ((rdDir f ln (uH (rdNum f ln T 0 99).2 (tN (rdNum f ln T 0 99).2))).2)), .int (tD ((rdDir f ln (uH (rdNum f ln T 0 99).2 (tN (rdNum f ln T 0 99).2))).2)), .int (tN ((rdDir f ln (uH (rdNum f ln T 0 99).2 (tN (rdNum f ln T 0 99).2))).2))])), (q, .inl ((xG cx).2.2.1, 60, .inl f))] [] [b, q] rfl rfl [] rfl rfl 2 rfl (by decide +kernel) rfl (k0 := 0) (na := 0) gX5_readSteps_X5_readDirection rfl (by decide +kernel) rfl rfl rfl M (kX5_readDirection (xl cx) (xG cx) b q ln f th (uH (rdNum f ln T 0 99).2 (tN (rdNum f ln T 0 99).2)) (hln) (by (repeat (first | with_reducible assumption | with_reducible apply pos_S58 | with_reducible apply pos_S45 | with_reducible apply pos_S43 | with_reducible apply pos_S46 | with_reducible apply pos_S112 | with_reducible apply pos_S115 | with_reducible apply pos_S116 | with_reducible apply pos_S118 | with_reducible apply pos_S59 | with_reducible apply pos_N0_99 | with_reducible apply pos_N0_50 | with_reducible apply pos_N0_300 | with_reducible apply pos_N1_999 | with_reducible apply pos_D | with_reducible apply pos_Rk | with_reducible apply pos_Sp | with_reducible apply pos_RC | with_reducible apply pos_Dir | with_reducible apply pos_St | with_reducible apply pos_T)))) rfl (by decide) rfl rfl rfl ⟨by decide, by decide⟩ (Nat.le_of_ble_eq_true rfl) ⟨by decide, by decide⟩ dX5_readSteps_21 ?_
    refine x_ifb_eq (P := (rdDir f ln (uH (rdNum f ln T 0 99).2 (tN (rdNum f ln T 0 99).2))).1 = true) C 41 dX5_readSteps_24 (by decide) (fun c_24 => ?_) (fun c_24 => ?_)
    ·
      refine x_iconst (v := 0) C dX5_readSteps_41 (by decide) ?_
      have e_ret : rdSt f ln T = (false, (rdDir f ln (uH (rdNum f ln T 0 99).2 (tN (rdNum f ln T 0 99).2))).2) := by simp [rdSt, andT, c_7, c_24] <;> first | exact pair_t (by assumption) | exact pair_f (by assumption)
      exact x_zret C E dX5_readSteps_42 (by rw [e_ret]; exact (b2i_f Bool.false_ne_true).symm) ((rfl : _ = txW (xG cx) b q ln f th ((rdDir f ln (uH (rdNum f ln T 0 99).2 (tN (rdNum f ln T 0 99).2))).2)).trans (by rw [e_ret]))
    ·
      refine x_aload_n C 0 dX5_readSteps_27 rfl rfl ?_
      refine x_iconst (v := 0) C dX5_readSteps_28 (by decide) ?_
      refine x_bipush (v := 50) C dX5_readSteps_29 (by decide) ?_
      refine x_callVMU C ([.int 0, .int 50]) ([]) [0, 1] [(b, .inr (5, [.int (nI ln), .ref q, .int (nI (tP ((rdNum f ln ((rdDir f ln (uH (rdNum f ln T 0 99).2 (tN (rdNum f ln T 0 99).2))).2) 0 50).2))), .int th, .int (tK ((rdNum f ln ((rdDir f ln (uH (rdNum f ln T 0 99).2 (tN (rdNum f ln T 0 99).2))).2) 0 50).2)), .int (tR ((rdNum f ln ((rdDir f ln (uH (rdNum f ln T 0 99).2 (tN (rdNum f ln T 0 99).2))).2) 0 50).2)), .int (tL ((rdNum f ln ((rdDir f ln (uH (rdNum f ln T 0 99).2 (tN (rdNum f ln T 0 99).2))).2) 0 50).2)), .int (tH ((rdNum f ln ((rdDir f ln (uH (rdNum f ln T 0 99).2 (tN (rdNum f ln T 0 99).2))).2) 0 50).2)), .int (tD ((rdNum f ln ((rdDir f ln (uH (rdNum f ln T 0 99).2 (tN (rdNum f ln T 0 99).2))).2) 0 50).2)), .int (tN ((rdNum f ln ((rdDir f ln (uH (rdNum f ln T 0 99).2 (tN (rdNum f ln T 0 99).2))).2) 0 50).2))])), (q, .inl ((xG cx).2.2.1, 60, .inl f))] [] [b, q] rfl rfl [] rfl rfl 2 rfl (by decide +kernel) rfl (k0 := 0) (na := 2) gX5_readSteps_X5_readNumber rfl (by decide +kernel) rfl rfl rfl M (kX5_readNumber (xl cx) (xG cx) b q ln f th ((rdDir f ln (uH (rdNum f ln T 0 99).2 (tN (rdNum f ln T 0 99).2))).2) 0 50 (hln) (by (repeat (first | with_reducible assumption | with_reducible apply pos_S58 | with_reducible apply pos_S45 | with_reducible apply pos_S43 | with_reducible apply pos_S46 | with_reducible apply pos_S112 | with_reducible apply pos_S115 | with_reducible apply pos_S116 | with_reducible apply pos_S118 | with_reducible apply pos_S59 | with_reducible apply pos_N0_99 | with_reducible apply pos_N0_50 | with_reducible apply pos_N0_300 | with_reducible apply pos_N1_999 | with_reducible apply pos_D | with_reducible apply pos_Rk | with_reducible apply pos_Sp | with_reducible apply pos_RC | with_reducible apply pos_Dir | with_reducible apply pos_St | with_reducible apply pos_T))) (by decide)) rfl (by decide) rfl rfl rfl ⟨by decide, by decide⟩ (Nat.le_of_ble_eq_true rfl) ⟨by decide, by decide⟩ dX5_readSteps_31 ?_
      refine x_ifb_eq (P := (rdNum f ln ((rdDir f ln (uH (rdNum f ln T 0 99).2 (tN (rdNum f ln T 0 99).2))).2) 0 50).1 = true) C 41 dX5_readSteps_34 (by decide) (fun c_34 => ?_) (fun c_34 => ?_)
      ·
        refine x_iconst (v := 0) C dX5_readSteps_41 (by decide) ?_
        have e_ret : rdSt f ln T = (false, (rdNum f ln (rdDir f ln (uH (rdNum f ln T 0 99).2 (tN (rdNum f ln T 0 99).2))).2 0 50).2) := by simp [rdSt, andT, c_7, c_24, c_34] <;> first | exact pair_t (by assumption) | exact pair_f (by assumption)
        exact x_zret C E dX5_readSteps_42 (by rw [e_ret]; exact (b2i_f Bool.false_ne_true).symm) ((rfl : _ = txW (xG cx) b q ln f th ((rdNum f ln (rdDir f ln (uH (rdNum f ln T 0 99).2 (tN (rdNum f ln T 0 99).2))).2 0 50).2)).trans (by rw [e_ret]))
      ·
        refine x_iconst (v := 1) C dX5_readSteps_37 (by decide) ?_
        refine x_goto (tgt := 42) C dX5_readSteps_38 (by decide) ?_
        have e_ret : rdSt f ln T = (true, (rdNum f ln (rdDir f ln (uH (rdNum f ln T 0 99).2 (tN (rdNum f ln T 0 99).2))).2 0 50).2) := by simp [rdSt, andT, c_7, c_24, c_34] <;> first | exact pair_t (by assumption) | exact pair_f (by assumption)
        exact x_zret C E dX5_readSteps_42 (by rw [e_ret]; exact (b2i_t rfl).symm) ((rfl : _ = txW (xG cx) b q ln f th ((rdNum f ln (rdDir f ln (uH (rdNum f ln T 0 99).2 (tN (rdNum f ln T 0 99).2))).2 0 50).2)).trans (by rw [e_ret]))
  ·
    refine x_iconst (v := 0) C dX5_readSteps_10 (by decide) ?_
    have e_ret : rdSt f ln T = (false, (rdNum f ln T 0 99).2) := by simp [rdSt, andT, c_7] <;> first | exact pair_t (by assumption) | exact pair_f (by assumption)
    exact x_zret C E dX5_readSteps_11 (by rw [e_ret]; exact (b2i_f Bool.false_ne_true).symm) ((rfl : _ = txW (xG cx) b q ln f th ((rdNum f ln T 0 99).2)).trans (by rw [e_ret]))

theorem i_kX5_readThing_X5 : ∀ w ∈ u_ws RX5 TX5 10, w ∈ wsX5_readThing := by decide +kernel
theorem m_kX5_readThing_1 : (Cond.fieldLink RX5 25 "LampRacks$Text" "kind" "I" : Cond) ∈ wsX5_readThing := by decide +kernel
set_option maxRecDepth 100000 in
set_option maxHeartbeats 4000000 in
theorem kX5_readThing (l : Launch) (G : GG) (b : Nat) (q : Nat) (ln : Nat) (f : Nat → Int32) (th : Int32) (T : TX) (hln : ln ≤ 60) (hp : tP T ≤ ln) : MU l G yX5_readThing wsX5_readThing ({ frames := 4, cells := 0, slots := 0, locals := 85 } : Room) [.ref b] (txW G b q ln f th T) (some (.int (b2i ((rdT f ln T).1 = true)))) (txW G b q ln f th ((rdT f ln T).2)) := by
  refine MU.of (cc := cX5_readThing) (maxL := 1) (ret := (some .boolean)) (by decide) rfl (Nat.le_of_ble_eq_true rfl) ?_
  intro cx hxl hxG C M E
  subst hxl
  subst hxG
  show X cx (0, 0) [(b, .inr (5, [.int (nI ln), .ref q, .int (nI (tP T)), .int th, .int (tK T), .int (tR T), .int (tL T), .int (tH T), .int (tD T), .int (tN T)])), (q, .inl ((xG cx).2.2.1, 60, .inl f))] [(0, .ref b)] 0 []
  refine x_aload_n C 0 dX5_readThing_0 rfl rfl ?_
  refine x_aload_n C 0 dX5_readThing_1 rfl rfl ?_
  refine x_callVRO C ([]) ([.ref b]) [0, 1] (k0 := 0) (na := 0) gX5_readThing_X5_current rfl (by decide +kernel) rfl rfl rfl (kX5_current (xl cx) (xG cx) b q ln f th T (hln) (by (repeat (first | with_reducible assumption | with_reducible apply pos_S58 | with_reducible apply pos_S45 | with_reducible apply pos_S43 | with_reducible apply pos_S46 | with_reducible apply pos_S112 | with_reducible apply pos_S115 | with_reducible apply pos_S116 | with_reducible apply pos_S118 | with_reducible apply pos_S59 | with_reducible apply pos_N0_99 | with_reducible apply pos_N0_50 | with_reducible apply pos_N0_300 | with_reducible apply pos_N1_999 | with_reducible apply pos_D | with_reducible apply pos_Rk | with_reducible apply pos_Sp | with_reducible apply pos_RC | with_reducible apply pos_Dir | with_reducible apply pos_St | with_reducible apply pos_T)))) rfl (by decide) rfl rfl rfl ⟨by decide, by decide⟩ (Nat.le_of_ble_eq_true rfl) ⟨by decide, by decide⟩ dX5_readThing_2 ?_
  refine x_putf (ty := .int) C M 0 rfl rfl i_kX5_readThing_X5 4 (by decide) m_kX5_readThing_1 rfl rfl tyX5 tyX5_ok nmX5 (by decide +kernel) rfl rfl (Nat.le_of_ble_eq_true rfl) [(b, .inr (5, [.int (nI ln), .ref q, .int (nI (tP T)), .int th, .int (cur f ln T), .int (tR T), .int (tL T), .int (tH T), .int (tD T), .int (tN T)])), (q, .inl ((xG cx).2.2.1, 60, .inl f))] rfl dX5_readThing_5 ?_
  refine x_ws [(b, .inr (5, [.int (nI ln), .ref q, .int (nI (tP (uK T (cur f ln T)))), .int th, .int (tK (uK T (cur f ln T))), .int (tR (uK T (cur f ln T))), .int (tL (uK T (cur f ln T))), .int (tH (uK T (cur f ln T))), .int (tD (uK T (cur f ln T))), .int (tN (uK T (cur f ln T)))])), (q, .inl ((xG cx).2.2.1, 60, .inl f))] (rfl) ?_
  refine x_aload_n C 0 dX5_readThing_8 rfl rfl ?_
  refine x_getf C 0 rfl rfl i_kX5_readThing_X5 4 (by decide) m_kX5_readThing_1 rfl rfl dX5_readThing_9 ?_
  refine x_lsw C dX5_readThing_12 (by decide) [(46, 187), (112, 64), (115, 158), (116, 103), (118, 125)] 213 (by decide) (by decide) ⟨fun c_12 => ?_, fun c_12 => ?_, fun c_12 => ?_, fun c_12 => ?_, fun c_12 => ?_, trivial⟩ (fun c_12 => ?_)
  ·
    have k_46 : cur f ln T = 46 := Int32.toInt_inj.mp (by rw [c_12]; rfl)
    refine x_aload_n C 0 dX5_readThing_187 rfl rfl ?_
    refine x_bipush (v := 46) C dX5_readThing_188 (by decide) ?_
    refine x_callVMU C ([.int 46]) ([]) [0, 1] [(b, .inr (5, [.int (nI ln), .ref q, .int (nI (tP ((rdS f ln (uK T (cur f ln T)) 46).2))), .int th, .int (tK ((rdS f ln (uK T (cur f ln T)) 46).2)), .int (tR ((rdS f ln (uK T (cur f ln T)) 46).2)), .int (tL ((rdS f ln (uK T (cur f ln T)) 46).2)), .int (tH ((rdS f ln (uK T (cur f ln T)) 46).2)), .int (tD ((rdS f ln (uK T (cur f ln T)) 46).2)), .int (tN ((rdS f ln (uK T (cur f ln T)) 46).2))])), (q, .inl ((xG cx).2.2.1, 60, .inl f))] [] [b, q] rfl rfl [] rfl rfl 2 rfl (by decide +kernel) rfl (k0 := 0) (na := 1) gX5_readThing_X5_readSign rfl (by decide +kernel) rfl rfl rfl M (kX5_readSign (xl cx) (xG cx) b q ln f th (uK T (cur f ln T)) 46 (hln) (by (repeat (first | with_reducible assumption | with_reducible apply pos_S58 | with_reducible apply pos_S45 | with_reducible apply pos_S43 | with_reducible apply pos_S46 | with_reducible apply pos_S112 | with_reducible apply pos_S115 | with_reducible apply pos_S116 | with_reducible apply pos_S118 | with_reducible apply pos_S59 | with_reducible apply pos_N0_99 | with_reducible apply pos_N0_50 | with_reducible apply pos_N0_300 | with_reducible apply pos_N1_999 | with_reducible apply pos_D | with_reducible apply pos_Rk | with_reducible apply pos_Sp | with_reducible apply pos_RC | with_reducible apply pos_Dir | with_reducible apply pos_St | with_reducible apply pos_T)))) rfl (by decide) rfl rfl rfl ⟨by decide, by decide⟩ (Nat.le_of_ble_eq_true rfl) ⟨by decide, by decide⟩ dX5_readThing_190 ?_
    refine x_ifb_eq (P := (rdS f ln (uK T (cur f ln T)) 46).1 = true) C 211 dX5_readThing_193 (by decide) (fun c_193 => ?_) (fun c_193 => ?_)
    ·
      refine x_iconst (v := 0) C dX5_readThing_211 (by decide) ?_
      have e_ret : rdT f ln T = (false, (rdS f ln (uK T (cur f ln T)) 46).2) := by rw [rdT_46 k_46]; simp [andT, c_193] <;> first | exact pair_t (by assumption) | exact pair_f (by assumption)
      exact x_zret C E dX5_readThing_212 (by rw [e_ret]; exact (b2i_f Bool.false_ne_true).symm) ((rfl : _ = txW (xG cx) b q ln f th ((rdS f ln (uK T (cur f ln T)) 46).2)).trans (by rw [e_ret]))
    ·
      refine x_aload_n C 0 dX5_readThing_196 rfl rfl ?_
      refine x_iconst (v := 1) C dX5_readThing_197 (by decide) ?_
      refine x_sipush (v := 999) C dX5_readThing_198 (by decide) ?_
      refine x_callVMU C ([.int 1, .int 999]) ([]) [0, 1] [(b, .inr (5, [.int (nI ln), .ref q, .int (nI (tP ((rdNum f ln ((rdS f ln (uK T (cur f ln T)) 46).2) 1 999).2))), .int th, .int (tK ((rdNum f ln ((rdS f ln (uK T (cur f ln T)) 46).2) 1 999).2)), .int (tR ((rdNum f ln ((rdS f ln (uK T (cur f ln T)) 46).2) 1 999).2)), .int (tL ((rdNum f ln ((rdS f ln (uK T (cur f ln T)) 46).2) 1 999).2)), .int (tH ((rdNum f ln ((rdS f ln (uK T (cur f ln T)) 46).2) 1 999).2)), .int (tD ((rdNum f ln ((rdS f ln (uK T (cur f ln T)) 46).2) 1 999).2)), .int (tN ((rdNum f ln ((rdS f ln (uK T (cur f ln T)) 46).2) 1 999).2))])), (q, .inl ((xG cx).2.2.1, 60, .inl f))] [] [b, q] rfl rfl [] rfl rfl 2 rfl (by decide +kernel) rfl (k0 := 0) (na := 2) gX5_readThing_X5_readNumber rfl (by decide +kernel) rfl rfl rfl M (kX5_readNumber (xl cx) (xG cx) b q ln f th ((rdS f ln (uK T (cur f ln T)) 46).2) 1 999 (hln) (by (repeat (first | with_reducible assumption | with_reducible apply pos_S58 | with_reducible apply pos_S45 | with_reducible apply pos_S43 | with_reducible apply pos_S46 | with_reducible apply pos_S112 | with_reducible apply pos_S115 | with_reducible apply pos_S116 | with_reducible apply pos_S118 | with_reducible apply pos_S59 | with_reducible apply pos_N0_99 | with_reducible apply pos_N0_50 | with_reducible apply pos_N0_300 | with_reducible apply pos_N1_999 | with_reducible apply pos_D | with_reducible apply pos_Rk | with_reducible apply pos_Sp | with_reducible apply pos_RC | with_reducible apply pos_Dir | with_reducible apply pos_St | with_reducible apply pos_T))) (by decide)) rfl (by decide) rfl rfl rfl ⟨by decide, by decide⟩ (Nat.le_of_ble_eq_true rfl) ⟨by decide, by decide⟩ dX5_readThing_201 ?_
      refine x_ifb_eq (P := (rdNum f ln ((rdS f ln (uK T (cur f ln T)) 46).2) 1 999).1 = true) C 211 dX5_readThing_204 (by decide) (fun c_204 => ?_) (fun c_204 => ?_)
      ·
        refine x_iconst (v := 0) C dX5_readThing_211 (by decide) ?_
        have e_ret : rdT f ln T = (false, (rdNum f ln (rdS f ln (uK T (cur f ln T)) 46).2 1 999).2) := by rw [rdT_46 k_46]; simp [andT, c_193, c_204] <;> first | exact pair_t (by assumption) | exact pair_f (by assumption)
        exact x_zret C E dX5_readThing_212 (by rw [e_ret]; exact (b2i_f Bool.false_ne_true).symm) ((rfl : _ = txW (xG cx) b q ln f th ((rdNum f ln (rdS f ln (uK T (cur f ln T)) 46).2 1 999).2)).trans (by rw [e_ret]))
      ·
        refine x_iconst (v := 1) C dX5_readThing_207 (by decide) ?_
        refine x_goto (tgt := 212) C dX5_readThing_208 (by decide) ?_
        have e_ret : rdT f ln T = (true, (rdNum f ln (rdS f ln (uK T (cur f ln T)) 46).2 1 999).2) := by rw [rdT_46 k_46]; simp [andT, c_193, c_204] <;> first | exact pair_t (by assumption) | exact pair_f (by assumption)
        exact x_zret C E dX5_readThing_212 (by rw [e_ret]; exact (b2i_t rfl).symm) ((rfl : _ = txW (xG cx) b q ln f th ((rdNum f ln (rdS f ln (uK T (cur f ln T)) 46).2 1 999).2)).trans (by rw [e_ret]))
  ·
    have k_112 : cur f ln T = 112 := Int32.toInt_inj.mp (by rw [c_12]; rfl)
    refine x_aload_n C 0 dX5_readThing_64 rfl rfl ?_
    refine x_bipush (v := 112) C dX5_readThing_65 (by decide) ?_
    refine x_callVMU C ([.int 112]) ([]) [0, 1] [(b, .inr (5, [.int (nI ln), .ref q, .int (nI (tP ((rdS f ln (uK T (cur f ln T)) 112).2))), .int th, .int (tK ((rdS f ln (uK T (cur f ln T)) 112).2)), .int (tR ((rdS f ln (uK T (cur f ln T)) 112).2)), .int (tL ((rdS f ln (uK T (cur f ln T)) 112).2)), .int (tH ((rdS f ln (uK T (cur f ln T)) 112).2)), .int (tD ((rdS f ln (uK T (cur f ln T)) 112).2)), .int (tN ((rdS f ln (uK T (cur f ln T)) 112).2))])), (q, .inl ((xG cx).2.2.1, 60, .inl f))] [] [b, q] rfl rfl [] rfl rfl 2 rfl (by decide +kernel) rfl (k0 := 0) (na := 1) gX5_readThing_X5_readSign rfl (by decide +kernel) rfl rfl rfl M (kX5_readSign (xl cx) (xG cx) b q ln f th (uK T (cur f ln T)) 112 (hln) (by (repeat (first | with_reducible assumption | with_reducible apply pos_S58 | with_reducible apply pos_S45 | with_reducible apply pos_S43 | with_reducible apply pos_S46 | with_reducible apply pos_S112 | with_reducible apply pos_S115 | with_reducible apply pos_S116 | with_reducible apply pos_S118 | with_reducible apply pos_S59 | with_reducible apply pos_N0_99 | with_reducible apply pos_N0_50 | with_reducible apply pos_N0_300 | with_reducible apply pos_N1_999 | with_reducible apply pos_D | with_reducible apply pos_Rk | with_reducible apply pos_Sp | with_reducible apply pos_RC | with_reducible apply pos_Dir | with_reducible apply pos_St | with_reducible apply pos_T)))) rfl (by decide) rfl rfl rfl ⟨by decide, by decide⟩ (Nat.le_of_ble_eq_true rfl) ⟨by decide, by decide⟩ dX5_readThing_67 ?_
    refine x_ifb_eq (P := (rdS f ln (uK T (cur f ln T)) 112).1 = true) C 101 dX5_readThing_70 (by decide) (fun c_70 => ?_) (fun c_70 => ?_)
    ·
      refine x_iconst (v := 0) C dX5_readThing_101 (by decide) ?_
      have e_ret : rdT f ln T = (false, (rdS f ln (uK T (cur f ln T)) 112).2) := by rw [rdT_112 k_112]; simp [andT, c_70] <;> first | exact pair_t (by assumption) | exact pair_f (by assumption)
      exact x_zret C E dX5_readThing_102 (by rw [e_ret]; exact (b2i_f Bool.false_ne_true).symm) ((rfl : _ = txW (xG cx) b q ln f th ((rdS f ln (uK T (cur f ln T)) 112).2)).trans (by rw [e_ret]))
    ·
      refine x_aload_n C 0 dX5_readThing_73 rfl rfl ?_
      refine x_callVMU C ([]) ([]) [0, 1] [(b, .inr (5, [.int (nI ln), .ref q, .int (nI (tP ((rdSp f ln ((rdS f ln (uK T (cur f ln T)) 112).2)).2))), .int th, .int (tK ((rdSp f ln ((rdS f ln (uK T (cur f ln T)) 112).2)).2)), .int (tR ((rdSp f ln ((rdS f ln (uK T (cur f ln T)) 112).2)).2)), .int (tL ((rdSp f ln ((rdS f ln (uK T (cur f ln T)) 112).2)).2)), .int (tH ((rdSp f ln ((rdS f ln (uK T (cur f ln T)) 112).2)).2)), .int (tD ((rdSp f ln ((rdS f ln (uK T (cur f ln T)) 112).2)).2)), .int (tN ((rdSp f ln ((rdS f ln (uK T (cur f ln T)) 112).2)).2))])), (q, .inl ((xG cx).2.2.1, 60, .inl f))] [] [b, q] rfl rfl [] rfl rfl 2 rfl (by decide +kernel) rfl (k0 := 0) (na := 0) gX5_readThing_X5_readSpot rfl (by decide +kernel) rfl rfl rfl M (kX5_readSpot (xl cx) (xG cx) b q ln f th ((rdS f ln (uK T (cur f ln T)) 112).2) (hln) (by (repeat (first | with_reducible assumption | with_reducible apply pos_S58 | with_reducible apply pos_S45 | with_reducible apply pos_S43 | with_reducible apply pos_S46 | with_reducible apply pos_S112 | with_reducible apply pos_S115 | with_reducible apply pos_S116 | with_reducible apply pos_S118 | with_reducible apply pos_S59 | with_reducible apply pos_N0_99 | with_reducible apply pos_N0_50 | with_reducible apply pos_N0_300 | with_reducible apply pos_N1_999 | with_reducible apply pos_D | with_reducible apply pos_Rk | with_reducible apply pos_Sp | with_reducible apply pos_RC | with_reducible apply pos_Dir | with_reducible apply pos_St | with_reducible apply pos_T)))) rfl (by decide) rfl rfl rfl ⟨by decide, by decide⟩ (Nat.le_of_ble_eq_true rfl) ⟨by decide, by decide⟩ dX5_readThing_74 ?_
      refine x_ifb_eq (P := (rdSp f ln ((rdS f ln (uK T (cur f ln T)) 112).2)).1 = true) C 101 dX5_readThing_77 (by decide) (fun c_77 => ?_) (fun c_77 => ?_)
      ·
        refine x_iconst (v := 0) C dX5_readThing_101 (by decide) ?_
        have e_ret : rdT f ln T = (false, (rdSp f ln (rdS f ln (uK T (cur f ln T)) 112).2).2) := by rw [rdT_112 k_112]; simp [andT, c_70, c_77] <;> first | exact pair_t (by assumption) | exact pair_f (by assumption)
        exact x_zret C E dX5_readThing_102 (by rw [e_ret]; exact (b2i_f Bool.false_ne_true).symm) ((rfl : _ = txW (xG cx) b q ln f th ((rdSp f ln (rdS f ln (uK T (cur f ln T)) 112).2).2)).trans (by rw [e_ret]))
      ·
        refine x_aload_n C 0 dX5_readThing_80 rfl rfl ?_
        refine x_bipush (v := 58) C dX5_readThing_81 (by decide) ?_
        refine x_callVMU C ([.int 58]) ([]) [0, 1] [(b, .inr (5, [.int (nI ln), .ref q, .int (nI (tP ((rdS f ln ((rdSp f ln ((rdS f ln (uK T (cur f ln T)) 112).2)).2) 58).2))), .int th, .int (tK ((rdS f ln ((rdSp f ln ((rdS f ln (uK T (cur f ln T)) 112).2)).2) 58).2)), .int (tR ((rdS f ln ((rdSp f ln ((rdS f ln (uK T (cur f ln T)) 112).2)).2) 58).2)), .int (tL ((rdS f ln ((rdSp f ln ((rdS f ln (uK T (cur f ln T)) 112).2)).2) 58).2)), .int (tH ((rdS f ln ((rdSp f ln ((rdS f ln (uK T (cur f ln T)) 112).2)).2) 58).2)), .int (tD ((rdS f ln ((rdSp f ln ((rdS f ln (uK T (cur f ln T)) 112).2)).2) 58).2)), .int (tN ((rdS f ln ((rdSp f ln ((rdS f ln (uK T (cur f ln T)) 112).2)).2) 58).2))])), (q, .inl ((xG cx).2.2.1, 60, .inl f))] [] [b, q] rfl rfl [] rfl rfl 2 rfl (by decide +kernel) rfl (k0 := 0) (na := 1) gX5_readThing_X5_readSign rfl (by decide +kernel) rfl rfl rfl M (kX5_readSign (xl cx) (xG cx) b q ln f th ((rdSp f ln ((rdS f ln (uK T (cur f ln T)) 112).2)).2) 58 (hln) (by (repeat (first | with_reducible assumption | with_reducible apply pos_S58 | with_reducible apply pos_S45 | with_reducible apply pos_S43 | with_reducible apply pos_S46 | with_reducible apply pos_S112 | with_reducible apply pos_S115 | with_reducible apply pos_S116 | with_reducible apply pos_S118 | with_reducible apply pos_S59 | with_reducible apply pos_N0_99 | with_reducible apply pos_N0_50 | with_reducible apply pos_N0_300 | with_reducible apply pos_N1_999 | with_reducible apply pos_D | with_reducible apply pos_Rk | with_reducible apply pos_Sp | with_reducible apply pos_RC | with_reducible apply pos_Dir | with_reducible apply pos_St | with_reducible apply pos_T)))) rfl (by decide) rfl rfl rfl ⟨by decide, by decide⟩ (Nat.le_of_ble_eq_true rfl) ⟨by decide, by decide⟩ dX5_readThing_83 ?_
        refine x_ifb_eq (P := (rdS f ln ((rdSp f ln ((rdS f ln (uK T (cur f ln T)) 112).2)).2) 58).1 = true) C 101 dX5_readThing_86 (by decide) (fun c_86 => ?_) (fun c_86 => ?_)
        ·
          refine x_iconst (v := 0) C dX5_readThing_101 (by decide) ?_
          have e_ret : rdT f ln T = (false, (rdS f ln ((rdSp f ln (rdS f ln (uK T (cur f ln T)) 112).2).2) 58).2) := by rw [rdT_112 k_112]; simp [andT, c_70, c_77, c_86] <;> first | exact pair_t (by assumption) | exact pair_f (by assumption)
          exact x_zret C E dX5_readThing_102 (by rw [e_ret]; exact (b2i_f Bool.false_ne_true).symm) ((rfl : _ = txW (xG cx) b q ln f th ((rdS f ln ((rdSp f ln (rdS f ln (uK T (cur f ln T)) 112).2).2) 58).2)).trans (by rw [e_ret]))
        ·
          refine x_aload_n C 0 dX5_readThing_89 rfl rfl ?_
          refine x_iconst (v := 5) C dX5_readThing_90 (by decide) ?_
          refine x_callVMU C ([.int 5]) ([]) [0, 1] [(b, .inr (5, [.int (nI ln), .ref q, .int (nI (tP ((rdD f ln ((rdS f ln ((rdSp f ln ((rdS f ln (uK T (cur f ln T)) 112).2)).2) 58).2) 5).2))), .int th, .int (tK ((rdD f ln ((rdS f ln ((rdSp f ln ((rdS f ln (uK T (cur f ln T)) 112).2)).2) 58).2) 5).2)), .int (tR ((rdD f ln ((rdS f ln ((rdSp f ln ((rdS f ln (uK T (cur f ln T)) 112).2)).2) 58).2) 5).2)), .int (tL ((rdD f ln ((rdS f ln ((rdSp f ln ((rdS f ln (uK T (cur f ln T)) 112).2)).2) 58).2) 5).2)), .int (tH ((rdD f ln ((rdS f ln ((rdSp f ln ((rdS f ln (uK T (cur f ln T)) 112).2)).2) 58).2) 5).2)), .int (tD ((rdD f ln ((rdS f ln ((rdSp f ln ((rdS f ln (uK T (cur f ln T)) 112).2)).2) 58).2) 5).2)), .int (tN ((rdD f ln ((rdS f ln ((rdSp f ln ((rdS f ln (uK T (cur f ln T)) 112).2)).2) 58).2) 5).2))])), (q, .inl ((xG cx).2.2.1, 60, .inl f))] [] [b, q] rfl rfl [] rfl rfl 2 rfl (by decide +kernel) rfl (k0 := 0) (na := 1) gX5_readThing_X5_readDigit rfl (by decide +kernel) rfl rfl rfl M (kX5_readDigit (xl cx) (xG cx) b q ln f th ((rdS f ln ((rdSp f ln ((rdS f ln (uK T (cur f ln T)) 112).2)).2) 58).2) 5 (hln) (by (repeat (first | with_reducible assumption | with_reducible apply pos_S58 | with_reducible apply pos_S45 | with_reducible apply pos_S43 | with_reducible apply pos_S46 | with_reducible apply pos_S112 | with_reducible apply pos_S115 | with_reducible apply pos_S116 | with_reducible apply pos_S118 | with_reducible apply pos_S59 | with_reducible apply pos_N0_99 | with_reducible apply pos_N0_50 | with_reducible apply pos_N0_300 | with_reducible apply pos_N1_999 | with_reducible apply pos_D | with_reducible apply pos_Rk | with_reducible apply pos_Sp | with_reducible apply pos_RC | with_reducible apply pos_Dir | with_reducible apply pos_St | with_reducible apply pos_T)))) rfl (by decide) rfl rfl rfl ⟨by decide, by decide⟩ (Nat.le_of_ble_eq_true rfl) ⟨by decide, by decide⟩ dX5_readThing_91 ?_
          refine x_ifb_eq (P := (rdD f ln ((rdS f ln ((rdSp f ln ((rdS f ln (uK T (cur f ln T)) 112).2)).2) 58).2) 5).1 = true) C 101 dX5_readThing_94 (by decide) (fun c_94 => ?_) (fun c_94 => ?_)
          ·
            refine x_iconst (v := 0) C dX5_readThing_101 (by decide) ?_
            have e_ret : rdT f ln T = (false, (rdD f ln (rdS f ln ((rdSp f ln (rdS f ln (uK T (cur f ln T)) 112).2).2) 58).2 5).2) := by rw [rdT_112 k_112]; simp [andT, c_70, c_77, c_86, c_94] <;> first | exact pair_t (by assumption) | exact pair_f (by assumption)
            exact x_zret C E dX5_readThing_102 (by rw [e_ret]; exact (b2i_f Bool.false_ne_true).symm) ((rfl : _ = txW (xG cx) b q ln f th ((rdD f ln (rdS f ln ((rdSp f ln (rdS f ln (uK T (cur f ln T)) 112).2).2) 58).2 5).2)).trans (by rw [e_ret]))
          ·
            refine x_iconst (v := 1) C dX5_readThing_97 (by decide) ?_
            refine x_goto (tgt := 102) C dX5_readThing_98 (by decide) ?_
            have e_ret : rdT f ln T = (true, (rdD f ln (rdS f ln ((rdSp f ln (rdS f ln (uK T (cur f ln T)) 112).2).2) 58).2 5).2) := by rw [rdT_112 k_112]; simp [andT, c_70, c_77, c_86, c_94] <;> first | exact pair_t (by assumption) | exact pair_f (by assumption)
            exact x_zret C E dX5_readThing_102 (by rw [e_ret]; exact (b2i_t rfl).symm) ((rfl : _ = txW (xG cx) b q ln f th ((rdD f ln (rdS f ln ((rdSp f ln (rdS f ln (uK T (cur f ln T)) 112).2).2) 58).2 5).2)).trans (by rw [e_ret]))
  ·
    have k_115 : cur f ln T = 115 := Int32.toInt_inj.mp (by rw [c_12]; rfl)
    refine x_aload_n C 0 dX5_readThing_158 rfl rfl ?_
    refine x_bipush (v := 115) C dX5_readThing_159 (by decide) ?_
    refine x_callVMU C ([.int 115]) ([]) [0, 1] [(b, .inr (5, [.int (nI ln), .ref q, .int (nI (tP ((rdS f ln (uK T (cur f ln T)) 115).2))), .int th, .int (tK ((rdS f ln (uK T (cur f ln T)) 115).2)), .int (tR ((rdS f ln (uK T (cur f ln T)) 115).2)), .int (tL ((rdS f ln (uK T (cur f ln T)) 115).2)), .int (tH ((rdS f ln (uK T (cur f ln T)) 115).2)), .int (tD ((rdS f ln (uK T (cur f ln T)) 115).2)), .int (tN ((rdS f ln (uK T (cur f ln T)) 115).2))])), (q, .inl ((xG cx).2.2.1, 60, .inl f))] [] [b, q] rfl rfl [] rfl rfl 2 rfl (by decide +kernel) rfl (k0 := 0) (na := 1) gX5_readThing_X5_readSign rfl (by decide +kernel) rfl rfl rfl M (kX5_readSign (xl cx) (xG cx) b q ln f th (uK T (cur f ln T)) 115 (hln) (by (repeat (first | with_reducible assumption | with_reducible apply pos_S58 | with_reducible apply pos_S45 | with_reducible apply pos_S43 | with_reducible apply pos_S46 | with_reducible apply pos_S112 | with_reducible apply pos_S115 | with_reducible apply pos_S116 | with_reducible apply pos_S118 | with_reducible apply pos_S59 | with_reducible apply pos_N0_99 | with_reducible apply pos_N0_50 | with_reducible apply pos_N0_300 | with_reducible apply pos_N1_999 | with_reducible apply pos_D | with_reducible apply pos_Rk | with_reducible apply pos_Sp | with_reducible apply pos_RC | with_reducible apply pos_Dir | with_reducible apply pos_St | with_reducible apply pos_T)))) rfl (by decide) rfl rfl rfl ⟨by decide, by decide⟩ (Nat.le_of_ble_eq_true rfl) ⟨by decide, by decide⟩ dX5_readThing_161 ?_
    refine x_ifb_eq (P := (rdS f ln (uK T (cur f ln T)) 115).1 = true) C 185 dX5_readThing_164 (by decide) (fun c_164 => ?_) (fun c_164 => ?_)
    ·
      refine x_iconst (v := 0) C dX5_readThing_185 (by decide) ?_
      have e_ret : rdT f ln T = (false, (rdS f ln (uK T (cur f ln T)) 115).2) := by rw [rdT_115 k_115]; simp [andT, c_164] <;> first | exact pair_t (by assumption) | exact pair_f (by assumption)
      exact x_zret C E dX5_readThing_186 (by rw [e_ret]; exact (b2i_f Bool.false_ne_true).symm) ((rfl : _ = txW (xG cx) b q ln f th ((rdS f ln (uK T (cur f ln T)) 115).2)).trans (by rw [e_ret]))
    ·
      refine x_aload_n C 0 dX5_readThing_167 rfl rfl ?_
      refine x_callVMU C ([]) ([]) [0, 1] [(b, .inr (5, [.int (nI ln), .ref q, .int (nI (tP ((rdRC f ln ((rdS f ln (uK T (cur f ln T)) 115).2)).2))), .int th, .int (tK ((rdRC f ln ((rdS f ln (uK T (cur f ln T)) 115).2)).2)), .int (tR ((rdRC f ln ((rdS f ln (uK T (cur f ln T)) 115).2)).2)), .int (tL ((rdRC f ln ((rdS f ln (uK T (cur f ln T)) 115).2)).2)), .int (tH ((rdRC f ln ((rdS f ln (uK T (cur f ln T)) 115).2)).2)), .int (tD ((rdRC f ln ((rdS f ln (uK T (cur f ln T)) 115).2)).2)), .int (tN ((rdRC f ln ((rdS f ln (uK T (cur f ln T)) 115).2)).2))])), (q, .inl ((xG cx).2.2.1, 60, .inl f))] [] [b, q] rfl rfl [] rfl rfl 2 rfl (by decide +kernel) rfl (k0 := 0) (na := 0) gX5_readThing_X5_readRackAndColon rfl (by decide +kernel) rfl rfl rfl M (kX5_readRackAndColon (xl cx) (xG cx) b q ln f th ((rdS f ln (uK T (cur f ln T)) 115).2) (hln) (by (repeat (first | with_reducible assumption | with_reducible apply pos_S58 | with_reducible apply pos_S45 | with_reducible apply pos_S43 | with_reducible apply pos_S46 | with_reducible apply pos_S112 | with_reducible apply pos_S115 | with_reducible apply pos_S116 | with_reducible apply pos_S118 | with_reducible apply pos_S59 | with_reducible apply pos_N0_99 | with_reducible apply pos_N0_50 | with_reducible apply pos_N0_300 | with_reducible apply pos_N1_999 | with_reducible apply pos_D | with_reducible apply pos_Rk | with_reducible apply pos_Sp | with_reducible apply pos_RC | with_reducible apply pos_Dir | with_reducible apply pos_St | with_reducible apply pos_T)))) rfl (by decide) rfl rfl rfl ⟨by decide, by decide⟩ (Nat.le_of_ble_eq_true rfl) ⟨by decide, by decide⟩ dX5_readThing_168 ?_
      refine x_ifb_eq (P := (rdRC f ln ((rdS f ln (uK T (cur f ln T)) 115).2)).1 = true) C 185 dX5_readThing_171 (by decide) (fun c_171 => ?_) (fun c_171 => ?_)
      ·
        refine x_iconst (v := 0) C dX5_readThing_185 (by decide) ?_
        have e_ret : rdT f ln T = (false, (rdRC f ln (rdS f ln (uK T (cur f ln T)) 115).2).2) := by rw [rdT_115 k_115]; simp [andT, c_164, c_171] <;> first | exact pair_t (by assumption) | exact pair_f (by assumption)
        exact x_zret C E dX5_readThing_186 (by rw [e_ret]; exact (b2i_f Bool.false_ne_true).symm) ((rfl : _ = txW (xG cx) b q ln f th ((rdRC f ln (rdS f ln (uK T (cur f ln T)) 115).2).2)).trans (by rw [e_ret]))
      ·
        refine x_aload_n C 0 dX5_readThing_174 rfl rfl ?_
        refine x_callVMU C ([]) ([]) [0, 1] [(b, .inr (5, [.int (nI ln), .ref q, .int (nI (tP ((rdSt f ln ((rdRC f ln ((rdS f ln (uK T (cur f ln T)) 115).2)).2)).2))), .int th, .int (tK ((rdSt f ln ((rdRC f ln ((rdS f ln (uK T (cur f ln T)) 115).2)).2)).2)), .int (tR ((rdSt f ln ((rdRC f ln ((rdS f ln (uK T (cur f ln T)) 115).2)).2)).2)), .int (tL ((rdSt f ln ((rdRC f ln ((rdS f ln (uK T (cur f ln T)) 115).2)).2)).2)), .int (tH ((rdSt f ln ((rdRC f ln ((rdS f ln (uK T (cur f ln T)) 115).2)).2)).2)), .int (tD ((rdSt f ln ((rdRC f ln ((rdS f ln (uK T (cur f ln T)) 115).2)).2)).2)), .int (tN ((rdSt f ln ((rdRC f ln ((rdS f ln (uK T (cur f ln T)) 115).2)).2)).2))])), (q, .inl ((xG cx).2.2.1, 60, .inl f))] [] [b, q] rfl rfl [] rfl rfl 2 rfl (by decide +kernel) rfl (k0 := 0) (na := 0) gX5_readThing_X5_readSteps rfl (by decide +kernel) rfl rfl rfl M (kX5_readSteps (xl cx) (xG cx) b q ln f th ((rdRC f ln ((rdS f ln (uK T (cur f ln T)) 115).2)).2) (hln) (by (repeat (first | with_reducible assumption | with_reducible apply pos_S58 | with_reducible apply pos_S45 | with_reducible apply pos_S43 | with_reducible apply pos_S46 | with_reducible apply pos_S112 | with_reducible apply pos_S115 | with_reducible apply pos_S116 | with_reducible apply pos_S118 | with_reducible apply pos_S59 | with_reducible apply pos_N0_99 | with_reducible apply pos_N0_50 | with_reducible apply pos_N0_300 | with_reducible apply pos_N1_999 | with_reducible apply pos_D | with_reducible apply pos_Rk | with_reducible apply pos_Sp | with_reducible apply pos_RC | with_reducible apply pos_Dir | with_reducible apply pos_St | with_reducible apply pos_T)))) rfl (by decide) rfl rfl rfl ⟨by decide, by decide⟩ (Nat.le_of_ble_eq_true rfl) ⟨by decide, by decide⟩ dX5_readThing_175 ?_
        refine x_ifb_eq (P := (rdSt f ln ((rdRC f ln ((rdS f ln (uK T (cur f ln T)) 115).2)).2)).1 = true) C 185 dX5_readThing_178 (by decide) (fun c_178 => ?_) (fun c_178 => ?_)
        ·
          refine x_iconst (v := 0) C dX5_readThing_185 (by decide) ?_
          have e_ret : rdT f ln T = (false, (rdSt f ln (rdRC f ln (rdS f ln (uK T (cur f ln T)) 115).2).2).2) := by rw [rdT_115 k_115]; simp [andT, c_164, c_171, c_178] <;> first | exact pair_t (by assumption) | exact pair_f (by assumption)
          exact x_zret C E dX5_readThing_186 (by rw [e_ret]; exact (b2i_f Bool.false_ne_true).symm) ((rfl : _ = txW (xG cx) b q ln f th ((rdSt f ln (rdRC f ln (rdS f ln (uK T (cur f ln T)) 115).2).2).2)).trans (by rw [e_ret]))
        ·
          refine x_iconst (v := 1) C dX5_readThing_181 (by decide) ?_
          refine x_goto (tgt := 186) C dX5_readThing_182 (by decide) ?_
          have e_ret : rdT f ln T = (true, (rdSt f ln (rdRC f ln (rdS f ln (uK T (cur f ln T)) 115).2).2).2) := by rw [rdT_115 k_115]; simp [andT, c_164, c_171, c_178] <;> first | exact pair_t (by assumption) | exact pair_f (by assumption)
          exact x_zret C E dX5_readThing_186 (by rw [e_ret]; exact (b2i_t rfl).symm) ((rfl : _ = txW (xG cx) b q ln f th ((rdSt f ln (rdRC f ln (rdS f ln (uK T (cur f ln T)) 115).2).2).2)).trans (by rw [e_ret]))
  ·
    have k_116 : cur f ln T = 116 := Int32.toInt_inj.mp (by rw [c_12]; rfl)
    refine x_aload_n C 0 dX5_readThing_103 rfl rfl ?_
    refine x_bipush (v := 116) C dX5_readThing_104 (by decide) ?_
    refine x_callVMU C ([.int 116]) ([]) [0, 1] [(b, .inr (5, [.int (nI ln), .ref q, .int (nI (tP ((rdS f ln (uK T (cur f ln T)) 116).2))), .int th, .int (tK ((rdS f ln (uK T (cur f ln T)) 116).2)), .int (tR ((rdS f ln (uK T (cur f ln T)) 116).2)), .int (tL ((rdS f ln (uK T (cur f ln T)) 116).2)), .int (tH ((rdS f ln (uK T (cur f ln T)) 116).2)), .int (tD ((rdS f ln (uK T (cur f ln T)) 116).2)), .int (tN ((rdS f ln (uK T (cur f ln T)) 116).2))])), (q, .inl ((xG cx).2.2.1, 60, .inl f))] [] [b, q] rfl rfl [] rfl rfl 2 rfl (by decide +kernel) rfl (k0 := 0) (na := 1) gX5_readThing_X5_readSign rfl (by decide +kernel) rfl rfl rfl M (kX5_readSign (xl cx) (xG cx) b q ln f th (uK T (cur f ln T)) 116 (hln) (by (repeat (first | with_reducible assumption | with_reducible apply pos_S58 | with_reducible apply pos_S45 | with_reducible apply pos_S43 | with_reducible apply pos_S46 | with_reducible apply pos_S112 | with_reducible apply pos_S115 | with_reducible apply pos_S116 | with_reducible apply pos_S118 | with_reducible apply pos_S59 | with_reducible apply pos_N0_99 | with_reducible apply pos_N0_50 | with_reducible apply pos_N0_300 | with_reducible apply pos_N1_999 | with_reducible apply pos_D | with_reducible apply pos_Rk | with_reducible apply pos_Sp | with_reducible apply pos_RC | with_reducible apply pos_Dir | with_reducible apply pos_St | with_reducible apply pos_T)))) rfl (by decide) rfl rfl rfl ⟨by decide, by decide⟩ (Nat.le_of_ble_eq_true rfl) ⟨by decide, by decide⟩ dX5_readThing_106 ?_
    refine x_ifb_eq (P := (rdS f ln (uK T (cur f ln T)) 116).1 = true) C 123 dX5_readThing_109 (by decide) (fun c_109 => ?_) (fun c_109 => ?_)
    ·
      refine x_iconst (v := 0) C dX5_readThing_123 (by decide) ?_
      have e_ret : rdT f ln T = (false, (rdS f ln (uK T (cur f ln T)) 116).2) := by rw [rdT_116 k_116]; simp [andT, c_109] <;> first | exact pair_t (by assumption) | exact pair_f (by assumption)
      exact x_zret C E dX5_readThing_124 (by rw [e_ret]; exact (b2i_f Bool.false_ne_true).symm) ((rfl : _ = txW (xG cx) b q ln f th ((rdS f ln (uK T (cur f ln T)) 116).2)).trans (by rw [e_ret]))
    ·
      refine x_aload_n C 0 dX5_readThing_112 rfl rfl ?_
      refine x_callVMU C ([]) ([]) [0, 1] [(b, .inr (5, [.int (nI ln), .ref q, .int (nI (tP ((rdSp f ln ((rdS f ln (uK T (cur f ln T)) 116).2)).2))), .int th, .int (tK ((rdSp f ln ((rdS f ln (uK T (cur f ln T)) 116).2)).2)), .int (tR ((rdSp f ln ((rdS f ln (uK T (cur f ln T)) 116).2)).2)), .int (tL ((rdSp f ln ((rdS f ln (uK T (cur f ln T)) 116).2)).2)), .int (tH ((rdSp f ln ((rdS f ln (uK T (cur f ln T)) 116).2)).2)), .int (tD ((rdSp f ln ((rdS f ln (uK T (cur f ln T)) 116).2)).2)), .int (tN ((rdSp f ln ((rdS f ln (uK T (cur f ln T)) 116).2)).2))])), (q, .inl ((xG cx).2.2.1, 60, .inl f))] [] [b, q] rfl rfl [] rfl rfl 2 rfl (by decide +kernel) rfl (k0 := 0) (na := 0) gX5_readThing_X5_readSpot rfl (by decide +kernel) rfl rfl rfl M (kX5_readSpot (xl cx) (xG cx) b q ln f th ((rdS f ln (uK T (cur f ln T)) 116).2) (hln) (by (repeat (first | with_reducible assumption | with_reducible apply pos_S58 | with_reducible apply pos_S45 | with_reducible apply pos_S43 | with_reducible apply pos_S46 | with_reducible apply pos_S112 | with_reducible apply pos_S115 | with_reducible apply pos_S116 | with_reducible apply pos_S118 | with_reducible apply pos_S59 | with_reducible apply pos_N0_99 | with_reducible apply pos_N0_50 | with_reducible apply pos_N0_300 | with_reducible apply pos_N1_999 | with_reducible apply pos_D | with_reducible apply pos_Rk | with_reducible apply pos_Sp | with_reducible apply pos_RC | with_reducible apply pos_Dir | with_reducible apply pos_St | with_reducible apply pos_T)))) rfl (by decide) rfl rfl rfl ⟨by decide, by decide⟩ (Nat.le_of_ble_eq_true rfl) ⟨by decide, by decide⟩ dX5_readThing_113 ?_
      refine x_ifb_eq (P := (rdSp f ln ((rdS f ln (uK T (cur f ln T)) 116).2)).1 = true) C 123 dX5_readThing_116 (by decide) (fun c_116 => ?_) (fun c_116 => ?_)
      ·
        refine x_iconst (v := 0) C dX5_readThing_123 (by decide) ?_
        have e_ret : rdT f ln T = (false, (rdSp f ln (rdS f ln (uK T (cur f ln T)) 116).2).2) := by rw [rdT_116 k_116]; simp [andT, c_109, c_116] <;> first | exact pair_t (by assumption) | exact pair_f (by assumption)
        exact x_zret C E dX5_readThing_124 (by rw [e_ret]; exact (b2i_f Bool.false_ne_true).symm) ((rfl : _ = txW (xG cx) b q ln f th ((rdSp f ln (rdS f ln (uK T (cur f ln T)) 116).2).2)).trans (by rw [e_ret]))
      ·
        refine x_iconst (v := 1) C dX5_readThing_119 (by decide) ?_
        refine x_goto (tgt := 124) C dX5_readThing_120 (by decide) ?_
        have e_ret : rdT f ln T = (true, (rdSp f ln (rdS f ln (uK T (cur f ln T)) 116).2).2) := by rw [rdT_116 k_116]; simp [andT, c_109, c_116] <;> first | exact pair_t (by assumption) | exact pair_f (by assumption)
        exact x_zret C E dX5_readThing_124 (by rw [e_ret]; exact (b2i_t rfl).symm) ((rfl : _ = txW (xG cx) b q ln f th ((rdSp f ln (rdS f ln (uK T (cur f ln T)) 116).2).2)).trans (by rw [e_ret]))
  ·
    have k_118 : cur f ln T = 118 := Int32.toInt_inj.mp (by rw [c_12]; rfl)
    refine x_aload_n C 0 dX5_readThing_125 rfl rfl ?_
    refine x_bipush (v := 118) C dX5_readThing_126 (by decide) ?_
    refine x_callVMU C ([.int 118]) ([]) [0, 1] [(b, .inr (5, [.int (nI ln), .ref q, .int (nI (tP ((rdS f ln (uK T (cur f ln T)) 118).2))), .int th, .int (tK ((rdS f ln (uK T (cur f ln T)) 118).2)), .int (tR ((rdS f ln (uK T (cur f ln T)) 118).2)), .int (tL ((rdS f ln (uK T (cur f ln T)) 118).2)), .int (tH ((rdS f ln (uK T (cur f ln T)) 118).2)), .int (tD ((rdS f ln (uK T (cur f ln T)) 118).2)), .int (tN ((rdS f ln (uK T (cur f ln T)) 118).2))])), (q, .inl ((xG cx).2.2.1, 60, .inl f))] [] [b, q] rfl rfl [] rfl rfl 2 rfl (by decide +kernel) rfl (k0 := 0) (na := 1) gX5_readThing_X5_readSign rfl (by decide +kernel) rfl rfl rfl M (kX5_readSign (xl cx) (xG cx) b q ln f th (uK T (cur f ln T)) 118 (hln) (by (repeat (first | with_reducible assumption | with_reducible apply pos_S58 | with_reducible apply pos_S45 | with_reducible apply pos_S43 | with_reducible apply pos_S46 | with_reducible apply pos_S112 | with_reducible apply pos_S115 | with_reducible apply pos_S116 | with_reducible apply pos_S118 | with_reducible apply pos_S59 | with_reducible apply pos_N0_99 | with_reducible apply pos_N0_50 | with_reducible apply pos_N0_300 | with_reducible apply pos_N1_999 | with_reducible apply pos_D | with_reducible apply pos_Rk | with_reducible apply pos_Sp | with_reducible apply pos_RC | with_reducible apply pos_Dir | with_reducible apply pos_St | with_reducible apply pos_T)))) rfl (by decide) rfl rfl rfl ⟨by decide, by decide⟩ (Nat.le_of_ble_eq_true rfl) ⟨by decide, by decide⟩ dX5_readThing_128 ?_
    refine x_ifb_eq (P := (rdS f ln (uK T (cur f ln T)) 118).1 = true) C 156 dX5_readThing_131 (by decide) (fun c_131 => ?_) (fun c_131 => ?_)
    ·
      refine x_iconst (v := 0) C dX5_readThing_156 (by decide) ?_
      have e_ret : rdT f ln T = (false, (rdS f ln (uK T (cur f ln T)) 118).2) := by rw [rdT_118 k_118]; simp [andT, c_131] <;> first | exact pair_t (by assumption) | exact pair_f (by assumption)
      exact x_zret C E dX5_readThing_157 (by rw [e_ret]; exact (b2i_f Bool.false_ne_true).symm) ((rfl : _ = txW (xG cx) b q ln f th ((rdS f ln (uK T (cur f ln T)) 118).2)).trans (by rw [e_ret]))
    ·
      refine x_aload_n C 0 dX5_readThing_134 rfl rfl ?_
      refine x_callVMU C ([]) ([]) [0, 1] [(b, .inr (5, [.int (nI ln), .ref q, .int (nI (tP ((rdRC f ln ((rdS f ln (uK T (cur f ln T)) 118).2)).2))), .int th, .int (tK ((rdRC f ln ((rdS f ln (uK T (cur f ln T)) 118).2)).2)), .int (tR ((rdRC f ln ((rdS f ln (uK T (cur f ln T)) 118).2)).2)), .int (tL ((rdRC f ln ((rdS f ln (uK T (cur f ln T)) 118).2)).2)), .int (tH ((rdRC f ln ((rdS f ln (uK T (cur f ln T)) 118).2)).2)), .int (tD ((rdRC f ln ((rdS f ln (uK T (cur f ln T)) 118).2)).2)), .int (tN ((rdRC f ln ((rdS f ln (uK T (cur f ln T)) 118).2)).2))])), (q, .inl ((xG cx).2.2.1, 60, .inl f))] [] [b, q] rfl rfl [] rfl rfl 2 rfl (by decide +kernel) rfl (k0 := 0) (na := 0) gX5_readThing_X5_readRackAndColon rfl (by decide +kernel) rfl rfl rfl M (kX5_readRackAndColon (xl cx) (xG cx) b q ln f th ((rdS f ln (uK T (cur f ln T)) 118).2) (hln) (by (repeat (first | with_reducible assumption | with_reducible apply pos_S58 | with_reducible apply pos_S45 | with_reducible apply pos_S43 | with_reducible apply pos_S46 | with_reducible apply pos_S112 | with_reducible apply pos_S115 | with_reducible apply pos_S116 | with_reducible apply pos_S118 | with_reducible apply pos_S59 | with_reducible apply pos_N0_99 | with_reducible apply pos_N0_50 | with_reducible apply pos_N0_300 | with_reducible apply pos_N1_999 | with_reducible apply pos_D | with_reducible apply pos_Rk | with_reducible apply pos_Sp | with_reducible apply pos_RC | with_reducible apply pos_Dir | with_reducible apply pos_St | with_reducible apply pos_T)))) rfl (by decide) rfl rfl rfl ⟨by decide, by decide⟩ (Nat.le_of_ble_eq_true rfl) ⟨by decide, by decide⟩ dX5_readThing_135 ?_
      refine x_ifb_eq (P := (rdRC f ln ((rdS f ln (uK T (cur f ln T)) 118).2)).1 = true) C 156 dX5_readThing_138 (by decide) (fun c_138 => ?_) (fun c_138 => ?_)
      ·
        refine x_iconst (v := 0) C dX5_readThing_156 (by decide) ?_
        have e_ret : rdT f ln T = (false, (rdRC f ln (rdS f ln (uK T (cur f ln T)) 118).2).2) := by rw [rdT_118 k_118]; simp [andT, c_131, c_138] <;> first | exact pair_t (by assumption) | exact pair_f (by assumption)
        exact x_zret C E dX5_readThing_157 (by rw [e_ret]; exact (b2i_f Bool.false_ne_true).symm) ((rfl : _ = txW (xG cx) b q ln f th ((rdRC f ln (rdS f ln (uK T (cur f ln T)) 118).2).2)).trans (by rw [e_ret]))
      ·
        refine x_aload_n C 0 dX5_readThing_141 rfl rfl ?_
        refine x_iconst (v := 0) C dX5_readThing_142 (by decide) ?_
        refine x_sipush (v := 300) C dX5_readThing_143 (by decide) ?_
        refine x_callVMU C ([.int 0, .int 300]) ([]) [0, 1] [(b, .inr (5, [.int (nI ln), .ref q, .int (nI (tP ((rdNum f ln ((rdRC f ln ((rdS f ln (uK T (cur f ln T)) 118).2)).2) 0 300).2))), .int th, .int (tK ((rdNum f ln ((rdRC f ln ((rdS f ln (uK T (cur f ln T)) 118).2)).2) 0 300).2)), .int (tR ((rdNum f ln ((rdRC f ln ((rdS f ln (uK T (cur f ln T)) 118).2)).2) 0 300).2)), .int (tL ((rdNum f ln ((rdRC f ln ((rdS f ln (uK T (cur f ln T)) 118).2)).2) 0 300).2)), .int (tH ((rdNum f ln ((rdRC f ln ((rdS f ln (uK T (cur f ln T)) 118).2)).2) 0 300).2)), .int (tD ((rdNum f ln ((rdRC f ln ((rdS f ln (uK T (cur f ln T)) 118).2)).2) 0 300).2)), .int (tN ((rdNum f ln ((rdRC f ln ((rdS f ln (uK T (cur f ln T)) 118).2)).2) 0 300).2))])), (q, .inl ((xG cx).2.2.1, 60, .inl f))] [] [b, q] rfl rfl [] rfl rfl 2 rfl (by decide +kernel) rfl (k0 := 0) (na := 2) gX5_readThing_X5_readNumber rfl (by decide +kernel) rfl rfl rfl M (kX5_readNumber (xl cx) (xG cx) b q ln f th ((rdRC f ln ((rdS f ln (uK T (cur f ln T)) 118).2)).2) 0 300 (hln) (by (repeat (first | with_reducible assumption | with_reducible apply pos_S58 | with_reducible apply pos_S45 | with_reducible apply pos_S43 | with_reducible apply pos_S46 | with_reducible apply pos_S112 | with_reducible apply pos_S115 | with_reducible apply pos_S116 | with_reducible apply pos_S118 | with_reducible apply pos_S59 | with_reducible apply pos_N0_99 | with_reducible apply pos_N0_50 | with_reducible apply pos_N0_300 | with_reducible apply pos_N1_999 | with_reducible apply pos_D | with_reducible apply pos_Rk | with_reducible apply pos_Sp | with_reducible apply pos_RC | with_reducible apply pos_Dir | with_reducible apply pos_St | with_reducible apply pos_T))) (by decide)) rfl (by decide) rfl rfl rfl ⟨by decide, by decide⟩ (Nat.le_of_ble_eq_true rfl) ⟨by decide, by decide⟩ dX5_readThing_146 ?_
        refine x_ifb_eq (P := (rdNum f ln ((rdRC f ln ((rdS f ln (uK T (cur f ln T)) 118).2)).2) 0 300).1 = true) C 156 dX5_readThing_149 (by decide) (fun c_149 => ?_) (fun c_149 => ?_)
        ·
          refine x_iconst (v := 0) C dX5_readThing_156 (by decide) ?_
          have e_ret : rdT f ln T = (false, (rdNum f ln (rdRC f ln (rdS f ln (uK T (cur f ln T)) 118).2).2 0 300).2) := by rw [rdT_118 k_118]; simp [andT, c_131, c_138, c_149] <;> first | exact pair_t (by assumption) | exact pair_f (by assumption)
          exact x_zret C E dX5_readThing_157 (by rw [e_ret]; exact (b2i_f Bool.false_ne_true).symm) ((rfl : _ = txW (xG cx) b q ln f th ((rdNum f ln (rdRC f ln (rdS f ln (uK T (cur f ln T)) 118).2).2 0 300).2)).trans (by rw [e_ret]))
        ·
          refine x_iconst (v := 1) C dX5_readThing_152 (by decide) ?_
          refine x_goto (tgt := 157) C dX5_readThing_153 (by decide) ?_
          have e_ret : rdT f ln T = (true, (rdNum f ln (rdRC f ln (rdS f ln (uK T (cur f ln T)) 118).2).2 0 300).2) := by rw [rdT_118 k_118]; simp [andT, c_131, c_138, c_149] <;> first | exact pair_t (by assumption) | exact pair_f (by assumption)
          exact x_zret C E dX5_readThing_157 (by rw [e_ret]; exact (b2i_t rfl).symm) ((rfl : _ = txW (xG cx) b q ln f th ((rdNum f ln (rdRC f ln (rdS f ln (uK T (cur f ln T)) 118).2).2 0 300).2)).trans (by rw [e_ret]))
  ·
    have d_12_0 : ¬ cur f ln T = 46 := fun q => c_12 (46, 187) (by simp) (by rw [q]; rfl)
    have d_12_1 : ¬ cur f ln T = 112 := fun q => c_12 (112, 64) (by simp) (by rw [q]; rfl)
    have d_12_2 : ¬ cur f ln T = 115 := fun q => c_12 (115, 158) (by simp) (by rw [q]; rfl)
    have d_12_3 : ¬ cur f ln T = 116 := fun q => c_12 (116, 103) (by simp) (by rw [q]; rfl)
    have d_12_4 : ¬ cur f ln T = 118 := fun q => c_12 (118, 125) (by simp) (by rw [q]; rfl)
    refine x_iconst (v := 0) C dX5_readThing_213 (by decide) ?_
    have e_ret : rdT f ln T = (false, uK T (cur f ln T)) := by simp [rdT, d_12_0, d_12_1, d_12_2, d_12_3, d_12_4]
    exact x_zret C E dX5_readThing_214 (by rw [e_ret]; exact (b2i_f Bool.false_ne_true).symm) ((rfl : _ = txW (xG cx) b q ln f th (uK T (cur f ln T))).trans (by rw [e_ret]))
