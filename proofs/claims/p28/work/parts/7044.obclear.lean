set_option maxRecDepth 100000 in
set_option maxHeartbeats 4000000 in
theorem oX6_clearText_0 (l : Launch) (G : GG) (a : AT) (O : OS) (hl : oL O = 0) : MU l G yX6_clearText wsX6_clearText ({ frames := 1, cells := 0, slots := 0, locals := 21 } : Room) [.ref (aaX a)] (obW G a O) (some (.int 0)) (obW G a O) := by
  obtain ⟨N, B, A, M, P, s, k, ln, hk, s1, s2, th, f, T⟩ := O
  have h1 : ln = 0 := hl
  subst h1
  have h0 := kX6_clearText l G (aaX a) (aaH a) (aaT a) (aaQ a) 0 (aaN a) (aaB a) (aaA a) (aaM a) hk s1 s2 f th T
  exact MU.wide h0 [0, 139, 140] [1, 2, 3, 4, 5, 6, 7, 8, 9, 10, 11, 12, 13, 14, 15, 16, 17, 18, 19, 20, 21, 22, 23, 24, 25, 26, 27, 28, 29, 30, 31, 32, 33, 34, 35, 36, 37, 38, 39, 40, 41, 42, 43, 44, 45, 46, 47, 48, 49, 50, 51, 52, 53, 54, 55, 56, 57, 58, 59, 60, 61, 62, 63, 64, 65, 66, 67, 68, 69, 70, 71, 72, 73, 74, 75, 76, 77, 78, 79, 80, 81, 82, 83, 84, 85, 86, 87, 88, 89, 90, 91, 92, 93, 94, 95, 96, 97, 98, 99, 100, 101, 102, 103, 104, 105, 106, 107, 108, 109, 110, 111, 112, 113, 114, 115, 116, 117, 118, 119, 120, 121, 122, 123, 124, 125, 126, 127, 128, 129, 130, 131, 132, 133, 134, 135, 136, 137, 138] (obA a) (obW_ads _ _ _) (obW_ads _ _ _) rfl (by decide +kernel) rfl 141 rfl (by decide +kernel) rfl
theorem rdT0 (f : Nat → Int32) (T : TX) : rdT f 0 T = (false, uK T (-1)) := by
  have c : cur f 0 T = -1 := if_neg (Nat.not_lt_zero _)
  unfold rdT
  rw [c, if_neg (by decide), if_neg (by decide), if_neg (by decide), if_neg (by decide), if_neg (by decide)]
theorem ffL0 (f : Nat → Int32) (T : TX) : ffL f 0 60 1 (uP T 0) 0 = (nI 0, (0, uK (uP T 0) (-1))) := by
  have e := ffL_s f 0 59 1 (uP T 0) 0
  rw [rdT0] at e
  exact e.trans (if_neg Bool.false_ne_true)
theorem pfR0 (N : SC) (f : Nat → Int32) (T : TX) : pfR N f 0 T = (-1100, (none, (N, (uK (uP T 0) (-1), 0)))) := by
  have c : ¬ nI 0 = -1 := by decide
  refine (pfR_f (N := N) (ffL0 f T) c).trans ?_
  show ((-1100 - nI 0 : Int32), ((none : Option (Nat × Int32)), (N, (uK (uP T 0) (-1), (0 : Int32))))) = _
  rw [show (-1100 : Int32) - nI 0 = -1100 by decide]
def prfO (O : OS) : OS := (oN O, oB O, oA O, oM O, oP O, oS O, oK O, 0, oh O, o1 O, o2 O, 0, of O, uK (uP (oT O) 0) (-1))
