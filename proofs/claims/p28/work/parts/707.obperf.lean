set_option maxRecDepth 100000 in
set_option maxHeartbeats 4000000 in
theorem oX6_perform_0 (l : Launch) (G : GG) (a : AT) (O : OS) (hk4 : oK O < 4) (hs4 : oS O ≤ 4) (hok : okS (oN O)) (hl : oL O = 0) : MU l G yX6_perform wsX6_perform ({ frames := 7, cells := 0, slots := 0, locals := 160 } : Room) [.ref (aaX a)] (obW G a O) (some (.int (-1100))) (obW G a (prfO O)) := by
  obtain ⟨N, B, A, M, P, s, k, ln, hk, s1, s2, th, f, T⟩ := O
  have h1 : ln = 0 := hl
  subst h1
  have h0 := kX6_perform l G (aaX a) (aaH a) (aaS a) (aaT a) (aaQ a) 0 (aaN a) (aaB a) (aaA a) (aaM a) (aaD a) P hk s1 s2 s k f th T N B hk4 hs4 hok (Nat.zero_le _)
  have a1 : rcS (-1100) s = s := if_pos (by decide)
  have a2 : rcK (-1100) s k = k := if_pos (by decide)
  have a3 : rcP (-1100) s k P N = P := if_pos (by decide)
  have a4 : bfE (nI 0) N B = B := if_neg (by decide)
  rw [pfR0, ffL0] at h0
  dsimp only at h0
  rw [a1, a2, a3, a4] at h0
  exact MU.wide2 h0 [0, 69, 70, 71, 72, 73, 74, 75, 76, 77, 78, 79, 80, 81, 82, 83, 84, 85, 86, 87, 88, 89, 90, 91, 92, 93, 94, 95, 96, 97, 98, 99, 100, 101, 102, 103, 104, 105, 106, 107, 108, 109, 110, 111, 112, 113, 114, 115, 116, 117, 118, 119, 120, 121, 122, 123, 124, 125, 126, 127, 128, 129, 130, 131, 132, 133, 134, 135, 136, 137, 138, 139, 140, 1, 2, 3, 4, 5, 6, 7, 8, 9, 10, 11, 12, 13, 14, 15, 16, 17, 18, 19, 20, 21, 22, 23, 24, 25, 26, 27, 28, 29, 30, 31, 32, 33, 34] [35, 36, 37, 38, 39, 40, 41, 42, 43, 44, 45, 46, 47, 48, 49, 50, 51, 52, 53, 54, 55, 56, 57, 58, 59, 60, 61, 62, 63, 64, 65, 66, 67, 68] (stW G (aaA a) A ++ stW G (aaM a) M) (obA a) (obW_ads _ _ _) (obW_ads _ _ _) rfl (by decide +kernel) rfl rfl 141 rfl (by decide +kernel) rfl
