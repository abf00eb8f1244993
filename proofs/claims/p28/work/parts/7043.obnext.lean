set_option maxRecDepth 100000 in
set_option maxHeartbeats 4000000 in
theorem oX6_next_no (l : Launch) (G : GG) (a : AT) (O : OS) (w : Int32) (hok : okS (oN O)) (hw : ¬ (0 ≤ w ∧ w ≤ 1)) : MU l G yX6_next wsX6_next ({ frames := 5, cells := 0, slots := 0, locals := 119 } : Room) [.ref (aaX a), .int w] (obW G a O) (some (.int (-1002))) (obW G a O) := by
  have h0 := kX6_next l G (aaX a) (aaH a) (aaT a) (aaN a) (aaB a) (aaA a) (aaM a) (oh O) (o1 O) (o2 O) (oN O) (oA O) w hok
  rw [show nxtS (oN O) w = -1002 from if_neg hw] at h0
  rw [if_neg hw] at h0
  exact MU.wide h0 [0, 1, 2, 3, 4, 5, 6, 7, 8, 9, 10, 11, 12, 13, 14, 15, 16, 17, 35, 36, 37, 38, 39, 40, 41, 42, 43, 44, 45, 46, 47, 48, 49, 50, 51] [18, 19, 20, 21, 22, 23, 24, 25, 26, 27, 28, 29, 30, 31, 32, 33, 34, 52, 53, 54, 55, 56, 57, 58, 59, 60, 61, 62, 63, 64, 65, 66, 67, 68, 69, 70, 71, 72, 73, 74, 75, 76, 77, 78, 79, 80, 81, 82, 83, 84, 85, 86, 87, 88, 89, 90, 91, 92, 93, 94, 95, 96, 97, 98, 99, 100, 101, 102, 103, 104, 105, 106, 107, 108, 109, 110, 111, 112, 113, 114, 115, 116, 117, 118, 119, 120, 121, 122, 123, 124, 125, 126, 127, 128, 129, 130, 131, 132, 133, 134, 135, 136, 137, 138, 139, 140] (obA a) (obW_ads _ _ _) (obW_ads _ _ _) rfl (by decide +kernel) rfl 141 rfl (by decide +kernel) rfl
